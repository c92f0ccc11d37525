theorem dX4_takeOver_0 : decode cX4_takeOver 0 = .ok (.aload_n 0, 1) := kd_42 (by decide +kernel)
theorem dX4_takeOver_1 : decode cX4_takeOver 1 = .ok (.aload_n 1, 1) := kd_43 (by decide +kernel)
theorem dX4_takeOver_2 : decode cX4_takeOver 2 = .ok (.getfield 21, 3) := kd_180 (a := 0) (b := 21) (by decide +kernel)
theorem dX4_takeOver_5 : decode cX4_takeOver 5 = .ok (.putfield 21, 3) := kd_181 (a := 0) (b := 21) (by decide +kernel)
theorem dX4_takeOver_8 : decode cX4_takeOver 8 = .ok (.aload_n 1, 1) := kd_43 (by decide +kernel)
theorem dX4_takeOver_9 : decode cX4_takeOver 9 = .ok (.getfield 9, 3) := kd_180 (a := 0) (b := 9) (by decide +kernel)
theorem dX4_takeOver_12 : decode cX4_takeOver 12 = .ok (.iconst 0, 1) := kd_3 (by decide +kernel)
theorem dX4_takeOver_13 : decode cX4_takeOver 13 = .ok (.aload_n 0, 1) := kd_42 (by decide +kernel)
theorem dX4_takeOver_14 : decode cX4_takeOver 14 = .ok (.getfield 9, 3) := kd_180 (a := 0) (b := 9) (by decide +kernel)
theorem dX4_takeOver_17 : decode cX4_takeOver 17 = .ok (.iconst 0, 1) := kd_3 (by decide +kernel)
theorem dX4_takeOver_18 : decode cX4_takeOver 18 = .ok (.bipush 7, 2) := kd_16 (a := 7) (by decide +kernel)
theorem dX4_takeOver_20 : decode cX4_takeOver 20 = .ok (.invokestatic 25, 3) := kd_184 (a := 0) (b := 25) (by decide +kernel)
theorem dX4_takeOver_23 : decode cX4_takeOver 23 = .ok (.aload_n 1, 1) := kd_43 (by decide +kernel)
theorem dX4_takeOver_24 : decode cX4_takeOver 24 = .ok (.getfield 15, 3) := kd_180 (a := 0) (b := 15) (by decide +kernel)
theorem dX4_takeOver_27 : decode cX4_takeOver 27 = .ok (.iconst 0, 1) := kd_3 (by decide +kernel)
theorem dX4_takeOver_28 : decode cX4_takeOver 28 = .ok (.aload_n 0, 1) := kd_42 (by decide +kernel)
theorem dX4_takeOver_29 : decode cX4_takeOver 29 = .ok (.getfield 15, 3) := kd_180 (a := 0) (b := 15) (by decide +kernel)
theorem dX4_takeOver_32 : decode cX4_takeOver 32 = .ok (.iconst 0, 1) := kd_3 (by decide +kernel)
theorem dX4_takeOver_33 : decode cX4_takeOver 33 = .ok (.bipush 7, 2) := kd_16 (a := 7) (by decide +kernel)
theorem dX4_takeOver_35 : decode cX4_takeOver 35 = .ok (.invokestatic 25, 3) := kd_184 (a := 0) (b := 25) (by decide +kernel)
theorem dX4_takeOver_38 : decode cX4_takeOver 38 = .ok (.aload_n 1, 1) := kd_43 (by decide +kernel)
theorem dX4_takeOver_39 : decode cX4_takeOver 39 = .ok (.getfield 18, 3) := kd_180 (a := 0) (b := 18) (by decide +kernel)
theorem dX4_takeOver_42 : decode cX4_takeOver 42 = .ok (.iconst 0, 1) := kd_3 (by decide +kernel)
theorem dX4_takeOver_43 : decode cX4_takeOver 43 = .ok (.aload_n 0, 1) := kd_42 (by decide +kernel)
theorem dX4_takeOver_44 : decode cX4_takeOver 44 = .ok (.getfield 18, 3) := kd_180 (a := 0) (b := 18) (by decide +kernel)
theorem dX4_takeOver_47 : decode cX4_takeOver 47 = .ok (.iconst 0, 1) := kd_3 (by decide +kernel)
theorem dX4_takeOver_48 : decode cX4_takeOver 48 = .ok (.bipush 7, 2) := kd_16 (a := 7) (by decide +kernel)
theorem dX4_takeOver_50 : decode cX4_takeOver 50 = .ok (.invokestatic 25, 3) := kd_184 (a := 0) (b := 25) (by decide +kernel)
theorem dX4_takeOver_53 : decode cX4_takeOver 53 = .ok (.return_, 1) := kd_177 (by decide +kernel)
set_option maxHeartbeats 8000000 in
set_option maxRecDepth 100000 in
theorem c_X4_takeOver (l : Launch) (G : gG) (m1 : Nat) (a_day : Int) (a_toffee : Nat) (a_age : Nat) (a_fate : Nat) (Ta : Nat → Int) (Ga : Nat → Int) (Fa : Nat → Int) (m2 : Nat) (b_day : Int) (b_toffee : Nat) (b_age : Nat) (b_fate : Nat) (Tb : Nat → Int) (Gb : Nat → Int) (Fb : Nat → Int) (sz : Nat) : gV G l yX4_takeOver wsX4_takeOver ({ frames := 1, cells := 0, slots := 0, locals := 24 } : Room) [.ref m1, .ref m2] [oB3 m1 a_day a_toffee a_age a_fate, iB G a_toffee 7 Ta, iB G a_age 7 Ga, iB G a_fate 7 Fa, oB3 m2 b_day b_toffee b_age b_fate, iB G b_toffee 7 Tb, iB G b_age 7 Gb, iB G b_fate 7 Fb] sz (fun (u : va_W) => (u = [oB3 m1 b_day a_toffee a_age a_fate, iB G a_toffee 7 Tb, iB G a_age 7 Gb, iB G a_fate 7 Fb, oB3 m2 b_day b_toffee b_age b_fate, iB G b_toffee 7 Tb, iB G b_age 7 Gb, iB G b_fate 7 Fb])) := by
  refine Met.ofW (cc := cX4_takeOver) (maxL := 2) (ret := none) (by decide) rfl ?_
  intro p e s m args below meth c s₁ B hml hv
  obtain ⟨rfl, hsz, hP, hK, hD0, hN, hZ⟩ := hv
  have hx := B.exec
  have hb := B.bytes
  have hr := B.returns
  have hts := atoms_spec (ws := wsX4_takeOver) B.pre
  have hown : s.vm.findClass RX4 = some m.cls := findClass_of_methodNamed B.named
  have hlocks := B.notSynchronized
  subst hsz
  have hD := hD0.self (sz := s.heap.size)
  generalize hAe : va_A [oB3 m1 a_day a_toffee a_age a_fate, iB G a_toffee 7 Ta, iB G a_age 7 Ga, iB G a_fate 7 Fa, oB3 m2 b_day b_toffee b_age b_fate, iB G b_toffee 7 Tb, iB G b_age 7 Gb, iB G b_fate 7 Fb] s.heap.size = A at hD hZ ⊢
  have hA : ∀ q : Nat, s.heap.size ≤ q → A q := fun q h => by rw [← hAe]; exact Or.inr h
  have hS : va_S A s.heap s.heap [] := va_S.rf
  have hP : va_P G.1 vwCl [oB3 m1 a_day a_toffee a_age a_fate, iB G a_toffee 7 Ta, iB G a_age 7 Ga, iB G a_fate 7 Fa, oB3 m2 b_day b_toffee b_age b_fate, iB G b_toffee 7 Tb, iB G b_age 7 Gb, iB G b_fate 7 Fb] s.heap := hP
  have hl := lv_entry ([.ref m1, .ref m2]) (n := 2) (Nat.le_of_ble_eq_true rfl)
  rw [lg_entry_eq]
  generalize (lg_sl ([.ref m1, .ref m2]) ++ List.replicate (2 - (lg_sl ([.ref m1, .ref m2])).length) Slot.unset).toArray = ls at hl ⊢
  have hl : lv_has ls 2 [(0, .ref m1), (1, .ref m2)] := hl
  refine lv_aload_n hx hb dX4_takeOver_0 rfl (lv_at hl 0 rfl) ?_
  refine lv_aload_n hx hb dX4_takeOver_1 rfl (lv_at hl 1 rfl) ?_
  refine va_get (D := G.1) (ci := 3) (v := .int (iI b_day)) (C := RX4) (T := TX4) (N := 4) hx hb hts (fun _ h => List.mem_cons_of_mem _ (inlX4 _ h)) hown hK hP 4 rfl rfl 0 (by decide) (hts _ (List.mem_cons_of_mem _ (in_r19 (List.mem_of_getElem? (i := 3) rfl)))) (fun _ h9 => h9) rfl dX4_takeOver_2 ?_
  refine va_put (D := G.1) (ci := 3) (v := .int (iI b_day)) (ty := .int) (C := RX4) (T := TX4) (N := 4) hx hb hts (fun _ h => List.mem_cons_of_mem _ (inlX4 _ h)) tyX4 tyX4_ok nmX4 hown hK hP hD hS 0 rfl rfl 0 (by decide) (hts _ (List.mem_cons_of_mem _ (in_r19 (List.mem_of_getElem? (i := 3) rfl)))) (fun _ h9 => h9) rfl (by decide +kernel) rfl rfl (Nat.le_of_ble_eq_true rfl) dX4_takeOver_5 (fun H locs hP hD hS => ?_)
  have hPD : PD G A H [oB3 m1 b_day a_toffee a_age a_fate, iB G a_toffee 7 Ta, iB G a_age 7 Ga, iB G a_fate 7 Fa, oB3 m2 b_day b_toffee b_age b_fate, iB G b_toffee 7 Tb, iB G b_age 7 Gb, iB G b_fate 7 Fb] := ⟨hP, hD⟩
  have hP := hPD.1
  have hD := hPD.2
  clear hPD
  refine lv_aload_n hx hb dX4_takeOver_8 rfl (lv_at hl 1 rfl) ?_
  refine va_get (D := G.1) (ci := 3) (v := .ref b_toffee) (C := RX4) (T := TX4) (N := 4) hx hb hts (fun _ h => List.mem_cons_of_mem _ (inlX4 _ h)) hown hK hP 4 rfl rfl 1 (by decide) (hts _ (List.mem_cons_of_mem _ (in_r3 (List.mem_of_getElem? (i := 20) rfl)))) (fun _ h9 => h9) rfl dX4_takeOver_9 ?_
  refine lv_iconst (v := iI 0) hx hb dX4_takeOver_12 rfl ?_
  refine lv_aload_n hx hb dX4_takeOver_13 rfl (lv_at hl 0 rfl) ?_
  refine va_get (D := G.1) (ci := 3) (v := .ref a_toffee) (C := RX4) (T := TX4) (N := 4) hx hb hts (fun _ h => List.mem_cons_of_mem _ (inlX4 _ h)) hown hK hP 0 rfl rfl 1 (by decide) (hts _ (List.mem_cons_of_mem _ (in_r3 (List.mem_of_getElem? (i := 20) rfl)))) (fun _ h9 => h9) rfl dX4_takeOver_14 ?_
  refine lv_iconst (v := iI 0) hx hb dX4_takeOver_17 rfl ?_
  refine lv_bipush (v := iI 7) hx hb dX4_takeOver_18 (by decide) ?_
  refine g_copyF (rest := []) hx hb (hml.trans hl.1.symm) hown (hts _ (List.mem_cons_of_mem _ (in_r23 (List.mem_of_getElem? (i := 18) rfl)))) (hts _ (List.mem_cons_of_mem _ (in_r23 (List.mem_of_getElem? (i := 19) rfl)))) (hts _ (List.mem_cons_of_mem _ (in_r23 (List.mem_of_getElem? (i := 20) rfl)))) (hts _ (List.mem_cons_of_mem _ (in_r23 (List.mem_of_getElem? (i := 21) rfl)))) hK hP hD hS 5 1 rfl rfl (by decide) (by decide) (Nat.le_of_ble_eq_true rfl) (Nat.le_of_ble_eq_true rfl) dX4_takeOver_20 (fun H locs hP hD hS => ?_)
  have hPD : PD G A H [oB3 m1 b_day a_toffee a_age a_fate, iB G a_toffee 7 Tb, iB G a_age 7 Ga, iB G a_fate 7 Fa, oB3 m2 b_day b_toffee b_age b_fate, iB G b_toffee 7 Tb, iB G b_age 7 Gb, iB G b_fate 7 Fb] := ⟨hP, hD⟩
  have hP := hPD.1
  have hD := hPD.2
  clear hPD
  refine lv_aload_n hx hb dX4_takeOver_23 rfl (lv_at hl 1 rfl) ?_
  refine va_get (D := G.1) (ci := 3) (v := .ref b_age) (C := RX4) (T := TX4) (N := 4) hx hb hts (fun _ h => List.mem_cons_of_mem _ (inlX4 _ h)) hown hK hP 4 rfl rfl 2 (by decide) (hts _ (List.mem_cons_of_mem _ (in_r3 (List.mem_of_getElem? (i := 21) rfl)))) (fun _ h9 => h9) rfl dX4_takeOver_24 ?_
  refine lv_iconst (v := iI 0) hx hb dX4_takeOver_27 rfl ?_
  refine lv_aload_n hx hb dX4_takeOver_28 rfl (lv_at hl 0 rfl) ?_
  refine va_get (D := G.1) (ci := 3) (v := .ref a_age) (C := RX4) (T := TX4) (N := 4) hx hb hts (fun _ h => List.mem_cons_of_mem _ (inlX4 _ h)) hown hK hP 0 rfl rfl 2 (by decide) (hts _ (List.mem_cons_of_mem _ (in_r3 (List.mem_of_getElem? (i := 21) rfl)))) (fun _ h9 => h9) rfl dX4_takeOver_29 ?_
  refine lv_iconst (v := iI 0) hx hb dX4_takeOver_32 rfl ?_
  refine lv_bipush (v := iI 7) hx hb dX4_takeOver_33 (by decide) ?_
  refine g_copyF (rest := []) hx hb (hml.trans hl.1.symm) hown (hts _ (List.mem_cons_of_mem _ (in_r23 (List.mem_of_getElem? (i := 18) rfl)))) (hts _ (List.mem_cons_of_mem _ (in_r23 (List.mem_of_getElem? (i := 19) rfl)))) (hts _ (List.mem_cons_of_mem _ (in_r23 (List.mem_of_getElem? (i := 20) rfl)))) (hts _ (List.mem_cons_of_mem _ (in_r23 (List.mem_of_getElem? (i := 21) rfl)))) hK hP hD hS 6 2 rfl rfl (by decide) (by decide) (Nat.le_of_ble_eq_true rfl) (Nat.le_of_ble_eq_true rfl) dX4_takeOver_35 (fun H locs hP hD hS => ?_)
  have hPD : PD G A H [oB3 m1 b_day a_toffee a_age a_fate, iB G a_toffee 7 Tb, iB G a_age 7 Gb, iB G a_fate 7 Fa, oB3 m2 b_day b_toffee b_age b_fate, iB G b_toffee 7 Tb, iB G b_age 7 Gb, iB G b_fate 7 Fb] := ⟨hP, hD⟩
  have hP := hPD.1
  have hD := hPD.2
  clear hPD
  refine lv_aload_n hx hb dX4_takeOver_38 rfl (lv_at hl 1 rfl) ?_
  refine va_get (D := G.1) (ci := 3) (v := .ref b_fate) (C := RX4) (T := TX4) (N := 4) hx hb hts (fun _ h => List.mem_cons_of_mem _ (inlX4 _ h)) hown hK hP 4 rfl rfl 3 (by decide) (hts _ (List.mem_cons_of_mem _ (in_r3 (List.mem_of_getElem? (i := 22) rfl)))) (fun _ h9 => h9) rfl dX4_takeOver_39 ?_
  refine lv_iconst (v := iI 0) hx hb dX4_takeOver_42 rfl ?_
  refine lv_aload_n hx hb dX4_takeOver_43 rfl (lv_at hl 0 rfl) ?_
  refine va_get (D := G.1) (ci := 3) (v := .ref a_fate) (C := RX4) (T := TX4) (N := 4) hx hb hts (fun _ h => List.mem_cons_of_mem _ (inlX4 _ h)) hown hK hP 0 rfl rfl 3 (by decide) (hts _ (List.mem_cons_of_mem _ (in_r3 (List.mem_of_getElem? (i := 22) rfl)))) (fun _ h9 => h9) rfl dX4_takeOver_44 ?_
  refine lv_iconst (v := iI 0) hx hb dX4_takeOver_47 rfl ?_
  refine lv_bipush (v := iI 7) hx hb dX4_takeOver_48 (by decide) ?_
  refine g_copyF (rest := []) hx hb (hml.trans hl.1.symm) hown (hts _ (List.mem_cons_of_mem _ (in_r23 (List.mem_of_getElem? (i := 18) rfl)))) (hts _ (List.mem_cons_of_mem _ (in_r23 (List.mem_of_getElem? (i := 19) rfl)))) (hts _ (List.mem_cons_of_mem _ (in_r23 (List.mem_of_getElem? (i := 20) rfl)))) (hts _ (List.mem_cons_of_mem _ (in_r23 (List.mem_of_getElem? (i := 21) rfl)))) hK hP hD hS 7 3 rfl rfl (by decide) (by decide) (Nat.le_of_ble_eq_true rfl) (Nat.le_of_ble_eq_true rfl) dX4_takeOver_50 (fun H locs hP hD hS => ?_)
  have hPD : PD G A H [oB3 m1 b_day a_toffee a_age a_fate, iB G a_toffee 7 Tb, iB G a_age 7 Gb, iB G a_fate 7 Fb, oB3 m2 b_day b_toffee b_age b_fate, iB G b_toffee 7 Tb, iB G b_age 7 Gb, iB G b_fate 7 Fb] := ⟨hP, hD⟩
  have hP := hPD.1
  have hD := hPD.2
  clear hPD
  exact g_vret hx hb hr hlocks hP hD hS (rfl) dX4_takeOver_53
theorem dX4_passDay_0 : decode cX4_passDay 0 = .ok (.iconst 0, 1) := kd_3 (by decide +kernel)
theorem dX4_passDay_1 : decode cX4_passDay 1 = .ok (.istore_n 2, 1) := kd_61 (by decide +kernel)
theorem dX4_passDay_2 : decode cX4_passDay 2 = .ok (.iload_n 2, 1) := kd_28 (by decide +kernel)
theorem dX4_passDay_3 : decode cX4_passDay 3 = .ok (.iload_n 1, 1) := kd_27 (by decide +kernel)
theorem dX4_passDay_4 : decode cX4_passDay 4 = .ok (.if_icmp .ge 34, 3) := kd_162 (a := 0) (b := 34) (by decide +kernel)
theorem dX4_passDay_38 : decode cX4_passDay 38 = .ok (.aload_n 0, 1) := kd_42 (by decide +kernel)
theorem dX4_passDay_39 : decode cX4_passDay 39 = .ok (.dup, 1) := kd_89 (by decide +kernel)
theorem dX4_passDay_40 : decode cX4_passDay 40 = .ok (.getfield 21, 3) := kd_180 (a := 0) (b := 21) (by decide +kernel)
theorem dX4_passDay_43 : decode cX4_passDay 43 = .ok (.iconst 1, 1) := kd_4 (by decide +kernel)
theorem dX4_passDay_44 : decode cX4_passDay 44 = .ok (.iadd, 1) := kd_96 (by decide +kernel)
theorem dX4_passDay_45 : decode cX4_passDay 45 = .ok (.putfield 21, 3) := kd_181 (a := 0) (b := 21) (by decide +kernel)
theorem dX4_passDay_48 : decode cX4_passDay 48 = .ok (.return_, 1) := kd_177 (by decide +kernel)
theorem dX4_passDay_7 : decode cX4_passDay 7 = .ok (.iload_n 2, 1) := kd_28 (by decide +kernel)
theorem dX4_passDay_8 : decode cX4_passDay 8 = .ok (.bipush 7, 2) := kd_16 (a := 7) (by decide +kernel)
theorem dX4_passDay_10 : decode cX4_passDay 10 = .ok (.if_icmp .ge 28, 3) := kd_162 (a := 0) (b := 28) (by decide +kernel)
theorem dX4_passDay_13 : decode cX4_passDay 13 = .ok (.aload_n 0, 1) := kd_42 (by decide +kernel)
theorem dX4_passDay_14 : decode cX4_passDay 14 = .ok (.getfield 18, 3) := kd_180 (a := 0) (b := 18) (by decide +kernel)
theorem dX4_passDay_17 : decode cX4_passDay 17 = .ok (.iload_n 2, 1) := kd_28 (by decide +kernel)
theorem dX4_passDay_18 : decode cX4_passDay 18 = .ok (.iaload, 1) := kd_46 (by decide +kernel)
theorem dX4_passDay_19 : decode cX4_passDay 19 = .ok (.ifCond .ne 13, 3) := kd_154 (a := 0) (b := 13) (by decide +kernel)
theorem dX4_passDay_32 : decode cX4_passDay 32 = .ok (.iinc 2 1, 3) := kd_132 (a := 2) (b := 1) (by decide +kernel)
theorem dX4_passDay_35 : decode cX4_passDay 35 = .ok (.goto (-33), 3) := kd_167 (a := 255) (b := 223) (by decide +kernel)
theorem dX4_passDay_22 : decode cX4_passDay 22 = .ok (.aload_n 0, 1) := kd_42 (by decide +kernel)
theorem dX4_passDay_23 : decode cX4_passDay 23 = .ok (.getfield 15, 3) := kd_180 (a := 0) (b := 15) (by decide +kernel)
theorem dX4_passDay_26 : decode cX4_passDay 26 = .ok (.iload_n 2, 1) := kd_28 (by decide +kernel)
theorem dX4_passDay_27 : decode cX4_passDay 27 = .ok (.dup2, 1) := kd_92 (by decide +kernel)
theorem dX4_passDay_28 : decode cX4_passDay 28 = .ok (.iaload, 1) := kd_46 (by decide +kernel)
theorem dX4_passDay_29 : decode cX4_passDay 29 = .ok (.iconst 1, 1) := kd_4 (by decide +kernel)
theorem dX4_passDay_30 : decode cX4_passDay 30 = .ok (.iadd, 1) := kd_96 (by decide +kernel)
theorem dX4_passDay_31 : decode cX4_passDay 31 = .ok (.iastore, 1) := kd_79 (by decide +kernel)
set_option maxHeartbeats 8000000 in
set_option maxRecDepth 100000 in
theorem c_X4_passDay (l : Launch) (G : gG) (m1 : Nat) (a_day : Int) (a_toffee : Nat) (a_age : Nat) (a_fate : Nat) (K0 : Int) (Ga : Nat → Int) (Fa : Nat → Int) (n0 : Int) (y0_ : bd 0 K0 Ga) (y1_ : bd 0 2 Fa) (hK0 : 0 ≤ K0 ∧ K0 ≤ 2000000) (hn : 0 ≤ n0 ∧ n0 ≤ 7) (sz : Nat) : gV G l yX4_passDay wsX4_passDay ({ frames := 0, cells := 0, slots := 0, locals := 0 } : Room) [.ref m1, .int (iI n0)] [oB3 m1 a_day a_toffee a_age a_fate, iB G a_age 7 Ga, iB G a_fate 7 Fa] sz (fun (u : va_W) => (∃ Gn : Nat → Int, (Gn = pdN Fa n0 1 Ga) ∧ (bd 0 (K0 + 1) Gn) ∧ u = [oB3 m1 (a_day + 1) a_toffee a_age a_fate, iB G a_age 7 Gn, iB G a_fate 7 Fa])) := by
  refine Met.ofW (cc := cX4_passDay) (maxL := 3) (ret := none) (by decide) rfl ?_
  intro p e s m args below meth c s₁ B hml hv
  obtain ⟨rfl, hsz, hP, hK, hD0, hN, hZ⟩ := hv
  have hx := B.exec
  have hb := B.bytes
  have hr := B.returns
  have hts := atoms_spec (ws := wsX4_passDay) B.pre
  have hown : s.vm.findClass RX4 = some m.cls := findClass_of_methodNamed B.named
  have hlocks := B.notSynchronized
  subst hsz
  have hD := hD0.self (sz := s.heap.size)
  generalize hAe : va_A [oB3 m1 a_day a_toffee a_age a_fate, iB G a_age 7 Ga, iB G a_fate 7 Fa] s.heap.size = A at hD hZ ⊢
  have hA : ∀ q : Nat, s.heap.size ≤ q → A q := fun q h => by rw [← hAe]; exact Or.inr h
  have hS : va_S A s.heap s.heap [] := va_S.rf
  have hP : va_P G.1 vwCl [oB3 m1 a_day a_toffee a_age a_fate, iB G a_age 7 Ga, iB G a_fate 7 Fa] s.heap := hP
  have hl := lv_entry ([.ref m1, .int (iI n0)]) (n := 3) (Nat.le_of_ble_eq_true rfl)
  rw [lg_entry_eq]
  generalize (lg_sl ([.ref m1, .int (iI n0)]) ++ List.replicate (3 - (lg_sl ([.ref m1, .int (iI n0)])).length) Slot.unset).toArray = ls at hl ⊢
  have hl : lv_has ls 3 [(0, .ref m1), (1, .int (iI n0))] := hl
  refine lv_iconst (v := iI 0) hx hb dX4_passDay_0 rfl ?_
  refine lv_istore_n (lv' := [(2, .int (iI 0)), (0, .ref m1), (1, .int (iI n0))]) hx hb dX4_passDay_1 rfl hl (by decide) rfl (fun ls hl => ?_)
  refine g_loopN (pc := 2) (fun nn H locs ls => ∃ i0_1 : Int, ∃ E0_2 : Nat → Int, (0 ≤ i0_1 ∧ i0_1 ≤ n0) ∧ (bd 0 (K0 + 1) E0_2) ∧ (tl i0_1 K0 E0_2) ∧ (E0_2 = pdN Fa i0_1 1 Ga) ∧ (7 - i0_1).toNat = nn ∧ va_P G.1 vwCl [oB3 m1 a_day a_toffee a_age a_fate, iB G a_age 7 E0_2, iB G a_fate 7 Fa] H ∧ va_D A [oB3 m1 a_day a_toffee a_age a_fate, iB G a_age 7 E0_2, iB G a_fate 7 Fa] ∧ va_S A s.heap H locs ∧ lv_has ls 3 [(2, .int (iI i0_1)), (0, .ref m1), (1, .int (iI n0))]) ?_ ⟨0, Ga, (by first | assumption | omega), (by first | exact y0_ | exact bd_mono y0_ (by omega) (by omega) | assumption), (by first | assumption | exact tl_0 (by assumption) | exact tl_s (by assumption)), (pd_z (by omega)), rfl, hP, hD, hS, lv_sub hl [0, 1, 2] rfl⟩
  intro nn_8 H locs ls ih_7 hI
  refine ea_2_9 hI (fun i0_1 E0_2 f_3 f_4 f_5 f_6 hnn_9 hP hD hS hl => ?_)
  clear hI
  refine lv_iload_n hx hb dX4_passDay_2 rfl (lv_at hl 0 rfl) ?_
  refine lv_iload_n hx hb dX4_passDay_3 rfl (lv_at hl 2 rfl) ?_
  refine lv_icmp_ge (tgt := 38) hx hb dX4_passDay_4 (by decide) (fun c_10 => ?_) (fun c_10 => ?_)
  · have c_10 := (iI_le (a := n0) (b := i0_1) (by omega) (by omega)).mp c_10
    refine lv_aload_n hx hb dX4_passDay_38 rfl (lv_at hl 1 rfl) ?_
    refine lv_dup hx hb dX4_passDay_39 rfl ?_
    refine va_get (D := G.1) (ci := 3) (v := .int (iI a_day)) (C := RX4) (T := TX4) (N := 4) hx hb hts (fun _ h => List.mem_cons_of_mem _ (inlX4 _ h)) hown hK hP 0 rfl rfl 0 (by decide) (hts _ (List.mem_cons_of_mem _ (in_r19 (List.mem_of_getElem? (i := 3) rfl)))) (fun _ h9 => h9) rfl dX4_passDay_40 ?_
    refine lv_iconst (v := iI 1) hx hb dX4_passDay_43 rfl ?_
    refine lv_iadd hx hb dX4_passDay_44 ?_
    refine g_topi (y := iI (a_day + 1)) (iI_add a_day 1) ?_
    refine va_put (D := G.1) (ci := 3) (v := .int (iI (a_day + 1))) (ty := .int) (C := RX4) (T := TX4) (N := 4) hx hb hts (fun _ h => List.mem_cons_of_mem _ (inlX4 _ h)) tyX4 tyX4_ok nmX4 hown hK hP hD hS 0 rfl rfl 0 (by decide) (hts _ (List.mem_cons_of_mem _ (in_r19 (List.mem_of_getElem? (i := 3) rfl)))) (fun _ h9 => h9) rfl (by decide +kernel) rfl rfl (Nat.le_of_ble_eq_true rfl) dX4_passDay_45 (fun H locs hP hD hS => ?_)
    have hPD : PD G A H [oB3 m1 (a_day + 1) a_toffee a_age a_fate, iB G a_age 7 E0_2, iB G a_fate 7 Fa] := ⟨hP, hD⟩
    have hP := hPD.1
    have hD := hPD.2
    clear hPD
    exact g_vret hx hb hr hlocks hP hD hS (⟨E0_2, (by first | assumption | (rw [show n0 = i0_1 by omega]; assumption)), (by first | exact f_4 | exact bd_mono f_4 (by omega) (by omega) | assumption), rfl⟩) dX4_passDay_48
  · have c_10 : ¬ (n0 ≤ i0_1) := fun h9 => c_10 ((iI_le (a := n0) (b := i0_1) (by omega) (by omega)).mpr h9)
    refine lv_iload_n hx hb dX4_passDay_7 rfl (lv_at hl 0 rfl) ?_
    refine lv_bipush (v := iI 7) hx hb dX4_passDay_8 (by decide) ?_
    refine lv_icmp_ge (tgt := 38) hx hb dX4_passDay_10 (by decide) (fun c_11 => ?_) (fun c_11 => ?_)
    · have c_11 := (iI_le (a := 7) (b := i0_1) (by first | decide | omega) (by omega)).mp c_11
      refine lv_aload_n hx hb dX4_passDay_38 rfl (lv_at hl 1 rfl) ?_
      refine lv_dup hx hb dX4_passDay_39 rfl ?_
      refine va_get (D := G.1) (ci := 3) (v := .int (iI a_day)) (C := RX4) (T := TX4) (N := 4) hx hb hts (fun _ h => List.mem_cons_of_mem _ (inlX4 _ h)) hown hK hP 0 rfl rfl 0 (by decide) (hts _ (List.mem_cons_of_mem _ (in_r19 (List.mem_of_getElem? (i := 3) rfl)))) (fun _ h9 => h9) rfl dX4_passDay_40 ?_
      refine lv_iconst (v := iI 1) hx hb dX4_passDay_43 rfl ?_
      refine lv_iadd hx hb dX4_passDay_44 ?_
      refine g_topi (y := iI (a_day + 1)) (iI_add a_day 1) ?_
      refine va_put (D := G.1) (ci := 3) (v := .int (iI (a_day + 1))) (ty := .int) (C := RX4) (T := TX4) (N := 4) hx hb hts (fun _ h => List.mem_cons_of_mem _ (inlX4 _ h)) tyX4 tyX4_ok nmX4 hown hK hP hD hS 0 rfl rfl 0 (by decide) (hts _ (List.mem_cons_of_mem _ (in_r19 (List.mem_of_getElem? (i := 3) rfl)))) (fun _ h9 => h9) rfl (by decide +kernel) rfl rfl (Nat.le_of_ble_eq_true rfl) dX4_passDay_45 (fun H locs hP hD hS => ?_)
      have hPD : PD G A H [oB3 m1 (a_day + 1) a_toffee a_age a_fate, iB G a_age 7 E0_2, iB G a_fate 7 Fa] := ⟨hP, hD⟩
      have hP := hPD.1
      have hD := hPD.2
      clear hPD
      exact g_vret hx hb hr hlocks hP hD hS (⟨E0_2, (by first | assumption | (rw [show n0 = i0_1 by omega]; assumption)), (by first | exact f_4 | exact bd_mono f_4 (by omega) (by omega) | assumption), rfl⟩) dX4_passDay_48
    · have c_11 : ¬ (7 ≤ i0_1) := fun h9 => c_11 ((iI_le (a := 7) (b := i0_1) (by first | decide | omega) (by omega)).mpr h9)
      refine lv_aload_n hx hb dX4_passDay_13 rfl (lv_at hl 1 rfl) ?_
      refine va_get (D := G.1) (ci := 3) (v := .ref a_fate) (C := RX4) (T := TX4) (N := 4) hx hb hts (fun _ h => List.mem_cons_of_mem _ (inlX4 _ h)) hown hK hP 0 rfl rfl 3 (by decide) (hts _ (List.mem_cons_of_mem _ (in_r3 (List.mem_of_getElem? (i := 22) rfl)))) (fun _ h9 => h9) rfl dX4_passDay_14 ?_
      refine lv_iload_n hx hb dX4_passDay_17 rfl (lv_at hl 0 rfl) ?_
      refine g_ild hx hb hK hP 2 rfl (by omega) (by omega) (by first | exact Nat.le_of_ble_eq_true rfl | omega) dX4_passDay_18 (fun w_12 ew_12 => ?_)
      have ew_12 : Fa (i0_1.toNat) = w_12 := ew_12
      subst ew_12
      have b0w_12 := y1_ (i0_1.toNat)
      refine lv_if_ne (tgt := 32) hx hb dX4_passDay_19 (by decide) (fun c_13 => ?_) (fun c_13 => ?_)
      · have c_13 : ¬ ((Fa (i0_1.toNat)) = 0) := fun h9 => c_13 ((iI_eq (a := (Fa (i0_1.toNat))) (b := 0) (by omega) (by first | decide | omega)).mpr h9)
        refine lv_iinc (v := iI (i0_1 + 1)) (lv' := [(2, .int (iI (i0_1 + 1))), (0, .ref m1), (1, .int (iI n0))]) hx hb dX4_passDay_32 hl (k := 0) rfl (iI_add i0_1 1) (by decide) rfl (fun ls hl => ?_)
        refine lv_goto (tgt := 2) hx hb dX4_passDay_35 (by decide) ?_
        exact ih_7 _ _ _ _ (by omega) ⟨(i0_1 + 1), E0_2, (by first | assumption | omega), (by first | exact f_4 | exact bd_mono f_4 (by omega) (by omega) | assumption), (by first | assumption | exact tl_0 (by assumption) | exact tl_s (by assumption)), (pd_s2 (by assumption) (by omega) (by omega)), rfl, hP, hD, hS, lv_sub hl [0, 1, 2] rfl⟩
      · have c_13 := (iI_eq (a := (Fa (i0_1.toNat))) (b := 0) (by omega) (by first | decide | omega)).mp c_13
        refine lv_aload_n hx hb dX4_passDay_22 rfl (lv_at hl 1 rfl) ?_
        refine va_get (D := G.1) (ci := 3) (v := .ref a_age) (C := RX4) (T := TX4) (N := 4) hx hb hts (fun _ h => List.mem_cons_of_mem _ (inlX4 _ h)) hown hK hP 0 rfl rfl 2 (by decide) (hts _ (List.mem_cons_of_mem _ (in_r3 (List.mem_of_getElem? (i := 21) rfl)))) (fun _ h9 => h9) rfl dX4_passDay_23 ?_
        refine lv_iload_n hx hb dX4_passDay_26 rfl (lv_at hl 0 rfl) ?_
        refine lv_dup2_11 hx hb dX4_passDay_27 rfl rfl ?_
        refine g_ild hx hb hK hP 1 rfl (by omega) (by omega) (by first | exact Nat.le_of_ble_eq_true rfl | omega) dX4_passDay_28 (fun w_14 ew_14 => ?_)
        have ew_14 : E0_2 (i0_1.toNat) = w_14 := ew_14
        subst ew_14
        have b0w_14 := f_4 (i0_1.toNat)
        have tw_14 := tl_at f_5 (k := i0_1) (by omega) (by omega)
        refine lv_iconst (v := iI 1) hx hb dX4_passDay_29 rfl ?_
        refine lv_iadd hx hb dX4_passDay_30 ?_
        refine g_topi (y := iI ((E0_2 (i0_1.toNat)) + 1)) (iI_add (E0_2 (i0_1.toNat)) 1) ?_
        refine g_ist hx hb hK hP hD hS 1 rfl (by omega) (by omega) (by first | exact Nat.le_of_ble_eq_true rfl | omega) dX4_passDay_31 (fun H locs hP hD hS => ?_)
        have hb_16 := bd_u (k := (i0_1.toNat)) (v := ((E0_2 (i0_1.toNat)) + 1)) f_4 (by omega) (by omega)
        have hk_17 := tl_u (k := i0_1) (v := ((E0_2 (i0_1.toNat)) + 1)) f_5 (by omega) (by omega)
        have hPD : PD G A H [oB3 m1 a_day a_toffee a_age a_fate, iB G a_age 7 (uI E0_2 (i0_1.toNat) ((E0_2 (i0_1.toNat)) + 1)), iB G a_fate 7 Fa] := ⟨hP, hD⟩
        have hP := hPD.1
        have hD := hPD.2
        clear hPD
        refine lv_iinc (v := iI (i0_1 + 1)) (lv' := [(2, .int (iI (i0_1 + 1))), (0, .ref m1), (1, .int (iI n0))]) hx hb dX4_passDay_32 hl (k := 0) rfl (iI_add i0_1 1) (by decide) rfl (fun ls hl => ?_)
        refine lv_goto (tgt := 2) hx hb dX4_passDay_35 (by decide) ?_
        exact ih_7 _ _ _ _ (by omega) ⟨(i0_1 + 1), (uI E0_2 (i0_1.toNat) ((E0_2 (i0_1.toNat)) + 1)), (by first | assumption | omega), (by first | exact hb_16 | exact bd_mono hb_16 (by omega) (by omega) | assumption), (by first | assumption | exact tl_0 (by assumption) | exact tl_s (by assumption)), (pd_s1 (by assumption) (by omega) (by omega) rfl), rfl, hP, hD, hS, lv_sub hl [0, 1, 2] rfl⟩
theorem dX4_fates_0 : decode cX4_fates 0 = .ok (.iconst 0, 1) := kd_3 (by decide +kernel)
theorem dX4_fates_1 : decode cX4_fates 1 = .ok (.istore_n 3, 1) := kd_62 (by decide +kernel)
theorem dX4_fates_2 : decode cX4_fates 2 = .ok (.iconst 0, 1) := kd_3 (by decide +kernel)
theorem dX4_fates_3 : decode cX4_fates 3 = .ok (.istore 4, 2) := kd_54 (a := 4) (by decide +kernel)
theorem dX4_fates_5 : decode cX4_fates 5 = .ok (.iload 4, 2) := kd_21 (a := 4) (by decide +kernel)
theorem dX4_fates_7 : decode cX4_fates 7 = .ok (.iload_n 1, 1) := kd_27 (by decide +kernel)
theorem dX4_fates_8 : decode cX4_fates 8 = .ok (.if_icmp .ge 30, 3) := kd_162 (a := 0) (b := 30) (by decide +kernel)
theorem dX4_fates_38 : decode cX4_fates 38 = .ok (.iload_n 3, 1) := kd_29 (by decide +kernel)
theorem dX4_fates_39 : decode cX4_fates 39 = .ok (.ireturn, 1) := kd_172 (by decide +kernel)
theorem dX4_fates_11 : decode cX4_fates 11 = .ok (.iload 4, 2) := kd_21 (a := 4) (by decide +kernel)
theorem dX4_fates_13 : decode cX4_fates 13 = .ok (.bipush 7, 2) := kd_16 (a := 7) (by decide +kernel)
theorem dX4_fates_15 : decode cX4_fates 15 = .ok (.if_icmp .ge 23, 3) := kd_162 (a := 0) (b := 23) (by decide +kernel)
theorem dX4_fates_18 : decode cX4_fates 18 = .ok (.aload_n 0, 1) := kd_42 (by decide +kernel)
theorem dX4_fates_19 : decode cX4_fates 19 = .ok (.getfield 18, 3) := kd_180 (a := 0) (b := 18) (by decide +kernel)
theorem dX4_fates_22 : decode cX4_fates 22 = .ok (.iload 4, 2) := kd_21 (a := 4) (by decide +kernel)
theorem dX4_fates_24 : decode cX4_fates 24 = .ok (.iaload, 1) := kd_46 (by decide +kernel)
theorem dX4_fates_25 : decode cX4_fates 25 = .ok (.iload_n 2, 1) := kd_28 (by decide +kernel)
theorem dX4_fates_26 : decode cX4_fates 26 = .ok (.if_icmp .ne 6, 3) := kd_160 (a := 0) (b := 6) (by decide +kernel)
theorem dX4_fates_32 : decode cX4_fates 32 = .ok (.iinc 4 1, 3) := kd_132 (a := 4) (b := 1) (by decide +kernel)
theorem dX4_fates_35 : decode cX4_fates 35 = .ok (.goto (-30), 3) := kd_167 (a := 255) (b := 226) (by decide +kernel)
theorem dX4_fates_29 : decode cX4_fates 29 = .ok (.iinc 3 1, 3) := kd_132 (a := 3) (b := 1) (by decide +kernel)
set_option maxHeartbeats 8000000 in
set_option maxRecDepth 100000 in
theorem c_X4_fates (l : Launch) (G : gG) (m1 : Nat) (a_day : Int) (a_toffee : Nat) (a_age : Nat) (a_fate : Nat) (Fa : Nat → Int) (n0 : Int) (f0 : Int) (rf0 : -2147483648 ≤ f0 ∧ f0 ≤ 2147483647) (hn : 0 ≤ n0 ∧ n0 ≤ 7) (sz : Nat) : gI G l yX4_fates wsX4_fates ({ frames := 0, cells := 0, slots := 0, locals := 0 } : Room) [.ref m1, .int (iI n0), .int (iI f0)] [oB3 m1 a_day a_toffee a_age a_fate, iB G a_fate 7 Fa] sz (fun (r : Int32) (u : va_W) => (∃ rr : Int, r = (iI rr) ∧ u = [oB3 m1 a_day a_toffee a_age a_fate, iB G a_fate 7 Fa])) := by
  refine Met.ofW (cc := cX4_fates) (maxL := 5) (ret := (some .int)) (by decide) rfl ?_
  intro p e s m args below meth c s₁ B hml hv
  obtain ⟨rfl, hsz, hP, hK, hD0, hN, hZ⟩ := hv
  have hx := B.exec
  have hb := B.bytes
  have hr := B.returns
  have hts := atoms_spec (ws := wsX4_fates) B.pre
  have hown : s.vm.findClass RX4 = some m.cls := findClass_of_methodNamed B.named
  have hlocks := B.notSynchronized
  subst hsz
  have hD := hD0.self (sz := s.heap.size)
  generalize hAe : va_A [oB3 m1 a_day a_toffee a_age a_fate, iB G a_fate 7 Fa] s.heap.size = A at hD hZ ⊢
  have hA : ∀ q : Nat, s.heap.size ≤ q → A q := fun q h => by rw [← hAe]; exact Or.inr h
  have hS : va_S A s.heap s.heap [] := va_S.rf
  have hP : va_P G.1 vwCl [oB3 m1 a_day a_toffee a_age a_fate, iB G a_fate 7 Fa] s.heap := hP
  have hl := lv_entry ([.ref m1, .int (iI n0), .int (iI f0)]) (n := 5) (Nat.le_of_ble_eq_true rfl)
  rw [lg_entry_eq]
  generalize (lg_sl ([.ref m1, .int (iI n0), .int (iI f0)]) ++ List.replicate (5 - (lg_sl ([.ref m1, .int (iI n0), .int (iI f0)])).length) Slot.unset).toArray = ls at hl ⊢
  have hl : lv_has ls 5 [(0, .ref m1), (1, .int (iI n0)), (2, .int (iI f0))] := hl
  refine lv_iconst (v := iI 0) hx hb dX4_fates_0 rfl ?_
  refine lv_istore_n (lv' := [(3, .int (iI 0)), (0, .ref m1), (1, .int (iI n0)), (2, .int (iI f0))]) hx hb dX4_fates_1 rfl hl (by decide) rfl (fun ls hl => ?_)
  refine lv_iconst (v := iI 0) hx hb dX4_fates_2 rfl ?_
  refine lv_istore (lv' := [(4, .int (iI 0)), (3, .int (iI 0)), (0, .ref m1), (1, .int (iI n0)), (2, .int (iI f0))]) hx hb dX4_fates_3 hl (by decide) rfl (fun ls hl => ?_)
  refine g_loopN (pc := 5) (fun nn H locs ls => ∃ s0_1 : Int, ∃ i0_2 : Int, (0 ≤ i0_2 ∧ i0_2 ≤ 7) ∧ (7 - i0_2).toNat = nn ∧ va_P G.1 vwCl [oB3 m1 a_day a_toffee a_age a_fate, iB G a_fate 7 Fa] H ∧ va_D A [oB3 m1 a_day a_toffee a_age a_fate, iB G a_fate 7 Fa] ∧ va_S A s.heap H locs ∧ lv_has ls 5 [(4, .int (iI i0_2)), (3, .int (iI s0_1)), (0, .ref m1), (1, .int (iI n0)), (2, .int (iI f0))]) ?_ ⟨0, 0, (by first | assumption | omega), rfl, hP, hD, hS, lv_sub hl [0, 1, 2, 3, 4] rfl⟩
  intro nn_5 H locs ls ih_4 hI
  refine ea_2_6 hI (fun s0_1 i0_2 f_3 hnn_6 hP hD hS hl => ?_)
  clear hI
  refine lv_iload hx hb dX4_fates_5 (lv_at hl 0 rfl) ?_
  refine lv_iload_n hx hb dX4_fates_7 rfl (lv_at hl 3 rfl) ?_
  refine lv_icmp_ge (tgt := 38) hx hb dX4_fates_8 (by decide) (fun c_7 => ?_) (fun c_7 => ?_)
  · have c_7 := (iI_le (a := n0) (b := i0_2) (by omega) (by omega)).mp c_7
    refine lv_iload_n hx hb dX4_fates_38 rfl (lv_at hl 1 rfl) ?_
    exact g_iret (v := (iI s0_1)) hx hb hr hlocks hP hD hS (⟨s0_1, rfl, rfl⟩) dX4_fates_39
  · have c_7 : ¬ (n0 ≤ i0_2) := fun h9 => c_7 ((iI_le (a := n0) (b := i0_2) (by omega) (by omega)).mpr h9)
    refine lv_iload hx hb dX4_fates_11 (lv_at hl 0 rfl) ?_
    refine lv_bipush (v := iI 7) hx hb dX4_fates_13 (by decide) ?_
    refine lv_icmp_ge (tgt := 38) hx hb dX4_fates_15 (by decide) (fun c_8 => ?_) (fun c_8 => ?_)
    · have c_8 := (iI_le (a := 7) (b := i0_2) (by first | decide | omega) (by omega)).mp c_8
      refine lv_iload_n hx hb dX4_fates_38 rfl (lv_at hl 1 rfl) ?_
      exact g_iret (v := (iI s0_1)) hx hb hr hlocks hP hD hS (⟨s0_1, rfl, rfl⟩) dX4_fates_39
    · have c_8 : ¬ (7 ≤ i0_2) := fun h9 => c_8 ((iI_le (a := 7) (b := i0_2) (by first | decide | omega) (by omega)).mpr h9)
      refine lv_aload_n hx hb dX4_fates_18 rfl (lv_at hl 2 rfl) ?_
      refine va_get (D := G.1) (ci := 3) (v := .ref a_fate) (C := RX4) (T := TX4) (N := 4) hx hb hts (fun _ h => List.mem_cons_of_mem _ (inlX4 _ h)) hown hK hP 0 rfl rfl 3 (by decide) (hts _ (List.mem_cons_of_mem _ (in_r3 (List.mem_of_getElem? (i := 22) rfl)))) (fun _ h9 => h9) rfl dX4_fates_19 ?_
      refine lv_iload hx hb dX4_fates_22 (lv_at hl 0 rfl) ?_
      refine g_ildo hx hb hK hP 1 rfl (by omega) (by omega) (by first | exact Nat.le_of_ble_eq_true rfl | omega) dX4_fates_24 (fun w_9 hw_9 => ?_)
      refine lv_iload_n hx hb dX4_fates_25 rfl (lv_at hl 4 rfl) ?_
      refine lv_icmp_ne (tgt := 32) hx hb dX4_fates_26 (by decide) (fun c_10 => ?_) (fun c_10 => ?_)
      · have c_10 : ¬ (w_9 = f0) := fun h9 => c_10 ((iI_eq (a := w_9) (b := f0) (by omega) (by omega)).mpr h9)
        refine lv_iinc (v := iI (i0_2 + 1)) (lv' := [(4, .int (iI (i0_2 + 1))), (3, .int (iI s0_1)), (0, .ref m1), (1, .int (iI n0)), (2, .int (iI f0))]) hx hb dX4_fates_32 hl (k := 0) rfl (iI_add i0_2 1) (by decide) rfl (fun ls hl => ?_)
        refine lv_goto (tgt := 5) hx hb dX4_fates_35 (by decide) ?_
        exact ih_4 _ _ _ _ (by omega) ⟨s0_1, (i0_2 + 1), (by first | assumption | omega), rfl, hP, hD, hS, lv_sub hl [0, 1, 2, 3, 4] rfl⟩
      · have c_10 := (iI_eq (a := w_9) (b := f0) (by omega) (by omega)).mp c_10
        refine lv_iinc (v := iI (s0_1 + 1)) (lv' := [(3, .int (iI (s0_1 + 1))), (4, .int (iI i0_2)), (0, .ref m1), (1, .int (iI n0)), (2, .int (iI f0))]) hx hb dX4_fates_29 hl (k := 1) rfl (iI_add s0_1 1) (by decide) rfl (fun ls hl => ?_)
        refine lv_iinc (v := iI (i0_2 + 1)) (lv' := [(4, .int (iI (i0_2 + 1))), (3, .int (iI (s0_1 + 1))), (0, .ref m1), (1, .int (iI n0)), (2, .int (iI f0))]) hx hb dX4_fates_32 hl (k := 1) rfl (iI_add i0_2 1) (by decide) rfl (fun ls hl => ?_)
        refine lv_goto (tgt := 5) hx hb dX4_fates_35 (by decide) ?_
        exact ih_4 _ _ _ _ (by omega) ⟨(s0_1 + 1), (i0_2 + 1), (by first | assumption | omega), rfl, hP, hD, hS, lv_sub hl [0, 1, 2, 3, 4] rfl⟩
theorem dX4_toffeeOnAll_0 : decode cX4_toffeeOnAll 0 = .ok (.iconst 0, 1) := kd_3 (by decide +kernel)
theorem dX4_toffeeOnAll_1 : decode cX4_toffeeOnAll 1 = .ok (.istore_n 2, 1) := kd_61 (by decide +kernel)
theorem dX4_toffeeOnAll_2 : decode cX4_toffeeOnAll 2 = .ok (.iconst 0, 1) := kd_3 (by decide +kernel)
theorem dX4_toffeeOnAll_3 : decode cX4_toffeeOnAll 3 = .ok (.istore_n 3, 1) := kd_62 (by decide +kernel)
theorem dX4_toffeeOnAll_4 : decode cX4_toffeeOnAll 4 = .ok (.iload_n 3, 1) := kd_29 (by decide +kernel)
theorem dX4_toffeeOnAll_5 : decode cX4_toffeeOnAll 5 = .ok (.iload_n 1, 1) := kd_27 (by decide +kernel)
theorem dX4_toffeeOnAll_6 : decode cX4_toffeeOnAll 6 = .ok (.if_icmp .ge 24, 3) := kd_162 (a := 0) (b := 24) (by decide +kernel)
theorem dX4_toffeeOnAll_30 : decode cX4_toffeeOnAll 30 = .ok (.iload_n 2, 1) := kd_28 (by decide +kernel)
theorem dX4_toffeeOnAll_31 : decode cX4_toffeeOnAll 31 = .ok (.ireturn, 1) := kd_172 (by decide +kernel)
theorem dX4_toffeeOnAll_9 : decode cX4_toffeeOnAll 9 = .ok (.iload_n 3, 1) := kd_29 (by decide +kernel)
theorem dX4_toffeeOnAll_10 : decode cX4_toffeeOnAll 10 = .ok (.bipush 7, 2) := kd_16 (a := 7) (by decide +kernel)
theorem dX4_toffeeOnAll_12 : decode cX4_toffeeOnAll 12 = .ok (.if_icmp .ge 18, 3) := kd_162 (a := 0) (b := 18) (by decide +kernel)
theorem dX4_toffeeOnAll_15 : decode cX4_toffeeOnAll 15 = .ok (.iload_n 2, 1) := kd_28 (by decide +kernel)
theorem dX4_toffeeOnAll_16 : decode cX4_toffeeOnAll 16 = .ok (.aload_n 0, 1) := kd_42 (by decide +kernel)
theorem dX4_toffeeOnAll_17 : decode cX4_toffeeOnAll 17 = .ok (.getfield 9, 3) := kd_180 (a := 0) (b := 9) (by decide +kernel)
theorem dX4_toffeeOnAll_20 : decode cX4_toffeeOnAll 20 = .ok (.iload_n 3, 1) := kd_29 (by decide +kernel)
theorem dX4_toffeeOnAll_21 : decode cX4_toffeeOnAll 21 = .ok (.iaload, 1) := kd_46 (by decide +kernel)
theorem dX4_toffeeOnAll_22 : decode cX4_toffeeOnAll 22 = .ok (.iadd, 1) := kd_96 (by decide +kernel)
theorem dX4_toffeeOnAll_23 : decode cX4_toffeeOnAll 23 = .ok (.istore_n 2, 1) := kd_61 (by decide +kernel)
theorem dX4_toffeeOnAll_24 : decode cX4_toffeeOnAll 24 = .ok (.iinc 3 1, 3) := kd_132 (a := 3) (b := 1) (by decide +kernel)
theorem dX4_toffeeOnAll_27 : decode cX4_toffeeOnAll 27 = .ok (.goto (-23), 3) := kd_167 (a := 255) (b := 233) (by decide +kernel)
set_option maxHeartbeats 8000000 in
set_option maxRecDepth 100000 in
theorem c_X4_toffeeOnAll (l : Launch) (G : gG) (m1 : Nat) (a_day : Int) (a_toffee : Nat) (a_age : Nat) (a_fate : Nat) (Ta : Nat → Int) (n0 : Int) (hn : 0 ≤ n0 ∧ n0 ≤ 7) (sz : Nat) : gI G l yX4_toffeeOnAll wsX4_toffeeOnAll ({ frames := 0, cells := 0, slots := 0, locals := 0 } : Room) [.ref m1, .int (iI n0)] [oB3 m1 a_day a_toffee a_age a_fate, iB G a_toffee 7 Ta] sz (fun (r : Int32) (u : va_W) => (∃ rr : Int, r = (iI rr) ∧ u = [oB3 m1 a_day a_toffee a_age a_fate, iB G a_toffee 7 Ta])) := by
  refine Met.ofW (cc := cX4_toffeeOnAll) (maxL := 4) (ret := (some .int)) (by decide) rfl ?_
  intro p e s m args below meth c s₁ B hml hv
  obtain ⟨rfl, hsz, hP, hK, hD0, hN, hZ⟩ := hv
  have hx := B.exec
  have hb := B.bytes
  have hr := B.returns
  have hts := atoms_spec (ws := wsX4_toffeeOnAll) B.pre
  have hown : s.vm.findClass RX4 = some m.cls := findClass_of_methodNamed B.named
  have hlocks := B.notSynchronized
  subst hsz
  have hD := hD0.self (sz := s.heap.size)
  generalize hAe : va_A [oB3 m1 a_day a_toffee a_age a_fate, iB G a_toffee 7 Ta] s.heap.size = A at hD hZ ⊢
  have hA : ∀ q : Nat, s.heap.size ≤ q → A q := fun q h => by rw [← hAe]; exact Or.inr h
  have hS : va_S A s.heap s.heap [] := va_S.rf
  have hP : va_P G.1 vwCl [oB3 m1 a_day a_toffee a_age a_fate, iB G a_toffee 7 Ta] s.heap := hP
  have hl := lv_entry ([.ref m1, .int (iI n0)]) (n := 4) (Nat.le_of_ble_eq_true rfl)
  rw [lg_entry_eq]
  generalize (lg_sl ([.ref m1, .int (iI n0)]) ++ List.replicate (4 - (lg_sl ([.ref m1, .int (iI n0)])).length) Slot.unset).toArray = ls at hl ⊢
  have hl : lv_has ls 4 [(0, .ref m1), (1, .int (iI n0))] := hl
  refine lv_iconst (v := iI 0) hx hb dX4_toffeeOnAll_0 rfl ?_
  refine lv_istore_n (lv' := [(2, .int (iI 0)), (0, .ref m1), (1, .int (iI n0))]) hx hb dX4_toffeeOnAll_1 rfl hl (by decide) rfl (fun ls hl => ?_)
  refine lv_iconst (v := iI 0) hx hb dX4_toffeeOnAll_2 rfl ?_
  refine lv_istore_n (lv' := [(3, .int (iI 0)), (2, .int (iI 0)), (0, .ref m1), (1, .int (iI n0))]) hx hb dX4_toffeeOnAll_3 rfl hl (by decide) rfl (fun ls hl => ?_)
  refine g_loopN (pc := 4) (fun nn H locs ls => ∃ s0_1 : Int, ∃ i0_2 : Int, (0 ≤ i0_2 ∧ i0_2 ≤ 7) ∧ (7 - i0_2).toNat = nn ∧ va_P G.1 vwCl [oB3 m1 a_day a_toffee a_age a_fate, iB G a_toffee 7 Ta] H ∧ va_D A [oB3 m1 a_day a_toffee a_age a_fate, iB G a_toffee 7 Ta] ∧ va_S A s.heap H locs ∧ lv_has ls 4 [(3, .int (iI i0_2)), (2, .int (iI s0_1)), (0, .ref m1), (1, .int (iI n0))]) ?_ ⟨0, 0, (by first | assumption | omega), rfl, hP, hD, hS, lv_sub hl [0, 1, 2, 3] rfl⟩
  intro nn_5 H locs ls ih_4 hI
  refine ea_2_6 hI (fun s0_1 i0_2 f_3 hnn_6 hP hD hS hl => ?_)
  clear hI
  refine lv_iload_n hx hb dX4_toffeeOnAll_4 rfl (lv_at hl 0 rfl) ?_
  refine lv_iload_n hx hb dX4_toffeeOnAll_5 rfl (lv_at hl 3 rfl) ?_
  refine lv_icmp_ge (tgt := 30) hx hb dX4_toffeeOnAll_6 (by decide) (fun c_7 => ?_) (fun c_7 => ?_)
  · have c_7 := (iI_le (a := n0) (b := i0_2) (by omega) (by omega)).mp c_7
    refine lv_iload_n hx hb dX4_toffeeOnAll_30 rfl (lv_at hl 1 rfl) ?_
    exact g_iret (v := (iI s0_1)) hx hb hr hlocks hP hD hS (⟨s0_1, rfl, rfl⟩) dX4_toffeeOnAll_31
  · have c_7 : ¬ (n0 ≤ i0_2) := fun h9 => c_7 ((iI_le (a := n0) (b := i0_2) (by omega) (by omega)).mpr h9)
    refine lv_iload_n hx hb dX4_toffeeOnAll_9 rfl (lv_at hl 0 rfl) ?_
    refine lv_bipush (v := iI 7) hx hb dX4_toffeeOnAll_10 (by decide) ?_
    refine lv_icmp_ge (tgt := 30) hx hb dX4_toffeeOnAll_12 (by decide) (fun c_8 => ?_) (fun c_8 => ?_)
    · have c_8 := (iI_le (a := 7) (b := i0_2) (by first | decide | omega) (by omega)).mp c_8
      refine lv_iload_n hx hb dX4_toffeeOnAll_30 rfl (lv_at hl 1 rfl) ?_
      exact g_iret (v := (iI s0_1)) hx hb hr hlocks hP hD hS (⟨s0_1, rfl, rfl⟩) dX4_toffeeOnAll_31
    · have c_8 : ¬ (7 ≤ i0_2) := fun h9 => c_8 ((iI_le (a := 7) (b := i0_2) (by first | decide | omega) (by omega)).mpr h9)
      refine lv_iload_n hx hb dX4_toffeeOnAll_15 rfl (lv_at hl 1 rfl) ?_
      refine lv_aload_n hx hb dX4_toffeeOnAll_16 rfl (lv_at hl 2 rfl) ?_
      refine va_get (D := G.1) (ci := 3) (v := .ref a_toffee) (C := RX4) (T := TX4) (N := 4) hx hb hts (fun _ h => List.mem_cons_of_mem _ (inlX4 _ h)) hown hK hP 0 rfl rfl 1 (by decide) (hts _ (List.mem_cons_of_mem _ (in_r3 (List.mem_of_getElem? (i := 20) rfl)))) (fun _ h9 => h9) rfl dX4_toffeeOnAll_17 ?_
      refine lv_iload_n hx hb dX4_toffeeOnAll_20 rfl (lv_at hl 0 rfl) ?_
      refine g_ildo hx hb hK hP 1 rfl (by omega) (by omega) (by first | exact Nat.le_of_ble_eq_true rfl | omega) dX4_toffeeOnAll_21 (fun w_9 hw_9 => ?_)
      refine lv_iadd hx hb dX4_toffeeOnAll_22 ?_
      refine g_topi (y := iI (s0_1 + w_9)) (iI_add s0_1 w_9) ?_
      refine lv_istore_n (lv' := [(2, .int (iI (s0_1 + w_9))), (3, .int (iI i0_2)), (0, .ref m1), (1, .int (iI n0))]) hx hb dX4_toffeeOnAll_23 rfl hl (by decide) rfl (fun ls hl => ?_)
      refine lv_iinc (v := iI (i0_2 + 1)) (lv' := [(3, .int (iI (i0_2 + 1))), (2, .int (iI (s0_1 + w_9))), (0, .ref m1), (1, .int (iI n0))]) hx hb dX4_toffeeOnAll_24 hl (k := 1) rfl (iI_add i0_2 1) (by decide) rfl (fun ls hl => ?_)
      refine lv_goto (tgt := 4) hx hb dX4_toffeeOnAll_27 (by decide) ?_
      exact ih_4 _ _ _ _ (by omega) ⟨(s0_1 + w_9), (i0_2 + 1), (by first | assumption | omega), rfl, hP, hD, hS, lv_sub hl [0, 1, 2, 3] rfl⟩
theorem dX6_isFull_0 : decode cX6_isFull 0 = .ok (.aload_n 0, 1) := kd_42 (by decide +kernel)
theorem dX6_isFull_1 : decode cX6_isFull 1 = .ok (.getfield 26, 3) := kd_180 (a := 0) (b := 26) (by decide +kernel)
theorem dX6_isFull_4 : decode cX6_isFull 4 = .ok (.aload_n 0, 1) := kd_42 (by decide +kernel)
theorem dX6_isFull_5 : decode cX6_isFull 5 = .ok (.getfield 23, 3) := kd_180 (a := 0) (b := 23) (by decide +kernel)
theorem dX6_isFull_8 : decode cX6_isFull 8 = .ok (.if_icmp .lt 7, 3) := kd_161 (a := 0) (b := 7) (by decide +kernel)
theorem dX6_isFull_15 : decode cX6_isFull 15 = .ok (.iconst 0, 1) := kd_3 (by decide +kernel)
theorem dX6_isFull_16 : decode cX6_isFull 16 = .ok (.ireturn, 1) := kd_172 (by decide +kernel)
theorem dX6_isFull_11 : decode cX6_isFull 11 = .ok (.iconst 1, 1) := kd_4 (by decide +kernel)
theorem dX6_isFull_12 : decode cX6_isFull 12 = .ok (.goto 4, 3) := kd_167 (a := 0) (b := 4) (by decide +kernel)
set_option maxHeartbeats 8000000 in
set_option maxRecDepth 100000 in
theorem c_X6_isFull_l (l : Launch) (G : gG) (q0 : Nat) (a_cells : Nat) (a_count : Int) (hc : 0 ≤ a_count ∧ a_count ≤ 5) (sz : Nat) : gI G l yX6_isFull wsX6_isFull ({ frames := 0, cells := 0, slots := 0, locals := 0 } : Room) [.ref q0] [oB5 q0 5 5 a_cells a_count] sz (fun (r : Int32) (u : va_W) => ((a_count = 5) ∧ r = (iI 1) ∧ u = [oB5 q0 5 5 a_cells a_count]) ∨ ((a_count < 5) ∧ r = (iI 0) ∧ u = [oB5 q0 5 5 a_cells a_count])) := by
  refine Met.ofW (cc := cX6_isFull) (maxL := 1) (ret := (some .boolean)) (by decide) rfl ?_
  intro p e s m args below meth c s₁ B hml hv
  obtain ⟨rfl, hsz, hP, hK, hD0, hN, hZ⟩ := hv
  have hx := B.exec
  have hb := B.bytes
  have hr := B.returns
  have hts := atoms_spec (ws := wsX6_isFull) B.pre
  have hown : s.vm.findClass RX6 = some m.cls := findClass_of_methodNamed B.named
  have hlocks := B.notSynchronized
  subst hsz
  have hD := hD0.self (sz := s.heap.size)
  generalize hAe : va_A [oB5 q0 5 5 a_cells a_count] s.heap.size = A at hD hZ ⊢
  have hA : ∀ q : Nat, s.heap.size ≤ q → A q := fun q h => by rw [← hAe]; exact Or.inr h
  have hS : va_S A s.heap s.heap [] := va_S.rf
  have hP : va_P G.1 vwCl [oB5 q0 5 5 a_cells a_count] s.heap := hP
  have hl := lv_entry ([.ref q0]) (n := 1) (Nat.le_of_ble_eq_true rfl)
  rw [lg_entry_eq]
  generalize (lg_sl ([.ref q0]) ++ List.replicate (1 - (lg_sl ([.ref q0])).length) Slot.unset).toArray = ls at hl ⊢
  have hl : lv_has ls 1 [(0, .ref q0)] := hl
  refine lv_aload_n hx hb dX6_isFull_0 rfl (lv_at hl 0 rfl) ?_
  refine va_get (D := G.1) (ci := 5) (v := .int (iI a_count)) (C := RX6) (T := TX6) (N := 4) hx hb hts (fun _ h => List.mem_cons_of_mem _ (inlX6 _ h)) hown hK hP 0 rfl rfl 3 (by decide) (hts _ (List.mem_cons_of_mem _ (in_r7 (List.mem_of_getElem? (i := 7) rfl)))) (fun _ h9 => h9) rfl dX6_isFull_1 ?_
  refine lv_aload_n hx hb dX6_isFull_4 rfl (lv_at hl 0 rfl) ?_
  refine va_get (D := G.1) (ci := 5) (v := .int (iI 5)) (C := RX6) (T := TX6) (N := 4) hx hb hts (fun _ h => List.mem_cons_of_mem _ (inlX6 _ h)) hown hK hP 0 rfl rfl 1 (by decide) (hts _ (List.mem_cons_of_mem _ (in_r4 (List.mem_of_getElem? (i := 8) rfl)))) (fun _ h9 => h9) rfl dX6_isFull_5 ?_
  refine lv_icmp_lt (tgt := 15) hx hb dX6_isFull_8 (by decide) (fun c_1 => ?_) (fun c_1 => ?_)
  · have c_1 := (iI_lt (a := a_count) (b := 5) (by omega) (by first | decide | omega)).mp c_1
    refine lv_iconst (v := iI 0) hx hb dX6_isFull_15 rfl ?_
    exact g_zret (v := (iI 0)) hx hb hr hlocks rfl hP hD hS (Or.inr (⟨(by first | assumption | omega), rfl, rfl⟩)) dX6_isFull_16
  · have c_1 : ¬ (a_count < 5) := fun h9 => c_1 ((iI_lt (a := a_count) (b := 5) (by omega) (by first | decide | omega)).mpr h9)
    refine lv_iconst (v := iI 1) hx hb dX6_isFull_11 rfl ?_
    refine lv_goto (tgt := 16) hx hb dX6_isFull_12 (by decide) ?_
    exact g_zret (v := (iI 1)) hx hb hr hlocks rfl hP hD hS (Or.inl ⟨(by first | assumption | omega), rfl, rfl⟩) dX6_isFull_16
theorem dX6_add_0 : decode cX6_add 0 = .ok (.aload_n 0, 1) := kd_42 (by decide +kernel)
theorem gX6_add_X6_isFull : GoodIn wsX6_add (wsV RX6 29 RX6 yX6_isFull wsX6_isFull) := gW_V (in_r32 (List.mem_of_getElem? (i := 4) rfl)) (in_r31 (List.mem_of_getElem? (i := 22) rfl)) (in_r31 (List.mem_of_getElem? (i := 23) rfl)) (in_r3 (List.mem_of_getElem? (i := 13) rfl)) (in_r32 (List.mem_of_getElem? (i := 0) rfl))
theorem dX6_add_1 : decode cX6_add 1 = .ok (.invokevirtual 29, 3) := kd_182 (a := 0) (b := 29) (by decide +kernel)
theorem dX6_add_4 : decode cX6_add 4 = .ok (.ifCond .eq 8, 3) := kd_153 (a := 0) (b := 8) (by decide +kernel)
theorem dX6_add_12 : decode cX6_add 12 = .ok (.aload_n 0, 1) := kd_42 (by decide +kernel)
theorem dX6_add_13 : decode cX6_add 13 = .ok (.getfield 26, 3) := kd_180 (a := 0) (b := 26) (by decide +kernel)
theorem dX6_add_16 : decode cX6_add 16 = .ok (.iconst 5, 1) := kd_8 (by decide +kernel)
theorem dX6_add_17 : decode cX6_add 17 = .ok (.imul, 1) := kd_104 (by decide +kernel)
theorem dX6_add_18 : decode cX6_add 18 = .ok (.istore 6, 2) := kd_54 (a := 6) (by decide +kernel)
theorem dX6_add_20 : decode cX6_add 20 = .ok (.aload_n 0, 1) := kd_42 (by decide +kernel)
theorem dX6_add_21 : decode cX6_add 21 = .ok (.getfield 9, 3) := kd_180 (a := 0) (b := 9) (by decide +kernel)
theorem dX6_add_24 : decode cX6_add 24 = .ok (.iload 6, 2) := kd_21 (a := 6) (by decide +kernel)
theorem dX6_add_26 : decode cX6_add 26 = .ok (.iload_n 1, 1) := kd_27 (by decide +kernel)
theorem dX6_add_27 : decode cX6_add 27 = .ok (.iastore, 1) := kd_79 (by decide +kernel)
theorem dX6_add_28 : decode cX6_add 28 = .ok (.aload_n 0, 1) := kd_42 (by decide +kernel)
theorem dX6_add_29 : decode cX6_add 29 = .ok (.getfield 9, 3) := kd_180 (a := 0) (b := 9) (by decide +kernel)
theorem dX6_add_32 : decode cX6_add 32 = .ok (.iload 6, 2) := kd_21 (a := 6) (by decide +kernel)
theorem dX6_add_34 : decode cX6_add 34 = .ok (.iconst 1, 1) := kd_4 (by decide +kernel)
theorem dX6_add_35 : decode cX6_add 35 = .ok (.iadd, 1) := kd_96 (by decide +kernel)
theorem dX6_add_36 : decode cX6_add 36 = .ok (.iload_n 2, 1) := kd_28 (by decide +kernel)
theorem dX6_add_37 : decode cX6_add 37 = .ok (.iastore, 1) := kd_79 (by decide +kernel)
theorem dX6_add_38 : decode cX6_add 38 = .ok (.aload_n 0, 1) := kd_42 (by decide +kernel)
theorem dX6_add_39 : decode cX6_add 39 = .ok (.getfield 9, 3) := kd_180 (a := 0) (b := 9) (by decide +kernel)
theorem dX6_add_42 : decode cX6_add 42 = .ok (.iload 6, 2) := kd_21 (a := 6) (by decide +kernel)
theorem dX6_add_44 : decode cX6_add 44 = .ok (.iconst 2, 1) := kd_5 (by decide +kernel)
theorem dX6_add_45 : decode cX6_add 45 = .ok (.iadd, 1) := kd_96 (by decide +kernel)
theorem dX6_add_46 : decode cX6_add 46 = .ok (.iload_n 3, 1) := kd_29 (by decide +kernel)
theorem dX6_add_47 : decode cX6_add 47 = .ok (.iastore, 1) := kd_79 (by decide +kernel)
theorem dX6_add_48 : decode cX6_add 48 = .ok (.aload_n 0, 1) := kd_42 (by decide +kernel)
theorem dX6_add_49 : decode cX6_add 49 = .ok (.getfield 9, 3) := kd_180 (a := 0) (b := 9) (by decide +kernel)
theorem dX6_add_52 : decode cX6_add 52 = .ok (.iload 6, 2) := kd_21 (a := 6) (by decide +kernel)
theorem dX6_add_54 : decode cX6_add 54 = .ok (.iconst 3, 1) := kd_6 (by decide +kernel)
theorem dX6_add_55 : decode cX6_add 55 = .ok (.iadd, 1) := kd_96 (by decide +kernel)
theorem dX6_add_56 : decode cX6_add 56 = .ok (.iload 4, 2) := kd_21 (a := 4) (by decide +kernel)
theorem dX6_add_58 : decode cX6_add 58 = .ok (.iastore, 1) := kd_79 (by decide +kernel)
theorem dX6_add_59 : decode cX6_add 59 = .ok (.aload_n 0, 1) := kd_42 (by decide +kernel)
theorem dX6_add_60 : decode cX6_add 60 = .ok (.getfield 9, 3) := kd_180 (a := 0) (b := 9) (by decide +kernel)
theorem dX6_add_63 : decode cX6_add 63 = .ok (.iload 6, 2) := kd_21 (a := 6) (by decide +kernel)
theorem dX6_add_65 : decode cX6_add 65 = .ok (.iconst 4, 1) := kd_7 (by decide +kernel)
theorem dX6_add_66 : decode cX6_add 66 = .ok (.iadd, 1) := kd_96 (by decide +kernel)
theorem dX6_add_67 : decode cX6_add 67 = .ok (.iload 5, 2) := kd_21 (a := 5) (by decide +kernel)
theorem dX6_add_69 : decode cX6_add 69 = .ok (.iastore, 1) := kd_79 (by decide +kernel)
theorem dX6_add_70 : decode cX6_add 70 = .ok (.aload_n 0, 1) := kd_42 (by decide +kernel)
theorem dX6_add_71 : decode cX6_add 71 = .ok (.dup, 1) := kd_89 (by decide +kernel)
theorem dX6_add_72 : decode cX6_add 72 = .ok (.getfield 26, 3) := kd_180 (a := 0) (b := 26) (by decide +kernel)
theorem dX6_add_75 : decode cX6_add 75 = .ok (.iconst 1, 1) := kd_4 (by decide +kernel)
theorem dX6_add_76 : decode cX6_add 76 = .ok (.iadd, 1) := kd_96 (by decide +kernel)
theorem dX6_add_77 : decode cX6_add 77 = .ok (.putfield 26, 3) := kd_181 (a := 0) (b := 26) (by decide +kernel)
theorem dX6_add_80 : decode cX6_add 80 = .ok (.aload_n 0, 1) := kd_42 (by decide +kernel)
theorem dX6_add_81 : decode cX6_add 81 = .ok (.getfield 26, 3) := kd_180 (a := 0) (b := 26) (by decide +kernel)
theorem dX6_add_84 : decode cX6_add 84 = .ok (.ireturn, 1) := kd_172 (by decide +kernel)
set_option maxHeartbeats 8000000 in
set_option maxRecDepth 100000 in
theorem c_X6_add_l (l : Launch) (G : gG) (q0 : Nat) (a_cells : Nat) (a_count : Int) (Fc : Nat → Int) (b0 : Int) (b1 : Int) (b2 : Int) (b3 : Int) (b4 : Int) (y0_ : bd 0 99 Fc) (y1_ : 0 ≤ a_count ∧ a_count ≤ 5) (u0 : 0 ≤ b0 ∧ b0 ≤ 99) (u1 : 0 ≤ b1 ∧ b1 ≤ 99) (u2 : 0 ≤ b2 ∧ b2 ≤ 99) (u3 : 0 ≤ b3 ∧ b3 ≤ 99) (u4 : 0 ≤ b4 ∧ b4 ≤ 99) (hl : a_count < 5) (sz : Nat) : gI G l yX6_add wsX6_add ({ frames := 1, cells := 0, slots := 0, locals := 20 } : Room) [.ref q0, .int (iI b0), .int (iI b1), .int (iI b2), .int (iI b3), .int (iI b4)] [oB5 q0 5 5 a_cells a_count, iB G a_cells 30 Fc] sz (fun (r : Int32) (u : va_W) => (∃ Fn : Nat → Int, (Fn = r5 Fc a_count b0 b1 b2 b3 b4) ∧ (bd 0 99 Fn) ∧ r = (iI (a_count + 1)) ∧ u = [oB5 q0 5 5 a_cells (a_count + 1), iB G a_cells 30 Fn])) := by
  refine Met.ofW (cc := cX6_add) (maxL := 7) (ret := (some .int)) (by decide) rfl ?_
  intro p e s m args below meth c s₁ B hml hv
  obtain ⟨rfl, hsz, hP, hK, hD0, hN, hZ⟩ := hv
  have hx := B.exec
  have hb := B.bytes
  have hr := B.returns
  have hts := atoms_spec (ws := wsX6_add) B.pre
  have hown : s.vm.findClass RX6 = some m.cls := findClass_of_methodNamed B.named
  have hlocks := B.notSynchronized
  subst hsz
  have hD := hD0.self (sz := s.heap.size)
  generalize hAe : va_A [oB5 q0 5 5 a_cells a_count, iB G a_cells 30 Fc] s.heap.size = A at hD hZ ⊢
  have hA : ∀ q : Nat, s.heap.size ≤ q → A q := fun q h => by rw [← hAe]; exact Or.inr h
  have hS : va_S A s.heap s.heap [] := va_S.rf
  have hP : va_P G.1 vwCl [oB5 q0 5 5 a_cells a_count, iB G a_cells 30 Fc] s.heap := hP
  have hl := lv_entry ([.ref q0, .int (iI b0), .int (iI b1), .int (iI b2), .int (iI b3), .int (iI b4)]) (n := 7) (Nat.le_of_ble_eq_true rfl)
  rw [lg_entry_eq]
  generalize (lg_sl ([.ref q0, .int (iI b0), .int (iI b1), .int (iI b2), .int (iI b3), .int (iI b4)]) ++ List.replicate (7 - (lg_sl ([.ref q0, .int (iI b0), .int (iI b1), .int (iI b2), .int (iI b3), .int (iI b4)])).length) Slot.unset).toArray = ls at hl ⊢
  have hl : lv_has ls 7 [(0, .ref q0), (1, .int (iI b0)), (2, .int (iI b1)), (3, .int (iI b2)), (4, .int (iI b3)), (5, .int (iI b4))] := hl
  refine lv_aload_n hx hb dX6_add_0 rfl (lv_at hl 0 rfl) ?_
  refine g_calli (wr := [iB G a_cells 30 Fc]) (va_runV (As := []) (rest := []) ⟨hx, hb, hml, hown, hts⟩ (c_X6_isFull_l l G (q0) (a_cells) (a_count) (by first | exact y1_ | assumption | omega) _) (cwV 0 hts gX6_add_X6_isFull rfl rfl rfl (by decide +kernel) ⟨Nat.le_of_ble_eq_true rfl, Nat.le_of_ble_eq_true rfl⟩) (g_preV q0 [] hP hD hK hN hS hA hZ [0] rfl rfl 0 (ci := 5) rfl rfl) rfl rfl hl.1 rfl (lv_room (Nat.le_of_ble_eq_true rfl)) dX6_add_1 ⟨Nat.le_of_ble_eq_true rfl, Nat.le_of_ble_eq_true rfl⟩) hP hD hS hA [0] [1] rfl rfl rfl (by decide) (fun r_1 u H locs hw hP hD hS => ?_)
  rcases hw with ⟨k_2, rfl, rfl⟩ | ⟨k_3, rfl, rfl⟩
  · exact absurd k_2 (by omega)
  · have hPD : PD G A H [iB G a_cells 30 Fc, oB5 q0 5 5 a_cells a_count] := ⟨hP, hD⟩
    have hP := hPD.1
    have hD := hPD.2
    clear hPD
    refine lv_if_eq (tgt := 12) hx hb dX6_add_4 (by decide) (fun _ => ?_) (fun c_4 => g_no (by decide) c_4)
    refine lv_aload_n hx hb dX6_add_12 rfl (lv_at hl 0 rfl) ?_
    refine va_get (D := G.1) (ci := 5) (v := .int (iI a_count)) (C := RX6) (T := TX6) (N := 4) hx hb hts (fun _ h => List.mem_cons_of_mem _ (inlX6 _ h)) hown hK hP 1 rfl rfl 3 (by decide) (hts _ (List.mem_cons_of_mem _ (in_r7 (List.mem_of_getElem? (i := 7) rfl)))) (fun _ h9 => h9) rfl dX6_add_13 ?_
    refine lv_iconst (v := iI 5) hx hb dX6_add_16 rfl ?_
    refine lv_imul hx hb dX6_add_17 ?_
    refine g_topi (y := iI (a_count * 5)) (iI_mul a_count 5) ?_
    refine lv_istore (lv' := [(6, .int (iI (a_count * 5))), (0, .ref q0), (1, .int (iI b0)), (2, .int (iI b1)), (3, .int (iI b2)), (4, .int (iI b3)), (5, .int (iI b4))]) hx hb dX6_add_18 hl (by decide) rfl (fun ls hl => ?_)
    refine lv_aload_n hx hb dX6_add_20 rfl (lv_at hl 1 rfl) ?_
    refine va_get (D := G.1) (ci := 5) (v := .ref a_cells) (C := RX6) (T := TX6) (N := 4) hx hb hts (fun _ h => List.mem_cons_of_mem _ (inlX6 _ h)) hown hK hP 1 rfl rfl 2 (by decide) (hts _ (List.mem_cons_of_mem _ (in_r4 (List.mem_of_getElem? (i := 2) rfl)))) (fun _ h9 => h9) rfl dX6_add_21 ?_
    refine lv_iload hx hb dX6_add_24 (lv_at hl 0 rfl) ?_
    refine lv_iload_n hx hb dX6_add_26 rfl (lv_at hl 2 rfl) ?_
    refine g_ist hx hb hK hP hD hS 0 rfl (by omega) (by omega) (by first | exact Nat.le_of_ble_eq_true rfl | omega) dX6_add_27 (fun H locs hP hD hS => ?_)
    have hb_6 := bd_u (k := ((a_count * 5).toNat)) (v := b0) y0_ (by omega) (by omega)
    have hPD : PD G A H [iB G a_cells 30 (uI Fc ((a_count * 5).toNat) b0), oB5 q0 5 5 a_cells a_count] := ⟨hP, hD⟩
    have hP := hPD.1
    have hD := hPD.2
    clear hPD
    refine lv_aload_n hx hb dX6_add_28 rfl (lv_at hl 1 rfl) ?_
    refine va_get (D := G.1) (ci := 5) (v := .ref a_cells) (C := RX6) (T := TX6) (N := 4) hx hb hts (fun _ h => List.mem_cons_of_mem _ (inlX6 _ h)) hown hK hP 1 rfl rfl 2 (by decide) (hts _ (List.mem_cons_of_mem _ (in_r4 (List.mem_of_getElem? (i := 2) rfl)))) (fun _ h9 => h9) rfl dX6_add_29 ?_
    refine lv_iload hx hb dX6_add_32 (lv_at hl 0 rfl) ?_
    refine lv_iconst (v := iI 1) hx hb dX6_add_34 rfl ?_
    refine lv_iadd hx hb dX6_add_35 ?_
    refine g_topi (y := iI ((a_count * 5) + 1)) (iI_add (a_count * 5) 1) ?_
    refine lv_iload_n hx hb dX6_add_36 rfl (lv_at hl 3 rfl) ?_
    refine g_ist hx hb hK hP hD hS 0 rfl (by omega) (by omega) (by first | exact Nat.le_of_ble_eq_true rfl | omega) dX6_add_37 (fun H locs hP hD hS => ?_)
    have hb_8 := bd_u (k := (((a_count * 5) + 1).toNat)) (v := b1) hb_6 (by omega) (by omega)
    have hPD : PD G A H [iB G a_cells 30 (uI (uI Fc ((a_count * 5).toNat) b0) (((a_count * 5) + 1).toNat) b1), oB5 q0 5 5 a_cells a_count] := ⟨hP, hD⟩
    have hP := hPD.1
    have hD := hPD.2
    clear hPD
    refine lv_aload_n hx hb dX6_add_38 rfl (lv_at hl 1 rfl) ?_
    refine va_get (D := G.1) (ci := 5) (v := .ref a_cells) (C := RX6) (T := TX6) (N := 4) hx hb hts (fun _ h => List.mem_cons_of_mem _ (inlX6 _ h)) hown hK hP 1 rfl rfl 2 (by decide) (hts _ (List.mem_cons_of_mem _ (in_r4 (List.mem_of_getElem? (i := 2) rfl)))) (fun _ h9 => h9) rfl dX6_add_39 ?_
    refine lv_iload hx hb dX6_add_42 (lv_at hl 0 rfl) ?_
    refine lv_iconst (v := iI 2) hx hb dX6_add_44 rfl ?_
    refine lv_iadd hx hb dX6_add_45 ?_
    refine g_topi (y := iI ((a_count * 5) + 2)) (iI_add (a_count * 5) 2) ?_
    refine lv_iload_n hx hb dX6_add_46 rfl (lv_at hl 4 rfl) ?_
    refine g_ist hx hb hK hP hD hS 0 rfl (by omega) (by omega) (by first | exact Nat.le_of_ble_eq_true rfl | omega) dX6_add_47 (fun H locs hP hD hS => ?_)
    have hb_10 := bd_u (k := (((a_count * 5) + 2).toNat)) (v := b2) hb_8 (by omega) (by omega)
    have hPD : PD G A H [iB G a_cells 30 (uI (uI (uI Fc ((a_count * 5).toNat) b0) (((a_count * 5) + 1).toNat) b1) (((a_count * 5) + 2).toNat) b2), oB5 q0 5 5 a_cells a_count] := ⟨hP, hD⟩
    have hP := hPD.1
    have hD := hPD.2
    clear hPD
    refine lv_aload_n hx hb dX6_add_48 rfl (lv_at hl 1 rfl) ?_
    refine va_get (D := G.1) (ci := 5) (v := .ref a_cells) (C := RX6) (T := TX6) (N := 4) hx hb hts (fun _ h => List.mem_cons_of_mem _ (inlX6 _ h)) hown hK hP 1 rfl rfl 2 (by decide) (hts _ (List.mem_cons_of_mem _ (in_r4 (List.mem_of_getElem? (i := 2) rfl)))) (fun _ h9 => h9) rfl dX6_add_49 ?_
    refine lv_iload hx hb dX6_add_52 (lv_at hl 0 rfl) ?_
    refine lv_iconst (v := iI 3) hx hb dX6_add_54 rfl ?_
    refine lv_iadd hx hb dX6_add_55 ?_
    refine g_topi (y := iI ((a_count * 5) + 3)) (iI_add (a_count * 5) 3) ?_
    refine lv_iload hx hb dX6_add_56 (lv_at hl 5 rfl) ?_
    refine g_ist hx hb hK hP hD hS 0 rfl (by omega) (by omega) (by first | exact Nat.le_of_ble_eq_true rfl | omega) dX6_add_58 (fun H locs hP hD hS => ?_)
    have hb_12 := bd_u (k := (((a_count * 5) + 3).toNat)) (v := b3) hb_10 (by omega) (by omega)
    have hPD : PD G A H [iB G a_cells 30 (uI (uI (uI (uI Fc ((a_count * 5).toNat) b0) (((a_count * 5) + 1).toNat) b1) (((a_count * 5) + 2).toNat) b2) (((a_count * 5) + 3).toNat) b3), oB5 q0 5 5 a_cells a_count] := ⟨hP, hD⟩
    have hP := hPD.1
    have hD := hPD.2
    clear hPD
    refine lv_aload_n hx hb dX6_add_59 rfl (lv_at hl 1 rfl) ?_
    refine va_get (D := G.1) (ci := 5) (v := .ref a_cells) (C := RX6) (T := TX6) (N := 4) hx hb hts (fun _ h => List.mem_cons_of_mem _ (inlX6 _ h)) hown hK hP 1 rfl rfl 2 (by decide) (hts _ (List.mem_cons_of_mem _ (in_r4 (List.mem_of_getElem? (i := 2) rfl)))) (fun _ h9 => h9) rfl dX6_add_60 ?_
    refine lv_iload hx hb dX6_add_63 (lv_at hl 0 rfl) ?_
    refine lv_iconst (v := iI 4) hx hb dX6_add_65 rfl ?_
    refine lv_iadd hx hb dX6_add_66 ?_
    refine g_topi (y := iI ((a_count * 5) + 4)) (iI_add (a_count * 5) 4) ?_
    refine lv_iload hx hb dX6_add_67 (lv_at hl 6 rfl) ?_
    refine g_ist hx hb hK hP hD hS 0 rfl (by omega) (by omega) (by first | exact Nat.le_of_ble_eq_true rfl | omega) dX6_add_69 (fun H locs hP hD hS => ?_)
    have hb_14 := bd_u (k := (((a_count * 5) + 4).toNat)) (v := b4) hb_12 (by omega) (by omega)
    have hPD : PD G A H [iB G a_cells 30 (uI (uI (uI (uI (uI Fc ((a_count * 5).toNat) b0) (((a_count * 5) + 1).toNat) b1) (((a_count * 5) + 2).toNat) b2) (((a_count * 5) + 3).toNat) b3) (((a_count * 5) + 4).toNat) b4), oB5 q0 5 5 a_cells a_count] := ⟨hP, hD⟩
    have hP := hPD.1
    have hD := hPD.2
    clear hPD
    refine lv_aload_n hx hb dX6_add_70 rfl (lv_at hl 1 rfl) ?_
    refine lv_dup hx hb dX6_add_71 rfl ?_
    refine va_get (D := G.1) (ci := 5) (v := .int (iI a_count)) (C := RX6) (T := TX6) (N := 4) hx hb hts (fun _ h => List.mem_cons_of_mem _ (inlX6 _ h)) hown hK hP 1 rfl rfl 3 (by decide) (hts _ (List.mem_cons_of_mem _ (in_r7 (List.mem_of_getElem? (i := 7) rfl)))) (fun _ h9 => h9) rfl dX6_add_72 ?_
    refine lv_iconst (v := iI 1) hx hb dX6_add_75 rfl ?_
    refine lv_iadd hx hb dX6_add_76 ?_
    refine g_topi (y := iI (a_count + 1)) (iI_add a_count 1) ?_
    refine va_put (D := G.1) (ci := 5) (v := .int (iI (a_count + 1))) (ty := .int) (C := RX6) (T := TX6) (N := 4) hx hb hts (fun _ h => List.mem_cons_of_mem _ (inlX6 _ h)) tyX6 tyX6_ok nmX6 hown hK hP hD hS 1 rfl rfl 3 (by decide) (hts _ (List.mem_cons_of_mem _ (in_r7 (List.mem_of_getElem? (i := 7) rfl)))) (fun _ h9 => h9) rfl (by decide +kernel) rfl rfl (Nat.le_of_ble_eq_true rfl) dX6_add_77 (fun H locs hP hD hS => ?_)
    have hPD : PD G A H [iB G a_cells 30 (uI (uI (uI (uI (uI Fc ((a_count * 5).toNat) b0) (((a_count * 5) + 1).toNat) b1) (((a_count * 5) + 2).toNat) b2) (((a_count * 5) + 3).toNat) b3) (((a_count * 5) + 4).toNat) b4), oB5 q0 5 5 a_cells (a_count + 1)] := ⟨hP, hD⟩
    have hP := hPD.1
    have hD := hPD.2
    clear hPD
    refine lv_aload_n hx hb dX6_add_80 rfl (lv_at hl 1 rfl) ?_
    refine va_get (D := G.1) (ci := 5) (v := .int (iI (a_count + 1))) (C := RX6) (T := TX6) (N := 4) hx hb hts (fun _ h => List.mem_cons_of_mem _ (inlX6 _ h)) hown hK hP 1 rfl rfl 3 (by decide) (hts _ (List.mem_cons_of_mem _ (in_r7 (List.mem_of_getElem? (i := 7) rfl)))) (fun _ h9 => h9) rfl dX6_add_81 ?_
    have hP := hP.sub (ws' := [oB5 q0 5 5 a_cells (a_count + 1), iB G a_cells 30 (uI (uI (uI (uI (uI Fc ((a_count * 5).toNat) b0) (((a_count * 5) + 1).toNat) b1) (((a_count * 5) + 2).toNat) b2) (((a_count * 5) + 3).toNat) b3) (((a_count * 5) + 4).toNat) b4)]) [1, 0] rfl
    have hD := hD.sub (ws' := [oB5 q0 5 5 a_cells (a_count + 1), iB G a_cells 30 (uI (uI (uI (uI (uI Fc ((a_count * 5).toNat) b0) (((a_count * 5) + 1).toNat) b1) (((a_count * 5) + 2).toNat) b2) (((a_count * 5) + 3).toNat) b3) (((a_count * 5) + 4).toNat) b4)]) [1, 0] rfl rfl
    exact g_iret (v := (iI (a_count + 1))) hx hb hr hlocks hP hD hS (⟨(uI (uI (uI (uI (uI Fc ((a_count * 5).toNat) b0) (((a_count * 5) + 1).toNat) b1) (((a_count * 5) + 2).toNat) b2) (((a_count * 5) + 3).toNat) b3) (((a_count * 5) + 4).toNat) b4), rfl, (by first | exact hb_14 | exact bd_mono hb_14 (by omega) (by omega) | assumption), rfl, rfl⟩) dX6_add_84
theorem dX6_cell_0 : decode cX6_cell 0 = .ok (.iload_n 1, 1) := kd_27 (by decide +kernel)
theorem dX6_cell_1 : decode cX6_cell 1 = .ok (.iconst 0, 1) := kd_3 (by decide +kernel)
theorem dX6_cell_2 : decode cX6_cell 2 = .ok (.iconst 5, 1) := kd_8 (by decide +kernel)
theorem gX6_cell_X10_within_n33 : GoodIn wsX6_cell (wsX10_within) := gW_0 (in_r7 (List.mem_of_getElem? (i := 22) rfl))
theorem dX6_cell_3 : decode cX6_cell 3 = .ok (.invokestatic 33, 3) := kd_184 (a := 0) (b := 33) (by decide +kernel)
theorem dX6_cell_6 : decode cX6_cell 6 = .ok (.ifCond .eq 25, 3) := kd_153 (a := 0) (b := 25) (by decide +kernel)
theorem dX6_cell_9 : decode cX6_cell 9 = .ok (.iload_n 2, 1) := kd_28 (by decide +kernel)
theorem dX6_cell_10 : decode cX6_cell 10 = .ok (.iconst 0, 1) := kd_3 (by decide +kernel)
theorem dX6_cell_11 : decode cX6_cell 11 = .ok (.iconst 4, 1) := kd_7 (by decide +kernel)
theorem dX6_cell_12 : decode cX6_cell 12 = .ok (.invokestatic 33, 3) := kd_184 (a := 0) (b := 33) (by decide +kernel)
theorem dX6_cell_15 : decode cX6_cell 15 = .ok (.ifCond .eq 16, 3) := kd_153 (a := 0) (b := 16) (by decide +kernel)
theorem dX6_cell_18 : decode cX6_cell 18 = .ok (.aload_n 0, 1) := kd_42 (by decide +kernel)
theorem dX6_cell_19 : decode cX6_cell 19 = .ok (.getfield 9, 3) := kd_180 (a := 0) (b := 9) (by decide +kernel)
theorem dX6_cell_22 : decode cX6_cell 22 = .ok (.iload_n 1, 1) := kd_27 (by decide +kernel)
theorem dX6_cell_23 : decode cX6_cell 23 = .ok (.iconst 5, 1) := kd_8 (by decide +kernel)
theorem dX6_cell_24 : decode cX6_cell 24 = .ok (.imul, 1) := kd_104 (by decide +kernel)
theorem dX6_cell_25 : decode cX6_cell 25 = .ok (.iload_n 2, 1) := kd_28 (by decide +kernel)
theorem dX6_cell_26 : decode cX6_cell 26 = .ok (.iadd, 1) := kd_96 (by decide +kernel)
theorem dX6_cell_27 : decode cX6_cell 27 = .ok (.iaload, 1) := kd_46 (by decide +kernel)
theorem dX6_cell_28 : decode cX6_cell 28 = .ok (.goto 4, 3) := kd_167 (a := 0) (b := 4) (by decide +kernel)
theorem dX6_cell_32 : decode cX6_cell 32 = .ok (.ireturn, 1) := kd_172 (by decide +kernel)
set_option maxHeartbeats 8000000 in
set_option maxRecDepth 100000 in
theorem c_X6_cell_l (l : Launch) (G : gG) (q0 : Nat) (a_cells : Nat) (a_count : Int) (Fc : Nat → Int) (i0 : Int) (j0 : Int) (y0_ : bd 0 99 Fc) (y1_ : 0 ≤ a_count ∧ a_count ≤ 5) (hi : 0 ≤ i0 ∧ i0 ≤ 5) (hj : 0 ≤ j0 ∧ j0 ≤ 4) (sz : Nat) : gI G l yX6_cell wsX6_cell ({ frames := 1, cells := 0, slots := 0, locals := 22 } : Room) [.ref q0, .int (iI i0), .int (iI j0)] [oB5 q0 5 5 a_cells a_count, iB G a_cells 30 Fc] sz (fun (r : Int32) (u : va_W) => (∃ rr : Int, (rr = Fc (((i0 * 5) + j0).toNat)) ∧ (0 ≤ rr ∧ rr ≤ 99) ∧ r = (iI rr) ∧ u = [oB5 q0 5 5 a_cells a_count, iB G a_cells 30 Fc])) := by
  refine Met.ofW (cc := cX6_cell) (maxL := 3) (ret := (some .int)) (by decide) rfl ?_
  intro p e s m args below meth c s₁ B hml hv
  obtain ⟨rfl, hsz, hP, hK, hD0, hN, hZ⟩ := hv
  have hx := B.exec
  have hb := B.bytes
  have hr := B.returns
  have hts := atoms_spec (ws := wsX6_cell) B.pre
  have hown : s.vm.findClass RX6 = some m.cls := findClass_of_methodNamed B.named
  have hlocks := B.notSynchronized
  subst hsz
  have hD := hD0.self (sz := s.heap.size)
  generalize hAe : va_A [oB5 q0 5 5 a_cells a_count, iB G a_cells 30 Fc] s.heap.size = A at hD hZ ⊢
  have hA : ∀ q : Nat, s.heap.size ≤ q → A q := fun q h => by rw [← hAe]; exact Or.inr h
  have hS : va_S A s.heap s.heap [] := va_S.rf
  have hP : va_P G.1 vwCl [oB5 q0 5 5 a_cells a_count, iB G a_cells 30 Fc] s.heap := hP
  have hl := lv_entry ([.ref q0, .int (iI i0), .int (iI j0)]) (n := 3) (Nat.le_of_ble_eq_true rfl)
  rw [lg_entry_eq]
  generalize (lg_sl ([.ref q0, .int (iI i0), .int (iI j0)]) ++ List.replicate (3 - (lg_sl ([.ref q0, .int (iI i0), .int (iI j0)])).length) Slot.unset).toArray = ls at hl ⊢
  have hl : lv_has ls 3 [(0, .ref q0), (1, .int (iI i0)), (2, .int (iI j0))] := hl
  refine lv_iload_n hx hb dX6_cell_0 rfl (lv_at hl 1 rfl) ?_
  refine lv_iconst (v := iI 0) hx hb dX6_cell_1 rfl ?_
  refine lv_iconst (v := iI 5) hx hb dX6_cell_2 rfl ?_
  refine g_calli (wr := [oB5 q0 5 5 a_cells a_count, iB G a_cells 30 Fc]) (va_runSN (As := [.int (iI i0), .int (iI 0), .int (iI 5)]) (rest := []) ⟨hx, hb, hml, hown, hts⟩ (c_X10_within l G (i0) (0) (5) (by first | assumption | omega) (by first | assumption | omega) (by first | assumption | omega) _) (⟨va_cnB 3 hts gX6_cell_X10_within_n33 rfl rfl rfl (nw97 hN) (hts _ (List.mem_cons_of_mem _ (in_r1 (List.mem_of_getElem? (i := 2) rfl)))) (by decide +kernel) ⟨Nat.le_of_ble_eq_true rfl, Nat.le_of_ble_eq_true rfl⟩, (hts _ (List.mem_cons_of_mem _ (in_r7 (List.mem_of_getElem? (i := 21) rfl)))), trivial⟩) (g_preS [.int (iI i0), .int (iI 0), .int (iI 5)] hP hD hK hN hS hA hZ [] rfl rfl) rfl rfl hl.1 rfl (lv_room (Nat.le_of_ble_eq_true rfl)) dX6_cell_3 ⟨Nat.le_of_ble_eq_true rfl, Nat.le_of_ble_eq_true rfl⟩) hP hD hS hA [] [0, 1] rfl rfl rfl (by decide) (fun r_1 u H locs hw hP hD hS => ?_)
  rcases hw with hw | hw
  · refine ea_0_4 hw (fun k_2 k_3 e8_0 e8_1 => ?_)
    subst e8_0
    subst e8_1
    clear hw
    have hPD : PD G A H [oB5 q0 5 5 a_cells a_count, iB G a_cells 30 Fc] := ⟨hP, hD⟩
    have hP := hPD.1
    have hD := hPD.2
    clear hPD
    refine lv_if_eq (tgt := 31) hx hb dX6_cell_6 (by decide) (fun c_5 => g_no c_5 (by decide)) (fun _ => ?_)
    refine lv_iload_n hx hb dX6_cell_9 rfl (lv_at hl 2 rfl) ?_
    refine lv_iconst (v := iI 0) hx hb dX6_cell_10 rfl ?_
    refine lv_iconst (v := iI 4) hx hb dX6_cell_11 rfl ?_
    refine g_calli (wr := [oB5 q0 5 5 a_cells a_count, iB G a_cells 30 Fc]) (va_runSN (As := [.int (iI j0), .int (iI 0), .int (iI 4)]) (rest := []) ⟨hx, hb, hml, hown, hts⟩ (c_X10_within l G (j0) (0) (4) (by first | assumption | omega) (by first | assumption | omega) (by first | assumption | omega) _) (⟨va_cnB 3 hts gX6_cell_X10_within_n33 rfl rfl rfl (nw97 hN) (hts _ (List.mem_cons_of_mem _ (in_r1 (List.mem_of_getElem? (i := 2) rfl)))) (by decide +kernel) ⟨Nat.le_of_ble_eq_true rfl, Nat.le_of_ble_eq_true rfl⟩, (hts _ (List.mem_cons_of_mem _ (in_r7 (List.mem_of_getElem? (i := 21) rfl)))), trivial⟩) (g_preS [.int (iI j0), .int (iI 0), .int (iI 4)] hP hD hK hN hS hA hZ [] rfl rfl) rfl rfl hl.1 rfl (lv_room (Nat.le_of_ble_eq_true rfl)) dX6_cell_12 ⟨Nat.le_of_ble_eq_true rfl, Nat.le_of_ble_eq_true rfl⟩) hP hD hS hA [] [0, 1] rfl rfl rfl (by decide) (fun r_6 u H locs hw hP hD hS => ?_)
    rcases hw with hw | hw
    · refine ea_0_4 hw (fun k_7 k_8 e8_0 e8_1 => ?_)
      subst e8_0
      subst e8_1
      clear hw
      have hPD : PD G A H [oB5 q0 5 5 a_cells a_count, iB G a_cells 30 Fc] := ⟨hP, hD⟩
      have hP := hPD.1
      have hD := hPD.2
      clear hPD
      refine lv_if_eq (tgt := 31) hx hb dX6_cell_15 (by decide) (fun c_10 => g_no c_10 (by decide)) (fun _ => ?_)
      refine lv_aload_n hx hb dX6_cell_18 rfl (lv_at hl 0 rfl) ?_
      refine va_get (D := G.1) (ci := 5) (v := .ref a_cells) (C := RX6) (T := TX6) (N := 4) hx hb hts (fun _ h => List.mem_cons_of_mem _ (inlX6 _ h)) hown hK hP 0 rfl rfl 2 (by decide) (hts _ (List.mem_cons_of_mem _ (in_r4 (List.mem_of_getElem? (i := 2) rfl)))) (fun _ h9 => h9) rfl dX6_cell_19 ?_
      refine lv_iload_n hx hb dX6_cell_22 rfl (lv_at hl 1 rfl) ?_
      refine lv_iconst (v := iI 5) hx hb dX6_cell_23 rfl ?_
      refine lv_imul hx hb dX6_cell_24 ?_
      refine g_topi (y := iI (i0 * 5)) (iI_mul i0 5) ?_
      refine lv_iload_n hx hb dX6_cell_25 rfl (lv_at hl 2 rfl) ?_
      refine lv_iadd hx hb dX6_cell_26 ?_
      refine g_topi (y := iI ((i0 * 5) + j0)) (iI_add (i0 * 5) j0) ?_
      refine g_ild hx hb hK hP 1 rfl (by omega) (by omega) (by first | exact Nat.le_of_ble_eq_true rfl | omega) dX6_cell_27 (fun w_11 ew_11 => ?_)
      have ew_11 : Fc (((i0 * 5) + j0).toNat) = w_11 := ew_11
      subst ew_11
      have b0w_11 := y0_ (((i0 * 5) + j0).toNat)
      refine lv_goto (tgt := 32) hx hb dX6_cell_28 (by decide) ?_
      exact g_iret (v := (iI (Fc (((i0 * 5) + j0).toNat)))) hx hb hr hlocks hP hD hS (⟨(Fc (((i0 * 5) + j0).toNat)), (by first | assumption | omega), (by first | assumption | omega), rfl, rfl⟩) dX6_cell_32
    · refine ea_0_3 hw (fun k_9 e8_0 e8_1 => ?_)
      subst e8_0
      subst e8_1
      clear hw
      exact absurd k_9 (by omega)
  · refine ea_0_3 hw (fun k_4 e8_0 e8_1 => ?_)
    subst e8_0
    subst e8_1
    clear hw
    exact absurd k_4 (by omega)
theorem dX6_empty_0 : decode cX6_empty 0 = .ok (.aload_n 0, 1) := kd_42 (by decide +kernel)
theorem dX6_empty_1 : decode cX6_empty 1 = .ok (.getfield 26, 3) := kd_180 (a := 0) (b := 26) (by decide +kernel)
theorem dX6_empty_4 : decode cX6_empty 4 = .ok (.istore_n 1, 1) := kd_60 (by decide +kernel)
theorem dX6_empty_5 : decode cX6_empty 5 = .ok (.aload_n 0, 1) := kd_42 (by decide +kernel)
theorem dX6_empty_6 : decode cX6_empty 6 = .ok (.iconst 0, 1) := kd_3 (by decide +kernel)
theorem dX6_empty_7 : decode cX6_empty 7 = .ok (.putfield 26, 3) := kd_181 (a := 0) (b := 26) (by decide +kernel)
theorem dX6_empty_10 : decode cX6_empty 10 = .ok (.iload_n 1, 1) := kd_27 (by decide +kernel)
theorem dX6_empty_11 : decode cX6_empty 11 = .ok (.ireturn, 1) := kd_172 (by decide +kernel)
set_option maxHeartbeats 8000000 in
set_option maxRecDepth 100000 in
theorem c_X6_empty_l (l : Launch) (G : gG) (q0 : Nat) (a_cells : Nat) (a_count : Int) (sz : Nat) : gI G l yX6_empty wsX6_empty ({ frames := 0, cells := 0, slots := 0, locals := 0 } : Room) [.ref q0] [oB5 q0 5 5 a_cells a_count] sz (fun (r : Int32) (u : va_W) => (r = (iI a_count) ∧ u = [oB5 q0 5 5 a_cells 0])) := by
  refine Met.ofW (cc := cX6_empty) (maxL := 2) (ret := (some .int)) (by decide) rfl ?_
  intro p e s m args below meth c s₁ B hml hv
  obtain ⟨rfl, hsz, hP, hK, hD0, hN, hZ⟩ := hv
  have hx := B.exec
  have hb := B.bytes
  have hr := B.returns
  have hts := atoms_spec (ws := wsX6_empty) B.pre
  have hown : s.vm.findClass RX6 = some m.cls := findClass_of_methodNamed B.named
  have hlocks := B.notSynchronized
  subst hsz
  have hD := hD0.self (sz := s.heap.size)
  generalize hAe : va_A [oB5 q0 5 5 a_cells a_count] s.heap.size = A at hD hZ ⊢
  have hA : ∀ q : Nat, s.heap.size ≤ q → A q := fun q h => by rw [← hAe]; exact Or.inr h
  have hS : va_S A s.heap s.heap [] := va_S.rf
  have hP : va_P G.1 vwCl [oB5 q0 5 5 a_cells a_count] s.heap := hP
  have hl := lv_entry ([.ref q0]) (n := 2) (Nat.le_of_ble_eq_true rfl)
  rw [lg_entry_eq]
  generalize (lg_sl ([.ref q0]) ++ List.replicate (2 - (lg_sl ([.ref q0])).length) Slot.unset).toArray = ls at hl ⊢
  have hl : lv_has ls 2 [(0, .ref q0)] := hl
  refine lv_aload_n hx hb dX6_empty_0 rfl (lv_at hl 0 rfl) ?_
  refine va_get (D := G.1) (ci := 5) (v := .int (iI a_count)) (C := RX6) (T := TX6) (N := 4) hx hb hts (fun _ h => List.mem_cons_of_mem _ (inlX6 _ h)) hown hK hP 0 rfl rfl 3 (by decide) (hts _ (List.mem_cons_of_mem _ (in_r7 (List.mem_of_getElem? (i := 7) rfl)))) (fun _ h9 => h9) rfl dX6_empty_1 ?_
  refine lv_istore_n (lv' := [(1, .int (iI a_count)), (0, .ref q0)]) hx hb dX6_empty_4 rfl hl (by decide) rfl (fun ls hl => ?_)
  refine lv_aload_n hx hb dX6_empty_5 rfl (lv_at hl 1 rfl) ?_
  refine lv_iconst (v := iI 0) hx hb dX6_empty_6 rfl ?_
  refine va_put (D := G.1) (ci := 5) (v := .int (iI 0)) (ty := .int) (C := RX6) (T := TX6) (N := 4) hx hb hts (fun _ h => List.mem_cons_of_mem _ (inlX6 _ h)) tyX6 tyX6_ok nmX6 hown hK hP hD hS 0 rfl rfl 3 (by decide) (hts _ (List.mem_cons_of_mem _ (in_r7 (List.mem_of_getElem? (i := 7) rfl)))) (fun _ h9 => h9) rfl (by decide +kernel) rfl rfl (Nat.le_of_ble_eq_true rfl) dX6_empty_7 (fun H locs hP hD hS => ?_)
  have hPD : PD G A H [oB5 q0 5 5 a_cells 0] := ⟨hP, hD⟩
  have hP := hPD.1
  have hD := hPD.2
  clear hPD
  refine lv_iload_n hx hb dX6_empty_10 rfl (lv_at hl 0 rfl) ?_
  exact g_iret (v := (iI a_count)) hx hb hr hlocks hP hD hS (⟨rfl, rfl⟩) dX6_empty_11
theorem dX6_takeOver_0 : decode cX6_takeOver 0 = .ok (.aload_n 0, 1) := kd_42 (by decide +kernel)
theorem dX6_takeOver_1 : decode cX6_takeOver 1 = .ok (.aload_n 1, 1) := kd_43 (by decide +kernel)
theorem dX6_takeOver_2 : decode cX6_takeOver 2 = .ok (.getfield 26, 3) := kd_180 (a := 0) (b := 26) (by decide +kernel)
theorem dX6_takeOver_5 : decode cX6_takeOver 5 = .ok (.putfield 26, 3) := kd_181 (a := 0) (b := 26) (by decide +kernel)
theorem dX6_takeOver_8 : decode cX6_takeOver 8 = .ok (.aload_n 1, 1) := kd_43 (by decide +kernel)
theorem dX6_takeOver_9 : decode cX6_takeOver 9 = .ok (.getfield 9, 3) := kd_180 (a := 0) (b := 9) (by decide +kernel)
theorem dX6_takeOver_12 : decode cX6_takeOver 12 = .ok (.iconst 0, 1) := kd_3 (by decide +kernel)
theorem dX6_takeOver_13 : decode cX6_takeOver 13 = .ok (.aload_n 0, 1) := kd_42 (by decide +kernel)
theorem dX6_takeOver_14 : decode cX6_takeOver 14 = .ok (.getfield 9, 3) := kd_180 (a := 0) (b := 9) (by decide +kernel)
theorem dX6_takeOver_17 : decode cX6_takeOver 17 = .ok (.iconst 0, 1) := kd_3 (by decide +kernel)
theorem dX6_takeOver_18 : decode cX6_takeOver 18 = .ok (.bipush 30, 2) := kd_16 (a := 30) (by decide +kernel)
theorem dX6_takeOver_20 : decode cX6_takeOver 20 = .ok (.invokestatic 39, 3) := kd_184 (a := 0) (b := 39) (by decide +kernel)
theorem dX6_takeOver_23 : decode cX6_takeOver 23 = .ok (.return_, 1) := kd_177 (by decide +kernel)
set_option maxHeartbeats 8000000 in
set_option maxRecDepth 100000 in
theorem c_X6_takeOver_l (l : Launch) (G : gG) (q0 : Nat) (a_cells : Nat) (a_count : Int) (Fc : Nat → Int) (q1 : Nat) (b_cells : Nat) (b_count : Int) (Fd : Nat → Int) (sz : Nat) : gV G l yX6_takeOver wsX6_takeOver ({ frames := 1, cells := 0, slots := 0, locals := 24 } : Room) [.ref q0, .ref q1] [oB5 q0 5 5 a_cells a_count, iB G a_cells 30 Fc, oB5 q1 5 5 b_cells b_count, iB G b_cells 30 Fd] sz (fun (u : va_W) => (u = [oB5 q0 5 5 a_cells b_count, iB G a_cells 30 Fd, oB5 q1 5 5 b_cells b_count, iB G b_cells 30 Fd])) := by
  refine Met.ofW (cc := cX6_takeOver) (maxL := 2) (ret := none) (by decide) rfl ?_
  intro p e s m args below meth c s₁ B hml hv
  obtain ⟨rfl, hsz, hP, hK, hD0, hN, hZ⟩ := hv
  have hx := B.exec
  have hb := B.bytes
  have hr := B.returns
  have hts := atoms_spec (ws := wsX6_takeOver) B.pre
  have hown : s.vm.findClass RX6 = some m.cls := findClass_of_methodNamed B.named
  have hlocks := B.notSynchronized
  subst hsz
  have hD := hD0.self (sz := s.heap.size)
  generalize hAe : va_A [oB5 q0 5 5 a_cells a_count, iB G a_cells 30 Fc, oB5 q1 5 5 b_cells b_count, iB G b_cells 30 Fd] s.heap.size = A at hD hZ ⊢
  have hA : ∀ q : Nat, s.heap.size ≤ q → A q := fun q h => by rw [← hAe]; exact Or.inr h
  have hS : va_S A s.heap s.heap [] := va_S.rf
  have hP : va_P G.1 vwCl [oB5 q0 5 5 a_cells a_count, iB G a_cells 30 Fc, oB5 q1 5 5 b_cells b_count, iB G b_cells 30 Fd] s.heap := hP
  have hl := lv_entry ([.ref q0, .ref q1]) (n := 2) (Nat.le_of_ble_eq_true rfl)
  rw [lg_entry_eq]
  generalize (lg_sl ([.ref q0, .ref q1]) ++ List.replicate (2 - (lg_sl ([.ref q0, .ref q1])).length) Slot.unset).toArray = ls at hl ⊢
  have hl : lv_has ls 2 [(0, .ref q0), (1, .ref q1)] := hl
  refine lv_aload_n hx hb dX6_takeOver_0 rfl (lv_at hl 0 rfl) ?_
  refine lv_aload_n hx hb dX6_takeOver_1 rfl (lv_at hl 1 rfl) ?_
  refine va_get (D := G.1) (ci := 5) (v := .int (iI b_count)) (C := RX6) (T := TX6) (N := 4) hx hb hts (fun _ h => List.mem_cons_of_mem _ (inlX6 _ h)) hown hK hP 2 rfl rfl 3 (by decide) (hts _ (List.mem_cons_of_mem _ (in_r7 (List.mem_of_getElem? (i := 7) rfl)))) (fun _ h9 => h9) rfl dX6_takeOver_2 ?_
  refine va_put (D := G.1) (ci := 5) (v := .int (iI b_count)) (ty := .int) (C := RX6) (T := TX6) (N := 4) hx hb hts (fun _ h => List.mem_cons_of_mem _ (inlX6 _ h)) tyX6 tyX6_ok nmX6 hown hK hP hD hS 0 rfl rfl 3 (by decide) (hts _ (List.mem_cons_of_mem _ (in_r7 (List.mem_of_getElem? (i := 7) rfl)))) (fun _ h9 => h9) rfl (by decide +kernel) rfl rfl (Nat.le_of_ble_eq_true rfl) dX6_takeOver_5 (fun H locs hP hD hS => ?_)
  have hPD : PD G A H [oB5 q0 5 5 a_cells b_count, iB G a_cells 30 Fc, oB5 q1 5 5 b_cells b_count, iB G b_cells 30 Fd] := ⟨hP, hD⟩
  have hP := hPD.1
  have hD := hPD.2
  clear hPD
  refine lv_aload_n hx hb dX6_takeOver_8 rfl (lv_at hl 1 rfl) ?_
  refine va_get (D := G.1) (ci := 5) (v := .ref b_cells) (C := RX6) (T := TX6) (N := 4) hx hb hts (fun _ h => List.mem_cons_of_mem _ (inlX6 _ h)) hown hK hP 2 rfl rfl 2 (by decide) (hts _ (List.mem_cons_of_mem _ (in_r4 (List.mem_of_getElem? (i := 2) rfl)))) (fun _ h9 => h9) rfl dX6_takeOver_9 ?_
  refine lv_iconst (v := iI 0) hx hb dX6_takeOver_12 rfl ?_
  refine lv_aload_n hx hb dX6_takeOver_13 rfl (lv_at hl 0 rfl) ?_
  refine va_get (D := G.1) (ci := 5) (v := .ref a_cells) (C := RX6) (T := TX6) (N := 4) hx hb hts (fun _ h => List.mem_cons_of_mem _ (inlX6 _ h)) hown hK hP 0 rfl rfl 2 (by decide) (hts _ (List.mem_cons_of_mem _ (in_r4 (List.mem_of_getElem? (i := 2) rfl)))) (fun _ h9 => h9) rfl dX6_takeOver_14 ?_
  refine lv_iconst (v := iI 0) hx hb dX6_takeOver_17 rfl ?_
  refine lv_bipush (v := iI 30) hx hb dX6_takeOver_18 (by decide) ?_
  refine g_copyF (rest := []) hx hb (hml.trans hl.1.symm) hown (hts _ (List.mem_cons_of_mem _ (in_r41 (List.mem_of_getElem? (i := 13) rfl)))) (hts _ (List.mem_cons_of_mem _ (in_r23 (List.mem_of_getElem? (i := 19) rfl)))) (hts _ (List.mem_cons_of_mem _ (in_r23 (List.mem_of_getElem? (i := 20) rfl)))) (hts _ (List.mem_cons_of_mem _ (in_r23 (List.mem_of_getElem? (i := 21) rfl)))) hK hP hD hS 3 1 rfl rfl (by decide) (by decide) (Nat.le_of_ble_eq_true rfl) (Nat.le_of_ble_eq_true rfl) dX6_takeOver_20 (fun H locs hP hD hS => ?_)
  have hPD : PD G A H [oB5 q0 5 5 a_cells b_count, iB G a_cells 30 Fd, oB5 q1 5 5 b_cells b_count, iB G b_cells 30 Fd] := ⟨hP, hD⟩
  have hP := hPD.1
  have hD := hPD.2
  clear hPD
  exact g_vret hx hb hr hlocks hP hD hS (rfl) dX6_takeOver_23
theorem dX6_mixRows_0 : decode cX6_mixRows 0 = .ok (.lload_n 1, 1) := kd_31 (by decide +kernel)
theorem dX6_mixRows_1 : decode cX6_mixRows 1 = .ok (.lstore_n 3, 1) := kd_66 (by decide +kernel)
theorem dX6_mixRows_2 : decode cX6_mixRows 2 = .ok (.iconst 0, 1) := kd_3 (by decide +kernel)
theorem dX6_mixRows_3 : decode cX6_mixRows 3 = .ok (.istore 5, 2) := kd_54 (a := 5) (by decide +kernel)
theorem dX6_mixRows_5 : decode cX6_mixRows 5 = .ok (.iload 5, 2) := kd_21 (a := 5) (by decide +kernel)
theorem dX6_mixRows_7 : decode cX6_mixRows 7 = .ok (.aload_n 0, 1) := kd_42 (by decide +kernel)
theorem dX6_mixRows_8 : decode cX6_mixRows 8 = .ok (.getfield 26, 3) := kd_180 (a := 0) (b := 26) (by decide +kernel)
theorem dX6_mixRows_11 : decode cX6_mixRows 11 = .ok (.if_icmp .ge 43, 3) := kd_162 (a := 0) (b := 43) (by decide +kernel)
theorem dX6_mixRows_54 : decode cX6_mixRows 54 = .ok (.lload_n 3, 1) := kd_33 (by decide +kernel)
theorem dX6_mixRows_55 : decode cX6_mixRows 55 = .ok (.lreturn, 1) := kd_173 (by decide +kernel)
theorem dX6_mixRows_14 : decode cX6_mixRows 14 = .ok (.iconst 0, 1) := kd_3 (by decide +kernel)
theorem dX6_mixRows_15 : decode cX6_mixRows 15 = .ok (.istore 6, 2) := kd_54 (a := 6) (by decide +kernel)
theorem dX6_mixRows_17 : decode cX6_mixRows 17 = .ok (.iload 6, 2) := kd_21 (a := 6) (by decide +kernel)
theorem dX6_mixRows_19 : decode cX6_mixRows 19 = .ok (.aload_n 0, 1) := kd_42 (by decide +kernel)
theorem dX6_mixRows_20 : decode cX6_mixRows 20 = .ok (.getfield 19, 3) := kd_180 (a := 0) (b := 19) (by decide +kernel)
theorem dX6_mixRows_23 : decode cX6_mixRows 23 = .ok (.if_icmp .ge 25, 3) := kd_162 (a := 0) (b := 25) (by decide +kernel)
theorem dX6_mixRows_48 : decode cX6_mixRows 48 = .ok (.iinc 5 1, 3) := kd_132 (a := 5) (b := 1) (by decide +kernel)
theorem dX6_mixRows_51 : decode cX6_mixRows 51 = .ok (.goto (-46), 3) := kd_167 (a := 255) (b := 210) (by decide +kernel)
theorem dX6_mixRows_26 : decode cX6_mixRows 26 = .ok (.ldc2_w 45, 3) := kd_20 (a := 0) (b := 45) (by decide +kernel)
theorem dX6_mixRows_29 : decode cX6_mixRows 29 = .ok (.lload_n 3, 1) := kd_33 (by decide +kernel)
theorem dX6_mixRows_30 : decode cX6_mixRows 30 = .ok (.lmul, 1) := kd_105 (by decide +kernel)
theorem dX6_mixRows_31 : decode cX6_mixRows 31 = .ok (.aload_n 0, 1) := kd_42 (by decide +kernel)
theorem dX6_mixRows_32 : decode cX6_mixRows 32 = .ok (.iload 5, 2) := kd_21 (a := 5) (by decide +kernel)
theorem dX6_mixRows_34 : decode cX6_mixRows 34 = .ok (.iload 6, 2) := kd_21 (a := 6) (by decide +kernel)
theorem gX6_mixRows_X6_cell : GoodIn wsX6_mixRows (wsV RX6 47 RX6 yX6_cell wsX6_cell) := gW_V (in_r43 (List.mem_of_getElem? (i := 20) rfl)) (in_r33 (List.mem_of_getElem? (i := 0) rfl)) (in_r33 (List.mem_of_getElem? (i := 1) rfl)) (in_r3 (List.mem_of_getElem? (i := 13) rfl)) (in_r33 (List.mem_of_getElem? (i := 2) rfl))
theorem dX6_mixRows_36 : decode cX6_mixRows 36 = .ok (.invokevirtual 47, 3) := kd_182 (a := 0) (b := 47) (by decide +kernel)
theorem dX6_mixRows_39 : decode cX6_mixRows 39 = .ok (.i2l, 1) := kd_133 (by decide +kernel)
theorem dX6_mixRows_40 : decode cX6_mixRows 40 = .ok (.ladd, 1) := kd_97 (by decide +kernel)
theorem dX6_mixRows_41 : decode cX6_mixRows 41 = .ok (.lstore_n 3, 1) := kd_66 (by decide +kernel)
theorem dX6_mixRows_42 : decode cX6_mixRows 42 = .ok (.iinc 6 1, 3) := kd_132 (a := 6) (b := 1) (by decide +kernel)
theorem dX6_mixRows_45 : decode cX6_mixRows 45 = .ok (.goto (-28), 3) := kd_167 (a := 255) (b := 228) (by decide +kernel)
set_option maxHeartbeats 8000000 in
set_option maxRecDepth 100000 in
theorem c_X6_mixRows_l (l : Launch) (G : gG) (q0 : Nat) (a_cells : Nat) (a_count : Int) (Fc : Nat → Int) (s0 : Int) (y0_ : bd 0 99 Fc) (y1_ : 0 ≤ a_count ∧ a_count ≤ 5) (sz : Nat) : gL G l yX6_mixRows wsX6_mixRows ({ frames := 2, cells := 0, slots := 0, locals := 44 } : Room) [.ref q0, .long (lI s0)] [oB5 q0 5 5 a_cells a_count, iB G a_cells 30 Fc] sz (fun (r : Int64) (u : va_W) => (∃ rr : Int, r = (lI rr) ∧ u = [oB5 q0 5 5 a_cells a_count, iB G a_cells 30 Fc])) := by
  refine Met.ofW (cc := cX6_mixRows) (maxL := 7) (ret := (some .long)) (by decide) rfl ?_
  intro p e s m args below meth c s₁ B hml hv
  obtain ⟨rfl, hsz, hP, hK, hD0, hN, hZ⟩ := hv
  have hx := B.exec
  have hb := B.bytes
  have hr := B.returns
  have hts := atoms_spec (ws := wsX6_mixRows) B.pre
  have hown : s.vm.findClass RX6 = some m.cls := findClass_of_methodNamed B.named
  have hlocks := B.notSynchronized
  subst hsz
  have hD := hD0.self (sz := s.heap.size)
  generalize hAe : va_A [oB5 q0 5 5 a_cells a_count, iB G a_cells 30 Fc] s.heap.size = A at hD hZ ⊢
  have hA : ∀ q : Nat, s.heap.size ≤ q → A q := fun q h => by rw [← hAe]; exact Or.inr h
  have hS : va_S A s.heap s.heap [] := va_S.rf
  have hP : va_P G.1 vwCl [oB5 q0 5 5 a_cells a_count, iB G a_cells 30 Fc] s.heap := hP
  have hl := lv_entry ([.ref q0, .long (lI s0)]) (n := 7) (Nat.le_of_ble_eq_true rfl)
  rw [lg_entry_eq]
  generalize (lg_sl ([.ref q0, .long (lI s0)]) ++ List.replicate (7 - (lg_sl ([.ref q0, .long (lI s0)])).length) Slot.unset).toArray = ls at hl ⊢
  have hl : lv_has ls 7 [(0, .ref q0), (1, .long (lI s0))] := hl
  refine lv_lload_n hx hb dX6_mixRows_0 rfl (lv_at hl 1 rfl) ?_
  refine lv_lstore_n (lv' := [(3, .long (lI s0)), (0, .ref q0), (1, .long (lI s0))]) hx hb dX6_mixRows_1 rfl hl (by decide) rfl (fun ls hl => ?_)
  refine lv_iconst (v := iI 0) hx hb dX6_mixRows_2 rfl ?_
  refine lv_istore (lv' := [(5, .int (iI 0)), (3, .long (lI s0)), (0, .ref q0), (1, .long (lI s0))]) hx hb dX6_mixRows_3 hl (by decide) rfl (fun ls hl => ?_)
  refine g_loopN (pc := 5) (fun nn H locs ls => ∃ h0__1 : Int, ∃ i0_2 : Int, (0 ≤ i0_2 ∧ i0_2 ≤ 6) ∧ (6 - i0_2).toNat = nn ∧ va_P G.1 vwCl [oB5 q0 5 5 a_cells a_count, iB G a_cells 30 Fc] H ∧ va_D A [oB5 q0 5 5 a_cells a_count, iB G a_cells 30 Fc] ∧ va_S A s.heap H locs ∧ lv_has ls 7 [(5, .int (iI i0_2)), (3, .long (lI h0__1)), (0, .ref q0), (1, .long (lI s0))]) ?_ ⟨s0, 0, (by first | assumption | omega), rfl, hP, hD, hS, lv_sub hl [0, 1, 2, 3] rfl⟩
  intro nn_5 H locs ls ih_4 hI
  refine ea_2_6 hI (fun h0__1 i0_2 f_3 hnn_6 hP hD hS hl => ?_)
  clear hI
  refine lv_iload hx hb dX6_mixRows_5 (lv_at hl 0 rfl) ?_
  refine lv_aload_n hx hb dX6_mixRows_7 rfl (lv_at hl 2 rfl) ?_
  refine va_get (D := G.1) (ci := 5) (v := .int (iI a_count)) (C := RX6) (T := TX6) (N := 4) hx hb hts (fun _ h => List.mem_cons_of_mem _ (inlX6 _ h)) hown hK hP 0 rfl rfl 3 (by decide) (hts _ (List.mem_cons_of_mem _ (in_r7 (List.mem_of_getElem? (i := 7) rfl)))) (fun _ h9 => h9) rfl dX6_mixRows_8 ?_
  refine lv_icmp_ge (tgt := 54) hx hb dX6_mixRows_11 (by decide) (fun c_7 => ?_) (fun c_7 => ?_)
  · have c_7 := (iI_le (a := a_count) (b := i0_2) (by omega) (by omega)).mp c_7
    refine lv_lload_n hx hb dX6_mixRows_54 rfl (lv_at hl 1 rfl) ?_
    exact g_lret (v := (lI h0__1)) hx hb hr hlocks hP hD hS (⟨h0__1, rfl, rfl⟩) dX6_mixRows_55
  · have c_7 : ¬ (a_count ≤ i0_2) := fun h9 => c_7 ((iI_le (a := a_count) (b := i0_2) (by omega) (by omega)).mpr h9)
    refine lv_iconst (v := iI 0) hx hb dX6_mixRows_14 rfl ?_
    refine lv_istore (lv' := [(6, .int (iI 0)), (5, .int (iI i0_2)), (3, .long (lI h0__1)), (0, .ref q0), (1, .long (lI s0))]) hx hb dX6_mixRows_15 hl (by decide) rfl (fun ls hl => ?_)
    refine g_loopN (pc := 17) (fun nn H locs ls => ∃ h0__8 : Int, ∃ j0_9 : Int, (0 ≤ j0_9 ∧ j0_9 ≤ 5) ∧ (5 - j0_9).toNat = nn ∧ va_P G.1 vwCl [oB5 q0 5 5 a_cells a_count, iB G a_cells 30 Fc] H ∧ va_D A [oB5 q0 5 5 a_cells a_count, iB G a_cells 30 Fc] ∧ va_S A s.heap H locs ∧ lv_has ls 7 [(6, .int (iI j0_9)), (5, .int (iI i0_2)), (3, .long (lI h0__8)), (0, .ref q0), (1, .long (lI s0))]) ?_ ⟨h0__1, 0, (by first | assumption | omega), rfl, hP, hD, hS, lv_sub hl [0, 1, 2, 3, 4] rfl⟩
    intro nn_12 H locs ls ih_11 hI
    refine ea_2_6 hI (fun h0__8 j0_9 f_10 hnn_13 hP hD hS hl => ?_)
    clear hI
    refine lv_iload hx hb dX6_mixRows_17 (lv_at hl 0 rfl) ?_
    refine lv_aload_n hx hb dX6_mixRows_19 rfl (lv_at hl 3 rfl) ?_
    refine va_get (D := G.1) (ci := 5) (v := .int (iI 5)) (C := RX6) (T := TX6) (N := 4) hx hb hts (fun _ h => List.mem_cons_of_mem _ (inlX6 _ h)) hown hK hP 0 rfl rfl 0 (by decide) (hts _ (List.mem_cons_of_mem _ (in_r4 (List.mem_of_getElem? (i := 7) rfl)))) (fun _ h9 => h9) rfl dX6_mixRows_20 ?_
    refine lv_icmp_ge (tgt := 48) hx hb dX6_mixRows_23 (by decide) (fun c_14 => ?_) (fun c_14 => ?_)
    · have c_14 := (iI_le (a := 5) (b := j0_9) (by first | decide | omega) (by omega)).mp c_14
      refine lv_iinc (v := iI (i0_2 + 1)) (lv' := [(5, .int (iI (i0_2 + 1))), (6, .int (iI j0_9)), (3, .long (lI h0__8)), (0, .ref q0), (1, .long (lI s0))]) hx hb dX6_mixRows_48 hl (k := 1) rfl (iI_add i0_2 1) (by decide) rfl (fun ls hl => ?_)
      refine lv_goto (tgt := 5) hx hb dX6_mixRows_51 (by decide) ?_
      exact ih_4 _ _ _ _ (by omega) ⟨h0__8, (i0_2 + 1), (by first | assumption | omega), rfl, hP, hD, hS, lv_sub hl [0, 2, 3, 4] rfl⟩
    · have c_14 : ¬ (5 ≤ j0_9) := fun h9 => c_14 ((iI_le (a := 5) (b := j0_9) (by first | decide | omega) (by omega)).mpr h9)
      refine lv_ldc2 (v := 31) hx hb hown (hts _ (List.mem_cons_of_mem _ (in_r43 (List.mem_of_getElem? (i := 19) rfl)))) dX6_mixRows_26 ?_
      refine g_topl (y := lI 31) (by decide) ?_
      refine lv_lload_n hx hb dX6_mixRows_29 rfl (lv_at hl 2 rfl) ?_
      refine lv_lmul hx hb dX6_mixRows_30 ?_
      refine g_topol (fun z_15 hz_15 => ?_)
      refine lv_aload_n hx hb dX6_mixRows_31 rfl (lv_at hl 3 rfl) ?_
      refine lv_iload hx hb dX6_mixRows_32 (lv_at hl 1 rfl) ?_
      refine lv_iload hx hb dX6_mixRows_34 (lv_at hl 0 rfl) ?_
      refine g_calli (wr := []) (va_runV (As := [.int (iI i0_2), .int (iI j0_9)]) (rest := [.long (lI z_15)]) ⟨hx, hb, hml, hown, hts⟩ (c_X6_cell_l l G (q0) (a_cells) (a_count) (Fc) (i0_2) (j0_9) (by first | exact y0_ | exact bd_mono y0_ (by omega) (by omega) | assumption) (by first | exact y1_ | assumption | omega) (by first | assumption | omega) (by first | assumption | omega) _) (cwV 2 hts gX6_mixRows_X6_cell rfl rfl rfl (by decide +kernel) ⟨Nat.le_of_ble_eq_true rfl, Nat.le_of_ble_eq_true rfl⟩) (g_preV q0 [.int (iI i0_2), .int (iI j0_9)] hP hD hK hN hS hA hZ [0, 1] rfl rfl 0 (ci := 5) rfl rfl) rfl rfl hl.1 rfl (lv_room (Nat.le_of_ble_eq_true rfl)) dX6_mixRows_36 ⟨Nat.le_of_ble_eq_true rfl, Nat.le_of_ble_eq_true rfl⟩) hP hD hS hA [0, 1] [] rfl rfl rfl (by decide) (fun r_16 u H locs hw hP hD hS => ?_)
      refine ea_1_4 hw (fun rr_17 k_18 k_19 e8_0 e8_1 => ?_)
      subst e8_0
      subst e8_1
      clear hw
      have hPD : PD G A H [oB5 q0 5 5 a_cells a_count, iB G a_cells 30 Fc] := ⟨hP, hD⟩
      have hP := hPD.1
      have hD := hPD.2
      clear hPD
      refine lv_i2l hx hb dX6_mixRows_39 rfl ?_
      refine g_topol (fun z_20 hz_20 => ?_)
      refine lv_ladd hx hb dX6_mixRows_40 ?_
      refine g_topol (fun z_21 hz_21 => ?_)
      refine lv_lstore_n (lv' := [(3, .long (lI z_21)), (6, .int (iI j0_9)), (5, .int (iI i0_2)), (0, .ref q0), (1, .long (lI s0))]) hx hb dX6_mixRows_41 rfl hl (by decide) rfl (fun ls hl => ?_)
      refine lv_iinc (v := iI (j0_9 + 1)) (lv' := [(6, .int (iI (j0_9 + 1))), (3, .long (lI z_21)), (5, .int (iI i0_2)), (0, .ref q0), (1, .long (lI s0))]) hx hb dX6_mixRows_42 hl (k := 1) rfl (iI_add j0_9 1) (by decide) rfl (fun ls hl => ?_)
      refine lv_goto (tgt := 17) hx hb dX6_mixRows_45 (by decide) ?_
      exact ih_11 _ _ _ _ (by omega) ⟨z_21, (j0_9 + 1), (by first | assumption | omega), rfl, hP, hD, hS, lv_sub hl [0, 2, 1, 3, 4] rfl⟩
set_option maxHeartbeats 8000000 in
set_option maxRecDepth 100000 in
theorem c_X6_isFull_n (l : Launch) (G : gG) (q0 : Nat) (a_cells : Nat) (a_count : Int) (hc : 0 ≤ a_count ∧ a_count ≤ 6) (sz : Nat) : gI G l yX6_isFull wsX6_isFull ({ frames := 0, cells := 0, slots := 0, locals := 0 } : Room) [.ref q0] [oB5 q0 5 6 a_cells a_count] sz (fun (r : Int32) (u : va_W) => ((a_count = 6) ∧ r = (iI 1) ∧ u = [oB5 q0 5 6 a_cells a_count]) ∨ ((a_count < 6) ∧ r = (iI 0) ∧ u = [oB5 q0 5 6 a_cells a_count])) := by
  refine Met.ofW (cc := cX6_isFull) (maxL := 1) (ret := (some .boolean)) (by decide) rfl ?_
  intro p e s m args below meth c s₁ B hml hv
  obtain ⟨rfl, hsz, hP, hK, hD0, hN, hZ⟩ := hv
  have hx := B.exec
  have hb := B.bytes
  have hr := B.returns
  have hts := atoms_spec (ws := wsX6_isFull) B.pre
  have hown : s.vm.findClass RX6 = some m.cls := findClass_of_methodNamed B.named
  have hlocks := B.notSynchronized
  subst hsz
  have hD := hD0.self (sz := s.heap.size)
  generalize hAe : va_A [oB5 q0 5 6 a_cells a_count] s.heap.size = A at hD hZ ⊢
  have hA : ∀ q : Nat, s.heap.size ≤ q → A q := fun q h => by rw [← hAe]; exact Or.inr h
  have hS : va_S A s.heap s.heap [] := va_S.rf
  have hP : va_P G.1 vwCl [oB5 q0 5 6 a_cells a_count] s.heap := hP
  have hl := lv_entry ([.ref q0]) (n := 1) (Nat.le_of_ble_eq_true rfl)
  rw [lg_entry_eq]
  generalize (lg_sl ([.ref q0]) ++ List.replicate (1 - (lg_sl ([.ref q0])).length) Slot.unset).toArray = ls at hl ⊢
  have hl : lv_has ls 1 [(0, .ref q0)] := hl
  refine lv_aload_n hx hb dX6_isFull_0 rfl (lv_at hl 0 rfl) ?_
  refine va_get (D := G.1) (ci := 5) (v := .int (iI a_count)) (C := RX6) (T := TX6) (N := 4) hx hb hts (fun _ h => List.mem_cons_of_mem _ (inlX6 _ h)) hown hK hP 0 rfl rfl 3 (by decide) (hts _ (List.mem_cons_of_mem _ (in_r7 (List.mem_of_getElem? (i := 7) rfl)))) (fun _ h9 => h9) rfl dX6_isFull_1 ?_
  refine lv_aload_n hx hb dX6_isFull_4 rfl (lv_at hl 0 rfl) ?_
  refine va_get (D := G.1) (ci := 5) (v := .int (iI 6)) (C := RX6) (T := TX6) (N := 4) hx hb hts (fun _ h => List.mem_cons_of_mem _ (inlX6 _ h)) hown hK hP 0 rfl rfl 1 (by decide) (hts _ (List.mem_cons_of_mem _ (in_r4 (List.mem_of_getElem? (i := 8) rfl)))) (fun _ h9 => h9) rfl dX6_isFull_5 ?_
  refine lv_icmp_lt (tgt := 15) hx hb dX6_isFull_8 (by decide) (fun c_1 => ?_) (fun c_1 => ?_)
  · have c_1 := (iI_lt (a := a_count) (b := 6) (by omega) (by first | decide | omega)).mp c_1
    refine lv_iconst (v := iI 0) hx hb dX6_isFull_15 rfl ?_
    exact g_zret (v := (iI 0)) hx hb hr hlocks rfl hP hD hS (Or.inr (⟨(by first | assumption | omega), rfl, rfl⟩)) dX6_isFull_16
  · have c_1 : ¬ (a_count < 6) := fun h9 => c_1 ((iI_lt (a := a_count) (b := 6) (by omega) (by first | decide | omega)).mpr h9)
    refine lv_iconst (v := iI 1) hx hb dX6_isFull_11 rfl ?_
    refine lv_goto (tgt := 16) hx hb dX6_isFull_12 (by decide) ?_
    exact g_zret (v := (iI 1)) hx hb hr hlocks rfl hP hD hS (Or.inl ⟨(by first | assumption | omega), rfl, rfl⟩) dX6_isFull_16
set_option maxHeartbeats 8000000 in
set_option maxRecDepth 100000 in
theorem c_X6_add_n (l : Launch) (G : gG) (q0 : Nat) (a_cells : Nat) (a_count : Int) (Fc : Nat → Int) (b0 : Int) (b1 : Int) (b2 : Int) (b3 : Int) (b4 : Int) (y0_ : bd 0 99 Fc) (y1_ : 0 ≤ a_count ∧ a_count ≤ 6) (u0 : 0 ≤ b0 ∧ b0 ≤ 99) (u1 : 0 ≤ b1 ∧ b1 ≤ 99) (u2 : 0 ≤ b2 ∧ b2 ≤ 99) (u3 : 0 ≤ b3 ∧ b3 ≤ 99) (u4 : 0 ≤ b4 ∧ b4 ≤ 99) (hl : a_count < 6) (sz : Nat) : gI G l yX6_add wsX6_add ({ frames := 1, cells := 0, slots := 0, locals := 20 } : Room) [.ref q0, .int (iI b0), .int (iI b1), .int (iI b2), .int (iI b3), .int (iI b4)] [oB5 q0 5 6 a_cells a_count, iB G a_cells 30 Fc] sz (fun (r : Int32) (u : va_W) => (∃ Fn : Nat → Int, (Fn = r5 Fc a_count b0 b1 b2 b3 b4) ∧ (bd 0 99 Fn) ∧ r = (iI (a_count + 1)) ∧ u = [oB5 q0 5 6 a_cells (a_count + 1), iB G a_cells 30 Fn])) := by
  refine Met.ofW (cc := cX6_add) (maxL := 7) (ret := (some .int)) (by decide) rfl ?_
  intro p e s m args below meth c s₁ B hml hv
  obtain ⟨rfl, hsz, hP, hK, hD0, hN, hZ⟩ := hv
  have hx := B.exec
  have hb := B.bytes
  have hr := B.returns
  have hts := atoms_spec (ws := wsX6_add) B.pre
  have hown : s.vm.findClass RX6 = some m.cls := findClass_of_methodNamed B.named
  have hlocks := B.notSynchronized
  subst hsz
  have hD := hD0.self (sz := s.heap.size)
  generalize hAe : va_A [oB5 q0 5 6 a_cells a_count, iB G a_cells 30 Fc] s.heap.size = A at hD hZ ⊢
  have hA : ∀ q : Nat, s.heap.size ≤ q → A q := fun q h => by rw [← hAe]; exact Or.inr h
  have hS : va_S A s.heap s.heap [] := va_S.rf
  have hP : va_P G.1 vwCl [oB5 q0 5 6 a_cells a_count, iB G a_cells 30 Fc] s.heap := hP
  have hl := lv_entry ([.ref q0, .int (iI b0), .int (iI b1), .int (iI b2), .int (iI b3), .int (iI b4)]) (n := 7) (Nat.le_of_ble_eq_true rfl)
  rw [lg_entry_eq]
  generalize (lg_sl ([.ref q0, .int (iI b0), .int (iI b1), .int (iI b2), .int (iI b3), .int (iI b4)]) ++ List.replicate (7 - (lg_sl ([.ref q0, .int (iI b0), .int (iI b1), .int (iI b2), .int (iI b3), .int (iI b4)])).length) Slot.unset).toArray = ls at hl ⊢
  have hl : lv_has ls 7 [(0, .ref q0), (1, .int (iI b0)), (2, .int (iI b1)), (3, .int (iI b2)), (4, .int (iI b3)), (5, .int (iI b4))] := hl
  refine lv_aload_n hx hb dX6_add_0 rfl (lv_at hl 0 rfl) ?_
  refine g_calli (wr := [iB G a_cells 30 Fc]) (va_runV (As := []) (rest := []) ⟨hx, hb, hml, hown, hts⟩ (c_X6_isFull_n l G (q0) (a_cells) (a_count) (by first | exact y1_ | assumption | omega) _) (cwV 0 hts gX6_add_X6_isFull rfl rfl rfl (by decide +kernel) ⟨Nat.le_of_ble_eq_true rfl, Nat.le_of_ble_eq_true rfl⟩) (g_preV q0 [] hP hD hK hN hS hA hZ [0] rfl rfl 0 (ci := 5) rfl rfl) rfl rfl hl.1 rfl (lv_room (Nat.le_of_ble_eq_true rfl)) dX6_add_1 ⟨Nat.le_of_ble_eq_true rfl, Nat.le_of_ble_eq_true rfl⟩) hP hD hS hA [0] [1] rfl rfl rfl (by decide) (fun r_1 u H locs hw hP hD hS => ?_)
  rcases hw with ⟨k_2, rfl, rfl⟩ | ⟨k_3, rfl, rfl⟩
  · exact absurd k_2 (by omega)
  · have hPD : PD G A H [iB G a_cells 30 Fc, oB5 q0 5 6 a_cells a_count] := ⟨hP, hD⟩
    have hP := hPD.1
    have hD := hPD.2
    clear hPD
    refine lv_if_eq (tgt := 12) hx hb dX6_add_4 (by decide) (fun _ => ?_) (fun c_4 => g_no (by decide) c_4)
    refine lv_aload_n hx hb dX6_add_12 rfl (lv_at hl 0 rfl) ?_
    refine va_get (D := G.1) (ci := 5) (v := .int (iI a_count)) (C := RX6) (T := TX6) (N := 4) hx hb hts (fun _ h => List.mem_cons_of_mem _ (inlX6 _ h)) hown hK hP 1 rfl rfl 3 (by decide) (hts _ (List.mem_cons_of_mem _ (in_r7 (List.mem_of_getElem? (i := 7) rfl)))) (fun _ h9 => h9) rfl dX6_add_13 ?_
    refine lv_iconst (v := iI 5) hx hb dX6_add_16 rfl ?_
    refine lv_imul hx hb dX6_add_17 ?_
    refine g_topi (y := iI (a_count * 5)) (iI_mul a_count 5) ?_
    refine lv_istore (lv' := [(6, .int (iI (a_count * 5))), (0, .ref q0), (1, .int (iI b0)), (2, .int (iI b1)), (3, .int (iI b2)), (4, .int (iI b3)), (5, .int (iI b4))]) hx hb dX6_add_18 hl (by decide) rfl (fun ls hl => ?_)
    refine lv_aload_n hx hb dX6_add_20 rfl (lv_at hl 1 rfl) ?_
    refine va_get (D := G.1) (ci := 5) (v := .ref a_cells) (C := RX6) (T := TX6) (N := 4) hx hb hts (fun _ h => List.mem_cons_of_mem _ (inlX6 _ h)) hown hK hP 1 rfl rfl 2 (by decide) (hts _ (List.mem_cons_of_mem _ (in_r4 (List.mem_of_getElem? (i := 2) rfl)))) (fun _ h9 => h9) rfl dX6_add_21 ?_
    refine lv_iload hx hb dX6_add_24 (lv_at hl 0 rfl) ?_
    refine lv_iload_n hx hb dX6_add_26 rfl (lv_at hl 2 rfl) ?_
    refine g_ist hx hb hK hP hD hS 0 rfl (by omega) (by omega) (by first | exact Nat.le_of_ble_eq_true rfl | omega) dX6_add_27 (fun H locs hP hD hS => ?_)
    have hb_6 := bd_u (k := ((a_count * 5).toNat)) (v := b0) y0_ (by omega) (by omega)
    have hPD : PD G A H [iB G a_cells 30 (uI Fc ((a_count * 5).toNat) b0), oB5 q0 5 6 a_cells a_count] := ⟨hP, hD⟩
    have hP := hPD.1
    have hD := hPD.2
    clear hPD
    refine lv_aload_n hx hb dX6_add_28 rfl (lv_at hl 1 rfl) ?_
    refine va_get (D := G.1) (ci := 5) (v := .ref a_cells) (C := RX6) (T := TX6) (N := 4) hx hb hts (fun _ h => List.mem_cons_of_mem _ (inlX6 _ h)) hown hK hP 1 rfl rfl 2 (by decide) (hts _ (List.mem_cons_of_mem _ (in_r4 (List.mem_of_getElem? (i := 2) rfl)))) (fun _ h9 => h9) rfl dX6_add_29 ?_
    refine lv_iload hx hb dX6_add_32 (lv_at hl 0 rfl) ?_
    refine lv_iconst (v := iI 1) hx hb dX6_add_34 rfl ?_
    refine lv_iadd hx hb dX6_add_35 ?_
    refine g_topi (y := iI ((a_count * 5) + 1)) (iI_add (a_count * 5) 1) ?_
    refine lv_iload_n hx hb dX6_add_36 rfl (lv_at hl 3 rfl) ?_
    refine g_ist hx hb hK hP hD hS 0 rfl (by omega) (by omega) (by first | exact Nat.le_of_ble_eq_true rfl | omega) dX6_add_37 (fun H locs hP hD hS => ?_)
    have hb_8 := bd_u (k := (((a_count * 5) + 1).toNat)) (v := b1) hb_6 (by omega) (by omega)
    have hPD : PD G A H [iB G a_cells 30 (uI (uI Fc ((a_count * 5).toNat) b0) (((a_count * 5) + 1).toNat) b1), oB5 q0 5 6 a_cells a_count] := ⟨hP, hD⟩
    have hP := hPD.1
    have hD := hPD.2
    clear hPD
    refine lv_aload_n hx hb dX6_add_38 rfl (lv_at hl 1 rfl) ?_
    refine va_get (D := G.1) (ci := 5) (v := .ref a_cells) (C := RX6) (T := TX6) (N := 4) hx hb hts (fun _ h => List.mem_cons_of_mem _ (inlX6 _ h)) hown hK hP 1 rfl rfl 2 (by decide) (hts _ (List.mem_cons_of_mem _ (in_r4 (List.mem_of_getElem? (i := 2) rfl)))) (fun _ h9 => h9) rfl dX6_add_39 ?_
    refine lv_iload hx hb dX6_add_42 (lv_at hl 0 rfl) ?_
    refine lv_iconst (v := iI 2) hx hb dX6_add_44 rfl ?_
    refine lv_iadd hx hb dX6_add_45 ?_
    refine g_topi (y := iI ((a_count * 5) + 2)) (iI_add (a_count * 5) 2) ?_
    refine lv_iload_n hx hb dX6_add_46 rfl (lv_at hl 4 rfl) ?_
    refine g_ist hx hb hK hP hD hS 0 rfl (by omega) (by omega) (by first | exact Nat.le_of_ble_eq_true rfl | omega) dX6_add_47 (fun H locs hP hD hS => ?_)
    have hb_10 := bd_u (k := (((a_count * 5) + 2).toNat)) (v := b2) hb_8 (by omega) (by omega)
    have hPD : PD G A H [iB G a_cells 30 (uI (uI (uI Fc ((a_count * 5).toNat) b0) (((a_count * 5) + 1).toNat) b1) (((a_count * 5) + 2).toNat) b2), oB5 q0 5 6 a_cells a_count] := ⟨hP, hD⟩
    have hP := hPD.1
    have hD := hPD.2
    clear hPD
    refine lv_aload_n hx hb dX6_add_48 rfl (lv_at hl 1 rfl) ?_
    refine va_get (D := G.1) (ci := 5) (v := .ref a_cells) (C := RX6) (T := TX6) (N := 4) hx hb hts (fun _ h => List.mem_cons_of_mem _ (inlX6 _ h)) hown hK hP 1 rfl rfl 2 (by decide) (hts _ (List.mem_cons_of_mem _ (in_r4 (List.mem_of_getElem? (i := 2) rfl)))) (fun _ h9 => h9) rfl dX6_add_49 ?_
    refine lv_iload hx hb dX6_add_52 (lv_at hl 0 rfl) ?_
    refine lv_iconst (v := iI 3) hx hb dX6_add_54 rfl ?_
    refine lv_iadd hx hb dX6_add_55 ?_
    refine g_topi (y := iI ((a_count * 5) + 3)) (iI_add (a_count * 5) 3) ?_
    refine lv_iload hx hb dX6_add_56 (lv_at hl 5 rfl) ?_
    refine g_ist hx hb hK hP hD hS 0 rfl (by omega) (by omega) (by first | exact Nat.le_of_ble_eq_true rfl | omega) dX6_add_58 (fun H locs hP hD hS => ?_)
    have hb_12 := bd_u (k := (((a_count * 5) + 3).toNat)) (v := b3) hb_10 (by omega) (by omega)
    have hPD : PD G A H [iB G a_cells 30 (uI (uI (uI (uI Fc ((a_count * 5).toNat) b0) (((a_count * 5) + 1).toNat) b1) (((a_count * 5) + 2).toNat) b2) (((a_count * 5) + 3).toNat) b3), oB5 q0 5 6 a_cells a_count] := ⟨hP, hD⟩
    have hP := hPD.1
    have hD := hPD.2
    clear hPD
    refine lv_aload_n hx hb dX6_add_59 rfl (lv_at hl 1 rfl) ?_
    refine va_get (D := G.1) (ci := 5) (v := .ref a_cells) (C := RX6) (T := TX6) (N := 4) hx hb hts (fun _ h => List.mem_cons_of_mem _ (inlX6 _ h)) hown hK hP 1 rfl rfl 2 (by decide) (hts _ (List.mem_cons_of_mem _ (in_r4 (List.mem_of_getElem? (i := 2) rfl)))) (fun _ h9 => h9) rfl dX6_add_60 ?_
    refine lv_iload hx hb dX6_add_63 (lv_at hl 0 rfl) ?_
    refine lv_iconst (v := iI 4) hx hb dX6_add_65 rfl ?_
    refine lv_iadd hx hb dX6_add_66 ?_
    refine g_topi (y := iI ((a_count * 5) + 4)) (iI_add (a_count * 5) 4) ?_
    refine lv_iload hx hb dX6_add_67 (lv_at hl 6 rfl) ?_
    refine g_ist hx hb hK hP hD hS 0 rfl (by omega) (by omega) (by first | exact Nat.le_of_ble_eq_true rfl | omega) dX6_add_69 (fun H locs hP hD hS => ?_)
    have hb_14 := bd_u (k := (((a_count * 5) + 4).toNat)) (v := b4) hb_12 (by omega) (by omega)
    have hPD : PD G A H [iB G a_cells 30 (uI (uI (uI (uI (uI Fc ((a_count * 5).toNat) b0) (((a_count * 5) + 1).toNat) b1) (((a_count * 5) + 2).toNat) b2) (((a_count * 5) + 3).toNat) b3) (((a_count * 5) + 4).toNat) b4), oB5 q0 5 6 a_cells a_count] := ⟨hP, hD⟩
    have hP := hPD.1
    have hD := hPD.2
    clear hPD
    refine lv_aload_n hx hb dX6_add_70 rfl (lv_at hl 1 rfl) ?_
    refine lv_dup hx hb dX6_add_71 rfl ?_
    refine va_get (D := G.1) (ci := 5) (v := .int (iI a_count)) (C := RX6) (T := TX6) (N := 4) hx hb hts (fun _ h => List.mem_cons_of_mem _ (inlX6 _ h)) hown hK hP 1 rfl rfl 3 (by decide) (hts _ (List.mem_cons_of_mem _ (in_r7 (List.mem_of_getElem? (i := 7) rfl)))) (fun _ h9 => h9) rfl dX6_add_72 ?_
    refine lv_iconst (v := iI 1) hx hb dX6_add_75 rfl ?_
    refine lv_iadd hx hb dX6_add_76 ?_
    refine g_topi (y := iI (a_count + 1)) (iI_add a_count 1) ?_
    refine va_put (D := G.1) (ci := 5) (v := .int (iI (a_count + 1))) (ty := .int) (C := RX6) (T := TX6) (N := 4) hx hb hts (fun _ h => List.mem_cons_of_mem _ (inlX6 _ h)) tyX6 tyX6_ok nmX6 hown hK hP hD hS 1 rfl rfl 3 (by decide) (hts _ (List.mem_cons_of_mem _ (in_r7 (List.mem_of_getElem? (i := 7) rfl)))) (fun _ h9 => h9) rfl (by decide +kernel) rfl rfl (Nat.le_of_ble_eq_true rfl) dX6_add_77 (fun H locs hP hD hS => ?_)
    have hPD : PD G A H [iB G a_cells 30 (uI (uI (uI (uI (uI Fc ((a_count * 5).toNat) b0) (((a_count * 5) + 1).toNat) b1) (((a_count * 5) + 2).toNat) b2) (((a_count * 5) + 3).toNat) b3) (((a_count * 5) + 4).toNat) b4), oB5 q0 5 6 a_cells (a_count + 1)] := ⟨hP, hD⟩
    have hP := hPD.1
    have hD := hPD.2
    clear hPD
    refine lv_aload_n hx hb dX6_add_80 rfl (lv_at hl 1 rfl) ?_
    refine va_get (D := G.1) (ci := 5) (v := .int (iI (a_count + 1))) (C := RX6) (T := TX6) (N := 4) hx hb hts (fun _ h => List.mem_cons_of_mem _ (inlX6 _ h)) hown hK hP 1 rfl rfl 3 (by decide) (hts _ (List.mem_cons_of_mem _ (in_r7 (List.mem_of_getElem? (i := 7) rfl)))) (fun _ h9 => h9) rfl dX6_add_81 ?_
    have hP := hP.sub (ws' := [oB5 q0 5 6 a_cells (a_count + 1), iB G a_cells 30 (uI (uI (uI (uI (uI Fc ((a_count * 5).toNat) b0) (((a_count * 5) + 1).toNat) b1) (((a_count * 5) + 2).toNat) b2) (((a_count * 5) + 3).toNat) b3) (((a_count * 5) + 4).toNat) b4)]) [1, 0] rfl
    have hD := hD.sub (ws' := [oB5 q0 5 6 a_cells (a_count + 1), iB G a_cells 30 (uI (uI (uI (uI (uI Fc ((a_count * 5).toNat) b0) (((a_count * 5) + 1).toNat) b1) (((a_count * 5) + 2).toNat) b2) (((a_count * 5) + 3).toNat) b3) (((a_count * 5) + 4).toNat) b4)]) [1, 0] rfl rfl
    exact g_iret (v := (iI (a_count + 1))) hx hb hr hlocks hP hD hS (⟨(uI (uI (uI (uI (uI Fc ((a_count * 5).toNat) b0) (((a_count * 5) + 1).toNat) b1) (((a_count * 5) + 2).toNat) b2) (((a_count * 5) + 3).toNat) b3) (((a_count * 5) + 4).toNat) b4), rfl, (by first | exact hb_14 | exact bd_mono hb_14 (by omega) (by omega) | assumption), rfl, rfl⟩) dX6_add_84
set_option maxHeartbeats 8000000 in
set_option maxRecDepth 100000 in
theorem c_X6_cell_n (l : Launch) (G : gG) (q0 : Nat) (a_cells : Nat) (a_count : Int) (Fc : Nat → Int) (i0 : Int) (j0 : Int) (y0_ : bd 0 99 Fc) (y1_ : 0 ≤ a_count ∧ a_count ≤ 6) (hi : 0 ≤ i0 ∧ i0 ≤ 5) (hj : 0 ≤ j0 ∧ j0 ≤ 4) (sz : Nat) : gI G l yX6_cell wsX6_cell ({ frames := 1, cells := 0, slots := 0, locals := 22 } : Room) [.ref q0, .int (iI i0), .int (iI j0)] [oB5 q0 5 6 a_cells a_count, iB G a_cells 30 Fc] sz (fun (r : Int32) (u : va_W) => (∃ rr : Int, (rr = Fc (((i0 * 5) + j0).toNat)) ∧ (0 ≤ rr ∧ rr ≤ 99) ∧ r = (iI rr) ∧ u = [oB5 q0 5 6 a_cells a_count, iB G a_cells 30 Fc])) := by
  refine Met.ofW (cc := cX6_cell) (maxL := 3) (ret := (some .int)) (by decide) rfl ?_
  intro p e s m args below meth c s₁ B hml hv
  obtain ⟨rfl, hsz, hP, hK, hD0, hN, hZ⟩ := hv
  have hx := B.exec
  have hb := B.bytes
  have hr := B.returns
  have hts := atoms_spec (ws := wsX6_cell) B.pre
  have hown : s.vm.findClass RX6 = some m.cls := findClass_of_methodNamed B.named
  have hlocks := B.notSynchronized
  subst hsz
  have hD := hD0.self (sz := s.heap.size)
  generalize hAe : va_A [oB5 q0 5 6 a_cells a_count, iB G a_cells 30 Fc] s.heap.size = A at hD hZ ⊢
  have hA : ∀ q : Nat, s.heap.size ≤ q → A q := fun q h => by rw [← hAe]; exact Or.inr h
  have hS : va_S A s.heap s.heap [] := va_S.rf
  have hP : va_P G.1 vwCl [oB5 q0 5 6 a_cells a_count, iB G a_cells 30 Fc] s.heap := hP
  have hl := lv_entry ([.ref q0, .int (iI i0), .int (iI j0)]) (n := 3) (Nat.le_of_ble_eq_true rfl)
  rw [lg_entry_eq]
  generalize (lg_sl ([.ref q0, .int (iI i0), .int (iI j0)]) ++ List.replicate (3 - (lg_sl ([.ref q0, .int (iI i0), .int (iI j0)])).length) Slot.unset).toArray = ls at hl ⊢
  have hl : lv_has ls 3 [(0, .ref q0), (1, .int (iI i0)), (2, .int (iI j0))] := hl
  refine lv_iload_n hx hb dX6_cell_0 rfl (lv_at hl 1 rfl) ?_
  refine lv_iconst (v := iI 0) hx hb dX6_cell_1 rfl ?_
  refine lv_iconst (v := iI 5) hx hb dX6_cell_2 rfl ?_
  refine g_calli (wr := [oB5 q0 5 6 a_cells a_count, iB G a_cells 30 Fc]) (va_runSN (As := [.int (iI i0), .int (iI 0), .int (iI 5)]) (rest := []) ⟨hx, hb, hml, hown, hts⟩ (c_X10_within l G (i0) (0) (5) (by first | assumption | omega) (by first | assumption | omega) (by first | assumption | omega) _) (⟨va_cnB 3 hts gX6_cell_X10_within_n33 rfl rfl rfl (nw97 hN) (hts _ (List.mem_cons_of_mem _ (in_r1 (List.mem_of_getElem? (i := 2) rfl)))) (by decide +kernel) ⟨Nat.le_of_ble_eq_true rfl, Nat.le_of_ble_eq_true rfl⟩, (hts _ (List.mem_cons_of_mem _ (in_r7 (List.mem_of_getElem? (i := 21) rfl)))), trivial⟩) (g_preS [.int (iI i0), .int (iI 0), .int (iI 5)] hP hD hK hN hS hA hZ [] rfl rfl) rfl rfl hl.1 rfl (lv_room (Nat.le_of_ble_eq_true rfl)) dX6_cell_3 ⟨Nat.le_of_ble_eq_true rfl, Nat.le_of_ble_eq_true rfl⟩) hP hD hS hA [] [0, 1] rfl rfl rfl (by decide) (fun r_1 u H locs hw hP hD hS => ?_)
  rcases hw with hw | hw
  · refine ea_0_4 hw (fun k_2 k_3 e8_0 e8_1 => ?_)
    subst e8_0
    subst e8_1
    clear hw
    have hPD : PD G A H [oB5 q0 5 6 a_cells a_count, iB G a_cells 30 Fc] := ⟨hP, hD⟩
    have hP := hPD.1
    have hD := hPD.2
    clear hPD
    refine lv_if_eq (tgt := 31) hx hb dX6_cell_6 (by decide) (fun c_5 => g_no c_5 (by decide)) (fun _ => ?_)
    refine lv_iload_n hx hb dX6_cell_9 rfl (lv_at hl 2 rfl) ?_
    refine lv_iconst (v := iI 0) hx hb dX6_cell_10 rfl ?_
    refine lv_iconst (v := iI 4) hx hb dX6_cell_11 rfl ?_
    refine g_calli (wr := [oB5 q0 5 6 a_cells a_count, iB G a_cells 30 Fc]) (va_runSN (As := [.int (iI j0), .int (iI 0), .int (iI 4)]) (rest := []) ⟨hx, hb, hml, hown, hts⟩ (c_X10_within l G (j0) (0) (4) (by first | assumption | omega) (by first | assumption | omega) (by first | assumption | omega) _) (⟨va_cnB 3 hts gX6_cell_X10_within_n33 rfl rfl rfl (nw97 hN) (hts _ (List.mem_cons_of_mem _ (in_r1 (List.mem_of_getElem? (i := 2) rfl)))) (by decide +kernel) ⟨Nat.le_of_ble_eq_true rfl, Nat.le_of_ble_eq_true rfl⟩, (hts _ (List.mem_cons_of_mem _ (in_r7 (List.mem_of_getElem? (i := 21) rfl)))), trivial⟩) (g_preS [.int (iI j0), .int (iI 0), .int (iI 4)] hP hD hK hN hS hA hZ [] rfl rfl) rfl rfl hl.1 rfl (lv_room (Nat.le_of_ble_eq_true rfl)) dX6_cell_12 ⟨Nat.le_of_ble_eq_true rfl, Nat.le_of_ble_eq_true rfl⟩) hP hD hS hA [] [0, 1] rfl rfl rfl (by decide) (fun r_6 u H locs hw hP hD hS => ?_)
    rcases hw with hw | hw
    · refine ea_0_4 hw (fun k_7 k_8 e8_0 e8_1 => ?_)
      subst e8_0
      subst e8_1
      clear hw
      have hPD : PD G A H [oB5 q0 5 6 a_cells a_count, iB G a_cells 30 Fc] := ⟨hP, hD⟩
      have hP := hPD.1
      have hD := hPD.2
      clear hPD
      refine lv_if_eq (tgt := 31) hx hb dX6_cell_15 (by decide) (fun c_10 => g_no c_10 (by decide)) (fun _ => ?_)
      refine lv_aload_n hx hb dX6_cell_18 rfl (lv_at hl 0 rfl) ?_
      refine va_get (D := G.1) (ci := 5) (v := .ref a_cells) (C := RX6) (T := TX6) (N := 4) hx hb hts (fun _ h => List.mem_cons_of_mem _ (inlX6 _ h)) hown hK hP 0 rfl rfl 2 (by decide) (hts _ (List.mem_cons_of_mem _ (in_r4 (List.mem_of_getElem? (i := 2) rfl)))) (fun _ h9 => h9) rfl dX6_cell_19 ?_
      refine lv_iload_n hx hb dX6_cell_22 rfl (lv_at hl 1 rfl) ?_
      refine lv_iconst (v := iI 5) hx hb dX6_cell_23 rfl ?_
      refine lv_imul hx hb dX6_cell_24 ?_
      refine g_topi (y := iI (i0 * 5)) (iI_mul i0 5) ?_
      refine lv_iload_n hx hb dX6_cell_25 rfl (lv_at hl 2 rfl) ?_
      refine lv_iadd hx hb dX6_cell_26 ?_
      refine g_topi (y := iI ((i0 * 5) + j0)) (iI_add (i0 * 5) j0) ?_
      refine g_ild hx hb hK hP 1 rfl (by omega) (by omega) (by first | exact Nat.le_of_ble_eq_true rfl | omega) dX6_cell_27 (fun w_11 ew_11 => ?_)
      have ew_11 : Fc (((i0 * 5) + j0).toNat) = w_11 := ew_11
      subst ew_11
      have b0w_11 := y0_ (((i0 * 5) + j0).toNat)
      refine lv_goto (tgt := 32) hx hb dX6_cell_28 (by decide) ?_
      exact g_iret (v := (iI (Fc (((i0 * 5) + j0).toNat)))) hx hb hr hlocks hP hD hS (⟨(Fc (((i0 * 5) + j0).toNat)), (by first | assumption | omega), (by first | assumption | omega), rfl, rfl⟩) dX6_cell_32
    · refine ea_0_3 hw (fun k_9 e8_0 e8_1 => ?_)
      subst e8_0
      subst e8_1
      clear hw
      exact absurd k_9 (by omega)
  · refine ea_0_3 hw (fun k_4 e8_0 e8_1 => ?_)
    subst e8_0
    subst e8_1
    clear hw
    exact absurd k_4 (by omega)
set_option maxHeartbeats 8000000 in
set_option maxRecDepth 100000 in
theorem c_X6_empty_n (l : Launch) (G : gG) (q0 : Nat) (a_cells : Nat) (a_count : Int) (sz : Nat) : gI G l yX6_empty wsX6_empty ({ frames := 0, cells := 0, slots := 0, locals := 0 } : Room) [.ref q0] [oB5 q0 5 6 a_cells a_count] sz (fun (r : Int32) (u : va_W) => (r = (iI a_count) ∧ u = [oB5 q0 5 6 a_cells 0])) := by
  refine Met.ofW (cc := cX6_empty) (maxL := 2) (ret := (some .int)) (by decide) rfl ?_
  intro p e s m args below meth c s₁ B hml hv
  obtain ⟨rfl, hsz, hP, hK, hD0, hN, hZ⟩ := hv
  have hx := B.exec
  have hb := B.bytes
  have hr := B.returns
  have hts := atoms_spec (ws := wsX6_empty) B.pre
  have hown : s.vm.findClass RX6 = some m.cls := findClass_of_methodNamed B.named
  have hlocks := B.notSynchronized
  subst hsz
  have hD := hD0.self (sz := s.heap.size)
  generalize hAe : va_A [oB5 q0 5 6 a_cells a_count] s.heap.size = A at hD hZ ⊢
  have hA : ∀ q : Nat, s.heap.size ≤ q → A q := fun q h => by rw [← hAe]; exact Or.inr h
  have hS : va_S A s.heap s.heap [] := va_S.rf
  have hP : va_P G.1 vwCl [oB5 q0 5 6 a_cells a_count] s.heap := hP
  have hl := lv_entry ([.ref q0]) (n := 2) (Nat.le_of_ble_eq_true rfl)
  rw [lg_entry_eq]
  generalize (lg_sl ([.ref q0]) ++ List.replicate (2 - (lg_sl ([.ref q0])).length) Slot.unset).toArray = ls at hl ⊢
  have hl : lv_has ls 2 [(0, .ref q0)] := hl
  refine lv_aload_n hx hb dX6_empty_0 rfl (lv_at hl 0 rfl) ?_
  refine va_get (D := G.1) (ci := 5) (v := .int (iI a_count)) (C := RX6) (T := TX6) (N := 4) hx hb hts (fun _ h => List.mem_cons_of_mem _ (inlX6 _ h)) hown hK hP 0 rfl rfl 3 (by decide) (hts _ (List.mem_cons_of_mem _ (in_r7 (List.mem_of_getElem? (i := 7) rfl)))) (fun _ h9 => h9) rfl dX6_empty_1 ?_
  refine lv_istore_n (lv' := [(1, .int (iI a_count)), (0, .ref q0)]) hx hb dX6_empty_4 rfl hl (by decide) rfl (fun ls hl => ?_)
  refine lv_aload_n hx hb dX6_empty_5 rfl (lv_at hl 1 rfl) ?_
  refine lv_iconst (v := iI 0) hx hb dX6_empty_6 rfl ?_
  refine va_put (D := G.1) (ci := 5) (v := .int (iI 0)) (ty := .int) (C := RX6) (T := TX6) (N := 4) hx hb hts (fun _ h => List.mem_cons_of_mem _ (inlX6 _ h)) tyX6 tyX6_ok nmX6 hown hK hP hD hS 0 rfl rfl 3 (by decide) (hts _ (List.mem_cons_of_mem _ (in_r7 (List.mem_of_getElem? (i := 7) rfl)))) (fun _ h9 => h9) rfl (by decide +kernel) rfl rfl (Nat.le_of_ble_eq_true rfl) dX6_empty_7 (fun H locs hP hD hS => ?_)
  have hPD : PD G A H [oB5 q0 5 6 a_cells 0] := ⟨hP, hD⟩
  have hP := hPD.1
  have hD := hPD.2
  clear hPD
  refine lv_iload_n hx hb dX6_empty_10 rfl (lv_at hl 0 rfl) ?_
  exact g_iret (v := (iI a_count)) hx hb hr hlocks hP hD hS (⟨rfl, rfl⟩) dX6_empty_11
set_option maxHeartbeats 8000000 in
set_option maxRecDepth 100000 in
theorem c_X6_takeOver_n (l : Launch) (G : gG) (q0 : Nat) (a_cells : Nat) (a_count : Int) (Fc : Nat → Int) (q1 : Nat) (b_cells : Nat) (b_count : Int) (Fd : Nat → Int) (sz : Nat) : gV G l yX6_takeOver wsX6_takeOver ({ frames := 1, cells := 0, slots := 0, locals := 24 } : Room) [.ref q0, .ref q1] [oB5 q0 5 6 a_cells a_count, iB G a_cells 30 Fc, oB5 q1 5 6 b_cells b_count, iB G b_cells 30 Fd] sz (fun (u : va_W) => (u = [oB5 q0 5 6 a_cells b_count, iB G a_cells 30 Fd, oB5 q1 5 6 b_cells b_count, iB G b_cells 30 Fd])) := by
  refine Met.ofW (cc := cX6_takeOver) (maxL := 2) (ret := none) (by decide) rfl ?_
  intro p e s m args below meth c s₁ B hml hv
  obtain ⟨rfl, hsz, hP, hK, hD0, hN, hZ⟩ := hv
  have hx := B.exec
  have hb := B.bytes
  have hr := B.returns
  have hts := atoms_spec (ws := wsX6_takeOver) B.pre
  have hown : s.vm.findClass RX6 = some m.cls := findClass_of_methodNamed B.named
  have hlocks := B.notSynchronized
  subst hsz
  have hD := hD0.self (sz := s.heap.size)
  generalize hAe : va_A [oB5 q0 5 6 a_cells a_count, iB G a_cells 30 Fc, oB5 q1 5 6 b_cells b_count, iB G b_cells 30 Fd] s.heap.size = A at hD hZ ⊢
  have hA : ∀ q : Nat, s.heap.size ≤ q → A q := fun q h => by rw [← hAe]; exact Or.inr h
  have hS : va_S A s.heap s.heap [] := va_S.rf
  have hP : va_P G.1 vwCl [oB5 q0 5 6 a_cells a_count, iB G a_cells 30 Fc, oB5 q1 5 6 b_cells b_count, iB G b_cells 30 Fd] s.heap := hP
  have hl := lv_entry ([.ref q0, .ref q1]) (n := 2) (Nat.le_of_ble_eq_true rfl)
  rw [lg_entry_eq]
  generalize (lg_sl ([.ref q0, .ref q1]) ++ List.replicate (2 - (lg_sl ([.ref q0, .ref q1])).length) Slot.unset).toArray = ls at hl ⊢
  have hl : lv_has ls 2 [(0, .ref q0), (1, .ref q1)] := hl
  refine lv_aload_n hx hb dX6_takeOver_0 rfl (lv_at hl 0 rfl) ?_
  refine lv_aload_n hx hb dX6_takeOver_1 rfl (lv_at hl 1 rfl) ?_
  refine va_get (D := G.1) (ci := 5) (v := .int (iI b_count)) (C := RX6) (T := TX6) (N := 4) hx hb hts (fun _ h => List.mem_cons_of_mem _ (inlX6 _ h)) hown hK hP 2 rfl rfl 3 (by decide) (hts _ (List.mem_cons_of_mem _ (in_r7 (List.mem_of_getElem? (i := 7) rfl)))) (fun _ h9 => h9) rfl dX6_takeOver_2 ?_
  refine va_put (D := G.1) (ci := 5) (v := .int (iI b_count)) (ty := .int) (C := RX6) (T := TX6) (N := 4) hx hb hts (fun _ h => List.mem_cons_of_mem _ (inlX6 _ h)) tyX6 tyX6_ok nmX6 hown hK hP hD hS 0 rfl rfl 3 (by decide) (hts _ (List.mem_cons_of_mem _ (in_r7 (List.mem_of_getElem? (i := 7) rfl)))) (fun _ h9 => h9) rfl (by decide +kernel) rfl rfl (Nat.le_of_ble_eq_true rfl) dX6_takeOver_5 (fun H locs hP hD hS => ?_)
  have hPD : PD G A H [oB5 q0 5 6 a_cells b_count, iB G a_cells 30 Fc, oB5 q1 5 6 b_cells b_count, iB G b_cells 30 Fd] := ⟨hP, hD⟩
  have hP := hPD.1
  have hD := hPD.2
  clear hPD
  refine lv_aload_n hx hb dX6_takeOver_8 rfl (lv_at hl 1 rfl) ?_
  refine va_get (D := G.1) (ci := 5) (v := .ref b_cells) (C := RX6) (T := TX6) (N := 4) hx hb hts (fun _ h => List.mem_cons_of_mem _ (inlX6 _ h)) hown hK hP 2 rfl rfl 2 (by decide) (hts _ (List.mem_cons_of_mem _ (in_r4 (List.mem_of_getElem? (i := 2) rfl)))) (fun _ h9 => h9) rfl dX6_takeOver_9 ?_
  refine lv_iconst (v := iI 0) hx hb dX6_takeOver_12 rfl ?_
  refine lv_aload_n hx hb dX6_takeOver_13 rfl (lv_at hl 0 rfl) ?_
  refine va_get (D := G.1) (ci := 5) (v := .ref a_cells) (C := RX6) (T := TX6) (N := 4) hx hb hts (fun _ h => List.mem_cons_of_mem _ (inlX6 _ h)) hown hK hP 0 rfl rfl 2 (by decide) (hts _ (List.mem_cons_of_mem _ (in_r4 (List.mem_of_getElem? (i := 2) rfl)))) (fun _ h9 => h9) rfl dX6_takeOver_14 ?_
  refine lv_iconst (v := iI 0) hx hb dX6_takeOver_17 rfl ?_
  refine lv_bipush (v := iI 30) hx hb dX6_takeOver_18 (by decide) ?_
  refine g_copyF (rest := []) hx hb (hml.trans hl.1.symm) hown (hts _ (List.mem_cons_of_mem _ (in_r41 (List.mem_of_getElem? (i := 13) rfl)))) (hts _ (List.mem_cons_of_mem _ (in_r23 (List.mem_of_getElem? (i := 19) rfl)))) (hts _ (List.mem_cons_of_mem _ (in_r23 (List.mem_of_getElem? (i := 20) rfl)))) (hts _ (List.mem_cons_of_mem _ (in_r23 (List.mem_of_getElem? (i := 21) rfl)))) hK hP hD hS 3 1 rfl rfl (by decide) (by decide) (Nat.le_of_ble_eq_true rfl) (Nat.le_of_ble_eq_true rfl) dX6_takeOver_20 (fun H locs hP hD hS => ?_)
  have hPD : PD G A H [oB5 q0 5 6 a_cells b_count, iB G a_cells 30 Fd, oB5 q1 5 6 b_cells b_count, iB G b_cells 30 Fd] := ⟨hP, hD⟩
  have hP := hPD.1
  have hD := hPD.2
  clear hPD
  exact g_vret hx hb hr hlocks hP hD hS (rfl) dX6_takeOver_23
set_option maxHeartbeats 8000000 in
set_option maxRecDepth 100000 in
theorem c_X6_mixRows_n (l : Launch) (G : gG) (q0 : Nat) (a_cells : Nat) (a_count : Int) (Fc : Nat → Int) (s0 : Int) (y0_ : bd 0 99 Fc) (y1_ : 0 ≤ a_count ∧ a_count ≤ 6) (sz : Nat) : gL G l yX6_mixRows wsX6_mixRows ({ frames := 2, cells := 0, slots := 0, locals := 44 } : Room) [.ref q0, .long (lI s0)] [oB5 q0 5 6 a_cells a_count, iB G a_cells 30 Fc] sz (fun (r : Int64) (u : va_W) => (∃ rr : Int, r = (lI rr) ∧ u = [oB5 q0 5 6 a_cells a_count, iB G a_cells 30 Fc])) := by
  refine Met.ofW (cc := cX6_mixRows) (maxL := 7) (ret := (some .long)) (by decide) rfl ?_
  intro p e s m args below meth c s₁ B hml hv
  obtain ⟨rfl, hsz, hP, hK, hD0, hN, hZ⟩ := hv
  have hx := B.exec
  have hb := B.bytes
  have hr := B.returns
  have hts := atoms_spec (ws := wsX6_mixRows) B.pre
  have hown : s.vm.findClass RX6 = some m.cls := findClass_of_methodNamed B.named
  have hlocks := B.notSynchronized
  subst hsz
  have hD := hD0.self (sz := s.heap.size)
  generalize hAe : va_A [oB5 q0 5 6 a_cells a_count, iB G a_cells 30 Fc] s.heap.size = A at hD hZ ⊢
  have hA : ∀ q : Nat, s.heap.size ≤ q → A q := fun q h => by rw [← hAe]; exact Or.inr h
  have hS : va_S A s.heap s.heap [] := va_S.rf
  have hP : va_P G.1 vwCl [oB5 q0 5 6 a_cells a_count, iB G a_cells 30 Fc] s.heap := hP
  have hl := lv_entry ([.ref q0, .long (lI s0)]) (n := 7) (Nat.le_of_ble_eq_true rfl)
  rw [lg_entry_eq]
  generalize (lg_sl ([.ref q0, .long (lI s0)]) ++ List.replicate (7 - (lg_sl ([.ref q0, .long (lI s0)])).length) Slot.unset).toArray = ls at hl ⊢
  have hl : lv_has ls 7 [(0, .ref q0), (1, .long (lI s0))] := hl
  refine lv_lload_n hx hb dX6_mixRows_0 rfl (lv_at hl 1 rfl) ?_
  refine lv_lstore_n (lv' := [(3, .long (lI s0)), (0, .ref q0), (1, .long (lI s0))]) hx hb dX6_mixRows_1 rfl hl (by decide) rfl (fun ls hl => ?_)
  refine lv_iconst (v := iI 0) hx hb dX6_mixRows_2 rfl ?_
  refine lv_istore (lv' := [(5, .int (iI 0)), (3, .long (lI s0)), (0, .ref q0), (1, .long (lI s0))]) hx hb dX6_mixRows_3 hl (by decide) rfl (fun ls hl => ?_)
  refine g_loopN (pc := 5) (fun nn H locs ls => ∃ h0__1 : Int, ∃ i0_2 : Int, (0 ≤ i0_2 ∧ i0_2 ≤ 6) ∧ (6 - i0_2).toNat = nn ∧ va_P G.1 vwCl [oB5 q0 5 6 a_cells a_count, iB G a_cells 30 Fc] H ∧ va_D A [oB5 q0 5 6 a_cells a_count, iB G a_cells 30 Fc] ∧ va_S A s.heap H locs ∧ lv_has ls 7 [(5, .int (iI i0_2)), (3, .long (lI h0__1)), (0, .ref q0), (1, .long (lI s0))]) ?_ ⟨s0, 0, (by first | assumption | omega), rfl, hP, hD, hS, lv_sub hl [0, 1, 2, 3] rfl⟩
  intro nn_5 H locs ls ih_4 hI
  refine ea_2_6 hI (fun h0__1 i0_2 f_3 hnn_6 hP hD hS hl => ?_)
  clear hI
  refine lv_iload hx hb dX6_mixRows_5 (lv_at hl 0 rfl) ?_
  refine lv_aload_n hx hb dX6_mixRows_7 rfl (lv_at hl 2 rfl) ?_
  refine va_get (D := G.1) (ci := 5) (v := .int (iI a_count)) (C := RX6) (T := TX6) (N := 4) hx hb hts (fun _ h => List.mem_cons_of_mem _ (inlX6 _ h)) hown hK hP 0 rfl rfl 3 (by decide) (hts _ (List.mem_cons_of_mem _ (in_r7 (List.mem_of_getElem? (i := 7) rfl)))) (fun _ h9 => h9) rfl dX6_mixRows_8 ?_
  refine lv_icmp_ge (tgt := 54) hx hb dX6_mixRows_11 (by decide) (fun c_7 => ?_) (fun c_7 => ?_)
  · have c_7 := (iI_le (a := a_count) (b := i0_2) (by omega) (by omega)).mp c_7
    refine lv_lload_n hx hb dX6_mixRows_54 rfl (lv_at hl 1 rfl) ?_
    exact g_lret (v := (lI h0__1)) hx hb hr hlocks hP hD hS (⟨h0__1, rfl, rfl⟩) dX6_mixRows_55
  · have c_7 : ¬ (a_count ≤ i0_2) := fun h9 => c_7 ((iI_le (a := a_count) (b := i0_2) (by omega) (by omega)).mpr h9)
    refine lv_iconst (v := iI 0) hx hb dX6_mixRows_14 rfl ?_
    refine lv_istore (lv' := [(6, .int (iI 0)), (5, .int (iI i0_2)), (3, .long (lI h0__1)), (0, .ref q0), (1, .long (lI s0))]) hx hb dX6_mixRows_15 hl (by decide) rfl (fun ls hl => ?_)
    refine g_loopN (pc := 17) (fun nn H locs ls => ∃ h0__8 : Int, ∃ j0_9 : Int, (0 ≤ j0_9 ∧ j0_9 ≤ 5) ∧ (5 - j0_9).toNat = nn ∧ va_P G.1 vwCl [oB5 q0 5 6 a_cells a_count, iB G a_cells 30 Fc] H ∧ va_D A [oB5 q0 5 6 a_cells a_count, iB G a_cells 30 Fc] ∧ va_S A s.heap H locs ∧ lv_has ls 7 [(6, .int (iI j0_9)), (5, .int (iI i0_2)), (3, .long (lI h0__8)), (0, .ref q0), (1, .long (lI s0))]) ?_ ⟨h0__1, 0, (by first | assumption | omega), rfl, hP, hD, hS, lv_sub hl [0, 1, 2, 3, 4] rfl⟩
    intro nn_12 H locs ls ih_11 hI
    refine ea_2_6 hI (fun h0__8 j0_9 f_10 hnn_13 hP hD hS hl => ?_)
    clear hI
    refine lv_iload hx hb dX6_mixRows_17 (lv_at hl 0 rfl) ?_
    refine lv_aload_n hx hb dX6_mixRows_19 rfl (lv_at hl 3 rfl) ?_
    refine va_get (D := G.1) (ci := 5) (v := .int (iI 5)) (C := RX6) (T := TX6) (N := 4) hx hb hts (fun _ h => List.mem_cons_of_mem _ (inlX6 _ h)) hown hK hP 0 rfl rfl 0 (by decide) (hts _ (List.mem_cons_of_mem _ (in_r4 (List.mem_of_getElem? (i := 7) rfl)))) (fun _ h9 => h9) rfl dX6_mixRows_20 ?_
    refine lv_icmp_ge (tgt := 48) hx hb dX6_mixRows_23 (by decide) (fun c_14 => ?_) (fun c_14 => ?_)
    · have c_14 := (iI_le (a := 5) (b := j0_9) (by first | decide | omega) (by omega)).mp c_14
      refine lv_iinc (v := iI (i0_2 + 1)) (lv' := [(5, .int (iI (i0_2 + 1))), (6, .int (iI j0_9)), (3, .long (lI h0__8)), (0, .ref q0), (1, .long (lI s0))]) hx hb dX6_mixRows_48 hl (k := 1) rfl (iI_add i0_2 1) (by decide) rfl (fun ls hl => ?_)
      refine lv_goto (tgt := 5) hx hb dX6_mixRows_51 (by decide) ?_
      exact ih_4 _ _ _ _ (by omega) ⟨h0__8, (i0_2 + 1), (by first | assumption | omega), rfl, hP, hD, hS, lv_sub hl [0, 2, 3, 4] rfl⟩
    · have c_14 : ¬ (5 ≤ j0_9) := fun h9 => c_14 ((iI_le (a := 5) (b := j0_9) (by first | decide | omega) (by omega)).mpr h9)
      refine lv_ldc2 (v := 31) hx hb hown (hts _ (List.mem_cons_of_mem _ (in_r43 (List.mem_of_getElem? (i := 19) rfl)))) dX6_mixRows_26 ?_
      refine g_topl (y := lI 31) (by decide) ?_
      refine lv_lload_n hx hb dX6_mixRows_29 rfl (lv_at hl 2 rfl) ?_
      refine lv_lmul hx hb dX6_mixRows_30 ?_
      refine g_topol (fun z_15 hz_15 => ?_)
      refine lv_aload_n hx hb dX6_mixRows_31 rfl (lv_at hl 3 rfl) ?_
      refine lv_iload hx hb dX6_mixRows_32 (lv_at hl 1 rfl) ?_
      refine lv_iload hx hb dX6_mixRows_34 (lv_at hl 0 rfl) ?_
      refine g_calli (wr := []) (va_runV (As := [.int (iI i0_2), .int (iI j0_9)]) (rest := [.long (lI z_15)]) ⟨hx, hb, hml, hown, hts⟩ (c_X6_cell_n l G (q0) (a_cells) (a_count) (Fc) (i0_2) (j0_9) (by first | exact y0_ | exact bd_mono y0_ (by omega) (by omega) | assumption) (by first | exact y1_ | assumption | omega) (by first | assumption | omega) (by first | assumption | omega) _) (cwV 2 hts gX6_mixRows_X6_cell rfl rfl rfl (by decide +kernel) ⟨Nat.le_of_ble_eq_true rfl, Nat.le_of_ble_eq_true rfl⟩) (g_preV q0 [.int (iI i0_2), .int (iI j0_9)] hP hD hK hN hS hA hZ [0, 1] rfl rfl 0 (ci := 5) rfl rfl) rfl rfl hl.1 rfl (lv_room (Nat.le_of_ble_eq_true rfl)) dX6_mixRows_36 ⟨Nat.le_of_ble_eq_true rfl, Nat.le_of_ble_eq_true rfl⟩) hP hD hS hA [0, 1] [] rfl rfl rfl (by decide) (fun r_16 u H locs hw hP hD hS => ?_)
      refine ea_1_4 hw (fun rr_17 k_18 k_19 e8_0 e8_1 => ?_)
      subst e8_0
      subst e8_1
      clear hw
      have hPD : PD G A H [oB5 q0 5 6 a_cells a_count, iB G a_cells 30 Fc] := ⟨hP, hD⟩
      have hP := hPD.1
      have hD := hPD.2
      clear hPD
      refine lv_i2l hx hb dX6_mixRows_39 rfl ?_
      refine g_topol (fun z_20 hz_20 => ?_)
      refine lv_ladd hx hb dX6_mixRows_40 ?_
      refine g_topol (fun z_21 hz_21 => ?_)
      refine lv_lstore_n (lv' := [(3, .long (lI z_21)), (6, .int (iI j0_9)), (5, .int (iI i0_2)), (0, .ref q0), (1, .long (lI s0))]) hx hb dX6_mixRows_41 rfl hl (by decide) rfl (fun ls hl => ?_)
      refine lv_iinc (v := iI (j0_9 + 1)) (lv' := [(6, .int (iI (j0_9 + 1))), (3, .long (lI z_21)), (5, .int (iI i0_2)), (0, .ref q0), (1, .long (lI s0))]) hx hb dX6_mixRows_42 hl (k := 1) rfl (iI_add j0_9 1) (by decide) rfl (fun ls hl => ?_)
      refine lv_goto (tgt := 17) hx hb dX6_mixRows_45 (by decide) ?_
      exact ih_11 _ _ _ _ (by omega) ⟨z_21, (j0_9 + 1), (by first | assumption | omega), rfl, hP, hD, hS, lv_sub hl [0, 2, 1, 3, 4] rfl⟩
set_option maxHeartbeats 8000000 in
set_option maxRecDepth 100000 in
theorem c_X6_isFull_m (l : Launch) (G : gG) (q0 : Nat) (a_cells : Nat) (a_count : Int) (hc : 0 ≤ a_count ∧ a_count ≤ 6) (sz : Nat) : gI G l yX6_isFull wsX6_isFull ({ frames := 0, cells := 0, slots := 0, locals := 0 } : Room) [.ref q0] [oB5 q0 4 6 a_cells a_count] sz (fun (r : Int32) (u : va_W) => ((a_count = 6) ∧ r = (iI 1) ∧ u = [oB5 q0 4 6 a_cells a_count]) ∨ ((a_count < 6) ∧ r = (iI 0) ∧ u = [oB5 q0 4 6 a_cells a_count])) := by
  refine Met.ofW (cc := cX6_isFull) (maxL := 1) (ret := (some .boolean)) (by decide) rfl ?_
  intro p e s m args below meth c s₁ B hml hv
  obtain ⟨rfl, hsz, hP, hK, hD0, hN, hZ⟩ := hv
  have hx := B.exec
  have hb := B.bytes
  have hr := B.returns
  have hts := atoms_spec (ws := wsX6_isFull) B.pre
  have hown : s.vm.findClass RX6 = some m.cls := findClass_of_methodNamed B.named
  have hlocks := B.notSynchronized
  subst hsz
  have hD := hD0.self (sz := s.heap.size)
  generalize hAe : va_A [oB5 q0 4 6 a_cells a_count] s.heap.size = A at hD hZ ⊢
  have hA : ∀ q : Nat, s.heap.size ≤ q → A q := fun q h => by rw [← hAe]; exact Or.inr h
  have hS : va_S A s.heap s.heap [] := va_S.rf
  have hP : va_P G.1 vwCl [oB5 q0 4 6 a_cells a_count] s.heap := hP
  have hl := lv_entry ([.ref q0]) (n := 1) (Nat.le_of_ble_eq_true rfl)
  rw [lg_entry_eq]
  generalize (lg_sl ([.ref q0]) ++ List.replicate (1 - (lg_sl ([.ref q0])).length) Slot.unset).toArray = ls at hl ⊢
  have hl : lv_has ls 1 [(0, .ref q0)] := hl
  refine lv_aload_n hx hb dX6_isFull_0 rfl (lv_at hl 0 rfl) ?_
  refine va_get (D := G.1) (ci := 5) (v := .int (iI a_count)) (C := RX6) (T := TX6) (N := 4) hx hb hts (fun _ h => List.mem_cons_of_mem _ (inlX6 _ h)) hown hK hP 0 rfl rfl 3 (by decide) (hts _ (List.mem_cons_of_mem _ (in_r7 (List.mem_of_getElem? (i := 7) rfl)))) (fun _ h9 => h9) rfl dX6_isFull_1 ?_
  refine lv_aload_n hx hb dX6_isFull_4 rfl (lv_at hl 0 rfl) ?_
  refine va_get (D := G.1) (ci := 5) (v := .int (iI 6)) (C := RX6) (T := TX6) (N := 4) hx hb hts (fun _ h => List.mem_cons_of_mem _ (inlX6 _ h)) hown hK hP 0 rfl rfl 1 (by decide) (hts _ (List.mem_cons_of_mem _ (in_r4 (List.mem_of_getElem? (i := 8) rfl)))) (fun _ h9 => h9) rfl dX6_isFull_5 ?_
  refine lv_icmp_lt (tgt := 15) hx hb dX6_isFull_8 (by decide) (fun c_1 => ?_) (fun c_1 => ?_)
  · have c_1 := (iI_lt (a := a_count) (b := 6) (by omega) (by first | decide | omega)).mp c_1
    refine lv_iconst (v := iI 0) hx hb dX6_isFull_15 rfl ?_
    exact g_zret (v := (iI 0)) hx hb hr hlocks rfl hP hD hS (Or.inr (⟨(by first | assumption | omega), rfl, rfl⟩)) dX6_isFull_16
  · have c_1 : ¬ (a_count < 6) := fun h9 => c_1 ((iI_lt (a := a_count) (b := 6) (by omega) (by first | decide | omega)).mpr h9)
    refine lv_iconst (v := iI 1) hx hb dX6_isFull_11 rfl ?_
    refine lv_goto (tgt := 16) hx hb dX6_isFull_12 (by decide) ?_
    exact g_zret (v := (iI 1)) hx hb hr hlocks rfl hP hD hS (Or.inl ⟨(by first | assumption | omega), rfl, rfl⟩) dX6_isFull_16
set_option maxHeartbeats 8000000 in
set_option maxRecDepth 100000 in
theorem c_X6_add_m (l : Launch) (G : gG) (q0 : Nat) (a_cells : Nat) (a_count : Int) (Fc : Nat → Int) (b0 : Int) (b1 : Int) (b2 : Int) (b3 : Int) (y0_ : bd 0 99 Fc) (y1_ : 0 ≤ a_count ∧ a_count ≤ 6) (u0 : 0 ≤ b0 ∧ b0 ≤ 99) (u1 : 0 ≤ b1 ∧ b1 ≤ 99) (u2 : 0 ≤ b2 ∧ b2 ≤ 99) (u3 : 0 ≤ b3 ∧ b3 ≤ 99) (hl : a_count < 6) (sz : Nat) : gI G l yX6_add wsX6_add ({ frames := 1, cells := 0, slots := 0, locals := 20 } : Room) [.ref q0, .int (iI b0), .int (iI b1), .int (iI b2), .int (iI b3), .int (iI 0)] [oB5 q0 4 6 a_cells a_count, iB G a_cells 30 Fc] sz (fun (r : Int32) (u : va_W) => (∃ Fn : Nat → Int, (Fn = r5 Fc a_count b0 b1 b2 b3 0) ∧ (bd 0 99 Fn) ∧ r = (iI (a_count + 1)) ∧ u = [oB5 q0 4 6 a_cells (a_count + 1), iB G a_cells 30 Fn])) := by
  refine Met.ofW (cc := cX6_add) (maxL := 7) (ret := (some .int)) (by decide) rfl ?_
  intro p e s m args below meth c s₁ B hml hv
  obtain ⟨rfl, hsz, hP, hK, hD0, hN, hZ⟩ := hv
  have hx := B.exec
  have hb := B.bytes
  have hr := B.returns
  have hts := atoms_spec (ws := wsX6_add) B.pre
  have hown : s.vm.findClass RX6 = some m.cls := findClass_of_methodNamed B.named
  have hlocks := B.notSynchronized
  subst hsz
  have hD := hD0.self (sz := s.heap.size)
  generalize hAe : va_A [oB5 q0 4 6 a_cells a_count, iB G a_cells 30 Fc] s.heap.size = A at hD hZ ⊢
  have hA : ∀ q : Nat, s.heap.size ≤ q → A q := fun q h => by rw [← hAe]; exact Or.inr h
  have hS : va_S A s.heap s.heap [] := va_S.rf
  have hP : va_P G.1 vwCl [oB5 q0 4 6 a_cells a_count, iB G a_cells 30 Fc] s.heap := hP
  have hl := lv_entry ([.ref q0, .int (iI b0), .int (iI b1), .int (iI b2), .int (iI b3), .int (iI 0)]) (n := 7) (Nat.le_of_ble_eq_true rfl)
  rw [lg_entry_eq]
  generalize (lg_sl ([.ref q0, .int (iI b0), .int (iI b1), .int (iI b2), .int (iI b3), .int (iI 0)]) ++ List.replicate (7 - (lg_sl ([.ref q0, .int (iI b0), .int (iI b1), .int (iI b2), .int (iI b3), .int (iI 0)])).length) Slot.unset).toArray = ls at hl ⊢
  have hl : lv_has ls 7 [(0, .ref q0), (1, .int (iI b0)), (2, .int (iI b1)), (3, .int (iI b2)), (4, .int (iI b3)), (5, .int (iI 0))] := hl
  refine lv_aload_n hx hb dX6_add_0 rfl (lv_at hl 0 rfl) ?_
  refine g_calli (wr := [iB G a_cells 30 Fc]) (va_runV (As := []) (rest := []) ⟨hx, hb, hml, hown, hts⟩ (c_X6_isFull_m l G (q0) (a_cells) (a_count) (by first | exact y1_ | assumption | omega) _) (cwV 0 hts gX6_add_X6_isFull rfl rfl rfl (by decide +kernel) ⟨Nat.le_of_ble_eq_true rfl, Nat.le_of_ble_eq_true rfl⟩) (g_preV q0 [] hP hD hK hN hS hA hZ [0] rfl rfl 0 (ci := 5) rfl rfl) rfl rfl hl.1 rfl (lv_room (Nat.le_of_ble_eq_true rfl)) dX6_add_1 ⟨Nat.le_of_ble_eq_true rfl, Nat.le_of_ble_eq_true rfl⟩) hP hD hS hA [0] [1] rfl rfl rfl (by decide) (fun r_1 u H locs hw hP hD hS => ?_)
  rcases hw with ⟨k_2, rfl, rfl⟩ | ⟨k_3, rfl, rfl⟩
  · exact absurd k_2 (by omega)
  · have hPD : PD G A H [iB G a_cells 30 Fc, oB5 q0 4 6 a_cells a_count] := ⟨hP, hD⟩
    have hP := hPD.1
    have hD := hPD.2
    clear hPD
    refine lv_if_eq (tgt := 12) hx hb dX6_add_4 (by decide) (fun _ => ?_) (fun c_4 => g_no (by decide) c_4)
    refine lv_aload_n hx hb dX6_add_12 rfl (lv_at hl 0 rfl) ?_
    refine va_get (D := G.1) (ci := 5) (v := .int (iI a_count)) (C := RX6) (T := TX6) (N := 4) hx hb hts (fun _ h => List.mem_cons_of_mem _ (inlX6 _ h)) hown hK hP 1 rfl rfl 3 (by decide) (hts _ (List.mem_cons_of_mem _ (in_r7 (List.mem_of_getElem? (i := 7) rfl)))) (fun _ h9 => h9) rfl dX6_add_13 ?_
    refine lv_iconst (v := iI 5) hx hb dX6_add_16 rfl ?_
    refine lv_imul hx hb dX6_add_17 ?_
    refine g_topi (y := iI (a_count * 5)) (iI_mul a_count 5) ?_
    refine lv_istore (lv' := [(6, .int (iI (a_count * 5))), (0, .ref q0), (1, .int (iI b0)), (2, .int (iI b1)), (3, .int (iI b2)), (4, .int (iI b3)), (5, .int (iI 0))]) hx hb dX6_add_18 hl (by decide) rfl (fun ls hl => ?_)
    refine lv_aload_n hx hb dX6_add_20 rfl (lv_at hl 1 rfl) ?_
    refine va_get (D := G.1) (ci := 5) (v := .ref a_cells) (C := RX6) (T := TX6) (N := 4) hx hb hts (fun _ h => List.mem_cons_of_mem _ (inlX6 _ h)) hown hK hP 1 rfl rfl 2 (by decide) (hts _ (List.mem_cons_of_mem _ (in_r4 (List.mem_of_getElem? (i := 2) rfl)))) (fun _ h9 => h9) rfl dX6_add_21 ?_
    refine lv_iload hx hb dX6_add_24 (lv_at hl 0 rfl) ?_
    refine lv_iload_n hx hb dX6_add_26 rfl (lv_at hl 2 rfl) ?_
    refine g_ist hx hb hK hP hD hS 0 rfl (by omega) (by omega) (by first | exact Nat.le_of_ble_eq_true rfl | omega) dX6_add_27 (fun H locs hP hD hS => ?_)
    have hb_6 := bd_u (k := ((a_count * 5).toNat)) (v := b0) y0_ (by omega) (by omega)
    have hPD : PD G A H [iB G a_cells 30 (uI Fc ((a_count * 5).toNat) b0), oB5 q0 4 6 a_cells a_count] := ⟨hP, hD⟩
    have hP := hPD.1
    have hD := hPD.2
    clear hPD
    refine lv_aload_n hx hb dX6_add_28 rfl (lv_at hl 1 rfl) ?_
    refine va_get (D := G.1) (ci := 5) (v := .ref a_cells) (C := RX6) (T := TX6) (N := 4) hx hb hts (fun _ h => List.mem_cons_of_mem _ (inlX6 _ h)) hown hK hP 1 rfl rfl 2 (by decide) (hts _ (List.mem_cons_of_mem _ (in_r4 (List.mem_of_getElem? (i := 2) rfl)))) (fun _ h9 => h9) rfl dX6_add_29 ?_
    refine lv_iload hx hb dX6_add_32 (lv_at hl 0 rfl) ?_
    refine lv_iconst (v := iI 1) hx hb dX6_add_34 rfl ?_
    refine lv_iadd hx hb dX6_add_35 ?_
    refine g_topi (y := iI ((a_count * 5) + 1)) (iI_add (a_count * 5) 1) ?_
    refine lv_iload_n hx hb dX6_add_36 rfl (lv_at hl 3 rfl) ?_
    refine g_ist hx hb hK hP hD hS 0 rfl (by omega) (by omega) (by first | exact Nat.le_of_ble_eq_true rfl | omega) dX6_add_37 (fun H locs hP hD hS => ?_)
    have hb_8 := bd_u (k := (((a_count * 5) + 1).toNat)) (v := b1) hb_6 (by omega) (by omega)
    have hPD : PD G A H [iB G a_cells 30 (uI (uI Fc ((a_count * 5).toNat) b0) (((a_count * 5) + 1).toNat) b1), oB5 q0 4 6 a_cells a_count] := ⟨hP, hD⟩
    have hP := hPD.1
    have hD := hPD.2
    clear hPD
    refine lv_aload_n hx hb dX6_add_38 rfl (lv_at hl 1 rfl) ?_
    refine va_get (D := G.1) (ci := 5) (v := .ref a_cells) (C := RX6) (T := TX6) (N := 4) hx hb hts (fun _ h => List.mem_cons_of_mem _ (inlX6 _ h)) hown hK hP 1 rfl rfl 2 (by decide) (hts _ (List.mem_cons_of_mem _ (in_r4 (List.mem_of_getElem? (i := 2) rfl)))) (fun _ h9 => h9) rfl dX6_add_39 ?_
    refine lv_iload hx hb dX6_add_42 (lv_at hl 0 rfl) ?_
    refine lv_iconst (v := iI 2) hx hb dX6_add_44 rfl ?_
    refine lv_iadd hx hb dX6_add_45 ?_
    refine g_topi (y := iI ((a_count * 5) + 2)) (iI_add (a_count * 5) 2) ?_
    refine lv_iload_n hx hb dX6_add_46 rfl (lv_at hl 4 rfl) ?_
    refine g_ist hx hb hK hP hD hS 0 rfl (by omega) (by omega) (by first | exact Nat.le_of_ble_eq_true rfl | omega) dX6_add_47 (fun H locs hP hD hS => ?_)
    have hb_10 := bd_u (k := (((a_count * 5) + 2).toNat)) (v := b2) hb_8 (by omega) (by omega)
    have hPD : PD G A H [iB G a_cells 30 (uI (uI (uI Fc ((a_count * 5).toNat) b0) (((a_count * 5) + 1).toNat) b1) (((a_count * 5) + 2).toNat) b2), oB5 q0 4 6 a_cells a_count] := ⟨hP, hD⟩
    have hP := hPD.1
    have hD := hPD.2
    clear hPD
    refine lv_aload_n hx hb dX6_add_48 rfl (lv_at hl 1 rfl) ?_
    refine va_get (D := G.1) (ci := 5) (v := .ref a_cells) (C := RX6) (T := TX6) (N := 4) hx hb hts (fun _ h => List.mem_cons_of_mem _ (inlX6 _ h)) hown hK hP 1 rfl rfl 2 (by decide) (hts _ (List.mem_cons_of_mem _ (in_r4 (List.mem_of_getElem? (i := 2) rfl)))) (fun _ h9 => h9) rfl dX6_add_49 ?_
    refine lv_iload hx hb dX6_add_52 (lv_at hl 0 rfl) ?_
    refine lv_iconst (v := iI 3) hx hb dX6_add_54 rfl ?_
    refine lv_iadd hx hb dX6_add_55 ?_
    refine g_topi (y := iI ((a_count * 5) + 3)) (iI_add (a_count * 5) 3) ?_
    refine lv_iload hx hb dX6_add_56 (lv_at hl 5 rfl) ?_
    refine g_ist hx hb hK hP hD hS 0 rfl (by omega) (by omega) (by first | exact Nat.le_of_ble_eq_true rfl | omega) dX6_add_58 (fun H locs hP hD hS => ?_)
    have hb_12 := bd_u (k := (((a_count * 5) + 3).toNat)) (v := b3) hb_10 (by omega) (by omega)
    have hPD : PD G A H [iB G a_cells 30 (uI (uI (uI (uI Fc ((a_count * 5).toNat) b0) (((a_count * 5) + 1).toNat) b1) (((a_count * 5) + 2).toNat) b2) (((a_count * 5) + 3).toNat) b3), oB5 q0 4 6 a_cells a_count] := ⟨hP, hD⟩
    have hP := hPD.1
    have hD := hPD.2
    clear hPD
    refine lv_aload_n hx hb dX6_add_59 rfl (lv_at hl 1 rfl) ?_
    refine va_get (D := G.1) (ci := 5) (v := .ref a_cells) (C := RX6) (T := TX6) (N := 4) hx hb hts (fun _ h => List.mem_cons_of_mem _ (inlX6 _ h)) hown hK hP 1 rfl rfl 2 (by decide) (hts _ (List.mem_cons_of_mem _ (in_r4 (List.mem_of_getElem? (i := 2) rfl)))) (fun _ h9 => h9) rfl dX6_add_60 ?_
    refine lv_iload hx hb dX6_add_63 (lv_at hl 0 rfl) ?_
    refine lv_iconst (v := iI 4) hx hb dX6_add_65 rfl ?_
    refine lv_iadd hx hb dX6_add_66 ?_
    refine g_topi (y := iI ((a_count * 5) + 4)) (iI_add (a_count * 5) 4) ?_
    refine lv_iload hx hb dX6_add_67 (lv_at hl 6 rfl) ?_
    refine g_ist hx hb hK hP hD hS 0 rfl (by omega) (by omega) (by first | exact Nat.le_of_ble_eq_true rfl | omega) dX6_add_69 (fun H locs hP hD hS => ?_)
    have hb_14 := bd_u (k := (((a_count * 5) + 4).toNat)) (v := 0) hb_12 (by omega) (by omega)
    have hPD : PD G A H [iB G a_cells 30 (uI (uI (uI (uI (uI Fc ((a_count * 5).toNat) b0) (((a_count * 5) + 1).toNat) b1) (((a_count * 5) + 2).toNat) b2) (((a_count * 5) + 3).toNat) b3) (((a_count * 5) + 4).toNat) 0), oB5 q0 4 6 a_cells a_count] := ⟨hP, hD⟩
    have hP := hPD.1
    have hD := hPD.2
    clear hPD
    refine lv_aload_n hx hb dX6_add_70 rfl (lv_at hl 1 rfl) ?_
    refine lv_dup hx hb dX6_add_71 rfl ?_
    refine va_get (D := G.1) (ci := 5) (v := .int (iI a_count)) (C := RX6) (T := TX6) (N := 4) hx hb hts (fun _ h => List.mem_cons_of_mem _ (inlX6 _ h)) hown hK hP 1 rfl rfl 3 (by decide) (hts _ (List.mem_cons_of_mem _ (in_r7 (List.mem_of_getElem? (i := 7) rfl)))) (fun _ h9 => h9) rfl dX6_add_72 ?_
    refine lv_iconst (v := iI 1) hx hb dX6_add_75 rfl ?_
    refine lv_iadd hx hb dX6_add_76 ?_
    refine g_topi (y := iI (a_count + 1)) (iI_add a_count 1) ?_
    refine va_put (D := G.1) (ci := 5) (v := .int (iI (a_count + 1))) (ty := .int) (C := RX6) (T := TX6) (N := 4) hx hb hts (fun _ h => List.mem_cons_of_mem _ (inlX6 _ h)) tyX6 tyX6_ok nmX6 hown hK hP hD hS 1 rfl rfl 3 (by decide) (hts _ (List.mem_cons_of_mem _ (in_r7 (List.mem_of_getElem? (i := 7) rfl)))) (fun _ h9 => h9) rfl (by decide +kernel) rfl rfl (Nat.le_of_ble_eq_true rfl) dX6_add_77 (fun H locs hP hD hS => ?_)
    have hPD : PD G A H [iB G a_cells 30 (uI (uI (uI (uI (uI Fc ((a_count * 5).toNat) b0) (((a_count * 5) + 1).toNat) b1) (((a_count * 5) + 2).toNat) b2) (((a_count * 5) + 3).toNat) b3) (((a_count * 5) + 4).toNat) 0), oB5 q0 4 6 a_cells (a_count + 1)] := ⟨hP, hD⟩
    have hP := hPD.1
    have hD := hPD.2
    clear hPD
    refine lv_aload_n hx hb dX6_add_80 rfl (lv_at hl 1 rfl) ?_
    refine va_get (D := G.1) (ci := 5) (v := .int (iI (a_count + 1))) (C := RX6) (T := TX6) (N := 4) hx hb hts (fun _ h => List.mem_cons_of_mem _ (inlX6 _ h)) hown hK hP 1 rfl rfl 3 (by decide) (hts _ (List.mem_cons_of_mem _ (in_r7 (List.mem_of_getElem? (i := 7) rfl)))) (fun _ h9 => h9) rfl dX6_add_81 ?_
    have hP := hP.sub (ws' := [oB5 q0 4 6 a_cells (a_count + 1), iB G a_cells 30 (uI (uI (uI (uI (uI Fc ((a_count * 5).toNat) b0) (((a_count * 5) + 1).toNat) b1) (((a_count * 5) + 2).toNat) b2) (((a_count * 5) + 3).toNat) b3) (((a_count * 5) + 4).toNat) 0)]) [1, 0] rfl
    have hD := hD.sub (ws' := [oB5 q0 4 6 a_cells (a_count + 1), iB G a_cells 30 (uI (uI (uI (uI (uI Fc ((a_count * 5).toNat) b0) (((a_count * 5) + 1).toNat) b1) (((a_count * 5) + 2).toNat) b2) (((a_count * 5) + 3).toNat) b3) (((a_count * 5) + 4).toNat) 0)]) [1, 0] rfl rfl
    exact g_iret (v := (iI (a_count + 1))) hx hb hr hlocks hP hD hS (⟨(uI (uI (uI (uI (uI Fc ((a_count * 5).toNat) b0) (((a_count * 5) + 1).toNat) b1) (((a_count * 5) + 2).toNat) b2) (((a_count * 5) + 3).toNat) b3) (((a_count * 5) + 4).toNat) 0), rfl, (by first | exact hb_14 | exact bd_mono hb_14 (by omega) (by omega) | assumption), rfl, rfl⟩) dX6_add_84
set_option maxHeartbeats 8000000 in
set_option maxRecDepth 100000 in
theorem c_X6_cell_m (l : Launch) (G : gG) (q0 : Nat) (a_cells : Nat) (a_count : Int) (Fc : Nat → Int) (i0 : Int) (j0 : Int) (y0_ : bd 0 99 Fc) (y1_ : 0 ≤ a_count ∧ a_count ≤ 6) (hi : 0 ≤ i0 ∧ i0 ≤ 5) (hj : 0 ≤ j0 ∧ j0 ≤ 4) (sz : Nat) : gI G l yX6_cell wsX6_cell ({ frames := 1, cells := 0, slots := 0, locals := 22 } : Room) [.ref q0, .int (iI i0), .int (iI j0)] [oB5 q0 4 6 a_cells a_count, iB G a_cells 30 Fc] sz (fun (r : Int32) (u : va_W) => (∃ rr : Int, (rr = Fc (((i0 * 5) + j0).toNat)) ∧ (0 ≤ rr ∧ rr ≤ 99) ∧ r = (iI rr) ∧ u = [oB5 q0 4 6 a_cells a_count, iB G a_cells 30 Fc])) := by
  refine Met.ofW (cc := cX6_cell) (maxL := 3) (ret := (some .int)) (by decide) rfl ?_
  intro p e s m args below meth c s₁ B hml hv
  obtain ⟨rfl, hsz, hP, hK, hD0, hN, hZ⟩ := hv
  have hx := B.exec
  have hb := B.bytes
  have hr := B.returns
  have hts := atoms_spec (ws := wsX6_cell) B.pre
  have hown : s.vm.findClass RX6 = some m.cls := findClass_of_methodNamed B.named
  have hlocks := B.notSynchronized
  subst hsz
  have hD := hD0.self (sz := s.heap.size)
  generalize hAe : va_A [oB5 q0 4 6 a_cells a_count, iB G a_cells 30 Fc] s.heap.size = A at hD hZ ⊢
  have hA : ∀ q : Nat, s.heap.size ≤ q → A q := fun q h => by rw [← hAe]; exact Or.inr h
  have hS : va_S A s.heap s.heap [] := va_S.rf
  have hP : va_P G.1 vwCl [oB5 q0 4 6 a_cells a_count, iB G a_cells 30 Fc] s.heap := hP
  have hl := lv_entry ([.ref q0, .int (iI i0), .int (iI j0)]) (n := 3) (Nat.le_of_ble_eq_true rfl)
  rw [lg_entry_eq]
  generalize (lg_sl ([.ref q0, .int (iI i0), .int (iI j0)]) ++ List.replicate (3 - (lg_sl ([.ref q0, .int (iI i0), .int (iI j0)])).length) Slot.unset).toArray = ls at hl ⊢
  have hl : lv_has ls 3 [(0, .ref q0), (1, .int (iI i0)), (2, .int (iI j0))] := hl
  refine lv_iload_n hx hb dX6_cell_0 rfl (lv_at hl 1 rfl) ?_
  refine lv_iconst (v := iI 0) hx hb dX6_cell_1 rfl ?_
  refine lv_iconst (v := iI 5) hx hb dX6_cell_2 rfl ?_
  refine g_calli (wr := [oB5 q0 4 6 a_cells a_count, iB G a_cells 30 Fc]) (va_runSN (As := [.int (iI i0), .int (iI 0), .int (iI 5)]) (rest := []) ⟨hx, hb, hml, hown, hts⟩ (c_X10_within l G (i0) (0) (5) (by first | assumption | omega) (by first | assumption | omega) (by first | assumption | omega) _) (⟨va_cnB 3 hts gX6_cell_X10_within_n33 rfl rfl rfl (nw97 hN) (hts _ (List.mem_cons_of_mem _ (in_r1 (List.mem_of_getElem? (i := 2) rfl)))) (by decide +kernel) ⟨Nat.le_of_ble_eq_true rfl, Nat.le_of_ble_eq_true rfl⟩, (hts _ (List.mem_cons_of_mem _ (in_r7 (List.mem_of_getElem? (i := 21) rfl)))), trivial⟩) (g_preS [.int (iI i0), .int (iI 0), .int (iI 5)] hP hD hK hN hS hA hZ [] rfl rfl) rfl rfl hl.1 rfl (lv_room (Nat.le_of_ble_eq_true rfl)) dX6_cell_3 ⟨Nat.le_of_ble_eq_true rfl, Nat.le_of_ble_eq_true rfl⟩) hP hD hS hA [] [0, 1] rfl rfl rfl (by decide) (fun r_1 u H locs hw hP hD hS => ?_)
  rcases hw with hw | hw
  · refine ea_0_4 hw (fun k_2 k_3 e8_0 e8_1 => ?_)
    subst e8_0
    subst e8_1
    clear hw
    have hPD : PD G A H [oB5 q0 4 6 a_cells a_count, iB G a_cells 30 Fc] := ⟨hP, hD⟩
    have hP := hPD.1
    have hD := hPD.2
    clear hPD
    refine lv_if_eq (tgt := 31) hx hb dX6_cell_6 (by decide) (fun c_5 => g_no c_5 (by decide)) (fun _ => ?_)
    refine lv_iload_n hx hb dX6_cell_9 rfl (lv_at hl 2 rfl) ?_
    refine lv_iconst (v := iI 0) hx hb dX6_cell_10 rfl ?_
    refine lv_iconst (v := iI 4) hx hb dX6_cell_11 rfl ?_
    refine g_calli (wr := [oB5 q0 4 6 a_cells a_count, iB G a_cells 30 Fc]) (va_runSN (As := [.int (iI j0), .int (iI 0), .int (iI 4)]) (rest := []) ⟨hx, hb, hml, hown, hts⟩ (c_X10_within l G (j0) (0) (4) (by first | assumption | omega) (by first | assumption | omega) (by first | assumption | omega) _) (⟨va_cnB 3 hts gX6_cell_X10_within_n33 rfl rfl rfl (nw97 hN) (hts _ (List.mem_cons_of_mem _ (in_r1 (List.mem_of_getElem? (i := 2) rfl)))) (by decide +kernel) ⟨Nat.le_of_ble_eq_true rfl, Nat.le_of_ble_eq_true rfl⟩, (hts _ (List.mem_cons_of_mem _ (in_r7 (List.mem_of_getElem? (i := 21) rfl)))), trivial⟩) (g_preS [.int (iI j0), .int (iI 0), .int (iI 4)] hP hD hK hN hS hA hZ [] rfl rfl) rfl rfl hl.1 rfl (lv_room (Nat.le_of_ble_eq_true rfl)) dX6_cell_12 ⟨Nat.le_of_ble_eq_true rfl, Nat.le_of_ble_eq_true rfl⟩) hP hD hS hA [] [0, 1] rfl rfl rfl (by decide) (fun r_6 u H locs hw hP hD hS => ?_)
    rcases hw with hw | hw
    · refine ea_0_4 hw (fun k_7 k_8 e8_0 e8_1 => ?_)
      subst e8_0
      subst e8_1
      clear hw
      have hPD : PD G A H [oB5 q0 4 6 a_cells a_count, iB G a_cells 30 Fc] := ⟨hP, hD⟩
      have hP := hPD.1
      have hD := hPD.2
      clear hPD
      refine lv_if_eq (tgt := 31) hx hb dX6_cell_15 (by decide) (fun c_10 => g_no c_10 (by decide)) (fun _ => ?_)
      refine lv_aload_n hx hb dX6_cell_18 rfl (lv_at hl 0 rfl) ?_
      refine va_get (D := G.1) (ci := 5) (v := .ref a_cells) (C := RX6) (T := TX6) (N := 4) hx hb hts (fun _ h => List.mem_cons_of_mem _ (inlX6 _ h)) hown hK hP 0 rfl rfl 2 (by decide) (hts _ (List.mem_cons_of_mem _ (in_r4 (List.mem_of_getElem? (i := 2) rfl)))) (fun _ h9 => h9) rfl dX6_cell_19 ?_
      refine lv_iload_n hx hb dX6_cell_22 rfl (lv_at hl 1 rfl) ?_
      refine lv_iconst (v := iI 5) hx hb dX6_cell_23 rfl ?_
      refine lv_imul hx hb dX6_cell_24 ?_
      refine g_topi (y := iI (i0 * 5)) (iI_mul i0 5) ?_
      refine lv_iload_n hx hb dX6_cell_25 rfl (lv_at hl 2 rfl) ?_
      refine lv_iadd hx hb dX6_cell_26 ?_
      refine g_topi (y := iI ((i0 * 5) + j0)) (iI_add (i0 * 5) j0) ?_
      refine g_ild hx hb hK hP 1 rfl (by omega) (by omega) (by first | exact Nat.le_of_ble_eq_true rfl | omega) dX6_cell_27 (fun w_11 ew_11 => ?_)
      have ew_11 : Fc (((i0 * 5) + j0).toNat) = w_11 := ew_11
      subst ew_11
      have b0w_11 := y0_ (((i0 * 5) + j0).toNat)
      refine lv_goto (tgt := 32) hx hb dX6_cell_28 (by decide) ?_
      exact g_iret (v := (iI (Fc (((i0 * 5) + j0).toNat)))) hx hb hr hlocks hP hD hS (⟨(Fc (((i0 * 5) + j0).toNat)), (by first | assumption | omega), (by first | assumption | omega), rfl, rfl⟩) dX6_cell_32
    · refine ea_0_3 hw (fun k_9 e8_0 e8_1 => ?_)
      subst e8_0
      subst e8_1
      clear hw
      exact absurd k_9 (by omega)
  · refine ea_0_3 hw (fun k_4 e8_0 e8_1 => ?_)
    subst e8_0
    subst e8_1
    clear hw
    exact absurd k_4 (by omega)
set_option maxHeartbeats 8000000 in
set_option maxRecDepth 100000 in
theorem c_X6_empty_m (l : Launch) (G : gG) (q0 : Nat) (a_cells : Nat) (a_count : Int) (sz : Nat) : gI G l yX6_empty wsX6_empty ({ frames := 0, cells := 0, slots := 0, locals := 0 } : Room) [.ref q0] [oB5 q0 4 6 a_cells a_count] sz (fun (r : Int32) (u : va_W) => (r = (iI a_count) ∧ u = [oB5 q0 4 6 a_cells 0])) := by
  refine Met.ofW (cc := cX6_empty) (maxL := 2) (ret := (some .int)) (by decide) rfl ?_
  intro p e s m args below meth c s₁ B hml hv
  obtain ⟨rfl, hsz, hP, hK, hD0, hN, hZ⟩ := hv
  have hx := B.exec
  have hb := B.bytes
  have hr := B.returns
  have hts := atoms_spec (ws := wsX6_empty) B.pre
  have hown : s.vm.findClass RX6 = some m.cls := findClass_of_methodNamed B.named
  have hlocks := B.notSynchronized
  subst hsz
  have hD := hD0.self (sz := s.heap.size)
  generalize hAe : va_A [oB5 q0 4 6 a_cells a_count] s.heap.size = A at hD hZ ⊢
  have hA : ∀ q : Nat, s.heap.size ≤ q → A q := fun q h => by rw [← hAe]; exact Or.inr h
  have hS : va_S A s.heap s.heap [] := va_S.rf
  have hP : va_P G.1 vwCl [oB5 q0 4 6 a_cells a_count] s.heap := hP
  have hl := lv_entry ([.ref q0]) (n := 2) (Nat.le_of_ble_eq_true rfl)
  rw [lg_entry_eq]
  generalize (lg_sl ([.ref q0]) ++ List.replicate (2 - (lg_sl ([.ref q0])).length) Slot.unset).toArray = ls at hl ⊢
  have hl : lv_has ls 2 [(0, .ref q0)] := hl
  refine lv_aload_n hx hb dX6_empty_0 rfl (lv_at hl 0 rfl) ?_
  refine va_get (D := G.1) (ci := 5) (v := .int (iI a_count)) (C := RX6) (T := TX6) (N := 4) hx hb hts (fun _ h => List.mem_cons_of_mem _ (inlX6 _ h)) hown hK hP 0 rfl rfl 3 (by decide) (hts _ (List.mem_cons_of_mem _ (in_r7 (List.mem_of_getElem? (i := 7) rfl)))) (fun _ h9 => h9) rfl dX6_empty_1 ?_
  refine lv_istore_n (lv' := [(1, .int (iI a_count)), (0, .ref q0)]) hx hb dX6_empty_4 rfl hl (by decide) rfl (fun ls hl => ?_)
  refine lv_aload_n hx hb dX6_empty_5 rfl (lv_at hl 1 rfl) ?_
  refine lv_iconst (v := iI 0) hx hb dX6_empty_6 rfl ?_
  refine va_put (D := G.1) (ci := 5) (v := .int (iI 0)) (ty := .int) (C := RX6) (T := TX6) (N := 4) hx hb hts (fun _ h => List.mem_cons_of_mem _ (inlX6 _ h)) tyX6 tyX6_ok nmX6 hown hK hP hD hS 0 rfl rfl 3 (by decide) (hts _ (List.mem_cons_of_mem _ (in_r7 (List.mem_of_getElem? (i := 7) rfl)))) (fun _ h9 => h9) rfl (by decide +kernel) rfl rfl (Nat.le_of_ble_eq_true rfl) dX6_empty_7 (fun H locs hP hD hS => ?_)
  have hPD : PD G A H [oB5 q0 4 6 a_cells 0] := ⟨hP, hD⟩
  have hP := hPD.1
  have hD := hPD.2
  clear hPD
  refine lv_iload_n hx hb dX6_empty_10 rfl (lv_at hl 0 rfl) ?_
  exact g_iret (v := (iI a_count)) hx hb hr hlocks hP hD hS (⟨rfl, rfl⟩) dX6_empty_11
set_option maxHeartbeats 8000000 in
set_option maxRecDepth 100000 in
theorem c_X6_takeOver_m (l : Launch) (G : gG) (q0 : Nat) (a_cells : Nat) (a_count : Int) (Fc : Nat → Int) (q1 : Nat) (b_cells : Nat) (b_count : Int) (Fd : Nat → Int) (sz : Nat) : gV G l yX6_takeOver wsX6_takeOver ({ frames := 1, cells := 0, slots := 0, locals := 24 } : Room) [.ref q0, .ref q1] [oB5 q0 4 6 a_cells a_count, iB G a_cells 30 Fc, oB5 q1 4 6 b_cells b_count, iB G b_cells 30 Fd] sz (fun (u : va_W) => (u = [oB5 q0 4 6 a_cells b_count, iB G a_cells 30 Fd, oB5 q1 4 6 b_cells b_count, iB G b_cells 30 Fd])) := by
  refine Met.ofW (cc := cX6_takeOver) (maxL := 2) (ret := none) (by decide) rfl ?_
  intro p e s m args below meth c s₁ B hml hv
  obtain ⟨rfl, hsz, hP, hK, hD0, hN, hZ⟩ := hv
  have hx := B.exec
  have hb := B.bytes
  have hr := B.returns
  have hts := atoms_spec (ws := wsX6_takeOver) B.pre
  have hown : s.vm.findClass RX6 = some m.cls := findClass_of_methodNamed B.named
  have hlocks := B.notSynchronized
  subst hsz
  have hD := hD0.self (sz := s.heap.size)
  generalize hAe : va_A [oB5 q0 4 6 a_cells a_count, iB G a_cells 30 Fc, oB5 q1 4 6 b_cells b_count, iB G b_cells 30 Fd] s.heap.size = A at hD hZ ⊢
  have hA : ∀ q : Nat, s.heap.size ≤ q → A q := fun q h => by rw [← hAe]; exact Or.inr h
  have hS : va_S A s.heap s.heap [] := va_S.rf
  have hP : va_P G.1 vwCl [oB5 q0 4 6 a_cells a_count, iB G a_cells 30 Fc, oB5 q1 4 6 b_cells b_count, iB G b_cells 30 Fd] s.heap := hP
  have hl := lv_entry ([.ref q0, .ref q1]) (n := 2) (Nat.le_of_ble_eq_true rfl)
  rw [lg_entry_eq]
  generalize (lg_sl ([.ref q0, .ref q1]) ++ List.replicate (2 - (lg_sl ([.ref q0, .ref q1])).length) Slot.unset).toArray = ls at hl ⊢
  have hl : lv_has ls 2 [(0, .ref q0), (1, .ref q1)] := hl
  refine lv_aload_n hx hb dX6_takeOver_0 rfl (lv_at hl 0 rfl) ?_
  refine lv_aload_n hx hb dX6_takeOver_1 rfl (lv_at hl 1 rfl) ?_
  refine va_get (D := G.1) (ci := 5) (v := .int (iI b_count)) (C := RX6) (T := TX6) (N := 4) hx hb hts (fun _ h => List.mem_cons_of_mem _ (inlX6 _ h)) hown hK hP 2 rfl rfl 3 (by decide) (hts _ (List.mem_cons_of_mem _ (in_r7 (List.mem_of_getElem? (i := 7) rfl)))) (fun _ h9 => h9) rfl dX6_takeOver_2 ?_
  refine va_put (D := G.1) (ci := 5) (v := .int (iI b_count)) (ty := .int) (C := RX6) (T := TX6) (N := 4) hx hb hts (fun _ h => List.mem_cons_of_mem _ (inlX6 _ h)) tyX6 tyX6_ok nmX6 hown hK hP hD hS 0 rfl rfl 3 (by decide) (hts _ (List.mem_cons_of_mem _ (in_r7 (List.mem_of_getElem? (i := 7) rfl)))) (fun _ h9 => h9) rfl (by decide +kernel) rfl rfl (Nat.le_of_ble_eq_true rfl) dX6_takeOver_5 (fun H locs hP hD hS => ?_)
  have hPD : PD G A H [oB5 q0 4 6 a_cells b_count, iB G a_cells 30 Fc, oB5 q1 4 6 b_cells b_count, iB G b_cells 30 Fd] := ⟨hP, hD⟩
  have hP := hPD.1
  have hD := hPD.2
  clear hPD
  refine lv_aload_n hx hb dX6_takeOver_8 rfl (lv_at hl 1 rfl) ?_
  refine va_get (D := G.1) (ci := 5) (v := .ref b_cells) (C := RX6) (T := TX6) (N := 4) hx hb hts (fun _ h => List.mem_cons_of_mem _ (inlX6 _ h)) hown hK hP 2 rfl rfl 2 (by decide) (hts _ (List.mem_cons_of_mem _ (in_r4 (List.mem_of_getElem? (i := 2) rfl)))) (fun _ h9 => h9) rfl dX6_takeOver_9 ?_
  refine lv_iconst (v := iI 0) hx hb dX6_takeOver_12 rfl ?_
  refine lv_aload_n hx hb dX6_takeOver_13 rfl (lv_at hl 0 rfl) ?_
  refine va_get (D := G.1) (ci := 5) (v := .ref a_cells) (C := RX6) (T := TX6) (N := 4) hx hb hts (fun _ h => List.mem_cons_of_mem _ (inlX6 _ h)) hown hK hP 0 rfl rfl 2 (by decide) (hts _ (List.mem_cons_of_mem _ (in_r4 (List.mem_of_getElem? (i := 2) rfl)))) (fun _ h9 => h9) rfl dX6_takeOver_14 ?_
  refine lv_iconst (v := iI 0) hx hb dX6_takeOver_17 rfl ?_
  refine lv_bipush (v := iI 30) hx hb dX6_takeOver_18 (by decide) ?_
  refine g_copyF (rest := []) hx hb (hml.trans hl.1.symm) hown (hts _ (List.mem_cons_of_mem _ (in_r41 (List.mem_of_getElem? (i := 13) rfl)))) (hts _ (List.mem_cons_of_mem _ (in_r23 (List.mem_of_getElem? (i := 19) rfl)))) (hts _ (List.mem_cons_of_mem _ (in_r23 (List.mem_of_getElem? (i := 20) rfl)))) (hts _ (List.mem_cons_of_mem _ (in_r23 (List.mem_of_getElem? (i := 21) rfl)))) hK hP hD hS 3 1 rfl rfl (by decide) (by decide) (Nat.le_of_ble_eq_true rfl) (Nat.le_of_ble_eq_true rfl) dX6_takeOver_20 (fun H locs hP hD hS => ?_)
  have hPD : PD G A H [oB5 q0 4 6 a_cells b_count, iB G a_cells 30 Fd, oB5 q1 4 6 b_cells b_count, iB G b_cells 30 Fd] := ⟨hP, hD⟩
  have hP := hPD.1
  have hD := hPD.2
  clear hPD
  exact g_vret hx hb hr hlocks hP hD hS (rfl) dX6_takeOver_23
set_option maxHeartbeats 8000000 in
set_option maxRecDepth 100000 in
theorem c_X6_mixRows_m (l : Launch) (G : gG) (q0 : Nat) (a_cells : Nat) (a_count : Int) (Fc : Nat → Int) (s0 : Int) (y0_ : bd 0 99 Fc) (y1_ : 0 ≤ a_count ∧ a_count ≤ 6) (sz : Nat) : gL G l yX6_mixRows wsX6_mixRows ({ frames := 2, cells := 0, slots := 0, locals := 44 } : Room) [.ref q0, .long (lI s0)] [oB5 q0 4 6 a_cells a_count, iB G a_cells 30 Fc] sz (fun (r : Int64) (u : va_W) => (∃ rr : Int, r = (lI rr) ∧ u = [oB5 q0 4 6 a_cells a_count, iB G a_cells 30 Fc])) := by
  refine Met.ofW (cc := cX6_mixRows) (maxL := 7) (ret := (some .long)) (by decide) rfl ?_
  intro p e s m args below meth c s₁ B hml hv
  obtain ⟨rfl, hsz, hP, hK, hD0, hN, hZ⟩ := hv
  have hx := B.exec
  have hb := B.bytes
  have hr := B.returns
  have hts := atoms_spec (ws := wsX6_mixRows) B.pre
  have hown : s.vm.findClass RX6 = some m.cls := findClass_of_methodNamed B.named
  have hlocks := B.notSynchronized
  subst hsz
  have hD := hD0.self (sz := s.heap.size)
  generalize hAe : va_A [oB5 q0 4 6 a_cells a_count, iB G a_cells 30 Fc] s.heap.size = A at hD hZ ⊢
  have hA : ∀ q : Nat, s.heap.size ≤ q → A q := fun q h => by rw [← hAe]; exact Or.inr h
  have hS : va_S A s.heap s.heap [] := va_S.rf
  have hP : va_P G.1 vwCl [oB5 q0 4 6 a_cells a_count, iB G a_cells 30 Fc] s.heap := hP
  have hl := lv_entry ([.ref q0, .long (lI s0)]) (n := 7) (Nat.le_of_ble_eq_true rfl)
  rw [lg_entry_eq]
  generalize (lg_sl ([.ref q0, .long (lI s0)]) ++ List.replicate (7 - (lg_sl ([.ref q0, .long (lI s0)])).length) Slot.unset).toArray = ls at hl ⊢
  have hl : lv_has ls 7 [(0, .ref q0), (1, .long (lI s0))] := hl
  refine lv_lload_n hx hb dX6_mixRows_0 rfl (lv_at hl 1 rfl) ?_
  refine lv_lstore_n (lv' := [(3, .long (lI s0)), (0, .ref q0), (1, .long (lI s0))]) hx hb dX6_mixRows_1 rfl hl (by decide) rfl (fun ls hl => ?_)
  refine lv_iconst (v := iI 0) hx hb dX6_mixRows_2 rfl ?_
  refine lv_istore (lv' := [(5, .int (iI 0)), (3, .long (lI s0)), (0, .ref q0), (1, .long (lI s0))]) hx hb dX6_mixRows_3 hl (by decide) rfl (fun ls hl => ?_)
  refine g_loopN (pc := 5) (fun nn H locs ls => ∃ h0__1 : Int, ∃ i0_2 : Int, (0 ≤ i0_2 ∧ i0_2 ≤ 6) ∧ (6 - i0_2).toNat = nn ∧ va_P G.1 vwCl [oB5 q0 4 6 a_cells a_count, iB G a_cells 30 Fc] H ∧ va_D A [oB5 q0 4 6 a_cells a_count, iB G a_cells 30 Fc] ∧ va_S A s.heap H locs ∧ lv_has ls 7 [(5, .int (iI i0_2)), (3, .long (lI h0__1)), (0, .ref q0), (1, .long (lI s0))]) ?_ ⟨s0, 0, (by first | assumption | omega), rfl, hP, hD, hS, lv_sub hl [0, 1, 2, 3] rfl⟩
  intro nn_5 H locs ls ih_4 hI
  refine ea_2_6 hI (fun h0__1 i0_2 f_3 hnn_6 hP hD hS hl => ?_)
  clear hI
  refine lv_iload hx hb dX6_mixRows_5 (lv_at hl 0 rfl) ?_
  refine lv_aload_n hx hb dX6_mixRows_7 rfl (lv_at hl 2 rfl) ?_
  refine va_get (D := G.1) (ci := 5) (v := .int (iI a_count)) (C := RX6) (T := TX6) (N := 4) hx hb hts (fun _ h => List.mem_cons_of_mem _ (inlX6 _ h)) hown hK hP 0 rfl rfl 3 (by decide) (hts _ (List.mem_cons_of_mem _ (in_r7 (List.mem_of_getElem? (i := 7) rfl)))) (fun _ h9 => h9) rfl dX6_mixRows_8 ?_
  refine lv_icmp_ge (tgt := 54) hx hb dX6_mixRows_11 (by decide) (fun c_7 => ?_) (fun c_7 => ?_)
  · have c_7 := (iI_le (a := a_count) (b := i0_2) (by omega) (by omega)).mp c_7
    refine lv_lload_n hx hb dX6_mixRows_54 rfl (lv_at hl 1 rfl) ?_
    exact g_lret (v := (lI h0__1)) hx hb hr hlocks hP hD hS (⟨h0__1, rfl, rfl⟩) dX6_mixRows_55
  · have c_7 : ¬ (a_count ≤ i0_2) := fun h9 => c_7 ((iI_le (a := a_count) (b := i0_2) (by omega) (by omega)).mpr h9)
    refine lv_iconst (v := iI 0) hx hb dX6_mixRows_14 rfl ?_
    refine lv_istore (lv' := [(6, .int (iI 0)), (5, .int (iI i0_2)), (3, .long (lI h0__1)), (0, .ref q0), (1, .long (lI s0))]) hx hb dX6_mixRows_15 hl (by decide) rfl (fun ls hl => ?_)
    refine g_loopN (pc := 17) (fun nn H locs ls => ∃ h0__8 : Int, ∃ j0_9 : Int, (0 ≤ j0_9 ∧ j0_9 ≤ 5) ∧ (5 - j0_9).toNat = nn ∧ va_P G.1 vwCl [oB5 q0 4 6 a_cells a_count, iB G a_cells 30 Fc] H ∧ va_D A [oB5 q0 4 6 a_cells a_count, iB G a_cells 30 Fc] ∧ va_S A s.heap H locs ∧ lv_has ls 7 [(6, .int (iI j0_9)), (5, .int (iI i0_2)), (3, .long (lI h0__8)), (0, .ref q0), (1, .long (lI s0))]) ?_ ⟨h0__1, 0, (by first | assumption | omega), rfl, hP, hD, hS, lv_sub hl [0, 1, 2, 3, 4] rfl⟩
    intro nn_12 H locs ls ih_11 hI
    refine ea_2_6 hI (fun h0__8 j0_9 f_10 hnn_13 hP hD hS hl => ?_)
    clear hI
    refine lv_iload hx hb dX6_mixRows_17 (lv_at hl 0 rfl) ?_
    refine lv_aload_n hx hb dX6_mixRows_19 rfl (lv_at hl 3 rfl) ?_
    refine va_get (D := G.1) (ci := 5) (v := .int (iI 4)) (C := RX6) (T := TX6) (N := 4) hx hb hts (fun _ h => List.mem_cons_of_mem _ (inlX6 _ h)) hown hK hP 0 rfl rfl 0 (by decide) (hts _ (List.mem_cons_of_mem _ (in_r4 (List.mem_of_getElem? (i := 7) rfl)))) (fun _ h9 => h9) rfl dX6_mixRows_20 ?_
    refine lv_icmp_ge (tgt := 48) hx hb dX6_mixRows_23 (by decide) (fun c_14 => ?_) (fun c_14 => ?_)
    · have c_14 := (iI_le (a := 4) (b := j0_9) (by first | decide | omega) (by omega)).mp c_14
      refine lv_iinc (v := iI (i0_2 + 1)) (lv' := [(5, .int (iI (i0_2 + 1))), (6, .int (iI j0_9)), (3, .long (lI h0__8)), (0, .ref q0), (1, .long (lI s0))]) hx hb dX6_mixRows_48 hl (k := 1) rfl (iI_add i0_2 1) (by decide) rfl (fun ls hl => ?_)
      refine lv_goto (tgt := 5) hx hb dX6_mixRows_51 (by decide) ?_
      exact ih_4 _ _ _ _ (by omega) ⟨h0__8, (i0_2 + 1), (by first | assumption | omega), rfl, hP, hD, hS, lv_sub hl [0, 2, 3, 4] rfl⟩
    · have c_14 : ¬ (4 ≤ j0_9) := fun h9 => c_14 ((iI_le (a := 4) (b := j0_9) (by first | decide | omega) (by omega)).mpr h9)
      refine lv_ldc2 (v := 31) hx hb hown (hts _ (List.mem_cons_of_mem _ (in_r43 (List.mem_of_getElem? (i := 19) rfl)))) dX6_mixRows_26 ?_
      refine g_topl (y := lI 31) (by decide) ?_
      refine lv_lload_n hx hb dX6_mixRows_29 rfl (lv_at hl 2 rfl) ?_
      refine lv_lmul hx hb dX6_mixRows_30 ?_
      refine g_topol (fun z_15 hz_15 => ?_)
      refine lv_aload_n hx hb dX6_mixRows_31 rfl (lv_at hl 3 rfl) ?_
      refine lv_iload hx hb dX6_mixRows_32 (lv_at hl 1 rfl) ?_
      refine lv_iload hx hb dX6_mixRows_34 (lv_at hl 0 rfl) ?_
      refine g_calli (wr := []) (va_runV (As := [.int (iI i0_2), .int (iI j0_9)]) (rest := [.long (lI z_15)]) ⟨hx, hb, hml, hown, hts⟩ (c_X6_cell_m l G (q0) (a_cells) (a_count) (Fc) (i0_2) (j0_9) (by first | exact y0_ | exact bd_mono y0_ (by omega) (by omega) | assumption) (by first | exact y1_ | assumption | omega) (by first | assumption | omega) (by first | assumption | omega) _) (cwV 2 hts gX6_mixRows_X6_cell rfl rfl rfl (by decide +kernel) ⟨Nat.le_of_ble_eq_true rfl, Nat.le_of_ble_eq_true rfl⟩) (g_preV q0 [.int (iI i0_2), .int (iI j0_9)] hP hD hK hN hS hA hZ [0, 1] rfl rfl 0 (ci := 5) rfl rfl) rfl rfl hl.1 rfl (lv_room (Nat.le_of_ble_eq_true rfl)) dX6_mixRows_36 ⟨Nat.le_of_ble_eq_true rfl, Nat.le_of_ble_eq_true rfl⟩) hP hD hS hA [0, 1] [] rfl rfl rfl (by decide) (fun r_16 u H locs hw hP hD hS => ?_)
      refine ea_1_4 hw (fun rr_17 k_18 k_19 e8_0 e8_1 => ?_)
      subst e8_0
      subst e8_1
      clear hw
      have hPD : PD G A H [oB5 q0 4 6 a_cells a_count, iB G a_cells 30 Fc] := ⟨hP, hD⟩
      have hP := hPD.1
      have hD := hPD.2
      clear hPD
      refine lv_i2l hx hb dX6_mixRows_39 rfl ?_
      refine g_topol (fun z_20 hz_20 => ?_)
      refine lv_ladd hx hb dX6_mixRows_40 ?_
      refine g_topol (fun z_21 hz_21 => ?_)
      refine lv_lstore_n (lv' := [(3, .long (lI z_21)), (6, .int (iI j0_9)), (5, .int (iI i0_2)), (0, .ref q0), (1, .long (lI s0))]) hx hb dX6_mixRows_41 rfl hl (by decide) rfl (fun ls hl => ?_)
      refine lv_iinc (v := iI (j0_9 + 1)) (lv' := [(6, .int (iI (j0_9 + 1))), (3, .long (lI z_21)), (5, .int (iI i0_2)), (0, .ref q0), (1, .long (lI s0))]) hx hb dX6_mixRows_42 hl (k := 1) rfl (iI_add j0_9 1) (by decide) rfl (fun ls hl => ?_)
      refine lv_goto (tgt := 17) hx hb dX6_mixRows_45 (by decide) ?_
      exact ih_11 _ _ _ _ (by omega) ⟨z_21, (j0_9 + 1), (by first | assumption | omega), rfl, hP, hD, hS, lv_sub hl [0, 2, 1, 3, 4] rfl⟩
