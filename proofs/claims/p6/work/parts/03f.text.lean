theorem dX8_addByte_0 : decode cX8_addByte 0 = .ok (.aload_n 0, 1) := kd_42 (by decide +kernel)
theorem dX8_addByte_1 : decode cX8_addByte 1 = .ok (.getfield 24, 3) := kd_180 (a := 0) (b := 24) (by decide +kernel)
theorem dX8_addByte_4 : decode cX8_addByte 4 = .ok (.sipush 150, 3) := kd_17 (a := 0) (b := 150) (by decide +kernel)
theorem dX8_addByte_7 : decode cX8_addByte 7 = .ok (.if_icmp .ge 23, 3) := kd_162 (a := 0) (b := 23) (by decide +kernel)
theorem dX8_addByte_10 : decode cX8_addByte 10 = .ok (.aload_n 0, 1) := kd_42 (by decide +kernel)
theorem dX8_addByte_11 : decode cX8_addByte 11 = .ok (.getfield 9, 3) := kd_180 (a := 0) (b := 9) (by decide +kernel)
theorem dX8_addByte_14 : decode cX8_addByte 14 = .ok (.aload_n 0, 1) := kd_42 (by decide +kernel)
theorem dX8_addByte_15 : decode cX8_addByte 15 = .ok (.getfield 24, 3) := kd_180 (a := 0) (b := 24) (by decide +kernel)
theorem dX8_addByte_18 : decode cX8_addByte 18 = .ok (.iload_n 1, 1) := kd_27 (by decide +kernel)
theorem dX8_addByte_19 : decode cX8_addByte 19 = .ok (.iastore, 1) := kd_79 (by decide +kernel)
theorem dX8_addByte_20 : decode cX8_addByte 20 = .ok (.aload_n 0, 1) := kd_42 (by decide +kernel)
theorem dX8_addByte_21 : decode cX8_addByte 21 = .ok (.dup, 1) := kd_89 (by decide +kernel)
theorem dX8_addByte_22 : decode cX8_addByte 22 = .ok (.getfield 24, 3) := kd_180 (a := 0) (b := 24) (by decide +kernel)
theorem dX8_addByte_25 : decode cX8_addByte 25 = .ok (.iconst 1, 1) := kd_4 (by decide +kernel)
theorem dX8_addByte_26 : decode cX8_addByte 26 = .ok (.iadd, 1) := kd_96 (by decide +kernel)
theorem dX8_addByte_27 : decode cX8_addByte 27 = .ok (.putfield 24, 3) := kd_181 (a := 0) (b := 24) (by decide +kernel)
theorem dX8_addByte_30 : decode cX8_addByte 30 = .ok (.aload_n 0, 1) := kd_42 (by decide +kernel)
theorem dX8_addByte_31 : decode cX8_addByte 31 = .ok (.getfield 24, 3) := kd_180 (a := 0) (b := 24) (by decide +kernel)
theorem dX8_addByte_34 : decode cX8_addByte 34 = .ok (.ireturn, 1) := kd_172 (by decide +kernel)
set_option maxHeartbeats 8000000 in
set_option maxRecDepth 100000 in
theorem c_X8_addByte (l : Launch) (G : gG) (t0 : Nat) (x_bytes : Nat) (x_sorts : Nat) (x_starts : Nat) (x_values : Nat) (x_length : Int) (x_tokens : Int) (xb : Nat → Int) (c0 : Int) (y0_ : bd 0 127 xb) (y1_ : 0 ≤ x_length ∧ x_length ≤ 150) (y2_ : 0 ≤ x_tokens ∧ x_tokens ≤ 151) (hc : 0 ≤ c0 ∧ c0 ≤ 127) (hl : x_length < 150) (sz : Nat) : gI G l yX8_addByte wsX8_addByte ({ frames := 0, cells := 0, slots := 0, locals := 0 } : Room) [.ref t0, .int (iI c0)] [oB7 t0 x_bytes x_sorts x_starts x_values x_length x_tokens, iB G x_bytes 150 xb] sz (fun (r : Int32) (u : va_W) => ((bd 0 127 (uI xb (x_length.toNat) c0)) ∧ r = (iI (x_length + 1)) ∧ u = [oB7 t0 x_bytes x_sorts x_starts x_values (x_length + 1) x_tokens, iB G x_bytes 150 (uI xb (x_length.toNat) c0)])) := by
  refine Met.ofW (cc := cX8_addByte) (maxL := 2) (ret := (some .int)) (by decide) rfl ?_
  intro p e s m args below meth c s₁ B hml hv
  obtain ⟨rfl, hsz, hP, hK, hD0, hN, hZ⟩ := hv
  have hx := B.exec
  have hb := B.bytes
  have hr := B.returns
  have hts := atoms_spec (ws := wsX8_addByte) B.pre
  have hown : s.vm.findClass RX8 = some m.cls := findClass_of_methodNamed B.named
  have hlocks := B.notSynchronized
  subst hsz
  have hD := hD0.self (sz := s.heap.size)
  generalize hAe : va_A [oB7 t0 x_bytes x_sorts x_starts x_values x_length x_tokens, iB G x_bytes 150 xb] s.heap.size = A at hD hZ ⊢
  have hA : ∀ q : Nat, s.heap.size ≤ q → A q := fun q h => by rw [← hAe]; exact Or.inr h
  have hS : va_S A s.heap s.heap [] := va_S.rf
  have hP : va_P G.1 vwCl [oB7 t0 x_bytes x_sorts x_starts x_values x_length x_tokens, iB G x_bytes 150 xb] s.heap := hP
  have hl := lv_entry ([.ref t0, .int (iI c0)]) (n := 2) (Nat.le_of_ble_eq_true rfl)
  rw [lg_entry_eq]
  generalize (lg_sl ([.ref t0, .int (iI c0)]) ++ List.replicate (2 - (lg_sl ([.ref t0, .int (iI c0)])).length) Slot.unset).toArray = ls at hl ⊢
  have hl : lv_has ls 2 [(0, .ref t0), (1, .int (iI c0))] := hl
  refine lv_aload_n hx hb dX8_addByte_0 rfl (lv_at hl 0 rfl) ?_
  refine va_get (D := G.1) (ci := 7) (v := .int (iI x_length)) (C := RX8) (T := TX8) (N := 6) hx hb hts (fun _ h => List.mem_cons_of_mem _ (inlX8 _ h)) hown hK hP 0 rfl rfl 4 (by decide) (hts _ (List.mem_cons_of_mem _ (in_r11 (List.mem_of_getElem? (i := 1) rfl)))) (fun _ h9 => h9) rfl dX8_addByte_1 ?_
  refine lv_sipush (v := iI 150) hx hb dX8_addByte_4 (by decide) ?_
  refine lv_icmp_ge (tgt := 30) hx hb dX8_addByte_7 (by decide) (fun c_1 => ?_) (fun c_1 => ?_)
  · have c_1 := (iI_le (a := 150) (b := x_length) (by first | decide | omega) (by omega)).mp c_1
    exfalso
    omega
  · have c_1 : ¬ (150 ≤ x_length) := fun h9 => c_1 ((iI_le (a := 150) (b := x_length) (by first | decide | omega) (by omega)).mpr h9)
    refine lv_aload_n hx hb dX8_addByte_10 rfl (lv_at hl 0 rfl) ?_
    refine va_get (D := G.1) (ci := 7) (v := .ref x_bytes) (C := RX8) (T := TX8) (N := 6) hx hb hts (fun _ h => List.mem_cons_of_mem _ (inlX8 _ h)) hown hK hP 0 rfl rfl 0 (by decide) (hts _ (List.mem_cons_of_mem _ (in_r4 (List.mem_of_getElem? (i := 20) rfl)))) (fun _ h9 => h9) rfl dX8_addByte_11 ?_
    refine lv_aload_n hx hb dX8_addByte_14 rfl (lv_at hl 0 rfl) ?_
    refine va_get (D := G.1) (ci := 7) (v := .int (iI x_length)) (C := RX8) (T := TX8) (N := 6) hx hb hts (fun _ h => List.mem_cons_of_mem _ (inlX8 _ h)) hown hK hP 0 rfl rfl 4 (by decide) (hts _ (List.mem_cons_of_mem _ (in_r11 (List.mem_of_getElem? (i := 1) rfl)))) (fun _ h9 => h9) rfl dX8_addByte_15 ?_
    refine lv_iload_n hx hb dX8_addByte_18 rfl (lv_at hl 1 rfl) ?_
    refine g_ist hx hb hK hP hD hS 1 rfl (by omega) (by omega) (by first | exact Nat.le_of_ble_eq_true rfl | omega) dX8_addByte_19 (fun H locs hP hD hS => ?_)
    have hb_3 := bd_u (k := (x_length.toNat)) (v := c0) y0_ (by omega) (by omega)
    have hPD : PD G A H [oB7 t0 x_bytes x_sorts x_starts x_values x_length x_tokens, iB G x_bytes 150 (uI xb (x_length.toNat) c0)] := ⟨hP, hD⟩
    have hP := hPD.1
    have hD := hPD.2
    clear hPD
    refine lv_aload_n hx hb dX8_addByte_20 rfl (lv_at hl 0 rfl) ?_
    refine lv_dup hx hb dX8_addByte_21 rfl ?_
    refine va_get (D := G.1) (ci := 7) (v := .int (iI x_length)) (C := RX8) (T := TX8) (N := 6) hx hb hts (fun _ h => List.mem_cons_of_mem _ (inlX8 _ h)) hown hK hP 0 rfl rfl 4 (by decide) (hts _ (List.mem_cons_of_mem _ (in_r11 (List.mem_of_getElem? (i := 1) rfl)))) (fun _ h9 => h9) rfl dX8_addByte_22 ?_
    refine lv_iconst (v := iI 1) hx hb dX8_addByte_25 rfl ?_
    refine lv_iadd hx hb dX8_addByte_26 ?_
    refine g_topi (y := iI (x_length + 1)) (iI_add x_length 1) ?_
    refine va_put (D := G.1) (ci := 7) (v := .int (iI (x_length + 1))) (ty := .int) (C := RX8) (T := TX8) (N := 6) hx hb hts (fun _ h => List.mem_cons_of_mem _ (inlX8 _ h)) tyX8 tyX8_ok nmX8 hown hK hP hD hS 0 rfl rfl 4 (by decide) (hts _ (List.mem_cons_of_mem _ (in_r11 (List.mem_of_getElem? (i := 1) rfl)))) (fun _ h9 => h9) rfl (by decide +kernel) rfl rfl (Nat.le_of_ble_eq_true rfl) dX8_addByte_27 (fun H locs hP hD hS => ?_)
    have hPD : PD G A H [oB7 t0 x_bytes x_sorts x_starts x_values (x_length + 1) x_tokens, iB G x_bytes 150 (uI xb (x_length.toNat) c0)] := ⟨hP, hD⟩
    have hP := hPD.1
    have hD := hPD.2
    clear hPD
    refine lv_aload_n hx hb dX8_addByte_30 rfl (lv_at hl 0 rfl) ?_
    refine va_get (D := G.1) (ci := 7) (v := .int (iI (x_length + 1))) (C := RX8) (T := TX8) (N := 6) hx hb hts (fun _ h => List.mem_cons_of_mem _ (inlX8 _ h)) hown hK hP 0 rfl rfl 4 (by decide) (hts _ (List.mem_cons_of_mem _ (in_r11 (List.mem_of_getElem? (i := 1) rfl)))) (fun _ h9 => h9) rfl dX8_addByte_31 ?_
    exact g_iret (v := (iI (x_length + 1))) hx hb hr hlocks hP hD hS (⟨(by first | exact hb_3 | exact bd_mono hb_3 (by omega) (by omega) | assumption), rfl, rfl⟩) dX8_addByte_34
theorem dX8_addToken_0 : decode cX8_addToken 0 = .ok (.aload_n 0, 1) := kd_42 (by decide +kernel)
theorem dX8_addToken_1 : decode cX8_addToken 1 = .ok (.getfield 28, 3) := kd_180 (a := 0) (b := 28) (by decide +kernel)
theorem dX8_addToken_4 : decode cX8_addToken 4 = .ok (.sipush 150, 3) := kd_17 (a := 0) (b := 150) (by decide +kernel)
theorem dX8_addToken_7 : decode cX8_addToken 7 = .ok (.if_icmp .gt 43, 3) := kd_163 (a := 0) (b := 43) (by decide +kernel)
theorem dX8_addToken_10 : decode cX8_addToken 10 = .ok (.aload_n 0, 1) := kd_42 (by decide +kernel)
theorem dX8_addToken_11 : decode cX8_addToken 11 = .ok (.getfield 15, 3) := kd_180 (a := 0) (b := 15) (by decide +kernel)
theorem dX8_addToken_14 : decode cX8_addToken 14 = .ok (.aload_n 0, 1) := kd_42 (by decide +kernel)
theorem dX8_addToken_15 : decode cX8_addToken 15 = .ok (.getfield 28, 3) := kd_180 (a := 0) (b := 28) (by decide +kernel)
theorem dX8_addToken_18 : decode cX8_addToken 18 = .ok (.iload_n 1, 1) := kd_27 (by decide +kernel)
theorem dX8_addToken_19 : decode cX8_addToken 19 = .ok (.iastore, 1) := kd_79 (by decide +kernel)
theorem dX8_addToken_20 : decode cX8_addToken 20 = .ok (.aload_n 0, 1) := kd_42 (by decide +kernel)
theorem dX8_addToken_21 : decode cX8_addToken 21 = .ok (.getfield 18, 3) := kd_180 (a := 0) (b := 18) (by decide +kernel)
theorem dX8_addToken_24 : decode cX8_addToken 24 = .ok (.aload_n 0, 1) := kd_42 (by decide +kernel)
theorem dX8_addToken_25 : decode cX8_addToken 25 = .ok (.getfield 28, 3) := kd_180 (a := 0) (b := 28) (by decide +kernel)
theorem dX8_addToken_28 : decode cX8_addToken 28 = .ok (.iload_n 2, 1) := kd_28 (by decide +kernel)
theorem dX8_addToken_29 : decode cX8_addToken 29 = .ok (.iastore, 1) := kd_79 (by decide +kernel)
theorem dX8_addToken_30 : decode cX8_addToken 30 = .ok (.aload_n 0, 1) := kd_42 (by decide +kernel)
theorem dX8_addToken_31 : decode cX8_addToken 31 = .ok (.getfield 21, 3) := kd_180 (a := 0) (b := 21) (by decide +kernel)
theorem dX8_addToken_34 : decode cX8_addToken 34 = .ok (.aload_n 0, 1) := kd_42 (by decide +kernel)
theorem dX8_addToken_35 : decode cX8_addToken 35 = .ok (.getfield 28, 3) := kd_180 (a := 0) (b := 28) (by decide +kernel)
theorem dX8_addToken_38 : decode cX8_addToken 38 = .ok (.iload_n 3, 1) := kd_29 (by decide +kernel)
theorem dX8_addToken_39 : decode cX8_addToken 39 = .ok (.iastore, 1) := kd_79 (by decide +kernel)
theorem dX8_addToken_40 : decode cX8_addToken 40 = .ok (.aload_n 0, 1) := kd_42 (by decide +kernel)
theorem dX8_addToken_41 : decode cX8_addToken 41 = .ok (.dup, 1) := kd_89 (by decide +kernel)
theorem dX8_addToken_42 : decode cX8_addToken 42 = .ok (.getfield 28, 3) := kd_180 (a := 0) (b := 28) (by decide +kernel)
theorem dX8_addToken_45 : decode cX8_addToken 45 = .ok (.iconst 1, 1) := kd_4 (by decide +kernel)
theorem dX8_addToken_46 : decode cX8_addToken 46 = .ok (.iadd, 1) := kd_96 (by decide +kernel)
theorem dX8_addToken_47 : decode cX8_addToken 47 = .ok (.putfield 28, 3) := kd_181 (a := 0) (b := 28) (by decide +kernel)
theorem dX8_addToken_50 : decode cX8_addToken 50 = .ok (.return_, 1) := kd_177 (by decide +kernel)
set_option maxHeartbeats 8000000 in
set_option maxRecDepth 100000 in
theorem c_X8_addToken (l : Launch) (G : gG) (t0 : Nat) (x_bytes : Nat) (x_sorts : Nat) (x_starts : Nat) (x_values : Nat) (x_length : Int) (x_tokens : Int) (xs : Nat → Int) (xa : Nat → Int) (xv : Nat → Int) (a1 : Int) (a2 : Int) (a3 : Int) (y0_ : bd 0 10 xs) (y1_ : bd 0 150 xa) (y2_ : bd (-1000) 3000 xv) (y3_ : 0 ≤ x_length ∧ x_length ≤ 150) (y4_ : 0 ≤ x_tokens ∧ x_tokens ≤ 151) (ht : x_tokens ≤ 150) (h1 : 0 ≤ a1 ∧ a1 ≤ 10) (h2 : 0 ≤ a2 ∧ a2 ≤ 150) (h3 : -1000 ≤ a3 ∧ a3 ≤ 3000) (sz : Nat) : gV G l yX8_addToken wsX8_addToken ({ frames := 0, cells := 0, slots := 0, locals := 0 } : Room) [.ref t0, .int (iI a1), .int (iI a2), .int (iI a3)] [oB7 t0 x_bytes x_sorts x_starts x_values x_length x_tokens, iB G x_sorts 151 xs, iB G x_starts 151 xa, iB G x_values 151 xv] sz (fun (u : va_W) => ((bd 0 10 (uI xs (x_tokens.toNat) a1)) ∧ (bd 0 150 (uI xa (x_tokens.toNat) a2)) ∧ (bd (-1000) 3000 (uI xv (x_tokens.toNat) a3)) ∧ u = [oB7 t0 x_bytes x_sorts x_starts x_values x_length (x_tokens + 1), iB G x_sorts 151 (uI xs (x_tokens.toNat) a1), iB G x_starts 151 (uI xa (x_tokens.toNat) a2), iB G x_values 151 (uI xv (x_tokens.toNat) a3)])) := by
  refine Met.ofW (cc := cX8_addToken) (maxL := 4) (ret := none) (by decide) rfl ?_
  intro p e s m args below meth c s₁ B hml hv
  obtain ⟨rfl, hsz, hP, hK, hD0, hN, hZ⟩ := hv
  have hx := B.exec
  have hb := B.bytes
  have hr := B.returns
  have hts := atoms_spec (ws := wsX8_addToken) B.pre
  have hown : s.vm.findClass RX8 = some m.cls := findClass_of_methodNamed B.named
  have hlocks := B.notSynchronized
  subst hsz
  have hD := hD0.self (sz := s.heap.size)
  generalize hAe : va_A [oB7 t0 x_bytes x_sorts x_starts x_values x_length x_tokens, iB G x_sorts 151 xs, iB G x_starts 151 xa, iB G x_values 151 xv] s.heap.size = A at hD hZ ⊢
  have hA : ∀ q : Nat, s.heap.size ≤ q → A q := fun q h => by rw [← hAe]; exact Or.inr h
  have hS : va_S A s.heap s.heap [] := va_S.rf
  have hP : va_P G.1 vwCl [oB7 t0 x_bytes x_sorts x_starts x_values x_length x_tokens, iB G x_sorts 151 xs, iB G x_starts 151 xa, iB G x_values 151 xv] s.heap := hP
  have hl := lv_entry ([.ref t0, .int (iI a1), .int (iI a2), .int (iI a3)]) (n := 4) (Nat.le_of_ble_eq_true rfl)
  rw [lg_entry_eq]
  generalize (lg_sl ([.ref t0, .int (iI a1), .int (iI a2), .int (iI a3)]) ++ List.replicate (4 - (lg_sl ([.ref t0, .int (iI a1), .int (iI a2), .int (iI a3)])).length) Slot.unset).toArray = ls at hl ⊢
  have hl : lv_has ls 4 [(0, .ref t0), (1, .int (iI a1)), (2, .int (iI a2)), (3, .int (iI a3))] := hl
  refine lv_aload_n hx hb dX8_addToken_0 rfl (lv_at hl 0 rfl) ?_
  refine va_get (D := G.1) (ci := 7) (v := .int (iI x_tokens)) (C := RX8) (T := TX8) (N := 6) hx hb hts (fun _ h => List.mem_cons_of_mem _ (inlX8 _ h)) hown hK hP 0 rfl rfl 5 (by decide) (hts _ (List.mem_cons_of_mem _ (in_r12 (List.mem_of_getElem? (i := 3) rfl)))) (fun _ h9 => h9) rfl dX8_addToken_1 ?_
  refine lv_sipush (v := iI 150) hx hb dX8_addToken_4 (by decide) ?_
  refine lv_icmp_gt (tgt := 50) hx hb dX8_addToken_7 (by decide) (fun c_1 => ?_) (fun c_1 => ?_)
  · have c_1 := (iI_lt (a := 150) (b := x_tokens) (by first | decide | omega) (by omega)).mp c_1
    exfalso
    omega
  · have c_1 : ¬ (150 < x_tokens) := fun h9 => c_1 ((iI_lt (a := 150) (b := x_tokens) (by first | decide | omega) (by omega)).mpr h9)
    refine lv_aload_n hx hb dX8_addToken_10 rfl (lv_at hl 0 rfl) ?_
    refine va_get (D := G.1) (ci := 7) (v := .ref x_sorts) (C := RX8) (T := TX8) (N := 6) hx hb hts (fun _ h => List.mem_cons_of_mem _ (inlX8 _ h)) hown hK hP 0 rfl rfl 1 (by decide) (hts _ (List.mem_cons_of_mem _ (in_r4 (List.mem_of_getElem? (i := 21) rfl)))) (fun _ h9 => h9) rfl dX8_addToken_11 ?_
    refine lv_aload_n hx hb dX8_addToken_14 rfl (lv_at hl 0 rfl) ?_
    refine va_get (D := G.1) (ci := 7) (v := .int (iI x_tokens)) (C := RX8) (T := TX8) (N := 6) hx hb hts (fun _ h => List.mem_cons_of_mem _ (inlX8 _ h)) hown hK hP 0 rfl rfl 5 (by decide) (hts _ (List.mem_cons_of_mem _ (in_r12 (List.mem_of_getElem? (i := 3) rfl)))) (fun _ h9 => h9) rfl dX8_addToken_15 ?_
    refine lv_iload_n hx hb dX8_addToken_18 rfl (lv_at hl 1 rfl) ?_
    refine g_ist hx hb hK hP hD hS 1 rfl (by omega) (by omega) (by first | exact Nat.le_of_ble_eq_true rfl | omega) dX8_addToken_19 (fun H locs hP hD hS => ?_)
    have hb_3 := bd_u (k := (x_tokens.toNat)) (v := a1) y0_ (by omega) (by omega)
    have hPD : PD G A H [oB7 t0 x_bytes x_sorts x_starts x_values x_length x_tokens, iB G x_sorts 151 (uI xs (x_tokens.toNat) a1), iB G x_starts 151 xa, iB G x_values 151 xv] := ⟨hP, hD⟩
    have hP := hPD.1
    have hD := hPD.2
    clear hPD
    refine lv_aload_n hx hb dX8_addToken_20 rfl (lv_at hl 0 rfl) ?_
    refine va_get (D := G.1) (ci := 7) (v := .ref x_starts) (C := RX8) (T := TX8) (N := 6) hx hb hts (fun _ h => List.mem_cons_of_mem _ (inlX8 _ h)) hown hK hP 0 rfl rfl 2 (by decide) (hts _ (List.mem_cons_of_mem _ (in_r4 (List.mem_of_getElem? (i := 22) rfl)))) (fun _ h9 => h9) rfl dX8_addToken_21 ?_
    refine lv_aload_n hx hb dX8_addToken_24 rfl (lv_at hl 0 rfl) ?_
    refine va_get (D := G.1) (ci := 7) (v := .int (iI x_tokens)) (C := RX8) (T := TX8) (N := 6) hx hb hts (fun _ h => List.mem_cons_of_mem _ (inlX8 _ h)) hown hK hP 0 rfl rfl 5 (by decide) (hts _ (List.mem_cons_of_mem _ (in_r12 (List.mem_of_getElem? (i := 3) rfl)))) (fun _ h9 => h9) rfl dX8_addToken_25 ?_
    refine lv_iload_n hx hb dX8_addToken_28 rfl (lv_at hl 2 rfl) ?_
    refine g_ist hx hb hK hP hD hS 2 rfl (by omega) (by omega) (by first | exact Nat.le_of_ble_eq_true rfl | omega) dX8_addToken_29 (fun H locs hP hD hS => ?_)
    have hb_5 := bd_u (k := (x_tokens.toNat)) (v := a2) y1_ (by omega) (by omega)
    have hPD : PD G A H [oB7 t0 x_bytes x_sorts x_starts x_values x_length x_tokens, iB G x_sorts 151 (uI xs (x_tokens.toNat) a1), iB G x_starts 151 (uI xa (x_tokens.toNat) a2), iB G x_values 151 xv] := ⟨hP, hD⟩
    have hP := hPD.1
    have hD := hPD.2
    clear hPD
    refine lv_aload_n hx hb dX8_addToken_30 rfl (lv_at hl 0 rfl) ?_
    refine va_get (D := G.1) (ci := 7) (v := .ref x_values) (C := RX8) (T := TX8) (N := 6) hx hb hts (fun _ h => List.mem_cons_of_mem _ (inlX8 _ h)) hown hK hP 0 rfl rfl 3 (by decide) (hts _ (List.mem_cons_of_mem _ (in_r4 (List.mem_of_getElem? (i := 23) rfl)))) (fun _ h9 => h9) rfl dX8_addToken_31 ?_
    refine lv_aload_n hx hb dX8_addToken_34 rfl (lv_at hl 0 rfl) ?_
    refine va_get (D := G.1) (ci := 7) (v := .int (iI x_tokens)) (C := RX8) (T := TX8) (N := 6) hx hb hts (fun _ h => List.mem_cons_of_mem _ (inlX8 _ h)) hown hK hP 0 rfl rfl 5 (by decide) (hts _ (List.mem_cons_of_mem _ (in_r12 (List.mem_of_getElem? (i := 3) rfl)))) (fun _ h9 => h9) rfl dX8_addToken_35 ?_
    refine lv_iload_n hx hb dX8_addToken_38 rfl (lv_at hl 3 rfl) ?_
    refine g_ist hx hb hK hP hD hS 3 rfl (by omega) (by omega) (by first | exact Nat.le_of_ble_eq_true rfl | omega) dX8_addToken_39 (fun H locs hP hD hS => ?_)
    have hb_7 := bd_u (k := (x_tokens.toNat)) (v := a3) y2_ (by omega) (by omega)
    have hPD : PD G A H [oB7 t0 x_bytes x_sorts x_starts x_values x_length x_tokens, iB G x_sorts 151 (uI xs (x_tokens.toNat) a1), iB G x_starts 151 (uI xa (x_tokens.toNat) a2), iB G x_values 151 (uI xv (x_tokens.toNat) a3)] := ⟨hP, hD⟩
    have hP := hPD.1
    have hD := hPD.2
    clear hPD
    refine lv_aload_n hx hb dX8_addToken_40 rfl (lv_at hl 0 rfl) ?_
    refine lv_dup hx hb dX8_addToken_41 rfl ?_
    refine va_get (D := G.1) (ci := 7) (v := .int (iI x_tokens)) (C := RX8) (T := TX8) (N := 6) hx hb hts (fun _ h => List.mem_cons_of_mem _ (inlX8 _ h)) hown hK hP 0 rfl rfl 5 (by decide) (hts _ (List.mem_cons_of_mem _ (in_r12 (List.mem_of_getElem? (i := 3) rfl)))) (fun _ h9 => h9) rfl dX8_addToken_42 ?_
    refine lv_iconst (v := iI 1) hx hb dX8_addToken_45 rfl ?_
    refine lv_iadd hx hb dX8_addToken_46 ?_
    refine g_topi (y := iI (x_tokens + 1)) (iI_add x_tokens 1) ?_
    refine va_put (D := G.1) (ci := 7) (v := .int (iI (x_tokens + 1))) (ty := .int) (C := RX8) (T := TX8) (N := 6) hx hb hts (fun _ h => List.mem_cons_of_mem _ (inlX8 _ h)) tyX8 tyX8_ok nmX8 hown hK hP hD hS 0 rfl rfl 5 (by decide) (hts _ (List.mem_cons_of_mem _ (in_r12 (List.mem_of_getElem? (i := 3) rfl)))) (fun _ h9 => h9) rfl (by decide +kernel) rfl rfl (Nat.le_of_ble_eq_true rfl) dX8_addToken_47 (fun H locs hP hD hS => ?_)
    have hPD : PD G A H [oB7 t0 x_bytes x_sorts x_starts x_values x_length (x_tokens + 1), iB G x_sorts 151 (uI xs (x_tokens.toNat) a1), iB G x_starts 151 (uI xa (x_tokens.toNat) a2), iB G x_values 151 (uI xv (x_tokens.toNat) a3)] := ⟨hP, hD⟩
    have hP := hPD.1
    have hD := hPD.2
    clear hPD
    exact g_vret hx hb hr hlocks hP hD hS (⟨(by first | exact hb_3 | exact bd_mono hb_3 (by omega) (by omega) | assumption), (by first | exact hb_5 | exact bd_mono hb_5 (by omega) (by omega) | assumption), (by first | exact hb_7 | exact bd_mono hb_7 (by omega) (by omega) | assumption), rfl⟩) dX8_addToken_50
theorem dX8_isThere_0 : decode cX8_isThere 0 = .ok (.iload_n 3, 1) := kd_29 (by decide +kernel)
theorem dX8_isThere_1 : decode cX8_isThere 1 = .ok (.iload_n 2, 1) := kd_28 (by decide +kernel)
theorem dX8_isThere_2 : decode cX8_isThere 2 = .ok (.isub, 1) := kd_100 (by decide +kernel)
theorem dX8_isThere_3 : decode cX8_isThere 3 = .ok (.aload_n 1, 1) := kd_43 (by decide +kernel)
theorem gX8_isThere_J0_length_8abf5 : GoodIn wsX8_isThere (wsV RX8 68 RJ0 yJ0_length_8abf5 wsJ0_length_8abf5) := gW_V (in_r12 (List.mem_of_getElem? (i := 19) rfl)) (in_r12 (List.mem_of_getElem? (i := 20) rfl)) (in_r12 (List.mem_of_getElem? (i := 21) rfl)) (in_r12 (List.mem_of_getElem? (i := 22) rfl)) (in_r12 (List.mem_of_getElem? (i := 23) rfl))
theorem dX8_isThere_4 : decode cX8_isThere 4 = .ok (.invokevirtual 68, 3) := kd_182 (a := 0) (b := 68) (by decide +kernel)
theorem dX8_isThere_7 : decode cX8_isThere 7 = .ok (.if_icmp .eq 5, 3) := kd_159 (a := 0) (b := 5) (by decide +kernel)
theorem dX8_isThere_12 : decode cX8_isThere 12 = .ok (.iconst 0, 1) := kd_3 (by decide +kernel)
theorem dX8_isThere_13 : decode cX8_isThere 13 = .ok (.istore 4, 2) := kd_54 (a := 4) (by decide +kernel)
theorem dX8_isThere_15 : decode cX8_isThere 15 = .ok (.iload 4, 2) := kd_21 (a := 4) (by decide +kernel)
theorem dX8_isThere_17 : decode cX8_isThere 17 = .ok (.aload_n 1, 1) := kd_43 (by decide +kernel)
theorem dX8_isThere_18 : decode cX8_isThere 18 = .ok (.invokevirtual 68, 3) := kd_182 (a := 0) (b := 68) (by decide +kernel)
theorem dX8_isThere_21 : decode cX8_isThere 21 = .ok (.if_icmp .ge 29, 3) := kd_162 (a := 0) (b := 29) (by decide +kernel)
theorem dX8_isThere_50 : decode cX8_isThere 50 = .ok (.iconst 1, 1) := kd_4 (by decide +kernel)
theorem dX8_isThere_51 : decode cX8_isThere 51 = .ok (.ireturn, 1) := kd_172 (by decide +kernel)
theorem dX8_isThere_24 : decode cX8_isThere 24 = .ok (.aload_n 0, 1) := kd_42 (by decide +kernel)
theorem dX8_isThere_25 : decode cX8_isThere 25 = .ok (.getfield 9, 3) := kd_180 (a := 0) (b := 9) (by decide +kernel)
theorem dX8_isThere_28 : decode cX8_isThere 28 = .ok (.iload_n 2, 1) := kd_28 (by decide +kernel)
theorem dX8_isThere_29 : decode cX8_isThere 29 = .ok (.iload 4, 2) := kd_21 (a := 4) (by decide +kernel)
theorem dX8_isThere_31 : decode cX8_isThere 31 = .ok (.iadd, 1) := kd_96 (by decide +kernel)
theorem dX8_isThere_32 : decode cX8_isThere 32 = .ok (.iaload, 1) := kd_46 (by decide +kernel)
theorem dX8_isThere_33 : decode cX8_isThere 33 = .ok (.aload_n 1, 1) := kd_43 (by decide +kernel)
theorem dX8_isThere_34 : decode cX8_isThere 34 = .ok (.iload 4, 2) := kd_21 (a := 4) (by decide +kernel)
theorem gX8_isThere_J0_charAt_5068e : GoodIn wsX8_isThere (wsV RX8 73 RJ0 yJ0_charAt_5068e wsJ0_charAt_5068e) := gW_V (in_r13 (List.mem_of_getElem? (i := 7) rfl)) (in_r13 (List.mem_of_getElem? (i := 8) rfl)) (in_r13 (List.mem_of_getElem? (i := 9) rfl)) (in_r12 (List.mem_of_getElem? (i := 22) rfl)) (in_r13 (List.mem_of_getElem? (i := 10) rfl))
theorem dX8_isThere_36 : decode cX8_isThere 36 = .ok (.invokevirtual 73, 3) := kd_182 (a := 0) (b := 73) (by decide +kernel)
theorem dX8_isThere_39 : decode cX8_isThere 39 = .ok (.if_icmp .eq 5, 3) := kd_159 (a := 0) (b := 5) (by decide +kernel)
theorem dX8_isThere_44 : decode cX8_isThere 44 = .ok (.iinc 4 1, 3) := kd_132 (a := 4) (b := 1) (by decide +kernel)
theorem dX8_isThere_47 : decode cX8_isThere 47 = .ok (.goto (-32), 3) := kd_167 (a := 255) (b := 224) (by decide +kernel)
theorem dX8_isThere_42 : decode cX8_isThere 42 = .ok (.iconst 0, 1) := kd_3 (by decide +kernel)
theorem dX8_isThere_43 : decode cX8_isThere 43 = .ok (.ireturn, 1) := kd_172 (by decide +kernel)
theorem dX8_isThere_10 : decode cX8_isThere 10 = .ok (.iconst 0, 1) := kd_3 (by decide +kernel)
theorem dX8_isThere_11 : decode cX8_isThere 11 = .ok (.ireturn, 1) := kd_172 (by decide +kernel)
set_option maxHeartbeats 8000000 in
set_option maxRecDepth 100000 in
theorem c_X8_isThere (l : Launch) (G : gG) (t0 : Nat) (x_bytes : Nat) (x_sorts : Nat) (x_starts : Nat) (x_values : Nat) (x_length : Int) (x_tokens : Int) (xb : Nat → Int) (i0 : Nat) (f0 : Int) (g0 : Int) (y0_ : bd 0 127 xb) (hf : 0 ≤ f0 ∧ f0 ≤ 150) (hg : f0 ≤ g0 ∧ g0 ≤ 150) (hi0 : i0 < 7) (hz0 : ((zLen.getD i0 0 : Nat) : Int) ≤ 6) (sz : Nat) : gI G l yX8_isThere wsX8_isThere ({ frames := 4, cells := 0, slots := 0, locals := 85 } : Room) [.ref t0, .ref (G.2 (10 + i0)), .int (iI f0), .int (iI g0)] [oB7 t0 x_bytes x_sorts x_starts x_values x_length x_tokens, iB G x_bytes 150 xb] sz (fun (r : Int32) (u : va_W) => ((isW i0 xb f0 g0) ∧ r = (iI 1) ∧ u = [oB7 t0 x_bytes x_sorts x_starts x_values x_length x_tokens, iB G x_bytes 150 xb]) ∨ ((¬ isW i0 xb f0 g0) ∧ r = (iI 0) ∧ u = [oB7 t0 x_bytes x_sorts x_starts x_values x_length x_tokens, iB G x_bytes 150 xb])) := by
  refine Met.ofW (cc := cX8_isThere) (maxL := 5) (ret := (some .boolean)) (by decide) rfl ?_
  intro p e s m args below meth c s₁ B hml hv
  obtain ⟨rfl, hsz, hP, hK, hD0, hN, hZ⟩ := hv
  have hx := B.exec
  have hb := B.bytes
  have hr := B.returns
  have hts := atoms_spec (ws := wsX8_isThere) B.pre
  have hown : s.vm.findClass RX8 = some m.cls := findClass_of_methodNamed B.named
  have hlocks := B.notSynchronized
  subst hsz
  have hD := hD0.self (sz := s.heap.size)
  generalize hAe : va_A [oB7 t0 x_bytes x_sorts x_starts x_values x_length x_tokens, iB G x_bytes 150 xb] s.heap.size = A at hD hZ ⊢
  have hA : ∀ q : Nat, s.heap.size ≤ q → A q := fun q h => by rw [← hAe]; exact Or.inr h
  have hS : va_S A s.heap s.heap [] := va_S.rf
  have hP : va_P G.1 vwCl [oB7 t0 x_bytes x_sorts x_starts x_values x_length x_tokens, iB G x_bytes 150 xb] s.heap := hP
  have hl := lv_entry ([.ref t0, .ref (G.2 (10 + i0)), .int (iI f0), .int (iI g0)]) (n := 5) (Nat.le_of_ble_eq_true rfl)
  rw [lg_entry_eq]
  generalize (lg_sl ([.ref t0, .ref (G.2 (10 + i0)), .int (iI f0), .int (iI g0)]) ++ List.replicate (5 - (lg_sl ([.ref t0, .ref (G.2 (10 + i0)), .int (iI f0), .int (iI g0)])).length) Slot.unset).toArray = ls at hl ⊢
  have hl : lv_has ls 5 [(0, .ref t0), (1, .ref (G.2 (10 + i0))), (2, .int (iI f0)), (3, .int (iI g0))] := hl
  refine lv_iload_n hx hb dX8_isThere_0 rfl (lv_at hl 3 rfl) ?_
  refine lv_iload_n hx hb dX8_isThere_1 rfl (lv_at hl 2 rfl) ?_
  refine lv_isub hx hb dX8_isThere_2 ?_
  refine g_topi (y := iI (g0 - f0)) (iI_sub g0 f0) ?_
  refine lv_aload_n hx hb dX8_isThere_3 rfl (lv_at hl 1 rfl) ?_
  refine g_calli (wc := []) (wr := [oB7 t0 x_bytes x_sorts x_starts x_values x_length x_tokens, iB G x_bytes 150 xb]) (va_runV (As := []) (rest := [.int (iI (g0 - f0))]) ⟨hx, hb, hml, hown, hts⟩ (c_J0_length_8abf5 l G (i0) (by first | exact hi0 | assumption | omega) _) (cwV 0 hts gX8_isThere_J0_length_8abf5 rfl rfl rfl (by decide +kernel) ⟨Nat.le_of_ble_eq_true rfl, Nat.le_of_ble_eq_true rfl⟩) (g_preZ i0 (by omega) [] hP hD hK hN hS hA hZ [] rfl rfl) rfl rfl hl.1 rfl (lv_room (Nat.le_of_ble_eq_true rfl)) dX8_isThere_4 ⟨Nat.le_of_ble_eq_true rfl, Nat.le_of_ble_eq_true rfl⟩) hP hD hS hA [] [0, 1] rfl rfl rfl (by decide) (fun r_1 u H locs hw hP hD hS => ?_)
  refine ea_1_3 hw (fun rr_2 e8_0 e8_1 e8_2 => ?_)
  subst e8_0
  subst e8_1
  subst e8_2
  clear hw
  have hPD : PD G A H [oB7 t0 x_bytes x_sorts x_starts x_values x_length x_tokens, iB G x_bytes 150 xb] := ⟨(by rw [List.append_nil] at hP; exact hP), (by rw [List.append_nil] at hD; exact hD)⟩
  have hP := hPD.1
  have hD := hPD.2
  clear hPD
  refine lv_icmp_eq (tgt := 12) hx hb dX8_isThere_7 (by decide) (fun c_3 => ?_) (fun c_3 => ?_)
  · have c_3 := (iI_eq (a := (g0 - f0)) (b := ((zLen.getD i0 0 : Nat) : Int)) (by omega) (by omega)).mp c_3
    refine lv_iconst (v := iI 0) hx hb dX8_isThere_12 rfl ?_
    refine lv_istore (lv' := [(4, .int (iI 0)), (0, .ref t0), (1, .ref (G.2 (10 + i0))), (2, .int (iI f0)), (3, .int (iI g0))]) hx hb dX8_isThere_13 hl (by decide) rfl (fun ls hl => ?_)
    refine g_loopN (pc := 15) (fun nn H locs ls => ∃ k0_4 : Int, (0 ≤ k0_4 ∧ k0_4 ≤ 6) ∧ (iw i0 xb f0 k0_4) ∧ (7 - k0_4).toNat = nn ∧ va_P G.1 vwCl [oB7 t0 x_bytes x_sorts x_starts x_values x_length x_tokens, iB G x_bytes 150 xb] H ∧ va_D A [oB7 t0 x_bytes x_sorts x_starts x_values x_length x_tokens, iB G x_bytes 150 xb] ∧ va_S A s.heap H locs ∧ lv_has ls 5 [(4, .int (iI k0_4)), (0, .ref t0), (1, .ref (G.2 (10 + i0))), (2, .int (iI f0)), (3, .int (iI g0))]) ?_ ⟨0, (by first | assumption | omega), iw_0, rfl, hP, hD, hS, lv_sub hl [0, 1, 2, 3, 4] rfl⟩
    intro nn_8 H locs ls ih_7 hI
    refine ea_1_7 hI (fun k0_4 f_5 f_6 hnn_9 hP hD hS hl => ?_)
    clear hI
    refine lv_iload hx hb dX8_isThere_15 (lv_at hl 0 rfl) ?_
    refine lv_aload_n hx hb dX8_isThere_17 rfl (lv_at hl 2 rfl) ?_
    refine g_calli (wc := []) (wr := [oB7 t0 x_bytes x_sorts x_starts x_values x_length x_tokens, iB G x_bytes 150 xb]) (va_runV (As := []) (rest := [.int (iI k0_4)]) ⟨hx, hb, hml, hown, hts⟩ (c_J0_length_8abf5 l G (i0) (by first | exact hi0 | assumption | omega) _) (cwV 0 hts gX8_isThere_J0_length_8abf5 rfl rfl rfl (by decide +kernel) ⟨Nat.le_of_ble_eq_true rfl, Nat.le_of_ble_eq_true rfl⟩) (g_preZ i0 (by omega) [] hP hD hK hN hS hA hZ [] rfl rfl) rfl rfl hl.1 rfl (lv_room (Nat.le_of_ble_eq_true rfl)) dX8_isThere_18 ⟨Nat.le_of_ble_eq_true rfl, Nat.le_of_ble_eq_true rfl⟩) hP hD hS hA [] [0, 1] rfl rfl rfl (by decide) (fun r_10 u H locs hw hP hD hS => ?_)
    refine ea_1_3 hw (fun rr_11 e8_0 e8_1 e8_2 => ?_)
    subst e8_0
    subst e8_1
    subst e8_2
    clear hw
    have hPD : PD G A H [oB7 t0 x_bytes x_sorts x_starts x_values x_length x_tokens, iB G x_bytes 150 xb] := ⟨(by rw [List.append_nil] at hP; exact hP), (by rw [List.append_nil] at hD; exact hD)⟩
    have hP := hPD.1
    have hD := hPD.2
    clear hPD
    refine lv_icmp_ge (tgt := 50) hx hb dX8_isThere_21 (by decide) (fun c_12 => ?_) (fun c_12 => ?_)
    · have c_12 := (iI_le (a := ((zLen.getD i0 0 : Nat) : Int)) (b := k0_4) (by omega) (by omega)).mp c_12
      refine lv_iconst (v := iI 1) hx hb dX8_isThere_50 rfl ?_
      exact g_zret (v := (iI 1)) hx hb hr hlocks rfl hP hD hS (Or.inl ⟨(isW_y (by assumption) (by assumption) (by omega)), rfl, rfl⟩) dX8_isThere_51
    · have c_12 : ¬ (((zLen.getD i0 0 : Nat) : Int) ≤ k0_4) := fun h9 => c_12 ((iI_le (a := ((zLen.getD i0 0 : Nat) : Int)) (b := k0_4) (by omega) (by omega)).mpr h9)
      refine lv_aload_n hx hb dX8_isThere_24 rfl (lv_at hl 1 rfl) ?_
      refine va_get (D := G.1) (ci := 7) (v := .ref x_bytes) (C := RX8) (T := TX8) (N := 6) hx hb hts (fun _ h => List.mem_cons_of_mem _ (inlX8 _ h)) hown hK hP 0 rfl rfl 0 (by decide) (hts _ (List.mem_cons_of_mem _ (in_r4 (List.mem_of_getElem? (i := 20) rfl)))) (fun _ h9 => h9) rfl dX8_isThere_25 ?_
      refine lv_iload_n hx hb dX8_isThere_28 rfl (lv_at hl 3 rfl) ?_
      refine lv_iload hx hb dX8_isThere_29 (lv_at hl 0 rfl) ?_
      refine lv_iadd hx hb dX8_isThere_31 ?_
      refine g_topi (y := iI (f0 + k0_4)) (iI_add f0 k0_4) ?_
      refine g_ild hx hb hK hP 1 rfl (by omega) (by omega) (by first | exact Nat.le_of_ble_eq_true rfl | omega) dX8_isThere_32 (fun w_13 ew_13 => ?_)
      have ew_13 : xb ((f0 + k0_4).toNat) = w_13 := ew_13
      subst ew_13
      have b0w_13 := y0_ ((f0 + k0_4).toNat)
      refine lv_aload_n hx hb dX8_isThere_33 rfl (lv_at hl 2 rfl) ?_
      refine lv_iload hx hb dX8_isThere_34 (lv_at hl 0 rfl) ?_
      refine g_calli (wc := []) (wr := [oB7 t0 x_bytes x_sorts x_starts x_values x_length x_tokens, iB G x_bytes 150 xb]) (va_runV (As := [.int (iI k0_4)]) (rest := [.int (iI (xb ((f0 + k0_4).toNat)))]) ⟨hx, hb, hml, hown, hts⟩ (c_J0_charAt_5068e l G (i0) (k0_4) (by first | exact hi0 | assumption | omega) (by first | assumption | omega) (by first | assumption | omega | decide) (by first | exact hz0 | assumption | omega) _) (cwV 1 hts gX8_isThere_J0_charAt_5068e rfl rfl rfl (by decide +kernel) ⟨Nat.le_of_ble_eq_true rfl, Nat.le_of_ble_eq_true rfl⟩) (g_preZ i0 (by omega) [.int (iI k0_4)] hP hD hK hN hS hA hZ [] rfl rfl) rfl rfl hl.1 rfl (lv_room (Nat.le_of_ble_eq_true rfl)) dX8_isThere_36 ⟨Nat.le_of_ble_eq_true rfl, Nat.le_of_ble_eq_true rfl⟩) hP hD hS hA [] [0, 1] rfl rfl rfl (by decide) (fun r_14 u H locs hw hP hD hS => ?_)
      obtain ⟨rr_15, rfl, k_16, rfl, rfl⟩ := hw
      have hPD : PD G A H [oB7 t0 x_bytes x_sorts x_starts x_values x_length x_tokens, iB G x_bytes 150 xb] := ⟨(by rw [List.append_nil] at hP; exact hP), (by rw [List.append_nil] at hD; exact hD)⟩
      have hP := hPD.1
      have hD := hPD.2
      clear hPD
      refine lv_icmp_eq (tgt := 44) hx hb dX8_isThere_39 (by decide) (fun c_17 => ?_) (fun c_17 => ?_)
      · have c_17 := (iI_eq (a := (xb ((f0 + k0_4).toNat))) (b := (zC i0 k0_4)) (by omega) (by omega)).mp c_17
        refine lv_iinc (v := iI (k0_4 + 1)) (lv' := [(4, .int (iI (k0_4 + 1))), (0, .ref t0), (1, .ref (G.2 (10 + i0))), (2, .int (iI f0)), (3, .int (iI g0))]) hx hb dX8_isThere_44 hl (k := 0) rfl (iI_add k0_4 1) (by decide) rfl (fun ls hl => ?_)
        refine lv_goto (tgt := 15) hx hb dX8_isThere_47 (by decide) ?_
        exact ih_7 _ _ _ _ (by omega) ⟨(k0_4 + 1), (by first | assumption | omega), (iw_s (by assumption) (by assumption)), rfl, hP, hD, hS, lv_sub hl [0, 1, 2, 3, 4] rfl⟩
      · have c_17 : ¬ ((xb ((f0 + k0_4).toNat)) = (zC i0 k0_4)) := fun h9 => c_17 ((iI_eq (a := (xb ((f0 + k0_4).toNat))) (b := (zC i0 k0_4)) (by omega) (by omega)).mpr h9)
        refine lv_iconst (v := iI 0) hx hb dX8_isThere_42 rfl ?_
        exact g_zret (v := (iI 0)) hx hb hr hlocks rfl hP hD hS (Or.inr (⟨(isW_n (k := k0_4) (by omega) (by omega) (by assumption)), rfl, rfl⟩)) dX8_isThere_43
  · have c_3 : ¬ ((g0 - f0) = ((zLen.getD i0 0 : Nat) : Int)) := fun h9 => c_3 ((iI_eq (a := (g0 - f0)) (b := ((zLen.getD i0 0 : Nat) : Int)) (by omega) (by omega)).mpr h9)
    refine lv_iconst (v := iI 0) hx hb dX8_isThere_10 rfl ?_
    exact g_zret (v := (iI 0)) hx hb hr hlocks rfl hP hD hS (Or.inr (⟨(isW_l (by assumption)), rfl, rfl⟩)) dX8_isThere_11
theorem dX8_wordThere_0 : decode cX8_wordThere 0 = .ok (.aload_n 0, 1) := kd_42 (by decide +kernel)
theorem dX8_wordThere_1 : decode cX8_wordThere 1 = .ok (.ldc 50, 2) := kd_18 (a := 50) (by decide +kernel)
theorem dX8_wordThere_3 : decode cX8_wordThere 3 = .ok (.iload_n 1, 1) := kd_27 (by decide +kernel)
theorem dX8_wordThere_4 : decode cX8_wordThere 4 = .ok (.iload_n 2, 1) := kd_28 (by decide +kernel)
theorem gX8_wordThere_X8_isThere : GoodIn wsX8_wordThere (wsV RX8 52 RX8 yX8_isThere wsX8_isThere) := gW_V (in_r12 (List.mem_of_getElem? (i := 15) rfl)) (in_r12 (List.mem_of_getElem? (i := 16) rfl)) (in_r12 (List.mem_of_getElem? (i := 17) rfl)) (in_r4 (List.mem_of_getElem? (i := 14) rfl)) (in_r12 (List.mem_of_getElem? (i := 18) rfl))
theorem dX8_wordThere_5 : decode cX8_wordThere 5 = .ok (.invokevirtual 52, 3) := kd_182 (a := 0) (b := 52) (by decide +kernel)
theorem dX8_wordThere_8 : decode cX8_wordThere 8 = .ok (.ifCond .eq 5, 3) := kd_153 (a := 0) (b := 5) (by decide +kernel)
theorem dX8_wordThere_11 : decode cX8_wordThere 11 = .ok (.iconst 4, 1) := kd_7 (by decide +kernel)
theorem dX8_wordThere_12 : decode cX8_wordThere 12 = .ok (.ireturn, 1) := kd_172 (by decide +kernel)
theorem dX8_wordThere_13 : decode cX8_wordThere 13 = .ok (.aload_n 0, 1) := kd_42 (by decide +kernel)
theorem dX8_wordThere_14 : decode cX8_wordThere 14 = .ok (.ldc 56, 2) := kd_18 (a := 56) (by decide +kernel)
theorem dX8_wordThere_16 : decode cX8_wordThere 16 = .ok (.iload_n 1, 1) := kd_27 (by decide +kernel)
theorem dX8_wordThere_17 : decode cX8_wordThere 17 = .ok (.iload_n 2, 1) := kd_28 (by decide +kernel)
theorem dX8_wordThere_18 : decode cX8_wordThere 18 = .ok (.invokevirtual 52, 3) := kd_182 (a := 0) (b := 52) (by decide +kernel)
theorem dX8_wordThere_21 : decode cX8_wordThere 21 = .ok (.ifCond .eq 5, 3) := kd_153 (a := 0) (b := 5) (by decide +kernel)
theorem dX8_wordThere_24 : decode cX8_wordThere 24 = .ok (.iconst 5, 1) := kd_8 (by decide +kernel)
theorem dX8_wordThere_25 : decode cX8_wordThere 25 = .ok (.ireturn, 1) := kd_172 (by decide +kernel)
theorem dX8_wordThere_26 : decode cX8_wordThere 26 = .ok (.aload_n 0, 1) := kd_42 (by decide +kernel)
theorem dX8_wordThere_27 : decode cX8_wordThere 27 = .ok (.ldc 58, 2) := kd_18 (a := 58) (by decide +kernel)
theorem dX8_wordThere_29 : decode cX8_wordThere 29 = .ok (.iload_n 1, 1) := kd_27 (by decide +kernel)
theorem dX8_wordThere_30 : decode cX8_wordThere 30 = .ok (.iload_n 2, 1) := kd_28 (by decide +kernel)
theorem dX8_wordThere_31 : decode cX8_wordThere 31 = .ok (.invokevirtual 52, 3) := kd_182 (a := 0) (b := 52) (by decide +kernel)
theorem dX8_wordThere_34 : decode cX8_wordThere 34 = .ok (.ifCond .eq 6, 3) := kd_153 (a := 0) (b := 6) (by decide +kernel)
theorem dX8_wordThere_37 : decode cX8_wordThere 37 = .ok (.bipush 6, 2) := kd_16 (a := 6) (by decide +kernel)
theorem dX8_wordThere_39 : decode cX8_wordThere 39 = .ok (.ireturn, 1) := kd_172 (by decide +kernel)
theorem dX8_wordThere_40 : decode cX8_wordThere 40 = .ok (.aload_n 0, 1) := kd_42 (by decide +kernel)
theorem dX8_wordThere_41 : decode cX8_wordThere 41 = .ok (.ldc 60, 2) := kd_18 (a := 60) (by decide +kernel)
theorem dX8_wordThere_43 : decode cX8_wordThere 43 = .ok (.iload_n 1, 1) := kd_27 (by decide +kernel)
theorem dX8_wordThere_44 : decode cX8_wordThere 44 = .ok (.iload_n 2, 1) := kd_28 (by decide +kernel)
theorem dX8_wordThere_45 : decode cX8_wordThere 45 = .ok (.invokevirtual 52, 3) := kd_182 (a := 0) (b := 52) (by decide +kernel)
theorem dX8_wordThere_48 : decode cX8_wordThere 48 = .ok (.ifCond .eq 6, 3) := kd_153 (a := 0) (b := 6) (by decide +kernel)
theorem dX8_wordThere_51 : decode cX8_wordThere 51 = .ok (.bipush 7, 2) := kd_16 (a := 7) (by decide +kernel)
theorem dX8_wordThere_53 : decode cX8_wordThere 53 = .ok (.ireturn, 1) := kd_172 (by decide +kernel)
theorem dX8_wordThere_54 : decode cX8_wordThere 54 = .ok (.aload_n 0, 1) := kd_42 (by decide +kernel)
theorem dX8_wordThere_55 : decode cX8_wordThere 55 = .ok (.ldc 62, 2) := kd_18 (a := 62) (by decide +kernel)
theorem dX8_wordThere_57 : decode cX8_wordThere 57 = .ok (.iload_n 1, 1) := kd_27 (by decide +kernel)
theorem dX8_wordThere_58 : decode cX8_wordThere 58 = .ok (.iload_n 2, 1) := kd_28 (by decide +kernel)
theorem dX8_wordThere_59 : decode cX8_wordThere 59 = .ok (.invokevirtual 52, 3) := kd_182 (a := 0) (b := 52) (by decide +kernel)
theorem dX8_wordThere_62 : decode cX8_wordThere 62 = .ok (.ifCond .eq 6, 3) := kd_153 (a := 0) (b := 6) (by decide +kernel)
theorem dX8_wordThere_65 : decode cX8_wordThere 65 = .ok (.bipush 8, 2) := kd_16 (a := 8) (by decide +kernel)
theorem dX8_wordThere_67 : decode cX8_wordThere 67 = .ok (.ireturn, 1) := kd_172 (by decide +kernel)
theorem dX8_wordThere_68 : decode cX8_wordThere 68 = .ok (.aload_n 0, 1) := kd_42 (by decide +kernel)
theorem dX8_wordThere_69 : decode cX8_wordThere 69 = .ok (.ldc 64, 2) := kd_18 (a := 64) (by decide +kernel)
theorem dX8_wordThere_71 : decode cX8_wordThere 71 = .ok (.iload_n 1, 1) := kd_27 (by decide +kernel)
theorem dX8_wordThere_72 : decode cX8_wordThere 72 = .ok (.iload_n 2, 1) := kd_28 (by decide +kernel)
theorem dX8_wordThere_73 : decode cX8_wordThere 73 = .ok (.invokevirtual 52, 3) := kd_182 (a := 0) (b := 52) (by decide +kernel)
theorem dX8_wordThere_76 : decode cX8_wordThere 76 = .ok (.ifCond .eq 6, 3) := kd_153 (a := 0) (b := 6) (by decide +kernel)
theorem dX8_wordThere_79 : decode cX8_wordThere 79 = .ok (.bipush 9, 2) := kd_16 (a := 9) (by decide +kernel)
theorem dX8_wordThere_81 : decode cX8_wordThere 81 = .ok (.ireturn, 1) := kd_172 (by decide +kernel)
theorem dX8_wordThere_82 : decode cX8_wordThere 82 = .ok (.aload_n 0, 1) := kd_42 (by decide +kernel)
theorem dX8_wordThere_83 : decode cX8_wordThere 83 = .ok (.ldc 66, 2) := kd_18 (a := 66) (by decide +kernel)
theorem dX8_wordThere_85 : decode cX8_wordThere 85 = .ok (.iload_n 1, 1) := kd_27 (by decide +kernel)
theorem dX8_wordThere_86 : decode cX8_wordThere 86 = .ok (.iload_n 2, 1) := kd_28 (by decide +kernel)
theorem dX8_wordThere_87 : decode cX8_wordThere 87 = .ok (.invokevirtual 52, 3) := kd_182 (a := 0) (b := 52) (by decide +kernel)
theorem dX8_wordThere_90 : decode cX8_wordThere 90 = .ok (.ifCond .eq 8, 3) := kd_153 (a := 0) (b := 8) (by decide +kernel)
theorem dX8_wordThere_93 : decode cX8_wordThere 93 = .ok (.bipush 10, 2) := kd_16 (a := 10) (by decide +kernel)
theorem dX8_wordThere_95 : decode cX8_wordThere 95 = .ok (.goto 4, 3) := kd_167 (a := 0) (b := 4) (by decide +kernel)
theorem dX8_wordThere_99 : decode cX8_wordThere 99 = .ok (.ireturn, 1) := kd_172 (by decide +kernel)
theorem dX8_wordThere_98 : decode cX8_wordThere 98 = .ok (.iconst 3, 1) := kd_6 (by decide +kernel)
set_option maxHeartbeats 8000000 in
set_option maxRecDepth 100000 in
theorem c_X8_wordThere (l : Launch) (G : gG) (t0 : Nat) (x_bytes : Nat) (x_sorts : Nat) (x_starts : Nat) (x_values : Nat) (x_length : Int) (x_tokens : Int) (xb : Nat → Int) (f0 : Int) (g0 : Int) (y0_ : bd 0 127 xb) (hf : 0 ≤ f0 ∧ f0 ≤ 150) (hg : f0 ≤ g0 ∧ g0 ≤ 150) (sz : Nat) : gI G l yX8_wordThere wsX8_wordThere ({ frames := 5, cells := 0, slots := 0, locals := 109 } : Room) [.ref t0, .int (iI f0), .int (iI g0)] [oB7 t0 x_bytes x_sorts x_starts x_values x_length x_tokens, iB G x_bytes 150 xb] sz (fun (r : Int32) (u : va_W) => (∃ rr : Int, (wd xb f0 g0 rr) ∧ (0 ≤ rr ∧ rr ≤ 10) ∧ r = (iI rr) ∧ u = [oB7 t0 x_bytes x_sorts x_starts x_values x_length x_tokens, iB G x_bytes 150 xb])) := by
  refine Met.ofW (cc := cX8_wordThere) (maxL := 3) (ret := (some .int)) (by decide) rfl ?_
  intro p e s m args below meth c s₁ B hml hv
  obtain ⟨rfl, hsz, hP, hK, hD0, hN, hZ⟩ := hv
  have hx := B.exec
  have hb := B.bytes
  have hr := B.returns
  have hts := atoms_spec (ws := wsX8_wordThere) B.pre
  have hown : s.vm.findClass RX8 = some m.cls := findClass_of_methodNamed B.named
  have hlocks := B.notSynchronized
  subst hsz
  have hD := hD0.self (sz := s.heap.size)
  generalize hAe : va_A [oB7 t0 x_bytes x_sorts x_starts x_values x_length x_tokens, iB G x_bytes 150 xb] s.heap.size = A at hD hZ ⊢
  have hA : ∀ q : Nat, s.heap.size ≤ q → A q := fun q h => by rw [← hAe]; exact Or.inr h
  have hS : va_S A s.heap s.heap [] := va_S.rf
  have hP : va_P G.1 vwCl [oB7 t0 x_bytes x_sorts x_starts x_values x_length x_tokens, iB G x_bytes 150 xb] s.heap := hP
  have hl := lv_entry ([.ref t0, .int (iI f0), .int (iI g0)]) (n := 3) (Nat.le_of_ble_eq_true rfl)
  rw [lg_entry_eq]
  generalize (lg_sl ([.ref t0, .int (iI f0), .int (iI g0)]) ++ List.replicate (3 - (lg_sl ([.ref t0, .int (iI f0), .int (iI g0)])).length) Slot.unset).toArray = ls at hl ⊢
  have hl : lv_has ls 3 [(0, .ref t0), (1, .int (iI f0)), (2, .int (iI g0))] := hl
  refine lv_aload_n hx hb dX8_wordThere_0 rfl (lv_at hl 0 rfl) ?_
  refine va_ldcS hx hb hown (hZ.2.1 0 (by omega)) dX8_wordThere_1 ?_
  refine lv_iload_n hx hb dX8_wordThere_3 rfl (lv_at hl 1 rfl) ?_
  refine lv_iload_n hx hb dX8_wordThere_4 rfl (lv_at hl 2 rfl) ?_
  refine g_calli (wr := []) (va_runV (As := [.ref (G.2 (10 + 0)), .int (iI f0), .int (iI g0)]) (rest := []) ⟨hx, hb, hml, hown, hts⟩ (c_X8_isThere l G (t0) (x_bytes) (x_sorts) (x_starts) (x_values) (x_length) (x_tokens) (xb) (0) (f0) (g0) (by first | exact y0_ | exact bd_mono y0_ (by omega) (by omega) | assumption) (by first | exact hf | assumption | omega) (by first | exact hg | assumption | omega) (by first | assumption | omega) (by first | assumption | omega | decide) _) (cwV 3 hts gX8_wordThere_X8_isThere rfl rfl rfl (by decide +kernel) ⟨Nat.le_of_ble_eq_true rfl, Nat.le_of_ble_eq_true rfl⟩) (g_preV t0 [.ref (G.2 (10 + 0)), .int (iI f0), .int (iI g0)] hP hD hK hN hS hA hZ [0, 1] rfl rfl 0 (ci := 7) rfl rfl) rfl rfl hl.1 rfl (lv_room (Nat.le_of_ble_eq_true rfl)) dX8_wordThere_5 ⟨Nat.le_of_ble_eq_true rfl, Nat.le_of_ble_eq_true rfl⟩) hP hD hS hA [0, 1] [] rfl rfl rfl (by decide) (fun r_1 u H locs hw hP hD hS => ?_)
  rcases hw with ⟨k_2, rfl, rfl⟩ | ⟨k_3, rfl, rfl⟩
  · have hPD : PD G A H [oB7 t0 x_bytes x_sorts x_starts x_values x_length x_tokens, iB G x_bytes 150 xb] := ⟨hP, hD⟩
    have hP := hPD.1
    have hD := hPD.2
    clear hPD
    refine lv_if_eq (tgt := 13) hx hb dX8_wordThere_8 (by decide) (fun c_4 => g_no c_4 (by decide)) (fun _ => ?_)
    refine lv_iconst (v := iI 4) hx hb dX8_wordThere_11 rfl ?_
    exact g_iret (v := (iI 4)) hx hb hr hlocks hP hD hS (⟨4, (wd_ok 0 (by omega) (by assumption) (by decide)), (by first | assumption | omega), rfl, rfl⟩) dX8_wordThere_12
  · have hPD : PD G A H [oB7 t0 x_bytes x_sorts x_starts x_values x_length x_tokens, iB G x_bytes 150 xb] := ⟨hP, hD⟩
    have hP := hPD.1
    have hD := hPD.2
    clear hPD
    refine lv_if_eq (tgt := 13) hx hb dX8_wordThere_8 (by decide) (fun _ => ?_) (fun c_5 => g_no (by decide) c_5)
    refine lv_aload_n hx hb dX8_wordThere_13 rfl (lv_at hl 0 rfl) ?_
    refine va_ldcS hx hb hown (hZ.2.1 1 (by omega)) dX8_wordThere_14 ?_
    refine lv_iload_n hx hb dX8_wordThere_16 rfl (lv_at hl 1 rfl) ?_
    refine lv_iload_n hx hb dX8_wordThere_17 rfl (lv_at hl 2 rfl) ?_
    refine g_calli (wr := []) (va_runV (As := [.ref (G.2 (10 + 1)), .int (iI f0), .int (iI g0)]) (rest := []) ⟨hx, hb, hml, hown, hts⟩ (c_X8_isThere l G (t0) (x_bytes) (x_sorts) (x_starts) (x_values) (x_length) (x_tokens) (xb) (1) (f0) (g0) (by first | exact y0_ | exact bd_mono y0_ (by omega) (by omega) | assumption) (by first | exact hf | assumption | omega) (by first | exact hg | assumption | omega) (by first | assumption | omega) (by first | assumption | omega | decide) _) (cwV 3 hts gX8_wordThere_X8_isThere rfl rfl rfl (by decide +kernel) ⟨Nat.le_of_ble_eq_true rfl, Nat.le_of_ble_eq_true rfl⟩) (g_preV t0 [.ref (G.2 (10 + 1)), .int (iI f0), .int (iI g0)] hP hD hK hN hS hA hZ [0, 1] rfl rfl 0 (ci := 7) rfl rfl) rfl rfl hl.1 rfl (lv_room (Nat.le_of_ble_eq_true rfl)) dX8_wordThere_18 ⟨Nat.le_of_ble_eq_true rfl, Nat.le_of_ble_eq_true rfl⟩) hP hD hS hA [0, 1] [] rfl rfl rfl (by decide) (fun r_6 u H locs hw hP hD hS => ?_)
    rcases hw with ⟨k_7, rfl, rfl⟩ | ⟨k_8, rfl, rfl⟩
    · have hPD : PD G A H [oB7 t0 x_bytes x_sorts x_starts x_values x_length x_tokens, iB G x_bytes 150 xb] := ⟨hP, hD⟩
      have hP := hPD.1
      have hD := hPD.2
      clear hPD
      refine lv_if_eq (tgt := 26) hx hb dX8_wordThere_21 (by decide) (fun c_9 => g_no c_9 (by decide)) (fun _ => ?_)
      refine lv_iconst (v := iI 5) hx hb dX8_wordThere_24 rfl ?_
      exact g_iret (v := (iI 5)) hx hb hr hlocks hP hD hS (⟨5, (wd_ok 1 (by omega) (by assumption) (by decide)), (by first | assumption | omega), rfl, rfl⟩) dX8_wordThere_25
    · have hPD : PD G A H [oB7 t0 x_bytes x_sorts x_starts x_values x_length x_tokens, iB G x_bytes 150 xb] := ⟨hP, hD⟩
      have hP := hPD.1
      have hD := hPD.2
      clear hPD
      refine lv_if_eq (tgt := 26) hx hb dX8_wordThere_21 (by decide) (fun _ => ?_) (fun c_10 => g_no (by decide) c_10)
      refine lv_aload_n hx hb dX8_wordThere_26 rfl (lv_at hl 0 rfl) ?_
      refine va_ldcS hx hb hown (hZ.2.1 2 (by omega)) dX8_wordThere_27 ?_
      refine lv_iload_n hx hb dX8_wordThere_29 rfl (lv_at hl 1 rfl) ?_
      refine lv_iload_n hx hb dX8_wordThere_30 rfl (lv_at hl 2 rfl) ?_
      refine g_calli (wr := []) (va_runV (As := [.ref (G.2 (10 + 2)), .int (iI f0), .int (iI g0)]) (rest := []) ⟨hx, hb, hml, hown, hts⟩ (c_X8_isThere l G (t0) (x_bytes) (x_sorts) (x_starts) (x_values) (x_length) (x_tokens) (xb) (2) (f0) (g0) (by first | exact y0_ | exact bd_mono y0_ (by omega) (by omega) | assumption) (by first | exact hf | assumption | omega) (by first | exact hg | assumption | omega) (by first | assumption | omega) (by first | assumption | omega | decide) _) (cwV 3 hts gX8_wordThere_X8_isThere rfl rfl rfl (by decide +kernel) ⟨Nat.le_of_ble_eq_true rfl, Nat.le_of_ble_eq_true rfl⟩) (g_preV t0 [.ref (G.2 (10 + 2)), .int (iI f0), .int (iI g0)] hP hD hK hN hS hA hZ [0, 1] rfl rfl 0 (ci := 7) rfl rfl) rfl rfl hl.1 rfl (lv_room (Nat.le_of_ble_eq_true rfl)) dX8_wordThere_31 ⟨Nat.le_of_ble_eq_true rfl, Nat.le_of_ble_eq_true rfl⟩) hP hD hS hA [0, 1] [] rfl rfl rfl (by decide) (fun r_11 u H locs hw hP hD hS => ?_)
      rcases hw with ⟨k_12, rfl, rfl⟩ | ⟨k_13, rfl, rfl⟩
      · have hPD : PD G A H [oB7 t0 x_bytes x_sorts x_starts x_values x_length x_tokens, iB G x_bytes 150 xb] := ⟨hP, hD⟩
        have hP := hPD.1
        have hD := hPD.2
        clear hPD
        refine lv_if_eq (tgt := 40) hx hb dX8_wordThere_34 (by decide) (fun c_14 => g_no c_14 (by decide)) (fun _ => ?_)
        refine lv_bipush (v := iI 6) hx hb dX8_wordThere_37 (by decide) ?_
        exact g_iret (v := (iI 6)) hx hb hr hlocks hP hD hS (⟨6, (wd_ok 2 (by omega) (by assumption) (by decide)), (by first | assumption | omega), rfl, rfl⟩) dX8_wordThere_39
      · have hPD : PD G A H [oB7 t0 x_bytes x_sorts x_starts x_values x_length x_tokens, iB G x_bytes 150 xb] := ⟨hP, hD⟩
        have hP := hPD.1
        have hD := hPD.2
        clear hPD
        refine lv_if_eq (tgt := 40) hx hb dX8_wordThere_34 (by decide) (fun _ => ?_) (fun c_15 => g_no (by decide) c_15)
        refine lv_aload_n hx hb dX8_wordThere_40 rfl (lv_at hl 0 rfl) ?_
        refine va_ldcS hx hb hown (hZ.2.1 3 (by omega)) dX8_wordThere_41 ?_
        refine lv_iload_n hx hb dX8_wordThere_43 rfl (lv_at hl 1 rfl) ?_
        refine lv_iload_n hx hb dX8_wordThere_44 rfl (lv_at hl 2 rfl) ?_
        refine g_calli (wr := []) (va_runV (As := [.ref (G.2 (10 + 3)), .int (iI f0), .int (iI g0)]) (rest := []) ⟨hx, hb, hml, hown, hts⟩ (c_X8_isThere l G (t0) (x_bytes) (x_sorts) (x_starts) (x_values) (x_length) (x_tokens) (xb) (3) (f0) (g0) (by first | exact y0_ | exact bd_mono y0_ (by omega) (by omega) | assumption) (by first | exact hf | assumption | omega) (by first | exact hg | assumption | omega) (by first | assumption | omega) (by first | assumption | omega | decide) _) (cwV 3 hts gX8_wordThere_X8_isThere rfl rfl rfl (by decide +kernel) ⟨Nat.le_of_ble_eq_true rfl, Nat.le_of_ble_eq_true rfl⟩) (g_preV t0 [.ref (G.2 (10 + 3)), .int (iI f0), .int (iI g0)] hP hD hK hN hS hA hZ [0, 1] rfl rfl 0 (ci := 7) rfl rfl) rfl rfl hl.1 rfl (lv_room (Nat.le_of_ble_eq_true rfl)) dX8_wordThere_45 ⟨Nat.le_of_ble_eq_true rfl, Nat.le_of_ble_eq_true rfl⟩) hP hD hS hA [0, 1] [] rfl rfl rfl (by decide) (fun r_16 u H locs hw hP hD hS => ?_)
        rcases hw with ⟨k_17, rfl, rfl⟩ | ⟨k_18, rfl, rfl⟩
        · have hPD : PD G A H [oB7 t0 x_bytes x_sorts x_starts x_values x_length x_tokens, iB G x_bytes 150 xb] := ⟨hP, hD⟩
          have hP := hPD.1
          have hD := hPD.2
          clear hPD
          refine lv_if_eq (tgt := 54) hx hb dX8_wordThere_48 (by decide) (fun c_19 => g_no c_19 (by decide)) (fun _ => ?_)
          refine lv_bipush (v := iI 7) hx hb dX8_wordThere_51 (by decide) ?_
          exact g_iret (v := (iI 7)) hx hb hr hlocks hP hD hS (⟨7, (wd_ok 3 (by omega) (by assumption) (by decide)), (by first | assumption | omega), rfl, rfl⟩) dX8_wordThere_53
        · have hPD : PD G A H [oB7 t0 x_bytes x_sorts x_starts x_values x_length x_tokens, iB G x_bytes 150 xb] := ⟨hP, hD⟩
          have hP := hPD.1
          have hD := hPD.2
          clear hPD
          refine lv_if_eq (tgt := 54) hx hb dX8_wordThere_48 (by decide) (fun _ => ?_) (fun c_20 => g_no (by decide) c_20)
          refine lv_aload_n hx hb dX8_wordThere_54 rfl (lv_at hl 0 rfl) ?_
          refine va_ldcS hx hb hown (hZ.2.1 4 (by omega)) dX8_wordThere_55 ?_
          refine lv_iload_n hx hb dX8_wordThere_57 rfl (lv_at hl 1 rfl) ?_
          refine lv_iload_n hx hb dX8_wordThere_58 rfl (lv_at hl 2 rfl) ?_
          refine g_calli (wr := []) (va_runV (As := [.ref (G.2 (10 + 4)), .int (iI f0), .int (iI g0)]) (rest := []) ⟨hx, hb, hml, hown, hts⟩ (c_X8_isThere l G (t0) (x_bytes) (x_sorts) (x_starts) (x_values) (x_length) (x_tokens) (xb) (4) (f0) (g0) (by first | exact y0_ | exact bd_mono y0_ (by omega) (by omega) | assumption) (by first | exact hf | assumption | omega) (by first | exact hg | assumption | omega) (by first | assumption | omega) (by first | assumption | omega | decide) _) (cwV 3 hts gX8_wordThere_X8_isThere rfl rfl rfl (by decide +kernel) ⟨Nat.le_of_ble_eq_true rfl, Nat.le_of_ble_eq_true rfl⟩) (g_preV t0 [.ref (G.2 (10 + 4)), .int (iI f0), .int (iI g0)] hP hD hK hN hS hA hZ [0, 1] rfl rfl 0 (ci := 7) rfl rfl) rfl rfl hl.1 rfl (lv_room (Nat.le_of_ble_eq_true rfl)) dX8_wordThere_59 ⟨Nat.le_of_ble_eq_true rfl, Nat.le_of_ble_eq_true rfl⟩) hP hD hS hA [0, 1] [] rfl rfl rfl (by decide) (fun r_21 u H locs hw hP hD hS => ?_)
          rcases hw with ⟨k_22, rfl, rfl⟩ | ⟨k_23, rfl, rfl⟩
          · have hPD : PD G A H [oB7 t0 x_bytes x_sorts x_starts x_values x_length x_tokens, iB G x_bytes 150 xb] := ⟨hP, hD⟩
            have hP := hPD.1
            have hD := hPD.2
            clear hPD
            refine lv_if_eq (tgt := 68) hx hb dX8_wordThere_62 (by decide) (fun c_24 => g_no c_24 (by decide)) (fun _ => ?_)
            refine lv_bipush (v := iI 8) hx hb dX8_wordThere_65 (by decide) ?_
            exact g_iret (v := (iI 8)) hx hb hr hlocks hP hD hS (⟨8, (wd_ok 4 (by omega) (by assumption) (by decide)), (by first | assumption | omega), rfl, rfl⟩) dX8_wordThere_67
          · have hPD : PD G A H [oB7 t0 x_bytes x_sorts x_starts x_values x_length x_tokens, iB G x_bytes 150 xb] := ⟨hP, hD⟩
            have hP := hPD.1
            have hD := hPD.2
            clear hPD
            refine lv_if_eq (tgt := 68) hx hb dX8_wordThere_62 (by decide) (fun _ => ?_) (fun c_25 => g_no (by decide) c_25)
            refine lv_aload_n hx hb dX8_wordThere_68 rfl (lv_at hl 0 rfl) ?_
            refine va_ldcS hx hb hown (hZ.2.1 5 (by omega)) dX8_wordThere_69 ?_
            refine lv_iload_n hx hb dX8_wordThere_71 rfl (lv_at hl 1 rfl) ?_
            refine lv_iload_n hx hb dX8_wordThere_72 rfl (lv_at hl 2 rfl) ?_
            refine g_calli (wr := []) (va_runV (As := [.ref (G.2 (10 + 5)), .int (iI f0), .int (iI g0)]) (rest := []) ⟨hx, hb, hml, hown, hts⟩ (c_X8_isThere l G (t0) (x_bytes) (x_sorts) (x_starts) (x_values) (x_length) (x_tokens) (xb) (5) (f0) (g0) (by first | exact y0_ | exact bd_mono y0_ (by omega) (by omega) | assumption) (by first | exact hf | assumption | omega) (by first | exact hg | assumption | omega) (by first | assumption | omega) (by first | assumption | omega | decide) _) (cwV 3 hts gX8_wordThere_X8_isThere rfl rfl rfl (by decide +kernel) ⟨Nat.le_of_ble_eq_true rfl, Nat.le_of_ble_eq_true rfl⟩) (g_preV t0 [.ref (G.2 (10 + 5)), .int (iI f0), .int (iI g0)] hP hD hK hN hS hA hZ [0, 1] rfl rfl 0 (ci := 7) rfl rfl) rfl rfl hl.1 rfl (lv_room (Nat.le_of_ble_eq_true rfl)) dX8_wordThere_73 ⟨Nat.le_of_ble_eq_true rfl, Nat.le_of_ble_eq_true rfl⟩) hP hD hS hA [0, 1] [] rfl rfl rfl (by decide) (fun r_26 u H locs hw hP hD hS => ?_)
            rcases hw with ⟨k_27, rfl, rfl⟩ | ⟨k_28, rfl, rfl⟩
            · have hPD : PD G A H [oB7 t0 x_bytes x_sorts x_starts x_values x_length x_tokens, iB G x_bytes 150 xb] := ⟨hP, hD⟩
              have hP := hPD.1
              have hD := hPD.2
              clear hPD
              refine lv_if_eq (tgt := 82) hx hb dX8_wordThere_76 (by decide) (fun c_29 => g_no c_29 (by decide)) (fun _ => ?_)
              refine lv_bipush (v := iI 9) hx hb dX8_wordThere_79 (by decide) ?_
              exact g_iret (v := (iI 9)) hx hb hr hlocks hP hD hS (⟨9, (wd_ok 5 (by omega) (by assumption) (by decide)), (by first | assumption | omega), rfl, rfl⟩) dX8_wordThere_81
            · have hPD : PD G A H [oB7 t0 x_bytes x_sorts x_starts x_values x_length x_tokens, iB G x_bytes 150 xb] := ⟨hP, hD⟩
              have hP := hPD.1
              have hD := hPD.2
              clear hPD
              refine lv_if_eq (tgt := 82) hx hb dX8_wordThere_76 (by decide) (fun _ => ?_) (fun c_30 => g_no (by decide) c_30)
              refine lv_aload_n hx hb dX8_wordThere_82 rfl (lv_at hl 0 rfl) ?_
              refine va_ldcS hx hb hown (hZ.2.1 6 (by omega)) dX8_wordThere_83 ?_
              refine lv_iload_n hx hb dX8_wordThere_85 rfl (lv_at hl 1 rfl) ?_
              refine lv_iload_n hx hb dX8_wordThere_86 rfl (lv_at hl 2 rfl) ?_
              refine g_calli (wr := []) (va_runV (As := [.ref (G.2 (10 + 6)), .int (iI f0), .int (iI g0)]) (rest := []) ⟨hx, hb, hml, hown, hts⟩ (c_X8_isThere l G (t0) (x_bytes) (x_sorts) (x_starts) (x_values) (x_length) (x_tokens) (xb) (6) (f0) (g0) (by first | exact y0_ | exact bd_mono y0_ (by omega) (by omega) | assumption) (by first | exact hf | assumption | omega) (by first | exact hg | assumption | omega) (by first | assumption | omega) (by first | assumption | omega | decide) _) (cwV 3 hts gX8_wordThere_X8_isThere rfl rfl rfl (by decide +kernel) ⟨Nat.le_of_ble_eq_true rfl, Nat.le_of_ble_eq_true rfl⟩) (g_preV t0 [.ref (G.2 (10 + 6)), .int (iI f0), .int (iI g0)] hP hD hK hN hS hA hZ [0, 1] rfl rfl 0 (ci := 7) rfl rfl) rfl rfl hl.1 rfl (lv_room (Nat.le_of_ble_eq_true rfl)) dX8_wordThere_87 ⟨Nat.le_of_ble_eq_true rfl, Nat.le_of_ble_eq_true rfl⟩) hP hD hS hA [0, 1] [] rfl rfl rfl (by decide) (fun r_31 u H locs hw hP hD hS => ?_)
              rcases hw with ⟨k_32, rfl, rfl⟩ | ⟨k_33, rfl, rfl⟩
              · have hPD : PD G A H [oB7 t0 x_bytes x_sorts x_starts x_values x_length x_tokens, iB G x_bytes 150 xb] := ⟨hP, hD⟩
                have hP := hPD.1
                have hD := hPD.2
                clear hPD
                refine lv_if_eq (tgt := 98) hx hb dX8_wordThere_90 (by decide) (fun c_34 => g_no c_34 (by decide)) (fun _ => ?_)
                refine lv_bipush (v := iI 10) hx hb dX8_wordThere_93 (by decide) ?_
                refine lv_goto (tgt := 99) hx hb dX8_wordThere_95 (by decide) ?_
                exact g_iret (v := (iI 10)) hx hb hr hlocks hP hD hS (⟨10, (wd_ok 6 (by omega) (by assumption) (by decide)), (by first | assumption | omega), rfl, rfl⟩) dX8_wordThere_99
              · have hPD : PD G A H [oB7 t0 x_bytes x_sorts x_starts x_values x_length x_tokens, iB G x_bytes 150 xb] := ⟨hP, hD⟩
                have hP := hPD.1
                have hD := hPD.2
                clear hPD
                refine lv_if_eq (tgt := 98) hx hb dX8_wordThere_90 (by decide) (fun _ => ?_) (fun c_35 => g_no (by decide) c_35)
                refine lv_iconst (v := iI 3) hx hb dX8_wordThere_98 rfl ?_
                exact g_iret (v := (iI 3)) hx hb hr hlocks hP hD hS (⟨3, (wd_no (by assumption) (by assumption) (by assumption) (by assumption) (by assumption) (by assumption) (by assumption)), (by first | assumption | omega), rfl, rfl⟩) dX8_wordThere_99
theorem dX8_scanToken_0 : decode cX8_scanToken 0 = .ok (.aload_n 0, 1) := kd_42 (by decide +kernel)
theorem dX8_scanToken_1 : decode cX8_scanToken 1 = .ok (.getfield 9, 3) := kd_180 (a := 0) (b := 9) (by decide +kernel)
theorem dX8_scanToken_4 : decode cX8_scanToken 4 = .ok (.iload_n 1, 1) := kd_27 (by decide +kernel)
theorem dX8_scanToken_5 : decode cX8_scanToken 5 = .ok (.iaload, 1) := kd_46 (by decide +kernel)
theorem dX8_scanToken_6 : decode cX8_scanToken 6 = .ok (.istore_n 2, 1) := kd_61 (by decide +kernel)
theorem dX8_scanToken_7 : decode cX8_scanToken 7 = .ok (.iload_n 1, 1) := kd_27 (by decide +kernel)
theorem dX8_scanToken_8 : decode cX8_scanToken 8 = .ok (.iconst 1, 1) := kd_4 (by decide +kernel)
theorem dX8_scanToken_9 : decode cX8_scanToken 9 = .ok (.iadd, 1) := kd_96 (by decide +kernel)
theorem dX8_scanToken_10 : decode cX8_scanToken 10 = .ok (.istore_n 3, 1) := kd_62 (by decide +kernel)
theorem dX8_scanToken_11 : decode cX8_scanToken 11 = .ok (.iload_n 2, 1) := kd_28 (by decide +kernel)
theorem gX8_scanToken_X8_isLetter : GoodIn wsX8_scanToken (va_wsS RX8 39 yX8_isLetter wsX8_isLetter) := gW_S (in_r12 (List.mem_of_getElem? (i := 8) rfl)) (in_r12 (List.mem_of_getElem? (i := 9) rfl)) (in_r4 (List.mem_of_getElem? (i := 14) rfl)) (in_r12 (List.mem_of_getElem? (i := 10) rfl))
theorem dX8_scanToken_12 : decode cX8_scanToken 12 = .ok (.invokestatic 39, 3) := kd_184 (a := 0) (b := 39) (by decide +kernel)
theorem dX8_scanToken_15 : decode cX8_scanToken 15 = .ok (.ifCond .eq 44, 3) := kd_153 (a := 0) (b := 44) (by decide +kernel)
theorem dX8_scanToken_18 : decode cX8_scanToken 18 = .ok (.iload_n 3, 1) := kd_29 (by decide +kernel)
theorem dX8_scanToken_19 : decode cX8_scanToken 19 = .ok (.aload_n 0, 1) := kd_42 (by decide +kernel)
theorem dX8_scanToken_20 : decode cX8_scanToken 20 = .ok (.getfield 24, 3) := kd_180 (a := 0) (b := 24) (by decide +kernel)
theorem dX8_scanToken_23 : decode cX8_scanToken 23 = .ok (.if_icmp .ge 21, 3) := kd_162 (a := 0) (b := 21) (by decide +kernel)
theorem dX8_scanToken_44 : decode cX8_scanToken 44 = .ok (.aload_n 0, 1) := kd_42 (by decide +kernel)
theorem dX8_scanToken_45 : decode cX8_scanToken 45 = .ok (.aload_n 0, 1) := kd_42 (by decide +kernel)
theorem dX8_scanToken_46 : decode cX8_scanToken 46 = .ok (.iload_n 1, 1) := kd_27 (by decide +kernel)
theorem dX8_scanToken_47 : decode cX8_scanToken 47 = .ok (.iload_n 3, 1) := kd_29 (by decide +kernel)
theorem gX8_scanToken_X8_wordThere : GoodIn wsX8_scanToken (wsV RX8 43 RX8 yX8_wordThere wsX8_wordThere) := gW_V (in_r12 (List.mem_of_getElem? (i := 11) rfl)) (in_r12 (List.mem_of_getElem? (i := 12) rfl)) (in_r12 (List.mem_of_getElem? (i := 13) rfl)) (in_r4 (List.mem_of_getElem? (i := 14) rfl)) (in_r12 (List.mem_of_getElem? (i := 14) rfl))
theorem dX8_scanToken_48 : decode cX8_scanToken 48 = .ok (.invokevirtual 43, 3) := kd_182 (a := 0) (b := 43) (by decide +kernel)
theorem dX8_scanToken_51 : decode cX8_scanToken 51 = .ok (.iload_n 1, 1) := kd_27 (by decide +kernel)
theorem dX8_scanToken_52 : decode cX8_scanToken 52 = .ok (.iconst 0, 1) := kd_3 (by decide +kernel)
theorem gX8_scanToken_X8_addToken : GoodIn wsX8_scanToken (wsV RX8 35 RX8 yX8_addToken wsX8_addToken) := gW_V (in_r14 (List.mem_of_getElem? (i := 20) rfl)) (in_r14 (List.mem_of_getElem? (i := 21) rfl)) (in_r14 (List.mem_of_getElem? (i := 22) rfl)) (in_r4 (List.mem_of_getElem? (i := 14) rfl)) (in_r14 (List.mem_of_getElem? (i := 23) rfl))
theorem dX8_scanToken_53 : decode cX8_scanToken 53 = .ok (.invokevirtual 35, 3) := kd_182 (a := 0) (b := 35) (by decide +kernel)
theorem dX8_scanToken_56 : decode cX8_scanToken 56 = .ok (.goto 110, 3) := kd_167 (a := 0) (b := 110) (by decide +kernel)
theorem dX8_scanToken_166 : decode cX8_scanToken 166 = .ok (.iload_n 3, 1) := kd_29 (by decide +kernel)
theorem dX8_scanToken_167 : decode cX8_scanToken 167 = .ok (.ireturn, 1) := kd_172 (by decide +kernel)
theorem dX8_scanToken_26 : decode cX8_scanToken 26 = .ok (.aload_n 0, 1) := kd_42 (by decide +kernel)
theorem dX8_scanToken_27 : decode cX8_scanToken 27 = .ok (.getfield 9, 3) := kd_180 (a := 0) (b := 9) (by decide +kernel)
theorem dX8_scanToken_30 : decode cX8_scanToken 30 = .ok (.iload_n 3, 1) := kd_29 (by decide +kernel)
theorem dX8_scanToken_31 : decode cX8_scanToken 31 = .ok (.iaload, 1) := kd_46 (by decide +kernel)
theorem dX8_scanToken_32 : decode cX8_scanToken 32 = .ok (.invokestatic 39, 3) := kd_184 (a := 0) (b := 39) (by decide +kernel)
theorem dX8_scanToken_35 : decode cX8_scanToken 35 = .ok (.ifCond .eq 9, 3) := kd_153 (a := 0) (b := 9) (by decide +kernel)
theorem dX8_scanToken_38 : decode cX8_scanToken 38 = .ok (.iinc 3 1, 3) := kd_132 (a := 3) (b := 1) (by decide +kernel)
theorem dX8_scanToken_41 : decode cX8_scanToken 41 = .ok (.goto (-23), 3) := kd_167 (a := 255) (b := 233) (by decide +kernel)
theorem dX8_scanToken_59 : decode cX8_scanToken 59 = .ok (.iload_n 2, 1) := kd_28 (by decide +kernel)
theorem gX8_scanToken_X8_isFigure : GoodIn wsX8_scanToken (va_wsS RX8 47 yX8_isFigure wsX8_isFigure) := gW_S (in_r15 (List.mem_of_getElem? (i := 0) rfl)) (in_r15 (List.mem_of_getElem? (i := 1) rfl)) (in_r4 (List.mem_of_getElem? (i := 14) rfl)) (in_r15 (List.mem_of_getElem? (i := 2) rfl))
theorem dX8_scanToken_60 : decode cX8_scanToken 60 = .ok (.invokestatic 47, 3) := kd_184 (a := 0) (b := 47) (by decide +kernel)
theorem dX8_scanToken_63 : decode cX8_scanToken 63 = .ok (.ifCond .eq 86, 3) := kd_153 (a := 0) (b := 86) (by decide +kernel)
theorem dX8_scanToken_66 : decode cX8_scanToken 66 = .ok (.iload_n 3, 1) := kd_29 (by decide +kernel)
theorem dX8_scanToken_67 : decode cX8_scanToken 67 = .ok (.aload_n 0, 1) := kd_42 (by decide +kernel)
theorem dX8_scanToken_68 : decode cX8_scanToken 68 = .ok (.getfield 24, 3) := kd_180 (a := 0) (b := 24) (by decide +kernel)
theorem dX8_scanToken_71 : decode cX8_scanToken 71 = .ok (.if_icmp .ge 21, 3) := kd_162 (a := 0) (b := 21) (by decide +kernel)
theorem dX8_scanToken_92 : decode cX8_scanToken 92 = .ok (.iload_n 3, 1) := kd_29 (by decide +kernel)
theorem dX8_scanToken_93 : decode cX8_scanToken 93 = .ok (.iload_n 1, 1) := kd_27 (by decide +kernel)
theorem dX8_scanToken_94 : decode cX8_scanToken 94 = .ok (.isub, 1) := kd_100 (by decide +kernel)
theorem dX8_scanToken_95 : decode cX8_scanToken 95 = .ok (.iconst 1, 1) := kd_4 (by decide +kernel)
theorem dX8_scanToken_96 : decode cX8_scanToken 96 = .ok (.if_icmp .ne 10, 3) := kd_160 (a := 0) (b := 10) (by decide +kernel)
theorem dX8_scanToken_106 : decode cX8_scanToken 106 = .ok (.iload_n 2, 1) := kd_28 (by decide +kernel)
theorem dX8_scanToken_107 : decode cX8_scanToken 107 = .ok (.bipush 48, 2) := kd_16 (a := 48) (by decide +kernel)
theorem dX8_scanToken_109 : decode cX8_scanToken 109 = .ok (.isub, 1) := kd_100 (by decide +kernel)
theorem dX8_scanToken_110 : decode cX8_scanToken 110 = .ok (.bipush 10, 2) := kd_16 (a := 10) (by decide +kernel)
theorem dX8_scanToken_112 : decode cX8_scanToken 112 = .ok (.imul, 1) := kd_104 (by decide +kernel)
theorem dX8_scanToken_113 : decode cX8_scanToken 113 = .ok (.aload_n 0, 1) := kd_42 (by decide +kernel)
theorem dX8_scanToken_114 : decode cX8_scanToken 114 = .ok (.getfield 9, 3) := kd_180 (a := 0) (b := 9) (by decide +kernel)
theorem dX8_scanToken_117 : decode cX8_scanToken 117 = .ok (.iload_n 3, 1) := kd_29 (by decide +kernel)
theorem dX8_scanToken_118 : decode cX8_scanToken 118 = .ok (.iconst 1, 1) := kd_4 (by decide +kernel)
theorem dX8_scanToken_119 : decode cX8_scanToken 119 = .ok (.isub, 1) := kd_100 (by decide +kernel)
theorem dX8_scanToken_120 : decode cX8_scanToken 120 = .ok (.iaload, 1) := kd_46 (by decide +kernel)
theorem dX8_scanToken_121 : decode cX8_scanToken 121 = .ok (.iadd, 1) := kd_96 (by decide +kernel)
theorem dX8_scanToken_122 : decode cX8_scanToken 122 = .ok (.bipush 48, 2) := kd_16 (a := 48) (by decide +kernel)
theorem dX8_scanToken_124 : decode cX8_scanToken 124 = .ok (.isub, 1) := kd_100 (by decide +kernel)
theorem dX8_scanToken_99 : decode cX8_scanToken 99 = .ok (.iload_n 2, 1) := kd_28 (by decide +kernel)
theorem dX8_scanToken_100 : decode cX8_scanToken 100 = .ok (.bipush 48, 2) := kd_16 (a := 48) (by decide +kernel)
theorem dX8_scanToken_102 : decode cX8_scanToken 102 = .ok (.isub, 1) := kd_100 (by decide +kernel)
theorem dX8_scanToken_103 : decode cX8_scanToken 103 = .ok (.goto 22, 3) := kd_167 (a := 0) (b := 22) (by decide +kernel)
theorem dX8_scanToken_125 : decode cX8_scanToken 125 = .ok (.istore 4, 2) := kd_54 (a := 4) (by decide +kernel)
theorem dX8_scanToken_127 : decode cX8_scanToken 127 = .ok (.aload_n 0, 1) := kd_42 (by decide +kernel)
theorem dX8_scanToken_128 : decode cX8_scanToken 128 = .ok (.iload_n 3, 1) := kd_29 (by decide +kernel)
theorem dX8_scanToken_129 : decode cX8_scanToken 129 = .ok (.iload_n 1, 1) := kd_27 (by decide +kernel)
theorem dX8_scanToken_130 : decode cX8_scanToken 130 = .ok (.isub, 1) := kd_100 (by decide +kernel)
theorem dX8_scanToken_131 : decode cX8_scanToken 131 = .ok (.iconst 2, 1) := kd_5 (by decide +kernel)
theorem dX8_scanToken_132 : decode cX8_scanToken 132 = .ok (.if_icmp .gt 7, 3) := kd_163 (a := 0) (b := 7) (by decide +kernel)
theorem dX8_scanToken_139 : decode cX8_scanToken 139 = .ok (.iconst 3, 1) := kd_6 (by decide +kernel)
theorem dX8_scanToken_135 : decode cX8_scanToken 135 = .ok (.iconst 2, 1) := kd_5 (by decide +kernel)
theorem dX8_scanToken_136 : decode cX8_scanToken 136 = .ok (.goto 4, 3) := kd_167 (a := 0) (b := 4) (by decide +kernel)
theorem dX8_scanToken_140 : decode cX8_scanToken 140 = .ok (.iload_n 1, 1) := kd_27 (by decide +kernel)
theorem dX8_scanToken_141 : decode cX8_scanToken 141 = .ok (.iload 4, 2) := kd_21 (a := 4) (by decide +kernel)
theorem dX8_scanToken_143 : decode cX8_scanToken 143 = .ok (.invokevirtual 35, 3) := kd_182 (a := 0) (b := 35) (by decide +kernel)
theorem dX8_scanToken_146 : decode cX8_scanToken 146 = .ok (.goto 20, 3) := kd_167 (a := 0) (b := 20) (by decide +kernel)
theorem dX8_scanToken_74 : decode cX8_scanToken 74 = .ok (.aload_n 0, 1) := kd_42 (by decide +kernel)
theorem dX8_scanToken_75 : decode cX8_scanToken 75 = .ok (.getfield 9, 3) := kd_180 (a := 0) (b := 9) (by decide +kernel)
theorem dX8_scanToken_78 : decode cX8_scanToken 78 = .ok (.iload_n 3, 1) := kd_29 (by decide +kernel)
theorem dX8_scanToken_79 : decode cX8_scanToken 79 = .ok (.iaload, 1) := kd_46 (by decide +kernel)
theorem dX8_scanToken_80 : decode cX8_scanToken 80 = .ok (.invokestatic 47, 3) := kd_184 (a := 0) (b := 47) (by decide +kernel)
theorem dX8_scanToken_83 : decode cX8_scanToken 83 = .ok (.ifCond .eq 9, 3) := kd_153 (a := 0) (b := 9) (by decide +kernel)
theorem dX8_scanToken_86 : decode cX8_scanToken 86 = .ok (.iinc 3 1, 3) := kd_132 (a := 3) (b := 1) (by decide +kernel)
theorem dX8_scanToken_89 : decode cX8_scanToken 89 = .ok (.goto (-23), 3) := kd_167 (a := 255) (b := 233) (by decide +kernel)
theorem dX8_scanToken_149 : decode cX8_scanToken 149 = .ok (.aload_n 0, 1) := kd_42 (by decide +kernel)
theorem dX8_scanToken_150 : decode cX8_scanToken 150 = .ok (.iload_n 2, 1) := kd_28 (by decide +kernel)
theorem dX8_scanToken_151 : decode cX8_scanToken 151 = .ok (.bipush 59, 2) := kd_16 (a := 59) (by decide +kernel)
theorem dX8_scanToken_153 : decode cX8_scanToken 153 = .ok (.if_icmp .ne 7, 3) := kd_160 (a := 0) (b := 7) (by decide +kernel)
theorem dX8_scanToken_160 : decode cX8_scanToken 160 = .ok (.iconst 3, 1) := kd_6 (by decide +kernel)
theorem dX8_scanToken_156 : decode cX8_scanToken 156 = .ok (.iconst 1, 1) := kd_4 (by decide +kernel)
theorem dX8_scanToken_157 : decode cX8_scanToken 157 = .ok (.goto 4, 3) := kd_167 (a := 0) (b := 4) (by decide +kernel)
theorem dX8_scanToken_161 : decode cX8_scanToken 161 = .ok (.iload_n 1, 1) := kd_27 (by decide +kernel)
theorem dX8_scanToken_162 : decode cX8_scanToken 162 = .ok (.iconst 0, 1) := kd_3 (by decide +kernel)
theorem dX8_scanToken_163 : decode cX8_scanToken 163 = .ok (.invokevirtual 35, 3) := kd_182 (a := 0) (b := 35) (by decide +kernel)
set_option maxHeartbeats 8000000 in
set_option maxRecDepth 100000 in
theorem c_X8_scanToken (l : Launch) (G : gG) (t0 : Nat) (x_bytes : Nat) (x_sorts : Nat) (x_starts : Nat) (x_values : Nat) (x_length : Int) (x_tokens : Int) (xb : Nat → Int) (xs : Nat → Int) (xa : Nat → Int) (xv : Nat → Int) (f0 : Int) (y0_ : bd 0 127 xb) (y1_ : bd 0 10 xs) (y2_ : bd 0 150 xa) (y3_ : bd (-1000) 3000 xv) (y4_ : 0 ≤ x_length ∧ x_length ≤ 150) (y5_ : 0 ≤ x_tokens ∧ x_tokens ≤ 151) (hf : 0 ≤ f0 ∧ f0 < x_length) (ht : x_tokens ≤ 150) (sz : Nat) : gI G l yX8_scanToken wsX8_scanToken ({ frames := 6, cells := 0, slots := 0, locals := 131 } : Room) [.ref t0, .int (iI f0)] [oB7 t0 x_bytes x_sorts x_starts x_values x_length x_tokens, iB G x_bytes 150 xb, iB G x_sorts 151 xs, iB G x_starts 151 xa, iB G x_values 151 xv] sz (fun (r : Int32) (u : va_W) => (∃ rr : Int, ∃ ss : Int, ∃ vv : Int, (tkb xb x_length f0 ss rr vv) ∧ (f0 < rr ∧ rr ≤ x_length) ∧ (bd 0 10 (uI xs (x_tokens.toNat) ss)) ∧ (bd 0 150 (uI xa (x_tokens.toNat) f0)) ∧ (bd (-1000) 3000 (uI xv (x_tokens.toNat) vv)) ∧ r = (iI rr) ∧ u = [oB7 t0 x_bytes x_sorts x_starts x_values x_length (x_tokens + 1), iB G x_bytes 150 xb, iB G x_sorts 151 (uI xs (x_tokens.toNat) ss), iB G x_starts 151 (uI xa (x_tokens.toNat) f0), iB G x_values 151 (uI xv (x_tokens.toNat) vv)])) := by
  refine Met.ofW (cc := cX8_scanToken) (maxL := 5) (ret := (some .int)) (by decide) rfl ?_
  intro p e s m args below meth c s₁ B hml hv
  obtain ⟨rfl, hsz, hP, hK, hD0, hN, hZ⟩ := hv
  have hx := B.exec
  have hb := B.bytes
  have hr := B.returns
  have hts := atoms_spec (ws := wsX8_scanToken) B.pre
  have hown : s.vm.findClass RX8 = some m.cls := findClass_of_methodNamed B.named
  have hlocks := B.notSynchronized
  subst hsz
  have hD := hD0.self (sz := s.heap.size)
  generalize hAe : va_A [oB7 t0 x_bytes x_sorts x_starts x_values x_length x_tokens, iB G x_bytes 150 xb, iB G x_sorts 151 xs, iB G x_starts 151 xa, iB G x_values 151 xv] s.heap.size = A at hD hZ ⊢
  have hA : ∀ q : Nat, s.heap.size ≤ q → A q := fun q h => by rw [← hAe]; exact Or.inr h
  have hS : va_S A s.heap s.heap [] := va_S.rf
  have hP : va_P G.1 vwCl [oB7 t0 x_bytes x_sorts x_starts x_values x_length x_tokens, iB G x_bytes 150 xb, iB G x_sorts 151 xs, iB G x_starts 151 xa, iB G x_values 151 xv] s.heap := hP
  have hl := lv_entry ([.ref t0, .int (iI f0)]) (n := 5) (Nat.le_of_ble_eq_true rfl)
  rw [lg_entry_eq]
  generalize (lg_sl ([.ref t0, .int (iI f0)]) ++ List.replicate (5 - (lg_sl ([.ref t0, .int (iI f0)])).length) Slot.unset).toArray = ls at hl ⊢
  have hl : lv_has ls 5 [(0, .ref t0), (1, .int (iI f0))] := hl
  refine lv_aload_n hx hb dX8_scanToken_0 rfl (lv_at hl 0 rfl) ?_
  refine va_get (D := G.1) (ci := 7) (v := .ref x_bytes) (C := RX8) (T := TX8) (N := 6) hx hb hts (fun _ h => List.mem_cons_of_mem _ (inlX8 _ h)) hown hK hP 0 rfl rfl 0 (by decide) (hts _ (List.mem_cons_of_mem _ (in_r4 (List.mem_of_getElem? (i := 20) rfl)))) (fun _ h9 => h9) rfl dX8_scanToken_1 ?_
  refine lv_iload_n hx hb dX8_scanToken_4 rfl (lv_at hl 1 rfl) ?_
  refine g_ild hx hb hK hP 1 rfl (by omega) (by omega) (by first | exact Nat.le_of_ble_eq_true rfl | omega) dX8_scanToken_5 (fun w_1 ew_1 => ?_)
  have ew_1 : xb (f0.toNat) = w_1 := ew_1
  subst ew_1
  have b0w_1 := y0_ (f0.toNat)
  refine lv_istore_n (lv' := [(2, .int (iI (xb (f0.toNat)))), (0, .ref t0), (1, .int (iI f0))]) hx hb dX8_scanToken_6 rfl hl (by decide) rfl (fun ls hl => ?_)
  refine lv_iload_n hx hb dX8_scanToken_7 rfl (lv_at hl 2 rfl) ?_
  refine lv_iconst (v := iI 1) hx hb dX8_scanToken_8 rfl ?_
  refine lv_iadd hx hb dX8_scanToken_9 ?_
  refine g_topi (y := iI (f0 + 1)) (iI_add f0 1) ?_
  refine lv_istore_n (lv' := [(3, .int (iI (f0 + 1))), (2, .int (iI (xb (f0.toNat)))), (0, .ref t0), (1, .int (iI f0))]) hx hb dX8_scanToken_10 rfl hl (by decide) rfl (fun ls hl => ?_)
  refine lv_iload_n hx hb dX8_scanToken_11 rfl (lv_at hl 1 rfl) ?_
  refine g_calli (wr := [oB7 t0 x_bytes x_sorts x_starts x_values x_length x_tokens, iB G x_bytes 150 xb, iB G x_sorts 151 xs, iB G x_starts 151 xa, iB G x_values 151 xv]) (va_runS (As := [.int (iI (xb (f0.toNat)))]) (rest := []) ⟨hx, hb, hml, hown, hts⟩ (c_X8_isLetter l G ((xb (f0.toNat))) (by first | assumption | omega) _) (va_cwS 1 hts gX8_scanToken_X8_isLetter rfl rfl rfl (by decide +kernel) ⟨Nat.le_of_ble_eq_true rfl, Nat.le_of_ble_eq_true rfl⟩) (g_preS [.int (iI (xb (f0.toNat)))] hP hD hK hN hS hA hZ [] rfl rfl) rfl rfl hl.1 rfl (lv_room (Nat.le_of_ble_eq_true rfl)) dX8_scanToken_12 ⟨Nat.le_of_ble_eq_true rfl, Nat.le_of_ble_eq_true rfl⟩) hP hD hS hA [] [0, 1, 2, 3, 4] rfl rfl rfl (by decide) (fun r_2 u H locs hw hP hD hS => ?_)
  rcases hw with ⟨k_3, rfl, rfl⟩ | ⟨k_4, rfl, rfl⟩
  · have hPD : PD G A H [oB7 t0 x_bytes x_sorts x_starts x_values x_length x_tokens, iB G x_bytes 150 xb, iB G x_sorts 151 xs, iB G x_starts 151 xa, iB G x_values 151 xv] := ⟨hP, hD⟩
    have hP := hPD.1
    have hD := hPD.2
    clear hPD
    refine lv_if_eq (tgt := 59) hx hb dX8_scanToken_15 (by decide) (fun c_5 => g_no c_5 (by decide)) (fun _ => ?_)
    refine g_loopN (pc := 18) (fun nn H locs ls => ∃ k0_6 : Int, (f0 + 1 ≤ k0_6 ∧ k0_6 ≤ x_length) ∧ (fr xb 97 122 f0 k0_6) ∧ (151 - k0_6).toNat = nn ∧ va_P G.1 vwCl [oB7 t0 x_bytes x_sorts x_starts x_values x_length x_tokens, iB G x_bytes 150 xb, iB G x_sorts 151 xs, iB G x_starts 151 xa, iB G x_values 151 xv] H ∧ va_D A [oB7 t0 x_bytes x_sorts x_starts x_values x_length x_tokens, iB G x_bytes 150 xb, iB G x_sorts 151 xs, iB G x_starts 151 xa, iB G x_values 151 xv] ∧ va_S A s.heap H locs ∧ lv_has ls 5 [(3, .int (iI k0_6)), (2, .int (iI (xb (f0.toNat)))), (0, .ref t0), (1, .int (iI f0))]) ?_ ⟨(f0 + 1), (by first | assumption | omega), (fr_1 (by omega)), rfl, hP, hD, hS, lv_sub hl [0, 1, 2, 3] rfl⟩
    intro nn_10 H locs ls ih_9 hI
    refine ea_1_7 hI (fun k0_6 f_7 f_8 hnn_11 hP hD hS hl => ?_)
    clear hI
    refine lv_iload_n hx hb dX8_scanToken_18 rfl (lv_at hl 0 rfl) ?_
    refine lv_aload_n hx hb dX8_scanToken_19 rfl (lv_at hl 2 rfl) ?_
    refine va_get (D := G.1) (ci := 7) (v := .int (iI x_length)) (C := RX8) (T := TX8) (N := 6) hx hb hts (fun _ h => List.mem_cons_of_mem _ (inlX8 _ h)) hown hK hP 0 rfl rfl 4 (by decide) (hts _ (List.mem_cons_of_mem _ (in_r11 (List.mem_of_getElem? (i := 1) rfl)))) (fun _ h9 => h9) rfl dX8_scanToken_20 ?_
    refine lv_icmp_ge (tgt := 44) hx hb dX8_scanToken_23 (by decide) (fun c_12 => ?_) (fun c_12 => ?_)
    · have c_12 := (iI_le (a := x_length) (b := k0_6) (by omega) (by omega)).mp c_12
      refine lv_aload_n hx hb dX8_scanToken_44 rfl (lv_at hl 2 rfl) ?_
      refine lv_aload_n hx hb dX8_scanToken_45 rfl (lv_at hl 2 rfl) ?_
      refine lv_iload_n hx hb dX8_scanToken_46 rfl (lv_at hl 3 rfl) ?_
      refine lv_iload_n hx hb dX8_scanToken_47 rfl (lv_at hl 0 rfl) ?_
      refine g_calli (wr := [iB G x_sorts 151 xs, iB G x_starts 151 xa, iB G x_values 151 xv]) (va_runV (As := [.int (iI f0), .int (iI k0_6)]) (rest := [.ref t0]) ⟨hx, hb, hml, hown, hts⟩ (c_X8_wordThere l G (t0) (x_bytes) (x_sorts) (x_starts) (x_values) (x_length) (x_tokens) (xb) (f0) (k0_6) (by first | exact y0_ | exact bd_mono y0_ (by omega) (by omega) | assumption) (by first | assumption | omega) (by first | assumption | omega) _) (cwV 2 hts gX8_scanToken_X8_wordThere rfl rfl rfl (by decide +kernel) ⟨Nat.le_of_ble_eq_true rfl, Nat.le_of_ble_eq_true rfl⟩) (g_preV t0 [.int (iI f0), .int (iI k0_6)] hP hD hK hN hS hA hZ [0, 1] rfl rfl 0 (ci := 7) rfl rfl) rfl rfl hl.1 rfl (lv_room (Nat.le_of_ble_eq_true rfl)) dX8_scanToken_48 ⟨Nat.le_of_ble_eq_true rfl, Nat.le_of_ble_eq_true rfl⟩) hP hD hS hA [0, 1] [2, 3, 4] rfl rfl rfl (by decide) (fun r_13 u H locs hw hP hD hS => ?_)
      refine ea_1_4 hw (fun rr_14 k_15 k_16 e8_0 e8_1 => ?_)
      subst e8_0
      subst e8_1
      clear hw
      have hPD : PD G A H [iB G x_sorts 151 xs, iB G x_starts 151 xa, iB G x_values 151 xv, oB7 t0 x_bytes x_sorts x_starts x_values x_length x_tokens, iB G x_bytes 150 xb] := ⟨hP, hD⟩
      have hP := hPD.1
      have hD := hPD.2
      clear hPD
      refine lv_iload_n hx hb dX8_scanToken_51 rfl (lv_at hl 3 rfl) ?_
      refine lv_iconst (v := iI 0) hx hb dX8_scanToken_52 rfl ?_
      refine g_callv (wr := [iB G x_bytes 150 xb]) (va_runV (As := [.int (iI rr_14), .int (iI f0), .int (iI 0)]) (rest := []) ⟨hx, hb, hml, hown, hts⟩ (c_X8_addToken l G (t0) (x_bytes) (x_sorts) (x_starts) (x_values) (x_length) (x_tokens) (xs) (xa) (xv) (rr_14) (f0) (0) (by first | exact y1_ | exact bd_mono y1_ (by omega) (by omega) | assumption) (by first | exact y2_ | exact bd_mono y2_ (by omega) (by omega) | assumption) (by first | exact y3_ | exact bd_mono y3_ (by omega) (by omega) | assumption) (by first | exact y4_ | assumption | omega) (by first | exact y5_ | assumption | omega) (by first | exact ht | assumption | omega) (by first | exact k_16 | assumption | omega) (by first | assumption | omega) (by first | assumption | omega) _) (cwV 3 hts gX8_scanToken_X8_addToken rfl rfl rfl (by decide +kernel) ⟨Nat.le_of_ble_eq_true rfl, Nat.le_of_ble_eq_true rfl⟩) (g_preV t0 [.int (iI rr_14), .int (iI f0), .int (iI 0)] hP hD hK hN hS hA hZ [3, 0, 1, 2] rfl rfl 3 (ci := 7) rfl rfl) rfl rfl hl.1 rfl (lv_room (Nat.le_of_ble_eq_true rfl)) dX8_scanToken_53 ⟨Nat.le_of_ble_eq_true rfl, Nat.le_of_ble_eq_true rfl⟩) hP hD hS hA [3, 0, 1, 2] [4] rfl rfl rfl (by decide) (fun u H locs hw hP hD hS => ?_)
      refine ea_0_4 hw (fun k_17 k_18 k_19 e8_0 => ?_)
      subst e8_0
      clear hw
      have hPD : PD G A H [iB G x_bytes 150 xb, oB7 t0 x_bytes x_sorts x_starts x_values x_length (x_tokens + 1), iB G x_sorts 151 (uI xs (x_tokens.toNat) rr_14), iB G x_starts 151 (uI xa (x_tokens.toNat) f0), iB G x_values 151 (uI xv (x_tokens.toNat) 0)] := ⟨hP, hD⟩
      have hP := hPD.1
      have hD := hPD.2
      clear hPD
      refine lv_goto (tgt := 166) hx hb dX8_scanToken_56 (by decide) ?_
      refine lv_iload_n hx hb dX8_scanToken_166 rfl (lv_at hl 0 rfl) ?_
      have hP := hP.sub (ws' := [oB7 t0 x_bytes x_sorts x_starts x_values x_length (x_tokens + 1), iB G x_bytes 150 xb, iB G x_sorts 151 (uI xs (x_tokens.toNat) rr_14), iB G x_starts 151 (uI xa (x_tokens.toNat) f0), iB G x_values 151 (uI xv (x_tokens.toNat) 0)]) [1, 0, 2, 3, 4] rfl
      have hD := hD.sub (ws' := [oB7 t0 x_bytes x_sorts x_starts x_values x_length (x_tokens + 1), iB G x_bytes 150 xb, iB G x_sorts 151 (uI xs (x_tokens.toNat) rr_14), iB G x_starts 151 (uI xa (x_tokens.toNat) f0), iB G x_values 151 (uI xv (x_tokens.toNat) 0)]) [1, 0, 2, 3, 4] rfl rfl
      exact g_iret (v := (iI k0_6)) hx hb hr hlocks hP hD hS (⟨k0_6, rr_14, 0, (tkb_w (by omega) (by assumption) (by omega) (fun q9 => by first | assumption | (exfalso; omega)) (by assumption)), (by first | assumption | omega), (by first | exact k_17 | exact bd_mono k_17 (by omega) (by omega) | assumption), (by first | exact k_18 | exact bd_mono k_18 (by omega) (by omega) | assumption), (by first | exact k_19 | exact bd_mono k_19 (by omega) (by omega) | assumption), rfl, rfl⟩) dX8_scanToken_167
    · have c_12 : ¬ (x_length ≤ k0_6) := fun h9 => c_12 ((iI_le (a := x_length) (b := k0_6) (by omega) (by omega)).mpr h9)
      refine lv_aload_n hx hb dX8_scanToken_26 rfl (lv_at hl 2 rfl) ?_
      refine va_get (D := G.1) (ci := 7) (v := .ref x_bytes) (C := RX8) (T := TX8) (N := 6) hx hb hts (fun _ h => List.mem_cons_of_mem _ (inlX8 _ h)) hown hK hP 0 rfl rfl 0 (by decide) (hts _ (List.mem_cons_of_mem _ (in_r4 (List.mem_of_getElem? (i := 20) rfl)))) (fun _ h9 => h9) rfl dX8_scanToken_27 ?_
      refine lv_iload_n hx hb dX8_scanToken_30 rfl (lv_at hl 0 rfl) ?_
      refine g_ild hx hb hK hP 1 rfl (by omega) (by omega) (by first | exact Nat.le_of_ble_eq_true rfl | omega) dX8_scanToken_31 (fun w_20 ew_20 => ?_)
      have ew_20 : xb (k0_6.toNat) = w_20 := ew_20
      subst ew_20
      have b0w_20 := y0_ (k0_6.toNat)
      refine g_calli (wr := [oB7 t0 x_bytes x_sorts x_starts x_values x_length x_tokens, iB G x_bytes 150 xb, iB G x_sorts 151 xs, iB G x_starts 151 xa, iB G x_values 151 xv]) (va_runS (As := [.int (iI (xb (k0_6.toNat)))]) (rest := []) ⟨hx, hb, hml, hown, hts⟩ (c_X8_isLetter l G ((xb (k0_6.toNat))) (by first | assumption | omega) _) (va_cwS 1 hts gX8_scanToken_X8_isLetter rfl rfl rfl (by decide +kernel) ⟨Nat.le_of_ble_eq_true rfl, Nat.le_of_ble_eq_true rfl⟩) (g_preS [.int (iI (xb (k0_6.toNat)))] hP hD hK hN hS hA hZ [] rfl rfl) rfl rfl hl.1 rfl (lv_room (Nat.le_of_ble_eq_true rfl)) dX8_scanToken_32 ⟨Nat.le_of_ble_eq_true rfl, Nat.le_of_ble_eq_true rfl⟩) hP hD hS hA [] [0, 1, 2, 3, 4] rfl rfl rfl (by decide) (fun r_21 u H locs hw hP hD hS => ?_)
      rcases hw with ⟨k_22, rfl, rfl⟩ | ⟨k_23, rfl, rfl⟩
      · have hPD : PD G A H [oB7 t0 x_bytes x_sorts x_starts x_values x_length x_tokens, iB G x_bytes 150 xb, iB G x_sorts 151 xs, iB G x_starts 151 xa, iB G x_values 151 xv] := ⟨hP, hD⟩
        have hP := hPD.1
        have hD := hPD.2
        clear hPD
        refine lv_if_eq (tgt := 44) hx hb dX8_scanToken_35 (by decide) (fun c_24 => g_no c_24 (by decide)) (fun _ => ?_)
        refine lv_iinc (v := iI (k0_6 + 1)) (lv' := [(3, .int (iI (k0_6 + 1))), (2, .int (iI (xb (f0.toNat)))), (0, .ref t0), (1, .int (iI f0))]) hx hb dX8_scanToken_38 hl (k := 0) rfl (iI_add k0_6 1) (by decide) rfl (fun ls hl => ?_)
        refine lv_goto (tgt := 18) hx hb dX8_scanToken_41 (by decide) ?_
        exact ih_9 _ _ _ _ (by omega) ⟨(k0_6 + 1), (by first | assumption | omega), (fr_s (by assumption) (by omega)), rfl, hP, hD, hS, lv_sub hl [0, 1, 2, 3] rfl⟩
      · have hPD : PD G A H [oB7 t0 x_bytes x_sorts x_starts x_values x_length x_tokens, iB G x_bytes 150 xb, iB G x_sorts 151 xs, iB G x_starts 151 xa, iB G x_values 151 xv] := ⟨hP, hD⟩
        have hP := hPD.1
        have hD := hPD.2
        clear hPD
        refine lv_if_eq (tgt := 44) hx hb dX8_scanToken_35 (by decide) (fun _ => ?_) (fun c_25 => g_no (by decide) c_25)
        refine lv_aload_n hx hb dX8_scanToken_44 rfl (lv_at hl 2 rfl) ?_
        refine lv_aload_n hx hb dX8_scanToken_45 rfl (lv_at hl 2 rfl) ?_
        refine lv_iload_n hx hb dX8_scanToken_46 rfl (lv_at hl 3 rfl) ?_
        refine lv_iload_n hx hb dX8_scanToken_47 rfl (lv_at hl 0 rfl) ?_
        refine g_calli (wr := [iB G x_sorts 151 xs, iB G x_starts 151 xa, iB G x_values 151 xv]) (va_runV (As := [.int (iI f0), .int (iI k0_6)]) (rest := [.ref t0]) ⟨hx, hb, hml, hown, hts⟩ (c_X8_wordThere l G (t0) (x_bytes) (x_sorts) (x_starts) (x_values) (x_length) (x_tokens) (xb) (f0) (k0_6) (by first | exact y0_ | exact bd_mono y0_ (by omega) (by omega) | assumption) (by first | assumption | omega) (by first | assumption | omega) _) (cwV 2 hts gX8_scanToken_X8_wordThere rfl rfl rfl (by decide +kernel) ⟨Nat.le_of_ble_eq_true rfl, Nat.le_of_ble_eq_true rfl⟩) (g_preV t0 [.int (iI f0), .int (iI k0_6)] hP hD hK hN hS hA hZ [0, 1] rfl rfl 0 (ci := 7) rfl rfl) rfl rfl hl.1 rfl (lv_room (Nat.le_of_ble_eq_true rfl)) dX8_scanToken_48 ⟨Nat.le_of_ble_eq_true rfl, Nat.le_of_ble_eq_true rfl⟩) hP hD hS hA [0, 1] [2, 3, 4] rfl rfl rfl (by decide) (fun r_26 u H locs hw hP hD hS => ?_)
        refine ea_1_4 hw (fun rr_27 k_28 k_29 e8_0 e8_1 => ?_)
        subst e8_0
        subst e8_1
        clear hw
        have hPD : PD G A H [iB G x_sorts 151 xs, iB G x_starts 151 xa, iB G x_values 151 xv, oB7 t0 x_bytes x_sorts x_starts x_values x_length x_tokens, iB G x_bytes 150 xb] := ⟨hP, hD⟩
        have hP := hPD.1
        have hD := hPD.2
        clear hPD
        refine lv_iload_n hx hb dX8_scanToken_51 rfl (lv_at hl 3 rfl) ?_
        refine lv_iconst (v := iI 0) hx hb dX8_scanToken_52 rfl ?_
        refine g_callv (wr := [iB G x_bytes 150 xb]) (va_runV (As := [.int (iI rr_27), .int (iI f0), .int (iI 0)]) (rest := []) ⟨hx, hb, hml, hown, hts⟩ (c_X8_addToken l G (t0) (x_bytes) (x_sorts) (x_starts) (x_values) (x_length) (x_tokens) (xs) (xa) (xv) (rr_27) (f0) (0) (by first | exact y1_ | exact bd_mono y1_ (by omega) (by omega) | assumption) (by first | exact y2_ | exact bd_mono y2_ (by omega) (by omega) | assumption) (by first | exact y3_ | exact bd_mono y3_ (by omega) (by omega) | assumption) (by first | exact y4_ | assumption | omega) (by first | exact y5_ | assumption | omega) (by first | exact ht | assumption | omega) (by first | exact k_29 | assumption | omega) (by first | assumption | omega) (by first | assumption | omega) _) (cwV 3 hts gX8_scanToken_X8_addToken rfl rfl rfl (by decide +kernel) ⟨Nat.le_of_ble_eq_true rfl, Nat.le_of_ble_eq_true rfl⟩) (g_preV t0 [.int (iI rr_27), .int (iI f0), .int (iI 0)] hP hD hK hN hS hA hZ [3, 0, 1, 2] rfl rfl 3 (ci := 7) rfl rfl) rfl rfl hl.1 rfl (lv_room (Nat.le_of_ble_eq_true rfl)) dX8_scanToken_53 ⟨Nat.le_of_ble_eq_true rfl, Nat.le_of_ble_eq_true rfl⟩) hP hD hS hA [3, 0, 1, 2] [4] rfl rfl rfl (by decide) (fun u H locs hw hP hD hS => ?_)
        refine ea_0_4 hw (fun k_30 k_31 k_32 e8_0 => ?_)
        subst e8_0
        clear hw
        have hPD : PD G A H [iB G x_bytes 150 xb, oB7 t0 x_bytes x_sorts x_starts x_values x_length (x_tokens + 1), iB G x_sorts 151 (uI xs (x_tokens.toNat) rr_27), iB G x_starts 151 (uI xa (x_tokens.toNat) f0), iB G x_values 151 (uI xv (x_tokens.toNat) 0)] := ⟨hP, hD⟩
        have hP := hPD.1
        have hD := hPD.2
        clear hPD
        refine lv_goto (tgt := 166) hx hb dX8_scanToken_56 (by decide) ?_
        refine lv_iload_n hx hb dX8_scanToken_166 rfl (lv_at hl 0 rfl) ?_
        have hP := hP.sub (ws' := [oB7 t0 x_bytes x_sorts x_starts x_values x_length (x_tokens + 1), iB G x_bytes 150 xb, iB G x_sorts 151 (uI xs (x_tokens.toNat) rr_27), iB G x_starts 151 (uI xa (x_tokens.toNat) f0), iB G x_values 151 (uI xv (x_tokens.toNat) 0)]) [1, 0, 2, 3, 4] rfl
        have hD := hD.sub (ws' := [oB7 t0 x_bytes x_sorts x_starts x_values x_length (x_tokens + 1), iB G x_bytes 150 xb, iB G x_sorts 151 (uI xs (x_tokens.toNat) rr_27), iB G x_starts 151 (uI xa (x_tokens.toNat) f0), iB G x_values 151 (uI xv (x_tokens.toNat) 0)]) [1, 0, 2, 3, 4] rfl rfl
        exact g_iret (v := (iI k0_6)) hx hb hr hlocks hP hD hS (⟨k0_6, rr_27, 0, (tkb_w (by omega) (by assumption) (by omega) (fun q9 => by first | assumption | (exfalso; omega)) (by assumption)), (by first | assumption | omega), (by first | exact k_30 | exact bd_mono k_30 (by omega) (by omega) | assumption), (by first | exact k_31 | exact bd_mono k_31 (by omega) (by omega) | assumption), (by first | exact k_32 | exact bd_mono k_32 (by omega) (by omega) | assumption), rfl, rfl⟩) dX8_scanToken_167
  · have hPD : PD G A H [oB7 t0 x_bytes x_sorts x_starts x_values x_length x_tokens, iB G x_bytes 150 xb, iB G x_sorts 151 xs, iB G x_starts 151 xa, iB G x_values 151 xv] := ⟨hP, hD⟩
    have hP := hPD.1
    have hD := hPD.2
    clear hPD
    refine lv_if_eq (tgt := 59) hx hb dX8_scanToken_15 (by decide) (fun _ => ?_) (fun c_33 => g_no (by decide) c_33)
    refine lv_iload_n hx hb dX8_scanToken_59 rfl (lv_at hl 1 rfl) ?_
    refine g_calli (wr := [oB7 t0 x_bytes x_sorts x_starts x_values x_length x_tokens, iB G x_bytes 150 xb, iB G x_sorts 151 xs, iB G x_starts 151 xa, iB G x_values 151 xv]) (va_runS (As := [.int (iI (xb (f0.toNat)))]) (rest := []) ⟨hx, hb, hml, hown, hts⟩ (c_X8_isFigure l G ((xb (f0.toNat))) (by first | assumption | omega) _) (va_cwS 1 hts gX8_scanToken_X8_isFigure rfl rfl rfl (by decide +kernel) ⟨Nat.le_of_ble_eq_true rfl, Nat.le_of_ble_eq_true rfl⟩) (g_preS [.int (iI (xb (f0.toNat)))] hP hD hK hN hS hA hZ [] rfl rfl) rfl rfl hl.1 rfl (lv_room (Nat.le_of_ble_eq_true rfl)) dX8_scanToken_60 ⟨Nat.le_of_ble_eq_true rfl, Nat.le_of_ble_eq_true rfl⟩) hP hD hS hA [] [0, 1, 2, 3, 4] rfl rfl rfl (by decide) (fun r_34 u H locs hw hP hD hS => ?_)
    rcases hw with ⟨k_35, rfl, rfl⟩ | ⟨k_36, rfl, rfl⟩
    · have hPD : PD G A H [oB7 t0 x_bytes x_sorts x_starts x_values x_length x_tokens, iB G x_bytes 150 xb, iB G x_sorts 151 xs, iB G x_starts 151 xa, iB G x_values 151 xv] := ⟨hP, hD⟩
      have hP := hPD.1
      have hD := hPD.2
      clear hPD
      refine lv_if_eq (tgt := 149) hx hb dX8_scanToken_63 (by decide) (fun c_37 => g_no c_37 (by decide)) (fun _ => ?_)
      refine g_loopN (pc := 66) (fun nn H locs ls => ∃ k0_38 : Int, (f0 + 1 ≤ k0_38 ∧ k0_38 ≤ x_length) ∧ (fr xb 48 57 f0 k0_38) ∧ (151 - k0_38).toNat = nn ∧ va_P G.1 vwCl [oB7 t0 x_bytes x_sorts x_starts x_values x_length x_tokens, iB G x_bytes 150 xb, iB G x_sorts 151 xs, iB G x_starts 151 xa, iB G x_values 151 xv] H ∧ va_D A [oB7 t0 x_bytes x_sorts x_starts x_values x_length x_tokens, iB G x_bytes 150 xb, iB G x_sorts 151 xs, iB G x_starts 151 xa, iB G x_values 151 xv] ∧ va_S A s.heap H locs ∧ lv_has ls 5 [(3, .int (iI k0_38)), (2, .int (iI (xb (f0.toNat)))), (0, .ref t0), (1, .int (iI f0))]) ?_ ⟨(f0 + 1), (by first | assumption | omega), (fr_1 (by omega)), rfl, hP, hD, hS, lv_sub hl [0, 1, 2, 3] rfl⟩
      intro nn_42 H locs ls ih_41 hI
      refine ea_1_7 hI (fun k0_38 f_39 f_40 hnn_43 hP hD hS hl => ?_)
      clear hI
      refine lv_iload_n hx hb dX8_scanToken_66 rfl (lv_at hl 0 rfl) ?_
      refine lv_aload_n hx hb dX8_scanToken_67 rfl (lv_at hl 2 rfl) ?_
      refine va_get (D := G.1) (ci := 7) (v := .int (iI x_length)) (C := RX8) (T := TX8) (N := 6) hx hb hts (fun _ h => List.mem_cons_of_mem _ (inlX8 _ h)) hown hK hP 0 rfl rfl 4 (by decide) (hts _ (List.mem_cons_of_mem _ (in_r11 (List.mem_of_getElem? (i := 1) rfl)))) (fun _ h9 => h9) rfl dX8_scanToken_68 ?_
      refine lv_icmp_ge (tgt := 92) hx hb dX8_scanToken_71 (by decide) (fun c_44 => ?_) (fun c_44 => ?_)
      · have c_44 := (iI_le (a := x_length) (b := k0_38) (by omega) (by omega)).mp c_44
        refine lv_iload_n hx hb dX8_scanToken_92 rfl (lv_at hl 0 rfl) ?_
        refine lv_iload_n hx hb dX8_scanToken_93 rfl (lv_at hl 3 rfl) ?_
        refine lv_isub hx hb dX8_scanToken_94 ?_
        refine g_topi (y := iI (k0_38 - f0)) (iI_sub k0_38 f0) ?_
        refine lv_iconst (v := iI 1) hx hb dX8_scanToken_95 rfl ?_
        refine g_join (jn := 125) (rest := []) (fun t_45 ls => (((k0_38 - f0 = 1 ∧ t_45 = xb f0.toNat - 48) ∨ (¬ (k0_38 - f0 = 1) ∧ t_45 = 10 * (xb f0.toNat - 48) + xb (k0_38 - 1).toNat - 48)) ∧ -1000 ≤ t_45 ∧ t_45 ≤ 3000) ∧ lv_has ls 5 [(3, .int (iI k0_38)), (2, .int (iI (xb (f0.toNat)))), (0, .ref t0), (1, .int (iI f0))]) (fun t_45 ls hI => ?_) (fun hJ_46 => ?_)
        · obtain ⟨f_47, hl⟩ := hI
          refine lv_istore (lv' := [(4, .int (iI t_45)), (3, .int (iI k0_38)), (2, .int (iI (xb (f0.toNat)))), (0, .ref t0), (1, .int (iI f0))]) hx hb dX8_scanToken_125 hl (by decide) rfl (fun ls hl => ?_)
          refine lv_aload_n hx hb dX8_scanToken_127 rfl (lv_at hl 3 rfl) ?_
          refine lv_iload_n hx hb dX8_scanToken_128 rfl (lv_at hl 1 rfl) ?_
          refine lv_iload_n hx hb dX8_scanToken_129 rfl (lv_at hl 4 rfl) ?_
          refine lv_isub hx hb dX8_scanToken_130 ?_
          refine g_topi (y := iI (k0_38 - f0)) (iI_sub k0_38 f0) ?_
          refine lv_iconst (v := iI 2) hx hb dX8_scanToken_131 rfl ?_
          refine g_join (jn := 140) (rest := [.ref t0]) (fun t_48 ls => ((2 < (k0_38 - f0) ∧ t_48 = 3) ∨ (¬ (2 < (k0_38 - f0)) ∧ t_48 = 2)) ∧ lv_has ls 5 [(4, .int (iI t_45)), (3, .int (iI k0_38)), (2, .int (iI (xb (f0.toNat)))), (0, .ref t0), (1, .int (iI f0))]) (fun t_48 ls hI => ?_) (fun hJ_49 => ?_)
          · obtain ⟨f_50, hl⟩ := hI
            refine lv_iload_n hx hb dX8_scanToken_140 rfl (lv_at hl 4 rfl) ?_
            refine lv_iload hx hb dX8_scanToken_141 (lv_at hl 0 rfl) ?_
            refine g_callv (wr := [iB G x_bytes 150 xb]) (va_runV (As := [.int (iI t_48), .int (iI f0), .int (iI t_45)]) (rest := []) ⟨hx, hb, hml, hown, hts⟩ (c_X8_addToken l G (t0) (x_bytes) (x_sorts) (x_starts) (x_values) (x_length) (x_tokens) (xs) (xa) (xv) (t_48) (f0) (t_45) (by first | exact y1_ | exact bd_mono y1_ (by omega) (by omega) | assumption) (by first | exact y2_ | exact bd_mono y2_ (by omega) (by omega) | assumption) (by first | exact y3_ | exact bd_mono y3_ (by omega) (by omega) | assumption) (by first | exact y4_ | assumption | omega) (by first | exact y5_ | assumption | omega) (by first | exact ht | assumption | omega) (by first | assumption | omega) (by first | assumption | omega) (by first | assumption | omega) _) (cwV 3 hts gX8_scanToken_X8_addToken rfl rfl rfl (by decide +kernel) ⟨Nat.le_of_ble_eq_true rfl, Nat.le_of_ble_eq_true rfl⟩) (g_preV t0 [.int (iI t_48), .int (iI f0), .int (iI t_45)] hP hD hK hN hS hA hZ [0, 2, 3, 4] rfl rfl 0 (ci := 7) rfl rfl) rfl rfl hl.1 rfl (lv_room (Nat.le_of_ble_eq_true rfl)) dX8_scanToken_143 ⟨Nat.le_of_ble_eq_true rfl, Nat.le_of_ble_eq_true rfl⟩) hP hD hS hA [0, 2, 3, 4] [1] rfl rfl rfl (by decide) (fun u H locs hw hP hD hS => ?_)
            refine ea_0_4 hw (fun k_51 k_52 k_53 e8_0 => ?_)
            subst e8_0
            clear hw
            have hPD : PD G A H [iB G x_bytes 150 xb, oB7 t0 x_bytes x_sorts x_starts x_values x_length (x_tokens + 1), iB G x_sorts 151 (uI xs (x_tokens.toNat) t_48), iB G x_starts 151 (uI xa (x_tokens.toNat) f0), iB G x_values 151 (uI xv (x_tokens.toNat) t_45)] := ⟨hP, hD⟩
            have hP := hPD.1
            have hD := hPD.2
            clear hPD
            refine lv_goto (tgt := 166) hx hb dX8_scanToken_146 (by decide) ?_
            refine lv_iload_n hx hb dX8_scanToken_166 rfl (lv_at hl 1 rfl) ?_
            have hP := hP.sub (ws' := [oB7 t0 x_bytes x_sorts x_starts x_values x_length (x_tokens + 1), iB G x_bytes 150 xb, iB G x_sorts 151 (uI xs (x_tokens.toNat) t_48), iB G x_starts 151 (uI xa (x_tokens.toNat) f0), iB G x_values 151 (uI xv (x_tokens.toNat) t_45)]) [1, 0, 2, 3, 4] rfl
            have hD := hD.sub (ws' := [oB7 t0 x_bytes x_sorts x_starts x_values x_length (x_tokens + 1), iB G x_bytes 150 xb, iB G x_sorts 151 (uI xs (x_tokens.toNat) t_48), iB G x_starts 151 (uI xa (x_tokens.toNat) f0), iB G x_values 151 (uI xv (x_tokens.toNat) t_45)]) [1, 0, 2, 3, 4] rfl rfl
            exact g_iret (v := (iI k0_38)) hx hb hr hlocks hP hD hS (⟨k0_38, t_48, t_45, (tkb_n (by omega) (by assumption) (by omega) (by omega) (fun q9 => by first | assumption | (exfalso; omega)) (by omega) (by omega)), (by first | assumption | omega), (by first | exact k_51 | exact bd_mono k_51 (by omega) (by omega) | assumption), (by first | exact k_52 | exact bd_mono k_52 (by omega) (by omega) | assumption), (by first | exact k_53 | exact bd_mono k_53 (by omega) (by omega) | assumption), rfl, rfl⟩) dX8_scanToken_167
          · refine lv_icmp_gt (tgt := 139) hx hb dX8_scanToken_132 (by decide) (fun c_54 => ?_) (fun c_54 => ?_)
            · have c_54 := (iI_lt (a := 2) (b := (k0_38 - f0)) (by first | decide | omega) (by omega)).mp c_54
              refine lv_iconst (v := iI 3) hx hb dX8_scanToken_139 rfl ?_
              exact hJ_49 3 ls ⟨by omega, lv_sub hl [0, 1, 2, 3, 4] rfl⟩
            · have c_54 : ¬ (2 < (k0_38 - f0)) := fun h9 => c_54 ((iI_lt (a := 2) (b := (k0_38 - f0)) (by first | decide | omega) (by omega)).mpr h9)
              refine lv_iconst (v := iI 2) hx hb dX8_scanToken_135 rfl ?_
              refine lv_goto (tgt := 140) hx hb dX8_scanToken_136 (by decide) ?_
              exact hJ_49 2 ls ⟨by omega, lv_sub hl [0, 1, 2, 3, 4] rfl⟩
        · refine lv_icmp_ne (tgt := 106) hx hb dX8_scanToken_96 (by decide) (fun c_55 => ?_) (fun c_55 => ?_)
          · have c_55 : ¬ ((k0_38 - f0) = 1) := fun h9 => c_55 ((iI_eq (a := (k0_38 - f0)) (b := 1) (by omega) (by first | decide | omega)).mpr h9)
            refine lv_iload_n hx hb dX8_scanToken_106 rfl (lv_at hl 1 rfl) ?_
            refine lv_bipush (v := iI 48) hx hb dX8_scanToken_107 (by decide) ?_
            refine lv_isub hx hb dX8_scanToken_109 ?_
            refine g_topi (y := iI ((xb (f0.toNat)) - 48)) (iI_sub (xb (f0.toNat)) 48) ?_
            refine lv_bipush (v := iI 10) hx hb dX8_scanToken_110 (by decide) ?_
            refine lv_imul hx hb dX8_scanToken_112 ?_
            refine g_topi (y := iI (((xb (f0.toNat)) - 48) * 10)) (iI_mul ((xb (f0.toNat)) - 48) 10) ?_
            refine lv_aload_n hx hb dX8_scanToken_113 rfl (lv_at hl 2 rfl) ?_
            refine va_get (D := G.1) (ci := 7) (v := .ref x_bytes) (C := RX8) (T := TX8) (N := 6) hx hb hts (fun _ h => List.mem_cons_of_mem _ (inlX8 _ h)) hown hK hP 0 rfl rfl 0 (by decide) (hts _ (List.mem_cons_of_mem _ (in_r4 (List.mem_of_getElem? (i := 20) rfl)))) (fun _ h9 => h9) rfl dX8_scanToken_114 ?_
            refine lv_iload_n hx hb dX8_scanToken_117 rfl (lv_at hl 0 rfl) ?_
            refine lv_iconst (v := iI 1) hx hb dX8_scanToken_118 rfl ?_
            refine lv_isub hx hb dX8_scanToken_119 ?_
            refine g_topi (y := iI (k0_38 - 1)) (iI_sub k0_38 1) ?_
            refine g_ild hx hb hK hP 1 rfl (by omega) (by omega) (by first | exact Nat.le_of_ble_eq_true rfl | omega) dX8_scanToken_120 (fun w_56 ew_56 => ?_)
            have ew_56 : xb ((k0_38 - 1).toNat) = w_56 := ew_56
            subst ew_56
            have b0w_56 := y0_ ((k0_38 - 1).toNat)
            refine lv_iadd hx hb dX8_scanToken_121 ?_
            refine g_topi (y := iI ((((xb (f0.toNat)) - 48) * 10) + (xb ((k0_38 - 1).toNat)))) (iI_add (((xb (f0.toNat)) - 48) * 10) (xb ((k0_38 - 1).toNat))) ?_
            refine lv_bipush (v := iI 48) hx hb dX8_scanToken_122 (by decide) ?_
            refine lv_isub hx hb dX8_scanToken_124 ?_
            refine g_topi (y := iI (((((xb (f0.toNat)) - 48) * 10) + (xb ((k0_38 - 1).toNat))) - 48)) (iI_sub ((((xb (f0.toNat)) - 48) * 10) + (xb ((k0_38 - 1).toNat))) 48) ?_
            exact hJ_46 (((((xb (f0.toNat)) - 48) * 10) + (xb ((k0_38 - 1).toNat))) - 48) ls ⟨by omega, lv_sub hl [0, 1, 2, 3] rfl⟩
          · have c_55 := (iI_eq (a := (k0_38 - f0)) (b := 1) (by omega) (by first | decide | omega)).mp c_55
            refine lv_iload_n hx hb dX8_scanToken_99 rfl (lv_at hl 1 rfl) ?_
            refine lv_bipush (v := iI 48) hx hb dX8_scanToken_100 (by decide) ?_
            refine lv_isub hx hb dX8_scanToken_102 ?_
            refine g_topi (y := iI ((xb (f0.toNat)) - 48)) (iI_sub (xb (f0.toNat)) 48) ?_
            refine lv_goto (tgt := 125) hx hb dX8_scanToken_103 (by decide) ?_
            exact hJ_46 ((xb (f0.toNat)) - 48) ls ⟨by omega, lv_sub hl [0, 1, 2, 3] rfl⟩
      · have c_44 : ¬ (x_length ≤ k0_38) := fun h9 => c_44 ((iI_le (a := x_length) (b := k0_38) (by omega) (by omega)).mpr h9)
        refine lv_aload_n hx hb dX8_scanToken_74 rfl (lv_at hl 2 rfl) ?_
        refine va_get (D := G.1) (ci := 7) (v := .ref x_bytes) (C := RX8) (T := TX8) (N := 6) hx hb hts (fun _ h => List.mem_cons_of_mem _ (inlX8 _ h)) hown hK hP 0 rfl rfl 0 (by decide) (hts _ (List.mem_cons_of_mem _ (in_r4 (List.mem_of_getElem? (i := 20) rfl)))) (fun _ h9 => h9) rfl dX8_scanToken_75 ?_
        refine lv_iload_n hx hb dX8_scanToken_78 rfl (lv_at hl 0 rfl) ?_
        refine g_ild hx hb hK hP 1 rfl (by omega) (by omega) (by first | exact Nat.le_of_ble_eq_true rfl | omega) dX8_scanToken_79 (fun w_57 ew_57 => ?_)
        have ew_57 : xb (k0_38.toNat) = w_57 := ew_57
        subst ew_57
        have b0w_57 := y0_ (k0_38.toNat)
        refine g_calli (wr := [oB7 t0 x_bytes x_sorts x_starts x_values x_length x_tokens, iB G x_bytes 150 xb, iB G x_sorts 151 xs, iB G x_starts 151 xa, iB G x_values 151 xv]) (va_runS (As := [.int (iI (xb (k0_38.toNat)))]) (rest := []) ⟨hx, hb, hml, hown, hts⟩ (c_X8_isFigure l G ((xb (k0_38.toNat))) (by first | assumption | omega) _) (va_cwS 1 hts gX8_scanToken_X8_isFigure rfl rfl rfl (by decide +kernel) ⟨Nat.le_of_ble_eq_true rfl, Nat.le_of_ble_eq_true rfl⟩) (g_preS [.int (iI (xb (k0_38.toNat)))] hP hD hK hN hS hA hZ [] rfl rfl) rfl rfl hl.1 rfl (lv_room (Nat.le_of_ble_eq_true rfl)) dX8_scanToken_80 ⟨Nat.le_of_ble_eq_true rfl, Nat.le_of_ble_eq_true rfl⟩) hP hD hS hA [] [0, 1, 2, 3, 4] rfl rfl rfl (by decide) (fun r_58 u H locs hw hP hD hS => ?_)
        rcases hw with ⟨k_59, rfl, rfl⟩ | ⟨k_60, rfl, rfl⟩
        · have hPD : PD G A H [oB7 t0 x_bytes x_sorts x_starts x_values x_length x_tokens, iB G x_bytes 150 xb, iB G x_sorts 151 xs, iB G x_starts 151 xa, iB G x_values 151 xv] := ⟨hP, hD⟩
          have hP := hPD.1
          have hD := hPD.2
          clear hPD
          refine lv_if_eq (tgt := 92) hx hb dX8_scanToken_83 (by decide) (fun c_61 => g_no c_61 (by decide)) (fun _ => ?_)
          refine lv_iinc (v := iI (k0_38 + 1)) (lv' := [(3, .int (iI (k0_38 + 1))), (2, .int (iI (xb (f0.toNat)))), (0, .ref t0), (1, .int (iI f0))]) hx hb dX8_scanToken_86 hl (k := 0) rfl (iI_add k0_38 1) (by decide) rfl (fun ls hl => ?_)
          refine lv_goto (tgt := 66) hx hb dX8_scanToken_89 (by decide) ?_
          exact ih_41 _ _ _ _ (by omega) ⟨(k0_38 + 1), (by first | assumption | omega), (fr_s (by assumption) (by omega)), rfl, hP, hD, hS, lv_sub hl [0, 1, 2, 3] rfl⟩
        · have hPD : PD G A H [oB7 t0 x_bytes x_sorts x_starts x_values x_length x_tokens, iB G x_bytes 150 xb, iB G x_sorts 151 xs, iB G x_starts 151 xa, iB G x_values 151 xv] := ⟨hP, hD⟩
          have hP := hPD.1
          have hD := hPD.2
          clear hPD
          refine lv_if_eq (tgt := 92) hx hb dX8_scanToken_83 (by decide) (fun _ => ?_) (fun c_62 => g_no (by decide) c_62)
          refine lv_iload_n hx hb dX8_scanToken_92 rfl (lv_at hl 0 rfl) ?_
          refine lv_iload_n hx hb dX8_scanToken_93 rfl (lv_at hl 3 rfl) ?_
          refine lv_isub hx hb dX8_scanToken_94 ?_
          refine g_topi (y := iI (k0_38 - f0)) (iI_sub k0_38 f0) ?_
          refine lv_iconst (v := iI 1) hx hb dX8_scanToken_95 rfl ?_
          refine g_join (jn := 125) (rest := []) (fun t_63 ls => (((k0_38 - f0 = 1 ∧ t_63 = xb f0.toNat - 48) ∨ (¬ (k0_38 - f0 = 1) ∧ t_63 = 10 * (xb f0.toNat - 48) + xb (k0_38 - 1).toNat - 48)) ∧ -1000 ≤ t_63 ∧ t_63 ≤ 3000) ∧ lv_has ls 5 [(3, .int (iI k0_38)), (2, .int (iI (xb (f0.toNat)))), (0, .ref t0), (1, .int (iI f0))]) (fun t_63 ls hI => ?_) (fun hJ_64 => ?_)
          · obtain ⟨f_65, hl⟩ := hI
            refine lv_istore (lv' := [(4, .int (iI t_63)), (3, .int (iI k0_38)), (2, .int (iI (xb (f0.toNat)))), (0, .ref t0), (1, .int (iI f0))]) hx hb dX8_scanToken_125 hl (by decide) rfl (fun ls hl => ?_)
            refine lv_aload_n hx hb dX8_scanToken_127 rfl (lv_at hl 3 rfl) ?_
            refine lv_iload_n hx hb dX8_scanToken_128 rfl (lv_at hl 1 rfl) ?_
            refine lv_iload_n hx hb dX8_scanToken_129 rfl (lv_at hl 4 rfl) ?_
            refine lv_isub hx hb dX8_scanToken_130 ?_
            refine g_topi (y := iI (k0_38 - f0)) (iI_sub k0_38 f0) ?_
            refine lv_iconst (v := iI 2) hx hb dX8_scanToken_131 rfl ?_
            refine g_join (jn := 140) (rest := [.ref t0]) (fun t_66 ls => ((2 < (k0_38 - f0) ∧ t_66 = 3) ∨ (¬ (2 < (k0_38 - f0)) ∧ t_66 = 2)) ∧ lv_has ls 5 [(4, .int (iI t_63)), (3, .int (iI k0_38)), (2, .int (iI (xb (f0.toNat)))), (0, .ref t0), (1, .int (iI f0))]) (fun t_66 ls hI => ?_) (fun hJ_67 => ?_)
            · obtain ⟨f_68, hl⟩ := hI
              refine lv_iload_n hx hb dX8_scanToken_140 rfl (lv_at hl 4 rfl) ?_
              refine lv_iload hx hb dX8_scanToken_141 (lv_at hl 0 rfl) ?_
              refine g_callv (wr := [iB G x_bytes 150 xb]) (va_runV (As := [.int (iI t_66), .int (iI f0), .int (iI t_63)]) (rest := []) ⟨hx, hb, hml, hown, hts⟩ (c_X8_addToken l G (t0) (x_bytes) (x_sorts) (x_starts) (x_values) (x_length) (x_tokens) (xs) (xa) (xv) (t_66) (f0) (t_63) (by first | exact y1_ | exact bd_mono y1_ (by omega) (by omega) | assumption) (by first | exact y2_ | exact bd_mono y2_ (by omega) (by omega) | assumption) (by first | exact y3_ | exact bd_mono y3_ (by omega) (by omega) | assumption) (by first | exact y4_ | assumption | omega) (by first | exact y5_ | assumption | omega) (by first | exact ht | assumption | omega) (by first | assumption | omega) (by first | assumption | omega) (by first | assumption | omega) _) (cwV 3 hts gX8_scanToken_X8_addToken rfl rfl rfl (by decide +kernel) ⟨Nat.le_of_ble_eq_true rfl, Nat.le_of_ble_eq_true rfl⟩) (g_preV t0 [.int (iI t_66), .int (iI f0), .int (iI t_63)] hP hD hK hN hS hA hZ [0, 2, 3, 4] rfl rfl 0 (ci := 7) rfl rfl) rfl rfl hl.1 rfl (lv_room (Nat.le_of_ble_eq_true rfl)) dX8_scanToken_143 ⟨Nat.le_of_ble_eq_true rfl, Nat.le_of_ble_eq_true rfl⟩) hP hD hS hA [0, 2, 3, 4] [1] rfl rfl rfl (by decide) (fun u H locs hw hP hD hS => ?_)
              refine ea_0_4 hw (fun k_69 k_70 k_71 e8_0 => ?_)
              subst e8_0
              clear hw
              have hPD : PD G A H [iB G x_bytes 150 xb, oB7 t0 x_bytes x_sorts x_starts x_values x_length (x_tokens + 1), iB G x_sorts 151 (uI xs (x_tokens.toNat) t_66), iB G x_starts 151 (uI xa (x_tokens.toNat) f0), iB G x_values 151 (uI xv (x_tokens.toNat) t_63)] := ⟨hP, hD⟩
              have hP := hPD.1
              have hD := hPD.2
              clear hPD
              refine lv_goto (tgt := 166) hx hb dX8_scanToken_146 (by decide) ?_
              refine lv_iload_n hx hb dX8_scanToken_166 rfl (lv_at hl 1 rfl) ?_
              have hP := hP.sub (ws' := [oB7 t0 x_bytes x_sorts x_starts x_values x_length (x_tokens + 1), iB G x_bytes 150 xb, iB G x_sorts 151 (uI xs (x_tokens.toNat) t_66), iB G x_starts 151 (uI xa (x_tokens.toNat) f0), iB G x_values 151 (uI xv (x_tokens.toNat) t_63)]) [1, 0, 2, 3, 4] rfl
              have hD := hD.sub (ws' := [oB7 t0 x_bytes x_sorts x_starts x_values x_length (x_tokens + 1), iB G x_bytes 150 xb, iB G x_sorts 151 (uI xs (x_tokens.toNat) t_66), iB G x_starts 151 (uI xa (x_tokens.toNat) f0), iB G x_values 151 (uI xv (x_tokens.toNat) t_63)]) [1, 0, 2, 3, 4] rfl rfl
              exact g_iret (v := (iI k0_38)) hx hb hr hlocks hP hD hS (⟨k0_38, t_66, t_63, (tkb_n (by omega) (by assumption) (by omega) (by omega) (fun q9 => by first | assumption | (exfalso; omega)) (by omega) (by omega)), (by first | assumption | omega), (by first | exact k_69 | exact bd_mono k_69 (by omega) (by omega) | assumption), (by first | exact k_70 | exact bd_mono k_70 (by omega) (by omega) | assumption), (by first | exact k_71 | exact bd_mono k_71 (by omega) (by omega) | assumption), rfl, rfl⟩) dX8_scanToken_167
            · refine lv_icmp_gt (tgt := 139) hx hb dX8_scanToken_132 (by decide) (fun c_72 => ?_) (fun c_72 => ?_)
              · have c_72 := (iI_lt (a := 2) (b := (k0_38 - f0)) (by first | decide | omega) (by omega)).mp c_72
                refine lv_iconst (v := iI 3) hx hb dX8_scanToken_139 rfl ?_
                exact hJ_67 3 ls ⟨by omega, lv_sub hl [0, 1, 2, 3, 4] rfl⟩
              · have c_72 : ¬ (2 < (k0_38 - f0)) := fun h9 => c_72 ((iI_lt (a := 2) (b := (k0_38 - f0)) (by first | decide | omega) (by omega)).mpr h9)
                refine lv_iconst (v := iI 2) hx hb dX8_scanToken_135 rfl ?_
                refine lv_goto (tgt := 140) hx hb dX8_scanToken_136 (by decide) ?_
                exact hJ_67 2 ls ⟨by omega, lv_sub hl [0, 1, 2, 3, 4] rfl⟩
          · refine lv_icmp_ne (tgt := 106) hx hb dX8_scanToken_96 (by decide) (fun c_73 => ?_) (fun c_73 => ?_)
            · have c_73 : ¬ ((k0_38 - f0) = 1) := fun h9 => c_73 ((iI_eq (a := (k0_38 - f0)) (b := 1) (by omega) (by first | decide | omega)).mpr h9)
              refine lv_iload_n hx hb dX8_scanToken_106 rfl (lv_at hl 1 rfl) ?_
              refine lv_bipush (v := iI 48) hx hb dX8_scanToken_107 (by decide) ?_
              refine lv_isub hx hb dX8_scanToken_109 ?_
              refine g_topi (y := iI ((xb (f0.toNat)) - 48)) (iI_sub (xb (f0.toNat)) 48) ?_
              refine lv_bipush (v := iI 10) hx hb dX8_scanToken_110 (by decide) ?_
              refine lv_imul hx hb dX8_scanToken_112 ?_
              refine g_topi (y := iI (((xb (f0.toNat)) - 48) * 10)) (iI_mul ((xb (f0.toNat)) - 48) 10) ?_
              refine lv_aload_n hx hb dX8_scanToken_113 rfl (lv_at hl 2 rfl) ?_
              refine va_get (D := G.1) (ci := 7) (v := .ref x_bytes) (C := RX8) (T := TX8) (N := 6) hx hb hts (fun _ h => List.mem_cons_of_mem _ (inlX8 _ h)) hown hK hP 0 rfl rfl 0 (by decide) (hts _ (List.mem_cons_of_mem _ (in_r4 (List.mem_of_getElem? (i := 20) rfl)))) (fun _ h9 => h9) rfl dX8_scanToken_114 ?_
              refine lv_iload_n hx hb dX8_scanToken_117 rfl (lv_at hl 0 rfl) ?_
              refine lv_iconst (v := iI 1) hx hb dX8_scanToken_118 rfl ?_
              refine lv_isub hx hb dX8_scanToken_119 ?_
              refine g_topi (y := iI (k0_38 - 1)) (iI_sub k0_38 1) ?_
              refine g_ild hx hb hK hP 1 rfl (by omega) (by omega) (by first | exact Nat.le_of_ble_eq_true rfl | omega) dX8_scanToken_120 (fun w_74 ew_74 => ?_)
              have ew_74 : xb ((k0_38 - 1).toNat) = w_74 := ew_74
              subst ew_74
              have b0w_74 := y0_ ((k0_38 - 1).toNat)
              refine lv_iadd hx hb dX8_scanToken_121 ?_
              refine g_topi (y := iI ((((xb (f0.toNat)) - 48) * 10) + (xb ((k0_38 - 1).toNat)))) (iI_add (((xb (f0.toNat)) - 48) * 10) (xb ((k0_38 - 1).toNat))) ?_
              refine lv_bipush (v := iI 48) hx hb dX8_scanToken_122 (by decide) ?_
              refine lv_isub hx hb dX8_scanToken_124 ?_
              refine g_topi (y := iI (((((xb (f0.toNat)) - 48) * 10) + (xb ((k0_38 - 1).toNat))) - 48)) (iI_sub ((((xb (f0.toNat)) - 48) * 10) + (xb ((k0_38 - 1).toNat))) 48) ?_
              exact hJ_64 (((((xb (f0.toNat)) - 48) * 10) + (xb ((k0_38 - 1).toNat))) - 48) ls ⟨by omega, lv_sub hl [0, 1, 2, 3] rfl⟩
            · have c_73 := (iI_eq (a := (k0_38 - f0)) (b := 1) (by omega) (by first | decide | omega)).mp c_73
              refine lv_iload_n hx hb dX8_scanToken_99 rfl (lv_at hl 1 rfl) ?_
              refine lv_bipush (v := iI 48) hx hb dX8_scanToken_100 (by decide) ?_
              refine lv_isub hx hb dX8_scanToken_102 ?_
              refine g_topi (y := iI ((xb (f0.toNat)) - 48)) (iI_sub (xb (f0.toNat)) 48) ?_
              refine lv_goto (tgt := 125) hx hb dX8_scanToken_103 (by decide) ?_
              exact hJ_64 ((xb (f0.toNat)) - 48) ls ⟨by omega, lv_sub hl [0, 1, 2, 3] rfl⟩
    · have hPD : PD G A H [oB7 t0 x_bytes x_sorts x_starts x_values x_length x_tokens, iB G x_bytes 150 xb, iB G x_sorts 151 xs, iB G x_starts 151 xa, iB G x_values 151 xv] := ⟨hP, hD⟩
      have hP := hPD.1
      have hD := hPD.2
      clear hPD
      refine lv_if_eq (tgt := 149) hx hb dX8_scanToken_63 (by decide) (fun _ => ?_) (fun c_75 => g_no (by decide) c_75)
      refine lv_aload_n hx hb dX8_scanToken_149 rfl (lv_at hl 2 rfl) ?_
      refine lv_iload_n hx hb dX8_scanToken_150 rfl (lv_at hl 1 rfl) ?_
      refine lv_bipush (v := iI 59) hx hb dX8_scanToken_151 (by decide) ?_
      refine g_join (jn := 161) (rest := [.ref t0]) (fun t_76 ls => ((¬ ((xb (f0.toNat)) = 59) ∧ t_76 = 3) ∨ ((xb (f0.toNat)) = 59 ∧ t_76 = 1)) ∧ lv_has ls 5 [(3, .int (iI (f0 + 1))), (2, .int (iI (xb (f0.toNat)))), (0, .ref t0), (1, .int (iI f0))]) (fun t_76 ls hI => ?_) (fun hJ_77 => ?_)
      · obtain ⟨f_78, hl⟩ := hI
        refine lv_iload_n hx hb dX8_scanToken_161 rfl (lv_at hl 3 rfl) ?_
        refine lv_iconst (v := iI 0) hx hb dX8_scanToken_162 rfl ?_
        refine g_callv (wr := [iB G x_bytes 150 xb]) (va_runV (As := [.int (iI t_76), .int (iI f0), .int (iI 0)]) (rest := []) ⟨hx, hb, hml, hown, hts⟩ (c_X8_addToken l G (t0) (x_bytes) (x_sorts) (x_starts) (x_values) (x_length) (x_tokens) (xs) (xa) (xv) (t_76) (f0) (0) (by first | exact y1_ | exact bd_mono y1_ (by omega) (by omega) | assumption) (by first | exact y2_ | exact bd_mono y2_ (by omega) (by omega) | assumption) (by first | exact y3_ | exact bd_mono y3_ (by omega) (by omega) | assumption) (by first | exact y4_ | assumption | omega) (by first | exact y5_ | assumption | omega) (by first | exact ht | assumption | omega) (by first | assumption | omega) (by first | assumption | omega) (by first | assumption | omega) _) (cwV 3 hts gX8_scanToken_X8_addToken rfl rfl rfl (by decide +kernel) ⟨Nat.le_of_ble_eq_true rfl, Nat.le_of_ble_eq_true rfl⟩) (g_preV t0 [.int (iI t_76), .int (iI f0), .int (iI 0)] hP hD hK hN hS hA hZ [0, 2, 3, 4] rfl rfl 0 (ci := 7) rfl rfl) rfl rfl hl.1 rfl (lv_room (Nat.le_of_ble_eq_true rfl)) dX8_scanToken_163 ⟨Nat.le_of_ble_eq_true rfl, Nat.le_of_ble_eq_true rfl⟩) hP hD hS hA [0, 2, 3, 4] [1] rfl rfl rfl (by decide) (fun u H locs hw hP hD hS => ?_)
        refine ea_0_4 hw (fun k_79 k_80 k_81 e8_0 => ?_)
        subst e8_0
        clear hw
        have hPD : PD G A H [iB G x_bytes 150 xb, oB7 t0 x_bytes x_sorts x_starts x_values x_length (x_tokens + 1), iB G x_sorts 151 (uI xs (x_tokens.toNat) t_76), iB G x_starts 151 (uI xa (x_tokens.toNat) f0), iB G x_values 151 (uI xv (x_tokens.toNat) 0)] := ⟨hP, hD⟩
        have hP := hPD.1
        have hD := hPD.2
        clear hPD
        refine lv_iload_n hx hb dX8_scanToken_166 rfl (lv_at hl 0 rfl) ?_
        have hP := hP.sub (ws' := [oB7 t0 x_bytes x_sorts x_starts x_values x_length (x_tokens + 1), iB G x_bytes 150 xb, iB G x_sorts 151 (uI xs (x_tokens.toNat) t_76), iB G x_starts 151 (uI xa (x_tokens.toNat) f0), iB G x_values 151 (uI xv (x_tokens.toNat) 0)]) [1, 0, 2, 3, 4] rfl
        have hD := hD.sub (ws' := [oB7 t0 x_bytes x_sorts x_starts x_values x_length (x_tokens + 1), iB G x_bytes 150 xb, iB G x_sorts 151 (uI xs (x_tokens.toNat) t_76), iB G x_starts 151 (uI xa (x_tokens.toNat) f0), iB G x_values 151 (uI xv (x_tokens.toNat) 0)]) [1, 0, 2, 3, 4] rfl rfl
        exact g_iret (v := (iI (f0 + 1))) hx hb hr hlocks hP hD hS (⟨(f0 + 1), t_76, 0, (tkb_o (by omega) (by omega) (by omega)), (by first | assumption | omega), (by first | exact k_79 | exact bd_mono k_79 (by omega) (by omega) | assumption), (by first | exact k_80 | exact bd_mono k_80 (by omega) (by omega) | assumption), (by first | exact k_81 | exact bd_mono k_81 (by omega) (by omega) | assumption), rfl, rfl⟩) dX8_scanToken_167
      · refine lv_icmp_ne (tgt := 160) hx hb dX8_scanToken_153 (by decide) (fun c_82 => ?_) (fun c_82 => ?_)
        · have c_82 : ¬ ((xb (f0.toNat)) = 59) := fun h9 => c_82 ((iI_eq (a := (xb (f0.toNat))) (b := 59) (by omega) (by first | decide | omega)).mpr h9)
          refine lv_iconst (v := iI 3) hx hb dX8_scanToken_160 rfl ?_
          exact hJ_77 3 ls ⟨by omega, lv_sub hl [0, 1, 2, 3] rfl⟩
        · have c_82 := (iI_eq (a := (xb (f0.toNat))) (b := 59) (by omega) (by first | decide | omega)).mp c_82
          refine lv_iconst (v := iI 1) hx hb dX8_scanToken_156 rfl ?_
          refine lv_goto (tgt := 161) hx hb dX8_scanToken_157 (by decide) ?_
          exact hJ_77 1 ls ⟨by omega, lv_sub hl [0, 1, 2, 3] rfl⟩
theorem dX8_scan_0 : decode cX8_scan 0 = .ok (.aload_n 0, 1) := kd_42 (by decide +kernel)
theorem dX8_scan_1 : decode cX8_scan 1 = .ok (.iconst 0, 1) := kd_3 (by decide +kernel)
theorem dX8_scan_2 : decode cX8_scan 2 = .ok (.putfield 28, 3) := kd_181 (a := 0) (b := 28) (by decide +kernel)
theorem dX8_scan_5 : decode cX8_scan 5 = .ok (.iconst 0, 1) := kd_3 (by decide +kernel)
theorem dX8_scan_6 : decode cX8_scan 6 = .ok (.istore_n 1, 1) := kd_60 (by decide +kernel)
theorem dX8_scan_7 : decode cX8_scan 7 = .ok (.iconst 0, 1) := kd_3 (by decide +kernel)
theorem dX8_scan_8 : decode cX8_scan 8 = .ok (.istore_n 2, 1) := kd_61 (by decide +kernel)
theorem dX8_scan_9 : decode cX8_scan 9 = .ok (.iload_n 2, 1) := kd_28 (by decide +kernel)
theorem dX8_scan_10 : decode cX8_scan 10 = .ok (.sipush 150, 3) := kd_17 (a := 0) (b := 150) (by decide +kernel)
theorem dX8_scan_13 : decode cX8_scan 13 = .ok (.if_icmp .ge 40, 3) := kd_162 (a := 0) (b := 40) (by decide +kernel)
theorem dX8_scan_53 : decode cX8_scan 53 = .ok (.aload_n 0, 1) := kd_42 (by decide +kernel)
theorem dX8_scan_54 : decode cX8_scan 54 = .ok (.iconst 0, 1) := kd_3 (by decide +kernel)
theorem dX8_scan_55 : decode cX8_scan 55 = .ok (.aload_n 0, 1) := kd_42 (by decide +kernel)
theorem dX8_scan_56 : decode cX8_scan 56 = .ok (.getfield 24, 3) := kd_180 (a := 0) (b := 24) (by decide +kernel)
theorem dX8_scan_59 : decode cX8_scan 59 = .ok (.iconst 0, 1) := kd_3 (by decide +kernel)
theorem gX8_scan_X8_addToken : GoodIn wsX8_scan (wsV RX8 35 RX8 yX8_addToken wsX8_addToken) := gW_V (in_r14 (List.mem_of_getElem? (i := 20) rfl)) (in_r14 (List.mem_of_getElem? (i := 21) rfl)) (in_r14 (List.mem_of_getElem? (i := 22) rfl)) (in_r4 (List.mem_of_getElem? (i := 14) rfl)) (in_r14 (List.mem_of_getElem? (i := 23) rfl))
theorem dX8_scan_60 : decode cX8_scan 60 = .ok (.invokevirtual 35, 3) := kd_182 (a := 0) (b := 35) (by decide +kernel)
theorem dX8_scan_63 : decode cX8_scan 63 = .ok (.return_, 1) := kd_177 (by decide +kernel)
theorem dX8_scan_16 : decode cX8_scan 16 = .ok (.iload_n 1, 1) := kd_27 (by decide +kernel)
theorem dX8_scan_17 : decode cX8_scan 17 = .ok (.aload_n 0, 1) := kd_42 (by decide +kernel)
theorem dX8_scan_18 : decode cX8_scan 18 = .ok (.getfield 24, 3) := kd_180 (a := 0) (b := 24) (by decide +kernel)
theorem dX8_scan_21 : decode cX8_scan 21 = .ok (.if_icmp .ge 32, 3) := kd_162 (a := 0) (b := 32) (by decide +kernel)
theorem dX8_scan_24 : decode cX8_scan 24 = .ok (.aload_n 0, 1) := kd_42 (by decide +kernel)
theorem dX8_scan_25 : decode cX8_scan 25 = .ok (.getfield 9, 3) := kd_180 (a := 0) (b := 9) (by decide +kernel)
theorem dX8_scan_28 : decode cX8_scan 28 = .ok (.iload_n 1, 1) := kd_27 (by decide +kernel)
theorem dX8_scan_29 : decode cX8_scan 29 = .ok (.iaload, 1) := kd_46 (by decide +kernel)
theorem dX8_scan_30 : decode cX8_scan 30 = .ok (.bipush 32, 2) := kd_16 (a := 32) (by decide +kernel)
theorem dX8_scan_32 : decode cX8_scan 32 = .ok (.if_icmp .ne 9, 3) := kd_160 (a := 0) (b := 9) (by decide +kernel)
theorem dX8_scan_41 : decode cX8_scan 41 = .ok (.aload_n 0, 1) := kd_42 (by decide +kernel)
theorem dX8_scan_42 : decode cX8_scan 42 = .ok (.iload_n 1, 1) := kd_27 (by decide +kernel)
theorem gX8_scan_X8_scanToken : GoodIn wsX8_scan (wsV RX8 31 RX8 yX8_scanToken wsX8_scanToken) := gW_V (in_r12 (List.mem_of_getElem? (i := 4) rfl)) (in_r12 (List.mem_of_getElem? (i := 5) rfl)) (in_r12 (List.mem_of_getElem? (i := 6) rfl)) (in_r4 (List.mem_of_getElem? (i := 14) rfl)) (in_r12 (List.mem_of_getElem? (i := 7) rfl))
theorem dX8_scan_43 : decode cX8_scan 43 = .ok (.invokevirtual 31, 3) := kd_182 (a := 0) (b := 31) (by decide +kernel)
theorem dX8_scan_35 : decode cX8_scan 35 = .ok (.iload_n 1, 1) := kd_27 (by decide +kernel)
theorem dX8_scan_36 : decode cX8_scan 36 = .ok (.iconst 1, 1) := kd_4 (by decide +kernel)
theorem dX8_scan_37 : decode cX8_scan 37 = .ok (.iadd, 1) := kd_96 (by decide +kernel)
theorem dX8_scan_38 : decode cX8_scan 38 = .ok (.goto 8, 3) := kd_167 (a := 0) (b := 8) (by decide +kernel)
theorem dX8_scan_46 : decode cX8_scan 46 = .ok (.istore_n 1, 1) := kd_60 (by decide +kernel)
theorem dX8_scan_47 : decode cX8_scan 47 = .ok (.iinc 2 1, 3) := kd_132 (a := 2) (b := 1) (by decide +kernel)
theorem dX8_scan_50 : decode cX8_scan 50 = .ok (.goto (-41), 3) := kd_167 (a := 255) (b := 215) (by decide +kernel)
set_option maxHeartbeats 8000000 in
set_option maxRecDepth 100000 in
theorem c_X8_scan (l : Launch) (G : gG) (t0 : Nat) (x_bytes : Nat) (x_sorts : Nat) (x_starts : Nat) (x_values : Nat) (x_length : Int) (x_tokens : Int) (xb : Nat → Int) (xs : Nat → Int) (xa : Nat → Int) (xv : Nat → Int) (y0_ : bd 0 127 xb) (y1_ : bd 0 10 xs) (y2_ : bd 0 150 xa) (y3_ : bd (-1000) 3000 xv) (y4_ : 0 ≤ x_length ∧ x_length ≤ 150) (y5_ : 0 ≤ x_tokens ∧ x_tokens ≤ 151) (sz : Nat) : gV G l yX8_scan wsX8_scan ({ frames := 7, cells := 0, slots := 0, locals := 155 } : Room) [.ref t0] [oB7 t0 x_bytes x_sorts x_starts x_values x_length x_tokens, iB G x_bytes 150 xb, iB G x_sorts 151 xs, iB G x_starts 151 xa, iB G x_values 151 xv] sz (fun (u : va_W) => (∃ Nt : Int, ∃ Ns : Nat → Int, ∃ Na : Nat → Int, ∃ Nv : Nat → Int, ∃ NE : Nat → Int, (chF xb x_length Ns Na Nv Nt NE) ∧ (bd 0 10 Ns) ∧ (bd 0 150 Na) ∧ (bd (-1000) 3000 Nv) ∧ u = [oB7 t0 x_bytes x_sorts x_starts x_values x_length Nt, iB G x_bytes 150 xb, iB G x_sorts 151 Ns, iB G x_starts 151 Na, iB G x_values 151 Nv])) := by
  refine Met.ofW (cc := cX8_scan) (maxL := 3) (ret := none) (by decide) rfl ?_
  intro p e s m args below meth c s₁ B hml hv
  obtain ⟨rfl, hsz, hP, hK, hD0, hN, hZ⟩ := hv
  have hx := B.exec
  have hb := B.bytes
  have hr := B.returns
  have hts := atoms_spec (ws := wsX8_scan) B.pre
  have hown : s.vm.findClass RX8 = some m.cls := findClass_of_methodNamed B.named
  have hlocks := B.notSynchronized
  subst hsz
  have hD := hD0.self (sz := s.heap.size)
  generalize hAe : va_A [oB7 t0 x_bytes x_sorts x_starts x_values x_length x_tokens, iB G x_bytes 150 xb, iB G x_sorts 151 xs, iB G x_starts 151 xa, iB G x_values 151 xv] s.heap.size = A at hD hZ ⊢
  have hA : ∀ q : Nat, s.heap.size ≤ q → A q := fun q h => by rw [← hAe]; exact Or.inr h
  have hS : va_S A s.heap s.heap [] := va_S.rf
  have hP : va_P G.1 vwCl [oB7 t0 x_bytes x_sorts x_starts x_values x_length x_tokens, iB G x_bytes 150 xb, iB G x_sorts 151 xs, iB G x_starts 151 xa, iB G x_values 151 xv] s.heap := hP
  have hl := lv_entry ([.ref t0]) (n := 3) (Nat.le_of_ble_eq_true rfl)
  rw [lg_entry_eq]
  generalize (lg_sl ([.ref t0]) ++ List.replicate (3 - (lg_sl ([.ref t0])).length) Slot.unset).toArray = ls at hl ⊢
  have hl : lv_has ls 3 [(0, .ref t0)] := hl
  refine lv_aload_n hx hb dX8_scan_0 rfl (lv_at hl 0 rfl) ?_
  refine lv_iconst (v := iI 0) hx hb dX8_scan_1 rfl ?_
  refine va_put (D := G.1) (ci := 7) (v := .int (iI 0)) (ty := .int) (C := RX8) (T := TX8) (N := 6) hx hb hts (fun _ h => List.mem_cons_of_mem _ (inlX8 _ h)) tyX8 tyX8_ok nmX8 hown hK hP hD hS 0 rfl rfl 5 (by decide) (hts _ (List.mem_cons_of_mem _ (in_r12 (List.mem_of_getElem? (i := 3) rfl)))) (fun _ h9 => h9) rfl (by decide +kernel) rfl rfl (Nat.le_of_ble_eq_true rfl) dX8_scan_2 (fun H locs hP hD hS => ?_)
  have hPD : PD G A H [oB7 t0 x_bytes x_sorts x_starts x_values x_length 0, iB G x_bytes 150 xb, iB G x_sorts 151 xs, iB G x_starts 151 xa, iB G x_values 151 xv] := ⟨hP, hD⟩
  have hP := hPD.1
  have hD := hPD.2
  clear hPD
  refine lv_iconst (v := iI 0) hx hb dX8_scan_5 rfl ?_
  refine lv_istore_n (lv' := [(1, .int (iI 0)), (0, .ref t0)]) hx hb dX8_scan_6 rfl hl (by decide) rfl (fun ls hl => ?_)
  refine lv_iconst (v := iI 0) hx hb dX8_scan_7 rfl ?_
  refine lv_istore_n (lv' := [(2, .int (iI 0)), (1, .int (iI 0)), (0, .ref t0)]) hx hb dX8_scan_8 rfl hl (by decide) rfl (fun ls hl => ?_)
  refine g_loopN (pc := 9) (fun nn H locs ls => ∃ k0_1 : Int, ∃ j0_2 : Int, ∃ Es_3 : Nat → Int, ∃ Ea_4 : Nat → Int, ∃ Ev_5 : Nat → Int, ∃ et_6 : Int, (0 ≤ j0_2 ∧ j0_2 ≤ 150) ∧ (0 ≤ k0_1 ∧ k0_1 ≤ x_length) ∧ (j0_2 ≤ k0_1) ∧ (0 ≤ et_6 ∧ et_6 ≤ k0_1) ∧ (bd 0 10 Es_3) ∧ (bd 0 150 Ea_4) ∧ (bd (-1000) 3000 Ev_5) ∧ (chn xb x_length Es_3 Ea_4 Ev_5 et_6 k0_1) ∧ (150 - j0_2).toNat = nn ∧ va_P G.1 vwCl [oB7 t0 x_bytes x_sorts x_starts x_values x_length et_6, iB G x_bytes 150 xb, iB G x_sorts 151 Es_3, iB G x_starts 151 Ea_4, iB G x_values 151 Ev_5] H ∧ va_D A [oB7 t0 x_bytes x_sorts x_starts x_values x_length et_6, iB G x_bytes 150 xb, iB G x_sorts 151 Es_3, iB G x_starts 151 Ea_4, iB G x_values 151 Ev_5] ∧ va_S A s.heap H locs ∧ lv_has ls 3 [(2, .int (iI j0_2)), (1, .int (iI k0_1)), (0, .ref t0)]) ?_ ⟨0, 0, xs, xa, xv, 0, (by first | assumption | omega), (by first | assumption | omega), (by first | assumption | omega), (by first | assumption | omega), (by first | exact y1_ | exact bd_mono y1_ (by omega) (by omega) | assumption), (by first | exact y2_ | exact bd_mono y2_ (by omega) (by omega) | assumption), (by first | exact y3_ | exact bd_mono y3_ (by omega) (by omega) | assumption), (chn_0 _ _ _ (by omega)), rfl, hP, hD, hS, lv_sub hl [0, 1, 2] rfl⟩
  intro nn_16 H locs ls ih_15 hI
  refine ea_6_13 hI (fun k0_1 j0_2 Es_3 Ea_4 Ev_5 et_6 f_7 f_8 f_9 f_10 f_11 f_12 f_13 f_14 hnn_17 hP hD hS hl => ?_)
  clear hI
  refine lv_iload_n hx hb dX8_scan_9 rfl (lv_at hl 0 rfl) ?_
  refine lv_sipush (v := iI 150) hx hb dX8_scan_10 (by decide) ?_
  refine lv_icmp_ge (tgt := 53) hx hb dX8_scan_13 (by decide) (fun c_18 => ?_) (fun c_18 => ?_)
  · have c_18 := (iI_le (a := 150) (b := j0_2) (by first | decide | omega) (by omega)).mp c_18
    obtain ⟨NE9, hc9⟩ := chn_e (B := xb) (L := x_length) (n := et_6) (S := Es_3) (A := Ea_4) (V := Ev_5) 0 (chn_at (z := k0_1) (by assumption) (by omega))
    refine lv_aload_n hx hb dX8_scan_53 rfl (lv_at hl 2 rfl) ?_
    refine lv_iconst (v := iI 0) hx hb dX8_scan_54 rfl ?_
    refine lv_aload_n hx hb dX8_scan_55 rfl (lv_at hl 2 rfl) ?_
    refine va_get (D := G.1) (ci := 7) (v := .int (iI x_length)) (C := RX8) (T := TX8) (N := 6) hx hb hts (fun _ h => List.mem_cons_of_mem _ (inlX8 _ h)) hown hK hP 0 rfl rfl 4 (by decide) (hts _ (List.mem_cons_of_mem _ (in_r11 (List.mem_of_getElem? (i := 1) rfl)))) (fun _ h9 => h9) rfl dX8_scan_56 ?_
    refine lv_iconst (v := iI 0) hx hb dX8_scan_59 rfl ?_
    refine g_callv (wr := [iB G x_bytes 150 xb]) (va_runV (As := [.int (iI 0), .int (iI x_length), .int (iI 0)]) (rest := []) ⟨hx, hb, hml, hown, hts⟩ (c_X8_addToken l G (t0) (x_bytes) (x_sorts) (x_starts) (x_values) (x_length) (et_6) (Es_3) (Ea_4) (Ev_5) (0) (x_length) (0) (by first | exact f_11 | exact bd_mono f_11 (by omega) (by omega) | assumption) (by first | exact f_12 | exact bd_mono f_12 (by omega) (by omega) | assumption) (by first | exact f_13 | exact bd_mono f_13 (by omega) (by omega) | assumption) (by first | exact y4_ | assumption | omega) (by first | assumption | omega) (by first | assumption | omega) (by first | assumption | omega) (by first | exact y4_ | assumption | omega) (by first | assumption | omega) _) (cwV 3 hts gX8_scan_X8_addToken rfl rfl rfl (by decide +kernel) ⟨Nat.le_of_ble_eq_true rfl, Nat.le_of_ble_eq_true rfl⟩) (g_preV t0 [.int (iI 0), .int (iI x_length), .int (iI 0)] hP hD hK hN hS hA hZ [0, 2, 3, 4] rfl rfl 0 (ci := 7) rfl rfl) rfl rfl hl.1 rfl (lv_room (Nat.le_of_ble_eq_true rfl)) dX8_scan_60 ⟨Nat.le_of_ble_eq_true rfl, Nat.le_of_ble_eq_true rfl⟩) hP hD hS hA [0, 2, 3, 4] [1] rfl rfl rfl (by decide) (fun u H locs hw hP hD hS => ?_)
    refine ea_0_4 hw (fun k_19 k_20 k_21 e8_0 => ?_)
    subst e8_0
    clear hw
    have hPD : PD G A H [iB G x_bytes 150 xb, oB7 t0 x_bytes x_sorts x_starts x_values x_length (et_6 + 1), iB G x_sorts 151 (uI Es_3 (et_6.toNat) 0), iB G x_starts 151 (uI Ea_4 (et_6.toNat) x_length), iB G x_values 151 (uI Ev_5 (et_6.toNat) 0)] := ⟨hP, hD⟩
    have hP := hPD.1
    have hD := hPD.2
    clear hPD
    have hP := hP.sub (ws' := [oB7 t0 x_bytes x_sorts x_starts x_values x_length (et_6 + 1), iB G x_bytes 150 xb, iB G x_sorts 151 (uI Es_3 (et_6.toNat) 0), iB G x_starts 151 (uI Ea_4 (et_6.toNat) x_length), iB G x_values 151 (uI Ev_5 (et_6.toNat) 0)]) [1, 0, 2, 3, 4] rfl
    have hD := hD.sub (ws' := [oB7 t0 x_bytes x_sorts x_starts x_values x_length (et_6 + 1), iB G x_bytes 150 xb, iB G x_sorts 151 (uI Es_3 (et_6.toNat) 0), iB G x_starts 151 (uI Ea_4 (et_6.toNat) x_length), iB G x_values 151 (uI Ev_5 (et_6.toNat) 0)]) [1, 0, 2, 3, 4] rfl rfl
    exact g_vret hx hb hr hlocks hP hD hS (⟨(et_6 + 1), (uI Es_3 (et_6.toNat) 0), (uI Ea_4 (et_6.toNat) x_length), (uI Ev_5 (et_6.toNat) 0), NE9, (by first | assumption | omega), (by first | exact k_19 | exact bd_mono k_19 (by omega) (by omega) | assumption), (by first | exact k_20 | exact bd_mono k_20 (by omega) (by omega) | assumption), (by first | exact k_21 | exact bd_mono k_21 (by omega) (by omega) | assumption), rfl⟩) dX8_scan_63
  · have c_18 : ¬ (150 ≤ j0_2) := fun h9 => c_18 ((iI_le (a := 150) (b := j0_2) (by first | decide | omega) (by omega)).mpr h9)
    refine lv_iload_n hx hb dX8_scan_16 rfl (lv_at hl 1 rfl) ?_
    refine lv_aload_n hx hb dX8_scan_17 rfl (lv_at hl 2 rfl) ?_
    refine va_get (D := G.1) (ci := 7) (v := .int (iI x_length)) (C := RX8) (T := TX8) (N := 6) hx hb hts (fun _ h => List.mem_cons_of_mem _ (inlX8 _ h)) hown hK hP 0 rfl rfl 4 (by decide) (hts _ (List.mem_cons_of_mem _ (in_r11 (List.mem_of_getElem? (i := 1) rfl)))) (fun _ h9 => h9) rfl dX8_scan_18 ?_
    refine lv_icmp_ge (tgt := 53) hx hb dX8_scan_21 (by decide) (fun c_22 => ?_) (fun c_22 => ?_)
    · have c_22 := (iI_le (a := x_length) (b := k0_1) (by omega) (by omega)).mp c_22
      obtain ⟨NE9, hc9⟩ := chn_e (B := xb) (L := x_length) (n := et_6) (S := Es_3) (A := Ea_4) (V := Ev_5) 0 (chn_at (z := k0_1) (by assumption) (by omega))
      refine lv_aload_n hx hb dX8_scan_53 rfl (lv_at hl 2 rfl) ?_
      refine lv_iconst (v := iI 0) hx hb dX8_scan_54 rfl ?_
      refine lv_aload_n hx hb dX8_scan_55 rfl (lv_at hl 2 rfl) ?_
      refine va_get (D := G.1) (ci := 7) (v := .int (iI x_length)) (C := RX8) (T := TX8) (N := 6) hx hb hts (fun _ h => List.mem_cons_of_mem _ (inlX8 _ h)) hown hK hP 0 rfl rfl 4 (by decide) (hts _ (List.mem_cons_of_mem _ (in_r11 (List.mem_of_getElem? (i := 1) rfl)))) (fun _ h9 => h9) rfl dX8_scan_56 ?_
      refine lv_iconst (v := iI 0) hx hb dX8_scan_59 rfl ?_
      refine g_callv (wr := [iB G x_bytes 150 xb]) (va_runV (As := [.int (iI 0), .int (iI x_length), .int (iI 0)]) (rest := []) ⟨hx, hb, hml, hown, hts⟩ (c_X8_addToken l G (t0) (x_bytes) (x_sorts) (x_starts) (x_values) (x_length) (et_6) (Es_3) (Ea_4) (Ev_5) (0) (x_length) (0) (by first | exact f_11 | exact bd_mono f_11 (by omega) (by omega) | assumption) (by first | exact f_12 | exact bd_mono f_12 (by omega) (by omega) | assumption) (by first | exact f_13 | exact bd_mono f_13 (by omega) (by omega) | assumption) (by first | exact y4_ | assumption | omega) (by first | assumption | omega) (by first | assumption | omega) (by first | assumption | omega) (by first | exact y4_ | assumption | omega) (by first | assumption | omega) _) (cwV 3 hts gX8_scan_X8_addToken rfl rfl rfl (by decide +kernel) ⟨Nat.le_of_ble_eq_true rfl, Nat.le_of_ble_eq_true rfl⟩) (g_preV t0 [.int (iI 0), .int (iI x_length), .int (iI 0)] hP hD hK hN hS hA hZ [0, 2, 3, 4] rfl rfl 0 (ci := 7) rfl rfl) rfl rfl hl.1 rfl (lv_room (Nat.le_of_ble_eq_true rfl)) dX8_scan_60 ⟨Nat.le_of_ble_eq_true rfl, Nat.le_of_ble_eq_true rfl⟩) hP hD hS hA [0, 2, 3, 4] [1] rfl rfl rfl (by decide) (fun u H locs hw hP hD hS => ?_)
      refine ea_0_4 hw (fun k_23 k_24 k_25 e8_0 => ?_)
      subst e8_0
      clear hw
      have hPD : PD G A H [iB G x_bytes 150 xb, oB7 t0 x_bytes x_sorts x_starts x_values x_length (et_6 + 1), iB G x_sorts 151 (uI Es_3 (et_6.toNat) 0), iB G x_starts 151 (uI Ea_4 (et_6.toNat) x_length), iB G x_values 151 (uI Ev_5 (et_6.toNat) 0)] := ⟨hP, hD⟩
      have hP := hPD.1
      have hD := hPD.2
      clear hPD
      have hP := hP.sub (ws' := [oB7 t0 x_bytes x_sorts x_starts x_values x_length (et_6 + 1), iB G x_bytes 150 xb, iB G x_sorts 151 (uI Es_3 (et_6.toNat) 0), iB G x_starts 151 (uI Ea_4 (et_6.toNat) x_length), iB G x_values 151 (uI Ev_5 (et_6.toNat) 0)]) [1, 0, 2, 3, 4] rfl
      have hD := hD.sub (ws' := [oB7 t0 x_bytes x_sorts x_starts x_values x_length (et_6 + 1), iB G x_bytes 150 xb, iB G x_sorts 151 (uI Es_3 (et_6.toNat) 0), iB G x_starts 151 (uI Ea_4 (et_6.toNat) x_length), iB G x_values 151 (uI Ev_5 (et_6.toNat) 0)]) [1, 0, 2, 3, 4] rfl rfl
      exact g_vret hx hb hr hlocks hP hD hS (⟨(et_6 + 1), (uI Es_3 (et_6.toNat) 0), (uI Ea_4 (et_6.toNat) x_length), (uI Ev_5 (et_6.toNat) 0), NE9, (by first | assumption | omega), (by first | exact k_23 | exact bd_mono k_23 (by omega) (by omega) | assumption), (by first | exact k_24 | exact bd_mono k_24 (by omega) (by omega) | assumption), (by first | exact k_25 | exact bd_mono k_25 (by omega) (by omega) | assumption), rfl⟩) dX8_scan_63
    · have c_22 : ¬ (x_length ≤ k0_1) := fun h9 => c_22 ((iI_le (a := x_length) (b := k0_1) (by omega) (by omega)).mpr h9)
      refine lv_aload_n hx hb dX8_scan_24 rfl (lv_at hl 2 rfl) ?_
      refine va_get (D := G.1) (ci := 7) (v := .ref x_bytes) (C := RX8) (T := TX8) (N := 6) hx hb hts (fun _ h => List.mem_cons_of_mem _ (inlX8 _ h)) hown hK hP 0 rfl rfl 0 (by decide) (hts _ (List.mem_cons_of_mem _ (in_r4 (List.mem_of_getElem? (i := 20) rfl)))) (fun _ h9 => h9) rfl dX8_scan_25 ?_
      refine lv_iload_n hx hb dX8_scan_28 rfl (lv_at hl 1 rfl) ?_
      refine g_ild hx hb hK hP 1 rfl (by omega) (by omega) (by first | exact Nat.le_of_ble_eq_true rfl | omega) dX8_scan_29 (fun w_26 ew_26 => ?_)
      have ew_26 : xb (k0_1.toNat) = w_26 := ew_26
      subst ew_26
      have b0w_26 := y0_ (k0_1.toNat)
      refine lv_bipush (v := iI 32) hx hb dX8_scan_30 (by decide) ?_
      refine lv_icmp_ne (tgt := 41) hx hb dX8_scan_32 (by decide) (fun c_27 => ?_) (fun c_27 => ?_)
      · have c_27 : ¬ ((xb (k0_1.toNat)) = 32) := fun h9 => c_27 ((iI_eq (a := (xb (k0_1.toNat))) (b := 32) (by omega) (by first | decide | omega)).mpr h9)
        refine lv_aload_n hx hb dX8_scan_41 rfl (lv_at hl 2 rfl) ?_
        refine lv_iload_n hx hb dX8_scan_42 rfl (lv_at hl 1 rfl) ?_
        refine g_calli (wr := []) (va_runV (As := [.int (iI k0_1)]) (rest := []) ⟨hx, hb, hml, hown, hts⟩ (c_X8_scanToken l G (t0) (x_bytes) (x_sorts) (x_starts) (x_values) (x_length) (et_6) (xb) (Es_3) (Ea_4) (Ev_5) (k0_1) (by first | exact y0_ | exact bd_mono y0_ (by omega) (by omega) | assumption) (by first | exact f_11 | exact bd_mono f_11 (by omega) (by omega) | assumption) (by first | exact f_12 | exact bd_mono f_12 (by omega) (by omega) | assumption) (by first | exact f_13 | exact bd_mono f_13 (by omega) (by omega) | assumption) (by first | exact y4_ | assumption | omega) (by first | assumption | omega) (by first | assumption | omega) (by first | assumption | omega) _) (cwV 1 hts gX8_scan_X8_scanToken rfl rfl rfl (by decide +kernel) ⟨Nat.le_of_ble_eq_true rfl, Nat.le_of_ble_eq_true rfl⟩) (g_preV t0 [.int (iI k0_1)] hP hD hK hN hS hA hZ [0, 1, 2, 3, 4] rfl rfl 0 (ci := 7) rfl rfl) rfl rfl hl.1 rfl (lv_room (Nat.le_of_ble_eq_true rfl)) dX8_scan_43 ⟨Nat.le_of_ble_eq_true rfl, Nat.le_of_ble_eq_true rfl⟩) hP hD hS hA [0, 1, 2, 3, 4] [] rfl rfl rfl (by decide) (fun r_28 u H locs hw hP hD hS => ?_)
        refine ea_3_7 hw (fun rr_29 ss_30 vv_31 k_32 k_33 k_34 k_35 k_36 e8_0 e8_1 => ?_)
        subst e8_0
        subst e8_1
        clear hw
        have hPD : PD G A H [oB7 t0 x_bytes x_sorts x_starts x_values x_length (et_6 + 1), iB G x_bytes 150 xb, iB G x_sorts 151 (uI Es_3 (et_6.toNat) ss_30), iB G x_starts 151 (uI Ea_4 (et_6.toNat) k0_1), iB G x_values 151 (uI Ev_5 (et_6.toNat) vv_31)] := ⟨hP, hD⟩
        have hP := hPD.1
        have hD := hPD.2
        clear hPD
        refine lv_istore_n (lv' := [(1, .int (iI rr_29)), (2, .int (iI j0_2)), (0, .ref t0)]) hx hb dX8_scan_46 rfl hl (by decide) rfl (fun ls hl => ?_)
        refine lv_iinc (v := iI (j0_2 + 1)) (lv' := [(2, .int (iI (j0_2 + 1))), (1, .int (iI rr_29)), (0, .ref t0)]) hx hb dX8_scan_47 hl (k := 1) rfl (iI_add j0_2 1) (by decide) rfl (fun ls hl => ?_)
        refine lv_goto (tgt := 9) hx hb dX8_scan_50 (by decide) ?_
        exact ih_15 _ _ _ _ (by omega) ⟨rr_29, (j0_2 + 1), (uI Es_3 (et_6.toNat) ss_30), (uI Ea_4 (et_6.toNat) k0_1), (uI Ev_5 (et_6.toNat) vv_31), (et_6 + 1), (by first | assumption | omega), (by first | assumption | omega), (by first | assumption | omega), (by first | assumption | omega), (by first | exact k_34 | exact bd_mono k_34 (by omega) (by omega) | assumption), (by first | exact k_35 | exact bd_mono k_35 (by omega) (by omega) | assumption), (by first | exact k_36 | exact bd_mono k_36 (by omega) (by omega) | assumption), (chn_t (by assumption) (by omega) (by omega) (by assumption)), rfl, hP, hD, hS, lv_sub hl [0, 1, 2] rfl⟩
      · have c_27 := (iI_eq (a := (xb (k0_1.toNat))) (b := 32) (by omega) (by first | decide | omega)).mp c_27
        refine lv_iload_n hx hb dX8_scan_35 rfl (lv_at hl 1 rfl) ?_
        refine lv_iconst (v := iI 1) hx hb dX8_scan_36 rfl ?_
        refine lv_iadd hx hb dX8_scan_37 ?_
        refine g_topi (y := iI (k0_1 + 1)) (iI_add k0_1 1) ?_
        refine lv_goto (tgt := 46) hx hb dX8_scan_38 (by decide) ?_
        refine lv_istore_n (lv' := [(1, .int (iI (k0_1 + 1))), (2, .int (iI j0_2)), (0, .ref t0)]) hx hb dX8_scan_46 rfl hl (by decide) rfl (fun ls hl => ?_)
        refine lv_iinc (v := iI (j0_2 + 1)) (lv' := [(2, .int (iI (j0_2 + 1))), (1, .int (iI (k0_1 + 1))), (0, .ref t0)]) hx hb dX8_scan_47 hl (k := 1) rfl (iI_add j0_2 1) (by decide) rfl (fun ls hl => ?_)
        refine lv_goto (tgt := 9) hx hb dX8_scan_50 (by decide) ?_
        exact ih_15 _ _ _ _ (by omega) ⟨(k0_1 + 1), (j0_2 + 1), Es_3, Ea_4, Ev_5, et_6, (by first | assumption | omega), (by first | assumption | omega), (by first | assumption | omega), (by first | assumption | omega), (by first | exact f_11 | exact bd_mono f_11 (by omega) (by omega) | assumption), (by first | exact f_12 | exact bd_mono f_12 (by omega) (by omega) | assumption), (by first | exact f_13 | exact bd_mono f_13 (by omega) (by omega) | assumption), (chn_b (by assumption) (by omega) (by omega)), rfl, hP, hD, hS, lv_sub hl [0, 1, 2] rfl⟩
