theorem dX8_addByte_0 : decode cX8_addByte 0 = .ok (.aload_n 0, 1) := by decide +kernel
theorem dX8_addByte_1 : decode cX8_addByte 1 = .ok (.getfield 24, 3) := by decide +kernel
theorem dX8_addByte_4 : decode cX8_addByte 4 = .ok (.sipush 150, 3) := by decide +kernel
theorem dX8_addByte_7 : decode cX8_addByte 7 = .ok (.if_icmp .ge 23, 3) := by decide +kernel
theorem dX8_addByte_10 : decode cX8_addByte 10 = .ok (.aload_n 0, 1) := by decide +kernel
theorem dX8_addByte_11 : decode cX8_addByte 11 = .ok (.getfield 9, 3) := by decide +kernel
theorem dX8_addByte_14 : decode cX8_addByte 14 = .ok (.aload_n 0, 1) := by decide +kernel
theorem dX8_addByte_15 : decode cX8_addByte 15 = .ok (.getfield 24, 3) := by decide +kernel
theorem dX8_addByte_18 : decode cX8_addByte 18 = .ok (.iload_n 1, 1) := by decide +kernel
theorem dX8_addByte_19 : decode cX8_addByte 19 = .ok (.iastore, 1) := by decide +kernel
theorem dX8_addByte_20 : decode cX8_addByte 20 = .ok (.aload_n 0, 1) := by decide +kernel
theorem dX8_addByte_21 : decode cX8_addByte 21 = .ok (.dup, 1) := by decide +kernel
theorem dX8_addByte_22 : decode cX8_addByte 22 = .ok (.getfield 24, 3) := by decide +kernel
theorem dX8_addByte_25 : decode cX8_addByte 25 = .ok (.iconst 1, 1) := by decide +kernel
theorem dX8_addByte_26 : decode cX8_addByte 26 = .ok (.iadd, 1) := by decide +kernel
theorem dX8_addByte_27 : decode cX8_addByte 27 = .ok (.putfield 24, 3) := by decide +kernel
theorem dX8_addByte_30 : decode cX8_addByte 30 = .ok (.aload_n 0, 1) := by decide +kernel
theorem dX8_addByte_31 : decode cX8_addByte 31 = .ok (.getfield 24, 3) := by decide +kernel
theorem dX8_addByte_34 : decode cX8_addByte 34 = .ok (.ireturn, 1) := by decide +kernel
set_option maxHeartbeats 8000000 in
set_option maxRecDepth 100000 in
theorem c_X8_addByte (l : Launch) (G : gG) (t0 : Nat) (x_bytes : Nat) (x_sorts : Nat) (x_starts : Nat) (x_values : Nat) (x_length : Int) (x_tokens : Int) (xb : Nat → Int) (c0 : Int) (y0_ : bd 0 127 xb) (y1_ : 0 ≤ x_length ∧ x_length ≤ 150) (y2_ : 0 ≤ x_tokens ∧ x_tokens ≤ 151) (hc : 0 ≤ c0 ∧ c0 ≤ 127) (hl : x_length < 150) (sz : Nat) : gI G l yX8_addByte wsX8_addByte ({ frames := 0, cells := 0, slots := 0, locals := 0 } : Room) [.ref t0, .int (iI c0)] [(t0, .inr (7, [.ref x_bytes, .ref x_sorts, .ref x_starts, .ref x_values, .int (iI x_length), .int (iI x_tokens)])), (x_bytes, .inl (G.2 0, 150, .inl (cI xb)))] sz (fun (r : Int32) (u : va_W) => (∃ Nb : Nat → Int, (bd 0 127 Nb) ∧ r = (iI (x_length + 1)) ∧ u = [(t0, .inr (7, [.ref x_bytes, .ref x_sorts, .ref x_starts, .ref x_values, .int (iI (x_length + 1)), .int (iI x_tokens)])), (x_bytes, .inl (G.2 0, 150, .inl (cI Nb)))])) := by
  refine Met.ofW (cc := cX8_addByte) (maxL := 2) (ret := (some .int)) (by decide) rfl ?_
  intro p e s m args below meth c s₁ B hml hv
  obtain ⟨rfl, hsz, hP, hK, hD0, hN, hZ⟩ := hv
  have hx := B.exec
  have hb := B.bytes
  have hr := B.returns
  have hts := atoms_spec (ws := wsX8_addByte) B.pre
  have hown : s.vm.findClass RX8 = some m.cls := findClass_of_methodNamed B.named
  have hlocks := B.notSynchronized
  subst hsz
  have hD := hD0.self (sz := s.heap.size)
  generalize hAe : va_A [(t0, .inr (7, [.ref x_bytes, .ref x_sorts, .ref x_starts, .ref x_values, .int (iI x_length), .int (iI x_tokens)])), (x_bytes, .inl (G.2 0, 150, .inl (cI xb)))] s.heap.size = A at hD hZ ⊢
  have hA : ∀ q : Nat, s.heap.size ≤ q → A q := fun q h => by rw [← hAe]; exact Or.inr h
  have hS : va_S A s.heap s.heap [] := va_S.rf
  have hP : va_P G.1 vwCl [(t0, .inr (7, [.ref x_bytes, .ref x_sorts, .ref x_starts, .ref x_values, .int (iI x_length), .int (iI x_tokens)])), (x_bytes, .inl (G.2 0, 150, .inl (cI xb)))] s.heap := hP
  have hl := lv_entry ([.ref t0, .int (iI c0)]) (n := 2) (Nat.le_of_ble_eq_true rfl)
  rw [lg_entry_eq]
  generalize (lg_sl ([.ref t0, .int (iI c0)]) ++ List.replicate (2 - (lg_sl ([.ref t0, .int (iI c0)])).length) Slot.unset).toArray = ls at hl ⊢
  have hl : lv_has ls 2 [(0, .ref t0), (1, .int (iI c0))] := hl
  refine lv_aload_n hx hb dX8_addByte_0 rfl (lv_at hl 0 rfl) ?_
  refine va_get (D := G.1) (ci := 7) (v := .int (iI x_length)) (C := RX8) (T := TX8) (N := 6) hx hb hts (fun _ h => List.mem_cons_of_mem _ (List.mem_append_right _ h)) hown hK hP 0 rfl rfl 4 (by decide) (hts _ (List.mem_of_getElem? (i := 1) rfl)) (fun _ h9 => h9) rfl dX8_addByte_1 ?_
  refine lv_sipush (v := iI 150) hx hb dX8_addByte_4 (by decide) ?_
  refine lv_icmp_ge (tgt := 30) hx hb dX8_addByte_7 (by decide) (fun c_1 => ?_) (fun c_1 => ?_)
  · have c_1 := (iI_le (a := 150) (b := x_length) (by omega) (by omega)).mp c_1
    exfalso
    omega
  · have c_1 : ¬ (150 ≤ x_length) := fun h9 => c_1 ((iI_le (a := 150) (b := x_length) (by omega) (by omega)).mpr h9)
    refine lv_aload_n hx hb dX8_addByte_10 rfl (lv_at hl 0 rfl) ?_
    refine va_get (D := G.1) (ci := 7) (v := .ref x_bytes) (C := RX8) (T := TX8) (N := 6) hx hb hts (fun _ h => List.mem_cons_of_mem _ (List.mem_append_right _ h)) hown hK hP 0 rfl rfl 0 (by decide) (hts _ (List.mem_of_getElem? (i := 2) rfl)) (fun _ h9 => h9) rfl dX8_addByte_11 ?_
    refine lv_aload_n hx hb dX8_addByte_14 rfl (lv_at hl 0 rfl) ?_
    refine va_get (D := G.1) (ci := 7) (v := .int (iI x_length)) (C := RX8) (T := TX8) (N := 6) hx hb hts (fun _ h => List.mem_cons_of_mem _ (List.mem_append_right _ h)) hown hK hP 0 rfl rfl 4 (by decide) (hts _ (List.mem_of_getElem? (i := 1) rfl)) (fun _ h9 => h9) rfl dX8_addByte_15 ?_
    refine lv_iload_n hx hb dX8_addByte_18 rfl (lv_at hl 1 rfl) ?_
    refine g_ist hx hb hK hP hD hS 1 rfl (by omega) (by omega) (by omega) dX8_addByte_19 (fun H locs hP hD hS => ?_)
    have hb_3 := bd_u (k := (x_length.toNat)) (v := c0) y0_ (by omega) (by omega)
    have hP : va_P G.1 vwCl [(t0, .inr (7, [.ref x_bytes, .ref x_sorts, .ref x_starts, .ref x_values, .int (iI x_length), .int (iI x_tokens)])), (x_bytes, .inl (G.2 0, 150, .inl (cI (uI xb (x_length.toNat) c0))))] H := hP
    have hD : va_D A [(t0, .inr (7, [.ref x_bytes, .ref x_sorts, .ref x_starts, .ref x_values, .int (iI x_length), .int (iI x_tokens)])), (x_bytes, .inl (G.2 0, 150, .inl (cI (uI xb (x_length.toNat) c0))))] := hD
    generalize hF_2 : (uI xb (x_length.toNat) c0) = F_2 at hP hD hb_3
    refine lv_aload_n hx hb dX8_addByte_20 rfl (lv_at hl 0 rfl) ?_
    refine lv_dup hx hb dX8_addByte_21 rfl ?_
    refine va_get (D := G.1) (ci := 7) (v := .int (iI x_length)) (C := RX8) (T := TX8) (N := 6) hx hb hts (fun _ h => List.mem_cons_of_mem _ (List.mem_append_right _ h)) hown hK hP 0 rfl rfl 4 (by decide) (hts _ (List.mem_of_getElem? (i := 1) rfl)) (fun _ h9 => h9) rfl dX8_addByte_22 ?_
    refine lv_iconst (v := iI 1) hx hb dX8_addByte_25 rfl ?_
    refine lv_iadd hx hb dX8_addByte_26 ?_
    refine g_topi (y := iI (x_length + 1)) (iI_add x_length 1) ?_
    refine va_put (D := G.1) (ci := 7) (v := .int (iI (x_length + 1))) (ty := .int) (C := RX8) (T := TX8) (N := 6) hx hb hts (fun _ h => List.mem_cons_of_mem _ (List.mem_append_right _ h)) tyX8 tyX8_ok nmX8 hown hK hP hD hS 0 rfl rfl 4 (by decide) (hts _ (List.mem_of_getElem? (i := 1) rfl)) (fun _ h9 => h9) rfl (by decide +kernel) rfl rfl (Nat.le_of_ble_eq_true rfl) dX8_addByte_27 (fun H locs hP hD hS => ?_)
    have hP : va_P G.1 vwCl [(t0, .inr (7, [.ref x_bytes, .ref x_sorts, .ref x_starts, .ref x_values, .int (iI (x_length + 1)), .int (iI x_tokens)])), (x_bytes, .inl (G.2 0, 150, .inl (cI F_2)))] H := hP
    have hD : va_D A [(t0, .inr (7, [.ref x_bytes, .ref x_sorts, .ref x_starts, .ref x_values, .int (iI (x_length + 1)), .int (iI x_tokens)])), (x_bytes, .inl (G.2 0, 150, .inl (cI F_2)))] := hD
    refine lv_aload_n hx hb dX8_addByte_30 rfl (lv_at hl 0 rfl) ?_
    refine va_get (D := G.1) (ci := 7) (v := .int (iI (x_length + 1))) (C := RX8) (T := TX8) (N := 6) hx hb hts (fun _ h => List.mem_cons_of_mem _ (List.mem_append_right _ h)) hown hK hP 0 rfl rfl 4 (by decide) (hts _ (List.mem_of_getElem? (i := 1) rfl)) (fun _ h9 => h9) rfl dX8_addByte_31 ?_
    exact g_iret (v := (iI (x_length + 1))) hx hb hr hlocks hP hD hS (⟨F_2, (by first | assumption | exact hb_3 | exact bd_mono hb_3 (by omega) (by omega)), rfl, rfl⟩) dX8_addByte_34
theorem dX8_addToken_0 : decode cX8_addToken 0 = .ok (.aload_n 0, 1) := by decide +kernel
theorem dX8_addToken_1 : decode cX8_addToken 1 = .ok (.getfield 28, 3) := by decide +kernel
theorem dX8_addToken_4 : decode cX8_addToken 4 = .ok (.sipush 150, 3) := by decide +kernel
theorem dX8_addToken_7 : decode cX8_addToken 7 = .ok (.if_icmp .gt 43, 3) := by decide +kernel
theorem dX8_addToken_50 : decode cX8_addToken 50 = .ok (.return_, 1) := by decide +kernel
theorem dX8_addToken_10 : decode cX8_addToken 10 = .ok (.aload_n 0, 1) := by decide +kernel
theorem dX8_addToken_11 : decode cX8_addToken 11 = .ok (.getfield 15, 3) := by decide +kernel
theorem dX8_addToken_14 : decode cX8_addToken 14 = .ok (.aload_n 0, 1) := by decide +kernel
theorem dX8_addToken_15 : decode cX8_addToken 15 = .ok (.getfield 28, 3) := by decide +kernel
theorem dX8_addToken_18 : decode cX8_addToken 18 = .ok (.iload_n 1, 1) := by decide +kernel
theorem dX8_addToken_19 : decode cX8_addToken 19 = .ok (.iastore, 1) := by decide +kernel
theorem dX8_addToken_20 : decode cX8_addToken 20 = .ok (.aload_n 0, 1) := by decide +kernel
theorem dX8_addToken_21 : decode cX8_addToken 21 = .ok (.getfield 18, 3) := by decide +kernel
theorem dX8_addToken_24 : decode cX8_addToken 24 = .ok (.aload_n 0, 1) := by decide +kernel
theorem dX8_addToken_25 : decode cX8_addToken 25 = .ok (.getfield 28, 3) := by decide +kernel
theorem dX8_addToken_28 : decode cX8_addToken 28 = .ok (.iload_n 2, 1) := by decide +kernel
theorem dX8_addToken_29 : decode cX8_addToken 29 = .ok (.iastore, 1) := by decide +kernel
theorem dX8_addToken_30 : decode cX8_addToken 30 = .ok (.aload_n 0, 1) := by decide +kernel
theorem dX8_addToken_31 : decode cX8_addToken 31 = .ok (.getfield 21, 3) := by decide +kernel
theorem dX8_addToken_34 : decode cX8_addToken 34 = .ok (.aload_n 0, 1) := by decide +kernel
theorem dX8_addToken_35 : decode cX8_addToken 35 = .ok (.getfield 28, 3) := by decide +kernel
theorem dX8_addToken_38 : decode cX8_addToken 38 = .ok (.iload_n 3, 1) := by decide +kernel
theorem dX8_addToken_39 : decode cX8_addToken 39 = .ok (.iastore, 1) := by decide +kernel
theorem dX8_addToken_40 : decode cX8_addToken 40 = .ok (.aload_n 0, 1) := by decide +kernel
theorem dX8_addToken_41 : decode cX8_addToken 41 = .ok (.dup, 1) := by decide +kernel
theorem dX8_addToken_42 : decode cX8_addToken 42 = .ok (.getfield 28, 3) := by decide +kernel
theorem dX8_addToken_45 : decode cX8_addToken 45 = .ok (.iconst 1, 1) := by decide +kernel
theorem dX8_addToken_46 : decode cX8_addToken 46 = .ok (.iadd, 1) := by decide +kernel
theorem dX8_addToken_47 : decode cX8_addToken 47 = .ok (.putfield 28, 3) := by decide +kernel
set_option maxHeartbeats 8000000 in
set_option maxRecDepth 100000 in
theorem c_X8_addToken (l : Launch) (G : gG) (t0 : Nat) (x_bytes : Nat) (x_sorts : Nat) (x_starts : Nat) (x_values : Nat) (x_length : Int) (x_tokens : Int) (xs : Nat → Int) (xa : Nat → Int) (xv : Nat → Int) (a1 : Int) (a2 : Int) (a3 : Int) (y0_ : bd 0 10 xs) (y1_ : bd 0 150 xa) (y2_ : bd (-1000) 3000 xv) (y3_ : 0 ≤ x_length ∧ x_length ≤ 150) (y4_ : 0 ≤ x_tokens ∧ x_tokens ≤ 151) (h1 : 0 ≤ a1 ∧ a1 ≤ 10) (h2 : 0 ≤ a2 ∧ a2 ≤ 150) (h3 : -1000 ≤ a3 ∧ a3 ≤ 3000) (sz : Nat) : gV G l yX8_addToken wsX8_addToken ({ frames := 0, cells := 0, slots := 0, locals := 0 } : Room) [.ref t0, .int (iI a1), .int (iI a2), .int (iI a3)] [(t0, .inr (7, [.ref x_bytes, .ref x_sorts, .ref x_starts, .ref x_values, .int (iI x_length), .int (iI x_tokens)])), (x_sorts, .inl (G.2 0, 151, .inl (cI xs))), (x_starts, .inl (G.2 0, 151, .inl (cI xa))), (x_values, .inl (G.2 0, 151, .inl (cI xv)))] sz (fun (u : va_W) => (∃ Nt : Int, ∃ Ns : Nat → Int, ∃ Na : Nat → Int, ∃ Nv : Nat → Int, (1 ≤ Nt ∧ Nt ≤ 151) ∧ (bd 0 10 Ns) ∧ (bd 0 150 Na) ∧ (bd (-1000) 3000 Nv) ∧ u = [(t0, .inr (7, [.ref x_bytes, .ref x_sorts, .ref x_starts, .ref x_values, .int (iI x_length), .int (iI Nt)])), (x_sorts, .inl (G.2 0, 151, .inl (cI Ns))), (x_starts, .inl (G.2 0, 151, .inl (cI Na))), (x_values, .inl (G.2 0, 151, .inl (cI Nv)))])) := by
  refine Met.ofW (cc := cX8_addToken) (maxL := 4) (ret := none) (by decide) rfl ?_
  intro p e s m args below meth c s₁ B hml hv
  obtain ⟨rfl, hsz, hP, hK, hD0, hN, hZ⟩ := hv
  have hx := B.exec
  have hb := B.bytes
  have hr := B.returns
  have hts := atoms_spec (ws := wsX8_addToken) B.pre
  have hown : s.vm.findClass RX8 = some m.cls := findClass_of_methodNamed B.named
  have hlocks := B.notSynchronized
  subst hsz
  have hD := hD0.self (sz := s.heap.size)
  generalize hAe : va_A [(t0, .inr (7, [.ref x_bytes, .ref x_sorts, .ref x_starts, .ref x_values, .int (iI x_length), .int (iI x_tokens)])), (x_sorts, .inl (G.2 0, 151, .inl (cI xs))), (x_starts, .inl (G.2 0, 151, .inl (cI xa))), (x_values, .inl (G.2 0, 151, .inl (cI xv)))] s.heap.size = A at hD hZ ⊢
  have hA : ∀ q : Nat, s.heap.size ≤ q → A q := fun q h => by rw [← hAe]; exact Or.inr h
  have hS : va_S A s.heap s.heap [] := va_S.rf
  have hP : va_P G.1 vwCl [(t0, .inr (7, [.ref x_bytes, .ref x_sorts, .ref x_starts, .ref x_values, .int (iI x_length), .int (iI x_tokens)])), (x_sorts, .inl (G.2 0, 151, .inl (cI xs))), (x_starts, .inl (G.2 0, 151, .inl (cI xa))), (x_values, .inl (G.2 0, 151, .inl (cI xv)))] s.heap := hP
  have hl := lv_entry ([.ref t0, .int (iI a1), .int (iI a2), .int (iI a3)]) (n := 4) (Nat.le_of_ble_eq_true rfl)
  rw [lg_entry_eq]
  generalize (lg_sl ([.ref t0, .int (iI a1), .int (iI a2), .int (iI a3)]) ++ List.replicate (4 - (lg_sl ([.ref t0, .int (iI a1), .int (iI a2), .int (iI a3)])).length) Slot.unset).toArray = ls at hl ⊢
  have hl : lv_has ls 4 [(0, .ref t0), (1, .int (iI a1)), (2, .int (iI a2)), (3, .int (iI a3))] := hl
  refine lv_aload_n hx hb dX8_addToken_0 rfl (lv_at hl 0 rfl) ?_
  refine va_get (D := G.1) (ci := 7) (v := .int (iI x_tokens)) (C := RX8) (T := TX8) (N := 6) hx hb hts (fun _ h => List.mem_cons_of_mem _ (List.mem_append_right _ h)) hown hK hP 0 rfl rfl 5 (by decide) (hts _ (List.mem_of_getElem? (i := 1) rfl)) (fun _ h9 => h9) rfl dX8_addToken_1 ?_
  refine lv_sipush (v := iI 150) hx hb dX8_addToken_4 (by decide) ?_
  refine lv_icmp_gt (tgt := 50) hx hb dX8_addToken_7 (by decide) (fun c_1 => ?_) (fun c_1 => ?_)
  · have c_1 := (iI_lt (a := 150) (b := x_tokens) (by omega) (by omega)).mp c_1
    exact g_vret hx hb hr hlocks hP hD hS (⟨x_tokens, xs, xa, xv, (by first | assumption | omega), (by first | assumption | exact y0_ | exact bd_mono y0_ (by omega) (by omega)), (by first | assumption | exact y1_ | exact bd_mono y1_ (by omega) (by omega)), (by first | assumption | exact y2_ | exact bd_mono y2_ (by omega) (by omega)), rfl⟩) dX8_addToken_50
  · have c_1 : ¬ (150 < x_tokens) := fun h9 => c_1 ((iI_lt (a := 150) (b := x_tokens) (by omega) (by omega)).mpr h9)
    refine lv_aload_n hx hb dX8_addToken_10 rfl (lv_at hl 0 rfl) ?_
    refine va_get (D := G.1) (ci := 7) (v := .ref x_sorts) (C := RX8) (T := TX8) (N := 6) hx hb hts (fun _ h => List.mem_cons_of_mem _ (List.mem_append_right _ h)) hown hK hP 0 rfl rfl 1 (by decide) (hts _ (List.mem_of_getElem? (i := 2) rfl)) (fun _ h9 => h9) rfl dX8_addToken_11 ?_
    refine lv_aload_n hx hb dX8_addToken_14 rfl (lv_at hl 0 rfl) ?_
    refine va_get (D := G.1) (ci := 7) (v := .int (iI x_tokens)) (C := RX8) (T := TX8) (N := 6) hx hb hts (fun _ h => List.mem_cons_of_mem _ (List.mem_append_right _ h)) hown hK hP 0 rfl rfl 5 (by decide) (hts _ (List.mem_of_getElem? (i := 1) rfl)) (fun _ h9 => h9) rfl dX8_addToken_15 ?_
    refine lv_iload_n hx hb dX8_addToken_18 rfl (lv_at hl 1 rfl) ?_
    refine g_ist hx hb hK hP hD hS 1 rfl (by omega) (by omega) (by omega) dX8_addToken_19 (fun H locs hP hD hS => ?_)
    have hb_3 := bd_u (k := (x_tokens.toNat)) (v := a1) y0_ (by omega) (by omega)
    have hP : va_P G.1 vwCl [(t0, .inr (7, [.ref x_bytes, .ref x_sorts, .ref x_starts, .ref x_values, .int (iI x_length), .int (iI x_tokens)])), (x_sorts, .inl (G.2 0, 151, .inl (cI (uI xs (x_tokens.toNat) a1)))), (x_starts, .inl (G.2 0, 151, .inl (cI xa))), (x_values, .inl (G.2 0, 151, .inl (cI xv)))] H := hP
    have hD : va_D A [(t0, .inr (7, [.ref x_bytes, .ref x_sorts, .ref x_starts, .ref x_values, .int (iI x_length), .int (iI x_tokens)])), (x_sorts, .inl (G.2 0, 151, .inl (cI (uI xs (x_tokens.toNat) a1)))), (x_starts, .inl (G.2 0, 151, .inl (cI xa))), (x_values, .inl (G.2 0, 151, .inl (cI xv)))] := hD
    generalize hF_2 : (uI xs (x_tokens.toNat) a1) = F_2 at hP hD hb_3
    refine lv_aload_n hx hb dX8_addToken_20 rfl (lv_at hl 0 rfl) ?_
    refine va_get (D := G.1) (ci := 7) (v := .ref x_starts) (C := RX8) (T := TX8) (N := 6) hx hb hts (fun _ h => List.mem_cons_of_mem _ (List.mem_append_right _ h)) hown hK hP 0 rfl rfl 2 (by decide) (hts _ (List.mem_of_getElem? (i := 3) rfl)) (fun _ h9 => h9) rfl dX8_addToken_21 ?_
    refine lv_aload_n hx hb dX8_addToken_24 rfl (lv_at hl 0 rfl) ?_
    refine va_get (D := G.1) (ci := 7) (v := .int (iI x_tokens)) (C := RX8) (T := TX8) (N := 6) hx hb hts (fun _ h => List.mem_cons_of_mem _ (List.mem_append_right _ h)) hown hK hP 0 rfl rfl 5 (by decide) (hts _ (List.mem_of_getElem? (i := 1) rfl)) (fun _ h9 => h9) rfl dX8_addToken_25 ?_
    refine lv_iload_n hx hb dX8_addToken_28 rfl (lv_at hl 2 rfl) ?_
    refine g_ist hx hb hK hP hD hS 2 rfl (by omega) (by omega) (by omega) dX8_addToken_29 (fun H locs hP hD hS => ?_)
    have hb_5 := bd_u (k := (x_tokens.toNat)) (v := a2) y1_ (by omega) (by omega)
    have hP : va_P G.1 vwCl [(t0, .inr (7, [.ref x_bytes, .ref x_sorts, .ref x_starts, .ref x_values, .int (iI x_length), .int (iI x_tokens)])), (x_sorts, .inl (G.2 0, 151, .inl (cI F_2))), (x_starts, .inl (G.2 0, 151, .inl (cI (uI xa (x_tokens.toNat) a2)))), (x_values, .inl (G.2 0, 151, .inl (cI xv)))] H := hP
    have hD : va_D A [(t0, .inr (7, [.ref x_bytes, .ref x_sorts, .ref x_starts, .ref x_values, .int (iI x_length), .int (iI x_tokens)])), (x_sorts, .inl (G.2 0, 151, .inl (cI F_2))), (x_starts, .inl (G.2 0, 151, .inl (cI (uI xa (x_tokens.toNat) a2)))), (x_values, .inl (G.2 0, 151, .inl (cI xv)))] := hD
    generalize hF_4 : (uI xa (x_tokens.toNat) a2) = F_4 at hP hD hb_5
    refine lv_aload_n hx hb dX8_addToken_30 rfl (lv_at hl 0 rfl) ?_
    refine va_get (D := G.1) (ci := 7) (v := .ref x_values) (C := RX8) (T := TX8) (N := 6) hx hb hts (fun _ h => List.mem_cons_of_mem _ (List.mem_append_right _ h)) hown hK hP 0 rfl rfl 3 (by decide) (hts _ (List.mem_of_getElem? (i := 4) rfl)) (fun _ h9 => h9) rfl dX8_addToken_31 ?_
    refine lv_aload_n hx hb dX8_addToken_34 rfl (lv_at hl 0 rfl) ?_
    refine va_get (D := G.1) (ci := 7) (v := .int (iI x_tokens)) (C := RX8) (T := TX8) (N := 6) hx hb hts (fun _ h => List.mem_cons_of_mem _ (List.mem_append_right _ h)) hown hK hP 0 rfl rfl 5 (by decide) (hts _ (List.mem_of_getElem? (i := 1) rfl)) (fun _ h9 => h9) rfl dX8_addToken_35 ?_
    refine lv_iload_n hx hb dX8_addToken_38 rfl (lv_at hl 3 rfl) ?_
    refine g_ist hx hb hK hP hD hS 3 rfl (by omega) (by omega) (by omega) dX8_addToken_39 (fun H locs hP hD hS => ?_)
    have hb_7 := bd_u (k := (x_tokens.toNat)) (v := a3) y2_ (by omega) (by omega)
    have hP : va_P G.1 vwCl [(t0, .inr (7, [.ref x_bytes, .ref x_sorts, .ref x_starts, .ref x_values, .int (iI x_length), .int (iI x_tokens)])), (x_sorts, .inl (G.2 0, 151, .inl (cI F_2))), (x_starts, .inl (G.2 0, 151, .inl (cI F_4))), (x_values, .inl (G.2 0, 151, .inl (cI (uI xv (x_tokens.toNat) a3))))] H := hP
    have hD : va_D A [(t0, .inr (7, [.ref x_bytes, .ref x_sorts, .ref x_starts, .ref x_values, .int (iI x_length), .int (iI x_tokens)])), (x_sorts, .inl (G.2 0, 151, .inl (cI F_2))), (x_starts, .inl (G.2 0, 151, .inl (cI F_4))), (x_values, .inl (G.2 0, 151, .inl (cI (uI xv (x_tokens.toNat) a3))))] := hD
    generalize hF_6 : (uI xv (x_tokens.toNat) a3) = F_6 at hP hD hb_7
    refine lv_aload_n hx hb dX8_addToken_40 rfl (lv_at hl 0 rfl) ?_
    refine lv_dup hx hb dX8_addToken_41 rfl ?_
    refine va_get (D := G.1) (ci := 7) (v := .int (iI x_tokens)) (C := RX8) (T := TX8) (N := 6) hx hb hts (fun _ h => List.mem_cons_of_mem _ (List.mem_append_right _ h)) hown hK hP 0 rfl rfl 5 (by decide) (hts _ (List.mem_of_getElem? (i := 1) rfl)) (fun _ h9 => h9) rfl dX8_addToken_42 ?_
    refine lv_iconst (v := iI 1) hx hb dX8_addToken_45 rfl ?_
    refine lv_iadd hx hb dX8_addToken_46 ?_
    refine g_topi (y := iI (x_tokens + 1)) (iI_add x_tokens 1) ?_
    refine va_put (D := G.1) (ci := 7) (v := .int (iI (x_tokens + 1))) (ty := .int) (C := RX8) (T := TX8) (N := 6) hx hb hts (fun _ h => List.mem_cons_of_mem _ (List.mem_append_right _ h)) tyX8 tyX8_ok nmX8 hown hK hP hD hS 0 rfl rfl 5 (by decide) (hts _ (List.mem_of_getElem? (i := 1) rfl)) (fun _ h9 => h9) rfl (by decide +kernel) rfl rfl (Nat.le_of_ble_eq_true rfl) dX8_addToken_47 (fun H locs hP hD hS => ?_)
    have hP : va_P G.1 vwCl [(t0, .inr (7, [.ref x_bytes, .ref x_sorts, .ref x_starts, .ref x_values, .int (iI x_length), .int (iI (x_tokens + 1))])), (x_sorts, .inl (G.2 0, 151, .inl (cI F_2))), (x_starts, .inl (G.2 0, 151, .inl (cI F_4))), (x_values, .inl (G.2 0, 151, .inl (cI F_6)))] H := hP
    have hD : va_D A [(t0, .inr (7, [.ref x_bytes, .ref x_sorts, .ref x_starts, .ref x_values, .int (iI x_length), .int (iI (x_tokens + 1))])), (x_sorts, .inl (G.2 0, 151, .inl (cI F_2))), (x_starts, .inl (G.2 0, 151, .inl (cI F_4))), (x_values, .inl (G.2 0, 151, .inl (cI F_6)))] := hD
    exact g_vret hx hb hr hlocks hP hD hS (⟨(x_tokens + 1), F_2, F_4, F_6, (by first | assumption | omega), (by first | assumption | exact hb_3 | exact bd_mono hb_3 (by omega) (by omega)), (by first | assumption | exact hb_5 | exact bd_mono hb_5 (by omega) (by omega)), (by first | assumption | exact hb_7 | exact bd_mono hb_7 (by omega) (by omega)), rfl⟩) dX8_addToken_50
theorem dX8_isThere_0 : decode cX8_isThere 0 = .ok (.iload_n 3, 1) := by decide +kernel
theorem dX8_isThere_1 : decode cX8_isThere 1 = .ok (.iload_n 2, 1) := by decide +kernel
theorem dX8_isThere_2 : decode cX8_isThere 2 = .ok (.isub, 1) := by decide +kernel
theorem dX8_isThere_3 : decode cX8_isThere 3 = .ok (.aload_n 1, 1) := by decide +kernel
set_option maxRecDepth 20000 in
theorem ggX8_isThere_J0_length_8abf5 : GoodIn wsX8_isThere wsJ0_length_8abf5 := goodIn_r _ [6, 7, 8, 9, 10, 5, 11, 12, 13] (by decide +kernel) (by decide +kernel)
set_option maxRecDepth 20000 in
theorem gX8_isThere_J0_length_8abf5 : GoodIn wsX8_isThere (wsV RX8 68 RJ0 yJ0_length_8abf5 wsJ0_length_8abf5) := goodIn_app (goodIn_of _ (by decide +kernel)) ggX8_isThere_J0_length_8abf5
theorem dX8_isThere_4 : decode cX8_isThere 4 = .ok (.invokevirtual 68, 3) := by decide +kernel
theorem dX8_isThere_7 : decode cX8_isThere 7 = .ok (.if_icmp .eq 5, 3) := by decide +kernel
theorem dX8_isThere_12 : decode cX8_isThere 12 = .ok (.iconst 0, 1) := by decide +kernel
theorem dX8_isThere_13 : decode cX8_isThere 13 = .ok (.istore 4, 2) := by decide +kernel
theorem dX8_isThere_15 : decode cX8_isThere 15 = .ok (.iload 4, 2) := by decide +kernel
theorem dX8_isThere_17 : decode cX8_isThere 17 = .ok (.aload_n 1, 1) := by decide +kernel
theorem dX8_isThere_18 : decode cX8_isThere 18 = .ok (.invokevirtual 68, 3) := by decide +kernel
theorem dX8_isThere_21 : decode cX8_isThere 21 = .ok (.if_icmp .ge 29, 3) := by decide +kernel
theorem dX8_isThere_50 : decode cX8_isThere 50 = .ok (.iconst 1, 1) := by decide +kernel
theorem dX8_isThere_51 : decode cX8_isThere 51 = .ok (.ireturn, 1) := by decide +kernel
theorem dX8_isThere_24 : decode cX8_isThere 24 = .ok (.aload_n 0, 1) := by decide +kernel
theorem dX8_isThere_25 : decode cX8_isThere 25 = .ok (.getfield 9, 3) := by decide +kernel
theorem dX8_isThere_28 : decode cX8_isThere 28 = .ok (.iload_n 2, 1) := by decide +kernel
theorem dX8_isThere_29 : decode cX8_isThere 29 = .ok (.iload 4, 2) := by decide +kernel
theorem dX8_isThere_31 : decode cX8_isThere 31 = .ok (.iadd, 1) := by decide +kernel
theorem dX8_isThere_32 : decode cX8_isThere 32 = .ok (.iaload, 1) := by decide +kernel
theorem dX8_isThere_33 : decode cX8_isThere 33 = .ok (.aload_n 1, 1) := by decide +kernel
theorem dX8_isThere_34 : decode cX8_isThere 34 = .ok (.iload 4, 2) := by decide +kernel
set_option maxRecDepth 20000 in
theorem ggX8_isThere_J0_charAt_5068e : GoodIn wsX8_isThere wsJ0_charAt_5068e := goodIn_r _ [17, 7, 18, 19, 20, 5, 21, 12, 13, 22, 23, 24, 25, 26, 27, 28, 29, 30, 31, 32, 33, 34, 35, 36, 37, 38, 39, 40, 41, 42, 43, 44, 45, 46, 47, 48, 49, 50] (by decide +kernel) (by decide +kernel)
set_option maxRecDepth 20000 in
theorem gX8_isThere_J0_charAt_5068e : GoodIn wsX8_isThere (wsV RX8 73 RJ0 yJ0_charAt_5068e wsJ0_charAt_5068e) := goodIn_app (goodIn_of _ (by decide +kernel)) ggX8_isThere_J0_charAt_5068e
theorem dX8_isThere_36 : decode cX8_isThere 36 = .ok (.invokevirtual 73, 3) := by decide +kernel
theorem dX8_isThere_39 : decode cX8_isThere 39 = .ok (.if_icmp .eq 5, 3) := by decide +kernel
theorem dX8_isThere_44 : decode cX8_isThere 44 = .ok (.iinc 4 1, 3) := by decide +kernel
theorem dX8_isThere_47 : decode cX8_isThere 47 = .ok (.goto (-32), 3) := by decide +kernel
theorem dX8_isThere_42 : decode cX8_isThere 42 = .ok (.iconst 0, 1) := by decide +kernel
theorem dX8_isThere_43 : decode cX8_isThere 43 = .ok (.ireturn, 1) := by decide +kernel
theorem dX8_isThere_10 : decode cX8_isThere 10 = .ok (.iconst 0, 1) := by decide +kernel
theorem dX8_isThere_11 : decode cX8_isThere 11 = .ok (.ireturn, 1) := by decide +kernel
set_option maxHeartbeats 8000000 in
set_option maxRecDepth 100000 in
theorem c_X8_isThere (l : Launch) (G : gG) (t0 : Nat) (x_bytes : Nat) (x_sorts : Nat) (x_starts : Nat) (x_values : Nat) (x_length : Int) (x_tokens : Int) (xb : Nat → Int) (i0 : Nat) (f0 : Int) (g0 : Int) (y0_ : bd 0 127 xb) (hf : 0 ≤ f0 ∧ f0 ≤ 150) (hg : f0 ≤ g0 ∧ g0 ≤ 150) (hi0 : i0 < 7) (hz0 : ((zLen.getD i0 0 : Nat) : Int) ≤ 6) (sz : Nat) : gI G l yX8_isThere wsX8_isThere ({ frames := 4, cells := 0, slots := 0, locals := 85 } : Room) [.ref t0, .ref (G.2 (10 + i0)), .int (iI f0), .int (iI g0)] [(t0, .inr (7, [.ref x_bytes, .ref x_sorts, .ref x_starts, .ref x_values, .int (iI x_length), .int (iI x_tokens)])), (x_bytes, .inl (G.2 0, 150, .inl (cI xb)))] sz (fun (r : Int32) (u : va_W) => (∃ rr : Int, (rr = 0 ∨ rr = 1) ∧ r = (iI rr) ∧ u = [(t0, .inr (7, [.ref x_bytes, .ref x_sorts, .ref x_starts, .ref x_values, .int (iI x_length), .int (iI x_tokens)])), (x_bytes, .inl (G.2 0, 150, .inl (cI xb)))])) := by
  refine Met.ofW (cc := cX8_isThere) (maxL := 5) (ret := (some .boolean)) (by decide) rfl ?_
  intro p e s m args below meth c s₁ B hml hv
  obtain ⟨rfl, hsz, hP, hK, hD0, hN, hZ⟩ := hv
  have hx := B.exec
  have hb := B.bytes
  have hr := B.returns
  have hts := atoms_spec (ws := wsX8_isThere) B.pre
  have hown : s.vm.findClass RX8 = some m.cls := findClass_of_methodNamed B.named
  have hlocks := B.notSynchronized
  subst hsz
  have hD := hD0.self (sz := s.heap.size)
  generalize hAe : va_A [(t0, .inr (7, [.ref x_bytes, .ref x_sorts, .ref x_starts, .ref x_values, .int (iI x_length), .int (iI x_tokens)])), (x_bytes, .inl (G.2 0, 150, .inl (cI xb)))] s.heap.size = A at hD hZ ⊢
  have hA : ∀ q : Nat, s.heap.size ≤ q → A q := fun q h => by rw [← hAe]; exact Or.inr h
  have hS : va_S A s.heap s.heap [] := va_S.rf
  have hP : va_P G.1 vwCl [(t0, .inr (7, [.ref x_bytes, .ref x_sorts, .ref x_starts, .ref x_values, .int (iI x_length), .int (iI x_tokens)])), (x_bytes, .inl (G.2 0, 150, .inl (cI xb)))] s.heap := hP
  have hl := lv_entry ([.ref t0, .ref (G.2 (10 + i0)), .int (iI f0), .int (iI g0)]) (n := 5) (Nat.le_of_ble_eq_true rfl)
  rw [lg_entry_eq]
  generalize (lg_sl ([.ref t0, .ref (G.2 (10 + i0)), .int (iI f0), .int (iI g0)]) ++ List.replicate (5 - (lg_sl ([.ref t0, .ref (G.2 (10 + i0)), .int (iI f0), .int (iI g0)])).length) Slot.unset).toArray = ls at hl ⊢
  have hl : lv_has ls 5 [(0, .ref t0), (1, .ref (G.2 (10 + i0))), (2, .int (iI f0)), (3, .int (iI g0))] := hl
  refine lv_iload_n hx hb dX8_isThere_0 rfl (lv_at hl 3 rfl) ?_
  refine lv_iload_n hx hb dX8_isThere_1 rfl (lv_at hl 2 rfl) ?_
  refine lv_isub hx hb dX8_isThere_2 ?_
  refine g_topi (y := iI (g0 - f0)) (iI_sub g0 f0) ?_
  refine lv_aload_n hx hb dX8_isThere_3 rfl (lv_at hl 1 rfl) ?_
  refine g_calli (wc := []) (wr := [(t0, .inr (7, [.ref x_bytes, .ref x_sorts, .ref x_starts, .ref x_values, .int (iI x_length), .int (iI x_tokens)])), (x_bytes, .inl (G.2 0, 150, .inl (cI xb)))]) (va_runV (As := []) (rest := [.int (iI (g0 - f0))]) ⟨hx, hb, hml, hown, hts⟩ (c_J0_length_8abf5 l G (i0) (by first | assumption | omega) _) (cwV 0 hts gX8_isThere_J0_length_8abf5 rfl rfl rfl (by decide +kernel) ⟨Nat.le_of_ble_eq_true rfl, Nat.le_of_ble_eq_true rfl⟩) (g_preZ i0 (by omega) [] hP hD hK hN hS hA hZ [] rfl rfl) rfl rfl hl.1 rfl (lv_room (Nat.le_of_ble_eq_true rfl)) dX8_isThere_4 ⟨Nat.le_of_ble_eq_true rfl, Nat.le_of_ble_eq_true rfl⟩) hP hD hS hA [] [0, 1] rfl rfl rfl (by decide) (fun r_1 u H locs hw hP hD hS => ?_)
  obtain ⟨rr_2, k_3, rfl, rfl⟩ := hw
  have hP : va_P G.1 vwCl [(t0, .inr (7, [.ref x_bytes, .ref x_sorts, .ref x_starts, .ref x_values, .int (iI x_length), .int (iI x_tokens)])), (x_bytes, .inl (G.2 0, 150, .inl (cI xb)))] H := by rw [List.append_nil] at hP; exact hP
  have hD : va_D A [(t0, .inr (7, [.ref x_bytes, .ref x_sorts, .ref x_starts, .ref x_values, .int (iI x_length), .int (iI x_tokens)])), (x_bytes, .inl (G.2 0, 150, .inl (cI xb)))] := by rw [List.append_nil] at hD; exact hD
  refine lv_icmp_eq (tgt := 12) hx hb dX8_isThere_7 (by decide) (fun c_4 => ?_) (fun c_4 => ?_)
  · have c_4 := (iI_eq (a := (g0 - f0)) (b := rr_2) (by omega) (by omega)).mp c_4
    refine lv_iconst (v := iI 0) hx hb dX8_isThere_12 rfl ?_
    refine lv_istore (lv' := [(4, .int (iI 0)), (0, .ref t0), (1, .ref (G.2 (10 + i0))), (2, .int (iI f0)), (3, .int (iI g0))]) hx hb dX8_isThere_13 hl (by decide) rfl (fun ls hl => ?_)
    refine g_loopN (pc := 15) (fun nn H locs ls => ∃ k0_5 : Int, (0 ≤ k0_5 ∧ k0_5 ≤ 6) ∧ (7 - k0_5).toNat = nn ∧ va_P G.1 vwCl [(t0, .inr (7, [.ref x_bytes, .ref x_sorts, .ref x_starts, .ref x_values, .int (iI x_length), .int (iI x_tokens)])), (x_bytes, .inl (G.2 0, 150, .inl (cI xb)))] H ∧ va_D A [(t0, .inr (7, [.ref x_bytes, .ref x_sorts, .ref x_starts, .ref x_values, .int (iI x_length), .int (iI x_tokens)])), (x_bytes, .inl (G.2 0, 150, .inl (cI xb)))] ∧ va_S A s.heap H locs ∧ lv_has ls 5 [(4, .int (iI k0_5)), (0, .ref t0), (1, .ref (G.2 (10 + i0))), (2, .int (iI f0)), (3, .int (iI g0))]) ?_ ⟨0, (by first | assumption | omega), rfl, hP, hD, hS, lv_sub hl [0, 1, 2, 3, 4] rfl⟩
    intro nn_8 H locs ls ih_7 hI
    obtain ⟨k0_5, f_6, hnn_9, hP, hD, hS, hl⟩ := hI
    refine lv_iload hx hb dX8_isThere_15 (lv_at hl 0 rfl) ?_
    refine lv_aload_n hx hb dX8_isThere_17 rfl (lv_at hl 2 rfl) ?_
    refine g_calli (wc := []) (wr := [(t0, .inr (7, [.ref x_bytes, .ref x_sorts, .ref x_starts, .ref x_values, .int (iI x_length), .int (iI x_tokens)])), (x_bytes, .inl (G.2 0, 150, .inl (cI xb)))]) (va_runV (As := []) (rest := [.int (iI k0_5)]) ⟨hx, hb, hml, hown, hts⟩ (c_J0_length_8abf5 l G (i0) (by first | assumption | omega) _) (cwV 0 hts gX8_isThere_J0_length_8abf5 rfl rfl rfl (by decide +kernel) ⟨Nat.le_of_ble_eq_true rfl, Nat.le_of_ble_eq_true rfl⟩) (g_preZ i0 (by omega) [] hP hD hK hN hS hA hZ [] rfl rfl) rfl rfl hl.1 rfl (lv_room (Nat.le_of_ble_eq_true rfl)) dX8_isThere_18 ⟨Nat.le_of_ble_eq_true rfl, Nat.le_of_ble_eq_true rfl⟩) hP hD hS hA [] [0, 1] rfl rfl rfl (by decide) (fun r_10 u H locs hw hP hD hS => ?_)
    obtain ⟨rr_11, k_12, rfl, rfl⟩ := hw
    have hP : va_P G.1 vwCl [(t0, .inr (7, [.ref x_bytes, .ref x_sorts, .ref x_starts, .ref x_values, .int (iI x_length), .int (iI x_tokens)])), (x_bytes, .inl (G.2 0, 150, .inl (cI xb)))] H := by rw [List.append_nil] at hP; exact hP
    have hD : va_D A [(t0, .inr (7, [.ref x_bytes, .ref x_sorts, .ref x_starts, .ref x_values, .int (iI x_length), .int (iI x_tokens)])), (x_bytes, .inl (G.2 0, 150, .inl (cI xb)))] := by rw [List.append_nil] at hD; exact hD
    refine lv_icmp_ge (tgt := 50) hx hb dX8_isThere_21 (by decide) (fun c_13 => ?_) (fun c_13 => ?_)
    · have c_13 := (iI_le (a := rr_11) (b := k0_5) (by omega) (by omega)).mp c_13
      refine lv_iconst (v := iI 1) hx hb dX8_isThere_50 rfl ?_
      exact g_zret (v := (iI 1)) hx hb hr hlocks rfl hP hD hS (⟨1, (by first | assumption | omega), rfl, rfl⟩) dX8_isThere_51
    · have c_13 : ¬ (rr_11 ≤ k0_5) := fun h9 => c_13 ((iI_le (a := rr_11) (b := k0_5) (by omega) (by omega)).mpr h9)
      refine lv_aload_n hx hb dX8_isThere_24 rfl (lv_at hl 1 rfl) ?_
      refine va_get (D := G.1) (ci := 7) (v := .ref x_bytes) (C := RX8) (T := TX8) (N := 6) hx hb hts (fun _ h => List.mem_cons_of_mem _ (List.mem_append_right _ h)) hown hK hP 0 rfl rfl 0 (by decide) (hts _ (List.mem_of_getElem? (i := 1) rfl)) (fun _ h9 => h9) rfl dX8_isThere_25 ?_
      refine lv_iload_n hx hb dX8_isThere_28 rfl (lv_at hl 3 rfl) ?_
      refine lv_iload hx hb dX8_isThere_29 (lv_at hl 0 rfl) ?_
      refine lv_iadd hx hb dX8_isThere_31 ?_
      refine g_topi (y := iI (f0 + k0_5)) (iI_add f0 k0_5) ?_
      refine g_ild hx hb hK hP 1 rfl (by omega) (by omega) (by omega) dX8_isThere_32 (fun w_14 ew_14 => ?_)
      have b0w_14 : _ := y0_ ((f0 + k0_5).toNat)
      rw [ew_14] at b0w_14
      refine lv_aload_n hx hb dX8_isThere_33 rfl (lv_at hl 2 rfl) ?_
      refine lv_iload hx hb dX8_isThere_34 (lv_at hl 0 rfl) ?_
      refine g_calli (wc := []) (wr := [(t0, .inr (7, [.ref x_bytes, .ref x_sorts, .ref x_starts, .ref x_values, .int (iI x_length), .int (iI x_tokens)])), (x_bytes, .inl (G.2 0, 150, .inl (cI xb)))]) (va_runV (As := [.int (iI k0_5)]) (rest := [.int (iI w_14)]) ⟨hx, hb, hml, hown, hts⟩ (c_J0_charAt_5068e l G (i0) (k0_5) (by first | assumption | omega) (by first | assumption | omega) (by first | assumption | omega | decide) (by first | assumption | omega | decide) _) (cwV 1 hts gX8_isThere_J0_charAt_5068e rfl rfl rfl (by decide +kernel) ⟨Nat.le_of_ble_eq_true rfl, Nat.le_of_ble_eq_true rfl⟩) (g_preZ i0 (by omega) [.int (iI k0_5)] hP hD hK hN hS hA hZ [] rfl rfl) rfl rfl hl.1 rfl (lv_room (Nat.le_of_ble_eq_true rfl)) dX8_isThere_36 ⟨Nat.le_of_ble_eq_true rfl, Nat.le_of_ble_eq_true rfl⟩) hP hD hS hA [] [0, 1] rfl rfl rfl (by decide) (fun r_15 u H locs hw hP hD hS => ?_)
      obtain ⟨rr_16, k_17, k_18, rfl, rfl⟩ := hw
      have hP : va_P G.1 vwCl [(t0, .inr (7, [.ref x_bytes, .ref x_sorts, .ref x_starts, .ref x_values, .int (iI x_length), .int (iI x_tokens)])), (x_bytes, .inl (G.2 0, 150, .inl (cI xb)))] H := by rw [List.append_nil] at hP; exact hP
      have hD : va_D A [(t0, .inr (7, [.ref x_bytes, .ref x_sorts, .ref x_starts, .ref x_values, .int (iI x_length), .int (iI x_tokens)])), (x_bytes, .inl (G.2 0, 150, .inl (cI xb)))] := by rw [List.append_nil] at hD; exact hD
      refine lv_icmp_eq (tgt := 44) hx hb dX8_isThere_39 (by decide) (fun c_19 => ?_) (fun c_19 => ?_)
      · have c_19 := (iI_eq (a := w_14) (b := rr_16) (by omega) (by omega)).mp c_19
        refine lv_iinc (v := iI (k0_5 + 1)) (lv' := [(4, .int (iI (k0_5 + 1))), (0, .ref t0), (1, .ref (G.2 (10 + i0))), (2, .int (iI f0)), (3, .int (iI g0))]) hx hb dX8_isThere_44 hl (k := 0) rfl (iI_add k0_5 1) (by decide) rfl (fun ls hl => ?_)
        refine lv_goto (tgt := 15) hx hb dX8_isThere_47 (by decide) ?_
        exact ih_7 _ _ _ _ (by omega) ⟨(k0_5 + 1), (by first | assumption | omega), rfl, hP, hD, hS, lv_sub hl [0, 1, 2, 3, 4] rfl⟩
      · have c_19 : ¬ (w_14 = rr_16) := fun h9 => c_19 ((iI_eq (a := w_14) (b := rr_16) (by omega) (by omega)).mpr h9)
        refine lv_iconst (v := iI 0) hx hb dX8_isThere_42 rfl ?_
        exact g_zret (v := (iI 0)) hx hb hr hlocks rfl hP hD hS (⟨0, (by first | assumption | omega), rfl, rfl⟩) dX8_isThere_43
  · have c_4 : ¬ ((g0 - f0) = rr_2) := fun h9 => c_4 ((iI_eq (a := (g0 - f0)) (b := rr_2) (by omega) (by omega)).mpr h9)
    refine lv_iconst (v := iI 0) hx hb dX8_isThere_10 rfl ?_
    exact g_zret (v := (iI 0)) hx hb hr hlocks rfl hP hD hS (⟨0, (by first | assumption | omega), rfl, rfl⟩) dX8_isThere_11
theorem dX8_wordThere_0 : decode cX8_wordThere 0 = .ok (.aload_n 0, 1) := by decide +kernel
theorem dX8_wordThere_1 : decode cX8_wordThere 1 = .ok (.ldc 50, 2) := by decide +kernel
theorem dX8_wordThere_3 : decode cX8_wordThere 3 = .ok (.iload_n 1, 1) := by decide +kernel
theorem dX8_wordThere_4 : decode cX8_wordThere 4 = .ok (.iload_n 2, 1) := by decide +kernel
set_option maxRecDepth 20000 in
theorem ggX8_wordThere_X8_isThere : GoodIn wsX8_wordThere wsX8_isThere := goodIn_r _ [5, 6, 7, 8, 9, 10, 11, 12, 13, 14, 15, 16, 17, 18, 19, 20, 21, 22, 23, 24, 25, 26, 27, 28, 29, 30, 31, 32, 33, 34, 35, 36, 37, 38, 39, 40, 41, 42, 43, 44, 45, 46, 47, 48, 49, 50, 51, 52, 53, 54, 55, 56, 57, 58, 59, 60, 61] (by decide +kernel) (by decide +kernel)
set_option maxRecDepth 20000 in
theorem gX8_wordThere_X8_isThere : GoodIn wsX8_wordThere (wsV RX8 52 RX8 yX8_isThere wsX8_isThere) := goodIn_app (goodIn_of _ (by decide +kernel)) ggX8_wordThere_X8_isThere
theorem dX8_wordThere_5 : decode cX8_wordThere 5 = .ok (.invokevirtual 52, 3) := by decide +kernel
theorem dX8_wordThere_8 : decode cX8_wordThere 8 = .ok (.ifCond .eq 5, 3) := by decide +kernel
theorem dX8_wordThere_13 : decode cX8_wordThere 13 = .ok (.aload_n 0, 1) := by decide +kernel
theorem dX8_wordThere_14 : decode cX8_wordThere 14 = .ok (.ldc 56, 2) := by decide +kernel
theorem dX8_wordThere_16 : decode cX8_wordThere 16 = .ok (.iload_n 1, 1) := by decide +kernel
theorem dX8_wordThere_17 : decode cX8_wordThere 17 = .ok (.iload_n 2, 1) := by decide +kernel
theorem dX8_wordThere_18 : decode cX8_wordThere 18 = .ok (.invokevirtual 52, 3) := by decide +kernel
theorem dX8_wordThere_21 : decode cX8_wordThere 21 = .ok (.ifCond .eq 5, 3) := by decide +kernel
theorem dX8_wordThere_26 : decode cX8_wordThere 26 = .ok (.aload_n 0, 1) := by decide +kernel
theorem dX8_wordThere_27 : decode cX8_wordThere 27 = .ok (.ldc 58, 2) := by decide +kernel
theorem dX8_wordThere_29 : decode cX8_wordThere 29 = .ok (.iload_n 1, 1) := by decide +kernel
theorem dX8_wordThere_30 : decode cX8_wordThere 30 = .ok (.iload_n 2, 1) := by decide +kernel
theorem dX8_wordThere_31 : decode cX8_wordThere 31 = .ok (.invokevirtual 52, 3) := by decide +kernel
theorem dX8_wordThere_34 : decode cX8_wordThere 34 = .ok (.ifCond .eq 6, 3) := by decide +kernel
theorem dX8_wordThere_40 : decode cX8_wordThere 40 = .ok (.aload_n 0, 1) := by decide +kernel
theorem dX8_wordThere_41 : decode cX8_wordThere 41 = .ok (.ldc 60, 2) := by decide +kernel
theorem dX8_wordThere_43 : decode cX8_wordThere 43 = .ok (.iload_n 1, 1) := by decide +kernel
theorem dX8_wordThere_44 : decode cX8_wordThere 44 = .ok (.iload_n 2, 1) := by decide +kernel
theorem dX8_wordThere_45 : decode cX8_wordThere 45 = .ok (.invokevirtual 52, 3) := by decide +kernel
theorem dX8_wordThere_48 : decode cX8_wordThere 48 = .ok (.ifCond .eq 6, 3) := by decide +kernel
theorem dX8_wordThere_54 : decode cX8_wordThere 54 = .ok (.aload_n 0, 1) := by decide +kernel
theorem dX8_wordThere_55 : decode cX8_wordThere 55 = .ok (.ldc 62, 2) := by decide +kernel
theorem dX8_wordThere_57 : decode cX8_wordThere 57 = .ok (.iload_n 1, 1) := by decide +kernel
theorem dX8_wordThere_58 : decode cX8_wordThere 58 = .ok (.iload_n 2, 1) := by decide +kernel
theorem dX8_wordThere_59 : decode cX8_wordThere 59 = .ok (.invokevirtual 52, 3) := by decide +kernel
theorem dX8_wordThere_62 : decode cX8_wordThere 62 = .ok (.ifCond .eq 6, 3) := by decide +kernel
theorem dX8_wordThere_68 : decode cX8_wordThere 68 = .ok (.aload_n 0, 1) := by decide +kernel
theorem dX8_wordThere_69 : decode cX8_wordThere 69 = .ok (.ldc 64, 2) := by decide +kernel
theorem dX8_wordThere_71 : decode cX8_wordThere 71 = .ok (.iload_n 1, 1) := by decide +kernel
theorem dX8_wordThere_72 : decode cX8_wordThere 72 = .ok (.iload_n 2, 1) := by decide +kernel
theorem dX8_wordThere_73 : decode cX8_wordThere 73 = .ok (.invokevirtual 52, 3) := by decide +kernel
theorem dX8_wordThere_76 : decode cX8_wordThere 76 = .ok (.ifCond .eq 6, 3) := by decide +kernel
theorem dX8_wordThere_82 : decode cX8_wordThere 82 = .ok (.aload_n 0, 1) := by decide +kernel
theorem dX8_wordThere_83 : decode cX8_wordThere 83 = .ok (.ldc 66, 2) := by decide +kernel
theorem dX8_wordThere_85 : decode cX8_wordThere 85 = .ok (.iload_n 1, 1) := by decide +kernel
theorem dX8_wordThere_86 : decode cX8_wordThere 86 = .ok (.iload_n 2, 1) := by decide +kernel
theorem dX8_wordThere_87 : decode cX8_wordThere 87 = .ok (.invokevirtual 52, 3) := by decide +kernel
theorem dX8_wordThere_90 : decode cX8_wordThere 90 = .ok (.ifCond .eq 8, 3) := by decide +kernel
theorem dX8_wordThere_98 : decode cX8_wordThere 98 = .ok (.iconst 3, 1) := by decide +kernel
theorem dX8_wordThere_99 : decode cX8_wordThere 99 = .ok (.ireturn, 1) := by decide +kernel
theorem dX8_wordThere_93 : decode cX8_wordThere 93 = .ok (.bipush 10, 2) := by decide +kernel
theorem dX8_wordThere_95 : decode cX8_wordThere 95 = .ok (.goto 4, 3) := by decide +kernel
theorem dX8_wordThere_79 : decode cX8_wordThere 79 = .ok (.bipush 9, 2) := by decide +kernel
theorem dX8_wordThere_81 : decode cX8_wordThere 81 = .ok (.ireturn, 1) := by decide +kernel
theorem dX8_wordThere_65 : decode cX8_wordThere 65 = .ok (.bipush 8, 2) := by decide +kernel
theorem dX8_wordThere_67 : decode cX8_wordThere 67 = .ok (.ireturn, 1) := by decide +kernel
theorem dX8_wordThere_51 : decode cX8_wordThere 51 = .ok (.bipush 7, 2) := by decide +kernel
theorem dX8_wordThere_53 : decode cX8_wordThere 53 = .ok (.ireturn, 1) := by decide +kernel
theorem dX8_wordThere_37 : decode cX8_wordThere 37 = .ok (.bipush 6, 2) := by decide +kernel
theorem dX8_wordThere_39 : decode cX8_wordThere 39 = .ok (.ireturn, 1) := by decide +kernel
theorem dX8_wordThere_24 : decode cX8_wordThere 24 = .ok (.iconst 5, 1) := by decide +kernel
theorem dX8_wordThere_25 : decode cX8_wordThere 25 = .ok (.ireturn, 1) := by decide +kernel
theorem dX8_wordThere_11 : decode cX8_wordThere 11 = .ok (.iconst 4, 1) := by decide +kernel
theorem dX8_wordThere_12 : decode cX8_wordThere 12 = .ok (.ireturn, 1) := by decide +kernel
set_option maxHeartbeats 8000000 in
set_option maxRecDepth 100000 in
theorem c_X8_wordThere (l : Launch) (G : gG) (t0 : Nat) (x_bytes : Nat) (x_sorts : Nat) (x_starts : Nat) (x_values : Nat) (x_length : Int) (x_tokens : Int) (xb : Nat → Int) (f0 : Int) (g0 : Int) (y0_ : bd 0 127 xb) (hf : 0 ≤ f0 ∧ f0 ≤ 150) (hg : f0 ≤ g0 ∧ g0 ≤ 150) (sz : Nat) : gI G l yX8_wordThere wsX8_wordThere ({ frames := 5, cells := 0, slots := 0, locals := 109 } : Room) [.ref t0, .int (iI f0), .int (iI g0)] [(t0, .inr (7, [.ref x_bytes, .ref x_sorts, .ref x_starts, .ref x_values, .int (iI x_length), .int (iI x_tokens)])), (x_bytes, .inl (G.2 0, 150, .inl (cI xb)))] sz (fun (r : Int32) (u : va_W) => (∃ rr : Int, (0 ≤ rr ∧ rr ≤ 10) ∧ r = (iI rr) ∧ u = [(t0, .inr (7, [.ref x_bytes, .ref x_sorts, .ref x_starts, .ref x_values, .int (iI x_length), .int (iI x_tokens)])), (x_bytes, .inl (G.2 0, 150, .inl (cI xb)))])) := by
  refine Met.ofW (cc := cX8_wordThere) (maxL := 3) (ret := (some .int)) (by decide) rfl ?_
  intro p e s m args below meth c s₁ B hml hv
  obtain ⟨rfl, hsz, hP, hK, hD0, hN, hZ⟩ := hv
  have hx := B.exec
  have hb := B.bytes
  have hr := B.returns
  have hts := atoms_spec (ws := wsX8_wordThere) B.pre
  have hown : s.vm.findClass RX8 = some m.cls := findClass_of_methodNamed B.named
  have hlocks := B.notSynchronized
  subst hsz
  have hD := hD0.self (sz := s.heap.size)
  generalize hAe : va_A [(t0, .inr (7, [.ref x_bytes, .ref x_sorts, .ref x_starts, .ref x_values, .int (iI x_length), .int (iI x_tokens)])), (x_bytes, .inl (G.2 0, 150, .inl (cI xb)))] s.heap.size = A at hD hZ ⊢
  have hA : ∀ q : Nat, s.heap.size ≤ q → A q := fun q h => by rw [← hAe]; exact Or.inr h
  have hS : va_S A s.heap s.heap [] := va_S.rf
  have hP : va_P G.1 vwCl [(t0, .inr (7, [.ref x_bytes, .ref x_sorts, .ref x_starts, .ref x_values, .int (iI x_length), .int (iI x_tokens)])), (x_bytes, .inl (G.2 0, 150, .inl (cI xb)))] s.heap := hP
  have hl := lv_entry ([.ref t0, .int (iI f0), .int (iI g0)]) (n := 3) (Nat.le_of_ble_eq_true rfl)
  rw [lg_entry_eq]
  generalize (lg_sl ([.ref t0, .int (iI f0), .int (iI g0)]) ++ List.replicate (3 - (lg_sl ([.ref t0, .int (iI f0), .int (iI g0)])).length) Slot.unset).toArray = ls at hl ⊢
  have hl : lv_has ls 3 [(0, .ref t0), (1, .int (iI f0)), (2, .int (iI g0))] := hl
  refine lv_aload_n hx hb dX8_wordThere_0 rfl (lv_at hl 0 rfl) ?_
  refine va_ldcS hx hb hown (hZ.2.1 0 (by omega)) dX8_wordThere_1 ?_
  refine lv_iload_n hx hb dX8_wordThere_3 rfl (lv_at hl 1 rfl) ?_
  refine lv_iload_n hx hb dX8_wordThere_4 rfl (lv_at hl 2 rfl) ?_
  refine g_calli (wr := []) (va_runV (As := [.ref (G.2 (10 + 0)), .int (iI f0), .int (iI g0)]) (rest := []) ⟨hx, hb, hml, hown, hts⟩ (c_X8_isThere l G (t0) (x_bytes) (x_sorts) (x_starts) (x_values) (x_length) (x_tokens) (xb) (0) (f0) (g0) (by first | assumption | exact y0_ | exact bd_mono y0_ (by omega) (by omega)) (by first | assumption | omega) (by first | assumption | omega) (by first | assumption | omega) (by first | assumption | omega | decide) _) (cwV 3 hts gX8_wordThere_X8_isThere rfl rfl rfl (by decide +kernel) ⟨Nat.le_of_ble_eq_true rfl, Nat.le_of_ble_eq_true rfl⟩) (g_preV t0 [.ref (G.2 (10 + 0)), .int (iI f0), .int (iI g0)] hP hD hK hN hS hA hZ [0, 1] rfl rfl 0 (ci := 7) rfl rfl) rfl rfl hl.1 rfl (lv_room (Nat.le_of_ble_eq_true rfl)) dX8_wordThere_5 ⟨Nat.le_of_ble_eq_true rfl, Nat.le_of_ble_eq_true rfl⟩) hP hD hS hA [0, 1] [] rfl rfl rfl (by decide) (fun r_1 u H locs hw hP hD hS => ?_)
  obtain ⟨rr_2, k_3, rfl, rfl⟩ := hw
  have hP : va_P G.1 vwCl [(t0, .inr (7, [.ref x_bytes, .ref x_sorts, .ref x_starts, .ref x_values, .int (iI x_length), .int (iI x_tokens)])), (x_bytes, .inl (G.2 0, 150, .inl (cI xb)))] H := hP
  have hD : va_D A [(t0, .inr (7, [.ref x_bytes, .ref x_sorts, .ref x_starts, .ref x_values, .int (iI x_length), .int (iI x_tokens)])), (x_bytes, .inl (G.2 0, 150, .inl (cI xb)))] := hD
  refine lv_if_eq (tgt := 13) hx hb dX8_wordThere_8 (by decide) (fun c_4 => ?_) (fun c_4 => ?_)
  · have c_4 := (iI_eq (a := rr_2) (b := 0) (by omega) (by omega)).mp c_4
    refine lv_aload_n hx hb dX8_wordThere_13 rfl (lv_at hl 0 rfl) ?_
    refine va_ldcS hx hb hown (hZ.2.1 1 (by omega)) dX8_wordThere_14 ?_
    refine lv_iload_n hx hb dX8_wordThere_16 rfl (lv_at hl 1 rfl) ?_
    refine lv_iload_n hx hb dX8_wordThere_17 rfl (lv_at hl 2 rfl) ?_
    refine g_calli (wr := []) (va_runV (As := [.ref (G.2 (10 + 1)), .int (iI f0), .int (iI g0)]) (rest := []) ⟨hx, hb, hml, hown, hts⟩ (c_X8_isThere l G (t0) (x_bytes) (x_sorts) (x_starts) (x_values) (x_length) (x_tokens) (xb) (1) (f0) (g0) (by first | assumption | exact y0_ | exact bd_mono y0_ (by omega) (by omega)) (by first | assumption | omega) (by first | assumption | omega) (by first | assumption | omega) (by first | assumption | omega | decide) _) (cwV 3 hts gX8_wordThere_X8_isThere rfl rfl rfl (by decide +kernel) ⟨Nat.le_of_ble_eq_true rfl, Nat.le_of_ble_eq_true rfl⟩) (g_preV t0 [.ref (G.2 (10 + 1)), .int (iI f0), .int (iI g0)] hP hD hK hN hS hA hZ [0, 1] rfl rfl 0 (ci := 7) rfl rfl) rfl rfl hl.1 rfl (lv_room (Nat.le_of_ble_eq_true rfl)) dX8_wordThere_18 ⟨Nat.le_of_ble_eq_true rfl, Nat.le_of_ble_eq_true rfl⟩) hP hD hS hA [0, 1] [] rfl rfl rfl (by decide) (fun r_5 u H locs hw hP hD hS => ?_)
    obtain ⟨rr_6, k_7, rfl, rfl⟩ := hw
    have hP : va_P G.1 vwCl [(t0, .inr (7, [.ref x_bytes, .ref x_sorts, .ref x_starts, .ref x_values, .int (iI x_length), .int (iI x_tokens)])), (x_bytes, .inl (G.2 0, 150, .inl (cI xb)))] H := hP
    have hD : va_D A [(t0, .inr (7, [.ref x_bytes, .ref x_sorts, .ref x_starts, .ref x_values, .int (iI x_length), .int (iI x_tokens)])), (x_bytes, .inl (G.2 0, 150, .inl (cI xb)))] := hD
    refine lv_if_eq (tgt := 26) hx hb dX8_wordThere_21 (by decide) (fun c_8 => ?_) (fun c_8 => ?_)
    · have c_8 := (iI_eq (a := rr_6) (b := 0) (by omega) (by omega)).mp c_8
      refine lv_aload_n hx hb dX8_wordThere_26 rfl (lv_at hl 0 rfl) ?_
      refine va_ldcS hx hb hown (hZ.2.1 2 (by omega)) dX8_wordThere_27 ?_
      refine lv_iload_n hx hb dX8_wordThere_29 rfl (lv_at hl 1 rfl) ?_
      refine lv_iload_n hx hb dX8_wordThere_30 rfl (lv_at hl 2 rfl) ?_
      refine g_calli (wr := []) (va_runV (As := [.ref (G.2 (10 + 2)), .int (iI f0), .int (iI g0)]) (rest := []) ⟨hx, hb, hml, hown, hts⟩ (c_X8_isThere l G (t0) (x_bytes) (x_sorts) (x_starts) (x_values) (x_length) (x_tokens) (xb) (2) (f0) (g0) (by first | assumption | exact y0_ | exact bd_mono y0_ (by omega) (by omega)) (by first | assumption | omega) (by first | assumption | omega) (by first | assumption | omega) (by first | assumption | omega | decide) _) (cwV 3 hts gX8_wordThere_X8_isThere rfl rfl rfl (by decide +kernel) ⟨Nat.le_of_ble_eq_true rfl, Nat.le_of_ble_eq_true rfl⟩) (g_preV t0 [.ref (G.2 (10 + 2)), .int (iI f0), .int (iI g0)] hP hD hK hN hS hA hZ [0, 1] rfl rfl 0 (ci := 7) rfl rfl) rfl rfl hl.1 rfl (lv_room (Nat.le_of_ble_eq_true rfl)) dX8_wordThere_31 ⟨Nat.le_of_ble_eq_true rfl, Nat.le_of_ble_eq_true rfl⟩) hP hD hS hA [0, 1] [] rfl rfl rfl (by decide) (fun r_9 u H locs hw hP hD hS => ?_)
      obtain ⟨rr_10, k_11, rfl, rfl⟩ := hw
      have hP : va_P G.1 vwCl [(t0, .inr (7, [.ref x_bytes, .ref x_sorts, .ref x_starts, .ref x_values, .int (iI x_length), .int (iI x_tokens)])), (x_bytes, .inl (G.2 0, 150, .inl (cI xb)))] H := hP
      have hD : va_D A [(t0, .inr (7, [.ref x_bytes, .ref x_sorts, .ref x_starts, .ref x_values, .int (iI x_length), .int (iI x_tokens)])), (x_bytes, .inl (G.2 0, 150, .inl (cI xb)))] := hD
      refine lv_if_eq (tgt := 40) hx hb dX8_wordThere_34 (by decide) (fun c_12 => ?_) (fun c_12 => ?_)
      · have c_12 := (iI_eq (a := rr_10) (b := 0) (by omega) (by omega)).mp c_12
        refine lv_aload_n hx hb dX8_wordThere_40 rfl (lv_at hl 0 rfl) ?_
        refine va_ldcS hx hb hown (hZ.2.1 3 (by omega)) dX8_wordThere_41 ?_
        refine lv_iload_n hx hb dX8_wordThere_43 rfl (lv_at hl 1 rfl) ?_
        refine lv_iload_n hx hb dX8_wordThere_44 rfl (lv_at hl 2 rfl) ?_
        refine g_calli (wr := []) (va_runV (As := [.ref (G.2 (10 + 3)), .int (iI f0), .int (iI g0)]) (rest := []) ⟨hx, hb, hml, hown, hts⟩ (c_X8_isThere l G (t0) (x_bytes) (x_sorts) (x_starts) (x_values) (x_length) (x_tokens) (xb) (3) (f0) (g0) (by first | assumption | exact y0_ | exact bd_mono y0_ (by omega) (by omega)) (by first | assumption | omega) (by first | assumption | omega) (by first | assumption | omega) (by first | assumption | omega | decide) _) (cwV 3 hts gX8_wordThere_X8_isThere rfl rfl rfl (by decide +kernel) ⟨Nat.le_of_ble_eq_true rfl, Nat.le_of_ble_eq_true rfl⟩) (g_preV t0 [.ref (G.2 (10 + 3)), .int (iI f0), .int (iI g0)] hP hD hK hN hS hA hZ [0, 1] rfl rfl 0 (ci := 7) rfl rfl) rfl rfl hl.1 rfl (lv_room (Nat.le_of_ble_eq_true rfl)) dX8_wordThere_45 ⟨Nat.le_of_ble_eq_true rfl, Nat.le_of_ble_eq_true rfl⟩) hP hD hS hA [0, 1] [] rfl rfl rfl (by decide) (fun r_13 u H locs hw hP hD hS => ?_)
        obtain ⟨rr_14, k_15, rfl, rfl⟩ := hw
        have hP : va_P G.1 vwCl [(t0, .inr (7, [.ref x_bytes, .ref x_sorts, .ref x_starts, .ref x_values, .int (iI x_length), .int (iI x_tokens)])), (x_bytes, .inl (G.2 0, 150, .inl (cI xb)))] H := hP
        have hD : va_D A [(t0, .inr (7, [.ref x_bytes, .ref x_sorts, .ref x_starts, .ref x_values, .int (iI x_length), .int (iI x_tokens)])), (x_bytes, .inl (G.2 0, 150, .inl (cI xb)))] := hD
        refine lv_if_eq (tgt := 54) hx hb dX8_wordThere_48 (by decide) (fun c_16 => ?_) (fun c_16 => ?_)
        · have c_16 := (iI_eq (a := rr_14) (b := 0) (by omega) (by omega)).mp c_16
          refine lv_aload_n hx hb dX8_wordThere_54 rfl (lv_at hl 0 rfl) ?_
          refine va_ldcS hx hb hown (hZ.2.1 4 (by omega)) dX8_wordThere_55 ?_
          refine lv_iload_n hx hb dX8_wordThere_57 rfl (lv_at hl 1 rfl) ?_
          refine lv_iload_n hx hb dX8_wordThere_58 rfl (lv_at hl 2 rfl) ?_
          refine g_calli (wr := []) (va_runV (As := [.ref (G.2 (10 + 4)), .int (iI f0), .int (iI g0)]) (rest := []) ⟨hx, hb, hml, hown, hts⟩ (c_X8_isThere l G (t0) (x_bytes) (x_sorts) (x_starts) (x_values) (x_length) (x_tokens) (xb) (4) (f0) (g0) (by first | assumption | exact y0_ | exact bd_mono y0_ (by omega) (by omega)) (by first | assumption | omega) (by first | assumption | omega) (by first | assumption | omega) (by first | assumption | omega | decide) _) (cwV 3 hts gX8_wordThere_X8_isThere rfl rfl rfl (by decide +kernel) ⟨Nat.le_of_ble_eq_true rfl, Nat.le_of_ble_eq_true rfl⟩) (g_preV t0 [.ref (G.2 (10 + 4)), .int (iI f0), .int (iI g0)] hP hD hK hN hS hA hZ [0, 1] rfl rfl 0 (ci := 7) rfl rfl) rfl rfl hl.1 rfl (lv_room (Nat.le_of_ble_eq_true rfl)) dX8_wordThere_59 ⟨Nat.le_of_ble_eq_true rfl, Nat.le_of_ble_eq_true rfl⟩) hP hD hS hA [0, 1] [] rfl rfl rfl (by decide) (fun r_17 u H locs hw hP hD hS => ?_)
          obtain ⟨rr_18, k_19, rfl, rfl⟩ := hw
          have hP : va_P G.1 vwCl [(t0, .inr (7, [.ref x_bytes, .ref x_sorts, .ref x_starts, .ref x_values, .int (iI x_length), .int (iI x_tokens)])), (x_bytes, .inl (G.2 0, 150, .inl (cI xb)))] H := hP
          have hD : va_D A [(t0, .inr (7, [.ref x_bytes, .ref x_sorts, .ref x_starts, .ref x_values, .int (iI x_length), .int (iI x_tokens)])), (x_bytes, .inl (G.2 0, 150, .inl (cI xb)))] := hD
          refine lv_if_eq (tgt := 68) hx hb dX8_wordThere_62 (by decide) (fun c_20 => ?_) (fun c_20 => ?_)
          · have c_20 := (iI_eq (a := rr_18) (b := 0) (by omega) (by omega)).mp c_20
            refine lv_aload_n hx hb dX8_wordThere_68 rfl (lv_at hl 0 rfl) ?_
            refine va_ldcS hx hb hown (hZ.2.1 5 (by omega)) dX8_wordThere_69 ?_
            refine lv_iload_n hx hb dX8_wordThere_71 rfl (lv_at hl 1 rfl) ?_
            refine lv_iload_n hx hb dX8_wordThere_72 rfl (lv_at hl 2 rfl) ?_
            refine g_calli (wr := []) (va_runV (As := [.ref (G.2 (10 + 5)), .int (iI f0), .int (iI g0)]) (rest := []) ⟨hx, hb, hml, hown, hts⟩ (c_X8_isThere l G (t0) (x_bytes) (x_sorts) (x_starts) (x_values) (x_length) (x_tokens) (xb) (5) (f0) (g0) (by first | assumption | exact y0_ | exact bd_mono y0_ (by omega) (by omega)) (by first | assumption | omega) (by first | assumption | omega) (by first | assumption | omega) (by first | assumption | omega | decide) _) (cwV 3 hts gX8_wordThere_X8_isThere rfl rfl rfl (by decide +kernel) ⟨Nat.le_of_ble_eq_true rfl, Nat.le_of_ble_eq_true rfl⟩) (g_preV t0 [.ref (G.2 (10 + 5)), .int (iI f0), .int (iI g0)] hP hD hK hN hS hA hZ [0, 1] rfl rfl 0 (ci := 7) rfl rfl) rfl rfl hl.1 rfl (lv_room (Nat.le_of_ble_eq_true rfl)) dX8_wordThere_73 ⟨Nat.le_of_ble_eq_true rfl, Nat.le_of_ble_eq_true rfl⟩) hP hD hS hA [0, 1] [] rfl rfl rfl (by decide) (fun r_21 u H locs hw hP hD hS => ?_)
            obtain ⟨rr_22, k_23, rfl, rfl⟩ := hw
            have hP : va_P G.1 vwCl [(t0, .inr (7, [.ref x_bytes, .ref x_sorts, .ref x_starts, .ref x_values, .int (iI x_length), .int (iI x_tokens)])), (x_bytes, .inl (G.2 0, 150, .inl (cI xb)))] H := hP
            have hD : va_D A [(t0, .inr (7, [.ref x_bytes, .ref x_sorts, .ref x_starts, .ref x_values, .int (iI x_length), .int (iI x_tokens)])), (x_bytes, .inl (G.2 0, 150, .inl (cI xb)))] := hD
            refine lv_if_eq (tgt := 82) hx hb dX8_wordThere_76 (by decide) (fun c_24 => ?_) (fun c_24 => ?_)
            · have c_24 := (iI_eq (a := rr_22) (b := 0) (by omega) (by omega)).mp c_24
              refine lv_aload_n hx hb dX8_wordThere_82 rfl (lv_at hl 0 rfl) ?_
              refine va_ldcS hx hb hown (hZ.2.1 6 (by omega)) dX8_wordThere_83 ?_
              refine lv_iload_n hx hb dX8_wordThere_85 rfl (lv_at hl 1 rfl) ?_
              refine lv_iload_n hx hb dX8_wordThere_86 rfl (lv_at hl 2 rfl) ?_
              refine g_calli (wr := []) (va_runV (As := [.ref (G.2 (10 + 6)), .int (iI f0), .int (iI g0)]) (rest := []) ⟨hx, hb, hml, hown, hts⟩ (c_X8_isThere l G (t0) (x_bytes) (x_sorts) (x_starts) (x_values) (x_length) (x_tokens) (xb) (6) (f0) (g0) (by first | assumption | exact y0_ | exact bd_mono y0_ (by omega) (by omega)) (by first | assumption | omega) (by first | assumption | omega) (by first | assumption | omega) (by first | assumption | omega | decide) _) (cwV 3 hts gX8_wordThere_X8_isThere rfl rfl rfl (by decide +kernel) ⟨Nat.le_of_ble_eq_true rfl, Nat.le_of_ble_eq_true rfl⟩) (g_preV t0 [.ref (G.2 (10 + 6)), .int (iI f0), .int (iI g0)] hP hD hK hN hS hA hZ [0, 1] rfl rfl 0 (ci := 7) rfl rfl) rfl rfl hl.1 rfl (lv_room (Nat.le_of_ble_eq_true rfl)) dX8_wordThere_87 ⟨Nat.le_of_ble_eq_true rfl, Nat.le_of_ble_eq_true rfl⟩) hP hD hS hA [0, 1] [] rfl rfl rfl (by decide) (fun r_25 u H locs hw hP hD hS => ?_)
              obtain ⟨rr_26, k_27, rfl, rfl⟩ := hw
              have hP : va_P G.1 vwCl [(t0, .inr (7, [.ref x_bytes, .ref x_sorts, .ref x_starts, .ref x_values, .int (iI x_length), .int (iI x_tokens)])), (x_bytes, .inl (G.2 0, 150, .inl (cI xb)))] H := hP
              have hD : va_D A [(t0, .inr (7, [.ref x_bytes, .ref x_sorts, .ref x_starts, .ref x_values, .int (iI x_length), .int (iI x_tokens)])), (x_bytes, .inl (G.2 0, 150, .inl (cI xb)))] := hD
              refine lv_if_eq (tgt := 98) hx hb dX8_wordThere_90 (by decide) (fun c_28 => ?_) (fun c_28 => ?_)
              · have c_28 := (iI_eq (a := rr_26) (b := 0) (by omega) (by omega)).mp c_28
                refine lv_iconst (v := iI 3) hx hb dX8_wordThere_98 rfl ?_
                exact g_iret (v := (iI 3)) hx hb hr hlocks hP hD hS (⟨3, (by first | assumption | omega), rfl, rfl⟩) dX8_wordThere_99
              · have c_28 : ¬ (rr_26 = 0) := fun h9 => c_28 ((iI_eq (a := rr_26) (b := 0) (by omega) (by omega)).mpr h9)
                refine lv_bipush (v := iI 10) hx hb dX8_wordThere_93 (by decide) ?_
                refine lv_goto (tgt := 99) hx hb dX8_wordThere_95 (by decide) ?_
                exact g_iret (v := (iI 10)) hx hb hr hlocks hP hD hS (⟨10, (by first | assumption | omega), rfl, rfl⟩) dX8_wordThere_99
            · have c_24 : ¬ (rr_22 = 0) := fun h9 => c_24 ((iI_eq (a := rr_22) (b := 0) (by omega) (by omega)).mpr h9)
              refine lv_bipush (v := iI 9) hx hb dX8_wordThere_79 (by decide) ?_
              exact g_iret (v := (iI 9)) hx hb hr hlocks hP hD hS (⟨9, (by first | assumption | omega), rfl, rfl⟩) dX8_wordThere_81
          · have c_20 : ¬ (rr_18 = 0) := fun h9 => c_20 ((iI_eq (a := rr_18) (b := 0) (by omega) (by omega)).mpr h9)
            refine lv_bipush (v := iI 8) hx hb dX8_wordThere_65 (by decide) ?_
            exact g_iret (v := (iI 8)) hx hb hr hlocks hP hD hS (⟨8, (by first | assumption | omega), rfl, rfl⟩) dX8_wordThere_67
        · have c_16 : ¬ (rr_14 = 0) := fun h9 => c_16 ((iI_eq (a := rr_14) (b := 0) (by omega) (by omega)).mpr h9)
          refine lv_bipush (v := iI 7) hx hb dX8_wordThere_51 (by decide) ?_
          exact g_iret (v := (iI 7)) hx hb hr hlocks hP hD hS (⟨7, (by first | assumption | omega), rfl, rfl⟩) dX8_wordThere_53
      · have c_12 : ¬ (rr_10 = 0) := fun h9 => c_12 ((iI_eq (a := rr_10) (b := 0) (by omega) (by omega)).mpr h9)
        refine lv_bipush (v := iI 6) hx hb dX8_wordThere_37 (by decide) ?_
        exact g_iret (v := (iI 6)) hx hb hr hlocks hP hD hS (⟨6, (by first | assumption | omega), rfl, rfl⟩) dX8_wordThere_39
    · have c_8 : ¬ (rr_6 = 0) := fun h9 => c_8 ((iI_eq (a := rr_6) (b := 0) (by omega) (by omega)).mpr h9)
      refine lv_iconst (v := iI 5) hx hb dX8_wordThere_24 rfl ?_
      exact g_iret (v := (iI 5)) hx hb hr hlocks hP hD hS (⟨5, (by first | assumption | omega), rfl, rfl⟩) dX8_wordThere_25
  · have c_4 : ¬ (rr_2 = 0) := fun h9 => c_4 ((iI_eq (a := rr_2) (b := 0) (by omega) (by omega)).mpr h9)
    refine lv_iconst (v := iI 4) hx hb dX8_wordThere_11 rfl ?_
    exact g_iret (v := (iI 4)) hx hb hr hlocks hP hD hS (⟨4, (by first | assumption | omega), rfl, rfl⟩) dX8_wordThere_12
theorem dX8_scanToken_0 : decode cX8_scanToken 0 = .ok (.aload_n 0, 1) := by decide +kernel
theorem dX8_scanToken_1 : decode cX8_scanToken 1 = .ok (.getfield 9, 3) := by decide +kernel
theorem dX8_scanToken_4 : decode cX8_scanToken 4 = .ok (.iload_n 1, 1) := by decide +kernel
theorem dX8_scanToken_5 : decode cX8_scanToken 5 = .ok (.iaload, 1) := by decide +kernel
theorem dX8_scanToken_6 : decode cX8_scanToken 6 = .ok (.istore_n 2, 1) := by decide +kernel
theorem dX8_scanToken_7 : decode cX8_scanToken 7 = .ok (.iload_n 1, 1) := by decide +kernel
theorem dX8_scanToken_8 : decode cX8_scanToken 8 = .ok (.iconst 1, 1) := by decide +kernel
theorem dX8_scanToken_9 : decode cX8_scanToken 9 = .ok (.iadd, 1) := by decide +kernel
theorem dX8_scanToken_10 : decode cX8_scanToken 10 = .ok (.istore_n 3, 1) := by decide +kernel
theorem dX8_scanToken_11 : decode cX8_scanToken 11 = .ok (.iload_n 2, 1) := by decide +kernel
set_option maxRecDepth 20000 in
theorem ggX8_scanToken_X8_isLetter : GoodIn wsX8_scanToken wsX8_isLetter := goodIn_r _ [6] (by decide +kernel) (by decide +kernel)
set_option maxRecDepth 20000 in
theorem gX8_scanToken_X8_isLetter : GoodIn wsX8_scanToken (va_wsS RX8 39 yX8_isLetter wsX8_isLetter) := goodIn_app (goodIn_of _ (by decide +kernel)) ggX8_scanToken_X8_isLetter
theorem dX8_scanToken_12 : decode cX8_scanToken 12 = .ok (.invokestatic 39, 3) := by decide +kernel
theorem dX8_scanToken_15 : decode cX8_scanToken 15 = .ok (.ifCond .eq 44, 3) := by decide +kernel
theorem dX8_scanToken_18 : decode cX8_scanToken 18 = .ok (.iload_n 3, 1) := by decide +kernel
theorem dX8_scanToken_19 : decode cX8_scanToken 19 = .ok (.aload_n 0, 1) := by decide +kernel
theorem dX8_scanToken_20 : decode cX8_scanToken 20 = .ok (.getfield 24, 3) := by decide +kernel
theorem dX8_scanToken_23 : decode cX8_scanToken 23 = .ok (.if_icmp .ge 21, 3) := by decide +kernel
theorem dX8_scanToken_44 : decode cX8_scanToken 44 = .ok (.aload_n 0, 1) := by decide +kernel
theorem dX8_scanToken_45 : decode cX8_scanToken 45 = .ok (.aload_n 0, 1) := by decide +kernel
theorem dX8_scanToken_46 : decode cX8_scanToken 46 = .ok (.iload_n 1, 1) := by decide +kernel
theorem dX8_scanToken_47 : decode cX8_scanToken 47 = .ok (.iload_n 3, 1) := by decide +kernel
set_option maxRecDepth 20000 in
theorem ggX8_scanToken_X8_wordThere : GoodIn wsX8_scanToken wsX8_wordThere := goodIn_r _ [10, 11, 12, 13, 5, 14, 1, 15, 16, 17, 18, 19, 20, 21, 22, 23, 24, 25, 26, 27, 28, 29, 30, 31, 32, 33, 34, 35, 36, 37, 38, 39, 40, 41, 42, 43, 44, 45, 46, 47, 48, 49, 50, 51, 52, 53, 54, 55, 56, 57, 58, 59, 60, 61, 62, 63, 75, 76, 77, 78, 79, 80] (by decide +kernel) (by decide +kernel)
set_option maxRecDepth 20000 in
theorem gX8_scanToken_X8_wordThere : GoodIn wsX8_scanToken (wsV RX8 43 RX8 yX8_wordThere wsX8_wordThere) := goodIn_app (goodIn_of _ (by decide +kernel)) ggX8_scanToken_X8_wordThere
theorem dX8_scanToken_48 : decode cX8_scanToken 48 = .ok (.invokevirtual 43, 3) := by decide +kernel
theorem dX8_scanToken_51 : decode cX8_scanToken 51 = .ok (.iload_n 1, 1) := by decide +kernel
theorem dX8_scanToken_52 : decode cX8_scanToken 52 = .ok (.iconst 0, 1) := by decide +kernel
set_option maxRecDepth 20000 in
theorem ggX8_scanToken_X8_addToken : GoodIn wsX8_scanToken wsX8_addToken := goodIn_r _ [67, 68, 69, 70, 71, 75, 76, 77, 78, 79, 80] (by decide +kernel) (by decide +kernel)
set_option maxRecDepth 20000 in
theorem gX8_scanToken_X8_addToken : GoodIn wsX8_scanToken (wsV RX8 35 RX8 yX8_addToken wsX8_addToken) := goodIn_app (goodIn_of _ (by decide +kernel)) ggX8_scanToken_X8_addToken
theorem dX8_scanToken_53 : decode cX8_scanToken 53 = .ok (.invokevirtual 35, 3) := by decide +kernel
theorem dX8_scanToken_56 : decode cX8_scanToken 56 = .ok (.goto 110, 3) := by decide +kernel
theorem dX8_scanToken_166 : decode cX8_scanToken 166 = .ok (.iload_n 3, 1) := by decide +kernel
theorem dX8_scanToken_167 : decode cX8_scanToken 167 = .ok (.ireturn, 1) := by decide +kernel
theorem dX8_scanToken_26 : decode cX8_scanToken 26 = .ok (.aload_n 0, 1) := by decide +kernel
theorem dX8_scanToken_27 : decode cX8_scanToken 27 = .ok (.getfield 9, 3) := by decide +kernel
theorem dX8_scanToken_30 : decode cX8_scanToken 30 = .ok (.iload_n 3, 1) := by decide +kernel
theorem dX8_scanToken_31 : decode cX8_scanToken 31 = .ok (.iaload, 1) := by decide +kernel
theorem dX8_scanToken_32 : decode cX8_scanToken 32 = .ok (.invokestatic 39, 3) := by decide +kernel
theorem dX8_scanToken_35 : decode cX8_scanToken 35 = .ok (.ifCond .eq 9, 3) := by decide +kernel
theorem dX8_scanToken_38 : decode cX8_scanToken 38 = .ok (.iinc 3 1, 3) := by decide +kernel
theorem dX8_scanToken_41 : decode cX8_scanToken 41 = .ok (.goto (-23), 3) := by decide +kernel
theorem dX8_scanToken_59 : decode cX8_scanToken 59 = .ok (.iload_n 2, 1) := by decide +kernel
set_option maxRecDepth 20000 in
theorem ggX8_scanToken_X8_isFigure : GoodIn wsX8_scanToken wsX8_isFigure := goodIn_r _ [74] (by decide +kernel) (by decide +kernel)
set_option maxRecDepth 20000 in
theorem gX8_scanToken_X8_isFigure : GoodIn wsX8_scanToken (va_wsS RX8 47 yX8_isFigure wsX8_isFigure) := goodIn_app (goodIn_of _ (by decide +kernel)) ggX8_scanToken_X8_isFigure
theorem dX8_scanToken_60 : decode cX8_scanToken 60 = .ok (.invokestatic 47, 3) := by decide +kernel
theorem dX8_scanToken_63 : decode cX8_scanToken 63 = .ok (.ifCond .eq 86, 3) := by decide +kernel
theorem dX8_scanToken_66 : decode cX8_scanToken 66 = .ok (.iload_n 3, 1) := by decide +kernel
theorem dX8_scanToken_67 : decode cX8_scanToken 67 = .ok (.aload_n 0, 1) := by decide +kernel
theorem dX8_scanToken_68 : decode cX8_scanToken 68 = .ok (.getfield 24, 3) := by decide +kernel
theorem dX8_scanToken_71 : decode cX8_scanToken 71 = .ok (.if_icmp .ge 21, 3) := by decide +kernel
theorem dX8_scanToken_92 : decode cX8_scanToken 92 = .ok (.iload_n 3, 1) := by decide +kernel
theorem dX8_scanToken_93 : decode cX8_scanToken 93 = .ok (.iload_n 1, 1) := by decide +kernel
theorem dX8_scanToken_94 : decode cX8_scanToken 94 = .ok (.isub, 1) := by decide +kernel
theorem dX8_scanToken_95 : decode cX8_scanToken 95 = .ok (.iconst 1, 1) := by decide +kernel
theorem dX8_scanToken_96 : decode cX8_scanToken 96 = .ok (.if_icmp .ne 10, 3) := by decide +kernel
theorem dX8_scanToken_106 : decode cX8_scanToken 106 = .ok (.iload_n 2, 1) := by decide +kernel
theorem dX8_scanToken_107 : decode cX8_scanToken 107 = .ok (.bipush 48, 2) := by decide +kernel
theorem dX8_scanToken_109 : decode cX8_scanToken 109 = .ok (.isub, 1) := by decide +kernel
theorem dX8_scanToken_110 : decode cX8_scanToken 110 = .ok (.bipush 10, 2) := by decide +kernel
theorem dX8_scanToken_112 : decode cX8_scanToken 112 = .ok (.imul, 1) := by decide +kernel
theorem dX8_scanToken_113 : decode cX8_scanToken 113 = .ok (.aload_n 0, 1) := by decide +kernel
theorem dX8_scanToken_114 : decode cX8_scanToken 114 = .ok (.getfield 9, 3) := by decide +kernel
theorem dX8_scanToken_117 : decode cX8_scanToken 117 = .ok (.iload_n 3, 1) := by decide +kernel
theorem dX8_scanToken_118 : decode cX8_scanToken 118 = .ok (.iconst 1, 1) := by decide +kernel
theorem dX8_scanToken_119 : decode cX8_scanToken 119 = .ok (.isub, 1) := by decide +kernel
theorem dX8_scanToken_120 : decode cX8_scanToken 120 = .ok (.iaload, 1) := by decide +kernel
theorem dX8_scanToken_121 : decode cX8_scanToken 121 = .ok (.iadd, 1) := by decide +kernel
theorem dX8_scanToken_122 : decode cX8_scanToken 122 = .ok (.bipush 48, 2) := by decide +kernel
theorem dX8_scanToken_124 : decode cX8_scanToken 124 = .ok (.isub, 1) := by decide +kernel
theorem dX8_scanToken_99 : decode cX8_scanToken 99 = .ok (.iload_n 2, 1) := by decide +kernel
theorem dX8_scanToken_100 : decode cX8_scanToken 100 = .ok (.bipush 48, 2) := by decide +kernel
theorem dX8_scanToken_102 : decode cX8_scanToken 102 = .ok (.isub, 1) := by decide +kernel
theorem dX8_scanToken_103 : decode cX8_scanToken 103 = .ok (.goto 22, 3) := by decide +kernel
theorem dX8_scanToken_125 : decode cX8_scanToken 125 = .ok (.istore 4, 2) := by decide +kernel
theorem dX8_scanToken_127 : decode cX8_scanToken 127 = .ok (.aload_n 0, 1) := by decide +kernel
theorem dX8_scanToken_128 : decode cX8_scanToken 128 = .ok (.iload_n 3, 1) := by decide +kernel
theorem dX8_scanToken_129 : decode cX8_scanToken 129 = .ok (.iload_n 1, 1) := by decide +kernel
theorem dX8_scanToken_130 : decode cX8_scanToken 130 = .ok (.isub, 1) := by decide +kernel
theorem dX8_scanToken_131 : decode cX8_scanToken 131 = .ok (.iconst 2, 1) := by decide +kernel
theorem dX8_scanToken_132 : decode cX8_scanToken 132 = .ok (.if_icmp .gt 7, 3) := by decide +kernel
theorem dX8_scanToken_139 : decode cX8_scanToken 139 = .ok (.iconst 3, 1) := by decide +kernel
theorem dX8_scanToken_135 : decode cX8_scanToken 135 = .ok (.iconst 2, 1) := by decide +kernel
theorem dX8_scanToken_136 : decode cX8_scanToken 136 = .ok (.goto 4, 3) := by decide +kernel
theorem dX8_scanToken_140 : decode cX8_scanToken 140 = .ok (.iload_n 1, 1) := by decide +kernel
theorem dX8_scanToken_141 : decode cX8_scanToken 141 = .ok (.iload 4, 2) := by decide +kernel
theorem dX8_scanToken_143 : decode cX8_scanToken 143 = .ok (.invokevirtual 35, 3) := by decide +kernel
theorem dX8_scanToken_146 : decode cX8_scanToken 146 = .ok (.goto 20, 3) := by decide +kernel
theorem dX8_scanToken_74 : decode cX8_scanToken 74 = .ok (.aload_n 0, 1) := by decide +kernel
theorem dX8_scanToken_75 : decode cX8_scanToken 75 = .ok (.getfield 9, 3) := by decide +kernel
theorem dX8_scanToken_78 : decode cX8_scanToken 78 = .ok (.iload_n 3, 1) := by decide +kernel
theorem dX8_scanToken_79 : decode cX8_scanToken 79 = .ok (.iaload, 1) := by decide +kernel
theorem dX8_scanToken_80 : decode cX8_scanToken 80 = .ok (.invokestatic 47, 3) := by decide +kernel
theorem dX8_scanToken_83 : decode cX8_scanToken 83 = .ok (.ifCond .eq 9, 3) := by decide +kernel
theorem dX8_scanToken_86 : decode cX8_scanToken 86 = .ok (.iinc 3 1, 3) := by decide +kernel
theorem dX8_scanToken_89 : decode cX8_scanToken 89 = .ok (.goto (-23), 3) := by decide +kernel
theorem dX8_scanToken_149 : decode cX8_scanToken 149 = .ok (.aload_n 0, 1) := by decide +kernel
theorem dX8_scanToken_150 : decode cX8_scanToken 150 = .ok (.iload_n 2, 1) := by decide +kernel
theorem dX8_scanToken_151 : decode cX8_scanToken 151 = .ok (.bipush 59, 2) := by decide +kernel
theorem dX8_scanToken_153 : decode cX8_scanToken 153 = .ok (.if_icmp .ne 7, 3) := by decide +kernel
theorem dX8_scanToken_160 : decode cX8_scanToken 160 = .ok (.iconst 3, 1) := by decide +kernel
theorem dX8_scanToken_156 : decode cX8_scanToken 156 = .ok (.iconst 1, 1) := by decide +kernel
theorem dX8_scanToken_157 : decode cX8_scanToken 157 = .ok (.goto 4, 3) := by decide +kernel
theorem dX8_scanToken_161 : decode cX8_scanToken 161 = .ok (.iload_n 1, 1) := by decide +kernel
theorem dX8_scanToken_162 : decode cX8_scanToken 162 = .ok (.iconst 0, 1) := by decide +kernel
theorem dX8_scanToken_163 : decode cX8_scanToken 163 = .ok (.invokevirtual 35, 3) := by decide +kernel
set_option maxHeartbeats 8000000 in
set_option maxRecDepth 100000 in
theorem c_X8_scanToken (l : Launch) (G : gG) (t0 : Nat) (x_bytes : Nat) (x_sorts : Nat) (x_starts : Nat) (x_values : Nat) (x_length : Int) (x_tokens : Int) (xb : Nat → Int) (xs : Nat → Int) (xa : Nat → Int) (xv : Nat → Int) (f0 : Int) (y0_ : bd 0 127 xb) (y1_ : bd 0 10 xs) (y2_ : bd 0 150 xa) (y3_ : bd (-1000) 3000 xv) (y4_ : 0 ≤ x_length ∧ x_length ≤ 150) (y5_ : 0 ≤ x_tokens ∧ x_tokens ≤ 151) (hf : 0 ≤ f0 ∧ f0 < x_length) (sz : Nat) : gI G l yX8_scanToken wsX8_scanToken ({ frames := 6, cells := 0, slots := 0, locals := 131 } : Room) [.ref t0, .int (iI f0)] [(t0, .inr (7, [.ref x_bytes, .ref x_sorts, .ref x_starts, .ref x_values, .int (iI x_length), .int (iI x_tokens)])), (x_bytes, .inl (G.2 0, 150, .inl (cI xb))), (x_sorts, .inl (G.2 0, 151, .inl (cI xs))), (x_starts, .inl (G.2 0, 151, .inl (cI xa))), (x_values, .inl (G.2 0, 151, .inl (cI xv)))] sz (fun (r : Int32) (u : va_W) => (∃ rr : Int, ∃ Nt : Int, ∃ Ns : Nat → Int, ∃ Na : Nat → Int, ∃ Nv : Nat → Int, (f0 < rr ∧ rr ≤ x_length) ∧ (1 ≤ Nt ∧ Nt ≤ 151) ∧ (bd 0 10 Ns) ∧ (bd 0 150 Na) ∧ (bd (-1000) 3000 Nv) ∧ r = (iI rr) ∧ u = [(t0, .inr (7, [.ref x_bytes, .ref x_sorts, .ref x_starts, .ref x_values, .int (iI x_length), .int (iI Nt)])), (x_bytes, .inl (G.2 0, 150, .inl (cI xb))), (x_sorts, .inl (G.2 0, 151, .inl (cI Ns))), (x_starts, .inl (G.2 0, 151, .inl (cI Na))), (x_values, .inl (G.2 0, 151, .inl (cI Nv)))])) := by
  refine Met.ofW (cc := cX8_scanToken) (maxL := 5) (ret := (some .int)) (by decide) rfl ?_
  intro p e s m args below meth c s₁ B hml hv
  obtain ⟨rfl, hsz, hP, hK, hD0, hN, hZ⟩ := hv
  have hx := B.exec
  have hb := B.bytes
  have hr := B.returns
  have hts := atoms_spec (ws := wsX8_scanToken) B.pre
  have hown : s.vm.findClass RX8 = some m.cls := findClass_of_methodNamed B.named
  have hlocks := B.notSynchronized
  subst hsz
  have hD := hD0.self (sz := s.heap.size)
  generalize hAe : va_A [(t0, .inr (7, [.ref x_bytes, .ref x_sorts, .ref x_starts, .ref x_values, .int (iI x_length), .int (iI x_tokens)])), (x_bytes, .inl (G.2 0, 150, .inl (cI xb))), (x_sorts, .inl (G.2 0, 151, .inl (cI xs))), (x_starts, .inl (G.2 0, 151, .inl (cI xa))), (x_values, .inl (G.2 0, 151, .inl (cI xv)))] s.heap.size = A at hD hZ ⊢
  have hA : ∀ q : Nat, s.heap.size ≤ q → A q := fun q h => by rw [← hAe]; exact Or.inr h
  have hS : va_S A s.heap s.heap [] := va_S.rf
  have hP : va_P G.1 vwCl [(t0, .inr (7, [.ref x_bytes, .ref x_sorts, .ref x_starts, .ref x_values, .int (iI x_length), .int (iI x_tokens)])), (x_bytes, .inl (G.2 0, 150, .inl (cI xb))), (x_sorts, .inl (G.2 0, 151, .inl (cI xs))), (x_starts, .inl (G.2 0, 151, .inl (cI xa))), (x_values, .inl (G.2 0, 151, .inl (cI xv)))] s.heap := hP
  have hl := lv_entry ([.ref t0, .int (iI f0)]) (n := 5) (Nat.le_of_ble_eq_true rfl)
  rw [lg_entry_eq]
  generalize (lg_sl ([.ref t0, .int (iI f0)]) ++ List.replicate (5 - (lg_sl ([.ref t0, .int (iI f0)])).length) Slot.unset).toArray = ls at hl ⊢
  have hl : lv_has ls 5 [(0, .ref t0), (1, .int (iI f0))] := hl
  refine lv_aload_n hx hb dX8_scanToken_0 rfl (lv_at hl 0 rfl) ?_
  refine va_get (D := G.1) (ci := 7) (v := .ref x_bytes) (C := RX8) (T := TX8) (N := 6) hx hb hts (fun _ h => List.mem_cons_of_mem _ (List.mem_append_right _ h)) hown hK hP 0 rfl rfl 0 (by decide) (hts _ (List.mem_of_getElem? (i := 1) rfl)) (fun _ h9 => h9) rfl dX8_scanToken_1 ?_
  refine lv_iload_n hx hb dX8_scanToken_4 rfl (lv_at hl 1 rfl) ?_
  refine g_ild hx hb hK hP 1 rfl (by omega) (by omega) (by omega) dX8_scanToken_5 (fun w_1 ew_1 => ?_)
  have b0w_1 : _ := y0_ (f0.toNat)
  rw [ew_1] at b0w_1
  refine lv_istore_n (lv' := [(2, .int (iI w_1)), (0, .ref t0), (1, .int (iI f0))]) hx hb dX8_scanToken_6 rfl hl (by decide) rfl (fun ls hl => ?_)
  refine lv_iload_n hx hb dX8_scanToken_7 rfl (lv_at hl 2 rfl) ?_
  refine lv_iconst (v := iI 1) hx hb dX8_scanToken_8 rfl ?_
  refine lv_iadd hx hb dX8_scanToken_9 ?_
  refine g_topi (y := iI (f0 + 1)) (iI_add f0 1) ?_
  refine lv_istore_n (lv' := [(3, .int (iI (f0 + 1))), (2, .int (iI w_1)), (0, .ref t0), (1, .int (iI f0))]) hx hb dX8_scanToken_10 rfl hl (by decide) rfl (fun ls hl => ?_)
  refine lv_iload_n hx hb dX8_scanToken_11 rfl (lv_at hl 1 rfl) ?_
  refine g_calli (wr := [(t0, .inr (7, [.ref x_bytes, .ref x_sorts, .ref x_starts, .ref x_values, .int (iI x_length), .int (iI x_tokens)])), (x_bytes, .inl (G.2 0, 150, .inl (cI xb))), (x_sorts, .inl (G.2 0, 151, .inl (cI xs))), (x_starts, .inl (G.2 0, 151, .inl (cI xa))), (x_values, .inl (G.2 0, 151, .inl (cI xv)))]) (va_runS (As := [.int (iI w_1)]) (rest := []) ⟨hx, hb, hml, hown, hts⟩ (c_X8_isLetter l G (w_1) (by first | assumption | omega) _) (va_cwS 1 hts gX8_scanToken_X8_isLetter rfl rfl rfl (by decide +kernel) ⟨Nat.le_of_ble_eq_true rfl, Nat.le_of_ble_eq_true rfl⟩) (g_preS [.int (iI w_1)] hP hD hK hN hS hA hZ [] rfl rfl) rfl rfl hl.1 rfl (lv_room (Nat.le_of_ble_eq_true rfl)) dX8_scanToken_12 ⟨Nat.le_of_ble_eq_true rfl, Nat.le_of_ble_eq_true rfl⟩) hP hD hS hA [] [0, 1, 2, 3, 4] rfl rfl rfl (by decide) (fun r_2 u H locs hw hP hD hS => ?_)
  rcases hw with ⟨k_3, rfl, rfl⟩ | ⟨k_4, rfl, rfl⟩
  · have hP : va_P G.1 vwCl [(t0, .inr (7, [.ref x_bytes, .ref x_sorts, .ref x_starts, .ref x_values, .int (iI x_length), .int (iI x_tokens)])), (x_bytes, .inl (G.2 0, 150, .inl (cI xb))), (x_sorts, .inl (G.2 0, 151, .inl (cI xs))), (x_starts, .inl (G.2 0, 151, .inl (cI xa))), (x_values, .inl (G.2 0, 151, .inl (cI xv)))] H := hP
    have hD : va_D A [(t0, .inr (7, [.ref x_bytes, .ref x_sorts, .ref x_starts, .ref x_values, .int (iI x_length), .int (iI x_tokens)])), (x_bytes, .inl (G.2 0, 150, .inl (cI xb))), (x_sorts, .inl (G.2 0, 151, .inl (cI xs))), (x_starts, .inl (G.2 0, 151, .inl (cI xa))), (x_values, .inl (G.2 0, 151, .inl (cI xv)))] := hD
    refine lv_if_eq (tgt := 59) hx hb dX8_scanToken_15 (by decide) (fun c_5 => g_no c_5 (by decide)) (fun _ => ?_)
    refine g_loopN (pc := 18) (fun nn H locs ls => ∃ k0_6 : Int, (f0 + 1 ≤ k0_6 ∧ k0_6 ≤ x_length) ∧ (151 - k0_6).toNat = nn ∧ va_P G.1 vwCl [(t0, .inr (7, [.ref x_bytes, .ref x_sorts, .ref x_starts, .ref x_values, .int (iI x_length), .int (iI x_tokens)])), (x_bytes, .inl (G.2 0, 150, .inl (cI xb))), (x_sorts, .inl (G.2 0, 151, .inl (cI xs))), (x_starts, .inl (G.2 0, 151, .inl (cI xa))), (x_values, .inl (G.2 0, 151, .inl (cI xv)))] H ∧ va_D A [(t0, .inr (7, [.ref x_bytes, .ref x_sorts, .ref x_starts, .ref x_values, .int (iI x_length), .int (iI x_tokens)])), (x_bytes, .inl (G.2 0, 150, .inl (cI xb))), (x_sorts, .inl (G.2 0, 151, .inl (cI xs))), (x_starts, .inl (G.2 0, 151, .inl (cI xa))), (x_values, .inl (G.2 0, 151, .inl (cI xv)))] ∧ va_S A s.heap H locs ∧ lv_has ls 5 [(3, .int (iI k0_6)), (2, .int (iI w_1)), (0, .ref t0), (1, .int (iI f0))]) ?_ ⟨(f0 + 1), (by first | assumption | omega), rfl, hP, hD, hS, lv_sub hl [0, 1, 2, 3] rfl⟩
    intro nn_9 H locs ls ih_8 hI
    obtain ⟨k0_6, f_7, hnn_10, hP, hD, hS, hl⟩ := hI
    refine lv_iload_n hx hb dX8_scanToken_18 rfl (lv_at hl 0 rfl) ?_
    refine lv_aload_n hx hb dX8_scanToken_19 rfl (lv_at hl 2 rfl) ?_
    refine va_get (D := G.1) (ci := 7) (v := .int (iI x_length)) (C := RX8) (T := TX8) (N := 6) hx hb hts (fun _ h => List.mem_cons_of_mem _ (List.mem_append_right _ h)) hown hK hP 0 rfl rfl 4 (by decide) (hts _ (List.mem_of_getElem? (i := 2) rfl)) (fun _ h9 => h9) rfl dX8_scanToken_20 ?_
    refine lv_icmp_ge (tgt := 44) hx hb dX8_scanToken_23 (by decide) (fun c_11 => ?_) (fun c_11 => ?_)
    · have c_11 := (iI_le (a := x_length) (b := k0_6) (by omega) (by omega)).mp c_11
      refine lv_aload_n hx hb dX8_scanToken_44 rfl (lv_at hl 2 rfl) ?_
      refine lv_aload_n hx hb dX8_scanToken_45 rfl (lv_at hl 2 rfl) ?_
      refine lv_iload_n hx hb dX8_scanToken_46 rfl (lv_at hl 3 rfl) ?_
      refine lv_iload_n hx hb dX8_scanToken_47 rfl (lv_at hl 0 rfl) ?_
      refine g_calli (wr := [(x_sorts, .inl (G.2 0, 151, .inl (cI xs))), (x_starts, .inl (G.2 0, 151, .inl (cI xa))), (x_values, .inl (G.2 0, 151, .inl (cI xv)))]) (va_runV (As := [.int (iI f0), .int (iI k0_6)]) (rest := [.ref t0]) ⟨hx, hb, hml, hown, hts⟩ (c_X8_wordThere l G (t0) (x_bytes) (x_sorts) (x_starts) (x_values) (x_length) (x_tokens) (xb) (f0) (k0_6) (by first | assumption | exact y0_ | exact bd_mono y0_ (by omega) (by omega)) (by first | assumption | omega) (by first | assumption | omega) _) (cwV 2 hts gX8_scanToken_X8_wordThere rfl rfl rfl (by decide +kernel) ⟨Nat.le_of_ble_eq_true rfl, Nat.le_of_ble_eq_true rfl⟩) (g_preV t0 [.int (iI f0), .int (iI k0_6)] hP hD hK hN hS hA hZ [0, 1] rfl rfl 0 (ci := 7) rfl rfl) rfl rfl hl.1 rfl (lv_room (Nat.le_of_ble_eq_true rfl)) dX8_scanToken_48 ⟨Nat.le_of_ble_eq_true rfl, Nat.le_of_ble_eq_true rfl⟩) hP hD hS hA [0, 1] [2, 3, 4] rfl rfl rfl (by decide) (fun r_12 u H locs hw hP hD hS => ?_)
      obtain ⟨rr_13, k_14, rfl, rfl⟩ := hw
      have hP : va_P G.1 vwCl [(x_sorts, .inl (G.2 0, 151, .inl (cI xs))), (x_starts, .inl (G.2 0, 151, .inl (cI xa))), (x_values, .inl (G.2 0, 151, .inl (cI xv))), (t0, .inr (7, [.ref x_bytes, .ref x_sorts, .ref x_starts, .ref x_values, .int (iI x_length), .int (iI x_tokens)])), (x_bytes, .inl (G.2 0, 150, .inl (cI xb)))] H := hP
      have hD : va_D A [(x_sorts, .inl (G.2 0, 151, .inl (cI xs))), (x_starts, .inl (G.2 0, 151, .inl (cI xa))), (x_values, .inl (G.2 0, 151, .inl (cI xv))), (t0, .inr (7, [.ref x_bytes, .ref x_sorts, .ref x_starts, .ref x_values, .int (iI x_length), .int (iI x_tokens)])), (x_bytes, .inl (G.2 0, 150, .inl (cI xb)))] := hD
      refine lv_iload_n hx hb dX8_scanToken_51 rfl (lv_at hl 3 rfl) ?_
      refine lv_iconst (v := iI 0) hx hb dX8_scanToken_52 rfl ?_
      refine g_callv (wr := [(x_bytes, .inl (G.2 0, 150, .inl (cI xb)))]) (va_runV (As := [.int (iI rr_13), .int (iI f0), .int (iI 0)]) (rest := []) ⟨hx, hb, hml, hown, hts⟩ (c_X8_addToken l G (t0) (x_bytes) (x_sorts) (x_starts) (x_values) (x_length) (x_tokens) (xs) (xa) (xv) (rr_13) (f0) (0) (by first | assumption | exact y1_ | exact bd_mono y1_ (by omega) (by omega)) (by first | assumption | exact y2_ | exact bd_mono y2_ (by omega) (by omega)) (by first | assumption | exact y3_ | exact bd_mono y3_ (by omega) (by omega)) (by first | assumption | omega) (by first | assumption | omega) (by first | assumption | omega) (by first | assumption | omega) (by first | assumption | omega) _) (cwV 3 hts gX8_scanToken_X8_addToken rfl rfl rfl (by decide +kernel) ⟨Nat.le_of_ble_eq_true rfl, Nat.le_of_ble_eq_true rfl⟩) (g_preV t0 [.int (iI rr_13), .int (iI f0), .int (iI 0)] hP hD hK hN hS hA hZ [3, 0, 1, 2] rfl rfl 3 (ci := 7) rfl rfl) rfl rfl hl.1 rfl (lv_room (Nat.le_of_ble_eq_true rfl)) dX8_scanToken_53 ⟨Nat.le_of_ble_eq_true rfl, Nat.le_of_ble_eq_true rfl⟩) hP hD hS hA [3, 0, 1, 2] [4] rfl rfl rfl (by decide) (fun u H locs hw hP hD hS => ?_)
      obtain ⟨Nt_15, Ns_16, Na_17, Nv_18, k_19, k_20, k_21, k_22, rfl⟩ := hw
      have hP : va_P G.1 vwCl [(x_bytes, .inl (G.2 0, 150, .inl (cI xb))), (t0, .inr (7, [.ref x_bytes, .ref x_sorts, .ref x_starts, .ref x_values, .int (iI x_length), .int (iI Nt_15)])), (x_sorts, .inl (G.2 0, 151, .inl (cI Ns_16))), (x_starts, .inl (G.2 0, 151, .inl (cI Na_17))), (x_values, .inl (G.2 0, 151, .inl (cI Nv_18)))] H := hP
      have hD : va_D A [(x_bytes, .inl (G.2 0, 150, .inl (cI xb))), (t0, .inr (7, [.ref x_bytes, .ref x_sorts, .ref x_starts, .ref x_values, .int (iI x_length), .int (iI Nt_15)])), (x_sorts, .inl (G.2 0, 151, .inl (cI Ns_16))), (x_starts, .inl (G.2 0, 151, .inl (cI Na_17))), (x_values, .inl (G.2 0, 151, .inl (cI Nv_18)))] := hD
      refine lv_goto (tgt := 166) hx hb dX8_scanToken_56 (by decide) ?_
      refine lv_iload_n hx hb dX8_scanToken_166 rfl (lv_at hl 0 rfl) ?_
      have hP := hP.sub (ws' := [(t0, .inr (7, [.ref x_bytes, .ref x_sorts, .ref x_starts, .ref x_values, .int (iI x_length), .int (iI Nt_15)])), (x_bytes, .inl (G.2 0, 150, .inl (cI xb))), (x_sorts, .inl (G.2 0, 151, .inl (cI Ns_16))), (x_starts, .inl (G.2 0, 151, .inl (cI Na_17))), (x_values, .inl (G.2 0, 151, .inl (cI Nv_18)))]) [1, 0, 2, 3, 4] rfl
      have hD := hD.sub (ws' := [(t0, .inr (7, [.ref x_bytes, .ref x_sorts, .ref x_starts, .ref x_values, .int (iI x_length), .int (iI Nt_15)])), (x_bytes, .inl (G.2 0, 150, .inl (cI xb))), (x_sorts, .inl (G.2 0, 151, .inl (cI Ns_16))), (x_starts, .inl (G.2 0, 151, .inl (cI Na_17))), (x_values, .inl (G.2 0, 151, .inl (cI Nv_18)))]) [1, 0, 2, 3, 4] rfl rfl
      exact g_iret (v := (iI k0_6)) hx hb hr hlocks hP hD hS (⟨k0_6, Nt_15, Ns_16, Na_17, Nv_18, (by first | assumption | omega), (by first | assumption | omega), (by first | assumption | exact k_20 | exact bd_mono k_20 (by omega) (by omega)), (by first | assumption | exact k_21 | exact bd_mono k_21 (by omega) (by omega)), (by first | assumption | exact k_22 | exact bd_mono k_22 (by omega) (by omega)), rfl, rfl⟩) dX8_scanToken_167
    · have c_11 : ¬ (x_length ≤ k0_6) := fun h9 => c_11 ((iI_le (a := x_length) (b := k0_6) (by omega) (by omega)).mpr h9)
      refine lv_aload_n hx hb dX8_scanToken_26 rfl (lv_at hl 2 rfl) ?_
      refine va_get (D := G.1) (ci := 7) (v := .ref x_bytes) (C := RX8) (T := TX8) (N := 6) hx hb hts (fun _ h => List.mem_cons_of_mem _ (List.mem_append_right _ h)) hown hK hP 0 rfl rfl 0 (by decide) (hts _ (List.mem_of_getElem? (i := 1) rfl)) (fun _ h9 => h9) rfl dX8_scanToken_27 ?_
      refine lv_iload_n hx hb dX8_scanToken_30 rfl (lv_at hl 0 rfl) ?_
      refine g_ild hx hb hK hP 1 rfl (by omega) (by omega) (by omega) dX8_scanToken_31 (fun w_23 ew_23 => ?_)
      have b0w_23 : _ := y0_ (k0_6.toNat)
      rw [ew_23] at b0w_23
      refine g_calli (wr := [(t0, .inr (7, [.ref x_bytes, .ref x_sorts, .ref x_starts, .ref x_values, .int (iI x_length), .int (iI x_tokens)])), (x_bytes, .inl (G.2 0, 150, .inl (cI xb))), (x_sorts, .inl (G.2 0, 151, .inl (cI xs))), (x_starts, .inl (G.2 0, 151, .inl (cI xa))), (x_values, .inl (G.2 0, 151, .inl (cI xv)))]) (va_runS (As := [.int (iI w_23)]) (rest := []) ⟨hx, hb, hml, hown, hts⟩ (c_X8_isLetter l G (w_23) (by first | assumption | omega) _) (va_cwS 1 hts gX8_scanToken_X8_isLetter rfl rfl rfl (by decide +kernel) ⟨Nat.le_of_ble_eq_true rfl, Nat.le_of_ble_eq_true rfl⟩) (g_preS [.int (iI w_23)] hP hD hK hN hS hA hZ [] rfl rfl) rfl rfl hl.1 rfl (lv_room (Nat.le_of_ble_eq_true rfl)) dX8_scanToken_32 ⟨Nat.le_of_ble_eq_true rfl, Nat.le_of_ble_eq_true rfl⟩) hP hD hS hA [] [0, 1, 2, 3, 4] rfl rfl rfl (by decide) (fun r_24 u H locs hw hP hD hS => ?_)
      rcases hw with ⟨k_25, rfl, rfl⟩ | ⟨k_26, rfl, rfl⟩
      · have hP : va_P G.1 vwCl [(t0, .inr (7, [.ref x_bytes, .ref x_sorts, .ref x_starts, .ref x_values, .int (iI x_length), .int (iI x_tokens)])), (x_bytes, .inl (G.2 0, 150, .inl (cI xb))), (x_sorts, .inl (G.2 0, 151, .inl (cI xs))), (x_starts, .inl (G.2 0, 151, .inl (cI xa))), (x_values, .inl (G.2 0, 151, .inl (cI xv)))] H := hP
        have hD : va_D A [(t0, .inr (7, [.ref x_bytes, .ref x_sorts, .ref x_starts, .ref x_values, .int (iI x_length), .int (iI x_tokens)])), (x_bytes, .inl (G.2 0, 150, .inl (cI xb))), (x_sorts, .inl (G.2 0, 151, .inl (cI xs))), (x_starts, .inl (G.2 0, 151, .inl (cI xa))), (x_values, .inl (G.2 0, 151, .inl (cI xv)))] := hD
        refine lv_if_eq (tgt := 44) hx hb dX8_scanToken_35 (by decide) (fun c_27 => g_no c_27 (by decide)) (fun _ => ?_)
        refine lv_iinc (v := iI (k0_6 + 1)) (lv' := [(3, .int (iI (k0_6 + 1))), (2, .int (iI w_1)), (0, .ref t0), (1, .int (iI f0))]) hx hb dX8_scanToken_38 hl (k := 0) rfl (iI_add k0_6 1) (by decide) rfl (fun ls hl => ?_)
        refine lv_goto (tgt := 18) hx hb dX8_scanToken_41 (by decide) ?_
        exact ih_8 _ _ _ _ (by omega) ⟨(k0_6 + 1), (by first | assumption | omega), rfl, hP, hD, hS, lv_sub hl [0, 1, 2, 3] rfl⟩
      · have hP : va_P G.1 vwCl [(t0, .inr (7, [.ref x_bytes, .ref x_sorts, .ref x_starts, .ref x_values, .int (iI x_length), .int (iI x_tokens)])), (x_bytes, .inl (G.2 0, 150, .inl (cI xb))), (x_sorts, .inl (G.2 0, 151, .inl (cI xs))), (x_starts, .inl (G.2 0, 151, .inl (cI xa))), (x_values, .inl (G.2 0, 151, .inl (cI xv)))] H := hP
        have hD : va_D A [(t0, .inr (7, [.ref x_bytes, .ref x_sorts, .ref x_starts, .ref x_values, .int (iI x_length), .int (iI x_tokens)])), (x_bytes, .inl (G.2 0, 150, .inl (cI xb))), (x_sorts, .inl (G.2 0, 151, .inl (cI xs))), (x_starts, .inl (G.2 0, 151, .inl (cI xa))), (x_values, .inl (G.2 0, 151, .inl (cI xv)))] := hD
        refine lv_if_eq (tgt := 44) hx hb dX8_scanToken_35 (by decide) (fun _ => ?_) (fun c_28 => g_no (by decide) c_28)
        refine lv_aload_n hx hb dX8_scanToken_44 rfl (lv_at hl 2 rfl) ?_
        refine lv_aload_n hx hb dX8_scanToken_45 rfl (lv_at hl 2 rfl) ?_
        refine lv_iload_n hx hb dX8_scanToken_46 rfl (lv_at hl 3 rfl) ?_
        refine lv_iload_n hx hb dX8_scanToken_47 rfl (lv_at hl 0 rfl) ?_
        refine g_calli (wr := [(x_sorts, .inl (G.2 0, 151, .inl (cI xs))), (x_starts, .inl (G.2 0, 151, .inl (cI xa))), (x_values, .inl (G.2 0, 151, .inl (cI xv)))]) (va_runV (As := [.int (iI f0), .int (iI k0_6)]) (rest := [.ref t0]) ⟨hx, hb, hml, hown, hts⟩ (c_X8_wordThere l G (t0) (x_bytes) (x_sorts) (x_starts) (x_values) (x_length) (x_tokens) (xb) (f0) (k0_6) (by first | assumption | exact y0_ | exact bd_mono y0_ (by omega) (by omega)) (by first | assumption | omega) (by first | assumption | omega) _) (cwV 2 hts gX8_scanToken_X8_wordThere rfl rfl rfl (by decide +kernel) ⟨Nat.le_of_ble_eq_true rfl, Nat.le_of_ble_eq_true rfl⟩) (g_preV t0 [.int (iI f0), .int (iI k0_6)] hP hD hK hN hS hA hZ [0, 1] rfl rfl 0 (ci := 7) rfl rfl) rfl rfl hl.1 rfl (lv_room (Nat.le_of_ble_eq_true rfl)) dX8_scanToken_48 ⟨Nat.le_of_ble_eq_true rfl, Nat.le_of_ble_eq_true rfl⟩) hP hD hS hA [0, 1] [2, 3, 4] rfl rfl rfl (by decide) (fun r_29 u H locs hw hP hD hS => ?_)
        obtain ⟨rr_30, k_31, rfl, rfl⟩ := hw
        have hP : va_P G.1 vwCl [(x_sorts, .inl (G.2 0, 151, .inl (cI xs))), (x_starts, .inl (G.2 0, 151, .inl (cI xa))), (x_values, .inl (G.2 0, 151, .inl (cI xv))), (t0, .inr (7, [.ref x_bytes, .ref x_sorts, .ref x_starts, .ref x_values, .int (iI x_length), .int (iI x_tokens)])), (x_bytes, .inl (G.2 0, 150, .inl (cI xb)))] H := hP
        have hD : va_D A [(x_sorts, .inl (G.2 0, 151, .inl (cI xs))), (x_starts, .inl (G.2 0, 151, .inl (cI xa))), (x_values, .inl (G.2 0, 151, .inl (cI xv))), (t0, .inr (7, [.ref x_bytes, .ref x_sorts, .ref x_starts, .ref x_values, .int (iI x_length), .int (iI x_tokens)])), (x_bytes, .inl (G.2 0, 150, .inl (cI xb)))] := hD
        refine lv_iload_n hx hb dX8_scanToken_51 rfl (lv_at hl 3 rfl) ?_
        refine lv_iconst (v := iI 0) hx hb dX8_scanToken_52 rfl ?_
        refine g_callv (wr := [(x_bytes, .inl (G.2 0, 150, .inl (cI xb)))]) (va_runV (As := [.int (iI rr_30), .int (iI f0), .int (iI 0)]) (rest := []) ⟨hx, hb, hml, hown, hts⟩ (c_X8_addToken l G (t0) (x_bytes) (x_sorts) (x_starts) (x_values) (x_length) (x_tokens) (xs) (xa) (xv) (rr_30) (f0) (0) (by first | assumption | exact y1_ | exact bd_mono y1_ (by omega) (by omega)) (by first | assumption | exact y2_ | exact bd_mono y2_ (by omega) (by omega)) (by first | assumption | exact y3_ | exact bd_mono y3_ (by omega) (by omega)) (by first | assumption | omega) (by first | assumption | omega) (by first | assumption | omega) (by first | assumption | omega) (by first | assumption | omega) _) (cwV 3 hts gX8_scanToken_X8_addToken rfl rfl rfl (by decide +kernel) ⟨Nat.le_of_ble_eq_true rfl, Nat.le_of_ble_eq_true rfl⟩) (g_preV t0 [.int (iI rr_30), .int (iI f0), .int (iI 0)] hP hD hK hN hS hA hZ [3, 0, 1, 2] rfl rfl 3 (ci := 7) rfl rfl) rfl rfl hl.1 rfl (lv_room (Nat.le_of_ble_eq_true rfl)) dX8_scanToken_53 ⟨Nat.le_of_ble_eq_true rfl, Nat.le_of_ble_eq_true rfl⟩) hP hD hS hA [3, 0, 1, 2] [4] rfl rfl rfl (by decide) (fun u H locs hw hP hD hS => ?_)
        obtain ⟨Nt_32, Ns_33, Na_34, Nv_35, k_36, k_37, k_38, k_39, rfl⟩ := hw
        have hP : va_P G.1 vwCl [(x_bytes, .inl (G.2 0, 150, .inl (cI xb))), (t0, .inr (7, [.ref x_bytes, .ref x_sorts, .ref x_starts, .ref x_values, .int (iI x_length), .int (iI Nt_32)])), (x_sorts, .inl (G.2 0, 151, .inl (cI Ns_33))), (x_starts, .inl (G.2 0, 151, .inl (cI Na_34))), (x_values, .inl (G.2 0, 151, .inl (cI Nv_35)))] H := hP
        have hD : va_D A [(x_bytes, .inl (G.2 0, 150, .inl (cI xb))), (t0, .inr (7, [.ref x_bytes, .ref x_sorts, .ref x_starts, .ref x_values, .int (iI x_length), .int (iI Nt_32)])), (x_sorts, .inl (G.2 0, 151, .inl (cI Ns_33))), (x_starts, .inl (G.2 0, 151, .inl (cI Na_34))), (x_values, .inl (G.2 0, 151, .inl (cI Nv_35)))] := hD
        refine lv_goto (tgt := 166) hx hb dX8_scanToken_56 (by decide) ?_
        refine lv_iload_n hx hb dX8_scanToken_166 rfl (lv_at hl 0 rfl) ?_
        have hP := hP.sub (ws' := [(t0, .inr (7, [.ref x_bytes, .ref x_sorts, .ref x_starts, .ref x_values, .int (iI x_length), .int (iI Nt_32)])), (x_bytes, .inl (G.2 0, 150, .inl (cI xb))), (x_sorts, .inl (G.2 0, 151, .inl (cI Ns_33))), (x_starts, .inl (G.2 0, 151, .inl (cI Na_34))), (x_values, .inl (G.2 0, 151, .inl (cI Nv_35)))]) [1, 0, 2, 3, 4] rfl
        have hD := hD.sub (ws' := [(t0, .inr (7, [.ref x_bytes, .ref x_sorts, .ref x_starts, .ref x_values, .int (iI x_length), .int (iI Nt_32)])), (x_bytes, .inl (G.2 0, 150, .inl (cI xb))), (x_sorts, .inl (G.2 0, 151, .inl (cI Ns_33))), (x_starts, .inl (G.2 0, 151, .inl (cI Na_34))), (x_values, .inl (G.2 0, 151, .inl (cI Nv_35)))]) [1, 0, 2, 3, 4] rfl rfl
        exact g_iret (v := (iI k0_6)) hx hb hr hlocks hP hD hS (⟨k0_6, Nt_32, Ns_33, Na_34, Nv_35, (by first | assumption | omega), (by first | assumption | omega), (by first | assumption | exact k_37 | exact bd_mono k_37 (by omega) (by omega)), (by first | assumption | exact k_38 | exact bd_mono k_38 (by omega) (by omega)), (by first | assumption | exact k_39 | exact bd_mono k_39 (by omega) (by omega)), rfl, rfl⟩) dX8_scanToken_167
  · have hP : va_P G.1 vwCl [(t0, .inr (7, [.ref x_bytes, .ref x_sorts, .ref x_starts, .ref x_values, .int (iI x_length), .int (iI x_tokens)])), (x_bytes, .inl (G.2 0, 150, .inl (cI xb))), (x_sorts, .inl (G.2 0, 151, .inl (cI xs))), (x_starts, .inl (G.2 0, 151, .inl (cI xa))), (x_values, .inl (G.2 0, 151, .inl (cI xv)))] H := hP
    have hD : va_D A [(t0, .inr (7, [.ref x_bytes, .ref x_sorts, .ref x_starts, .ref x_values, .int (iI x_length), .int (iI x_tokens)])), (x_bytes, .inl (G.2 0, 150, .inl (cI xb))), (x_sorts, .inl (G.2 0, 151, .inl (cI xs))), (x_starts, .inl (G.2 0, 151, .inl (cI xa))), (x_values, .inl (G.2 0, 151, .inl (cI xv)))] := hD
    refine lv_if_eq (tgt := 59) hx hb dX8_scanToken_15 (by decide) (fun _ => ?_) (fun c_40 => g_no (by decide) c_40)
    refine lv_iload_n hx hb dX8_scanToken_59 rfl (lv_at hl 1 rfl) ?_
    refine g_calli (wr := [(t0, .inr (7, [.ref x_bytes, .ref x_sorts, .ref x_starts, .ref x_values, .int (iI x_length), .int (iI x_tokens)])), (x_bytes, .inl (G.2 0, 150, .inl (cI xb))), (x_sorts, .inl (G.2 0, 151, .inl (cI xs))), (x_starts, .inl (G.2 0, 151, .inl (cI xa))), (x_values, .inl (G.2 0, 151, .inl (cI xv)))]) (va_runS (As := [.int (iI w_1)]) (rest := []) ⟨hx, hb, hml, hown, hts⟩ (c_X8_isFigure l G (w_1) (by first | assumption | omega) _) (va_cwS 1 hts gX8_scanToken_X8_isFigure rfl rfl rfl (by decide +kernel) ⟨Nat.le_of_ble_eq_true rfl, Nat.le_of_ble_eq_true rfl⟩) (g_preS [.int (iI w_1)] hP hD hK hN hS hA hZ [] rfl rfl) rfl rfl hl.1 rfl (lv_room (Nat.le_of_ble_eq_true rfl)) dX8_scanToken_60 ⟨Nat.le_of_ble_eq_true rfl, Nat.le_of_ble_eq_true rfl⟩) hP hD hS hA [] [0, 1, 2, 3, 4] rfl rfl rfl (by decide) (fun r_41 u H locs hw hP hD hS => ?_)
    rcases hw with ⟨k_42, rfl, rfl⟩ | ⟨k_43, rfl, rfl⟩
    · have hP : va_P G.1 vwCl [(t0, .inr (7, [.ref x_bytes, .ref x_sorts, .ref x_starts, .ref x_values, .int (iI x_length), .int (iI x_tokens)])), (x_bytes, .inl (G.2 0, 150, .inl (cI xb))), (x_sorts, .inl (G.2 0, 151, .inl (cI xs))), (x_starts, .inl (G.2 0, 151, .inl (cI xa))), (x_values, .inl (G.2 0, 151, .inl (cI xv)))] H := hP
      have hD : va_D A [(t0, .inr (7, [.ref x_bytes, .ref x_sorts, .ref x_starts, .ref x_values, .int (iI x_length), .int (iI x_tokens)])), (x_bytes, .inl (G.2 0, 150, .inl (cI xb))), (x_sorts, .inl (G.2 0, 151, .inl (cI xs))), (x_starts, .inl (G.2 0, 151, .inl (cI xa))), (x_values, .inl (G.2 0, 151, .inl (cI xv)))] := hD
      refine lv_if_eq (tgt := 149) hx hb dX8_scanToken_63 (by decide) (fun c_44 => g_no c_44 (by decide)) (fun _ => ?_)
      refine g_loopN (pc := 66) (fun nn H locs ls => ∃ k0_45 : Int, (f0 + 1 ≤ k0_45 ∧ k0_45 ≤ x_length) ∧ (151 - k0_45).toNat = nn ∧ va_P G.1 vwCl [(t0, .inr (7, [.ref x_bytes, .ref x_sorts, .ref x_starts, .ref x_values, .int (iI x_length), .int (iI x_tokens)])), (x_bytes, .inl (G.2 0, 150, .inl (cI xb))), (x_sorts, .inl (G.2 0, 151, .inl (cI xs))), (x_starts, .inl (G.2 0, 151, .inl (cI xa))), (x_values, .inl (G.2 0, 151, .inl (cI xv)))] H ∧ va_D A [(t0, .inr (7, [.ref x_bytes, .ref x_sorts, .ref x_starts, .ref x_values, .int (iI x_length), .int (iI x_tokens)])), (x_bytes, .inl (G.2 0, 150, .inl (cI xb))), (x_sorts, .inl (G.2 0, 151, .inl (cI xs))), (x_starts, .inl (G.2 0, 151, .inl (cI xa))), (x_values, .inl (G.2 0, 151, .inl (cI xv)))] ∧ va_S A s.heap H locs ∧ lv_has ls 5 [(3, .int (iI k0_45)), (2, .int (iI w_1)), (0, .ref t0), (1, .int (iI f0))]) ?_ ⟨(f0 + 1), (by first | assumption | omega), rfl, hP, hD, hS, lv_sub hl [0, 1, 2, 3] rfl⟩
      intro nn_48 H locs ls ih_47 hI
      obtain ⟨k0_45, f_46, hnn_49, hP, hD, hS, hl⟩ := hI
      refine lv_iload_n hx hb dX8_scanToken_66 rfl (lv_at hl 0 rfl) ?_
      refine lv_aload_n hx hb dX8_scanToken_67 rfl (lv_at hl 2 rfl) ?_
      refine va_get (D := G.1) (ci := 7) (v := .int (iI x_length)) (C := RX8) (T := TX8) (N := 6) hx hb hts (fun _ h => List.mem_cons_of_mem _ (List.mem_append_right _ h)) hown hK hP 0 rfl rfl 4 (by decide) (hts _ (List.mem_of_getElem? (i := 2) rfl)) (fun _ h9 => h9) rfl dX8_scanToken_68 ?_
      refine lv_icmp_ge (tgt := 92) hx hb dX8_scanToken_71 (by decide) (fun c_50 => ?_) (fun c_50 => ?_)
      · have c_50 := (iI_le (a := x_length) (b := k0_45) (by omega) (by omega)).mp c_50
        refine lv_iload_n hx hb dX8_scanToken_92 rfl (lv_at hl 0 rfl) ?_
        refine lv_iload_n hx hb dX8_scanToken_93 rfl (lv_at hl 3 rfl) ?_
        refine lv_isub hx hb dX8_scanToken_94 ?_
        refine g_topi (y := iI (k0_45 - f0)) (iI_sub k0_45 f0) ?_
        refine lv_iconst (v := iI 1) hx hb dX8_scanToken_95 rfl ?_
        refine g_join (jn := 125) (rest := []) (fun t_51 ls => (-1000 ≤ t_51 ∧ t_51 ≤ 3000) ∧ lv_has ls 5 [(3, .int (iI k0_45)), (2, .int (iI w_1)), (0, .ref t0), (1, .int (iI f0))]) (fun t_51 ls hI => ?_) (fun hJ_52 => ?_)
        · obtain ⟨f_53, hl⟩ := hI
          refine lv_istore (lv' := [(4, .int (iI t_51)), (3, .int (iI k0_45)), (2, .int (iI w_1)), (0, .ref t0), (1, .int (iI f0))]) hx hb dX8_scanToken_125 hl (by decide) rfl (fun ls hl => ?_)
          refine lv_aload_n hx hb dX8_scanToken_127 rfl (lv_at hl 3 rfl) ?_
          refine lv_iload_n hx hb dX8_scanToken_128 rfl (lv_at hl 1 rfl) ?_
          refine lv_iload_n hx hb dX8_scanToken_129 rfl (lv_at hl 4 rfl) ?_
          refine lv_isub hx hb dX8_scanToken_130 ?_
          refine g_topi (y := iI (k0_45 - f0)) (iI_sub k0_45 f0) ?_
          refine lv_iconst (v := iI 2) hx hb dX8_scanToken_131 rfl ?_
          refine g_join (jn := 140) (rest := [.ref t0]) (fun t_54 ls => ((2 < (k0_45 - f0) ∧ t_54 = 3) ∨ (¬ (2 < (k0_45 - f0)) ∧ t_54 = 2)) ∧ lv_has ls 5 [(4, .int (iI t_51)), (3, .int (iI k0_45)), (2, .int (iI w_1)), (0, .ref t0), (1, .int (iI f0))]) (fun t_54 ls hI => ?_) (fun hJ_55 => ?_)
          · obtain ⟨f_56, hl⟩ := hI
            refine lv_iload_n hx hb dX8_scanToken_140 rfl (lv_at hl 4 rfl) ?_
            refine lv_iload hx hb dX8_scanToken_141 (lv_at hl 0 rfl) ?_
            refine g_callv (wr := [(x_bytes, .inl (G.2 0, 150, .inl (cI xb)))]) (va_runV (As := [.int (iI t_54), .int (iI f0), .int (iI t_51)]) (rest := []) ⟨hx, hb, hml, hown, hts⟩ (c_X8_addToken l G (t0) (x_bytes) (x_sorts) (x_starts) (x_values) (x_length) (x_tokens) (xs) (xa) (xv) (t_54) (f0) (t_51) (by first | assumption | exact y1_ | exact bd_mono y1_ (by omega) (by omega)) (by first | assumption | exact y2_ | exact bd_mono y2_ (by omega) (by omega)) (by first | assumption | exact y3_ | exact bd_mono y3_ (by omega) (by omega)) (by first | assumption | omega) (by first | assumption | omega) (by first | assumption | omega) (by first | assumption | omega) (by first | assumption | omega) _) (cwV 3 hts gX8_scanToken_X8_addToken rfl rfl rfl (by decide +kernel) ⟨Nat.le_of_ble_eq_true rfl, Nat.le_of_ble_eq_true rfl⟩) (g_preV t0 [.int (iI t_54), .int (iI f0), .int (iI t_51)] hP hD hK hN hS hA hZ [0, 2, 3, 4] rfl rfl 0 (ci := 7) rfl rfl) rfl rfl hl.1 rfl (lv_room (Nat.le_of_ble_eq_true rfl)) dX8_scanToken_143 ⟨Nat.le_of_ble_eq_true rfl, Nat.le_of_ble_eq_true rfl⟩) hP hD hS hA [0, 2, 3, 4] [1] rfl rfl rfl (by decide) (fun u H locs hw hP hD hS => ?_)
            obtain ⟨Nt_57, Ns_58, Na_59, Nv_60, k_61, k_62, k_63, k_64, rfl⟩ := hw
            have hP : va_P G.1 vwCl [(x_bytes, .inl (G.2 0, 150, .inl (cI xb))), (t0, .inr (7, [.ref x_bytes, .ref x_sorts, .ref x_starts, .ref x_values, .int (iI x_length), .int (iI Nt_57)])), (x_sorts, .inl (G.2 0, 151, .inl (cI Ns_58))), (x_starts, .inl (G.2 0, 151, .inl (cI Na_59))), (x_values, .inl (G.2 0, 151, .inl (cI Nv_60)))] H := hP
            have hD : va_D A [(x_bytes, .inl (G.2 0, 150, .inl (cI xb))), (t0, .inr (7, [.ref x_bytes, .ref x_sorts, .ref x_starts, .ref x_values, .int (iI x_length), .int (iI Nt_57)])), (x_sorts, .inl (G.2 0, 151, .inl (cI Ns_58))), (x_starts, .inl (G.2 0, 151, .inl (cI Na_59))), (x_values, .inl (G.2 0, 151, .inl (cI Nv_60)))] := hD
            refine lv_goto (tgt := 166) hx hb dX8_scanToken_146 (by decide) ?_
            refine lv_iload_n hx hb dX8_scanToken_166 rfl (lv_at hl 1 rfl) ?_
            have hP := hP.sub (ws' := [(t0, .inr (7, [.ref x_bytes, .ref x_sorts, .ref x_starts, .ref x_values, .int (iI x_length), .int (iI Nt_57)])), (x_bytes, .inl (G.2 0, 150, .inl (cI xb))), (x_sorts, .inl (G.2 0, 151, .inl (cI Ns_58))), (x_starts, .inl (G.2 0, 151, .inl (cI Na_59))), (x_values, .inl (G.2 0, 151, .inl (cI Nv_60)))]) [1, 0, 2, 3, 4] rfl
            have hD := hD.sub (ws' := [(t0, .inr (7, [.ref x_bytes, .ref x_sorts, .ref x_starts, .ref x_values, .int (iI x_length), .int (iI Nt_57)])), (x_bytes, .inl (G.2 0, 150, .inl (cI xb))), (x_sorts, .inl (G.2 0, 151, .inl (cI Ns_58))), (x_starts, .inl (G.2 0, 151, .inl (cI Na_59))), (x_values, .inl (G.2 0, 151, .inl (cI Nv_60)))]) [1, 0, 2, 3, 4] rfl rfl
            exact g_iret (v := (iI k0_45)) hx hb hr hlocks hP hD hS (⟨k0_45, Nt_57, Ns_58, Na_59, Nv_60, (by first | assumption | omega), (by first | assumption | omega), (by first | assumption | exact k_62 | exact bd_mono k_62 (by omega) (by omega)), (by first | assumption | exact k_63 | exact bd_mono k_63 (by omega) (by omega)), (by first | assumption | exact k_64 | exact bd_mono k_64 (by omega) (by omega)), rfl, rfl⟩) dX8_scanToken_167
          · refine lv_icmp_gt (tgt := 139) hx hb dX8_scanToken_132 (by decide) (fun c_65 => ?_) (fun c_65 => ?_)
            · have c_65 := (iI_lt (a := 2) (b := (k0_45 - f0)) (by omega) (by omega)).mp c_65
              refine lv_iconst (v := iI 3) hx hb dX8_scanToken_139 rfl ?_
              exact hJ_55 3 ls ⟨by omega, lv_sub hl [0, 1, 2, 3, 4] rfl⟩
            · have c_65 : ¬ (2 < (k0_45 - f0)) := fun h9 => c_65 ((iI_lt (a := 2) (b := (k0_45 - f0)) (by omega) (by omega)).mpr h9)
              refine lv_iconst (v := iI 2) hx hb dX8_scanToken_135 rfl ?_
              refine lv_goto (tgt := 140) hx hb dX8_scanToken_136 (by decide) ?_
              exact hJ_55 2 ls ⟨by omega, lv_sub hl [0, 1, 2, 3, 4] rfl⟩
        · refine lv_icmp_ne (tgt := 106) hx hb dX8_scanToken_96 (by decide) (fun c_66 => ?_) (fun c_66 => ?_)
          · have c_66 : ¬ ((k0_45 - f0) = 1) := fun h9 => c_66 ((iI_eq (a := (k0_45 - f0)) (b := 1) (by omega) (by omega)).mpr h9)
            refine lv_iload_n hx hb dX8_scanToken_106 rfl (lv_at hl 1 rfl) ?_
            refine lv_bipush (v := iI 48) hx hb dX8_scanToken_107 (by decide) ?_
            refine lv_isub hx hb dX8_scanToken_109 ?_
            refine g_topi (y := iI (w_1 - 48)) (iI_sub w_1 48) ?_
            refine lv_bipush (v := iI 10) hx hb dX8_scanToken_110 (by decide) ?_
            refine lv_imul hx hb dX8_scanToken_112 ?_
            refine g_topi (y := iI ((w_1 - 48) * 10)) (iI_mul (w_1 - 48) 10) ?_
            refine lv_aload_n hx hb dX8_scanToken_113 rfl (lv_at hl 2 rfl) ?_
            refine va_get (D := G.1) (ci := 7) (v := .ref x_bytes) (C := RX8) (T := TX8) (N := 6) hx hb hts (fun _ h => List.mem_cons_of_mem _ (List.mem_append_right _ h)) hown hK hP 0 rfl rfl 0 (by decide) (hts _ (List.mem_of_getElem? (i := 1) rfl)) (fun _ h9 => h9) rfl dX8_scanToken_114 ?_
            refine lv_iload_n hx hb dX8_scanToken_117 rfl (lv_at hl 0 rfl) ?_
            refine lv_iconst (v := iI 1) hx hb dX8_scanToken_118 rfl ?_
            refine lv_isub hx hb dX8_scanToken_119 ?_
            refine g_topi (y := iI (k0_45 - 1)) (iI_sub k0_45 1) ?_
            refine g_ild hx hb hK hP 1 rfl (by omega) (by omega) (by omega) dX8_scanToken_120 (fun w_67 ew_67 => ?_)
            have b0w_67 : _ := y0_ ((k0_45 - 1).toNat)
            rw [ew_67] at b0w_67
            refine lv_iadd hx hb dX8_scanToken_121 ?_
            refine g_topi (y := iI (((w_1 - 48) * 10) + w_67)) (iI_add ((w_1 - 48) * 10) w_67) ?_
            refine lv_bipush (v := iI 48) hx hb dX8_scanToken_122 (by decide) ?_
            refine lv_isub hx hb dX8_scanToken_124 ?_
            refine g_topi (y := iI ((((w_1 - 48) * 10) + w_67) - 48)) (iI_sub (((w_1 - 48) * 10) + w_67) 48) ?_
            exact hJ_52 ((((w_1 - 48) * 10) + w_67) - 48) ls ⟨by omega, lv_sub hl [0, 1, 2, 3] rfl⟩
          · have c_66 := (iI_eq (a := (k0_45 - f0)) (b := 1) (by omega) (by omega)).mp c_66
            refine lv_iload_n hx hb dX8_scanToken_99 rfl (lv_at hl 1 rfl) ?_
            refine lv_bipush (v := iI 48) hx hb dX8_scanToken_100 (by decide) ?_
            refine lv_isub hx hb dX8_scanToken_102 ?_
            refine g_topi (y := iI (w_1 - 48)) (iI_sub w_1 48) ?_
            refine lv_goto (tgt := 125) hx hb dX8_scanToken_103 (by decide) ?_
            exact hJ_52 (w_1 - 48) ls ⟨by omega, lv_sub hl [0, 1, 2, 3] rfl⟩
      · have c_50 : ¬ (x_length ≤ k0_45) := fun h9 => c_50 ((iI_le (a := x_length) (b := k0_45) (by omega) (by omega)).mpr h9)
        refine lv_aload_n hx hb dX8_scanToken_74 rfl (lv_at hl 2 rfl) ?_
        refine va_get (D := G.1) (ci := 7) (v := .ref x_bytes) (C := RX8) (T := TX8) (N := 6) hx hb hts (fun _ h => List.mem_cons_of_mem _ (List.mem_append_right _ h)) hown hK hP 0 rfl rfl 0 (by decide) (hts _ (List.mem_of_getElem? (i := 1) rfl)) (fun _ h9 => h9) rfl dX8_scanToken_75 ?_
        refine lv_iload_n hx hb dX8_scanToken_78 rfl (lv_at hl 0 rfl) ?_
        refine g_ild hx hb hK hP 1 rfl (by omega) (by omega) (by omega) dX8_scanToken_79 (fun w_68 ew_68 => ?_)
        have b0w_68 : _ := y0_ (k0_45.toNat)
        rw [ew_68] at b0w_68
        refine g_calli (wr := [(t0, .inr (7, [.ref x_bytes, .ref x_sorts, .ref x_starts, .ref x_values, .int (iI x_length), .int (iI x_tokens)])), (x_bytes, .inl (G.2 0, 150, .inl (cI xb))), (x_sorts, .inl (G.2 0, 151, .inl (cI xs))), (x_starts, .inl (G.2 0, 151, .inl (cI xa))), (x_values, .inl (G.2 0, 151, .inl (cI xv)))]) (va_runS (As := [.int (iI w_68)]) (rest := []) ⟨hx, hb, hml, hown, hts⟩ (c_X8_isFigure l G (w_68) (by first | assumption | omega) _) (va_cwS 1 hts gX8_scanToken_X8_isFigure rfl rfl rfl (by decide +kernel) ⟨Nat.le_of_ble_eq_true rfl, Nat.le_of_ble_eq_true rfl⟩) (g_preS [.int (iI w_68)] hP hD hK hN hS hA hZ [] rfl rfl) rfl rfl hl.1 rfl (lv_room (Nat.le_of_ble_eq_true rfl)) dX8_scanToken_80 ⟨Nat.le_of_ble_eq_true rfl, Nat.le_of_ble_eq_true rfl⟩) hP hD hS hA [] [0, 1, 2, 3, 4] rfl rfl rfl (by decide) (fun r_69 u H locs hw hP hD hS => ?_)
        rcases hw with ⟨k_70, rfl, rfl⟩ | ⟨k_71, rfl, rfl⟩
        · have hP : va_P G.1 vwCl [(t0, .inr (7, [.ref x_bytes, .ref x_sorts, .ref x_starts, .ref x_values, .int (iI x_length), .int (iI x_tokens)])), (x_bytes, .inl (G.2 0, 150, .inl (cI xb))), (x_sorts, .inl (G.2 0, 151, .inl (cI xs))), (x_starts, .inl (G.2 0, 151, .inl (cI xa))), (x_values, .inl (G.2 0, 151, .inl (cI xv)))] H := hP
          have hD : va_D A [(t0, .inr (7, [.ref x_bytes, .ref x_sorts, .ref x_starts, .ref x_values, .int (iI x_length), .int (iI x_tokens)])), (x_bytes, .inl (G.2 0, 150, .inl (cI xb))), (x_sorts, .inl (G.2 0, 151, .inl (cI xs))), (x_starts, .inl (G.2 0, 151, .inl (cI xa))), (x_values, .inl (G.2 0, 151, .inl (cI xv)))] := hD
          refine lv_if_eq (tgt := 92) hx hb dX8_scanToken_83 (by decide) (fun c_72 => g_no c_72 (by decide)) (fun _ => ?_)
          refine lv_iinc (v := iI (k0_45 + 1)) (lv' := [(3, .int (iI (k0_45 + 1))), (2, .int (iI w_1)), (0, .ref t0), (1, .int (iI f0))]) hx hb dX8_scanToken_86 hl (k := 0) rfl (iI_add k0_45 1) (by decide) rfl (fun ls hl => ?_)
          refine lv_goto (tgt := 66) hx hb dX8_scanToken_89 (by decide) ?_
          exact ih_47 _ _ _ _ (by omega) ⟨(k0_45 + 1), (by first | assumption | omega), rfl, hP, hD, hS, lv_sub hl [0, 1, 2, 3] rfl⟩
        · have hP : va_P G.1 vwCl [(t0, .inr (7, [.ref x_bytes, .ref x_sorts, .ref x_starts, .ref x_values, .int (iI x_length), .int (iI x_tokens)])), (x_bytes, .inl (G.2 0, 150, .inl (cI xb))), (x_sorts, .inl (G.2 0, 151, .inl (cI xs))), (x_starts, .inl (G.2 0, 151, .inl (cI xa))), (x_values, .inl (G.2 0, 151, .inl (cI xv)))] H := hP
          have hD : va_D A [(t0, .inr (7, [.ref x_bytes, .ref x_sorts, .ref x_starts, .ref x_values, .int (iI x_length), .int (iI x_tokens)])), (x_bytes, .inl (G.2 0, 150, .inl (cI xb))), (x_sorts, .inl (G.2 0, 151, .inl (cI xs))), (x_starts, .inl (G.2 0, 151, .inl (cI xa))), (x_values, .inl (G.2 0, 151, .inl (cI xv)))] := hD
          refine lv_if_eq (tgt := 92) hx hb dX8_scanToken_83 (by decide) (fun _ => ?_) (fun c_73 => g_no (by decide) c_73)
          refine lv_iload_n hx hb dX8_scanToken_92 rfl (lv_at hl 0 rfl) ?_
          refine lv_iload_n hx hb dX8_scanToken_93 rfl (lv_at hl 3 rfl) ?_
          refine lv_isub hx hb dX8_scanToken_94 ?_
          refine g_topi (y := iI (k0_45 - f0)) (iI_sub k0_45 f0) ?_
          refine lv_iconst (v := iI 1) hx hb dX8_scanToken_95 rfl ?_
          refine g_join (jn := 125) (rest := []) (fun t_74 ls => (-1000 ≤ t_74 ∧ t_74 ≤ 3000) ∧ lv_has ls 5 [(3, .int (iI k0_45)), (2, .int (iI w_1)), (0, .ref t0), (1, .int (iI f0))]) (fun t_74 ls hI => ?_) (fun hJ_75 => ?_)
          · obtain ⟨f_76, hl⟩ := hI
            refine lv_istore (lv' := [(4, .int (iI t_74)), (3, .int (iI k0_45)), (2, .int (iI w_1)), (0, .ref t0), (1, .int (iI f0))]) hx hb dX8_scanToken_125 hl (by decide) rfl (fun ls hl => ?_)
            refine lv_aload_n hx hb dX8_scanToken_127 rfl (lv_at hl 3 rfl) ?_
            refine lv_iload_n hx hb dX8_scanToken_128 rfl (lv_at hl 1 rfl) ?_
            refine lv_iload_n hx hb dX8_scanToken_129 rfl (lv_at hl 4 rfl) ?_
            refine lv_isub hx hb dX8_scanToken_130 ?_
            refine g_topi (y := iI (k0_45 - f0)) (iI_sub k0_45 f0) ?_
            refine lv_iconst (v := iI 2) hx hb dX8_scanToken_131 rfl ?_
            refine g_join (jn := 140) (rest := [.ref t0]) (fun t_77 ls => ((2 < (k0_45 - f0) ∧ t_77 = 3) ∨ (¬ (2 < (k0_45 - f0)) ∧ t_77 = 2)) ∧ lv_has ls 5 [(4, .int (iI t_74)), (3, .int (iI k0_45)), (2, .int (iI w_1)), (0, .ref t0), (1, .int (iI f0))]) (fun t_77 ls hI => ?_) (fun hJ_78 => ?_)
            · obtain ⟨f_79, hl⟩ := hI
              refine lv_iload_n hx hb dX8_scanToken_140 rfl (lv_at hl 4 rfl) ?_
              refine lv_iload hx hb dX8_scanToken_141 (lv_at hl 0 rfl) ?_
              refine g_callv (wr := [(x_bytes, .inl (G.2 0, 150, .inl (cI xb)))]) (va_runV (As := [.int (iI t_77), .int (iI f0), .int (iI t_74)]) (rest := []) ⟨hx, hb, hml, hown, hts⟩ (c_X8_addToken l G (t0) (x_bytes) (x_sorts) (x_starts) (x_values) (x_length) (x_tokens) (xs) (xa) (xv) (t_77) (f0) (t_74) (by first | assumption | exact y1_ | exact bd_mono y1_ (by omega) (by omega)) (by first | assumption | exact y2_ | exact bd_mono y2_ (by omega) (by omega)) (by first | assumption | exact y3_ | exact bd_mono y3_ (by omega) (by omega)) (by first | assumption | omega) (by first | assumption | omega) (by first | assumption | omega) (by first | assumption | omega) (by first | assumption | omega) _) (cwV 3 hts gX8_scanToken_X8_addToken rfl rfl rfl (by decide +kernel) ⟨Nat.le_of_ble_eq_true rfl, Nat.le_of_ble_eq_true rfl⟩) (g_preV t0 [.int (iI t_77), .int (iI f0), .int (iI t_74)] hP hD hK hN hS hA hZ [0, 2, 3, 4] rfl rfl 0 (ci := 7) rfl rfl) rfl rfl hl.1 rfl (lv_room (Nat.le_of_ble_eq_true rfl)) dX8_scanToken_143 ⟨Nat.le_of_ble_eq_true rfl, Nat.le_of_ble_eq_true rfl⟩) hP hD hS hA [0, 2, 3, 4] [1] rfl rfl rfl (by decide) (fun u H locs hw hP hD hS => ?_)
              obtain ⟨Nt_80, Ns_81, Na_82, Nv_83, k_84, k_85, k_86, k_87, rfl⟩ := hw
              have hP : va_P G.1 vwCl [(x_bytes, .inl (G.2 0, 150, .inl (cI xb))), (t0, .inr (7, [.ref x_bytes, .ref x_sorts, .ref x_starts, .ref x_values, .int (iI x_length), .int (iI Nt_80)])), (x_sorts, .inl (G.2 0, 151, .inl (cI Ns_81))), (x_starts, .inl (G.2 0, 151, .inl (cI Na_82))), (x_values, .inl (G.2 0, 151, .inl (cI Nv_83)))] H := hP
              have hD : va_D A [(x_bytes, .inl (G.2 0, 150, .inl (cI xb))), (t0, .inr (7, [.ref x_bytes, .ref x_sorts, .ref x_starts, .ref x_values, .int (iI x_length), .int (iI Nt_80)])), (x_sorts, .inl (G.2 0, 151, .inl (cI Ns_81))), (x_starts, .inl (G.2 0, 151, .inl (cI Na_82))), (x_values, .inl (G.2 0, 151, .inl (cI Nv_83)))] := hD
              refine lv_goto (tgt := 166) hx hb dX8_scanToken_146 (by decide) ?_
              refine lv_iload_n hx hb dX8_scanToken_166 rfl (lv_at hl 1 rfl) ?_
              have hP := hP.sub (ws' := [(t0, .inr (7, [.ref x_bytes, .ref x_sorts, .ref x_starts, .ref x_values, .int (iI x_length), .int (iI Nt_80)])), (x_bytes, .inl (G.2 0, 150, .inl (cI xb))), (x_sorts, .inl (G.2 0, 151, .inl (cI Ns_81))), (x_starts, .inl (G.2 0, 151, .inl (cI Na_82))), (x_values, .inl (G.2 0, 151, .inl (cI Nv_83)))]) [1, 0, 2, 3, 4] rfl
              have hD := hD.sub (ws' := [(t0, .inr (7, [.ref x_bytes, .ref x_sorts, .ref x_starts, .ref x_values, .int (iI x_length), .int (iI Nt_80)])), (x_bytes, .inl (G.2 0, 150, .inl (cI xb))), (x_sorts, .inl (G.2 0, 151, .inl (cI Ns_81))), (x_starts, .inl (G.2 0, 151, .inl (cI Na_82))), (x_values, .inl (G.2 0, 151, .inl (cI Nv_83)))]) [1, 0, 2, 3, 4] rfl rfl
              exact g_iret (v := (iI k0_45)) hx hb hr hlocks hP hD hS (⟨k0_45, Nt_80, Ns_81, Na_82, Nv_83, (by first | assumption | omega), (by first | assumption | omega), (by first | assumption | exact k_85 | exact bd_mono k_85 (by omega) (by omega)), (by first | assumption | exact k_86 | exact bd_mono k_86 (by omega) (by omega)), (by first | assumption | exact k_87 | exact bd_mono k_87 (by omega) (by omega)), rfl, rfl⟩) dX8_scanToken_167
            · refine lv_icmp_gt (tgt := 139) hx hb dX8_scanToken_132 (by decide) (fun c_88 => ?_) (fun c_88 => ?_)
              · have c_88 := (iI_lt (a := 2) (b := (k0_45 - f0)) (by omega) (by omega)).mp c_88
                refine lv_iconst (v := iI 3) hx hb dX8_scanToken_139 rfl ?_
                exact hJ_78 3 ls ⟨by omega, lv_sub hl [0, 1, 2, 3, 4] rfl⟩
              · have c_88 : ¬ (2 < (k0_45 - f0)) := fun h9 => c_88 ((iI_lt (a := 2) (b := (k0_45 - f0)) (by omega) (by omega)).mpr h9)
                refine lv_iconst (v := iI 2) hx hb dX8_scanToken_135 rfl ?_
                refine lv_goto (tgt := 140) hx hb dX8_scanToken_136 (by decide) ?_
                exact hJ_78 2 ls ⟨by omega, lv_sub hl [0, 1, 2, 3, 4] rfl⟩
          · refine lv_icmp_ne (tgt := 106) hx hb dX8_scanToken_96 (by decide) (fun c_89 => ?_) (fun c_89 => ?_)
            · have c_89 : ¬ ((k0_45 - f0) = 1) := fun h9 => c_89 ((iI_eq (a := (k0_45 - f0)) (b := 1) (by omega) (by omega)).mpr h9)
              refine lv_iload_n hx hb dX8_scanToken_106 rfl (lv_at hl 1 rfl) ?_
              refine lv_bipush (v := iI 48) hx hb dX8_scanToken_107 (by decide) ?_
              refine lv_isub hx hb dX8_scanToken_109 ?_
              refine g_topi (y := iI (w_1 - 48)) (iI_sub w_1 48) ?_
              refine lv_bipush (v := iI 10) hx hb dX8_scanToken_110 (by decide) ?_
              refine lv_imul hx hb dX8_scanToken_112 ?_
              refine g_topi (y := iI ((w_1 - 48) * 10)) (iI_mul (w_1 - 48) 10) ?_
              refine lv_aload_n hx hb dX8_scanToken_113 rfl (lv_at hl 2 rfl) ?_
              refine va_get (D := G.1) (ci := 7) (v := .ref x_bytes) (C := RX8) (T := TX8) (N := 6) hx hb hts (fun _ h => List.mem_cons_of_mem _ (List.mem_append_right _ h)) hown hK hP 0 rfl rfl 0 (by decide) (hts _ (List.mem_of_getElem? (i := 1) rfl)) (fun _ h9 => h9) rfl dX8_scanToken_114 ?_
              refine lv_iload_n hx hb dX8_scanToken_117 rfl (lv_at hl 0 rfl) ?_
              refine lv_iconst (v := iI 1) hx hb dX8_scanToken_118 rfl ?_
              refine lv_isub hx hb dX8_scanToken_119 ?_
              refine g_topi (y := iI (k0_45 - 1)) (iI_sub k0_45 1) ?_
              refine g_ild hx hb hK hP 1 rfl (by omega) (by omega) (by omega) dX8_scanToken_120 (fun w_90 ew_90 => ?_)
              have b0w_90 : _ := y0_ ((k0_45 - 1).toNat)
              rw [ew_90] at b0w_90
              refine lv_iadd hx hb dX8_scanToken_121 ?_
              refine g_topi (y := iI (((w_1 - 48) * 10) + w_90)) (iI_add ((w_1 - 48) * 10) w_90) ?_
              refine lv_bipush (v := iI 48) hx hb dX8_scanToken_122 (by decide) ?_
              refine lv_isub hx hb dX8_scanToken_124 ?_
              refine g_topi (y := iI ((((w_1 - 48) * 10) + w_90) - 48)) (iI_sub (((w_1 - 48) * 10) + w_90) 48) ?_
              exact hJ_75 ((((w_1 - 48) * 10) + w_90) - 48) ls ⟨by omega, lv_sub hl [0, 1, 2, 3] rfl⟩
            · have c_89 := (iI_eq (a := (k0_45 - f0)) (b := 1) (by omega) (by omega)).mp c_89
              refine lv_iload_n hx hb dX8_scanToken_99 rfl (lv_at hl 1 rfl) ?_
              refine lv_bipush (v := iI 48) hx hb dX8_scanToken_100 (by decide) ?_
              refine lv_isub hx hb dX8_scanToken_102 ?_
              refine g_topi (y := iI (w_1 - 48)) (iI_sub w_1 48) ?_
              refine lv_goto (tgt := 125) hx hb dX8_scanToken_103 (by decide) ?_
              exact hJ_75 (w_1 - 48) ls ⟨by omega, lv_sub hl [0, 1, 2, 3] rfl⟩
    · have hP : va_P G.1 vwCl [(t0, .inr (7, [.ref x_bytes, .ref x_sorts, .ref x_starts, .ref x_values, .int (iI x_length), .int (iI x_tokens)])), (x_bytes, .inl (G.2 0, 150, .inl (cI xb))), (x_sorts, .inl (G.2 0, 151, .inl (cI xs))), (x_starts, .inl (G.2 0, 151, .inl (cI xa))), (x_values, .inl (G.2 0, 151, .inl (cI xv)))] H := hP
      have hD : va_D A [(t0, .inr (7, [.ref x_bytes, .ref x_sorts, .ref x_starts, .ref x_values, .int (iI x_length), .int (iI x_tokens)])), (x_bytes, .inl (G.2 0, 150, .inl (cI xb))), (x_sorts, .inl (G.2 0, 151, .inl (cI xs))), (x_starts, .inl (G.2 0, 151, .inl (cI xa))), (x_values, .inl (G.2 0, 151, .inl (cI xv)))] := hD
      refine lv_if_eq (tgt := 149) hx hb dX8_scanToken_63 (by decide) (fun _ => ?_) (fun c_91 => g_no (by decide) c_91)
      refine lv_aload_n hx hb dX8_scanToken_149 rfl (lv_at hl 2 rfl) ?_
      refine lv_iload_n hx hb dX8_scanToken_150 rfl (lv_at hl 1 rfl) ?_
      refine lv_bipush (v := iI 59) hx hb dX8_scanToken_151 (by decide) ?_
      refine g_join (jn := 161) (rest := [.ref t0]) (fun t_92 ls => ((¬ (w_1 = 59) ∧ t_92 = 3) ∨ (w_1 = 59 ∧ t_92 = 1)) ∧ lv_has ls 5 [(3, .int (iI (f0 + 1))), (2, .int (iI w_1)), (0, .ref t0), (1, .int (iI f0))]) (fun t_92 ls hI => ?_) (fun hJ_93 => ?_)
      · obtain ⟨f_94, hl⟩ := hI
        refine lv_iload_n hx hb dX8_scanToken_161 rfl (lv_at hl 3 rfl) ?_
        refine lv_iconst (v := iI 0) hx hb dX8_scanToken_162 rfl ?_
        refine g_callv (wr := [(x_bytes, .inl (G.2 0, 150, .inl (cI xb)))]) (va_runV (As := [.int (iI t_92), .int (iI f0), .int (iI 0)]) (rest := []) ⟨hx, hb, hml, hown, hts⟩ (c_X8_addToken l G (t0) (x_bytes) (x_sorts) (x_starts) (x_values) (x_length) (x_tokens) (xs) (xa) (xv) (t_92) (f0) (0) (by first | assumption | exact y1_ | exact bd_mono y1_ (by omega) (by omega)) (by first | assumption | exact y2_ | exact bd_mono y2_ (by omega) (by omega)) (by first | assumption | exact y3_ | exact bd_mono y3_ (by omega) (by omega)) (by first | assumption | omega) (by first | assumption | omega) (by first | assumption | omega) (by first | assumption | omega) (by first | assumption | omega) _) (cwV 3 hts gX8_scanToken_X8_addToken rfl rfl rfl (by decide +kernel) ⟨Nat.le_of_ble_eq_true rfl, Nat.le_of_ble_eq_true rfl⟩) (g_preV t0 [.int (iI t_92), .int (iI f0), .int (iI 0)] hP hD hK hN hS hA hZ [0, 2, 3, 4] rfl rfl 0 (ci := 7) rfl rfl) rfl rfl hl.1 rfl (lv_room (Nat.le_of_ble_eq_true rfl)) dX8_scanToken_163 ⟨Nat.le_of_ble_eq_true rfl, Nat.le_of_ble_eq_true rfl⟩) hP hD hS hA [0, 2, 3, 4] [1] rfl rfl rfl (by decide) (fun u H locs hw hP hD hS => ?_)
        obtain ⟨Nt_95, Ns_96, Na_97, Nv_98, k_99, k_100, k_101, k_102, rfl⟩ := hw
        have hP : va_P G.1 vwCl [(x_bytes, .inl (G.2 0, 150, .inl (cI xb))), (t0, .inr (7, [.ref x_bytes, .ref x_sorts, .ref x_starts, .ref x_values, .int (iI x_length), .int (iI Nt_95)])), (x_sorts, .inl (G.2 0, 151, .inl (cI Ns_96))), (x_starts, .inl (G.2 0, 151, .inl (cI Na_97))), (x_values, .inl (G.2 0, 151, .inl (cI Nv_98)))] H := hP
        have hD : va_D A [(x_bytes, .inl (G.2 0, 150, .inl (cI xb))), (t0, .inr (7, [.ref x_bytes, .ref x_sorts, .ref x_starts, .ref x_values, .int (iI x_length), .int (iI Nt_95)])), (x_sorts, .inl (G.2 0, 151, .inl (cI Ns_96))), (x_starts, .inl (G.2 0, 151, .inl (cI Na_97))), (x_values, .inl (G.2 0, 151, .inl (cI Nv_98)))] := hD
        refine lv_iload_n hx hb dX8_scanToken_166 rfl (lv_at hl 0 rfl) ?_
        have hP := hP.sub (ws' := [(t0, .inr (7, [.ref x_bytes, .ref x_sorts, .ref x_starts, .ref x_values, .int (iI x_length), .int (iI Nt_95)])), (x_bytes, .inl (G.2 0, 150, .inl (cI xb))), (x_sorts, .inl (G.2 0, 151, .inl (cI Ns_96))), (x_starts, .inl (G.2 0, 151, .inl (cI Na_97))), (x_values, .inl (G.2 0, 151, .inl (cI Nv_98)))]) [1, 0, 2, 3, 4] rfl
        have hD := hD.sub (ws' := [(t0, .inr (7, [.ref x_bytes, .ref x_sorts, .ref x_starts, .ref x_values, .int (iI x_length), .int (iI Nt_95)])), (x_bytes, .inl (G.2 0, 150, .inl (cI xb))), (x_sorts, .inl (G.2 0, 151, .inl (cI Ns_96))), (x_starts, .inl (G.2 0, 151, .inl (cI Na_97))), (x_values, .inl (G.2 0, 151, .inl (cI Nv_98)))]) [1, 0, 2, 3, 4] rfl rfl
        exact g_iret (v := (iI (f0 + 1))) hx hb hr hlocks hP hD hS (⟨(f0 + 1), Nt_95, Ns_96, Na_97, Nv_98, (by first | assumption | omega), (by first | assumption | omega), (by first | assumption | exact k_100 | exact bd_mono k_100 (by omega) (by omega)), (by first | assumption | exact k_101 | exact bd_mono k_101 (by omega) (by omega)), (by first | assumption | exact k_102 | exact bd_mono k_102 (by omega) (by omega)), rfl, rfl⟩) dX8_scanToken_167
      · refine lv_icmp_ne (tgt := 160) hx hb dX8_scanToken_153 (by decide) (fun c_103 => ?_) (fun c_103 => ?_)
        · have c_103 : ¬ (w_1 = 59) := fun h9 => c_103 ((iI_eq (a := w_1) (b := 59) (by omega) (by omega)).mpr h9)
          refine lv_iconst (v := iI 3) hx hb dX8_scanToken_160 rfl ?_
          exact hJ_93 3 ls ⟨by omega, lv_sub hl [0, 1, 2, 3] rfl⟩
        · have c_103 := (iI_eq (a := w_1) (b := 59) (by omega) (by omega)).mp c_103
          refine lv_iconst (v := iI 1) hx hb dX8_scanToken_156 rfl ?_
          refine lv_goto (tgt := 161) hx hb dX8_scanToken_157 (by decide) ?_
          exact hJ_93 1 ls ⟨by omega, lv_sub hl [0, 1, 2, 3] rfl⟩
theorem dX8_scan_0 : decode cX8_scan 0 = .ok (.aload_n 0, 1) := by decide +kernel
theorem dX8_scan_1 : decode cX8_scan 1 = .ok (.iconst 0, 1) := by decide +kernel
theorem dX8_scan_2 : decode cX8_scan 2 = .ok (.putfield 28, 3) := by decide +kernel
theorem dX8_scan_5 : decode cX8_scan 5 = .ok (.iconst 0, 1) := by decide +kernel
theorem dX8_scan_6 : decode cX8_scan 6 = .ok (.istore_n 1, 1) := by decide +kernel
theorem dX8_scan_7 : decode cX8_scan 7 = .ok (.iconst 0, 1) := by decide +kernel
theorem dX8_scan_8 : decode cX8_scan 8 = .ok (.istore_n 2, 1) := by decide +kernel
theorem dX8_scan_9 : decode cX8_scan 9 = .ok (.iload_n 2, 1) := by decide +kernel
theorem dX8_scan_10 : decode cX8_scan 10 = .ok (.sipush 150, 3) := by decide +kernel
theorem dX8_scan_13 : decode cX8_scan 13 = .ok (.if_icmp .ge 40, 3) := by decide +kernel
theorem dX8_scan_53 : decode cX8_scan 53 = .ok (.aload_n 0, 1) := by decide +kernel
theorem dX8_scan_54 : decode cX8_scan 54 = .ok (.iconst 0, 1) := by decide +kernel
theorem dX8_scan_55 : decode cX8_scan 55 = .ok (.aload_n 0, 1) := by decide +kernel
theorem dX8_scan_56 : decode cX8_scan 56 = .ok (.getfield 24, 3) := by decide +kernel
theorem dX8_scan_59 : decode cX8_scan 59 = .ok (.iconst 0, 1) := by decide +kernel
set_option maxRecDepth 20000 in
theorem ggX8_scan_X8_addToken : GoodIn wsX8_scan wsX8_addToken := goodIn_r _ [72, 1, 73, 74, 75, 79, 80, 81, 82, 83, 84] (by decide +kernel) (by decide +kernel)
set_option maxRecDepth 20000 in
theorem gX8_scan_X8_addToken : GoodIn wsX8_scan (wsV RX8 35 RX8 yX8_addToken wsX8_addToken) := goodIn_app (goodIn_of _ (by decide +kernel)) ggX8_scan_X8_addToken
theorem dX8_scan_60 : decode cX8_scan 60 = .ok (.invokevirtual 35, 3) := by decide +kernel
theorem dX8_scan_63 : decode cX8_scan 63 = .ok (.return_, 1) := by decide +kernel
theorem dX8_scan_16 : decode cX8_scan 16 = .ok (.iload_n 1, 1) := by decide +kernel
theorem dX8_scan_17 : decode cX8_scan 17 = .ok (.aload_n 0, 1) := by decide +kernel
theorem dX8_scan_18 : decode cX8_scan 18 = .ok (.getfield 24, 3) := by decide +kernel
theorem dX8_scan_21 : decode cX8_scan 21 = .ok (.if_icmp .ge 32, 3) := by decide +kernel
theorem dX8_scan_24 : decode cX8_scan 24 = .ok (.aload_n 0, 1) := by decide +kernel
theorem dX8_scan_25 : decode cX8_scan 25 = .ok (.getfield 9, 3) := by decide +kernel
theorem dX8_scan_28 : decode cX8_scan 28 = .ok (.iload_n 1, 1) := by decide +kernel
theorem dX8_scan_29 : decode cX8_scan 29 = .ok (.iaload, 1) := by decide +kernel
theorem dX8_scan_30 : decode cX8_scan 30 = .ok (.bipush 32, 2) := by decide +kernel
theorem dX8_scan_32 : decode cX8_scan 32 = .ok (.if_icmp .ne 9, 3) := by decide +kernel
theorem dX8_scan_41 : decode cX8_scan 41 = .ok (.aload_n 0, 1) := by decide +kernel
theorem dX8_scan_42 : decode cX8_scan 42 = .ok (.iload_n 1, 1) := by decide +kernel
set_option maxRecDepth 20000 in
theorem ggX8_scan_X8_scanToken : GoodIn wsX8_scan wsX8_scanToken := goodIn_r _ [8, 3, 2, 9, 10, 7, 11, 12, 13, 14, 15, 16, 17, 18, 19, 20, 21, 22, 23, 24, 25, 26, 27, 28, 29, 30, 31, 32, 33, 34, 35, 36, 37, 38, 39, 40, 41, 42, 43, 44, 45, 46, 47, 48, 49, 50, 51, 52, 53, 54, 55, 56, 57, 58, 59, 60, 61, 62, 63, 64, 65, 66, 67, 68, 69, 70, 71, 72, 1, 73, 74, 75, 76, 77, 78, 79, 80, 81, 82, 83, 84] (by decide +kernel) (by decide +kernel)
set_option maxRecDepth 20000 in
theorem gX8_scan_X8_scanToken : GoodIn wsX8_scan (wsV RX8 31 RX8 yX8_scanToken wsX8_scanToken) := goodIn_app (goodIn_of _ (by decide +kernel)) ggX8_scan_X8_scanToken
theorem dX8_scan_43 : decode cX8_scan 43 = .ok (.invokevirtual 31, 3) := by decide +kernel
theorem dX8_scan_35 : decode cX8_scan 35 = .ok (.iload_n 1, 1) := by decide +kernel
theorem dX8_scan_36 : decode cX8_scan 36 = .ok (.iconst 1, 1) := by decide +kernel
theorem dX8_scan_37 : decode cX8_scan 37 = .ok (.iadd, 1) := by decide +kernel
theorem dX8_scan_38 : decode cX8_scan 38 = .ok (.goto 8, 3) := by decide +kernel
theorem dX8_scan_46 : decode cX8_scan 46 = .ok (.istore_n 1, 1) := by decide +kernel
theorem dX8_scan_47 : decode cX8_scan 47 = .ok (.iinc 2 1, 3) := by decide +kernel
theorem dX8_scan_50 : decode cX8_scan 50 = .ok (.goto (-41), 3) := by decide +kernel
set_option maxHeartbeats 8000000 in
set_option maxRecDepth 100000 in
theorem c_X8_scan (l : Launch) (G : gG) (t0 : Nat) (x_bytes : Nat) (x_sorts : Nat) (x_starts : Nat) (x_values : Nat) (x_length : Int) (x_tokens : Int) (xb : Nat → Int) (xs : Nat → Int) (xa : Nat → Int) (xv : Nat → Int) (y0_ : bd 0 127 xb) (y1_ : bd 0 10 xs) (y2_ : bd 0 150 xa) (y3_ : bd (-1000) 3000 xv) (y4_ : 0 ≤ x_length ∧ x_length ≤ 150) (y5_ : 0 ≤ x_tokens ∧ x_tokens ≤ 151) (sz : Nat) : gV G l yX8_scan wsX8_scan ({ frames := 7, cells := 0, slots := 0, locals := 155 } : Room) [.ref t0] [(t0, .inr (7, [.ref x_bytes, .ref x_sorts, .ref x_starts, .ref x_values, .int (iI x_length), .int (iI x_tokens)])), (x_bytes, .inl (G.2 0, 150, .inl (cI xb))), (x_sorts, .inl (G.2 0, 151, .inl (cI xs))), (x_starts, .inl (G.2 0, 151, .inl (cI xa))), (x_values, .inl (G.2 0, 151, .inl (cI xv)))] sz (fun (u : va_W) => (∃ Nt : Int, ∃ Ns : Nat → Int, ∃ Na : Nat → Int, ∃ Nv : Nat → Int, (1 ≤ Nt ∧ Nt ≤ 151) ∧ (bd 0 10 Ns) ∧ (bd 0 150 Na) ∧ (bd (-1000) 3000 Nv) ∧ u = [(t0, .inr (7, [.ref x_bytes, .ref x_sorts, .ref x_starts, .ref x_values, .int (iI x_length), .int (iI Nt)])), (x_bytes, .inl (G.2 0, 150, .inl (cI xb))), (x_sorts, .inl (G.2 0, 151, .inl (cI Ns))), (x_starts, .inl (G.2 0, 151, .inl (cI Na))), (x_values, .inl (G.2 0, 151, .inl (cI Nv)))])) := by
  refine Met.ofW (cc := cX8_scan) (maxL := 3) (ret := none) (by decide) rfl ?_
  intro p e s m args below meth c s₁ B hml hv
  obtain ⟨rfl, hsz, hP, hK, hD0, hN, hZ⟩ := hv
  have hx := B.exec
  have hb := B.bytes
  have hr := B.returns
  have hts := atoms_spec (ws := wsX8_scan) B.pre
  have hown : s.vm.findClass RX8 = some m.cls := findClass_of_methodNamed B.named
  have hlocks := B.notSynchronized
  subst hsz
  have hD := hD0.self (sz := s.heap.size)
  generalize hAe : va_A [(t0, .inr (7, [.ref x_bytes, .ref x_sorts, .ref x_starts, .ref x_values, .int (iI x_length), .int (iI x_tokens)])), (x_bytes, .inl (G.2 0, 150, .inl (cI xb))), (x_sorts, .inl (G.2 0, 151, .inl (cI xs))), (x_starts, .inl (G.2 0, 151, .inl (cI xa))), (x_values, .inl (G.2 0, 151, .inl (cI xv)))] s.heap.size = A at hD hZ ⊢
  have hA : ∀ q : Nat, s.heap.size ≤ q → A q := fun q h => by rw [← hAe]; exact Or.inr h
  have hS : va_S A s.heap s.heap [] := va_S.rf
  have hP : va_P G.1 vwCl [(t0, .inr (7, [.ref x_bytes, .ref x_sorts, .ref x_starts, .ref x_values, .int (iI x_length), .int (iI x_tokens)])), (x_bytes, .inl (G.2 0, 150, .inl (cI xb))), (x_sorts, .inl (G.2 0, 151, .inl (cI xs))), (x_starts, .inl (G.2 0, 151, .inl (cI xa))), (x_values, .inl (G.2 0, 151, .inl (cI xv)))] s.heap := hP
  have hl := lv_entry ([.ref t0]) (n := 3) (Nat.le_of_ble_eq_true rfl)
  rw [lg_entry_eq]
  generalize (lg_sl ([.ref t0]) ++ List.replicate (3 - (lg_sl ([.ref t0])).length) Slot.unset).toArray = ls at hl ⊢
  have hl : lv_has ls 3 [(0, .ref t0)] := hl
  refine lv_aload_n hx hb dX8_scan_0 rfl (lv_at hl 0 rfl) ?_
  refine lv_iconst (v := iI 0) hx hb dX8_scan_1 rfl ?_
  refine va_put (D := G.1) (ci := 7) (v := .int (iI 0)) (ty := .int) (C := RX8) (T := TX8) (N := 6) hx hb hts (fun _ h => List.mem_cons_of_mem _ (List.mem_append_right _ h)) tyX8 tyX8_ok nmX8 hown hK hP hD hS 0 rfl rfl 5 (by decide) (hts _ (List.mem_of_getElem? (i := 1) rfl)) (fun _ h9 => h9) rfl (by decide +kernel) rfl rfl (Nat.le_of_ble_eq_true rfl) dX8_scan_2 (fun H locs hP hD hS => ?_)
  have hP : va_P G.1 vwCl [(t0, .inr (7, [.ref x_bytes, .ref x_sorts, .ref x_starts, .ref x_values, .int (iI x_length), .int (iI 0)])), (x_bytes, .inl (G.2 0, 150, .inl (cI xb))), (x_sorts, .inl (G.2 0, 151, .inl (cI xs))), (x_starts, .inl (G.2 0, 151, .inl (cI xa))), (x_values, .inl (G.2 0, 151, .inl (cI xv)))] H := hP
  have hD : va_D A [(t0, .inr (7, [.ref x_bytes, .ref x_sorts, .ref x_starts, .ref x_values, .int (iI x_length), .int (iI 0)])), (x_bytes, .inl (G.2 0, 150, .inl (cI xb))), (x_sorts, .inl (G.2 0, 151, .inl (cI xs))), (x_starts, .inl (G.2 0, 151, .inl (cI xa))), (x_values, .inl (G.2 0, 151, .inl (cI xv)))] := hD
  refine lv_iconst (v := iI 0) hx hb dX8_scan_5 rfl ?_
  refine lv_istore_n (lv' := [(1, .int (iI 0)), (0, .ref t0)]) hx hb dX8_scan_6 rfl hl (by decide) rfl (fun ls hl => ?_)
  refine lv_iconst (v := iI 0) hx hb dX8_scan_7 rfl ?_
  refine lv_istore_n (lv' := [(2, .int (iI 0)), (1, .int (iI 0)), (0, .ref t0)]) hx hb dX8_scan_8 rfl hl (by decide) rfl (fun ls hl => ?_)
  refine g_loopN (pc := 9) (fun nn H locs ls => ∃ k0_1 : Int, ∃ j0_2 : Int, ∃ Es_3 : Nat → Int, ∃ Ea_4 : Nat → Int, ∃ Ev_5 : Nat → Int, ∃ et_6 : Int, (0 ≤ j0_2 ∧ j0_2 ≤ 150) ∧ (0 ≤ k0_1 ∧ k0_1 ≤ x_length) ∧ (0 ≤ et_6 ∧ et_6 ≤ 151) ∧ (bd 0 10 Es_3) ∧ (bd 0 150 Ea_4) ∧ (bd (-1000) 3000 Ev_5) ∧ (150 - j0_2).toNat = nn ∧ va_P G.1 vwCl [(t0, .inr (7, [.ref x_bytes, .ref x_sorts, .ref x_starts, .ref x_values, .int (iI x_length), .int (iI et_6)])), (x_bytes, .inl (G.2 0, 150, .inl (cI xb))), (x_sorts, .inl (G.2 0, 151, .inl (cI Es_3))), (x_starts, .inl (G.2 0, 151, .inl (cI Ea_4))), (x_values, .inl (G.2 0, 151, .inl (cI Ev_5)))] H ∧ va_D A [(t0, .inr (7, [.ref x_bytes, .ref x_sorts, .ref x_starts, .ref x_values, .int (iI x_length), .int (iI et_6)])), (x_bytes, .inl (G.2 0, 150, .inl (cI xb))), (x_sorts, .inl (G.2 0, 151, .inl (cI Es_3))), (x_starts, .inl (G.2 0, 151, .inl (cI Ea_4))), (x_values, .inl (G.2 0, 151, .inl (cI Ev_5)))] ∧ va_S A s.heap H locs ∧ lv_has ls 3 [(2, .int (iI j0_2)), (1, .int (iI k0_1)), (0, .ref t0)]) ?_ ⟨0, 0, xs, xa, xv, 0, (by first | assumption | omega), (by first | assumption | omega), (by first | assumption | omega), (by first | assumption | exact y1_ | exact bd_mono y1_ (by omega) (by omega)), (by first | assumption | exact y2_ | exact bd_mono y2_ (by omega) (by omega)), (by first | assumption | exact y3_ | exact bd_mono y3_ (by omega) (by omega)), rfl, hP, hD, hS, lv_sub hl [0, 1, 2] rfl⟩
  intro nn_14 H locs ls ih_13 hI
  obtain ⟨k0_1, j0_2, Es_3, Ea_4, Ev_5, et_6, f_7, f_8, f_9, f_10, f_11, f_12, hnn_15, hP, hD, hS, hl⟩ := hI
  refine lv_iload_n hx hb dX8_scan_9 rfl (lv_at hl 0 rfl) ?_
  refine lv_sipush (v := iI 150) hx hb dX8_scan_10 (by decide) ?_
  refine lv_icmp_ge (tgt := 53) hx hb dX8_scan_13 (by decide) (fun c_16 => ?_) (fun c_16 => ?_)
  · have c_16 := (iI_le (a := 150) (b := j0_2) (by omega) (by omega)).mp c_16
    refine lv_aload_n hx hb dX8_scan_53 rfl (lv_at hl 2 rfl) ?_
    refine lv_iconst (v := iI 0) hx hb dX8_scan_54 rfl ?_
    refine lv_aload_n hx hb dX8_scan_55 rfl (lv_at hl 2 rfl) ?_
    refine va_get (D := G.1) (ci := 7) (v := .int (iI x_length)) (C := RX8) (T := TX8) (N := 6) hx hb hts (fun _ h => List.mem_cons_of_mem _ (List.mem_append_right _ h)) hown hK hP 0 rfl rfl 4 (by decide) (hts _ (List.mem_of_getElem? (i := 2) rfl)) (fun _ h9 => h9) rfl dX8_scan_56 ?_
    refine lv_iconst (v := iI 0) hx hb dX8_scan_59 rfl ?_
    refine g_callv (wr := [(x_bytes, .inl (G.2 0, 150, .inl (cI xb)))]) (va_runV (As := [.int (iI 0), .int (iI x_length), .int (iI 0)]) (rest := []) ⟨hx, hb, hml, hown, hts⟩ (c_X8_addToken l G (t0) (x_bytes) (x_sorts) (x_starts) (x_values) (x_length) (et_6) (Es_3) (Ea_4) (Ev_5) (0) (x_length) (0) (by first | assumption | exact f_10 | exact bd_mono f_10 (by omega) (by omega)) (by first | assumption | exact f_11 | exact bd_mono f_11 (by omega) (by omega)) (by first | assumption | exact f_12 | exact bd_mono f_12 (by omega) (by omega)) (by first | assumption | omega) (by first | assumption | omega) (by first | assumption | omega) (by first | assumption | omega) (by first | assumption | omega) _) (cwV 3 hts gX8_scan_X8_addToken rfl rfl rfl (by decide +kernel) ⟨Nat.le_of_ble_eq_true rfl, Nat.le_of_ble_eq_true rfl⟩) (g_preV t0 [.int (iI 0), .int (iI x_length), .int (iI 0)] hP hD hK hN hS hA hZ [0, 2, 3, 4] rfl rfl 0 (ci := 7) rfl rfl) rfl rfl hl.1 rfl (lv_room (Nat.le_of_ble_eq_true rfl)) dX8_scan_60 ⟨Nat.le_of_ble_eq_true rfl, Nat.le_of_ble_eq_true rfl⟩) hP hD hS hA [0, 2, 3, 4] [1] rfl rfl rfl (by decide) (fun u H locs hw hP hD hS => ?_)
    obtain ⟨Nt_17, Ns_18, Na_19, Nv_20, k_21, k_22, k_23, k_24, rfl⟩ := hw
    have hP : va_P G.1 vwCl [(x_bytes, .inl (G.2 0, 150, .inl (cI xb))), (t0, .inr (7, [.ref x_bytes, .ref x_sorts, .ref x_starts, .ref x_values, .int (iI x_length), .int (iI Nt_17)])), (x_sorts, .inl (G.2 0, 151, .inl (cI Ns_18))), (x_starts, .inl (G.2 0, 151, .inl (cI Na_19))), (x_values, .inl (G.2 0, 151, .inl (cI Nv_20)))] H := hP
    have hD : va_D A [(x_bytes, .inl (G.2 0, 150, .inl (cI xb))), (t0, .inr (7, [.ref x_bytes, .ref x_sorts, .ref x_starts, .ref x_values, .int (iI x_length), .int (iI Nt_17)])), (x_sorts, .inl (G.2 0, 151, .inl (cI Ns_18))), (x_starts, .inl (G.2 0, 151, .inl (cI Na_19))), (x_values, .inl (G.2 0, 151, .inl (cI Nv_20)))] := hD
    have hP := hP.sub (ws' := [(t0, .inr (7, [.ref x_bytes, .ref x_sorts, .ref x_starts, .ref x_values, .int (iI x_length), .int (iI Nt_17)])), (x_bytes, .inl (G.2 0, 150, .inl (cI xb))), (x_sorts, .inl (G.2 0, 151, .inl (cI Ns_18))), (x_starts, .inl (G.2 0, 151, .inl (cI Na_19))), (x_values, .inl (G.2 0, 151, .inl (cI Nv_20)))]) [1, 0, 2, 3, 4] rfl
    have hD := hD.sub (ws' := [(t0, .inr (7, [.ref x_bytes, .ref x_sorts, .ref x_starts, .ref x_values, .int (iI x_length), .int (iI Nt_17)])), (x_bytes, .inl (G.2 0, 150, .inl (cI xb))), (x_sorts, .inl (G.2 0, 151, .inl (cI Ns_18))), (x_starts, .inl (G.2 0, 151, .inl (cI Na_19))), (x_values, .inl (G.2 0, 151, .inl (cI Nv_20)))]) [1, 0, 2, 3, 4] rfl rfl
    exact g_vret hx hb hr hlocks hP hD hS (⟨Nt_17, Ns_18, Na_19, Nv_20, (by first | assumption | omega), (by first | assumption | exact k_22 | exact bd_mono k_22 (by omega) (by omega)), (by first | assumption | exact k_23 | exact bd_mono k_23 (by omega) (by omega)), (by first | assumption | exact k_24 | exact bd_mono k_24 (by omega) (by omega)), rfl⟩) dX8_scan_63
  · have c_16 : ¬ (150 ≤ j0_2) := fun h9 => c_16 ((iI_le (a := 150) (b := j0_2) (by omega) (by omega)).mpr h9)
    refine lv_iload_n hx hb dX8_scan_16 rfl (lv_at hl 1 rfl) ?_
    refine lv_aload_n hx hb dX8_scan_17 rfl (lv_at hl 2 rfl) ?_
    refine va_get (D := G.1) (ci := 7) (v := .int (iI x_length)) (C := RX8) (T := TX8) (N := 6) hx hb hts (fun _ h => List.mem_cons_of_mem _ (List.mem_append_right _ h)) hown hK hP 0 rfl rfl 4 (by decide) (hts _ (List.mem_of_getElem? (i := 2) rfl)) (fun _ h9 => h9) rfl dX8_scan_18 ?_
    refine lv_icmp_ge (tgt := 53) hx hb dX8_scan_21 (by decide) (fun c_25 => ?_) (fun c_25 => ?_)
    · have c_25 := (iI_le (a := x_length) (b := k0_1) (by omega) (by omega)).mp c_25
      refine lv_aload_n hx hb dX8_scan_53 rfl (lv_at hl 2 rfl) ?_
      refine lv_iconst (v := iI 0) hx hb dX8_scan_54 rfl ?_
      refine lv_aload_n hx hb dX8_scan_55 rfl (lv_at hl 2 rfl) ?_
      refine va_get (D := G.1) (ci := 7) (v := .int (iI x_length)) (C := RX8) (T := TX8) (N := 6) hx hb hts (fun _ h => List.mem_cons_of_mem _ (List.mem_append_right _ h)) hown hK hP 0 rfl rfl 4 (by decide) (hts _ (List.mem_of_getElem? (i := 2) rfl)) (fun _ h9 => h9) rfl dX8_scan_56 ?_
      refine lv_iconst (v := iI 0) hx hb dX8_scan_59 rfl ?_
      refine g_callv (wr := [(x_bytes, .inl (G.2 0, 150, .inl (cI xb)))]) (va_runV (As := [.int (iI 0), .int (iI x_length), .int (iI 0)]) (rest := []) ⟨hx, hb, hml, hown, hts⟩ (c_X8_addToken l G (t0) (x_bytes) (x_sorts) (x_starts) (x_values) (x_length) (et_6) (Es_3) (Ea_4) (Ev_5) (0) (x_length) (0) (by first | assumption | exact f_10 | exact bd_mono f_10 (by omega) (by omega)) (by first | assumption | exact f_11 | exact bd_mono f_11 (by omega) (by omega)) (by first | assumption | exact f_12 | exact bd_mono f_12 (by omega) (by omega)) (by first | assumption | omega) (by first | assumption | omega) (by first | assumption | omega) (by first | assumption | omega) (by first | assumption | omega) _) (cwV 3 hts gX8_scan_X8_addToken rfl rfl rfl (by decide +kernel) ⟨Nat.le_of_ble_eq_true rfl, Nat.le_of_ble_eq_true rfl⟩) (g_preV t0 [.int (iI 0), .int (iI x_length), .int (iI 0)] hP hD hK hN hS hA hZ [0, 2, 3, 4] rfl rfl 0 (ci := 7) rfl rfl) rfl rfl hl.1 rfl (lv_room (Nat.le_of_ble_eq_true rfl)) dX8_scan_60 ⟨Nat.le_of_ble_eq_true rfl, Nat.le_of_ble_eq_true rfl⟩) hP hD hS hA [0, 2, 3, 4] [1] rfl rfl rfl (by decide) (fun u H locs hw hP hD hS => ?_)
      obtain ⟨Nt_26, Ns_27, Na_28, Nv_29, k_30, k_31, k_32, k_33, rfl⟩ := hw
      have hP : va_P G.1 vwCl [(x_bytes, .inl (G.2 0, 150, .inl (cI xb))), (t0, .inr (7, [.ref x_bytes, .ref x_sorts, .ref x_starts, .ref x_values, .int (iI x_length), .int (iI Nt_26)])), (x_sorts, .inl (G.2 0, 151, .inl (cI Ns_27))), (x_starts, .inl (G.2 0, 151, .inl (cI Na_28))), (x_values, .inl (G.2 0, 151, .inl (cI Nv_29)))] H := hP
      have hD : va_D A [(x_bytes, .inl (G.2 0, 150, .inl (cI xb))), (t0, .inr (7, [.ref x_bytes, .ref x_sorts, .ref x_starts, .ref x_values, .int (iI x_length), .int (iI Nt_26)])), (x_sorts, .inl (G.2 0, 151, .inl (cI Ns_27))), (x_starts, .inl (G.2 0, 151, .inl (cI Na_28))), (x_values, .inl (G.2 0, 151, .inl (cI Nv_29)))] := hD
      have hP := hP.sub (ws' := [(t0, .inr (7, [.ref x_bytes, .ref x_sorts, .ref x_starts, .ref x_values, .int (iI x_length), .int (iI Nt_26)])), (x_bytes, .inl (G.2 0, 150, .inl (cI xb))), (x_sorts, .inl (G.2 0, 151, .inl (cI Ns_27))), (x_starts, .inl (G.2 0, 151, .inl (cI Na_28))), (x_values, .inl (G.2 0, 151, .inl (cI Nv_29)))]) [1, 0, 2, 3, 4] rfl
      have hD := hD.sub (ws' := [(t0, .inr (7, [.ref x_bytes, .ref x_sorts, .ref x_starts, .ref x_values, .int (iI x_length), .int (iI Nt_26)])), (x_bytes, .inl (G.2 0, 150, .inl (cI xb))), (x_sorts, .inl (G.2 0, 151, .inl (cI Ns_27))), (x_starts, .inl (G.2 0, 151, .inl (cI Na_28))), (x_values, .inl (G.2 0, 151, .inl (cI Nv_29)))]) [1, 0, 2, 3, 4] rfl rfl
      exact g_vret hx hb hr hlocks hP hD hS (⟨Nt_26, Ns_27, Na_28, Nv_29, (by first | assumption | omega), (by first | assumption | exact k_31 | exact bd_mono k_31 (by omega) (by omega)), (by first | assumption | exact k_32 | exact bd_mono k_32 (by omega) (by omega)), (by first | assumption | exact k_33 | exact bd_mono k_33 (by omega) (by omega)), rfl⟩) dX8_scan_63
    · have c_25 : ¬ (x_length ≤ k0_1) := fun h9 => c_25 ((iI_le (a := x_length) (b := k0_1) (by omega) (by omega)).mpr h9)
      refine lv_aload_n hx hb dX8_scan_24 rfl (lv_at hl 2 rfl) ?_
      refine va_get (D := G.1) (ci := 7) (v := .ref x_bytes) (C := RX8) (T := TX8) (N := 6) hx hb hts (fun _ h => List.mem_cons_of_mem _ (List.mem_append_right _ h)) hown hK hP 0 rfl rfl 0 (by decide) (hts _ (List.mem_of_getElem? (i := 3) rfl)) (fun _ h9 => h9) rfl dX8_scan_25 ?_
      refine lv_iload_n hx hb dX8_scan_28 rfl (lv_at hl 1 rfl) ?_
      refine g_ild hx hb hK hP 1 rfl (by omega) (by omega) (by omega) dX8_scan_29 (fun w_34 ew_34 => ?_)
      have b0w_34 : _ := y0_ (k0_1.toNat)
      rw [ew_34] at b0w_34
      refine lv_bipush (v := iI 32) hx hb dX8_scan_30 (by decide) ?_
      refine lv_icmp_ne (tgt := 41) hx hb dX8_scan_32 (by decide) (fun c_35 => ?_) (fun c_35 => ?_)
      · have c_35 : ¬ (w_34 = 32) := fun h9 => c_35 ((iI_eq (a := w_34) (b := 32) (by omega) (by omega)).mpr h9)
        refine lv_aload_n hx hb dX8_scan_41 rfl (lv_at hl 2 rfl) ?_
        refine lv_iload_n hx hb dX8_scan_42 rfl (lv_at hl 1 rfl) ?_
        refine g_calli (wr := []) (va_runV (As := [.int (iI k0_1)]) (rest := []) ⟨hx, hb, hml, hown, hts⟩ (c_X8_scanToken l G (t0) (x_bytes) (x_sorts) (x_starts) (x_values) (x_length) (et_6) (xb) (Es_3) (Ea_4) (Ev_5) (k0_1) (by first | assumption | exact y0_ | exact bd_mono y0_ (by omega) (by omega)) (by first | assumption | exact f_10 | exact bd_mono f_10 (by omega) (by omega)) (by first | assumption | exact f_11 | exact bd_mono f_11 (by omega) (by omega)) (by first | assumption | exact f_12 | exact bd_mono f_12 (by omega) (by omega)) (by first | assumption | omega) (by first | assumption | omega) (by first | assumption | omega) _) (cwV 1 hts gX8_scan_X8_scanToken rfl rfl rfl (by decide +kernel) ⟨Nat.le_of_ble_eq_true rfl, Nat.le_of_ble_eq_true rfl⟩) (g_preV t0 [.int (iI k0_1)] hP hD hK hN hS hA hZ [0, 1, 2, 3, 4] rfl rfl 0 (ci := 7) rfl rfl) rfl rfl hl.1 rfl (lv_room (Nat.le_of_ble_eq_true rfl)) dX8_scan_43 ⟨Nat.le_of_ble_eq_true rfl, Nat.le_of_ble_eq_true rfl⟩) hP hD hS hA [0, 1, 2, 3, 4] [] rfl rfl rfl (by decide) (fun r_36 u H locs hw hP hD hS => ?_)
        obtain ⟨rr_37, Nt_38, Ns_39, Na_40, Nv_41, k_42, k_43, k_44, k_45, k_46, rfl, rfl⟩ := hw
        have hP : va_P G.1 vwCl [(t0, .inr (7, [.ref x_bytes, .ref x_sorts, .ref x_starts, .ref x_values, .int (iI x_length), .int (iI Nt_38)])), (x_bytes, .inl (G.2 0, 150, .inl (cI xb))), (x_sorts, .inl (G.2 0, 151, .inl (cI Ns_39))), (x_starts, .inl (G.2 0, 151, .inl (cI Na_40))), (x_values, .inl (G.2 0, 151, .inl (cI Nv_41)))] H := hP
        have hD : va_D A [(t0, .inr (7, [.ref x_bytes, .ref x_sorts, .ref x_starts, .ref x_values, .int (iI x_length), .int (iI Nt_38)])), (x_bytes, .inl (G.2 0, 150, .inl (cI xb))), (x_sorts, .inl (G.2 0, 151, .inl (cI Ns_39))), (x_starts, .inl (G.2 0, 151, .inl (cI Na_40))), (x_values, .inl (G.2 0, 151, .inl (cI Nv_41)))] := hD
        refine lv_istore_n (lv' := [(1, .int (iI rr_37)), (2, .int (iI j0_2)), (0, .ref t0)]) hx hb dX8_scan_46 rfl hl (by decide) rfl (fun ls hl => ?_)
        refine lv_iinc (v := iI (j0_2 + 1)) (lv' := [(2, .int (iI (j0_2 + 1))), (1, .int (iI rr_37)), (0, .ref t0)]) hx hb dX8_scan_47 hl (k := 1) rfl (iI_add j0_2 1) (by decide) rfl (fun ls hl => ?_)
        refine lv_goto (tgt := 9) hx hb dX8_scan_50 (by decide) ?_
        exact ih_13 _ _ _ _ (by omega) ⟨rr_37, (j0_2 + 1), Ns_39, Na_40, Nv_41, Nt_38, (by first | assumption | omega), (by first | assumption | omega), (by first | assumption | omega), (by first | assumption | exact k_44 | exact bd_mono k_44 (by omega) (by omega)), (by first | assumption | exact k_45 | exact bd_mono k_45 (by omega) (by omega)), (by first | assumption | exact k_46 | exact bd_mono k_46 (by omega) (by omega)), rfl, hP, hD, hS, lv_sub hl [0, 1, 2] rfl⟩
      · have c_35 := (iI_eq (a := w_34) (b := 32) (by omega) (by omega)).mp c_35
        refine lv_iload_n hx hb dX8_scan_35 rfl (lv_at hl 1 rfl) ?_
        refine lv_iconst (v := iI 1) hx hb dX8_scan_36 rfl ?_
        refine lv_iadd hx hb dX8_scan_37 ?_
        refine g_topi (y := iI (k0_1 + 1)) (iI_add k0_1 1) ?_
        refine lv_goto (tgt := 46) hx hb dX8_scan_38 (by decide) ?_
        refine lv_istore_n (lv' := [(1, .int (iI (k0_1 + 1))), (2, .int (iI j0_2)), (0, .ref t0)]) hx hb dX8_scan_46 rfl hl (by decide) rfl (fun ls hl => ?_)
        refine lv_iinc (v := iI (j0_2 + 1)) (lv' := [(2, .int (iI (j0_2 + 1))), (1, .int (iI (k0_1 + 1))), (0, .ref t0)]) hx hb dX8_scan_47 hl (k := 1) rfl (iI_add j0_2 1) (by decide) rfl (fun ls hl => ?_)
        refine lv_goto (tgt := 9) hx hb dX8_scan_50 (by decide) ?_
        exact ih_13 _ _ _ _ (by omega) ⟨(k0_1 + 1), (j0_2 + 1), Es_3, Ea_4, Ev_5, et_6, (by first | assumption | omega), (by first | assumption | omega), (by first | assumption | omega), (by first | assumption | exact f_10 | exact bd_mono f_10 (by omega) (by omega)), (by first | assumption | exact f_11 | exact bd_mono f_11 (by omega) (by omega)), (by first | assumption | exact f_12 | exact bd_mono f_12 (by omega) (by omega)), rfl, hP, hD, hS, lv_sub hl [0, 1, 2] rfl⟩
