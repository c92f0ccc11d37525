theorem dX8_addByte_0 : decode cX8_addByte 0 = .ok (.aload_n 0, 1) := by decide +kernel
theorem dX8_addByte_1 : decode cX8_addByte 1 = .ok (.getfield 24, 3) := by decide +kernel
theorem dX8_addByte_4 : decode cX8_addByte 4 = .ok (.sipush 150, 3) := by decide +kernel
theorem dX8_addByte_7 : decode cX8_addByte 7 = .ok (.if_icmp .ge 23, 3) := by decide +kernel
theorem dX8_addByte_10 : decode cX8_addByte 10 = .ok (.aload_n 0, 1) := by decide +kernel
theorem dX8_addByte_11 : decode cX8_addByte 11 = .ok (.getfield 9, 3) := by decide +kernel
theorem dX8_addByte_14 : decode cX8_addByte 14 = .ok (.aload_n 0, 1) := by decide +kernel
theorem dX8_addByte_15 : decode cX8_addByte 15 = .ok (.getfield 24, 3) := by decide +kernel
theorem dX8_addByte_18 : decode cX8_addByte 18 = .ok (.iload_n 1, 1) := by decide +kernel
theorem dX8_addByte_19 : decode cX8_addByte 19 = .ok (.iastore, 1) := by decide +kernel
theorem dX8_addByte_20 : decode cX8_addByte 20 = .ok (.aload_n 0, 1) := by decide +kernel
theorem dX8_addByte_21 : decode cX8_addByte 21 = .ok (.dup, 1) := by decide +kernel
theorem dX8_addByte_22 : decode cX8_addByte 22 = .ok (.getfield 24, 3) := by decide +kernel
theorem dX8_addByte_25 : decode cX8_addByte 25 = .ok (.iconst 1, 1) := by decide +kernel
theorem dX8_addByte_26 : decode cX8_addByte 26 = .ok (.iadd, 1) := by decide +kernel
theorem dX8_addByte_27 : decode cX8_addByte 27 = .ok (.putfield 24, 3) := by decide +kernel
theorem dX8_addByte_30 : decode cX8_addByte 30 = .ok (.aload_n 0, 1) := by decide +kernel
theorem dX8_addByte_31 : decode cX8_addByte 31 = .ok (.getfield 24, 3) := by decide +kernel
theorem dX8_addByte_34 : decode cX8_addByte 34 = .ok (.ireturn, 1) := by decide +kernel
set_option maxHeartbeats 8000000 in
set_option maxRecDepth 100000 in
theorem c_X8_addByte (l : Launch) (G : gG) (h0Ex : Nat) (h0Exb : Nat) (h0Exs : Nat) (h0Exg : Nat) (h0Exv : Nat) (a1 : Int32) (sz : Nat) : gI G l yX8_addByte wsX8_addByte ({ frames := 0, cells := 0, slots := 0, locals := 0 } : Room) [.ref h0Ex, .int a1] [(h0Ex, .inr (7, [.ref h0Exb, .ref h0Exs, .ref h0Exg, .ref h0Exv, .int 0, .int 0])), (h0Exb, .inl (G.2 0, 150, .inl (fun _ => 0)))] sz (fun (r : Int32) (u : va_W) => (r = 1 ∧ u = [])) := by
  refine Met.ofW (cc := cX8_addByte) (maxL := 2) (ret := (some .int)) (by decide) rfl ?_
  intro p e s m args below meth c s₁ B hml hv
  obtain ⟨rfl, hsz, hP, hK, hD0, hN⟩ := hv
  have hx := B.exec
  have hb := B.bytes
  have hr := B.returns
  have hts := atoms_spec (ws := wsX8_addByte) B.pre
  have hown : s.vm.findClass RX8 = some m.cls := findClass_of_methodNamed B.named
  have hlocks := B.notSynchronized
  subst hsz
  have hD := hD0.self (sz := s.heap.size)
  generalize hAe : va_A [(h0Ex, .inr (7, [.ref h0Exb, .ref h0Exs, .ref h0Exg, .ref h0Exv, .int 0, .int 0])), (h0Exb, .inl (G.2 0, 150, .inl (fun _ => 0)))] s.heap.size = A at hD ⊢
  have hA : ∀ q : Nat, s.heap.size ≤ q → A q := fun q h => by rw [← hAe]; exact Or.inr h
  have hS : va_S A s.heap s.heap [] := va_S.rf
  have hP : va_P G.1 vwCl [(h0Ex, .inr (7, [.ref h0Exb, .ref h0Exs, .ref h0Exg, .ref h0Exv, .int 0, .int 0])), (h0Exb, .inl (G.2 0, 150, .inl (fun _ => 0)))] s.heap := hP
  have hl := lv_entry ([.ref h0Ex, .int a1]) (n := 2) (Nat.le_of_ble_eq_true rfl)
  rw [lg_entry_eq]
  generalize (lg_sl ([.ref h0Ex, .int a1]) ++ List.replicate (2 - (lg_sl ([.ref h0Ex, .int a1])).length) Slot.unset).toArray = ls at hl ⊢
  have hl : lv_has ls 2 [(0, .ref h0Ex), (1, .int a1)] := hl
  refine lv_aload_n hx hb dX8_addByte_0 rfl (lv_at hl 0 rfl) ?_
  refine va_get (D := G.1) (ci := 7) (v := .int 0) (C := RX8) (T := TX8) (N := 6) hx hb hts (fun _ h => List.mem_cons_of_mem _ (List.mem_append_right _ h)) hown hK hP 0 rfl rfl 4 (by decide) (hts _ (List.mem_of_getElem? (i := 1) rfl)) (fun _ h9 => h9) rfl dX8_addByte_1 ?_
  refine lv_sipush (v := 150) hx hb dX8_addByte_4 (by decide) ?_
  refine lv_icmp_ge (tgt := 30) hx hb dX8_addByte_7 (by decide) (fun c_1 => g_no c_1 (by decide)) (fun _ => ?_)
  refine lv_aload_n hx hb dX8_addByte_10 rfl (lv_at hl 0 rfl) ?_
  refine va_get (D := G.1) (ci := 7) (v := .ref h0Exb) (C := RX8) (T := TX8) (N := 6) hx hb hts (fun _ h => List.mem_cons_of_mem _ (List.mem_append_right _ h)) hown hK hP 0 rfl rfl 0 (by decide) (hts _ (List.mem_of_getElem? (i := 2) rfl)) (fun _ h9 => h9) rfl dX8_addByte_11 ?_
  refine lv_aload_n hx hb dX8_addByte_14 rfl (lv_at hl 0 rfl) ?_
  refine va_get (D := G.1) (ci := 7) (v := .int 0) (C := RX8) (T := TX8) (N := 6) hx hb hts (fun _ h => List.mem_cons_of_mem _ (List.mem_append_right _ h)) hown hK hP 0 rfl rfl 4 (by decide) (hts _ (List.mem_of_getElem? (i := 1) rfl)) (fun _ h9 => h9) rfl dX8_addByte_15 ?_
  refine lv_iload_n hx hb dX8_addByte_18 rfl (lv_at hl 1 rfl) ?_
  refine va_iast hx hb hK hP hD hS 1 0 rfl rfl (by unfold vp_in; decide) dX8_addByte_19 (fun H locs hP hD hS => ?_)
  have hP : va_P G.1 vwCl [(h0Ex, .inr (7, [.ref h0Exb, .ref h0Exs, .ref h0Exg, .ref h0Exv, .int 0, .int 0])), (h0Exb, .inl (G.2 0, 150, .inl (upd (fun _ => 0) 0 a1)))] H := hP
  have hD : va_D A [(h0Ex, .inr (7, [.ref h0Exb, .ref h0Exs, .ref h0Exg, .ref h0Exv, .int 0, .int 0])), (h0Exb, .inl (G.2 0, 150, .inl (upd (fun _ => 0) 0 a1)))] := hD
  refine lv_aload_n hx hb dX8_addByte_20 rfl (lv_at hl 0 rfl) ?_
  refine lv_dup hx hb dX8_addByte_21 rfl ?_
  refine va_get (D := G.1) (ci := 7) (v := .int 0) (C := RX8) (T := TX8) (N := 6) hx hb hts (fun _ h => List.mem_cons_of_mem _ (List.mem_append_right _ h)) hown hK hP 0 rfl rfl 4 (by decide) (hts _ (List.mem_of_getElem? (i := 1) rfl)) (fun _ h9 => h9) rfl dX8_addByte_22 ?_
  refine lv_iconst (v := 1) hx hb dX8_addByte_25 (by decide) ?_
  refine lv_iadd hx hb dX8_addByte_26 ?_
  refine g_topi (y := 1) (by decide) ?_
  refine va_put (D := G.1) (ci := 7) (v := .int 1) (ty := .int) (C := RX8) (T := TX8) (N := 6) hx hb hts (fun _ h => List.mem_cons_of_mem _ (List.mem_append_right _ h)) tyX8 tyX8_ok nmX8 hown hK hP hD hS 0 rfl rfl 4 (by decide) (hts _ (List.mem_of_getElem? (i := 1) rfl)) (fun _ h9 => h9) rfl (by decide +kernel) rfl rfl (Nat.le_of_ble_eq_true rfl) dX8_addByte_27 (fun H locs hP hD hS => ?_)
  have hP : va_P G.1 vwCl [(h0Ex, .inr (7, [.ref h0Exb, .ref h0Exs, .ref h0Exg, .ref h0Exv, .int 1, .int 0])), (h0Exb, .inl (G.2 0, 150, .inl (upd (fun _ => 0) 0 a1)))] H := hP
  have hD : va_D A [(h0Ex, .inr (7, [.ref h0Exb, .ref h0Exs, .ref h0Exg, .ref h0Exv, .int 1, .int 0])), (h0Exb, .inl (G.2 0, 150, .inl (upd (fun _ => 0) 0 a1)))] := hD
  refine lv_aload_n hx hb dX8_addByte_30 rfl (lv_at hl 0 rfl) ?_
  refine va_get (D := G.1) (ci := 7) (v := .int 1) (C := RX8) (T := TX8) (N := 6) hx hb hts (fun _ h => List.mem_cons_of_mem _ (List.mem_append_right _ h)) hown hK hP 0 rfl rfl 4 (by decide) (hts _ (List.mem_of_getElem? (i := 1) rfl)) (fun _ h9 => h9) rfl dX8_addByte_31 ?_
  have hP := hP.sub (ws' := []) [] rfl
  have hD := hD.sub (ws' := []) [] rfl rfl
  exact g_iret (v := 1) hx hb hr hlocks hP hD hS (⟨rfl, rfl⟩) dX8_addByte_34
theorem dX8_addToken_0 : decode cX8_addToken 0 = .ok (.aload_n 0, 1) := by decide +kernel
theorem dX8_addToken_1 : decode cX8_addToken 1 = .ok (.getfield 28, 3) := by decide +kernel
theorem dX8_addToken_4 : decode cX8_addToken 4 = .ok (.sipush 150, 3) := by decide +kernel
theorem dX8_addToken_7 : decode cX8_addToken 7 = .ok (.if_icmp .gt 43, 3) := by decide +kernel
theorem dX8_addToken_10 : decode cX8_addToken 10 = .ok (.aload_n 0, 1) := by decide +kernel
theorem dX8_addToken_11 : decode cX8_addToken 11 = .ok (.getfield 15, 3) := by decide +kernel
theorem dX8_addToken_14 : decode cX8_addToken 14 = .ok (.aload_n 0, 1) := by decide +kernel
theorem dX8_addToken_15 : decode cX8_addToken 15 = .ok (.getfield 28, 3) := by decide +kernel
theorem dX8_addToken_18 : decode cX8_addToken 18 = .ok (.iload_n 1, 1) := by decide +kernel
theorem dX8_addToken_19 : decode cX8_addToken 19 = .ok (.iastore, 1) := by decide +kernel
theorem dX8_addToken_20 : decode cX8_addToken 20 = .ok (.aload_n 0, 1) := by decide +kernel
theorem dX8_addToken_21 : decode cX8_addToken 21 = .ok (.getfield 18, 3) := by decide +kernel
theorem dX8_addToken_24 : decode cX8_addToken 24 = .ok (.aload_n 0, 1) := by decide +kernel
theorem dX8_addToken_25 : decode cX8_addToken 25 = .ok (.getfield 28, 3) := by decide +kernel
theorem dX8_addToken_28 : decode cX8_addToken 28 = .ok (.iload_n 2, 1) := by decide +kernel
theorem dX8_addToken_29 : decode cX8_addToken 29 = .ok (.iastore, 1) := by decide +kernel
theorem dX8_addToken_30 : decode cX8_addToken 30 = .ok (.aload_n 0, 1) := by decide +kernel
theorem dX8_addToken_31 : decode cX8_addToken 31 = .ok (.getfield 21, 3) := by decide +kernel
theorem dX8_addToken_34 : decode cX8_addToken 34 = .ok (.aload_n 0, 1) := by decide +kernel
theorem dX8_addToken_35 : decode cX8_addToken 35 = .ok (.getfield 28, 3) := by decide +kernel
theorem dX8_addToken_38 : decode cX8_addToken 38 = .ok (.iload_n 3, 1) := by decide +kernel
theorem dX8_addToken_39 : decode cX8_addToken 39 = .ok (.iastore, 1) := by decide +kernel
theorem dX8_addToken_40 : decode cX8_addToken 40 = .ok (.aload_n 0, 1) := by decide +kernel
theorem dX8_addToken_41 : decode cX8_addToken 41 = .ok (.dup, 1) := by decide +kernel
theorem dX8_addToken_42 : decode cX8_addToken 42 = .ok (.getfield 28, 3) := by decide +kernel
theorem dX8_addToken_45 : decode cX8_addToken 45 = .ok (.iconst 1, 1) := by decide +kernel
theorem dX8_addToken_46 : decode cX8_addToken 46 = .ok (.iadd, 1) := by decide +kernel
theorem dX8_addToken_47 : decode cX8_addToken 47 = .ok (.putfield 28, 3) := by decide +kernel
theorem dX8_addToken_50 : decode cX8_addToken 50 = .ok (.return_, 1) := by decide +kernel
set_option maxHeartbeats 8000000 in
set_option maxRecDepth 100000 in
theorem c_X8_addToken (l : Launch) (G : gG) (h0Ex : Nat) (h0Exb : Nat) (h0Exs : Nat) (h0Exg : Nat) (h0Exv : Nat) (sz : Nat) : gV G l yX8_addToken wsX8_addToken ({ frames := 0, cells := 0, slots := 0, locals := 0 } : Room) [.ref h0Ex, .int 0, .int 0, .int 0] [(h0Ex, .inr (7, [.ref h0Exb, .ref h0Exs, .ref h0Exg, .ref h0Exv, .int 0, .int 0])), (h0Exs, .inl (G.2 0, 151, .inl (fun _ => 0))), (h0Exg, .inl (G.2 0, 151, .inl (fun _ => 0))), (h0Exv, .inl (G.2 0, 151, .inl (fun _ => 0)))] sz (fun (u : va_W) => (u = [(h0Ex, .inr (7, [.ref h0Exb, .ref h0Exs, .ref h0Exg, .ref h0Exv, .int 0, .int 1])), (h0Exs, .inl (G.2 0, 151, .inl (fun _ => 0))), (h0Exg, .inl (G.2 0, 151, .inl (fun _ => 0))), (h0Exv, .inl (G.2 0, 151, .inl (fun _ => 0)))])) := by
  refine Met.ofW (cc := cX8_addToken) (maxL := 4) (ret := none) (by decide) rfl ?_
  intro p e s m args below meth c s₁ B hml hv
  obtain ⟨rfl, hsz, hP, hK, hD0, hN⟩ := hv
  have hx := B.exec
  have hb := B.bytes
  have hr := B.returns
  have hts := atoms_spec (ws := wsX8_addToken) B.pre
  have hown : s.vm.findClass RX8 = some m.cls := findClass_of_methodNamed B.named
  have hlocks := B.notSynchronized
  subst hsz
  have hD := hD0.self (sz := s.heap.size)
  generalize hAe : va_A [(h0Ex, .inr (7, [.ref h0Exb, .ref h0Exs, .ref h0Exg, .ref h0Exv, .int 0, .int 0])), (h0Exs, .inl (G.2 0, 151, .inl (fun _ => 0))), (h0Exg, .inl (G.2 0, 151, .inl (fun _ => 0))), (h0Exv, .inl (G.2 0, 151, .inl (fun _ => 0)))] s.heap.size = A at hD ⊢
  have hA : ∀ q : Nat, s.heap.size ≤ q → A q := fun q h => by rw [← hAe]; exact Or.inr h
  have hS : va_S A s.heap s.heap [] := va_S.rf
  have hP : va_P G.1 vwCl [(h0Ex, .inr (7, [.ref h0Exb, .ref h0Exs, .ref h0Exg, .ref h0Exv, .int 0, .int 0])), (h0Exs, .inl (G.2 0, 151, .inl (fun _ => 0))), (h0Exg, .inl (G.2 0, 151, .inl (fun _ => 0))), (h0Exv, .inl (G.2 0, 151, .inl (fun _ => 0)))] s.heap := hP
  have hl := lv_entry ([.ref h0Ex, .int 0, .int 0, .int 0]) (n := 4) (Nat.le_of_ble_eq_true rfl)
  rw [lg_entry_eq]
  generalize (lg_sl ([.ref h0Ex, .int 0, .int 0, .int 0]) ++ List.replicate (4 - (lg_sl ([.ref h0Ex, .int 0, .int 0, .int 0])).length) Slot.unset).toArray = ls at hl ⊢
  have hl : lv_has ls 4 [(0, .ref h0Ex), (1, .int 0), (2, .int 0), (3, .int 0)] := hl
  refine lv_aload_n hx hb dX8_addToken_0 rfl (lv_at hl 0 rfl) ?_
  refine va_get (D := G.1) (ci := 7) (v := .int 0) (C := RX8) (T := TX8) (N := 6) hx hb hts (fun _ h => List.mem_cons_of_mem _ (List.mem_append_right _ h)) hown hK hP 0 rfl rfl 5 (by decide) (hts _ (List.mem_of_getElem? (i := 1) rfl)) (fun _ h9 => h9) rfl dX8_addToken_1 ?_
  refine lv_sipush (v := 150) hx hb dX8_addToken_4 (by decide) ?_
  refine lv_icmp_gt (tgt := 50) hx hb dX8_addToken_7 (by decide) (fun c_1 => g_no c_1 (by decide)) (fun _ => ?_)
  refine lv_aload_n hx hb dX8_addToken_10 rfl (lv_at hl 0 rfl) ?_
  refine va_get (D := G.1) (ci := 7) (v := .ref h0Exs) (C := RX8) (T := TX8) (N := 6) hx hb hts (fun _ h => List.mem_cons_of_mem _ (List.mem_append_right _ h)) hown hK hP 0 rfl rfl 1 (by decide) (hts _ (List.mem_of_getElem? (i := 2) rfl)) (fun _ h9 => h9) rfl dX8_addToken_11 ?_
  refine lv_aload_n hx hb dX8_addToken_14 rfl (lv_at hl 0 rfl) ?_
  refine va_get (D := G.1) (ci := 7) (v := .int 0) (C := RX8) (T := TX8) (N := 6) hx hb hts (fun _ h => List.mem_cons_of_mem _ (List.mem_append_right _ h)) hown hK hP 0 rfl rfl 5 (by decide) (hts _ (List.mem_of_getElem? (i := 1) rfl)) (fun _ h9 => h9) rfl dX8_addToken_15 ?_
  refine lv_iload_n hx hb dX8_addToken_18 rfl (lv_at hl 1 rfl) ?_
  refine va_iast hx hb hK hP hD hS 1 0 rfl rfl (by unfold vp_in; decide) dX8_addToken_19 (fun H locs hP hD hS => ?_)
  rw [upd_zz] at hP hD
  have hP : va_P G.1 vwCl [(h0Ex, .inr (7, [.ref h0Exb, .ref h0Exs, .ref h0Exg, .ref h0Exv, .int 0, .int 0])), (h0Exs, .inl (G.2 0, 151, .inl (fun _ => 0))), (h0Exg, .inl (G.2 0, 151, .inl (fun _ => 0))), (h0Exv, .inl (G.2 0, 151, .inl (fun _ => 0)))] H := hP
  have hD : va_D A [(h0Ex, .inr (7, [.ref h0Exb, .ref h0Exs, .ref h0Exg, .ref h0Exv, .int 0, .int 0])), (h0Exs, .inl (G.2 0, 151, .inl (fun _ => 0))), (h0Exg, .inl (G.2 0, 151, .inl (fun _ => 0))), (h0Exv, .inl (G.2 0, 151, .inl (fun _ => 0)))] := hD
  refine lv_aload_n hx hb dX8_addToken_20 rfl (lv_at hl 0 rfl) ?_
  refine va_get (D := G.1) (ci := 7) (v := .ref h0Exg) (C := RX8) (T := TX8) (N := 6) hx hb hts (fun _ h => List.mem_cons_of_mem _ (List.mem_append_right _ h)) hown hK hP 0 rfl rfl 2 (by decide) (hts _ (List.mem_of_getElem? (i := 3) rfl)) (fun _ h9 => h9) rfl dX8_addToken_21 ?_
  refine lv_aload_n hx hb dX8_addToken_24 rfl (lv_at hl 0 rfl) ?_
  refine va_get (D := G.1) (ci := 7) (v := .int 0) (C := RX8) (T := TX8) (N := 6) hx hb hts (fun _ h => List.mem_cons_of_mem _ (List.mem_append_right _ h)) hown hK hP 0 rfl rfl 5 (by decide) (hts _ (List.mem_of_getElem? (i := 1) rfl)) (fun _ h9 => h9) rfl dX8_addToken_25 ?_
  refine lv_iload_n hx hb dX8_addToken_28 rfl (lv_at hl 2 rfl) ?_
  refine va_iast hx hb hK hP hD hS 2 0 rfl rfl (by unfold vp_in; decide) dX8_addToken_29 (fun H locs hP hD hS => ?_)
  rw [upd_zz] at hP hD
  have hP : va_P G.1 vwCl [(h0Ex, .inr (7, [.ref h0Exb, .ref h0Exs, .ref h0Exg, .ref h0Exv, .int 0, .int 0])), (h0Exs, .inl (G.2 0, 151, .inl (fun _ => 0))), (h0Exg, .inl (G.2 0, 151, .inl (fun _ => 0))), (h0Exv, .inl (G.2 0, 151, .inl (fun _ => 0)))] H := hP
  have hD : va_D A [(h0Ex, .inr (7, [.ref h0Exb, .ref h0Exs, .ref h0Exg, .ref h0Exv, .int 0, .int 0])), (h0Exs, .inl (G.2 0, 151, .inl (fun _ => 0))), (h0Exg, .inl (G.2 0, 151, .inl (fun _ => 0))), (h0Exv, .inl (G.2 0, 151, .inl (fun _ => 0)))] := hD
  refine lv_aload_n hx hb dX8_addToken_30 rfl (lv_at hl 0 rfl) ?_
  refine va_get (D := G.1) (ci := 7) (v := .ref h0Exv) (C := RX8) (T := TX8) (N := 6) hx hb hts (fun _ h => List.mem_cons_of_mem _ (List.mem_append_right _ h)) hown hK hP 0 rfl rfl 3 (by decide) (hts _ (List.mem_of_getElem? (i := 4) rfl)) (fun _ h9 => h9) rfl dX8_addToken_31 ?_
  refine lv_aload_n hx hb dX8_addToken_34 rfl (lv_at hl 0 rfl) ?_
  refine va_get (D := G.1) (ci := 7) (v := .int 0) (C := RX8) (T := TX8) (N := 6) hx hb hts (fun _ h => List.mem_cons_of_mem _ (List.mem_append_right _ h)) hown hK hP 0 rfl rfl 5 (by decide) (hts _ (List.mem_of_getElem? (i := 1) rfl)) (fun _ h9 => h9) rfl dX8_addToken_35 ?_
  refine lv_iload_n hx hb dX8_addToken_38 rfl (lv_at hl 3 rfl) ?_
  refine va_iast hx hb hK hP hD hS 3 0 rfl rfl (by unfold vp_in; decide) dX8_addToken_39 (fun H locs hP hD hS => ?_)
  rw [upd_zz] at hP hD
  have hP : va_P G.1 vwCl [(h0Ex, .inr (7, [.ref h0Exb, .ref h0Exs, .ref h0Exg, .ref h0Exv, .int 0, .int 0])), (h0Exs, .inl (G.2 0, 151, .inl (fun _ => 0))), (h0Exg, .inl (G.2 0, 151, .inl (fun _ => 0))), (h0Exv, .inl (G.2 0, 151, .inl (fun _ => 0)))] H := hP
  have hD : va_D A [(h0Ex, .inr (7, [.ref h0Exb, .ref h0Exs, .ref h0Exg, .ref h0Exv, .int 0, .int 0])), (h0Exs, .inl (G.2 0, 151, .inl (fun _ => 0))), (h0Exg, .inl (G.2 0, 151, .inl (fun _ => 0))), (h0Exv, .inl (G.2 0, 151, .inl (fun _ => 0)))] := hD
  refine lv_aload_n hx hb dX8_addToken_40 rfl (lv_at hl 0 rfl) ?_
  refine lv_dup hx hb dX8_addToken_41 rfl ?_
  refine va_get (D := G.1) (ci := 7) (v := .int 0) (C := RX8) (T := TX8) (N := 6) hx hb hts (fun _ h => List.mem_cons_of_mem _ (List.mem_append_right _ h)) hown hK hP 0 rfl rfl 5 (by decide) (hts _ (List.mem_of_getElem? (i := 1) rfl)) (fun _ h9 => h9) rfl dX8_addToken_42 ?_
  refine lv_iconst (v := 1) hx hb dX8_addToken_45 (by decide) ?_
  refine lv_iadd hx hb dX8_addToken_46 ?_
  refine g_topi (y := 1) (by decide) ?_
  refine va_put (D := G.1) (ci := 7) (v := .int 1) (ty := .int) (C := RX8) (T := TX8) (N := 6) hx hb hts (fun _ h => List.mem_cons_of_mem _ (List.mem_append_right _ h)) tyX8 tyX8_ok nmX8 hown hK hP hD hS 0 rfl rfl 5 (by decide) (hts _ (List.mem_of_getElem? (i := 1) rfl)) (fun _ h9 => h9) rfl (by decide +kernel) rfl rfl (Nat.le_of_ble_eq_true rfl) dX8_addToken_47 (fun H locs hP hD hS => ?_)
  have hP : va_P G.1 vwCl [(h0Ex, .inr (7, [.ref h0Exb, .ref h0Exs, .ref h0Exg, .ref h0Exv, .int 0, .int 1])), (h0Exs, .inl (G.2 0, 151, .inl (fun _ => 0))), (h0Exg, .inl (G.2 0, 151, .inl (fun _ => 0))), (h0Exv, .inl (G.2 0, 151, .inl (fun _ => 0)))] H := hP
  have hD : va_D A [(h0Ex, .inr (7, [.ref h0Exb, .ref h0Exs, .ref h0Exg, .ref h0Exv, .int 0, .int 1])), (h0Exs, .inl (G.2 0, 151, .inl (fun _ => 0))), (h0Exg, .inl (G.2 0, 151, .inl (fun _ => 0))), (h0Exv, .inl (G.2 0, 151, .inl (fun _ => 0)))] := hD
  exact g_vret hx hb hr hlocks hP hD hS (rfl) dX8_addToken_50
theorem dX8_scan_0 : decode cX8_scan 0 = .ok (.aload_n 0, 1) := by decide +kernel
theorem dX8_scan_1 : decode cX8_scan 1 = .ok (.iconst 0, 1) := by decide +kernel
theorem dX8_scan_2 : decode cX8_scan 2 = .ok (.putfield 28, 3) := by decide +kernel
theorem dX8_scan_5 : decode cX8_scan 5 = .ok (.iconst 0, 1) := by decide +kernel
theorem dX8_scan_6 : decode cX8_scan 6 = .ok (.istore_n 1, 1) := by decide +kernel
theorem dX8_scan_7 : decode cX8_scan 7 = .ok (.iconst 0, 1) := by decide +kernel
theorem dX8_scan_8 : decode cX8_scan 8 = .ok (.istore_n 2, 1) := by decide +kernel
theorem dX8_scan_9 : decode cX8_scan 9 = .ok (.iload_n 2, 1) := by decide +kernel
theorem dX8_scan_10 : decode cX8_scan 10 = .ok (.sipush 150, 3) := by decide +kernel
theorem dX8_scan_13 : decode cX8_scan 13 = .ok (.if_icmp .ge 40, 3) := by decide +kernel
theorem dX8_scan_16 : decode cX8_scan 16 = .ok (.iload_n 1, 1) := by decide +kernel
theorem dX8_scan_17 : decode cX8_scan 17 = .ok (.aload_n 0, 1) := by decide +kernel
theorem dX8_scan_18 : decode cX8_scan 18 = .ok (.getfield 24, 3) := by decide +kernel
theorem dX8_scan_21 : decode cX8_scan 21 = .ok (.if_icmp .ge 32, 3) := by decide +kernel
theorem dX8_scan_53 : decode cX8_scan 53 = .ok (.aload_n 0, 1) := by decide +kernel
theorem dX8_scan_54 : decode cX8_scan 54 = .ok (.iconst 0, 1) := by decide +kernel
theorem dX8_scan_55 : decode cX8_scan 55 = .ok (.aload_n 0, 1) := by decide +kernel
theorem dX8_scan_56 : decode cX8_scan 56 = .ok (.getfield 24, 3) := by decide +kernel
theorem dX8_scan_59 : decode cX8_scan 59 = .ok (.iconst 0, 1) := by decide +kernel
set_option maxRecDepth 20000 in
theorem ggX8_scan_X8_addToken : GoodIn wsX8_scan wsX8_addToken := goodIn_r _ [72, 1, 73, 74, 75, 79, 80, 81, 82, 83, 84] (by decide +kernel) (by decide +kernel)
set_option maxRecDepth 20000 in
theorem gX8_scan_X8_addToken : GoodIn wsX8_scan (wsV RX8 35 RX8 yX8_addToken wsX8_addToken) := goodIn_app (goodIn_of _ (by decide +kernel)) ggX8_scan_X8_addToken
theorem dX8_scan_60 : decode cX8_scan 60 = .ok (.invokevirtual 35, 3) := by decide +kernel
theorem dX8_scan_63 : decode cX8_scan 63 = .ok (.return_, 1) := by decide +kernel
set_option maxHeartbeats 8000000 in
set_option maxRecDepth 100000 in
theorem c_X8_scan (l : Launch) (G : gG) (h0Ex : Nat) (h0Exb : Nat) (h0Exs : Nat) (h0Exg : Nat) (h0Exv : Nat) (sz : Nat) : gV G l yX8_scan wsX8_scan ({ frames := 1, cells := 0, slots := 0, locals := 23 } : Room) [.ref h0Ex] [(h0Ex, .inr (7, [.ref h0Exb, .ref h0Exs, .ref h0Exg, .ref h0Exv, .int 0, .int 0])), (h0Exs, .inl (G.2 0, 151, .inl (fun _ => 0))), (h0Exg, .inl (G.2 0, 151, .inl (fun _ => 0))), (h0Exv, .inl (G.2 0, 151, .inl (fun _ => 0)))] sz (fun (u : va_W) => (u = [(h0Ex, .inr (7, [.ref h0Exb, .ref h0Exs, .ref h0Exg, .ref h0Exv, .int 0, .int 1])), (h0Exs, .inl (G.2 0, 151, .inl (fun _ => 0))), (h0Exg, .inl (G.2 0, 151, .inl (fun _ => 0))), (h0Exv, .inl (G.2 0, 151, .inl (fun _ => 0)))])) := by
  refine Met.ofW (cc := cX8_scan) (maxL := 3) (ret := none) (by decide) rfl ?_
  intro p e s m args below meth c s₁ B hml hv
  obtain ⟨rfl, hsz, hP, hK, hD0, hN⟩ := hv
  have hx := B.exec
  have hb := B.bytes
  have hr := B.returns
  have hts := atoms_spec (ws := wsX8_scan) B.pre
  have hown : s.vm.findClass RX8 = some m.cls := findClass_of_methodNamed B.named
  have hlocks := B.notSynchronized
  subst hsz
  have hD := hD0.self (sz := s.heap.size)
  generalize hAe : va_A [(h0Ex, .inr (7, [.ref h0Exb, .ref h0Exs, .ref h0Exg, .ref h0Exv, .int 0, .int 0])), (h0Exs, .inl (G.2 0, 151, .inl (fun _ => 0))), (h0Exg, .inl (G.2 0, 151, .inl (fun _ => 0))), (h0Exv, .inl (G.2 0, 151, .inl (fun _ => 0)))] s.heap.size = A at hD ⊢
  have hA : ∀ q : Nat, s.heap.size ≤ q → A q := fun q h => by rw [← hAe]; exact Or.inr h
  have hS : va_S A s.heap s.heap [] := va_S.rf
  have hP : va_P G.1 vwCl [(h0Ex, .inr (7, [.ref h0Exb, .ref h0Exs, .ref h0Exg, .ref h0Exv, .int 0, .int 0])), (h0Exs, .inl (G.2 0, 151, .inl (fun _ => 0))), (h0Exg, .inl (G.2 0, 151, .inl (fun _ => 0))), (h0Exv, .inl (G.2 0, 151, .inl (fun _ => 0)))] s.heap := hP
  have hl := lv_entry ([.ref h0Ex]) (n := 3) (Nat.le_of_ble_eq_true rfl)
  rw [lg_entry_eq]
  generalize (lg_sl ([.ref h0Ex]) ++ List.replicate (3 - (lg_sl ([.ref h0Ex])).length) Slot.unset).toArray = ls at hl ⊢
  have hl : lv_has ls 3 [(0, .ref h0Ex)] := hl
  refine lv_aload_n hx hb dX8_scan_0 rfl (lv_at hl 0 rfl) ?_
  refine lv_iconst (v := 0) hx hb dX8_scan_1 (by decide) ?_
  refine va_put (D := G.1) (ci := 7) (v := .int 0) (ty := .int) (C := RX8) (T := TX8) (N := 6) hx hb hts (fun _ h => List.mem_cons_of_mem _ (List.mem_append_right _ h)) tyX8 tyX8_ok nmX8 hown hK hP hD hS 0 rfl rfl 5 (by decide) (hts _ (List.mem_of_getElem? (i := 1) rfl)) (fun _ h9 => h9) rfl (by decide +kernel) rfl rfl (Nat.le_of_ble_eq_true rfl) dX8_scan_2 (fun H locs hP hD hS => ?_)
  have hP : va_P G.1 vwCl [(h0Ex, .inr (7, [.ref h0Exb, .ref h0Exs, .ref h0Exg, .ref h0Exv, .int 0, .int 0])), (h0Exs, .inl (G.2 0, 151, .inl (fun _ => 0))), (h0Exg, .inl (G.2 0, 151, .inl (fun _ => 0))), (h0Exv, .inl (G.2 0, 151, .inl (fun _ => 0)))] H := hP
  have hD : va_D A [(h0Ex, .inr (7, [.ref h0Exb, .ref h0Exs, .ref h0Exg, .ref h0Exv, .int 0, .int 0])), (h0Exs, .inl (G.2 0, 151, .inl (fun _ => 0))), (h0Exg, .inl (G.2 0, 151, .inl (fun _ => 0))), (h0Exv, .inl (G.2 0, 151, .inl (fun _ => 0)))] := hD
  refine lv_iconst (v := 0) hx hb dX8_scan_5 (by decide) ?_
  refine lv_istore_n (lv' := [(1, .int 0), (0, .ref h0Ex)]) hx hb dX8_scan_6 rfl hl (by decide) rfl (fun ls hl => ?_)
  refine lv_iconst (v := 0) hx hb dX8_scan_7 (by decide) ?_
  refine lv_istore_n (lv' := [(2, .int 0), (1, .int 0), (0, .ref h0Ex)]) hx hb dX8_scan_8 rfl hl (by decide) rfl (fun ls hl => ?_)
  refine lv_iload_n hx hb dX8_scan_9 rfl (lv_at hl 0 rfl) ?_
  refine lv_sipush (v := 150) hx hb dX8_scan_10 (by decide) ?_
  refine lv_icmp_ge (tgt := 53) hx hb dX8_scan_13 (by decide) (fun c_1 => g_no c_1 (by decide)) (fun _ => ?_)
  refine lv_iload_n hx hb dX8_scan_16 rfl (lv_at hl 1 rfl) ?_
  refine lv_aload_n hx hb dX8_scan_17 rfl (lv_at hl 2 rfl) ?_
  refine va_get (D := G.1) (ci := 7) (v := .int 0) (C := RX8) (T := TX8) (N := 6) hx hb hts (fun _ h => List.mem_cons_of_mem _ (List.mem_append_right _ h)) hown hK hP 0 rfl rfl 4 (by decide) (hts _ (List.mem_of_getElem? (i := 2) rfl)) (fun _ h9 => h9) rfl dX8_scan_18 ?_
  refine lv_icmp_ge (tgt := 53) hx hb dX8_scan_21 (by decide) (fun _ => ?_) (fun c_2 => g_no (by decide) c_2)
  refine lv_aload_n hx hb dX8_scan_53 rfl (lv_at hl 2 rfl) ?_
  refine lv_iconst (v := 0) hx hb dX8_scan_54 (by decide) ?_
  refine lv_aload_n hx hb dX8_scan_55 rfl (lv_at hl 2 rfl) ?_
  refine va_get (D := G.1) (ci := 7) (v := .int 0) (C := RX8) (T := TX8) (N := 6) hx hb hts (fun _ h => List.mem_cons_of_mem _ (List.mem_append_right _ h)) hown hK hP 0 rfl rfl 4 (by decide) (hts _ (List.mem_of_getElem? (i := 2) rfl)) (fun _ h9 => h9) rfl dX8_scan_56 ?_
  refine lv_iconst (v := 0) hx hb dX8_scan_59 (by decide) ?_
  refine g_callv (wr := []) (va_runV (As := [.int 0, .int 0, .int 0]) (rest := []) ⟨hx, hb, hml, hown, hts⟩ (c_X8_addToken l G (h0Ex) (h0Exb) (h0Exs) (h0Exg) (h0Exv) _) (cwV 3 hts gX8_scan_X8_addToken rfl rfl rfl (by decide +kernel) ⟨Nat.le_of_ble_eq_true rfl, Nat.le_of_ble_eq_true rfl⟩) (g_preV h0Ex [.int 0, .int 0, .int 0] hP hD hK hN [0, 1, 2, 3] rfl rfl 0 (ci := 7) rfl rfl) rfl rfl hl.1 rfl (lv_room (Nat.le_of_ble_eq_true rfl)) dX8_scan_60 ⟨Nat.le_of_ble_eq_true rfl, Nat.le_of_ble_eq_true rfl⟩) hP hD hS hA [0, 1, 2, 3] [] rfl rfl rfl (by decide) (fun u H locs hw hP hD hS => ?_)
  subst hw
  have hP : va_P G.1 vwCl [(h0Ex, .inr (7, [.ref h0Exb, .ref h0Exs, .ref h0Exg, .ref h0Exv, .int 0, .int 1])), (h0Exs, .inl (G.2 0, 151, .inl (fun _ => 0))), (h0Exg, .inl (G.2 0, 151, .inl (fun _ => 0))), (h0Exv, .inl (G.2 0, 151, .inl (fun _ => 0)))] H := hP
  have hD : va_D A [(h0Ex, .inr (7, [.ref h0Exb, .ref h0Exs, .ref h0Exg, .ref h0Exv, .int 0, .int 1])), (h0Exs, .inl (G.2 0, 151, .inl (fun _ => 0))), (h0Exg, .inl (G.2 0, 151, .inl (fun _ => 0))), (h0Exv, .inl (G.2 0, 151, .inl (fun _ => 0)))] := hD
  exact g_vret hx hb hr hlocks hP hD hS (rfl) dX8_scan_63
theorem dX7_sort_0 : decode cX7_sort 0 = .ok (.aload_n 0, 1) := by decide +kernel
theorem dX7_sort_1 : decode cX7_sort 1 = .ok (.getfield 12, 3) := by decide +kernel
theorem dX7_sort_4 : decode cX7_sort 4 = .ok (.getfield 123, 3) := by decide +kernel
theorem dX7_sort_7 : decode cX7_sort 7 = .ok (.aload_n 0, 1) := by decide +kernel
theorem dX7_sort_8 : decode cX7_sort 8 = .ok (.getfield 30, 3) := by decide +kernel
theorem dX7_sort_11 : decode cX7_sort 11 = .ok (.iaload, 1) := by decide +kernel
theorem dX7_sort_12 : decode cX7_sort 12 = .ok (.ireturn, 1) := by decide +kernel
set_option maxHeartbeats 8000000 in
set_option maxRecDepth 100000 in
theorem c_X7_sort (l : Launch) (G : gG) (h0E : Nat) (h0Ex : Nat) (h0Ei : Nat) (h0Exb : Nat) (h0Exs : Nat) (h0Exg : Nat) (h0Exv : Nat) (sz : Nat) : gI G l yX7_sort wsX7_sort ({ frames := 0, cells := 0, slots := 0, locals := 0 } : Room) [.ref h0E] [(h0E, .inr (6, [.ref h0Ex, .ref h0Ei, .int 0])), (h0Ex, .inr (7, [.ref h0Exb, .ref h0Exs, .ref h0Exg, .ref h0Exv, .int 0, .int 1])), (h0Exs, .inl (G.2 0, 151, .inl (fun _ => 0)))] sz (fun (r : Int32) (u : va_W) => (r = 0 ∧ u = [(h0E, .inr (6, [.ref h0Ex, .ref h0Ei, .int 0])), (h0Ex, .inr (7, [.ref h0Exb, .ref h0Exs, .ref h0Exg, .ref h0Exv, .int 0, .int 1])), (h0Exs, .inl (G.2 0, 151, .inl (fun _ => 0)))])) := by
  refine Met.ofW (cc := cX7_sort) (maxL := 1) (ret := (some .int)) (by decide) rfl ?_
  intro p e s m args below meth c s₁ B hml hv
  obtain ⟨rfl, hsz, hP, hK, hD0, hN⟩ := hv
  have hx := B.exec
  have hb := B.bytes
  have hr := B.returns
  have hts := atoms_spec (ws := wsX7_sort) B.pre
  have hown : s.vm.findClass RX7 = some m.cls := findClass_of_methodNamed B.named
  have hlocks := B.notSynchronized
  subst hsz
  have hD := hD0.self (sz := s.heap.size)
  generalize hAe : va_A [(h0E, .inr (6, [.ref h0Ex, .ref h0Ei, .int 0])), (h0Ex, .inr (7, [.ref h0Exb, .ref h0Exs, .ref h0Exg, .ref h0Exv, .int 0, .int 1])), (h0Exs, .inl (G.2 0, 151, .inl (fun _ => 0)))] s.heap.size = A at hD ⊢
  have hA : ∀ q : Nat, s.heap.size ≤ q → A q := fun q h => by rw [← hAe]; exact Or.inr h
  have hS : va_S A s.heap s.heap [] := va_S.rf
  have hP : va_P G.1 vwCl [(h0E, .inr (6, [.ref h0Ex, .ref h0Ei, .int 0])), (h0Ex, .inr (7, [.ref h0Exb, .ref h0Exs, .ref h0Exg, .ref h0Exv, .int 0, .int 1])), (h0Exs, .inl (G.2 0, 151, .inl (fun _ => 0)))] s.heap := hP
  have hl := lv_entry ([.ref h0E]) (n := 1) (Nat.le_of_ble_eq_true rfl)
  rw [lg_entry_eq]
  generalize (lg_sl ([.ref h0E]) ++ List.replicate (1 - (lg_sl ([.ref h0E])).length) Slot.unset).toArray = ls at hl ⊢
  have hl : lv_has ls 1 [(0, .ref h0E)] := hl
  refine lv_aload_n hx hb dX7_sort_0 rfl (lv_at hl 0 rfl) ?_
  refine va_get (D := G.1) (ci := 6) (v := .ref h0Ex) (C := RX7) (T := TX7) (N := 3) hx hb hts (fun _ h => List.mem_cons_of_mem _ (List.mem_append_left _ (List.mem_append_right _ h))) hown hK hP 0 rfl rfl 0 (by decide) (hts _ (List.mem_of_getElem? (i := 1) rfl)) (fun _ h9 => h9) rfl dX7_sort_1 ?_
  refine va_getN (D := G.1) (ci := 7) (v := .ref h0Exs) (C := RX8) (T := TX8) (N := 6) hx hb hts (fun _ h => List.mem_cons_of_mem _ (List.mem_append_right _ h)) hown hK hP 1 rfl rfl 1 (by decide) (va_Nw.use rfl (nw40 hN)) (fun _ h9 => h9) rfl dX7_sort_4 ?_
  refine lv_aload_n hx hb dX7_sort_7 rfl (lv_at hl 0 rfl) ?_
  refine va_get (D := G.1) (ci := 6) (v := .int 0) (C := RX7) (T := TX7) (N := 3) hx hb hts (fun _ h => List.mem_cons_of_mem _ (List.mem_append_left _ (List.mem_append_right _ h))) hown hK hP 0 rfl rfl 2 (by decide) (hts _ (List.mem_of_getElem? (i := 2) rfl)) (fun _ h9 => h9) rfl dX7_sort_8 ?_
  refine va_iald hx hb hK hP 2 0 rfl rfl (by unfold vp_in; decide) dX7_sort_11 ?_
  refine g_topi (y := 0) rfl ?_
  exact g_iret (v := 0) hx hb hr hlocks hP hD hS (⟨rfl, rfl⟩) dX7_sort_12
theorem dX7_fault_0 : decode cX7_fault 0 = .ok (.bipush (-10), 2) := by decide +kernel
theorem dX7_fault_2 : decode cX7_fault 2 = .ok (.aload_n 0, 1) := by decide +kernel
theorem dX7_fault_3 : decode cX7_fault 3 = .ok (.getfield 12, 3) := by decide +kernel
theorem dX7_fault_6 : decode cX7_fault 6 = .ok (.getfield 129, 3) := by decide +kernel
theorem dX7_fault_9 : decode cX7_fault 9 = .ok (.aload_n 0, 1) := by decide +kernel
theorem dX7_fault_10 : decode cX7_fault 10 = .ok (.getfield 30, 3) := by decide +kernel
theorem dX7_fault_13 : decode cX7_fault 13 = .ok (.iaload, 1) := by decide +kernel
theorem dX7_fault_14 : decode cX7_fault 14 = .ok (.isub, 1) := by decide +kernel
theorem dX7_fault_15 : decode cX7_fault 15 = .ok (.ireturn, 1) := by decide +kernel
set_option maxHeartbeats 8000000 in
set_option maxRecDepth 100000 in
theorem c_X7_fault (l : Launch) (G : gG) (h0E : Nat) (h0Ex : Nat) (h0Ei : Nat) (h0Exb : Nat) (h0Exs : Nat) (h0Exg : Nat) (h0Exv : Nat) (sz : Nat) : gI G l yX7_fault wsX7_fault ({ frames := 0, cells := 0, slots := 0, locals := 0 } : Room) [.ref h0E] [(h0E, .inr (6, [.ref h0Ex, .ref h0Ei, .int 0])), (h0Ex, .inr (7, [.ref h0Exb, .ref h0Exs, .ref h0Exg, .ref h0Exv, .int 0, .int 1])), (h0Exg, .inl (G.2 0, 151, .inl (fun _ => 0)))] sz (fun (r : Int32) (u : va_W) => (r = (-10) ∧ u = [])) := by
  refine Met.ofW (cc := cX7_fault) (maxL := 1) (ret := (some .int)) (by decide) rfl ?_
  intro p e s m args below meth c s₁ B hml hv
  obtain ⟨rfl, hsz, hP, hK, hD0, hN⟩ := hv
  have hx := B.exec
  have hb := B.bytes
  have hr := B.returns
  have hts := atoms_spec (ws := wsX7_fault) B.pre
  have hown : s.vm.findClass RX7 = some m.cls := findClass_of_methodNamed B.named
  have hlocks := B.notSynchronized
  subst hsz
  have hD := hD0.self (sz := s.heap.size)
  generalize hAe : va_A [(h0E, .inr (6, [.ref h0Ex, .ref h0Ei, .int 0])), (h0Ex, .inr (7, [.ref h0Exb, .ref h0Exs, .ref h0Exg, .ref h0Exv, .int 0, .int 1])), (h0Exg, .inl (G.2 0, 151, .inl (fun _ => 0)))] s.heap.size = A at hD ⊢
  have hA : ∀ q : Nat, s.heap.size ≤ q → A q := fun q h => by rw [← hAe]; exact Or.inr h
  have hS : va_S A s.heap s.heap [] := va_S.rf
  have hP : va_P G.1 vwCl [(h0E, .inr (6, [.ref h0Ex, .ref h0Ei, .int 0])), (h0Ex, .inr (7, [.ref h0Exb, .ref h0Exs, .ref h0Exg, .ref h0Exv, .int 0, .int 1])), (h0Exg, .inl (G.2 0, 151, .inl (fun _ => 0)))] s.heap := hP
  have hl := lv_entry ([.ref h0E]) (n := 1) (Nat.le_of_ble_eq_true rfl)
  rw [lg_entry_eq]
  generalize (lg_sl ([.ref h0E]) ++ List.replicate (1 - (lg_sl ([.ref h0E])).length) Slot.unset).toArray = ls at hl ⊢
  have hl : lv_has ls 1 [(0, .ref h0E)] := hl
  refine lv_bipush (v := (-10)) hx hb dX7_fault_0 (by decide) ?_
  refine lv_aload_n hx hb dX7_fault_2 rfl (lv_at hl 0 rfl) ?_
  refine va_get (D := G.1) (ci := 6) (v := .ref h0Ex) (C := RX7) (T := TX7) (N := 3) hx hb hts (fun _ h => List.mem_cons_of_mem _ (List.mem_append_left _ (List.mem_append_right _ h))) hown hK hP 0 rfl rfl 0 (by decide) (hts _ (List.mem_of_getElem? (i := 1) rfl)) (fun _ h9 => h9) rfl dX7_fault_3 ?_
  refine va_getN (D := G.1) (ci := 7) (v := .ref h0Exg) (C := RX8) (T := TX8) (N := 6) hx hb hts (fun _ h => List.mem_cons_of_mem _ (List.mem_append_right _ h)) hown hK hP 1 rfl rfl 2 (by decide) (va_Nw.use rfl (nw41 hN)) (fun _ h9 => h9) rfl dX7_fault_6 ?_
  refine lv_aload_n hx hb dX7_fault_9 rfl (lv_at hl 0 rfl) ?_
  refine va_get (D := G.1) (ci := 6) (v := .int 0) (C := RX7) (T := TX7) (N := 3) hx hb hts (fun _ h => List.mem_cons_of_mem _ (List.mem_append_left _ (List.mem_append_right _ h))) hown hK hP 0 rfl rfl 2 (by decide) (hts _ (List.mem_of_getElem? (i := 2) rfl)) (fun _ h9 => h9) rfl dX7_fault_10 ?_
  refine va_iald hx hb hK hP 2 0 rfl rfl (by unfold vp_in; decide) dX7_fault_13 ?_
  refine g_topi (y := 0) rfl ?_
  refine lv_isub hx hb dX7_fault_14 ?_
  refine g_topi (y := (-10)) (by decide) ?_
  have hP := hP.sub (ws' := []) [] rfl
  have hD := hD.sub (ws' := []) [] rfl rfl
  exact g_iret (v := (-10)) hx hb hr hlocks hP hD hS (⟨rfl, rfl⟩) dX7_fault_15
theorem dX7_tell_0 : decode cX7_tell 0 = .ok (.aload_n 0, 1) := by decide +kernel
theorem dX7_tell_1 : decode cX7_tell 1 = .ok (.getfield 12, 3) := by decide +kernel
set_option maxRecDepth 20000 in
theorem ggX7_tell_X8_scan : GoodIn wsX7_tell wsX8_scan := goodIn_r _ [6, 7, 8, 9, 10, 11, 12, 4, 13, 14, 15, 16, 17, 18, 19, 20, 21, 22, 23, 24, 25, 26, 27, 28, 29, 30, 31, 32, 33, 34, 35, 36, 37, 38, 39, 40, 41, 42, 43, 44, 45, 46, 47, 48, 49, 50, 51, 52, 53, 54, 55, 56, 57, 58, 59, 60, 61, 62, 63, 64, 65, 66, 67, 68, 69, 70, 71, 72, 73, 74, 75, 76, 77, 78, 79, 80, 81, 82, 83, 222, 223, 224, 225, 226, 227] (by decide +kernel) (by decide +kernel)
set_option maxRecDepth 20000 in
theorem gX7_tell_X8_scan_n22 : GoodIn wsX7_tell (wsX8_scan) := ggX7_tell_X8_scan
theorem dX7_tell_4 : decode cX7_tell 4 = .ok (.invokevirtual 22, 3) := by decide +kernel
theorem dX7_tell_7 : decode cX7_tell 7 = .ok (.aload_n 1, 1) := by decide +kernel
set_option maxRecDepth 20000 in
theorem ggX7_tell_X9_startAnew : GoodIn wsX7_tell wsX9_startAnew := goodIn_r _ [87, 88, 89, 90, 91, 92, 93, 94, 95, 96, 97, 98, 99, 100, 228, 229, 230, 231, 232, 233, 234, 235, 236, 237, 238, 239, 240, 241, 242, 243, 244, 245, 246, 247, 248] (by decide +kernel) (by decide +kernel)
set_option maxRecDepth 20000 in
theorem gX7_tell_X9_startAnew_n25 : GoodIn wsX7_tell (wsX9_startAnew) := ggX7_tell_X9_startAnew
theorem dX7_tell_8 : decode cX7_tell 8 = .ok (.invokevirtual 25, 3) := by decide +kernel
theorem dX7_tell_11 : decode cX7_tell 11 = .ok (.aload_n 0, 1) := by decide +kernel
theorem dX7_tell_12 : decode cX7_tell 12 = .ok (.iconst 0, 1) := by decide +kernel
theorem dX7_tell_13 : decode cX7_tell 13 = .ok (.putfield 30, 3) := by decide +kernel
theorem dX7_tell_16 : decode cX7_tell 16 = .ok (.aload_n 0, 1) := by decide +kernel
set_option maxRecDepth 20000 in
theorem ggX7_tell_X7_sort : GoodIn wsX7_tell wsX7_sort := goodIn_r _ [105, 1, 2, 219, 220, 221, 222, 223, 224, 225, 226, 227] (by decide +kernel) (by decide +kernel)
set_option maxRecDepth 20000 in
theorem gX7_tell_X7_sort : GoodIn wsX7_tell (wsV RX7 34 RX7 yX7_sort wsX7_sort) := goodIn_app (goodIn_of _ (by decide +kernel)) ggX7_tell_X7_sort
theorem dX7_tell_17 : decode cX7_tell 17 = .ok (.invokevirtual 34, 3) := by decide +kernel
theorem dX7_tell_20 : decode cX7_tell 20 = .ok (.iconst 4, 1) := by decide +kernel
theorem dX7_tell_21 : decode cX7_tell 21 = .ok (.if_icmp .eq 8, 3) := by decide +kernel
theorem dX7_tell_24 : decode cX7_tell 24 = .ok (.aload_n 0, 1) := by decide +kernel
set_option maxRecDepth 20000 in
theorem ggX7_tell_X7_fault : GoodIn wsX7_tell wsX7_fault := goodIn_r _ [109, 1, 2, 219, 220, 221, 222, 223, 224, 225, 226, 227] (by decide +kernel) (by decide +kernel)
set_option maxRecDepth 20000 in
theorem gX7_tell_X7_fault : GoodIn wsX7_tell (wsV RX7 38 RX7 yX7_fault wsX7_fault) := goodIn_app (goodIn_of _ (by decide +kernel)) ggX7_tell_X7_fault
theorem dX7_tell_25 : decode cX7_tell 25 = .ok (.invokevirtual 38, 3) := by decide +kernel
theorem dX7_tell_28 : decode cX7_tell 28 = .ok (.ireturn, 1) := by decide +kernel
set_option maxHeartbeats 8000000 in
set_option maxRecDepth 100000 in
theorem c_X7_tell (l : Launch) (G : gG) (h0E : Nat) (h0Ex : Nat) (h0Ei : Nat) (h0Exb : Nat) (h0Exs : Nat) (h0Exg : Nat) (h0Exv : Nat) (h0S : Nat) (h0Sd : Nat) (h0Sk : Nat) (h0Sr : Nat) (h0Sn : Nat) (h0Se : Nat) (h0ST : Nat) (h0SP : Nat) (h0SL : Nat) (h0SN : Nat) (h0SM : Nat) (h0STt : Nat) (h0STa : Nat) (h0STf : Nat) (h0SLc : Nat) (h0SNc : Nat) (h0SMc : Nat) (sz : Nat) : gI G l yX7_tell wsX7_tell ({ frames := 2, cells := 0, slots := 0, locals := 45 } : Room) [.ref h0E, .ref h0S] [(h0E, .inr (6, [.ref h0Ex, .ref h0Ei, .int 0])), (h0Ex, .inr (7, [.ref h0Exb, .ref h0Exs, .ref h0Exg, .ref h0Exv, .int 0, .int 0])), (h0Exs, .inl (G.2 0, 151, .inl (fun _ => 0))), (h0Exg, .inl (G.2 0, 151, .inl (fun _ => 0))), (h0Exv, .inl (G.2 0, 151, .inl (fun _ => 0))), (h0S, .inr (8, [.ref h0Sd, .ref h0Sk, .ref h0Sr, .ref h0Sn, .ref h0Se, .ref h0ST, .ref h0SP, .ref h0SL, .ref h0SN, .ref h0SM, .int 0, .int 0, .int 0])), (h0Sd, .inl (G.2 0, 6, .inl (fun _ => 0))), (h0ST, .inr (3, [.int 0, .ref h0STt, .ref h0STa, .ref h0STf])), (h0SL, .inr (5, [.int 5, .int 5, .ref h0SLc, .int 0])), (h0SN, .inr (5, [.int 5, .int 6, .ref h0SNc, .int 0])), (h0SM, .inr (5, [.int 4, .int 6, .ref h0SMc, .int 0]))] sz (fun (r : Int32) (u : va_W) => (r = (-10) ∧ u = [])) := by
  refine Met.ofW (cc := cX7_tell) (maxL := 4) (ret := (some .int)) (by decide) rfl ?_
  intro p e s m args below meth c s₁ B hml hv
  obtain ⟨rfl, hsz, hP, hK, hD0, hN⟩ := hv
  have hx := B.exec
  have hb := B.bytes
  have hr := B.returns
  have hts := atoms_spec (ws := wsX7_tell) B.pre
  have hown : s.vm.findClass RX7 = some m.cls := findClass_of_methodNamed B.named
  have hlocks := B.notSynchronized
  subst hsz
  have hD := hD0.self (sz := s.heap.size)
  generalize hAe : va_A [(h0E, .inr (6, [.ref h0Ex, .ref h0Ei, .int 0])), (h0Ex, .inr (7, [.ref h0Exb, .ref h0Exs, .ref h0Exg, .ref h0Exv, .int 0, .int 0])), (h0Exs, .inl (G.2 0, 151, .inl (fun _ => 0))), (h0Exg, .inl (G.2 0, 151, .inl (fun _ => 0))), (h0Exv, .inl (G.2 0, 151, .inl (fun _ => 0))), (h0S, .inr (8, [.ref h0Sd, .ref h0Sk, .ref h0Sr, .ref h0Sn, .ref h0Se, .ref h0ST, .ref h0SP, .ref h0SL, .ref h0SN, .ref h0SM, .int 0, .int 0, .int 0])), (h0Sd, .inl (G.2 0, 6, .inl (fun _ => 0))), (h0ST, .inr (3, [.int 0, .ref h0STt, .ref h0STa, .ref h0STf])), (h0SL, .inr (5, [.int 5, .int 5, .ref h0SLc, .int 0])), (h0SN, .inr (5, [.int 5, .int 6, .ref h0SNc, .int 0])), (h0SM, .inr (5, [.int 4, .int 6, .ref h0SMc, .int 0]))] s.heap.size = A at hD ⊢
  have hA : ∀ q : Nat, s.heap.size ≤ q → A q := fun q h => by rw [← hAe]; exact Or.inr h
  have hS : va_S A s.heap s.heap [] := va_S.rf
  have hP : va_P G.1 vwCl [(h0E, .inr (6, [.ref h0Ex, .ref h0Ei, .int 0])), (h0Ex, .inr (7, [.ref h0Exb, .ref h0Exs, .ref h0Exg, .ref h0Exv, .int 0, .int 0])), (h0Exs, .inl (G.2 0, 151, .inl (fun _ => 0))), (h0Exg, .inl (G.2 0, 151, .inl (fun _ => 0))), (h0Exv, .inl (G.2 0, 151, .inl (fun _ => 0))), (h0S, .inr (8, [.ref h0Sd, .ref h0Sk, .ref h0Sr, .ref h0Sn, .ref h0Se, .ref h0ST, .ref h0SP, .ref h0SL, .ref h0SN, .ref h0SM, .int 0, .int 0, .int 0])), (h0Sd, .inl (G.2 0, 6, .inl (fun _ => 0))), (h0ST, .inr (3, [.int 0, .ref h0STt, .ref h0STa, .ref h0STf])), (h0SL, .inr (5, [.int 5, .int 5, .ref h0SLc, .int 0])), (h0SN, .inr (5, [.int 5, .int 6, .ref h0SNc, .int 0])), (h0SM, .inr (5, [.int 4, .int 6, .ref h0SMc, .int 0]))] s.heap := hP
  have hl := lv_entry ([.ref h0E, .ref h0S]) (n := 4) (Nat.le_of_ble_eq_true rfl)
  rw [lg_entry_eq]
  generalize (lg_sl ([.ref h0E, .ref h0S]) ++ List.replicate (4 - (lg_sl ([.ref h0E, .ref h0S])).length) Slot.unset).toArray = ls at hl ⊢
  have hl : lv_has ls 4 [(0, .ref h0E), (1, .ref h0S)] := hl
  refine lv_aload_n hx hb dX7_tell_0 rfl (lv_at hl 0 rfl) ?_
  refine va_get (D := G.1) (ci := 6) (v := .ref h0Ex) (C := RX7) (T := TX7) (N := 3) hx hb hts (fun _ h => List.mem_cons_of_mem _ (List.mem_append_left _ (List.mem_append_left _ (List.mem_append_left _ (List.mem_append_left _ (List.mem_append_right _ h)))))) hown hK hP 0 rfl rfl 0 (by decide) (hts _ (List.mem_of_getElem? (i := 1) rfl)) (fun _ h9 => h9) rfl dX7_tell_1 ?_
  refine g_callv (wr := [(h0E, .inr (6, [.ref h0Ex, .ref h0Ei, .int 0])), (h0S, .inr (8, [.ref h0Sd, .ref h0Sk, .ref h0Sr, .ref h0Sn, .ref h0Se, .ref h0ST, .ref h0SP, .ref h0SL, .ref h0SN, .ref h0SM, .int 0, .int 0, .int 0])), (h0Sd, .inl (G.2 0, 6, .inl (fun _ => 0))), (h0ST, .inr (3, [.int 0, .ref h0STt, .ref h0STa, .ref h0STf])), (h0SL, .inr (5, [.int 5, .int 5, .ref h0SLc, .int 0])), (h0SN, .inr (5, [.int 5, .int 6, .ref h0SNc, .int 0])), (h0SM, .inr (5, [.int 4, .int 6, .ref h0SMc, .int 0]))]) (va_runVN (C := RX8) (As := []) (rest := []) ⟨hx, hb, hml, hown, hts⟩ (c_X8_scan l G (h0Ex) (h0Exb) (h0Exs) (h0Exg) (h0Exv) _) (⟨va_cnB 0 hts gX7_tell_X8_scan_n22 rfl rfl rfl (nw61 hN) (hts _ (List.mem_of_getElem? (i := 4) rfl)) (by decide +kernel) ⟨Nat.le_of_ble_eq_true rfl, Nat.le_of_ble_eq_true rfl⟩, (hts _ (List.mem_of_getElem? (i := 3) rfl)), (hts _ (List.mem_of_getElem? (i := 5) rfl))⟩) (g_preV h0Ex [] hP hD hK hN [1, 2, 3, 4] rfl rfl 1 (ci := 7) rfl rfl) rfl rfl hl.1 rfl (lv_room (Nat.le_of_ble_eq_true rfl)) dX7_tell_4 ⟨Nat.le_of_ble_eq_true rfl, Nat.le_of_ble_eq_true rfl⟩) hP hD hS hA [1, 2, 3, 4] [0, 5, 6, 7, 8, 9, 10] rfl rfl rfl (by decide) (fun u H locs hw hP hD hS => ?_)
  subst hw
  have hP : va_P G.1 vwCl [(h0E, .inr (6, [.ref h0Ex, .ref h0Ei, .int 0])), (h0S, .inr (8, [.ref h0Sd, .ref h0Sk, .ref h0Sr, .ref h0Sn, .ref h0Se, .ref h0ST, .ref h0SP, .ref h0SL, .ref h0SN, .ref h0SM, .int 0, .int 0, .int 0])), (h0Sd, .inl (G.2 0, 6, .inl (fun _ => 0))), (h0ST, .inr (3, [.int 0, .ref h0STt, .ref h0STa, .ref h0STf])), (h0SL, .inr (5, [.int 5, .int 5, .ref h0SLc, .int 0])), (h0SN, .inr (5, [.int 5, .int 6, .ref h0SNc, .int 0])), (h0SM, .inr (5, [.int 4, .int 6, .ref h0SMc, .int 0])), (h0Ex, .inr (7, [.ref h0Exb, .ref h0Exs, .ref h0Exg, .ref h0Exv, .int 0, .int 1])), (h0Exs, .inl (G.2 0, 151, .inl (fun _ => 0))), (h0Exg, .inl (G.2 0, 151, .inl (fun _ => 0))), (h0Exv, .inl (G.2 0, 151, .inl (fun _ => 0)))] H := hP
  have hD : va_D A [(h0E, .inr (6, [.ref h0Ex, .ref h0Ei, .int 0])), (h0S, .inr (8, [.ref h0Sd, .ref h0Sk, .ref h0Sr, .ref h0Sn, .ref h0Se, .ref h0ST, .ref h0SP, .ref h0SL, .ref h0SN, .ref h0SM, .int 0, .int 0, .int 0])), (h0Sd, .inl (G.2 0, 6, .inl (fun _ => 0))), (h0ST, .inr (3, [.int 0, .ref h0STt, .ref h0STa, .ref h0STf])), (h0SL, .inr (5, [.int 5, .int 5, .ref h0SLc, .int 0])), (h0SN, .inr (5, [.int 5, .int 6, .ref h0SNc, .int 0])), (h0SM, .inr (5, [.int 4, .int 6, .ref h0SMc, .int 0])), (h0Ex, .inr (7, [.ref h0Exb, .ref h0Exs, .ref h0Exg, .ref h0Exv, .int 0, .int 1])), (h0Exs, .inl (G.2 0, 151, .inl (fun _ => 0))), (h0Exg, .inl (G.2 0, 151, .inl (fun _ => 0))), (h0Exv, .inl (G.2 0, 151, .inl (fun _ => 0)))] := hD
  refine lv_aload_n hx hb dX7_tell_7 rfl (lv_at hl 1 rfl) ?_
  refine g_callv (wr := [(h0E, .inr (6, [.ref h0Ex, .ref h0Ei, .int 0])), (h0Ex, .inr (7, [.ref h0Exb, .ref h0Exs, .ref h0Exg, .ref h0Exv, .int 0, .int 1])), (h0Exs, .inl (G.2 0, 151, .inl (fun _ => 0))), (h0Exg, .inl (G.2 0, 151, .inl (fun _ => 0))), (h0Exv, .inl (G.2 0, 151, .inl (fun _ => 0)))]) (va_runVN (C := RX9) (As := []) (rest := []) ⟨hx, hb, hml, hown, hts⟩ (c_X9_startAnew l G (h0S) (h0Sd) (h0Sk) (h0Sr) (h0Sn) (h0Se) (h0ST) (h0SP) (h0SL) (h0SN) (h0SM) (h0STt) (h0STa) (h0STf) (h0SLc) (h0SNc) (h0SMc) _) (⟨va_cnB 0 hts gX7_tell_X9_startAnew_n25 rfl rfl rfl (nw62 hN) (hts _ (List.mem_of_getElem? (i := 85) rfl)) (by decide +kernel) ⟨Nat.le_of_ble_eq_true rfl, Nat.le_of_ble_eq_true rfl⟩, (hts _ (List.mem_of_getElem? (i := 84) rfl)), (hts _ (List.mem_of_getElem? (i := 86) rfl))⟩) (g_preV h0S [] hP hD hK hN [1, 2, 3, 4, 5, 6] rfl rfl 1 (ci := 8) rfl rfl) rfl rfl hl.1 rfl (lv_room (Nat.le_of_ble_eq_true rfl)) dX7_tell_8 ⟨Nat.le_of_ble_eq_true rfl, Nat.le_of_ble_eq_true rfl⟩) hP hD hS hA [1, 2, 3, 4, 5, 6] [0, 7, 8, 9, 10] rfl rfl rfl (by decide) (fun u H locs hw hP hD hS => ?_)
  subst hw
  have hP : va_P G.1 vwCl [(h0E, .inr (6, [.ref h0Ex, .ref h0Ei, .int 0])), (h0Ex, .inr (7, [.ref h0Exb, .ref h0Exs, .ref h0Exg, .ref h0Exv, .int 0, .int 1])), (h0Exs, .inl (G.2 0, 151, .inl (fun _ => 0))), (h0Exg, .inl (G.2 0, 151, .inl (fun _ => 0))), (h0Exv, .inl (G.2 0, 151, .inl (fun _ => 0)))] H := hP
  have hD : va_D A [(h0E, .inr (6, [.ref h0Ex, .ref h0Ei, .int 0])), (h0Ex, .inr (7, [.ref h0Exb, .ref h0Exs, .ref h0Exg, .ref h0Exv, .int 0, .int 1])), (h0Exs, .inl (G.2 0, 151, .inl (fun _ => 0))), (h0Exg, .inl (G.2 0, 151, .inl (fun _ => 0))), (h0Exv, .inl (G.2 0, 151, .inl (fun _ => 0)))] := hD
  refine lv_aload_n hx hb dX7_tell_11 rfl (lv_at hl 0 rfl) ?_
  refine lv_iconst (v := 0) hx hb dX7_tell_12 (by decide) ?_
  refine va_put (D := G.1) (ci := 6) (v := .int 0) (ty := .int) (C := RX7) (T := TX7) (N := 3) hx hb hts (fun _ h => List.mem_cons_of_mem _ (List.mem_append_left _ (List.mem_append_left _ (List.mem_append_left _ (List.mem_append_left _ (List.mem_append_right _ h)))))) tyX7 tyX7_ok nmX7 hown hK hP hD hS 0 rfl rfl 2 (by decide) (hts _ (List.mem_of_getElem? (i := 2) rfl)) (fun _ h9 => h9) rfl (by decide +kernel) rfl rfl (Nat.le_of_ble_eq_true rfl) dX7_tell_13 (fun H locs hP hD hS => ?_)
  have hP : va_P G.1 vwCl [(h0E, .inr (6, [.ref h0Ex, .ref h0Ei, .int 0])), (h0Ex, .inr (7, [.ref h0Exb, .ref h0Exs, .ref h0Exg, .ref h0Exv, .int 0, .int 1])), (h0Exs, .inl (G.2 0, 151, .inl (fun _ => 0))), (h0Exg, .inl (G.2 0, 151, .inl (fun _ => 0))), (h0Exv, .inl (G.2 0, 151, .inl (fun _ => 0)))] H := hP
  have hD : va_D A [(h0E, .inr (6, [.ref h0Ex, .ref h0Ei, .int 0])), (h0Ex, .inr (7, [.ref h0Exb, .ref h0Exs, .ref h0Exg, .ref h0Exv, .int 0, .int 1])), (h0Exs, .inl (G.2 0, 151, .inl (fun _ => 0))), (h0Exg, .inl (G.2 0, 151, .inl (fun _ => 0))), (h0Exv, .inl (G.2 0, 151, .inl (fun _ => 0)))] := hD
  refine lv_aload_n hx hb dX7_tell_16 rfl (lv_at hl 0 rfl) ?_
  refine g_calli (wr := [(h0Exg, .inl (G.2 0, 151, .inl (fun _ => 0))), (h0Exv, .inl (G.2 0, 151, .inl (fun _ => 0)))]) (va_runV (As := []) (rest := []) ⟨hx, hb, hml, hown, hts⟩ (c_X7_sort l G (h0E) (h0Ex) (h0Ei) (h0Exb) (h0Exs) (h0Exg) (h0Exv) _) (cwV 0 hts gX7_tell_X7_sort rfl rfl rfl (by decide +kernel) ⟨Nat.le_of_ble_eq_true rfl, Nat.le_of_ble_eq_true rfl⟩) (g_preV h0E [] hP hD hK hN [0, 1, 2] rfl rfl 0 (ci := 6) rfl rfl) rfl rfl hl.1 rfl (lv_room (Nat.le_of_ble_eq_true rfl)) dX7_tell_17 ⟨Nat.le_of_ble_eq_true rfl, Nat.le_of_ble_eq_true rfl⟩) hP hD hS hA [0, 1, 2] [3, 4] rfl rfl rfl (by decide) (fun r_1 u H locs hw hP hD hS => ?_)
  obtain ⟨rfl, rfl⟩ := hw
  have hP : va_P G.1 vwCl [(h0Exg, .inl (G.2 0, 151, .inl (fun _ => 0))), (h0Exv, .inl (G.2 0, 151, .inl (fun _ => 0))), (h0E, .inr (6, [.ref h0Ex, .ref h0Ei, .int 0])), (h0Ex, .inr (7, [.ref h0Exb, .ref h0Exs, .ref h0Exg, .ref h0Exv, .int 0, .int 1])), (h0Exs, .inl (G.2 0, 151, .inl (fun _ => 0)))] H := hP
  have hD : va_D A [(h0Exg, .inl (G.2 0, 151, .inl (fun _ => 0))), (h0Exv, .inl (G.2 0, 151, .inl (fun _ => 0))), (h0E, .inr (6, [.ref h0Ex, .ref h0Ei, .int 0])), (h0Ex, .inr (7, [.ref h0Exb, .ref h0Exs, .ref h0Exg, .ref h0Exv, .int 0, .int 1])), (h0Exs, .inl (G.2 0, 151, .inl (fun _ => 0)))] := hD
  refine lv_iconst (v := 4) hx hb dX7_tell_20 (by decide) ?_
  refine lv_icmp_eq (tgt := 29) hx hb dX7_tell_21 (by decide) (fun c_2 => g_no c_2 (by decide)) (fun _ => ?_)
  refine lv_aload_n hx hb dX7_tell_24 rfl (lv_at hl 0 rfl) ?_
  refine g_calli (wr := [(h0Exv, .inl (G.2 0, 151, .inl (fun _ => 0))), (h0Exs, .inl (G.2 0, 151, .inl (fun _ => 0)))]) (va_runV (As := []) (rest := []) ⟨hx, hb, hml, hown, hts⟩ (c_X7_fault l G (h0E) (h0Ex) (h0Ei) (h0Exb) (h0Exs) (h0Exg) (h0Exv) _) (cwV 0 hts gX7_tell_X7_fault rfl rfl rfl (by decide +kernel) ⟨Nat.le_of_ble_eq_true rfl, Nat.le_of_ble_eq_true rfl⟩) (g_preV h0E [] hP hD hK hN [2, 3, 0] rfl rfl 2 (ci := 6) rfl rfl) rfl rfl hl.1 rfl (lv_room (Nat.le_of_ble_eq_true rfl)) dX7_tell_25 ⟨Nat.le_of_ble_eq_true rfl, Nat.le_of_ble_eq_true rfl⟩) hP hD hS hA [2, 3, 0] [1, 4] rfl rfl rfl (by decide) (fun r_3 u H locs hw hP hD hS => ?_)
  obtain ⟨rfl, rfl⟩ := hw
  have hP : va_P G.1 vwCl [(h0Exv, .inl (G.2 0, 151, .inl (fun _ => 0))), (h0Exs, .inl (G.2 0, 151, .inl (fun _ => 0)))] H := hP
  have hD : va_D A [(h0Exv, .inl (G.2 0, 151, .inl (fun _ => 0))), (h0Exs, .inl (G.2 0, 151, .inl (fun _ => 0)))] := hD
  have hP := hP.sub (ws' := []) [] rfl
  have hD := hD.sub (ws' := []) [] rfl rfl
  exact g_iret (v := (-10)) hx hb hr hlocks hP hD hS (⟨rfl, rfl⟩) dX7_tell_28
theorem dX0_keepIfMore_0 : decode cX0_keepIfMore 0 = .ok (.iload_n 1, 1) := by decide +kernel
theorem dX0_keepIfMore_1 : decode cX0_keepIfMore 1 = .ok (.aload_n 0, 1) := by decide +kernel
theorem dX0_keepIfMore_2 : decode cX0_keepIfMore 2 = .ok (.getfield 38, 3) := by decide +kernel
theorem dX0_keepIfMore_5 : decode cX0_keepIfMore 5 = .ok (.if_icmp .le 22, 3) := by decide +kernel
theorem dX0_keepIfMore_8 : decode cX0_keepIfMore 8 = .ok (.aload_n 0, 1) := by decide +kernel
theorem dX0_keepIfMore_9 : decode cX0_keepIfMore 9 = .ok (.iload_n 1, 1) := by decide +kernel
theorem dX0_keepIfMore_10 : decode cX0_keepIfMore 10 = .ok (.putfield 38, 3) := by decide +kernel
theorem dX0_keepIfMore_13 : decode cX0_keepIfMore 13 = .ok (.aload_n 0, 1) := by decide +kernel
theorem dX0_keepIfMore_14 : decode cX0_keepIfMore 14 = .ok (.getfield 15, 3) := by decide +kernel
theorem dX0_keepIfMore_17 : decode cX0_keepIfMore 17 = .ok (.iconst 0, 1) := by decide +kernel
theorem dX0_keepIfMore_18 : decode cX0_keepIfMore 18 = .ok (.aload_n 0, 1) := by decide +kernel
theorem dX0_keepIfMore_19 : decode cX0_keepIfMore 19 = .ok (.getfield 18, 3) := by decide +kernel
theorem dX0_keepIfMore_22 : decode cX0_keepIfMore 22 = .ok (.iconst 0, 1) := by decide +kernel
theorem dX0_keepIfMore_23 : decode cX0_keepIfMore 23 = .ok (.iconst 4, 1) := by decide +kernel
theorem dX0_keepIfMore_24 : decode cX0_keepIfMore 24 = .ok (.invokestatic 32, 3) := by decide +kernel
theorem dX0_keepIfMore_27 : decode cX0_keepIfMore 27 = .ok (.return_, 1) := by decide +kernel
set_option maxHeartbeats 8000000 in
set_option maxRecDepth 100000 in
theorem c_X0_keepIfMore (l : Launch) (G : gG) (h0B : Nat) (h0Bo : Nat) (h0Bw : Nat) (h0Bb : Nat) (sz : Nat) : gV G l yX0_keepIfMore wsX0_keepIfMore ({ frames := 1, cells := 0, slots := 0, locals := 24 } : Room) [.ref h0B, .int 0] [(h0B, .inr (0, [.ref h0Bo, .ref h0Bw, .ref h0Bb, .int (-1)])), (h0Bw, .inl (G.2 0, 4, .inl (fun _ => 0))), (h0Bb, .inl (G.2 0, 4, .inl (fun _ => 0)))] sz (fun (u : va_W) => (u = [(h0B, .inr (0, [.ref h0Bo, .ref h0Bw, .ref h0Bb, .int 0]))])) := by
  refine Met.ofW (cc := cX0_keepIfMore) (maxL := 2) (ret := none) (by decide) rfl ?_
  intro p e s m args below meth c s₁ B hml hv
  obtain ⟨rfl, hsz, hP, hK, hD0, hN⟩ := hv
  have hx := B.exec
  have hb := B.bytes
  have hr := B.returns
  have hts := atoms_spec (ws := wsX0_keepIfMore) B.pre
  have hown : s.vm.findClass RX0 = some m.cls := findClass_of_methodNamed B.named
  have hlocks := B.notSynchronized
  subst hsz
  have hD := hD0.self (sz := s.heap.size)
  generalize hAe : va_A [(h0B, .inr (0, [.ref h0Bo, .ref h0Bw, .ref h0Bb, .int (-1)])), (h0Bw, .inl (G.2 0, 4, .inl (fun _ => 0))), (h0Bb, .inl (G.2 0, 4, .inl (fun _ => 0)))] s.heap.size = A at hD ⊢
  have hA : ∀ q : Nat, s.heap.size ≤ q → A q := fun q h => by rw [← hAe]; exact Or.inr h
  have hS : va_S A s.heap s.heap [] := va_S.rf
  have hP : va_P G.1 vwCl [(h0B, .inr (0, [.ref h0Bo, .ref h0Bw, .ref h0Bb, .int (-1)])), (h0Bw, .inl (G.2 0, 4, .inl (fun _ => 0))), (h0Bb, .inl (G.2 0, 4, .inl (fun _ => 0)))] s.heap := hP
  have hl := lv_entry ([.ref h0B, .int 0]) (n := 2) (Nat.le_of_ble_eq_true rfl)
  rw [lg_entry_eq]
  generalize (lg_sl ([.ref h0B, .int 0]) ++ List.replicate (2 - (lg_sl ([.ref h0B, .int 0])).length) Slot.unset).toArray = ls at hl ⊢
  have hl : lv_has ls 2 [(0, .ref h0B), (1, .int 0)] := hl
  refine lv_iload_n hx hb dX0_keepIfMore_0 rfl (lv_at hl 1 rfl) ?_
  refine lv_aload_n hx hb dX0_keepIfMore_1 rfl (lv_at hl 0 rfl) ?_
  refine va_get (D := G.1) (ci := 0) (v := .int (-1)) (C := RX0) (T := TX0) (N := 4) hx hb hts (fun _ h => List.mem_cons_of_mem _ (List.mem_append_right _ h)) hown hK hP 0 rfl rfl 3 (by decide) (hts _ (List.mem_of_getElem? (i := 1) rfl)) (fun _ h9 => h9) rfl dX0_keepIfMore_2 ?_
  refine lv_icmp_le (tgt := 27) hx hb dX0_keepIfMore_5 (by decide) (fun c_1 => g_no c_1 (by decide)) (fun _ => ?_)
  refine lv_aload_n hx hb dX0_keepIfMore_8 rfl (lv_at hl 0 rfl) ?_
  refine lv_iload_n hx hb dX0_keepIfMore_9 rfl (lv_at hl 1 rfl) ?_
  refine va_put (D := G.1) (ci := 0) (v := .int 0) (ty := .int) (C := RX0) (T := TX0) (N := 4) hx hb hts (fun _ h => List.mem_cons_of_mem _ (List.mem_append_right _ h)) tyX0 tyX0_ok nmX0 hown hK hP hD hS 0 rfl rfl 3 (by decide) (hts _ (List.mem_of_getElem? (i := 1) rfl)) (fun _ h9 => h9) rfl (by decide +kernel) rfl rfl (Nat.le_of_ble_eq_true rfl) dX0_keepIfMore_10 (fun H locs hP hD hS => ?_)
  have hP : va_P G.1 vwCl [(h0B, .inr (0, [.ref h0Bo, .ref h0Bw, .ref h0Bb, .int 0])), (h0Bw, .inl (G.2 0, 4, .inl (fun _ => 0))), (h0Bb, .inl (G.2 0, 4, .inl (fun _ => 0)))] H := hP
  have hD : va_D A [(h0B, .inr (0, [.ref h0Bo, .ref h0Bw, .ref h0Bb, .int 0])), (h0Bw, .inl (G.2 0, 4, .inl (fun _ => 0))), (h0Bb, .inl (G.2 0, 4, .inl (fun _ => 0)))] := hD
  refine lv_aload_n hx hb dX0_keepIfMore_13 rfl (lv_at hl 0 rfl) ?_
  refine va_get (D := G.1) (ci := 0) (v := .ref h0Bw) (C := RX0) (T := TX0) (N := 4) hx hb hts (fun _ h => List.mem_cons_of_mem _ (List.mem_append_right _ h)) hown hK hP 0 rfl rfl 1 (by decide) (hts _ (List.mem_of_getElem? (i := 2) rfl)) (fun _ h9 => h9) rfl dX0_keepIfMore_14 ?_
  refine lv_iconst (v := 0) hx hb dX0_keepIfMore_17 (by decide) ?_
  refine lv_aload_n hx hb dX0_keepIfMore_18 rfl (lv_at hl 0 rfl) ?_
  refine va_get (D := G.1) (ci := 0) (v := .ref h0Bb) (C := RX0) (T := TX0) (N := 4) hx hb hts (fun _ h => List.mem_cons_of_mem _ (List.mem_append_right _ h)) hown hK hP 0 rfl rfl 2 (by decide) (hts _ (List.mem_of_getElem? (i := 3) rfl)) (fun _ h9 => h9) rfl dX0_keepIfMore_19 ?_
  refine lv_iconst (v := 0) hx hb dX0_keepIfMore_22 (by decide) ?_
  refine lv_iconst (v := 4) hx hb dX0_keepIfMore_23 (by decide) ?_
  refine va_copyi (rest := []) hx hb (hml.trans hl.1.symm) hown (hts _ (List.mem_of_getElem? (i := 4) rfl)) (hts _ (List.mem_of_getElem? (i := 5) rfl)) (hts _ (List.mem_of_getElem? (i := 6) rfl)) (hts _ (List.mem_of_getElem? (i := 7) rfl)) hK hP hD hS 1 2 0 0 rfl rfl rfl rfl rfl (by decide) (by decide) (by decide) (by decide) (by decide) (fun _ _ => rfl) (Nat.le_of_ble_eq_true rfl) (Nat.le_of_ble_eq_true rfl) dX0_keepIfMore_24 (fun H locs hP hD hS => ?_)
  rw [cpy_zz] at hP hD
  have hP : va_P G.1 vwCl [(h0B, .inr (0, [.ref h0Bo, .ref h0Bw, .ref h0Bb, .int 0])), (h0Bw, .inl (G.2 0, 4, .inl (fun _ => 0))), (h0Bb, .inl (G.2 0, 4, .inl (fun _ => 0)))] H := hP
  have hD : va_D A [(h0B, .inr (0, [.ref h0Bo, .ref h0Bw, .ref h0Bb, .int 0])), (h0Bw, .inl (G.2 0, 4, .inl (fun _ => 0))), (h0Bb, .inl (G.2 0, 4, .inl (fun _ => 0)))] := hD
  have hP := hP.sub (ws' := [(h0B, .inr (0, [.ref h0Bo, .ref h0Bw, .ref h0Bb, .int 0]))]) [0] rfl
  have hD := hD.sub (ws' := [(h0B, .inr (0, [.ref h0Bo, .ref h0Bw, .ref h0Bb, .int 0]))]) [0] rfl rfl
  exact g_vret hx hb hr hlocks hP hD hS (rfl) dX0_keepIfMore_27
theorem dX0_seat_0 : decode cX0_seat 0 = .ok (.iload_n 2, 1) := by decide +kernel
theorem dX0_seat_1 : decode cX0_seat 1 = .ok (.aload_n 1, 1) := by decide +kernel
theorem dX0_seat_2 : decode cX0_seat 2 = .ok (.getfield 46, 3) := by decide +kernel
theorem dX0_seat_5 : decode cX0_seat 5 = .ok (.if_icmp .ge 8, 3) := by decide +kernel
theorem dX0_seat_13 : decode cX0_seat 13 = .ok (.aload_n 0, 1) := by decide +kernel
theorem dX0_seat_14 : decode cX0_seat 14 = .ok (.iload_n 3, 1) := by decide +kernel
set_option maxRecDepth 20000 in
theorem ggX0_seat_X0_keepIfMore : GoodIn wsX0_seat wsX0_keepIfMore := goodIn_r _ [7, 8, 1, 9, 10, 11, 12, 13, 58, 59, 60, 61] (by decide +kernel) (by decide +kernel)
set_option maxRecDepth 20000 in
theorem gX0_seat_X0_keepIfMore : GoodIn wsX0_seat (wsV RX0 49 RX0 yX0_keepIfMore wsX0_keepIfMore) := goodIn_app (goodIn_of _ (by decide +kernel)) ggX0_seat_X0_keepIfMore
theorem dX0_seat_15 : decode cX0_seat 15 = .ok (.invokevirtual 49, 3) := by decide +kernel
theorem dX0_seat_18 : decode cX0_seat 18 = .ok (.return_, 1) := by decide +kernel
set_option maxHeartbeats 8000000 in
set_option maxRecDepth 100000 in
theorem c_X0_seat (l : Launch) (G : gG) (h0B : Nat) (h0Bo : Nat) (h0Bw : Nat) (h0Bb : Nat) (h0H : Nat) (h0Hd : Nat) (h0Hk : Nat) (h0Hr : Nat) (h0Hn : Nat) (h0He : Nat) (h0HT : Nat) (h0HP : Nat) (h0HL : Nat) (h0HN : Nat) (h0HM : Nat) (sz : Nat) : gV G l yX0_seat wsX0_seat ({ frames := 2, cells := 0, slots := 0, locals := 45 } : Room) [.ref h0B, .ref h0H, .int 0, .int 0] [(h0B, .inr (0, [.ref h0Bo, .ref h0Bw, .ref h0Bb, .int (-1)])), (h0Bw, .inl (G.2 0, 4, .inl (fun _ => 0))), (h0Bb, .inl (G.2 0, 4, .inl (fun _ => 0))), (h0H, .inr (8, [.ref h0Hd, .ref h0Hk, .ref h0Hr, .ref h0Hn, .ref h0He, .ref h0HT, .ref h0HP, .ref h0HL, .ref h0HN, .ref h0HM, .int 0, .int 0, .int 0]))] sz (fun (u : va_W) => (u = [(h0B, .inr (0, [.ref h0Bo, .ref h0Bw, .ref h0Bb, .int 0]))])) := by
  refine Met.ofW (cc := cX0_seat) (maxL := 6) (ret := none) (by decide) rfl ?_
  intro p e s m args below meth c s₁ B hml hv
  obtain ⟨rfl, hsz, hP, hK, hD0, hN⟩ := hv
  have hx := B.exec
  have hb := B.bytes
  have hr := B.returns
  have hts := atoms_spec (ws := wsX0_seat) B.pre
  have hown : s.vm.findClass RX0 = some m.cls := findClass_of_methodNamed B.named
  have hlocks := B.notSynchronized
  subst hsz
  have hD := hD0.self (sz := s.heap.size)
  generalize hAe : va_A [(h0B, .inr (0, [.ref h0Bo, .ref h0Bw, .ref h0Bb, .int (-1)])), (h0Bw, .inl (G.2 0, 4, .inl (fun _ => 0))), (h0Bb, .inl (G.2 0, 4, .inl (fun _ => 0))), (h0H, .inr (8, [.ref h0Hd, .ref h0Hk, .ref h0Hr, .ref h0Hn, .ref h0He, .ref h0HT, .ref h0HP, .ref h0HL, .ref h0HN, .ref h0HM, .int 0, .int 0, .int 0]))] s.heap.size = A at hD ⊢
  have hA : ∀ q : Nat, s.heap.size ≤ q → A q := fun q h => by rw [← hAe]; exact Or.inr h
  have hS : va_S A s.heap s.heap [] := va_S.rf
  have hP : va_P G.1 vwCl [(h0B, .inr (0, [.ref h0Bo, .ref h0Bw, .ref h0Bb, .int (-1)])), (h0Bw, .inl (G.2 0, 4, .inl (fun _ => 0))), (h0Bb, .inl (G.2 0, 4, .inl (fun _ => 0))), (h0H, .inr (8, [.ref h0Hd, .ref h0Hk, .ref h0Hr, .ref h0Hn, .ref h0He, .ref h0HT, .ref h0HP, .ref h0HL, .ref h0HN, .ref h0HM, .int 0, .int 0, .int 0]))] s.heap := hP
  have hl := lv_entry ([.ref h0B, .ref h0H, .int 0, .int 0]) (n := 6) (Nat.le_of_ble_eq_true rfl)
  rw [lg_entry_eq]
  generalize (lg_sl ([.ref h0B, .ref h0H, .int 0, .int 0]) ++ List.replicate (6 - (lg_sl ([.ref h0B, .ref h0H, .int 0, .int 0])).length) Slot.unset).toArray = ls at hl ⊢
  have hl : lv_has ls 6 [(0, .ref h0B), (1, .ref h0H), (2, .int 0), (3, .int 0)] := hl
  refine lv_iload_n hx hb dX0_seat_0 rfl (lv_at hl 2 rfl) ?_
  refine lv_aload_n hx hb dX0_seat_1 rfl (lv_at hl 1 rfl) ?_
  refine va_getN (D := G.1) (ci := 8) (v := .int 0) (C := RX9) (T := TX9) (N := 13) hx hb hts (fun _ h => List.mem_cons_of_mem _ (List.mem_append_left _ (List.mem_append_left _ (List.mem_append_right _ h)))) hown hK hP 3 rfl rfl 11 (by decide) (va_Nw.use rfl (nw34 hN)) (fun _ h9 => h9) rfl dX0_seat_2 ?_
  refine lv_icmp_ge (tgt := 13) hx hb dX0_seat_5 (by decide) (fun _ => ?_) (fun c_1 => g_no (by decide) c_1)
  refine lv_aload_n hx hb dX0_seat_13 rfl (lv_at hl 0 rfl) ?_
  refine lv_iload_n hx hb dX0_seat_14 rfl (lv_at hl 3 rfl) ?_
  refine g_callv (wr := [(h0H, .inr (8, [.ref h0Hd, .ref h0Hk, .ref h0Hr, .ref h0Hn, .ref h0He, .ref h0HT, .ref h0HP, .ref h0HL, .ref h0HN, .ref h0HM, .int 0, .int 0, .int 0]))]) (va_runV (As := [.int 0]) (rest := []) ⟨hx, hb, hml, hown, hts⟩ (c_X0_keepIfMore l G (h0B) (h0Bo) (h0Bw) (h0Bb) _) (cwV 1 hts gX0_seat_X0_keepIfMore rfl rfl rfl (by decide +kernel) ⟨Nat.le_of_ble_eq_true rfl, Nat.le_of_ble_eq_true rfl⟩) (g_preV h0B [.int 0] hP hD hK hN [0, 1, 2] rfl rfl 0 (ci := 0) rfl rfl) rfl rfl hl.1 rfl (lv_room (Nat.le_of_ble_eq_true rfl)) dX0_seat_15 ⟨Nat.le_of_ble_eq_true rfl, Nat.le_of_ble_eq_true rfl⟩) hP hD hS hA [0, 1, 2] [3] rfl rfl rfl (by decide) (fun u H locs hw hP hD hS => ?_)
  subst hw
  have hP : va_P G.1 vwCl [(h0H, .inr (8, [.ref h0Hd, .ref h0Hk, .ref h0Hr, .ref h0Hn, .ref h0He, .ref h0HT, .ref h0HP, .ref h0HL, .ref h0HN, .ref h0HM, .int 0, .int 0, .int 0])), (h0B, .inr (0, [.ref h0Bo, .ref h0Bw, .ref h0Bb, .int 0]))] H := hP
  have hD : va_D A [(h0H, .inr (8, [.ref h0Hd, .ref h0Hk, .ref h0Hr, .ref h0Hn, .ref h0He, .ref h0HT, .ref h0HP, .ref h0HL, .ref h0HN, .ref h0HM, .int 0, .int 0, .int 0])), (h0B, .inr (0, [.ref h0Bo, .ref h0Bw, .ref h0Bb, .int 0]))] := hD
  have hP := hP.sub (ws' := [(h0B, .inr (0, [.ref h0Bo, .ref h0Bw, .ref h0Bb, .int 0]))]) [1] rfl
  have hD := hD.sub (ws' := [(h0B, .inr (0, [.ref h0Bo, .ref h0Bw, .ref h0Bb, .int 0]))]) [1] rfl rfl
  exact g_vret hx hb hr hlocks hP hD hS (rfl) dX0_seat_18
theorem dX0_lay_0 : decode cX0_lay 0 = .ok (.aload_n 1, 1) := by decide +kernel
theorem dX0_lay_1 : decode cX0_lay 1 = .ok (.getfield 21, 3) := by decide +kernel
theorem dX0_lay_4 : decode cX0_lay 4 = .ok (.getfield 27, 3) := by decide +kernel
theorem dX0_lay_7 : decode cX0_lay 7 = .ok (.iconst 0, 1) := by decide +kernel
theorem dX0_lay_8 : decode cX0_lay 8 = .ok (.aload_n 0, 1) := by decide +kernel
theorem dX0_lay_9 : decode cX0_lay 9 = .ok (.getfield 9, 3) := by decide +kernel
theorem dX0_lay_12 : decode cX0_lay 12 = .ok (.iconst 0, 1) := by decide +kernel
theorem dX0_lay_13 : decode cX0_lay 13 = .ok (.bipush 7, 2) := by decide +kernel
theorem dX0_lay_15 : decode cX0_lay 15 = .ok (.invokestatic 32, 3) := by decide +kernel
theorem dX0_lay_18 : decode cX0_lay 18 = .ok (.aload_n 0, 1) := by decide +kernel
theorem dX0_lay_19 : decode cX0_lay 19 = .ok (.iconst (-1), 1) := by decide +kernel
theorem dX0_lay_20 : decode cX0_lay 20 = .ok (.putfield 38, 3) := by decide +kernel
theorem dX0_lay_23 : decode cX0_lay 23 = .ok (.aload_n 0, 1) := by decide +kernel
theorem dX0_lay_24 : decode cX0_lay 24 = .ok (.aload_n 1, 1) := by decide +kernel
theorem dX0_lay_25 : decode cX0_lay 25 = .ok (.iconst 0, 1) := by decide +kernel
theorem dX0_lay_26 : decode cX0_lay 26 = .ok (.iconst 0, 1) := by decide +kernel
set_option maxRecDepth 20000 in
theorem ggX0_lay_X0_seat : GoodIn wsX0_lay wsX0_seat := goodIn_r _ [10, 11, 1, 12, 13, 14, 9, 15, 6, 16, 2, 3, 4, 5, 7, 8, 17, 18, 19, 20, 21, 22, 23, 24, 25, 26, 27, 28, 29, 30, 31, 32, 33, 34, 35, 36, 37, 38, 39, 40, 41, 42, 43, 44, 45, 46, 47, 48, 49, 50, 51, 52, 53, 54, 55, 56, 57, 58, 63, 64, 65, 66, 59, 60, 61, 62] (by decide +kernel) (by decide +kernel)
set_option maxRecDepth 20000 in
theorem gX0_lay_X0_seat : GoodIn wsX0_lay (va_wsS RX0 42 yX0_seat wsX0_seat) := goodIn_app (goodIn_of _ (by decide +kernel)) ggX0_lay_X0_seat
theorem dX0_lay_27 : decode cX0_lay 27 = .ok (.invokestatic 42, 3) := by decide +kernel
theorem dX0_lay_30 : decode cX0_lay 30 = .ok (.return_, 1) := by decide +kernel
set_option maxHeartbeats 8000000 in
set_option maxRecDepth 100000 in
theorem c_X0_lay (l : Launch) (G : gG) (h0B : Nat) (h0Bo : Nat) (h0Bw : Nat) (h0Bb : Nat) (h0H : Nat) (h0Hd : Nat) (h0Hk : Nat) (h0Hr : Nat) (h0Hn : Nat) (h0He : Nat) (h0HT : Nat) (h0HP : Nat) (h0HL : Nat) (h0HN : Nat) (h0HM : Nat) (h0HTt : Nat) (h0HTa : Nat) (h0HTf : Nat) (sz : Nat) : gV G l yX0_lay wsX0_lay ({ frames := 3, cells := 0, slots := 0, locals := 70 } : Room) [.ref h0B, .ref h0H] [(h0B, .inr (0, [.ref h0Bo, .ref h0Bw, .ref h0Bb, .int 0])), (h0Bo, .inl (G.2 0, 7, .inl (fun _ => 0))), (h0Bw, .inl (G.2 0, 4, .inl (fun _ => 0))), (h0Bb, .inl (G.2 0, 4, .inl (fun _ => 0))), (h0H, .inr (8, [.ref h0Hd, .ref h0Hk, .ref h0Hr, .ref h0Hn, .ref h0He, .ref h0HT, .ref h0HP, .ref h0HL, .ref h0HN, .ref h0HM, .int 0, .int 0, .int 0])), (h0HT, .inr (3, [.int 0, .ref h0HTt, .ref h0HTa, .ref h0HTf])), (h0HTt, .inl (G.2 0, 7, .inl (fun _ => 0)))] sz (fun (u : va_W) => (u = [(h0B, .inr (0, [.ref h0Bo, .ref h0Bw, .ref h0Bb, .int 0]))])) := by
  refine Met.ofW (cc := cX0_lay) (maxL := 2) (ret := none) (by decide) rfl ?_
  intro p e s m args below meth c s₁ B hml hv
  obtain ⟨rfl, hsz, hP, hK, hD0, hN⟩ := hv
  have hx := B.exec
  have hb := B.bytes
  have hr := B.returns
  have hts := atoms_spec (ws := wsX0_lay) B.pre
  have hown : s.vm.findClass RX0 = some m.cls := findClass_of_methodNamed B.named
  have hlocks := B.notSynchronized
  subst hsz
  have hD := hD0.self (sz := s.heap.size)
  generalize hAe : va_A [(h0B, .inr (0, [.ref h0Bo, .ref h0Bw, .ref h0Bb, .int 0])), (h0Bo, .inl (G.2 0, 7, .inl (fun _ => 0))), (h0Bw, .inl (G.2 0, 4, .inl (fun _ => 0))), (h0Bb, .inl (G.2 0, 4, .inl (fun _ => 0))), (h0H, .inr (8, [.ref h0Hd, .ref h0Hk, .ref h0Hr, .ref h0Hn, .ref h0He, .ref h0HT, .ref h0HP, .ref h0HL, .ref h0HN, .ref h0HM, .int 0, .int 0, .int 0])), (h0HT, .inr (3, [.int 0, .ref h0HTt, .ref h0HTa, .ref h0HTf])), (h0HTt, .inl (G.2 0, 7, .inl (fun _ => 0)))] s.heap.size = A at hD ⊢
  have hA : ∀ q : Nat, s.heap.size ≤ q → A q := fun q h => by rw [← hAe]; exact Or.inr h
  have hS : va_S A s.heap s.heap [] := va_S.rf
  have hP : va_P G.1 vwCl [(h0B, .inr (0, [.ref h0Bo, .ref h0Bw, .ref h0Bb, .int 0])), (h0Bo, .inl (G.2 0, 7, .inl (fun _ => 0))), (h0Bw, .inl (G.2 0, 4, .inl (fun _ => 0))), (h0Bb, .inl (G.2 0, 4, .inl (fun _ => 0))), (h0H, .inr (8, [.ref h0Hd, .ref h0Hk, .ref h0Hr, .ref h0Hn, .ref h0He, .ref h0HT, .ref h0HP, .ref h0HL, .ref h0HN, .ref h0HM, .int 0, .int 0, .int 0])), (h0HT, .inr (3, [.int 0, .ref h0HTt, .ref h0HTa, .ref h0HTf])), (h0HTt, .inl (G.2 0, 7, .inl (fun _ => 0)))] s.heap := hP
  have hl := lv_entry ([.ref h0B, .ref h0H]) (n := 2) (Nat.le_of_ble_eq_true rfl)
  rw [lg_entry_eq]
  generalize (lg_sl ([.ref h0B, .ref h0H]) ++ List.replicate (2 - (lg_sl ([.ref h0B, .ref h0H])).length) Slot.unset).toArray = ls at hl ⊢
  have hl : lv_has ls 2 [(0, .ref h0B), (1, .ref h0H)] := hl
  refine lv_aload_n hx hb dX0_lay_0 rfl (lv_at hl 1 rfl) ?_
  refine va_getN (D := G.1) (ci := 8) (v := .ref h0HT) (C := RX9) (T := TX9) (N := 13) hx hb hts (fun _ h => List.mem_cons_of_mem _ (List.mem_append_left _ (List.mem_append_left _ (List.mem_append_right _ h)))) hown hK hP 4 rfl rfl 5 (by decide) (va_Nw.use rfl (nw19 hN)) (fun _ h9 => h9) rfl dX0_lay_1 ?_
  refine va_getN (D := G.1) (ci := 3) (v := .ref h0HTt) (C := RX4) (T := TX4) (N := 4) hx hb hts (fun _ h => List.mem_cons_of_mem _ (List.mem_append_left _ (List.mem_append_right _ h))) hown hK hP 5 rfl rfl 1 (by decide) (va_Nw.use rfl (nw4 hN)) (fun _ h9 => h9) rfl dX0_lay_4 ?_
  refine lv_iconst (v := 0) hx hb dX0_lay_7 (by decide) ?_
  refine lv_aload_n hx hb dX0_lay_8 rfl (lv_at hl 0 rfl) ?_
  refine va_get (D := G.1) (ci := 0) (v := .ref h0Bo) (C := RX0) (T := TX0) (N := 4) hx hb hts (fun _ h => List.mem_cons_of_mem _ (List.mem_append_right _ h)) hown hK hP 0 rfl rfl 0 (by decide) (hts _ (List.mem_of_getElem? (i := 1) rfl)) (fun _ h9 => h9) rfl dX0_lay_9 ?_
  refine lv_iconst (v := 0) hx hb dX0_lay_12 (by decide) ?_
  refine lv_bipush (v := 7) hx hb dX0_lay_13 (by decide) ?_
  refine va_copyi (rest := []) hx hb (hml.trans hl.1.symm) hown (hts _ (List.mem_of_getElem? (i := 2) rfl)) (hts _ (List.mem_of_getElem? (i := 3) rfl)) (hts _ (List.mem_of_getElem? (i := 4) rfl)) (hts _ (List.mem_of_getElem? (i := 5) rfl)) hK hP hD hS 6 1 0 0 rfl rfl rfl rfl rfl (by decide) (by decide) (by decide) (by decide) (by decide) (fun _ _ => rfl) (Nat.le_of_ble_eq_true rfl) (Nat.le_of_ble_eq_true rfl) dX0_lay_15 (fun H locs hP hD hS => ?_)
  rw [cpy_zz] at hP hD
  have hP : va_P G.1 vwCl [(h0B, .inr (0, [.ref h0Bo, .ref h0Bw, .ref h0Bb, .int 0])), (h0Bo, .inl (G.2 0, 7, .inl (fun _ => 0))), (h0Bw, .inl (G.2 0, 4, .inl (fun _ => 0))), (h0Bb, .inl (G.2 0, 4, .inl (fun _ => 0))), (h0H, .inr (8, [.ref h0Hd, .ref h0Hk, .ref h0Hr, .ref h0Hn, .ref h0He, .ref h0HT, .ref h0HP, .ref h0HL, .ref h0HN, .ref h0HM, .int 0, .int 0, .int 0])), (h0HT, .inr (3, [.int 0, .ref h0HTt, .ref h0HTa, .ref h0HTf])), (h0HTt, .inl (G.2 0, 7, .inl (fun _ => 0)))] H := hP
  have hD : va_D A [(h0B, .inr (0, [.ref h0Bo, .ref h0Bw, .ref h0Bb, .int 0])), (h0Bo, .inl (G.2 0, 7, .inl (fun _ => 0))), (h0Bw, .inl (G.2 0, 4, .inl (fun _ => 0))), (h0Bb, .inl (G.2 0, 4, .inl (fun _ => 0))), (h0H, .inr (8, [.ref h0Hd, .ref h0Hk, .ref h0Hr, .ref h0Hn, .ref h0He, .ref h0HT, .ref h0HP, .ref h0HL, .ref h0HN, .ref h0HM, .int 0, .int 0, .int 0])), (h0HT, .inr (3, [.int 0, .ref h0HTt, .ref h0HTa, .ref h0HTf])), (h0HTt, .inl (G.2 0, 7, .inl (fun _ => 0)))] := hD
  refine lv_aload_n hx hb dX0_lay_18 rfl (lv_at hl 0 rfl) ?_
  refine lv_iconst (v := (-1)) hx hb dX0_lay_19 (by decide) ?_
  refine va_put (D := G.1) (ci := 0) (v := .int (-1)) (ty := .int) (C := RX0) (T := TX0) (N := 4) hx hb hts (fun _ h => List.mem_cons_of_mem _ (List.mem_append_right _ h)) tyX0 tyX0_ok nmX0 hown hK hP hD hS 0 rfl rfl 3 (by decide) (hts _ (List.mem_of_getElem? (i := 6) rfl)) (fun _ h9 => h9) rfl (by decide +kernel) rfl rfl (Nat.le_of_ble_eq_true rfl) dX0_lay_20 (fun H locs hP hD hS => ?_)
  have hP : va_P G.1 vwCl [(h0B, .inr (0, [.ref h0Bo, .ref h0Bw, .ref h0Bb, .int (-1)])), (h0Bo, .inl (G.2 0, 7, .inl (fun _ => 0))), (h0Bw, .inl (G.2 0, 4, .inl (fun _ => 0))), (h0Bb, .inl (G.2 0, 4, .inl (fun _ => 0))), (h0H, .inr (8, [.ref h0Hd, .ref h0Hk, .ref h0Hr, .ref h0Hn, .ref h0He, .ref h0HT, .ref h0HP, .ref h0HL, .ref h0HN, .ref h0HM, .int 0, .int 0, .int 0])), (h0HT, .inr (3, [.int 0, .ref h0HTt, .ref h0HTa, .ref h0HTf])), (h0HTt, .inl (G.2 0, 7, .inl (fun _ => 0)))] H := hP
  have hD : va_D A [(h0B, .inr (0, [.ref h0Bo, .ref h0Bw, .ref h0Bb, .int (-1)])), (h0Bo, .inl (G.2 0, 7, .inl (fun _ => 0))), (h0Bw, .inl (G.2 0, 4, .inl (fun _ => 0))), (h0Bb, .inl (G.2 0, 4, .inl (fun _ => 0))), (h0H, .inr (8, [.ref h0Hd, .ref h0Hk, .ref h0Hr, .ref h0Hn, .ref h0He, .ref h0HT, .ref h0HP, .ref h0HL, .ref h0HN, .ref h0HM, .int 0, .int 0, .int 0])), (h0HT, .inr (3, [.int 0, .ref h0HTt, .ref h0HTa, .ref h0HTf])), (h0HTt, .inl (G.2 0, 7, .inl (fun _ => 0)))] := hD
  refine lv_aload_n hx hb dX0_lay_23 rfl (lv_at hl 0 rfl) ?_
  refine lv_aload_n hx hb dX0_lay_24 rfl (lv_at hl 1 rfl) ?_
  refine lv_iconst (v := 0) hx hb dX0_lay_25 (by decide) ?_
  refine lv_iconst (v := 0) hx hb dX0_lay_26 (by decide) ?_
  refine g_callv (wr := [(h0Bo, .inl (G.2 0, 7, .inl (fun _ => 0))), (h0HT, .inr (3, [.int 0, .ref h0HTt, .ref h0HTa, .ref h0HTf])), (h0HTt, .inl (G.2 0, 7, .inl (fun _ => 0)))]) (va_runS (As := [.ref h0B, .ref h0H, .int 0, .int 0]) (rest := []) ⟨hx, hb, hml, hown, hts⟩ (c_X0_seat l G (h0B) (h0Bo) (h0Bw) (h0Bb) (h0H) (h0Hd) (h0Hk) (h0Hr) (h0Hn) (h0He) (h0HT) (h0HP) (h0HL) (h0HN) (h0HM) _) (va_cwS 4 hts gX0_lay_X0_seat rfl rfl rfl (by decide +kernel) ⟨Nat.le_of_ble_eq_true rfl, Nat.le_of_ble_eq_true rfl⟩) (g_preS [.ref h0B, .ref h0H, .int 0, .int 0] hP hD hK hN [0, 2, 3, 4] rfl rfl) rfl rfl hl.1 rfl (lv_room (Nat.le_of_ble_eq_true rfl)) dX0_lay_27 ⟨Nat.le_of_ble_eq_true rfl, Nat.le_of_ble_eq_true rfl⟩) hP hD hS hA [0, 2, 3, 4] [1, 5, 6] rfl rfl rfl (by decide) (fun u H locs hw hP hD hS => ?_)
  subst hw
  have hP : va_P G.1 vwCl [(h0Bo, .inl (G.2 0, 7, .inl (fun _ => 0))), (h0HT, .inr (3, [.int 0, .ref h0HTt, .ref h0HTa, .ref h0HTf])), (h0HTt, .inl (G.2 0, 7, .inl (fun _ => 0))), (h0B, .inr (0, [.ref h0Bo, .ref h0Bw, .ref h0Bb, .int 0]))] H := hP
  have hD : va_D A [(h0Bo, .inl (G.2 0, 7, .inl (fun _ => 0))), (h0HT, .inr (3, [.int 0, .ref h0HTt, .ref h0HTa, .ref h0HTf])), (h0HTt, .inl (G.2 0, 7, .inl (fun _ => 0))), (h0B, .inr (0, [.ref h0Bo, .ref h0Bw, .ref h0Bb, .int 0]))] := hD
  have hP := hP.sub (ws' := [(h0B, .inr (0, [.ref h0Bo, .ref h0Bw, .ref h0Bb, .int 0]))]) [3] rfl
  have hD := hD.sub (ws' := [(h0B, .inr (0, [.ref h0Bo, .ref h0Bw, .ref h0Bb, .int 0]))]) [3] rfl rfl
  exact g_vret hx hb hr hlocks hP hD hS (rfl) dX0_lay_30
theorem dX10_commonDivisor_0 : decode cX10_commonDivisor 0 = .ok (.lload_n 2, 1) := by decide +kernel
theorem dX10_commonDivisor_1 : decode cX10_commonDivisor 1 = .ok (.lstore 4, 2) := by decide +kernel
theorem dX10_commonDivisor_3 : decode cX10_commonDivisor 3 = .ok (.lload_n 0, 1) := by decide +kernel
theorem dX10_commonDivisor_4 : decode cX10_commonDivisor 4 = .ok (.lstore 6, 2) := by decide +kernel
theorem dX10_commonDivisor_6 : decode cX10_commonDivisor 6 = .ok (.iconst 0, 1) := by decide +kernel
theorem dX10_commonDivisor_7 : decode cX10_commonDivisor 7 = .ok (.istore 8, 2) := by decide +kernel
theorem dX10_commonDivisor_9 : decode cX10_commonDivisor 9 = .ok (.iload 8, 2) := by decide +kernel
theorem dX10_commonDivisor_11 : decode cX10_commonDivisor 11 = .ok (.bipush 100, 2) := by decide +kernel
theorem dX10_commonDivisor_13 : decode cX10_commonDivisor 13 = .ok (.if_icmp .ge 31, 3) := by decide +kernel
theorem dX10_commonDivisor_16 : decode cX10_commonDivisor 16 = .ok (.lload 6, 2) := by decide +kernel
theorem dX10_commonDivisor_18 : decode cX10_commonDivisor 18 = .ok (.lconst 0, 1) := by decide +kernel
theorem dX10_commonDivisor_19 : decode cX10_commonDivisor 19 = .ok (.lcmp, 1) := by decide +kernel
theorem dX10_commonDivisor_20 : decode cX10_commonDivisor 20 = .ok (.ifCond .le 24, 3) := by decide +kernel
theorem dX10_commonDivisor_44 : decode cX10_commonDivisor 44 = .ok (.lconst 1, 1) := by decide +kernel
theorem dX10_commonDivisor_45 : decode cX10_commonDivisor 45 = .ok (.lload 4, 2) := by decide +kernel
theorem dX10_commonDivisor_47 : decode cX10_commonDivisor 47 = .ok (.invokestatic 309, 3) := by decide +kernel
theorem dX10_commonDivisor_50 : decode cX10_commonDivisor 50 = .ok (.lreturn, 1) := by decide +kernel
set_option maxHeartbeats 8000000 in
set_option maxRecDepth 100000 in
theorem c_X10_commonDivisor (l : Launch) (G : gG)  (sz : Nat) : gL G l yX10_commonDivisor wsX10_commonDivisor ({ frames := 1, cells := 0, slots := 0, locals := 15 } : Room) [.long 0, .long 10] [] sz (fun (r : Int64) (u : va_W) => (r = 10 ∧ u = [])) := by
  refine Met.ofW (cc := cX10_commonDivisor) (maxL := 11) (ret := (some .long)) (by decide) rfl ?_
  intro p e s m args below meth c s₁ B hml hv
  obtain ⟨rfl, hsz, hP, hK, hD0, hN⟩ := hv
  have hx := B.exec
  have hb := B.bytes
  have hr := B.returns
  have hts := atoms_spec (ws := wsX10_commonDivisor) B.pre
  have hown : s.vm.findClass RX10 = some m.cls := findClass_of_methodNamed B.named
  have hlocks := B.notSynchronized
  subst hsz
  have hD := hD0.self (sz := s.heap.size)
  generalize hAe : va_A [] s.heap.size = A at hD ⊢
  have hA : ∀ q : Nat, s.heap.size ≤ q → A q := fun q h => by rw [← hAe]; exact Or.inr h
  have hS : va_S A s.heap s.heap [] := va_S.rf
  have hP : va_P G.1 vwCl [] s.heap := hP
  have hl := lv_entry ([.long 0, .long 10]) (n := 11) (Nat.le_of_ble_eq_true rfl)
  rw [lg_entry_eq]
  generalize (lg_sl ([.long 0, .long 10]) ++ List.replicate (11 - (lg_sl ([.long 0, .long 10])).length) Slot.unset).toArray = ls at hl ⊢
  have hl : lv_has ls 11 [(0, .long 0), (2, .long 10)] := hl
  refine lv_lload_n hx hb dX10_commonDivisor_0 rfl (lv_at hl 1 rfl) ?_
  refine lv_lstore (lv' := [(4, .long 10), (0, .long 0), (2, .long 10)]) hx hb dX10_commonDivisor_1 hl (by decide) rfl (fun ls hl => ?_)
  refine lv_lload_n hx hb dX10_commonDivisor_3 rfl (lv_at hl 1 rfl) ?_
  refine lv_lstore (lv' := [(6, .long 0), (4, .long 10), (0, .long 0), (2, .long 10)]) hx hb dX10_commonDivisor_4 hl (by decide) rfl (fun ls hl => ?_)
  refine lv_iconst (v := 0) hx hb dX10_commonDivisor_6 (by decide) ?_
  refine lv_istore (lv' := [(8, .int 0), (6, .long 0), (4, .long 10), (0, .long 0), (2, .long 10)]) hx hb dX10_commonDivisor_7 hl (by decide) rfl (fun ls hl => ?_)
  refine lv_iload hx hb dX10_commonDivisor_9 (lv_at hl 0 rfl) ?_
  refine lv_bipush (v := 100) hx hb dX10_commonDivisor_11 (by decide) ?_
  refine lv_icmp_ge (tgt := 44) hx hb dX10_commonDivisor_13 (by decide) (fun c_1 => g_no c_1 (by decide)) (fun _ => ?_)
  refine lv_lload hx hb dX10_commonDivisor_16 (lv_at hl 1 rfl) ?_
  refine lv_lconst (v := 0) hx hb dX10_commonDivisor_18 (by decide) ?_
  refine W.lcmp hx hb dX10_commonDivisor_19 ?_
  refine g_topi (y := 0) (by decide) ?_
  refine lv_if_le (tgt := 44) hx hb dX10_commonDivisor_20 (by decide) (fun _ => ?_) (fun c_2 => g_no (by decide) c_2)
  refine lv_lconst (v := 1) hx hb dX10_commonDivisor_44 (by decide) ?_
  refine lv_lload hx hb dX10_commonDivisor_45 (lv_at hl 2 rfl) ?_
  refine va_mmax_long (rest := []) hx hb (hml.trans hl.1.symm) hown (hts _ (List.mem_of_getElem? (i := 1) rfl)) (hts _ (List.mem_of_getElem? (i := 2) rfl)) (hts _ (List.mem_of_getElem? (i := 3) rfl)) (hts _ (List.mem_of_getElem? (i := 4) rfl)) (Nat.le_of_ble_eq_true rfl) (Nat.le_of_ble_eq_true rfl) (Nat.le_of_ble_eq_true rfl) (Nat.le_of_ble_eq_true rfl) dX10_commonDivisor_47 ?_
  refine g_topl (y := 10) (by decide) ?_
  exact g_lret (v := 10) hx hb hr hlocks hP hD hS (⟨rfl, rfl⟩) dX10_commonDivisor_50
theorem dX10_valley_0 : decode cX10_valley 0 = .ok (.aload_n 0, 1) := by decide +kernel
theorem dX10_valley_1 : decode cX10_valley 1 = .ok (.getfield 10, 3) := by decide +kernel
theorem dX10_valley_4 : decode cX10_valley 4 = .ok (.getfield 81, 3) := by decide +kernel
theorem dX10_valley_7 : decode cX10_valley 7 = .ok (.istore_n 1, 1) := by decide +kernel
theorem dX10_valley_8 : decode cX10_valley 8 = .ok (.aload_n 0, 1) := by decide +kernel
theorem dX10_valley_9 : decode cX10_valley 9 = .ok (.getfield 10, 3) := by decide +kernel
set_option maxRecDepth 20000 in
theorem ggX10_valley_X9_startAnew : GoodIn wsX10_valley wsX9_startAnew := goodIn_r _ [5, 6, 7, 8, 9, 10, 11, 12, 13, 14, 15, 16, 17, 18, 35, 36, 37, 38, 39, 40, 41, 42, 43, 44, 45, 46, 47, 48, 49, 50, 51, 52, 53, 54, 55] (by decide +kernel) (by decide +kernel)
set_option maxRecDepth 20000 in
theorem gX10_valley_X9_startAnew_n85 : GoodIn wsX10_valley (wsX9_startAnew) := ggX10_valley_X9_startAnew
theorem dX10_valley_12 : decode cX10_valley 12 = .ok (.invokevirtual 85, 3) := by decide +kernel
theorem dX10_valley_15 : decode cX10_valley 15 = .ok (.iload_n 1, 1) := by decide +kernel
theorem dX10_valley_16 : decode cX10_valley 16 = .ok (.ireturn, 1) := by decide +kernel
set_option maxHeartbeats 8000000 in
set_option maxRecDepth 100000 in
theorem c_X10_valley (l : Launch) (G : gG) (h0 : Nat) (h0H : Nat) (h0S : Nat) (h0I : Nat) (h0K : Nat) (h0Ex : Nat) (h0E : Nat) (h0D : Nat) (h0F : Nat) (h0B : Nat) (h0R : Nat) (h0G : Nat) (h0Hd : Nat) (h0Hk : Nat) (h0Hr : Nat) (h0Hn : Nat) (h0He : Nat) (h0HT : Nat) (h0HP : Nat) (h0HL : Nat) (h0HN : Nat) (h0HM : Nat) (h0HTt : Nat) (h0HTa : Nat) (h0HTf : Nat) (h0HLc : Nat) (h0HNc : Nat) (h0HMc : Nat) (sz : Nat) : gI G l yX10_valley wsX10_valley ({ frames := 2, cells := 0, slots := 0, locals := 42 } : Room) [.ref h0] [(h0, .inr (9, [.ref h0H, .ref h0S, .ref h0I, .ref h0K, .ref h0Ex, .ref h0E, .ref h0D, .ref h0F, .ref h0B, .ref h0R, .ref h0G, .long 0, .long 1, .int 0, .int 0, .int 0])), (h0H, .inr (8, [.ref h0Hd, .ref h0Hk, .ref h0Hr, .ref h0Hn, .ref h0He, .ref h0HT, .ref h0HP, .ref h0HL, .ref h0HN, .ref h0HM, .int 0, .int 0, .int 0])), (h0Hd, .inl (G.2 0, 6, .inl (fun _ => 0))), (h0HT, .inr (3, [.int 0, .ref h0HTt, .ref h0HTa, .ref h0HTf])), (h0HL, .inr (5, [.int 5, .int 5, .ref h0HLc, .int 0])), (h0HN, .inr (5, [.int 5, .int 6, .ref h0HNc, .int 0])), (h0HM, .inr (5, [.int 4, .int 6, .ref h0HMc, .int 0]))] sz (fun (r : Int32) (u : va_W) => (r = 0 ∧ u = [])) := by
  refine Met.ofW (cc := cX10_valley) (maxL := 2) (ret := (some .int)) (by decide) rfl ?_
  intro p e s m args below meth c s₁ B hml hv
  obtain ⟨rfl, hsz, hP, hK, hD0, hN⟩ := hv
  have hx := B.exec
  have hb := B.bytes
  have hr := B.returns
  have hts := atoms_spec (ws := wsX10_valley) B.pre
  have hown : s.vm.findClass RX10 = some m.cls := findClass_of_methodNamed B.named
  have hlocks := B.notSynchronized
  subst hsz
  have hD := hD0.self (sz := s.heap.size)
  generalize hAe : va_A [(h0, .inr (9, [.ref h0H, .ref h0S, .ref h0I, .ref h0K, .ref h0Ex, .ref h0E, .ref h0D, .ref h0F, .ref h0B, .ref h0R, .ref h0G, .long 0, .long 1, .int 0, .int 0, .int 0])), (h0H, .inr (8, [.ref h0Hd, .ref h0Hk, .ref h0Hr, .ref h0Hn, .ref h0He, .ref h0HT, .ref h0HP, .ref h0HL, .ref h0HN, .ref h0HM, .int 0, .int 0, .int 0])), (h0Hd, .inl (G.2 0, 6, .inl (fun _ => 0))), (h0HT, .inr (3, [.int 0, .ref h0HTt, .ref h0HTa, .ref h0HTf])), (h0HL, .inr (5, [.int 5, .int 5, .ref h0HLc, .int 0])), (h0HN, .inr (5, [.int 5, .int 6, .ref h0HNc, .int 0])), (h0HM, .inr (5, [.int 4, .int 6, .ref h0HMc, .int 0]))] s.heap.size = A at hD ⊢
  have hA : ∀ q : Nat, s.heap.size ≤ q → A q := fun q h => by rw [← hAe]; exact Or.inr h
  have hS : va_S A s.heap s.heap [] := va_S.rf
  have hP : va_P G.1 vwCl [(h0, .inr (9, [.ref h0H, .ref h0S, .ref h0I, .ref h0K, .ref h0Ex, .ref h0E, .ref h0D, .ref h0F, .ref h0B, .ref h0R, .ref h0G, .long 0, .long 1, .int 0, .int 0, .int 0])), (h0H, .inr (8, [.ref h0Hd, .ref h0Hk, .ref h0Hr, .ref h0Hn, .ref h0He, .ref h0HT, .ref h0HP, .ref h0HL, .ref h0HN, .ref h0HM, .int 0, .int 0, .int 0])), (h0Hd, .inl (G.2 0, 6, .inl (fun _ => 0))), (h0HT, .inr (3, [.int 0, .ref h0HTt, .ref h0HTa, .ref h0HTf])), (h0HL, .inr (5, [.int 5, .int 5, .ref h0HLc, .int 0])), (h0HN, .inr (5, [.int 5, .int 6, .ref h0HNc, .int 0])), (h0HM, .inr (5, [.int 4, .int 6, .ref h0HMc, .int 0]))] s.heap := hP
  have hl := lv_entry ([.ref h0]) (n := 2) (Nat.le_of_ble_eq_true rfl)
  rw [lg_entry_eq]
  generalize (lg_sl ([.ref h0]) ++ List.replicate (2 - (lg_sl ([.ref h0])).length) Slot.unset).toArray = ls at hl ⊢
  have hl : lv_has ls 2 [(0, .ref h0)] := hl
  refine lv_aload_n hx hb dX10_valley_0 rfl (lv_at hl 0 rfl) ?_
  refine va_get (D := G.1) (ci := 9) (v := .ref h0H) (C := RX10) (T := TX10) (N := 16) hx hb hts (fun _ h => List.mem_cons_of_mem _ (List.mem_append_left _ (List.mem_append_left _ (List.mem_append_left _ (List.mem_append_right _ h))))) hown hK hP 0 rfl rfl 0 (by decide) (hts _ (List.mem_of_getElem? (i := 1) rfl)) (fun _ h9 => h9) rfl dX10_valley_1 ?_
  refine va_getN (D := G.1) (ci := 8) (v := .int 0) (C := RX9) (T := TX9) (N := 13) hx hb hts (fun _ h => List.mem_cons_of_mem _ (List.mem_append_left _ (List.mem_append_left _ (List.mem_append_right _ h)))) hown hK hP 1 rfl rfl 10 (by decide) (va_Nw.use rfl (nw30 hN)) (fun _ h9 => h9) rfl dX10_valley_4 ?_
  refine lv_istore_n (lv' := [(1, .int 0), (0, .ref h0)]) hx hb dX10_valley_7 rfl hl (by decide) rfl (fun ls hl => ?_)
  refine lv_aload_n hx hb dX10_valley_8 rfl (lv_at hl 1 rfl) ?_
  refine va_get (D := G.1) (ci := 9) (v := .ref h0H) (C := RX10) (T := TX10) (N := 16) hx hb hts (fun _ h => List.mem_cons_of_mem _ (List.mem_append_left _ (List.mem_append_left _ (List.mem_append_left _ (List.mem_append_right _ h))))) hown hK hP 0 rfl rfl 0 (by decide) (hts _ (List.mem_of_getElem? (i := 1) rfl)) (fun _ h9 => h9) rfl dX10_valley_9 ?_
  refine g_callv (wr := [(h0, .inr (9, [.ref h0H, .ref h0S, .ref h0I, .ref h0K, .ref h0Ex, .ref h0E, .ref h0D, .ref h0F, .ref h0B, .ref h0R, .ref h0G, .long 0, .long 1, .int 0, .int 0, .int 0]))]) (va_runVN (C := RX9) (As := []) (rest := []) ⟨hx, hb, hml, hown, hts⟩ (c_X9_startAnew l G (h0H) (h0Hd) (h0Hk) (h0Hr) (h0Hn) (h0He) (h0HT) (h0HP) (h0HL) (h0HN) (h0HM) (h0HTt) (h0HTa) (h0HTf) (h0HLc) (h0HNc) (h0HMc) _) (⟨va_cnB 0 hts gX10_valley_X9_startAnew_n85 rfl rfl rfl (nw55 hN) (hts _ (List.mem_of_getElem? (i := 3) rfl)) (by decide +kernel) ⟨Nat.le_of_ble_eq_true rfl, Nat.le_of_ble_eq_true rfl⟩, (hts _ (List.mem_of_getElem? (i := 2) rfl)), (hts _ (List.mem_of_getElem? (i := 4) rfl))⟩) (g_preV h0H [] hP hD hK hN [1, 2, 3, 4, 5, 6] rfl rfl 1 (ci := 8) rfl rfl) rfl rfl hl.1 rfl (lv_room (Nat.le_of_ble_eq_true rfl)) dX10_valley_12 ⟨Nat.le_of_ble_eq_true rfl, Nat.le_of_ble_eq_true rfl⟩) hP hD hS hA [1, 2, 3, 4, 5, 6] [0] rfl rfl rfl (by decide) (fun u H locs hw hP hD hS => ?_)
  subst hw
  have hP : va_P G.1 vwCl [(h0, .inr (9, [.ref h0H, .ref h0S, .ref h0I, .ref h0K, .ref h0Ex, .ref h0E, .ref h0D, .ref h0F, .ref h0B, .ref h0R, .ref h0G, .long 0, .long 1, .int 0, .int 0, .int 0]))] H := hP
  have hD : va_D A [(h0, .inr (9, [.ref h0H, .ref h0S, .ref h0I, .ref h0K, .ref h0Ex, .ref h0E, .ref h0D, .ref h0F, .ref h0B, .ref h0R, .ref h0G, .long 0, .long 1, .int 0, .int 0, .int 0]))] := hD
  refine lv_iload_n hx hb dX10_valley_15 rfl (lv_at hl 0 rfl) ?_
  have hP := hP.sub (ws' := []) [] rfl
  have hD := hD.sub (ws' := []) [] rfl rfl
  exact g_iret (v := 0) hx hb hr hlocks hP hD hS (⟨rfl, rfl⟩) dX10_valley_16
theorem dX10_damp_0 : decode cX10_damp 0 = .ok (.iload_n 1, 1) := by decide +kernel
theorem dX10_damp_1 : decode cX10_damp 1 = .ok (.iconst 0, 1) := by decide +kernel
theorem dX10_damp_2 : decode cX10_damp 2 = .ok (.iconst 5, 1) := by decide +kernel
set_option maxRecDepth 20000 in
theorem ggX10_damp_X10_within : GoodIn wsX10_damp wsX10_within := goodIn_r _ [5] (by decide +kernel) (by decide +kernel)
set_option maxRecDepth 20000 in
theorem gX10_damp_X10_within : GoodIn wsX10_damp (va_wsS RX10 88 yX10_within wsX10_within) := goodIn_app (goodIn_of _ (by decide +kernel)) ggX10_damp_X10_within
theorem dX10_damp_3 : decode cX10_damp 3 = .ok (.invokestatic 88, 3) := by decide +kernel
theorem dX10_damp_6 : decode cX10_damp 6 = .ok (.ifCond .eq 12, 3) := by decide +kernel
theorem dX10_damp_9 : decode cX10_damp 9 = .ok (.iload_n 2, 1) := by decide +kernel
theorem dX10_damp_10 : decode cX10_damp 10 = .ok (.iconst 0, 1) := by decide +kernel
theorem dX10_damp_11 : decode cX10_damp 11 = .ok (.iconst 4, 1) := by decide +kernel
theorem dX10_damp_12 : decode cX10_damp 12 = .ok (.invokestatic 88, 3) := by decide +kernel
theorem dX10_damp_15 : decode cX10_damp 15 = .ok (.ifCond .ne 8, 3) := by decide +kernel
theorem dX10_damp_23 : decode cX10_damp 23 = .ok (.aload_n 0, 1) := by decide +kernel
theorem dX10_damp_24 : decode cX10_damp 24 = .ok (.getfield 10, 3) := by decide +kernel
theorem dX10_damp_27 : decode cX10_damp 27 = .ok (.getfield 96, 3) := by decide +kernel
theorem dX10_damp_30 : decode cX10_damp 30 = .ok (.iload_n 1, 1) := by decide +kernel
theorem dX10_damp_31 : decode cX10_damp 31 = .ok (.iaload, 1) := by decide +kernel
theorem dX10_damp_32 : decode cX10_damp 32 = .ok (.istore_n 3, 1) := by decide +kernel
theorem dX10_damp_33 : decode cX10_damp 33 = .ok (.aload_n 0, 1) := by decide +kernel
theorem dX10_damp_34 : decode cX10_damp 34 = .ok (.getfield 10, 3) := by decide +kernel
theorem dX10_damp_37 : decode cX10_damp 37 = .ok (.getfield 96, 3) := by decide +kernel
theorem dX10_damp_40 : decode cX10_damp 40 = .ok (.iload_n 1, 1) := by decide +kernel
theorem dX10_damp_41 : decode cX10_damp 41 = .ok (.iload_n 2, 1) := by decide +kernel
theorem dX10_damp_42 : decode cX10_damp 42 = .ok (.iastore, 1) := by decide +kernel
theorem dX10_damp_43 : decode cX10_damp 43 = .ok (.aload_n 0, 1) := by decide +kernel
theorem dX10_damp_44 : decode cX10_damp 44 = .ok (.getfield 10, 3) := by decide +kernel
theorem dX10_damp_47 : decode cX10_damp 47 = .ok (.iconst 0, 1) := by decide +kernel
theorem dX10_damp_48 : decode cX10_damp 48 = .ok (.putfield 100, 3) := by decide +kernel
theorem dX10_damp_51 : decode cX10_damp 51 = .ok (.iload_n 3, 1) := by decide +kernel
theorem dX10_damp_52 : decode cX10_damp 52 = .ok (.ireturn, 1) := by decide +kernel
theorem dX10_damp_18 : decode cX10_damp 18 = .ok (.aload_n 0, 1) := by decide +kernel
set_option maxRecDepth 20000 in
theorem ggX10_damp_X10_refuseBad : GoodIn wsX10_damp wsX10_refuseBad := goodIn_r _ [9, 10, 11, 12, 13, 14, 15, 16, 17, 18, 19, 20, 21, 22, 23, 24, 25, 26] (by decide +kernel) (by decide +kernel)
set_option maxRecDepth 20000 in
theorem gX10_damp_X10_refuseBad : GoodIn wsX10_damp (wsV RX10 92 RX10 yX10_refuseBad wsX10_refuseBad) := goodIn_app (goodIn_of _ (by decide +kernel)) ggX10_damp_X10_refuseBad
theorem dX10_damp_19 : decode cX10_damp 19 = .ok (.invokevirtual 92, 3) := by decide +kernel
theorem dX10_damp_22 : decode cX10_damp 22 = .ok (.ireturn, 1) := by decide +kernel
set_option maxHeartbeats 8000000 in
set_option maxRecDepth 100000 in
theorem c_X10_damp (l : Launch) (G : gG) (h0 : Nat) (h0H : Nat) (h0S : Nat) (h0I : Nat) (h0K : Nat) (h0Ex : Nat) (h0E : Nat) (h0D : Nat) (h0F : Nat) (h0B : Nat) (h0R : Nat) (h0G : Nat) (h0Hd : Nat) (h0Hk : Nat) (h0Hr : Nat) (h0Hn : Nat) (h0He : Nat) (h0HT : Nat) (h0HP : Nat) (h0HL : Nat) (h0HN : Nat) (h0HM : Nat) (a1 : Int32) (a2 : Int32) (sz : Nat) : gI G l yX10_damp wsX10_damp ({ frames := 1, cells := 0, slots := 0, locals := 22 } : Room) [.ref h0, .int a1, .int a2] [(h0, .inr (9, [.ref h0H, .ref h0S, .ref h0I, .ref h0K, .ref h0Ex, .ref h0E, .ref h0D, .ref h0F, .ref h0B, .ref h0R, .ref h0G, .long 0, .long 1, .int 0, .int 0, .int 0])), (h0H, .inr (8, [.ref h0Hd, .ref h0Hk, .ref h0Hr, .ref h0Hn, .ref h0He, .ref h0HT, .ref h0HP, .ref h0HL, .ref h0HN, .ref h0HM, .int 0, .int 0, .int 0])), (h0Hd, .inl (G.2 0, 6, .inl (fun _ => 0)))] sz (fun (r : Int32) (u : va_W) => (r = (F_damp a1 a2) ∧ u = [])) := by
  refine Met.ofW (cc := cX10_damp) (maxL := 4) (ret := (some .int)) (by decide) rfl ?_
  intro p e s m args below meth c s₁ B hml hv
  obtain ⟨rfl, hsz, hP, hK, hD0, hN⟩ := hv
  have hx := B.exec
  have hb := B.bytes
  have hr := B.returns
  have hts := atoms_spec (ws := wsX10_damp) B.pre
  have hown : s.vm.findClass RX10 = some m.cls := findClass_of_methodNamed B.named
  have hlocks := B.notSynchronized
  subst hsz
  have hD := hD0.self (sz := s.heap.size)
  generalize hAe : va_A [(h0, .inr (9, [.ref h0H, .ref h0S, .ref h0I, .ref h0K, .ref h0Ex, .ref h0E, .ref h0D, .ref h0F, .ref h0B, .ref h0R, .ref h0G, .long 0, .long 1, .int 0, .int 0, .int 0])), (h0H, .inr (8, [.ref h0Hd, .ref h0Hk, .ref h0Hr, .ref h0Hn, .ref h0He, .ref h0HT, .ref h0HP, .ref h0HL, .ref h0HN, .ref h0HM, .int 0, .int 0, .int 0])), (h0Hd, .inl (G.2 0, 6, .inl (fun _ => 0)))] s.heap.size = A at hD ⊢
  have hA : ∀ q : Nat, s.heap.size ≤ q → A q := fun q h => by rw [← hAe]; exact Or.inr h
  have hS : va_S A s.heap s.heap [] := va_S.rf
  have hP : va_P G.1 vwCl [(h0, .inr (9, [.ref h0H, .ref h0S, .ref h0I, .ref h0K, .ref h0Ex, .ref h0E, .ref h0D, .ref h0F, .ref h0B, .ref h0R, .ref h0G, .long 0, .long 1, .int 0, .int 0, .int 0])), (h0H, .inr (8, [.ref h0Hd, .ref h0Hk, .ref h0Hr, .ref h0Hn, .ref h0He, .ref h0HT, .ref h0HP, .ref h0HL, .ref h0HN, .ref h0HM, .int 0, .int 0, .int 0])), (h0Hd, .inl (G.2 0, 6, .inl (fun _ => 0)))] s.heap := hP
  have hl := lv_entry ([.ref h0, .int a1, .int a2]) (n := 4) (Nat.le_of_ble_eq_true rfl)
  rw [lg_entry_eq]
  generalize (lg_sl ([.ref h0, .int a1, .int a2]) ++ List.replicate (4 - (lg_sl ([.ref h0, .int a1, .int a2])).length) Slot.unset).toArray = ls at hl ⊢
  have hl : lv_has ls 4 [(0, .ref h0), (1, .int a1), (2, .int a2)] := hl
  refine lv_iload_n hx hb dX10_damp_0 rfl (lv_at hl 1 rfl) ?_
  refine lv_iconst (v := 0) hx hb dX10_damp_1 (by decide) ?_
  refine lv_iconst (v := 5) hx hb dX10_damp_2 (by decide) ?_
  refine g_calli (wr := [(h0, .inr (9, [.ref h0H, .ref h0S, .ref h0I, .ref h0K, .ref h0Ex, .ref h0E, .ref h0D, .ref h0F, .ref h0B, .ref h0R, .ref h0G, .long 0, .long 1, .int 0, .int 0, .int 0])), (h0H, .inr (8, [.ref h0Hd, .ref h0Hk, .ref h0Hr, .ref h0Hn, .ref h0He, .ref h0HT, .ref h0HP, .ref h0HL, .ref h0HN, .ref h0HM, .int 0, .int 0, .int 0])), (h0Hd, .inl (G.2 0, 6, .inl (fun _ => 0)))]) (va_runS (As := [.int a1, .int 0, .int 5]) (rest := []) ⟨hx, hb, hml, hown, hts⟩ (c_X10_within l G (a1) (0) (5) _) (va_cwS 3 hts gX10_damp_X10_within rfl rfl rfl (by decide +kernel) ⟨Nat.le_of_ble_eq_true rfl, Nat.le_of_ble_eq_true rfl⟩) (g_preS [.int a1, .int 0, .int 5] hP hD hK hN [] rfl rfl) rfl rfl hl.1 rfl (lv_room (Nat.le_of_ble_eq_true rfl)) dX10_damp_3 ⟨Nat.le_of_ble_eq_true rfl, Nat.le_of_ble_eq_true rfl⟩) hP hD hS hA [] [0, 1, 2] rfl rfl rfl (by decide) (fun r_1 u H locs hw hP hD hS => ?_)
  rcases hw with ⟨k_2, rfl, rfl⟩ | ⟨k_3, rfl, rfl⟩
  · have hP : va_P G.1 vwCl [(h0, .inr (9, [.ref h0H, .ref h0S, .ref h0I, .ref h0K, .ref h0Ex, .ref h0E, .ref h0D, .ref h0F, .ref h0B, .ref h0R, .ref h0G, .long 0, .long 1, .int 0, .int 0, .int 0])), (h0H, .inr (8, [.ref h0Hd, .ref h0Hk, .ref h0Hr, .ref h0Hn, .ref h0He, .ref h0HT, .ref h0HP, .ref h0HL, .ref h0HN, .ref h0HM, .int 0, .int 0, .int 0])), (h0Hd, .inl (G.2 0, 6, .inl (fun _ => 0)))] H := hP
    have hD : va_D A [(h0, .inr (9, [.ref h0H, .ref h0S, .ref h0I, .ref h0K, .ref h0Ex, .ref h0E, .ref h0D, .ref h0F, .ref h0B, .ref h0R, .ref h0G, .long 0, .long 1, .int 0, .int 0, .int 0])), (h0H, .inr (8, [.ref h0Hd, .ref h0Hk, .ref h0Hr, .ref h0Hn, .ref h0He, .ref h0HT, .ref h0HP, .ref h0HL, .ref h0HN, .ref h0HM, .int 0, .int 0, .int 0])), (h0Hd, .inl (G.2 0, 6, .inl (fun _ => 0)))] := hD
    refine lv_if_eq (tgt := 18) hx hb dX10_damp_6 (by decide) (fun c_4 => g_no c_4 (by decide)) (fun _ => ?_)
    refine lv_iload_n hx hb dX10_damp_9 rfl (lv_at hl 2 rfl) ?_
    refine lv_iconst (v := 0) hx hb dX10_damp_10 (by decide) ?_
    refine lv_iconst (v := 4) hx hb dX10_damp_11 (by decide) ?_
    refine g_calli (wr := [(h0, .inr (9, [.ref h0H, .ref h0S, .ref h0I, .ref h0K, .ref h0Ex, .ref h0E, .ref h0D, .ref h0F, .ref h0B, .ref h0R, .ref h0G, .long 0, .long 1, .int 0, .int 0, .int 0])), (h0H, .inr (8, [.ref h0Hd, .ref h0Hk, .ref h0Hr, .ref h0Hn, .ref h0He, .ref h0HT, .ref h0HP, .ref h0HL, .ref h0HN, .ref h0HM, .int 0, .int 0, .int 0])), (h0Hd, .inl (G.2 0, 6, .inl (fun _ => 0)))]) (va_runS (As := [.int a2, .int 0, .int 4]) (rest := []) ⟨hx, hb, hml, hown, hts⟩ (c_X10_within l G (a2) (0) (4) _) (va_cwS 3 hts gX10_damp_X10_within rfl rfl rfl (by decide +kernel) ⟨Nat.le_of_ble_eq_true rfl, Nat.le_of_ble_eq_true rfl⟩) (g_preS [.int a2, .int 0, .int 4] hP hD hK hN [] rfl rfl) rfl rfl hl.1 rfl (lv_room (Nat.le_of_ble_eq_true rfl)) dX10_damp_12 ⟨Nat.le_of_ble_eq_true rfl, Nat.le_of_ble_eq_true rfl⟩) hP hD hS hA [] [0, 1, 2] rfl rfl rfl (by decide) (fun r_5 u H locs hw hP hD hS => ?_)
    rcases hw with ⟨k_6, rfl, rfl⟩ | ⟨k_7, rfl, rfl⟩
    · have hP : va_P G.1 vwCl [(h0, .inr (9, [.ref h0H, .ref h0S, .ref h0I, .ref h0K, .ref h0Ex, .ref h0E, .ref h0D, .ref h0F, .ref h0B, .ref h0R, .ref h0G, .long 0, .long 1, .int 0, .int 0, .int 0])), (h0H, .inr (8, [.ref h0Hd, .ref h0Hk, .ref h0Hr, .ref h0Hn, .ref h0He, .ref h0HT, .ref h0HP, .ref h0HL, .ref h0HN, .ref h0HM, .int 0, .int 0, .int 0])), (h0Hd, .inl (G.2 0, 6, .inl (fun _ => 0)))] H := hP
      have hD : va_D A [(h0, .inr (9, [.ref h0H, .ref h0S, .ref h0I, .ref h0K, .ref h0Ex, .ref h0E, .ref h0D, .ref h0F, .ref h0B, .ref h0R, .ref h0G, .long 0, .long 1, .int 0, .int 0, .int 0])), (h0H, .inr (8, [.ref h0Hd, .ref h0Hk, .ref h0Hr, .ref h0Hn, .ref h0He, .ref h0HT, .ref h0HP, .ref h0HL, .ref h0HN, .ref h0HM, .int 0, .int 0, .int 0])), (h0Hd, .inl (G.2 0, 6, .inl (fun _ => 0)))] := hD
      refine lv_if_ne (tgt := 23) hx hb dX10_damp_15 (by decide) (fun _ => ?_) (fun c_8 => g_no c_8 (by decide))
      refine lv_aload_n hx hb dX10_damp_23 rfl (lv_at hl 0 rfl) ?_
      refine va_get (D := G.1) (ci := 9) (v := .ref h0H) (C := RX10) (T := TX10) (N := 16) hx hb hts (fun _ h => List.mem_cons_of_mem _ (List.mem_append_left _ (List.mem_append_right _ h))) hown hK hP 0 rfl rfl 0 (by decide) (hts _ (List.mem_of_getElem? (i := 1) rfl)) (fun _ h9 => h9) rfl dX10_damp_24 ?_
      refine va_getN (D := G.1) (ci := 8) (v := .ref h0Hd) (C := RX9) (T := TX9) (N := 13) hx hb hts (fun _ h => List.mem_cons_of_mem _ (List.mem_append_right _ h)) hown hK hP 1 rfl rfl 0 (by decide) (va_Nw.use rfl (nw13 hN)) (fun _ h9 => h9) rfl dX10_damp_27 ?_
      refine lv_iload_n hx hb dX10_damp_30 rfl (lv_at hl 1 rfl) ?_
      refine va_iald hx hb hK hP 2 0 rfl rfl (inB_in k_2 (by decide) (by decide)) dX10_damp_31 ?_
      refine g_topi (y := 0) rfl ?_
      refine lv_istore_n (lv' := [(3, .int 0), (0, .ref h0), (1, .int a1), (2, .int a2)]) hx hb dX10_damp_32 rfl hl (by decide) rfl (fun ls hl => ?_)
      refine lv_aload_n hx hb dX10_damp_33 rfl (lv_at hl 1 rfl) ?_
      refine va_get (D := G.1) (ci := 9) (v := .ref h0H) (C := RX10) (T := TX10) (N := 16) hx hb hts (fun _ h => List.mem_cons_of_mem _ (List.mem_append_left _ (List.mem_append_right _ h))) hown hK hP 0 rfl rfl 0 (by decide) (hts _ (List.mem_of_getElem? (i := 1) rfl)) (fun _ h9 => h9) rfl dX10_damp_34 ?_
      refine va_getN (D := G.1) (ci := 8) (v := .ref h0Hd) (C := RX9) (T := TX9) (N := 13) hx hb hts (fun _ h => List.mem_cons_of_mem _ (List.mem_append_right _ h)) hown hK hP 1 rfl rfl 0 (by decide) (va_Nw.use rfl (nw13 hN)) (fun _ h9 => h9) rfl dX10_damp_37 ?_
      refine lv_iload_n hx hb dX10_damp_40 rfl (lv_at hl 2 rfl) ?_
      refine lv_iload_n hx hb dX10_damp_41 rfl (lv_at hl 3 rfl) ?_
      refine va_iast hx hb hK hP hD hS 2 0 rfl rfl (inB_in k_2 (by decide) (by decide)) dX10_damp_42 (fun H locs hP hD hS => ?_)
      have hP : va_P G.1 vwCl [(h0, .inr (9, [.ref h0H, .ref h0S, .ref h0I, .ref h0K, .ref h0Ex, .ref h0E, .ref h0D, .ref h0F, .ref h0B, .ref h0R, .ref h0G, .long 0, .long 1, .int 0, .int 0, .int 0])), (h0H, .inr (8, [.ref h0Hd, .ref h0Hk, .ref h0Hr, .ref h0Hn, .ref h0He, .ref h0HT, .ref h0HP, .ref h0HL, .ref h0HN, .ref h0HM, .int 0, .int 0, .int 0])), (h0Hd, .inl (G.2 0, 6, .inl (upd (fun _ => 0) a1.toNatClampNeg a2)))] H := hP
      have hD : va_D A [(h0, .inr (9, [.ref h0H, .ref h0S, .ref h0I, .ref h0K, .ref h0Ex, .ref h0E, .ref h0D, .ref h0F, .ref h0B, .ref h0R, .ref h0G, .long 0, .long 1, .int 0, .int 0, .int 0])), (h0H, .inr (8, [.ref h0Hd, .ref h0Hk, .ref h0Hr, .ref h0Hn, .ref h0He, .ref h0HT, .ref h0HP, .ref h0HL, .ref h0HN, .ref h0HM, .int 0, .int 0, .int 0])), (h0Hd, .inl (G.2 0, 6, .inl (upd (fun _ => 0) a1.toNatClampNeg a2)))] := hD
      refine lv_aload_n hx hb dX10_damp_43 rfl (lv_at hl 1 rfl) ?_
      refine va_get (D := G.1) (ci := 9) (v := .ref h0H) (C := RX10) (T := TX10) (N := 16) hx hb hts (fun _ h => List.mem_cons_of_mem _ (List.mem_append_left _ (List.mem_append_right _ h))) hown hK hP 0 rfl rfl 0 (by decide) (hts _ (List.mem_of_getElem? (i := 1) rfl)) (fun _ h9 => h9) rfl dX10_damp_44 ?_
      refine lv_iconst (v := 0) hx hb dX10_damp_47 (by decide) ?_
      refine va_putN (D := G.1) (ci := 8) (v := .int 0) (ty := .int) (C := RX9) (T := TX9) (N := 13) hx hb hts (fun _ h => List.mem_cons_of_mem _ (List.mem_append_right _ h)) tyX9 tyX9_ok nmX9 hown hK hP hD hS 1 rfl rfl 12 (by decide) (va_Nw.use rfl (nw37 hN)) (fun _ h9 => h9) rfl (by decide +kernel) rfl rfl (Nat.le_of_ble_eq_true rfl) dX10_damp_48 (fun H locs hP hD hS => ?_)
      have hP : va_P G.1 vwCl [(h0, .inr (9, [.ref h0H, .ref h0S, .ref h0I, .ref h0K, .ref h0Ex, .ref h0E, .ref h0D, .ref h0F, .ref h0B, .ref h0R, .ref h0G, .long 0, .long 1, .int 0, .int 0, .int 0])), (h0H, .inr (8, [.ref h0Hd, .ref h0Hk, .ref h0Hr, .ref h0Hn, .ref h0He, .ref h0HT, .ref h0HP, .ref h0HL, .ref h0HN, .ref h0HM, .int 0, .int 0, .int 0])), (h0Hd, .inl (G.2 0, 6, .inl (upd (fun _ => 0) a1.toNatClampNeg a2)))] H := hP
      have hD : va_D A [(h0, .inr (9, [.ref h0H, .ref h0S, .ref h0I, .ref h0K, .ref h0Ex, .ref h0E, .ref h0D, .ref h0F, .ref h0B, .ref h0R, .ref h0G, .long 0, .long 1, .int 0, .int 0, .int 0])), (h0H, .inr (8, [.ref h0Hd, .ref h0Hk, .ref h0Hr, .ref h0Hn, .ref h0He, .ref h0HT, .ref h0HP, .ref h0HL, .ref h0HN, .ref h0HM, .int 0, .int 0, .int 0])), (h0Hd, .inl (G.2 0, 6, .inl (upd (fun _ => 0) a1.toNatClampNeg a2)))] := hD
      refine lv_iload_n hx hb dX10_damp_51 rfl (lv_at hl 0 rfl) ?_
      have hP := hP.sub (ws' := []) [] rfl
      have hD := hD.sub (ws' := []) [] rfl rfl
      exact g_iret (v := 0) hx hb hr hlocks hP hD hS (⟨by simp [F_damp, k_2, k_6], rfl⟩) dX10_damp_52
    · have hP : va_P G.1 vwCl [(h0, .inr (9, [.ref h0H, .ref h0S, .ref h0I, .ref h0K, .ref h0Ex, .ref h0E, .ref h0D, .ref h0F, .ref h0B, .ref h0R, .ref h0G, .long 0, .long 1, .int 0, .int 0, .int 0])), (h0H, .inr (8, [.ref h0Hd, .ref h0Hk, .ref h0Hr, .ref h0Hn, .ref h0He, .ref h0HT, .ref h0HP, .ref h0HL, .ref h0HN, .ref h0HM, .int 0, .int 0, .int 0])), (h0Hd, .inl (G.2 0, 6, .inl (fun _ => 0)))] H := hP
      have hD : va_D A [(h0, .inr (9, [.ref h0H, .ref h0S, .ref h0I, .ref h0K, .ref h0Ex, .ref h0E, .ref h0D, .ref h0F, .ref h0B, .ref h0R, .ref h0G, .long 0, .long 1, .int 0, .int 0, .int 0])), (h0H, .inr (8, [.ref h0Hd, .ref h0Hk, .ref h0Hr, .ref h0Hn, .ref h0He, .ref h0HT, .ref h0HP, .ref h0HL, .ref h0HN, .ref h0HM, .int 0, .int 0, .int 0])), (h0Hd, .inl (G.2 0, 6, .inl (fun _ => 0)))] := hD
      refine lv_if_ne (tgt := 23) hx hb dX10_damp_15 (by decide) (fun c_9 => g_no (by decide) c_9) (fun _ => ?_)
      refine lv_aload_n hx hb dX10_damp_18 rfl (lv_at hl 0 rfl) ?_
      refine g_calli (wr := [(h0H, .inr (8, [.ref h0Hd, .ref h0Hk, .ref h0Hr, .ref h0Hn, .ref h0He, .ref h0HT, .ref h0HP, .ref h0HL, .ref h0HN, .ref h0HM, .int 0, .int 0, .int 0])), (h0Hd, .inl (G.2 0, 6, .inl (fun _ => 0)))]) (va_runV (As := []) (rest := []) ⟨hx, hb, hml, hown, hts⟩ (e_X10_refuseBad l G (h0) (h0H) (h0S) (h0I) (h0K) (h0Ex) (h0E) (h0D) (h0F) (h0B) (h0R) (h0G) (0) (1) (0) (0) (0) _) (cwV 0 hts gX10_damp_X10_refuseBad rfl rfl rfl (by decide +kernel) ⟨Nat.le_of_ble_eq_true rfl, Nat.le_of_ble_eq_true rfl⟩) (g_preV h0 [] hP hD hK hN [0] rfl rfl 0 (ci := 9) rfl rfl) rfl rfl hl.1 rfl (lv_room (Nat.le_of_ble_eq_true rfl)) dX10_damp_19 ⟨Nat.le_of_ble_eq_true rfl, Nat.le_of_ble_eq_true rfl⟩) hP hD hS hA [0] [1, 2] rfl rfl rfl (by decide) (fun r_10 u H locs hw hP hD hS => ?_)
      obtain ⟨rfl, rfl⟩ := hw
      have hP : va_P G.1 vwCl [(h0H, .inr (8, [.ref h0Hd, .ref h0Hk, .ref h0Hr, .ref h0Hn, .ref h0He, .ref h0HT, .ref h0HP, .ref h0HL, .ref h0HN, .ref h0HM, .int 0, .int 0, .int 0])), (h0Hd, .inl (G.2 0, 6, .inl (fun _ => 0)))] H := hP
      have hD : va_D A [(h0H, .inr (8, [.ref h0Hd, .ref h0Hk, .ref h0Hr, .ref h0Hn, .ref h0He, .ref h0HT, .ref h0HP, .ref h0HL, .ref h0HN, .ref h0HM, .int 0, .int 0, .int 0])), (h0Hd, .inl (G.2 0, 6, .inl (fun _ => 0)))] := hD
      have hP := hP.sub (ws' := []) [] rfl
      have hD := hD.sub (ws' := []) [] rfl rfl
      exact g_iret (v := (-2)) hx hb hr hlocks hP hD hS (⟨by simp [F_damp, k_2, k_7], rfl⟩) dX10_damp_22
  · have hP : va_P G.1 vwCl [(h0, .inr (9, [.ref h0H, .ref h0S, .ref h0I, .ref h0K, .ref h0Ex, .ref h0E, .ref h0D, .ref h0F, .ref h0B, .ref h0R, .ref h0G, .long 0, .long 1, .int 0, .int 0, .int 0])), (h0H, .inr (8, [.ref h0Hd, .ref h0Hk, .ref h0Hr, .ref h0Hn, .ref h0He, .ref h0HT, .ref h0HP, .ref h0HL, .ref h0HN, .ref h0HM, .int 0, .int 0, .int 0])), (h0Hd, .inl (G.2 0, 6, .inl (fun _ => 0)))] H := hP
    have hD : va_D A [(h0, .inr (9, [.ref h0H, .ref h0S, .ref h0I, .ref h0K, .ref h0Ex, .ref h0E, .ref h0D, .ref h0F, .ref h0B, .ref h0R, .ref h0G, .long 0, .long 1, .int 0, .int 0, .int 0])), (h0H, .inr (8, [.ref h0Hd, .ref h0Hk, .ref h0Hr, .ref h0Hn, .ref h0He, .ref h0HT, .ref h0HP, .ref h0HL, .ref h0HN, .ref h0HM, .int 0, .int 0, .int 0])), (h0Hd, .inl (G.2 0, 6, .inl (fun _ => 0)))] := hD
    refine lv_if_eq (tgt := 18) hx hb dX10_damp_6 (by decide) (fun _ => ?_) (fun c_11 => g_no (by decide) c_11)
    refine lv_aload_n hx hb dX10_damp_18 rfl (lv_at hl 0 rfl) ?_
    refine g_calli (wr := [(h0H, .inr (8, [.ref h0Hd, .ref h0Hk, .ref h0Hr, .ref h0Hn, .ref h0He, .ref h0HT, .ref h0HP, .ref h0HL, .ref h0HN, .ref h0HM, .int 0, .int 0, .int 0])), (h0Hd, .inl (G.2 0, 6, .inl (fun _ => 0)))]) (va_runV (As := []) (rest := []) ⟨hx, hb, hml, hown, hts⟩ (e_X10_refuseBad l G (h0) (h0H) (h0S) (h0I) (h0K) (h0Ex) (h0E) (h0D) (h0F) (h0B) (h0R) (h0G) (0) (1) (0) (0) (0) _) (cwV 0 hts gX10_damp_X10_refuseBad rfl rfl rfl (by decide +kernel) ⟨Nat.le_of_ble_eq_true rfl, Nat.le_of_ble_eq_true rfl⟩) (g_preV h0 [] hP hD hK hN [0] rfl rfl 0 (ci := 9) rfl rfl) rfl rfl hl.1 rfl (lv_room (Nat.le_of_ble_eq_true rfl)) dX10_damp_19 ⟨Nat.le_of_ble_eq_true rfl, Nat.le_of_ble_eq_true rfl⟩) hP hD hS hA [0] [1, 2] rfl rfl rfl (by decide) (fun r_12 u H locs hw hP hD hS => ?_)
    obtain ⟨rfl, rfl⟩ := hw
    have hP : va_P G.1 vwCl [(h0H, .inr (8, [.ref h0Hd, .ref h0Hk, .ref h0Hr, .ref h0Hn, .ref h0He, .ref h0HT, .ref h0HP, .ref h0HL, .ref h0HN, .ref h0HM, .int 0, .int 0, .int 0])), (h0Hd, .inl (G.2 0, 6, .inl (fun _ => 0)))] H := hP
    have hD : va_D A [(h0H, .inr (8, [.ref h0Hd, .ref h0Hk, .ref h0Hr, .ref h0Hn, .ref h0He, .ref h0HT, .ref h0HP, .ref h0HL, .ref h0HN, .ref h0HM, .int 0, .int 0, .int 0])), (h0Hd, .inl (G.2 0, 6, .inl (fun _ => 0)))] := hD
    have hP := hP.sub (ws' := []) [] rfl
    have hD := hD.sub (ws' := []) [] rfl rfl
    exact g_iret (v := (-2)) hx hb hr hlocks hP hD hS (⟨by simp [F_damp, k_3], rfl⟩) dX10_damp_22
theorem dX10_apple_0 : decode cX10_apple 0 = .ok (.iload_n 1, 1) := by decide +kernel
theorem dX10_apple_1 : decode cX10_apple 1 = .ok (.iconst 0, 1) := by decide +kernel
theorem dX10_apple_2 : decode cX10_apple 2 = .ok (.iconst 5, 1) := by decide +kernel
set_option maxRecDepth 20000 in
theorem ggX10_apple_X10_within : GoodIn wsX10_apple wsX10_within := goodIn_r _ [5] (by decide +kernel) (by decide +kernel)
set_option maxRecDepth 20000 in
theorem gX10_apple_X10_within : GoodIn wsX10_apple (va_wsS RX10 88 yX10_within wsX10_within) := goodIn_app (goodIn_of _ (by decide +kernel)) ggX10_apple_X10_within
theorem dX10_apple_3 : decode cX10_apple 3 = .ok (.invokestatic 88, 3) := by decide +kernel
theorem dX10_apple_6 : decode cX10_apple 6 = .ok (.ifCond .eq 23, 3) := by decide +kernel
theorem dX10_apple_9 : decode cX10_apple 9 = .ok (.iload_n 2, 1) := by decide +kernel
theorem dX10_apple_10 : decode cX10_apple 10 = .ok (.iconst 1, 1) := by decide +kernel
theorem dX10_apple_11 : decode cX10_apple 11 = .ok (.bipush 30, 2) := by decide +kernel
theorem dX10_apple_13 : decode cX10_apple 13 = .ok (.invokestatic 88, 3) := by decide +kernel
theorem dX10_apple_16 : decode cX10_apple 16 = .ok (.ifCond .eq 13, 3) := by decide +kernel
theorem dX10_apple_19 : decode cX10_apple 19 = .ok (.iload_n 3, 1) := by decide +kernel
theorem dX10_apple_20 : decode cX10_apple 20 = .ok (.iconst 0, 1) := by decide +kernel
theorem dX10_apple_21 : decode cX10_apple 21 = .ok (.bipush 99, 2) := by decide +kernel
theorem dX10_apple_23 : decode cX10_apple 23 = .ok (.invokestatic 88, 3) := by decide +kernel
theorem dX10_apple_26 : decode cX10_apple 26 = .ok (.ifCond .ne 8, 3) := by decide +kernel
theorem dX10_apple_34 : decode cX10_apple 34 = .ok (.aload_n 0, 1) := by decide +kernel
theorem dX10_apple_35 : decode cX10_apple 35 = .ok (.getfield 10, 3) := by decide +kernel
theorem dX10_apple_38 : decode cX10_apple 38 = .ok (.getfield 81, 3) := by decide +kernel
theorem dX10_apple_41 : decode cX10_apple 41 = .ok (.bipush 7, 2) := by decide +kernel
theorem dX10_apple_43 : decode cX10_apple 43 = .ok (.if_icmp .lt 8, 3) := by decide +kernel
theorem dX10_apple_51 : decode cX10_apple 51 = .ok (.aload_n 0, 1) := by decide +kernel
theorem dX10_apple_52 : decode cX10_apple 52 = .ok (.getfield 10, 3) := by decide +kernel
theorem dX10_apple_55 : decode cX10_apple 55 = .ok (.iconst 0, 1) := by decide +kernel
theorem dX10_apple_56 : decode cX10_apple 56 = .ok (.putfield 100, 3) := by decide +kernel
theorem dX10_apple_59 : decode cX10_apple 59 = .ok (.aload_n 0, 1) := by decide +kernel
theorem dX10_apple_60 : decode cX10_apple 60 = .ok (.getfield 10, 3) := by decide +kernel
theorem dX10_apple_63 : decode cX10_apple 63 = .ok (.iload_n 1, 1) := by decide +kernel
theorem dX10_apple_64 : decode cX10_apple 64 = .ok (.iload_n 2, 1) := by decide +kernel
theorem dX10_apple_65 : decode cX10_apple 65 = .ok (.iload_n 3, 1) := by decide +kernel
set_option maxRecDepth 20000 in
theorem ggX10_apple_X9_addApple : GoodIn wsX10_apple wsX9_addApple := goodIn_r _ [19, 20, 21, 22, 23, 40, 41, 42, 43, 44, 45, 46, 47, 48, 49, 50, 51, 52, 53, 54, 55, 56] (by decide +kernel) (by decide +kernel)
set_option maxRecDepth 20000 in
theorem gX10_apple_X9_addApple_n106 : GoodIn wsX10_apple (wsX9_addApple) := ggX10_apple_X9_addApple
theorem dX10_apple_66 : decode cX10_apple 66 = .ok (.invokevirtual 106, 3) := by decide +kernel
theorem dX10_apple_69 : decode cX10_apple 69 = .ok (.ireturn, 1) := by decide +kernel
theorem dX10_apple_29 : decode cX10_apple 29 = .ok (.aload_n 0, 1) := by decide +kernel
set_option maxRecDepth 20000 in
theorem ggX10_apple_X10_refuseBad : GoodIn wsX10_apple wsX10_refuseBad := goodIn_r _ [9, 10, 24, 25, 26, 27, 28, 29, 30, 31, 32, 33, 34, 35, 36, 37, 38, 39] (by decide +kernel) (by decide +kernel)
set_option maxRecDepth 20000 in
theorem gX10_apple_X10_refuseBad : GoodIn wsX10_apple (wsV RX10 92 RX10 yX10_refuseBad wsX10_refuseBad) := goodIn_app (goodIn_of _ (by decide +kernel)) ggX10_apple_X10_refuseBad
theorem dX10_apple_30 : decode cX10_apple 30 = .ok (.invokevirtual 92, 3) := by decide +kernel
theorem dX10_apple_33 : decode cX10_apple 33 = .ok (.ireturn, 1) := by decide +kernel
set_option maxHeartbeats 8000000 in
set_option maxRecDepth 100000 in
theorem c_X10_apple (l : Launch) (G : gG) (h0 : Nat) (h0H : Nat) (h0S : Nat) (h0I : Nat) (h0K : Nat) (h0Ex : Nat) (h0E : Nat) (h0D : Nat) (h0F : Nat) (h0B : Nat) (h0R : Nat) (h0G : Nat) (h0Hd : Nat) (h0Hk : Nat) (h0Hr : Nat) (h0Hn : Nat) (h0He : Nat) (h0HT : Nat) (h0HP : Nat) (h0HL : Nat) (h0HN : Nat) (h0HM : Nat) (h0HTt : Nat) (h0HTa : Nat) (h0HTf : Nat) (a1 : Int32) (a2 : Int32) (a3 : Int32) (sz : Nat) : gI G l yX10_apple wsX10_apple ({ frames := 1, cells := 0, slots := 0, locals := 24 } : Room) [.ref h0, .int a1, .int a2, .int a3] [(h0, .inr (9, [.ref h0H, .ref h0S, .ref h0I, .ref h0K, .ref h0Ex, .ref h0E, .ref h0D, .ref h0F, .ref h0B, .ref h0R, .ref h0G, .long 0, .long 1, .int 0, .int 0, .int 0])), (h0H, .inr (8, [.ref h0Hd, .ref h0Hk, .ref h0Hr, .ref h0Hn, .ref h0He, .ref h0HT, .ref h0HP, .ref h0HL, .ref h0HN, .ref h0HM, .int 0, .int 0, .int 0])), (h0Hk, .inl (G.2 0, 7, .inl (fun _ => 0))), (h0Hr, .inl (G.2 0, 7, .inl (fun _ => 0))), (h0HT, .inr (3, [.int 0, .ref h0HTt, .ref h0HTa, .ref h0HTf])), (h0HTt, .inl (G.2 0, 7, .inl (fun _ => 0))), (h0HTa, .inl (G.2 0, 7, .inl (fun _ => 0))), (h0HTf, .inl (G.2 0, 7, .inl (fun _ => 0)))] sz (fun (r : Int32) (u : va_W) => (r = (F_apple a1 a2 a3) ∧ u = [])) := by
  refine Met.ofW (cc := cX10_apple) (maxL := 4) (ret := (some .int)) (by decide) rfl ?_
  intro p e s m args below meth c s₁ B hml hv
  obtain ⟨rfl, hsz, hP, hK, hD0, hN⟩ := hv
  have hx := B.exec
  have hb := B.bytes
  have hr := B.returns
  have hts := atoms_spec (ws := wsX10_apple) B.pre
  have hown : s.vm.findClass RX10 = some m.cls := findClass_of_methodNamed B.named
  have hlocks := B.notSynchronized
  subst hsz
  have hD := hD0.self (sz := s.heap.size)
  generalize hAe : va_A [(h0, .inr (9, [.ref h0H, .ref h0S, .ref h0I, .ref h0K, .ref h0Ex, .ref h0E, .ref h0D, .ref h0F, .ref h0B, .ref h0R, .ref h0G, .long 0, .long 1, .int 0, .int 0, .int 0])), (h0H, .inr (8, [.ref h0Hd, .ref h0Hk, .ref h0Hr, .ref h0Hn, .ref h0He, .ref h0HT, .ref h0HP, .ref h0HL, .ref h0HN, .ref h0HM, .int 0, .int 0, .int 0])), (h0Hk, .inl (G.2 0, 7, .inl (fun _ => 0))), (h0Hr, .inl (G.2 0, 7, .inl (fun _ => 0))), (h0HT, .inr (3, [.int 0, .ref h0HTt, .ref h0HTa, .ref h0HTf])), (h0HTt, .inl (G.2 0, 7, .inl (fun _ => 0))), (h0HTa, .inl (G.2 0, 7, .inl (fun _ => 0))), (h0HTf, .inl (G.2 0, 7, .inl (fun _ => 0)))] s.heap.size = A at hD ⊢
  have hA : ∀ q : Nat, s.heap.size ≤ q → A q := fun q h => by rw [← hAe]; exact Or.inr h
  have hS : va_S A s.heap s.heap [] := va_S.rf
  have hP : va_P G.1 vwCl [(h0, .inr (9, [.ref h0H, .ref h0S, .ref h0I, .ref h0K, .ref h0Ex, .ref h0E, .ref h0D, .ref h0F, .ref h0B, .ref h0R, .ref h0G, .long 0, .long 1, .int 0, .int 0, .int 0])), (h0H, .inr (8, [.ref h0Hd, .ref h0Hk, .ref h0Hr, .ref h0Hn, .ref h0He, .ref h0HT, .ref h0HP, .ref h0HL, .ref h0HN, .ref h0HM, .int 0, .int 0, .int 0])), (h0Hk, .inl (G.2 0, 7, .inl (fun _ => 0))), (h0Hr, .inl (G.2 0, 7, .inl (fun _ => 0))), (h0HT, .inr (3, [.int 0, .ref h0HTt, .ref h0HTa, .ref h0HTf])), (h0HTt, .inl (G.2 0, 7, .inl (fun _ => 0))), (h0HTa, .inl (G.2 0, 7, .inl (fun _ => 0))), (h0HTf, .inl (G.2 0, 7, .inl (fun _ => 0)))] s.heap := hP
  have hl := lv_entry ([.ref h0, .int a1, .int a2, .int a3]) (n := 4) (Nat.le_of_ble_eq_true rfl)
  rw [lg_entry_eq]
  generalize (lg_sl ([.ref h0, .int a1, .int a2, .int a3]) ++ List.replicate (4 - (lg_sl ([.ref h0, .int a1, .int a2, .int a3])).length) Slot.unset).toArray = ls at hl ⊢
  have hl : lv_has ls 4 [(0, .ref h0), (1, .int a1), (2, .int a2), (3, .int a3)] := hl
  refine lv_iload_n hx hb dX10_apple_0 rfl (lv_at hl 1 rfl) ?_
  refine lv_iconst (v := 0) hx hb dX10_apple_1 (by decide) ?_
  refine lv_iconst (v := 5) hx hb dX10_apple_2 (by decide) ?_
  refine g_calli (wr := [(h0, .inr (9, [.ref h0H, .ref h0S, .ref h0I, .ref h0K, .ref h0Ex, .ref h0E, .ref h0D, .ref h0F, .ref h0B, .ref h0R, .ref h0G, .long 0, .long 1, .int 0, .int 0, .int 0])), (h0H, .inr (8, [.ref h0Hd, .ref h0Hk, .ref h0Hr, .ref h0Hn, .ref h0He, .ref h0HT, .ref h0HP, .ref h0HL, .ref h0HN, .ref h0HM, .int 0, .int 0, .int 0])), (h0Hk, .inl (G.2 0, 7, .inl (fun _ => 0))), (h0Hr, .inl (G.2 0, 7, .inl (fun _ => 0))), (h0HT, .inr (3, [.int 0, .ref h0HTt, .ref h0HTa, .ref h0HTf])), (h0HTt, .inl (G.2 0, 7, .inl (fun _ => 0))), (h0HTa, .inl (G.2 0, 7, .inl (fun _ => 0))), (h0HTf, .inl (G.2 0, 7, .inl (fun _ => 0)))]) (va_runS (As := [.int a1, .int 0, .int 5]) (rest := []) ⟨hx, hb, hml, hown, hts⟩ (c_X10_within l G (a1) (0) (5) _) (va_cwS 3 hts gX10_apple_X10_within rfl rfl rfl (by decide +kernel) ⟨Nat.le_of_ble_eq_true rfl, Nat.le_of_ble_eq_true rfl⟩) (g_preS [.int a1, .int 0, .int 5] hP hD hK hN [] rfl rfl) rfl rfl hl.1 rfl (lv_room (Nat.le_of_ble_eq_true rfl)) dX10_apple_3 ⟨Nat.le_of_ble_eq_true rfl, Nat.le_of_ble_eq_true rfl⟩) hP hD hS hA [] [0, 1, 2, 3, 4, 5, 6, 7] rfl rfl rfl (by decide) (fun r_1 u H locs hw hP hD hS => ?_)
  rcases hw with ⟨k_2, rfl, rfl⟩ | ⟨k_3, rfl, rfl⟩
  · have hP : va_P G.1 vwCl [(h0, .inr (9, [.ref h0H, .ref h0S, .ref h0I, .ref h0K, .ref h0Ex, .ref h0E, .ref h0D, .ref h0F, .ref h0B, .ref h0R, .ref h0G, .long 0, .long 1, .int 0, .int 0, .int 0])), (h0H, .inr (8, [.ref h0Hd, .ref h0Hk, .ref h0Hr, .ref h0Hn, .ref h0He, .ref h0HT, .ref h0HP, .ref h0HL, .ref h0HN, .ref h0HM, .int 0, .int 0, .int 0])), (h0Hk, .inl (G.2 0, 7, .inl (fun _ => 0))), (h0Hr, .inl (G.2 0, 7, .inl (fun _ => 0))), (h0HT, .inr (3, [.int 0, .ref h0HTt, .ref h0HTa, .ref h0HTf])), (h0HTt, .inl (G.2 0, 7, .inl (fun _ => 0))), (h0HTa, .inl (G.2 0, 7, .inl (fun _ => 0))), (h0HTf, .inl (G.2 0, 7, .inl (fun _ => 0)))] H := hP
    have hD : va_D A [(h0, .inr (9, [.ref h0H, .ref h0S, .ref h0I, .ref h0K, .ref h0Ex, .ref h0E, .ref h0D, .ref h0F, .ref h0B, .ref h0R, .ref h0G, .long 0, .long 1, .int 0, .int 0, .int 0])), (h0H, .inr (8, [.ref h0Hd, .ref h0Hk, .ref h0Hr, .ref h0Hn, .ref h0He, .ref h0HT, .ref h0HP, .ref h0HL, .ref h0HN, .ref h0HM, .int 0, .int 0, .int 0])), (h0Hk, .inl (G.2 0, 7, .inl (fun _ => 0))), (h0Hr, .inl (G.2 0, 7, .inl (fun _ => 0))), (h0HT, .inr (3, [.int 0, .ref h0HTt, .ref h0HTa, .ref h0HTf])), (h0HTt, .inl (G.2 0, 7, .inl (fun _ => 0))), (h0HTa, .inl (G.2 0, 7, .inl (fun _ => 0))), (h0HTf, .inl (G.2 0, 7, .inl (fun _ => 0)))] := hD
    refine lv_if_eq (tgt := 29) hx hb dX10_apple_6 (by decide) (fun c_4 => g_no c_4 (by decide)) (fun _ => ?_)
    refine lv_iload_n hx hb dX10_apple_9 rfl (lv_at hl 2 rfl) ?_
    refine lv_iconst (v := 1) hx hb dX10_apple_10 (by decide) ?_
    refine lv_bipush (v := 30) hx hb dX10_apple_11 (by decide) ?_
    refine g_calli (wr := [(h0, .inr (9, [.ref h0H, .ref h0S, .ref h0I, .ref h0K, .ref h0Ex, .ref h0E, .ref h0D, .ref h0F, .ref h0B, .ref h0R, .ref h0G, .long 0, .long 1, .int 0, .int 0, .int 0])), (h0H, .inr (8, [.ref h0Hd, .ref h0Hk, .ref h0Hr, .ref h0Hn, .ref h0He, .ref h0HT, .ref h0HP, .ref h0HL, .ref h0HN, .ref h0HM, .int 0, .int 0, .int 0])), (h0Hk, .inl (G.2 0, 7, .inl (fun _ => 0))), (h0Hr, .inl (G.2 0, 7, .inl (fun _ => 0))), (h0HT, .inr (3, [.int 0, .ref h0HTt, .ref h0HTa, .ref h0HTf])), (h0HTt, .inl (G.2 0, 7, .inl (fun _ => 0))), (h0HTa, .inl (G.2 0, 7, .inl (fun _ => 0))), (h0HTf, .inl (G.2 0, 7, .inl (fun _ => 0)))]) (va_runS (As := [.int a2, .int 1, .int 30]) (rest := []) ⟨hx, hb, hml, hown, hts⟩ (c_X10_within l G (a2) (1) (30) _) (va_cwS 3 hts gX10_apple_X10_within rfl rfl rfl (by decide +kernel) ⟨Nat.le_of_ble_eq_true rfl, Nat.le_of_ble_eq_true rfl⟩) (g_preS [.int a2, .int 1, .int 30] hP hD hK hN [] rfl rfl) rfl rfl hl.1 rfl (lv_room (Nat.le_of_ble_eq_true rfl)) dX10_apple_13 ⟨Nat.le_of_ble_eq_true rfl, Nat.le_of_ble_eq_true rfl⟩) hP hD hS hA [] [0, 1, 2, 3, 4, 5, 6, 7] rfl rfl rfl (by decide) (fun r_5 u H locs hw hP hD hS => ?_)
    rcases hw with ⟨k_6, rfl, rfl⟩ | ⟨k_7, rfl, rfl⟩
    · have hP : va_P G.1 vwCl [(h0, .inr (9, [.ref h0H, .ref h0S, .ref h0I, .ref h0K, .ref h0Ex, .ref h0E, .ref h0D, .ref h0F, .ref h0B, .ref h0R, .ref h0G, .long 0, .long 1, .int 0, .int 0, .int 0])), (h0H, .inr (8, [.ref h0Hd, .ref h0Hk, .ref h0Hr, .ref h0Hn, .ref h0He, .ref h0HT, .ref h0HP, .ref h0HL, .ref h0HN, .ref h0HM, .int 0, .int 0, .int 0])), (h0Hk, .inl (G.2 0, 7, .inl (fun _ => 0))), (h0Hr, .inl (G.2 0, 7, .inl (fun _ => 0))), (h0HT, .inr (3, [.int 0, .ref h0HTt, .ref h0HTa, .ref h0HTf])), (h0HTt, .inl (G.2 0, 7, .inl (fun _ => 0))), (h0HTa, .inl (G.2 0, 7, .inl (fun _ => 0))), (h0HTf, .inl (G.2 0, 7, .inl (fun _ => 0)))] H := hP
      have hD : va_D A [(h0, .inr (9, [.ref h0H, .ref h0S, .ref h0I, .ref h0K, .ref h0Ex, .ref h0E, .ref h0D, .ref h0F, .ref h0B, .ref h0R, .ref h0G, .long 0, .long 1, .int 0, .int 0, .int 0])), (h0H, .inr (8, [.ref h0Hd, .ref h0Hk, .ref h0Hr, .ref h0Hn, .ref h0He, .ref h0HT, .ref h0HP, .ref h0HL, .ref h0HN, .ref h0HM, .int 0, .int 0, .int 0])), (h0Hk, .inl (G.2 0, 7, .inl (fun _ => 0))), (h0Hr, .inl (G.2 0, 7, .inl (fun _ => 0))), (h0HT, .inr (3, [.int 0, .ref h0HTt, .ref h0HTa, .ref h0HTf])), (h0HTt, .inl (G.2 0, 7, .inl (fun _ => 0))), (h0HTa, .inl (G.2 0, 7, .inl (fun _ => 0))), (h0HTf, .inl (G.2 0, 7, .inl (fun _ => 0)))] := hD
      refine lv_if_eq (tgt := 29) hx hb dX10_apple_16 (by decide) (fun c_8 => g_no c_8 (by decide)) (fun _ => ?_)
      refine lv_iload_n hx hb dX10_apple_19 rfl (lv_at hl 3 rfl) ?_
      refine lv_iconst (v := 0) hx hb dX10_apple_20 (by decide) ?_
      refine lv_bipush (v := 99) hx hb dX10_apple_21 (by decide) ?_
      refine g_calli (wr := [(h0, .inr (9, [.ref h0H, .ref h0S, .ref h0I, .ref h0K, .ref h0Ex, .ref h0E, .ref h0D, .ref h0F, .ref h0B, .ref h0R, .ref h0G, .long 0, .long 1, .int 0, .int 0, .int 0])), (h0H, .inr (8, [.ref h0Hd, .ref h0Hk, .ref h0Hr, .ref h0Hn, .ref h0He, .ref h0HT, .ref h0HP, .ref h0HL, .ref h0HN, .ref h0HM, .int 0, .int 0, .int 0])), (h0Hk, .inl (G.2 0, 7, .inl (fun _ => 0))), (h0Hr, .inl (G.2 0, 7, .inl (fun _ => 0))), (h0HT, .inr (3, [.int 0, .ref h0HTt, .ref h0HTa, .ref h0HTf])), (h0HTt, .inl (G.2 0, 7, .inl (fun _ => 0))), (h0HTa, .inl (G.2 0, 7, .inl (fun _ => 0))), (h0HTf, .inl (G.2 0, 7, .inl (fun _ => 0)))]) (va_runS (As := [.int a3, .int 0, .int 99]) (rest := []) ⟨hx, hb, hml, hown, hts⟩ (c_X10_within l G (a3) (0) (99) _) (va_cwS 3 hts gX10_apple_X10_within rfl rfl rfl (by decide +kernel) ⟨Nat.le_of_ble_eq_true rfl, Nat.le_of_ble_eq_true rfl⟩) (g_preS [.int a3, .int 0, .int 99] hP hD hK hN [] rfl rfl) rfl rfl hl.1 rfl (lv_room (Nat.le_of_ble_eq_true rfl)) dX10_apple_23 ⟨Nat.le_of_ble_eq_true rfl, Nat.le_of_ble_eq_true rfl⟩) hP hD hS hA [] [0, 1, 2, 3, 4, 5, 6, 7] rfl rfl rfl (by decide) (fun r_9 u H locs hw hP hD hS => ?_)
      rcases hw with ⟨k_10, rfl, rfl⟩ | ⟨k_11, rfl, rfl⟩
      · have hP : va_P G.1 vwCl [(h0, .inr (9, [.ref h0H, .ref h0S, .ref h0I, .ref h0K, .ref h0Ex, .ref h0E, .ref h0D, .ref h0F, .ref h0B, .ref h0R, .ref h0G, .long 0, .long 1, .int 0, .int 0, .int 0])), (h0H, .inr (8, [.ref h0Hd, .ref h0Hk, .ref h0Hr, .ref h0Hn, .ref h0He, .ref h0HT, .ref h0HP, .ref h0HL, .ref h0HN, .ref h0HM, .int 0, .int 0, .int 0])), (h0Hk, .inl (G.2 0, 7, .inl (fun _ => 0))), (h0Hr, .inl (G.2 0, 7, .inl (fun _ => 0))), (h0HT, .inr (3, [.int 0, .ref h0HTt, .ref h0HTa, .ref h0HTf])), (h0HTt, .inl (G.2 0, 7, .inl (fun _ => 0))), (h0HTa, .inl (G.2 0, 7, .inl (fun _ => 0))), (h0HTf, .inl (G.2 0, 7, .inl (fun _ => 0)))] H := hP
        have hD : va_D A [(h0, .inr (9, [.ref h0H, .ref h0S, .ref h0I, .ref h0K, .ref h0Ex, .ref h0E, .ref h0D, .ref h0F, .ref h0B, .ref h0R, .ref h0G, .long 0, .long 1, .int 0, .int 0, .int 0])), (h0H, .inr (8, [.ref h0Hd, .ref h0Hk, .ref h0Hr, .ref h0Hn, .ref h0He, .ref h0HT, .ref h0HP, .ref h0HL, .ref h0HN, .ref h0HM, .int 0, .int 0, .int 0])), (h0Hk, .inl (G.2 0, 7, .inl (fun _ => 0))), (h0Hr, .inl (G.2 0, 7, .inl (fun _ => 0))), (h0HT, .inr (3, [.int 0, .ref h0HTt, .ref h0HTa, .ref h0HTf])), (h0HTt, .inl (G.2 0, 7, .inl (fun _ => 0))), (h0HTa, .inl (G.2 0, 7, .inl (fun _ => 0))), (h0HTf, .inl (G.2 0, 7, .inl (fun _ => 0)))] := hD
        refine lv_if_ne (tgt := 34) hx hb dX10_apple_26 (by decide) (fun _ => ?_) (fun c_12 => g_no c_12 (by decide))
        refine lv_aload_n hx hb dX10_apple_34 rfl (lv_at hl 0 rfl) ?_
        refine va_get (D := G.1) (ci := 9) (v := .ref h0H) (C := RX10) (T := TX10) (N := 16) hx hb hts (fun _ h => List.mem_cons_of_mem _ (List.mem_append_left _ (List.mem_append_left _ (List.mem_append_right _ h)))) hown hK hP 0 rfl rfl 0 (by decide) (hts _ (List.mem_of_getElem? (i := 1) rfl)) (fun _ h9 => h9) rfl dX10_apple_35 ?_
        refine va_getN (D := G.1) (ci := 8) (v := .int 0) (C := RX9) (T := TX9) (N := 13) hx hb hts (fun _ h => List.mem_cons_of_mem _ (List.mem_append_left _ (List.mem_append_right _ h))) hown hK hP 1 rfl rfl 10 (by decide) (va_Nw.use rfl (nw30 hN)) (fun _ h9 => h9) rfl dX10_apple_38 ?_
        refine lv_bipush (v := 7) hx hb dX10_apple_41 (by decide) ?_
        refine lv_icmp_lt (tgt := 51) hx hb dX10_apple_43 (by decide) (fun _ => ?_) (fun c_13 => g_no (by decide) c_13)
        refine lv_aload_n hx hb dX10_apple_51 rfl (lv_at hl 0 rfl) ?_
        refine va_get (D := G.1) (ci := 9) (v := .ref h0H) (C := RX10) (T := TX10) (N := 16) hx hb hts (fun _ h => List.mem_cons_of_mem _ (List.mem_append_left _ (List.mem_append_left _ (List.mem_append_right _ h)))) hown hK hP 0 rfl rfl 0 (by decide) (hts _ (List.mem_of_getElem? (i := 1) rfl)) (fun _ h9 => h9) rfl dX10_apple_52 ?_
        refine lv_iconst (v := 0) hx hb dX10_apple_55 (by decide) ?_
        refine va_putN (D := G.1) (ci := 8) (v := .int 0) (ty := .int) (C := RX9) (T := TX9) (N := 13) hx hb hts (fun _ h => List.mem_cons_of_mem _ (List.mem_append_left _ (List.mem_append_right _ h))) tyX9 tyX9_ok nmX9 hown hK hP hD hS 1 rfl rfl 12 (by decide) (va_Nw.use rfl (nw37 hN)) (fun _ h9 => h9) rfl (by decide +kernel) rfl rfl (Nat.le_of_ble_eq_true rfl) dX10_apple_56 (fun H locs hP hD hS => ?_)
        have hP : va_P G.1 vwCl [(h0, .inr (9, [.ref h0H, .ref h0S, .ref h0I, .ref h0K, .ref h0Ex, .ref h0E, .ref h0D, .ref h0F, .ref h0B, .ref h0R, .ref h0G, .long 0, .long 1, .int 0, .int 0, .int 0])), (h0H, .inr (8, [.ref h0Hd, .ref h0Hk, .ref h0Hr, .ref h0Hn, .ref h0He, .ref h0HT, .ref h0HP, .ref h0HL, .ref h0HN, .ref h0HM, .int 0, .int 0, .int 0])), (h0Hk, .inl (G.2 0, 7, .inl (fun _ => 0))), (h0Hr, .inl (G.2 0, 7, .inl (fun _ => 0))), (h0HT, .inr (3, [.int 0, .ref h0HTt, .ref h0HTa, .ref h0HTf])), (h0HTt, .inl (G.2 0, 7, .inl (fun _ => 0))), (h0HTa, .inl (G.2 0, 7, .inl (fun _ => 0))), (h0HTf, .inl (G.2 0, 7, .inl (fun _ => 0)))] H := hP
        have hD : va_D A [(h0, .inr (9, [.ref h0H, .ref h0S, .ref h0I, .ref h0K, .ref h0Ex, .ref h0E, .ref h0D, .ref h0F, .ref h0B, .ref h0R, .ref h0G, .long 0, .long 1, .int 0, .int 0, .int 0])), (h0H, .inr (8, [.ref h0Hd, .ref h0Hk, .ref h0Hr, .ref h0Hn, .ref h0He, .ref h0HT, .ref h0HP, .ref h0HL, .ref h0HN, .ref h0HM, .int 0, .int 0, .int 0])), (h0Hk, .inl (G.2 0, 7, .inl (fun _ => 0))), (h0Hr, .inl (G.2 0, 7, .inl (fun _ => 0))), (h0HT, .inr (3, [.int 0, .ref h0HTt, .ref h0HTa, .ref h0HTf])), (h0HTt, .inl (G.2 0, 7, .inl (fun _ => 0))), (h0HTa, .inl (G.2 0, 7, .inl (fun _ => 0))), (h0HTf, .inl (G.2 0, 7, .inl (fun _ => 0)))] := hD
        refine lv_aload_n hx hb dX10_apple_59 rfl (lv_at hl 0 rfl) ?_
        refine va_get (D := G.1) (ci := 9) (v := .ref h0H) (C := RX10) (T := TX10) (N := 16) hx hb hts (fun _ h => List.mem_cons_of_mem _ (List.mem_append_left _ (List.mem_append_left _ (List.mem_append_right _ h)))) hown hK hP 0 rfl rfl 0 (by decide) (hts _ (List.mem_of_getElem? (i := 1) rfl)) (fun _ h9 => h9) rfl dX10_apple_60 ?_
        refine lv_iload_n hx hb dX10_apple_63 rfl (lv_at hl 1 rfl) ?_
        refine lv_iload_n hx hb dX10_apple_64 rfl (lv_at hl 2 rfl) ?_
        refine lv_iload_n hx hb dX10_apple_65 rfl (lv_at hl 3 rfl) ?_
        refine g_calli (wr := [(h0, .inr (9, [.ref h0H, .ref h0S, .ref h0I, .ref h0K, .ref h0Ex, .ref h0E, .ref h0D, .ref h0F, .ref h0B, .ref h0R, .ref h0G, .long 0, .long 1, .int 0, .int 0, .int 0]))]) (va_runVN (C := RX9) (As := [.int a1, .int a2, .int a3]) (rest := []) ⟨hx, hb, hml, hown, hts⟩ (c_X9_addApple l G (h0H) (h0Hd) (h0Hk) (h0Hr) (h0Hn) (h0He) (h0HT) (h0HP) (h0HL) (h0HN) (h0HM) (h0HTt) (h0HTa) (h0HTf) (a1) (a2) (a3) _) (⟨va_cnB 3 hts gX10_apple_X9_addApple_n106 rfl rfl rfl (nw57 hN) (hts _ (List.mem_of_getElem? (i := 17) rfl)) (by decide +kernel) ⟨Nat.le_of_ble_eq_true rfl, Nat.le_of_ble_eq_true rfl⟩, (hts _ (List.mem_of_getElem? (i := 16) rfl)), (hts _ (List.mem_of_getElem? (i := 18) rfl))⟩) (g_preV h0H [.int a1, .int a2, .int a3] hP hD hK hN [1, 2, 3, 4, 5, 6, 7] rfl rfl 1 (ci := 8) rfl rfl) rfl rfl hl.1 rfl (lv_room (Nat.le_of_ble_eq_true rfl)) dX10_apple_66 ⟨Nat.le_of_ble_eq_true rfl, Nat.le_of_ble_eq_true rfl⟩) hP hD hS hA [1, 2, 3, 4, 5, 6, 7] [0] rfl rfl rfl (by decide) (fun r_14 u H locs hw hP hD hS => ?_)
        obtain ⟨rfl, rfl⟩ := hw
        have hP : va_P G.1 vwCl [(h0, .inr (9, [.ref h0H, .ref h0S, .ref h0I, .ref h0K, .ref h0Ex, .ref h0E, .ref h0D, .ref h0F, .ref h0B, .ref h0R, .ref h0G, .long 0, .long 1, .int 0, .int 0, .int 0]))] H := hP
        have hD : va_D A [(h0, .inr (9, [.ref h0H, .ref h0S, .ref h0I, .ref h0K, .ref h0Ex, .ref h0E, .ref h0D, .ref h0F, .ref h0B, .ref h0R, .ref h0G, .long 0, .long 1, .int 0, .int 0, .int 0]))] := hD
        have hP := hP.sub (ws' := []) [] rfl
        have hD := hD.sub (ws' := []) [] rfl rfl
        exact g_iret (v := 0) hx hb hr hlocks hP hD hS (⟨by simp [F_apple, k_2, k_6, k_10], rfl⟩) dX10_apple_69
      · have hP : va_P G.1 vwCl [(h0, .inr (9, [.ref h0H, .ref h0S, .ref h0I, .ref h0K, .ref h0Ex, .ref h0E, .ref h0D, .ref h0F, .ref h0B, .ref h0R, .ref h0G, .long 0, .long 1, .int 0, .int 0, .int 0])), (h0H, .inr (8, [.ref h0Hd, .ref h0Hk, .ref h0Hr, .ref h0Hn, .ref h0He, .ref h0HT, .ref h0HP, .ref h0HL, .ref h0HN, .ref h0HM, .int 0, .int 0, .int 0])), (h0Hk, .inl (G.2 0, 7, .inl (fun _ => 0))), (h0Hr, .inl (G.2 0, 7, .inl (fun _ => 0))), (h0HT, .inr (3, [.int 0, .ref h0HTt, .ref h0HTa, .ref h0HTf])), (h0HTt, .inl (G.2 0, 7, .inl (fun _ => 0))), (h0HTa, .inl (G.2 0, 7, .inl (fun _ => 0))), (h0HTf, .inl (G.2 0, 7, .inl (fun _ => 0)))] H := hP
        have hD : va_D A [(h0, .inr (9, [.ref h0H, .ref h0S, .ref h0I, .ref h0K, .ref h0Ex, .ref h0E, .ref h0D, .ref h0F, .ref h0B, .ref h0R, .ref h0G, .long 0, .long 1, .int 0, .int 0, .int 0])), (h0H, .inr (8, [.ref h0Hd, .ref h0Hk, .ref h0Hr, .ref h0Hn, .ref h0He, .ref h0HT, .ref h0HP, .ref h0HL, .ref h0HN, .ref h0HM, .int 0, .int 0, .int 0])), (h0Hk, .inl (G.2 0, 7, .inl (fun _ => 0))), (h0Hr, .inl (G.2 0, 7, .inl (fun _ => 0))), (h0HT, .inr (3, [.int 0, .ref h0HTt, .ref h0HTa, .ref h0HTf])), (h0HTt, .inl (G.2 0, 7, .inl (fun _ => 0))), (h0HTa, .inl (G.2 0, 7, .inl (fun _ => 0))), (h0HTf, .inl (G.2 0, 7, .inl (fun _ => 0)))] := hD
        refine lv_if_ne (tgt := 34) hx hb dX10_apple_26 (by decide) (fun c_15 => g_no (by decide) c_15) (fun _ => ?_)
        refine lv_aload_n hx hb dX10_apple_29 rfl (lv_at hl 0 rfl) ?_
        refine g_calli (wr := [(h0H, .inr (8, [.ref h0Hd, .ref h0Hk, .ref h0Hr, .ref h0Hn, .ref h0He, .ref h0HT, .ref h0HP, .ref h0HL, .ref h0HN, .ref h0HM, .int 0, .int 0, .int 0])), (h0Hk, .inl (G.2 0, 7, .inl (fun _ => 0))), (h0Hr, .inl (G.2 0, 7, .inl (fun _ => 0))), (h0HT, .inr (3, [.int 0, .ref h0HTt, .ref h0HTa, .ref h0HTf])), (h0HTt, .inl (G.2 0, 7, .inl (fun _ => 0))), (h0HTa, .inl (G.2 0, 7, .inl (fun _ => 0))), (h0HTf, .inl (G.2 0, 7, .inl (fun _ => 0)))]) (va_runV (As := []) (rest := []) ⟨hx, hb, hml, hown, hts⟩ (e_X10_refuseBad l G (h0) (h0H) (h0S) (h0I) (h0K) (h0Ex) (h0E) (h0D) (h0F) (h0B) (h0R) (h0G) (0) (1) (0) (0) (0) _) (cwV 0 hts gX10_apple_X10_refuseBad rfl rfl rfl (by decide +kernel) ⟨Nat.le_of_ble_eq_true rfl, Nat.le_of_ble_eq_true rfl⟩) (g_preV h0 [] hP hD hK hN [0] rfl rfl 0 (ci := 9) rfl rfl) rfl rfl hl.1 rfl (lv_room (Nat.le_of_ble_eq_true rfl)) dX10_apple_30 ⟨Nat.le_of_ble_eq_true rfl, Nat.le_of_ble_eq_true rfl⟩) hP hD hS hA [0] [1, 2, 3, 4, 5, 6, 7] rfl rfl rfl (by decide) (fun r_16 u H locs hw hP hD hS => ?_)
        obtain ⟨rfl, rfl⟩ := hw
        have hP : va_P G.1 vwCl [(h0H, .inr (8, [.ref h0Hd, .ref h0Hk, .ref h0Hr, .ref h0Hn, .ref h0He, .ref h0HT, .ref h0HP, .ref h0HL, .ref h0HN, .ref h0HM, .int 0, .int 0, .int 0])), (h0Hk, .inl (G.2 0, 7, .inl (fun _ => 0))), (h0Hr, .inl (G.2 0, 7, .inl (fun _ => 0))), (h0HT, .inr (3, [.int 0, .ref h0HTt, .ref h0HTa, .ref h0HTf])), (h0HTt, .inl (G.2 0, 7, .inl (fun _ => 0))), (h0HTa, .inl (G.2 0, 7, .inl (fun _ => 0))), (h0HTf, .inl (G.2 0, 7, .inl (fun _ => 0)))] H := hP
        have hD : va_D A [(h0H, .inr (8, [.ref h0Hd, .ref h0Hk, .ref h0Hr, .ref h0Hn, .ref h0He, .ref h0HT, .ref h0HP, .ref h0HL, .ref h0HN, .ref h0HM, .int 0, .int 0, .int 0])), (h0Hk, .inl (G.2 0, 7, .inl (fun _ => 0))), (h0Hr, .inl (G.2 0, 7, .inl (fun _ => 0))), (h0HT, .inr (3, [.int 0, .ref h0HTt, .ref h0HTa, .ref h0HTf])), (h0HTt, .inl (G.2 0, 7, .inl (fun _ => 0))), (h0HTa, .inl (G.2 0, 7, .inl (fun _ => 0))), (h0HTf, .inl (G.2 0, 7, .inl (fun _ => 0)))] := hD
        have hP := hP.sub (ws' := []) [] rfl
        have hD := hD.sub (ws' := []) [] rfl rfl
        exact g_iret (v := (-2)) hx hb hr hlocks hP hD hS (⟨by simp [F_apple, k_2, k_6, k_11], rfl⟩) dX10_apple_33
    · have hP : va_P G.1 vwCl [(h0, .inr (9, [.ref h0H, .ref h0S, .ref h0I, .ref h0K, .ref h0Ex, .ref h0E, .ref h0D, .ref h0F, .ref h0B, .ref h0R, .ref h0G, .long 0, .long 1, .int 0, .int 0, .int 0])), (h0H, .inr (8, [.ref h0Hd, .ref h0Hk, .ref h0Hr, .ref h0Hn, .ref h0He, .ref h0HT, .ref h0HP, .ref h0HL, .ref h0HN, .ref h0HM, .int 0, .int 0, .int 0])), (h0Hk, .inl (G.2 0, 7, .inl (fun _ => 0))), (h0Hr, .inl (G.2 0, 7, .inl (fun _ => 0))), (h0HT, .inr (3, [.int 0, .ref h0HTt, .ref h0HTa, .ref h0HTf])), (h0HTt, .inl (G.2 0, 7, .inl (fun _ => 0))), (h0HTa, .inl (G.2 0, 7, .inl (fun _ => 0))), (h0HTf, .inl (G.2 0, 7, .inl (fun _ => 0)))] H := hP
      have hD : va_D A [(h0, .inr (9, [.ref h0H, .ref h0S, .ref h0I, .ref h0K, .ref h0Ex, .ref h0E, .ref h0D, .ref h0F, .ref h0B, .ref h0R, .ref h0G, .long 0, .long 1, .int 0, .int 0, .int 0])), (h0H, .inr (8, [.ref h0Hd, .ref h0Hk, .ref h0Hr, .ref h0Hn, .ref h0He, .ref h0HT, .ref h0HP, .ref h0HL, .ref h0HN, .ref h0HM, .int 0, .int 0, .int 0])), (h0Hk, .inl (G.2 0, 7, .inl (fun _ => 0))), (h0Hr, .inl (G.2 0, 7, .inl (fun _ => 0))), (h0HT, .inr (3, [.int 0, .ref h0HTt, .ref h0HTa, .ref h0HTf])), (h0HTt, .inl (G.2 0, 7, .inl (fun _ => 0))), (h0HTa, .inl (G.2 0, 7, .inl (fun _ => 0))), (h0HTf, .inl (G.2 0, 7, .inl (fun _ => 0)))] := hD
      refine lv_if_eq (tgt := 29) hx hb dX10_apple_16 (by decide) (fun _ => ?_) (fun c_17 => g_no (by decide) c_17)
      refine lv_aload_n hx hb dX10_apple_29 rfl (lv_at hl 0 rfl) ?_
      refine g_calli (wr := [(h0H, .inr (8, [.ref h0Hd, .ref h0Hk, .ref h0Hr, .ref h0Hn, .ref h0He, .ref h0HT, .ref h0HP, .ref h0HL, .ref h0HN, .ref h0HM, .int 0, .int 0, .int 0])), (h0Hk, .inl (G.2 0, 7, .inl (fun _ => 0))), (h0Hr, .inl (G.2 0, 7, .inl (fun _ => 0))), (h0HT, .inr (3, [.int 0, .ref h0HTt, .ref h0HTa, .ref h0HTf])), (h0HTt, .inl (G.2 0, 7, .inl (fun _ => 0))), (h0HTa, .inl (G.2 0, 7, .inl (fun _ => 0))), (h0HTf, .inl (G.2 0, 7, .inl (fun _ => 0)))]) (va_runV (As := []) (rest := []) ⟨hx, hb, hml, hown, hts⟩ (e_X10_refuseBad l G (h0) (h0H) (h0S) (h0I) (h0K) (h0Ex) (h0E) (h0D) (h0F) (h0B) (h0R) (h0G) (0) (1) (0) (0) (0) _) (cwV 0 hts gX10_apple_X10_refuseBad rfl rfl rfl (by decide +kernel) ⟨Nat.le_of_ble_eq_true rfl, Nat.le_of_ble_eq_true rfl⟩) (g_preV h0 [] hP hD hK hN [0] rfl rfl 0 (ci := 9) rfl rfl) rfl rfl hl.1 rfl (lv_room (Nat.le_of_ble_eq_true rfl)) dX10_apple_30 ⟨Nat.le_of_ble_eq_true rfl, Nat.le_of_ble_eq_true rfl⟩) hP hD hS hA [0] [1, 2, 3, 4, 5, 6, 7] rfl rfl rfl (by decide) (fun r_18 u H locs hw hP hD hS => ?_)
      obtain ⟨rfl, rfl⟩ := hw
      have hP : va_P G.1 vwCl [(h0H, .inr (8, [.ref h0Hd, .ref h0Hk, .ref h0Hr, .ref h0Hn, .ref h0He, .ref h0HT, .ref h0HP, .ref h0HL, .ref h0HN, .ref h0HM, .int 0, .int 0, .int 0])), (h0Hk, .inl (G.2 0, 7, .inl (fun _ => 0))), (h0Hr, .inl (G.2 0, 7, .inl (fun _ => 0))), (h0HT, .inr (3, [.int 0, .ref h0HTt, .ref h0HTa, .ref h0HTf])), (h0HTt, .inl (G.2 0, 7, .inl (fun _ => 0))), (h0HTa, .inl (G.2 0, 7, .inl (fun _ => 0))), (h0HTf, .inl (G.2 0, 7, .inl (fun _ => 0)))] H := hP
      have hD : va_D A [(h0H, .inr (8, [.ref h0Hd, .ref h0Hk, .ref h0Hr, .ref h0Hn, .ref h0He, .ref h0HT, .ref h0HP, .ref h0HL, .ref h0HN, .ref h0HM, .int 0, .int 0, .int 0])), (h0Hk, .inl (G.2 0, 7, .inl (fun _ => 0))), (h0Hr, .inl (G.2 0, 7, .inl (fun _ => 0))), (h0HT, .inr (3, [.int 0, .ref h0HTt, .ref h0HTa, .ref h0HTf])), (h0HTt, .inl (G.2 0, 7, .inl (fun _ => 0))), (h0HTa, .inl (G.2 0, 7, .inl (fun _ => 0))), (h0HTf, .inl (G.2 0, 7, .inl (fun _ => 0)))] := hD
      have hP := hP.sub (ws' := []) [] rfl
      have hD := hD.sub (ws' := []) [] rfl rfl
      exact g_iret (v := (-2)) hx hb hr hlocks hP hD hS (⟨by simp [F_apple, k_2, k_7], rfl⟩) dX10_apple_33
  · have hP : va_P G.1 vwCl [(h0, .inr (9, [.ref h0H, .ref h0S, .ref h0I, .ref h0K, .ref h0Ex, .ref h0E, .ref h0D, .ref h0F, .ref h0B, .ref h0R, .ref h0G, .long 0, .long 1, .int 0, .int 0, .int 0])), (h0H, .inr (8, [.ref h0Hd, .ref h0Hk, .ref h0Hr, .ref h0Hn, .ref h0He, .ref h0HT, .ref h0HP, .ref h0HL, .ref h0HN, .ref h0HM, .int 0, .int 0, .int 0])), (h0Hk, .inl (G.2 0, 7, .inl (fun _ => 0))), (h0Hr, .inl (G.2 0, 7, .inl (fun _ => 0))), (h0HT, .inr (3, [.int 0, .ref h0HTt, .ref h0HTa, .ref h0HTf])), (h0HTt, .inl (G.2 0, 7, .inl (fun _ => 0))), (h0HTa, .inl (G.2 0, 7, .inl (fun _ => 0))), (h0HTf, .inl (G.2 0, 7, .inl (fun _ => 0)))] H := hP
    have hD : va_D A [(h0, .inr (9, [.ref h0H, .ref h0S, .ref h0I, .ref h0K, .ref h0Ex, .ref h0E, .ref h0D, .ref h0F, .ref h0B, .ref h0R, .ref h0G, .long 0, .long 1, .int 0, .int 0, .int 0])), (h0H, .inr (8, [.ref h0Hd, .ref h0Hk, .ref h0Hr, .ref h0Hn, .ref h0He, .ref h0HT, .ref h0HP, .ref h0HL, .ref h0HN, .ref h0HM, .int 0, .int 0, .int 0])), (h0Hk, .inl (G.2 0, 7, .inl (fun _ => 0))), (h0Hr, .inl (G.2 0, 7, .inl (fun _ => 0))), (h0HT, .inr (3, [.int 0, .ref h0HTt, .ref h0HTa, .ref h0HTf])), (h0HTt, .inl (G.2 0, 7, .inl (fun _ => 0))), (h0HTa, .inl (G.2 0, 7, .inl (fun _ => 0))), (h0HTf, .inl (G.2 0, 7, .inl (fun _ => 0)))] := hD
    refine lv_if_eq (tgt := 29) hx hb dX10_apple_6 (by decide) (fun _ => ?_) (fun c_19 => g_no (by decide) c_19)
    refine lv_aload_n hx hb dX10_apple_29 rfl (lv_at hl 0 rfl) ?_
    refine g_calli (wr := [(h0H, .inr (8, [.ref h0Hd, .ref h0Hk, .ref h0Hr, .ref h0Hn, .ref h0He, .ref h0HT, .ref h0HP, .ref h0HL, .ref h0HN, .ref h0HM, .int 0, .int 0, .int 0])), (h0Hk, .inl (G.2 0, 7, .inl (fun _ => 0))), (h0Hr, .inl (G.2 0, 7, .inl (fun _ => 0))), (h0HT, .inr (3, [.int 0, .ref h0HTt, .ref h0HTa, .ref h0HTf])), (h0HTt, .inl (G.2 0, 7, .inl (fun _ => 0))), (h0HTa, .inl (G.2 0, 7, .inl (fun _ => 0))), (h0HTf, .inl (G.2 0, 7, .inl (fun _ => 0)))]) (va_runV (As := []) (rest := []) ⟨hx, hb, hml, hown, hts⟩ (e_X10_refuseBad l G (h0) (h0H) (h0S) (h0I) (h0K) (h0Ex) (h0E) (h0D) (h0F) (h0B) (h0R) (h0G) (0) (1) (0) (0) (0) _) (cwV 0 hts gX10_apple_X10_refuseBad rfl rfl rfl (by decide +kernel) ⟨Nat.le_of_ble_eq_true rfl, Nat.le_of_ble_eq_true rfl⟩) (g_preV h0 [] hP hD hK hN [0] rfl rfl 0 (ci := 9) rfl rfl) rfl rfl hl.1 rfl (lv_room (Nat.le_of_ble_eq_true rfl)) dX10_apple_30 ⟨Nat.le_of_ble_eq_true rfl, Nat.le_of_ble_eq_true rfl⟩) hP hD hS hA [0] [1, 2, 3, 4, 5, 6, 7] rfl rfl rfl (by decide) (fun r_20 u H locs hw hP hD hS => ?_)
    obtain ⟨rfl, rfl⟩ := hw
    have hP : va_P G.1 vwCl [(h0H, .inr (8, [.ref h0Hd, .ref h0Hk, .ref h0Hr, .ref h0Hn, .ref h0He, .ref h0HT, .ref h0HP, .ref h0HL, .ref h0HN, .ref h0HM, .int 0, .int 0, .int 0])), (h0Hk, .inl (G.2 0, 7, .inl (fun _ => 0))), (h0Hr, .inl (G.2 0, 7, .inl (fun _ => 0))), (h0HT, .inr (3, [.int 0, .ref h0HTt, .ref h0HTa, .ref h0HTf])), (h0HTt, .inl (G.2 0, 7, .inl (fun _ => 0))), (h0HTa, .inl (G.2 0, 7, .inl (fun _ => 0))), (h0HTf, .inl (G.2 0, 7, .inl (fun _ => 0)))] H := hP
    have hD : va_D A [(h0H, .inr (8, [.ref h0Hd, .ref h0Hk, .ref h0Hr, .ref h0Hn, .ref h0He, .ref h0HT, .ref h0HP, .ref h0HL, .ref h0HN, .ref h0HM, .int 0, .int 0, .int 0])), (h0Hk, .inl (G.2 0, 7, .inl (fun _ => 0))), (h0Hr, .inl (G.2 0, 7, .inl (fun _ => 0))), (h0HT, .inr (3, [.int 0, .ref h0HTt, .ref h0HTa, .ref h0HTf])), (h0HTt, .inl (G.2 0, 7, .inl (fun _ => 0))), (h0HTa, .inl (G.2 0, 7, .inl (fun _ => 0))), (h0HTf, .inl (G.2 0, 7, .inl (fun _ => 0)))] := hD
    have hP := hP.sub (ws' := []) [] rfl
    have hD := hD.sub (ws' := []) [] rfl rfl
    exact g_iret (v := (-2)) hx hb hr hlocks hP hD hS (⟨by simp [F_apple, k_3], rfl⟩) dX10_apple_33
theorem dX10_biter_0 : decode cX10_biter 0 = .ok (.iload_n 1, 1) := by decide +kernel
theorem dX10_biter_1 : decode cX10_biter 1 = .ok (.iconst 0, 1) := by decide +kernel
theorem dX10_biter_2 : decode cX10_biter 2 = .ok (.iconst 5, 1) := by decide +kernel
set_option maxRecDepth 20000 in
theorem ggX10_biter_X10_within : GoodIn wsX10_biter wsX10_within := goodIn_r _ [5] (by decide +kernel) (by decide +kernel)
set_option maxRecDepth 20000 in
theorem gX10_biter_X10_within : GoodIn wsX10_biter (va_wsS RX10 88 yX10_within wsX10_within) := goodIn_app (goodIn_of _ (by decide +kernel)) ggX10_biter_X10_within
theorem dX10_biter_3 : decode cX10_biter 3 = .ok (.invokestatic 88, 3) := by decide +kernel
theorem dX10_biter_6 : decode cX10_biter 6 = .ok (.ifCond .eq 13, 3) := by decide +kernel
theorem dX10_biter_9 : decode cX10_biter 9 = .ok (.iload_n 2, 1) := by decide +kernel
theorem dX10_biter_10 : decode cX10_biter 10 = .ok (.iconst 1, 1) := by decide +kernel
theorem dX10_biter_11 : decode cX10_biter 11 = .ok (.bipush 9, 2) := by decide +kernel
theorem dX10_biter_13 : decode cX10_biter 13 = .ok (.invokestatic 88, 3) := by decide +kernel
theorem dX10_biter_16 : decode cX10_biter 16 = .ok (.ifCond .ne 8, 3) := by decide +kernel
theorem dX10_biter_24 : decode cX10_biter 24 = .ok (.aload_n 0, 1) := by decide +kernel
theorem dX10_biter_25 : decode cX10_biter 25 = .ok (.getfield 10, 3) := by decide +kernel
theorem dX10_biter_28 : decode cX10_biter 28 = .ok (.getfield 110, 3) := by decide +kernel
theorem dX10_biter_31 : decode cX10_biter 31 = .ok (.iconst 4, 1) := by decide +kernel
theorem dX10_biter_32 : decode cX10_biter 32 = .ok (.if_icmp .lt 8, 3) := by decide +kernel
theorem dX10_biter_40 : decode cX10_biter 40 = .ok (.aload_n 0, 1) := by decide +kernel
theorem dX10_biter_41 : decode cX10_biter 41 = .ok (.getfield 10, 3) := by decide +kernel
theorem dX10_biter_44 : decode cX10_biter 44 = .ok (.iconst 0, 1) := by decide +kernel
theorem dX10_biter_45 : decode cX10_biter 45 = .ok (.putfield 100, 3) := by decide +kernel
theorem dX10_biter_48 : decode cX10_biter 48 = .ok (.aload_n 0, 1) := by decide +kernel
theorem dX10_biter_49 : decode cX10_biter 49 = .ok (.getfield 10, 3) := by decide +kernel
theorem dX10_biter_52 : decode cX10_biter 52 = .ok (.iload_n 1, 1) := by decide +kernel
theorem dX10_biter_53 : decode cX10_biter 53 = .ok (.iload_n 2, 1) := by decide +kernel
set_option maxRecDepth 20000 in
theorem ggX10_biter_X9_addBiter : GoodIn wsX10_biter wsX9_addBiter := goodIn_r _ [19, 20, 21, 22, 39, 40, 41, 42, 43, 44, 45, 46, 47, 48, 49, 50, 51] (by decide +kernel) (by decide +kernel)
set_option maxRecDepth 20000 in
theorem gX10_biter_X9_addBiter_n113 : GoodIn wsX10_biter (wsX9_addBiter) := ggX10_biter_X9_addBiter
theorem dX10_biter_54 : decode cX10_biter 54 = .ok (.invokevirtual 113, 3) := by decide +kernel
theorem dX10_biter_57 : decode cX10_biter 57 = .ok (.ireturn, 1) := by decide +kernel
theorem dX10_biter_19 : decode cX10_biter 19 = .ok (.aload_n 0, 1) := by decide +kernel
set_option maxRecDepth 20000 in
theorem ggX10_biter_X10_refuseBad : GoodIn wsX10_biter wsX10_refuseBad := goodIn_r _ [9, 10, 23, 24, 25, 26, 27, 28, 29, 30, 31, 32, 33, 34, 35, 36, 37, 38] (by decide +kernel) (by decide +kernel)
set_option maxRecDepth 20000 in
theorem gX10_biter_X10_refuseBad : GoodIn wsX10_biter (wsV RX10 92 RX10 yX10_refuseBad wsX10_refuseBad) := goodIn_app (goodIn_of _ (by decide +kernel)) ggX10_biter_X10_refuseBad
theorem dX10_biter_20 : decode cX10_biter 20 = .ok (.invokevirtual 92, 3) := by decide +kernel
theorem dX10_biter_23 : decode cX10_biter 23 = .ok (.ireturn, 1) := by decide +kernel
set_option maxHeartbeats 8000000 in
set_option maxRecDepth 100000 in
theorem c_X10_biter (l : Launch) (G : gG) (h0 : Nat) (h0H : Nat) (h0S : Nat) (h0I : Nat) (h0K : Nat) (h0Ex : Nat) (h0E : Nat) (h0D : Nat) (h0F : Nat) (h0B : Nat) (h0R : Nat) (h0G : Nat) (h0Hd : Nat) (h0Hk : Nat) (h0Hr : Nat) (h0Hn : Nat) (h0He : Nat) (h0HT : Nat) (h0HP : Nat) (h0HL : Nat) (h0HN : Nat) (h0HM : Nat) (a1 : Int32) (a2 : Int32) (sz : Nat) : gI G l yX10_biter wsX10_biter ({ frames := 1, cells := 0, slots := 0, locals := 23 } : Room) [.ref h0, .int a1, .int a2] [(h0, .inr (9, [.ref h0H, .ref h0S, .ref h0I, .ref h0K, .ref h0Ex, .ref h0E, .ref h0D, .ref h0F, .ref h0B, .ref h0R, .ref h0G, .long 0, .long 1, .int 0, .int 0, .int 0])), (h0H, .inr (8, [.ref h0Hd, .ref h0Hk, .ref h0Hr, .ref h0Hn, .ref h0He, .ref h0HT, .ref h0HP, .ref h0HL, .ref h0HN, .ref h0HM, .int 0, .int 0, .int 0])), (h0Hn, .inl (G.2 0, 4, .inl (fun _ => 0))), (h0He, .inl (G.2 0, 4, .inl (fun _ => 0)))] sz (fun (r : Int32) (u : va_W) => (r = (F_biter a1 a2) ∧ u = [])) := by
  refine Met.ofW (cc := cX10_biter) (maxL := 3) (ret := (some .int)) (by decide) rfl ?_
  intro p e s m args below meth c s₁ B hml hv
  obtain ⟨rfl, hsz, hP, hK, hD0, hN⟩ := hv
  have hx := B.exec
  have hb := B.bytes
  have hr := B.returns
  have hts := atoms_spec (ws := wsX10_biter) B.pre
  have hown : s.vm.findClass RX10 = some m.cls := findClass_of_methodNamed B.named
  have hlocks := B.notSynchronized
  subst hsz
  have hD := hD0.self (sz := s.heap.size)
  generalize hAe : va_A [(h0, .inr (9, [.ref h0H, .ref h0S, .ref h0I, .ref h0K, .ref h0Ex, .ref h0E, .ref h0D, .ref h0F, .ref h0B, .ref h0R, .ref h0G, .long 0, .long 1, .int 0, .int 0, .int 0])), (h0H, .inr (8, [.ref h0Hd, .ref h0Hk, .ref h0Hr, .ref h0Hn, .ref h0He, .ref h0HT, .ref h0HP, .ref h0HL, .ref h0HN, .ref h0HM, .int 0, .int 0, .int 0])), (h0Hn, .inl (G.2 0, 4, .inl (fun _ => 0))), (h0He, .inl (G.2 0, 4, .inl (fun _ => 0)))] s.heap.size = A at hD ⊢
  have hA : ∀ q : Nat, s.heap.size ≤ q → A q := fun q h => by rw [← hAe]; exact Or.inr h
  have hS : va_S A s.heap s.heap [] := va_S.rf
  have hP : va_P G.1 vwCl [(h0, .inr (9, [.ref h0H, .ref h0S, .ref h0I, .ref h0K, .ref h0Ex, .ref h0E, .ref h0D, .ref h0F, .ref h0B, .ref h0R, .ref h0G, .long 0, .long 1, .int 0, .int 0, .int 0])), (h0H, .inr (8, [.ref h0Hd, .ref h0Hk, .ref h0Hr, .ref h0Hn, .ref h0He, .ref h0HT, .ref h0HP, .ref h0HL, .ref h0HN, .ref h0HM, .int 0, .int 0, .int 0])), (h0Hn, .inl (G.2 0, 4, .inl (fun _ => 0))), (h0He, .inl (G.2 0, 4, .inl (fun _ => 0)))] s.heap := hP
  have hl := lv_entry ([.ref h0, .int a1, .int a2]) (n := 3) (Nat.le_of_ble_eq_true rfl)
  rw [lg_entry_eq]
  generalize (lg_sl ([.ref h0, .int a1, .int a2]) ++ List.replicate (3 - (lg_sl ([.ref h0, .int a1, .int a2])).length) Slot.unset).toArray = ls at hl ⊢
  have hl : lv_has ls 3 [(0, .ref h0), (1, .int a1), (2, .int a2)] := hl
  refine lv_iload_n hx hb dX10_biter_0 rfl (lv_at hl 1 rfl) ?_
  refine lv_iconst (v := 0) hx hb dX10_biter_1 (by decide) ?_
  refine lv_iconst (v := 5) hx hb dX10_biter_2 (by decide) ?_
  refine g_calli (wr := [(h0, .inr (9, [.ref h0H, .ref h0S, .ref h0I, .ref h0K, .ref h0Ex, .ref h0E, .ref h0D, .ref h0F, .ref h0B, .ref h0R, .ref h0G, .long 0, .long 1, .int 0, .int 0, .int 0])), (h0H, .inr (8, [.ref h0Hd, .ref h0Hk, .ref h0Hr, .ref h0Hn, .ref h0He, .ref h0HT, .ref h0HP, .ref h0HL, .ref h0HN, .ref h0HM, .int 0, .int 0, .int 0])), (h0Hn, .inl (G.2 0, 4, .inl (fun _ => 0))), (h0He, .inl (G.2 0, 4, .inl (fun _ => 0)))]) (va_runS (As := [.int a1, .int 0, .int 5]) (rest := []) ⟨hx, hb, hml, hown, hts⟩ (c_X10_within l G (a1) (0) (5) _) (va_cwS 3 hts gX10_biter_X10_within rfl rfl rfl (by decide +kernel) ⟨Nat.le_of_ble_eq_true rfl, Nat.le_of_ble_eq_true rfl⟩) (g_preS [.int a1, .int 0, .int 5] hP hD hK hN [] rfl rfl) rfl rfl hl.1 rfl (lv_room (Nat.le_of_ble_eq_true rfl)) dX10_biter_3 ⟨Nat.le_of_ble_eq_true rfl, Nat.le_of_ble_eq_true rfl⟩) hP hD hS hA [] [0, 1, 2, 3] rfl rfl rfl (by decide) (fun r_1 u H locs hw hP hD hS => ?_)
  rcases hw with ⟨k_2, rfl, rfl⟩ | ⟨k_3, rfl, rfl⟩
  · have hP : va_P G.1 vwCl [(h0, .inr (9, [.ref h0H, .ref h0S, .ref h0I, .ref h0K, .ref h0Ex, .ref h0E, .ref h0D, .ref h0F, .ref h0B, .ref h0R, .ref h0G, .long 0, .long 1, .int 0, .int 0, .int 0])), (h0H, .inr (8, [.ref h0Hd, .ref h0Hk, .ref h0Hr, .ref h0Hn, .ref h0He, .ref h0HT, .ref h0HP, .ref h0HL, .ref h0HN, .ref h0HM, .int 0, .int 0, .int 0])), (h0Hn, .inl (G.2 0, 4, .inl (fun _ => 0))), (h0He, .inl (G.2 0, 4, .inl (fun _ => 0)))] H := hP
    have hD : va_D A [(h0, .inr (9, [.ref h0H, .ref h0S, .ref h0I, .ref h0K, .ref h0Ex, .ref h0E, .ref h0D, .ref h0F, .ref h0B, .ref h0R, .ref h0G, .long 0, .long 1, .int 0, .int 0, .int 0])), (h0H, .inr (8, [.ref h0Hd, .ref h0Hk, .ref h0Hr, .ref h0Hn, .ref h0He, .ref h0HT, .ref h0HP, .ref h0HL, .ref h0HN, .ref h0HM, .int 0, .int 0, .int 0])), (h0Hn, .inl (G.2 0, 4, .inl (fun _ => 0))), (h0He, .inl (G.2 0, 4, .inl (fun _ => 0)))] := hD
    refine lv_if_eq (tgt := 19) hx hb dX10_biter_6 (by decide) (fun c_4 => g_no c_4 (by decide)) (fun _ => ?_)
    refine lv_iload_n hx hb dX10_biter_9 rfl (lv_at hl 2 rfl) ?_
    refine lv_iconst (v := 1) hx hb dX10_biter_10 (by decide) ?_
    refine lv_bipush (v := 9) hx hb dX10_biter_11 (by decide) ?_
    refine g_calli (wr := [(h0, .inr (9, [.ref h0H, .ref h0S, .ref h0I, .ref h0K, .ref h0Ex, .ref h0E, .ref h0D, .ref h0F, .ref h0B, .ref h0R, .ref h0G, .long 0, .long 1, .int 0, .int 0, .int 0])), (h0H, .inr (8, [.ref h0Hd, .ref h0Hk, .ref h0Hr, .ref h0Hn, .ref h0He, .ref h0HT, .ref h0HP, .ref h0HL, .ref h0HN, .ref h0HM, .int 0, .int 0, .int 0])), (h0Hn, .inl (G.2 0, 4, .inl (fun _ => 0))), (h0He, .inl (G.2 0, 4, .inl (fun _ => 0)))]) (va_runS (As := [.int a2, .int 1, .int 9]) (rest := []) ⟨hx, hb, hml, hown, hts⟩ (c_X10_within l G (a2) (1) (9) _) (va_cwS 3 hts gX10_biter_X10_within rfl rfl rfl (by decide +kernel) ⟨Nat.le_of_ble_eq_true rfl, Nat.le_of_ble_eq_true rfl⟩) (g_preS [.int a2, .int 1, .int 9] hP hD hK hN [] rfl rfl) rfl rfl hl.1 rfl (lv_room (Nat.le_of_ble_eq_true rfl)) dX10_biter_13 ⟨Nat.le_of_ble_eq_true rfl, Nat.le_of_ble_eq_true rfl⟩) hP hD hS hA [] [0, 1, 2, 3] rfl rfl rfl (by decide) (fun r_5 u H locs hw hP hD hS => ?_)
    rcases hw with ⟨k_6, rfl, rfl⟩ | ⟨k_7, rfl, rfl⟩
    · have hP : va_P G.1 vwCl [(h0, .inr (9, [.ref h0H, .ref h0S, .ref h0I, .ref h0K, .ref h0Ex, .ref h0E, .ref h0D, .ref h0F, .ref h0B, .ref h0R, .ref h0G, .long 0, .long 1, .int 0, .int 0, .int 0])), (h0H, .inr (8, [.ref h0Hd, .ref h0Hk, .ref h0Hr, .ref h0Hn, .ref h0He, .ref h0HT, .ref h0HP, .ref h0HL, .ref h0HN, .ref h0HM, .int 0, .int 0, .int 0])), (h0Hn, .inl (G.2 0, 4, .inl (fun _ => 0))), (h0He, .inl (G.2 0, 4, .inl (fun _ => 0)))] H := hP
      have hD : va_D A [(h0, .inr (9, [.ref h0H, .ref h0S, .ref h0I, .ref h0K, .ref h0Ex, .ref h0E, .ref h0D, .ref h0F, .ref h0B, .ref h0R, .ref h0G, .long 0, .long 1, .int 0, .int 0, .int 0])), (h0H, .inr (8, [.ref h0Hd, .ref h0Hk, .ref h0Hr, .ref h0Hn, .ref h0He, .ref h0HT, .ref h0HP, .ref h0HL, .ref h0HN, .ref h0HM, .int 0, .int 0, .int 0])), (h0Hn, .inl (G.2 0, 4, .inl (fun _ => 0))), (h0He, .inl (G.2 0, 4, .inl (fun _ => 0)))] := hD
      refine lv_if_ne (tgt := 24) hx hb dX10_biter_16 (by decide) (fun _ => ?_) (fun c_8 => g_no c_8 (by decide))
      refine lv_aload_n hx hb dX10_biter_24 rfl (lv_at hl 0 rfl) ?_
      refine va_get (D := G.1) (ci := 9) (v := .ref h0H) (C := RX10) (T := TX10) (N := 16) hx hb hts (fun _ h => List.mem_cons_of_mem _ (List.mem_append_left _ (List.mem_append_right _ h))) hown hK hP 0 rfl rfl 0 (by decide) (hts _ (List.mem_of_getElem? (i := 1) rfl)) (fun _ h9 => h9) rfl dX10_biter_25 ?_
      refine va_getN (D := G.1) (ci := 8) (v := .int 0) (C := RX9) (T := TX9) (N := 13) hx hb hts (fun _ h => List.mem_cons_of_mem _ (List.mem_append_right _ h)) hown hK hP 1 rfl rfl 11 (by decide) (va_Nw.use rfl (nw36 hN)) (fun _ h9 => h9) rfl dX10_biter_28 ?_
      refine lv_iconst (v := 4) hx hb dX10_biter_31 (by decide) ?_
      refine lv_icmp_lt (tgt := 40) hx hb dX10_biter_32 (by decide) (fun _ => ?_) (fun c_9 => g_no (by decide) c_9)
      refine lv_aload_n hx hb dX10_biter_40 rfl (lv_at hl 0 rfl) ?_
      refine va_get (D := G.1) (ci := 9) (v := .ref h0H) (C := RX10) (T := TX10) (N := 16) hx hb hts (fun _ h => List.mem_cons_of_mem _ (List.mem_append_left _ (List.mem_append_right _ h))) hown hK hP 0 rfl rfl 0 (by decide) (hts _ (List.mem_of_getElem? (i := 1) rfl)) (fun _ h9 => h9) rfl dX10_biter_41 ?_
      refine lv_iconst (v := 0) hx hb dX10_biter_44 (by decide) ?_
      refine va_putN (D := G.1) (ci := 8) (v := .int 0) (ty := .int) (C := RX9) (T := TX9) (N := 13) hx hb hts (fun _ h => List.mem_cons_of_mem _ (List.mem_append_right _ h)) tyX9 tyX9_ok nmX9 hown hK hP hD hS 1 rfl rfl 12 (by decide) (va_Nw.use rfl (nw37 hN)) (fun _ h9 => h9) rfl (by decide +kernel) rfl rfl (Nat.le_of_ble_eq_true rfl) dX10_biter_45 (fun H locs hP hD hS => ?_)
      have hP : va_P G.1 vwCl [(h0, .inr (9, [.ref h0H, .ref h0S, .ref h0I, .ref h0K, .ref h0Ex, .ref h0E, .ref h0D, .ref h0F, .ref h0B, .ref h0R, .ref h0G, .long 0, .long 1, .int 0, .int 0, .int 0])), (h0H, .inr (8, [.ref h0Hd, .ref h0Hk, .ref h0Hr, .ref h0Hn, .ref h0He, .ref h0HT, .ref h0HP, .ref h0HL, .ref h0HN, .ref h0HM, .int 0, .int 0, .int 0])), (h0Hn, .inl (G.2 0, 4, .inl (fun _ => 0))), (h0He, .inl (G.2 0, 4, .inl (fun _ => 0)))] H := hP
      have hD : va_D A [(h0, .inr (9, [.ref h0H, .ref h0S, .ref h0I, .ref h0K, .ref h0Ex, .ref h0E, .ref h0D, .ref h0F, .ref h0B, .ref h0R, .ref h0G, .long 0, .long 1, .int 0, .int 0, .int 0])), (h0H, .inr (8, [.ref h0Hd, .ref h0Hk, .ref h0Hr, .ref h0Hn, .ref h0He, .ref h0HT, .ref h0HP, .ref h0HL, .ref h0HN, .ref h0HM, .int 0, .int 0, .int 0])), (h0Hn, .inl (G.2 0, 4, .inl (fun _ => 0))), (h0He, .inl (G.2 0, 4, .inl (fun _ => 0)))] := hD
      refine lv_aload_n hx hb dX10_biter_48 rfl (lv_at hl 0 rfl) ?_
      refine va_get (D := G.1) (ci := 9) (v := .ref h0H) (C := RX10) (T := TX10) (N := 16) hx hb hts (fun _ h => List.mem_cons_of_mem _ (List.mem_append_left _ (List.mem_append_right _ h))) hown hK hP 0 rfl rfl 0 (by decide) (hts _ (List.mem_of_getElem? (i := 1) rfl)) (fun _ h9 => h9) rfl dX10_biter_49 ?_
      refine lv_iload_n hx hb dX10_biter_52 rfl (lv_at hl 1 rfl) ?_
      refine lv_iload_n hx hb dX10_biter_53 rfl (lv_at hl 2 rfl) ?_
      refine g_calli (wr := [(h0, .inr (9, [.ref h0H, .ref h0S, .ref h0I, .ref h0K, .ref h0Ex, .ref h0E, .ref h0D, .ref h0F, .ref h0B, .ref h0R, .ref h0G, .long 0, .long 1, .int 0, .int 0, .int 0]))]) (va_runVN (C := RX9) (As := [.int a1, .int a2]) (rest := []) ⟨hx, hb, hml, hown, hts⟩ (c_X9_addBiter l G (h0H) (h0Hd) (h0Hk) (h0Hr) (h0Hn) (h0He) (h0HT) (h0HP) (h0HL) (h0HN) (h0HM) (a1) (a2) _) (⟨va_cnB 2 hts gX10_biter_X9_addBiter_n113 rfl rfl rfl (nw58 hN) (hts _ (List.mem_of_getElem? (i := 17) rfl)) (by decide +kernel) ⟨Nat.le_of_ble_eq_true rfl, Nat.le_of_ble_eq_true rfl⟩, (hts _ (List.mem_of_getElem? (i := 16) rfl)), (hts _ (List.mem_of_getElem? (i := 18) rfl))⟩) (g_preV h0H [.int a1, .int a2] hP hD hK hN [1, 2, 3] rfl rfl 1 (ci := 8) rfl rfl) rfl rfl hl.1 rfl (lv_room (Nat.le_of_ble_eq_true rfl)) dX10_biter_54 ⟨Nat.le_of_ble_eq_true rfl, Nat.le_of_ble_eq_true rfl⟩) hP hD hS hA [1, 2, 3] [0] rfl rfl rfl (by decide) (fun r_10 u H locs hw hP hD hS => ?_)
      obtain ⟨rfl, rfl⟩ := hw
      have hP : va_P G.1 vwCl [(h0, .inr (9, [.ref h0H, .ref h0S, .ref h0I, .ref h0K, .ref h0Ex, .ref h0E, .ref h0D, .ref h0F, .ref h0B, .ref h0R, .ref h0G, .long 0, .long 1, .int 0, .int 0, .int 0]))] H := hP
      have hD : va_D A [(h0, .inr (9, [.ref h0H, .ref h0S, .ref h0I, .ref h0K, .ref h0Ex, .ref h0E, .ref h0D, .ref h0F, .ref h0B, .ref h0R, .ref h0G, .long 0, .long 1, .int 0, .int 0, .int 0]))] := hD
      have hP := hP.sub (ws' := []) [] rfl
      have hD := hD.sub (ws' := []) [] rfl rfl
      exact g_iret (v := 0) hx hb hr hlocks hP hD hS (⟨by simp [F_biter, k_2, k_6], rfl⟩) dX10_biter_57
    · have hP : va_P G.1 vwCl [(h0, .inr (9, [.ref h0H, .ref h0S, .ref h0I, .ref h0K, .ref h0Ex, .ref h0E, .ref h0D, .ref h0F, .ref h0B, .ref h0R, .ref h0G, .long 0, .long 1, .int 0, .int 0, .int 0])), (h0H, .inr (8, [.ref h0Hd, .ref h0Hk, .ref h0Hr, .ref h0Hn, .ref h0He, .ref h0HT, .ref h0HP, .ref h0HL, .ref h0HN, .ref h0HM, .int 0, .int 0, .int 0])), (h0Hn, .inl (G.2 0, 4, .inl (fun _ => 0))), (h0He, .inl (G.2 0, 4, .inl (fun _ => 0)))] H := hP
      have hD : va_D A [(h0, .inr (9, [.ref h0H, .ref h0S, .ref h0I, .ref h0K, .ref h0Ex, .ref h0E, .ref h0D, .ref h0F, .ref h0B, .ref h0R, .ref h0G, .long 0, .long 1, .int 0, .int 0, .int 0])), (h0H, .inr (8, [.ref h0Hd, .ref h0Hk, .ref h0Hr, .ref h0Hn, .ref h0He, .ref h0HT, .ref h0HP, .ref h0HL, .ref h0HN, .ref h0HM, .int 0, .int 0, .int 0])), (h0Hn, .inl (G.2 0, 4, .inl (fun _ => 0))), (h0He, .inl (G.2 0, 4, .inl (fun _ => 0)))] := hD
      refine lv_if_ne (tgt := 24) hx hb dX10_biter_16 (by decide) (fun c_11 => g_no (by decide) c_11) (fun _ => ?_)
      refine lv_aload_n hx hb dX10_biter_19 rfl (lv_at hl 0 rfl) ?_
      refine g_calli (wr := [(h0H, .inr (8, [.ref h0Hd, .ref h0Hk, .ref h0Hr, .ref h0Hn, .ref h0He, .ref h0HT, .ref h0HP, .ref h0HL, .ref h0HN, .ref h0HM, .int 0, .int 0, .int 0])), (h0Hn, .inl (G.2 0, 4, .inl (fun _ => 0))), (h0He, .inl (G.2 0, 4, .inl (fun _ => 0)))]) (va_runV (As := []) (rest := []) ⟨hx, hb, hml, hown, hts⟩ (e_X10_refuseBad l G (h0) (h0H) (h0S) (h0I) (h0K) (h0Ex) (h0E) (h0D) (h0F) (h0B) (h0R) (h0G) (0) (1) (0) (0) (0) _) (cwV 0 hts gX10_biter_X10_refuseBad rfl rfl rfl (by decide +kernel) ⟨Nat.le_of_ble_eq_true rfl, Nat.le_of_ble_eq_true rfl⟩) (g_preV h0 [] hP hD hK hN [0] rfl rfl 0 (ci := 9) rfl rfl) rfl rfl hl.1 rfl (lv_room (Nat.le_of_ble_eq_true rfl)) dX10_biter_20 ⟨Nat.le_of_ble_eq_true rfl, Nat.le_of_ble_eq_true rfl⟩) hP hD hS hA [0] [1, 2, 3] rfl rfl rfl (by decide) (fun r_12 u H locs hw hP hD hS => ?_)
      obtain ⟨rfl, rfl⟩ := hw
      have hP : va_P G.1 vwCl [(h0H, .inr (8, [.ref h0Hd, .ref h0Hk, .ref h0Hr, .ref h0Hn, .ref h0He, .ref h0HT, .ref h0HP, .ref h0HL, .ref h0HN, .ref h0HM, .int 0, .int 0, .int 0])), (h0Hn, .inl (G.2 0, 4, .inl (fun _ => 0))), (h0He, .inl (G.2 0, 4, .inl (fun _ => 0)))] H := hP
      have hD : va_D A [(h0H, .inr (8, [.ref h0Hd, .ref h0Hk, .ref h0Hr, .ref h0Hn, .ref h0He, .ref h0HT, .ref h0HP, .ref h0HL, .ref h0HN, .ref h0HM, .int 0, .int 0, .int 0])), (h0Hn, .inl (G.2 0, 4, .inl (fun _ => 0))), (h0He, .inl (G.2 0, 4, .inl (fun _ => 0)))] := hD
      have hP := hP.sub (ws' := []) [] rfl
      have hD := hD.sub (ws' := []) [] rfl rfl
      exact g_iret (v := (-2)) hx hb hr hlocks hP hD hS (⟨by simp [F_biter, k_2, k_7], rfl⟩) dX10_biter_23
  · have hP : va_P G.1 vwCl [(h0, .inr (9, [.ref h0H, .ref h0S, .ref h0I, .ref h0K, .ref h0Ex, .ref h0E, .ref h0D, .ref h0F, .ref h0B, .ref h0R, .ref h0G, .long 0, .long 1, .int 0, .int 0, .int 0])), (h0H, .inr (8, [.ref h0Hd, .ref h0Hk, .ref h0Hr, .ref h0Hn, .ref h0He, .ref h0HT, .ref h0HP, .ref h0HL, .ref h0HN, .ref h0HM, .int 0, .int 0, .int 0])), (h0Hn, .inl (G.2 0, 4, .inl (fun _ => 0))), (h0He, .inl (G.2 0, 4, .inl (fun _ => 0)))] H := hP
    have hD : va_D A [(h0, .inr (9, [.ref h0H, .ref h0S, .ref h0I, .ref h0K, .ref h0Ex, .ref h0E, .ref h0D, .ref h0F, .ref h0B, .ref h0R, .ref h0G, .long 0, .long 1, .int 0, .int 0, .int 0])), (h0H, .inr (8, [.ref h0Hd, .ref h0Hk, .ref h0Hr, .ref h0Hn, .ref h0He, .ref h0HT, .ref h0HP, .ref h0HL, .ref h0HN, .ref h0HM, .int 0, .int 0, .int 0])), (h0Hn, .inl (G.2 0, 4, .inl (fun _ => 0))), (h0He, .inl (G.2 0, 4, .inl (fun _ => 0)))] := hD
    refine lv_if_eq (tgt := 19) hx hb dX10_biter_6 (by decide) (fun _ => ?_) (fun c_13 => g_no (by decide) c_13)
    refine lv_aload_n hx hb dX10_biter_19 rfl (lv_at hl 0 rfl) ?_
    refine g_calli (wr := [(h0H, .inr (8, [.ref h0Hd, .ref h0Hk, .ref h0Hr, .ref h0Hn, .ref h0He, .ref h0HT, .ref h0HP, .ref h0HL, .ref h0HN, .ref h0HM, .int 0, .int 0, .int 0])), (h0Hn, .inl (G.2 0, 4, .inl (fun _ => 0))), (h0He, .inl (G.2 0, 4, .inl (fun _ => 0)))]) (va_runV (As := []) (rest := []) ⟨hx, hb, hml, hown, hts⟩ (e_X10_refuseBad l G (h0) (h0H) (h0S) (h0I) (h0K) (h0Ex) (h0E) (h0D) (h0F) (h0B) (h0R) (h0G) (0) (1) (0) (0) (0) _) (cwV 0 hts gX10_biter_X10_refuseBad rfl rfl rfl (by decide +kernel) ⟨Nat.le_of_ble_eq_true rfl, Nat.le_of_ble_eq_true rfl⟩) (g_preV h0 [] hP hD hK hN [0] rfl rfl 0 (ci := 9) rfl rfl) rfl rfl hl.1 rfl (lv_room (Nat.le_of_ble_eq_true rfl)) dX10_biter_20 ⟨Nat.le_of_ble_eq_true rfl, Nat.le_of_ble_eq_true rfl⟩) hP hD hS hA [0] [1, 2, 3] rfl rfl rfl (by decide) (fun r_14 u H locs hw hP hD hS => ?_)
    obtain ⟨rfl, rfl⟩ := hw
    have hP : va_P G.1 vwCl [(h0H, .inr (8, [.ref h0Hd, .ref h0Hk, .ref h0Hr, .ref h0Hn, .ref h0He, .ref h0HT, .ref h0HP, .ref h0HL, .ref h0HN, .ref h0HM, .int 0, .int 0, .int 0])), (h0Hn, .inl (G.2 0, 4, .inl (fun _ => 0))), (h0He, .inl (G.2 0, 4, .inl (fun _ => 0)))] H := hP
    have hD : va_D A [(h0H, .inr (8, [.ref h0Hd, .ref h0Hk, .ref h0Hr, .ref h0Hn, .ref h0He, .ref h0HT, .ref h0HP, .ref h0HL, .ref h0HN, .ref h0HM, .int 0, .int 0, .int 0])), (h0Hn, .inl (G.2 0, 4, .inl (fun _ => 0))), (h0He, .inl (G.2 0, 4, .inl (fun _ => 0)))] := hD
    have hP := hP.sub (ws' := []) [] rfl
    have hD := hD.sub (ws' := []) [] rfl rfl
    exact g_iret (v := (-2)) hx hb hr hlocks hP hD hS (⟨by simp [F_biter, k_3], rfl⟩) dX10_biter_23
theorem dX10_type_0 : decode cX10_type 0 = .ok (.iload_n 1, 1) := by decide +kernel
theorem dX10_type_1 : decode cX10_type 1 = .ok (.iconst 0, 1) := by decide +kernel
theorem dX10_type_2 : decode cX10_type 2 = .ok (.bipush 127, 2) := by decide +kernel
set_option maxRecDepth 20000 in
theorem ggX10_type_X10_within : GoodIn wsX10_type wsX10_within := goodIn_r _ [5] (by decide +kernel) (by decide +kernel)
set_option maxRecDepth 20000 in
theorem gX10_type_X10_within : GoodIn wsX10_type (va_wsS RX10 88 yX10_within wsX10_within) := goodIn_app (goodIn_of _ (by decide +kernel)) ggX10_type_X10_within
theorem dX10_type_4 : decode cX10_type 4 = .ok (.invokestatic 88, 3) := by decide +kernel
theorem dX10_type_7 : decode cX10_type 7 = .ok (.ifCond .ne 8, 3) := by decide +kernel
theorem dX10_type_15 : decode cX10_type 15 = .ok (.aload_n 0, 1) := by decide +kernel
theorem dX10_type_16 : decode cX10_type 16 = .ok (.getfield 38, 3) := by decide +kernel
theorem dX10_type_19 : decode cX10_type 19 = .ok (.getfield 117, 3) := by decide +kernel
theorem dX10_type_22 : decode cX10_type 22 = .ok (.sipush 150, 3) := by decide +kernel
theorem dX10_type_25 : decode cX10_type 25 = .ok (.if_icmp .lt 8, 3) := by decide +kernel
theorem dX10_type_33 : decode cX10_type 33 = .ok (.aload_n 0, 1) := by decide +kernel
theorem dX10_type_34 : decode cX10_type 34 = .ok (.getfield 38, 3) := by decide +kernel
theorem dX10_type_37 : decode cX10_type 37 = .ok (.iload_n 1, 1) := by decide +kernel
set_option maxRecDepth 20000 in
theorem ggX10_type_X8_addByte : GoodIn wsX10_type wsX8_addByte := goodIn_r _ [19, 20, 21, 38, 39, 40, 41, 42, 43] (by decide +kernel) (by decide +kernel)
set_option maxRecDepth 20000 in
theorem gX10_type_X8_addByte_n122 : GoodIn wsX10_type (wsX8_addByte) := ggX10_type_X8_addByte
theorem dX10_type_38 : decode cX10_type 38 = .ok (.invokevirtual 122, 3) := by decide +kernel
theorem dX10_type_41 : decode cX10_type 41 = .ok (.ireturn, 1) := by decide +kernel
theorem dX10_type_10 : decode cX10_type 10 = .ok (.aload_n 0, 1) := by decide +kernel
set_option maxRecDepth 20000 in
theorem ggX10_type_X10_refuseBad : GoodIn wsX10_type wsX10_refuseBad := goodIn_r _ [9, 10, 22, 23, 24, 25, 26, 27, 28, 29, 30, 31, 32, 33, 34, 35, 36, 37] (by decide +kernel) (by decide +kernel)
set_option maxRecDepth 20000 in
theorem gX10_type_X10_refuseBad : GoodIn wsX10_type (wsV RX10 92 RX10 yX10_refuseBad wsX10_refuseBad) := goodIn_app (goodIn_of _ (by decide +kernel)) ggX10_type_X10_refuseBad
theorem dX10_type_11 : decode cX10_type 11 = .ok (.invokevirtual 92, 3) := by decide +kernel
theorem dX10_type_14 : decode cX10_type 14 = .ok (.ireturn, 1) := by decide +kernel
set_option maxHeartbeats 8000000 in
set_option maxRecDepth 100000 in
theorem c_X10_type (l : Launch) (G : gG) (h0 : Nat) (h0H : Nat) (h0S : Nat) (h0I : Nat) (h0K : Nat) (h0Ex : Nat) (h0E : Nat) (h0D : Nat) (h0F : Nat) (h0B : Nat) (h0R : Nat) (h0G : Nat) (h0Exb : Nat) (h0Exs : Nat) (h0Exg : Nat) (h0Exv : Nat) (a1 : Int32) (sz : Nat) : gI G l yX10_type wsX10_type ({ frames := 1, cells := 0, slots := 0, locals := 22 } : Room) [.ref h0, .int a1] [(h0, .inr (9, [.ref h0H, .ref h0S, .ref h0I, .ref h0K, .ref h0Ex, .ref h0E, .ref h0D, .ref h0F, .ref h0B, .ref h0R, .ref h0G, .long 0, .long 1, .int 0, .int 0, .int 0])), (h0Ex, .inr (7, [.ref h0Exb, .ref h0Exs, .ref h0Exg, .ref h0Exv, .int 0, .int 0])), (h0Exb, .inl (G.2 0, 150, .inl (fun _ => 0)))] sz (fun (r : Int32) (u : va_W) => (r = (F_type a1) ∧ u = [])) := by
  refine Met.ofW (cc := cX10_type) (maxL := 2) (ret := (some .int)) (by decide) rfl ?_
  intro p e s m args below meth c s₁ B hml hv
  obtain ⟨rfl, hsz, hP, hK, hD0, hN⟩ := hv
  have hx := B.exec
  have hb := B.bytes
  have hr := B.returns
  have hts := atoms_spec (ws := wsX10_type) B.pre
  have hown : s.vm.findClass RX10 = some m.cls := findClass_of_methodNamed B.named
  have hlocks := B.notSynchronized
  subst hsz
  have hD := hD0.self (sz := s.heap.size)
  generalize hAe : va_A [(h0, .inr (9, [.ref h0H, .ref h0S, .ref h0I, .ref h0K, .ref h0Ex, .ref h0E, .ref h0D, .ref h0F, .ref h0B, .ref h0R, .ref h0G, .long 0, .long 1, .int 0, .int 0, .int 0])), (h0Ex, .inr (7, [.ref h0Exb, .ref h0Exs, .ref h0Exg, .ref h0Exv, .int 0, .int 0])), (h0Exb, .inl (G.2 0, 150, .inl (fun _ => 0)))] s.heap.size = A at hD ⊢
  have hA : ∀ q : Nat, s.heap.size ≤ q → A q := fun q h => by rw [← hAe]; exact Or.inr h
  have hS : va_S A s.heap s.heap [] := va_S.rf
  have hP : va_P G.1 vwCl [(h0, .inr (9, [.ref h0H, .ref h0S, .ref h0I, .ref h0K, .ref h0Ex, .ref h0E, .ref h0D, .ref h0F, .ref h0B, .ref h0R, .ref h0G, .long 0, .long 1, .int 0, .int 0, .int 0])), (h0Ex, .inr (7, [.ref h0Exb, .ref h0Exs, .ref h0Exg, .ref h0Exv, .int 0, .int 0])), (h0Exb, .inl (G.2 0, 150, .inl (fun _ => 0)))] s.heap := hP
  have hl := lv_entry ([.ref h0, .int a1]) (n := 2) (Nat.le_of_ble_eq_true rfl)
  rw [lg_entry_eq]
  generalize (lg_sl ([.ref h0, .int a1]) ++ List.replicate (2 - (lg_sl ([.ref h0, .int a1])).length) Slot.unset).toArray = ls at hl ⊢
  have hl : lv_has ls 2 [(0, .ref h0), (1, .int a1)] := hl
  refine lv_iload_n hx hb dX10_type_0 rfl (lv_at hl 1 rfl) ?_
  refine lv_iconst (v := 0) hx hb dX10_type_1 (by decide) ?_
  refine lv_bipush (v := 127) hx hb dX10_type_2 (by decide) ?_
  refine g_calli (wr := [(h0, .inr (9, [.ref h0H, .ref h0S, .ref h0I, .ref h0K, .ref h0Ex, .ref h0E, .ref h0D, .ref h0F, .ref h0B, .ref h0R, .ref h0G, .long 0, .long 1, .int 0, .int 0, .int 0])), (h0Ex, .inr (7, [.ref h0Exb, .ref h0Exs, .ref h0Exg, .ref h0Exv, .int 0, .int 0])), (h0Exb, .inl (G.2 0, 150, .inl (fun _ => 0)))]) (va_runS (As := [.int a1, .int 0, .int 127]) (rest := []) ⟨hx, hb, hml, hown, hts⟩ (c_X10_within l G (a1) (0) (127) _) (va_cwS 3 hts gX10_type_X10_within rfl rfl rfl (by decide +kernel) ⟨Nat.le_of_ble_eq_true rfl, Nat.le_of_ble_eq_true rfl⟩) (g_preS [.int a1, .int 0, .int 127] hP hD hK hN [] rfl rfl) rfl rfl hl.1 rfl (lv_room (Nat.le_of_ble_eq_true rfl)) dX10_type_4 ⟨Nat.le_of_ble_eq_true rfl, Nat.le_of_ble_eq_true rfl⟩) hP hD hS hA [] [0, 1, 2] rfl rfl rfl (by decide) (fun r_1 u H locs hw hP hD hS => ?_)
  rcases hw with ⟨k_2, rfl, rfl⟩ | ⟨k_3, rfl, rfl⟩
  · have hP : va_P G.1 vwCl [(h0, .inr (9, [.ref h0H, .ref h0S, .ref h0I, .ref h0K, .ref h0Ex, .ref h0E, .ref h0D, .ref h0F, .ref h0B, .ref h0R, .ref h0G, .long 0, .long 1, .int 0, .int 0, .int 0])), (h0Ex, .inr (7, [.ref h0Exb, .ref h0Exs, .ref h0Exg, .ref h0Exv, .int 0, .int 0])), (h0Exb, .inl (G.2 0, 150, .inl (fun _ => 0)))] H := hP
    have hD : va_D A [(h0, .inr (9, [.ref h0H, .ref h0S, .ref h0I, .ref h0K, .ref h0Ex, .ref h0E, .ref h0D, .ref h0F, .ref h0B, .ref h0R, .ref h0G, .long 0, .long 1, .int 0, .int 0, .int 0])), (h0Ex, .inr (7, [.ref h0Exb, .ref h0Exs, .ref h0Exg, .ref h0Exv, .int 0, .int 0])), (h0Exb, .inl (G.2 0, 150, .inl (fun _ => 0)))] := hD
    refine lv_if_ne (tgt := 15) hx hb dX10_type_7 (by decide) (fun _ => ?_) (fun c_4 => g_no c_4 (by decide))
    refine lv_aload_n hx hb dX10_type_15 rfl (lv_at hl 0 rfl) ?_
    refine va_get (D := G.1) (ci := 9) (v := .ref h0Ex) (C := RX10) (T := TX10) (N := 16) hx hb hts (fun _ h => List.mem_cons_of_mem _ (List.mem_append_left _ (List.mem_append_right _ h))) hown hK hP 0 rfl rfl 4 (by decide) (hts _ (List.mem_of_getElem? (i := 1) rfl)) (fun _ h9 => h9) rfl dX10_type_16 ?_
    refine va_getN (D := G.1) (ci := 7) (v := .int 0) (C := RX8) (T := TX8) (N := 6) hx hb hts (fun _ h => List.mem_cons_of_mem _ (List.mem_append_right _ h)) hown hK hP 1 rfl rfl 4 (by decide) (va_Nw.use rfl (nw43 hN)) (fun _ h9 => h9) rfl dX10_type_19 ?_
    refine lv_sipush (v := 150) hx hb dX10_type_22 (by decide) ?_
    refine lv_icmp_lt (tgt := 33) hx hb dX10_type_25 (by decide) (fun _ => ?_) (fun c_5 => g_no (by decide) c_5)
    refine lv_aload_n hx hb dX10_type_33 rfl (lv_at hl 0 rfl) ?_
    refine va_get (D := G.1) (ci := 9) (v := .ref h0Ex) (C := RX10) (T := TX10) (N := 16) hx hb hts (fun _ h => List.mem_cons_of_mem _ (List.mem_append_left _ (List.mem_append_right _ h))) hown hK hP 0 rfl rfl 4 (by decide) (hts _ (List.mem_of_getElem? (i := 1) rfl)) (fun _ h9 => h9) rfl dX10_type_34 ?_
    refine lv_iload_n hx hb dX10_type_37 rfl (lv_at hl 1 rfl) ?_
    refine g_calli (wr := [(h0, .inr (9, [.ref h0H, .ref h0S, .ref h0I, .ref h0K, .ref h0Ex, .ref h0E, .ref h0D, .ref h0F, .ref h0B, .ref h0R, .ref h0G, .long 0, .long 1, .int 0, .int 0, .int 0]))]) (va_runVN (C := RX8) (As := [.int a1]) (rest := []) ⟨hx, hb, hml, hown, hts⟩ (c_X8_addByte l G (h0Ex) (h0Exb) (h0Exs) (h0Exg) (h0Exv) (a1) _) (⟨va_cnB 1 hts gX10_type_X8_addByte_n122 rfl rfl rfl (nw59 hN) (hts _ (List.mem_of_getElem? (i := 17) rfl)) (by decide +kernel) ⟨Nat.le_of_ble_eq_true rfl, Nat.le_of_ble_eq_true rfl⟩, (hts _ (List.mem_of_getElem? (i := 16) rfl)), (hts _ (List.mem_of_getElem? (i := 18) rfl))⟩) (g_preV h0Ex [.int a1] hP hD hK hN [1, 2] rfl rfl 1 (ci := 7) rfl rfl) rfl rfl hl.1 rfl (lv_room (Nat.le_of_ble_eq_true rfl)) dX10_type_38 ⟨Nat.le_of_ble_eq_true rfl, Nat.le_of_ble_eq_true rfl⟩) hP hD hS hA [1, 2] [0] rfl rfl rfl (by decide) (fun r_6 u H locs hw hP hD hS => ?_)
    obtain ⟨rfl, rfl⟩ := hw
    have hP : va_P G.1 vwCl [(h0, .inr (9, [.ref h0H, .ref h0S, .ref h0I, .ref h0K, .ref h0Ex, .ref h0E, .ref h0D, .ref h0F, .ref h0B, .ref h0R, .ref h0G, .long 0, .long 1, .int 0, .int 0, .int 0]))] H := hP
    have hD : va_D A [(h0, .inr (9, [.ref h0H, .ref h0S, .ref h0I, .ref h0K, .ref h0Ex, .ref h0E, .ref h0D, .ref h0F, .ref h0B, .ref h0R, .ref h0G, .long 0, .long 1, .int 0, .int 0, .int 0]))] := hD
    have hP := hP.sub (ws' := []) [] rfl
    have hD := hD.sub (ws' := []) [] rfl rfl
    exact g_iret (v := 1) hx hb hr hlocks hP hD hS (⟨by simp [F_type, k_2], rfl⟩) dX10_type_41
  · have hP : va_P G.1 vwCl [(h0, .inr (9, [.ref h0H, .ref h0S, .ref h0I, .ref h0K, .ref h0Ex, .ref h0E, .ref h0D, .ref h0F, .ref h0B, .ref h0R, .ref h0G, .long 0, .long 1, .int 0, .int 0, .int 0])), (h0Ex, .inr (7, [.ref h0Exb, .ref h0Exs, .ref h0Exg, .ref h0Exv, .int 0, .int 0])), (h0Exb, .inl (G.2 0, 150, .inl (fun _ => 0)))] H := hP
    have hD : va_D A [(h0, .inr (9, [.ref h0H, .ref h0S, .ref h0I, .ref h0K, .ref h0Ex, .ref h0E, .ref h0D, .ref h0F, .ref h0B, .ref h0R, .ref h0G, .long 0, .long 1, .int 0, .int 0, .int 0])), (h0Ex, .inr (7, [.ref h0Exb, .ref h0Exs, .ref h0Exg, .ref h0Exv, .int 0, .int 0])), (h0Exb, .inl (G.2 0, 150, .inl (fun _ => 0)))] := hD
    refine lv_if_ne (tgt := 15) hx hb dX10_type_7 (by decide) (fun c_7 => g_no (by decide) c_7) (fun _ => ?_)
    refine lv_aload_n hx hb dX10_type_10 rfl (lv_at hl 0 rfl) ?_
    refine g_calli (wr := [(h0Ex, .inr (7, [.ref h0Exb, .ref h0Exs, .ref h0Exg, .ref h0Exv, .int 0, .int 0])), (h0Exb, .inl (G.2 0, 150, .inl (fun _ => 0)))]) (va_runV (As := []) (rest := []) ⟨hx, hb, hml, hown, hts⟩ (e_X10_refuseBad l G (h0) (h0H) (h0S) (h0I) (h0K) (h0Ex) (h0E) (h0D) (h0F) (h0B) (h0R) (h0G) (0) (1) (0) (0) (0) _) (cwV 0 hts gX10_type_X10_refuseBad rfl rfl rfl (by decide +kernel) ⟨Nat.le_of_ble_eq_true rfl, Nat.le_of_ble_eq_true rfl⟩) (g_preV h0 [] hP hD hK hN [0] rfl rfl 0 (ci := 9) rfl rfl) rfl rfl hl.1 rfl (lv_room (Nat.le_of_ble_eq_true rfl)) dX10_type_11 ⟨Nat.le_of_ble_eq_true rfl, Nat.le_of_ble_eq_true rfl⟩) hP hD hS hA [0] [1, 2] rfl rfl rfl (by decide) (fun r_8 u H locs hw hP hD hS => ?_)
    obtain ⟨rfl, rfl⟩ := hw
    have hP : va_P G.1 vwCl [(h0Ex, .inr (7, [.ref h0Exb, .ref h0Exs, .ref h0Exg, .ref h0Exv, .int 0, .int 0])), (h0Exb, .inl (G.2 0, 150, .inl (fun _ => 0)))] H := hP
    have hD : va_D A [(h0Ex, .inr (7, [.ref h0Exb, .ref h0Exs, .ref h0Exg, .ref h0Exv, .int 0, .int 0])), (h0Exb, .inl (G.2 0, 150, .inl (fun _ => 0)))] := hD
    have hP := hP.sub (ws' := []) [] rfl
    have hD := hD.sub (ws' := []) [] rfl rfl
    exact g_iret (v := (-2)) hx hb hr hlocks hP hD hS (⟨by simp [F_type, k_3], rfl⟩) dX10_type_14
theorem dX10_clear_0 : decode cX10_clear 0 = .ok (.aload_n 0, 1) := by decide +kernel
theorem dX10_clear_1 : decode cX10_clear 1 = .ok (.getfield 38, 3) := by decide +kernel
theorem dX10_clear_4 : decode cX10_clear 4 = .ok (.getfield 117, 3) := by decide +kernel
theorem dX10_clear_7 : decode cX10_clear 7 = .ok (.istore_n 1, 1) := by decide +kernel
theorem dX10_clear_8 : decode cX10_clear 8 = .ok (.aload_n 0, 1) := by decide +kernel
theorem dX10_clear_9 : decode cX10_clear 9 = .ok (.getfield 38, 3) := by decide +kernel
theorem dX10_clear_12 : decode cX10_clear 12 = .ok (.iconst 0, 1) := by decide +kernel
theorem dX10_clear_13 : decode cX10_clear 13 = .ok (.putfield 117, 3) := by decide +kernel
theorem dX10_clear_16 : decode cX10_clear 16 = .ok (.iload_n 1, 1) := by decide +kernel
theorem dX10_clear_17 : decode cX10_clear 17 = .ok (.ireturn, 1) := by decide +kernel
set_option maxHeartbeats 8000000 in
set_option maxRecDepth 100000 in
theorem c_X10_clear (l : Launch) (G : gG) (h0 : Nat) (h0H : Nat) (h0S : Nat) (h0I : Nat) (h0K : Nat) (h0Ex : Nat) (h0E : Nat) (h0D : Nat) (h0F : Nat) (h0B : Nat) (h0R : Nat) (h0G : Nat) (h0Exb : Nat) (h0Exs : Nat) (h0Exg : Nat) (h0Exv : Nat) (sz : Nat) : gI G l yX10_clear wsX10_clear ({ frames := 0, cells := 0, slots := 0, locals := 0 } : Room) [.ref h0] [(h0, .inr (9, [.ref h0H, .ref h0S, .ref h0I, .ref h0K, .ref h0Ex, .ref h0E, .ref h0D, .ref h0F, .ref h0B, .ref h0R, .ref h0G, .long 0, .long 1, .int 0, .int 0, .int 0])), (h0Ex, .inr (7, [.ref h0Exb, .ref h0Exs, .ref h0Exg, .ref h0Exv, .int 0, .int 0]))] sz (fun (r : Int32) (u : va_W) => (r = 0 ∧ u = [])) := by
  refine Met.ofW (cc := cX10_clear) (maxL := 2) (ret := (some .int)) (by decide) rfl ?_
  intro p e s m args below meth c s₁ B hml hv
  obtain ⟨rfl, hsz, hP, hK, hD0, hN⟩ := hv
  have hx := B.exec
  have hb := B.bytes
  have hr := B.returns
  have hts := atoms_spec (ws := wsX10_clear) B.pre
  have hown : s.vm.findClass RX10 = some m.cls := findClass_of_methodNamed B.named
  have hlocks := B.notSynchronized
  subst hsz
  have hD := hD0.self (sz := s.heap.size)
  generalize hAe : va_A [(h0, .inr (9, [.ref h0H, .ref h0S, .ref h0I, .ref h0K, .ref h0Ex, .ref h0E, .ref h0D, .ref h0F, .ref h0B, .ref h0R, .ref h0G, .long 0, .long 1, .int 0, .int 0, .int 0])), (h0Ex, .inr (7, [.ref h0Exb, .ref h0Exs, .ref h0Exg, .ref h0Exv, .int 0, .int 0]))] s.heap.size = A at hD ⊢
  have hA : ∀ q : Nat, s.heap.size ≤ q → A q := fun q h => by rw [← hAe]; exact Or.inr h
  have hS : va_S A s.heap s.heap [] := va_S.rf
  have hP : va_P G.1 vwCl [(h0, .inr (9, [.ref h0H, .ref h0S, .ref h0I, .ref h0K, .ref h0Ex, .ref h0E, .ref h0D, .ref h0F, .ref h0B, .ref h0R, .ref h0G, .long 0, .long 1, .int 0, .int 0, .int 0])), (h0Ex, .inr (7, [.ref h0Exb, .ref h0Exs, .ref h0Exg, .ref h0Exv, .int 0, .int 0]))] s.heap := hP
  have hl := lv_entry ([.ref h0]) (n := 2) (Nat.le_of_ble_eq_true rfl)
  rw [lg_entry_eq]
  generalize (lg_sl ([.ref h0]) ++ List.replicate (2 - (lg_sl ([.ref h0])).length) Slot.unset).toArray = ls at hl ⊢
  have hl : lv_has ls 2 [(0, .ref h0)] := hl
  refine lv_aload_n hx hb dX10_clear_0 rfl (lv_at hl 0 rfl) ?_
  refine va_get (D := G.1) (ci := 9) (v := .ref h0Ex) (C := RX10) (T := TX10) (N := 16) hx hb hts (fun _ h => List.mem_cons_of_mem _ (List.mem_append_left _ (List.mem_append_right _ h))) hown hK hP 0 rfl rfl 4 (by decide) (hts _ (List.mem_of_getElem? (i := 1) rfl)) (fun _ h9 => h9) rfl dX10_clear_1 ?_
  refine va_getN (D := G.1) (ci := 7) (v := .int 0) (C := RX8) (T := TX8) (N := 6) hx hb hts (fun _ h => List.mem_cons_of_mem _ (List.mem_append_right _ h)) hown hK hP 1 rfl rfl 4 (by decide) (va_Nw.use rfl (nw43 hN)) (fun _ h9 => h9) rfl dX10_clear_4 ?_
  refine lv_istore_n (lv' := [(1, .int 0), (0, .ref h0)]) hx hb dX10_clear_7 rfl hl (by decide) rfl (fun ls hl => ?_)
  refine lv_aload_n hx hb dX10_clear_8 rfl (lv_at hl 1 rfl) ?_
  refine va_get (D := G.1) (ci := 9) (v := .ref h0Ex) (C := RX10) (T := TX10) (N := 16) hx hb hts (fun _ h => List.mem_cons_of_mem _ (List.mem_append_left _ (List.mem_append_right _ h))) hown hK hP 0 rfl rfl 4 (by decide) (hts _ (List.mem_of_getElem? (i := 1) rfl)) (fun _ h9 => h9) rfl dX10_clear_9 ?_
  refine lv_iconst (v := 0) hx hb dX10_clear_12 (by decide) ?_
  refine va_putN (D := G.1) (ci := 7) (v := .int 0) (ty := .int) (C := RX8) (T := TX8) (N := 6) hx hb hts (fun _ h => List.mem_cons_of_mem _ (List.mem_append_right _ h)) tyX8 tyX8_ok nmX8 hown hK hP hD hS 1 rfl rfl 4 (by decide) (va_Nw.use rfl (nw43 hN)) (fun _ h9 => h9) rfl (by decide +kernel) rfl rfl (Nat.le_of_ble_eq_true rfl) dX10_clear_13 (fun H locs hP hD hS => ?_)
  have hP : va_P G.1 vwCl [(h0, .inr (9, [.ref h0H, .ref h0S, .ref h0I, .ref h0K, .ref h0Ex, .ref h0E, .ref h0D, .ref h0F, .ref h0B, .ref h0R, .ref h0G, .long 0, .long 1, .int 0, .int 0, .int 0])), (h0Ex, .inr (7, [.ref h0Exb, .ref h0Exs, .ref h0Exg, .ref h0Exv, .int 0, .int 0]))] H := hP
  have hD : va_D A [(h0, .inr (9, [.ref h0H, .ref h0S, .ref h0I, .ref h0K, .ref h0Ex, .ref h0E, .ref h0D, .ref h0F, .ref h0B, .ref h0R, .ref h0G, .long 0, .long 1, .int 0, .int 0, .int 0])), (h0Ex, .inr (7, [.ref h0Exb, .ref h0Exs, .ref h0Exg, .ref h0Exv, .int 0, .int 0]))] := hD
  refine lv_iload_n hx hb dX10_clear_16 rfl (lv_at hl 0 rfl) ?_
  have hP := hP.sub (ws' := []) [] rfl
  have hD := hD.sub (ws' := []) [] rfl rfl
  exact g_iret (v := 0) hx hb hr hlocks hP hD hS (⟨rfl, rfl⟩) dX10_clear_17
theorem dX10_read_0 : decode cX10_read 0 = .ok (.aload_n 0, 1) := by decide +kernel
theorem dX10_read_1 : decode cX10_read 1 = .ok (.getfield 30, 3) := by decide +kernel
theorem dX10_read_4 : decode cX10_read 4 = .ok (.aload_n 0, 1) := by decide +kernel
theorem dX10_read_5 : decode cX10_read 5 = .ok (.getfield 16, 3) := by decide +kernel
set_option maxRecDepth 20000 in
theorem ggX10_read_X7_tell : GoodIn wsX10_read wsX7_tell := goodIn_r _ [7, 8, 9, 10, 11, 12, 13, 14, 15, 16, 17, 18, 19, 20, 21, 22, 23, 24, 25, 26, 27, 28, 29, 30, 31, 32, 33, 34, 35, 36, 37, 38, 39, 40, 41, 42, 43, 44, 45, 46, 47, 48, 49, 50, 51, 52, 53, 54, 55, 56, 57, 58, 59, 60, 61, 62, 63, 64, 65, 66, 67, 68, 69, 70, 71, 72, 73, 74, 75, 76, 77, 78, 79, 80, 81, 82, 83, 84, 85, 86, 87, 88, 89, 90, 91, 92, 93, 94, 95, 96, 97, 98, 99, 100, 101, 102, 103, 104, 105, 106, 107, 108, 109, 110, 5, 111, 112, 113, 114, 115, 116, 117, 118, 119, 120, 121, 122, 123, 124, 125, 126, 127, 128, 129, 130, 131, 132, 133, 134, 135, 136, 137, 138, 139, 140, 141, 142, 143, 144, 145, 146, 147, 148, 149, 150, 151, 152, 153, 154, 155, 156, 157, 158, 159, 160, 161, 162, 163, 164, 165, 166, 167, 168, 169, 170, 171, 172, 173, 174, 175, 176, 177, 178, 179, 180, 181, 182, 183, 184, 185, 186, 187, 188, 189, 190, 191, 192, 193, 194, 195, 196, 197, 198, 199, 200, 201, 202, 203, 204, 205, 206, 207, 208, 209, 210, 211, 212, 213, 214, 215, 216, 217, 218, 219, 220, 221, 222, 223, 224, 241, 242, 243, 244, 245, 246, 247, 248, 249, 250, 251, 252, 253, 254, 255, 256, 257, 258, 259, 260, 261, 262, 263, 264, 265, 266, 267, 268, 269, 270] (by decide +kernel) (by decide +kernel)
set_option maxRecDepth 20000 in
theorem gX10_read_X7_tell_n126 : GoodIn wsX10_read (wsX7_tell) := ggX10_read_X7_tell
theorem dX10_read_8 : decode cX10_read 8 = .ok (.invokevirtual 126, 3) := by decide +kernel
theorem dX10_read_11 : decode cX10_read 11 = .ok (.istore_n 1, 1) := by decide +kernel
theorem dX10_read_12 : decode cX10_read 12 = .ok (.iload_n 1, 1) := by decide +kernel
theorem dX10_read_13 : decode cX10_read 13 = .ok (.ifCond .le 21, 3) := by decide +kernel
theorem dX10_read_34 : decode cX10_read 34 = .ok (.iload_n 1, 1) := by decide +kernel
theorem dX10_read_35 : decode cX10_read 35 = .ok (.ireturn, 1) := by decide +kernel
set_option maxHeartbeats 8000000 in
set_option maxRecDepth 100000 in
theorem c_X10_read (l : Launch) (G : gG) (h0 : Nat) (h0H : Nat) (h0S : Nat) (h0I : Nat) (h0K : Nat) (h0Ex : Nat) (h0E : Nat) (h0D : Nat) (h0F : Nat) (h0B : Nat) (h0R : Nat) (h0G : Nat) (h0Ei : Nat) (h0Exb : Nat) (h0Exs : Nat) (h0Exg : Nat) (h0Exv : Nat) (h0Sd : Nat) (h0Sk : Nat) (h0Sr : Nat) (h0Sn : Nat) (h0Se : Nat) (h0ST : Nat) (h0SP : Nat) (h0SL : Nat) (h0SN : Nat) (h0SM : Nat) (h0STt : Nat) (h0STa : Nat) (h0STf : Nat) (h0SLc : Nat) (h0SNc : Nat) (h0SMc : Nat) (sz : Nat) : gI G l yX10_read wsX10_read ({ frames := 3, cells := 0, slots := 0, locals := 68 } : Room) [.ref h0] [(h0, .inr (9, [.ref h0H, .ref h0S, .ref h0I, .ref h0K, .ref h0Ex, .ref h0E, .ref h0D, .ref h0F, .ref h0B, .ref h0R, .ref h0G, .long 0, .long 1, .int 0, .int 0, .int 0])), (h0E, .inr (6, [.ref h0Ex, .ref h0Ei, .int 0])), (h0Ex, .inr (7, [.ref h0Exb, .ref h0Exs, .ref h0Exg, .ref h0Exv, .int 0, .int 0])), (h0Exs, .inl (G.2 0, 151, .inl (fun _ => 0))), (h0Exg, .inl (G.2 0, 151, .inl (fun _ => 0))), (h0Exv, .inl (G.2 0, 151, .inl (fun _ => 0))), (h0S, .inr (8, [.ref h0Sd, .ref h0Sk, .ref h0Sr, .ref h0Sn, .ref h0Se, .ref h0ST, .ref h0SP, .ref h0SL, .ref h0SN, .ref h0SM, .int 0, .int 0, .int 0])), (h0Sd, .inl (G.2 0, 6, .inl (fun _ => 0))), (h0ST, .inr (3, [.int 0, .ref h0STt, .ref h0STa, .ref h0STf])), (h0SL, .inr (5, [.int 5, .int 5, .ref h0SLc, .int 0])), (h0SN, .inr (5, [.int 5, .int 6, .ref h0SNc, .int 0])), (h0SM, .inr (5, [.int 4, .int 6, .ref h0SMc, .int 0]))] sz (fun (r : Int32) (u : va_W) => (r = (-10) ∧ u = [])) := by
  refine Met.ofW (cc := cX10_read) (maxL := 3) (ret := (some .int)) (by decide) rfl ?_
  intro p e s m args below meth c s₁ B hml hv
  obtain ⟨rfl, hsz, hP, hK, hD0, hN⟩ := hv
  have hx := B.exec
  have hb := B.bytes
  have hr := B.returns
  have hts := atoms_spec (ws := wsX10_read) B.pre
  have hown : s.vm.findClass RX10 = some m.cls := findClass_of_methodNamed B.named
  have hlocks := B.notSynchronized
  subst hsz
  have hD := hD0.self (sz := s.heap.size)
  generalize hAe : va_A [(h0, .inr (9, [.ref h0H, .ref h0S, .ref h0I, .ref h0K, .ref h0Ex, .ref h0E, .ref h0D, .ref h0F, .ref h0B, .ref h0R, .ref h0G, .long 0, .long 1, .int 0, .int 0, .int 0])), (h0E, .inr (6, [.ref h0Ex, .ref h0Ei, .int 0])), (h0Ex, .inr (7, [.ref h0Exb, .ref h0Exs, .ref h0Exg, .ref h0Exv, .int 0, .int 0])), (h0Exs, .inl (G.2 0, 151, .inl (fun _ => 0))), (h0Exg, .inl (G.2 0, 151, .inl (fun _ => 0))), (h0Exv, .inl (G.2 0, 151, .inl (fun _ => 0))), (h0S, .inr (8, [.ref h0Sd, .ref h0Sk, .ref h0Sr, .ref h0Sn, .ref h0Se, .ref h0ST, .ref h0SP, .ref h0SL, .ref h0SN, .ref h0SM, .int 0, .int 0, .int 0])), (h0Sd, .inl (G.2 0, 6, .inl (fun _ => 0))), (h0ST, .inr (3, [.int 0, .ref h0STt, .ref h0STa, .ref h0STf])), (h0SL, .inr (5, [.int 5, .int 5, .ref h0SLc, .int 0])), (h0SN, .inr (5, [.int 5, .int 6, .ref h0SNc, .int 0])), (h0SM, .inr (5, [.int 4, .int 6, .ref h0SMc, .int 0]))] s.heap.size = A at hD ⊢
  have hA : ∀ q : Nat, s.heap.size ≤ q → A q := fun q h => by rw [← hAe]; exact Or.inr h
  have hS : va_S A s.heap s.heap [] := va_S.rf
  have hP : va_P G.1 vwCl [(h0, .inr (9, [.ref h0H, .ref h0S, .ref h0I, .ref h0K, .ref h0Ex, .ref h0E, .ref h0D, .ref h0F, .ref h0B, .ref h0R, .ref h0G, .long 0, .long 1, .int 0, .int 0, .int 0])), (h0E, .inr (6, [.ref h0Ex, .ref h0Ei, .int 0])), (h0Ex, .inr (7, [.ref h0Exb, .ref h0Exs, .ref h0Exg, .ref h0Exv, .int 0, .int 0])), (h0Exs, .inl (G.2 0, 151, .inl (fun _ => 0))), (h0Exg, .inl (G.2 0, 151, .inl (fun _ => 0))), (h0Exv, .inl (G.2 0, 151, .inl (fun _ => 0))), (h0S, .inr (8, [.ref h0Sd, .ref h0Sk, .ref h0Sr, .ref h0Sn, .ref h0Se, .ref h0ST, .ref h0SP, .ref h0SL, .ref h0SN, .ref h0SM, .int 0, .int 0, .int 0])), (h0Sd, .inl (G.2 0, 6, .inl (fun _ => 0))), (h0ST, .inr (3, [.int 0, .ref h0STt, .ref h0STa, .ref h0STf])), (h0SL, .inr (5, [.int 5, .int 5, .ref h0SLc, .int 0])), (h0SN, .inr (5, [.int 5, .int 6, .ref h0SNc, .int 0])), (h0SM, .inr (5, [.int 4, .int 6, .ref h0SMc, .int 0]))] s.heap := hP
  have hl := lv_entry ([.ref h0]) (n := 3) (Nat.le_of_ble_eq_true rfl)
  rw [lg_entry_eq]
  generalize (lg_sl ([.ref h0]) ++ List.replicate (3 - (lg_sl ([.ref h0])).length) Slot.unset).toArray = ls at hl ⊢
  have hl : lv_has ls 3 [(0, .ref h0)] := hl
  refine lv_aload_n hx hb dX10_read_0 rfl (lv_at hl 0 rfl) ?_
  refine va_get (D := G.1) (ci := 9) (v := .ref h0E) (C := RX10) (T := TX10) (N := 16) hx hb hts (fun _ h => List.mem_cons_of_mem _ (List.mem_append_left _ (List.mem_append_left _ (List.mem_append_left _ (List.mem_append_left _ (List.mem_append_left _ (List.mem_append_right _ h))))))) hown hK hP 0 rfl rfl 5 (by decide) (hts _ (List.mem_of_getElem? (i := 1) rfl)) (fun _ h9 => h9) rfl dX10_read_1 ?_
  refine lv_aload_n hx hb dX10_read_4 rfl (lv_at hl 0 rfl) ?_
  refine va_get (D := G.1) (ci := 9) (v := .ref h0S) (C := RX10) (T := TX10) (N := 16) hx hb hts (fun _ h => List.mem_cons_of_mem _ (List.mem_append_left _ (List.mem_append_left _ (List.mem_append_left _ (List.mem_append_left _ (List.mem_append_left _ (List.mem_append_right _ h))))))) hown hK hP 0 rfl rfl 1 (by decide) (hts _ (List.mem_of_getElem? (i := 2) rfl)) (fun _ h9 => h9) rfl dX10_read_5 ?_
  refine g_calli (wr := [(h0, .inr (9, [.ref h0H, .ref h0S, .ref h0I, .ref h0K, .ref h0Ex, .ref h0E, .ref h0D, .ref h0F, .ref h0B, .ref h0R, .ref h0G, .long 0, .long 1, .int 0, .int 0, .int 0]))]) (va_runVN (C := RX7) (As := [.ref h0S]) (rest := []) ⟨hx, hb, hml, hown, hts⟩ (c_X7_tell l G (h0E) (h0Ex) (h0Ei) (h0Exb) (h0Exs) (h0Exg) (h0Exv) (h0S) (h0Sd) (h0Sk) (h0Sr) (h0Sn) (h0Se) (h0ST) (h0SP) (h0SL) (h0SN) (h0SM) (h0STt) (h0STa) (h0STf) (h0SLc) (h0SNc) (h0SMc) _) (⟨va_cnB 1 hts gX10_read_X7_tell_n126 rfl rfl rfl (nw60 hN) (hts _ (List.mem_of_getElem? (i := 5) rfl)) (by decide +kernel) ⟨Nat.le_of_ble_eq_true rfl, Nat.le_of_ble_eq_true rfl⟩, (hts _ (List.mem_of_getElem? (i := 4) rfl)), (hts _ (List.mem_of_getElem? (i := 6) rfl))⟩) (g_preV h0E [.ref h0S] hP hD hK hN [1, 2, 3, 4, 5, 6, 7, 8, 9, 10, 11] rfl rfl 1 (ci := 6) rfl rfl) rfl rfl hl.1 rfl (lv_room (Nat.le_of_ble_eq_true rfl)) dX10_read_8 ⟨Nat.le_of_ble_eq_true rfl, Nat.le_of_ble_eq_true rfl⟩) hP hD hS hA [1, 2, 3, 4, 5, 6, 7, 8, 9, 10, 11] [0] rfl rfl rfl (by decide) (fun r_1 u H locs hw hP hD hS => ?_)
  obtain ⟨rfl, rfl⟩ := hw
  have hP : va_P G.1 vwCl [(h0, .inr (9, [.ref h0H, .ref h0S, .ref h0I, .ref h0K, .ref h0Ex, .ref h0E, .ref h0D, .ref h0F, .ref h0B, .ref h0R, .ref h0G, .long 0, .long 1, .int 0, .int 0, .int 0]))] H := hP
  have hD : va_D A [(h0, .inr (9, [.ref h0H, .ref h0S, .ref h0I, .ref h0K, .ref h0Ex, .ref h0E, .ref h0D, .ref h0F, .ref h0B, .ref h0R, .ref h0G, .long 0, .long 1, .int 0, .int 0, .int 0]))] := hD
  refine lv_istore_n (lv' := [(1, .int (-10)), (0, .ref h0)]) hx hb dX10_read_11 rfl hl (by decide) rfl (fun ls hl => ?_)
  refine lv_iload_n hx hb dX10_read_12 rfl (lv_at hl 0 rfl) ?_
  refine lv_if_le (tgt := 34) hx hb dX10_read_13 (by decide) (fun _ => ?_) (fun c_2 => g_no (by decide) c_2)
  refine lv_iload_n hx hb dX10_read_34 rfl (lv_at hl 0 rfl) ?_
  have hP := hP.sub (ws' := []) [] rfl
  have hD := hD.sub (ws' := []) [] rfl rfl
  exact g_iret (v := (-10)) hx hb hr hlocks hP hD hS (⟨rfl, rfl⟩) dX10_read_35
