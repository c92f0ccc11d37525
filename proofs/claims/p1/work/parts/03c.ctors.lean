theorem dX8_init_0 : decode cX8_init 0 = .ok (.aload_n 0, 1) := by decide +kernel
theorem dX8_init_1 : decode cX8_init 1 = .ok (.invokespecial 3, 3) := by decide +kernel
theorem dX8_init_4 : decode cX8_init 4 = .ok (.aload_n 0, 1) := by decide +kernel
theorem dX8_init_5 : decode cX8_init 5 = .ok (.sipush 150, 3) := by decide +kernel
theorem dX8_init_8 : decode cX8_init 8 = .ok (.newarray .int, 2) := by decide +kernel
theorem dX8_init_10 : decode cX8_init 10 = .ok (.putfield 9, 3) := by decide +kernel
theorem dX8_init_13 : decode cX8_init 13 = .ok (.aload_n 0, 1) := by decide +kernel
theorem dX8_init_14 : decode cX8_init 14 = .ok (.sipush 151, 3) := by decide +kernel
theorem dX8_init_17 : decode cX8_init 17 = .ok (.newarray .int, 2) := by decide +kernel
theorem dX8_init_19 : decode cX8_init 19 = .ok (.putfield 15, 3) := by decide +kernel
theorem dX8_init_22 : decode cX8_init 22 = .ok (.aload_n 0, 1) := by decide +kernel
theorem dX8_init_23 : decode cX8_init 23 = .ok (.sipush 151, 3) := by decide +kernel
theorem dX8_init_26 : decode cX8_init 26 = .ok (.newarray .int, 2) := by decide +kernel
theorem dX8_init_28 : decode cX8_init 28 = .ok (.putfield 18, 3) := by decide +kernel
theorem dX8_init_31 : decode cX8_init 31 = .ok (.aload_n 0, 1) := by decide +kernel
theorem dX8_init_32 : decode cX8_init 32 = .ok (.sipush 151, 3) := by decide +kernel
theorem dX8_init_35 : decode cX8_init 35 = .ok (.newarray .int, 2) := by decide +kernel
theorem dX8_init_37 : decode cX8_init 37 = .ok (.putfield 21, 3) := by decide +kernel
theorem dX8_init_40 : decode cX8_init 40 = .ok (.return_, 1) := by decide +kernel
set_option maxHeartbeats 8000000 in
set_option maxRecDepth 100000 in
theorem c_X8_init (l : Launch) (G : gG) (h0 : Nat) (sz : Nat) : gV G l yX8_init wsX8_init ({ frames := 1, cells := 4, slots := 603, locals := 12 } : Room) [.ref h0] [(h0, .inr (7, [.null, .null, .null, .null, .int 0, .int 0]))] sz (fun (u : va_W) => (∃ h0b : Nat, ∃ h0s : Nat, ∃ h0g : Nat, ∃ h0v : Nat, u = [(h0, .inr (7, [.ref h0b, .ref h0s, .ref h0g, .ref h0v, .int 0, .int 0])), (h0b, .inl (G.2 0, 150, .inl (fun _ => 0))), (h0s, .inl (G.2 0, 151, .inl (fun _ => 0))), (h0g, .inl (G.2 0, 151, .inl (fun _ => 0))), (h0v, .inl (G.2 0, 151, .inl (fun _ => 0)))])) := by
  refine Met.ofW (cc := cX8_init) (maxL := 1) (ret := none) (by decide) rfl ?_
  intro p e s m args below meth c s₁ B hml hv
  obtain ⟨rfl, hsz, hP, hK, hD0, hN⟩ := hv
  have hx := B.exec
  have hb := B.bytes
  have hr := B.returns
  have hts := atoms_spec (ws := wsX8_init) B.pre
  have hown : s.vm.findClass RX8 = some m.cls := findClass_of_methodNamed B.named
  have hlocks := B.notSynchronized
  have hin : meth.name = "<init>" := (name_of_methodNamed B.named B.method).1
  subst hsz
  have hD := hD0.self (sz := s.heap.size)
  generalize hAe : va_A [(h0, .inr (7, [.null, .null, .null, .null, .int 0, .int 0]))] s.heap.size = A at hD ⊢
  have hA : ∀ q : Nat, s.heap.size ≤ q → A q := fun q h => by rw [← hAe]; exact Or.inr h
  have hS : va_S A s.heap s.heap [] := va_S.rf
  have hP : va_P G.1 vwCl [(h0, .inr (7, [.null, .null, .null, .null, .int 0, .int 0]))] s.heap := hP
  have hl := lv_entry ([.ref h0]) (n := 1) (Nat.le_of_ble_eq_true rfl)
  rw [lg_entry_eq]
  generalize (lg_sl ([.ref h0]) ++ List.replicate (1 - (lg_sl ([.ref h0])).length) Slot.unset).toArray = ls at hl ⊢
  have hl : lv_has ls 1 [(0, .ref h0)] := hl
  refine lv_aload_n hx hb dX8_init_0 rfl (lv_at hl 0 rfl) ?_
  refine W.objInit hx hb hown (hts _ (List.mem_of_getElem? (i := 1) rfl)) (hts _ (List.mem_of_getElem? (i := 2) rfl)) (hts _ (List.mem_of_getElem? (i := 3) rfl)) rfl (by rw [hml]; exact hl.1) rfl dX8_init_1 (Nat.le_of_ble_eq_true rfl) (Nat.le_of_ble_eq_true rfl) ?_
  refine W.eq (g2 := F0 m 4 ls []) rfl ?_
  refine lv_aload_n hx hb dX8_init_4 rfl (lv_at hl 0 rfl) ?_
  refine lv_sipush (v := 150) hx hb dX8_init_5 (by decide) ?_
  refine g_newi (N' := 150) hx hb (hts _ (List.mem_of_getElem? (i := 4) rfl)) hK hP hD hS hA (by decide) (by decide) (Nat.le_of_ble_eq_true rfl) (Nat.le_of_ble_eq_true rfl) (Nat.le_of_ble_eq_true rfl) dX8_init_8 (fun q_1 H hP hD hS => ?_)
  have hP : va_P G.1 vwCl [(h0, .inr (7, [.null, .null, .null, .null, .int 0, .int 0])), (q_1, .inl (G.2 0, 150, .inl (fun _ => 0)))] H := hP
  have hD : va_D A [(h0, .inr (7, [.null, .null, .null, .null, .int 0, .int 0])), (q_1, .inl (G.2 0, 150, .inl (fun _ => 0)))] := hD
  refine W.widen (k := 1) (n := 150) (Nat.le_of_ble_eq_true rfl) (Nat.le_of_ble_eq_true rfl) ?_
  refine va_putF (D := G.1) (ci := 7) (v := .ref q_1) (ty := (.array .int)) (C := RX8) (T := TX8) (N := 6) hx hb hts (fun _ h => List.mem_cons_of_mem _ (List.mem_append_right _ h)) tyX8 tyX8_ok nmX8 hown hK hP hD hS 0 rfl rfl 0 (by decide) (hts _ (List.mem_of_getElem? (i := 5) rfl)) (fun _ h9 => h9) rfl hin rfl (by decide +kernel) rfl rfl (Nat.le_of_ble_eq_true rfl) dX8_init_10 (fun H locs hP hD hS => ?_)
  have hP : va_P G.1 vwCl [(h0, .inr (7, [.ref q_1, .null, .null, .null, .int 0, .int 0])), (q_1, .inl (G.2 0, 150, .inl (fun _ => 0)))] H := hP
  have hD : va_D A [(h0, .inr (7, [.ref q_1, .null, .null, .null, .int 0, .int 0])), (q_1, .inl (G.2 0, 150, .inl (fun _ => 0)))] := hD
  refine lv_aload_n hx hb dX8_init_13 rfl (lv_at hl 0 rfl) ?_
  refine lv_sipush (v := 151) hx hb dX8_init_14 (by decide) ?_
  refine g_newi (N' := 151) hx hb (hts _ (List.mem_of_getElem? (i := 4) rfl)) hK hP hD hS hA (by decide) (by decide) (Nat.le_of_ble_eq_true rfl) (Nat.le_of_ble_eq_true rfl) (Nat.le_of_ble_eq_true rfl) dX8_init_17 (fun q_2 H hP hD hS => ?_)
  have hP : va_P G.1 vwCl [(h0, .inr (7, [.ref q_1, .null, .null, .null, .int 0, .int 0])), (q_1, .inl (G.2 0, 150, .inl (fun _ => 0))), (q_2, .inl (G.2 0, 151, .inl (fun _ => 0)))] H := hP
  have hD : va_D A [(h0, .inr (7, [.ref q_1, .null, .null, .null, .int 0, .int 0])), (q_1, .inl (G.2 0, 150, .inl (fun _ => 0))), (q_2, .inl (G.2 0, 151, .inl (fun _ => 0)))] := hD
  refine W.widen (k := 2) (n := 301) (Nat.le_of_ble_eq_true rfl) (Nat.le_of_ble_eq_true rfl) ?_
  refine va_putF (D := G.1) (ci := 7) (v := .ref q_2) (ty := (.array .int)) (C := RX8) (T := TX8) (N := 6) hx hb hts (fun _ h => List.mem_cons_of_mem _ (List.mem_append_right _ h)) tyX8 tyX8_ok nmX8 hown hK hP hD hS 0 rfl rfl 1 (by decide) (hts _ (List.mem_of_getElem? (i := 6) rfl)) (fun _ h9 => h9) rfl hin rfl (by decide +kernel) rfl rfl (Nat.le_of_ble_eq_true rfl) dX8_init_19 (fun H locs hP hD hS => ?_)
  have hP : va_P G.1 vwCl [(h0, .inr (7, [.ref q_1, .ref q_2, .null, .null, .int 0, .int 0])), (q_1, .inl (G.2 0, 150, .inl (fun _ => 0))), (q_2, .inl (G.2 0, 151, .inl (fun _ => 0)))] H := hP
  have hD : va_D A [(h0, .inr (7, [.ref q_1, .ref q_2, .null, .null, .int 0, .int 0])), (q_1, .inl (G.2 0, 150, .inl (fun _ => 0))), (q_2, .inl (G.2 0, 151, .inl (fun _ => 0)))] := hD
  refine lv_aload_n hx hb dX8_init_22 rfl (lv_at hl 0 rfl) ?_
  refine lv_sipush (v := 151) hx hb dX8_init_23 (by decide) ?_
  refine g_newi (N' := 151) hx hb (hts _ (List.mem_of_getElem? (i := 4) rfl)) hK hP hD hS hA (by decide) (by decide) (Nat.le_of_ble_eq_true rfl) (Nat.le_of_ble_eq_true rfl) (Nat.le_of_ble_eq_true rfl) dX8_init_26 (fun q_3 H hP hD hS => ?_)
  have hP : va_P G.1 vwCl [(h0, .inr (7, [.ref q_1, .ref q_2, .null, .null, .int 0, .int 0])), (q_1, .inl (G.2 0, 150, .inl (fun _ => 0))), (q_2, .inl (G.2 0, 151, .inl (fun _ => 0))), (q_3, .inl (G.2 0, 151, .inl (fun _ => 0)))] H := hP
  have hD : va_D A [(h0, .inr (7, [.ref q_1, .ref q_2, .null, .null, .int 0, .int 0])), (q_1, .inl (G.2 0, 150, .inl (fun _ => 0))), (q_2, .inl (G.2 0, 151, .inl (fun _ => 0))), (q_3, .inl (G.2 0, 151, .inl (fun _ => 0)))] := hD
  refine W.widen (k := 3) (n := 452) (Nat.le_of_ble_eq_true rfl) (Nat.le_of_ble_eq_true rfl) ?_
  refine va_putF (D := G.1) (ci := 7) (v := .ref q_3) (ty := (.array .int)) (C := RX8) (T := TX8) (N := 6) hx hb hts (fun _ h => List.mem_cons_of_mem _ (List.mem_append_right _ h)) tyX8 tyX8_ok nmX8 hown hK hP hD hS 0 rfl rfl 2 (by decide) (hts _ (List.mem_of_getElem? (i := 7) rfl)) (fun _ h9 => h9) rfl hin rfl (by decide +kernel) rfl rfl (Nat.le_of_ble_eq_true rfl) dX8_init_28 (fun H locs hP hD hS => ?_)
  have hP : va_P G.1 vwCl [(h0, .inr (7, [.ref q_1, .ref q_2, .ref q_3, .null, .int 0, .int 0])), (q_1, .inl (G.2 0, 150, .inl (fun _ => 0))), (q_2, .inl (G.2 0, 151, .inl (fun _ => 0))), (q_3, .inl (G.2 0, 151, .inl (fun _ => 0)))] H := hP
  have hD : va_D A [(h0, .inr (7, [.ref q_1, .ref q_2, .ref q_3, .null, .int 0, .int 0])), (q_1, .inl (G.2 0, 150, .inl (fun _ => 0))), (q_2, .inl (G.2 0, 151, .inl (fun _ => 0))), (q_3, .inl (G.2 0, 151, .inl (fun _ => 0)))] := hD
  refine lv_aload_n hx hb dX8_init_31 rfl (lv_at hl 0 rfl) ?_
  refine lv_sipush (v := 151) hx hb dX8_init_32 (by decide) ?_
  refine g_newi (N' := 151) hx hb (hts _ (List.mem_of_getElem? (i := 4) rfl)) hK hP hD hS hA (by decide) (by decide) (Nat.le_of_ble_eq_true rfl) (Nat.le_of_ble_eq_true rfl) (Nat.le_of_ble_eq_true rfl) dX8_init_35 (fun q_4 H hP hD hS => ?_)
  have hP : va_P G.1 vwCl [(h0, .inr (7, [.ref q_1, .ref q_2, .ref q_3, .null, .int 0, .int 0])), (q_1, .inl (G.2 0, 150, .inl (fun _ => 0))), (q_2, .inl (G.2 0, 151, .inl (fun _ => 0))), (q_3, .inl (G.2 0, 151, .inl (fun _ => 0))), (q_4, .inl (G.2 0, 151, .inl (fun _ => 0)))] H := hP
  have hD : va_D A [(h0, .inr (7, [.ref q_1, .ref q_2, .ref q_3, .null, .int 0, .int 0])), (q_1, .inl (G.2 0, 150, .inl (fun _ => 0))), (q_2, .inl (G.2 0, 151, .inl (fun _ => 0))), (q_3, .inl (G.2 0, 151, .inl (fun _ => 0))), (q_4, .inl (G.2 0, 151, .inl (fun _ => 0)))] := hD
  refine W.widen (k := 4) (n := 603) (Nat.le_of_ble_eq_true rfl) (Nat.le_of_ble_eq_true rfl) ?_
  refine va_putF (D := G.1) (ci := 7) (v := .ref q_4) (ty := (.array .int)) (C := RX8) (T := TX8) (N := 6) hx hb hts (fun _ h => List.mem_cons_of_mem _ (List.mem_append_right _ h)) tyX8 tyX8_ok nmX8 hown hK hP hD hS 0 rfl rfl 3 (by decide) (hts _ (List.mem_of_getElem? (i := 8) rfl)) (fun _ h9 => h9) rfl hin rfl (by decide +kernel) rfl rfl (Nat.le_of_ble_eq_true rfl) dX8_init_37 (fun H locs hP hD hS => ?_)
  have hP : va_P G.1 vwCl [(h0, .inr (7, [.ref q_1, .ref q_2, .ref q_3, .ref q_4, .int 0, .int 0])), (q_1, .inl (G.2 0, 150, .inl (fun _ => 0))), (q_2, .inl (G.2 0, 151, .inl (fun _ => 0))), (q_3, .inl (G.2 0, 151, .inl (fun _ => 0))), (q_4, .inl (G.2 0, 151, .inl (fun _ => 0)))] H := hP
  have hD : va_D A [(h0, .inr (7, [.ref q_1, .ref q_2, .ref q_3, .ref q_4, .int 0, .int 0])), (q_1, .inl (G.2 0, 150, .inl (fun _ => 0))), (q_2, .inl (G.2 0, 151, .inl (fun _ => 0))), (q_3, .inl (G.2 0, 151, .inl (fun _ => 0))), (q_4, .inl (G.2 0, 151, .inl (fun _ => 0)))] := hD
  exact g_vret hx hb hr hlocks hP hD hS (⟨q_1, q_2, q_3, q_4, rfl⟩) dX8_init_40
theorem dX7_init_0 : decode cX7_init 0 = .ok (.aload_n 0, 1) := by decide +kernel
theorem dX7_init_1 : decode cX7_init 1 = .ok (.invokespecial 3, 3) := by decide +kernel
theorem dX7_init_4 : decode cX7_init 4 = .ok (.aload_n 0, 1) := by decide +kernel
theorem dX7_init_5 : decode cX7_init 5 = .ok (.new 9, 3) := by decide +kernel
theorem dX7_init_8 : decode cX7_init 8 = .ok (.dup, 1) := by decide +kernel
set_option maxRecDepth 20000 in
theorem ggX7_init_X8_init : GoodIn wsX7_init wsX8_init := goodIn_r _ [11, 12, 2, 3, 8, 13, 14, 15, 16, 17, 18, 19, 20, 21, 22] (by decide +kernel) (by decide +kernel)
set_option maxRecDepth 20000 in
theorem gX7_init_X8_init_n11 : GoodIn wsX7_init (wsX8_init) := ggX7_init_X8_init
theorem dX7_init_9 : decode cX7_init 9 = .ok (.invokespecial 11, 3) := by decide +kernel
theorem dX7_init_12 : decode cX7_init 12 = .ok (.putfield 12, 3) := by decide +kernel
theorem dX7_init_15 : decode cX7_init 15 = .ok (.aload_n 0, 1) := by decide +kernel
theorem dX7_init_16 : decode cX7_init 16 = .ok (.iconst 3, 1) := by decide +kernel
theorem dX7_init_17 : decode cX7_init 17 = .ok (.newarray .int, 2) := by decide +kernel
theorem dX7_init_19 : decode cX7_init 19 = .ok (.putfield 18, 3) := by decide +kernel
theorem dX7_init_22 : decode cX7_init 22 = .ok (.return_, 1) := by decide +kernel
set_option maxHeartbeats 8000000 in
set_option maxRecDepth 100000 in
theorem c_X7_init (l : Launch) (G : gG) (h0 : Nat) (sz : Nat) : gV G l yX7_init wsX7_init ({ frames := 2, cells := 6, slots := 612, locals := 32 } : Room) [.ref h0] [(h0, .inr (6, [.null, .null, .int 0]))] sz (fun (u : va_W) => (∃ h0x : Nat, ∃ h0xb : Nat, ∃ h0xs : Nat, ∃ h0xg : Nat, ∃ h0xv : Nat, ∃ h0i : Nat, u = [(h0, .inr (6, [.ref h0x, .ref h0i, .int 0])), (h0x, .inr (7, [.ref h0xb, .ref h0xs, .ref h0xg, .ref h0xv, .int 0, .int 0])), (h0xb, .inl (G.2 0, 150, .inl (fun _ => 0))), (h0xs, .inl (G.2 0, 151, .inl (fun _ => 0))), (h0xg, .inl (G.2 0, 151, .inl (fun _ => 0))), (h0xv, .inl (G.2 0, 151, .inl (fun _ => 0))), (h0i, .inl (G.2 0, 3, .inl (fun _ => 0)))])) := by
  refine Met.ofW (cc := cX7_init) (maxL := 1) (ret := none) (by decide) rfl ?_
  intro p e s m args below meth c s₁ B hml hv
  obtain ⟨rfl, hsz, hP, hK, hD0, hN⟩ := hv
  have hx := B.exec
  have hb := B.bytes
  have hr := B.returns
  have hts := atoms_spec (ws := wsX7_init) B.pre
  have hown : s.vm.findClass RX7 = some m.cls := findClass_of_methodNamed B.named
  have hlocks := B.notSynchronized
  have hin : meth.name = "<init>" := (name_of_methodNamed B.named B.method).1
  subst hsz
  have hD := hD0.self (sz := s.heap.size)
  generalize hAe : va_A [(h0, .inr (6, [.null, .null, .int 0]))] s.heap.size = A at hD ⊢
  have hA : ∀ q : Nat, s.heap.size ≤ q → A q := fun q h => by rw [← hAe]; exact Or.inr h
  have hS : va_S A s.heap s.heap [] := va_S.rf
  have hP : va_P G.1 vwCl [(h0, .inr (6, [.null, .null, .int 0]))] s.heap := hP
  have hl := lv_entry ([.ref h0]) (n := 1) (Nat.le_of_ble_eq_true rfl)
  rw [lg_entry_eq]
  generalize (lg_sl ([.ref h0]) ++ List.replicate (1 - (lg_sl ([.ref h0])).length) Slot.unset).toArray = ls at hl ⊢
  have hl : lv_has ls 1 [(0, .ref h0)] := hl
  refine lv_aload_n hx hb dX7_init_0 rfl (lv_at hl 0 rfl) ?_
  refine W.objInit hx hb hown (hts _ (List.mem_of_getElem? (i := 1) rfl)) (hts _ (List.mem_of_getElem? (i := 2) rfl)) (hts _ (List.mem_of_getElem? (i := 3) rfl)) rfl (by rw [hml]; exact hl.1) rfl dX7_init_1 (Nat.le_of_ble_eq_true rfl) (Nat.le_of_ble_eq_true rfl) ?_
  refine W.eq (g2 := F0 m 4 ls []) rfl ?_
  refine lv_aload_n hx hb dX7_init_4 rfl (lv_at hl 0 rfl) ?_
  refine va_new (ci := 7) (fs := [.null, .null, .null, .null, .int 0, .int 0]) (C := RX8) (T := TX8) (N := 6) hx hb hts (fun _ h => List.mem_cons_of_mem _ (List.mem_append_left _ (List.mem_append_right _ h))) tyX8 tyX8_ok hown (hts _ (List.mem_of_getElem? (i := 4) rfl)) (hts _ (List.mem_of_getElem? (i := 5) rfl)) (hts _ (List.mem_of_getElem? (i := 6) rfl)) hK hP hD hS hA rfl (fun j hj => by rcases (show j = 0 ∨ j = 1 ∨ j = 2 ∨ j = 3 ∨ j = 4 ∨ j = 5 by omega) with rfl | rfl | rfl | rfl | rfl | rfl <;> rfl) (Nat.le_of_ble_eq_true rfl) (Nat.le_of_ble_eq_true rfl) dX7_init_5 (fun q_1 H hP hD hS => ?_)
  have hP : va_P G.1 vwCl [(h0, .inr (6, [.null, .null, .int 0])), (q_1, .inr (7, [.null, .null, .null, .null, .int 0, .int 0]))] H := hP
  have hD : va_D A [(h0, .inr (6, [.null, .null, .int 0])), (q_1, .inr (7, [.null, .null, .null, .null, .int 0, .int 0]))] := hD
  refine W.widen (k := 1) (n := 6) (Nat.le_of_ble_eq_true rfl) (Nat.le_of_ble_eq_true rfl) ?_
  refine lv_dup hx hb dX7_init_8 rfl ?_
  refine g_callv (wr := [(h0, .inr (6, [.null, .null, .int 0]))]) (va_runIN (As := []) (rest := [.ref q_1, .ref h0]) ⟨hx, hb, hml, hown, hts⟩ (c_X8_init l G (q_1) _) (⟨va_cnB 0 hts gX7_init_X8_init_n11 rfl rfl rfl (nw39 hN) (hts _ (List.mem_of_getElem? (i := 6) rfl)) (by decide +kernel) ⟨Nat.le_of_ble_eq_true rfl, Nat.le_of_ble_eq_true rfl⟩, rfl, (hts _ (List.mem_of_getElem? (i := 10) rfl))⟩) (g_preS [.ref q_1] hP hD hK hN [1] rfl rfl) rfl rfl hl.1 rfl (lv_room (Nat.le_of_ble_eq_true rfl)) dX7_init_9 ⟨Nat.le_of_ble_eq_true rfl, Nat.le_of_ble_eq_true rfl⟩) hP hD hS hA [1] [0] rfl rfl rfl (by decide) (fun u H locs hw hP hD hS => ?_)
  refine W.widen (k := 5) (n := 609) (Nat.le_of_ble_eq_true rfl) (Nat.le_of_ble_eq_true rfl) ?_
  obtain ⟨h0b_2, h0s_3, h0g_4, h0v_5, rfl⟩ := hw
  have hP : va_P G.1 vwCl [(h0, .inr (6, [.null, .null, .int 0])), (q_1, .inr (7, [.ref h0b_2, .ref h0s_3, .ref h0g_4, .ref h0v_5, .int 0, .int 0])), (h0b_2, .inl (G.2 0, 150, .inl (fun _ => 0))), (h0s_3, .inl (G.2 0, 151, .inl (fun _ => 0))), (h0g_4, .inl (G.2 0, 151, .inl (fun _ => 0))), (h0v_5, .inl (G.2 0, 151, .inl (fun _ => 0)))] H := hP
  have hD : va_D A [(h0, .inr (6, [.null, .null, .int 0])), (q_1, .inr (7, [.ref h0b_2, .ref h0s_3, .ref h0g_4, .ref h0v_5, .int 0, .int 0])), (h0b_2, .inl (G.2 0, 150, .inl (fun _ => 0))), (h0s_3, .inl (G.2 0, 151, .inl (fun _ => 0))), (h0g_4, .inl (G.2 0, 151, .inl (fun _ => 0))), (h0v_5, .inl (G.2 0, 151, .inl (fun _ => 0)))] := hD
  refine va_putF (D := G.1) (ci := 6) (v := .ref q_1) (ty := (.object "ToffeeWords$Text")) (C := RX7) (T := TX7) (N := 3) hx hb hts (fun _ h => List.mem_cons_of_mem _ (List.mem_append_right _ h)) tyX7 tyX7_ok nmX7 hown hK hP hD hS 0 rfl rfl 0 (by decide) (hts _ (List.mem_of_getElem? (i := 7) rfl)) (fun _ h9 => h9) rfl hin rfl (by decide +kernel) rfl rfl (Nat.le_of_ble_eq_true rfl) dX7_init_12 (fun H locs hP hD hS => ?_)
  have hP : va_P G.1 vwCl [(h0, .inr (6, [.ref q_1, .null, .int 0])), (q_1, .inr (7, [.ref h0b_2, .ref h0s_3, .ref h0g_4, .ref h0v_5, .int 0, .int 0])), (h0b_2, .inl (G.2 0, 150, .inl (fun _ => 0))), (h0s_3, .inl (G.2 0, 151, .inl (fun _ => 0))), (h0g_4, .inl (G.2 0, 151, .inl (fun _ => 0))), (h0v_5, .inl (G.2 0, 151, .inl (fun _ => 0)))] H := hP
  have hD : va_D A [(h0, .inr (6, [.ref q_1, .null, .int 0])), (q_1, .inr (7, [.ref h0b_2, .ref h0s_3, .ref h0g_4, .ref h0v_5, .int 0, .int 0])), (h0b_2, .inl (G.2 0, 150, .inl (fun _ => 0))), (h0s_3, .inl (G.2 0, 151, .inl (fun _ => 0))), (h0g_4, .inl (G.2 0, 151, .inl (fun _ => 0))), (h0v_5, .inl (G.2 0, 151, .inl (fun _ => 0)))] := hD
  refine lv_aload_n hx hb dX7_init_15 rfl (lv_at hl 0 rfl) ?_
  refine lv_iconst (v := 3) hx hb dX7_init_16 (by decide) ?_
  refine g_newi (N' := 3) hx hb (hts _ (List.mem_of_getElem? (i := 8) rfl)) hK hP hD hS hA (by decide) (by decide) (Nat.le_of_ble_eq_true rfl) (Nat.le_of_ble_eq_true rfl) (Nat.le_of_ble_eq_true rfl) dX7_init_17 (fun q_6 H hP hD hS => ?_)
  have hP : va_P G.1 vwCl [(h0, .inr (6, [.ref q_1, .null, .int 0])), (q_1, .inr (7, [.ref h0b_2, .ref h0s_3, .ref h0g_4, .ref h0v_5, .int 0, .int 0])), (h0b_2, .inl (G.2 0, 150, .inl (fun _ => 0))), (h0s_3, .inl (G.2 0, 151, .inl (fun _ => 0))), (h0g_4, .inl (G.2 0, 151, .inl (fun _ => 0))), (h0v_5, .inl (G.2 0, 151, .inl (fun _ => 0))), (q_6, .inl (G.2 0, 3, .inl (fun _ => 0)))] H := hP
  have hD : va_D A [(h0, .inr (6, [.ref q_1, .null, .int 0])), (q_1, .inr (7, [.ref h0b_2, .ref h0s_3, .ref h0g_4, .ref h0v_5, .int 0, .int 0])), (h0b_2, .inl (G.2 0, 150, .inl (fun _ => 0))), (h0s_3, .inl (G.2 0, 151, .inl (fun _ => 0))), (h0g_4, .inl (G.2 0, 151, .inl (fun _ => 0))), (h0v_5, .inl (G.2 0, 151, .inl (fun _ => 0))), (q_6, .inl (G.2 0, 3, .inl (fun _ => 0)))] := hD
  refine W.widen (k := 6) (n := 612) (Nat.le_of_ble_eq_true rfl) (Nat.le_of_ble_eq_true rfl) ?_
  refine va_putF (D := G.1) (ci := 6) (v := .ref q_6) (ty := (.array .int)) (C := RX7) (T := TX7) (N := 3) hx hb hts (fun _ h => List.mem_cons_of_mem _ (List.mem_append_right _ h)) tyX7 tyX7_ok nmX7 hown hK hP hD hS 0 rfl rfl 1 (by decide) (hts _ (List.mem_of_getElem? (i := 9) rfl)) (fun _ h9 => h9) rfl hin rfl (by decide +kernel) rfl rfl (Nat.le_of_ble_eq_true rfl) dX7_init_19 (fun H locs hP hD hS => ?_)
  have hP : va_P G.1 vwCl [(h0, .inr (6, [.ref q_1, .ref q_6, .int 0])), (q_1, .inr (7, [.ref h0b_2, .ref h0s_3, .ref h0g_4, .ref h0v_5, .int 0, .int 0])), (h0b_2, .inl (G.2 0, 150, .inl (fun _ => 0))), (h0s_3, .inl (G.2 0, 151, .inl (fun _ => 0))), (h0g_4, .inl (G.2 0, 151, .inl (fun _ => 0))), (h0v_5, .inl (G.2 0, 151, .inl (fun _ => 0))), (q_6, .inl (G.2 0, 3, .inl (fun _ => 0)))] H := hP
  have hD : va_D A [(h0, .inr (6, [.ref q_1, .ref q_6, .int 0])), (q_1, .inr (7, [.ref h0b_2, .ref h0s_3, .ref h0g_4, .ref h0v_5, .int 0, .int 0])), (h0b_2, .inl (G.2 0, 150, .inl (fun _ => 0))), (h0s_3, .inl (G.2 0, 151, .inl (fun _ => 0))), (h0g_4, .inl (G.2 0, 151, .inl (fun _ => 0))), (h0v_5, .inl (G.2 0, 151, .inl (fun _ => 0))), (q_6, .inl (G.2 0, 3, .inl (fun _ => 0)))] := hD
  exact g_vret hx hb hr hlocks hP hD hS (⟨q_1, h0b_2, h0s_3, h0g_4, h0v_5, q_6, rfl⟩) dX7_init_22
theorem dX1_init_0 : decode cX1_init 0 = .ok (.aload_n 0, 1) := by decide +kernel
theorem dX1_init_1 : decode cX1_init 1 = .ok (.invokespecial 3, 3) := by decide +kernel
theorem dX1_init_4 : decode cX1_init 4 = .ok (.aload_n 0, 1) := by decide +kernel
theorem dX1_init_5 : decode cX1_init 5 = .ok (.bipush 31, 2) := by decide +kernel
theorem dX1_init_7 : decode cX1_init 7 = .ok (.newarray .int, 2) := by decide +kernel
theorem dX1_init_9 : decode cX1_init 9 = .ok (.putfield 9, 3) := by decide +kernel
theorem dX1_init_12 : decode cX1_init 12 = .ok (.return_, 1) := by decide +kernel
set_option maxHeartbeats 8000000 in
set_option maxRecDepth 100000 in
theorem c_X1_init (l : Launch) (G : gG) (h0 : Nat) (sz : Nat) : gV G l yX1_init wsX1_init ({ frames := 1, cells := 1, slots := 31, locals := 12 } : Room) [.ref h0] [(h0, .inr (1, [.null]))] sz (fun (u : va_W) => (∃ h0b : Nat, u = [(h0, .inr (1, [.ref h0b])), (h0b, .inl (G.2 0, 31, .inl (fun _ => 0)))])) := by
  refine Met.ofW (cc := cX1_init) (maxL := 1) (ret := none) (by decide) rfl ?_
  intro p e s m args below meth c s₁ B hml hv
  obtain ⟨rfl, hsz, hP, hK, hD0, hN⟩ := hv
  have hx := B.exec
  have hb := B.bytes
  have hr := B.returns
  have hts := atoms_spec (ws := wsX1_init) B.pre
  have hown : s.vm.findClass RX1 = some m.cls := findClass_of_methodNamed B.named
  have hlocks := B.notSynchronized
  have hin : meth.name = "<init>" := (name_of_methodNamed B.named B.method).1
  subst hsz
  have hD := hD0.self (sz := s.heap.size)
  generalize hAe : va_A [(h0, .inr (1, [.null]))] s.heap.size = A at hD ⊢
  have hA : ∀ q : Nat, s.heap.size ≤ q → A q := fun q h => by rw [← hAe]; exact Or.inr h
  have hS : va_S A s.heap s.heap [] := va_S.rf
  have hP : va_P G.1 vwCl [(h0, .inr (1, [.null]))] s.heap := hP
  have hl := lv_entry ([.ref h0]) (n := 1) (Nat.le_of_ble_eq_true rfl)
  rw [lg_entry_eq]
  generalize (lg_sl ([.ref h0]) ++ List.replicate (1 - (lg_sl ([.ref h0])).length) Slot.unset).toArray = ls at hl ⊢
  have hl : lv_has ls 1 [(0, .ref h0)] := hl
  refine lv_aload_n hx hb dX1_init_0 rfl (lv_at hl 0 rfl) ?_
  refine W.objInit hx hb hown (hts _ (List.mem_of_getElem? (i := 1) rfl)) (hts _ (List.mem_of_getElem? (i := 2) rfl)) (hts _ (List.mem_of_getElem? (i := 3) rfl)) rfl (by rw [hml]; exact hl.1) rfl dX1_init_1 (Nat.le_of_ble_eq_true rfl) (Nat.le_of_ble_eq_true rfl) ?_
  refine W.eq (g2 := F0 m 4 ls []) rfl ?_
  refine lv_aload_n hx hb dX1_init_4 rfl (lv_at hl 0 rfl) ?_
  refine lv_bipush (v := 31) hx hb dX1_init_5 (by decide) ?_
  refine g_newi (N' := 31) hx hb (hts _ (List.mem_of_getElem? (i := 4) rfl)) hK hP hD hS hA (by decide) (by decide) (Nat.le_of_ble_eq_true rfl) (Nat.le_of_ble_eq_true rfl) (Nat.le_of_ble_eq_true rfl) dX1_init_7 (fun q_1 H hP hD hS => ?_)
  have hP : va_P G.1 vwCl [(h0, .inr (1, [.null])), (q_1, .inl (G.2 0, 31, .inl (fun _ => 0)))] H := hP
  have hD : va_D A [(h0, .inr (1, [.null])), (q_1, .inl (G.2 0, 31, .inl (fun _ => 0)))] := hD
  refine W.widen (k := 1) (n := 31) (Nat.le_of_ble_eq_true rfl) (Nat.le_of_ble_eq_true rfl) ?_
  refine va_putF (D := G.1) (ci := 1) (v := .ref q_1) (ty := (.array .int)) (C := RX1) (T := TX1) (N := 1) hx hb hts (fun _ h => List.mem_cons_of_mem _ (List.mem_append_right _ h)) tyX1 tyX1_ok nmX1 hown hK hP hD hS 0 rfl rfl 0 (by decide) (hts _ (List.mem_of_getElem? (i := 5) rfl)) (fun _ h9 => h9) rfl hin rfl (by decide +kernel) rfl rfl (Nat.le_of_ble_eq_true rfl) dX1_init_9 (fun H locs hP hD hS => ?_)
  have hP : va_P G.1 vwCl [(h0, .inr (1, [.ref q_1])), (q_1, .inl (G.2 0, 31, .inl (fun _ => 0)))] H := hP
  have hD : va_D A [(h0, .inr (1, [.ref q_1])), (q_1, .inl (G.2 0, 31, .inl (fun _ => 0)))] := hD
  exact g_vret hx hb hr hlocks hP hD hS (⟨q_1, rfl⟩) dX1_init_12
theorem dX0_init_0 : decode cX0_init 0 = .ok (.aload_n 0, 1) := by decide +kernel
theorem dX0_init_1 : decode cX0_init 1 = .ok (.invokespecial 3, 3) := by decide +kernel
theorem dX0_init_4 : decode cX0_init 4 = .ok (.aload_n 0, 1) := by decide +kernel
theorem dX0_init_5 : decode cX0_init 5 = .ok (.bipush 7, 2) := by decide +kernel
theorem dX0_init_7 : decode cX0_init 7 = .ok (.newarray .int, 2) := by decide +kernel
theorem dX0_init_9 : decode cX0_init 9 = .ok (.putfield 9, 3) := by decide +kernel
theorem dX0_init_12 : decode cX0_init 12 = .ok (.aload_n 0, 1) := by decide +kernel
theorem dX0_init_13 : decode cX0_init 13 = .ok (.iconst 4, 1) := by decide +kernel
theorem dX0_init_14 : decode cX0_init 14 = .ok (.newarray .int, 2) := by decide +kernel
theorem dX0_init_16 : decode cX0_init 16 = .ok (.putfield 15, 3) := by decide +kernel
theorem dX0_init_19 : decode cX0_init 19 = .ok (.aload_n 0, 1) := by decide +kernel
theorem dX0_init_20 : decode cX0_init 20 = .ok (.iconst 4, 1) := by decide +kernel
theorem dX0_init_21 : decode cX0_init 21 = .ok (.newarray .int, 2) := by decide +kernel
theorem dX0_init_23 : decode cX0_init 23 = .ok (.putfield 18, 3) := by decide +kernel
theorem dX0_init_26 : decode cX0_init 26 = .ok (.return_, 1) := by decide +kernel
set_option maxHeartbeats 8000000 in
set_option maxRecDepth 100000 in
theorem c_X0_init (l : Launch) (G : gG) (h0 : Nat) (sz : Nat) : gV G l yX0_init wsX0_init ({ frames := 1, cells := 3, slots := 15, locals := 12 } : Room) [.ref h0] [(h0, .inr (0, [.null, .null, .null, .int 0]))] sz (fun (u : va_W) => (∃ h0o : Nat, ∃ h0w : Nat, ∃ h0b : Nat, u = [(h0, .inr (0, [.ref h0o, .ref h0w, .ref h0b, .int 0])), (h0o, .inl (G.2 0, 7, .inl (fun _ => 0))), (h0w, .inl (G.2 0, 4, .inl (fun _ => 0))), (h0b, .inl (G.2 0, 4, .inl (fun _ => 0)))])) := by
  refine Met.ofW (cc := cX0_init) (maxL := 1) (ret := none) (by decide) rfl ?_
  intro p e s m args below meth c s₁ B hml hv
  obtain ⟨rfl, hsz, hP, hK, hD0, hN⟩ := hv
  have hx := B.exec
  have hb := B.bytes
  have hr := B.returns
  have hts := atoms_spec (ws := wsX0_init) B.pre
  have hown : s.vm.findClass RX0 = some m.cls := findClass_of_methodNamed B.named
  have hlocks := B.notSynchronized
  have hin : meth.name = "<init>" := (name_of_methodNamed B.named B.method).1
  subst hsz
  have hD := hD0.self (sz := s.heap.size)
  generalize hAe : va_A [(h0, .inr (0, [.null, .null, .null, .int 0]))] s.heap.size = A at hD ⊢
  have hA : ∀ q : Nat, s.heap.size ≤ q → A q := fun q h => by rw [← hAe]; exact Or.inr h
  have hS : va_S A s.heap s.heap [] := va_S.rf
  have hP : va_P G.1 vwCl [(h0, .inr (0, [.null, .null, .null, .int 0]))] s.heap := hP
  have hl := lv_entry ([.ref h0]) (n := 1) (Nat.le_of_ble_eq_true rfl)
  rw [lg_entry_eq]
  generalize (lg_sl ([.ref h0]) ++ List.replicate (1 - (lg_sl ([.ref h0])).length) Slot.unset).toArray = ls at hl ⊢
  have hl : lv_has ls 1 [(0, .ref h0)] := hl
  refine lv_aload_n hx hb dX0_init_0 rfl (lv_at hl 0 rfl) ?_
  refine W.objInit hx hb hown (hts _ (List.mem_of_getElem? (i := 1) rfl)) (hts _ (List.mem_of_getElem? (i := 2) rfl)) (hts _ (List.mem_of_getElem? (i := 3) rfl)) rfl (by rw [hml]; exact hl.1) rfl dX0_init_1 (Nat.le_of_ble_eq_true rfl) (Nat.le_of_ble_eq_true rfl) ?_
  refine W.eq (g2 := F0 m 4 ls []) rfl ?_
  refine lv_aload_n hx hb dX0_init_4 rfl (lv_at hl 0 rfl) ?_
  refine lv_bipush (v := 7) hx hb dX0_init_5 (by decide) ?_
  refine g_newi (N' := 7) hx hb (hts _ (List.mem_of_getElem? (i := 4) rfl)) hK hP hD hS hA (by decide) (by decide) (Nat.le_of_ble_eq_true rfl) (Nat.le_of_ble_eq_true rfl) (Nat.le_of_ble_eq_true rfl) dX0_init_7 (fun q_1 H hP hD hS => ?_)
  have hP : va_P G.1 vwCl [(h0, .inr (0, [.null, .null, .null, .int 0])), (q_1, .inl (G.2 0, 7, .inl (fun _ => 0)))] H := hP
  have hD : va_D A [(h0, .inr (0, [.null, .null, .null, .int 0])), (q_1, .inl (G.2 0, 7, .inl (fun _ => 0)))] := hD
  refine W.widen (k := 1) (n := 7) (Nat.le_of_ble_eq_true rfl) (Nat.le_of_ble_eq_true rfl) ?_
  refine va_putF (D := G.1) (ci := 0) (v := .ref q_1) (ty := (.array .int)) (C := RX0) (T := TX0) (N := 4) hx hb hts (fun _ h => List.mem_cons_of_mem _ (List.mem_append_right _ h)) tyX0 tyX0_ok nmX0 hown hK hP hD hS 0 rfl rfl 0 (by decide) (hts _ (List.mem_of_getElem? (i := 5) rfl)) (fun _ h9 => h9) rfl hin rfl (by decide +kernel) rfl rfl (Nat.le_of_ble_eq_true rfl) dX0_init_9 (fun H locs hP hD hS => ?_)
  have hP : va_P G.1 vwCl [(h0, .inr (0, [.ref q_1, .null, .null, .int 0])), (q_1, .inl (G.2 0, 7, .inl (fun _ => 0)))] H := hP
  have hD : va_D A [(h0, .inr (0, [.ref q_1, .null, .null, .int 0])), (q_1, .inl (G.2 0, 7, .inl (fun _ => 0)))] := hD
  refine lv_aload_n hx hb dX0_init_12 rfl (lv_at hl 0 rfl) ?_
  refine lv_iconst (v := 4) hx hb dX0_init_13 (by decide) ?_
  refine g_newi (N' := 4) hx hb (hts _ (List.mem_of_getElem? (i := 4) rfl)) hK hP hD hS hA (by decide) (by decide) (Nat.le_of_ble_eq_true rfl) (Nat.le_of_ble_eq_true rfl) (Nat.le_of_ble_eq_true rfl) dX0_init_14 (fun q_2 H hP hD hS => ?_)
  have hP : va_P G.1 vwCl [(h0, .inr (0, [.ref q_1, .null, .null, .int 0])), (q_1, .inl (G.2 0, 7, .inl (fun _ => 0))), (q_2, .inl (G.2 0, 4, .inl (fun _ => 0)))] H := hP
  have hD : va_D A [(h0, .inr (0, [.ref q_1, .null, .null, .int 0])), (q_1, .inl (G.2 0, 7, .inl (fun _ => 0))), (q_2, .inl (G.2 0, 4, .inl (fun _ => 0)))] := hD
  refine W.widen (k := 2) (n := 11) (Nat.le_of_ble_eq_true rfl) (Nat.le_of_ble_eq_true rfl) ?_
  refine va_putF (D := G.1) (ci := 0) (v := .ref q_2) (ty := (.array .int)) (C := RX0) (T := TX0) (N := 4) hx hb hts (fun _ h => List.mem_cons_of_mem _ (List.mem_append_right _ h)) tyX0 tyX0_ok nmX0 hown hK hP hD hS 0 rfl rfl 1 (by decide) (hts _ (List.mem_of_getElem? (i := 6) rfl)) (fun _ h9 => h9) rfl hin rfl (by decide +kernel) rfl rfl (Nat.le_of_ble_eq_true rfl) dX0_init_16 (fun H locs hP hD hS => ?_)
  have hP : va_P G.1 vwCl [(h0, .inr (0, [.ref q_1, .ref q_2, .null, .int 0])), (q_1, .inl (G.2 0, 7, .inl (fun _ => 0))), (q_2, .inl (G.2 0, 4, .inl (fun _ => 0)))] H := hP
  have hD : va_D A [(h0, .inr (0, [.ref q_1, .ref q_2, .null, .int 0])), (q_1, .inl (G.2 0, 7, .inl (fun _ => 0))), (q_2, .inl (G.2 0, 4, .inl (fun _ => 0)))] := hD
  refine lv_aload_n hx hb dX0_init_19 rfl (lv_at hl 0 rfl) ?_
  refine lv_iconst (v := 4) hx hb dX0_init_20 (by decide) ?_
  refine g_newi (N' := 4) hx hb (hts _ (List.mem_of_getElem? (i := 4) rfl)) hK hP hD hS hA (by decide) (by decide) (Nat.le_of_ble_eq_true rfl) (Nat.le_of_ble_eq_true rfl) (Nat.le_of_ble_eq_true rfl) dX0_init_21 (fun q_3 H hP hD hS => ?_)
  have hP : va_P G.1 vwCl [(h0, .inr (0, [.ref q_1, .ref q_2, .null, .int 0])), (q_1, .inl (G.2 0, 7, .inl (fun _ => 0))), (q_2, .inl (G.2 0, 4, .inl (fun _ => 0))), (q_3, .inl (G.2 0, 4, .inl (fun _ => 0)))] H := hP
  have hD : va_D A [(h0, .inr (0, [.ref q_1, .ref q_2, .null, .int 0])), (q_1, .inl (G.2 0, 7, .inl (fun _ => 0))), (q_2, .inl (G.2 0, 4, .inl (fun _ => 0))), (q_3, .inl (G.2 0, 4, .inl (fun _ => 0)))] := hD
  refine W.widen (k := 3) (n := 15) (Nat.le_of_ble_eq_true rfl) (Nat.le_of_ble_eq_true rfl) ?_
  refine va_putF (D := G.1) (ci := 0) (v := .ref q_3) (ty := (.array .int)) (C := RX0) (T := TX0) (N := 4) hx hb hts (fun _ h => List.mem_cons_of_mem _ (List.mem_append_right _ h)) tyX0 tyX0_ok nmX0 hown hK hP hD hS 0 rfl rfl 2 (by decide) (hts _ (List.mem_of_getElem? (i := 7) rfl)) (fun _ h9 => h9) rfl hin rfl (by decide +kernel) rfl rfl (Nat.le_of_ble_eq_true rfl) dX0_init_23 (fun H locs hP hD hS => ?_)
  have hP : va_P G.1 vwCl [(h0, .inr (0, [.ref q_1, .ref q_2, .ref q_3, .int 0])), (q_1, .inl (G.2 0, 7, .inl (fun _ => 0))), (q_2, .inl (G.2 0, 4, .inl (fun _ => 0))), (q_3, .inl (G.2 0, 4, .inl (fun _ => 0)))] H := hP
  have hD : va_D A [(h0, .inr (0, [.ref q_1, .ref q_2, .ref q_3, .int 0])), (q_1, .inl (G.2 0, 7, .inl (fun _ => 0))), (q_2, .inl (G.2 0, 4, .inl (fun _ => 0))), (q_3, .inl (G.2 0, 4, .inl (fun _ => 0)))] := hD
  exact g_vret hx hb hr hlocks hP hD hS (⟨q_1, q_2, q_3, rfl⟩) dX0_init_26
theorem dX5_init_0 : decode cX5_init 0 = .ok (.aload_n 0, 1) := by decide +kernel
theorem dX5_init_1 : decode cX5_init 1 = .ok (.invokespecial 1, 3) := by decide +kernel
theorem dX5_init_4 : decode cX5_init 4 = .ok (.aload_n 0, 1) := by decide +kernel
theorem dX5_init_5 : decode cX5_init 5 = .ok (.bipush 10, 2) := by decide +kernel
theorem dX5_init_7 : decode cX5_init 7 = .ok (.newarray .int, 2) := by decide +kernel
theorem dX5_init_9 : decode cX5_init 9 = .ok (.putfield 9, 3) := by decide +kernel
theorem dX5_init_12 : decode cX5_init 12 = .ok (.aload_n 0, 1) := by decide +kernel
theorem dX5_init_13 : decode cX5_init 13 = .ok (.bipush 10, 2) := by decide +kernel
theorem dX5_init_15 : decode cX5_init 15 = .ok (.newarray .int, 2) := by decide +kernel
theorem dX5_init_17 : decode cX5_init 17 = .ok (.putfield 13, 3) := by decide +kernel
theorem dX5_init_20 : decode cX5_init 20 = .ok (.aload_n 0, 1) := by decide +kernel
theorem dX5_init_21 : decode cX5_init 21 = .ok (.bipush 100, 2) := by decide +kernel
theorem dX5_init_23 : decode cX5_init 23 = .ok (.newarray .int, 2) := by decide +kernel
theorem dX5_init_25 : decode cX5_init 25 = .ok (.putfield 16, 3) := by decide +kernel
theorem dX5_init_28 : decode cX5_init 28 = .ok (.return_, 1) := by decide +kernel
set_option maxHeartbeats 8000000 in
set_option maxRecDepth 100000 in
theorem c_X5_init (l : Launch) (G : gG) (h0 : Nat) (sz : Nat) : gV G l yX5_init wsX5_init ({ frames := 1, cells := 3, slots := 120, locals := 12 } : Room) [.ref h0] [(h0, .inr (4, [.null, .null, .null, .int 0]))] sz (fun (u : va_W) => (∃ h0f : Nat, ∃ h0s : Nat, ∃ h0r : Nat, u = [(h0, .inr (4, [.ref h0f, .ref h0s, .ref h0r, .int 0])), (h0f, .inl (G.2 0, 10, .inl (fun _ => 0))), (h0s, .inl (G.2 0, 10, .inl (fun _ => 0))), (h0r, .inl (G.2 0, 100, .inl (fun _ => 0)))])) := by
  refine Met.ofW (cc := cX5_init) (maxL := 1) (ret := none) (by decide) rfl ?_
  intro p e s m args below meth c s₁ B hml hv
  obtain ⟨rfl, hsz, hP, hK, hD0, hN⟩ := hv
  have hx := B.exec
  have hb := B.bytes
  have hr := B.returns
  have hts := atoms_spec (ws := wsX5_init) B.pre
  have hown : s.vm.findClass RX5 = some m.cls := findClass_of_methodNamed B.named
  have hlocks := B.notSynchronized
  have hin : meth.name = "<init>" := (name_of_methodNamed B.named B.method).1
  subst hsz
  have hD := hD0.self (sz := s.heap.size)
  generalize hAe : va_A [(h0, .inr (4, [.null, .null, .null, .int 0]))] s.heap.size = A at hD ⊢
  have hA : ∀ q : Nat, s.heap.size ≤ q → A q := fun q h => by rw [← hAe]; exact Or.inr h
  have hS : va_S A s.heap s.heap [] := va_S.rf
  have hP : va_P G.1 vwCl [(h0, .inr (4, [.null, .null, .null, .int 0]))] s.heap := hP
  have hl := lv_entry ([.ref h0]) (n := 1) (Nat.le_of_ble_eq_true rfl)
  rw [lg_entry_eq]
  generalize (lg_sl ([.ref h0]) ++ List.replicate (1 - (lg_sl ([.ref h0])).length) Slot.unset).toArray = ls at hl ⊢
  have hl : lv_has ls 1 [(0, .ref h0)] := hl
  refine lv_aload_n hx hb dX5_init_0 rfl (lv_at hl 0 rfl) ?_
  refine W.objInit hx hb hown (hts _ (List.mem_of_getElem? (i := 1) rfl)) (hts _ (List.mem_of_getElem? (i := 2) rfl)) (hts _ (List.mem_of_getElem? (i := 3) rfl)) rfl (by rw [hml]; exact hl.1) rfl dX5_init_1 (Nat.le_of_ble_eq_true rfl) (Nat.le_of_ble_eq_true rfl) ?_
  refine W.eq (g2 := F0 m 4 ls []) rfl ?_
  refine lv_aload_n hx hb dX5_init_4 rfl (lv_at hl 0 rfl) ?_
  refine lv_bipush (v := 10) hx hb dX5_init_5 (by decide) ?_
  refine g_newi (N' := 10) hx hb (hts _ (List.mem_of_getElem? (i := 4) rfl)) hK hP hD hS hA (by decide) (by decide) (Nat.le_of_ble_eq_true rfl) (Nat.le_of_ble_eq_true rfl) (Nat.le_of_ble_eq_true rfl) dX5_init_7 (fun q_1 H hP hD hS => ?_)
  have hP : va_P G.1 vwCl [(h0, .inr (4, [.null, .null, .null, .int 0])), (q_1, .inl (G.2 0, 10, .inl (fun _ => 0)))] H := hP
  have hD : va_D A [(h0, .inr (4, [.null, .null, .null, .int 0])), (q_1, .inl (G.2 0, 10, .inl (fun _ => 0)))] := hD
  refine W.widen (k := 1) (n := 10) (Nat.le_of_ble_eq_true rfl) (Nat.le_of_ble_eq_true rfl) ?_
  refine va_putF (D := G.1) (ci := 4) (v := .ref q_1) (ty := (.array .int)) (C := RX5) (T := TX5) (N := 4) hx hb hts (fun _ h => List.mem_cons_of_mem _ (List.mem_append_right _ h)) tyX5 tyX5_ok nmX5 hown hK hP hD hS 0 rfl rfl 0 (by decide) (hts _ (List.mem_of_getElem? (i := 5) rfl)) (fun _ h9 => h9) rfl hin rfl (by decide +kernel) rfl rfl (Nat.le_of_ble_eq_true rfl) dX5_init_9 (fun H locs hP hD hS => ?_)
  have hP : va_P G.1 vwCl [(h0, .inr (4, [.ref q_1, .null, .null, .int 0])), (q_1, .inl (G.2 0, 10, .inl (fun _ => 0)))] H := hP
  have hD : va_D A [(h0, .inr (4, [.ref q_1, .null, .null, .int 0])), (q_1, .inl (G.2 0, 10, .inl (fun _ => 0)))] := hD
  refine lv_aload_n hx hb dX5_init_12 rfl (lv_at hl 0 rfl) ?_
  refine lv_bipush (v := 10) hx hb dX5_init_13 (by decide) ?_
  refine g_newi (N' := 10) hx hb (hts _ (List.mem_of_getElem? (i := 4) rfl)) hK hP hD hS hA (by decide) (by decide) (Nat.le_of_ble_eq_true rfl) (Nat.le_of_ble_eq_true rfl) (Nat.le_of_ble_eq_true rfl) dX5_init_15 (fun q_2 H hP hD hS => ?_)
  have hP : va_P G.1 vwCl [(h0, .inr (4, [.ref q_1, .null, .null, .int 0])), (q_1, .inl (G.2 0, 10, .inl (fun _ => 0))), (q_2, .inl (G.2 0, 10, .inl (fun _ => 0)))] H := hP
  have hD : va_D A [(h0, .inr (4, [.ref q_1, .null, .null, .int 0])), (q_1, .inl (G.2 0, 10, .inl (fun _ => 0))), (q_2, .inl (G.2 0, 10, .inl (fun _ => 0)))] := hD
  refine W.widen (k := 2) (n := 20) (Nat.le_of_ble_eq_true rfl) (Nat.le_of_ble_eq_true rfl) ?_
  refine va_putF (D := G.1) (ci := 4) (v := .ref q_2) (ty := (.array .int)) (C := RX5) (T := TX5) (N := 4) hx hb hts (fun _ h => List.mem_cons_of_mem _ (List.mem_append_right _ h)) tyX5 tyX5_ok nmX5 hown hK hP hD hS 0 rfl rfl 1 (by decide) (hts _ (List.mem_of_getElem? (i := 6) rfl)) (fun _ h9 => h9) rfl hin rfl (by decide +kernel) rfl rfl (Nat.le_of_ble_eq_true rfl) dX5_init_17 (fun H locs hP hD hS => ?_)
  have hP : va_P G.1 vwCl [(h0, .inr (4, [.ref q_1, .ref q_2, .null, .int 0])), (q_1, .inl (G.2 0, 10, .inl (fun _ => 0))), (q_2, .inl (G.2 0, 10, .inl (fun _ => 0)))] H := hP
  have hD : va_D A [(h0, .inr (4, [.ref q_1, .ref q_2, .null, .int 0])), (q_1, .inl (G.2 0, 10, .inl (fun _ => 0))), (q_2, .inl (G.2 0, 10, .inl (fun _ => 0)))] := hD
  refine lv_aload_n hx hb dX5_init_20 rfl (lv_at hl 0 rfl) ?_
  refine lv_bipush (v := 100) hx hb dX5_init_21 (by decide) ?_
  refine g_newi (N' := 100) hx hb (hts _ (List.mem_of_getElem? (i := 4) rfl)) hK hP hD hS hA (by decide) (by decide) (Nat.le_of_ble_eq_true rfl) (Nat.le_of_ble_eq_true rfl) (Nat.le_of_ble_eq_true rfl) dX5_init_23 (fun q_3 H hP hD hS => ?_)
  have hP : va_P G.1 vwCl [(h0, .inr (4, [.ref q_1, .ref q_2, .null, .int 0])), (q_1, .inl (G.2 0, 10, .inl (fun _ => 0))), (q_2, .inl (G.2 0, 10, .inl (fun _ => 0))), (q_3, .inl (G.2 0, 100, .inl (fun _ => 0)))] H := hP
  have hD : va_D A [(h0, .inr (4, [.ref q_1, .ref q_2, .null, .int 0])), (q_1, .inl (G.2 0, 10, .inl (fun _ => 0))), (q_2, .inl (G.2 0, 10, .inl (fun _ => 0))), (q_3, .inl (G.2 0, 100, .inl (fun _ => 0)))] := hD
  refine W.widen (k := 3) (n := 120) (Nat.le_of_ble_eq_true rfl) (Nat.le_of_ble_eq_true rfl) ?_
  refine va_putF (D := G.1) (ci := 4) (v := .ref q_3) (ty := (.array .int)) (C := RX5) (T := TX5) (N := 4) hx hb hts (fun _ h => List.mem_cons_of_mem _ (List.mem_append_right _ h)) tyX5 tyX5_ok nmX5 hown hK hP hD hS 0 rfl rfl 2 (by decide) (hts _ (List.mem_of_getElem? (i := 7) rfl)) (fun _ h9 => h9) rfl hin rfl (by decide +kernel) rfl rfl (Nat.le_of_ble_eq_true rfl) dX5_init_25 (fun H locs hP hD hS => ?_)
  have hP : va_P G.1 vwCl [(h0, .inr (4, [.ref q_1, .ref q_2, .ref q_3, .int 0])), (q_1, .inl (G.2 0, 10, .inl (fun _ => 0))), (q_2, .inl (G.2 0, 10, .inl (fun _ => 0))), (q_3, .inl (G.2 0, 100, .inl (fun _ => 0)))] H := hP
  have hD : va_D A [(h0, .inr (4, [.ref q_1, .ref q_2, .ref q_3, .int 0])), (q_1, .inl (G.2 0, 10, .inl (fun _ => 0))), (q_2, .inl (G.2 0, 10, .inl (fun _ => 0))), (q_3, .inl (G.2 0, 100, .inl (fun _ => 0)))] := hD
  exact g_vret hx hb hr hlocks hP hD hS (⟨q_1, q_2, q_3, rfl⟩) dX5_init_28
theorem dX2_init_0 : decode cX2_init 0 = .ok (.aload_n 0, 1) := by decide +kernel
theorem dX2_init_1 : decode cX2_init 1 = .ok (.invokespecial 3, 3) := by decide +kernel
theorem dX2_init_4 : decode cX2_init 4 = .ok (.aload_n 0, 1) := by decide +kernel
theorem dX2_init_5 : decode cX2_init 5 = .ok (.bipush 6, 2) := by decide +kernel
theorem dX2_init_7 : decode cX2_init 7 = .ok (.newarray .int, 2) := by decide +kernel
theorem dX2_init_9 : decode cX2_init 9 = .ok (.putfield 9, 3) := by decide +kernel
theorem dX2_init_12 : decode cX2_init 12 = .ok (.return_, 1) := by decide +kernel
set_option maxHeartbeats 8000000 in
set_option maxRecDepth 100000 in
theorem c_X2_init (l : Launch) (G : gG) (h0 : Nat) (sz : Nat) : gV G l yX2_init wsX2_init ({ frames := 1, cells := 1, slots := 6, locals := 12 } : Room) [.ref h0] [(h0, .inr (2, [.null]))] sz (fun (u : va_W) => (∃ h0a : Nat, u = [(h0, .inr (2, [.ref h0a])), (h0a, .inl (G.2 0, 6, .inl (fun _ => 0)))])) := by
  refine Met.ofW (cc := cX2_init) (maxL := 1) (ret := none) (by decide) rfl ?_
  intro p e s m args below meth c s₁ B hml hv
  obtain ⟨rfl, hsz, hP, hK, hD0, hN⟩ := hv
  have hx := B.exec
  have hb := B.bytes
  have hr := B.returns
  have hts := atoms_spec (ws := wsX2_init) B.pre
  have hown : s.vm.findClass RX2 = some m.cls := findClass_of_methodNamed B.named
  have hlocks := B.notSynchronized
  have hin : meth.name = "<init>" := (name_of_methodNamed B.named B.method).1
  subst hsz
  have hD := hD0.self (sz := s.heap.size)
  generalize hAe : va_A [(h0, .inr (2, [.null]))] s.heap.size = A at hD ⊢
  have hA : ∀ q : Nat, s.heap.size ≤ q → A q := fun q h => by rw [← hAe]; exact Or.inr h
  have hS : va_S A s.heap s.heap [] := va_S.rf
  have hP : va_P G.1 vwCl [(h0, .inr (2, [.null]))] s.heap := hP
  have hl := lv_entry ([.ref h0]) (n := 1) (Nat.le_of_ble_eq_true rfl)
  rw [lg_entry_eq]
  generalize (lg_sl ([.ref h0]) ++ List.replicate (1 - (lg_sl ([.ref h0])).length) Slot.unset).toArray = ls at hl ⊢
  have hl : lv_has ls 1 [(0, .ref h0)] := hl
  refine lv_aload_n hx hb dX2_init_0 rfl (lv_at hl 0 rfl) ?_
  refine W.objInit hx hb hown (hts _ (List.mem_of_getElem? (i := 1) rfl)) (hts _ (List.mem_of_getElem? (i := 2) rfl)) (hts _ (List.mem_of_getElem? (i := 3) rfl)) rfl (by rw [hml]; exact hl.1) rfl dX2_init_1 (Nat.le_of_ble_eq_true rfl) (Nat.le_of_ble_eq_true rfl) ?_
  refine W.eq (g2 := F0 m 4 ls []) rfl ?_
  refine lv_aload_n hx hb dX2_init_4 rfl (lv_at hl 0 rfl) ?_
  refine lv_bipush (v := 6) hx hb dX2_init_5 (by decide) ?_
  refine g_newi (N' := 6) hx hb (hts _ (List.mem_of_getElem? (i := 4) rfl)) hK hP hD hS hA (by decide) (by decide) (Nat.le_of_ble_eq_true rfl) (Nat.le_of_ble_eq_true rfl) (Nat.le_of_ble_eq_true rfl) dX2_init_7 (fun q_1 H hP hD hS => ?_)
  have hP : va_P G.1 vwCl [(h0, .inr (2, [.null])), (q_1, .inl (G.2 0, 6, .inl (fun _ => 0)))] H := hP
  have hD : va_D A [(h0, .inr (2, [.null])), (q_1, .inl (G.2 0, 6, .inl (fun _ => 0)))] := hD
  refine W.widen (k := 1) (n := 6) (Nat.le_of_ble_eq_true rfl) (Nat.le_of_ble_eq_true rfl) ?_
  refine va_putF (D := G.1) (ci := 2) (v := .ref q_1) (ty := (.array .int)) (C := RX2) (T := TX2) (N := 1) hx hb hts (fun _ h => List.mem_cons_of_mem _ (List.mem_append_right _ h)) tyX2 tyX2_ok nmX2 hown hK hP hD hS 0 rfl rfl 0 (by decide) (hts _ (List.mem_of_getElem? (i := 5) rfl)) (fun _ h9 => h9) rfl hin rfl (by decide +kernel) rfl rfl (Nat.le_of_ble_eq_true rfl) dX2_init_9 (fun H locs hP hD hS => ?_)
  have hP : va_P G.1 vwCl [(h0, .inr (2, [.ref q_1])), (q_1, .inl (G.2 0, 6, .inl (fun _ => 0)))] H := hP
  have hD : va_D A [(h0, .inr (2, [.ref q_1])), (q_1, .inl (G.2 0, 6, .inl (fun _ => 0)))] := hD
  exact g_vret hx hb hr hlocks hP hD hS (⟨q_1, rfl⟩) dX2_init_12
