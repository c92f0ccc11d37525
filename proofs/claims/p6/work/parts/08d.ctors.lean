section GL
variable {p : Program} {l : Launch} {e : Env} {R : Room} {s : State} {m : MethodId} {args : Array Value} {below : List Frame} {meth : Method} {c : Code} {cells slots : Nat} {Q : State → Prop}
/-- a loop whose counter runs from 0 to N -/
theorem g_loop {pc : Nat} (N : Nat) (I : Nat → Heap → List Loc → Array Slot → Prop) (hs : ∀ (k : Nat) (H : Heap) (locs : List Loc) (ls : Array Slot), k ≤ N → (∀ (H' : Heap) (locs' : List Loc) (ls' : Array Slot), k < N → I (k + 1) H' locs' ls' → W p l e R s m args below meth c H' locs' cells slots Q (F0 m pc ls' [])) → I k H locs ls → W p l e R s m args below meth c H locs cells slots Q (F0 m pc ls [])) {H : Heap} {locs : List Loc} {ls : Array Slot} (h0 : I 0 H locs ls) : W p l e R s m args below meth c H locs cells slots Q (F0 m pc ls []) := by
  have key : ∀ (d k : Nat), k + d = N → ∀ (H : Heap) (locs : List Loc) (ls : Array Slot), I k H locs ls → W p l e R s m args below meth c H locs cells slots Q (F0 m pc ls []) := by
    intro d
    induction d with
    | zero => exact fun k hk H locs ls hI => hs k H locs ls (by omega) (fun _ _ _ h => absurd h (by omega)) hI
    | succ d ih => exact fun k hk H locs ls hI => hs k H locs ls (by omega) (fun H' locs' ls' _ hI' => ih (k + 1) (by omega) H' locs' ls' hI') hI
  exact key N 0 (by omega) H locs ls h0
end GL
theorem dX4_init_0 : decode cX4_init 0 = .ok (.aload_n 0, 1) := kd_42 (by decide +kernel)
theorem dX4_init_1 : decode cX4_init 1 = .ok (.invokespecial 3, 3) := kd_183 (a := 0) (b := 3) (by decide +kernel)
theorem dX4_init_4 : decode cX4_init 4 = .ok (.aload_n 0, 1) := kd_42 (by decide +kernel)
theorem dX4_init_5 : decode cX4_init 5 = .ok (.bipush 7, 2) := kd_16 (a := 7) (by decide +kernel)
theorem dX4_init_7 : decode cX4_init 7 = .ok (.newarray .int, 2) := by decide +kernel
theorem dX4_init_9 : decode cX4_init 9 = .ok (.putfield 9, 3) := kd_181 (a := 0) (b := 9) (by decide +kernel)
theorem dX4_init_12 : decode cX4_init 12 = .ok (.aload_n 0, 1) := kd_42 (by decide +kernel)
theorem dX4_init_13 : decode cX4_init 13 = .ok (.bipush 7, 2) := kd_16 (a := 7) (by decide +kernel)
theorem dX4_init_15 : decode cX4_init 15 = .ok (.newarray .int, 2) := by decide +kernel
theorem dX4_init_17 : decode cX4_init 17 = .ok (.putfield 15, 3) := kd_181 (a := 0) (b := 15) (by decide +kernel)
theorem dX4_init_20 : decode cX4_init 20 = .ok (.aload_n 0, 1) := kd_42 (by decide +kernel)
theorem dX4_init_21 : decode cX4_init 21 = .ok (.bipush 7, 2) := kd_16 (a := 7) (by decide +kernel)
theorem dX4_init_23 : decode cX4_init 23 = .ok (.newarray .int, 2) := by decide +kernel
theorem dX4_init_25 : decode cX4_init 25 = .ok (.putfield 18, 3) := kd_181 (a := 0) (b := 18) (by decide +kernel)
theorem dX4_init_28 : decode cX4_init 28 = .ok (.return_, 1) := kd_177 (by decide +kernel)
set_option maxHeartbeats 8000000 in
set_option maxRecDepth 100000 in
theorem c_X4_init (l : Launch) (G : gG) (h0 : Nat) (sz : Nat) : gV G l yX4_init wsX4_init ({ frames := 1, cells := 3, slots := 21, locals := 12 } : Room) [.ref h0] [(h0, .inr (3, [.int 0, .null, .null, .null]))] sz (fun (u : va_W) => (∃ h0t : Nat, ∃ h0a : Nat, ∃ h0f : Nat, u = [oZ3 h0 h0t h0a h0f, zB G h0t 7, zB G h0a 7, zB G h0f 7])) := by
  refine Met.ofW (cc := cX4_init) (maxL := 1) (ret := none) (by decide) rfl ?_
  intro p e s m args below meth c s₁ B hml hv
  obtain ⟨rfl, hsz, hP, hK, hD0, hN, hZ⟩ := hv
  have hx := B.exec
  have hb := B.bytes
  have hr := B.returns
  have hts := atoms_spec (ws := wsX4_init) B.pre
  have hown : s.vm.findClass RX4 = some m.cls := findClass_of_methodNamed B.named
  have hlocks := B.notSynchronized
  have hin : meth.name = "<init>" := (name_of_methodNamed B.named B.method).1
  subst hsz
  have hD := hD0.self (sz := s.heap.size)
  generalize hAe : va_A [(h0, .inr (3, [.int 0, .null, .null, .null]))] s.heap.size = A at hD hZ ⊢
  have hA : ∀ q : Nat, s.heap.size ≤ q → A q := fun q h => by rw [← hAe]; exact Or.inr h
  have hS : va_S A s.heap s.heap [] := va_S.rf
  have hP : va_P G.1 vwCl [(h0, .inr (3, [.int 0, .null, .null, .null]))] s.heap := hP
  have hl := lv_entry ([.ref h0]) (n := 1) (Nat.le_of_ble_eq_true rfl)
  rw [lg_entry_eq]
  generalize (lg_sl ([.ref h0]) ++ List.replicate (1 - (lg_sl ([.ref h0])).length) Slot.unset).toArray = ls at hl ⊢
  have hl : lv_has ls 1 [(0, .ref h0)] := hl
  refine lv_aload_n hx hb dX4_init_0 rfl (lv_at hl 0 rfl) ?_
  refine W.objInit hx hb hown (hts _ (List.mem_cons_of_mem _ (in_r3 (List.mem_of_getElem? (i := 19) rfl)))) (hts _ (List.mem_cons_of_mem _ (in_r1 (List.mem_of_getElem? (i := 10) rfl)))) (hts _ (List.mem_cons_of_mem _ (in_r1 (List.mem_of_getElem? (i := 11) rfl)))) rfl (by rw [hml]; exact hl.1) rfl dX4_init_1 (Nat.le_of_ble_eq_true rfl) (Nat.le_of_ble_eq_true rfl) ?_
  refine W.eq (g2 := F0 m 4 ls []) rfl ?_
  refine lv_aload_n hx hb dX4_init_4 rfl (lv_at hl 0 rfl) ?_
  refine lv_bipush (v := 7) hx hb dX4_init_5 (by decide) ?_
  refine g_newi (N' := 7) hx hb (hts _ (List.mem_cons_of_mem _ (in_r3 (List.mem_of_getElem? (i := 2) rfl)))) hK hP hD hS hA (by decide) (by decide) (Nat.le_of_ble_eq_true rfl) (Nat.le_of_ble_eq_true rfl) (Nat.le_of_ble_eq_true rfl) dX4_init_7 (fun q_1 H hP hD hS => ?_)
  have hPD : PD G A H [(h0, .inr (3, [.int 0, .null, .null, .null])), zB G q_1 7] := ⟨hP, hD⟩
  have hP := hPD.1
  have hD := hPD.2
  clear hPD
  refine W.widen (k := 1) (n := 7) (Nat.le_of_ble_eq_true rfl) (Nat.le_of_ble_eq_true rfl) ?_
  refine va_putF (D := G.1) (ci := 3) (v := .ref q_1) (ty := (.array .int)) (C := RX4) (T := TX4) (N := 4) hx hb hts (fun _ h => List.mem_cons_of_mem _ (inlX4 _ h)) tyX4 tyX4_ok nmX4 hown hK hP hD hS 0 rfl rfl 1 (by decide) (hts _ (List.mem_cons_of_mem _ (in_r3 (List.mem_of_getElem? (i := 20) rfl)))) (fun _ h9 => h9) rfl hin rfl (by decide +kernel) rfl rfl (Nat.le_of_ble_eq_true rfl) dX4_init_9 (fun H locs hP hD hS => ?_)
  have hPD : PD G A H [(h0, .inr (3, [.int 0, .ref q_1, .null, .null])), zB G q_1 7] := ⟨hP, hD⟩
  have hP := hPD.1
  have hD := hPD.2
  clear hPD
  refine lv_aload_n hx hb dX4_init_12 rfl (lv_at hl 0 rfl) ?_
  refine lv_bipush (v := 7) hx hb dX4_init_13 (by decide) ?_
  refine g_newi (N' := 7) hx hb (hts _ (List.mem_cons_of_mem _ (in_r3 (List.mem_of_getElem? (i := 2) rfl)))) hK hP hD hS hA (by decide) (by decide) (Nat.le_of_ble_eq_true rfl) (Nat.le_of_ble_eq_true rfl) (Nat.le_of_ble_eq_true rfl) dX4_init_15 (fun q_2 H hP hD hS => ?_)
  have hPD : PD G A H [(h0, .inr (3, [.int 0, .ref q_1, .null, .null])), zB G q_1 7, zB G q_2 7] := ⟨hP, hD⟩
  have hP := hPD.1
  have hD := hPD.2
  clear hPD
  refine W.widen (k := 2) (n := 14) (Nat.le_of_ble_eq_true rfl) (Nat.le_of_ble_eq_true rfl) ?_
  refine va_putF (D := G.1) (ci := 3) (v := .ref q_2) (ty := (.array .int)) (C := RX4) (T := TX4) (N := 4) hx hb hts (fun _ h => List.mem_cons_of_mem _ (inlX4 _ h)) tyX4 tyX4_ok nmX4 hown hK hP hD hS 0 rfl rfl 2 (by decide) (hts _ (List.mem_cons_of_mem _ (in_r3 (List.mem_of_getElem? (i := 21) rfl)))) (fun _ h9 => h9) rfl hin rfl (by decide +kernel) rfl rfl (Nat.le_of_ble_eq_true rfl) dX4_init_17 (fun H locs hP hD hS => ?_)
  have hPD : PD G A H [(h0, .inr (3, [.int 0, .ref q_1, .ref q_2, .null])), zB G q_1 7, zB G q_2 7] := ⟨hP, hD⟩
  have hP := hPD.1
  have hD := hPD.2
  clear hPD
  refine lv_aload_n hx hb dX4_init_20 rfl (lv_at hl 0 rfl) ?_
  refine lv_bipush (v := 7) hx hb dX4_init_21 (by decide) ?_
  refine g_newi (N' := 7) hx hb (hts _ (List.mem_cons_of_mem _ (in_r3 (List.mem_of_getElem? (i := 2) rfl)))) hK hP hD hS hA (by decide) (by decide) (Nat.le_of_ble_eq_true rfl) (Nat.le_of_ble_eq_true rfl) (Nat.le_of_ble_eq_true rfl) dX4_init_23 (fun q_3 H hP hD hS => ?_)
  have hPD : PD G A H [(h0, .inr (3, [.int 0, .ref q_1, .ref q_2, .null])), zB G q_1 7, zB G q_2 7, zB G q_3 7] := ⟨hP, hD⟩
  have hP := hPD.1
  have hD := hPD.2
  clear hPD
  refine W.widen (k := 3) (n := 21) (Nat.le_of_ble_eq_true rfl) (Nat.le_of_ble_eq_true rfl) ?_
  refine va_putF (D := G.1) (ci := 3) (v := .ref q_3) (ty := (.array .int)) (C := RX4) (T := TX4) (N := 4) hx hb hts (fun _ h => List.mem_cons_of_mem _ (inlX4 _ h)) tyX4 tyX4_ok nmX4 hown hK hP hD hS 0 rfl rfl 3 (by decide) (hts _ (List.mem_cons_of_mem _ (in_r3 (List.mem_of_getElem? (i := 22) rfl)))) (fun _ h9 => h9) rfl hin rfl (by decide +kernel) rfl rfl (Nat.le_of_ble_eq_true rfl) dX4_init_25 (fun H locs hP hD hS => ?_)
  have hPD : PD G A H [oZ3 h0 q_1 q_2 q_3, zB G q_1 7, zB G q_2 7, zB G q_3 7] := ⟨hP, hD⟩
  have hP := hPD.1
  have hD := hPD.2
  clear hPD
  exact g_vret hx hb hr hlocks hP hD hS (⟨q_1, q_2, q_3, rfl⟩) dX4_init_28
theorem dX6_init_0 : decode cX6_init 0 = .ok (.aload_n 0, 1) := kd_42 (by decide +kernel)
theorem dX6_init_1 : decode cX6_init 1 = .ok (.invokespecial 1, 3) := kd_183 (a := 0) (b := 1) (by decide +kernel)
theorem dX6_init_4 : decode cX6_init 4 = .ok (.aload_n 0, 1) := kd_42 (by decide +kernel)
theorem dX6_init_5 : decode cX6_init 5 = .ok (.bipush 30, 2) := kd_16 (a := 30) (by decide +kernel)
theorem dX6_init_7 : decode cX6_init 7 = .ok (.newarray .int, 2) := by decide +kernel
theorem dX6_init_9 : decode cX6_init 9 = .ok (.putfield 9, 3) := kd_181 (a := 0) (b := 9) (by decide +kernel)
theorem dX6_init_12 : decode cX6_init 12 = .ok (.aload_n 0, 1) := kd_42 (by decide +kernel)
theorem dX6_init_13 : decode cX6_init 13 = .ok (.iconst 5, 1) := kd_8 (by decide +kernel)
theorem dX6_init_14 : decode cX6_init 14 = .ok (.iload_n 1, 1) := kd_27 (by decide +kernel)
theorem dX6_init_15 : decode cX6_init 15 = .ok (.invokestatic 13, 3) := kd_184 (a := 0) (b := 13) (by decide +kernel)
theorem dX6_init_18 : decode cX6_init 18 = .ok (.putfield 19, 3) := kd_181 (a := 0) (b := 19) (by decide +kernel)
theorem dX6_init_21 : decode cX6_init 21 = .ok (.aload_n 0, 1) := kd_42 (by decide +kernel)
theorem dX6_init_22 : decode cX6_init 22 = .ok (.bipush 6, 2) := kd_16 (a := 6) (by decide +kernel)
theorem dX6_init_24 : decode cX6_init 24 = .ok (.iload_n 2, 1) := kd_28 (by decide +kernel)
theorem dX6_init_25 : decode cX6_init 25 = .ok (.invokestatic 13, 3) := kd_184 (a := 0) (b := 13) (by decide +kernel)
theorem dX6_init_28 : decode cX6_init 28 = .ok (.putfield 23, 3) := kd_181 (a := 0) (b := 23) (by decide +kernel)
theorem dX6_init_31 : decode cX6_init 31 = .ok (.return_, 1) := kd_177 (by decide +kernel)
set_option maxHeartbeats 8000000 in
set_option maxRecDepth 100000 in
theorem c_X6_init_55 (l : Launch) (G : gG) (h0 : Nat) (sz : Nat) : gV G l yX6_init wsX6_init ({ frames := 1, cells := 1, slots := 30, locals := 14 } : Room) [.ref h0, .int 5, .int 5] [(h0, .inr (5, [.int 0, .int 0, .null, .int 0]))] sz (fun (u : va_W) => (∃ h0c : Nat, u = [(h0, .inr (5, [.int 5, .int 5, .ref h0c, .int 0])), zB G h0c 30])) := by
  refine Met.ofW (cc := cX6_init) (maxL := 3) (ret := none) (by decide) rfl ?_
  intro p e s m args below meth c s₁ B hml hv
  obtain ⟨rfl, hsz, hP, hK, hD0, hN, hZ⟩ := hv
  have hx := B.exec
  have hb := B.bytes
  have hr := B.returns
  have hts := atoms_spec (ws := wsX6_init) B.pre
  have hown : s.vm.findClass RX6 = some m.cls := findClass_of_methodNamed B.named
  have hlocks := B.notSynchronized
  have hin : meth.name = "<init>" := (name_of_methodNamed B.named B.method).1
  subst hsz
  have hD := hD0.self (sz := s.heap.size)
  generalize hAe : va_A [(h0, .inr (5, [.int 0, .int 0, .null, .int 0]))] s.heap.size = A at hD hZ ⊢
  have hA : ∀ q : Nat, s.heap.size ≤ q → A q := fun q h => by rw [← hAe]; exact Or.inr h
  have hS : va_S A s.heap s.heap [] := va_S.rf
  have hP : va_P G.1 vwCl [(h0, .inr (5, [.int 0, .int 0, .null, .int 0]))] s.heap := hP
  have hl := lv_entry ([.ref h0, .int 5, .int 5]) (n := 3) (Nat.le_of_ble_eq_true rfl)
  rw [lg_entry_eq]
  generalize (lg_sl ([.ref h0, .int 5, .int 5]) ++ List.replicate (3 - (lg_sl ([.ref h0, .int 5, .int 5])).length) Slot.unset).toArray = ls at hl ⊢
  have hl : lv_has ls 3 [(0, .ref h0), (1, .int 5), (2, .int 5)] := hl
  refine lv_aload_n hx hb dX6_init_0 rfl (lv_at hl 0 rfl) ?_
  refine W.objInit hx hb hown (hts _ (List.mem_cons_of_mem _ (in_r4 (List.mem_of_getElem? (i := 1) rfl)))) (hts _ (List.mem_cons_of_mem _ (in_r1 (List.mem_of_getElem? (i := 10) rfl)))) (hts _ (List.mem_cons_of_mem _ (in_r1 (List.mem_of_getElem? (i := 11) rfl)))) rfl (by rw [hml]; exact hl.1) rfl dX6_init_1 (Nat.le_of_ble_eq_true rfl) (Nat.le_of_ble_eq_true rfl) ?_
  refine W.eq (g2 := F0 m 4 ls []) rfl ?_
  refine lv_aload_n hx hb dX6_init_4 rfl (lv_at hl 0 rfl) ?_
  refine lv_bipush (v := 30) hx hb dX6_init_5 (by decide) ?_
  refine g_newi (N' := 30) hx hb (hts _ (List.mem_cons_of_mem _ (in_r3 (List.mem_of_getElem? (i := 2) rfl)))) hK hP hD hS hA (by decide) (by decide) (Nat.le_of_ble_eq_true rfl) (Nat.le_of_ble_eq_true rfl) (Nat.le_of_ble_eq_true rfl) dX6_init_7 (fun q_1 H hP hD hS => ?_)
  have hPD : PD G A H [(h0, .inr (5, [.int 0, .int 0, .null, .int 0])), zB G q_1 30] := ⟨hP, hD⟩
  have hP := hPD.1
  have hD := hPD.2
  clear hPD
  refine W.widen (k := 1) (n := 30) (Nat.le_of_ble_eq_true rfl) (Nat.le_of_ble_eq_true rfl) ?_
  refine va_putF (D := G.1) (ci := 5) (v := .ref q_1) (ty := (.array .int)) (C := RX6) (T := TX6) (N := 4) hx hb hts (fun _ h => List.mem_cons_of_mem _ (inlX6 _ h)) tyX6 tyX6_ok nmX6 hown hK hP hD hS 0 rfl rfl 2 (by decide) (hts _ (List.mem_cons_of_mem _ (in_r4 (List.mem_of_getElem? (i := 2) rfl)))) (fun _ h9 => h9) rfl hin rfl (by decide +kernel) rfl rfl (Nat.le_of_ble_eq_true rfl) dX6_init_9 (fun H locs hP hD hS => ?_)
  have hPD : PD G A H [oZ5 h0 q_1, zB G q_1 30] := ⟨hP, hD⟩
  have hP := hPD.1
  have hD := hPD.2
  clear hPD
  refine lv_aload_n hx hb dX6_init_12 rfl (lv_at hl 0 rfl) ?_
  refine lv_iconst (v := 5) hx hb dX6_init_13 (by decide) ?_
  refine lv_iload_n hx hb dX6_init_14 rfl (lv_at hl 1 rfl) ?_
  refine va_mmin (rest := [.ref h0]) hx hb (hml.trans hl.1.symm) hown (hts _ (List.mem_cons_of_mem _ (in_r4 (List.mem_of_getElem? (i := 3) rfl)))) (hts _ (List.mem_cons_of_mem _ (in_r4 (List.mem_of_getElem? (i := 4) rfl)))) (hts _ (List.mem_cons_of_mem _ (in_r4 (List.mem_of_getElem? (i := 5) rfl)))) (hts _ (List.mem_cons_of_mem _ (in_r4 (List.mem_of_getElem? (i := 6) rfl)))) (Nat.le_of_ble_eq_true rfl) (Nat.le_of_ble_eq_true rfl) (Nat.le_of_ble_eq_true rfl) (Nat.le_of_ble_eq_true rfl) dX6_init_15 ?_
  refine g_topi (y := 5) (by decide) ?_
  refine va_putF (D := G.1) (ci := 5) (v := .int 5) (ty := .int) (C := RX6) (T := TX6) (N := 4) hx hb hts (fun _ h => List.mem_cons_of_mem _ (inlX6 _ h)) tyX6 tyX6_ok nmX6 hown hK hP hD hS 0 rfl rfl 0 (by decide) (hts _ (List.mem_cons_of_mem _ (in_r4 (List.mem_of_getElem? (i := 7) rfl)))) (fun _ h9 => h9) rfl hin rfl (by decide +kernel) rfl rfl (Nat.le_of_ble_eq_true rfl) dX6_init_18 (fun H locs hP hD hS => ?_)
  have hPD : PD G A H [(h0, .inr (5, [.int 5, .int 0, .ref q_1, .int 0])), zB G q_1 30] := ⟨hP, hD⟩
  have hP := hPD.1
  have hD := hPD.2
  clear hPD
  refine lv_aload_n hx hb dX6_init_21 rfl (lv_at hl 0 rfl) ?_
  refine lv_bipush (v := 6) hx hb dX6_init_22 (by decide) ?_
  refine lv_iload_n hx hb dX6_init_24 rfl (lv_at hl 2 rfl) ?_
  refine va_mmin (rest := [.ref h0]) hx hb (hml.trans hl.1.symm) hown (hts _ (List.mem_cons_of_mem _ (in_r4 (List.mem_of_getElem? (i := 3) rfl)))) (hts _ (List.mem_cons_of_mem _ (in_r4 (List.mem_of_getElem? (i := 4) rfl)))) (hts _ (List.mem_cons_of_mem _ (in_r4 (List.mem_of_getElem? (i := 5) rfl)))) (hts _ (List.mem_cons_of_mem _ (in_r4 (List.mem_of_getElem? (i := 6) rfl)))) (Nat.le_of_ble_eq_true rfl) (Nat.le_of_ble_eq_true rfl) (Nat.le_of_ble_eq_true rfl) (Nat.le_of_ble_eq_true rfl) dX6_init_25 ?_
  refine g_topi (y := 5) (by decide) ?_
  refine va_putF (D := G.1) (ci := 5) (v := .int 5) (ty := .int) (C := RX6) (T := TX6) (N := 4) hx hb hts (fun _ h => List.mem_cons_of_mem _ (inlX6 _ h)) tyX6 tyX6_ok nmX6 hown hK hP hD hS 0 rfl rfl 1 (by decide) (hts _ (List.mem_cons_of_mem _ (in_r4 (List.mem_of_getElem? (i := 8) rfl)))) (fun _ h9 => h9) rfl hin rfl (by decide +kernel) rfl rfl (Nat.le_of_ble_eq_true rfl) dX6_init_28 (fun H locs hP hD hS => ?_)
  have hPD : PD G A H [(h0, .inr (5, [.int 5, .int 5, .ref q_1, .int 0])), zB G q_1 30] := ⟨hP, hD⟩
  have hP := hPD.1
  have hD := hPD.2
  clear hPD
  exact g_vret hx hb hr hlocks hP hD hS (⟨q_1, rfl⟩) dX6_init_31
set_option maxHeartbeats 8000000 in
set_option maxRecDepth 100000 in
theorem c_X6_init_56 (l : Launch) (G : gG) (h0 : Nat) (sz : Nat) : gV G l yX6_init wsX6_init ({ frames := 1, cells := 1, slots := 30, locals := 14 } : Room) [.ref h0, .int 5, .int 6] [(h0, .inr (5, [.int 0, .int 0, .null, .int 0]))] sz (fun (u : va_W) => (∃ h0c : Nat, u = [(h0, .inr (5, [.int 5, .int 6, .ref h0c, .int 0])), zB G h0c 30])) := by
  refine Met.ofW (cc := cX6_init) (maxL := 3) (ret := none) (by decide) rfl ?_
  intro p e s m args below meth c s₁ B hml hv
  obtain ⟨rfl, hsz, hP, hK, hD0, hN, hZ⟩ := hv
  have hx := B.exec
  have hb := B.bytes
  have hr := B.returns
  have hts := atoms_spec (ws := wsX6_init) B.pre
  have hown : s.vm.findClass RX6 = some m.cls := findClass_of_methodNamed B.named
  have hlocks := B.notSynchronized
  have hin : meth.name = "<init>" := (name_of_methodNamed B.named B.method).1
  subst hsz
  have hD := hD0.self (sz := s.heap.size)
  generalize hAe : va_A [(h0, .inr (5, [.int 0, .int 0, .null, .int 0]))] s.heap.size = A at hD hZ ⊢
  have hA : ∀ q : Nat, s.heap.size ≤ q → A q := fun q h => by rw [← hAe]; exact Or.inr h
  have hS : va_S A s.heap s.heap [] := va_S.rf
  have hP : va_P G.1 vwCl [(h0, .inr (5, [.int 0, .int 0, .null, .int 0]))] s.heap := hP
  have hl := lv_entry ([.ref h0, .int 5, .int 6]) (n := 3) (Nat.le_of_ble_eq_true rfl)
  rw [lg_entry_eq]
  generalize (lg_sl ([.ref h0, .int 5, .int 6]) ++ List.replicate (3 - (lg_sl ([.ref h0, .int 5, .int 6])).length) Slot.unset).toArray = ls at hl ⊢
  have hl : lv_has ls 3 [(0, .ref h0), (1, .int 5), (2, .int 6)] := hl
  refine lv_aload_n hx hb dX6_init_0 rfl (lv_at hl 0 rfl) ?_
  refine W.objInit hx hb hown (hts _ (List.mem_cons_of_mem _ (in_r4 (List.mem_of_getElem? (i := 1) rfl)))) (hts _ (List.mem_cons_of_mem _ (in_r1 (List.mem_of_getElem? (i := 10) rfl)))) (hts _ (List.mem_cons_of_mem _ (in_r1 (List.mem_of_getElem? (i := 11) rfl)))) rfl (by rw [hml]; exact hl.1) rfl dX6_init_1 (Nat.le_of_ble_eq_true rfl) (Nat.le_of_ble_eq_true rfl) ?_
  refine W.eq (g2 := F0 m 4 ls []) rfl ?_
  refine lv_aload_n hx hb dX6_init_4 rfl (lv_at hl 0 rfl) ?_
  refine lv_bipush (v := 30) hx hb dX6_init_5 (by decide) ?_
  refine g_newi (N' := 30) hx hb (hts _ (List.mem_cons_of_mem _ (in_r3 (List.mem_of_getElem? (i := 2) rfl)))) hK hP hD hS hA (by decide) (by decide) (Nat.le_of_ble_eq_true rfl) (Nat.le_of_ble_eq_true rfl) (Nat.le_of_ble_eq_true rfl) dX6_init_7 (fun q_1 H hP hD hS => ?_)
  have hPD : PD G A H [(h0, .inr (5, [.int 0, .int 0, .null, .int 0])), zB G q_1 30] := ⟨hP, hD⟩
  have hP := hPD.1
  have hD := hPD.2
  clear hPD
  refine W.widen (k := 1) (n := 30) (Nat.le_of_ble_eq_true rfl) (Nat.le_of_ble_eq_true rfl) ?_
  refine va_putF (D := G.1) (ci := 5) (v := .ref q_1) (ty := (.array .int)) (C := RX6) (T := TX6) (N := 4) hx hb hts (fun _ h => List.mem_cons_of_mem _ (inlX6 _ h)) tyX6 tyX6_ok nmX6 hown hK hP hD hS 0 rfl rfl 2 (by decide) (hts _ (List.mem_cons_of_mem _ (in_r4 (List.mem_of_getElem? (i := 2) rfl)))) (fun _ h9 => h9) rfl hin rfl (by decide +kernel) rfl rfl (Nat.le_of_ble_eq_true rfl) dX6_init_9 (fun H locs hP hD hS => ?_)
  have hPD : PD G A H [oZ5 h0 q_1, zB G q_1 30] := ⟨hP, hD⟩
  have hP := hPD.1
  have hD := hPD.2
  clear hPD
  refine lv_aload_n hx hb dX6_init_12 rfl (lv_at hl 0 rfl) ?_
  refine lv_iconst (v := 5) hx hb dX6_init_13 (by decide) ?_
  refine lv_iload_n hx hb dX6_init_14 rfl (lv_at hl 1 rfl) ?_
  refine va_mmin (rest := [.ref h0]) hx hb (hml.trans hl.1.symm) hown (hts _ (List.mem_cons_of_mem _ (in_r4 (List.mem_of_getElem? (i := 3) rfl)))) (hts _ (List.mem_cons_of_mem _ (in_r4 (List.mem_of_getElem? (i := 4) rfl)))) (hts _ (List.mem_cons_of_mem _ (in_r4 (List.mem_of_getElem? (i := 5) rfl)))) (hts _ (List.mem_cons_of_mem _ (in_r4 (List.mem_of_getElem? (i := 6) rfl)))) (Nat.le_of_ble_eq_true rfl) (Nat.le_of_ble_eq_true rfl) (Nat.le_of_ble_eq_true rfl) (Nat.le_of_ble_eq_true rfl) dX6_init_15 ?_
  refine g_topi (y := 5) (by decide) ?_
  refine va_putF (D := G.1) (ci := 5) (v := .int 5) (ty := .int) (C := RX6) (T := TX6) (N := 4) hx hb hts (fun _ h => List.mem_cons_of_mem _ (inlX6 _ h)) tyX6 tyX6_ok nmX6 hown hK hP hD hS 0 rfl rfl 0 (by decide) (hts _ (List.mem_cons_of_mem _ (in_r4 (List.mem_of_getElem? (i := 7) rfl)))) (fun _ h9 => h9) rfl hin rfl (by decide +kernel) rfl rfl (Nat.le_of_ble_eq_true rfl) dX6_init_18 (fun H locs hP hD hS => ?_)
  have hPD : PD G A H [(h0, .inr (5, [.int 5, .int 0, .ref q_1, .int 0])), zB G q_1 30] := ⟨hP, hD⟩
  have hP := hPD.1
  have hD := hPD.2
  clear hPD
  refine lv_aload_n hx hb dX6_init_21 rfl (lv_at hl 0 rfl) ?_
  refine lv_bipush (v := 6) hx hb dX6_init_22 (by decide) ?_
  refine lv_iload_n hx hb dX6_init_24 rfl (lv_at hl 2 rfl) ?_
  refine va_mmin (rest := [.ref h0]) hx hb (hml.trans hl.1.symm) hown (hts _ (List.mem_cons_of_mem _ (in_r4 (List.mem_of_getElem? (i := 3) rfl)))) (hts _ (List.mem_cons_of_mem _ (in_r4 (List.mem_of_getElem? (i := 4) rfl)))) (hts _ (List.mem_cons_of_mem _ (in_r4 (List.mem_of_getElem? (i := 5) rfl)))) (hts _ (List.mem_cons_of_mem _ (in_r4 (List.mem_of_getElem? (i := 6) rfl)))) (Nat.le_of_ble_eq_true rfl) (Nat.le_of_ble_eq_true rfl) (Nat.le_of_ble_eq_true rfl) (Nat.le_of_ble_eq_true rfl) dX6_init_25 ?_
  refine g_topi (y := 6) (by decide) ?_
  refine va_putF (D := G.1) (ci := 5) (v := .int 6) (ty := .int) (C := RX6) (T := TX6) (N := 4) hx hb hts (fun _ h => List.mem_cons_of_mem _ (inlX6 _ h)) tyX6 tyX6_ok nmX6 hown hK hP hD hS 0 rfl rfl 1 (by decide) (hts _ (List.mem_cons_of_mem _ (in_r4 (List.mem_of_getElem? (i := 8) rfl)))) (fun _ h9 => h9) rfl hin rfl (by decide +kernel) rfl rfl (Nat.le_of_ble_eq_true rfl) dX6_init_28 (fun H locs hP hD hS => ?_)
  have hPD : PD G A H [(h0, .inr (5, [.int 5, .int 6, .ref q_1, .int 0])), zB G q_1 30] := ⟨hP, hD⟩
  have hP := hPD.1
  have hD := hPD.2
  clear hPD
  exact g_vret hx hb hr hlocks hP hD hS (⟨q_1, rfl⟩) dX6_init_31
set_option maxHeartbeats 8000000 in
set_option maxRecDepth 100000 in
theorem c_X6_init_46 (l : Launch) (G : gG) (h0 : Nat) (sz : Nat) : gV G l yX6_init wsX6_init ({ frames := 1, cells := 1, slots := 30, locals := 14 } : Room) [.ref h0, .int 4, .int 6] [(h0, .inr (5, [.int 0, .int 0, .null, .int 0]))] sz (fun (u : va_W) => (∃ h0c : Nat, u = [(h0, .inr (5, [.int 4, .int 6, .ref h0c, .int 0])), zB G h0c 30])) := by
  refine Met.ofW (cc := cX6_init) (maxL := 3) (ret := none) (by decide) rfl ?_
  intro p e s m args below meth c s₁ B hml hv
  obtain ⟨rfl, hsz, hP, hK, hD0, hN, hZ⟩ := hv
  have hx := B.exec
  have hb := B.bytes
  have hr := B.returns
  have hts := atoms_spec (ws := wsX6_init) B.pre
  have hown : s.vm.findClass RX6 = some m.cls := findClass_of_methodNamed B.named
  have hlocks := B.notSynchronized
  have hin : meth.name = "<init>" := (name_of_methodNamed B.named B.method).1
  subst hsz
  have hD := hD0.self (sz := s.heap.size)
  generalize hAe : va_A [(h0, .inr (5, [.int 0, .int 0, .null, .int 0]))] s.heap.size = A at hD hZ ⊢
  have hA : ∀ q : Nat, s.heap.size ≤ q → A q := fun q h => by rw [← hAe]; exact Or.inr h
  have hS : va_S A s.heap s.heap [] := va_S.rf
  have hP : va_P G.1 vwCl [(h0, .inr (5, [.int 0, .int 0, .null, .int 0]))] s.heap := hP
  have hl := lv_entry ([.ref h0, .int 4, .int 6]) (n := 3) (Nat.le_of_ble_eq_true rfl)
  rw [lg_entry_eq]
  generalize (lg_sl ([.ref h0, .int 4, .int 6]) ++ List.replicate (3 - (lg_sl ([.ref h0, .int 4, .int 6])).length) Slot.unset).toArray = ls at hl ⊢
  have hl : lv_has ls 3 [(0, .ref h0), (1, .int 4), (2, .int 6)] := hl
  refine lv_aload_n hx hb dX6_init_0 rfl (lv_at hl 0 rfl) ?_
  refine W.objInit hx hb hown (hts _ (List.mem_cons_of_mem _ (in_r4 (List.mem_of_getElem? (i := 1) rfl)))) (hts _ (List.mem_cons_of_mem _ (in_r1 (List.mem_of_getElem? (i := 10) rfl)))) (hts _ (List.mem_cons_of_mem _ (in_r1 (List.mem_of_getElem? (i := 11) rfl)))) rfl (by rw [hml]; exact hl.1) rfl dX6_init_1 (Nat.le_of_ble_eq_true rfl) (Nat.le_of_ble_eq_true rfl) ?_
  refine W.eq (g2 := F0 m 4 ls []) rfl ?_
  refine lv_aload_n hx hb dX6_init_4 rfl (lv_at hl 0 rfl) ?_
  refine lv_bipush (v := 30) hx hb dX6_init_5 (by decide) ?_
  refine g_newi (N' := 30) hx hb (hts _ (List.mem_cons_of_mem _ (in_r3 (List.mem_of_getElem? (i := 2) rfl)))) hK hP hD hS hA (by decide) (by decide) (Nat.le_of_ble_eq_true rfl) (Nat.le_of_ble_eq_true rfl) (Nat.le_of_ble_eq_true rfl) dX6_init_7 (fun q_1 H hP hD hS => ?_)
  have hPD : PD G A H [(h0, .inr (5, [.int 0, .int 0, .null, .int 0])), zB G q_1 30] := ⟨hP, hD⟩
  have hP := hPD.1
  have hD := hPD.2
  clear hPD
  refine W.widen (k := 1) (n := 30) (Nat.le_of_ble_eq_true rfl) (Nat.le_of_ble_eq_true rfl) ?_
  refine va_putF (D := G.1) (ci := 5) (v := .ref q_1) (ty := (.array .int)) (C := RX6) (T := TX6) (N := 4) hx hb hts (fun _ h => List.mem_cons_of_mem _ (inlX6 _ h)) tyX6 tyX6_ok nmX6 hown hK hP hD hS 0 rfl rfl 2 (by decide) (hts _ (List.mem_cons_of_mem _ (in_r4 (List.mem_of_getElem? (i := 2) rfl)))) (fun _ h9 => h9) rfl hin rfl (by decide +kernel) rfl rfl (Nat.le_of_ble_eq_true rfl) dX6_init_9 (fun H locs hP hD hS => ?_)
  have hPD : PD G A H [oZ5 h0 q_1, zB G q_1 30] := ⟨hP, hD⟩
  have hP := hPD.1
  have hD := hPD.2
  clear hPD
  refine lv_aload_n hx hb dX6_init_12 rfl (lv_at hl 0 rfl) ?_
  refine lv_iconst (v := 5) hx hb dX6_init_13 (by decide) ?_
  refine lv_iload_n hx hb dX6_init_14 rfl (lv_at hl 1 rfl) ?_
  refine va_mmin (rest := [.ref h0]) hx hb (hml.trans hl.1.symm) hown (hts _ (List.mem_cons_of_mem _ (in_r4 (List.mem_of_getElem? (i := 3) rfl)))) (hts _ (List.mem_cons_of_mem _ (in_r4 (List.mem_of_getElem? (i := 4) rfl)))) (hts _ (List.mem_cons_of_mem _ (in_r4 (List.mem_of_getElem? (i := 5) rfl)))) (hts _ (List.mem_cons_of_mem _ (in_r4 (List.mem_of_getElem? (i := 6) rfl)))) (Nat.le_of_ble_eq_true rfl) (Nat.le_of_ble_eq_true rfl) (Nat.le_of_ble_eq_true rfl) (Nat.le_of_ble_eq_true rfl) dX6_init_15 ?_
  refine g_topi (y := 4) (by decide) ?_
  refine va_putF (D := G.1) (ci := 5) (v := .int 4) (ty := .int) (C := RX6) (T := TX6) (N := 4) hx hb hts (fun _ h => List.mem_cons_of_mem _ (inlX6 _ h)) tyX6 tyX6_ok nmX6 hown hK hP hD hS 0 rfl rfl 0 (by decide) (hts _ (List.mem_cons_of_mem _ (in_r4 (List.mem_of_getElem? (i := 7) rfl)))) (fun _ h9 => h9) rfl hin rfl (by decide +kernel) rfl rfl (Nat.le_of_ble_eq_true rfl) dX6_init_18 (fun H locs hP hD hS => ?_)
  have hPD : PD G A H [(h0, .inr (5, [.int 4, .int 0, .ref q_1, .int 0])), zB G q_1 30] := ⟨hP, hD⟩
  have hP := hPD.1
  have hD := hPD.2
  clear hPD
  refine lv_aload_n hx hb dX6_init_21 rfl (lv_at hl 0 rfl) ?_
  refine lv_bipush (v := 6) hx hb dX6_init_22 (by decide) ?_
  refine lv_iload_n hx hb dX6_init_24 rfl (lv_at hl 2 rfl) ?_
  refine va_mmin (rest := [.ref h0]) hx hb (hml.trans hl.1.symm) hown (hts _ (List.mem_cons_of_mem _ (in_r4 (List.mem_of_getElem? (i := 3) rfl)))) (hts _ (List.mem_cons_of_mem _ (in_r4 (List.mem_of_getElem? (i := 4) rfl)))) (hts _ (List.mem_cons_of_mem _ (in_r4 (List.mem_of_getElem? (i := 5) rfl)))) (hts _ (List.mem_cons_of_mem _ (in_r4 (List.mem_of_getElem? (i := 6) rfl)))) (Nat.le_of_ble_eq_true rfl) (Nat.le_of_ble_eq_true rfl) (Nat.le_of_ble_eq_true rfl) (Nat.le_of_ble_eq_true rfl) dX6_init_25 ?_
  refine g_topi (y := 6) (by decide) ?_
  refine va_putF (D := G.1) (ci := 5) (v := .int 6) (ty := .int) (C := RX6) (T := TX6) (N := 4) hx hb hts (fun _ h => List.mem_cons_of_mem _ (inlX6 _ h)) tyX6 tyX6_ok nmX6 hown hK hP hD hS 0 rfl rfl 1 (by decide) (hts _ (List.mem_cons_of_mem _ (in_r4 (List.mem_of_getElem? (i := 8) rfl)))) (fun _ h9 => h9) rfl hin rfl (by decide +kernel) rfl rfl (Nat.le_of_ble_eq_true rfl) dX6_init_28 (fun H locs hP hD hS => ?_)
  have hPD : PD G A H [(h0, .inr (5, [.int 4, .int 6, .ref q_1, .int 0])), zB G q_1 30] := ⟨hP, hD⟩
  have hP := hPD.1
  have hD := hPD.2
  clear hPD
  exact g_vret hx hb hr hlocks hP hD hS (⟨q_1, rfl⟩) dX6_init_31
theorem dX9_init_0 : decode cX9_init 0 = .ok (.aload_n 0, 1) := kd_42 (by decide +kernel)
theorem dX9_init_1 : decode cX9_init 1 = .ok (.invokespecial 3, 3) := kd_183 (a := 0) (b := 3) (by decide +kernel)
theorem dX9_init_4 : decode cX9_init 4 = .ok (.aload_n 0, 1) := kd_42 (by decide +kernel)
theorem dX9_init_5 : decode cX9_init 5 = .ok (.bipush 6, 2) := kd_16 (a := 6) (by decide +kernel)
theorem dX9_init_7 : decode cX9_init 7 = .ok (.newarray .int, 2) := by decide +kernel
theorem dX9_init_9 : decode cX9_init 9 = .ok (.putfield 9, 3) := kd_181 (a := 0) (b := 9) (by decide +kernel)
theorem dX9_init_12 : decode cX9_init 12 = .ok (.aload_n 0, 1) := kd_42 (by decide +kernel)
theorem dX9_init_13 : decode cX9_init 13 = .ok (.bipush 7, 2) := kd_16 (a := 7) (by decide +kernel)
theorem dX9_init_15 : decode cX9_init 15 = .ok (.newarray .int, 2) := by decide +kernel
theorem dX9_init_17 : decode cX9_init 17 = .ok (.putfield 15, 3) := kd_181 (a := 0) (b := 15) (by decide +kernel)
theorem dX9_init_20 : decode cX9_init 20 = .ok (.aload_n 0, 1) := kd_42 (by decide +kernel)
theorem dX9_init_21 : decode cX9_init 21 = .ok (.bipush 7, 2) := kd_16 (a := 7) (by decide +kernel)
theorem dX9_init_23 : decode cX9_init 23 = .ok (.newarray .int, 2) := by decide +kernel
theorem dX9_init_25 : decode cX9_init 25 = .ok (.putfield 18, 3) := kd_181 (a := 0) (b := 18) (by decide +kernel)
theorem dX9_init_28 : decode cX9_init 28 = .ok (.aload_n 0, 1) := kd_42 (by decide +kernel)
theorem dX9_init_29 : decode cX9_init 29 = .ok (.iconst 4, 1) := kd_7 (by decide +kernel)
theorem dX9_init_30 : decode cX9_init 30 = .ok (.newarray .int, 2) := by decide +kernel
theorem dX9_init_32 : decode cX9_init 32 = .ok (.putfield 21, 3) := kd_181 (a := 0) (b := 21) (by decide +kernel)
theorem dX9_init_35 : decode cX9_init 35 = .ok (.aload_n 0, 1) := kd_42 (by decide +kernel)
theorem dX9_init_36 : decode cX9_init 36 = .ok (.iconst 4, 1) := kd_7 (by decide +kernel)
theorem dX9_init_37 : decode cX9_init 37 = .ok (.newarray .int, 2) := by decide +kernel
theorem dX9_init_39 : decode cX9_init 39 = .ok (.putfield 24, 3) := kd_181 (a := 0) (b := 24) (by decide +kernel)
theorem dX9_init_42 : decode cX9_init 42 = .ok (.aload_n 0, 1) := kd_42 (by decide +kernel)
theorem dX9_init_43 : decode cX9_init 43 = .ok (.new 27, 3) := kd_187 (a := 0) (b := 27) (by decide +kernel)
theorem dX9_init_46 : decode cX9_init 46 = .ok (.dup, 1) := kd_89 (by decide +kernel)
theorem gX9_init_X4_init_n29 : GoodIn wsX9_init (wsX4_init) := gW_0 (in_r3 (List.mem_of_getElem? (i := 18) rfl))
theorem dX9_init_47 : decode cX9_init 47 = .ok (.invokespecial 29, 3) := kd_183 (a := 0) (b := 29) (by decide +kernel)
theorem dX9_init_50 : decode cX9_init 50 = .ok (.putfield 30, 3) := kd_181 (a := 0) (b := 30) (by decide +kernel)
theorem dX9_init_53 : decode cX9_init 53 = .ok (.aload_n 0, 1) := kd_42 (by decide +kernel)
theorem dX9_init_54 : decode cX9_init 54 = .ok (.bipush 8, 2) := kd_16 (a := 8) (by decide +kernel)
theorem dX9_init_56 : decode cX9_init 56 = .ok (.anewarray 27, 3) := kd_189 (a := 0) (b := 27) (by decide +kernel)
theorem dX9_init_59 : decode cX9_init 59 = .ok (.putfield 34, 3) := kd_181 (a := 0) (b := 34) (by decide +kernel)
theorem dX9_init_62 : decode cX9_init 62 = .ok (.aload_n 0, 1) := kd_42 (by decide +kernel)
theorem dX9_init_63 : decode cX9_init 63 = .ok (.new 38, 3) := kd_187 (a := 0) (b := 38) (by decide +kernel)
theorem dX9_init_66 : decode cX9_init 66 = .ok (.dup, 1) := kd_89 (by decide +kernel)
theorem dX9_init_67 : decode cX9_init 67 = .ok (.iconst 5, 1) := kd_8 (by decide +kernel)
theorem dX9_init_68 : decode cX9_init 68 = .ok (.iconst 5, 1) := kd_8 (by decide +kernel)
theorem gX9_init_X6_init_n40 : GoodIn wsX9_init (wsX6_init) := gW_0 (in_r4 (List.mem_of_getElem? (i := 0) rfl))
theorem dX9_init_69 : decode cX9_init 69 = .ok (.invokespecial 40, 3) := kd_183 (a := 0) (b := 40) (by decide +kernel)
theorem dX9_init_72 : decode cX9_init 72 = .ok (.putfield 43, 3) := kd_181 (a := 0) (b := 43) (by decide +kernel)
theorem dX9_init_75 : decode cX9_init 75 = .ok (.aload_n 0, 1) := kd_42 (by decide +kernel)
theorem dX9_init_76 : decode cX9_init 76 = .ok (.new 38, 3) := kd_187 (a := 0) (b := 38) (by decide +kernel)
theorem dX9_init_79 : decode cX9_init 79 = .ok (.dup, 1) := kd_89 (by decide +kernel)
theorem dX9_init_80 : decode cX9_init 80 = .ok (.iconst 5, 1) := kd_8 (by decide +kernel)
theorem dX9_init_81 : decode cX9_init 81 = .ok (.bipush 6, 2) := kd_16 (a := 6) (by decide +kernel)
theorem dX9_init_83 : decode cX9_init 83 = .ok (.invokespecial 40, 3) := kd_183 (a := 0) (b := 40) (by decide +kernel)
theorem dX9_init_86 : decode cX9_init 86 = .ok (.putfield 47, 3) := kd_181 (a := 0) (b := 47) (by decide +kernel)
theorem dX9_init_89 : decode cX9_init 89 = .ok (.aload_n 0, 1) := kd_42 (by decide +kernel)
theorem dX9_init_90 : decode cX9_init 90 = .ok (.new 38, 3) := kd_187 (a := 0) (b := 38) (by decide +kernel)
theorem dX9_init_93 : decode cX9_init 93 = .ok (.dup, 1) := kd_89 (by decide +kernel)
theorem dX9_init_94 : decode cX9_init 94 = .ok (.iconst 4, 1) := kd_7 (by decide +kernel)
theorem dX9_init_95 : decode cX9_init 95 = .ok (.bipush 6, 2) := kd_16 (a := 6) (by decide +kernel)
theorem dX9_init_97 : decode cX9_init 97 = .ok (.invokespecial 40, 3) := kd_183 (a := 0) (b := 40) (by decide +kernel)
theorem dX9_init_100 : decode cX9_init 100 = .ok (.putfield 50, 3) := kd_181 (a := 0) (b := 50) (by decide +kernel)
theorem dX9_init_103 : decode cX9_init 103 = .ok (.iconst 0, 1) := kd_3 (by decide +kernel)
theorem dX9_init_104 : decode cX9_init 104 = .ok (.istore_n 1, 1) := kd_60 (by decide +kernel)
theorem dX9_init_105 : decode cX9_init 105 = .ok (.iload_n 1, 1) := kd_27 (by decide +kernel)
theorem dX9_init_106 : decode cX9_init 106 = .ok (.bipush 8, 2) := kd_16 (a := 8) (by decide +kernel)
theorem dX9_init_108 : decode cX9_init 108 = .ok (.if_icmp .ge 22, 3) := kd_162 (a := 0) (b := 22) (by decide +kernel)
theorem dX9_init_111 : decode cX9_init 111 = .ok (.aload_n 0, 1) := kd_42 (by decide +kernel)
theorem dX9_init_112 : decode cX9_init 112 = .ok (.getfield 34, 3) := kd_180 (a := 0) (b := 34) (by decide +kernel)
theorem dX9_init_115 : decode cX9_init 115 = .ok (.iload_n 1, 1) := kd_27 (by decide +kernel)
theorem dX9_init_116 : decode cX9_init 116 = .ok (.new 27, 3) := kd_187 (a := 0) (b := 27) (by decide +kernel)
theorem dX9_init_119 : decode cX9_init 119 = .ok (.dup, 1) := kd_89 (by decide +kernel)
theorem dX9_init_120 : decode cX9_init 120 = .ok (.invokespecial 29, 3) := kd_183 (a := 0) (b := 29) (by decide +kernel)
theorem dX9_init_123 : decode cX9_init 123 = .ok (.aastore, 1) := kd_83 (by decide +kernel)
theorem dX9_init_124 : decode cX9_init 124 = .ok (.iinc 1 1, 3) := kd_132 (a := 1) (b := 1) (by decide +kernel)
theorem dX9_init_127 : decode cX9_init 127 = .ok (.goto (-22), 3) := kd_167 (a := 255) (b := 234) (by decide +kernel)
theorem dX9_init_130 : decode cX9_init 130 = .ok (.return_, 1) := kd_177 (by decide +kernel)
set_option maxHeartbeats 8000000 in
set_option maxRecDepth 100000 in
theorem c_X9_init (l : Launch) (G : gG) (h0 : Nat) (sz : Nat) : gV G l yX9_init wsX9_init ({ frames := 2, cells := 48, slots := 363, locals := 36 } : Room) [.ref h0] [(h0, .inr (8, [.null, .null, .null, .null, .null, .null, .null, .null, .null, .null, .int 0, .int 0, .int 0]))] sz (fun (u : va_W) => (∃ h0d : Nat, ∃ h0k : Nat, ∃ h0r : Nat, ∃ h0n : Nat, ∃ h0e : Nat, ∃ h0T : Nat, ∃ h0Tt : Nat, ∃ h0Ta : Nat, ∃ h0Tf : Nat, ∃ h0P : Nat, ∃ h0P0 : Nat, ∃ h0P0t : Nat, ∃ h0P0a : Nat, ∃ h0P0f : Nat, ∃ h0P1 : Nat, ∃ h0P1t : Nat, ∃ h0P1a : Nat, ∃ h0P1f : Nat, ∃ h0P2 : Nat, ∃ h0P2t : Nat, ∃ h0P2a : Nat, ∃ h0P2f : Nat, ∃ h0P3 : Nat, ∃ h0P3t : Nat, ∃ h0P3a : Nat, ∃ h0P3f : Nat, ∃ h0P4 : Nat, ∃ h0P4t : Nat, ∃ h0P4a : Nat, ∃ h0P4f : Nat, ∃ h0P5 : Nat, ∃ h0P5t : Nat, ∃ h0P5a : Nat, ∃ h0P5f : Nat, ∃ h0P6 : Nat, ∃ h0P6t : Nat, ∃ h0P6a : Nat, ∃ h0P6f : Nat, ∃ h0P7 : Nat, ∃ h0P7t : Nat, ∃ h0P7a : Nat, ∃ h0P7f : Nat, ∃ h0L : Nat, ∃ h0Lc : Nat, ∃ h0N : Nat, ∃ h0Nc : Nat, ∃ h0M : Nat, ∃ h0Mc : Nat, u = [oZ8 h0 h0d h0k h0r h0n h0e h0T h0P h0L h0N h0M, zB G h0d 6, zB G h0k 7, zB G h0r 7, zB G h0n 4, zB G h0e 4, oZ3 h0T h0Tt h0Ta h0Tf, zB G h0Tt 7, zB G h0Ta 7, zB G h0Tf 7, (h0P, .inl (G.2 2, 8, .inr (.inr (.inr (.inr (cR (s8 h0P0 h0P1 h0P2 h0P3 h0P4 h0P5 h0P6 h0P7))))))), oZ3 h0P0 h0P0t h0P0a h0P0f, zB G h0P0t 7, zB G h0P0a 7, zB G h0P0f 7, oZ3 h0P1 h0P1t h0P1a h0P1f, zB G h0P1t 7, zB G h0P1a 7, zB G h0P1f 7, oZ3 h0P2 h0P2t h0P2a h0P2f, zB G h0P2t 7, zB G h0P2a 7, zB G h0P2f 7, oZ3 h0P3 h0P3t h0P3a h0P3f, zB G h0P3t 7, zB G h0P3a 7, zB G h0P3f 7, oZ3 h0P4 h0P4t h0P4a h0P4f, zB G h0P4t 7, zB G h0P4a 7, zB G h0P4f 7, oZ3 h0P5 h0P5t h0P5a h0P5f, zB G h0P5t 7, zB G h0P5a 7, zB G h0P5f 7, oZ3 h0P6 h0P6t h0P6a h0P6f, zB G h0P6t 7, zB G h0P6a 7, zB G h0P6f 7, oZ3 h0P7 h0P7t h0P7a h0P7f, zB G h0P7t 7, zB G h0P7a 7, zB G h0P7f 7, (h0L, .inr (5, [.int 5, .int 5, .ref h0Lc, .int 0])), zB G h0Lc 30, (h0N, .inr (5, [.int 5, .int 6, .ref h0Nc, .int 0])), zB G h0Nc 30, (h0M, .inr (5, [.int 4, .int 6, .ref h0Mc, .int 0])), zB G h0Mc 30])) := by
  refine Met.ofW (cc := cX9_init) (maxL := 2) (ret := none) (by decide) rfl ?_
  intro p e s m args below meth c s₁ B hml hv
  obtain ⟨rfl, hsz, hP, hK, hD0, hN, hZ⟩ := hv
  have hx := B.exec
  have hb := B.bytes
  have hr := B.returns
  have hts := atoms_spec (ws := wsX9_init) B.pre
  have hown : s.vm.findClass RX9 = some m.cls := findClass_of_methodNamed B.named
  have hlocks := B.notSynchronized
  have hin : meth.name = "<init>" := (name_of_methodNamed B.named B.method).1
  subst hsz
  have hD := hD0.self (sz := s.heap.size)
  generalize hAe : va_A [(h0, .inr (8, [.null, .null, .null, .null, .null, .null, .null, .null, .null, .null, .int 0, .int 0, .int 0]))] s.heap.size = A at hD hZ ⊢
  have hA : ∀ q : Nat, s.heap.size ≤ q → A q := fun q h => by rw [← hAe]; exact Or.inr h
  have hS : va_S A s.heap s.heap [] := va_S.rf
  have hP : va_P G.1 vwCl [(h0, .inr (8, [.null, .null, .null, .null, .null, .null, .null, .null, .null, .null, .int 0, .int 0, .int 0]))] s.heap := hP
  have hl := lv_entry ([.ref h0]) (n := 2) (Nat.le_of_ble_eq_true rfl)
  rw [lg_entry_eq]
  generalize (lg_sl ([.ref h0]) ++ List.replicate (2 - (lg_sl ([.ref h0])).length) Slot.unset).toArray = ls at hl ⊢
  have hl : lv_has ls 2 [(0, .ref h0)] := hl
  refine lv_aload_n hx hb dX9_init_0 rfl (lv_at hl 0 rfl) ?_
  refine W.objInit hx hb hown (hts _ (List.mem_cons_of_mem _ (in_r3 (List.mem_of_getElem? (i := 1) rfl)))) (hts _ (List.mem_cons_of_mem _ (in_r1 (List.mem_of_getElem? (i := 10) rfl)))) (hts _ (List.mem_cons_of_mem _ (in_r1 (List.mem_of_getElem? (i := 11) rfl)))) rfl (by rw [hml]; exact hl.1) rfl dX9_init_1 (Nat.le_of_ble_eq_true rfl) (Nat.le_of_ble_eq_true rfl) ?_
  refine W.eq (g2 := F0 m 4 ls []) rfl ?_
  refine lv_aload_n hx hb dX9_init_4 rfl (lv_at hl 0 rfl) ?_
  refine lv_bipush (v := 6) hx hb dX9_init_5 (by decide) ?_
  refine g_newi (N' := 6) hx hb (hts _ (List.mem_cons_of_mem _ (in_r3 (List.mem_of_getElem? (i := 2) rfl)))) hK hP hD hS hA (by decide) (by decide) (Nat.le_of_ble_eq_true rfl) (Nat.le_of_ble_eq_true rfl) (Nat.le_of_ble_eq_true rfl) dX9_init_7 (fun q_1 H hP hD hS => ?_)
  have hPD : PD G A H [(h0, .inr (8, [.null, .null, .null, .null, .null, .null, .null, .null, .null, .null, .int 0, .int 0, .int 0])), zB G q_1 6] := ⟨hP, hD⟩
  have hP := hPD.1
  have hD := hPD.2
  clear hPD
  refine W.widen (k := 1) (n := 6) (Nat.le_of_ble_eq_true rfl) (Nat.le_of_ble_eq_true rfl) ?_
  refine va_putF (D := G.1) (ci := 8) (v := .ref q_1) (ty := (.array .int)) (C := RX9) (T := TX9) (N := 13) hx hb hts (fun _ h => List.mem_cons_of_mem _ (inlX9 _ h)) tyX9 tyX9_ok nmX9 hown hK hP hD hS 0 rfl rfl 0 (by decide) (hts _ (List.mem_cons_of_mem _ (in_r3 (List.mem_of_getElem? (i := 3) rfl)))) (fun _ h9 => h9) rfl hin rfl (by decide +kernel) rfl rfl (Nat.le_of_ble_eq_true rfl) dX9_init_9 (fun H locs hP hD hS => ?_)
  have hPD : PD G A H [(h0, .inr (8, [.ref q_1, .null, .null, .null, .null, .null, .null, .null, .null, .null, .int 0, .int 0, .int 0])), zB G q_1 6] := ⟨hP, hD⟩
  have hP := hPD.1
  have hD := hPD.2
  clear hPD
  refine lv_aload_n hx hb dX9_init_12 rfl (lv_at hl 0 rfl) ?_
  refine lv_bipush (v := 7) hx hb dX9_init_13 (by decide) ?_
  refine g_newi (N' := 7) hx hb (hts _ (List.mem_cons_of_mem _ (in_r3 (List.mem_of_getElem? (i := 2) rfl)))) hK hP hD hS hA (by decide) (by decide) (Nat.le_of_ble_eq_true rfl) (Nat.le_of_ble_eq_true rfl) (Nat.le_of_ble_eq_true rfl) dX9_init_15 (fun q_2 H hP hD hS => ?_)
  have hPD : PD G A H [(h0, .inr (8, [.ref q_1, .null, .null, .null, .null, .null, .null, .null, .null, .null, .int 0, .int 0, .int 0])), zB G q_1 6, zB G q_2 7] := ⟨hP, hD⟩
  have hP := hPD.1
  have hD := hPD.2
  clear hPD
  refine W.widen (k := 2) (n := 13) (Nat.le_of_ble_eq_true rfl) (Nat.le_of_ble_eq_true rfl) ?_
  refine va_putF (D := G.1) (ci := 8) (v := .ref q_2) (ty := (.array .int)) (C := RX9) (T := TX9) (N := 13) hx hb hts (fun _ h => List.mem_cons_of_mem _ (inlX9 _ h)) tyX9 tyX9_ok nmX9 hown hK hP hD hS 0 rfl rfl 1 (by decide) (hts _ (List.mem_cons_of_mem _ (in_r3 (List.mem_of_getElem? (i := 4) rfl)))) (fun _ h9 => h9) rfl hin rfl (by decide +kernel) rfl rfl (Nat.le_of_ble_eq_true rfl) dX9_init_17 (fun H locs hP hD hS => ?_)
  have hPD : PD G A H [(h0, .inr (8, [.ref q_1, .ref q_2, .null, .null, .null, .null, .null, .null, .null, .null, .int 0, .int 0, .int 0])), zB G q_1 6, zB G q_2 7] := ⟨hP, hD⟩
  have hP := hPD.1
  have hD := hPD.2
  clear hPD
  refine lv_aload_n hx hb dX9_init_20 rfl (lv_at hl 0 rfl) ?_
  refine lv_bipush (v := 7) hx hb dX9_init_21 (by decide) ?_
  refine g_newi (N' := 7) hx hb (hts _ (List.mem_cons_of_mem _ (in_r3 (List.mem_of_getElem? (i := 2) rfl)))) hK hP hD hS hA (by decide) (by decide) (Nat.le_of_ble_eq_true rfl) (Nat.le_of_ble_eq_true rfl) (Nat.le_of_ble_eq_true rfl) dX9_init_23 (fun q_3 H hP hD hS => ?_)
  have hPD : PD G A H [(h0, .inr (8, [.ref q_1, .ref q_2, .null, .null, .null, .null, .null, .null, .null, .null, .int 0, .int 0, .int 0])), zB G q_1 6, zB G q_2 7, zB G q_3 7] := ⟨hP, hD⟩
  have hP := hPD.1
  have hD := hPD.2
  clear hPD
  refine W.widen (k := 3) (n := 20) (Nat.le_of_ble_eq_true rfl) (Nat.le_of_ble_eq_true rfl) ?_
  refine va_putF (D := G.1) (ci := 8) (v := .ref q_3) (ty := (.array .int)) (C := RX9) (T := TX9) (N := 13) hx hb hts (fun _ h => List.mem_cons_of_mem _ (inlX9 _ h)) tyX9 tyX9_ok nmX9 hown hK hP hD hS 0 rfl rfl 2 (by decide) (hts _ (List.mem_cons_of_mem _ (in_r3 (List.mem_of_getElem? (i := 5) rfl)))) (fun _ h9 => h9) rfl hin rfl (by decide +kernel) rfl rfl (Nat.le_of_ble_eq_true rfl) dX9_init_25 (fun H locs hP hD hS => ?_)
  have hPD : PD G A H [(h0, .inr (8, [.ref q_1, .ref q_2, .ref q_3, .null, .null, .null, .null, .null, .null, .null, .int 0, .int 0, .int 0])), zB G q_1 6, zB G q_2 7, zB G q_3 7] := ⟨hP, hD⟩
  have hP := hPD.1
  have hD := hPD.2
  clear hPD
  refine lv_aload_n hx hb dX9_init_28 rfl (lv_at hl 0 rfl) ?_
  refine lv_iconst (v := 4) hx hb dX9_init_29 (by decide) ?_
  refine g_newi (N' := 4) hx hb (hts _ (List.mem_cons_of_mem _ (in_r3 (List.mem_of_getElem? (i := 2) rfl)))) hK hP hD hS hA (by decide) (by decide) (Nat.le_of_ble_eq_true rfl) (Nat.le_of_ble_eq_true rfl) (Nat.le_of_ble_eq_true rfl) dX9_init_30 (fun q_4 H hP hD hS => ?_)
  have hPD : PD G A H [(h0, .inr (8, [.ref q_1, .ref q_2, .ref q_3, .null, .null, .null, .null, .null, .null, .null, .int 0, .int 0, .int 0])), zB G q_1 6, zB G q_2 7, zB G q_3 7, zB G q_4 4] := ⟨hP, hD⟩
  have hP := hPD.1
  have hD := hPD.2
  clear hPD
  refine W.widen (k := 4) (n := 24) (Nat.le_of_ble_eq_true rfl) (Nat.le_of_ble_eq_true rfl) ?_
  refine va_putF (D := G.1) (ci := 8) (v := .ref q_4) (ty := (.array .int)) (C := RX9) (T := TX9) (N := 13) hx hb hts (fun _ h => List.mem_cons_of_mem _ (inlX9 _ h)) tyX9 tyX9_ok nmX9 hown hK hP hD hS 0 rfl rfl 3 (by decide) (hts _ (List.mem_cons_of_mem _ (in_r3 (List.mem_of_getElem? (i := 6) rfl)))) (fun _ h9 => h9) rfl hin rfl (by decide +kernel) rfl rfl (Nat.le_of_ble_eq_true rfl) dX9_init_32 (fun H locs hP hD hS => ?_)
  have hPD : PD G A H [(h0, .inr (8, [.ref q_1, .ref q_2, .ref q_3, .ref q_4, .null, .null, .null, .null, .null, .null, .int 0, .int 0, .int 0])), zB G q_1 6, zB G q_2 7, zB G q_3 7, zB G q_4 4] := ⟨hP, hD⟩
  have hP := hPD.1
  have hD := hPD.2
  clear hPD
  refine lv_aload_n hx hb dX9_init_35 rfl (lv_at hl 0 rfl) ?_
  refine lv_iconst (v := 4) hx hb dX9_init_36 (by decide) ?_
  refine g_newi (N' := 4) hx hb (hts _ (List.mem_cons_of_mem _ (in_r3 (List.mem_of_getElem? (i := 2) rfl)))) hK hP hD hS hA (by decide) (by decide) (Nat.le_of_ble_eq_true rfl) (Nat.le_of_ble_eq_true rfl) (Nat.le_of_ble_eq_true rfl) dX9_init_37 (fun q_5 H hP hD hS => ?_)
  have hPD : PD G A H [(h0, .inr (8, [.ref q_1, .ref q_2, .ref q_3, .ref q_4, .null, .null, .null, .null, .null, .null, .int 0, .int 0, .int 0])), zB G q_1 6, zB G q_2 7, zB G q_3 7, zB G q_4 4, zB G q_5 4] := ⟨hP, hD⟩
  have hP := hPD.1
  have hD := hPD.2
  clear hPD
  refine W.widen (k := 5) (n := 28) (Nat.le_of_ble_eq_true rfl) (Nat.le_of_ble_eq_true rfl) ?_
  refine va_putF (D := G.1) (ci := 8) (v := .ref q_5) (ty := (.array .int)) (C := RX9) (T := TX9) (N := 13) hx hb hts (fun _ h => List.mem_cons_of_mem _ (inlX9 _ h)) tyX9 tyX9_ok nmX9 hown hK hP hD hS 0 rfl rfl 4 (by decide) (hts _ (List.mem_cons_of_mem _ (in_r3 (List.mem_of_getElem? (i := 7) rfl)))) (fun _ h9 => h9) rfl hin rfl (by decide +kernel) rfl rfl (Nat.le_of_ble_eq_true rfl) dX9_init_39 (fun H locs hP hD hS => ?_)
  have hPD : PD G A H [(h0, .inr (8, [.ref q_1, .ref q_2, .ref q_3, .ref q_4, .ref q_5, .null, .null, .null, .null, .null, .int 0, .int 0, .int 0])), zB G q_1 6, zB G q_2 7, zB G q_3 7, zB G q_4 4, zB G q_5 4] := ⟨hP, hD⟩
  have hP := hPD.1
  have hD := hPD.2
  clear hPD
  refine lv_aload_n hx hb dX9_init_42 rfl (lv_at hl 0 rfl) ?_
  refine va_new (ci := 3) (fs := [.int 0, .null, .null, .null]) (C := RX4) (T := TX4) (N := 4) hx hb hts (fun _ h => List.mem_cons_of_mem _ (inlX4 _ h)) tyX4 tyX4_ok hown (hts _ (List.mem_cons_of_mem _ (in_r3 (List.mem_of_getElem? (i := 8) rfl)))) (hts _ (List.mem_cons_of_mem _ (in_r2 (List.mem_of_getElem? (i := 2) rfl)))) (hts _ (List.mem_cons_of_mem _ (in_r2 (List.mem_of_getElem? (i := 3) rfl)))) hK hP hD hS hA rfl (fun j hj => by rcases (show j = 0 ∨ j = 1 ∨ j = 2 ∨ j = 3 by omega) with rfl | rfl | rfl | rfl <;> rfl) (Nat.le_of_ble_eq_true rfl) (Nat.le_of_ble_eq_true rfl) dX9_init_43 (fun q_6 H hP hD hS => ?_)
  have hPD : PD G A H [(h0, .inr (8, [.ref q_1, .ref q_2, .ref q_3, .ref q_4, .ref q_5, .null, .null, .null, .null, .null, .int 0, .int 0, .int 0])), zB G q_1 6, zB G q_2 7, zB G q_3 7, zB G q_4 4, zB G q_5 4, (q_6, .inr (3, [.int 0, .null, .null, .null]))] := ⟨hP, hD⟩
  have hP := hPD.1
  have hD := hPD.2
  clear hPD
  refine W.widen (k := 6) (n := 32) (Nat.le_of_ble_eq_true rfl) (Nat.le_of_ble_eq_true rfl) ?_
  refine lv_dup hx hb dX9_init_46 rfl ?_
  refine g_callvM (wr := [(h0, .inr (8, [.ref q_1, .ref q_2, .ref q_3, .ref q_4, .ref q_5, .null, .null, .null, .null, .null, .int 0, .int 0, .int 0])), zB G q_1 6, zB G q_2 7, zB G q_3 7, zB G q_4 4, zB G q_5 4]) (va_runIN (As := []) (rest := [.ref q_6, .ref h0]) ⟨hx, hb, hml, hown, hts⟩ (c_X4_init l G (q_6) _) (⟨va_cnB 0 hts gX9_init_X4_init_n29 rfl rfl rfl (nw1 hN) (hts _ (List.mem_cons_of_mem _ (in_r2 (List.mem_of_getElem? (i := 3) rfl)))) (by decide +kernel) ⟨Nat.le_of_ble_eq_true rfl, Nat.le_of_ble_eq_true rfl⟩, rfl, (hts _ (List.mem_cons_of_mem _ (in_r3 (List.mem_of_getElem? (i := 17) rfl))))⟩) (g_preS [.ref q_6] hP hD hK hN hS hA hZ [6] rfl rfl) rfl rfl hl.1 rfl (lv_room (Nat.le_of_ble_eq_true rfl)) dX9_init_47 ⟨Nat.le_of_ble_eq_true rfl, Nat.le_of_ble_eq_true rfl⟩) hP hD hS hA [6] [false, false, false, false, false, false, true] rfl rfl rfl (fun u H locs hw hP hD hS => ?_)
  refine W.widen (k := 9) (n := 53) (Nat.le_of_ble_eq_true rfl) (Nat.le_of_ble_eq_true rfl) ?_
  refine ea_3_1 hw (fun h0t_7 h0a_8 h0f_9 e8_0 => ?_)
  subst e8_0
  clear hw
  have hPD : PD G A H [(h0, .inr (8, [.ref q_1, .ref q_2, .ref q_3, .ref q_4, .ref q_5, .null, .null, .null, .null, .null, .int 0, .int 0, .int 0])), zB G q_1 6, zB G q_2 7, zB G q_3 7, zB G q_4 4, zB G q_5 4, oZ3 q_6 h0t_7 h0a_8 h0f_9, zB G h0t_7 7, zB G h0a_8 7, zB G h0f_9 7] := ⟨hP, hD⟩
  have hP := hPD.1
  have hD := hPD.2
  clear hPD
  refine va_putF (D := G.1) (ci := 8) (v := .ref q_6) (ty := (.object "ToffeeWords$Moment")) (C := RX9) (T := TX9) (N := 13) hx hb hts (fun _ h => List.mem_cons_of_mem _ (inlX9 _ h)) tyX9 tyX9_ok nmX9 hown hK hP hD hS 0 rfl rfl 5 (by decide) (hts _ (List.mem_cons_of_mem _ (in_r3 (List.mem_of_getElem? (i := 9) rfl)))) (fun _ h9 => h9) rfl hin rfl (by decide +kernel) rfl rfl (Nat.le_of_ble_eq_true rfl) dX9_init_50 (fun H locs hP hD hS => ?_)
  have hPD : PD G A H [(h0, .inr (8, [.ref q_1, .ref q_2, .ref q_3, .ref q_4, .ref q_5, .ref q_6, .null, .null, .null, .null, .int 0, .int 0, .int 0])), zB G q_1 6, zB G q_2 7, zB G q_3 7, zB G q_4 4, zB G q_5 4, oZ3 q_6 h0t_7 h0a_8 h0f_9, zB G h0t_7 7, zB G h0a_8 7, zB G h0f_9 7] := ⟨hP, hD⟩
  have hP := hPD.1
  have hD := hPD.2
  clear hPD
  refine lv_aload_n hx hb dX9_init_53 rfl (lv_at hl 0 rfl) ?_
  refine lv_bipush (v := 8) hx hb dX9_init_54 (by decide) ?_
  refine g_newr2 (N' := 8) hx hb hown (hts _ (List.mem_cons_of_mem _ (in_r3 (List.mem_of_getElem? (i := 8) rfl)))) hN hK hP hD hS hA (by decide) (by decide) (Nat.le_of_ble_eq_true rfl) (Nat.le_of_ble_eq_true rfl) (Nat.le_of_ble_eq_true rfl) dX9_init_56 (fun q_10 H hP hD hS => ?_)
  have hPD : PD G A H [(h0, .inr (8, [.ref q_1, .ref q_2, .ref q_3, .ref q_4, .ref q_5, .ref q_6, .null, .null, .null, .null, .int 0, .int 0, .int 0])), zB G q_1 6, zB G q_2 7, zB G q_3 7, zB G q_4 4, zB G q_5 4, oZ3 q_6 h0t_7 h0a_8 h0f_9, zB G h0t_7 7, zB G h0a_8 7, zB G h0f_9 7, (q_10, .inl (G.2 2, 8, .inr (.inr (.inr (.inr (fun _ => none))))))] := ⟨hP, hD⟩
  have hP := hPD.1
  have hD := hPD.2
  clear hPD
  refine W.widen (k := 10) (n := 61) (Nat.le_of_ble_eq_true rfl) (Nat.le_of_ble_eq_true rfl) ?_
  refine va_putF (D := G.1) (ci := 8) (v := .ref q_10) (ty := (.array (.object "ToffeeWords$Moment"))) (C := RX9) (T := TX9) (N := 13) hx hb hts (fun _ h => List.mem_cons_of_mem _ (inlX9 _ h)) tyX9 tyX9_ok nmX9 hown hK hP hD hS 0 rfl rfl 6 (by decide) (hts _ (List.mem_cons_of_mem _ (in_r3 (List.mem_of_getElem? (i := 10) rfl)))) (fun _ h9 => h9) rfl hin rfl (by decide +kernel) rfl rfl (Nat.le_of_ble_eq_true rfl) dX9_init_59 (fun H locs hP hD hS => ?_)
  have hPD : PD G A H [(h0, .inr (8, [.ref q_1, .ref q_2, .ref q_3, .ref q_4, .ref q_5, .ref q_6, .ref q_10, .null, .null, .null, .int 0, .int 0, .int 0])), zB G q_1 6, zB G q_2 7, zB G q_3 7, zB G q_4 4, zB G q_5 4, oZ3 q_6 h0t_7 h0a_8 h0f_9, zB G h0t_7 7, zB G h0a_8 7, zB G h0f_9 7, (q_10, .inl (G.2 2, 8, .inr (.inr (.inr (.inr (fun _ => none))))))] := ⟨hP, hD⟩
  have hP := hPD.1
  have hD := hPD.2
  clear hPD
  refine lv_aload_n hx hb dX9_init_62 rfl (lv_at hl 0 rfl) ?_
  refine va_new (ci := 5) (fs := [.int 0, .int 0, .null, .int 0]) (C := RX6) (T := TX6) (N := 4) hx hb hts (fun _ h => List.mem_cons_of_mem _ (inlX6 _ h)) tyX6 tyX6_ok hown (hts _ (List.mem_cons_of_mem _ (in_r3 (List.mem_of_getElem? (i := 11) rfl)))) (hts _ (List.mem_cons_of_mem _ (in_r3 (List.mem_of_getElem? (i := 12) rfl)))) (hts _ (List.mem_cons_of_mem _ (in_r3 (List.mem_of_getElem? (i := 13) rfl)))) hK hP hD hS hA rfl (fun j hj => by rcases (show j = 0 ∨ j = 1 ∨ j = 2 ∨ j = 3 by omega) with rfl | rfl | rfl | rfl <;> rfl) (Nat.le_of_ble_eq_true rfl) (Nat.le_of_ble_eq_true rfl) dX9_init_63 (fun q_11 H hP hD hS => ?_)
  have hPD : PD G A H [(h0, .inr (8, [.ref q_1, .ref q_2, .ref q_3, .ref q_4, .ref q_5, .ref q_6, .ref q_10, .null, .null, .null, .int 0, .int 0, .int 0])), zB G q_1 6, zB G q_2 7, zB G q_3 7, zB G q_4 4, zB G q_5 4, oZ3 q_6 h0t_7 h0a_8 h0f_9, zB G h0t_7 7, zB G h0a_8 7, zB G h0f_9 7, (q_10, .inl (G.2 2, 8, .inr (.inr (.inr (.inr (fun _ => none)))))), (q_11, .inr (5, [.int 0, .int 0, .null, .int 0]))] := ⟨hP, hD⟩
  have hP := hPD.1
  have hD := hPD.2
  clear hPD
  refine W.widen (k := 11) (n := 65) (Nat.le_of_ble_eq_true rfl) (Nat.le_of_ble_eq_true rfl) ?_
  refine lv_dup hx hb dX9_init_66 rfl ?_
  refine lv_iconst (v := 5) hx hb dX9_init_67 (by decide) ?_
  refine lv_iconst (v := 5) hx hb dX9_init_68 (by decide) ?_
  refine g_callvM (wr := [(h0, .inr (8, [.ref q_1, .ref q_2, .ref q_3, .ref q_4, .ref q_5, .ref q_6, .ref q_10, .null, .null, .null, .int 0, .int 0, .int 0])), zB G q_1 6, zB G q_2 7, zB G q_3 7, zB G q_4 4, zB G q_5 4, oZ3 q_6 h0t_7 h0a_8 h0f_9, zB G h0t_7 7, zB G h0a_8 7, zB G h0f_9 7, (q_10, .inl (G.2 2, 8, .inr (.inr (.inr (.inr (fun _ => none))))))]) (va_runIN (As := [.int 5, .int 5]) (rest := [.ref q_11, .ref h0]) ⟨hx, hb, hml, hown, hts⟩ (c_X6_init_55 l G (q_11) _) (⟨va_cnB 2 hts gX9_init_X6_init_n40 rfl rfl rfl (nw10 hN) (hts _ (List.mem_cons_of_mem _ (in_r3 (List.mem_of_getElem? (i := 13) rfl)))) (by decide +kernel) ⟨Nat.le_of_ble_eq_true rfl, Nat.le_of_ble_eq_true rfl⟩, rfl, (hts _ (List.mem_cons_of_mem _ (in_r3 (List.mem_of_getElem? (i := 23) rfl))))⟩) (g_preS [.ref q_11, .int 5, .int 5] hP hD hK hN hS hA hZ [11] rfl rfl) rfl rfl hl.1 rfl (lv_room (Nat.le_of_ble_eq_true rfl)) dX9_init_69 ⟨Nat.le_of_ble_eq_true rfl, Nat.le_of_ble_eq_true rfl⟩) hP hD hS hA [11] [false, false, false, false, false, false, false, false, false, false, false, true] rfl rfl rfl (fun u H locs hw hP hD hS => ?_)
  refine W.widen (k := 12) (n := 95) (Nat.le_of_ble_eq_true rfl) (Nat.le_of_ble_eq_true rfl) ?_
  obtain ⟨h0c_12, rfl⟩ := hw
  have hPD : PD G A H [(h0, .inr (8, [.ref q_1, .ref q_2, .ref q_3, .ref q_4, .ref q_5, .ref q_6, .ref q_10, .null, .null, .null, .int 0, .int 0, .int 0])), zB G q_1 6, zB G q_2 7, zB G q_3 7, zB G q_4 4, zB G q_5 4, oZ3 q_6 h0t_7 h0a_8 h0f_9, zB G h0t_7 7, zB G h0a_8 7, zB G h0f_9 7, (q_10, .inl (G.2 2, 8, .inr (.inr (.inr (.inr (fun _ => none)))))), (q_11, .inr (5, [.int 5, .int 5, .ref h0c_12, .int 0])), zB G h0c_12 30] := ⟨hP, hD⟩
  have hP := hPD.1
  have hD := hPD.2
  clear hPD
  refine va_putF (D := G.1) (ci := 8) (v := .ref q_11) (ty := (.object "ToffeeWords$Rows")) (C := RX9) (T := TX9) (N := 13) hx hb hts (fun _ h => List.mem_cons_of_mem _ (inlX9 _ h)) tyX9 tyX9_ok nmX9 hown hK hP hD hS 0 rfl rfl 7 (by decide) (hts _ (List.mem_cons_of_mem _ (in_r3 (List.mem_of_getElem? (i := 14) rfl)))) (fun _ h9 => h9) rfl hin rfl (by decide +kernel) rfl rfl (Nat.le_of_ble_eq_true rfl) dX9_init_72 (fun H locs hP hD hS => ?_)
  have hPD : PD G A H [(h0, .inr (8, [.ref q_1, .ref q_2, .ref q_3, .ref q_4, .ref q_5, .ref q_6, .ref q_10, .ref q_11, .null, .null, .int 0, .int 0, .int 0])), zB G q_1 6, zB G q_2 7, zB G q_3 7, zB G q_4 4, zB G q_5 4, oZ3 q_6 h0t_7 h0a_8 h0f_9, zB G h0t_7 7, zB G h0a_8 7, zB G h0f_9 7, (q_10, .inl (G.2 2, 8, .inr (.inr (.inr (.inr (fun _ => none)))))), (q_11, .inr (5, [.int 5, .int 5, .ref h0c_12, .int 0])), zB G h0c_12 30] := ⟨hP, hD⟩
  have hP := hPD.1
  have hD := hPD.2
  clear hPD
  refine lv_aload_n hx hb dX9_init_75 rfl (lv_at hl 0 rfl) ?_
  refine va_new (ci := 5) (fs := [.int 0, .int 0, .null, .int 0]) (C := RX6) (T := TX6) (N := 4) hx hb hts (fun _ h => List.mem_cons_of_mem _ (inlX6 _ h)) tyX6 tyX6_ok hown (hts _ (List.mem_cons_of_mem _ (in_r3 (List.mem_of_getElem? (i := 11) rfl)))) (hts _ (List.mem_cons_of_mem _ (in_r3 (List.mem_of_getElem? (i := 12) rfl)))) (hts _ (List.mem_cons_of_mem _ (in_r3 (List.mem_of_getElem? (i := 13) rfl)))) hK hP hD hS hA rfl (fun j hj => by rcases (show j = 0 ∨ j = 1 ∨ j = 2 ∨ j = 3 by omega) with rfl | rfl | rfl | rfl <;> rfl) (Nat.le_of_ble_eq_true rfl) (Nat.le_of_ble_eq_true rfl) dX9_init_76 (fun q_13 H hP hD hS => ?_)
  have hPD : PD G A H [(h0, .inr (8, [.ref q_1, .ref q_2, .ref q_3, .ref q_4, .ref q_5, .ref q_6, .ref q_10, .ref q_11, .null, .null, .int 0, .int 0, .int 0])), zB G q_1 6, zB G q_2 7, zB G q_3 7, zB G q_4 4, zB G q_5 4, oZ3 q_6 h0t_7 h0a_8 h0f_9, zB G h0t_7 7, zB G h0a_8 7, zB G h0f_9 7, (q_10, .inl (G.2 2, 8, .inr (.inr (.inr (.inr (fun _ => none)))))), (q_11, .inr (5, [.int 5, .int 5, .ref h0c_12, .int 0])), zB G h0c_12 30, (q_13, .inr (5, [.int 0, .int 0, .null, .int 0]))] := ⟨hP, hD⟩
  have hP := hPD.1
  have hD := hPD.2
  clear hPD
  refine W.widen (k := 13) (n := 99) (Nat.le_of_ble_eq_true rfl) (Nat.le_of_ble_eq_true rfl) ?_
  refine lv_dup hx hb dX9_init_79 rfl ?_
  refine lv_iconst (v := 5) hx hb dX9_init_80 (by decide) ?_
  refine lv_bipush (v := 6) hx hb dX9_init_81 (by decide) ?_
  refine g_callvM (wr := [(h0, .inr (8, [.ref q_1, .ref q_2, .ref q_3, .ref q_4, .ref q_5, .ref q_6, .ref q_10, .ref q_11, .null, .null, .int 0, .int 0, .int 0])), zB G q_1 6, zB G q_2 7, zB G q_3 7, zB G q_4 4, zB G q_5 4, oZ3 q_6 h0t_7 h0a_8 h0f_9, zB G h0t_7 7, zB G h0a_8 7, zB G h0f_9 7, (q_10, .inl (G.2 2, 8, .inr (.inr (.inr (.inr (fun _ => none)))))), (q_11, .inr (5, [.int 5, .int 5, .ref h0c_12, .int 0])), zB G h0c_12 30]) (va_runIN (As := [.int 5, .int 6]) (rest := [.ref q_13, .ref h0]) ⟨hx, hb, hml, hown, hts⟩ (c_X6_init_56 l G (q_13) _) (⟨va_cnB 2 hts gX9_init_X6_init_n40 rfl rfl rfl (nw10 hN) (hts _ (List.mem_cons_of_mem _ (in_r3 (List.mem_of_getElem? (i := 13) rfl)))) (by decide +kernel) ⟨Nat.le_of_ble_eq_true rfl, Nat.le_of_ble_eq_true rfl⟩, rfl, (hts _ (List.mem_cons_of_mem _ (in_r3 (List.mem_of_getElem? (i := 23) rfl))))⟩) (g_preS [.ref q_13, .int 5, .int 6] hP hD hK hN hS hA hZ [13] rfl rfl) rfl rfl hl.1 rfl (lv_room (Nat.le_of_ble_eq_true rfl)) dX9_init_83 ⟨Nat.le_of_ble_eq_true rfl, Nat.le_of_ble_eq_true rfl⟩) hP hD hS hA [13] [false, false, false, false, false, false, false, false, false, false, false, false, false, true] rfl rfl rfl (fun u H locs hw hP hD hS => ?_)
  refine W.widen (k := 14) (n := 129) (Nat.le_of_ble_eq_true rfl) (Nat.le_of_ble_eq_true rfl) ?_
  obtain ⟨h0c_14, rfl⟩ := hw
  have hPD : PD G A H [(h0, .inr (8, [.ref q_1, .ref q_2, .ref q_3, .ref q_4, .ref q_5, .ref q_6, .ref q_10, .ref q_11, .null, .null, .int 0, .int 0, .int 0])), zB G q_1 6, zB G q_2 7, zB G q_3 7, zB G q_4 4, zB G q_5 4, oZ3 q_6 h0t_7 h0a_8 h0f_9, zB G h0t_7 7, zB G h0a_8 7, zB G h0f_9 7, (q_10, .inl (G.2 2, 8, .inr (.inr (.inr (.inr (fun _ => none)))))), (q_11, .inr (5, [.int 5, .int 5, .ref h0c_12, .int 0])), zB G h0c_12 30, (q_13, .inr (5, [.int 5, .int 6, .ref h0c_14, .int 0])), zB G h0c_14 30] := ⟨hP, hD⟩
  have hP := hPD.1
  have hD := hPD.2
  clear hPD
  refine va_putF (D := G.1) (ci := 8) (v := .ref q_13) (ty := (.object "ToffeeWords$Rows")) (C := RX9) (T := TX9) (N := 13) hx hb hts (fun _ h => List.mem_cons_of_mem _ (inlX9 _ h)) tyX9 tyX9_ok nmX9 hown hK hP hD hS 0 rfl rfl 8 (by decide) (hts _ (List.mem_cons_of_mem _ (in_r3 (List.mem_of_getElem? (i := 15) rfl)))) (fun _ h9 => h9) rfl hin rfl (by decide +kernel) rfl rfl (Nat.le_of_ble_eq_true rfl) dX9_init_86 (fun H locs hP hD hS => ?_)
  have hPD : PD G A H [(h0, .inr (8, [.ref q_1, .ref q_2, .ref q_3, .ref q_4, .ref q_5, .ref q_6, .ref q_10, .ref q_11, .ref q_13, .null, .int 0, .int 0, .int 0])), zB G q_1 6, zB G q_2 7, zB G q_3 7, zB G q_4 4, zB G q_5 4, oZ3 q_6 h0t_7 h0a_8 h0f_9, zB G h0t_7 7, zB G h0a_8 7, zB G h0f_9 7, (q_10, .inl (G.2 2, 8, .inr (.inr (.inr (.inr (fun _ => none)))))), (q_11, .inr (5, [.int 5, .int 5, .ref h0c_12, .int 0])), zB G h0c_12 30, (q_13, .inr (5, [.int 5, .int 6, .ref h0c_14, .int 0])), zB G h0c_14 30] := ⟨hP, hD⟩
  have hP := hPD.1
  have hD := hPD.2
  clear hPD
  refine lv_aload_n hx hb dX9_init_89 rfl (lv_at hl 0 rfl) ?_
  refine va_new (ci := 5) (fs := [.int 0, .int 0, .null, .int 0]) (C := RX6) (T := TX6) (N := 4) hx hb hts (fun _ h => List.mem_cons_of_mem _ (inlX6 _ h)) tyX6 tyX6_ok hown (hts _ (List.mem_cons_of_mem _ (in_r3 (List.mem_of_getElem? (i := 11) rfl)))) (hts _ (List.mem_cons_of_mem _ (in_r3 (List.mem_of_getElem? (i := 12) rfl)))) (hts _ (List.mem_cons_of_mem _ (in_r3 (List.mem_of_getElem? (i := 13) rfl)))) hK hP hD hS hA rfl (fun j hj => by rcases (show j = 0 ∨ j = 1 ∨ j = 2 ∨ j = 3 by omega) with rfl | rfl | rfl | rfl <;> rfl) (Nat.le_of_ble_eq_true rfl) (Nat.le_of_ble_eq_true rfl) dX9_init_90 (fun q_15 H hP hD hS => ?_)
  have hPD : PD G A H [(h0, .inr (8, [.ref q_1, .ref q_2, .ref q_3, .ref q_4, .ref q_5, .ref q_6, .ref q_10, .ref q_11, .ref q_13, .null, .int 0, .int 0, .int 0])), zB G q_1 6, zB G q_2 7, zB G q_3 7, zB G q_4 4, zB G q_5 4, oZ3 q_6 h0t_7 h0a_8 h0f_9, zB G h0t_7 7, zB G h0a_8 7, zB G h0f_9 7, (q_10, .inl (G.2 2, 8, .inr (.inr (.inr (.inr (fun _ => none)))))), (q_11, .inr (5, [.int 5, .int 5, .ref h0c_12, .int 0])), zB G h0c_12 30, (q_13, .inr (5, [.int 5, .int 6, .ref h0c_14, .int 0])), zB G h0c_14 30, (q_15, .inr (5, [.int 0, .int 0, .null, .int 0]))] := ⟨hP, hD⟩
  have hP := hPD.1
  have hD := hPD.2
  clear hPD
  refine W.widen (k := 15) (n := 133) (Nat.le_of_ble_eq_true rfl) (Nat.le_of_ble_eq_true rfl) ?_
  refine lv_dup hx hb dX9_init_93 rfl ?_
  refine lv_iconst (v := 4) hx hb dX9_init_94 (by decide) ?_
  refine lv_bipush (v := 6) hx hb dX9_init_95 (by decide) ?_
  refine g_callvM (wr := [(h0, .inr (8, [.ref q_1, .ref q_2, .ref q_3, .ref q_4, .ref q_5, .ref q_6, .ref q_10, .ref q_11, .ref q_13, .null, .int 0, .int 0, .int 0])), zB G q_1 6, zB G q_2 7, zB G q_3 7, zB G q_4 4, zB G q_5 4, oZ3 q_6 h0t_7 h0a_8 h0f_9, zB G h0t_7 7, zB G h0a_8 7, zB G h0f_9 7, (q_10, .inl (G.2 2, 8, .inr (.inr (.inr (.inr (fun _ => none)))))), (q_11, .inr (5, [.int 5, .int 5, .ref h0c_12, .int 0])), zB G h0c_12 30, (q_13, .inr (5, [.int 5, .int 6, .ref h0c_14, .int 0])), zB G h0c_14 30]) (va_runIN (As := [.int 4, .int 6]) (rest := [.ref q_15, .ref h0]) ⟨hx, hb, hml, hown, hts⟩ (c_X6_init_46 l G (q_15) _) (⟨va_cnB 2 hts gX9_init_X6_init_n40 rfl rfl rfl (nw10 hN) (hts _ (List.mem_cons_of_mem _ (in_r3 (List.mem_of_getElem? (i := 13) rfl)))) (by decide +kernel) ⟨Nat.le_of_ble_eq_true rfl, Nat.le_of_ble_eq_true rfl⟩, rfl, (hts _ (List.mem_cons_of_mem _ (in_r3 (List.mem_of_getElem? (i := 23) rfl))))⟩) (g_preS [.ref q_15, .int 4, .int 6] hP hD hK hN hS hA hZ [15] rfl rfl) rfl rfl hl.1 rfl (lv_room (Nat.le_of_ble_eq_true rfl)) dX9_init_97 ⟨Nat.le_of_ble_eq_true rfl, Nat.le_of_ble_eq_true rfl⟩) hP hD hS hA [15] [false, false, false, false, false, false, false, false, false, false, false, false, false, false, false, true] rfl rfl rfl (fun u H locs hw hP hD hS => ?_)
  refine W.widen (k := 16) (n := 163) (Nat.le_of_ble_eq_true rfl) (Nat.le_of_ble_eq_true rfl) ?_
  obtain ⟨h0c_16, rfl⟩ := hw
  have hPD : PD G A H [(h0, .inr (8, [.ref q_1, .ref q_2, .ref q_3, .ref q_4, .ref q_5, .ref q_6, .ref q_10, .ref q_11, .ref q_13, .null, .int 0, .int 0, .int 0])), zB G q_1 6, zB G q_2 7, zB G q_3 7, zB G q_4 4, zB G q_5 4, oZ3 q_6 h0t_7 h0a_8 h0f_9, zB G h0t_7 7, zB G h0a_8 7, zB G h0f_9 7, (q_10, .inl (G.2 2, 8, .inr (.inr (.inr (.inr (fun _ => none)))))), (q_11, .inr (5, [.int 5, .int 5, .ref h0c_12, .int 0])), zB G h0c_12 30, (q_13, .inr (5, [.int 5, .int 6, .ref h0c_14, .int 0])), zB G h0c_14 30, (q_15, .inr (5, [.int 4, .int 6, .ref h0c_16, .int 0])), zB G h0c_16 30] := ⟨hP, hD⟩
  have hP := hPD.1
  have hD := hPD.2
  clear hPD
  refine va_putF (D := G.1) (ci := 8) (v := .ref q_15) (ty := (.object "ToffeeWords$Rows")) (C := RX9) (T := TX9) (N := 13) hx hb hts (fun _ h => List.mem_cons_of_mem _ (inlX9 _ h)) tyX9 tyX9_ok nmX9 hown hK hP hD hS 0 rfl rfl 9 (by decide) (hts _ (List.mem_cons_of_mem _ (in_r3 (List.mem_of_getElem? (i := 16) rfl)))) (fun _ h9 => h9) rfl hin rfl (by decide +kernel) rfl rfl (Nat.le_of_ble_eq_true rfl) dX9_init_100 (fun H locs hP hD hS => ?_)
  have hPD : PD G A H [oZ8 h0 q_1 q_2 q_3 q_4 q_5 q_6 q_10 q_11 q_13 q_15, zB G q_1 6, zB G q_2 7, zB G q_3 7, zB G q_4 4, zB G q_5 4, oZ3 q_6 h0t_7 h0a_8 h0f_9, zB G h0t_7 7, zB G h0a_8 7, zB G h0f_9 7, (q_10, .inl (G.2 2, 8, .inr (.inr (.inr (.inr (fun _ => none)))))), (q_11, .inr (5, [.int 5, .int 5, .ref h0c_12, .int 0])), zB G h0c_12 30, (q_13, .inr (5, [.int 5, .int 6, .ref h0c_14, .int 0])), zB G h0c_14 30, (q_15, .inr (5, [.int 4, .int 6, .ref h0c_16, .int 0])), zB G h0c_16 30] := ⟨hP, hD⟩
  have hP := hPD.1
  have hD := hPD.2
  clear hPD
  refine lv_iconst (v := 0) hx hb dX9_init_103 (by decide) ?_
  refine lv_istore_n (lv' := [(1, .int 0), (0, .ref h0)]) hx hb dX9_init_104 rfl hl (by decide) rfl (fun ls hl => ?_)
  refine lv_iload_n hx hb dX9_init_105 rfl (lv_at hl 0 rfl) ?_
  refine lv_bipush (v := 8) hx hb dX9_init_106 (by decide) ?_
  refine lv_icmp_ge (tgt := 130) hx hb dX9_init_108 (by decide) (fun c_17 => g_no c_17 (by decide)) (fun _ => ?_)
  refine lv_aload_n hx hb dX9_init_111 rfl (lv_at hl 1 rfl) ?_
  refine va_get (D := G.1) (ci := 8) (v := .ref q_10) (C := RX9) (T := TX9) (N := 13) hx hb hts (fun _ h => List.mem_cons_of_mem _ (inlX9 _ h)) hown hK hP 0 rfl rfl 6 (by decide) (hts _ (List.mem_cons_of_mem _ (in_r3 (List.mem_of_getElem? (i := 10) rfl)))) (fun _ h9 => h9) rfl dX9_init_112 ?_
  refine lv_iload_n hx hb dX9_init_115 rfl (lv_at hl 0 rfl) ?_
  refine va_new (ci := 3) (fs := [.int 0, .null, .null, .null]) (C := RX4) (T := TX4) (N := 4) hx hb hts (fun _ h => List.mem_cons_of_mem _ (inlX4 _ h)) tyX4 tyX4_ok hown (hts _ (List.mem_cons_of_mem _ (in_r3 (List.mem_of_getElem? (i := 8) rfl)))) (hts _ (List.mem_cons_of_mem _ (in_r2 (List.mem_of_getElem? (i := 2) rfl)))) (hts _ (List.mem_cons_of_mem _ (in_r2 (List.mem_of_getElem? (i := 3) rfl)))) hK hP hD hS hA rfl (fun j hj => by rcases (show j = 0 ∨ j = 1 ∨ j = 2 ∨ j = 3 by omega) with rfl | rfl | rfl | rfl <;> rfl) (Nat.le_of_ble_eq_true rfl) (Nat.le_of_ble_eq_true rfl) dX9_init_116 (fun q_18 H hP hD hS => ?_)
  have hPD : PD G A H [oZ8 h0 q_1 q_2 q_3 q_4 q_5 q_6 q_10 q_11 q_13 q_15, zB G q_1 6, zB G q_2 7, zB G q_3 7, zB G q_4 4, zB G q_5 4, oZ3 q_6 h0t_7 h0a_8 h0f_9, zB G h0t_7 7, zB G h0a_8 7, zB G h0f_9 7, (q_10, .inl (G.2 2, 8, .inr (.inr (.inr (.inr (fun _ => none)))))), (q_11, .inr (5, [.int 5, .int 5, .ref h0c_12, .int 0])), zB G h0c_12 30, (q_13, .inr (5, [.int 5, .int 6, .ref h0c_14, .int 0])), zB G h0c_14 30, (q_15, .inr (5, [.int 4, .int 6, .ref h0c_16, .int 0])), zB G h0c_16 30, (q_18, .inr (3, [.int 0, .null, .null, .null]))] := ⟨hP, hD⟩
  have hP := hPD.1
  have hD := hPD.2
  clear hPD
  refine W.widen (k := 17) (n := 167) (Nat.le_of_ble_eq_true rfl) (Nat.le_of_ble_eq_true rfl) ?_
  refine lv_dup hx hb dX9_init_119 rfl ?_
  refine g_callvM (wr := [oZ8 h0 q_1 q_2 q_3 q_4 q_5 q_6 q_10 q_11 q_13 q_15, zB G q_1 6, zB G q_2 7, zB G q_3 7, zB G q_4 4, zB G q_5 4, oZ3 q_6 h0t_7 h0a_8 h0f_9, zB G h0t_7 7, zB G h0a_8 7, zB G h0f_9 7, (q_10, .inl (G.2 2, 8, .inr (.inr (.inr (.inr (fun _ => none)))))), (q_11, .inr (5, [.int 5, .int 5, .ref h0c_12, .int 0])), zB G h0c_12 30, (q_13, .inr (5, [.int 5, .int 6, .ref h0c_14, .int 0])), zB G h0c_14 30, (q_15, .inr (5, [.int 4, .int 6, .ref h0c_16, .int 0])), zB G h0c_16 30]) (va_runIN (As := []) (rest := [.ref q_18, .int 0, .ref q_10]) ⟨hx, hb, hml, hown, hts⟩ (c_X4_init l G (q_18) _) (⟨va_cnB 0 hts gX9_init_X4_init_n29 rfl rfl rfl (nw1 hN) (hts _ (List.mem_cons_of_mem _ (in_r2 (List.mem_of_getElem? (i := 3) rfl)))) (by decide +kernel) ⟨Nat.le_of_ble_eq_true rfl, Nat.le_of_ble_eq_true rfl⟩, rfl, (hts _ (List.mem_cons_of_mem _ (in_r3 (List.mem_of_getElem? (i := 17) rfl))))⟩) (g_preS [.ref q_18] hP hD hK hN hS hA hZ [17] rfl rfl) rfl rfl hl.1 rfl (lv_room (Nat.le_of_ble_eq_true rfl)) dX9_init_120 ⟨Nat.le_of_ble_eq_true rfl, Nat.le_of_ble_eq_true rfl⟩) hP hD hS hA [17] [false, false, false, false, false, false, false, false, false, false, false, false, false, false, false, false, false, true] rfl rfl rfl (fun u H locs hw hP hD hS => ?_)
  refine W.widen (k := 20) (n := 188) (Nat.le_of_ble_eq_true rfl) (Nat.le_of_ble_eq_true rfl) ?_
  refine ea_3_1 hw (fun h0t_19 h0a_20 h0f_21 e8_0 => ?_)
  subst e8_0
  clear hw
  have hPD : PD G A H [oZ8 h0 q_1 q_2 q_3 q_4 q_5 q_6 q_10 q_11 q_13 q_15, zB G q_1 6, zB G q_2 7, zB G q_3 7, zB G q_4 4, zB G q_5 4, oZ3 q_6 h0t_7 h0a_8 h0f_9, zB G h0t_7 7, zB G h0a_8 7, zB G h0f_9 7, (q_10, .inl (G.2 2, 8, .inr (.inr (.inr (.inr (fun _ => none)))))), (q_11, .inr (5, [.int 5, .int 5, .ref h0c_12, .int 0])), zB G h0c_12 30, (q_13, .inr (5, [.int 5, .int 6, .ref h0c_14, .int 0])), zB G h0c_14 30, (q_15, .inr (5, [.int 4, .int 6, .ref h0c_16, .int 0])), zB G h0c_16 30, oZ3 q_18 h0t_19 h0a_20 h0f_21, zB G h0t_19 7, zB G h0a_20 7, zB G h0f_21 7] := ⟨hP, hD⟩
  have hP := hPD.1
  have hD := hPD.2
  clear hPD
  refine va_astq hx hb hK hP hD hS 10 2 17 3 rfl rfl rfl rfl (by unfold vp_in; decide) dX9_init_123 (fun H locs hP hD hS => ?_)
  have hPD : PD G A H [oZ8 h0 q_1 q_2 q_3 q_4 q_5 q_6 q_10 q_11 q_13 q_15, zB G q_1 6, zB G q_2 7, zB G q_3 7, zB G q_4 4, zB G q_5 4, oZ3 q_6 h0t_7 h0a_8 h0f_9, zB G h0t_7 7, zB G h0a_8 7, zB G h0f_9 7, (q_10, .inl (G.2 2, 8, .inr (.inr (.inr (.inr (va_up (fun _ => none) 0 (some q_18))))))), (q_11, .inr (5, [.int 5, .int 5, .ref h0c_12, .int 0])), zB G h0c_12 30, (q_13, .inr (5, [.int 5, .int 6, .ref h0c_14, .int 0])), zB G h0c_14 30, (q_15, .inr (5, [.int 4, .int 6, .ref h0c_16, .int 0])), zB G h0c_16 30, oZ3 q_18 h0t_19 h0a_20 h0f_21, zB G h0t_19 7, zB G h0a_20 7, zB G h0f_21 7] := ⟨hP, hD⟩
  have hP := hPD.1
  have hD := hPD.2
  clear hPD
  refine lv_iinc (v := 1) (lv' := [(1, .int 1), (0, .ref h0)]) hx hb dX9_init_124 hl (k := 0) rfl (by decide) (by decide) rfl (fun ls hl => ?_)
  refine lv_goto (tgt := 105) hx hb dX9_init_127 (by decide) ?_
  refine lv_iload_n hx hb dX9_init_105 rfl (lv_at hl 0 rfl) ?_
  refine lv_bipush (v := 8) hx hb dX9_init_106 (by decide) ?_
  refine lv_icmp_ge (tgt := 130) hx hb dX9_init_108 (by decide) (fun c_22 => g_no c_22 (by decide)) (fun _ => ?_)
  refine lv_aload_n hx hb dX9_init_111 rfl (lv_at hl 1 rfl) ?_
  refine va_get (D := G.1) (ci := 8) (v := .ref q_10) (C := RX9) (T := TX9) (N := 13) hx hb hts (fun _ h => List.mem_cons_of_mem _ (inlX9 _ h)) hown hK hP 0 rfl rfl 6 (by decide) (hts _ (List.mem_cons_of_mem _ (in_r3 (List.mem_of_getElem? (i := 10) rfl)))) (fun _ h9 => h9) rfl dX9_init_112 ?_
  refine lv_iload_n hx hb dX9_init_115 rfl (lv_at hl 0 rfl) ?_
  refine va_new (ci := 3) (fs := [.int 0, .null, .null, .null]) (C := RX4) (T := TX4) (N := 4) hx hb hts (fun _ h => List.mem_cons_of_mem _ (inlX4 _ h)) tyX4 tyX4_ok hown (hts _ (List.mem_cons_of_mem _ (in_r3 (List.mem_of_getElem? (i := 8) rfl)))) (hts _ (List.mem_cons_of_mem _ (in_r2 (List.mem_of_getElem? (i := 2) rfl)))) (hts _ (List.mem_cons_of_mem _ (in_r2 (List.mem_of_getElem? (i := 3) rfl)))) hK hP hD hS hA rfl (fun j hj => by rcases (show j = 0 ∨ j = 1 ∨ j = 2 ∨ j = 3 by omega) with rfl | rfl | rfl | rfl <;> rfl) (Nat.le_of_ble_eq_true rfl) (Nat.le_of_ble_eq_true rfl) dX9_init_116 (fun q_23 H hP hD hS => ?_)
  have hPD : PD G A H [oZ8 h0 q_1 q_2 q_3 q_4 q_5 q_6 q_10 q_11 q_13 q_15, zB G q_1 6, zB G q_2 7, zB G q_3 7, zB G q_4 4, zB G q_5 4, oZ3 q_6 h0t_7 h0a_8 h0f_9, zB G h0t_7 7, zB G h0a_8 7, zB G h0f_9 7, (q_10, .inl (G.2 2, 8, .inr (.inr (.inr (.inr (va_up (fun _ => none) 0 (some q_18))))))), (q_11, .inr (5, [.int 5, .int 5, .ref h0c_12, .int 0])), zB G h0c_12 30, (q_13, .inr (5, [.int 5, .int 6, .ref h0c_14, .int 0])), zB G h0c_14 30, (q_15, .inr (5, [.int 4, .int 6, .ref h0c_16, .int 0])), zB G h0c_16 30, oZ3 q_18 h0t_19 h0a_20 h0f_21, zB G h0t_19 7, zB G h0a_20 7, zB G h0f_21 7, (q_23, .inr (3, [.int 0, .null, .null, .null]))] := ⟨hP, hD⟩
  have hP := hPD.1
  have hD := hPD.2
  clear hPD
  refine W.widen (k := 21) (n := 192) (Nat.le_of_ble_eq_true rfl) (Nat.le_of_ble_eq_true rfl) ?_
  refine lv_dup hx hb dX9_init_119 rfl ?_
  refine g_callvM (wr := [oZ8 h0 q_1 q_2 q_3 q_4 q_5 q_6 q_10 q_11 q_13 q_15, zB G q_1 6, zB G q_2 7, zB G q_3 7, zB G q_4 4, zB G q_5 4, oZ3 q_6 h0t_7 h0a_8 h0f_9, zB G h0t_7 7, zB G h0a_8 7, zB G h0f_9 7, (q_10, .inl (G.2 2, 8, .inr (.inr (.inr (.inr (va_up (fun _ => none) 0 (some q_18))))))), (q_11, .inr (5, [.int 5, .int 5, .ref h0c_12, .int 0])), zB G h0c_12 30, (q_13, .inr (5, [.int 5, .int 6, .ref h0c_14, .int 0])), zB G h0c_14 30, (q_15, .inr (5, [.int 4, .int 6, .ref h0c_16, .int 0])), zB G h0c_16 30, oZ3 q_18 h0t_19 h0a_20 h0f_21, zB G h0t_19 7, zB G h0a_20 7, zB G h0f_21 7]) (va_runIN (As := []) (rest := [.ref q_23, .int 1, .ref q_10]) ⟨hx, hb, hml, hown, hts⟩ (c_X4_init l G (q_23) _) (⟨va_cnB 0 hts gX9_init_X4_init_n29 rfl rfl rfl (nw1 hN) (hts _ (List.mem_cons_of_mem _ (in_r2 (List.mem_of_getElem? (i := 3) rfl)))) (by decide +kernel) ⟨Nat.le_of_ble_eq_true rfl, Nat.le_of_ble_eq_true rfl⟩, rfl, (hts _ (List.mem_cons_of_mem _ (in_r3 (List.mem_of_getElem? (i := 17) rfl))))⟩) (g_preS [.ref q_23] hP hD hK hN hS hA hZ [21] rfl rfl) rfl rfl hl.1 rfl (lv_room (Nat.le_of_ble_eq_true rfl)) dX9_init_120 ⟨Nat.le_of_ble_eq_true rfl, Nat.le_of_ble_eq_true rfl⟩) hP hD hS hA [21] [false, false, false, false, false, false, false, false, false, false, false, false, false, false, false, false, false, false, false, false, false, true] rfl rfl rfl (fun u H locs hw hP hD hS => ?_)
  refine W.widen (k := 24) (n := 213) (Nat.le_of_ble_eq_true rfl) (Nat.le_of_ble_eq_true rfl) ?_
  refine ea_3_1 hw (fun h0t_24 h0a_25 h0f_26 e8_0 => ?_)
  subst e8_0
  clear hw
  have hPD : PD G A H [oZ8 h0 q_1 q_2 q_3 q_4 q_5 q_6 q_10 q_11 q_13 q_15, zB G q_1 6, zB G q_2 7, zB G q_3 7, zB G q_4 4, zB G q_5 4, oZ3 q_6 h0t_7 h0a_8 h0f_9, zB G h0t_7 7, zB G h0a_8 7, zB G h0f_9 7, (q_10, .inl (G.2 2, 8, .inr (.inr (.inr (.inr (va_up (fun _ => none) 0 (some q_18))))))), (q_11, .inr (5, [.int 5, .int 5, .ref h0c_12, .int 0])), zB G h0c_12 30, (q_13, .inr (5, [.int 5, .int 6, .ref h0c_14, .int 0])), zB G h0c_14 30, (q_15, .inr (5, [.int 4, .int 6, .ref h0c_16, .int 0])), zB G h0c_16 30, oZ3 q_18 h0t_19 h0a_20 h0f_21, zB G h0t_19 7, zB G h0a_20 7, zB G h0f_21 7, oZ3 q_23 h0t_24 h0a_25 h0f_26, zB G h0t_24 7, zB G h0a_25 7, zB G h0f_26 7] := ⟨hP, hD⟩
  have hP := hPD.1
  have hD := hPD.2
  clear hPD
  refine va_astq hx hb hK hP hD hS 10 2 21 3 rfl rfl rfl rfl (by unfold vp_in; decide) dX9_init_123 (fun H locs hP hD hS => ?_)
  have hPD : PD G A H [oZ8 h0 q_1 q_2 q_3 q_4 q_5 q_6 q_10 q_11 q_13 q_15, zB G q_1 6, zB G q_2 7, zB G q_3 7, zB G q_4 4, zB G q_5 4, oZ3 q_6 h0t_7 h0a_8 h0f_9, zB G h0t_7 7, zB G h0a_8 7, zB G h0f_9 7, (q_10, .inl (G.2 2, 8, .inr (.inr (.inr (.inr (va_up (va_up (fun _ => none) 0 (some q_18)) 1 (some q_23))))))), (q_11, .inr (5, [.int 5, .int 5, .ref h0c_12, .int 0])), zB G h0c_12 30, (q_13, .inr (5, [.int 5, .int 6, .ref h0c_14, .int 0])), zB G h0c_14 30, (q_15, .inr (5, [.int 4, .int 6, .ref h0c_16, .int 0])), zB G h0c_16 30, oZ3 q_18 h0t_19 h0a_20 h0f_21, zB G h0t_19 7, zB G h0a_20 7, zB G h0f_21 7, oZ3 q_23 h0t_24 h0a_25 h0f_26, zB G h0t_24 7, zB G h0a_25 7, zB G h0f_26 7] := ⟨hP, hD⟩
  have hP := hPD.1
  have hD := hPD.2
  clear hPD
  refine lv_iinc (v := 2) (lv' := [(1, .int 2), (0, .ref h0)]) hx hb dX9_init_124 hl (k := 0) rfl (by decide) (by decide) rfl (fun ls hl => ?_)
  refine lv_goto (tgt := 105) hx hb dX9_init_127 (by decide) ?_
  refine lv_iload_n hx hb dX9_init_105 rfl (lv_at hl 0 rfl) ?_
  refine lv_bipush (v := 8) hx hb dX9_init_106 (by decide) ?_
  refine lv_icmp_ge (tgt := 130) hx hb dX9_init_108 (by decide) (fun c_27 => g_no c_27 (by decide)) (fun _ => ?_)
  refine lv_aload_n hx hb dX9_init_111 rfl (lv_at hl 1 rfl) ?_
  refine va_get (D := G.1) (ci := 8) (v := .ref q_10) (C := RX9) (T := TX9) (N := 13) hx hb hts (fun _ h => List.mem_cons_of_mem _ (inlX9 _ h)) hown hK hP 0 rfl rfl 6 (by decide) (hts _ (List.mem_cons_of_mem _ (in_r3 (List.mem_of_getElem? (i := 10) rfl)))) (fun _ h9 => h9) rfl dX9_init_112 ?_
  refine lv_iload_n hx hb dX9_init_115 rfl (lv_at hl 0 rfl) ?_
  refine va_new (ci := 3) (fs := [.int 0, .null, .null, .null]) (C := RX4) (T := TX4) (N := 4) hx hb hts (fun _ h => List.mem_cons_of_mem _ (inlX4 _ h)) tyX4 tyX4_ok hown (hts _ (List.mem_cons_of_mem _ (in_r3 (List.mem_of_getElem? (i := 8) rfl)))) (hts _ (List.mem_cons_of_mem _ (in_r2 (List.mem_of_getElem? (i := 2) rfl)))) (hts _ (List.mem_cons_of_mem _ (in_r2 (List.mem_of_getElem? (i := 3) rfl)))) hK hP hD hS hA rfl (fun j hj => by rcases (show j = 0 ∨ j = 1 ∨ j = 2 ∨ j = 3 by omega) with rfl | rfl | rfl | rfl <;> rfl) (Nat.le_of_ble_eq_true rfl) (Nat.le_of_ble_eq_true rfl) dX9_init_116 (fun q_28 H hP hD hS => ?_)
  have hPD : PD G A H [oZ8 h0 q_1 q_2 q_3 q_4 q_5 q_6 q_10 q_11 q_13 q_15, zB G q_1 6, zB G q_2 7, zB G q_3 7, zB G q_4 4, zB G q_5 4, oZ3 q_6 h0t_7 h0a_8 h0f_9, zB G h0t_7 7, zB G h0a_8 7, zB G h0f_9 7, (q_10, .inl (G.2 2, 8, .inr (.inr (.inr (.inr (va_up (va_up (fun _ => none) 0 (some q_18)) 1 (some q_23))))))), (q_11, .inr (5, [.int 5, .int 5, .ref h0c_12, .int 0])), zB G h0c_12 30, (q_13, .inr (5, [.int 5, .int 6, .ref h0c_14, .int 0])), zB G h0c_14 30, (q_15, .inr (5, [.int 4, .int 6, .ref h0c_16, .int 0])), zB G h0c_16 30, oZ3 q_18 h0t_19 h0a_20 h0f_21, zB G h0t_19 7, zB G h0a_20 7, zB G h0f_21 7, oZ3 q_23 h0t_24 h0a_25 h0f_26, zB G h0t_24 7, zB G h0a_25 7, zB G h0f_26 7, (q_28, .inr (3, [.int 0, .null, .null, .null]))] := ⟨hP, hD⟩
  have hP := hPD.1
  have hD := hPD.2
  clear hPD
  refine W.widen (k := 25) (n := 217) (Nat.le_of_ble_eq_true rfl) (Nat.le_of_ble_eq_true rfl) ?_
  refine lv_dup hx hb dX9_init_119 rfl ?_
  refine g_callvM (wr := [oZ8 h0 q_1 q_2 q_3 q_4 q_5 q_6 q_10 q_11 q_13 q_15, zB G q_1 6, zB G q_2 7, zB G q_3 7, zB G q_4 4, zB G q_5 4, oZ3 q_6 h0t_7 h0a_8 h0f_9, zB G h0t_7 7, zB G h0a_8 7, zB G h0f_9 7, (q_10, .inl (G.2 2, 8, .inr (.inr (.inr (.inr (va_up (va_up (fun _ => none) 0 (some q_18)) 1 (some q_23))))))), (q_11, .inr (5, [.int 5, .int 5, .ref h0c_12, .int 0])), zB G h0c_12 30, (q_13, .inr (5, [.int 5, .int 6, .ref h0c_14, .int 0])), zB G h0c_14 30, (q_15, .inr (5, [.int 4, .int 6, .ref h0c_16, .int 0])), zB G h0c_16 30, oZ3 q_18 h0t_19 h0a_20 h0f_21, zB G h0t_19 7, zB G h0a_20 7, zB G h0f_21 7, oZ3 q_23 h0t_24 h0a_25 h0f_26, zB G h0t_24 7, zB G h0a_25 7, zB G h0f_26 7]) (va_runIN (As := []) (rest := [.ref q_28, .int 2, .ref q_10]) ⟨hx, hb, hml, hown, hts⟩ (c_X4_init l G (q_28) _) (⟨va_cnB 0 hts gX9_init_X4_init_n29 rfl rfl rfl (nw1 hN) (hts _ (List.mem_cons_of_mem _ (in_r2 (List.mem_of_getElem? (i := 3) rfl)))) (by decide +kernel) ⟨Nat.le_of_ble_eq_true rfl, Nat.le_of_ble_eq_true rfl⟩, rfl, (hts _ (List.mem_cons_of_mem _ (in_r3 (List.mem_of_getElem? (i := 17) rfl))))⟩) (g_preS [.ref q_28] hP hD hK hN hS hA hZ [25] rfl rfl) rfl rfl hl.1 rfl (lv_room (Nat.le_of_ble_eq_true rfl)) dX9_init_120 ⟨Nat.le_of_ble_eq_true rfl, Nat.le_of_ble_eq_true rfl⟩) hP hD hS hA [25] [false, false, false, false, false, false, false, false, false, false, false, false, false, false, false, false, false, false, false, false, false, false, false, false, false, true] rfl rfl rfl (fun u H locs hw hP hD hS => ?_)
  refine W.widen (k := 28) (n := 238) (Nat.le_of_ble_eq_true rfl) (Nat.le_of_ble_eq_true rfl) ?_
  refine ea_3_1 hw (fun h0t_29 h0a_30 h0f_31 e8_0 => ?_)
  subst e8_0
  clear hw
  have hPD : PD G A H [oZ8 h0 q_1 q_2 q_3 q_4 q_5 q_6 q_10 q_11 q_13 q_15, zB G q_1 6, zB G q_2 7, zB G q_3 7, zB G q_4 4, zB G q_5 4, oZ3 q_6 h0t_7 h0a_8 h0f_9, zB G h0t_7 7, zB G h0a_8 7, zB G h0f_9 7, (q_10, .inl (G.2 2, 8, .inr (.inr (.inr (.inr (va_up (va_up (fun _ => none) 0 (some q_18)) 1 (some q_23))))))), (q_11, .inr (5, [.int 5, .int 5, .ref h0c_12, .int 0])), zB G h0c_12 30, (q_13, .inr (5, [.int 5, .int 6, .ref h0c_14, .int 0])), zB G h0c_14 30, (q_15, .inr (5, [.int 4, .int 6, .ref h0c_16, .int 0])), zB G h0c_16 30, oZ3 q_18 h0t_19 h0a_20 h0f_21, zB G h0t_19 7, zB G h0a_20 7, zB G h0f_21 7, oZ3 q_23 h0t_24 h0a_25 h0f_26, zB G h0t_24 7, zB G h0a_25 7, zB G h0f_26 7, oZ3 q_28 h0t_29 h0a_30 h0f_31, zB G h0t_29 7, zB G h0a_30 7, zB G h0f_31 7] := ⟨hP, hD⟩
  have hP := hPD.1
  have hD := hPD.2
  clear hPD
  refine va_astq hx hb hK hP hD hS 10 2 25 3 rfl rfl rfl rfl (by unfold vp_in; decide) dX9_init_123 (fun H locs hP hD hS => ?_)
  have hPD : PD G A H [oZ8 h0 q_1 q_2 q_3 q_4 q_5 q_6 q_10 q_11 q_13 q_15, zB G q_1 6, zB G q_2 7, zB G q_3 7, zB G q_4 4, zB G q_5 4, oZ3 q_6 h0t_7 h0a_8 h0f_9, zB G h0t_7 7, zB G h0a_8 7, zB G h0f_9 7, (q_10, .inl (G.2 2, 8, .inr (.inr (.inr (.inr (va_up (va_up (va_up (fun _ => none) 0 (some q_18)) 1 (some q_23)) 2 (some q_28))))))), (q_11, .inr (5, [.int 5, .int 5, .ref h0c_12, .int 0])), zB G h0c_12 30, (q_13, .inr (5, [.int 5, .int 6, .ref h0c_14, .int 0])), zB G h0c_14 30, (q_15, .inr (5, [.int 4, .int 6, .ref h0c_16, .int 0])), zB G h0c_16 30, oZ3 q_18 h0t_19 h0a_20 h0f_21, zB G h0t_19 7, zB G h0a_20 7, zB G h0f_21 7, oZ3 q_23 h0t_24 h0a_25 h0f_26, zB G h0t_24 7, zB G h0a_25 7, zB G h0f_26 7, oZ3 q_28 h0t_29 h0a_30 h0f_31, zB G h0t_29 7, zB G h0a_30 7, zB G h0f_31 7] := ⟨hP, hD⟩
  have hP := hPD.1
  have hD := hPD.2
  clear hPD
  refine lv_iinc (v := 3) (lv' := [(1, .int 3), (0, .ref h0)]) hx hb dX9_init_124 hl (k := 0) rfl (by decide) (by decide) rfl (fun ls hl => ?_)
  refine lv_goto (tgt := 105) hx hb dX9_init_127 (by decide) ?_
  refine lv_iload_n hx hb dX9_init_105 rfl (lv_at hl 0 rfl) ?_
  refine lv_bipush (v := 8) hx hb dX9_init_106 (by decide) ?_
  refine lv_icmp_ge (tgt := 130) hx hb dX9_init_108 (by decide) (fun c_32 => g_no c_32 (by decide)) (fun _ => ?_)
  refine lv_aload_n hx hb dX9_init_111 rfl (lv_at hl 1 rfl) ?_
  refine va_get (D := G.1) (ci := 8) (v := .ref q_10) (C := RX9) (T := TX9) (N := 13) hx hb hts (fun _ h => List.mem_cons_of_mem _ (inlX9 _ h)) hown hK hP 0 rfl rfl 6 (by decide) (hts _ (List.mem_cons_of_mem _ (in_r3 (List.mem_of_getElem? (i := 10) rfl)))) (fun _ h9 => h9) rfl dX9_init_112 ?_
  refine lv_iload_n hx hb dX9_init_115 rfl (lv_at hl 0 rfl) ?_
  refine va_new (ci := 3) (fs := [.int 0, .null, .null, .null]) (C := RX4) (T := TX4) (N := 4) hx hb hts (fun _ h => List.mem_cons_of_mem _ (inlX4 _ h)) tyX4 tyX4_ok hown (hts _ (List.mem_cons_of_mem _ (in_r3 (List.mem_of_getElem? (i := 8) rfl)))) (hts _ (List.mem_cons_of_mem _ (in_r2 (List.mem_of_getElem? (i := 2) rfl)))) (hts _ (List.mem_cons_of_mem _ (in_r2 (List.mem_of_getElem? (i := 3) rfl)))) hK hP hD hS hA rfl (fun j hj => by rcases (show j = 0 ∨ j = 1 ∨ j = 2 ∨ j = 3 by omega) with rfl | rfl | rfl | rfl <;> rfl) (Nat.le_of_ble_eq_true rfl) (Nat.le_of_ble_eq_true rfl) dX9_init_116 (fun q_33 H hP hD hS => ?_)
  have hPD : PD G A H [oZ8 h0 q_1 q_2 q_3 q_4 q_5 q_6 q_10 q_11 q_13 q_15, zB G q_1 6, zB G q_2 7, zB G q_3 7, zB G q_4 4, zB G q_5 4, oZ3 q_6 h0t_7 h0a_8 h0f_9, zB G h0t_7 7, zB G h0a_8 7, zB G h0f_9 7, (q_10, .inl (G.2 2, 8, .inr (.inr (.inr (.inr (va_up (va_up (va_up (fun _ => none) 0 (some q_18)) 1 (some q_23)) 2 (some q_28))))))), (q_11, .inr (5, [.int 5, .int 5, .ref h0c_12, .int 0])), zB G h0c_12 30, (q_13, .inr (5, [.int 5, .int 6, .ref h0c_14, .int 0])), zB G h0c_14 30, (q_15, .inr (5, [.int 4, .int 6, .ref h0c_16, .int 0])), zB G h0c_16 30, oZ3 q_18 h0t_19 h0a_20 h0f_21, zB G h0t_19 7, zB G h0a_20 7, zB G h0f_21 7, oZ3 q_23 h0t_24 h0a_25 h0f_26, zB G h0t_24 7, zB G h0a_25 7, zB G h0f_26 7, oZ3 q_28 h0t_29 h0a_30 h0f_31, zB G h0t_29 7, zB G h0a_30 7, zB G h0f_31 7, (q_33, .inr (3, [.int 0, .null, .null, .null]))] := ⟨hP, hD⟩
  have hP := hPD.1
  have hD := hPD.2
  clear hPD
  refine W.widen (k := 29) (n := 242) (Nat.le_of_ble_eq_true rfl) (Nat.le_of_ble_eq_true rfl) ?_
  refine lv_dup hx hb dX9_init_119 rfl ?_
  refine g_callvM (wr := [oZ8 h0 q_1 q_2 q_3 q_4 q_5 q_6 q_10 q_11 q_13 q_15, zB G q_1 6, zB G q_2 7, zB G q_3 7, zB G q_4 4, zB G q_5 4, oZ3 q_6 h0t_7 h0a_8 h0f_9, zB G h0t_7 7, zB G h0a_8 7, zB G h0f_9 7, (q_10, .inl (G.2 2, 8, .inr (.inr (.inr (.inr (va_up (va_up (va_up (fun _ => none) 0 (some q_18)) 1 (some q_23)) 2 (some q_28))))))), (q_11, .inr (5, [.int 5, .int 5, .ref h0c_12, .int 0])), zB G h0c_12 30, (q_13, .inr (5, [.int 5, .int 6, .ref h0c_14, .int 0])), zB G h0c_14 30, (q_15, .inr (5, [.int 4, .int 6, .ref h0c_16, .int 0])), zB G h0c_16 30, oZ3 q_18 h0t_19 h0a_20 h0f_21, zB G h0t_19 7, zB G h0a_20 7, zB G h0f_21 7, oZ3 q_23 h0t_24 h0a_25 h0f_26, zB G h0t_24 7, zB G h0a_25 7, zB G h0f_26 7, oZ3 q_28 h0t_29 h0a_30 h0f_31, zB G h0t_29 7, zB G h0a_30 7, zB G h0f_31 7]) (va_runIN (As := []) (rest := [.ref q_33, .int 3, .ref q_10]) ⟨hx, hb, hml, hown, hts⟩ (c_X4_init l G (q_33) _) (⟨va_cnB 0 hts gX9_init_X4_init_n29 rfl rfl rfl (nw1 hN) (hts _ (List.mem_cons_of_mem _ (in_r2 (List.mem_of_getElem? (i := 3) rfl)))) (by decide +kernel) ⟨Nat.le_of_ble_eq_true rfl, Nat.le_of_ble_eq_true rfl⟩, rfl, (hts _ (List.mem_cons_of_mem _ (in_r3 (List.mem_of_getElem? (i := 17) rfl))))⟩) (g_preS [.ref q_33] hP hD hK hN hS hA hZ [29] rfl rfl) rfl rfl hl.1 rfl (lv_room (Nat.le_of_ble_eq_true rfl)) dX9_init_120 ⟨Nat.le_of_ble_eq_true rfl, Nat.le_of_ble_eq_true rfl⟩) hP hD hS hA [29] [false, false, false, false, false, false, false, false, false, false, false, false, false, false, false, false, false, false, false, false, false, false, false, false, false, false, false, false, false, true] rfl rfl rfl (fun u H locs hw hP hD hS => ?_)
  refine W.widen (k := 32) (n := 263) (Nat.le_of_ble_eq_true rfl) (Nat.le_of_ble_eq_true rfl) ?_
  refine ea_3_1 hw (fun h0t_34 h0a_35 h0f_36 e8_0 => ?_)
  subst e8_0
  clear hw
  have hPD : PD G A H [oZ8 h0 q_1 q_2 q_3 q_4 q_5 q_6 q_10 q_11 q_13 q_15, zB G q_1 6, zB G q_2 7, zB G q_3 7, zB G q_4 4, zB G q_5 4, oZ3 q_6 h0t_7 h0a_8 h0f_9, zB G h0t_7 7, zB G h0a_8 7, zB G h0f_9 7, (q_10, .inl (G.2 2, 8, .inr (.inr (.inr (.inr (va_up (va_up (va_up (fun _ => none) 0 (some q_18)) 1 (some q_23)) 2 (some q_28))))))), (q_11, .inr (5, [.int 5, .int 5, .ref h0c_12, .int 0])), zB G h0c_12 30, (q_13, .inr (5, [.int 5, .int 6, .ref h0c_14, .int 0])), zB G h0c_14 30, (q_15, .inr (5, [.int 4, .int 6, .ref h0c_16, .int 0])), zB G h0c_16 30, oZ3 q_18 h0t_19 h0a_20 h0f_21, zB G h0t_19 7, zB G h0a_20 7, zB G h0f_21 7, oZ3 q_23 h0t_24 h0a_25 h0f_26, zB G h0t_24 7, zB G h0a_25 7, zB G h0f_26 7, oZ3 q_28 h0t_29 h0a_30 h0f_31, zB G h0t_29 7, zB G h0a_30 7, zB G h0f_31 7, oZ3 q_33 h0t_34 h0a_35 h0f_36, zB G h0t_34 7, zB G h0a_35 7, zB G h0f_36 7] := ⟨hP, hD⟩
  have hP := hPD.1
  have hD := hPD.2
  clear hPD
  refine va_astq hx hb hK hP hD hS 10 2 29 3 rfl rfl rfl rfl (by unfold vp_in; decide) dX9_init_123 (fun H locs hP hD hS => ?_)
  have hPD : PD G A H [oZ8 h0 q_1 q_2 q_3 q_4 q_5 q_6 q_10 q_11 q_13 q_15, zB G q_1 6, zB G q_2 7, zB G q_3 7, zB G q_4 4, zB G q_5 4, oZ3 q_6 h0t_7 h0a_8 h0f_9, zB G h0t_7 7, zB G h0a_8 7, zB G h0f_9 7, (q_10, .inl (G.2 2, 8, .inr (.inr (.inr (.inr (va_up (va_up (va_up (va_up (fun _ => none) 0 (some q_18)) 1 (some q_23)) 2 (some q_28)) 3 (some q_33))))))), (q_11, .inr (5, [.int 5, .int 5, .ref h0c_12, .int 0])), zB G h0c_12 30, (q_13, .inr (5, [.int 5, .int 6, .ref h0c_14, .int 0])), zB G h0c_14 30, (q_15, .inr (5, [.int 4, .int 6, .ref h0c_16, .int 0])), zB G h0c_16 30, oZ3 q_18 h0t_19 h0a_20 h0f_21, zB G h0t_19 7, zB G h0a_20 7, zB G h0f_21 7, oZ3 q_23 h0t_24 h0a_25 h0f_26, zB G h0t_24 7, zB G h0a_25 7, zB G h0f_26 7, oZ3 q_28 h0t_29 h0a_30 h0f_31, zB G h0t_29 7, zB G h0a_30 7, zB G h0f_31 7, oZ3 q_33 h0t_34 h0a_35 h0f_36, zB G h0t_34 7, zB G h0a_35 7, zB G h0f_36 7] := ⟨hP, hD⟩
  have hP := hPD.1
  have hD := hPD.2
  clear hPD
  refine lv_iinc (v := 4) (lv' := [(1, .int 4), (0, .ref h0)]) hx hb dX9_init_124 hl (k := 0) rfl (by decide) (by decide) rfl (fun ls hl => ?_)
  refine lv_goto (tgt := 105) hx hb dX9_init_127 (by decide) ?_
  refine lv_iload_n hx hb dX9_init_105 rfl (lv_at hl 0 rfl) ?_
  refine lv_bipush (v := 8) hx hb dX9_init_106 (by decide) ?_
  refine lv_icmp_ge (tgt := 130) hx hb dX9_init_108 (by decide) (fun c_37 => g_no c_37 (by decide)) (fun _ => ?_)
  refine lv_aload_n hx hb dX9_init_111 rfl (lv_at hl 1 rfl) ?_
  refine va_get (D := G.1) (ci := 8) (v := .ref q_10) (C := RX9) (T := TX9) (N := 13) hx hb hts (fun _ h => List.mem_cons_of_mem _ (inlX9 _ h)) hown hK hP 0 rfl rfl 6 (by decide) (hts _ (List.mem_cons_of_mem _ (in_r3 (List.mem_of_getElem? (i := 10) rfl)))) (fun _ h9 => h9) rfl dX9_init_112 ?_
  refine lv_iload_n hx hb dX9_init_115 rfl (lv_at hl 0 rfl) ?_
  refine va_new (ci := 3) (fs := [.int 0, .null, .null, .null]) (C := RX4) (T := TX4) (N := 4) hx hb hts (fun _ h => List.mem_cons_of_mem _ (inlX4 _ h)) tyX4 tyX4_ok hown (hts _ (List.mem_cons_of_mem _ (in_r3 (List.mem_of_getElem? (i := 8) rfl)))) (hts _ (List.mem_cons_of_mem _ (in_r2 (List.mem_of_getElem? (i := 2) rfl)))) (hts _ (List.mem_cons_of_mem _ (in_r2 (List.mem_of_getElem? (i := 3) rfl)))) hK hP hD hS hA rfl (fun j hj => by rcases (show j = 0 ∨ j = 1 ∨ j = 2 ∨ j = 3 by omega) with rfl | rfl | rfl | rfl <;> rfl) (Nat.le_of_ble_eq_true rfl) (Nat.le_of_ble_eq_true rfl) dX9_init_116 (fun q_38 H hP hD hS => ?_)
  have hPD : PD G A H [oZ8 h0 q_1 q_2 q_3 q_4 q_5 q_6 q_10 q_11 q_13 q_15, zB G q_1 6, zB G q_2 7, zB G q_3 7, zB G q_4 4, zB G q_5 4, oZ3 q_6 h0t_7 h0a_8 h0f_9, zB G h0t_7 7, zB G h0a_8 7, zB G h0f_9 7, (q_10, .inl (G.2 2, 8, .inr (.inr (.inr (.inr (va_up (va_up (va_up (va_up (fun _ => none) 0 (some q_18)) 1 (some q_23)) 2 (some q_28)) 3 (some q_33))))))), (q_11, .inr (5, [.int 5, .int 5, .ref h0c_12, .int 0])), zB G h0c_12 30, (q_13, .inr (5, [.int 5, .int 6, .ref h0c_14, .int 0])), zB G h0c_14 30, (q_15, .inr (5, [.int 4, .int 6, .ref h0c_16, .int 0])), zB G h0c_16 30, oZ3 q_18 h0t_19 h0a_20 h0f_21, zB G h0t_19 7, zB G h0a_20 7, zB G h0f_21 7, oZ3 q_23 h0t_24 h0a_25 h0f_26, zB G h0t_24 7, zB G h0a_25 7, zB G h0f_26 7, oZ3 q_28 h0t_29 h0a_30 h0f_31, zB G h0t_29 7, zB G h0a_30 7, zB G h0f_31 7, oZ3 q_33 h0t_34 h0a_35 h0f_36, zB G h0t_34 7, zB G h0a_35 7, zB G h0f_36 7, (q_38, .inr (3, [.int 0, .null, .null, .null]))] := ⟨hP, hD⟩
  have hP := hPD.1
  have hD := hPD.2
  clear hPD
  refine W.widen (k := 33) (n := 267) (Nat.le_of_ble_eq_true rfl) (Nat.le_of_ble_eq_true rfl) ?_
  refine lv_dup hx hb dX9_init_119 rfl ?_
  refine g_callvM (wr := [oZ8 h0 q_1 q_2 q_3 q_4 q_5 q_6 q_10 q_11 q_13 q_15, zB G q_1 6, zB G q_2 7, zB G q_3 7, zB G q_4 4, zB G q_5 4, oZ3 q_6 h0t_7 h0a_8 h0f_9, zB G h0t_7 7, zB G h0a_8 7, zB G h0f_9 7, (q_10, .inl (G.2 2, 8, .inr (.inr (.inr (.inr (va_up (va_up (va_up (va_up (fun _ => none) 0 (some q_18)) 1 (some q_23)) 2 (some q_28)) 3 (some q_33))))))), (q_11, .inr (5, [.int 5, .int 5, .ref h0c_12, .int 0])), zB G h0c_12 30, (q_13, .inr (5, [.int 5, .int 6, .ref h0c_14, .int 0])), zB G h0c_14 30, (q_15, .inr (5, [.int 4, .int 6, .ref h0c_16, .int 0])), zB G h0c_16 30, oZ3 q_18 h0t_19 h0a_20 h0f_21, zB G h0t_19 7, zB G h0a_20 7, zB G h0f_21 7, oZ3 q_23 h0t_24 h0a_25 h0f_26, zB G h0t_24 7, zB G h0a_25 7, zB G h0f_26 7, oZ3 q_28 h0t_29 h0a_30 h0f_31, zB G h0t_29 7, zB G h0a_30 7, zB G h0f_31 7, oZ3 q_33 h0t_34 h0a_35 h0f_36, zB G h0t_34 7, zB G h0a_35 7, zB G h0f_36 7]) (va_runIN (As := []) (rest := [.ref q_38, .int 4, .ref q_10]) ⟨hx, hb, hml, hown, hts⟩ (c_X4_init l G (q_38) _) (⟨va_cnB 0 hts gX9_init_X4_init_n29 rfl rfl rfl (nw1 hN) (hts _ (List.mem_cons_of_mem _ (in_r2 (List.mem_of_getElem? (i := 3) rfl)))) (by decide +kernel) ⟨Nat.le_of_ble_eq_true rfl, Nat.le_of_ble_eq_true rfl⟩, rfl, (hts _ (List.mem_cons_of_mem _ (in_r3 (List.mem_of_getElem? (i := 17) rfl))))⟩) (g_preS [.ref q_38] hP hD hK hN hS hA hZ [33] rfl rfl) rfl rfl hl.1 rfl (lv_room (Nat.le_of_ble_eq_true rfl)) dX9_init_120 ⟨Nat.le_of_ble_eq_true rfl, Nat.le_of_ble_eq_true rfl⟩) hP hD hS hA [33] [false, false, false, false, false, false, false, false, false, false, false, false, false, false, false, false, false, false, false, false, false, false, false, false, false, false, false, false, false, false, false, false, false, true] rfl rfl rfl (fun u H locs hw hP hD hS => ?_)
  refine W.widen (k := 36) (n := 288) (Nat.le_of_ble_eq_true rfl) (Nat.le_of_ble_eq_true rfl) ?_
  refine ea_3_1 hw (fun h0t_39 h0a_40 h0f_41 e8_0 => ?_)
  subst e8_0
  clear hw
  have hPD : PD G A H [oZ8 h0 q_1 q_2 q_3 q_4 q_5 q_6 q_10 q_11 q_13 q_15, zB G q_1 6, zB G q_2 7, zB G q_3 7, zB G q_4 4, zB G q_5 4, oZ3 q_6 h0t_7 h0a_8 h0f_9, zB G h0t_7 7, zB G h0a_8 7, zB G h0f_9 7, (q_10, .inl (G.2 2, 8, .inr (.inr (.inr (.inr (va_up (va_up (va_up (va_up (fun _ => none) 0 (some q_18)) 1 (some q_23)) 2 (some q_28)) 3 (some q_33))))))), (q_11, .inr (5, [.int 5, .int 5, .ref h0c_12, .int 0])), zB G h0c_12 30, (q_13, .inr (5, [.int 5, .int 6, .ref h0c_14, .int 0])), zB G h0c_14 30, (q_15, .inr (5, [.int 4, .int 6, .ref h0c_16, .int 0])), zB G h0c_16 30, oZ3 q_18 h0t_19 h0a_20 h0f_21, zB G h0t_19 7, zB G h0a_20 7, zB G h0f_21 7, oZ3 q_23 h0t_24 h0a_25 h0f_26, zB G h0t_24 7, zB G h0a_25 7, zB G h0f_26 7, oZ3 q_28 h0t_29 h0a_30 h0f_31, zB G h0t_29 7, zB G h0a_30 7, zB G h0f_31 7, oZ3 q_33 h0t_34 h0a_35 h0f_36, zB G h0t_34 7, zB G h0a_35 7, zB G h0f_36 7, oZ3 q_38 h0t_39 h0a_40 h0f_41, zB G h0t_39 7, zB G h0a_40 7, zB G h0f_41 7] := ⟨hP, hD⟩
  have hP := hPD.1
  have hD := hPD.2
  clear hPD
  refine va_astq hx hb hK hP hD hS 10 2 33 3 rfl rfl rfl rfl (by unfold vp_in; decide) dX9_init_123 (fun H locs hP hD hS => ?_)
  have hPD : PD G A H [oZ8 h0 q_1 q_2 q_3 q_4 q_5 q_6 q_10 q_11 q_13 q_15, zB G q_1 6, zB G q_2 7, zB G q_3 7, zB G q_4 4, zB G q_5 4, oZ3 q_6 h0t_7 h0a_8 h0f_9, zB G h0t_7 7, zB G h0a_8 7, zB G h0f_9 7, (q_10, .inl (G.2 2, 8, .inr (.inr (.inr (.inr (va_up (va_up (va_up (va_up (va_up (fun _ => none) 0 (some q_18)) 1 (some q_23)) 2 (some q_28)) 3 (some q_33)) 4 (some q_38))))))), (q_11, .inr (5, [.int 5, .int 5, .ref h0c_12, .int 0])), zB G h0c_12 30, (q_13, .inr (5, [.int 5, .int 6, .ref h0c_14, .int 0])), zB G h0c_14 30, (q_15, .inr (5, [.int 4, .int 6, .ref h0c_16, .int 0])), zB G h0c_16 30, oZ3 q_18 h0t_19 h0a_20 h0f_21, zB G h0t_19 7, zB G h0a_20 7, zB G h0f_21 7, oZ3 q_23 h0t_24 h0a_25 h0f_26, zB G h0t_24 7, zB G h0a_25 7, zB G h0f_26 7, oZ3 q_28 h0t_29 h0a_30 h0f_31, zB G h0t_29 7, zB G h0a_30 7, zB G h0f_31 7, oZ3 q_33 h0t_34 h0a_35 h0f_36, zB G h0t_34 7, zB G h0a_35 7, zB G h0f_36 7, oZ3 q_38 h0t_39 h0a_40 h0f_41, zB G h0t_39 7, zB G h0a_40 7, zB G h0f_41 7] := ⟨hP, hD⟩
  have hP := hPD.1
  have hD := hPD.2
  clear hPD
  refine lv_iinc (v := 5) (lv' := [(1, .int 5), (0, .ref h0)]) hx hb dX9_init_124 hl (k := 0) rfl (by decide) (by decide) rfl (fun ls hl => ?_)
  refine lv_goto (tgt := 105) hx hb dX9_init_127 (by decide) ?_
  refine lv_iload_n hx hb dX9_init_105 rfl (lv_at hl 0 rfl) ?_
  refine lv_bipush (v := 8) hx hb dX9_init_106 (by decide) ?_
  refine lv_icmp_ge (tgt := 130) hx hb dX9_init_108 (by decide) (fun c_42 => g_no c_42 (by decide)) (fun _ => ?_)
  refine lv_aload_n hx hb dX9_init_111 rfl (lv_at hl 1 rfl) ?_
  refine va_get (D := G.1) (ci := 8) (v := .ref q_10) (C := RX9) (T := TX9) (N := 13) hx hb hts (fun _ h => List.mem_cons_of_mem _ (inlX9 _ h)) hown hK hP 0 rfl rfl 6 (by decide) (hts _ (List.mem_cons_of_mem _ (in_r3 (List.mem_of_getElem? (i := 10) rfl)))) (fun _ h9 => h9) rfl dX9_init_112 ?_
  refine lv_iload_n hx hb dX9_init_115 rfl (lv_at hl 0 rfl) ?_
  refine va_new (ci := 3) (fs := [.int 0, .null, .null, .null]) (C := RX4) (T := TX4) (N := 4) hx hb hts (fun _ h => List.mem_cons_of_mem _ (inlX4 _ h)) tyX4 tyX4_ok hown (hts _ (List.mem_cons_of_mem _ (in_r3 (List.mem_of_getElem? (i := 8) rfl)))) (hts _ (List.mem_cons_of_mem _ (in_r2 (List.mem_of_getElem? (i := 2) rfl)))) (hts _ (List.mem_cons_of_mem _ (in_r2 (List.mem_of_getElem? (i := 3) rfl)))) hK hP hD hS hA rfl (fun j hj => by rcases (show j = 0 ∨ j = 1 ∨ j = 2 ∨ j = 3 by omega) with rfl | rfl | rfl | rfl <;> rfl) (Nat.le_of_ble_eq_true rfl) (Nat.le_of_ble_eq_true rfl) dX9_init_116 (fun q_43 H hP hD hS => ?_)
  have hPD : PD G A H [oZ8 h0 q_1 q_2 q_3 q_4 q_5 q_6 q_10 q_11 q_13 q_15, zB G q_1 6, zB G q_2 7, zB G q_3 7, zB G q_4 4, zB G q_5 4, oZ3 q_6 h0t_7 h0a_8 h0f_9, zB G h0t_7 7, zB G h0a_8 7, zB G h0f_9 7, (q_10, .inl (G.2 2, 8, .inr (.inr (.inr (.inr (va_up (va_up (va_up (va_up (va_up (fun _ => none) 0 (some q_18)) 1 (some q_23)) 2 (some q_28)) 3 (some q_33)) 4 (some q_38))))))), (q_11, .inr (5, [.int 5, .int 5, .ref h0c_12, .int 0])), zB G h0c_12 30, (q_13, .inr (5, [.int 5, .int 6, .ref h0c_14, .int 0])), zB G h0c_14 30, (q_15, .inr (5, [.int 4, .int 6, .ref h0c_16, .int 0])), zB G h0c_16 30, oZ3 q_18 h0t_19 h0a_20 h0f_21, zB G h0t_19 7, zB G h0a_20 7, zB G h0f_21 7, oZ3 q_23 h0t_24 h0a_25 h0f_26, zB G h0t_24 7, zB G h0a_25 7, zB G h0f_26 7, oZ3 q_28 h0t_29 h0a_30 h0f_31, zB G h0t_29 7, zB G h0a_30 7, zB G h0f_31 7, oZ3 q_33 h0t_34 h0a_35 h0f_36, zB G h0t_34 7, zB G h0a_35 7, zB G h0f_36 7, oZ3 q_38 h0t_39 h0a_40 h0f_41, zB G h0t_39 7, zB G h0a_40 7, zB G h0f_41 7, (q_43, .inr (3, [.int 0, .null, .null, .null]))] := ⟨hP, hD⟩
  have hP := hPD.1
  have hD := hPD.2
  clear hPD
  refine W.widen (k := 37) (n := 292) (Nat.le_of_ble_eq_true rfl) (Nat.le_of_ble_eq_true rfl) ?_
  refine lv_dup hx hb dX9_init_119 rfl ?_
  refine g_callvM (wr := [oZ8 h0 q_1 q_2 q_3 q_4 q_5 q_6 q_10 q_11 q_13 q_15, zB G q_1 6, zB G q_2 7, zB G q_3 7, zB G q_4 4, zB G q_5 4, oZ3 q_6 h0t_7 h0a_8 h0f_9, zB G h0t_7 7, zB G h0a_8 7, zB G h0f_9 7, (q_10, .inl (G.2 2, 8, .inr (.inr (.inr (.inr (va_up (va_up (va_up (va_up (va_up (fun _ => none) 0 (some q_18)) 1 (some q_23)) 2 (some q_28)) 3 (some q_33)) 4 (some q_38))))))), (q_11, .inr (5, [.int 5, .int 5, .ref h0c_12, .int 0])), zB G h0c_12 30, (q_13, .inr (5, [.int 5, .int 6, .ref h0c_14, .int 0])), zB G h0c_14 30, (q_15, .inr (5, [.int 4, .int 6, .ref h0c_16, .int 0])), zB G h0c_16 30, oZ3 q_18 h0t_19 h0a_20 h0f_21, zB G h0t_19 7, zB G h0a_20 7, zB G h0f_21 7, oZ3 q_23 h0t_24 h0a_25 h0f_26, zB G h0t_24 7, zB G h0a_25 7, zB G h0f_26 7, oZ3 q_28 h0t_29 h0a_30 h0f_31, zB G h0t_29 7, zB G h0a_30 7, zB G h0f_31 7, oZ3 q_33 h0t_34 h0a_35 h0f_36, zB G h0t_34 7, zB G h0a_35 7, zB G h0f_36 7, oZ3 q_38 h0t_39 h0a_40 h0f_41, zB G h0t_39 7, zB G h0a_40 7, zB G h0f_41 7]) (va_runIN (As := []) (rest := [.ref q_43, .int 5, .ref q_10]) ⟨hx, hb, hml, hown, hts⟩ (c_X4_init l G (q_43) _) (⟨va_cnB 0 hts gX9_init_X4_init_n29 rfl rfl rfl (nw1 hN) (hts _ (List.mem_cons_of_mem _ (in_r2 (List.mem_of_getElem? (i := 3) rfl)))) (by decide +kernel) ⟨Nat.le_of_ble_eq_true rfl, Nat.le_of_ble_eq_true rfl⟩, rfl, (hts _ (List.mem_cons_of_mem _ (in_r3 (List.mem_of_getElem? (i := 17) rfl))))⟩) (g_preS [.ref q_43] hP hD hK hN hS hA hZ [37] rfl rfl) rfl rfl hl.1 rfl (lv_room (Nat.le_of_ble_eq_true rfl)) dX9_init_120 ⟨Nat.le_of_ble_eq_true rfl, Nat.le_of_ble_eq_true rfl⟩) hP hD hS hA [37] [false, false, false, false, false, false, false, false, false, false, false, false, false, false, false, false, false, false, false, false, false, false, false, false, false, false, false, false, false, false, false, false, false, false, false, false, false, true] rfl rfl rfl (fun u H locs hw hP hD hS => ?_)
  refine W.widen (k := 40) (n := 313) (Nat.le_of_ble_eq_true rfl) (Nat.le_of_ble_eq_true rfl) ?_
  refine ea_3_1 hw (fun h0t_44 h0a_45 h0f_46 e8_0 => ?_)
  subst e8_0
  clear hw
  have hPD : PD G A H [oZ8 h0 q_1 q_2 q_3 q_4 q_5 q_6 q_10 q_11 q_13 q_15, zB G q_1 6, zB G q_2 7, zB G q_3 7, zB G q_4 4, zB G q_5 4, oZ3 q_6 h0t_7 h0a_8 h0f_9, zB G h0t_7 7, zB G h0a_8 7, zB G h0f_9 7, (q_10, .inl (G.2 2, 8, .inr (.inr (.inr (.inr (va_up (va_up (va_up (va_up (va_up (fun _ => none) 0 (some q_18)) 1 (some q_23)) 2 (some q_28)) 3 (some q_33)) 4 (some q_38))))))), (q_11, .inr (5, [.int 5, .int 5, .ref h0c_12, .int 0])), zB G h0c_12 30, (q_13, .inr (5, [.int 5, .int 6, .ref h0c_14, .int 0])), zB G h0c_14 30, (q_15, .inr (5, [.int 4, .int 6, .ref h0c_16, .int 0])), zB G h0c_16 30, oZ3 q_18 h0t_19 h0a_20 h0f_21, zB G h0t_19 7, zB G h0a_20 7, zB G h0f_21 7, oZ3 q_23 h0t_24 h0a_25 h0f_26, zB G h0t_24 7, zB G h0a_25 7, zB G h0f_26 7, oZ3 q_28 h0t_29 h0a_30 h0f_31, zB G h0t_29 7, zB G h0a_30 7, zB G h0f_31 7, oZ3 q_33 h0t_34 h0a_35 h0f_36, zB G h0t_34 7, zB G h0a_35 7, zB G h0f_36 7, oZ3 q_38 h0t_39 h0a_40 h0f_41, zB G h0t_39 7, zB G h0a_40 7, zB G h0f_41 7, oZ3 q_43 h0t_44 h0a_45 h0f_46, zB G h0t_44 7, zB G h0a_45 7, zB G h0f_46 7] := ⟨hP, hD⟩
  have hP := hPD.1
  have hD := hPD.2
  clear hPD
  refine va_astq hx hb hK hP hD hS 10 2 37 3 rfl rfl rfl rfl (by unfold vp_in; decide) dX9_init_123 (fun H locs hP hD hS => ?_)
  have hPD : PD G A H [oZ8 h0 q_1 q_2 q_3 q_4 q_5 q_6 q_10 q_11 q_13 q_15, zB G q_1 6, zB G q_2 7, zB G q_3 7, zB G q_4 4, zB G q_5 4, oZ3 q_6 h0t_7 h0a_8 h0f_9, zB G h0t_7 7, zB G h0a_8 7, zB G h0f_9 7, (q_10, .inl (G.2 2, 8, .inr (.inr (.inr (.inr (va_up (va_up (va_up (va_up (va_up (va_up (fun _ => none) 0 (some q_18)) 1 (some q_23)) 2 (some q_28)) 3 (some q_33)) 4 (some q_38)) 5 (some q_43))))))), (q_11, .inr (5, [.int 5, .int 5, .ref h0c_12, .int 0])), zB G h0c_12 30, (q_13, .inr (5, [.int 5, .int 6, .ref h0c_14, .int 0])), zB G h0c_14 30, (q_15, .inr (5, [.int 4, .int 6, .ref h0c_16, .int 0])), zB G h0c_16 30, oZ3 q_18 h0t_19 h0a_20 h0f_21, zB G h0t_19 7, zB G h0a_20 7, zB G h0f_21 7, oZ3 q_23 h0t_24 h0a_25 h0f_26, zB G h0t_24 7, zB G h0a_25 7, zB G h0f_26 7, oZ3 q_28 h0t_29 h0a_30 h0f_31, zB G h0t_29 7, zB G h0a_30 7, zB G h0f_31 7, oZ3 q_33 h0t_34 h0a_35 h0f_36, zB G h0t_34 7, zB G h0a_35 7, zB G h0f_36 7, oZ3 q_38 h0t_39 h0a_40 h0f_41, zB G h0t_39 7, zB G h0a_40 7, zB G h0f_41 7, oZ3 q_43 h0t_44 h0a_45 h0f_46, zB G h0t_44 7, zB G h0a_45 7, zB G h0f_46 7] := ⟨hP, hD⟩
  have hP := hPD.1
  have hD := hPD.2
  clear hPD
  refine lv_iinc (v := 6) (lv' := [(1, .int 6), (0, .ref h0)]) hx hb dX9_init_124 hl (k := 0) rfl (by decide) (by decide) rfl (fun ls hl => ?_)
  refine lv_goto (tgt := 105) hx hb dX9_init_127 (by decide) ?_
  refine lv_iload_n hx hb dX9_init_105 rfl (lv_at hl 0 rfl) ?_
  refine lv_bipush (v := 8) hx hb dX9_init_106 (by decide) ?_
  refine lv_icmp_ge (tgt := 130) hx hb dX9_init_108 (by decide) (fun c_47 => g_no c_47 (by decide)) (fun _ => ?_)
  refine lv_aload_n hx hb dX9_init_111 rfl (lv_at hl 1 rfl) ?_
  refine va_get (D := G.1) (ci := 8) (v := .ref q_10) (C := RX9) (T := TX9) (N := 13) hx hb hts (fun _ h => List.mem_cons_of_mem _ (inlX9 _ h)) hown hK hP 0 rfl rfl 6 (by decide) (hts _ (List.mem_cons_of_mem _ (in_r3 (List.mem_of_getElem? (i := 10) rfl)))) (fun _ h9 => h9) rfl dX9_init_112 ?_
  refine lv_iload_n hx hb dX9_init_115 rfl (lv_at hl 0 rfl) ?_
  refine va_new (ci := 3) (fs := [.int 0, .null, .null, .null]) (C := RX4) (T := TX4) (N := 4) hx hb hts (fun _ h => List.mem_cons_of_mem _ (inlX4 _ h)) tyX4 tyX4_ok hown (hts _ (List.mem_cons_of_mem _ (in_r3 (List.mem_of_getElem? (i := 8) rfl)))) (hts _ (List.mem_cons_of_mem _ (in_r2 (List.mem_of_getElem? (i := 2) rfl)))) (hts _ (List.mem_cons_of_mem _ (in_r2 (List.mem_of_getElem? (i := 3) rfl)))) hK hP hD hS hA rfl (fun j hj => by rcases (show j = 0 ∨ j = 1 ∨ j = 2 ∨ j = 3 by omega) with rfl | rfl | rfl | rfl <;> rfl) (Nat.le_of_ble_eq_true rfl) (Nat.le_of_ble_eq_true rfl) dX9_init_116 (fun q_48 H hP hD hS => ?_)
  have hPD : PD G A H [oZ8 h0 q_1 q_2 q_3 q_4 q_5 q_6 q_10 q_11 q_13 q_15, zB G q_1 6, zB G q_2 7, zB G q_3 7, zB G q_4 4, zB G q_5 4, oZ3 q_6 h0t_7 h0a_8 h0f_9, zB G h0t_7 7, zB G h0a_8 7, zB G h0f_9 7, (q_10, .inl (G.2 2, 8, .inr (.inr (.inr (.inr (va_up (va_up (va_up (va_up (va_up (va_up (fun _ => none) 0 (some q_18)) 1 (some q_23)) 2 (some q_28)) 3 (some q_33)) 4 (some q_38)) 5 (some q_43))))))), (q_11, .inr (5, [.int 5, .int 5, .ref h0c_12, .int 0])), zB G h0c_12 30, (q_13, .inr (5, [.int 5, .int 6, .ref h0c_14, .int 0])), zB G h0c_14 30, (q_15, .inr (5, [.int 4, .int 6, .ref h0c_16, .int 0])), zB G h0c_16 30, oZ3 q_18 h0t_19 h0a_20 h0f_21, zB G h0t_19 7, zB G h0a_20 7, zB G h0f_21 7, oZ3 q_23 h0t_24 h0a_25 h0f_26, zB G h0t_24 7, zB G h0a_25 7, zB G h0f_26 7, oZ3 q_28 h0t_29 h0a_30 h0f_31, zB G h0t_29 7, zB G h0a_30 7, zB G h0f_31 7, oZ3 q_33 h0t_34 h0a_35 h0f_36, zB G h0t_34 7, zB G h0a_35 7, zB G h0f_36 7, oZ3 q_38 h0t_39 h0a_40 h0f_41, zB G h0t_39 7, zB G h0a_40 7, zB G h0f_41 7, oZ3 q_43 h0t_44 h0a_45 h0f_46, zB G h0t_44 7, zB G h0a_45 7, zB G h0f_46 7, (q_48, .inr (3, [.int 0, .null, .null, .null]))] := ⟨hP, hD⟩
  have hP := hPD.1
  have hD := hPD.2
  clear hPD
  refine W.widen (k := 41) (n := 317) (Nat.le_of_ble_eq_true rfl) (Nat.le_of_ble_eq_true rfl) ?_
  refine lv_dup hx hb dX9_init_119 rfl ?_
  refine g_callvM (wr := [oZ8 h0 q_1 q_2 q_3 q_4 q_5 q_6 q_10 q_11 q_13 q_15, zB G q_1 6, zB G q_2 7, zB G q_3 7, zB G q_4 4, zB G q_5 4, oZ3 q_6 h0t_7 h0a_8 h0f_9, zB G h0t_7 7, zB G h0a_8 7, zB G h0f_9 7, (q_10, .inl (G.2 2, 8, .inr (.inr (.inr (.inr (va_up (va_up (va_up (va_up (va_up (va_up (fun _ => none) 0 (some q_18)) 1 (some q_23)) 2 (some q_28)) 3 (some q_33)) 4 (some q_38)) 5 (some q_43))))))), (q_11, .inr (5, [.int 5, .int 5, .ref h0c_12, .int 0])), zB G h0c_12 30, (q_13, .inr (5, [.int 5, .int 6, .ref h0c_14, .int 0])), zB G h0c_14 30, (q_15, .inr (5, [.int 4, .int 6, .ref h0c_16, .int 0])), zB G h0c_16 30, oZ3 q_18 h0t_19 h0a_20 h0f_21, zB G h0t_19 7, zB G h0a_20 7, zB G h0f_21 7, oZ3 q_23 h0t_24 h0a_25 h0f_26, zB G h0t_24 7, zB G h0a_25 7, zB G h0f_26 7, oZ3 q_28 h0t_29 h0a_30 h0f_31, zB G h0t_29 7, zB G h0a_30 7, zB G h0f_31 7, oZ3 q_33 h0t_34 h0a_35 h0f_36, zB G h0t_34 7, zB G h0a_35 7, zB G h0f_36 7, oZ3 q_38 h0t_39 h0a_40 h0f_41, zB G h0t_39 7, zB G h0a_40 7, zB G h0f_41 7, oZ3 q_43 h0t_44 h0a_45 h0f_46, zB G h0t_44 7, zB G h0a_45 7, zB G h0f_46 7]) (va_runIN (As := []) (rest := [.ref q_48, .int 6, .ref q_10]) ⟨hx, hb, hml, hown, hts⟩ (c_X4_init l G (q_48) _) (⟨va_cnB 0 hts gX9_init_X4_init_n29 rfl rfl rfl (nw1 hN) (hts _ (List.mem_cons_of_mem _ (in_r2 (List.mem_of_getElem? (i := 3) rfl)))) (by decide +kernel) ⟨Nat.le_of_ble_eq_true rfl, Nat.le_of_ble_eq_true rfl⟩, rfl, (hts _ (List.mem_cons_of_mem _ (in_r3 (List.mem_of_getElem? (i := 17) rfl))))⟩) (g_preS [.ref q_48] hP hD hK hN hS hA hZ [41] rfl rfl) rfl rfl hl.1 rfl (lv_room (Nat.le_of_ble_eq_true rfl)) dX9_init_120 ⟨Nat.le_of_ble_eq_true rfl, Nat.le_of_ble_eq_true rfl⟩) hP hD hS hA [41] [false, false, false, false, false, false, false, false, false, false, false, false, false, false, false, false, false, false, false, false, false, false, false, false, false, false, false, false, false, false, false, false, false, false, false, false, false, false, false, false, false, true] rfl rfl rfl (fun u H locs hw hP hD hS => ?_)
  refine W.widen (k := 44) (n := 338) (Nat.le_of_ble_eq_true rfl) (Nat.le_of_ble_eq_true rfl) ?_
  refine ea_3_1 hw (fun h0t_49 h0a_50 h0f_51 e8_0 => ?_)
  subst e8_0
  clear hw
  have hPD : PD G A H [oZ8 h0 q_1 q_2 q_3 q_4 q_5 q_6 q_10 q_11 q_13 q_15, zB G q_1 6, zB G q_2 7, zB G q_3 7, zB G q_4 4, zB G q_5 4, oZ3 q_6 h0t_7 h0a_8 h0f_9, zB G h0t_7 7, zB G h0a_8 7, zB G h0f_9 7, (q_10, .inl (G.2 2, 8, .inr (.inr (.inr (.inr (va_up (va_up (va_up (va_up (va_up (va_up (fun _ => none) 0 (some q_18)) 1 (some q_23)) 2 (some q_28)) 3 (some q_33)) 4 (some q_38)) 5 (some q_43))))))), (q_11, .inr (5, [.int 5, .int 5, .ref h0c_12, .int 0])), zB G h0c_12 30, (q_13, .inr (5, [.int 5, .int 6, .ref h0c_14, .int 0])), zB G h0c_14 30, (q_15, .inr (5, [.int 4, .int 6, .ref h0c_16, .int 0])), zB G h0c_16 30, oZ3 q_18 h0t_19 h0a_20 h0f_21, zB G h0t_19 7, zB G h0a_20 7, zB G h0f_21 7, oZ3 q_23 h0t_24 h0a_25 h0f_26, zB G h0t_24 7, zB G h0a_25 7, zB G h0f_26 7, oZ3 q_28 h0t_29 h0a_30 h0f_31, zB G h0t_29 7, zB G h0a_30 7, zB G h0f_31 7, oZ3 q_33 h0t_34 h0a_35 h0f_36, zB G h0t_34 7, zB G h0a_35 7, zB G h0f_36 7, oZ3 q_38 h0t_39 h0a_40 h0f_41, zB G h0t_39 7, zB G h0a_40 7, zB G h0f_41 7, oZ3 q_43 h0t_44 h0a_45 h0f_46, zB G h0t_44 7, zB G h0a_45 7, zB G h0f_46 7, oZ3 q_48 h0t_49 h0a_50 h0f_51, zB G h0t_49 7, zB G h0a_50 7, zB G h0f_51 7] := ⟨hP, hD⟩
  have hP := hPD.1
  have hD := hPD.2
  clear hPD
  refine va_astq hx hb hK hP hD hS 10 2 41 3 rfl rfl rfl rfl (by unfold vp_in; decide) dX9_init_123 (fun H locs hP hD hS => ?_)
  have hPD : PD G A H [oZ8 h0 q_1 q_2 q_3 q_4 q_5 q_6 q_10 q_11 q_13 q_15, zB G q_1 6, zB G q_2 7, zB G q_3 7, zB G q_4 4, zB G q_5 4, oZ3 q_6 h0t_7 h0a_8 h0f_9, zB G h0t_7 7, zB G h0a_8 7, zB G h0f_9 7, (q_10, .inl (G.2 2, 8, .inr (.inr (.inr (.inr (va_up (va_up (va_up (va_up (va_up (va_up (va_up (fun _ => none) 0 (some q_18)) 1 (some q_23)) 2 (some q_28)) 3 (some q_33)) 4 (some q_38)) 5 (some q_43)) 6 (some q_48))))))), (q_11, .inr (5, [.int 5, .int 5, .ref h0c_12, .int 0])), zB G h0c_12 30, (q_13, .inr (5, [.int 5, .int 6, .ref h0c_14, .int 0])), zB G h0c_14 30, (q_15, .inr (5, [.int 4, .int 6, .ref h0c_16, .int 0])), zB G h0c_16 30, oZ3 q_18 h0t_19 h0a_20 h0f_21, zB G h0t_19 7, zB G h0a_20 7, zB G h0f_21 7, oZ3 q_23 h0t_24 h0a_25 h0f_26, zB G h0t_24 7, zB G h0a_25 7, zB G h0f_26 7, oZ3 q_28 h0t_29 h0a_30 h0f_31, zB G h0t_29 7, zB G h0a_30 7, zB G h0f_31 7, oZ3 q_33 h0t_34 h0a_35 h0f_36, zB G h0t_34 7, zB G h0a_35 7, zB G h0f_36 7, oZ3 q_38 h0t_39 h0a_40 h0f_41, zB G h0t_39 7, zB G h0a_40 7, zB G h0f_41 7, oZ3 q_43 h0t_44 h0a_45 h0f_46, zB G h0t_44 7, zB G h0a_45 7, zB G h0f_46 7, oZ3 q_48 h0t_49 h0a_50 h0f_51, zB G h0t_49 7, zB G h0a_50 7, zB G h0f_51 7] := ⟨hP, hD⟩
  have hP := hPD.1
  have hD := hPD.2
  clear hPD
  refine lv_iinc (v := 7) (lv' := [(1, .int 7), (0, .ref h0)]) hx hb dX9_init_124 hl (k := 0) rfl (by decide) (by decide) rfl (fun ls hl => ?_)
  refine lv_goto (tgt := 105) hx hb dX9_init_127 (by decide) ?_
  refine lv_iload_n hx hb dX9_init_105 rfl (lv_at hl 0 rfl) ?_
  refine lv_bipush (v := 8) hx hb dX9_init_106 (by decide) ?_
  refine lv_icmp_ge (tgt := 130) hx hb dX9_init_108 (by decide) (fun c_52 => g_no c_52 (by decide)) (fun _ => ?_)
  refine lv_aload_n hx hb dX9_init_111 rfl (lv_at hl 1 rfl) ?_
  refine va_get (D := G.1) (ci := 8) (v := .ref q_10) (C := RX9) (T := TX9) (N := 13) hx hb hts (fun _ h => List.mem_cons_of_mem _ (inlX9 _ h)) hown hK hP 0 rfl rfl 6 (by decide) (hts _ (List.mem_cons_of_mem _ (in_r3 (List.mem_of_getElem? (i := 10) rfl)))) (fun _ h9 => h9) rfl dX9_init_112 ?_
  refine lv_iload_n hx hb dX9_init_115 rfl (lv_at hl 0 rfl) ?_
  refine va_new (ci := 3) (fs := [.int 0, .null, .null, .null]) (C := RX4) (T := TX4) (N := 4) hx hb hts (fun _ h => List.mem_cons_of_mem _ (inlX4 _ h)) tyX4 tyX4_ok hown (hts _ (List.mem_cons_of_mem _ (in_r3 (List.mem_of_getElem? (i := 8) rfl)))) (hts _ (List.mem_cons_of_mem _ (in_r2 (List.mem_of_getElem? (i := 2) rfl)))) (hts _ (List.mem_cons_of_mem _ (in_r2 (List.mem_of_getElem? (i := 3) rfl)))) hK hP hD hS hA rfl (fun j hj => by rcases (show j = 0 ∨ j = 1 ∨ j = 2 ∨ j = 3 by omega) with rfl | rfl | rfl | rfl <;> rfl) (Nat.le_of_ble_eq_true rfl) (Nat.le_of_ble_eq_true rfl) dX9_init_116 (fun q_53 H hP hD hS => ?_)
  have hPD : PD G A H [oZ8 h0 q_1 q_2 q_3 q_4 q_5 q_6 q_10 q_11 q_13 q_15, zB G q_1 6, zB G q_2 7, zB G q_3 7, zB G q_4 4, zB G q_5 4, oZ3 q_6 h0t_7 h0a_8 h0f_9, zB G h0t_7 7, zB G h0a_8 7, zB G h0f_9 7, (q_10, .inl (G.2 2, 8, .inr (.inr (.inr (.inr (va_up (va_up (va_up (va_up (va_up (va_up (va_up (fun _ => none) 0 (some q_18)) 1 (some q_23)) 2 (some q_28)) 3 (some q_33)) 4 (some q_38)) 5 (some q_43)) 6 (some q_48))))))), (q_11, .inr (5, [.int 5, .int 5, .ref h0c_12, .int 0])), zB G h0c_12 30, (q_13, .inr (5, [.int 5, .int 6, .ref h0c_14, .int 0])), zB G h0c_14 30, (q_15, .inr (5, [.int 4, .int 6, .ref h0c_16, .int 0])), zB G h0c_16 30, oZ3 q_18 h0t_19 h0a_20 h0f_21, zB G h0t_19 7, zB G h0a_20 7, zB G h0f_21 7, oZ3 q_23 h0t_24 h0a_25 h0f_26, zB G h0t_24 7, zB G h0a_25 7, zB G h0f_26 7, oZ3 q_28 h0t_29 h0a_30 h0f_31, zB G h0t_29 7, zB G h0a_30 7, zB G h0f_31 7, oZ3 q_33 h0t_34 h0a_35 h0f_36, zB G h0t_34 7, zB G h0a_35 7, zB G h0f_36 7, oZ3 q_38 h0t_39 h0a_40 h0f_41, zB G h0t_39 7, zB G h0a_40 7, zB G h0f_41 7, oZ3 q_43 h0t_44 h0a_45 h0f_46, zB G h0t_44 7, zB G h0a_45 7, zB G h0f_46 7, oZ3 q_48 h0t_49 h0a_50 h0f_51, zB G h0t_49 7, zB G h0a_50 7, zB G h0f_51 7, (q_53, .inr (3, [.int 0, .null, .null, .null]))] := ⟨hP, hD⟩
  have hP := hPD.1
  have hD := hPD.2
  clear hPD
  refine W.widen (k := 45) (n := 342) (Nat.le_of_ble_eq_true rfl) (Nat.le_of_ble_eq_true rfl) ?_
  refine lv_dup hx hb dX9_init_119 rfl ?_
  refine g_callvM (wr := [oZ8 h0 q_1 q_2 q_3 q_4 q_5 q_6 q_10 q_11 q_13 q_15, zB G q_1 6, zB G q_2 7, zB G q_3 7, zB G q_4 4, zB G q_5 4, oZ3 q_6 h0t_7 h0a_8 h0f_9, zB G h0t_7 7, zB G h0a_8 7, zB G h0f_9 7, (q_10, .inl (G.2 2, 8, .inr (.inr (.inr (.inr (va_up (va_up (va_up (va_up (va_up (va_up (va_up (fun _ => none) 0 (some q_18)) 1 (some q_23)) 2 (some q_28)) 3 (some q_33)) 4 (some q_38)) 5 (some q_43)) 6 (some q_48))))))), (q_11, .inr (5, [.int 5, .int 5, .ref h0c_12, .int 0])), zB G h0c_12 30, (q_13, .inr (5, [.int 5, .int 6, .ref h0c_14, .int 0])), zB G h0c_14 30, (q_15, .inr (5, [.int 4, .int 6, .ref h0c_16, .int 0])), zB G h0c_16 30, oZ3 q_18 h0t_19 h0a_20 h0f_21, zB G h0t_19 7, zB G h0a_20 7, zB G h0f_21 7, oZ3 q_23 h0t_24 h0a_25 h0f_26, zB G h0t_24 7, zB G h0a_25 7, zB G h0f_26 7, oZ3 q_28 h0t_29 h0a_30 h0f_31, zB G h0t_29 7, zB G h0a_30 7, zB G h0f_31 7, oZ3 q_33 h0t_34 h0a_35 h0f_36, zB G h0t_34 7, zB G h0a_35 7, zB G h0f_36 7, oZ3 q_38 h0t_39 h0a_40 h0f_41, zB G h0t_39 7, zB G h0a_40 7, zB G h0f_41 7, oZ3 q_43 h0t_44 h0a_45 h0f_46, zB G h0t_44 7, zB G h0a_45 7, zB G h0f_46 7, oZ3 q_48 h0t_49 h0a_50 h0f_51, zB G h0t_49 7, zB G h0a_50 7, zB G h0f_51 7]) (va_runIN (As := []) (rest := [.ref q_53, .int 7, .ref q_10]) ⟨hx, hb, hml, hown, hts⟩ (c_X4_init l G (q_53) _) (⟨va_cnB 0 hts gX9_init_X4_init_n29 rfl rfl rfl (nw1 hN) (hts _ (List.mem_cons_of_mem _ (in_r2 (List.mem_of_getElem? (i := 3) rfl)))) (by decide +kernel) ⟨Nat.le_of_ble_eq_true rfl, Nat.le_of_ble_eq_true rfl⟩, rfl, (hts _ (List.mem_cons_of_mem _ (in_r3 (List.mem_of_getElem? (i := 17) rfl))))⟩) (g_preS [.ref q_53] hP hD hK hN hS hA hZ [45] rfl rfl) rfl rfl hl.1 rfl (lv_room (Nat.le_of_ble_eq_true rfl)) dX9_init_120 ⟨Nat.le_of_ble_eq_true rfl, Nat.le_of_ble_eq_true rfl⟩) hP hD hS hA [45] [false, false, false, false, false, false, false, false, false, false, false, false, false, false, false, false, false, false, false, false, false, false, false, false, false, false, false, false, false, false, false, false, false, false, false, false, false, false, false, false, false, false, false, false, false, true] rfl rfl rfl (fun u H locs hw hP hD hS => ?_)
  refine W.widen (k := 48) (n := 363) (Nat.le_of_ble_eq_true rfl) (Nat.le_of_ble_eq_true rfl) ?_
  refine ea_3_1 hw (fun h0t_54 h0a_55 h0f_56 e8_0 => ?_)
  subst e8_0
  clear hw
  have hPD : PD G A H [oZ8 h0 q_1 q_2 q_3 q_4 q_5 q_6 q_10 q_11 q_13 q_15, zB G q_1 6, zB G q_2 7, zB G q_3 7, zB G q_4 4, zB G q_5 4, oZ3 q_6 h0t_7 h0a_8 h0f_9, zB G h0t_7 7, zB G h0a_8 7, zB G h0f_9 7, (q_10, .inl (G.2 2, 8, .inr (.inr (.inr (.inr (va_up (va_up (va_up (va_up (va_up (va_up (va_up (fun _ => none) 0 (some q_18)) 1 (some q_23)) 2 (some q_28)) 3 (some q_33)) 4 (some q_38)) 5 (some q_43)) 6 (some q_48))))))), (q_11, .inr (5, [.int 5, .int 5, .ref h0c_12, .int 0])), zB G h0c_12 30, (q_13, .inr (5, [.int 5, .int 6, .ref h0c_14, .int 0])), zB G h0c_14 30, (q_15, .inr (5, [.int 4, .int 6, .ref h0c_16, .int 0])), zB G h0c_16 30, oZ3 q_18 h0t_19 h0a_20 h0f_21, zB G h0t_19 7, zB G h0a_20 7, zB G h0f_21 7, oZ3 q_23 h0t_24 h0a_25 h0f_26, zB G h0t_24 7, zB G h0a_25 7, zB G h0f_26 7, oZ3 q_28 h0t_29 h0a_30 h0f_31, zB G h0t_29 7, zB G h0a_30 7, zB G h0f_31 7, oZ3 q_33 h0t_34 h0a_35 h0f_36, zB G h0t_34 7, zB G h0a_35 7, zB G h0f_36 7, oZ3 q_38 h0t_39 h0a_40 h0f_41, zB G h0t_39 7, zB G h0a_40 7, zB G h0f_41 7, oZ3 q_43 h0t_44 h0a_45 h0f_46, zB G h0t_44 7, zB G h0a_45 7, zB G h0f_46 7, oZ3 q_48 h0t_49 h0a_50 h0f_51, zB G h0t_49 7, zB G h0a_50 7, zB G h0f_51 7, oZ3 q_53 h0t_54 h0a_55 h0f_56, zB G h0t_54 7, zB G h0a_55 7, zB G h0f_56 7] := ⟨hP, hD⟩
  have hP := hPD.1
  have hD := hPD.2
  clear hPD
  refine va_astq hx hb hK hP hD hS 10 2 45 3 rfl rfl rfl rfl (by unfold vp_in; decide) dX9_init_123 (fun H locs hP hD hS => ?_)
  have hPD : PD G A H [oZ8 h0 q_1 q_2 q_3 q_4 q_5 q_6 q_10 q_11 q_13 q_15, zB G q_1 6, zB G q_2 7, zB G q_3 7, zB G q_4 4, zB G q_5 4, oZ3 q_6 h0t_7 h0a_8 h0f_9, zB G h0t_7 7, zB G h0a_8 7, zB G h0f_9 7, (q_10, .inl (G.2 2, 8, .inr (.inr (.inr (.inr (va_up (va_up (va_up (va_up (va_up (va_up (va_up (va_up (fun _ => none) 0 (some q_18)) 1 (some q_23)) 2 (some q_28)) 3 (some q_33)) 4 (some q_38)) 5 (some q_43)) 6 (some q_48)) 7 (some q_53))))))), (q_11, .inr (5, [.int 5, .int 5, .ref h0c_12, .int 0])), zB G h0c_12 30, (q_13, .inr (5, [.int 5, .int 6, .ref h0c_14, .int 0])), zB G h0c_14 30, (q_15, .inr (5, [.int 4, .int 6, .ref h0c_16, .int 0])), zB G h0c_16 30, oZ3 q_18 h0t_19 h0a_20 h0f_21, zB G h0t_19 7, zB G h0a_20 7, zB G h0f_21 7, oZ3 q_23 h0t_24 h0a_25 h0f_26, zB G h0t_24 7, zB G h0a_25 7, zB G h0f_26 7, oZ3 q_28 h0t_29 h0a_30 h0f_31, zB G h0t_29 7, zB G h0a_30 7, zB G h0f_31 7, oZ3 q_33 h0t_34 h0a_35 h0f_36, zB G h0t_34 7, zB G h0a_35 7, zB G h0f_36 7, oZ3 q_38 h0t_39 h0a_40 h0f_41, zB G h0t_39 7, zB G h0a_40 7, zB G h0f_41 7, oZ3 q_43 h0t_44 h0a_45 h0f_46, zB G h0t_44 7, zB G h0a_45 7, zB G h0f_46 7, oZ3 q_48 h0t_49 h0a_50 h0f_51, zB G h0t_49 7, zB G h0a_50 7, zB G h0f_51 7, oZ3 q_53 h0t_54 h0a_55 h0f_56, zB G h0t_54 7, zB G h0a_55 7, zB G h0f_56 7] := ⟨hP, hD⟩
  have hP := hPD.1
  have hD := hPD.2
  clear hPD
  have hP := hP.eqr (q := 10) (g := (cR (s8 q_18 q_23 q_28 q_33 q_38 q_43 q_48 q_53))) rfl (fun j hj => by rcases (show j = 0 ∨ j = 1 ∨ j = 2 ∨ j = 3 ∨ j = 4 ∨ j = 5 ∨ j = 6 ∨ j = 7 by omega) with rfl | rfl | rfl | rfl | rfl | rfl | rfl | rfl <;> rfl)
  have hD := va_D.setc hD 10 rfl (.inl (G.2 2, 8, .inr (.inr (.inr (.inr (cR (s8 q_18 q_23 q_28 q_33 q_38 q_43 q_48 q_53)))))))
  have hPD : PD G A H [oZ8 h0 q_1 q_2 q_3 q_4 q_5 q_6 q_10 q_11 q_13 q_15, zB G q_1 6, zB G q_2 7, zB G q_3 7, zB G q_4 4, zB G q_5 4, oZ3 q_6 h0t_7 h0a_8 h0f_9, zB G h0t_7 7, zB G h0a_8 7, zB G h0f_9 7, (q_10, .inl (G.2 2, 8, .inr (.inr (.inr (.inr (cR (s8 q_18 q_23 q_28 q_33 q_38 q_43 q_48 q_53))))))), (q_11, .inr (5, [.int 5, .int 5, .ref h0c_12, .int 0])), zB G h0c_12 30, (q_13, .inr (5, [.int 5, .int 6, .ref h0c_14, .int 0])), zB G h0c_14 30, (q_15, .inr (5, [.int 4, .int 6, .ref h0c_16, .int 0])), zB G h0c_16 30, oZ3 q_18 h0t_19 h0a_20 h0f_21, zB G h0t_19 7, zB G h0a_20 7, zB G h0f_21 7, oZ3 q_23 h0t_24 h0a_25 h0f_26, zB G h0t_24 7, zB G h0a_25 7, zB G h0f_26 7, oZ3 q_28 h0t_29 h0a_30 h0f_31, zB G h0t_29 7, zB G h0a_30 7, zB G h0f_31 7, oZ3 q_33 h0t_34 h0a_35 h0f_36, zB G h0t_34 7, zB G h0a_35 7, zB G h0f_36 7, oZ3 q_38 h0t_39 h0a_40 h0f_41, zB G h0t_39 7, zB G h0a_40 7, zB G h0f_41 7, oZ3 q_43 h0t_44 h0a_45 h0f_46, zB G h0t_44 7, zB G h0a_45 7, zB G h0f_46 7, oZ3 q_48 h0t_49 h0a_50 h0f_51, zB G h0t_49 7, zB G h0a_50 7, zB G h0f_51 7, oZ3 q_53 h0t_54 h0a_55 h0f_56, zB G h0t_54 7, zB G h0a_55 7, zB G h0f_56 7] := ⟨hP, hD⟩
  have hP := hPD.1
  have hD := hPD.2
  clear hPD
  refine lv_iinc (v := 8) (lv' := [(1, .int 8), (0, .ref h0)]) hx hb dX9_init_124 hl (k := 0) rfl (by decide) (by decide) rfl (fun ls hl => ?_)
  refine lv_goto (tgt := 105) hx hb dX9_init_127 (by decide) ?_
  refine lv_iload_n hx hb dX9_init_105 rfl (lv_at hl 0 rfl) ?_
  refine lv_bipush (v := 8) hx hb dX9_init_106 (by decide) ?_
  refine lv_icmp_ge (tgt := 130) hx hb dX9_init_108 (by decide) (fun _ => ?_) (fun c_57 => g_no (by decide) c_57)
  have hP := hP.sub (ws' := [oZ8 h0 q_1 q_2 q_3 q_4 q_5 q_6 q_10 q_11 q_13 q_15, zB G q_1 6, zB G q_2 7, zB G q_3 7, zB G q_4 4, zB G q_5 4, oZ3 q_6 h0t_7 h0a_8 h0f_9, zB G h0t_7 7, zB G h0a_8 7, zB G h0f_9 7, (q_10, .inl (G.2 2, 8, .inr (.inr (.inr (.inr (cR (s8 q_18 q_23 q_28 q_33 q_38 q_43 q_48 q_53))))))), oZ3 q_18 h0t_19 h0a_20 h0f_21, zB G h0t_19 7, zB G h0a_20 7, zB G h0f_21 7, oZ3 q_23 h0t_24 h0a_25 h0f_26, zB G h0t_24 7, zB G h0a_25 7, zB G h0f_26 7, oZ3 q_28 h0t_29 h0a_30 h0f_31, zB G h0t_29 7, zB G h0a_30 7, zB G h0f_31 7, oZ3 q_33 h0t_34 h0a_35 h0f_36, zB G h0t_34 7, zB G h0a_35 7, zB G h0f_36 7, oZ3 q_38 h0t_39 h0a_40 h0f_41, zB G h0t_39 7, zB G h0a_40 7, zB G h0f_41 7, oZ3 q_43 h0t_44 h0a_45 h0f_46, zB G h0t_44 7, zB G h0a_45 7, zB G h0f_46 7, oZ3 q_48 h0t_49 h0a_50 h0f_51, zB G h0t_49 7, zB G h0a_50 7, zB G h0f_51 7, oZ3 q_53 h0t_54 h0a_55 h0f_56, zB G h0t_54 7, zB G h0a_55 7, zB G h0f_56 7, (q_11, .inr (5, [.int 5, .int 5, .ref h0c_12, .int 0])), zB G h0c_12 30, (q_13, .inr (5, [.int 5, .int 6, .ref h0c_14, .int 0])), zB G h0c_14 30, (q_15, .inr (5, [.int 4, .int 6, .ref h0c_16, .int 0])), zB G h0c_16 30]) [0, 1, 2, 3, 4, 5, 6, 7, 8, 9, 10, 17, 18, 19, 20, 21, 22, 23, 24, 25, 26, 27, 28, 29, 30, 31, 32, 33, 34, 35, 36, 37, 38, 39, 40, 41, 42, 43, 44, 45, 46, 47, 48, 11, 12, 13, 14, 15, 16] rfl
  have hD := hD.sub (ws' := [oZ8 h0 q_1 q_2 q_3 q_4 q_5 q_6 q_10 q_11 q_13 q_15, zB G q_1 6, zB G q_2 7, zB G q_3 7, zB G q_4 4, zB G q_5 4, oZ3 q_6 h0t_7 h0a_8 h0f_9, zB G h0t_7 7, zB G h0a_8 7, zB G h0f_9 7, (q_10, .inl (G.2 2, 8, .inr (.inr (.inr (.inr (cR (s8 q_18 q_23 q_28 q_33 q_38 q_43 q_48 q_53))))))), oZ3 q_18 h0t_19 h0a_20 h0f_21, zB G h0t_19 7, zB G h0a_20 7, zB G h0f_21 7, oZ3 q_23 h0t_24 h0a_25 h0f_26, zB G h0t_24 7, zB G h0a_25 7, zB G h0f_26 7, oZ3 q_28 h0t_29 h0a_30 h0f_31, zB G h0t_29 7, zB G h0a_30 7, zB G h0f_31 7, oZ3 q_33 h0t_34 h0a_35 h0f_36, zB G h0t_34 7, zB G h0a_35 7, zB G h0f_36 7, oZ3 q_38 h0t_39 h0a_40 h0f_41, zB G h0t_39 7, zB G h0a_40 7, zB G h0f_41 7, oZ3 q_43 h0t_44 h0a_45 h0f_46, zB G h0t_44 7, zB G h0a_45 7, zB G h0f_46 7, oZ3 q_48 h0t_49 h0a_50 h0f_51, zB G h0t_49 7, zB G h0a_50 7, zB G h0f_51 7, oZ3 q_53 h0t_54 h0a_55 h0f_56, zB G h0t_54 7, zB G h0a_55 7, zB G h0f_56 7, (q_11, .inr (5, [.int 5, .int 5, .ref h0c_12, .int 0])), zB G h0c_12 30, (q_13, .inr (5, [.int 5, .int 6, .ref h0c_14, .int 0])), zB G h0c_14 30, (q_15, .inr (5, [.int 4, .int 6, .ref h0c_16, .int 0])), zB G h0c_16 30]) [0, 1, 2, 3, 4, 5, 6, 7, 8, 9, 10, 17, 18, 19, 20, 21, 22, 23, 24, 25, 26, 27, 28, 29, 30, 31, 32, 33, 34, 35, 36, 37, 38, 39, 40, 41, 42, 43, 44, 45, 46, 47, 48, 11, 12, 13, 14, 15, 16] rfl rfl
  exact g_vret hx hb hr hlocks hP hD hS (⟨q_1, q_2, q_3, q_4, q_5, q_6, h0t_7, h0a_8, h0f_9, q_10, q_18, h0t_19, h0a_20, h0f_21, q_23, h0t_24, h0a_25, h0f_26, q_28, h0t_29, h0a_30, h0f_31, q_33, h0t_34, h0a_35, h0f_36, q_38, h0t_39, h0a_40, h0f_41, q_43, h0t_44, h0a_45, h0f_46, q_48, h0t_49, h0a_50, h0f_51, q_53, h0t_54, h0a_55, h0f_56, q_11, h0c_12, q_13, h0c_14, q_15, h0c_16, rfl⟩) dX9_init_130
theorem dX8_init_0 : decode cX8_init 0 = .ok (.aload_n 0, 1) := kd_42 (by decide +kernel)
theorem dX8_init_1 : decode cX8_init 1 = .ok (.invokespecial 3, 3) := kd_183 (a := 0) (b := 3) (by decide +kernel)
theorem dX8_init_4 : decode cX8_init 4 = .ok (.aload_n 0, 1) := kd_42 (by decide +kernel)
theorem dX8_init_5 : decode cX8_init 5 = .ok (.sipush 150, 3) := kd_17 (a := 0) (b := 150) (by decide +kernel)
theorem dX8_init_8 : decode cX8_init 8 = .ok (.newarray .int, 2) := by decide +kernel
theorem dX8_init_10 : decode cX8_init 10 = .ok (.putfield 9, 3) := kd_181 (a := 0) (b := 9) (by decide +kernel)
theorem dX8_init_13 : decode cX8_init 13 = .ok (.aload_n 0, 1) := kd_42 (by decide +kernel)
theorem dX8_init_14 : decode cX8_init 14 = .ok (.sipush 151, 3) := kd_17 (a := 0) (b := 151) (by decide +kernel)
theorem dX8_init_17 : decode cX8_init 17 = .ok (.newarray .int, 2) := by decide +kernel
theorem dX8_init_19 : decode cX8_init 19 = .ok (.putfield 15, 3) := kd_181 (a := 0) (b := 15) (by decide +kernel)
theorem dX8_init_22 : decode cX8_init 22 = .ok (.aload_n 0, 1) := kd_42 (by decide +kernel)
theorem dX8_init_23 : decode cX8_init 23 = .ok (.sipush 151, 3) := kd_17 (a := 0) (b := 151) (by decide +kernel)
theorem dX8_init_26 : decode cX8_init 26 = .ok (.newarray .int, 2) := by decide +kernel
theorem dX8_init_28 : decode cX8_init 28 = .ok (.putfield 18, 3) := kd_181 (a := 0) (b := 18) (by decide +kernel)
theorem dX8_init_31 : decode cX8_init 31 = .ok (.aload_n 0, 1) := kd_42 (by decide +kernel)
theorem dX8_init_32 : decode cX8_init 32 = .ok (.sipush 151, 3) := kd_17 (a := 0) (b := 151) (by decide +kernel)
theorem dX8_init_35 : decode cX8_init 35 = .ok (.newarray .int, 2) := by decide +kernel
theorem dX8_init_37 : decode cX8_init 37 = .ok (.putfield 21, 3) := kd_181 (a := 0) (b := 21) (by decide +kernel)
theorem dX8_init_40 : decode cX8_init 40 = .ok (.return_, 1) := kd_177 (by decide +kernel)
set_option maxHeartbeats 8000000 in
set_option maxRecDepth 100000 in
theorem c_X8_init (l : Launch) (G : gG) (h0 : Nat) (sz : Nat) : gV G l yX8_init wsX8_init ({ frames := 1, cells := 4, slots := 603, locals := 12 } : Room) [.ref h0] [(h0, .inr (7, [.null, .null, .null, .null, .int 0, .int 0]))] sz (fun (u : va_W) => (∃ h0b : Nat, ∃ h0s : Nat, ∃ h0g : Nat, ∃ h0v : Nat, u = [oZ7 h0 h0b h0s h0g h0v, zB G h0b 150, zB G h0s 151, zB G h0g 151, zB G h0v 151])) := by
  refine Met.ofW (cc := cX8_init) (maxL := 1) (ret := none) (by decide) rfl ?_
  intro p e s m args below meth c s₁ B hml hv
  obtain ⟨rfl, hsz, hP, hK, hD0, hN, hZ⟩ := hv
  have hx := B.exec
  have hb := B.bytes
  have hr := B.returns
  have hts := atoms_spec (ws := wsX8_init) B.pre
  have hown : s.vm.findClass RX8 = some m.cls := findClass_of_methodNamed B.named
  have hlocks := B.notSynchronized
  have hin : meth.name = "<init>" := (name_of_methodNamed B.named B.method).1
  subst hsz
  have hD := hD0.self (sz := s.heap.size)
  generalize hAe : va_A [(h0, .inr (7, [.null, .null, .null, .null, .int 0, .int 0]))] s.heap.size = A at hD hZ ⊢
  have hA : ∀ q : Nat, s.heap.size ≤ q → A q := fun q h => by rw [← hAe]; exact Or.inr h
  have hS : va_S A s.heap s.heap [] := va_S.rf
  have hP : va_P G.1 vwCl [(h0, .inr (7, [.null, .null, .null, .null, .int 0, .int 0]))] s.heap := hP
  have hl := lv_entry ([.ref h0]) (n := 1) (Nat.le_of_ble_eq_true rfl)
  rw [lg_entry_eq]
  generalize (lg_sl ([.ref h0]) ++ List.replicate (1 - (lg_sl ([.ref h0])).length) Slot.unset).toArray = ls at hl ⊢
  have hl : lv_has ls 1 [(0, .ref h0)] := hl
  refine lv_aload_n hx hb dX8_init_0 rfl (lv_at hl 0 rfl) ?_
  refine W.objInit hx hb hown (hts _ (List.mem_cons_of_mem _ (in_r4 (List.mem_of_getElem? (i := 19) rfl)))) (hts _ (List.mem_cons_of_mem _ (in_r1 (List.mem_of_getElem? (i := 10) rfl)))) (hts _ (List.mem_cons_of_mem _ (in_r1 (List.mem_of_getElem? (i := 11) rfl)))) rfl (by rw [hml]; exact hl.1) rfl dX8_init_1 (Nat.le_of_ble_eq_true rfl) (Nat.le_of_ble_eq_true rfl) ?_
  refine W.eq (g2 := F0 m 4 ls []) rfl ?_
  refine lv_aload_n hx hb dX8_init_4 rfl (lv_at hl 0 rfl) ?_
  refine lv_sipush (v := 150) hx hb dX8_init_5 (by decide) ?_
  refine g_newi (N' := 150) hx hb (hts _ (List.mem_cons_of_mem _ (in_r3 (List.mem_of_getElem? (i := 2) rfl)))) hK hP hD hS hA (by decide) (by decide) (Nat.le_of_ble_eq_true rfl) (Nat.le_of_ble_eq_true rfl) (Nat.le_of_ble_eq_true rfl) dX8_init_8 (fun q_1 H hP hD hS => ?_)
  have hPD : PD G A H [(h0, .inr (7, [.null, .null, .null, .null, .int 0, .int 0])), zB G q_1 150] := ⟨hP, hD⟩
  have hP := hPD.1
  have hD := hPD.2
  clear hPD
  refine W.widen (k := 1) (n := 150) (Nat.le_of_ble_eq_true rfl) (Nat.le_of_ble_eq_true rfl) ?_
  refine va_putF (D := G.1) (ci := 7) (v := .ref q_1) (ty := (.array .int)) (C := RX8) (T := TX8) (N := 6) hx hb hts (fun _ h => List.mem_cons_of_mem _ (inlX8 _ h)) tyX8 tyX8_ok nmX8 hown hK hP hD hS 0 rfl rfl 0 (by decide) (hts _ (List.mem_cons_of_mem _ (in_r4 (List.mem_of_getElem? (i := 20) rfl)))) (fun _ h9 => h9) rfl hin rfl (by decide +kernel) rfl rfl (Nat.le_of_ble_eq_true rfl) dX8_init_10 (fun H locs hP hD hS => ?_)
  have hPD : PD G A H [(h0, .inr (7, [.ref q_1, .null, .null, .null, .int 0, .int 0])), zB G q_1 150] := ⟨hP, hD⟩
  have hP := hPD.1
  have hD := hPD.2
  clear hPD
  refine lv_aload_n hx hb dX8_init_13 rfl (lv_at hl 0 rfl) ?_
  refine lv_sipush (v := 151) hx hb dX8_init_14 (by decide) ?_
  refine g_newi (N' := 151) hx hb (hts _ (List.mem_cons_of_mem _ (in_r3 (List.mem_of_getElem? (i := 2) rfl)))) hK hP hD hS hA (by decide) (by decide) (Nat.le_of_ble_eq_true rfl) (Nat.le_of_ble_eq_true rfl) (Nat.le_of_ble_eq_true rfl) dX8_init_17 (fun q_2 H hP hD hS => ?_)
  have hPD : PD G A H [(h0, .inr (7, [.ref q_1, .null, .null, .null, .int 0, .int 0])), zB G q_1 150, zB G q_2 151] := ⟨hP, hD⟩
  have hP := hPD.1
  have hD := hPD.2
  clear hPD
  refine W.widen (k := 2) (n := 301) (Nat.le_of_ble_eq_true rfl) (Nat.le_of_ble_eq_true rfl) ?_
  refine va_putF (D := G.1) (ci := 7) (v := .ref q_2) (ty := (.array .int)) (C := RX8) (T := TX8) (N := 6) hx hb hts (fun _ h => List.mem_cons_of_mem _ (inlX8 _ h)) tyX8 tyX8_ok nmX8 hown hK hP hD hS 0 rfl rfl 1 (by decide) (hts _ (List.mem_cons_of_mem _ (in_r4 (List.mem_of_getElem? (i := 21) rfl)))) (fun _ h9 => h9) rfl hin rfl (by decide +kernel) rfl rfl (Nat.le_of_ble_eq_true rfl) dX8_init_19 (fun H locs hP hD hS => ?_)
  have hPD : PD G A H [(h0, .inr (7, [.ref q_1, .ref q_2, .null, .null, .int 0, .int 0])), zB G q_1 150, zB G q_2 151] := ⟨hP, hD⟩
  have hP := hPD.1
  have hD := hPD.2
  clear hPD
  refine lv_aload_n hx hb dX8_init_22 rfl (lv_at hl 0 rfl) ?_
  refine lv_sipush (v := 151) hx hb dX8_init_23 (by decide) ?_
  refine g_newi (N' := 151) hx hb (hts _ (List.mem_cons_of_mem _ (in_r3 (List.mem_of_getElem? (i := 2) rfl)))) hK hP hD hS hA (by decide) (by decide) (Nat.le_of_ble_eq_true rfl) (Nat.le_of_ble_eq_true rfl) (Nat.le_of_ble_eq_true rfl) dX8_init_26 (fun q_3 H hP hD hS => ?_)
  have hPD : PD G A H [(h0, .inr (7, [.ref q_1, .ref q_2, .null, .null, .int 0, .int 0])), zB G q_1 150, zB G q_2 151, zB G q_3 151] := ⟨hP, hD⟩
  have hP := hPD.1
  have hD := hPD.2
  clear hPD
  refine W.widen (k := 3) (n := 452) (Nat.le_of_ble_eq_true rfl) (Nat.le_of_ble_eq_true rfl) ?_
  refine va_putF (D := G.1) (ci := 7) (v := .ref q_3) (ty := (.array .int)) (C := RX8) (T := TX8) (N := 6) hx hb hts (fun _ h => List.mem_cons_of_mem _ (inlX8 _ h)) tyX8 tyX8_ok nmX8 hown hK hP hD hS 0 rfl rfl 2 (by decide) (hts _ (List.mem_cons_of_mem _ (in_r4 (List.mem_of_getElem? (i := 22) rfl)))) (fun _ h9 => h9) rfl hin rfl (by decide +kernel) rfl rfl (Nat.le_of_ble_eq_true rfl) dX8_init_28 (fun H locs hP hD hS => ?_)
  have hPD : PD G A H [(h0, .inr (7, [.ref q_1, .ref q_2, .ref q_3, .null, .int 0, .int 0])), zB G q_1 150, zB G q_2 151, zB G q_3 151] := ⟨hP, hD⟩
  have hP := hPD.1
  have hD := hPD.2
  clear hPD
  refine lv_aload_n hx hb dX8_init_31 rfl (lv_at hl 0 rfl) ?_
  refine lv_sipush (v := 151) hx hb dX8_init_32 (by decide) ?_
  refine g_newi (N' := 151) hx hb (hts _ (List.mem_cons_of_mem _ (in_r3 (List.mem_of_getElem? (i := 2) rfl)))) hK hP hD hS hA (by decide) (by decide) (Nat.le_of_ble_eq_true rfl) (Nat.le_of_ble_eq_true rfl) (Nat.le_of_ble_eq_true rfl) dX8_init_35 (fun q_4 H hP hD hS => ?_)
  have hPD : PD G A H [(h0, .inr (7, [.ref q_1, .ref q_2, .ref q_3, .null, .int 0, .int 0])), zB G q_1 150, zB G q_2 151, zB G q_3 151, zB G q_4 151] := ⟨hP, hD⟩
  have hP := hPD.1
  have hD := hPD.2
  clear hPD
  refine W.widen (k := 4) (n := 603) (Nat.le_of_ble_eq_true rfl) (Nat.le_of_ble_eq_true rfl) ?_
  refine va_putF (D := G.1) (ci := 7) (v := .ref q_4) (ty := (.array .int)) (C := RX8) (T := TX8) (N := 6) hx hb hts (fun _ h => List.mem_cons_of_mem _ (inlX8 _ h)) tyX8 tyX8_ok nmX8 hown hK hP hD hS 0 rfl rfl 3 (by decide) (hts _ (List.mem_cons_of_mem _ (in_r4 (List.mem_of_getElem? (i := 23) rfl)))) (fun _ h9 => h9) rfl hin rfl (by decide +kernel) rfl rfl (Nat.le_of_ble_eq_true rfl) dX8_init_37 (fun H locs hP hD hS => ?_)
  have hPD : PD G A H [oZ7 h0 q_1 q_2 q_3 q_4, zB G q_1 150, zB G q_2 151, zB G q_3 151, zB G q_4 151] := ⟨hP, hD⟩
  have hP := hPD.1
  have hD := hPD.2
  clear hPD
  exact g_vret hx hb hr hlocks hP hD hS (⟨q_1, q_2, q_3, q_4, rfl⟩) dX8_init_40
theorem dX7_init_0 : decode cX7_init 0 = .ok (.aload_n 0, 1) := kd_42 (by decide +kernel)
theorem dX7_init_1 : decode cX7_init 1 = .ok (.invokespecial 3, 3) := kd_183 (a := 0) (b := 3) (by decide +kernel)
theorem dX7_init_4 : decode cX7_init 4 = .ok (.aload_n 0, 1) := kd_42 (by decide +kernel)
theorem dX7_init_5 : decode cX7_init 5 = .ok (.new 9, 3) := kd_187 (a := 0) (b := 9) (by decide +kernel)
theorem dX7_init_8 : decode cX7_init 8 = .ok (.dup, 1) := kd_89 (by decide +kernel)
theorem gX7_init_X8_init_n11 : GoodIn wsX7_init (wsX8_init) := gW_0 (in_r4 (List.mem_of_getElem? (i := 18) rfl))
theorem dX7_init_9 : decode cX7_init 9 = .ok (.invokespecial 11, 3) := kd_183 (a := 0) (b := 11) (by decide +kernel)
theorem dX7_init_12 : decode cX7_init 12 = .ok (.putfield 12, 3) := kd_181 (a := 0) (b := 12) (by decide +kernel)
theorem dX7_init_15 : decode cX7_init 15 = .ok (.aload_n 0, 1) := kd_42 (by decide +kernel)
theorem dX7_init_16 : decode cX7_init 16 = .ok (.iconst 3, 1) := kd_6 (by decide +kernel)
theorem dX7_init_17 : decode cX7_init 17 = .ok (.newarray .int, 2) := by decide +kernel
theorem dX7_init_19 : decode cX7_init 19 = .ok (.putfield 18, 3) := kd_181 (a := 0) (b := 18) (by decide +kernel)
theorem dX7_init_22 : decode cX7_init 22 = .ok (.return_, 1) := kd_177 (by decide +kernel)
set_option maxHeartbeats 8000000 in
set_option maxRecDepth 100000 in
theorem c_X7_init (l : Launch) (G : gG) (h0 : Nat) (sz : Nat) : gV G l yX7_init wsX7_init ({ frames := 2, cells := 6, slots := 612, locals := 32 } : Room) [.ref h0] [(h0, .inr (6, [.null, .null, .int 0]))] sz (fun (u : va_W) => (∃ h0x : Nat, ∃ h0xb : Nat, ∃ h0xs : Nat, ∃ h0xg : Nat, ∃ h0xv : Nat, ∃ h0i : Nat, u = [oZ6 h0 h0x h0i, oZ7 h0x h0xb h0xs h0xg h0xv, zB G h0xb 150, zB G h0xs 151, zB G h0xg 151, zB G h0xv 151, zB G h0i 3])) := by
  refine Met.ofW (cc := cX7_init) (maxL := 1) (ret := none) (by decide) rfl ?_
  intro p e s m args below meth c s₁ B hml hv
  obtain ⟨rfl, hsz, hP, hK, hD0, hN, hZ⟩ := hv
  have hx := B.exec
  have hb := B.bytes
  have hr := B.returns
  have hts := atoms_spec (ws := wsX7_init) B.pre
  have hown : s.vm.findClass RX7 = some m.cls := findClass_of_methodNamed B.named
  have hlocks := B.notSynchronized
  have hin : meth.name = "<init>" := (name_of_methodNamed B.named B.method).1
  subst hsz
  have hD := hD0.self (sz := s.heap.size)
  generalize hAe : va_A [(h0, .inr (6, [.null, .null, .int 0]))] s.heap.size = A at hD hZ ⊢
  have hA : ∀ q : Nat, s.heap.size ≤ q → A q := fun q h => by rw [← hAe]; exact Or.inr h
  have hS : va_S A s.heap s.heap [] := va_S.rf
  have hP : va_P G.1 vwCl [(h0, .inr (6, [.null, .null, .int 0]))] s.heap := hP
  have hl := lv_entry ([.ref h0]) (n := 1) (Nat.le_of_ble_eq_true rfl)
  rw [lg_entry_eq]
  generalize (lg_sl ([.ref h0]) ++ List.replicate (1 - (lg_sl ([.ref h0])).length) Slot.unset).toArray = ls at hl ⊢
  have hl : lv_has ls 1 [(0, .ref h0)] := hl
  refine lv_aload_n hx hb dX7_init_0 rfl (lv_at hl 0 rfl) ?_
  refine W.objInit hx hb hown (hts _ (List.mem_cons_of_mem _ (in_r4 (List.mem_of_getElem? (i := 11) rfl)))) (hts _ (List.mem_cons_of_mem _ (in_r1 (List.mem_of_getElem? (i := 10) rfl)))) (hts _ (List.mem_cons_of_mem _ (in_r1 (List.mem_of_getElem? (i := 11) rfl)))) rfl (by rw [hml]; exact hl.1) rfl dX7_init_1 (Nat.le_of_ble_eq_true rfl) (Nat.le_of_ble_eq_true rfl) ?_
  refine W.eq (g2 := F0 m 4 ls []) rfl ?_
  refine lv_aload_n hx hb dX7_init_4 rfl (lv_at hl 0 rfl) ?_
  refine va_new (ci := 7) (fs := [.null, .null, .null, .null, .int 0, .int 0]) (C := RX8) (T := TX8) (N := 6) hx hb hts (fun _ h => List.mem_cons_of_mem _ (inlX8 _ h)) tyX8 tyX8_ok hown (hts _ (List.mem_cons_of_mem _ (in_r4 (List.mem_of_getElem? (i := 12) rfl)))) (hts _ (List.mem_cons_of_mem _ (in_r4 (List.mem_of_getElem? (i := 13) rfl)))) (hts _ (List.mem_cons_of_mem _ (in_r4 (List.mem_of_getElem? (i := 14) rfl)))) hK hP hD hS hA rfl (fun j hj => by rcases (show j = 0 ∨ j = 1 ∨ j = 2 ∨ j = 3 ∨ j = 4 ∨ j = 5 by omega) with rfl | rfl | rfl | rfl | rfl | rfl <;> rfl) (Nat.le_of_ble_eq_true rfl) (Nat.le_of_ble_eq_true rfl) dX7_init_5 (fun q_1 H hP hD hS => ?_)
  have hPD : PD G A H [(h0, .inr (6, [.null, .null, .int 0])), (q_1, .inr (7, [.null, .null, .null, .null, .int 0, .int 0]))] := ⟨hP, hD⟩
  have hP := hPD.1
  have hD := hPD.2
  clear hPD
  refine W.widen (k := 1) (n := 6) (Nat.le_of_ble_eq_true rfl) (Nat.le_of_ble_eq_true rfl) ?_
  refine lv_dup hx hb dX7_init_8 rfl ?_
  refine g_callv (wr := [(h0, .inr (6, [.null, .null, .int 0]))]) (va_runIN (As := []) (rest := [.ref q_1, .ref h0]) ⟨hx, hb, hml, hown, hts⟩ (c_X8_init l G (q_1) _) (⟨va_cnB 0 hts gX7_init_X8_init_n11 rfl rfl rfl (nw39 hN) (hts _ (List.mem_cons_of_mem _ (in_r4 (List.mem_of_getElem? (i := 14) rfl)))) (by decide +kernel) ⟨Nat.le_of_ble_eq_true rfl, Nat.le_of_ble_eq_true rfl⟩, rfl, (hts _ (List.mem_cons_of_mem _ (in_r4 (List.mem_of_getElem? (i := 17) rfl))))⟩) (g_preS [.ref q_1] hP hD hK hN hS hA hZ [1] rfl rfl) rfl rfl hl.1 rfl (lv_room (Nat.le_of_ble_eq_true rfl)) dX7_init_9 ⟨Nat.le_of_ble_eq_true rfl, Nat.le_of_ble_eq_true rfl⟩) hP hD hS hA [1] [0] rfl rfl rfl (by decide) (fun u H locs hw hP hD hS => ?_)
  refine W.widen (k := 5) (n := 609) (Nat.le_of_ble_eq_true rfl) (Nat.le_of_ble_eq_true rfl) ?_
  refine ea_4_1 hw (fun h0b_2 h0s_3 h0g_4 h0v_5 e8_0 => ?_)
  subst e8_0
  clear hw
  have hPD : PD G A H [(h0, .inr (6, [.null, .null, .int 0])), oZ7 q_1 h0b_2 h0s_3 h0g_4 h0v_5, zB G h0b_2 150, zB G h0s_3 151, zB G h0g_4 151, zB G h0v_5 151] := ⟨hP, hD⟩
  have hP := hPD.1
  have hD := hPD.2
  clear hPD
  refine va_putF (D := G.1) (ci := 6) (v := .ref q_1) (ty := (.object "ToffeeWords$Text")) (C := RX7) (T := TX7) (N := 3) hx hb hts (fun _ h => List.mem_cons_of_mem _ (inlX7 _ h)) tyX7 tyX7_ok nmX7 hown hK hP hD hS 0 rfl rfl 0 (by decide) (hts _ (List.mem_cons_of_mem _ (in_r4 (List.mem_of_getElem? (i := 15) rfl)))) (fun _ h9 => h9) rfl hin rfl (by decide +kernel) rfl rfl (Nat.le_of_ble_eq_true rfl) dX7_init_12 (fun H locs hP hD hS => ?_)
  have hPD : PD G A H [(h0, .inr (6, [.ref q_1, .null, .int 0])), oZ7 q_1 h0b_2 h0s_3 h0g_4 h0v_5, zB G h0b_2 150, zB G h0s_3 151, zB G h0g_4 151, zB G h0v_5 151] := ⟨hP, hD⟩
  have hP := hPD.1
  have hD := hPD.2
  clear hPD
  refine lv_aload_n hx hb dX7_init_15 rfl (lv_at hl 0 rfl) ?_
  refine lv_iconst (v := 3) hx hb dX7_init_16 (by decide) ?_
  refine g_newi (N' := 3) hx hb (hts _ (List.mem_cons_of_mem _ (in_r3 (List.mem_of_getElem? (i := 2) rfl)))) hK hP hD hS hA (by decide) (by decide) (Nat.le_of_ble_eq_true rfl) (Nat.le_of_ble_eq_true rfl) (Nat.le_of_ble_eq_true rfl) dX7_init_17 (fun q_6 H hP hD hS => ?_)
  have hPD : PD G A H [(h0, .inr (6, [.ref q_1, .null, .int 0])), oZ7 q_1 h0b_2 h0s_3 h0g_4 h0v_5, zB G h0b_2 150, zB G h0s_3 151, zB G h0g_4 151, zB G h0v_5 151, zB G q_6 3] := ⟨hP, hD⟩
  have hP := hPD.1
  have hD := hPD.2
  clear hPD
  refine W.widen (k := 6) (n := 612) (Nat.le_of_ble_eq_true rfl) (Nat.le_of_ble_eq_true rfl) ?_
  refine va_putF (D := G.1) (ci := 6) (v := .ref q_6) (ty := (.array .int)) (C := RX7) (T := TX7) (N := 3) hx hb hts (fun _ h => List.mem_cons_of_mem _ (inlX7 _ h)) tyX7 tyX7_ok nmX7 hown hK hP hD hS 0 rfl rfl 1 (by decide) (hts _ (List.mem_cons_of_mem _ (in_r4 (List.mem_of_getElem? (i := 16) rfl)))) (fun _ h9 => h9) rfl hin rfl (by decide +kernel) rfl rfl (Nat.le_of_ble_eq_true rfl) dX7_init_19 (fun H locs hP hD hS => ?_)
  have hPD : PD G A H [oZ6 h0 q_1 q_6, oZ7 q_1 h0b_2 h0s_3 h0g_4 h0v_5, zB G h0b_2 150, zB G h0s_3 151, zB G h0g_4 151, zB G h0v_5 151, zB G q_6 3] := ⟨hP, hD⟩
  have hP := hPD.1
  have hD := hPD.2
  clear hPD
  exact g_vret hx hb hr hlocks hP hD hS (⟨q_1, h0b_2, h0s_3, h0g_4, h0v_5, q_6, rfl⟩) dX7_init_22
theorem dX1_init_0 : decode cX1_init 0 = .ok (.aload_n 0, 1) := kd_42 (by decide +kernel)
theorem dX1_init_1 : decode cX1_init 1 = .ok (.invokespecial 3, 3) := kd_183 (a := 0) (b := 3) (by decide +kernel)
theorem dX1_init_4 : decode cX1_init 4 = .ok (.aload_n 0, 1) := kd_42 (by decide +kernel)
theorem dX1_init_5 : decode cX1_init 5 = .ok (.bipush 31, 2) := kd_16 (a := 31) (by decide +kernel)
theorem dX1_init_7 : decode cX1_init 7 = .ok (.newarray .int, 2) := by decide +kernel
theorem dX1_init_9 : decode cX1_init 9 = .ok (.putfield 9, 3) := kd_181 (a := 0) (b := 9) (by decide +kernel)
theorem dX1_init_12 : decode cX1_init 12 = .ok (.return_, 1) := kd_177 (by decide +kernel)
set_option maxHeartbeats 8000000 in
set_option maxRecDepth 100000 in
theorem c_X1_init (l : Launch) (G : gG) (h0 : Nat) (sz : Nat) : gV G l yX1_init wsX1_init ({ frames := 1, cells := 1, slots := 31, locals := 12 } : Room) [.ref h0] [(h0, .inr (1, [.null]))] sz (fun (u : va_W) => (∃ h0b : Nat, u = [oB1 h0 h0b, zB G h0b 31])) := by
  refine Met.ofW (cc := cX1_init) (maxL := 1) (ret := none) (by decide) rfl ?_
  intro p e s m args below meth c s₁ B hml hv
  obtain ⟨rfl, hsz, hP, hK, hD0, hN, hZ⟩ := hv
  have hx := B.exec
  have hb := B.bytes
  have hr := B.returns
  have hts := atoms_spec (ws := wsX1_init) B.pre
  have hown : s.vm.findClass RX1 = some m.cls := findClass_of_methodNamed B.named
  have hlocks := B.notSynchronized
  have hin : meth.name = "<init>" := (name_of_methodNamed B.named B.method).1
  subst hsz
  have hD := hD0.self (sz := s.heap.size)
  generalize hAe : va_A [(h0, .inr (1, [.null]))] s.heap.size = A at hD hZ ⊢
  have hA : ∀ q : Nat, s.heap.size ≤ q → A q := fun q h => by rw [← hAe]; exact Or.inr h
  have hS : va_S A s.heap s.heap [] := va_S.rf
  have hP : va_P G.1 vwCl [(h0, .inr (1, [.null]))] s.heap := hP
  have hl := lv_entry ([.ref h0]) (n := 1) (Nat.le_of_ble_eq_true rfl)
  rw [lg_entry_eq]
  generalize (lg_sl ([.ref h0]) ++ List.replicate (1 - (lg_sl ([.ref h0])).length) Slot.unset).toArray = ls at hl ⊢
  have hl : lv_has ls 1 [(0, .ref h0)] := hl
  refine lv_aload_n hx hb dX1_init_0 rfl (lv_at hl 0 rfl) ?_
  refine W.objInit hx hb hown (hts _ (List.mem_cons_of_mem _ (in_r5 (List.mem_of_getElem? (i := 2) rfl)))) (hts _ (List.mem_cons_of_mem _ (in_r1 (List.mem_of_getElem? (i := 10) rfl)))) (hts _ (List.mem_cons_of_mem _ (in_r1 (List.mem_of_getElem? (i := 11) rfl)))) rfl (by rw [hml]; exact hl.1) rfl dX1_init_1 (Nat.le_of_ble_eq_true rfl) (Nat.le_of_ble_eq_true rfl) ?_
  refine W.eq (g2 := F0 m 4 ls []) rfl ?_
  refine lv_aload_n hx hb dX1_init_4 rfl (lv_at hl 0 rfl) ?_
  refine lv_bipush (v := 31) hx hb dX1_init_5 (by decide) ?_
  refine g_newi (N' := 31) hx hb (hts _ (List.mem_cons_of_mem _ (in_r3 (List.mem_of_getElem? (i := 2) rfl)))) hK hP hD hS hA (by decide) (by decide) (Nat.le_of_ble_eq_true rfl) (Nat.le_of_ble_eq_true rfl) (Nat.le_of_ble_eq_true rfl) dX1_init_7 (fun q_1 H hP hD hS => ?_)
  have hPD : PD G A H [(h0, .inr (1, [.null])), zB G q_1 31] := ⟨hP, hD⟩
  have hP := hPD.1
  have hD := hPD.2
  clear hPD
  refine W.widen (k := 1) (n := 31) (Nat.le_of_ble_eq_true rfl) (Nat.le_of_ble_eq_true rfl) ?_
  refine va_putF (D := G.1) (ci := 1) (v := .ref q_1) (ty := (.array .int)) (C := RX1) (T := TX1) (N := 1) hx hb hts (fun _ h => List.mem_cons_of_mem _ (inlX1 _ h)) tyX1 tyX1_ok nmX1 hown hK hP hD hS 0 rfl rfl 0 (by decide) (hts _ (List.mem_cons_of_mem _ (in_r5 (List.mem_of_getElem? (i := 3) rfl)))) (fun _ h9 => h9) rfl hin rfl (by decide +kernel) rfl rfl (Nat.le_of_ble_eq_true rfl) dX1_init_9 (fun H locs hP hD hS => ?_)
  have hPD : PD G A H [oB1 h0 q_1, zB G q_1 31] := ⟨hP, hD⟩
  have hP := hPD.1
  have hD := hPD.2
  clear hPD
  exact g_vret hx hb hr hlocks hP hD hS (⟨q_1, rfl⟩) dX1_init_12
theorem dX0_init_0 : decode cX0_init 0 = .ok (.aload_n 0, 1) := kd_42 (by decide +kernel)
theorem dX0_init_1 : decode cX0_init 1 = .ok (.invokespecial 3, 3) := kd_183 (a := 0) (b := 3) (by decide +kernel)
theorem dX0_init_4 : decode cX0_init 4 = .ok (.aload_n 0, 1) := kd_42 (by decide +kernel)
theorem dX0_init_5 : decode cX0_init 5 = .ok (.bipush 7, 2) := kd_16 (a := 7) (by decide +kernel)
theorem dX0_init_7 : decode cX0_init 7 = .ok (.newarray .int, 2) := by decide +kernel
theorem dX0_init_9 : decode cX0_init 9 = .ok (.putfield 9, 3) := kd_181 (a := 0) (b := 9) (by decide +kernel)
theorem dX0_init_12 : decode cX0_init 12 = .ok (.aload_n 0, 1) := kd_42 (by decide +kernel)
theorem dX0_init_13 : decode cX0_init 13 = .ok (.iconst 4, 1) := kd_7 (by decide +kernel)
theorem dX0_init_14 : decode cX0_init 14 = .ok (.newarray .int, 2) := by decide +kernel
theorem dX0_init_16 : decode cX0_init 16 = .ok (.putfield 15, 3) := kd_181 (a := 0) (b := 15) (by decide +kernel)
theorem dX0_init_19 : decode cX0_init 19 = .ok (.aload_n 0, 1) := kd_42 (by decide +kernel)
theorem dX0_init_20 : decode cX0_init 20 = .ok (.iconst 4, 1) := kd_7 (by decide +kernel)
theorem dX0_init_21 : decode cX0_init 21 = .ok (.newarray .int, 2) := by decide +kernel
theorem dX0_init_23 : decode cX0_init 23 = .ok (.putfield 18, 3) := kd_181 (a := 0) (b := 18) (by decide +kernel)
theorem dX0_init_26 : decode cX0_init 26 = .ok (.return_, 1) := kd_177 (by decide +kernel)
set_option maxHeartbeats 8000000 in
set_option maxRecDepth 100000 in
theorem c_X0_init (l : Launch) (G : gG) (h0 : Nat) (sz : Nat) : gV G l yX0_init wsX0_init ({ frames := 1, cells := 3, slots := 15, locals := 12 } : Room) [.ref h0] [(h0, .inr (0, [.null, .null, .null, .int 0]))] sz (fun (u : va_W) => (∃ h0o : Nat, ∃ h0w : Nat, ∃ h0b : Nat, u = [oZ0 h0 h0o h0w h0b, zB G h0o 7, zB G h0w 4, zB G h0b 4])) := by
  refine Met.ofW (cc := cX0_init) (maxL := 1) (ret := none) (by decide) rfl ?_
  intro p e s m args below meth c s₁ B hml hv
  obtain ⟨rfl, hsz, hP, hK, hD0, hN, hZ⟩ := hv
  have hx := B.exec
  have hb := B.bytes
  have hr := B.returns
  have hts := atoms_spec (ws := wsX0_init) B.pre
  have hown : s.vm.findClass RX0 = some m.cls := findClass_of_methodNamed B.named
  have hlocks := B.notSynchronized
  have hin : meth.name = "<init>" := (name_of_methodNamed B.named B.method).1
  subst hsz
  have hD := hD0.self (sz := s.heap.size)
  generalize hAe : va_A [(h0, .inr (0, [.null, .null, .null, .int 0]))] s.heap.size = A at hD hZ ⊢
  have hA : ∀ q : Nat, s.heap.size ≤ q → A q := fun q h => by rw [← hAe]; exact Or.inr h
  have hS : va_S A s.heap s.heap [] := va_S.rf
  have hP : va_P G.1 vwCl [(h0, .inr (0, [.null, .null, .null, .int 0]))] s.heap := hP
  have hl := lv_entry ([.ref h0]) (n := 1) (Nat.le_of_ble_eq_true rfl)
  rw [lg_entry_eq]
  generalize (lg_sl ([.ref h0]) ++ List.replicate (1 - (lg_sl ([.ref h0])).length) Slot.unset).toArray = ls at hl ⊢
  have hl : lv_has ls 1 [(0, .ref h0)] := hl
  refine lv_aload_n hx hb dX0_init_0 rfl (lv_at hl 0 rfl) ?_
  refine W.objInit hx hb hown (hts _ (List.mem_cons_of_mem _ (in_r5 (List.mem_of_getElem? (i := 6) rfl)))) (hts _ (List.mem_cons_of_mem _ (in_r1 (List.mem_of_getElem? (i := 10) rfl)))) (hts _ (List.mem_cons_of_mem _ (in_r1 (List.mem_of_getElem? (i := 11) rfl)))) rfl (by rw [hml]; exact hl.1) rfl dX0_init_1 (Nat.le_of_ble_eq_true rfl) (Nat.le_of_ble_eq_true rfl) ?_
  refine W.eq (g2 := F0 m 4 ls []) rfl ?_
  refine lv_aload_n hx hb dX0_init_4 rfl (lv_at hl 0 rfl) ?_
  refine lv_bipush (v := 7) hx hb dX0_init_5 (by decide) ?_
  refine g_newi (N' := 7) hx hb (hts _ (List.mem_cons_of_mem _ (in_r3 (List.mem_of_getElem? (i := 2) rfl)))) hK hP hD hS hA (by decide) (by decide) (Nat.le_of_ble_eq_true rfl) (Nat.le_of_ble_eq_true rfl) (Nat.le_of_ble_eq_true rfl) dX0_init_7 (fun q_1 H hP hD hS => ?_)
  have hPD : PD G A H [(h0, .inr (0, [.null, .null, .null, .int 0])), zB G q_1 7] := ⟨hP, hD⟩
  have hP := hPD.1
  have hD := hPD.2
  clear hPD
  refine W.widen (k := 1) (n := 7) (Nat.le_of_ble_eq_true rfl) (Nat.le_of_ble_eq_true rfl) ?_
  refine va_putF (D := G.1) (ci := 0) (v := .ref q_1) (ty := (.array .int)) (C := RX0) (T := TX0) (N := 4) hx hb hts (fun _ h => List.mem_cons_of_mem _ (inlX0 _ h)) tyX0 tyX0_ok nmX0 hown hK hP hD hS 0 rfl rfl 0 (by decide) (hts _ (List.mem_cons_of_mem _ (in_r5 (List.mem_of_getElem? (i := 7) rfl)))) (fun _ h9 => h9) rfl hin rfl (by decide +kernel) rfl rfl (Nat.le_of_ble_eq_true rfl) dX0_init_9 (fun H locs hP hD hS => ?_)
  have hPD : PD G A H [(h0, .inr (0, [.ref q_1, .null, .null, .int 0])), zB G q_1 7] := ⟨hP, hD⟩
  have hP := hPD.1
  have hD := hPD.2
  clear hPD
  refine lv_aload_n hx hb dX0_init_12 rfl (lv_at hl 0 rfl) ?_
  refine lv_iconst (v := 4) hx hb dX0_init_13 (by decide) ?_
  refine g_newi (N' := 4) hx hb (hts _ (List.mem_cons_of_mem _ (in_r3 (List.mem_of_getElem? (i := 2) rfl)))) hK hP hD hS hA (by decide) (by decide) (Nat.le_of_ble_eq_true rfl) (Nat.le_of_ble_eq_true rfl) (Nat.le_of_ble_eq_true rfl) dX0_init_14 (fun q_2 H hP hD hS => ?_)
  have hPD : PD G A H [(h0, .inr (0, [.ref q_1, .null, .null, .int 0])), zB G q_1 7, zB G q_2 4] := ⟨hP, hD⟩
  have hP := hPD.1
  have hD := hPD.2
  clear hPD
  refine W.widen (k := 2) (n := 11) (Nat.le_of_ble_eq_true rfl) (Nat.le_of_ble_eq_true rfl) ?_
  refine va_putF (D := G.1) (ci := 0) (v := .ref q_2) (ty := (.array .int)) (C := RX0) (T := TX0) (N := 4) hx hb hts (fun _ h => List.mem_cons_of_mem _ (inlX0 _ h)) tyX0 tyX0_ok nmX0 hown hK hP hD hS 0 rfl rfl 1 (by decide) (hts _ (List.mem_cons_of_mem _ (in_r5 (List.mem_of_getElem? (i := 8) rfl)))) (fun _ h9 => h9) rfl hin rfl (by decide +kernel) rfl rfl (Nat.le_of_ble_eq_true rfl) dX0_init_16 (fun H locs hP hD hS => ?_)
  have hPD : PD G A H [(h0, .inr (0, [.ref q_1, .ref q_2, .null, .int 0])), zB G q_1 7, zB G q_2 4] := ⟨hP, hD⟩
  have hP := hPD.1
  have hD := hPD.2
  clear hPD
  refine lv_aload_n hx hb dX0_init_19 rfl (lv_at hl 0 rfl) ?_
  refine lv_iconst (v := 4) hx hb dX0_init_20 (by decide) ?_
  refine g_newi (N' := 4) hx hb (hts _ (List.mem_cons_of_mem _ (in_r3 (List.mem_of_getElem? (i := 2) rfl)))) hK hP hD hS hA (by decide) (by decide) (Nat.le_of_ble_eq_true rfl) (Nat.le_of_ble_eq_true rfl) (Nat.le_of_ble_eq_true rfl) dX0_init_21 (fun q_3 H hP hD hS => ?_)
  have hPD : PD G A H [(h0, .inr (0, [.ref q_1, .ref q_2, .null, .int 0])), zB G q_1 7, zB G q_2 4, zB G q_3 4] := ⟨hP, hD⟩
  have hP := hPD.1
  have hD := hPD.2
  clear hPD
  refine W.widen (k := 3) (n := 15) (Nat.le_of_ble_eq_true rfl) (Nat.le_of_ble_eq_true rfl) ?_
  refine va_putF (D := G.1) (ci := 0) (v := .ref q_3) (ty := (.array .int)) (C := RX0) (T := TX0) (N := 4) hx hb hts (fun _ h => List.mem_cons_of_mem _ (inlX0 _ h)) tyX0 tyX0_ok nmX0 hown hK hP hD hS 0 rfl rfl 2 (by decide) (hts _ (List.mem_cons_of_mem _ (in_r5 (List.mem_of_getElem? (i := 9) rfl)))) (fun _ h9 => h9) rfl hin rfl (by decide +kernel) rfl rfl (Nat.le_of_ble_eq_true rfl) dX0_init_23 (fun H locs hP hD hS => ?_)
  have hPD : PD G A H [oZ0 h0 q_1 q_2 q_3, zB G q_1 7, zB G q_2 4, zB G q_3 4] := ⟨hP, hD⟩
  have hP := hPD.1
  have hD := hPD.2
  clear hPD
  exact g_vret hx hb hr hlocks hP hD hS (⟨q_1, q_2, q_3, rfl⟩) dX0_init_26
theorem dX5_init_0 : decode cX5_init 0 = .ok (.aload_n 0, 1) := kd_42 (by decide +kernel)
theorem dX5_init_1 : decode cX5_init 1 = .ok (.invokespecial 1, 3) := kd_183 (a := 0) (b := 1) (by decide +kernel)
theorem dX5_init_4 : decode cX5_init 4 = .ok (.aload_n 0, 1) := kd_42 (by decide +kernel)
theorem dX5_init_5 : decode cX5_init 5 = .ok (.bipush 10, 2) := kd_16 (a := 10) (by decide +kernel)
theorem dX5_init_7 : decode cX5_init 7 = .ok (.newarray .int, 2) := by decide +kernel
theorem dX5_init_9 : decode cX5_init 9 = .ok (.putfield 9, 3) := kd_181 (a := 0) (b := 9) (by decide +kernel)
theorem dX5_init_12 : decode cX5_init 12 = .ok (.aload_n 0, 1) := kd_42 (by decide +kernel)
theorem dX5_init_13 : decode cX5_init 13 = .ok (.bipush 10, 2) := kd_16 (a := 10) (by decide +kernel)
theorem dX5_init_15 : decode cX5_init 15 = .ok (.newarray .int, 2) := by decide +kernel
theorem dX5_init_17 : decode cX5_init 17 = .ok (.putfield 13, 3) := kd_181 (a := 0) (b := 13) (by decide +kernel)
theorem dX5_init_20 : decode cX5_init 20 = .ok (.aload_n 0, 1) := kd_42 (by decide +kernel)
theorem dX5_init_21 : decode cX5_init 21 = .ok (.bipush 100, 2) := kd_16 (a := 100) (by decide +kernel)
theorem dX5_init_23 : decode cX5_init 23 = .ok (.newarray .int, 2) := by decide +kernel
theorem dX5_init_25 : decode cX5_init 25 = .ok (.putfield 16, 3) := kd_181 (a := 0) (b := 16) (by decide +kernel)
theorem dX5_init_28 : decode cX5_init 28 = .ok (.return_, 1) := kd_177 (by decide +kernel)
set_option maxHeartbeats 8000000 in
set_option maxRecDepth 100000 in
theorem c_X5_init (l : Launch) (G : gG) (h0 : Nat) (sz : Nat) : gV G l yX5_init wsX5_init ({ frames := 1, cells := 3, slots := 120, locals := 12 } : Room) [.ref h0] [(h0, .inr (4, [.null, .null, .null, .int 0]))] sz (fun (u : va_W) => (∃ h0f : Nat, ∃ h0s : Nat, ∃ h0r : Nat, u = [oZ4 h0 h0f h0s h0r, zB G h0f 10, zB G h0s 10, zB G h0r 100])) := by
  refine Met.ofW (cc := cX5_init) (maxL := 1) (ret := none) (by decide) rfl ?_
  intro p e s m args below meth c s₁ B hml hv
  obtain ⟨rfl, hsz, hP, hK, hD0, hN, hZ⟩ := hv
  have hx := B.exec
  have hb := B.bytes
  have hr := B.returns
  have hts := atoms_spec (ws := wsX5_init) B.pre
  have hown : s.vm.findClass RX5 = some m.cls := findClass_of_methodNamed B.named
  have hlocks := B.notSynchronized
  have hin : meth.name = "<init>" := (name_of_methodNamed B.named B.method).1
  subst hsz
  have hD := hD0.self (sz := s.heap.size)
  generalize hAe : va_A [(h0, .inr (4, [.null, .null, .null, .int 0]))] s.heap.size = A at hD hZ ⊢
  have hA : ∀ q : Nat, s.heap.size ≤ q → A q := fun q h => by rw [← hAe]; exact Or.inr h
  have hS : va_S A s.heap s.heap [] := va_S.rf
  have hP : va_P G.1 vwCl [(h0, .inr (4, [.null, .null, .null, .int 0]))] s.heap := hP
  have hl := lv_entry ([.ref h0]) (n := 1) (Nat.le_of_ble_eq_true rfl)
  rw [lg_entry_eq]
  generalize (lg_sl ([.ref h0]) ++ List.replicate (1 - (lg_sl ([.ref h0])).length) Slot.unset).toArray = ls at hl ⊢
  have hl : lv_has ls 1 [(0, .ref h0)] := hl
  refine lv_aload_n hx hb dX5_init_0 rfl (lv_at hl 0 rfl) ?_
  refine W.objInit hx hb hown (hts _ (List.mem_cons_of_mem _ (in_r5 (List.mem_of_getElem? (i := 12) rfl)))) (hts _ (List.mem_cons_of_mem _ (in_r1 (List.mem_of_getElem? (i := 10) rfl)))) (hts _ (List.mem_cons_of_mem _ (in_r1 (List.mem_of_getElem? (i := 11) rfl)))) rfl (by rw [hml]; exact hl.1) rfl dX5_init_1 (Nat.le_of_ble_eq_true rfl) (Nat.le_of_ble_eq_true rfl) ?_
  refine W.eq (g2 := F0 m 4 ls []) rfl ?_
  refine lv_aload_n hx hb dX5_init_4 rfl (lv_at hl 0 rfl) ?_
  refine lv_bipush (v := 10) hx hb dX5_init_5 (by decide) ?_
  refine g_newi (N' := 10) hx hb (hts _ (List.mem_cons_of_mem _ (in_r3 (List.mem_of_getElem? (i := 2) rfl)))) hK hP hD hS hA (by decide) (by decide) (Nat.le_of_ble_eq_true rfl) (Nat.le_of_ble_eq_true rfl) (Nat.le_of_ble_eq_true rfl) dX5_init_7 (fun q_1 H hP hD hS => ?_)
  have hPD : PD G A H [(h0, .inr (4, [.null, .null, .null, .int 0])), zB G q_1 10] := ⟨hP, hD⟩
  have hP := hPD.1
  have hD := hPD.2
  clear hPD
  refine W.widen (k := 1) (n := 10) (Nat.le_of_ble_eq_true rfl) (Nat.le_of_ble_eq_true rfl) ?_
  refine va_putF (D := G.1) (ci := 4) (v := .ref q_1) (ty := (.array .int)) (C := RX5) (T := TX5) (N := 4) hx hb hts (fun _ h => List.mem_cons_of_mem _ (inlX5 _ h)) tyX5 tyX5_ok nmX5 hown hK hP hD hS 0 rfl rfl 0 (by decide) (hts _ (List.mem_cons_of_mem _ (in_r5 (List.mem_of_getElem? (i := 13) rfl)))) (fun _ h9 => h9) rfl hin rfl (by decide +kernel) rfl rfl (Nat.le_of_ble_eq_true rfl) dX5_init_9 (fun H locs hP hD hS => ?_)
  have hPD : PD G A H [(h0, .inr (4, [.ref q_1, .null, .null, .int 0])), zB G q_1 10] := ⟨hP, hD⟩
  have hP := hPD.1
  have hD := hPD.2
  clear hPD
  refine lv_aload_n hx hb dX5_init_12 rfl (lv_at hl 0 rfl) ?_
  refine lv_bipush (v := 10) hx hb dX5_init_13 (by decide) ?_
  refine g_newi (N' := 10) hx hb (hts _ (List.mem_cons_of_mem _ (in_r3 (List.mem_of_getElem? (i := 2) rfl)))) hK hP hD hS hA (by decide) (by decide) (Nat.le_of_ble_eq_true rfl) (Nat.le_of_ble_eq_true rfl) (Nat.le_of_ble_eq_true rfl) dX5_init_15 (fun q_2 H hP hD hS => ?_)
  have hPD : PD G A H [(h0, .inr (4, [.ref q_1, .null, .null, .int 0])), zB G q_1 10, zB G q_2 10] := ⟨hP, hD⟩
  have hP := hPD.1
  have hD := hPD.2
  clear hPD
  refine W.widen (k := 2) (n := 20) (Nat.le_of_ble_eq_true rfl) (Nat.le_of_ble_eq_true rfl) ?_
  refine va_putF (D := G.1) (ci := 4) (v := .ref q_2) (ty := (.array .int)) (C := RX5) (T := TX5) (N := 4) hx hb hts (fun _ h => List.mem_cons_of_mem _ (inlX5 _ h)) tyX5 tyX5_ok nmX5 hown hK hP hD hS 0 rfl rfl 1 (by decide) (hts _ (List.mem_cons_of_mem _ (in_r5 (List.mem_of_getElem? (i := 14) rfl)))) (fun _ h9 => h9) rfl hin rfl (by decide +kernel) rfl rfl (Nat.le_of_ble_eq_true rfl) dX5_init_17 (fun H locs hP hD hS => ?_)
  have hPD : PD G A H [(h0, .inr (4, [.ref q_1, .ref q_2, .null, .int 0])), zB G q_1 10, zB G q_2 10] := ⟨hP, hD⟩
  have hP := hPD.1
  have hD := hPD.2
  clear hPD
  refine lv_aload_n hx hb dX5_init_20 rfl (lv_at hl 0 rfl) ?_
  refine lv_bipush (v := 100) hx hb dX5_init_21 (by decide) ?_
  refine g_newi (N' := 100) hx hb (hts _ (List.mem_cons_of_mem _ (in_r3 (List.mem_of_getElem? (i := 2) rfl)))) hK hP hD hS hA (by decide) (by decide) (Nat.le_of_ble_eq_true rfl) (Nat.le_of_ble_eq_true rfl) (Nat.le_of_ble_eq_true rfl) dX5_init_23 (fun q_3 H hP hD hS => ?_)
  have hPD : PD G A H [(h0, .inr (4, [.ref q_1, .ref q_2, .null, .int 0])), zB G q_1 10, zB G q_2 10, zB G q_3 100] := ⟨hP, hD⟩
  have hP := hPD.1
  have hD := hPD.2
  clear hPD
  refine W.widen (k := 3) (n := 120) (Nat.le_of_ble_eq_true rfl) (Nat.le_of_ble_eq_true rfl) ?_
  refine va_putF (D := G.1) (ci := 4) (v := .ref q_3) (ty := (.array .int)) (C := RX5) (T := TX5) (N := 4) hx hb hts (fun _ h => List.mem_cons_of_mem _ (inlX5 _ h)) tyX5 tyX5_ok nmX5 hown hK hP hD hS 0 rfl rfl 2 (by decide) (hts _ (List.mem_cons_of_mem _ (in_r5 (List.mem_of_getElem? (i := 15) rfl)))) (fun _ h9 => h9) rfl hin rfl (by decide +kernel) rfl rfl (Nat.le_of_ble_eq_true rfl) dX5_init_25 (fun H locs hP hD hS => ?_)
  have hPD : PD G A H [oZ4 h0 q_1 q_2 q_3, zB G q_1 10, zB G q_2 10, zB G q_3 100] := ⟨hP, hD⟩
  have hP := hPD.1
  have hD := hPD.2
  clear hPD
  exact g_vret hx hb hr hlocks hP hD hS (⟨q_1, q_2, q_3, rfl⟩) dX5_init_28
theorem dX2_init_0 : decode cX2_init 0 = .ok (.aload_n 0, 1) := kd_42 (by decide +kernel)
theorem dX2_init_1 : decode cX2_init 1 = .ok (.invokespecial 3, 3) := kd_183 (a := 0) (b := 3) (by decide +kernel)
theorem dX2_init_4 : decode cX2_init 4 = .ok (.aload_n 0, 1) := kd_42 (by decide +kernel)
theorem dX2_init_5 : decode cX2_init 5 = .ok (.bipush 6, 2) := kd_16 (a := 6) (by decide +kernel)
theorem dX2_init_7 : decode cX2_init 7 = .ok (.newarray .int, 2) := by decide +kernel
theorem dX2_init_9 : decode cX2_init 9 = .ok (.putfield 9, 3) := kd_181 (a := 0) (b := 9) (by decide +kernel)
theorem dX2_init_12 : decode cX2_init 12 = .ok (.return_, 1) := kd_177 (by decide +kernel)
set_option maxHeartbeats 8000000 in
set_option maxRecDepth 100000 in
theorem c_X2_init (l : Launch) (G : gG) (h0 : Nat) (sz : Nat) : gV G l yX2_init wsX2_init ({ frames := 1, cells := 1, slots := 6, locals := 12 } : Room) [.ref h0] [(h0, .inr (2, [.null]))] sz (fun (u : va_W) => (∃ h0a : Nat, u = [oB2 h0 h0a, zB G h0a 6])) := by
  refine Met.ofW (cc := cX2_init) (maxL := 1) (ret := none) (by decide) rfl ?_
  intro p e s m args below meth c s₁ B hml hv
  obtain ⟨rfl, hsz, hP, hK, hD0, hN, hZ⟩ := hv
  have hx := B.exec
  have hb := B.bytes
  have hr := B.returns
  have hts := atoms_spec (ws := wsX2_init) B.pre
  have hown : s.vm.findClass RX2 = some m.cls := findClass_of_methodNamed B.named
  have hlocks := B.notSynchronized
  have hin : meth.name = "<init>" := (name_of_methodNamed B.named B.method).1
  subst hsz
  have hD := hD0.self (sz := s.heap.size)
  generalize hAe : va_A [(h0, .inr (2, [.null]))] s.heap.size = A at hD hZ ⊢
  have hA : ∀ q : Nat, s.heap.size ≤ q → A q := fun q h => by rw [← hAe]; exact Or.inr h
  have hS : va_S A s.heap s.heap [] := va_S.rf
  have hP : va_P G.1 vwCl [(h0, .inr (2, [.null]))] s.heap := hP
  have hl := lv_entry ([.ref h0]) (n := 1) (Nat.le_of_ble_eq_true rfl)
  rw [lg_entry_eq]
  generalize (lg_sl ([.ref h0]) ++ List.replicate (1 - (lg_sl ([.ref h0])).length) Slot.unset).toArray = ls at hl ⊢
  have hl : lv_has ls 1 [(0, .ref h0)] := hl
  refine lv_aload_n hx hb dX2_init_0 rfl (lv_at hl 0 rfl) ?_
  refine W.objInit hx hb hown (hts _ (List.mem_cons_of_mem _ (in_r5 (List.mem_of_getElem? (i := 18) rfl)))) (hts _ (List.mem_cons_of_mem _ (in_r1 (List.mem_of_getElem? (i := 10) rfl)))) (hts _ (List.mem_cons_of_mem _ (in_r1 (List.mem_of_getElem? (i := 11) rfl)))) rfl (by rw [hml]; exact hl.1) rfl dX2_init_1 (Nat.le_of_ble_eq_true rfl) (Nat.le_of_ble_eq_true rfl) ?_
  refine W.eq (g2 := F0 m 4 ls []) rfl ?_
  refine lv_aload_n hx hb dX2_init_4 rfl (lv_at hl 0 rfl) ?_
  refine lv_bipush (v := 6) hx hb dX2_init_5 (by decide) ?_
  refine g_newi (N' := 6) hx hb (hts _ (List.mem_cons_of_mem _ (in_r3 (List.mem_of_getElem? (i := 2) rfl)))) hK hP hD hS hA (by decide) (by decide) (Nat.le_of_ble_eq_true rfl) (Nat.le_of_ble_eq_true rfl) (Nat.le_of_ble_eq_true rfl) dX2_init_7 (fun q_1 H hP hD hS => ?_)
  have hPD : PD G A H [(h0, .inr (2, [.null])), zB G q_1 6] := ⟨hP, hD⟩
  have hP := hPD.1
  have hD := hPD.2
  clear hPD
  refine W.widen (k := 1) (n := 6) (Nat.le_of_ble_eq_true rfl) (Nat.le_of_ble_eq_true rfl) ?_
  refine va_putF (D := G.1) (ci := 2) (v := .ref q_1) (ty := (.array .int)) (C := RX2) (T := TX2) (N := 1) hx hb hts (fun _ h => List.mem_cons_of_mem _ (inlX2 _ h)) tyX2 tyX2_ok nmX2 hown hK hP hD hS 0 rfl rfl 0 (by decide) (hts _ (List.mem_cons_of_mem _ (in_r5 (List.mem_of_getElem? (i := 19) rfl)))) (fun _ h9 => h9) rfl hin rfl (by decide +kernel) rfl rfl (Nat.le_of_ble_eq_true rfl) dX2_init_9 (fun H locs hP hD hS => ?_)
  have hPD : PD G A H [oB2 h0 q_1, zB G q_1 6] := ⟨hP, hD⟩
  have hP := hPD.1
  have hD := hPD.2
  clear hPD
  exact g_vret hx hb hr hlocks hP hD hS (⟨q_1, rfl⟩) dX2_init_12
set_option maxHeartbeats 8000000 in
set_option maxRecDepth 100000 in
theorem c_X11_begin0 (l : Launch) (G : gG) (b0 : Nat) (sz : Nat) : gV G l yX11_begin wsX11_begin ({ frames := 0, cells := 0, slots := 0, locals := 0 } : Room) [.ref b0] [zB G b0 311] sz (fun (u : va_W) => (u = [zB G b0 311])) := by
  refine Met.ofW (cc := cX11_begin) (maxL := 2) (ret := none) (by decide) rfl ?_
  intro p e s m args below meth c s₁ B hml hv
  obtain ⟨rfl, hsz, hP, hK, hD0, hN, hZ⟩ := hv
  have hx := B.exec
  have hb := B.bytes
  have hr := B.returns
  have hts := atoms_spec (ws := wsX11_begin) B.pre
  have hown : s.vm.findClass RX11 = some m.cls := findClass_of_methodNamed B.named
  have hlocks := B.notSynchronized
  subst hsz
  have hD := hD0.self (sz := s.heap.size)
  generalize hAe : va_A [zB G b0 311] s.heap.size = A at hD hZ ⊢
  have hA : ∀ q : Nat, s.heap.size ≤ q → A q := fun q h => by rw [← hAe]; exact Or.inr h
  have hS : va_S A s.heap s.heap [] := va_S.rf
  have hP : va_P G.1 vwCl [zB G b0 311] s.heap := hP
  have hl := lv_entry ([.ref b0]) (n := 2) (Nat.le_of_ble_eq_true rfl)
  rw [lg_entry_eq]
  generalize (lg_sl ([.ref b0]) ++ List.replicate (2 - (lg_sl ([.ref b0])).length) Slot.unset).toArray = ls at hl ⊢
  have hl : lv_has ls 2 [(0, .ref b0)] := hl
  refine lv_iconst (v := 0) hx hb dX11_begin_0 (by decide) ?_
  refine lv_istore_n (lv' := [(1, .int 0), (0, .ref b0)]) hx hb dX11_begin_1 rfl hl (by decide) rfl (fun ls hl => ?_)
  refine g_loop (pc := 2) (135) (fun k H locs ls => va_P G.1 vwCl [zB G b0 311] H ∧ va_D A [zB G b0 311] ∧ va_S A s.heap H locs ∧ lv_has ls 2 [(1, .int (nI k)), (0, .ref b0)]) ?_ ⟨hP, hD, hS, lv_sub hl [0, 1] rfl⟩
  intro k H locs ls hkN ih hI
  obtain ⟨hP, hD, hS, hl⟩ := hI
  rcases Nat.lt_or_ge k (135) with hlt | hge
  · refine lv_iload_n hx hb dX11_begin_2 rfl (lv_at hl 0 rfl) ?_
    refine lv_sipush (v := 135) hx hb dX11_begin_3 (by decide) ?_
    refine lv_icmp_ge (tgt := 19) hx hb dX11_begin_6 (by decide) (fun c_1 => g_no c_1 (nI_ge (a := k) (b := 135) hlt (by omega))) (fun _ => ?_)
    refine lv_aload_n hx hb dX11_begin_9 rfl (lv_at hl 1 rfl) ?_
    refine lv_iload_n hx hb dX11_begin_10 rfl (lv_at hl 0 rfl) ?_
    refine lv_iconst (v := 0) hx hb dX11_begin_11 (by decide) ?_
    refine va_iast hx hb hK hP hD hS 0 0 rfl rfl (vp_in_nI (n := k) (N := 311) (by omega) (by omega)) dX11_begin_12 (fun H locs hP hD hS => ?_)
    rw [upd_zz] at hP hD
    have hP : va_P G.1 vwCl [zB G b0 311] H := hP
    have hD : va_D A [zB G b0 311] := hD
    refine lv_iinc (v := (nI (k + 1))) (lv' := [(1, .int (nI (k + 1))), (0, .ref b0)]) hx hb dX11_begin_13 hl (k := 0) rfl (nI_1 k) (by decide) rfl (fun ls hl => ?_)
    refine lv_goto (tgt := 2) hx hb dX11_begin_16 (by decide) ?_
    exact ih _ _ _ hlt ⟨hP, hD, hS, lv_sub hl [0, 1] rfl⟩
  · have hkE : 135 = k := by omega
    subst hkE
    refine lv_iload_n hx hb dX11_begin_2 rfl (lv_at hl 0 rfl) ?_
    refine lv_sipush (v := 135) hx hb dX11_begin_3 (by decide) ?_
    refine lv_icmp_ge (tgt := 19) hx hb dX11_begin_6 (by decide) (fun _ => ?_) (fun c_2 => g_no (by decide) c_2)
    exact g_vret hx hb hr hlocks hP hD hS (rfl) dX11_begin_19
theorem dX11_init_0 : decode cX11_init 0 = .ok (.aload_n 0, 1) := kd_42 (by decide +kernel)
theorem dX11_init_1 : decode cX11_init 1 = .ok (.invokespecial 1, 3) := kd_183 (a := 0) (b := 1) (by decide +kernel)
theorem dX11_init_4 : decode cX11_init 4 = .ok (.aload_n 0, 1) := kd_42 (by decide +kernel)
theorem dX11_init_5 : decode cX11_init 5 = .ok (.sipush 311, 3) := kd_17 (a := 1) (b := 55) (by decide +kernel)
theorem dX11_init_8 : decode cX11_init 8 = .ok (.newarray .int, 2) := by decide +kernel
theorem dX11_init_10 : decode cX11_init 10 = .ok (.putfield 7, 3) := kd_181 (a := 0) (b := 7) (by decide +kernel)
theorem dX11_init_13 : decode cX11_init 13 = .ok (.aload_n 0, 1) := kd_42 (by decide +kernel)
theorem dX11_init_14 : decode cX11_init 14 = .ok (.sipush 622, 3) := kd_17 (a := 2) (b := 110) (by decide +kernel)
theorem dX11_init_17 : decode cX11_init 17 = .ok (.newarray .int, 2) := by decide +kernel
theorem dX11_init_19 : decode cX11_init 19 = .ok (.putfield 13, 3) := kd_181 (a := 0) (b := 13) (by decide +kernel)
theorem dX11_init_22 : decode cX11_init 22 = .ok (.aload_n 0, 1) := kd_42 (by decide +kernel)
theorem dX11_init_23 : decode cX11_init 23 = .ok (.iconst 2, 1) := kd_5 (by decide +kernel)
theorem dX11_init_24 : decode cX11_init 24 = .ok (.newarray .boolean, 2) := by decide +kernel
theorem dX11_init_26 : decode cX11_init 26 = .ok (.putfield 16, 3) := kd_181 (a := 0) (b := 16) (by decide +kernel)
theorem dX11_init_29 : decode cX11_init 29 = .ok (.aload_n 0, 1) := kd_42 (by decide +kernel)
theorem dX11_init_30 : decode cX11_init 30 = .ok (.iconst 3, 1) := kd_6 (by decide +kernel)
theorem dX11_init_31 : decode cX11_init 31 = .ok (.newarray .int, 2) := by decide +kernel
theorem dX11_init_33 : decode cX11_init 33 = .ok (.putfield 20, 3) := kd_181 (a := 0) (b := 20) (by decide +kernel)
theorem dX11_init_36 : decode cX11_init 36 = .ok (.aload_n 0, 1) := kd_42 (by decide +kernel)
theorem dX11_init_37 : decode cX11_init 37 = .ok (.lconst 1, 1) := kd_10 (by decide +kernel)
theorem dX11_init_38 : decode cX11_init 38 = .ok (.putfield 23, 3) := kd_181 (a := 0) (b := 23) (by decide +kernel)
theorem dX11_init_41 : decode cX11_init 41 = .ok (.aload_n 0, 1) := kd_42 (by decide +kernel)
theorem dX11_init_42 : decode cX11_init 42 = .ok (.bipush 56, 2) := kd_16 (a := 56) (by decide +kernel)
theorem dX11_init_44 : decode cX11_init 44 = .ok (.newarray .int, 2) := by decide +kernel
theorem dX11_init_46 : decode cX11_init 46 = .ok (.putfield 27, 3) := kd_181 (a := 0) (b := 27) (by decide +kernel)
theorem dX11_init_49 : decode cX11_init 49 = .ok (.aload_n 0, 1) := kd_42 (by decide +kernel)
theorem dX11_init_50 : decode cX11_init 50 = .ok (.bipush 31, 2) := kd_16 (a := 31) (by decide +kernel)
theorem dX11_init_52 : decode cX11_init 52 = .ok (.newarray .int, 2) := by decide +kernel
theorem dX11_init_54 : decode cX11_init 54 = .ok (.putfield 30, 3) := kd_181 (a := 0) (b := 30) (by decide +kernel)
theorem dX11_init_57 : decode cX11_init 57 = .ok (.aload_n 0, 1) := kd_42 (by decide +kernel)
theorem dX11_init_58 : decode cX11_init 58 = .ok (.bipush 31, 2) := kd_16 (a := 31) (by decide +kernel)
theorem dX11_init_60 : decode cX11_init 60 = .ok (.newarray .int, 2) := by decide +kernel
theorem dX11_init_62 : decode cX11_init 62 = .ok (.putfield 33, 3) := kd_181 (a := 0) (b := 33) (by decide +kernel)
theorem dX11_init_65 : decode cX11_init 65 = .ok (.aload_n 0, 1) := kd_42 (by decide +kernel)
theorem dX11_init_66 : decode cX11_init 66 = .ok (.bipush 31, 2) := kd_16 (a := 31) (by decide +kernel)
theorem dX11_init_68 : decode cX11_init 68 = .ok (.newarray .int, 2) := by decide +kernel
theorem dX11_init_70 : decode cX11_init 70 = .ok (.putfield 36, 3) := kd_181 (a := 0) (b := 36) (by decide +kernel)
theorem dX11_init_73 : decode cX11_init 73 = .ok (.aload_n 0, 1) := kd_42 (by decide +kernel)
theorem dX11_init_74 : decode cX11_init 74 = .ok (.iconst 4, 1) := kd_7 (by decide +kernel)
theorem dX11_init_75 : decode cX11_init 75 = .ok (.newarray .int, 2) := by decide +kernel
theorem dX11_init_77 : decode cX11_init 77 = .ok (.putfield 39, 3) := kd_181 (a := 0) (b := 39) (by decide +kernel)
theorem dX11_init_80 : decode cX11_init 80 = .ok (.aload_n 0, 1) := kd_42 (by decide +kernel)
theorem dX11_init_81 : decode cX11_init 81 = .ok (.bipush 6, 2) := kd_16 (a := 6) (by decide +kernel)
theorem dX11_init_83 : decode cX11_init 83 = .ok (.newarray .int, 2) := by decide +kernel
theorem dX11_init_85 : decode cX11_init 85 = .ok (.putfield 42, 3) := kd_181 (a := 0) (b := 42) (by decide +kernel)
theorem dX11_init_88 : decode cX11_init 88 = .ok (.aload_n 0, 1) := kd_42 (by decide +kernel)
theorem dX11_init_89 : decode cX11_init 89 = .ok (.bipush 10, 2) := kd_16 (a := 10) (by decide +kernel)
theorem dX11_init_91 : decode cX11_init 91 = .ok (.newarray .int, 2) := by decide +kernel
theorem dX11_init_93 : decode cX11_init 93 = .ok (.putfield 45, 3) := kd_181 (a := 0) (b := 45) (by decide +kernel)
theorem dX11_init_96 : decode cX11_init 96 = .ok (.aload_n 0, 1) := kd_42 (by decide +kernel)
theorem dX11_init_97 : decode cX11_init 97 = .ok (.sipush 150, 3) := kd_17 (a := 0) (b := 150) (by decide +kernel)
theorem dX11_init_100 : decode cX11_init 100 = .ok (.newarray .int, 2) := by decide +kernel
theorem dX11_init_102 : decode cX11_init 102 = .ok (.putfield 48, 3) := kd_181 (a := 0) (b := 48) (by decide +kernel)
theorem dX11_init_105 : decode cX11_init 105 = .ok (.aload_n 0, 1) := kd_42 (by decide +kernel)
theorem dX11_init_106 : decode cX11_init 106 = .ok (.sipush 135, 3) := kd_17 (a := 0) (b := 135) (by decide +kernel)
theorem dX11_init_109 : decode cX11_init 109 = .ok (.newarray .int, 2) := by decide +kernel
theorem dX11_init_111 : decode cX11_init 111 = .ok (.putfield 51, 3) := kd_181 (a := 0) (b := 51) (by decide +kernel)
theorem dX11_init_114 : decode cX11_init 114 = .ok (.aload_n 0, 1) := kd_42 (by decide +kernel)
theorem dX11_init_115 : decode cX11_init 115 = .ok (.iconst 3, 1) := kd_6 (by decide +kernel)
theorem dX11_init_116 : decode cX11_init 116 = .ok (.newarray .int, 2) := by decide +kernel
theorem dX11_init_118 : decode cX11_init 118 = .ok (.putfield 54, 3) := kd_181 (a := 0) (b := 54) (by decide +kernel)
theorem dX11_init_121 : decode cX11_init 121 = .ok (.aload_n 0, 1) := kd_42 (by decide +kernel)
theorem dX11_init_122 : decode cX11_init 122 = .ok (.getfield 7, 3) := kd_180 (a := 0) (b := 7) (by decide +kernel)
theorem gX11_init_X11_begin : GoodIn wsX11_init (va_wsS RX11 57 yX11_begin wsX11_begin) := gW_S (in_r6 (List.mem_of_getElem? (i := 15) rfl)) (in_r6 (List.mem_of_getElem? (i := 16) rfl)) (in_r1 (List.mem_of_getElem? (i := 5) rfl)) (in_r6 (List.mem_of_getElem? (i := 17) rfl))
theorem dX11_init_125 : decode cX11_init 125 = .ok (.invokestatic 57, 3) := kd_184 (a := 0) (b := 57) (by decide +kernel)
theorem dX11_init_128 : decode cX11_init 128 = .ok (.return_, 1) := kd_177 (by decide +kernel)
set_option maxHeartbeats 8000000 in
set_option maxRecDepth 100000 in
theorem c_X11_init (l : Launch) (G : gG) (m0 : Nat) (sz : Nat) : gV G l yX11_init wsX11_init ({ frames := 1, cells := 14, slots := 1395, locals := 21 } : Room) [.ref m0] [(m0, .inr (10, [.null, .null, .null, .null, .long 0, .long 0, .null, .null, .null, .null, .null, .null, .null, .null, .int 0, .int 0, .int 0, .int 0, .int 0, .null, .null]))] sz (fun (u : va_W) => (∃ m0A : Nat, ∃ m0K : Nat, ∃ m0I : Nat, ∃ m0R : Nat, ∃ m0H : Nat, ∃ m0F : Nat, ∃ m0W : Nat, ∃ m0L : Nat, ∃ m0B : Nat, ∃ m0T : Nat, ∃ m0O : Nat, ∃ m0Y : Nat, ∃ m0N : Nat, ∃ m0V : Nat, u = [(m0, .inr (10, [.ref m0A, .ref m0K, .ref m0I, .ref m0R, .long 0, .long 1, .ref m0H, .ref m0F, .ref m0W, .ref m0L, .ref m0B, .ref m0T, .ref m0O, .ref m0Y, .int 0, .int 0, .int 0, .int 0, .int 0, .ref m0N, .ref m0V])), zB G m0A 311, zB G m0K 622, (m0I, .inl (G.2 1, 2, .inl (fun _ => 0))), zB G m0R 3, zB G m0H 56, zB G m0F 31, zB G m0W 31, zB G m0L 31, zB G m0B 4, zB G m0T 6, zB G m0O 10, zB G m0Y 150, zB G m0N 135, zB G m0V 3])) := by
  refine Met.ofW (cc := cX11_init) (maxL := 1) (ret := none) (by decide) rfl ?_
  intro p e s m args below meth c s₁ B hml hv
  obtain ⟨rfl, hsz, hP, hK, hD0, hN, hZ⟩ := hv
  have hx := B.exec
  have hb := B.bytes
  have hr := B.returns
  have hts := atoms_spec (ws := wsX11_init) B.pre
  have hown : s.vm.findClass RX11 = some m.cls := findClass_of_methodNamed B.named
  have hlocks := B.notSynchronized
  have hin : meth.name = "<init>" := (name_of_methodNamed B.named B.method).1
  subst hsz
  have hD := hD0.self (sz := s.heap.size)
  generalize hAe : va_A [(m0, .inr (10, [.null, .null, .null, .null, .long 0, .long 0, .null, .null, .null, .null, .null, .null, .null, .null, .int 0, .int 0, .int 0, .int 0, .int 0, .null, .null]))] s.heap.size = A at hD hZ ⊢
  have hA : ∀ q : Nat, s.heap.size ≤ q → A q := fun q h => by rw [← hAe]; exact Or.inr h
  have hS : va_S A s.heap s.heap [] := va_S.rf
  have hP : va_P G.1 vwCl [(m0, .inr (10, [.null, .null, .null, .null, .long 0, .long 0, .null, .null, .null, .null, .null, .null, .null, .null, .int 0, .int 0, .int 0, .int 0, .int 0, .null, .null]))] s.heap := hP
  have hl := lv_entry ([.ref m0]) (n := 1) (Nat.le_of_ble_eq_true rfl)
  rw [lg_entry_eq]
  generalize (lg_sl ([.ref m0]) ++ List.replicate (1 - (lg_sl ([.ref m0])).length) Slot.unset).toArray = ls at hl ⊢
  have hl : lv_has ls 1 [(0, .ref m0)] := hl
  refine lv_aload_n hx hb dX11_init_0 rfl (lv_at hl 0 rfl) ?_
  refine W.objInit hx hb hown (hts _ (List.mem_cons_of_mem _ (in_r5 (List.mem_of_getElem? (i := 23) rfl)))) (hts _ (List.mem_cons_of_mem _ (in_r1 (List.mem_of_getElem? (i := 10) rfl)))) (hts _ (List.mem_cons_of_mem _ (in_r1 (List.mem_of_getElem? (i := 11) rfl)))) rfl (by rw [hml]; exact hl.1) rfl dX11_init_1 (Nat.le_of_ble_eq_true rfl) (Nat.le_of_ble_eq_true rfl) ?_
  refine W.eq (g2 := F0 m 4 ls []) rfl ?_
  refine lv_aload_n hx hb dX11_init_4 rfl (lv_at hl 0 rfl) ?_
  refine lv_sipush (v := 311) hx hb dX11_init_5 (by decide) ?_
  refine g_newi (N' := 311) hx hb (hts _ (List.mem_cons_of_mem _ (in_r3 (List.mem_of_getElem? (i := 2) rfl)))) hK hP hD hS hA (by decide) (by decide) (Nat.le_of_ble_eq_true rfl) (Nat.le_of_ble_eq_true rfl) (Nat.le_of_ble_eq_true rfl) dX11_init_8 (fun q_1 H hP hD hS => ?_)
  have hPD : PD G A H [(m0, .inr (10, [.null, .null, .null, .null, .long 0, .long 0, .null, .null, .null, .null, .null, .null, .null, .null, .int 0, .int 0, .int 0, .int 0, .int 0, .null, .null])), zB G q_1 311] := ⟨hP, hD⟩
  have hP := hPD.1
  have hD := hPD.2
  clear hPD
  refine W.widen (k := 1) (n := 311) (Nat.le_of_ble_eq_true rfl) (Nat.le_of_ble_eq_true rfl) ?_
  refine va_putF (D := G.1) (ci := 10) (v := .ref q_1) (ty := (.array .int)) (C := RX11) (T := TX11) (N := 21) hx hb hts (fun _ h => List.mem_cons_of_mem _ (inlX11 _ h)) tyX11 tyX11_ok nmX11 hown hK hP hD hS 0 rfl rfl 0 (by decide) (hts _ (List.mem_cons_of_mem _ (in_r6 (List.mem_of_getElem? (i := 0) rfl)))) (fun _ h9 => h9) rfl hin rfl (by decide +kernel) rfl rfl (Nat.le_of_ble_eq_true rfl) dX11_init_10 (fun H locs hP hD hS => ?_)
  have hPD : PD G A H [(m0, .inr (10, [.ref q_1, .null, .null, .null, .long 0, .long 0, .null, .null, .null, .null, .null, .null, .null, .null, .int 0, .int 0, .int 0, .int 0, .int 0, .null, .null])), zB G q_1 311] := ⟨hP, hD⟩
  have hP := hPD.1
  have hD := hPD.2
  clear hPD
  refine lv_aload_n hx hb dX11_init_13 rfl (lv_at hl 0 rfl) ?_
  refine lv_sipush (v := 622) hx hb dX11_init_14 (by decide) ?_
  refine g_newi (N' := 622) hx hb (hts _ (List.mem_cons_of_mem _ (in_r3 (List.mem_of_getElem? (i := 2) rfl)))) hK hP hD hS hA (by decide) (by decide) (Nat.le_of_ble_eq_true rfl) (Nat.le_of_ble_eq_true rfl) (Nat.le_of_ble_eq_true rfl) dX11_init_17 (fun q_2 H hP hD hS => ?_)
  have hPD : PD G A H [(m0, .inr (10, [.ref q_1, .null, .null, .null, .long 0, .long 0, .null, .null, .null, .null, .null, .null, .null, .null, .int 0, .int 0, .int 0, .int 0, .int 0, .null, .null])), zB G q_1 311, zB G q_2 622] := ⟨hP, hD⟩
  have hP := hPD.1
  have hD := hPD.2
  clear hPD
  refine W.widen (k := 2) (n := 933) (Nat.le_of_ble_eq_true rfl) (Nat.le_of_ble_eq_true rfl) ?_
  refine va_putF (D := G.1) (ci := 10) (v := .ref q_2) (ty := (.array .int)) (C := RX11) (T := TX11) (N := 21) hx hb hts (fun _ h => List.mem_cons_of_mem _ (inlX11 _ h)) tyX11 tyX11_ok nmX11 hown hK hP hD hS 0 rfl rfl 1 (by decide) (hts _ (List.mem_cons_of_mem _ (in_r6 (List.mem_of_getElem? (i := 1) rfl)))) (fun _ h9 => h9) rfl hin rfl (by decide +kernel) rfl rfl (Nat.le_of_ble_eq_true rfl) dX11_init_19 (fun H locs hP hD hS => ?_)
  have hPD : PD G A H [(m0, .inr (10, [.ref q_1, .ref q_2, .null, .null, .long 0, .long 0, .null, .null, .null, .null, .null, .null, .null, .null, .int 0, .int 0, .int 0, .int 0, .int 0, .null, .null])), zB G q_1 311, zB G q_2 622] := ⟨hP, hD⟩
  have hP := hPD.1
  have hD := hPD.2
  clear hPD
  refine lv_aload_n hx hb dX11_init_22 rfl (lv_at hl 0 rfl) ?_
  refine lv_iconst (v := 2) hx hb dX11_init_23 (by decide) ?_
  refine g_newz (N' := 2) hx hb (hts _ (List.mem_cons_of_mem _ (in_r1 (List.mem_of_getElem? (i := 18) rfl)))) hK hP hD hS hA (by decide) (by decide) (Nat.le_of_ble_eq_true rfl) (Nat.le_of_ble_eq_true rfl) (Nat.le_of_ble_eq_true rfl) dX11_init_24 (fun q_3 H hP hD hS => ?_)
  have hPD : PD G A H [(m0, .inr (10, [.ref q_1, .ref q_2, .null, .null, .long 0, .long 0, .null, .null, .null, .null, .null, .null, .null, .null, .int 0, .int 0, .int 0, .int 0, .int 0, .null, .null])), zB G q_1 311, zB G q_2 622, (q_3, .inl (G.2 1, 2, .inl (fun _ => 0)))] := ⟨hP, hD⟩
  have hP := hPD.1
  have hD := hPD.2
  clear hPD
  refine W.widen (k := 3) (n := 935) (Nat.le_of_ble_eq_true rfl) (Nat.le_of_ble_eq_true rfl) ?_
  refine va_putF (D := G.1) (ci := 10) (v := .ref q_3) (ty := (.array .boolean)) (C := RX11) (T := TX11) (N := 21) hx hb hts (fun _ h => List.mem_cons_of_mem _ (inlX11 _ h)) tyX11 tyX11_ok nmX11 hown hK hP hD hS 0 rfl rfl 2 (by decide) (hts _ (List.mem_cons_of_mem _ (in_r6 (List.mem_of_getElem? (i := 2) rfl)))) (fun _ h9 => h9) rfl hin rfl (by decide +kernel) rfl rfl (Nat.le_of_ble_eq_true rfl) dX11_init_26 (fun H locs hP hD hS => ?_)
  have hPD : PD G A H [(m0, .inr (10, [.ref q_1, .ref q_2, .ref q_3, .null, .long 0, .long 0, .null, .null, .null, .null, .null, .null, .null, .null, .int 0, .int 0, .int 0, .int 0, .int 0, .null, .null])), zB G q_1 311, zB G q_2 622, (q_3, .inl (G.2 1, 2, .inl (fun _ => 0)))] := ⟨hP, hD⟩
  have hP := hPD.1
  have hD := hPD.2
  clear hPD
  refine lv_aload_n hx hb dX11_init_29 rfl (lv_at hl 0 rfl) ?_
  refine lv_iconst (v := 3) hx hb dX11_init_30 (by decide) ?_
  refine g_newi (N' := 3) hx hb (hts _ (List.mem_cons_of_mem _ (in_r3 (List.mem_of_getElem? (i := 2) rfl)))) hK hP hD hS hA (by decide) (by decide) (Nat.le_of_ble_eq_true rfl) (Nat.le_of_ble_eq_true rfl) (Nat.le_of_ble_eq_true rfl) dX11_init_31 (fun q_4 H hP hD hS => ?_)
  have hPD : PD G A H [(m0, .inr (10, [.ref q_1, .ref q_2, .ref q_3, .null, .long 0, .long 0, .null, .null, .null, .null, .null, .null, .null, .null, .int 0, .int 0, .int 0, .int 0, .int 0, .null, .null])), zB G q_1 311, zB G q_2 622, (q_3, .inl (G.2 1, 2, .inl (fun _ => 0))), zB G q_4 3] := ⟨hP, hD⟩
  have hP := hPD.1
  have hD := hPD.2
  clear hPD
  refine W.widen (k := 4) (n := 938) (Nat.le_of_ble_eq_true rfl) (Nat.le_of_ble_eq_true rfl) ?_
  refine va_putF (D := G.1) (ci := 10) (v := .ref q_4) (ty := (.array .int)) (C := RX11) (T := TX11) (N := 21) hx hb hts (fun _ h => List.mem_cons_of_mem _ (inlX11 _ h)) tyX11 tyX11_ok nmX11 hown hK hP hD hS 0 rfl rfl 3 (by decide) (hts _ (List.mem_cons_of_mem _ (in_r6 (List.mem_of_getElem? (i := 3) rfl)))) (fun _ h9 => h9) rfl hin rfl (by decide +kernel) rfl rfl (Nat.le_of_ble_eq_true rfl) dX11_init_33 (fun H locs hP hD hS => ?_)
  have hPD : PD G A H [(m0, .inr (10, [.ref q_1, .ref q_2, .ref q_3, .ref q_4, .long 0, .long 0, .null, .null, .null, .null, .null, .null, .null, .null, .int 0, .int 0, .int 0, .int 0, .int 0, .null, .null])), zB G q_1 311, zB G q_2 622, (q_3, .inl (G.2 1, 2, .inl (fun _ => 0))), zB G q_4 3] := ⟨hP, hD⟩
  have hP := hPD.1
  have hD := hPD.2
  clear hPD
  refine lv_aload_n hx hb dX11_init_36 rfl (lv_at hl 0 rfl) ?_
  refine lv_lconst (v := 1) hx hb dX11_init_37 (by decide) ?_
  refine va_put (D := G.1) (ci := 10) (v := .long 1) (ty := .long) (C := RX11) (T := TX11) (N := 21) hx hb hts (fun _ h => List.mem_cons_of_mem _ (inlX11 _ h)) tyX11 tyX11_ok nmX11 hown hK hP hD hS 0 rfl rfl 5 (by decide) (hts _ (List.mem_cons_of_mem _ (in_r6 (List.mem_of_getElem? (i := 4) rfl)))) (fun _ h9 => h9) rfl (by decide +kernel) rfl rfl (Nat.le_of_ble_eq_true rfl) dX11_init_38 (fun H locs hP hD hS => ?_)
  have hPD : PD G A H [(m0, .inr (10, [.ref q_1, .ref q_2, .ref q_3, .ref q_4, .long 0, .long 1, .null, .null, .null, .null, .null, .null, .null, .null, .int 0, .int 0, .int 0, .int 0, .int 0, .null, .null])), zB G q_1 311, zB G q_2 622, (q_3, .inl (G.2 1, 2, .inl (fun _ => 0))), zB G q_4 3] := ⟨hP, hD⟩
  have hP := hPD.1
  have hD := hPD.2
  clear hPD
  refine lv_aload_n hx hb dX11_init_41 rfl (lv_at hl 0 rfl) ?_
  refine lv_bipush (v := 56) hx hb dX11_init_42 (by decide) ?_
  refine g_newi (N' := 56) hx hb (hts _ (List.mem_cons_of_mem _ (in_r3 (List.mem_of_getElem? (i := 2) rfl)))) hK hP hD hS hA (by decide) (by decide) (Nat.le_of_ble_eq_true rfl) (Nat.le_of_ble_eq_true rfl) (Nat.le_of_ble_eq_true rfl) dX11_init_44 (fun q_5 H hP hD hS => ?_)
  have hPD : PD G A H [(m0, .inr (10, [.ref q_1, .ref q_2, .ref q_3, .ref q_4, .long 0, .long 1, .null, .null, .null, .null, .null, .null, .null, .null, .int 0, .int 0, .int 0, .int 0, .int 0, .null, .null])), zB G q_1 311, zB G q_2 622, (q_3, .inl (G.2 1, 2, .inl (fun _ => 0))), zB G q_4 3, zB G q_5 56] := ⟨hP, hD⟩
  have hP := hPD.1
  have hD := hPD.2
  clear hPD
  refine W.widen (k := 5) (n := 994) (Nat.le_of_ble_eq_true rfl) (Nat.le_of_ble_eq_true rfl) ?_
  refine va_putF (D := G.1) (ci := 10) (v := .ref q_5) (ty := (.array .int)) (C := RX11) (T := TX11) (N := 21) hx hb hts (fun _ h => List.mem_cons_of_mem _ (inlX11 _ h)) tyX11 tyX11_ok nmX11 hown hK hP hD hS 0 rfl rfl 6 (by decide) (hts _ (List.mem_cons_of_mem _ (in_r6 (List.mem_of_getElem? (i := 5) rfl)))) (fun _ h9 => h9) rfl hin rfl (by decide +kernel) rfl rfl (Nat.le_of_ble_eq_true rfl) dX11_init_46 (fun H locs hP hD hS => ?_)
  have hPD : PD G A H [(m0, .inr (10, [.ref q_1, .ref q_2, .ref q_3, .ref q_4, .long 0, .long 1, .ref q_5, .null, .null, .null, .null, .null, .null, .null, .int 0, .int 0, .int 0, .int 0, .int 0, .null, .null])), zB G q_1 311, zB G q_2 622, (q_3, .inl (G.2 1, 2, .inl (fun _ => 0))), zB G q_4 3, zB G q_5 56] := ⟨hP, hD⟩
  have hP := hPD.1
  have hD := hPD.2
  clear hPD
  refine lv_aload_n hx hb dX11_init_49 rfl (lv_at hl 0 rfl) ?_
  refine lv_bipush (v := 31) hx hb dX11_init_50 (by decide) ?_
  refine g_newi (N' := 31) hx hb (hts _ (List.mem_cons_of_mem _ (in_r3 (List.mem_of_getElem? (i := 2) rfl)))) hK hP hD hS hA (by decide) (by decide) (Nat.le_of_ble_eq_true rfl) (Nat.le_of_ble_eq_true rfl) (Nat.le_of_ble_eq_true rfl) dX11_init_52 (fun q_6 H hP hD hS => ?_)
  have hPD : PD G A H [(m0, .inr (10, [.ref q_1, .ref q_2, .ref q_3, .ref q_4, .long 0, .long 1, .ref q_5, .null, .null, .null, .null, .null, .null, .null, .int 0, .int 0, .int 0, .int 0, .int 0, .null, .null])), zB G q_1 311, zB G q_2 622, (q_3, .inl (G.2 1, 2, .inl (fun _ => 0))), zB G q_4 3, zB G q_5 56, zB G q_6 31] := ⟨hP, hD⟩
  have hP := hPD.1
  have hD := hPD.2
  clear hPD
  refine W.widen (k := 6) (n := 1025) (Nat.le_of_ble_eq_true rfl) (Nat.le_of_ble_eq_true rfl) ?_
  refine va_putF (D := G.1) (ci := 10) (v := .ref q_6) (ty := (.array .int)) (C := RX11) (T := TX11) (N := 21) hx hb hts (fun _ h => List.mem_cons_of_mem _ (inlX11 _ h)) tyX11 tyX11_ok nmX11 hown hK hP hD hS 0 rfl rfl 7 (by decide) (hts _ (List.mem_cons_of_mem _ (in_r6 (List.mem_of_getElem? (i := 6) rfl)))) (fun _ h9 => h9) rfl hin rfl (by decide +kernel) rfl rfl (Nat.le_of_ble_eq_true rfl) dX11_init_54 (fun H locs hP hD hS => ?_)
  have hPD : PD G A H [(m0, .inr (10, [.ref q_1, .ref q_2, .ref q_3, .ref q_4, .long 0, .long 1, .ref q_5, .ref q_6, .null, .null, .null, .null, .null, .null, .int 0, .int 0, .int 0, .int 0, .int 0, .null, .null])), zB G q_1 311, zB G q_2 622, (q_3, .inl (G.2 1, 2, .inl (fun _ => 0))), zB G q_4 3, zB G q_5 56, zB G q_6 31] := ⟨hP, hD⟩
  have hP := hPD.1
  have hD := hPD.2
  clear hPD
  refine lv_aload_n hx hb dX11_init_57 rfl (lv_at hl 0 rfl) ?_
  refine lv_bipush (v := 31) hx hb dX11_init_58 (by decide) ?_
  refine g_newi (N' := 31) hx hb (hts _ (List.mem_cons_of_mem _ (in_r3 (List.mem_of_getElem? (i := 2) rfl)))) hK hP hD hS hA (by decide) (by decide) (Nat.le_of_ble_eq_true rfl) (Nat.le_of_ble_eq_true rfl) (Nat.le_of_ble_eq_true rfl) dX11_init_60 (fun q_7 H hP hD hS => ?_)
  have hPD : PD G A H [(m0, .inr (10, [.ref q_1, .ref q_2, .ref q_3, .ref q_4, .long 0, .long 1, .ref q_5, .ref q_6, .null, .null, .null, .null, .null, .null, .int 0, .int 0, .int 0, .int 0, .int 0, .null, .null])), zB G q_1 311, zB G q_2 622, (q_3, .inl (G.2 1, 2, .inl (fun _ => 0))), zB G q_4 3, zB G q_5 56, zB G q_6 31, zB G q_7 31] := ⟨hP, hD⟩
  have hP := hPD.1
  have hD := hPD.2
  clear hPD
  refine W.widen (k := 7) (n := 1056) (Nat.le_of_ble_eq_true rfl) (Nat.le_of_ble_eq_true rfl) ?_
  refine va_putF (D := G.1) (ci := 10) (v := .ref q_7) (ty := (.array .int)) (C := RX11) (T := TX11) (N := 21) hx hb hts (fun _ h => List.mem_cons_of_mem _ (inlX11 _ h)) tyX11 tyX11_ok nmX11 hown hK hP hD hS 0 rfl rfl 8 (by decide) (hts _ (List.mem_cons_of_mem _ (in_r6 (List.mem_of_getElem? (i := 7) rfl)))) (fun _ h9 => h9) rfl hin rfl (by decide +kernel) rfl rfl (Nat.le_of_ble_eq_true rfl) dX11_init_62 (fun H locs hP hD hS => ?_)
  have hPD : PD G A H [(m0, .inr (10, [.ref q_1, .ref q_2, .ref q_3, .ref q_4, .long 0, .long 1, .ref q_5, .ref q_6, .ref q_7, .null, .null, .null, .null, .null, .int 0, .int 0, .int 0, .int 0, .int 0, .null, .null])), zB G q_1 311, zB G q_2 622, (q_3, .inl (G.2 1, 2, .inl (fun _ => 0))), zB G q_4 3, zB G q_5 56, zB G q_6 31, zB G q_7 31] := ⟨hP, hD⟩
  have hP := hPD.1
  have hD := hPD.2
  clear hPD
  refine lv_aload_n hx hb dX11_init_65 rfl (lv_at hl 0 rfl) ?_
  refine lv_bipush (v := 31) hx hb dX11_init_66 (by decide) ?_
  refine g_newi (N' := 31) hx hb (hts _ (List.mem_cons_of_mem _ (in_r3 (List.mem_of_getElem? (i := 2) rfl)))) hK hP hD hS hA (by decide) (by decide) (Nat.le_of_ble_eq_true rfl) (Nat.le_of_ble_eq_true rfl) (Nat.le_of_ble_eq_true rfl) dX11_init_68 (fun q_8 H hP hD hS => ?_)
  have hPD : PD G A H [(m0, .inr (10, [.ref q_1, .ref q_2, .ref q_3, .ref q_4, .long 0, .long 1, .ref q_5, .ref q_6, .ref q_7, .null, .null, .null, .null, .null, .int 0, .int 0, .int 0, .int 0, .int 0, .null, .null])), zB G q_1 311, zB G q_2 622, (q_3, .inl (G.2 1, 2, .inl (fun _ => 0))), zB G q_4 3, zB G q_5 56, zB G q_6 31, zB G q_7 31, zB G q_8 31] := ⟨hP, hD⟩
  have hP := hPD.1
  have hD := hPD.2
  clear hPD
  refine W.widen (k := 8) (n := 1087) (Nat.le_of_ble_eq_true rfl) (Nat.le_of_ble_eq_true rfl) ?_
  refine va_putF (D := G.1) (ci := 10) (v := .ref q_8) (ty := (.array .int)) (C := RX11) (T := TX11) (N := 21) hx hb hts (fun _ h => List.mem_cons_of_mem _ (inlX11 _ h)) tyX11 tyX11_ok nmX11 hown hK hP hD hS 0 rfl rfl 9 (by decide) (hts _ (List.mem_cons_of_mem _ (in_r6 (List.mem_of_getElem? (i := 8) rfl)))) (fun _ h9 => h9) rfl hin rfl (by decide +kernel) rfl rfl (Nat.le_of_ble_eq_true rfl) dX11_init_70 (fun H locs hP hD hS => ?_)
  have hPD : PD G A H [(m0, .inr (10, [.ref q_1, .ref q_2, .ref q_3, .ref q_4, .long 0, .long 1, .ref q_5, .ref q_6, .ref q_7, .ref q_8, .null, .null, .null, .null, .int 0, .int 0, .int 0, .int 0, .int 0, .null, .null])), zB G q_1 311, zB G q_2 622, (q_3, .inl (G.2 1, 2, .inl (fun _ => 0))), zB G q_4 3, zB G q_5 56, zB G q_6 31, zB G q_7 31, zB G q_8 31] := ⟨hP, hD⟩
  have hP := hPD.1
  have hD := hPD.2
  clear hPD
  refine lv_aload_n hx hb dX11_init_73 rfl (lv_at hl 0 rfl) ?_
  refine lv_iconst (v := 4) hx hb dX11_init_74 (by decide) ?_
  refine g_newi (N' := 4) hx hb (hts _ (List.mem_cons_of_mem _ (in_r3 (List.mem_of_getElem? (i := 2) rfl)))) hK hP hD hS hA (by decide) (by decide) (Nat.le_of_ble_eq_true rfl) (Nat.le_of_ble_eq_true rfl) (Nat.le_of_ble_eq_true rfl) dX11_init_75 (fun q_9 H hP hD hS => ?_)
  have hPD : PD G A H [(m0, .inr (10, [.ref q_1, .ref q_2, .ref q_3, .ref q_4, .long 0, .long 1, .ref q_5, .ref q_6, .ref q_7, .ref q_8, .null, .null, .null, .null, .int 0, .int 0, .int 0, .int 0, .int 0, .null, .null])), zB G q_1 311, zB G q_2 622, (q_3, .inl (G.2 1, 2, .inl (fun _ => 0))), zB G q_4 3, zB G q_5 56, zB G q_6 31, zB G q_7 31, zB G q_8 31, zB G q_9 4] := ⟨hP, hD⟩
  have hP := hPD.1
  have hD := hPD.2
  clear hPD
  refine W.widen (k := 9) (n := 1091) (Nat.le_of_ble_eq_true rfl) (Nat.le_of_ble_eq_true rfl) ?_
  refine va_putF (D := G.1) (ci := 10) (v := .ref q_9) (ty := (.array .int)) (C := RX11) (T := TX11) (N := 21) hx hb hts (fun _ h => List.mem_cons_of_mem _ (inlX11 _ h)) tyX11 tyX11_ok nmX11 hown hK hP hD hS 0 rfl rfl 10 (by decide) (hts _ (List.mem_cons_of_mem _ (in_r6 (List.mem_of_getElem? (i := 9) rfl)))) (fun _ h9 => h9) rfl hin rfl (by decide +kernel) rfl rfl (Nat.le_of_ble_eq_true rfl) dX11_init_77 (fun H locs hP hD hS => ?_)
  have hPD : PD G A H [(m0, .inr (10, [.ref q_1, .ref q_2, .ref q_3, .ref q_4, .long 0, .long 1, .ref q_5, .ref q_6, .ref q_7, .ref q_8, .ref q_9, .null, .null, .null, .int 0, .int 0, .int 0, .int 0, .int 0, .null, .null])), zB G q_1 311, zB G q_2 622, (q_3, .inl (G.2 1, 2, .inl (fun _ => 0))), zB G q_4 3, zB G q_5 56, zB G q_6 31, zB G q_7 31, zB G q_8 31, zB G q_9 4] := ⟨hP, hD⟩
  have hP := hPD.1
  have hD := hPD.2
  clear hPD
  refine lv_aload_n hx hb dX11_init_80 rfl (lv_at hl 0 rfl) ?_
  refine lv_bipush (v := 6) hx hb dX11_init_81 (by decide) ?_
  refine g_newi (N' := 6) hx hb (hts _ (List.mem_cons_of_mem _ (in_r3 (List.mem_of_getElem? (i := 2) rfl)))) hK hP hD hS hA (by decide) (by decide) (Nat.le_of_ble_eq_true rfl) (Nat.le_of_ble_eq_true rfl) (Nat.le_of_ble_eq_true rfl) dX11_init_83 (fun q_10 H hP hD hS => ?_)
  have hPD : PD G A H [(m0, .inr (10, [.ref q_1, .ref q_2, .ref q_3, .ref q_4, .long 0, .long 1, .ref q_5, .ref q_6, .ref q_7, .ref q_8, .ref q_9, .null, .null, .null, .int 0, .int 0, .int 0, .int 0, .int 0, .null, .null])), zB G q_1 311, zB G q_2 622, (q_3, .inl (G.2 1, 2, .inl (fun _ => 0))), zB G q_4 3, zB G q_5 56, zB G q_6 31, zB G q_7 31, zB G q_8 31, zB G q_9 4, zB G q_10 6] := ⟨hP, hD⟩
  have hP := hPD.1
  have hD := hPD.2
  clear hPD
  refine W.widen (k := 10) (n := 1097) (Nat.le_of_ble_eq_true rfl) (Nat.le_of_ble_eq_true rfl) ?_
  refine va_putF (D := G.1) (ci := 10) (v := .ref q_10) (ty := (.array .int)) (C := RX11) (T := TX11) (N := 21) hx hb hts (fun _ h => List.mem_cons_of_mem _ (inlX11 _ h)) tyX11 tyX11_ok nmX11 hown hK hP hD hS 0 rfl rfl 11 (by decide) (hts _ (List.mem_cons_of_mem _ (in_r6 (List.mem_of_getElem? (i := 10) rfl)))) (fun _ h9 => h9) rfl hin rfl (by decide +kernel) rfl rfl (Nat.le_of_ble_eq_true rfl) dX11_init_85 (fun H locs hP hD hS => ?_)
  have hPD : PD G A H [(m0, .inr (10, [.ref q_1, .ref q_2, .ref q_3, .ref q_4, .long 0, .long 1, .ref q_5, .ref q_6, .ref q_7, .ref q_8, .ref q_9, .ref q_10, .null, .null, .int 0, .int 0, .int 0, .int 0, .int 0, .null, .null])), zB G q_1 311, zB G q_2 622, (q_3, .inl (G.2 1, 2, .inl (fun _ => 0))), zB G q_4 3, zB G q_5 56, zB G q_6 31, zB G q_7 31, zB G q_8 31, zB G q_9 4, zB G q_10 6] := ⟨hP, hD⟩
  have hP := hPD.1
  have hD := hPD.2
  clear hPD
  refine lv_aload_n hx hb dX11_init_88 rfl (lv_at hl 0 rfl) ?_
  refine lv_bipush (v := 10) hx hb dX11_init_89 (by decide) ?_
  refine g_newi (N' := 10) hx hb (hts _ (List.mem_cons_of_mem _ (in_r3 (List.mem_of_getElem? (i := 2) rfl)))) hK hP hD hS hA (by decide) (by decide) (Nat.le_of_ble_eq_true rfl) (Nat.le_of_ble_eq_true rfl) (Nat.le_of_ble_eq_true rfl) dX11_init_91 (fun q_11 H hP hD hS => ?_)
  have hPD : PD G A H [(m0, .inr (10, [.ref q_1, .ref q_2, .ref q_3, .ref q_4, .long 0, .long 1, .ref q_5, .ref q_6, .ref q_7, .ref q_8, .ref q_9, .ref q_10, .null, .null, .int 0, .int 0, .int 0, .int 0, .int 0, .null, .null])), zB G q_1 311, zB G q_2 622, (q_3, .inl (G.2 1, 2, .inl (fun _ => 0))), zB G q_4 3, zB G q_5 56, zB G q_6 31, zB G q_7 31, zB G q_8 31, zB G q_9 4, zB G q_10 6, zB G q_11 10] := ⟨hP, hD⟩
  have hP := hPD.1
  have hD := hPD.2
  clear hPD
  refine W.widen (k := 11) (n := 1107) (Nat.le_of_ble_eq_true rfl) (Nat.le_of_ble_eq_true rfl) ?_
  refine va_putF (D := G.1) (ci := 10) (v := .ref q_11) (ty := (.array .int)) (C := RX11) (T := TX11) (N := 21) hx hb hts (fun _ h => List.mem_cons_of_mem _ (inlX11 _ h)) tyX11 tyX11_ok nmX11 hown hK hP hD hS 0 rfl rfl 12 (by decide) (hts _ (List.mem_cons_of_mem _ (in_r6 (List.mem_of_getElem? (i := 11) rfl)))) (fun _ h9 => h9) rfl hin rfl (by decide +kernel) rfl rfl (Nat.le_of_ble_eq_true rfl) dX11_init_93 (fun H locs hP hD hS => ?_)
  have hPD : PD G A H [(m0, .inr (10, [.ref q_1, .ref q_2, .ref q_3, .ref q_4, .long 0, .long 1, .ref q_5, .ref q_6, .ref q_7, .ref q_8, .ref q_9, .ref q_10, .ref q_11, .null, .int 0, .int 0, .int 0, .int 0, .int 0, .null, .null])), zB G q_1 311, zB G q_2 622, (q_3, .inl (G.2 1, 2, .inl (fun _ => 0))), zB G q_4 3, zB G q_5 56, zB G q_6 31, zB G q_7 31, zB G q_8 31, zB G q_9 4, zB G q_10 6, zB G q_11 10] := ⟨hP, hD⟩
  have hP := hPD.1
  have hD := hPD.2
  clear hPD
  refine lv_aload_n hx hb dX11_init_96 rfl (lv_at hl 0 rfl) ?_
  refine lv_sipush (v := 150) hx hb dX11_init_97 (by decide) ?_
  refine g_newi (N' := 150) hx hb (hts _ (List.mem_cons_of_mem _ (in_r3 (List.mem_of_getElem? (i := 2) rfl)))) hK hP hD hS hA (by decide) (by decide) (Nat.le_of_ble_eq_true rfl) (Nat.le_of_ble_eq_true rfl) (Nat.le_of_ble_eq_true rfl) dX11_init_100 (fun q_12 H hP hD hS => ?_)
  have hPD : PD G A H [(m0, .inr (10, [.ref q_1, .ref q_2, .ref q_3, .ref q_4, .long 0, .long 1, .ref q_5, .ref q_6, .ref q_7, .ref q_8, .ref q_9, .ref q_10, .ref q_11, .null, .int 0, .int 0, .int 0, .int 0, .int 0, .null, .null])), zB G q_1 311, zB G q_2 622, (q_3, .inl (G.2 1, 2, .inl (fun _ => 0))), zB G q_4 3, zB G q_5 56, zB G q_6 31, zB G q_7 31, zB G q_8 31, zB G q_9 4, zB G q_10 6, zB G q_11 10, zB G q_12 150] := ⟨hP, hD⟩
  have hP := hPD.1
  have hD := hPD.2
  clear hPD
  refine W.widen (k := 12) (n := 1257) (Nat.le_of_ble_eq_true rfl) (Nat.le_of_ble_eq_true rfl) ?_
  refine va_putF (D := G.1) (ci := 10) (v := .ref q_12) (ty := (.array .int)) (C := RX11) (T := TX11) (N := 21) hx hb hts (fun _ h => List.mem_cons_of_mem _ (inlX11 _ h)) tyX11 tyX11_ok nmX11 hown hK hP hD hS 0 rfl rfl 13 (by decide) (hts _ (List.mem_cons_of_mem _ (in_r6 (List.mem_of_getElem? (i := 12) rfl)))) (fun _ h9 => h9) rfl hin rfl (by decide +kernel) rfl rfl (Nat.le_of_ble_eq_true rfl) dX11_init_102 (fun H locs hP hD hS => ?_)
  have hPD : PD G A H [(m0, .inr (10, [.ref q_1, .ref q_2, .ref q_3, .ref q_4, .long 0, .long 1, .ref q_5, .ref q_6, .ref q_7, .ref q_8, .ref q_9, .ref q_10, .ref q_11, .ref q_12, .int 0, .int 0, .int 0, .int 0, .int 0, .null, .null])), zB G q_1 311, zB G q_2 622, (q_3, .inl (G.2 1, 2, .inl (fun _ => 0))), zB G q_4 3, zB G q_5 56, zB G q_6 31, zB G q_7 31, zB G q_8 31, zB G q_9 4, zB G q_10 6, zB G q_11 10, zB G q_12 150] := ⟨hP, hD⟩
  have hP := hPD.1
  have hD := hPD.2
  clear hPD
  refine lv_aload_n hx hb dX11_init_105 rfl (lv_at hl 0 rfl) ?_
  refine lv_sipush (v := 135) hx hb dX11_init_106 (by decide) ?_
  refine g_newi (N' := 135) hx hb (hts _ (List.mem_cons_of_mem _ (in_r3 (List.mem_of_getElem? (i := 2) rfl)))) hK hP hD hS hA (by decide) (by decide) (Nat.le_of_ble_eq_true rfl) (Nat.le_of_ble_eq_true rfl) (Nat.le_of_ble_eq_true rfl) dX11_init_109 (fun q_13 H hP hD hS => ?_)
  have hPD : PD G A H [(m0, .inr (10, [.ref q_1, .ref q_2, .ref q_3, .ref q_4, .long 0, .long 1, .ref q_5, .ref q_6, .ref q_7, .ref q_8, .ref q_9, .ref q_10, .ref q_11, .ref q_12, .int 0, .int 0, .int 0, .int 0, .int 0, .null, .null])), zB G q_1 311, zB G q_2 622, (q_3, .inl (G.2 1, 2, .inl (fun _ => 0))), zB G q_4 3, zB G q_5 56, zB G q_6 31, zB G q_7 31, zB G q_8 31, zB G q_9 4, zB G q_10 6, zB G q_11 10, zB G q_12 150, zB G q_13 135] := ⟨hP, hD⟩
  have hP := hPD.1
  have hD := hPD.2
  clear hPD
  refine W.widen (k := 13) (n := 1392) (Nat.le_of_ble_eq_true rfl) (Nat.le_of_ble_eq_true rfl) ?_
  refine va_putF (D := G.1) (ci := 10) (v := .ref q_13) (ty := (.array .int)) (C := RX11) (T := TX11) (N := 21) hx hb hts (fun _ h => List.mem_cons_of_mem _ (inlX11 _ h)) tyX11 tyX11_ok nmX11 hown hK hP hD hS 0 rfl rfl 19 (by decide) (hts _ (List.mem_cons_of_mem _ (in_r6 (List.mem_of_getElem? (i := 13) rfl)))) (fun _ h9 => h9) rfl hin rfl (by decide +kernel) rfl rfl (Nat.le_of_ble_eq_true rfl) dX11_init_111 (fun H locs hP hD hS => ?_)
  have hPD : PD G A H [(m0, .inr (10, [.ref q_1, .ref q_2, .ref q_3, .ref q_4, .long 0, .long 1, .ref q_5, .ref q_6, .ref q_7, .ref q_8, .ref q_9, .ref q_10, .ref q_11, .ref q_12, .int 0, .int 0, .int 0, .int 0, .int 0, .ref q_13, .null])), zB G q_1 311, zB G q_2 622, (q_3, .inl (G.2 1, 2, .inl (fun _ => 0))), zB G q_4 3, zB G q_5 56, zB G q_6 31, zB G q_7 31, zB G q_8 31, zB G q_9 4, zB G q_10 6, zB G q_11 10, zB G q_12 150, zB G q_13 135] := ⟨hP, hD⟩
  have hP := hPD.1
  have hD := hPD.2
  clear hPD
  refine lv_aload_n hx hb dX11_init_114 rfl (lv_at hl 0 rfl) ?_
  refine lv_iconst (v := 3) hx hb dX11_init_115 (by decide) ?_
  refine g_newi (N' := 3) hx hb (hts _ (List.mem_cons_of_mem _ (in_r3 (List.mem_of_getElem? (i := 2) rfl)))) hK hP hD hS hA (by decide) (by decide) (Nat.le_of_ble_eq_true rfl) (Nat.le_of_ble_eq_true rfl) (Nat.le_of_ble_eq_true rfl) dX11_init_116 (fun q_14 H hP hD hS => ?_)
  have hPD : PD G A H [(m0, .inr (10, [.ref q_1, .ref q_2, .ref q_3, .ref q_4, .long 0, .long 1, .ref q_5, .ref q_6, .ref q_7, .ref q_8, .ref q_9, .ref q_10, .ref q_11, .ref q_12, .int 0, .int 0, .int 0, .int 0, .int 0, .ref q_13, .null])), zB G q_1 311, zB G q_2 622, (q_3, .inl (G.2 1, 2, .inl (fun _ => 0))), zB G q_4 3, zB G q_5 56, zB G q_6 31, zB G q_7 31, zB G q_8 31, zB G q_9 4, zB G q_10 6, zB G q_11 10, zB G q_12 150, zB G q_13 135, zB G q_14 3] := ⟨hP, hD⟩
  have hP := hPD.1
  have hD := hPD.2
  clear hPD
  refine W.widen (k := 14) (n := 1395) (Nat.le_of_ble_eq_true rfl) (Nat.le_of_ble_eq_true rfl) ?_
  refine va_putF (D := G.1) (ci := 10) (v := .ref q_14) (ty := (.array .int)) (C := RX11) (T := TX11) (N := 21) hx hb hts (fun _ h => List.mem_cons_of_mem _ (inlX11 _ h)) tyX11 tyX11_ok nmX11 hown hK hP hD hS 0 rfl rfl 20 (by decide) (hts _ (List.mem_cons_of_mem _ (in_r6 (List.mem_of_getElem? (i := 14) rfl)))) (fun _ h9 => h9) rfl hin rfl (by decide +kernel) rfl rfl (Nat.le_of_ble_eq_true rfl) dX11_init_118 (fun H locs hP hD hS => ?_)
  have hPD : PD G A H [(m0, .inr (10, [.ref q_1, .ref q_2, .ref q_3, .ref q_4, .long 0, .long 1, .ref q_5, .ref q_6, .ref q_7, .ref q_8, .ref q_9, .ref q_10, .ref q_11, .ref q_12, .int 0, .int 0, .int 0, .int 0, .int 0, .ref q_13, .ref q_14])), zB G q_1 311, zB G q_2 622, (q_3, .inl (G.2 1, 2, .inl (fun _ => 0))), zB G q_4 3, zB G q_5 56, zB G q_6 31, zB G q_7 31, zB G q_8 31, zB G q_9 4, zB G q_10 6, zB G q_11 10, zB G q_12 150, zB G q_13 135, zB G q_14 3] := ⟨hP, hD⟩
  have hP := hPD.1
  have hD := hPD.2
  clear hPD
  refine lv_aload_n hx hb dX11_init_121 rfl (lv_at hl 0 rfl) ?_
  refine va_get (D := G.1) (ci := 10) (v := .ref q_1) (C := RX11) (T := TX11) (N := 21) hx hb hts (fun _ h => List.mem_cons_of_mem _ (inlX11 _ h)) hown hK hP 0 rfl rfl 0 (by decide) (hts _ (List.mem_cons_of_mem _ (in_r6 (List.mem_of_getElem? (i := 0) rfl)))) (fun _ h9 => h9) rfl dX11_init_122 ?_
  refine g_callvM (wr := [(m0, .inr (10, [.ref q_1, .ref q_2, .ref q_3, .ref q_4, .long 0, .long 1, .ref q_5, .ref q_6, .ref q_7, .ref q_8, .ref q_9, .ref q_10, .ref q_11, .ref q_12, .int 0, .int 0, .int 0, .int 0, .int 0, .ref q_13, .ref q_14])), zB G q_2 622, (q_3, .inl (G.2 1, 2, .inl (fun _ => 0))), zB G q_4 3, zB G q_5 56, zB G q_6 31, zB G q_7 31, zB G q_8 31, zB G q_9 4, zB G q_10 6, zB G q_11 10, zB G q_12 150, zB G q_13 135, zB G q_14 3]) (va_runS (As := [.ref q_1]) (rest := []) ⟨hx, hb, hml, hown, hts⟩ (c_X11_begin0 l G (q_1) _) (va_cwS 1 hts gX11_init_X11_begin rfl rfl rfl (by decide +kernel) ⟨Nat.le_of_ble_eq_true rfl, Nat.le_of_ble_eq_true rfl⟩) (g_preS [.ref q_1] hP hD hK hN hS hA hZ [1] rfl rfl) rfl rfl hl.1 rfl (lv_room (Nat.le_of_ble_eq_true rfl)) dX11_init_125 ⟨Nat.le_of_ble_eq_true rfl, Nat.le_of_ble_eq_true rfl⟩) hP hD hS hA [1] [false, true] rfl rfl rfl (fun u H locs hw hP hD hS => ?_)
  subst hw
  have hPD : PD G A H [(m0, .inr (10, [.ref q_1, .ref q_2, .ref q_3, .ref q_4, .long 0, .long 1, .ref q_5, .ref q_6, .ref q_7, .ref q_8, .ref q_9, .ref q_10, .ref q_11, .ref q_12, .int 0, .int 0, .int 0, .int 0, .int 0, .ref q_13, .ref q_14])), zB G q_2 622, (q_3, .inl (G.2 1, 2, .inl (fun _ => 0))), zB G q_4 3, zB G q_5 56, zB G q_6 31, zB G q_7 31, zB G q_8 31, zB G q_9 4, zB G q_10 6, zB G q_11 10, zB G q_12 150, zB G q_13 135, zB G q_14 3, zB G q_1 311] := ⟨hP, hD⟩
  have hP := hPD.1
  have hD := hPD.2
  clear hPD
  have hP := hP.sub (ws' := [(m0, .inr (10, [.ref q_1, .ref q_2, .ref q_3, .ref q_4, .long 0, .long 1, .ref q_5, .ref q_6, .ref q_7, .ref q_8, .ref q_9, .ref q_10, .ref q_11, .ref q_12, .int 0, .int 0, .int 0, .int 0, .int 0, .ref q_13, .ref q_14])), zB G q_1 311, zB G q_2 622, (q_3, .inl (G.2 1, 2, .inl (fun _ => 0))), zB G q_4 3, zB G q_5 56, zB G q_6 31, zB G q_7 31, zB G q_8 31, zB G q_9 4, zB G q_10 6, zB G q_11 10, zB G q_12 150, zB G q_13 135, zB G q_14 3]) [0, 14, 1, 2, 3, 4, 5, 6, 7, 8, 9, 10, 11, 12, 13] rfl
  have hD := hD.sub (ws' := [(m0, .inr (10, [.ref q_1, .ref q_2, .ref q_3, .ref q_4, .long 0, .long 1, .ref q_5, .ref q_6, .ref q_7, .ref q_8, .ref q_9, .ref q_10, .ref q_11, .ref q_12, .int 0, .int 0, .int 0, .int 0, .int 0, .ref q_13, .ref q_14])), zB G q_1 311, zB G q_2 622, (q_3, .inl (G.2 1, 2, .inl (fun _ => 0))), zB G q_4 3, zB G q_5 56, zB G q_6 31, zB G q_7 31, zB G q_8 31, zB G q_9 4, zB G q_10 6, zB G q_11 10, zB G q_12 150, zB G q_13 135, zB G q_14 3]) [0, 14, 1, 2, 3, 4, 5, 6, 7, 8, 9, 10, 11, 12, 13] rfl rfl
  exact g_vret hx hb hr hlocks hP hD hS (⟨q_1, q_2, q_3, q_4, q_5, q_6, q_7, q_8, q_9, q_10, q_11, q_12, q_13, q_14, rfl⟩) dX11_init_128
