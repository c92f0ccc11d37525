theorem dX10_bites_0 : decode cX10_bites 0 = .ok (.aload_n 0, 1) := by decide +kernel
theorem dX10_bites_1 : decode cX10_bites 1 = .ok (.getfield 10, 3) := by decide +kernel
theorem dX10_bites_4 : decode cX10_bites 4 = .ok (.iload_n 1, 1) := by decide +kernel
set_option maxRecDepth 20000 in
theorem ggX10_bites_X9_hasBiter : GoodIn wsX10_bites wsX9_hasBiter := goodIn_r _ [5, 6, 96, 97, 98, 99, 100, 101, 102, 103, 104, 105, 106, 107, 108] (by decide +kernel) (by decide +kernel)
set_option maxRecDepth 20000 in
theorem gX10_bites_X9_hasBiter_n146 : GoodIn wsX10_bites (wsX9_hasBiter) := ggX10_bites_X9_hasBiter
theorem dX10_bites_5 : decode cX10_bites 5 = .ok (.invokevirtual 146, 3) := by decide +kernel
theorem dX10_bites_8 : decode cX10_bites 8 = .ok (.ifCond .eq 14, 3) := by decide +kernel
theorem dX10_bites_22 : decode cX10_bites 22 = .ok (.aload_n 0, 1) := by decide +kernel
set_option maxRecDepth 20000 in
theorem ggX10_bites_X10_refuseBad : GoodIn wsX10_bites wsX10_refuseBad := goodIn_r _ [15, 16, 80, 81, 82, 83, 84, 85, 86, 87, 88, 89, 90, 91, 92, 93, 94, 95] (by decide +kernel) (by decide +kernel)
set_option maxRecDepth 20000 in
theorem gX10_bites_X10_refuseBad : GoodIn wsX10_bites (wsV RX10 92 RX10 yX10_refuseBad wsX10_refuseBad) := goodIn_app (goodIn_of _ (by decide +kernel)) ggX10_bites_X10_refuseBad
theorem dX10_bites_23 : decode cX10_bites 23 = .ok (.invokevirtual 92, 3) := by decide +kernel
theorem dX10_bites_26 : decode cX10_bites 26 = .ok (.ireturn, 1) := by decide +kernel
set_option maxHeartbeats 8000000 in
set_option maxRecDepth 100000 in
theorem c_X10_bites (l : Launch) (G : gG) (h0 : Nat) (h0H : Nat) (h0S : Nat) (h0I : Nat) (h0K : Nat) (h0Ex : Nat) (h0E : Nat) (h0D : Nat) (h0F : Nat) (h0B : Nat) (h0R : Nat) (h0G : Nat) (h0Hd : Nat) (h0Hk : Nat) (h0Hr : Nat) (h0Hn : Nat) (h0He : Nat) (h0HT : Nat) (h0HP : Nat) (h0HL : Nat) (h0HN : Nat) (h0HM : Nat) (a1 : Int32) (a2 : Int32) (sz : Nat) : gI G l yX10_bites wsX10_bites ({ frames := 1, cells := 0, slots := 0, locals := 21 } : Room) [.ref h0, .int a1, .int a2] [(h0, .inr (9, [.ref h0H, .ref h0S, .ref h0I, .ref h0K, .ref h0Ex, .ref h0E, .ref h0D, .ref h0F, .ref h0B, .ref h0R, .ref h0G, .long 0, .long 1, .int 0, .int 0, .int 0])), (h0H, .inr (8, [.ref h0Hd, .ref h0Hk, .ref h0Hr, .ref h0Hn, .ref h0He, .ref h0HT, .ref h0HP, .ref h0HL, .ref h0HN, .ref h0HM, .int 0, .int 0, .int 0]))] sz (fun (r : Int32) (u : va_W) => (r = (-2) ∧ u = [])) := by
  refine Met.ofW (cc := cX10_bites) (maxL := 3) (ret := (some .int)) (by decide) rfl ?_
  intro p e s m args below meth c s₁ B hml hv
  obtain ⟨rfl, hsz, hP, hK, hD0, hN⟩ := hv
  have hx := B.exec
  have hb := B.bytes
  have hr := B.returns
  have hts := atoms_spec (ws := wsX10_bites) B.pre
  have hown : s.vm.findClass RX10 = some m.cls := findClass_of_methodNamed B.named
  have hlocks := B.notSynchronized
  subst hsz
  have hD := hD0.self (sz := s.heap.size)
  generalize hAe : va_A [(h0, .inr (9, [.ref h0H, .ref h0S, .ref h0I, .ref h0K, .ref h0Ex, .ref h0E, .ref h0D, .ref h0F, .ref h0B, .ref h0R, .ref h0G, .long 0, .long 1, .int 0, .int 0, .int 0])), (h0H, .inr (8, [.ref h0Hd, .ref h0Hk, .ref h0Hr, .ref h0Hn, .ref h0He, .ref h0HT, .ref h0HP, .ref h0HL, .ref h0HN, .ref h0HM, .int 0, .int 0, .int 0]))] s.heap.size = A at hD ⊢
  have hA : ∀ q : Nat, s.heap.size ≤ q → A q := fun q h => by rw [← hAe]; exact Or.inr h
  have hS : va_S A s.heap s.heap [] := va_S.rf
  have hP : va_P G.1 vwCl [(h0, .inr (9, [.ref h0H, .ref h0S, .ref h0I, .ref h0K, .ref h0Ex, .ref h0E, .ref h0D, .ref h0F, .ref h0B, .ref h0R, .ref h0G, .long 0, .long 1, .int 0, .int 0, .int 0])), (h0H, .inr (8, [.ref h0Hd, .ref h0Hk, .ref h0Hr, .ref h0Hn, .ref h0He, .ref h0HT, .ref h0HP, .ref h0HL, .ref h0HN, .ref h0HM, .int 0, .int 0, .int 0]))] s.heap := hP
  have hl := lv_entry ([.ref h0, .int a1, .int a2]) (n := 3) (Nat.le_of_ble_eq_true rfl)
  rw [lg_entry_eq]
  generalize (lg_sl ([.ref h0, .int a1, .int a2]) ++ List.replicate (3 - (lg_sl ([.ref h0, .int a1, .int a2])).length) Slot.unset).toArray = ls at hl ⊢
  have hl : lv_has ls 3 [(0, .ref h0), (1, .int a1), (2, .int a2)] := hl
  refine lv_aload_n hx hb dX10_bites_0 rfl (lv_at hl 0 rfl) ?_
  refine va_get (D := G.1) (ci := 9) (v := .ref h0H) (C := RX10) (T := TX10) (N := 16) hx hb hts (fun _ h => List.mem_cons_of_mem _ (List.mem_append_left _ (List.mem_append_left _ (List.mem_append_right _ h)))) hown hK hP 0 rfl rfl 0 (by decide) (hts _ (List.mem_of_getElem? (i := 1) rfl)) (fun _ h9 => h9) rfl dX10_bites_1 ?_
  refine lv_iload_n hx hb dX10_bites_4 rfl (lv_at hl 1 rfl) ?_
  refine g_calli (wr := [(h0, .inr (9, [.ref h0H, .ref h0S, .ref h0I, .ref h0K, .ref h0Ex, .ref h0E, .ref h0D, .ref h0F, .ref h0B, .ref h0R, .ref h0G, .long 0, .long 1, .int 0, .int 0, .int 0]))]) (va_runVN (C := RX9) (As := [.int a1]) (rest := []) ⟨hx, hb, hml, hown, hts⟩ (c_X9_hasBiter l G (h0H) (h0Hd) (h0Hk) (h0Hr) (h0Hn) (h0He) (h0HT) (h0HP) (h0HL) (h0HN) (h0HM) (0) (0) (a1) _) (⟨va_cnB 1 hts gX10_bites_X9_hasBiter_n146 rfl rfl rfl (nw78 hN) (hts _ (List.mem_of_getElem? (i := 3) rfl)) (by decide +kernel) ⟨Nat.le_of_ble_eq_true rfl, Nat.le_of_ble_eq_true rfl⟩, (hts _ (List.mem_of_getElem? (i := 2) rfl)), (hts _ (List.mem_of_getElem? (i := 4) rfl))⟩) (g_preV h0H [.int a1] hP hD hK hN [1] rfl rfl 1 (ci := 8) rfl rfl) rfl rfl hl.1 rfl (lv_room (Nat.le_of_ble_eq_true rfl)) dX10_bites_5 ⟨Nat.le_of_ble_eq_true rfl, Nat.le_of_ble_eq_true rfl⟩) hP hD hS hA [1] [0] rfl rfl rfl (by decide) (fun r_1 u H locs hw hP hD hS => ?_)
  obtain ⟨rfl, rfl⟩ := hw
  have hP : va_P G.1 vwCl [(h0, .inr (9, [.ref h0H, .ref h0S, .ref h0I, .ref h0K, .ref h0Ex, .ref h0E, .ref h0D, .ref h0F, .ref h0B, .ref h0R, .ref h0G, .long 0, .long 1, .int 0, .int 0, .int 0])), (h0H, .inr (8, [.ref h0Hd, .ref h0Hk, .ref h0Hr, .ref h0Hn, .ref h0He, .ref h0HT, .ref h0HP, .ref h0HL, .ref h0HN, .ref h0HM, .int 0, .int 0, .int 0]))] H := hP
  have hD : va_D A [(h0, .inr (9, [.ref h0H, .ref h0S, .ref h0I, .ref h0K, .ref h0Ex, .ref h0E, .ref h0D, .ref h0F, .ref h0B, .ref h0R, .ref h0G, .long 0, .long 1, .int 0, .int 0, .int 0])), (h0H, .inr (8, [.ref h0Hd, .ref h0Hk, .ref h0Hr, .ref h0Hn, .ref h0He, .ref h0HT, .ref h0HP, .ref h0HL, .ref h0HN, .ref h0HM, .int 0, .int 0, .int 0]))] := hD
  refine lv_if_eq (tgt := 22) hx hb dX10_bites_8 (by decide) (fun _ => ?_) (fun c_2 => g_no (by decide) c_2)
  refine lv_aload_n hx hb dX10_bites_22 rfl (lv_at hl 0 rfl) ?_
  refine g_calli (wr := [(h0H, .inr (8, [.ref h0Hd, .ref h0Hk, .ref h0Hr, .ref h0Hn, .ref h0He, .ref h0HT, .ref h0HP, .ref h0HL, .ref h0HN, .ref h0HM, .int 0, .int 0, .int 0]))]) (va_runV (As := []) (rest := []) ⟨hx, hb, hml, hown, hts⟩ (e_X10_refuseBad l G (h0) (h0H) (h0S) (h0I) (h0K) (h0Ex) (h0E) (h0D) (h0F) (h0B) (h0R) (h0G) (0) (1) (0) (0) (0) _) (cwV 0 hts gX10_bites_X10_refuseBad rfl rfl rfl (by decide +kernel) ⟨Nat.le_of_ble_eq_true rfl, Nat.le_of_ble_eq_true rfl⟩) (g_preV h0 [] hP hD hK hN [0] rfl rfl 0 (ci := 9) rfl rfl) rfl rfl hl.1 rfl (lv_room (Nat.le_of_ble_eq_true rfl)) dX10_bites_23 ⟨Nat.le_of_ble_eq_true rfl, Nat.le_of_ble_eq_true rfl⟩) hP hD hS hA [0] [1] rfl rfl rfl (by decide) (fun r_3 u H locs hw hP hD hS => ?_)
  obtain ⟨rfl, rfl⟩ := hw
  have hP : va_P G.1 vwCl [(h0H, .inr (8, [.ref h0Hd, .ref h0Hk, .ref h0Hr, .ref h0Hn, .ref h0He, .ref h0HT, .ref h0HP, .ref h0HL, .ref h0HN, .ref h0HM, .int 0, .int 0, .int 0]))] H := hP
  have hD : va_D A [(h0H, .inr (8, [.ref h0Hd, .ref h0Hk, .ref h0Hr, .ref h0Hn, .ref h0He, .ref h0HT, .ref h0HP, .ref h0HL, .ref h0HN, .ref h0HM, .int 0, .int 0, .int 0]))] := hD
  have hP := hP.sub (ws' := []) [] rfl
  have hD := hD.sub (ws' := []) [] rfl rfl
  exact g_iret (v := (-2)) hx hb hr hlocks hP hD hS (⟨rfl, rfl⟩) dX10_bites_26
theorem dX10_dips_0 : decode cX10_dips 0 = .ok (.aload_n 0, 1) := by decide +kernel
theorem dX10_dips_1 : decode cX10_dips 1 = .ok (.getfield 10, 3) := by decide +kernel
theorem dX10_dips_4 : decode cX10_dips 4 = .ok (.iload_n 1, 1) := by decide +kernel
set_option maxRecDepth 20000 in
theorem ggX10_dips_X9_hasApple : GoodIn wsX10_dips wsX9_hasApple := goodIn_r _ [5, 6, 69, 70, 71, 72, 73, 74, 75, 76, 77, 78, 79, 80, 81] (by decide +kernel) (by decide +kernel)
set_option maxRecDepth 20000 in
theorem gX10_dips_X9_hasApple_n150 : GoodIn wsX10_dips (wsX9_hasApple) := ggX10_dips_X9_hasApple
theorem dX10_dips_5 : decode cX10_dips 5 = .ok (.invokevirtual 150, 3) := by decide +kernel
theorem dX10_dips_8 : decode cX10_dips 8 = .ok (.ifCond .eq 13, 3) := by decide +kernel
theorem dX10_dips_21 : decode cX10_dips 21 = .ok (.aload_n 0, 1) := by decide +kernel
set_option maxRecDepth 20000 in
theorem ggX10_dips_X10_refuseBad : GoodIn wsX10_dips wsX10_refuseBad := goodIn_r _ [14, 15, 53, 54, 55, 56, 57, 58, 59, 60, 61, 62, 63, 64, 65, 66, 67, 68] (by decide +kernel) (by decide +kernel)
set_option maxRecDepth 20000 in
theorem gX10_dips_X10_refuseBad : GoodIn wsX10_dips (wsV RX10 92 RX10 yX10_refuseBad wsX10_refuseBad) := goodIn_app (goodIn_of _ (by decide +kernel)) ggX10_dips_X10_refuseBad
theorem dX10_dips_22 : decode cX10_dips 22 = .ok (.invokevirtual 92, 3) := by decide +kernel
theorem dX10_dips_25 : decode cX10_dips 25 = .ok (.ireturn, 1) := by decide +kernel
set_option maxHeartbeats 8000000 in
set_option maxRecDepth 100000 in
theorem c_X10_dips (l : Launch) (G : gG) (h0 : Nat) (h0H : Nat) (h0S : Nat) (h0I : Nat) (h0K : Nat) (h0Ex : Nat) (h0E : Nat) (h0D : Nat) (h0F : Nat) (h0B : Nat) (h0R : Nat) (h0G : Nat) (h0Hd : Nat) (h0Hk : Nat) (h0Hr : Nat) (h0Hn : Nat) (h0He : Nat) (h0HT : Nat) (h0HP : Nat) (h0HL : Nat) (h0HN : Nat) (h0HM : Nat) (a1 : Int32) (a2 : Int32) (sz : Nat) : gI G l yX10_dips wsX10_dips ({ frames := 1, cells := 0, slots := 0, locals := 21 } : Room) [.ref h0, .int a1, .int a2] [(h0, .inr (9, [.ref h0H, .ref h0S, .ref h0I, .ref h0K, .ref h0Ex, .ref h0E, .ref h0D, .ref h0F, .ref h0B, .ref h0R, .ref h0G, .long 0, .long 1, .int 0, .int 0, .int 0])), (h0H, .inr (8, [.ref h0Hd, .ref h0Hk, .ref h0Hr, .ref h0Hn, .ref h0He, .ref h0HT, .ref h0HP, .ref h0HL, .ref h0HN, .ref h0HM, .int 0, .int 0, .int 0]))] sz (fun (r : Int32) (u : va_W) => (r = (-2) ∧ u = [])) := by
  refine Met.ofW (cc := cX10_dips) (maxL := 3) (ret := (some .int)) (by decide) rfl ?_
  intro p e s m args below meth c s₁ B hml hv
  obtain ⟨rfl, hsz, hP, hK, hD0, hN⟩ := hv
  have hx := B.exec
  have hb := B.bytes
  have hr := B.returns
  have hts := atoms_spec (ws := wsX10_dips) B.pre
  have hown : s.vm.findClass RX10 = some m.cls := findClass_of_methodNamed B.named
  have hlocks := B.notSynchronized
  subst hsz
  have hD := hD0.self (sz := s.heap.size)
  generalize hAe : va_A [(h0, .inr (9, [.ref h0H, .ref h0S, .ref h0I, .ref h0K, .ref h0Ex, .ref h0E, .ref h0D, .ref h0F, .ref h0B, .ref h0R, .ref h0G, .long 0, .long 1, .int 0, .int 0, .int 0])), (h0H, .inr (8, [.ref h0Hd, .ref h0Hk, .ref h0Hr, .ref h0Hn, .ref h0He, .ref h0HT, .ref h0HP, .ref h0HL, .ref h0HN, .ref h0HM, .int 0, .int 0, .int 0]))] s.heap.size = A at hD ⊢
  have hA : ∀ q : Nat, s.heap.size ≤ q → A q := fun q h => by rw [← hAe]; exact Or.inr h
  have hS : va_S A s.heap s.heap [] := va_S.rf
  have hP : va_P G.1 vwCl [(h0, .inr (9, [.ref h0H, .ref h0S, .ref h0I, .ref h0K, .ref h0Ex, .ref h0E, .ref h0D, .ref h0F, .ref h0B, .ref h0R, .ref h0G, .long 0, .long 1, .int 0, .int 0, .int 0])), (h0H, .inr (8, [.ref h0Hd, .ref h0Hk, .ref h0Hr, .ref h0Hn, .ref h0He, .ref h0HT, .ref h0HP, .ref h0HL, .ref h0HN, .ref h0HM, .int 0, .int 0, .int 0]))] s.heap := hP
  have hl := lv_entry ([.ref h0, .int a1, .int a2]) (n := 3) (Nat.le_of_ble_eq_true rfl)
  rw [lg_entry_eq]
  generalize (lg_sl ([.ref h0, .int a1, .int a2]) ++ List.replicate (3 - (lg_sl ([.ref h0, .int a1, .int a2])).length) Slot.unset).toArray = ls at hl ⊢
  have hl : lv_has ls 3 [(0, .ref h0), (1, .int a1), (2, .int a2)] := hl
  refine lv_aload_n hx hb dX10_dips_0 rfl (lv_at hl 0 rfl) ?_
  refine va_get (D := G.1) (ci := 9) (v := .ref h0H) (C := RX10) (T := TX10) (N := 16) hx hb hts (fun _ h => List.mem_cons_of_mem _ (List.mem_append_left _ (List.mem_append_left _ (List.mem_append_right _ h)))) hown hK hP 0 rfl rfl 0 (by decide) (hts _ (List.mem_of_getElem? (i := 1) rfl)) (fun _ h9 => h9) rfl dX10_dips_1 ?_
  refine lv_iload_n hx hb dX10_dips_4 rfl (lv_at hl 1 rfl) ?_
  refine g_calli (wr := [(h0, .inr (9, [.ref h0H, .ref h0S, .ref h0I, .ref h0K, .ref h0Ex, .ref h0E, .ref h0D, .ref h0F, .ref h0B, .ref h0R, .ref h0G, .long 0, .long 1, .int 0, .int 0, .int 0]))]) (va_runVN (C := RX9) (As := [.int a1]) (rest := []) ⟨hx, hb, hml, hown, hts⟩ (c_X9_hasApple l G (h0H) (h0Hd) (h0Hk) (h0Hr) (h0Hn) (h0He) (h0HT) (h0HP) (h0HL) (h0HN) (h0HM) (0) (0) (a1) _) (⟨va_cnB 1 hts gX10_dips_X9_hasApple_n150 rfl rfl rfl (nw79 hN) (hts _ (List.mem_of_getElem? (i := 3) rfl)) (by decide +kernel) ⟨Nat.le_of_ble_eq_true rfl, Nat.le_of_ble_eq_true rfl⟩, (hts _ (List.mem_of_getElem? (i := 2) rfl)), (hts _ (List.mem_of_getElem? (i := 4) rfl))⟩) (g_preV h0H [.int a1] hP hD hK hN [1] rfl rfl 1 (ci := 8) rfl rfl) rfl rfl hl.1 rfl (lv_room (Nat.le_of_ble_eq_true rfl)) dX10_dips_5 ⟨Nat.le_of_ble_eq_true rfl, Nat.le_of_ble_eq_true rfl⟩) hP hD hS hA [1] [0] rfl rfl rfl (by decide) (fun r_1 u H locs hw hP hD hS => ?_)
  obtain ⟨rfl, rfl⟩ := hw
  have hP : va_P G.1 vwCl [(h0, .inr (9, [.ref h0H, .ref h0S, .ref h0I, .ref h0K, .ref h0Ex, .ref h0E, .ref h0D, .ref h0F, .ref h0B, .ref h0R, .ref h0G, .long 0, .long 1, .int 0, .int 0, .int 0])), (h0H, .inr (8, [.ref h0Hd, .ref h0Hk, .ref h0Hr, .ref h0Hn, .ref h0He, .ref h0HT, .ref h0HP, .ref h0HL, .ref h0HN, .ref h0HM, .int 0, .int 0, .int 0]))] H := hP
  have hD : va_D A [(h0, .inr (9, [.ref h0H, .ref h0S, .ref h0I, .ref h0K, .ref h0Ex, .ref h0E, .ref h0D, .ref h0F, .ref h0B, .ref h0R, .ref h0G, .long 0, .long 1, .int 0, .int 0, .int 0])), (h0H, .inr (8, [.ref h0Hd, .ref h0Hk, .ref h0Hr, .ref h0Hn, .ref h0He, .ref h0HT, .ref h0HP, .ref h0HL, .ref h0HN, .ref h0HM, .int 0, .int 0, .int 0]))] := hD
  refine lv_if_eq (tgt := 21) hx hb dX10_dips_8 (by decide) (fun _ => ?_) (fun c_2 => g_no (by decide) c_2)
  refine lv_aload_n hx hb dX10_dips_21 rfl (lv_at hl 0 rfl) ?_
  refine g_calli (wr := [(h0H, .inr (8, [.ref h0Hd, .ref h0Hk, .ref h0Hr, .ref h0Hn, .ref h0He, .ref h0HT, .ref h0HP, .ref h0HL, .ref h0HN, .ref h0HM, .int 0, .int 0, .int 0]))]) (va_runV (As := []) (rest := []) ⟨hx, hb, hml, hown, hts⟩ (e_X10_refuseBad l G (h0) (h0H) (h0S) (h0I) (h0K) (h0Ex) (h0E) (h0D) (h0F) (h0B) (h0R) (h0G) (0) (1) (0) (0) (0) _) (cwV 0 hts gX10_dips_X10_refuseBad rfl rfl rfl (by decide +kernel) ⟨Nat.le_of_ble_eq_true rfl, Nat.le_of_ble_eq_true rfl⟩) (g_preV h0 [] hP hD hK hN [0] rfl rfl 0 (ci := 9) rfl rfl) rfl rfl hl.1 rfl (lv_room (Nat.le_of_ble_eq_true rfl)) dX10_dips_22 ⟨Nat.le_of_ble_eq_true rfl, Nat.le_of_ble_eq_true rfl⟩) hP hD hS hA [0] [1] rfl rfl rfl (by decide) (fun r_3 u H locs hw hP hD hS => ?_)
  obtain ⟨rfl, rfl⟩ := hw
  have hP : va_P G.1 vwCl [(h0H, .inr (8, [.ref h0Hd, .ref h0Hk, .ref h0Hr, .ref h0Hn, .ref h0He, .ref h0HT, .ref h0HP, .ref h0HL, .ref h0HN, .ref h0HM, .int 0, .int 0, .int 0]))] H := hP
  have hD : va_D A [(h0H, .inr (8, [.ref h0Hd, .ref h0Hk, .ref h0Hr, .ref h0Hn, .ref h0He, .ref h0HT, .ref h0HP, .ref h0HL, .ref h0HN, .ref h0HM, .int 0, .int 0, .int 0]))] := hD
  have hP := hP.sub (ws' := []) [] rfl
  have hD := hD.sub (ws' := []) [] rfl rfl
  exact g_iret (v := (-2)) hx hb hr hlocks hP hD hS (⟨rfl, rfl⟩) dX10_dips_25
theorem dX10_undo_0 : decode cX10_undo 0 = .ok (.aload_n 0, 1) := by decide +kernel
theorem dX10_undo_1 : decode cX10_undo 1 = .ok (.getfield 10, 3) := by decide +kernel
theorem dX10_undo_4 : decode cX10_undo 4 = .ok (.getfield 100, 3) := by decide +kernel
theorem dX10_undo_7 : decode cX10_undo 7 = .ok (.iconst 1, 1) := by decide +kernel
theorem dX10_undo_8 : decode cX10_undo 8 = .ok (.if_icmp .ge 8, 3) := by decide +kernel
theorem dX10_undo_11 : decode cX10_undo 11 = .ok (.aload_n 0, 1) := by decide +kernel
set_option maxRecDepth 20000 in
theorem ggX10_undo_X10_refuseNo : GoodIn wsX10_undo wsX10_refuseNo := goodIn_r _ [6, 7, 27, 28, 29, 30, 31, 32, 33, 34, 35, 36, 37, 38, 39, 40, 41, 42] (by decide +kernel) (by decide +kernel)
set_option maxRecDepth 20000 in
theorem gX10_undo_X10_refuseNo : GoodIn wsX10_undo (wsV RX10 156 RX10 yX10_refuseNo wsX10_refuseNo) := goodIn_app (goodIn_of _ (by decide +kernel)) ggX10_undo_X10_refuseNo
theorem dX10_undo_12 : decode cX10_undo 12 = .ok (.invokevirtual 156, 3) := by decide +kernel
theorem dX10_undo_15 : decode cX10_undo 15 = .ok (.ireturn, 1) := by decide +kernel
set_option maxHeartbeats 8000000 in
set_option maxRecDepth 100000 in
theorem c_X10_undo (l : Launch) (G : gG) (h0 : Nat) (h0H : Nat) (h0S : Nat) (h0I : Nat) (h0K : Nat) (h0Ex : Nat) (h0E : Nat) (h0D : Nat) (h0F : Nat) (h0B : Nat) (h0R : Nat) (h0G : Nat) (h0Hd : Nat) (h0Hk : Nat) (h0Hr : Nat) (h0Hn : Nat) (h0He : Nat) (h0HT : Nat) (h0HP : Nat) (h0HL : Nat) (h0HN : Nat) (h0HM : Nat) (sz : Nat) : gI G l yX10_undo wsX10_undo ({ frames := 1, cells := 0, slots := 0, locals := 20 } : Room) [.ref h0] [(h0, .inr (9, [.ref h0H, .ref h0S, .ref h0I, .ref h0K, .ref h0Ex, .ref h0E, .ref h0D, .ref h0F, .ref h0B, .ref h0R, .ref h0G, .long 0, .long 1, .int 0, .int 0, .int 0])), (h0H, .inr (8, [.ref h0Hd, .ref h0Hk, .ref h0Hr, .ref h0Hn, .ref h0He, .ref h0HT, .ref h0HP, .ref h0HL, .ref h0HN, .ref h0HM, .int 0, .int 0, .int 0]))] sz (fun (r : Int32) (u : va_W) => (r = (-3) ∧ u = [])) := by
  refine Met.ofW (cc := cX10_undo) (maxL := 1) (ret := (some .int)) (by decide) rfl ?_
  intro p e s m args below meth c s₁ B hml hv
  obtain ⟨rfl, hsz, hP, hK, hD0, hN⟩ := hv
  have hx := B.exec
  have hb := B.bytes
  have hr := B.returns
  have hts := atoms_spec (ws := wsX10_undo) B.pre
  have hown : s.vm.findClass RX10 = some m.cls := findClass_of_methodNamed B.named
  have hlocks := B.notSynchronized
  subst hsz
  have hD := hD0.self (sz := s.heap.size)
  generalize hAe : va_A [(h0, .inr (9, [.ref h0H, .ref h0S, .ref h0I, .ref h0K, .ref h0Ex, .ref h0E, .ref h0D, .ref h0F, .ref h0B, .ref h0R, .ref h0G, .long 0, .long 1, .int 0, .int 0, .int 0])), (h0H, .inr (8, [.ref h0Hd, .ref h0Hk, .ref h0Hr, .ref h0Hn, .ref h0He, .ref h0HT, .ref h0HP, .ref h0HL, .ref h0HN, .ref h0HM, .int 0, .int 0, .int 0]))] s.heap.size = A at hD ⊢
  have hA : ∀ q : Nat, s.heap.size ≤ q → A q := fun q h => by rw [← hAe]; exact Or.inr h
  have hS : va_S A s.heap s.heap [] := va_S.rf
  have hP : va_P G.1 vwCl [(h0, .inr (9, [.ref h0H, .ref h0S, .ref h0I, .ref h0K, .ref h0Ex, .ref h0E, .ref h0D, .ref h0F, .ref h0B, .ref h0R, .ref h0G, .long 0, .long 1, .int 0, .int 0, .int 0])), (h0H, .inr (8, [.ref h0Hd, .ref h0Hk, .ref h0Hr, .ref h0Hn, .ref h0He, .ref h0HT, .ref h0HP, .ref h0HL, .ref h0HN, .ref h0HM, .int 0, .int 0, .int 0]))] s.heap := hP
  have hl := lv_entry ([.ref h0]) (n := 1) (Nat.le_of_ble_eq_true rfl)
  rw [lg_entry_eq]
  generalize (lg_sl ([.ref h0]) ++ List.replicate (1 - (lg_sl ([.ref h0])).length) Slot.unset).toArray = ls at hl ⊢
  have hl : lv_has ls 1 [(0, .ref h0)] := hl
  refine lv_aload_n hx hb dX10_undo_0 rfl (lv_at hl 0 rfl) ?_
  refine va_get (D := G.1) (ci := 9) (v := .ref h0H) (C := RX10) (T := TX10) (N := 16) hx hb hts (fun _ h => List.mem_cons_of_mem _ (List.mem_append_left _ (List.mem_append_left _ (List.mem_append_right _ h)))) hown hK hP 0 rfl rfl 0 (by decide) (hts _ (List.mem_of_getElem? (i := 1) rfl)) (fun _ h9 => h9) rfl dX10_undo_1 ?_
  refine va_getN (D := G.1) (ci := 8) (v := .int 0) (C := RX9) (T := TX9) (N := 13) hx hb hts (fun _ h => List.mem_cons_of_mem _ (List.mem_append_left _ (List.mem_append_right _ h))) hown hK hP 1 rfl rfl 12 (by decide) (va_Nw.use rfl (nw37 hN)) (fun _ h9 => h9) rfl dX10_undo_4 ?_
  refine lv_iconst (v := 1) hx hb dX10_undo_7 (by decide) ?_
  refine lv_icmp_ge (tgt := 16) hx hb dX10_undo_8 (by decide) (fun c_1 => g_no c_1 (by decide)) (fun _ => ?_)
  refine lv_aload_n hx hb dX10_undo_11 rfl (lv_at hl 0 rfl) ?_
  refine g_calli (wr := [(h0H, .inr (8, [.ref h0Hd, .ref h0Hk, .ref h0Hr, .ref h0Hn, .ref h0He, .ref h0HT, .ref h0HP, .ref h0HL, .ref h0HN, .ref h0HM, .int 0, .int 0, .int 0]))]) (va_runV (As := []) (rest := []) ⟨hx, hb, hml, hown, hts⟩ (e_X10_refuseNo l G (h0) (h0H) (h0S) (h0I) (h0K) (h0Ex) (h0E) (h0D) (h0F) (h0B) (h0R) (h0G) (0) (1) (0) (0) (0) _) (cwV 0 hts gX10_undo_X10_refuseNo rfl rfl rfl (by decide +kernel) ⟨Nat.le_of_ble_eq_true rfl, Nat.le_of_ble_eq_true rfl⟩) (g_preV h0 [] hP hD hK hN [0] rfl rfl 0 (ci := 9) rfl rfl) rfl rfl hl.1 rfl (lv_room (Nat.le_of_ble_eq_true rfl)) dX10_undo_12 ⟨Nat.le_of_ble_eq_true rfl, Nat.le_of_ble_eq_true rfl⟩) hP hD hS hA [0] [1] rfl rfl rfl (by decide) (fun r_2 u H locs hw hP hD hS => ?_)
  obtain ⟨rfl, rfl⟩ := hw
  have hP : va_P G.1 vwCl [(h0H, .inr (8, [.ref h0Hd, .ref h0Hk, .ref h0Hr, .ref h0Hn, .ref h0He, .ref h0HT, .ref h0HP, .ref h0HL, .ref h0HN, .ref h0HM, .int 0, .int 0, .int 0]))] H := hP
  have hD : va_D A [(h0H, .inr (8, [.ref h0Hd, .ref h0Hk, .ref h0Hr, .ref h0Hn, .ref h0He, .ref h0HT, .ref h0HP, .ref h0HL, .ref h0HN, .ref h0HM, .int 0, .int 0, .int 0]))] := hD
  have hP := hP.sub (ws' := []) [] rfl
  have hD := hD.sub (ws' := []) [] rfl rfl
  exact g_iret (v := (-3)) hx hb hr hlocks hP hD hS (⟨rfl, rfl⟩) dX10_undo_15
theorem dX10_of_0 : decode cX10_of 0 = .ok (.aload_n 0, 1) := by decide +kernel
theorem dX10_of_1 : decode cX10_of 1 = .ok (.getfield 10, 3) := by decide +kernel
theorem dX10_of_4 : decode cX10_of 4 = .ok (.iload_n 1, 1) := by decide +kernel
set_option maxRecDepth 20000 in
theorem ggX10_of_X9_hasApple : GoodIn wsX10_of wsX9_hasApple := goodIn_r _ [5, 6, 65, 66, 67, 68, 69, 70, 71, 72, 73, 74, 75, 76, 77] (by decide +kernel) (by decide +kernel)
set_option maxRecDepth 20000 in
theorem gX10_of_X9_hasApple_n150 : GoodIn wsX10_of (wsX9_hasApple) := ggX10_of_X9_hasApple
theorem dX10_of_5 : decode cX10_of 5 = .ok (.invokevirtual 150, 3) := by decide +kernel
theorem dX10_of_8 : decode cX10_of 8 = .ok (.ifCond .eq 12, 3) := by decide +kernel
theorem dX10_of_20 : decode cX10_of 20 = .ok (.aload_n 0, 1) := by decide +kernel
set_option maxRecDepth 20000 in
theorem ggX10_of_X10_refuseBad : GoodIn wsX10_of wsX10_refuseBad := goodIn_r _ [14, 15, 49, 50, 51, 52, 53, 54, 55, 56, 57, 58, 59, 60, 61, 62, 63, 64] (by decide +kernel) (by decide +kernel)
set_option maxRecDepth 20000 in
theorem gX10_of_X10_refuseBad : GoodIn wsX10_of (wsV RX10 92 RX10 yX10_refuseBad wsX10_refuseBad) := goodIn_app (goodIn_of _ (by decide +kernel)) ggX10_of_X10_refuseBad
theorem dX10_of_21 : decode cX10_of 21 = .ok (.invokevirtual 92, 3) := by decide +kernel
theorem dX10_of_24 : decode cX10_of 24 = .ok (.ireturn, 1) := by decide +kernel
set_option maxHeartbeats 8000000 in
set_option maxRecDepth 100000 in
theorem c_X10_of (l : Launch) (G : gG) (h0 : Nat) (h0H : Nat) (h0S : Nat) (h0I : Nat) (h0K : Nat) (h0Ex : Nat) (h0E : Nat) (h0D : Nat) (h0F : Nat) (h0B : Nat) (h0R : Nat) (h0G : Nat) (h0Hd : Nat) (h0Hk : Nat) (h0Hr : Nat) (h0Hn : Nat) (h0He : Nat) (h0HT : Nat) (h0HP : Nat) (h0HL : Nat) (h0HN : Nat) (h0HM : Nat) (a1 : Int32) (a2 : Int32) (sz : Nat) : gI G l yX10_of wsX10_of ({ frames := 1, cells := 0, slots := 0, locals := 21 } : Room) [.ref h0, .int a1, .int a2] [(h0, .inr (9, [.ref h0H, .ref h0S, .ref h0I, .ref h0K, .ref h0Ex, .ref h0E, .ref h0D, .ref h0F, .ref h0B, .ref h0R, .ref h0G, .long 0, .long 1, .int 0, .int 0, .int 0])), (h0H, .inr (8, [.ref h0Hd, .ref h0Hk, .ref h0Hr, .ref h0Hn, .ref h0He, .ref h0HT, .ref h0HP, .ref h0HL, .ref h0HN, .ref h0HM, .int 0, .int 0, .int 0]))] sz (fun (r : Int32) (u : va_W) => (r = (-2) ∧ u = [])) := by
  refine Met.ofW (cc := cX10_of) (maxL := 3) (ret := (some .int)) (by decide) rfl ?_
  intro p e s m args below meth c s₁ B hml hv
  obtain ⟨rfl, hsz, hP, hK, hD0, hN⟩ := hv
  have hx := B.exec
  have hb := B.bytes
  have hr := B.returns
  have hts := atoms_spec (ws := wsX10_of) B.pre
  have hown : s.vm.findClass RX10 = some m.cls := findClass_of_methodNamed B.named
  have hlocks := B.notSynchronized
  subst hsz
  have hD := hD0.self (sz := s.heap.size)
  generalize hAe : va_A [(h0, .inr (9, [.ref h0H, .ref h0S, .ref h0I, .ref h0K, .ref h0Ex, .ref h0E, .ref h0D, .ref h0F, .ref h0B, .ref h0R, .ref h0G, .long 0, .long 1, .int 0, .int 0, .int 0])), (h0H, .inr (8, [.ref h0Hd, .ref h0Hk, .ref h0Hr, .ref h0Hn, .ref h0He, .ref h0HT, .ref h0HP, .ref h0HL, .ref h0HN, .ref h0HM, .int 0, .int 0, .int 0]))] s.heap.size = A at hD ⊢
  have hA : ∀ q : Nat, s.heap.size ≤ q → A q := fun q h => by rw [← hAe]; exact Or.inr h
  have hS : va_S A s.heap s.heap [] := va_S.rf
  have hP : va_P G.1 vwCl [(h0, .inr (9, [.ref h0H, .ref h0S, .ref h0I, .ref h0K, .ref h0Ex, .ref h0E, .ref h0D, .ref h0F, .ref h0B, .ref h0R, .ref h0G, .long 0, .long 1, .int 0, .int 0, .int 0])), (h0H, .inr (8, [.ref h0Hd, .ref h0Hk, .ref h0Hr, .ref h0Hn, .ref h0He, .ref h0HT, .ref h0HP, .ref h0HL, .ref h0HN, .ref h0HM, .int 0, .int 0, .int 0]))] s.heap := hP
  have hl := lv_entry ([.ref h0, .int a1, .int a2]) (n := 3) (Nat.le_of_ble_eq_true rfl)
  rw [lg_entry_eq]
  generalize (lg_sl ([.ref h0, .int a1, .int a2]) ++ List.replicate (3 - (lg_sl ([.ref h0, .int a1, .int a2])).length) Slot.unset).toArray = ls at hl ⊢
  have hl : lv_has ls 3 [(0, .ref h0), (1, .int a1), (2, .int a2)] := hl
  refine lv_aload_n hx hb dX10_of_0 rfl (lv_at hl 0 rfl) ?_
  refine va_get (D := G.1) (ci := 9) (v := .ref h0H) (C := RX10) (T := TX10) (N := 16) hx hb hts (fun _ h => List.mem_cons_of_mem _ (List.mem_append_left _ (List.mem_append_left _ (List.mem_append_right _ h)))) hown hK hP 0 rfl rfl 0 (by decide) (hts _ (List.mem_of_getElem? (i := 1) rfl)) (fun _ h9 => h9) rfl dX10_of_1 ?_
  refine lv_iload_n hx hb dX10_of_4 rfl (lv_at hl 1 rfl) ?_
  refine g_calli (wr := [(h0, .inr (9, [.ref h0H, .ref h0S, .ref h0I, .ref h0K, .ref h0Ex, .ref h0E, .ref h0D, .ref h0F, .ref h0B, .ref h0R, .ref h0G, .long 0, .long 1, .int 0, .int 0, .int 0]))]) (va_runVN (C := RX9) (As := [.int a1]) (rest := []) ⟨hx, hb, hml, hown, hts⟩ (c_X9_hasApple l G (h0H) (h0Hd) (h0Hk) (h0Hr) (h0Hn) (h0He) (h0HT) (h0HP) (h0HL) (h0HN) (h0HM) (0) (0) (a1) _) (⟨va_cnB 1 hts gX10_of_X9_hasApple_n150 rfl rfl rfl (nw79 hN) (hts _ (List.mem_of_getElem? (i := 3) rfl)) (by decide +kernel) ⟨Nat.le_of_ble_eq_true rfl, Nat.le_of_ble_eq_true rfl⟩, (hts _ (List.mem_of_getElem? (i := 2) rfl)), (hts _ (List.mem_of_getElem? (i := 4) rfl))⟩) (g_preV h0H [.int a1] hP hD hK hN [1] rfl rfl 1 (ci := 8) rfl rfl) rfl rfl hl.1 rfl (lv_room (Nat.le_of_ble_eq_true rfl)) dX10_of_5 ⟨Nat.le_of_ble_eq_true rfl, Nat.le_of_ble_eq_true rfl⟩) hP hD hS hA [1] [0] rfl rfl rfl (by decide) (fun r_1 u H locs hw hP hD hS => ?_)
  obtain ⟨rfl, rfl⟩ := hw
  have hP : va_P G.1 vwCl [(h0, .inr (9, [.ref h0H, .ref h0S, .ref h0I, .ref h0K, .ref h0Ex, .ref h0E, .ref h0D, .ref h0F, .ref h0B, .ref h0R, .ref h0G, .long 0, .long 1, .int 0, .int 0, .int 0])), (h0H, .inr (8, [.ref h0Hd, .ref h0Hk, .ref h0Hr, .ref h0Hn, .ref h0He, .ref h0HT, .ref h0HP, .ref h0HL, .ref h0HN, .ref h0HM, .int 0, .int 0, .int 0]))] H := hP
  have hD : va_D A [(h0, .inr (9, [.ref h0H, .ref h0S, .ref h0I, .ref h0K, .ref h0Ex, .ref h0E, .ref h0D, .ref h0F, .ref h0B, .ref h0R, .ref h0G, .long 0, .long 1, .int 0, .int 0, .int 0])), (h0H, .inr (8, [.ref h0Hd, .ref h0Hk, .ref h0Hr, .ref h0Hn, .ref h0He, .ref h0HT, .ref h0HP, .ref h0HL, .ref h0HN, .ref h0HM, .int 0, .int 0, .int 0]))] := hD
  refine lv_if_eq (tgt := 20) hx hb dX10_of_8 (by decide) (fun _ => ?_) (fun c_2 => g_no (by decide) c_2)
  refine lv_aload_n hx hb dX10_of_20 rfl (lv_at hl 0 rfl) ?_
  refine g_calli (wr := [(h0H, .inr (8, [.ref h0Hd, .ref h0Hk, .ref h0Hr, .ref h0Hn, .ref h0He, .ref h0HT, .ref h0HP, .ref h0HL, .ref h0HN, .ref h0HM, .int 0, .int 0, .int 0]))]) (va_runV (As := []) (rest := []) ⟨hx, hb, hml, hown, hts⟩ (e_X10_refuseBad l G (h0) (h0H) (h0S) (h0I) (h0K) (h0Ex) (h0E) (h0D) (h0F) (h0B) (h0R) (h0G) (0) (1) (0) (0) (0) _) (cwV 0 hts gX10_of_X10_refuseBad rfl rfl rfl (by decide +kernel) ⟨Nat.le_of_ble_eq_true rfl, Nat.le_of_ble_eq_true rfl⟩) (g_preV h0 [] hP hD hK hN [0] rfl rfl 0 (ci := 9) rfl rfl) rfl rfl hl.1 rfl (lv_room (Nat.le_of_ble_eq_true rfl)) dX10_of_21 ⟨Nat.le_of_ble_eq_true rfl, Nat.le_of_ble_eq_true rfl⟩) hP hD hS hA [0] [1] rfl rfl rfl (by decide) (fun r_3 u H locs hw hP hD hS => ?_)
  obtain ⟨rfl, rfl⟩ := hw
  have hP : va_P G.1 vwCl [(h0H, .inr (8, [.ref h0Hd, .ref h0Hk, .ref h0Hr, .ref h0Hn, .ref h0He, .ref h0HT, .ref h0HP, .ref h0HL, .ref h0HN, .ref h0HM, .int 0, .int 0, .int 0]))] H := hP
  have hD : va_D A [(h0H, .inr (8, [.ref h0Hd, .ref h0Hk, .ref h0Hr, .ref h0Hn, .ref h0He, .ref h0HT, .ref h0HP, .ref h0HL, .ref h0HN, .ref h0HM, .int 0, .int 0, .int 0]))] := hD
  have hP := hP.sub (ws' := []) [] rfl
  have hD := hD.sub (ws' := []) [] rfl rfl
  exact g_iret (v := (-2)) hx hb hr hlocks hP hD hS (⟨rfl, rfl⟩) dX10_of_24
theorem dX10_about_0 : decode cX10_about 0 = .ok (.aload_n 0, 1) := by decide +kernel
theorem dX10_about_1 : decode cX10_about 1 = .ok (.getfield 10, 3) := by decide +kernel
theorem dX10_about_4 : decode cX10_about 4 = .ok (.iload_n 1, 1) := by decide +kernel
set_option maxRecDepth 20000 in
theorem ggX10_about_X9_hasBiter : GoodIn wsX10_about wsX9_hasBiter := goodIn_r _ [5, 6, 32, 33, 34, 35, 36, 37, 38, 39, 40, 41, 42, 43, 44] (by decide +kernel) (by decide +kernel)
set_option maxRecDepth 20000 in
theorem gX10_about_X9_hasBiter_n146 : GoodIn wsX10_about (wsX9_hasBiter) := ggX10_about_X9_hasBiter
theorem dX10_about_5 : decode cX10_about 5 = .ok (.invokevirtual 146, 3) := by decide +kernel
theorem dX10_about_8 : decode cX10_about 8 = .ok (.ifCond .eq 12, 3) := by decide +kernel
theorem dX10_about_20 : decode cX10_about 20 = .ok (.aload_n 0, 1) := by decide +kernel
set_option maxRecDepth 20000 in
theorem ggX10_about_X10_refuseBad : GoodIn wsX10_about wsX10_refuseBad := goodIn_r _ [14, 15, 16, 17, 18, 19, 20, 21, 22, 23, 24, 25, 26, 27, 28, 29, 30, 31] (by decide +kernel) (by decide +kernel)
set_option maxRecDepth 20000 in
theorem gX10_about_X10_refuseBad : GoodIn wsX10_about (wsV RX10 92 RX10 yX10_refuseBad wsX10_refuseBad) := goodIn_app (goodIn_of _ (by decide +kernel)) ggX10_about_X10_refuseBad
theorem dX10_about_21 : decode cX10_about 21 = .ok (.invokevirtual 92, 3) := by decide +kernel
theorem dX10_about_24 : decode cX10_about 24 = .ok (.ireturn, 1) := by decide +kernel
set_option maxHeartbeats 8000000 in
set_option maxRecDepth 100000 in
theorem c_X10_about (l : Launch) (G : gG) (h0 : Nat) (h0H : Nat) (h0S : Nat) (h0I : Nat) (h0K : Nat) (h0Ex : Nat) (h0E : Nat) (h0D : Nat) (h0F : Nat) (h0B : Nat) (h0R : Nat) (h0G : Nat) (h0Hd : Nat) (h0Hk : Nat) (h0Hr : Nat) (h0Hn : Nat) (h0He : Nat) (h0HT : Nat) (h0HP : Nat) (h0HL : Nat) (h0HN : Nat) (h0HM : Nat) (a1 : Int32) (a2 : Int32) (sz : Nat) : gI G l yX10_about wsX10_about ({ frames := 1, cells := 0, slots := 0, locals := 21 } : Room) [.ref h0, .int a1, .int a2] [(h0, .inr (9, [.ref h0H, .ref h0S, .ref h0I, .ref h0K, .ref h0Ex, .ref h0E, .ref h0D, .ref h0F, .ref h0B, .ref h0R, .ref h0G, .long 0, .long 1, .int 0, .int 0, .int 0])), (h0H, .inr (8, [.ref h0Hd, .ref h0Hk, .ref h0Hr, .ref h0Hn, .ref h0He, .ref h0HT, .ref h0HP, .ref h0HL, .ref h0HN, .ref h0HM, .int 0, .int 0, .int 0]))] sz (fun (r : Int32) (u : va_W) => (r = (-2) ∧ u = [])) := by
  refine Met.ofW (cc := cX10_about) (maxL := 3) (ret := (some .int)) (by decide) rfl ?_
  intro p e s m args below meth c s₁ B hml hv
  obtain ⟨rfl, hsz, hP, hK, hD0, hN⟩ := hv
  have hx := B.exec
  have hb := B.bytes
  have hr := B.returns
  have hts := atoms_spec (ws := wsX10_about) B.pre
  have hown : s.vm.findClass RX10 = some m.cls := findClass_of_methodNamed B.named
  have hlocks := B.notSynchronized
  subst hsz
  have hD := hD0.self (sz := s.heap.size)
  generalize hAe : va_A [(h0, .inr (9, [.ref h0H, .ref h0S, .ref h0I, .ref h0K, .ref h0Ex, .ref h0E, .ref h0D, .ref h0F, .ref h0B, .ref h0R, .ref h0G, .long 0, .long 1, .int 0, .int 0, .int 0])), (h0H, .inr (8, [.ref h0Hd, .ref h0Hk, .ref h0Hr, .ref h0Hn, .ref h0He, .ref h0HT, .ref h0HP, .ref h0HL, .ref h0HN, .ref h0HM, .int 0, .int 0, .int 0]))] s.heap.size = A at hD ⊢
  have hA : ∀ q : Nat, s.heap.size ≤ q → A q := fun q h => by rw [← hAe]; exact Or.inr h
  have hS : va_S A s.heap s.heap [] := va_S.rf
  have hP : va_P G.1 vwCl [(h0, .inr (9, [.ref h0H, .ref h0S, .ref h0I, .ref h0K, .ref h0Ex, .ref h0E, .ref h0D, .ref h0F, .ref h0B, .ref h0R, .ref h0G, .long 0, .long 1, .int 0, .int 0, .int 0])), (h0H, .inr (8, [.ref h0Hd, .ref h0Hk, .ref h0Hr, .ref h0Hn, .ref h0He, .ref h0HT, .ref h0HP, .ref h0HL, .ref h0HN, .ref h0HM, .int 0, .int 0, .int 0]))] s.heap := hP
  have hl := lv_entry ([.ref h0, .int a1, .int a2]) (n := 3) (Nat.le_of_ble_eq_true rfl)
  rw [lg_entry_eq]
  generalize (lg_sl ([.ref h0, .int a1, .int a2]) ++ List.replicate (3 - (lg_sl ([.ref h0, .int a1, .int a2])).length) Slot.unset).toArray = ls at hl ⊢
  have hl : lv_has ls 3 [(0, .ref h0), (1, .int a1), (2, .int a2)] := hl
  refine lv_aload_n hx hb dX10_about_0 rfl (lv_at hl 0 rfl) ?_
  refine va_get (D := G.1) (ci := 9) (v := .ref h0H) (C := RX10) (T := TX10) (N := 16) hx hb hts (fun _ h => List.mem_cons_of_mem _ (List.mem_append_left _ (List.mem_append_right _ h))) hown hK hP 0 rfl rfl 0 (by decide) (hts _ (List.mem_of_getElem? (i := 1) rfl)) (fun _ h9 => h9) rfl dX10_about_1 ?_
  refine lv_iload_n hx hb dX10_about_4 rfl (lv_at hl 1 rfl) ?_
  refine g_calli (wr := [(h0, .inr (9, [.ref h0H, .ref h0S, .ref h0I, .ref h0K, .ref h0Ex, .ref h0E, .ref h0D, .ref h0F, .ref h0B, .ref h0R, .ref h0G, .long 0, .long 1, .int 0, .int 0, .int 0]))]) (va_runVN (C := RX9) (As := [.int a1]) (rest := []) ⟨hx, hb, hml, hown, hts⟩ (c_X9_hasBiter l G (h0H) (h0Hd) (h0Hk) (h0Hr) (h0Hn) (h0He) (h0HT) (h0HP) (h0HL) (h0HN) (h0HM) (0) (0) (a1) _) (⟨va_cnB 1 hts gX10_about_X9_hasBiter_n146 rfl rfl rfl (nw78 hN) (hts _ (List.mem_of_getElem? (i := 3) rfl)) (by decide +kernel) ⟨Nat.le_of_ble_eq_true rfl, Nat.le_of_ble_eq_true rfl⟩, (hts _ (List.mem_of_getElem? (i := 2) rfl)), (hts _ (List.mem_of_getElem? (i := 4) rfl))⟩) (g_preV h0H [.int a1] hP hD hK hN [1] rfl rfl 1 (ci := 8) rfl rfl) rfl rfl hl.1 rfl (lv_room (Nat.le_of_ble_eq_true rfl)) dX10_about_5 ⟨Nat.le_of_ble_eq_true rfl, Nat.le_of_ble_eq_true rfl⟩) hP hD hS hA [1] [0] rfl rfl rfl (by decide) (fun r_1 u H locs hw hP hD hS => ?_)
  obtain ⟨rfl, rfl⟩ := hw
  have hP : va_P G.1 vwCl [(h0, .inr (9, [.ref h0H, .ref h0S, .ref h0I, .ref h0K, .ref h0Ex, .ref h0E, .ref h0D, .ref h0F, .ref h0B, .ref h0R, .ref h0G, .long 0, .long 1, .int 0, .int 0, .int 0])), (h0H, .inr (8, [.ref h0Hd, .ref h0Hk, .ref h0Hr, .ref h0Hn, .ref h0He, .ref h0HT, .ref h0HP, .ref h0HL, .ref h0HN, .ref h0HM, .int 0, .int 0, .int 0]))] H := hP
  have hD : va_D A [(h0, .inr (9, [.ref h0H, .ref h0S, .ref h0I, .ref h0K, .ref h0Ex, .ref h0E, .ref h0D, .ref h0F, .ref h0B, .ref h0R, .ref h0G, .long 0, .long 1, .int 0, .int 0, .int 0])), (h0H, .inr (8, [.ref h0Hd, .ref h0Hk, .ref h0Hr, .ref h0Hn, .ref h0He, .ref h0HT, .ref h0HP, .ref h0HL, .ref h0HN, .ref h0HM, .int 0, .int 0, .int 0]))] := hD
  refine lv_if_eq (tgt := 20) hx hb dX10_about_8 (by decide) (fun _ => ?_) (fun c_2 => g_no (by decide) c_2)
  refine lv_aload_n hx hb dX10_about_20 rfl (lv_at hl 0 rfl) ?_
  refine g_calli (wr := [(h0H, .inr (8, [.ref h0Hd, .ref h0Hk, .ref h0Hr, .ref h0Hn, .ref h0He, .ref h0HT, .ref h0HP, .ref h0HL, .ref h0HN, .ref h0HM, .int 0, .int 0, .int 0]))]) (va_runV (As := []) (rest := []) ⟨hx, hb, hml, hown, hts⟩ (e_X10_refuseBad l G (h0) (h0H) (h0S) (h0I) (h0K) (h0Ex) (h0E) (h0D) (h0F) (h0B) (h0R) (h0G) (0) (1) (0) (0) (0) _) (cwV 0 hts gX10_about_X10_refuseBad rfl rfl rfl (by decide +kernel) ⟨Nat.le_of_ble_eq_true rfl, Nat.le_of_ble_eq_true rfl⟩) (g_preV h0 [] hP hD hK hN [0] rfl rfl 0 (ci := 9) rfl rfl) rfl rfl hl.1 rfl (lv_room (Nat.le_of_ble_eq_true rfl)) dX10_about_21 ⟨Nat.le_of_ble_eq_true rfl, Nat.le_of_ble_eq_true rfl⟩) hP hD hS hA [0] [1] rfl rfl rfl (by decide) (fun r_3 u H locs hw hP hD hS => ?_)
  obtain ⟨rfl, rfl⟩ := hw
  have hP : va_P G.1 vwCl [(h0H, .inr (8, [.ref h0Hd, .ref h0Hk, .ref h0Hr, .ref h0Hn, .ref h0He, .ref h0HT, .ref h0HP, .ref h0HL, .ref h0HN, .ref h0HM, .int 0, .int 0, .int 0]))] H := hP
  have hD : va_D A [(h0H, .inr (8, [.ref h0Hd, .ref h0Hk, .ref h0Hr, .ref h0Hn, .ref h0He, .ref h0HT, .ref h0HP, .ref h0HL, .ref h0HN, .ref h0HM, .int 0, .int 0, .int 0]))] := hD
  have hP := hP.sub (ws' := []) [] rfl
  have hD := hD.sub (ws' := []) [] rfl rfl
  exact g_iret (v := (-2)) hx hb hr hlocks hP hD hS (⟨rfl, rfl⟩) dX10_about_24
theorem dX10_hard_0 : decode cX10_hard 0 = .ok (.aload_n 0, 1) := by decide +kernel
theorem dX10_hard_1 : decode cX10_hard 1 = .ok (.getfield 10, 3) := by decide +kernel
theorem dX10_hard_4 : decode cX10_hard 4 = .ok (.iload_n 1, 1) := by decide +kernel
set_option maxRecDepth 20000 in
theorem ggX10_hard_X9_hasApple : GoodIn wsX10_hard wsX9_hasApple := goodIn_r _ [5, 6, 60, 61, 62, 63, 64, 65, 66, 67, 68, 69, 70, 71, 72] (by decide +kernel) (by decide +kernel)
set_option maxRecDepth 20000 in
theorem gX10_hard_X9_hasApple_n150 : GoodIn wsX10_hard (wsX9_hasApple) := ggX10_hard_X9_hasApple
theorem dX10_hard_5 : decode cX10_hard 5 = .ok (.invokevirtual 150, 3) := by decide +kernel
theorem dX10_hard_8 : decode cX10_hard 8 = .ok (.ifCond .eq 13, 3) := by decide +kernel
theorem dX10_hard_21 : decode cX10_hard 21 = .ok (.aload_n 0, 1) := by decide +kernel
set_option maxRecDepth 20000 in
theorem ggX10_hard_X10_refuseBad : GoodIn wsX10_hard wsX10_refuseBad := goodIn_r _ [14, 15, 44, 45, 46, 47, 48, 49, 50, 51, 52, 53, 54, 55, 56, 57, 58, 59] (by decide +kernel) (by decide +kernel)
set_option maxRecDepth 20000 in
theorem gX10_hard_X10_refuseBad : GoodIn wsX10_hard (wsV RX10 92 RX10 yX10_refuseBad wsX10_refuseBad) := goodIn_app (goodIn_of _ (by decide +kernel)) ggX10_hard_X10_refuseBad
theorem dX10_hard_22 : decode cX10_hard 22 = .ok (.invokevirtual 92, 3) := by decide +kernel
theorem dX10_hard_25 : decode cX10_hard 25 = .ok (.ireturn, 1) := by decide +kernel
set_option maxHeartbeats 8000000 in
set_option maxRecDepth 100000 in
theorem c_X10_hard (l : Launch) (G : gG) (h0 : Nat) (h0H : Nat) (h0S : Nat) (h0I : Nat) (h0K : Nat) (h0Ex : Nat) (h0E : Nat) (h0D : Nat) (h0F : Nat) (h0B : Nat) (h0R : Nat) (h0G : Nat) (h0Hd : Nat) (h0Hk : Nat) (h0Hr : Nat) (h0Hn : Nat) (h0He : Nat) (h0HT : Nat) (h0HP : Nat) (h0HL : Nat) (h0HN : Nat) (h0HM : Nat) (a1 : Int32) (a2 : Int32) (sz : Nat) : gI G l yX10_hard wsX10_hard ({ frames := 1, cells := 0, slots := 0, locals := 21 } : Room) [.ref h0, .int a1, .int a2] [(h0, .inr (9, [.ref h0H, .ref h0S, .ref h0I, .ref h0K, .ref h0Ex, .ref h0E, .ref h0D, .ref h0F, .ref h0B, .ref h0R, .ref h0G, .long 0, .long 1, .int 0, .int 0, .int 0])), (h0H, .inr (8, [.ref h0Hd, .ref h0Hk, .ref h0Hr, .ref h0Hn, .ref h0He, .ref h0HT, .ref h0HP, .ref h0HL, .ref h0HN, .ref h0HM, .int 0, .int 0, .int 0]))] sz (fun (r : Int32) (u : va_W) => (r = (-2) ∧ u = [])) := by
  refine Met.ofW (cc := cX10_hard) (maxL := 3) (ret := (some .int)) (by decide) rfl ?_
  intro p e s m args below meth c s₁ B hml hv
  obtain ⟨rfl, hsz, hP, hK, hD0, hN⟩ := hv
  have hx := B.exec
  have hb := B.bytes
  have hr := B.returns
  have hts := atoms_spec (ws := wsX10_hard) B.pre
  have hown : s.vm.findClass RX10 = some m.cls := findClass_of_methodNamed B.named
  have hlocks := B.notSynchronized
  subst hsz
  have hD := hD0.self (sz := s.heap.size)
  generalize hAe : va_A [(h0, .inr (9, [.ref h0H, .ref h0S, .ref h0I, .ref h0K, .ref h0Ex, .ref h0E, .ref h0D, .ref h0F, .ref h0B, .ref h0R, .ref h0G, .long 0, .long 1, .int 0, .int 0, .int 0])), (h0H, .inr (8, [.ref h0Hd, .ref h0Hk, .ref h0Hr, .ref h0Hn, .ref h0He, .ref h0HT, .ref h0HP, .ref h0HL, .ref h0HN, .ref h0HM, .int 0, .int 0, .int 0]))] s.heap.size = A at hD ⊢
  have hA : ∀ q : Nat, s.heap.size ≤ q → A q := fun q h => by rw [← hAe]; exact Or.inr h
  have hS : va_S A s.heap s.heap [] := va_S.rf
  have hP : va_P G.1 vwCl [(h0, .inr (9, [.ref h0H, .ref h0S, .ref h0I, .ref h0K, .ref h0Ex, .ref h0E, .ref h0D, .ref h0F, .ref h0B, .ref h0R, .ref h0G, .long 0, .long 1, .int 0, .int 0, .int 0])), (h0H, .inr (8, [.ref h0Hd, .ref h0Hk, .ref h0Hr, .ref h0Hn, .ref h0He, .ref h0HT, .ref h0HP, .ref h0HL, .ref h0HN, .ref h0HM, .int 0, .int 0, .int 0]))] s.heap := hP
  have hl := lv_entry ([.ref h0, .int a1, .int a2]) (n := 3) (Nat.le_of_ble_eq_true rfl)
  rw [lg_entry_eq]
  generalize (lg_sl ([.ref h0, .int a1, .int a2]) ++ List.replicate (3 - (lg_sl ([.ref h0, .int a1, .int a2])).length) Slot.unset).toArray = ls at hl ⊢
  have hl : lv_has ls 3 [(0, .ref h0), (1, .int a1), (2, .int a2)] := hl
  refine lv_aload_n hx hb dX10_hard_0 rfl (lv_at hl 0 rfl) ?_
  refine va_get (D := G.1) (ci := 9) (v := .ref h0H) (C := RX10) (T := TX10) (N := 16) hx hb hts (fun _ h => List.mem_cons_of_mem _ (List.mem_append_left _ (List.mem_append_left _ (List.mem_append_right _ h)))) hown hK hP 0 rfl rfl 0 (by decide) (hts _ (List.mem_of_getElem? (i := 1) rfl)) (fun _ h9 => h9) rfl dX10_hard_1 ?_
  refine lv_iload_n hx hb dX10_hard_4 rfl (lv_at hl 1 rfl) ?_
  refine g_calli (wr := [(h0, .inr (9, [.ref h0H, .ref h0S, .ref h0I, .ref h0K, .ref h0Ex, .ref h0E, .ref h0D, .ref h0F, .ref h0B, .ref h0R, .ref h0G, .long 0, .long 1, .int 0, .int 0, .int 0]))]) (va_runVN (C := RX9) (As := [.int a1]) (rest := []) ⟨hx, hb, hml, hown, hts⟩ (c_X9_hasApple l G (h0H) (h0Hd) (h0Hk) (h0Hr) (h0Hn) (h0He) (h0HT) (h0HP) (h0HL) (h0HN) (h0HM) (0) (0) (a1) _) (⟨va_cnB 1 hts gX10_hard_X9_hasApple_n150 rfl rfl rfl (nw79 hN) (hts _ (List.mem_of_getElem? (i := 3) rfl)) (by decide +kernel) ⟨Nat.le_of_ble_eq_true rfl, Nat.le_of_ble_eq_true rfl⟩, (hts _ (List.mem_of_getElem? (i := 2) rfl)), (hts _ (List.mem_of_getElem? (i := 4) rfl))⟩) (g_preV h0H [.int a1] hP hD hK hN [1] rfl rfl 1 (ci := 8) rfl rfl) rfl rfl hl.1 rfl (lv_room (Nat.le_of_ble_eq_true rfl)) dX10_hard_5 ⟨Nat.le_of_ble_eq_true rfl, Nat.le_of_ble_eq_true rfl⟩) hP hD hS hA [1] [0] rfl rfl rfl (by decide) (fun r_1 u H locs hw hP hD hS => ?_)
  obtain ⟨rfl, rfl⟩ := hw
  have hP : va_P G.1 vwCl [(h0, .inr (9, [.ref h0H, .ref h0S, .ref h0I, .ref h0K, .ref h0Ex, .ref h0E, .ref h0D, .ref h0F, .ref h0B, .ref h0R, .ref h0G, .long 0, .long 1, .int 0, .int 0, .int 0])), (h0H, .inr (8, [.ref h0Hd, .ref h0Hk, .ref h0Hr, .ref h0Hn, .ref h0He, .ref h0HT, .ref h0HP, .ref h0HL, .ref h0HN, .ref h0HM, .int 0, .int 0, .int 0]))] H := hP
  have hD : va_D A [(h0, .inr (9, [.ref h0H, .ref h0S, .ref h0I, .ref h0K, .ref h0Ex, .ref h0E, .ref h0D, .ref h0F, .ref h0B, .ref h0R, .ref h0G, .long 0, .long 1, .int 0, .int 0, .int 0])), (h0H, .inr (8, [.ref h0Hd, .ref h0Hk, .ref h0Hr, .ref h0Hn, .ref h0He, .ref h0HT, .ref h0HP, .ref h0HL, .ref h0HN, .ref h0HM, .int 0, .int 0, .int 0]))] := hD
  refine lv_if_eq (tgt := 21) hx hb dX10_hard_8 (by decide) (fun _ => ?_) (fun c_2 => g_no (by decide) c_2)
  refine lv_aload_n hx hb dX10_hard_21 rfl (lv_at hl 0 rfl) ?_
  refine g_calli (wr := [(h0H, .inr (8, [.ref h0Hd, .ref h0Hk, .ref h0Hr, .ref h0Hn, .ref h0He, .ref h0HT, .ref h0HP, .ref h0HL, .ref h0HN, .ref h0HM, .int 0, .int 0, .int 0]))]) (va_runV (As := []) (rest := []) ⟨hx, hb, hml, hown, hts⟩ (e_X10_refuseBad l G (h0) (h0H) (h0S) (h0I) (h0K) (h0Ex) (h0E) (h0D) (h0F) (h0B) (h0R) (h0G) (0) (1) (0) (0) (0) _) (cwV 0 hts gX10_hard_X10_refuseBad rfl rfl rfl (by decide +kernel) ⟨Nat.le_of_ble_eq_true rfl, Nat.le_of_ble_eq_true rfl⟩) (g_preV h0 [] hP hD hK hN [0] rfl rfl 0 (ci := 9) rfl rfl) rfl rfl hl.1 rfl (lv_room (Nat.le_of_ble_eq_true rfl)) dX10_hard_22 ⟨Nat.le_of_ble_eq_true rfl, Nat.le_of_ble_eq_true rfl⟩) hP hD hS hA [0] [1] rfl rfl rfl (by decide) (fun r_3 u H locs hw hP hD hS => ?_)
  obtain ⟨rfl, rfl⟩ := hw
  have hP : va_P G.1 vwCl [(h0H, .inr (8, [.ref h0Hd, .ref h0Hk, .ref h0Hr, .ref h0Hn, .ref h0He, .ref h0HT, .ref h0HP, .ref h0HL, .ref h0HN, .ref h0HM, .int 0, .int 0, .int 0]))] H := hP
  have hD : va_D A [(h0H, .inr (8, [.ref h0Hd, .ref h0Hk, .ref h0Hr, .ref h0Hn, .ref h0He, .ref h0HT, .ref h0HP, .ref h0HL, .ref h0HN, .ref h0HM, .int 0, .int 0, .int 0]))] := hD
  have hP := hP.sub (ws' := []) [] rfl
  have hD := hD.sub (ws' := []) [] rfl rfl
  exact g_iret (v := (-2)) hx hb hr hlocks hP hD hS (⟨rfl, rfl⟩) dX10_hard_25
theorem dX10_takes_0 : decode cX10_takes 0 = .ok (.aload_n 0, 1) := by decide +kernel
theorem dX10_takes_1 : decode cX10_takes 1 = .ok (.getfield 10, 3) := by decide +kernel
theorem dX10_takes_4 : decode cX10_takes 4 = .ok (.iload_n 1, 1) := by decide +kernel
set_option maxRecDepth 20000 in
theorem ggX10_takes_X9_hasBiter : GoodIn wsX10_takes wsX9_hasBiter := goodIn_r _ [5, 6, 66, 67, 68, 69, 70, 71, 72, 73, 74, 75, 76, 77, 78] (by decide +kernel) (by decide +kernel)
set_option maxRecDepth 20000 in
theorem gX10_takes_X9_hasBiter_n146 : GoodIn wsX10_takes (wsX9_hasBiter) := ggX10_takes_X9_hasBiter
theorem dX10_takes_5 : decode cX10_takes 5 = .ok (.invokevirtual 146, 3) := by decide +kernel
theorem dX10_takes_8 : decode cX10_takes 8 = .ok (.ifCond .eq 14, 3) := by decide +kernel
theorem dX10_takes_22 : decode cX10_takes 22 = .ok (.aload_n 0, 1) := by decide +kernel
set_option maxRecDepth 20000 in
theorem ggX10_takes_X10_refuseBad : GoodIn wsX10_takes wsX10_refuseBad := goodIn_r _ [15, 16, 50, 51, 52, 53, 54, 55, 56, 57, 58, 59, 60, 61, 62, 63, 64, 65] (by decide +kernel) (by decide +kernel)
set_option maxRecDepth 20000 in
theorem gX10_takes_X10_refuseBad : GoodIn wsX10_takes (wsV RX10 92 RX10 yX10_refuseBad wsX10_refuseBad) := goodIn_app (goodIn_of _ (by decide +kernel)) ggX10_takes_X10_refuseBad
theorem dX10_takes_23 : decode cX10_takes 23 = .ok (.invokevirtual 92, 3) := by decide +kernel
theorem dX10_takes_26 : decode cX10_takes 26 = .ok (.ireturn, 1) := by decide +kernel
set_option maxHeartbeats 8000000 in
set_option maxRecDepth 100000 in
theorem c_X10_takes (l : Launch) (G : gG) (h0 : Nat) (h0H : Nat) (h0S : Nat) (h0I : Nat) (h0K : Nat) (h0Ex : Nat) (h0E : Nat) (h0D : Nat) (h0F : Nat) (h0B : Nat) (h0R : Nat) (h0G : Nat) (h0Hd : Nat) (h0Hk : Nat) (h0Hr : Nat) (h0Hn : Nat) (h0He : Nat) (h0HT : Nat) (h0HP : Nat) (h0HL : Nat) (h0HN : Nat) (h0HM : Nat) (a1 : Int32) (a2 : Int32) (sz : Nat) : gI G l yX10_takes wsX10_takes ({ frames := 1, cells := 0, slots := 0, locals := 21 } : Room) [.ref h0, .int a1, .int a2] [(h0, .inr (9, [.ref h0H, .ref h0S, .ref h0I, .ref h0K, .ref h0Ex, .ref h0E, .ref h0D, .ref h0F, .ref h0B, .ref h0R, .ref h0G, .long 0, .long 1, .int 0, .int 0, .int 0])), (h0H, .inr (8, [.ref h0Hd, .ref h0Hk, .ref h0Hr, .ref h0Hn, .ref h0He, .ref h0HT, .ref h0HP, .ref h0HL, .ref h0HN, .ref h0HM, .int 0, .int 0, .int 0]))] sz (fun (r : Int32) (u : va_W) => (r = (-2) ∧ u = [])) := by
  refine Met.ofW (cc := cX10_takes) (maxL := 3) (ret := (some .int)) (by decide) rfl ?_
  intro p e s m args below meth c s₁ B hml hv
  obtain ⟨rfl, hsz, hP, hK, hD0, hN⟩ := hv
  have hx := B.exec
  have hb := B.bytes
  have hr := B.returns
  have hts := atoms_spec (ws := wsX10_takes) B.pre
  have hown : s.vm.findClass RX10 = some m.cls := findClass_of_methodNamed B.named
  have hlocks := B.notSynchronized
  subst hsz
  have hD := hD0.self (sz := s.heap.size)
  generalize hAe : va_A [(h0, .inr (9, [.ref h0H, .ref h0S, .ref h0I, .ref h0K, .ref h0Ex, .ref h0E, .ref h0D, .ref h0F, .ref h0B, .ref h0R, .ref h0G, .long 0, .long 1, .int 0, .int 0, .int 0])), (h0H, .inr (8, [.ref h0Hd, .ref h0Hk, .ref h0Hr, .ref h0Hn, .ref h0He, .ref h0HT, .ref h0HP, .ref h0HL, .ref h0HN, .ref h0HM, .int 0, .int 0, .int 0]))] s.heap.size = A at hD ⊢
  have hA : ∀ q : Nat, s.heap.size ≤ q → A q := fun q h => by rw [← hAe]; exact Or.inr h
  have hS : va_S A s.heap s.heap [] := va_S.rf
  have hP : va_P G.1 vwCl [(h0, .inr (9, [.ref h0H, .ref h0S, .ref h0I, .ref h0K, .ref h0Ex, .ref h0E, .ref h0D, .ref h0F, .ref h0B, .ref h0R, .ref h0G, .long 0, .long 1, .int 0, .int 0, .int 0])), (h0H, .inr (8, [.ref h0Hd, .ref h0Hk, .ref h0Hr, .ref h0Hn, .ref h0He, .ref h0HT, .ref h0HP, .ref h0HL, .ref h0HN, .ref h0HM, .int 0, .int 0, .int 0]))] s.heap := hP
  have hl := lv_entry ([.ref h0, .int a1, .int a2]) (n := 3) (Nat.le_of_ble_eq_true rfl)
  rw [lg_entry_eq]
  generalize (lg_sl ([.ref h0, .int a1, .int a2]) ++ List.replicate (3 - (lg_sl ([.ref h0, .int a1, .int a2])).length) Slot.unset).toArray = ls at hl ⊢
  have hl : lv_has ls 3 [(0, .ref h0), (1, .int a1), (2, .int a2)] := hl
  refine lv_aload_n hx hb dX10_takes_0 rfl (lv_at hl 0 rfl) ?_
  refine va_get (D := G.1) (ci := 9) (v := .ref h0H) (C := RX10) (T := TX10) (N := 16) hx hb hts (fun _ h => List.mem_cons_of_mem _ (List.mem_append_left _ (List.mem_append_left _ (List.mem_append_right _ h)))) hown hK hP 0 rfl rfl 0 (by decide) (hts _ (List.mem_of_getElem? (i := 1) rfl)) (fun _ h9 => h9) rfl dX10_takes_1 ?_
  refine lv_iload_n hx hb dX10_takes_4 rfl (lv_at hl 1 rfl) ?_
  refine g_calli (wr := [(h0, .inr (9, [.ref h0H, .ref h0S, .ref h0I, .ref h0K, .ref h0Ex, .ref h0E, .ref h0D, .ref h0F, .ref h0B, .ref h0R, .ref h0G, .long 0, .long 1, .int 0, .int 0, .int 0]))]) (va_runVN (C := RX9) (As := [.int a1]) (rest := []) ⟨hx, hb, hml, hown, hts⟩ (c_X9_hasBiter l G (h0H) (h0Hd) (h0Hk) (h0Hr) (h0Hn) (h0He) (h0HT) (h0HP) (h0HL) (h0HN) (h0HM) (0) (0) (a1) _) (⟨va_cnB 1 hts gX10_takes_X9_hasBiter_n146 rfl rfl rfl (nw78 hN) (hts _ (List.mem_of_getElem? (i := 3) rfl)) (by decide +kernel) ⟨Nat.le_of_ble_eq_true rfl, Nat.le_of_ble_eq_true rfl⟩, (hts _ (List.mem_of_getElem? (i := 2) rfl)), (hts _ (List.mem_of_getElem? (i := 4) rfl))⟩) (g_preV h0H [.int a1] hP hD hK hN [1] rfl rfl 1 (ci := 8) rfl rfl) rfl rfl hl.1 rfl (lv_room (Nat.le_of_ble_eq_true rfl)) dX10_takes_5 ⟨Nat.le_of_ble_eq_true rfl, Nat.le_of_ble_eq_true rfl⟩) hP hD hS hA [1] [0] rfl rfl rfl (by decide) (fun r_1 u H locs hw hP hD hS => ?_)
  obtain ⟨rfl, rfl⟩ := hw
  have hP : va_P G.1 vwCl [(h0, .inr (9, [.ref h0H, .ref h0S, .ref h0I, .ref h0K, .ref h0Ex, .ref h0E, .ref h0D, .ref h0F, .ref h0B, .ref h0R, .ref h0G, .long 0, .long 1, .int 0, .int 0, .int 0])), (h0H, .inr (8, [.ref h0Hd, .ref h0Hk, .ref h0Hr, .ref h0Hn, .ref h0He, .ref h0HT, .ref h0HP, .ref h0HL, .ref h0HN, .ref h0HM, .int 0, .int 0, .int 0]))] H := hP
  have hD : va_D A [(h0, .inr (9, [.ref h0H, .ref h0S, .ref h0I, .ref h0K, .ref h0Ex, .ref h0E, .ref h0D, .ref h0F, .ref h0B, .ref h0R, .ref h0G, .long 0, .long 1, .int 0, .int 0, .int 0])), (h0H, .inr (8, [.ref h0Hd, .ref h0Hk, .ref h0Hr, .ref h0Hn, .ref h0He, .ref h0HT, .ref h0HP, .ref h0HL, .ref h0HN, .ref h0HM, .int 0, .int 0, .int 0]))] := hD
  refine lv_if_eq (tgt := 22) hx hb dX10_takes_8 (by decide) (fun _ => ?_) (fun c_2 => g_no (by decide) c_2)
  refine lv_aload_n hx hb dX10_takes_22 rfl (lv_at hl 0 rfl) ?_
  refine g_calli (wr := [(h0H, .inr (8, [.ref h0Hd, .ref h0Hk, .ref h0Hr, .ref h0Hn, .ref h0He, .ref h0HT, .ref h0HP, .ref h0HL, .ref h0HN, .ref h0HM, .int 0, .int 0, .int 0]))]) (va_runV (As := []) (rest := []) ⟨hx, hb, hml, hown, hts⟩ (e_X10_refuseBad l G (h0) (h0H) (h0S) (h0I) (h0K) (h0Ex) (h0E) (h0D) (h0F) (h0B) (h0R) (h0G) (0) (1) (0) (0) (0) _) (cwV 0 hts gX10_takes_X10_refuseBad rfl rfl rfl (by decide +kernel) ⟨Nat.le_of_ble_eq_true rfl, Nat.le_of_ble_eq_true rfl⟩) (g_preV h0 [] hP hD hK hN [0] rfl rfl 0 (ci := 9) rfl rfl) rfl rfl hl.1 rfl (lv_room (Nat.le_of_ble_eq_true rfl)) dX10_takes_23 ⟨Nat.le_of_ble_eq_true rfl, Nat.le_of_ble_eq_true rfl⟩) hP hD hS hA [0] [1] rfl rfl rfl (by decide) (fun r_3 u H locs hw hP hD hS => ?_)
  obtain ⟨rfl, rfl⟩ := hw
  have hP : va_P G.1 vwCl [(h0H, .inr (8, [.ref h0Hd, .ref h0Hk, .ref h0Hr, .ref h0Hn, .ref h0He, .ref h0HT, .ref h0HP, .ref h0HL, .ref h0HN, .ref h0HM, .int 0, .int 0, .int 0]))] H := hP
  have hD : va_D A [(h0H, .inr (8, [.ref h0Hd, .ref h0Hk, .ref h0Hr, .ref h0Hn, .ref h0He, .ref h0HT, .ref h0HP, .ref h0HL, .ref h0HN, .ref h0HM, .int 0, .int 0, .int 0]))] := hD
  have hP := hP.sub (ws' := []) [] rfl
  have hD := hD.sub (ws' := []) [] rfl rfl
  exact g_iret (v := (-2)) hx hb hr hlocks hP hD hS (⟨rfl, rfl⟩) dX10_takes_26
theorem dX10_stuck_0 : decode cX10_stuck 0 = .ok (.aload_n 0, 1) := by decide +kernel
theorem dX10_stuck_1 : decode cX10_stuck 1 = .ok (.getfield 10, 3) := by decide +kernel
theorem dX10_stuck_4 : decode cX10_stuck 4 = .ok (.iload_n 1, 1) := by decide +kernel
set_option maxRecDepth 20000 in
theorem ggX10_stuck_X9_hasApple : GoodIn wsX10_stuck wsX9_hasApple := goodIn_r _ [5, 6, 62, 63, 64, 65, 66, 67, 68, 69, 70, 71, 72, 73, 74] (by decide +kernel) (by decide +kernel)
set_option maxRecDepth 20000 in
theorem gX10_stuck_X9_hasApple_n150 : GoodIn wsX10_stuck (wsX9_hasApple) := ggX10_stuck_X9_hasApple
theorem dX10_stuck_5 : decode cX10_stuck 5 = .ok (.invokevirtual 150, 3) := by decide +kernel
theorem dX10_stuck_8 : decode cX10_stuck 8 = .ok (.ifCond .ne 8, 3) := by decide +kernel
theorem dX10_stuck_11 : decode cX10_stuck 11 = .ok (.aload_n 0, 1) := by decide +kernel
set_option maxRecDepth 20000 in
theorem ggX10_stuck_X10_refuseBad : GoodIn wsX10_stuck wsX10_refuseBad := goodIn_r _ [11, 12, 46, 47, 48, 49, 50, 51, 52, 53, 54, 55, 56, 57, 58, 59, 60, 61] (by decide +kernel) (by decide +kernel)
set_option maxRecDepth 20000 in
theorem gX10_stuck_X10_refuseBad : GoodIn wsX10_stuck (wsV RX10 92 RX10 yX10_refuseBad wsX10_refuseBad) := goodIn_app (goodIn_of _ (by decide +kernel)) ggX10_stuck_X10_refuseBad
theorem dX10_stuck_12 : decode cX10_stuck 12 = .ok (.invokevirtual 92, 3) := by decide +kernel
theorem dX10_stuck_15 : decode cX10_stuck 15 = .ok (.ireturn, 1) := by decide +kernel
set_option maxHeartbeats 8000000 in
set_option maxRecDepth 100000 in
theorem c_X10_stuck (l : Launch) (G : gG) (h0 : Nat) (h0H : Nat) (h0S : Nat) (h0I : Nat) (h0K : Nat) (h0Ex : Nat) (h0E : Nat) (h0D : Nat) (h0F : Nat) (h0B : Nat) (h0R : Nat) (h0G : Nat) (h0Hd : Nat) (h0Hk : Nat) (h0Hr : Nat) (h0Hn : Nat) (h0He : Nat) (h0HT : Nat) (h0HP : Nat) (h0HL : Nat) (h0HN : Nat) (h0HM : Nat) (a1 : Int32) (sz : Nat) : gI G l yX10_stuck wsX10_stuck ({ frames := 1, cells := 0, slots := 0, locals := 21 } : Room) [.ref h0, .int a1] [(h0, .inr (9, [.ref h0H, .ref h0S, .ref h0I, .ref h0K, .ref h0Ex, .ref h0E, .ref h0D, .ref h0F, .ref h0B, .ref h0R, .ref h0G, .long 0, .long 1, .int 0, .int 0, .int 0])), (h0H, .inr (8, [.ref h0Hd, .ref h0Hk, .ref h0Hr, .ref h0Hn, .ref h0He, .ref h0HT, .ref h0HP, .ref h0HL, .ref h0HN, .ref h0HM, .int 0, .int 0, .int 0]))] sz (fun (r : Int32) (u : va_W) => (r = (-2) ∧ u = [])) := by
  refine Met.ofW (cc := cX10_stuck) (maxL := 4) (ret := (some .int)) (by decide) rfl ?_
  intro p e s m args below meth c s₁ B hml hv
  obtain ⟨rfl, hsz, hP, hK, hD0, hN⟩ := hv
  have hx := B.exec
  have hb := B.bytes
  have hr := B.returns
  have hts := atoms_spec (ws := wsX10_stuck) B.pre
  have hown : s.vm.findClass RX10 = some m.cls := findClass_of_methodNamed B.named
  have hlocks := B.notSynchronized
  subst hsz
  have hD := hD0.self (sz := s.heap.size)
  generalize hAe : va_A [(h0, .inr (9, [.ref h0H, .ref h0S, .ref h0I, .ref h0K, .ref h0Ex, .ref h0E, .ref h0D, .ref h0F, .ref h0B, .ref h0R, .ref h0G, .long 0, .long 1, .int 0, .int 0, .int 0])), (h0H, .inr (8, [.ref h0Hd, .ref h0Hk, .ref h0Hr, .ref h0Hn, .ref h0He, .ref h0HT, .ref h0HP, .ref h0HL, .ref h0HN, .ref h0HM, .int 0, .int 0, .int 0]))] s.heap.size = A at hD ⊢
  have hA : ∀ q : Nat, s.heap.size ≤ q → A q := fun q h => by rw [← hAe]; exact Or.inr h
  have hS : va_S A s.heap s.heap [] := va_S.rf
  have hP : va_P G.1 vwCl [(h0, .inr (9, [.ref h0H, .ref h0S, .ref h0I, .ref h0K, .ref h0Ex, .ref h0E, .ref h0D, .ref h0F, .ref h0B, .ref h0R, .ref h0G, .long 0, .long 1, .int 0, .int 0, .int 0])), (h0H, .inr (8, [.ref h0Hd, .ref h0Hk, .ref h0Hr, .ref h0Hn, .ref h0He, .ref h0HT, .ref h0HP, .ref h0HL, .ref h0HN, .ref h0HM, .int 0, .int 0, .int 0]))] s.heap := hP
  have hl := lv_entry ([.ref h0, .int a1]) (n := 4) (Nat.le_of_ble_eq_true rfl)
  rw [lg_entry_eq]
  generalize (lg_sl ([.ref h0, .int a1]) ++ List.replicate (4 - (lg_sl ([.ref h0, .int a1])).length) Slot.unset).toArray = ls at hl ⊢
  have hl : lv_has ls 4 [(0, .ref h0), (1, .int a1)] := hl
  refine lv_aload_n hx hb dX10_stuck_0 rfl (lv_at hl 0 rfl) ?_
  refine va_get (D := G.1) (ci := 9) (v := .ref h0H) (C := RX10) (T := TX10) (N := 16) hx hb hts (fun _ h => List.mem_cons_of_mem _ (List.mem_append_left _ (List.mem_append_left _ (List.mem_append_right _ h)))) hown hK hP 0 rfl rfl 0 (by decide) (hts _ (List.mem_of_getElem? (i := 1) rfl)) (fun _ h9 => h9) rfl dX10_stuck_1 ?_
  refine lv_iload_n hx hb dX10_stuck_4 rfl (lv_at hl 1 rfl) ?_
  refine g_calli (wr := [(h0, .inr (9, [.ref h0H, .ref h0S, .ref h0I, .ref h0K, .ref h0Ex, .ref h0E, .ref h0D, .ref h0F, .ref h0B, .ref h0R, .ref h0G, .long 0, .long 1, .int 0, .int 0, .int 0]))]) (va_runVN (C := RX9) (As := [.int a1]) (rest := []) ⟨hx, hb, hml, hown, hts⟩ (c_X9_hasApple l G (h0H) (h0Hd) (h0Hk) (h0Hr) (h0Hn) (h0He) (h0HT) (h0HP) (h0HL) (h0HN) (h0HM) (0) (0) (a1) _) (⟨va_cnB 1 hts gX10_stuck_X9_hasApple_n150 rfl rfl rfl (nw79 hN) (hts _ (List.mem_of_getElem? (i := 3) rfl)) (by decide +kernel) ⟨Nat.le_of_ble_eq_true rfl, Nat.le_of_ble_eq_true rfl⟩, (hts _ (List.mem_of_getElem? (i := 2) rfl)), (hts _ (List.mem_of_getElem? (i := 4) rfl))⟩) (g_preV h0H [.int a1] hP hD hK hN [1] rfl rfl 1 (ci := 8) rfl rfl) rfl rfl hl.1 rfl (lv_room (Nat.le_of_ble_eq_true rfl)) dX10_stuck_5 ⟨Nat.le_of_ble_eq_true rfl, Nat.le_of_ble_eq_true rfl⟩) hP hD hS hA [1] [0] rfl rfl rfl (by decide) (fun r_1 u H locs hw hP hD hS => ?_)
  obtain ⟨rfl, rfl⟩ := hw
  have hP : va_P G.1 vwCl [(h0, .inr (9, [.ref h0H, .ref h0S, .ref h0I, .ref h0K, .ref h0Ex, .ref h0E, .ref h0D, .ref h0F, .ref h0B, .ref h0R, .ref h0G, .long 0, .long 1, .int 0, .int 0, .int 0])), (h0H, .inr (8, [.ref h0Hd, .ref h0Hk, .ref h0Hr, .ref h0Hn, .ref h0He, .ref h0HT, .ref h0HP, .ref h0HL, .ref h0HN, .ref h0HM, .int 0, .int 0, .int 0]))] H := hP
  have hD : va_D A [(h0, .inr (9, [.ref h0H, .ref h0S, .ref h0I, .ref h0K, .ref h0Ex, .ref h0E, .ref h0D, .ref h0F, .ref h0B, .ref h0R, .ref h0G, .long 0, .long 1, .int 0, .int 0, .int 0])), (h0H, .inr (8, [.ref h0Hd, .ref h0Hk, .ref h0Hr, .ref h0Hn, .ref h0He, .ref h0HT, .ref h0HP, .ref h0HL, .ref h0HN, .ref h0HM, .int 0, .int 0, .int 0]))] := hD
  refine lv_if_ne (tgt := 16) hx hb dX10_stuck_8 (by decide) (fun c_2 => g_no (by decide) c_2) (fun _ => ?_)
  refine lv_aload_n hx hb dX10_stuck_11 rfl (lv_at hl 0 rfl) ?_
  refine g_calli (wr := [(h0H, .inr (8, [.ref h0Hd, .ref h0Hk, .ref h0Hr, .ref h0Hn, .ref h0He, .ref h0HT, .ref h0HP, .ref h0HL, .ref h0HN, .ref h0HM, .int 0, .int 0, .int 0]))]) (va_runV (As := []) (rest := []) ⟨hx, hb, hml, hown, hts⟩ (e_X10_refuseBad l G (h0) (h0H) (h0S) (h0I) (h0K) (h0Ex) (h0E) (h0D) (h0F) (h0B) (h0R) (h0G) (0) (1) (0) (0) (0) _) (cwV 0 hts gX10_stuck_X10_refuseBad rfl rfl rfl (by decide +kernel) ⟨Nat.le_of_ble_eq_true rfl, Nat.le_of_ble_eq_true rfl⟩) (g_preV h0 [] hP hD hK hN [0] rfl rfl 0 (ci := 9) rfl rfl) rfl rfl hl.1 rfl (lv_room (Nat.le_of_ble_eq_true rfl)) dX10_stuck_12 ⟨Nat.le_of_ble_eq_true rfl, Nat.le_of_ble_eq_true rfl⟩) hP hD hS hA [0] [1] rfl rfl rfl (by decide) (fun r_3 u H locs hw hP hD hS => ?_)
  obtain ⟨rfl, rfl⟩ := hw
  have hP : va_P G.1 vwCl [(h0H, .inr (8, [.ref h0Hd, .ref h0Hk, .ref h0Hr, .ref h0Hn, .ref h0He, .ref h0HT, .ref h0HP, .ref h0HL, .ref h0HN, .ref h0HM, .int 0, .int 0, .int 0]))] H := hP
  have hD : va_D A [(h0H, .inr (8, [.ref h0Hd, .ref h0Hk, .ref h0Hr, .ref h0Hn, .ref h0He, .ref h0HT, .ref h0HP, .ref h0HL, .ref h0HN, .ref h0HM, .int 0, .int 0, .int 0]))] := hD
  have hP := hP.sub (ws' := []) [] rfl
  have hD := hD.sub (ws' := []) [] rfl rfl
  exact g_iret (v := (-2)) hx hb hr hlocks hP hD hS (⟨rfl, rfl⟩) dX10_stuck_15
theorem dX10_when_0 : decode cX10_when 0 = .ok (.aload_n 0, 1) := by decide +kernel
theorem dX10_when_1 : decode cX10_when 1 = .ok (.getfield 10, 3) := by decide +kernel
theorem dX10_when_4 : decode cX10_when 4 = .ok (.iload_n 1, 1) := by decide +kernel
set_option maxRecDepth 20000 in
theorem ggX10_when_X9_hasBiter : GoodIn wsX10_when wsX9_hasBiter := goodIn_r _ [5, 6, 68, 69, 70, 71, 72, 73, 74, 75, 76, 77, 78, 79, 80] (by decide +kernel) (by decide +kernel)
set_option maxRecDepth 20000 in
theorem gX10_when_X9_hasBiter_n146 : GoodIn wsX10_when (wsX9_hasBiter) := ggX10_when_X9_hasBiter
theorem dX10_when_5 : decode cX10_when 5 = .ok (.invokevirtual 146, 3) := by decide +kernel
theorem dX10_when_8 : decode cX10_when 8 = .ok (.ifCond .eq 14, 3) := by decide +kernel
theorem dX10_when_22 : decode cX10_when 22 = .ok (.aload_n 0, 1) := by decide +kernel
set_option maxRecDepth 20000 in
theorem ggX10_when_X10_refuseBad : GoodIn wsX10_when wsX10_refuseBad := goodIn_r _ [15, 16, 52, 53, 54, 55, 56, 57, 58, 59, 60, 61, 62, 63, 64, 65, 66, 67] (by decide +kernel) (by decide +kernel)
set_option maxRecDepth 20000 in
theorem gX10_when_X10_refuseBad : GoodIn wsX10_when (wsV RX10 92 RX10 yX10_refuseBad wsX10_refuseBad) := goodIn_app (goodIn_of _ (by decide +kernel)) ggX10_when_X10_refuseBad
theorem dX10_when_23 : decode cX10_when 23 = .ok (.invokevirtual 92, 3) := by decide +kernel
theorem dX10_when_26 : decode cX10_when 26 = .ok (.ireturn, 1) := by decide +kernel
set_option maxHeartbeats 8000000 in
set_option maxRecDepth 100000 in
theorem c_X10_when (l : Launch) (G : gG) (h0 : Nat) (h0H : Nat) (h0S : Nat) (h0I : Nat) (h0K : Nat) (h0Ex : Nat) (h0E : Nat) (h0D : Nat) (h0F : Nat) (h0B : Nat) (h0R : Nat) (h0G : Nat) (h0Hd : Nat) (h0Hk : Nat) (h0Hr : Nat) (h0Hn : Nat) (h0He : Nat) (h0HT : Nat) (h0HP : Nat) (h0HL : Nat) (h0HN : Nat) (h0HM : Nat) (a1 : Int32) (a2 : Int32) (sz : Nat) : gI G l yX10_when wsX10_when ({ frames := 1, cells := 0, slots := 0, locals := 21 } : Room) [.ref h0, .int a1, .int a2] [(h0, .inr (9, [.ref h0H, .ref h0S, .ref h0I, .ref h0K, .ref h0Ex, .ref h0E, .ref h0D, .ref h0F, .ref h0B, .ref h0R, .ref h0G, .long 0, .long 1, .int 0, .int 0, .int 0])), (h0H, .inr (8, [.ref h0Hd, .ref h0Hk, .ref h0Hr, .ref h0Hn, .ref h0He, .ref h0HT, .ref h0HP, .ref h0HL, .ref h0HN, .ref h0HM, .int 0, .int 0, .int 0]))] sz (fun (r : Int32) (u : va_W) => (r = (-2) ∧ u = [])) := by
  refine Met.ofW (cc := cX10_when) (maxL := 4) (ret := (some .int)) (by decide) rfl ?_
  intro p e s m args below meth c s₁ B hml hv
  obtain ⟨rfl, hsz, hP, hK, hD0, hN⟩ := hv
  have hx := B.exec
  have hb := B.bytes
  have hr := B.returns
  have hts := atoms_spec (ws := wsX10_when) B.pre
  have hown : s.vm.findClass RX10 = some m.cls := findClass_of_methodNamed B.named
  have hlocks := B.notSynchronized
  subst hsz
  have hD := hD0.self (sz := s.heap.size)
  generalize hAe : va_A [(h0, .inr (9, [.ref h0H, .ref h0S, .ref h0I, .ref h0K, .ref h0Ex, .ref h0E, .ref h0D, .ref h0F, .ref h0B, .ref h0R, .ref h0G, .long 0, .long 1, .int 0, .int 0, .int 0])), (h0H, .inr (8, [.ref h0Hd, .ref h0Hk, .ref h0Hr, .ref h0Hn, .ref h0He, .ref h0HT, .ref h0HP, .ref h0HL, .ref h0HN, .ref h0HM, .int 0, .int 0, .int 0]))] s.heap.size = A at hD ⊢
  have hA : ∀ q : Nat, s.heap.size ≤ q → A q := fun q h => by rw [← hAe]; exact Or.inr h
  have hS : va_S A s.heap s.heap [] := va_S.rf
  have hP : va_P G.1 vwCl [(h0, .inr (9, [.ref h0H, .ref h0S, .ref h0I, .ref h0K, .ref h0Ex, .ref h0E, .ref h0D, .ref h0F, .ref h0B, .ref h0R, .ref h0G, .long 0, .long 1, .int 0, .int 0, .int 0])), (h0H, .inr (8, [.ref h0Hd, .ref h0Hk, .ref h0Hr, .ref h0Hn, .ref h0He, .ref h0HT, .ref h0HP, .ref h0HL, .ref h0HN, .ref h0HM, .int 0, .int 0, .int 0]))] s.heap := hP
  have hl := lv_entry ([.ref h0, .int a1, .int a2]) (n := 4) (Nat.le_of_ble_eq_true rfl)
  rw [lg_entry_eq]
  generalize (lg_sl ([.ref h0, .int a1, .int a2]) ++ List.replicate (4 - (lg_sl ([.ref h0, .int a1, .int a2])).length) Slot.unset).toArray = ls at hl ⊢
  have hl : lv_has ls 4 [(0, .ref h0), (1, .int a1), (2, .int a2)] := hl
  refine lv_aload_n hx hb dX10_when_0 rfl (lv_at hl 0 rfl) ?_
  refine va_get (D := G.1) (ci := 9) (v := .ref h0H) (C := RX10) (T := TX10) (N := 16) hx hb hts (fun _ h => List.mem_cons_of_mem _ (List.mem_append_left _ (List.mem_append_left _ (List.mem_append_right _ h)))) hown hK hP 0 rfl rfl 0 (by decide) (hts _ (List.mem_of_getElem? (i := 1) rfl)) (fun _ h9 => h9) rfl dX10_when_1 ?_
  refine lv_iload_n hx hb dX10_when_4 rfl (lv_at hl 1 rfl) ?_
  refine g_calli (wr := [(h0, .inr (9, [.ref h0H, .ref h0S, .ref h0I, .ref h0K, .ref h0Ex, .ref h0E, .ref h0D, .ref h0F, .ref h0B, .ref h0R, .ref h0G, .long 0, .long 1, .int 0, .int 0, .int 0]))]) (va_runVN (C := RX9) (As := [.int a1]) (rest := []) ⟨hx, hb, hml, hown, hts⟩ (c_X9_hasBiter l G (h0H) (h0Hd) (h0Hk) (h0Hr) (h0Hn) (h0He) (h0HT) (h0HP) (h0HL) (h0HN) (h0HM) (0) (0) (a1) _) (⟨va_cnB 1 hts gX10_when_X9_hasBiter_n146 rfl rfl rfl (nw78 hN) (hts _ (List.mem_of_getElem? (i := 3) rfl)) (by decide +kernel) ⟨Nat.le_of_ble_eq_true rfl, Nat.le_of_ble_eq_true rfl⟩, (hts _ (List.mem_of_getElem? (i := 2) rfl)), (hts _ (List.mem_of_getElem? (i := 4) rfl))⟩) (g_preV h0H [.int a1] hP hD hK hN [1] rfl rfl 1 (ci := 8) rfl rfl) rfl rfl hl.1 rfl (lv_room (Nat.le_of_ble_eq_true rfl)) dX10_when_5 ⟨Nat.le_of_ble_eq_true rfl, Nat.le_of_ble_eq_true rfl⟩) hP hD hS hA [1] [0] rfl rfl rfl (by decide) (fun r_1 u H locs hw hP hD hS => ?_)
  obtain ⟨rfl, rfl⟩ := hw
  have hP : va_P G.1 vwCl [(h0, .inr (9, [.ref h0H, .ref h0S, .ref h0I, .ref h0K, .ref h0Ex, .ref h0E, .ref h0D, .ref h0F, .ref h0B, .ref h0R, .ref h0G, .long 0, .long 1, .int 0, .int 0, .int 0])), (h0H, .inr (8, [.ref h0Hd, .ref h0Hk, .ref h0Hr, .ref h0Hn, .ref h0He, .ref h0HT, .ref h0HP, .ref h0HL, .ref h0HN, .ref h0HM, .int 0, .int 0, .int 0]))] H := hP
  have hD : va_D A [(h0, .inr (9, [.ref h0H, .ref h0S, .ref h0I, .ref h0K, .ref h0Ex, .ref h0E, .ref h0D, .ref h0F, .ref h0B, .ref h0R, .ref h0G, .long 0, .long 1, .int 0, .int 0, .int 0])), (h0H, .inr (8, [.ref h0Hd, .ref h0Hk, .ref h0Hr, .ref h0Hn, .ref h0He, .ref h0HT, .ref h0HP, .ref h0HL, .ref h0HN, .ref h0HM, .int 0, .int 0, .int 0]))] := hD
  refine lv_if_eq (tgt := 22) hx hb dX10_when_8 (by decide) (fun _ => ?_) (fun c_2 => g_no (by decide) c_2)
  refine lv_aload_n hx hb dX10_when_22 rfl (lv_at hl 0 rfl) ?_
  refine g_calli (wr := [(h0H, .inr (8, [.ref h0Hd, .ref h0Hk, .ref h0Hr, .ref h0Hn, .ref h0He, .ref h0HT, .ref h0HP, .ref h0HL, .ref h0HN, .ref h0HM, .int 0, .int 0, .int 0]))]) (va_runV (As := []) (rest := []) ⟨hx, hb, hml, hown, hts⟩ (e_X10_refuseBad l G (h0) (h0H) (h0S) (h0I) (h0K) (h0Ex) (h0E) (h0D) (h0F) (h0B) (h0R) (h0G) (0) (1) (0) (0) (0) _) (cwV 0 hts gX10_when_X10_refuseBad rfl rfl rfl (by decide +kernel) ⟨Nat.le_of_ble_eq_true rfl, Nat.le_of_ble_eq_true rfl⟩) (g_preV h0 [] hP hD hK hN [0] rfl rfl 0 (ci := 9) rfl rfl) rfl rfl hl.1 rfl (lv_room (Nat.le_of_ble_eq_true rfl)) dX10_when_23 ⟨Nat.le_of_ble_eq_true rfl, Nat.le_of_ble_eq_true rfl⟩) hP hD hS hA [0] [1] rfl rfl rfl (by decide) (fun r_3 u H locs hw hP hD hS => ?_)
  obtain ⟨rfl, rfl⟩ := hw
  have hP : va_P G.1 vwCl [(h0H, .inr (8, [.ref h0Hd, .ref h0Hk, .ref h0Hr, .ref h0Hn, .ref h0He, .ref h0HT, .ref h0HP, .ref h0HL, .ref h0HN, .ref h0HM, .int 0, .int 0, .int 0]))] H := hP
  have hD : va_D A [(h0H, .inr (8, [.ref h0Hd, .ref h0Hk, .ref h0Hr, .ref h0Hn, .ref h0He, .ref h0HT, .ref h0HP, .ref h0HL, .ref h0HN, .ref h0HM, .int 0, .int 0, .int 0]))] := hD
  have hP := hP.sub (ws' := []) [] rfl
  have hD := hD.sub (ws' := []) [] rfl rfl
  exact g_iret (v := (-2)) hx hb hr hlocks hP hD hS (⟨rfl, rfl⟩) dX10_when_26
theorem dX10_few_0 : decode cX10_few 0 = .ok (.aload_n 0, 1) := by decide +kernel
theorem dX10_few_1 : decode cX10_few 1 = .ok (.getfield 10, 3) := by decide +kernel
theorem dX10_few_4 : decode cX10_few 4 = .ok (.iload_n 1, 1) := by decide +kernel
set_option maxRecDepth 20000 in
theorem ggX10_few_X9_hasApple : GoodIn wsX10_few wsX9_hasApple := goodIn_r _ [6, 7, 71, 72, 73, 74, 75, 76, 77, 78, 79, 80, 81, 82, 83] (by decide +kernel) (by decide +kernel)
set_option maxRecDepth 20000 in
theorem gX10_few_X9_hasApple_n150 : GoodIn wsX10_few (wsX9_hasApple) := ggX10_few_X9_hasApple
theorem dX10_few_5 : decode cX10_few 5 = .ok (.invokevirtual 150, 3) := by decide +kernel
theorem dX10_few_8 : decode cX10_few 8 = .ok (.ifCond .eq 8, 3) := by decide +kernel
theorem dX10_few_16 : decode cX10_few 16 = .ok (.aload_n 0, 1) := by decide +kernel
set_option maxRecDepth 20000 in
theorem ggX10_few_X10_refuseBadAsTen : GoodIn wsX10_few wsX10_refuseBadAsTen := goodIn_r _ [12, 13, 55, 56, 57, 58, 59, 60, 61, 62, 63, 64, 65, 66, 67, 68, 69, 70] (by decide +kernel) (by decide +kernel)
set_option maxRecDepth 20000 in
theorem gX10_few_X10_refuseBadAsTen : GoodIn wsX10_few (wsV RX10 187 RX10 yX10_refuseBadAsTen wsX10_refuseBadAsTen) := goodIn_app (goodIn_of _ (by decide +kernel)) ggX10_few_X10_refuseBadAsTen
theorem dX10_few_17 : decode cX10_few 17 = .ok (.invokevirtual 187, 3) := by decide +kernel
theorem dX10_few_20 : decode cX10_few 20 = .ok (.ireturn, 1) := by decide +kernel
set_option maxHeartbeats 8000000 in
set_option maxRecDepth 100000 in
theorem c_X10_few (l : Launch) (G : gG) (h0 : Nat) (h0H : Nat) (h0S : Nat) (h0I : Nat) (h0K : Nat) (h0Ex : Nat) (h0E : Nat) (h0D : Nat) (h0F : Nat) (h0B : Nat) (h0R : Nat) (h0G : Nat) (h0Hd : Nat) (h0Hk : Nat) (h0Hr : Nat) (h0Hn : Nat) (h0He : Nat) (h0HT : Nat) (h0HP : Nat) (h0HL : Nat) (h0HN : Nat) (h0HM : Nat) (a1 : Int32) (a2 : Int32) (sz : Nat) : gI G l yX10_few wsX10_few ({ frames := 1, cells := 0, slots := 0, locals := 21 } : Room) [.ref h0, .int a1, .int a2] [(h0, .inr (9, [.ref h0H, .ref h0S, .ref h0I, .ref h0K, .ref h0Ex, .ref h0E, .ref h0D, .ref h0F, .ref h0B, .ref h0R, .ref h0G, .long 0, .long 1, .int 0, .int 0, .int 0])), (h0H, .inr (8, [.ref h0Hd, .ref h0Hk, .ref h0Hr, .ref h0Hn, .ref h0He, .ref h0HT, .ref h0HP, .ref h0HL, .ref h0HN, .ref h0HM, .int 0, .int 0, .int 0]))] sz (fun (r : Int32) (u : va_W) => (r = (-10) ∧ u = [])) := by
  refine Met.ofW (cc := cX10_few) (maxL := 4) (ret := (some .int)) (by decide) rfl ?_
  intro p e s m args below meth c s₁ B hml hv
  obtain ⟨rfl, hsz, hP, hK, hD0, hN⟩ := hv
  have hx := B.exec
  have hb := B.bytes
  have hr := B.returns
  have hts := atoms_spec (ws := wsX10_few) B.pre
  have hown : s.vm.findClass RX10 = some m.cls := findClass_of_methodNamed B.named
  have hlocks := B.notSynchronized
  subst hsz
  have hD := hD0.self (sz := s.heap.size)
  generalize hAe : va_A [(h0, .inr (9, [.ref h0H, .ref h0S, .ref h0I, .ref h0K, .ref h0Ex, .ref h0E, .ref h0D, .ref h0F, .ref h0B, .ref h0R, .ref h0G, .long 0, .long 1, .int 0, .int 0, .int 0])), (h0H, .inr (8, [.ref h0Hd, .ref h0Hk, .ref h0Hr, .ref h0Hn, .ref h0He, .ref h0HT, .ref h0HP, .ref h0HL, .ref h0HN, .ref h0HM, .int 0, .int 0, .int 0]))] s.heap.size = A at hD ⊢
  have hA : ∀ q : Nat, s.heap.size ≤ q → A q := fun q h => by rw [← hAe]; exact Or.inr h
  have hS : va_S A s.heap s.heap [] := va_S.rf
  have hP : va_P G.1 vwCl [(h0, .inr (9, [.ref h0H, .ref h0S, .ref h0I, .ref h0K, .ref h0Ex, .ref h0E, .ref h0D, .ref h0F, .ref h0B, .ref h0R, .ref h0G, .long 0, .long 1, .int 0, .int 0, .int 0])), (h0H, .inr (8, [.ref h0Hd, .ref h0Hk, .ref h0Hr, .ref h0Hn, .ref h0He, .ref h0HT, .ref h0HP, .ref h0HL, .ref h0HN, .ref h0HM, .int 0, .int 0, .int 0]))] s.heap := hP
  have hl := lv_entry ([.ref h0, .int a1, .int a2]) (n := 4) (Nat.le_of_ble_eq_true rfl)
  rw [lg_entry_eq]
  generalize (lg_sl ([.ref h0, .int a1, .int a2]) ++ List.replicate (4 - (lg_sl ([.ref h0, .int a1, .int a2])).length) Slot.unset).toArray = ls at hl ⊢
  have hl : lv_has ls 4 [(0, .ref h0), (1, .int a1), (2, .int a2)] := hl
  refine lv_aload_n hx hb dX10_few_0 rfl (lv_at hl 0 rfl) ?_
  refine va_get (D := G.1) (ci := 9) (v := .ref h0H) (C := RX10) (T := TX10) (N := 16) hx hb hts (fun _ h => List.mem_cons_of_mem _ (List.mem_append_left _ (List.mem_append_left _ (List.mem_append_left _ (List.mem_append_right _ h))))) hown hK hP 0 rfl rfl 0 (by decide) (hts _ (List.mem_of_getElem? (i := 1) rfl)) (fun _ h9 => h9) rfl dX10_few_1 ?_
  refine lv_iload_n hx hb dX10_few_4 rfl (lv_at hl 1 rfl) ?_
  refine g_calli (wr := [(h0, .inr (9, [.ref h0H, .ref h0S, .ref h0I, .ref h0K, .ref h0Ex, .ref h0E, .ref h0D, .ref h0F, .ref h0B, .ref h0R, .ref h0G, .long 0, .long 1, .int 0, .int 0, .int 0]))]) (va_runVN (C := RX9) (As := [.int a1]) (rest := []) ⟨hx, hb, hml, hown, hts⟩ (c_X9_hasApple l G (h0H) (h0Hd) (h0Hk) (h0Hr) (h0Hn) (h0He) (h0HT) (h0HP) (h0HL) (h0HN) (h0HM) (0) (0) (a1) _) (⟨va_cnB 1 hts gX10_few_X9_hasApple_n150 rfl rfl rfl (nw79 hN) (hts _ (List.mem_of_getElem? (i := 4) rfl)) (by decide +kernel) ⟨Nat.le_of_ble_eq_true rfl, Nat.le_of_ble_eq_true rfl⟩, (hts _ (List.mem_of_getElem? (i := 3) rfl)), (hts _ (List.mem_of_getElem? (i := 5) rfl))⟩) (g_preV h0H [.int a1] hP hD hK hN [1] rfl rfl 1 (ci := 8) rfl rfl) rfl rfl hl.1 rfl (lv_room (Nat.le_of_ble_eq_true rfl)) dX10_few_5 ⟨Nat.le_of_ble_eq_true rfl, Nat.le_of_ble_eq_true rfl⟩) hP hD hS hA [1] [0] rfl rfl rfl (by decide) (fun r_1 u H locs hw hP hD hS => ?_)
  obtain ⟨rfl, rfl⟩ := hw
  have hP : va_P G.1 vwCl [(h0, .inr (9, [.ref h0H, .ref h0S, .ref h0I, .ref h0K, .ref h0Ex, .ref h0E, .ref h0D, .ref h0F, .ref h0B, .ref h0R, .ref h0G, .long 0, .long 1, .int 0, .int 0, .int 0])), (h0H, .inr (8, [.ref h0Hd, .ref h0Hk, .ref h0Hr, .ref h0Hn, .ref h0He, .ref h0HT, .ref h0HP, .ref h0HL, .ref h0HN, .ref h0HM, .int 0, .int 0, .int 0]))] H := hP
  have hD : va_D A [(h0, .inr (9, [.ref h0H, .ref h0S, .ref h0I, .ref h0K, .ref h0Ex, .ref h0E, .ref h0D, .ref h0F, .ref h0B, .ref h0R, .ref h0G, .long 0, .long 1, .int 0, .int 0, .int 0])), (h0H, .inr (8, [.ref h0Hd, .ref h0Hk, .ref h0Hr, .ref h0Hn, .ref h0He, .ref h0HT, .ref h0HP, .ref h0HL, .ref h0HN, .ref h0HM, .int 0, .int 0, .int 0]))] := hD
  refine lv_if_eq (tgt := 16) hx hb dX10_few_8 (by decide) (fun _ => ?_) (fun c_2 => g_no (by decide) c_2)
  refine lv_aload_n hx hb dX10_few_16 rfl (lv_at hl 0 rfl) ?_
  refine g_calli (wr := [(h0H, .inr (8, [.ref h0Hd, .ref h0Hk, .ref h0Hr, .ref h0Hn, .ref h0He, .ref h0HT, .ref h0HP, .ref h0HL, .ref h0HN, .ref h0HM, .int 0, .int 0, .int 0]))]) (va_runV (As := []) (rest := []) ⟨hx, hb, hml, hown, hts⟩ (e_X10_refuseBadAsTen l G (h0) (h0H) (h0S) (h0I) (h0K) (h0Ex) (h0E) (h0D) (h0F) (h0B) (h0R) (h0G) (0) (1) (0) (0) (0) _) (cwV 0 hts gX10_few_X10_refuseBadAsTen rfl rfl rfl (by decide +kernel) ⟨Nat.le_of_ble_eq_true rfl, Nat.le_of_ble_eq_true rfl⟩) (g_preV h0 [] hP hD hK hN [0] rfl rfl 0 (ci := 9) rfl rfl) rfl rfl hl.1 rfl (lv_room (Nat.le_of_ble_eq_true rfl)) dX10_few_17 ⟨Nat.le_of_ble_eq_true rfl, Nat.le_of_ble_eq_true rfl⟩) hP hD hS hA [0] [1] rfl rfl rfl (by decide) (fun r_3 u H locs hw hP hD hS => ?_)
  obtain ⟨rfl, rfl⟩ := hw
  have hP : va_P G.1 vwCl [(h0H, .inr (8, [.ref h0Hd, .ref h0Hk, .ref h0Hr, .ref h0Hn, .ref h0He, .ref h0HT, .ref h0HP, .ref h0HL, .ref h0HN, .ref h0HM, .int 0, .int 0, .int 0]))] H := hP
  have hD : va_D A [(h0H, .inr (8, [.ref h0Hd, .ref h0Hk, .ref h0Hr, .ref h0Hn, .ref h0He, .ref h0HT, .ref h0HP, .ref h0HL, .ref h0HN, .ref h0HM, .int 0, .int 0, .int 0]))] := hD
  have hP := hP.sub (ws' := []) [] rfl
  have hD := hD.sub (ws' := []) [] rfl rfl
  exact g_iret (v := (-10)) hx hb hr hlocks hP hD hS (⟨rfl, rfl⟩) dX10_few_20
theorem dX10_left_0 : decode cX10_left 0 = .ok (.aload_n 0, 1) := by decide +kernel
theorem dX10_left_1 : decode cX10_left 1 = .ok (.getfield 10, 3) := by decide +kernel
theorem dX10_left_4 : decode cX10_left 4 = .ok (.iload_n 1, 1) := by decide +kernel
set_option maxRecDepth 20000 in
theorem ggX10_left_X9_hasApple : GoodIn wsX10_left wsX9_hasApple := goodIn_r _ [5, 6, 52, 53, 54, 55, 56, 57, 58, 59, 60, 61, 62, 63, 64] (by decide +kernel) (by decide +kernel)
set_option maxRecDepth 20000 in
theorem gX10_left_X9_hasApple_n150 : GoodIn wsX10_left (wsX9_hasApple) := ggX10_left_X9_hasApple
theorem dX10_left_5 : decode cX10_left 5 = .ok (.invokevirtual 150, 3) := by decide +kernel
theorem dX10_left_8 : decode cX10_left 8 = .ok (.ifCond .eq 45, 3) := by decide +kernel
theorem dX10_left_53 : decode cX10_left 53 = .ok (.aload_n 0, 1) := by decide +kernel
set_option maxRecDepth 20000 in
theorem ggX10_left_X10_refuseBad : GoodIn wsX10_left wsX10_refuseBad := goodIn_r _ [18, 19, 36, 37, 38, 39, 40, 41, 42, 43, 44, 45, 46, 47, 48, 49, 50, 51] (by decide +kernel) (by decide +kernel)
set_option maxRecDepth 20000 in
theorem gX10_left_X10_refuseBad : GoodIn wsX10_left (wsV RX10 92 RX10 yX10_refuseBad wsX10_refuseBad) := goodIn_app (goodIn_of _ (by decide +kernel)) ggX10_left_X10_refuseBad
theorem dX10_left_54 : decode cX10_left 54 = .ok (.invokevirtual 92, 3) := by decide +kernel
theorem dX10_left_57 : decode cX10_left 57 = .ok (.ireturn, 1) := by decide +kernel
set_option maxHeartbeats 8000000 in
set_option maxRecDepth 100000 in
theorem c_X10_left (l : Launch) (G : gG) (h0 : Nat) (h0H : Nat) (h0S : Nat) (h0I : Nat) (h0K : Nat) (h0Ex : Nat) (h0E : Nat) (h0D : Nat) (h0F : Nat) (h0B : Nat) (h0R : Nat) (h0G : Nat) (h0Hd : Nat) (h0Hk : Nat) (h0Hr : Nat) (h0Hn : Nat) (h0He : Nat) (h0HT : Nat) (h0HP : Nat) (h0HL : Nat) (h0HN : Nat) (h0HM : Nat) (a1 : Int32) (a2 : Int32) (a3 : Int32) (a4 : Int32) (a5 : Int32) (sz : Nat) : gI G l yX10_left wsX10_left ({ frames := 1, cells := 0, slots := 0, locals := 21 } : Room) [.ref h0, .int a1, .int a2, .int a3, .int a4, .int a5] [(h0, .inr (9, [.ref h0H, .ref h0S, .ref h0I, .ref h0K, .ref h0Ex, .ref h0E, .ref h0D, .ref h0F, .ref h0B, .ref h0R, .ref h0G, .long 0, .long 1, .int 0, .int 0, .int 0])), (h0H, .inr (8, [.ref h0Hd, .ref h0Hk, .ref h0Hr, .ref h0Hn, .ref h0He, .ref h0HT, .ref h0HP, .ref h0HL, .ref h0HN, .ref h0HM, .int 0, .int 0, .int 0]))] sz (fun (r : Int32) (u : va_W) => (r = (-2) ∧ u = [])) := by
  refine Met.ofW (cc := cX10_left) (maxL := 6) (ret := (some .int)) (by decide) rfl ?_
  intro p e s m args below meth c s₁ B hml hv
  obtain ⟨rfl, hsz, hP, hK, hD0, hN⟩ := hv
  have hx := B.exec
  have hb := B.bytes
  have hr := B.returns
  have hts := atoms_spec (ws := wsX10_left) B.pre
  have hown : s.vm.findClass RX10 = some m.cls := findClass_of_methodNamed B.named
  have hlocks := B.notSynchronized
  subst hsz
  have hD := hD0.self (sz := s.heap.size)
  generalize hAe : va_A [(h0, .inr (9, [.ref h0H, .ref h0S, .ref h0I, .ref h0K, .ref h0Ex, .ref h0E, .ref h0D, .ref h0F, .ref h0B, .ref h0R, .ref h0G, .long 0, .long 1, .int 0, .int 0, .int 0])), (h0H, .inr (8, [.ref h0Hd, .ref h0Hk, .ref h0Hr, .ref h0Hn, .ref h0He, .ref h0HT, .ref h0HP, .ref h0HL, .ref h0HN, .ref h0HM, .int 0, .int 0, .int 0]))] s.heap.size = A at hD ⊢
  have hA : ∀ q : Nat, s.heap.size ≤ q → A q := fun q h => by rw [← hAe]; exact Or.inr h
  have hS : va_S A s.heap s.heap [] := va_S.rf
  have hP : va_P G.1 vwCl [(h0, .inr (9, [.ref h0H, .ref h0S, .ref h0I, .ref h0K, .ref h0Ex, .ref h0E, .ref h0D, .ref h0F, .ref h0B, .ref h0R, .ref h0G, .long 0, .long 1, .int 0, .int 0, .int 0])), (h0H, .inr (8, [.ref h0Hd, .ref h0Hk, .ref h0Hr, .ref h0Hn, .ref h0He, .ref h0HT, .ref h0HP, .ref h0HL, .ref h0HN, .ref h0HM, .int 0, .int 0, .int 0]))] s.heap := hP
  have hl := lv_entry ([.ref h0, .int a1, .int a2, .int a3, .int a4, .int a5]) (n := 6) (Nat.le_of_ble_eq_true rfl)
  rw [lg_entry_eq]
  generalize (lg_sl ([.ref h0, .int a1, .int a2, .int a3, .int a4, .int a5]) ++ List.replicate (6 - (lg_sl ([.ref h0, .int a1, .int a2, .int a3, .int a4, .int a5])).length) Slot.unset).toArray = ls at hl ⊢
  have hl : lv_has ls 6 [(0, .ref h0), (1, .int a1), (2, .int a2), (3, .int a3), (4, .int a4), (5, .int a5)] := hl
  refine lv_aload_n hx hb dX10_left_0 rfl (lv_at hl 0 rfl) ?_
  refine va_get (D := G.1) (ci := 9) (v := .ref h0H) (C := RX10) (T := TX10) (N := 16) hx hb hts (fun _ h => List.mem_cons_of_mem _ (List.mem_append_left _ (List.mem_append_left _ (List.mem_append_right _ h)))) hown hK hP 0 rfl rfl 0 (by decide) (hts _ (List.mem_of_getElem? (i := 1) rfl)) (fun _ h9 => h9) rfl dX10_left_1 ?_
  refine lv_iload_n hx hb dX10_left_4 rfl (lv_at hl 1 rfl) ?_
  refine g_calli (wr := [(h0, .inr (9, [.ref h0H, .ref h0S, .ref h0I, .ref h0K, .ref h0Ex, .ref h0E, .ref h0D, .ref h0F, .ref h0B, .ref h0R, .ref h0G, .long 0, .long 1, .int 0, .int 0, .int 0]))]) (va_runVN (C := RX9) (As := [.int a1]) (rest := []) ⟨hx, hb, hml, hown, hts⟩ (c_X9_hasApple l G (h0H) (h0Hd) (h0Hk) (h0Hr) (h0Hn) (h0He) (h0HT) (h0HP) (h0HL) (h0HN) (h0HM) (0) (0) (a1) _) (⟨va_cnB 1 hts gX10_left_X9_hasApple_n150 rfl rfl rfl (nw79 hN) (hts _ (List.mem_of_getElem? (i := 3) rfl)) (by decide +kernel) ⟨Nat.le_of_ble_eq_true rfl, Nat.le_of_ble_eq_true rfl⟩, (hts _ (List.mem_of_getElem? (i := 2) rfl)), (hts _ (List.mem_of_getElem? (i := 4) rfl))⟩) (g_preV h0H [.int a1] hP hD hK hN [1] rfl rfl 1 (ci := 8) rfl rfl) rfl rfl hl.1 rfl (lv_room (Nat.le_of_ble_eq_true rfl)) dX10_left_5 ⟨Nat.le_of_ble_eq_true rfl, Nat.le_of_ble_eq_true rfl⟩) hP hD hS hA [1] [0] rfl rfl rfl (by decide) (fun r_1 u H locs hw hP hD hS => ?_)
  obtain ⟨rfl, rfl⟩ := hw
  have hP : va_P G.1 vwCl [(h0, .inr (9, [.ref h0H, .ref h0S, .ref h0I, .ref h0K, .ref h0Ex, .ref h0E, .ref h0D, .ref h0F, .ref h0B, .ref h0R, .ref h0G, .long 0, .long 1, .int 0, .int 0, .int 0])), (h0H, .inr (8, [.ref h0Hd, .ref h0Hk, .ref h0Hr, .ref h0Hn, .ref h0He, .ref h0HT, .ref h0HP, .ref h0HL, .ref h0HN, .ref h0HM, .int 0, .int 0, .int 0]))] H := hP
  have hD : va_D A [(h0, .inr (9, [.ref h0H, .ref h0S, .ref h0I, .ref h0K, .ref h0Ex, .ref h0E, .ref h0D, .ref h0F, .ref h0B, .ref h0R, .ref h0G, .long 0, .long 1, .int 0, .int 0, .int 0])), (h0H, .inr (8, [.ref h0Hd, .ref h0Hk, .ref h0Hr, .ref h0Hn, .ref h0He, .ref h0HT, .ref h0HP, .ref h0HL, .ref h0HN, .ref h0HM, .int 0, .int 0, .int 0]))] := hD
  refine lv_if_eq (tgt := 53) hx hb dX10_left_8 (by decide) (fun _ => ?_) (fun c_2 => g_no (by decide) c_2)
  refine lv_aload_n hx hb dX10_left_53 rfl (lv_at hl 0 rfl) ?_
  refine g_calli (wr := [(h0H, .inr (8, [.ref h0Hd, .ref h0Hk, .ref h0Hr, .ref h0Hn, .ref h0He, .ref h0HT, .ref h0HP, .ref h0HL, .ref h0HN, .ref h0HM, .int 0, .int 0, .int 0]))]) (va_runV (As := []) (rest := []) ⟨hx, hb, hml, hown, hts⟩ (e_X10_refuseBad l G (h0) (h0H) (h0S) (h0I) (h0K) (h0Ex) (h0E) (h0D) (h0F) (h0B) (h0R) (h0G) (0) (1) (0) (0) (0) _) (cwV 0 hts gX10_left_X10_refuseBad rfl rfl rfl (by decide +kernel) ⟨Nat.le_of_ble_eq_true rfl, Nat.le_of_ble_eq_true rfl⟩) (g_preV h0 [] hP hD hK hN [0] rfl rfl 0 (ci := 9) rfl rfl) rfl rfl hl.1 rfl (lv_room (Nat.le_of_ble_eq_true rfl)) dX10_left_54 ⟨Nat.le_of_ble_eq_true rfl, Nat.le_of_ble_eq_true rfl⟩) hP hD hS hA [0] [1] rfl rfl rfl (by decide) (fun r_3 u H locs hw hP hD hS => ?_)
  obtain ⟨rfl, rfl⟩ := hw
  have hP : va_P G.1 vwCl [(h0H, .inr (8, [.ref h0Hd, .ref h0Hk, .ref h0Hr, .ref h0Hn, .ref h0He, .ref h0HT, .ref h0HP, .ref h0HL, .ref h0HN, .ref h0HM, .int 0, .int 0, .int 0]))] H := hP
  have hD : va_D A [(h0H, .inr (8, [.ref h0Hd, .ref h0Hk, .ref h0Hr, .ref h0Hn, .ref h0He, .ref h0HT, .ref h0HP, .ref h0HL, .ref h0HN, .ref h0HM, .int 0, .int 0, .int 0]))] := hD
  have hP := hP.sub (ws' := []) [] rfl
  have hD := hD.sub (ws' := []) [] rfl rfl
  exact g_iret (v := (-2)) hx hb hr hlocks hP hD hS (⟨rfl, rfl⟩) dX10_left_57
theorem dX10_on_0 : decode cX10_on 0 = .ok (.aload_n 0, 1) := by decide +kernel
theorem dX10_on_1 : decode cX10_on 1 = .ok (.getfield 10, 3) := by decide +kernel
theorem dX10_on_4 : decode cX10_on 4 = .ok (.iload_n 1, 1) := by decide +kernel
set_option maxRecDepth 20000 in
theorem ggX10_on_X9_hasApple : GoodIn wsX10_on wsX9_hasApple := goodIn_r _ [6, 7, 67, 68, 69, 70, 71, 72, 73, 74, 75, 76, 77, 78, 79] (by decide +kernel) (by decide +kernel)
set_option maxRecDepth 20000 in
theorem gX10_on_X9_hasApple_n150 : GoodIn wsX10_on (wsX9_hasApple) := ggX10_on_X9_hasApple
theorem dX10_on_5 : decode cX10_on 5 = .ok (.invokevirtual 150, 3) := by decide +kernel
theorem dX10_on_8 : decode cX10_on 8 = .ok (.ifCond .eq 12, 3) := by decide +kernel
theorem dX10_on_20 : decode cX10_on 20 = .ok (.aload_n 0, 1) := by decide +kernel
set_option maxRecDepth 20000 in
theorem ggX10_on_X10_refuseBad : GoodIn wsX10_on wsX10_refuseBad := goodIn_r _ [15, 16, 51, 52, 53, 54, 55, 56, 57, 58, 59, 60, 61, 62, 63, 64, 65, 66] (by decide +kernel) (by decide +kernel)
set_option maxRecDepth 20000 in
theorem gX10_on_X10_refuseBad : GoodIn wsX10_on (wsV RX10 92 RX10 yX10_refuseBad wsX10_refuseBad) := goodIn_app (goodIn_of _ (by decide +kernel)) ggX10_on_X10_refuseBad
theorem dX10_on_21 : decode cX10_on 21 = .ok (.invokevirtual 92, 3) := by decide +kernel
theorem dX10_on_24 : decode cX10_on 24 = .ok (.ireturn, 1) := by decide +kernel
set_option maxHeartbeats 8000000 in
set_option maxRecDepth 100000 in
theorem c_X10_on (l : Launch) (G : gG) (h0 : Nat) (h0H : Nat) (h0S : Nat) (h0I : Nat) (h0K : Nat) (h0Ex : Nat) (h0E : Nat) (h0D : Nat) (h0F : Nat) (h0B : Nat) (h0R : Nat) (h0G : Nat) (h0Hd : Nat) (h0Hk : Nat) (h0Hr : Nat) (h0Hn : Nat) (h0He : Nat) (h0HT : Nat) (h0HP : Nat) (h0HL : Nat) (h0HN : Nat) (h0HM : Nat) (a1 : Int32) (a2 : Int32) (sz : Nat) : gI G l yX10_on wsX10_on ({ frames := 1, cells := 0, slots := 0, locals := 21 } : Room) [.ref h0, .int a1, .int a2] [(h0, .inr (9, [.ref h0H, .ref h0S, .ref h0I, .ref h0K, .ref h0Ex, .ref h0E, .ref h0D, .ref h0F, .ref h0B, .ref h0R, .ref h0G, .long 0, .long 1, .int 0, .int 0, .int 0])), (h0H, .inr (8, [.ref h0Hd, .ref h0Hk, .ref h0Hr, .ref h0Hn, .ref h0He, .ref h0HT, .ref h0HP, .ref h0HL, .ref h0HN, .ref h0HM, .int 0, .int 0, .int 0]))] sz (fun (r : Int32) (u : va_W) => (r = (-2) ∧ u = [])) := by
  refine Met.ofW (cc := cX10_on) (maxL := 3) (ret := (some .int)) (by decide) rfl ?_
  intro p e s m args below meth c s₁ B hml hv
  obtain ⟨rfl, hsz, hP, hK, hD0, hN⟩ := hv
  have hx := B.exec
  have hb := B.bytes
  have hr := B.returns
  have hts := atoms_spec (ws := wsX10_on) B.pre
  have hown : s.vm.findClass RX10 = some m.cls := findClass_of_methodNamed B.named
  have hlocks := B.notSynchronized
  subst hsz
  have hD := hD0.self (sz := s.heap.size)
  generalize hAe : va_A [(h0, .inr (9, [.ref h0H, .ref h0S, .ref h0I, .ref h0K, .ref h0Ex, .ref h0E, .ref h0D, .ref h0F, .ref h0B, .ref h0R, .ref h0G, .long 0, .long 1, .int 0, .int 0, .int 0])), (h0H, .inr (8, [.ref h0Hd, .ref h0Hk, .ref h0Hr, .ref h0Hn, .ref h0He, .ref h0HT, .ref h0HP, .ref h0HL, .ref h0HN, .ref h0HM, .int 0, .int 0, .int 0]))] s.heap.size = A at hD ⊢
  have hA : ∀ q : Nat, s.heap.size ≤ q → A q := fun q h => by rw [← hAe]; exact Or.inr h
  have hS : va_S A s.heap s.heap [] := va_S.rf
  have hP : va_P G.1 vwCl [(h0, .inr (9, [.ref h0H, .ref h0S, .ref h0I, .ref h0K, .ref h0Ex, .ref h0E, .ref h0D, .ref h0F, .ref h0B, .ref h0R, .ref h0G, .long 0, .long 1, .int 0, .int 0, .int 0])), (h0H, .inr (8, [.ref h0Hd, .ref h0Hk, .ref h0Hr, .ref h0Hn, .ref h0He, .ref h0HT, .ref h0HP, .ref h0HL, .ref h0HN, .ref h0HM, .int 0, .int 0, .int 0]))] s.heap := hP
  have hl := lv_entry ([.ref h0, .int a1, .int a2]) (n := 3) (Nat.le_of_ble_eq_true rfl)
  rw [lg_entry_eq]
  generalize (lg_sl ([.ref h0, .int a1, .int a2]) ++ List.replicate (3 - (lg_sl ([.ref h0, .int a1, .int a2])).length) Slot.unset).toArray = ls at hl ⊢
  have hl : lv_has ls 3 [(0, .ref h0), (1, .int a1), (2, .int a2)] := hl
  refine lv_aload_n hx hb dX10_on_0 rfl (lv_at hl 0 rfl) ?_
  refine va_get (D := G.1) (ci := 9) (v := .ref h0H) (C := RX10) (T := TX10) (N := 16) hx hb hts (fun _ h => List.mem_cons_of_mem _ (List.mem_append_left _ (List.mem_append_left _ (List.mem_append_right _ h)))) hown hK hP 0 rfl rfl 0 (by decide) (hts _ (List.mem_of_getElem? (i := 1) rfl)) (fun _ h9 => h9) rfl dX10_on_1 ?_
  refine lv_iload_n hx hb dX10_on_4 rfl (lv_at hl 1 rfl) ?_
  refine g_calli (wr := [(h0, .inr (9, [.ref h0H, .ref h0S, .ref h0I, .ref h0K, .ref h0Ex, .ref h0E, .ref h0D, .ref h0F, .ref h0B, .ref h0R, .ref h0G, .long 0, .long 1, .int 0, .int 0, .int 0]))]) (va_runVN (C := RX9) (As := [.int a1]) (rest := []) ⟨hx, hb, hml, hown, hts⟩ (c_X9_hasApple l G (h0H) (h0Hd) (h0Hk) (h0Hr) (h0Hn) (h0He) (h0HT) (h0HP) (h0HL) (h0HN) (h0HM) (0) (0) (a1) _) (⟨va_cnB 1 hts gX10_on_X9_hasApple_n150 rfl rfl rfl (nw79 hN) (hts _ (List.mem_of_getElem? (i := 4) rfl)) (by decide +kernel) ⟨Nat.le_of_ble_eq_true rfl, Nat.le_of_ble_eq_true rfl⟩, (hts _ (List.mem_of_getElem? (i := 3) rfl)), (hts _ (List.mem_of_getElem? (i := 5) rfl))⟩) (g_preV h0H [.int a1] hP hD hK hN [1] rfl rfl 1 (ci := 8) rfl rfl) rfl rfl hl.1 rfl (lv_room (Nat.le_of_ble_eq_true rfl)) dX10_on_5 ⟨Nat.le_of_ble_eq_true rfl, Nat.le_of_ble_eq_true rfl⟩) hP hD hS hA [1] [0] rfl rfl rfl (by decide) (fun r_1 u H locs hw hP hD hS => ?_)
  obtain ⟨rfl, rfl⟩ := hw
  have hP : va_P G.1 vwCl [(h0, .inr (9, [.ref h0H, .ref h0S, .ref h0I, .ref h0K, .ref h0Ex, .ref h0E, .ref h0D, .ref h0F, .ref h0B, .ref h0R, .ref h0G, .long 0, .long 1, .int 0, .int 0, .int 0])), (h0H, .inr (8, [.ref h0Hd, .ref h0Hk, .ref h0Hr, .ref h0Hn, .ref h0He, .ref h0HT, .ref h0HP, .ref h0HL, .ref h0HN, .ref h0HM, .int 0, .int 0, .int 0]))] H := hP
  have hD : va_D A [(h0, .inr (9, [.ref h0H, .ref h0S, .ref h0I, .ref h0K, .ref h0Ex, .ref h0E, .ref h0D, .ref h0F, .ref h0B, .ref h0R, .ref h0G, .long 0, .long 1, .int 0, .int 0, .int 0])), (h0H, .inr (8, [.ref h0Hd, .ref h0Hk, .ref h0Hr, .ref h0Hn, .ref h0He, .ref h0HT, .ref h0HP, .ref h0HL, .ref h0HN, .ref h0HM, .int 0, .int 0, .int 0]))] := hD
  refine lv_if_eq (tgt := 20) hx hb dX10_on_8 (by decide) (fun _ => ?_) (fun c_2 => g_no (by decide) c_2)
  refine lv_aload_n hx hb dX10_on_20 rfl (lv_at hl 0 rfl) ?_
  refine g_calli (wr := [(h0H, .inr (8, [.ref h0Hd, .ref h0Hk, .ref h0Hr, .ref h0Hn, .ref h0He, .ref h0HT, .ref h0HP, .ref h0HL, .ref h0HN, .ref h0HM, .int 0, .int 0, .int 0]))]) (va_runV (As := []) (rest := []) ⟨hx, hb, hml, hown, hts⟩ (e_X10_refuseBad l G (h0) (h0H) (h0S) (h0I) (h0K) (h0Ex) (h0E) (h0D) (h0F) (h0B) (h0R) (h0G) (0) (1) (0) (0) (0) _) (cwV 0 hts gX10_on_X10_refuseBad rfl rfl rfl (by decide +kernel) ⟨Nat.le_of_ble_eq_true rfl, Nat.le_of_ble_eq_true rfl⟩) (g_preV h0 [] hP hD hK hN [0] rfl rfl 0 (ci := 9) rfl rfl) rfl rfl hl.1 rfl (lv_room (Nat.le_of_ble_eq_true rfl)) dX10_on_21 ⟨Nat.le_of_ble_eq_true rfl, Nat.le_of_ble_eq_true rfl⟩) hP hD hS hA [0] [1] rfl rfl rfl (by decide) (fun r_3 u H locs hw hP hD hS => ?_)
  obtain ⟨rfl, rfl⟩ := hw
  have hP : va_P G.1 vwCl [(h0H, .inr (8, [.ref h0Hd, .ref h0Hk, .ref h0Hr, .ref h0Hn, .ref h0He, .ref h0HT, .ref h0HP, .ref h0HL, .ref h0HN, .ref h0HM, .int 0, .int 0, .int 0]))] H := hP
  have hD : va_D A [(h0H, .inr (8, [.ref h0Hd, .ref h0Hk, .ref h0Hr, .ref h0Hn, .ref h0He, .ref h0HT, .ref h0HP, .ref h0HL, .ref h0HN, .ref h0HM, .int 0, .int 0, .int 0]))] := hD
  have hP := hP.sub (ws' := []) [] rfl
  have hD := hD.sub (ws' := []) [] rfl rfl
  exact g_iret (v := (-2)) hx hb hr hlocks hP hD hS (⟨rfl, rfl⟩) dX10_on_24
theorem dX10_note_0 : decode cX10_note 0 = .ok (.aload_n 0, 1) := by decide +kernel
theorem dX10_note_1 : decode cX10_note 1 = .ok (.getfield 10, 3) := by decide +kernel
theorem dX10_note_4 : decode cX10_note 4 = .ok (.iload_n 1, 1) := by decide +kernel
set_option maxRecDepth 20000 in
theorem ggX10_note_X9_hasApple : GoodIn wsX10_note wsX9_hasApple := goodIn_r _ [5, 6, 48, 49, 50, 51, 52, 53, 54, 55, 56, 57, 58, 59, 60] (by decide +kernel) (by decide +kernel)
set_option maxRecDepth 20000 in
theorem gX10_note_X9_hasApple_n150 : GoodIn wsX10_note (wsX9_hasApple) := ggX10_note_X9_hasApple
theorem dX10_note_5 : decode cX10_note 5 = .ok (.invokevirtual 150, 3) := by decide +kernel
theorem dX10_note_8 : decode cX10_note 8 = .ok (.ifCond .eq 44, 3) := by decide +kernel
theorem dX10_note_52 : decode cX10_note 52 = .ok (.aload_n 0, 1) := by decide +kernel
set_option maxRecDepth 20000 in
theorem ggX10_note_X10_refuseBad : GoodIn wsX10_note wsX10_refuseBad := goodIn_r _ [14, 15, 32, 33, 34, 35, 36, 37, 38, 39, 40, 41, 42, 43, 44, 45, 46, 47] (by decide +kernel) (by decide +kernel)
set_option maxRecDepth 20000 in
theorem gX10_note_X10_refuseBad : GoodIn wsX10_note (wsV RX10 92 RX10 yX10_refuseBad wsX10_refuseBad) := goodIn_app (goodIn_of _ (by decide +kernel)) ggX10_note_X10_refuseBad
theorem dX10_note_53 : decode cX10_note 53 = .ok (.invokevirtual 92, 3) := by decide +kernel
theorem dX10_note_56 : decode cX10_note 56 = .ok (.ireturn, 1) := by decide +kernel
set_option maxHeartbeats 8000000 in
set_option maxRecDepth 100000 in
theorem c_X10_note (l : Launch) (G : gG) (h0 : Nat) (h0H : Nat) (h0S : Nat) (h0I : Nat) (h0K : Nat) (h0Ex : Nat) (h0E : Nat) (h0D : Nat) (h0F : Nat) (h0B : Nat) (h0R : Nat) (h0G : Nat) (h0Hd : Nat) (h0Hk : Nat) (h0Hr : Nat) (h0Hn : Nat) (h0He : Nat) (h0HT : Nat) (h0HP : Nat) (h0HL : Nat) (h0HN : Nat) (h0HM : Nat) (a1 : Int32) (a2 : Int32) (a3 : Int32) (a4 : Int32) (a5 : Int32) (sz : Nat) : gI G l yX10_note wsX10_note ({ frames := 1, cells := 0, slots := 0, locals := 21 } : Room) [.ref h0, .int a1, .int a2, .int a3, .int a4, .int a5] [(h0, .inr (9, [.ref h0H, .ref h0S, .ref h0I, .ref h0K, .ref h0Ex, .ref h0E, .ref h0D, .ref h0F, .ref h0B, .ref h0R, .ref h0G, .long 0, .long 1, .int 0, .int 0, .int 0])), (h0H, .inr (8, [.ref h0Hd, .ref h0Hk, .ref h0Hr, .ref h0Hn, .ref h0He, .ref h0HT, .ref h0HP, .ref h0HL, .ref h0HN, .ref h0HM, .int 0, .int 0, .int 0]))] sz (fun (r : Int32) (u : va_W) => (r = (-2) ∧ u = [])) := by
  refine Met.ofW (cc := cX10_note) (maxL := 6) (ret := (some .int)) (by decide) rfl ?_
  intro p e s m args below meth c s₁ B hml hv
  obtain ⟨rfl, hsz, hP, hK, hD0, hN⟩ := hv
  have hx := B.exec
  have hb := B.bytes
  have hr := B.returns
  have hts := atoms_spec (ws := wsX10_note) B.pre
  have hown : s.vm.findClass RX10 = some m.cls := findClass_of_methodNamed B.named
  have hlocks := B.notSynchronized
  subst hsz
  have hD := hD0.self (sz := s.heap.size)
  generalize hAe : va_A [(h0, .inr (9, [.ref h0H, .ref h0S, .ref h0I, .ref h0K, .ref h0Ex, .ref h0E, .ref h0D, .ref h0F, .ref h0B, .ref h0R, .ref h0G, .long 0, .long 1, .int 0, .int 0, .int 0])), (h0H, .inr (8, [.ref h0Hd, .ref h0Hk, .ref h0Hr, .ref h0Hn, .ref h0He, .ref h0HT, .ref h0HP, .ref h0HL, .ref h0HN, .ref h0HM, .int 0, .int 0, .int 0]))] s.heap.size = A at hD ⊢
  have hA : ∀ q : Nat, s.heap.size ≤ q → A q := fun q h => by rw [← hAe]; exact Or.inr h
  have hS : va_S A s.heap s.heap [] := va_S.rf
  have hP : va_P G.1 vwCl [(h0, .inr (9, [.ref h0H, .ref h0S, .ref h0I, .ref h0K, .ref h0Ex, .ref h0E, .ref h0D, .ref h0F, .ref h0B, .ref h0R, .ref h0G, .long 0, .long 1, .int 0, .int 0, .int 0])), (h0H, .inr (8, [.ref h0Hd, .ref h0Hk, .ref h0Hr, .ref h0Hn, .ref h0He, .ref h0HT, .ref h0HP, .ref h0HL, .ref h0HN, .ref h0HM, .int 0, .int 0, .int 0]))] s.heap := hP
  have hl := lv_entry ([.ref h0, .int a1, .int a2, .int a3, .int a4, .int a5]) (n := 6) (Nat.le_of_ble_eq_true rfl)
  rw [lg_entry_eq]
  generalize (lg_sl ([.ref h0, .int a1, .int a2, .int a3, .int a4, .int a5]) ++ List.replicate (6 - (lg_sl ([.ref h0, .int a1, .int a2, .int a3, .int a4, .int a5])).length) Slot.unset).toArray = ls at hl ⊢
  have hl : lv_has ls 6 [(0, .ref h0), (1, .int a1), (2, .int a2), (3, .int a3), (4, .int a4), (5, .int a5)] := hl
  refine lv_aload_n hx hb dX10_note_0 rfl (lv_at hl 0 rfl) ?_
  refine va_get (D := G.1) (ci := 9) (v := .ref h0H) (C := RX10) (T := TX10) (N := 16) hx hb hts (fun _ h => List.mem_cons_of_mem _ (List.mem_append_left _ (List.mem_append_left _ (List.mem_append_right _ h)))) hown hK hP 0 rfl rfl 0 (by decide) (hts _ (List.mem_of_getElem? (i := 1) rfl)) (fun _ h9 => h9) rfl dX10_note_1 ?_
  refine lv_iload_n hx hb dX10_note_4 rfl (lv_at hl 1 rfl) ?_
  refine g_calli (wr := [(h0, .inr (9, [.ref h0H, .ref h0S, .ref h0I, .ref h0K, .ref h0Ex, .ref h0E, .ref h0D, .ref h0F, .ref h0B, .ref h0R, .ref h0G, .long 0, .long 1, .int 0, .int 0, .int 0]))]) (va_runVN (C := RX9) (As := [.int a1]) (rest := []) ⟨hx, hb, hml, hown, hts⟩ (c_X9_hasApple l G (h0H) (h0Hd) (h0Hk) (h0Hr) (h0Hn) (h0He) (h0HT) (h0HP) (h0HL) (h0HN) (h0HM) (0) (0) (a1) _) (⟨va_cnB 1 hts gX10_note_X9_hasApple_n150 rfl rfl rfl (nw79 hN) (hts _ (List.mem_of_getElem? (i := 3) rfl)) (by decide +kernel) ⟨Nat.le_of_ble_eq_true rfl, Nat.le_of_ble_eq_true rfl⟩, (hts _ (List.mem_of_getElem? (i := 2) rfl)), (hts _ (List.mem_of_getElem? (i := 4) rfl))⟩) (g_preV h0H [.int a1] hP hD hK hN [1] rfl rfl 1 (ci := 8) rfl rfl) rfl rfl hl.1 rfl (lv_room (Nat.le_of_ble_eq_true rfl)) dX10_note_5 ⟨Nat.le_of_ble_eq_true rfl, Nat.le_of_ble_eq_true rfl⟩) hP hD hS hA [1] [0] rfl rfl rfl (by decide) (fun r_1 u H locs hw hP hD hS => ?_)
  obtain ⟨rfl, rfl⟩ := hw
  have hP : va_P G.1 vwCl [(h0, .inr (9, [.ref h0H, .ref h0S, .ref h0I, .ref h0K, .ref h0Ex, .ref h0E, .ref h0D, .ref h0F, .ref h0B, .ref h0R, .ref h0G, .long 0, .long 1, .int 0, .int 0, .int 0])), (h0H, .inr (8, [.ref h0Hd, .ref h0Hk, .ref h0Hr, .ref h0Hn, .ref h0He, .ref h0HT, .ref h0HP, .ref h0HL, .ref h0HN, .ref h0HM, .int 0, .int 0, .int 0]))] H := hP
  have hD : va_D A [(h0, .inr (9, [.ref h0H, .ref h0S, .ref h0I, .ref h0K, .ref h0Ex, .ref h0E, .ref h0D, .ref h0F, .ref h0B, .ref h0R, .ref h0G, .long 0, .long 1, .int 0, .int 0, .int 0])), (h0H, .inr (8, [.ref h0Hd, .ref h0Hk, .ref h0Hr, .ref h0Hn, .ref h0He, .ref h0HT, .ref h0HP, .ref h0HL, .ref h0HN, .ref h0HM, .int 0, .int 0, .int 0]))] := hD
  refine lv_if_eq (tgt := 52) hx hb dX10_note_8 (by decide) (fun _ => ?_) (fun c_2 => g_no (by decide) c_2)
  refine lv_aload_n hx hb dX10_note_52 rfl (lv_at hl 0 rfl) ?_
  refine g_calli (wr := [(h0H, .inr (8, [.ref h0Hd, .ref h0Hk, .ref h0Hr, .ref h0Hn, .ref h0He, .ref h0HT, .ref h0HP, .ref h0HL, .ref h0HN, .ref h0HM, .int 0, .int 0, .int 0]))]) (va_runV (As := []) (rest := []) ⟨hx, hb, hml, hown, hts⟩ (e_X10_refuseBad l G (h0) (h0H) (h0S) (h0I) (h0K) (h0Ex) (h0E) (h0D) (h0F) (h0B) (h0R) (h0G) (0) (1) (0) (0) (0) _) (cwV 0 hts gX10_note_X10_refuseBad rfl rfl rfl (by decide +kernel) ⟨Nat.le_of_ble_eq_true rfl, Nat.le_of_ble_eq_true rfl⟩) (g_preV h0 [] hP hD hK hN [0] rfl rfl 0 (ci := 9) rfl rfl) rfl rfl hl.1 rfl (lv_room (Nat.le_of_ble_eq_true rfl)) dX10_note_53 ⟨Nat.le_of_ble_eq_true rfl, Nat.le_of_ble_eq_true rfl⟩) hP hD hS hA [0] [1] rfl rfl rfl (by decide) (fun r_3 u H locs hw hP hD hS => ?_)
  obtain ⟨rfl, rfl⟩ := hw
  have hP : va_P G.1 vwCl [(h0H, .inr (8, [.ref h0Hd, .ref h0Hk, .ref h0Hr, .ref h0Hn, .ref h0He, .ref h0HT, .ref h0HP, .ref h0HL, .ref h0HN, .ref h0HM, .int 0, .int 0, .int 0]))] H := hP
  have hD : va_D A [(h0H, .inr (8, [.ref h0Hd, .ref h0Hk, .ref h0Hr, .ref h0Hn, .ref h0He, .ref h0HT, .ref h0HP, .ref h0HL, .ref h0HN, .ref h0HM, .int 0, .int 0, .int 0]))] := hD
  have hP := hP.sub (ws' := []) [] rfl
  have hD := hD.sub (ws' := []) [] rfl rfl
  exact g_iret (v := (-2)) hx hb hr hlocks hP hD hS (⟨rfl, rfl⟩) dX10_note_56
theorem dX10_mark_0 : decode cX10_mark 0 = .ok (.aload_n 0, 1) := by decide +kernel
theorem dX10_mark_1 : decode cX10_mark 1 = .ok (.getfield 10, 3) := by decide +kernel
theorem dX10_mark_4 : decode cX10_mark 4 = .ok (.iload_n 1, 1) := by decide +kernel
set_option maxRecDepth 20000 in
theorem ggX10_mark_X9_hasBiter : GoodIn wsX10_mark wsX9_hasBiter := goodIn_r _ [5, 6, 48, 49, 50, 51, 52, 53, 54, 55, 56, 57, 58, 59, 60] (by decide +kernel) (by decide +kernel)
set_option maxRecDepth 20000 in
theorem gX10_mark_X9_hasBiter_n146 : GoodIn wsX10_mark (wsX9_hasBiter) := ggX10_mark_X9_hasBiter
theorem dX10_mark_5 : decode cX10_mark 5 = .ok (.invokevirtual 146, 3) := by decide +kernel
theorem dX10_mark_8 : decode cX10_mark 8 = .ok (.ifCond .eq 34, 3) := by decide +kernel
theorem dX10_mark_42 : decode cX10_mark 42 = .ok (.aload_n 0, 1) := by decide +kernel
set_option maxRecDepth 20000 in
theorem ggX10_mark_X10_refuseBad : GoodIn wsX10_mark wsX10_refuseBad := goodIn_r _ [14, 15, 32, 33, 34, 35, 36, 37, 38, 39, 40, 41, 42, 43, 44, 45, 46, 47] (by decide +kernel) (by decide +kernel)
set_option maxRecDepth 20000 in
theorem gX10_mark_X10_refuseBad : GoodIn wsX10_mark (wsV RX10 92 RX10 yX10_refuseBad wsX10_refuseBad) := goodIn_app (goodIn_of _ (by decide +kernel)) ggX10_mark_X10_refuseBad
theorem dX10_mark_43 : decode cX10_mark 43 = .ok (.invokevirtual 92, 3) := by decide +kernel
theorem dX10_mark_46 : decode cX10_mark 46 = .ok (.ireturn, 1) := by decide +kernel
set_option maxHeartbeats 8000000 in
set_option maxRecDepth 100000 in
theorem c_X10_mark (l : Launch) (G : gG) (h0 : Nat) (h0H : Nat) (h0S : Nat) (h0I : Nat) (h0K : Nat) (h0Ex : Nat) (h0E : Nat) (h0D : Nat) (h0F : Nat) (h0B : Nat) (h0R : Nat) (h0G : Nat) (h0Hd : Nat) (h0Hk : Nat) (h0Hr : Nat) (h0Hn : Nat) (h0He : Nat) (h0HT : Nat) (h0HP : Nat) (h0HL : Nat) (h0HN : Nat) (h0HM : Nat) (a1 : Int32) (a2 : Int32) (a3 : Int32) (a4 : Int32) (sz : Nat) : gI G l yX10_mark wsX10_mark ({ frames := 1, cells := 0, slots := 0, locals := 21 } : Room) [.ref h0, .int a1, .int a2, .int a3, .int a4] [(h0, .inr (9, [.ref h0H, .ref h0S, .ref h0I, .ref h0K, .ref h0Ex, .ref h0E, .ref h0D, .ref h0F, .ref h0B, .ref h0R, .ref h0G, .long 0, .long 1, .int 0, .int 0, .int 0])), (h0H, .inr (8, [.ref h0Hd, .ref h0Hk, .ref h0Hr, .ref h0Hn, .ref h0He, .ref h0HT, .ref h0HP, .ref h0HL, .ref h0HN, .ref h0HM, .int 0, .int 0, .int 0]))] sz (fun (r : Int32) (u : va_W) => (r = (-2) ∧ u = [])) := by
  refine Met.ofW (cc := cX10_mark) (maxL := 5) (ret := (some .int)) (by decide) rfl ?_
  intro p e s m args below meth c s₁ B hml hv
  obtain ⟨rfl, hsz, hP, hK, hD0, hN⟩ := hv
  have hx := B.exec
  have hb := B.bytes
  have hr := B.returns
  have hts := atoms_spec (ws := wsX10_mark) B.pre
  have hown : s.vm.findClass RX10 = some m.cls := findClass_of_methodNamed B.named
  have hlocks := B.notSynchronized
  subst hsz
  have hD := hD0.self (sz := s.heap.size)
  generalize hAe : va_A [(h0, .inr (9, [.ref h0H, .ref h0S, .ref h0I, .ref h0K, .ref h0Ex, .ref h0E, .ref h0D, .ref h0F, .ref h0B, .ref h0R, .ref h0G, .long 0, .long 1, .int 0, .int 0, .int 0])), (h0H, .inr (8, [.ref h0Hd, .ref h0Hk, .ref h0Hr, .ref h0Hn, .ref h0He, .ref h0HT, .ref h0HP, .ref h0HL, .ref h0HN, .ref h0HM, .int 0, .int 0, .int 0]))] s.heap.size = A at hD ⊢
  have hA : ∀ q : Nat, s.heap.size ≤ q → A q := fun q h => by rw [← hAe]; exact Or.inr h
  have hS : va_S A s.heap s.heap [] := va_S.rf
  have hP : va_P G.1 vwCl [(h0, .inr (9, [.ref h0H, .ref h0S, .ref h0I, .ref h0K, .ref h0Ex, .ref h0E, .ref h0D, .ref h0F, .ref h0B, .ref h0R, .ref h0G, .long 0, .long 1, .int 0, .int 0, .int 0])), (h0H, .inr (8, [.ref h0Hd, .ref h0Hk, .ref h0Hr, .ref h0Hn, .ref h0He, .ref h0HT, .ref h0HP, .ref h0HL, .ref h0HN, .ref h0HM, .int 0, .int 0, .int 0]))] s.heap := hP
  have hl := lv_entry ([.ref h0, .int a1, .int a2, .int a3, .int a4]) (n := 5) (Nat.le_of_ble_eq_true rfl)
  rw [lg_entry_eq]
  generalize (lg_sl ([.ref h0, .int a1, .int a2, .int a3, .int a4]) ++ List.replicate (5 - (lg_sl ([.ref h0, .int a1, .int a2, .int a3, .int a4])).length) Slot.unset).toArray = ls at hl ⊢
  have hl : lv_has ls 5 [(0, .ref h0), (1, .int a1), (2, .int a2), (3, .int a3), (4, .int a4)] := hl
  refine lv_aload_n hx hb dX10_mark_0 rfl (lv_at hl 0 rfl) ?_
  refine va_get (D := G.1) (ci := 9) (v := .ref h0H) (C := RX10) (T := TX10) (N := 16) hx hb hts (fun _ h => List.mem_cons_of_mem _ (List.mem_append_left _ (List.mem_append_left _ (List.mem_append_right _ h)))) hown hK hP 0 rfl rfl 0 (by decide) (hts _ (List.mem_of_getElem? (i := 1) rfl)) (fun _ h9 => h9) rfl dX10_mark_1 ?_
  refine lv_iload_n hx hb dX10_mark_4 rfl (lv_at hl 1 rfl) ?_
  refine g_calli (wr := [(h0, .inr (9, [.ref h0H, .ref h0S, .ref h0I, .ref h0K, .ref h0Ex, .ref h0E, .ref h0D, .ref h0F, .ref h0B, .ref h0R, .ref h0G, .long 0, .long 1, .int 0, .int 0, .int 0]))]) (va_runVN (C := RX9) (As := [.int a1]) (rest := []) ⟨hx, hb, hml, hown, hts⟩ (c_X9_hasBiter l G (h0H) (h0Hd) (h0Hk) (h0Hr) (h0Hn) (h0He) (h0HT) (h0HP) (h0HL) (h0HN) (h0HM) (0) (0) (a1) _) (⟨va_cnB 1 hts gX10_mark_X9_hasBiter_n146 rfl rfl rfl (nw78 hN) (hts _ (List.mem_of_getElem? (i := 3) rfl)) (by decide +kernel) ⟨Nat.le_of_ble_eq_true rfl, Nat.le_of_ble_eq_true rfl⟩, (hts _ (List.mem_of_getElem? (i := 2) rfl)), (hts _ (List.mem_of_getElem? (i := 4) rfl))⟩) (g_preV h0H [.int a1] hP hD hK hN [1] rfl rfl 1 (ci := 8) rfl rfl) rfl rfl hl.1 rfl (lv_room (Nat.le_of_ble_eq_true rfl)) dX10_mark_5 ⟨Nat.le_of_ble_eq_true rfl, Nat.le_of_ble_eq_true rfl⟩) hP hD hS hA [1] [0] rfl rfl rfl (by decide) (fun r_1 u H locs hw hP hD hS => ?_)
  obtain ⟨rfl, rfl⟩ := hw
  have hP : va_P G.1 vwCl [(h0, .inr (9, [.ref h0H, .ref h0S, .ref h0I, .ref h0K, .ref h0Ex, .ref h0E, .ref h0D, .ref h0F, .ref h0B, .ref h0R, .ref h0G, .long 0, .long 1, .int 0, .int 0, .int 0])), (h0H, .inr (8, [.ref h0Hd, .ref h0Hk, .ref h0Hr, .ref h0Hn, .ref h0He, .ref h0HT, .ref h0HP, .ref h0HL, .ref h0HN, .ref h0HM, .int 0, .int 0, .int 0]))] H := hP
  have hD : va_D A [(h0, .inr (9, [.ref h0H, .ref h0S, .ref h0I, .ref h0K, .ref h0Ex, .ref h0E, .ref h0D, .ref h0F, .ref h0B, .ref h0R, .ref h0G, .long 0, .long 1, .int 0, .int 0, .int 0])), (h0H, .inr (8, [.ref h0Hd, .ref h0Hk, .ref h0Hr, .ref h0Hn, .ref h0He, .ref h0HT, .ref h0HP, .ref h0HL, .ref h0HN, .ref h0HM, .int 0, .int 0, .int 0]))] := hD
  refine lv_if_eq (tgt := 42) hx hb dX10_mark_8 (by decide) (fun _ => ?_) (fun c_2 => g_no (by decide) c_2)
  refine lv_aload_n hx hb dX10_mark_42 rfl (lv_at hl 0 rfl) ?_
  refine g_calli (wr := [(h0H, .inr (8, [.ref h0Hd, .ref h0Hk, .ref h0Hr, .ref h0Hn, .ref h0He, .ref h0HT, .ref h0HP, .ref h0HL, .ref h0HN, .ref h0HM, .int 0, .int 0, .int 0]))]) (va_runV (As := []) (rest := []) ⟨hx, hb, hml, hown, hts⟩ (e_X10_refuseBad l G (h0) (h0H) (h0S) (h0I) (h0K) (h0Ex) (h0E) (h0D) (h0F) (h0B) (h0R) (h0G) (0) (1) (0) (0) (0) _) (cwV 0 hts gX10_mark_X10_refuseBad rfl rfl rfl (by decide +kernel) ⟨Nat.le_of_ble_eq_true rfl, Nat.le_of_ble_eq_true rfl⟩) (g_preV h0 [] hP hD hK hN [0] rfl rfl 0 (ci := 9) rfl rfl) rfl rfl hl.1 rfl (lv_room (Nat.le_of_ble_eq_true rfl)) dX10_mark_43 ⟨Nat.le_of_ble_eq_true rfl, Nat.le_of_ble_eq_true rfl⟩) hP hD hS hA [0] [1] rfl rfl rfl (by decide) (fun r_3 u H locs hw hP hD hS => ?_)
  obtain ⟨rfl, rfl⟩ := hw
  have hP : va_P G.1 vwCl [(h0H, .inr (8, [.ref h0Hd, .ref h0Hk, .ref h0Hr, .ref h0Hn, .ref h0He, .ref h0HT, .ref h0HP, .ref h0HL, .ref h0HN, .ref h0HM, .int 0, .int 0, .int 0]))] H := hP
  have hD : va_D A [(h0H, .inr (8, [.ref h0Hd, .ref h0Hk, .ref h0Hr, .ref h0Hn, .ref h0He, .ref h0HT, .ref h0HP, .ref h0HL, .ref h0HN, .ref h0HM, .int 0, .int 0, .int 0]))] := hD
  have hP := hP.sub (ws' := []) [] rfl
  have hD := hD.sub (ws' := []) [] rfl rfl
  exact g_iret (v := (-2)) hx hb hr hlocks hP hD hS (⟨rfl, rfl⟩) dX10_mark_46
theorem dX10_is_0 : decode cX10_is 0 = .ok (.aload_n 0, 1) := by decide +kernel
theorem dX10_is_1 : decode cX10_is 1 = .ok (.getfield 10, 3) := by decide +kernel
theorem dX10_is_4 : decode cX10_is 4 = .ok (.iload_n 1, 1) := by decide +kernel
set_option maxRecDepth 20000 in
theorem ggX10_is_X9_hasApple : GoodIn wsX10_is wsX9_hasApple := goodIn_r _ [6, 7, 54, 55, 56, 57, 58, 59, 60, 61, 62, 63, 64, 65, 66] (by decide +kernel) (by decide +kernel)
set_option maxRecDepth 20000 in
theorem gX10_is_X9_hasApple_n150 : GoodIn wsX10_is (wsX9_hasApple) := ggX10_is_X9_hasApple
theorem dX10_is_5 : decode cX10_is 5 = .ok (.invokevirtual 150, 3) := by decide +kernel
theorem dX10_is_8 : decode cX10_is 8 = .ok (.ifCond .ne 8, 3) := by decide +kernel
theorem dX10_is_11 : decode cX10_is 11 = .ok (.aload_n 0, 1) := by decide +kernel
set_option maxRecDepth 20000 in
theorem ggX10_is_X10_refuseBad : GoodIn wsX10_is wsX10_refuseBad := goodIn_r _ [12, 13, 38, 39, 40, 41, 42, 43, 44, 45, 46, 47, 48, 49, 50, 51, 52, 53] (by decide +kernel) (by decide +kernel)
set_option maxRecDepth 20000 in
theorem gX10_is_X10_refuseBad : GoodIn wsX10_is (wsV RX10 92 RX10 yX10_refuseBad wsX10_refuseBad) := goodIn_app (goodIn_of _ (by decide +kernel)) ggX10_is_X10_refuseBad
theorem dX10_is_12 : decode cX10_is 12 = .ok (.invokevirtual 92, 3) := by decide +kernel
theorem dX10_is_15 : decode cX10_is 15 = .ok (.ireturn, 1) := by decide +kernel
set_option maxHeartbeats 8000000 in
set_option maxRecDepth 100000 in
theorem c_X10_is (l : Launch) (G : gG) (h0 : Nat) (h0H : Nat) (h0S : Nat) (h0I : Nat) (h0K : Nat) (h0Ex : Nat) (h0E : Nat) (h0D : Nat) (h0F : Nat) (h0B : Nat) (h0R : Nat) (h0G : Nat) (h0Hd : Nat) (h0Hk : Nat) (h0Hr : Nat) (h0Hn : Nat) (h0He : Nat) (h0HT : Nat) (h0HP : Nat) (h0HL : Nat) (h0HN : Nat) (h0HM : Nat) (a1 : Int32) (sz : Nat) : gI G l yX10_is wsX10_is ({ frames := 1, cells := 0, slots := 0, locals := 21 } : Room) [.ref h0, .int a1] [(h0, .inr (9, [.ref h0H, .ref h0S, .ref h0I, .ref h0K, .ref h0Ex, .ref h0E, .ref h0D, .ref h0F, .ref h0B, .ref h0R, .ref h0G, .long 0, .long 1, .int 0, .int 0, .int 0])), (h0H, .inr (8, [.ref h0Hd, .ref h0Hk, .ref h0Hr, .ref h0Hn, .ref h0He, .ref h0HT, .ref h0HP, .ref h0HL, .ref h0HN, .ref h0HM, .int 0, .int 0, .int 0]))] sz (fun (r : Int32) (u : va_W) => (r = (-2) ∧ u = [])) := by
  refine Met.ofW (cc := cX10_is) (maxL := 2) (ret := (some .int)) (by decide) rfl ?_
  intro p e s m args below meth c s₁ B hml hv
  obtain ⟨rfl, hsz, hP, hK, hD0, hN⟩ := hv
  have hx := B.exec
  have hb := B.bytes
  have hr := B.returns
  have hts := atoms_spec (ws := wsX10_is) B.pre
  have hown : s.vm.findClass RX10 = some m.cls := findClass_of_methodNamed B.named
  have hlocks := B.notSynchronized
  subst hsz
  have hD := hD0.self (sz := s.heap.size)
  generalize hAe : va_A [(h0, .inr (9, [.ref h0H, .ref h0S, .ref h0I, .ref h0K, .ref h0Ex, .ref h0E, .ref h0D, .ref h0F, .ref h0B, .ref h0R, .ref h0G, .long 0, .long 1, .int 0, .int 0, .int 0])), (h0H, .inr (8, [.ref h0Hd, .ref h0Hk, .ref h0Hr, .ref h0Hn, .ref h0He, .ref h0HT, .ref h0HP, .ref h0HL, .ref h0HN, .ref h0HM, .int 0, .int 0, .int 0]))] s.heap.size = A at hD ⊢
  have hA : ∀ q : Nat, s.heap.size ≤ q → A q := fun q h => by rw [← hAe]; exact Or.inr h
  have hS : va_S A s.heap s.heap [] := va_S.rf
  have hP : va_P G.1 vwCl [(h0, .inr (9, [.ref h0H, .ref h0S, .ref h0I, .ref h0K, .ref h0Ex, .ref h0E, .ref h0D, .ref h0F, .ref h0B, .ref h0R, .ref h0G, .long 0, .long 1, .int 0, .int 0, .int 0])), (h0H, .inr (8, [.ref h0Hd, .ref h0Hk, .ref h0Hr, .ref h0Hn, .ref h0He, .ref h0HT, .ref h0HP, .ref h0HL, .ref h0HN, .ref h0HM, .int 0, .int 0, .int 0]))] s.heap := hP
  have hl := lv_entry ([.ref h0, .int a1]) (n := 2) (Nat.le_of_ble_eq_true rfl)
  rw [lg_entry_eq]
  generalize (lg_sl ([.ref h0, .int a1]) ++ List.replicate (2 - (lg_sl ([.ref h0, .int a1])).length) Slot.unset).toArray = ls at hl ⊢
  have hl : lv_has ls 2 [(0, .ref h0), (1, .int a1)] := hl
  refine lv_aload_n hx hb dX10_is_0 rfl (lv_at hl 0 rfl) ?_
  refine va_get (D := G.1) (ci := 9) (v := .ref h0H) (C := RX10) (T := TX10) (N := 16) hx hb hts (fun _ h => List.mem_cons_of_mem _ (List.mem_append_left _ (List.mem_append_left _ (List.mem_append_right _ h)))) hown hK hP 0 rfl rfl 0 (by decide) (hts _ (List.mem_of_getElem? (i := 1) rfl)) (fun _ h9 => h9) rfl dX10_is_1 ?_
  refine lv_iload_n hx hb dX10_is_4 rfl (lv_at hl 1 rfl) ?_
  refine g_calli (wr := [(h0, .inr (9, [.ref h0H, .ref h0S, .ref h0I, .ref h0K, .ref h0Ex, .ref h0E, .ref h0D, .ref h0F, .ref h0B, .ref h0R, .ref h0G, .long 0, .long 1, .int 0, .int 0, .int 0]))]) (va_runVN (C := RX9) (As := [.int a1]) (rest := []) ⟨hx, hb, hml, hown, hts⟩ (c_X9_hasApple l G (h0H) (h0Hd) (h0Hk) (h0Hr) (h0Hn) (h0He) (h0HT) (h0HP) (h0HL) (h0HN) (h0HM) (0) (0) (a1) _) (⟨va_cnB 1 hts gX10_is_X9_hasApple_n150 rfl rfl rfl (nw79 hN) (hts _ (List.mem_of_getElem? (i := 4) rfl)) (by decide +kernel) ⟨Nat.le_of_ble_eq_true rfl, Nat.le_of_ble_eq_true rfl⟩, (hts _ (List.mem_of_getElem? (i := 3) rfl)), (hts _ (List.mem_of_getElem? (i := 5) rfl))⟩) (g_preV h0H [.int a1] hP hD hK hN [1] rfl rfl 1 (ci := 8) rfl rfl) rfl rfl hl.1 rfl (lv_room (Nat.le_of_ble_eq_true rfl)) dX10_is_5 ⟨Nat.le_of_ble_eq_true rfl, Nat.le_of_ble_eq_true rfl⟩) hP hD hS hA [1] [0] rfl rfl rfl (by decide) (fun r_1 u H locs hw hP hD hS => ?_)
  obtain ⟨rfl, rfl⟩ := hw
  have hP : va_P G.1 vwCl [(h0, .inr (9, [.ref h0H, .ref h0S, .ref h0I, .ref h0K, .ref h0Ex, .ref h0E, .ref h0D, .ref h0F, .ref h0B, .ref h0R, .ref h0G, .long 0, .long 1, .int 0, .int 0, .int 0])), (h0H, .inr (8, [.ref h0Hd, .ref h0Hk, .ref h0Hr, .ref h0Hn, .ref h0He, .ref h0HT, .ref h0HP, .ref h0HL, .ref h0HN, .ref h0HM, .int 0, .int 0, .int 0]))] H := hP
  have hD : va_D A [(h0, .inr (9, [.ref h0H, .ref h0S, .ref h0I, .ref h0K, .ref h0Ex, .ref h0E, .ref h0D, .ref h0F, .ref h0B, .ref h0R, .ref h0G, .long 0, .long 1, .int 0, .int 0, .int 0])), (h0H, .inr (8, [.ref h0Hd, .ref h0Hk, .ref h0Hr, .ref h0Hn, .ref h0He, .ref h0HT, .ref h0HP, .ref h0HL, .ref h0HN, .ref h0HM, .int 0, .int 0, .int 0]))] := hD
  refine lv_if_ne (tgt := 16) hx hb dX10_is_8 (by decide) (fun c_2 => g_no (by decide) c_2) (fun _ => ?_)
  refine lv_aload_n hx hb dX10_is_11 rfl (lv_at hl 0 rfl) ?_
  refine g_calli (wr := [(h0H, .inr (8, [.ref h0Hd, .ref h0Hk, .ref h0Hr, .ref h0Hn, .ref h0He, .ref h0HT, .ref h0HP, .ref h0HL, .ref h0HN, .ref h0HM, .int 0, .int 0, .int 0]))]) (va_runV (As := []) (rest := []) ⟨hx, hb, hml, hown, hts⟩ (e_X10_refuseBad l G (h0) (h0H) (h0S) (h0I) (h0K) (h0Ex) (h0E) (h0D) (h0F) (h0B) (h0R) (h0G) (0) (1) (0) (0) (0) _) (cwV 0 hts gX10_is_X10_refuseBad rfl rfl rfl (by decide +kernel) ⟨Nat.le_of_ble_eq_true rfl, Nat.le_of_ble_eq_true rfl⟩) (g_preV h0 [] hP hD hK hN [0] rfl rfl 0 (ci := 9) rfl rfl) rfl rfl hl.1 rfl (lv_room (Nat.le_of_ble_eq_true rfl)) dX10_is_12 ⟨Nat.le_of_ble_eq_true rfl, Nat.le_of_ble_eq_true rfl⟩) hP hD hS hA [0] [1] rfl rfl rfl (by decide) (fun r_3 u H locs hw hP hD hS => ?_)
  obtain ⟨rfl, rfl⟩ := hw
  have hP : va_P G.1 vwCl [(h0H, .inr (8, [.ref h0Hd, .ref h0Hk, .ref h0Hr, .ref h0Hn, .ref h0He, .ref h0HT, .ref h0HP, .ref h0HL, .ref h0HN, .ref h0HM, .int 0, .int 0, .int 0]))] H := hP
  have hD : va_D A [(h0H, .inr (8, [.ref h0Hd, .ref h0Hk, .ref h0Hr, .ref h0Hn, .ref h0He, .ref h0HT, .ref h0HP, .ref h0HL, .ref h0HN, .ref h0HM, .int 0, .int 0, .int 0]))] := hD
  have hP := hP.sub (ws' := []) [] rfl
  have hD := hD.sub (ws' := []) [] rfl rfl
  exact g_iret (v := (-2)) hx hb hr hlocks hP hD hS (⟨rfl, rfl⟩) dX10_is_15
theorem dX10_look_0 : decode cX10_look 0 = .ok (.aload_n 0, 1) := by decide +kernel
theorem dX10_look_1 : decode cX10_look 1 = .ok (.getfield 10, 3) := by decide +kernel
theorem dX10_look_4 : decode cX10_look 4 = .ok (.iload_n 1, 1) := by decide +kernel
set_option maxRecDepth 20000 in
theorem ggX10_look_X9_hasApple : GoodIn wsX10_look wsX9_hasApple := goodIn_r _ [6, 7, 64, 65, 66, 67, 68, 69, 70, 71, 72, 73, 74, 75, 76] (by decide +kernel) (by decide +kernel)
set_option maxRecDepth 20000 in
theorem gX10_look_X9_hasApple_n150 : GoodIn wsX10_look (wsX9_hasApple) := ggX10_look_X9_hasApple
theorem dX10_look_5 : decode cX10_look 5 = .ok (.invokevirtual 150, 3) := by decide +kernel
theorem dX10_look_8 : decode cX10_look 8 = .ok (.ifCond .ne 8, 3) := by decide +kernel
theorem dX10_look_11 : decode cX10_look 11 = .ok (.aload_n 0, 1) := by decide +kernel
set_option maxRecDepth 20000 in
theorem ggX10_look_X10_refuseBad : GoodIn wsX10_look wsX10_refuseBad := goodIn_r _ [12, 13, 48, 49, 50, 51, 52, 53, 54, 55, 56, 57, 58, 59, 60, 61, 62, 63] (by decide +kernel) (by decide +kernel)
set_option maxRecDepth 20000 in
theorem gX10_look_X10_refuseBad : GoodIn wsX10_look (wsV RX10 92 RX10 yX10_refuseBad wsX10_refuseBad) := goodIn_app (goodIn_of _ (by decide +kernel)) ggX10_look_X10_refuseBad
theorem dX10_look_12 : decode cX10_look 12 = .ok (.invokevirtual 92, 3) := by decide +kernel
theorem dX10_look_15 : decode cX10_look 15 = .ok (.ireturn, 1) := by decide +kernel
set_option maxHeartbeats 8000000 in
set_option maxRecDepth 100000 in
theorem c_X10_look (l : Launch) (G : gG) (h0 : Nat) (h0H : Nat) (h0S : Nat) (h0I : Nat) (h0K : Nat) (h0Ex : Nat) (h0E : Nat) (h0D : Nat) (h0F : Nat) (h0B : Nat) (h0R : Nat) (h0G : Nat) (h0Hd : Nat) (h0Hk : Nat) (h0Hr : Nat) (h0Hn : Nat) (h0He : Nat) (h0HT : Nat) (h0HP : Nat) (h0HL : Nat) (h0HN : Nat) (h0HM : Nat) (a1 : Int32) (sz : Nat) : gI G l yX10_look wsX10_look ({ frames := 1, cells := 0, slots := 0, locals := 21 } : Room) [.ref h0, .int a1] [(h0, .inr (9, [.ref h0H, .ref h0S, .ref h0I, .ref h0K, .ref h0Ex, .ref h0E, .ref h0D, .ref h0F, .ref h0B, .ref h0R, .ref h0G, .long 0, .long 1, .int 0, .int 0, .int 0])), (h0H, .inr (8, [.ref h0Hd, .ref h0Hk, .ref h0Hr, .ref h0Hn, .ref h0He, .ref h0HT, .ref h0HP, .ref h0HL, .ref h0HN, .ref h0HM, .int 0, .int 0, .int 0]))] sz (fun (r : Int32) (u : va_W) => (r = (-2) ∧ u = [])) := by
  refine Met.ofW (cc := cX10_look) (maxL := 2) (ret := (some .int)) (by decide) rfl ?_
  intro p e s m args below meth c s₁ B hml hv
  obtain ⟨rfl, hsz, hP, hK, hD0, hN⟩ := hv
  have hx := B.exec
  have hb := B.bytes
  have hr := B.returns
  have hts := atoms_spec (ws := wsX10_look) B.pre
  have hown : s.vm.findClass RX10 = some m.cls := findClass_of_methodNamed B.named
  have hlocks := B.notSynchronized
  subst hsz
  have hD := hD0.self (sz := s.heap.size)
  generalize hAe : va_A [(h0, .inr (9, [.ref h0H, .ref h0S, .ref h0I, .ref h0K, .ref h0Ex, .ref h0E, .ref h0D, .ref h0F, .ref h0B, .ref h0R, .ref h0G, .long 0, .long 1, .int 0, .int 0, .int 0])), (h0H, .inr (8, [.ref h0Hd, .ref h0Hk, .ref h0Hr, .ref h0Hn, .ref h0He, .ref h0HT, .ref h0HP, .ref h0HL, .ref h0HN, .ref h0HM, .int 0, .int 0, .int 0]))] s.heap.size = A at hD ⊢
  have hA : ∀ q : Nat, s.heap.size ≤ q → A q := fun q h => by rw [← hAe]; exact Or.inr h
  have hS : va_S A s.heap s.heap [] := va_S.rf
  have hP : va_P G.1 vwCl [(h0, .inr (9, [.ref h0H, .ref h0S, .ref h0I, .ref h0K, .ref h0Ex, .ref h0E, .ref h0D, .ref h0F, .ref h0B, .ref h0R, .ref h0G, .long 0, .long 1, .int 0, .int 0, .int 0])), (h0H, .inr (8, [.ref h0Hd, .ref h0Hk, .ref h0Hr, .ref h0Hn, .ref h0He, .ref h0HT, .ref h0HP, .ref h0HL, .ref h0HN, .ref h0HM, .int 0, .int 0, .int 0]))] s.heap := hP
  have hl := lv_entry ([.ref h0, .int a1]) (n := 2) (Nat.le_of_ble_eq_true rfl)
  rw [lg_entry_eq]
  generalize (lg_sl ([.ref h0, .int a1]) ++ List.replicate (2 - (lg_sl ([.ref h0, .int a1])).length) Slot.unset).toArray = ls at hl ⊢
  have hl : lv_has ls 2 [(0, .ref h0), (1, .int a1)] := hl
  refine lv_aload_n hx hb dX10_look_0 rfl (lv_at hl 0 rfl) ?_
  refine va_get (D := G.1) (ci := 9) (v := .ref h0H) (C := RX10) (T := TX10) (N := 16) hx hb hts (fun _ h => List.mem_cons_of_mem _ (List.mem_append_left _ (List.mem_append_left _ (List.mem_append_left _ (List.mem_append_left _ (List.mem_append_right _ h)))))) hown hK hP 0 rfl rfl 0 (by decide) (hts _ (List.mem_of_getElem? (i := 1) rfl)) (fun _ h9 => h9) rfl dX10_look_1 ?_
  refine lv_iload_n hx hb dX10_look_4 rfl (lv_at hl 1 rfl) ?_
  refine g_calli (wr := [(h0, .inr (9, [.ref h0H, .ref h0S, .ref h0I, .ref h0K, .ref h0Ex, .ref h0E, .ref h0D, .ref h0F, .ref h0B, .ref h0R, .ref h0G, .long 0, .long 1, .int 0, .int 0, .int 0]))]) (va_runVN (C := RX9) (As := [.int a1]) (rest := []) ⟨hx, hb, hml, hown, hts⟩ (c_X9_hasApple l G (h0H) (h0Hd) (h0Hk) (h0Hr) (h0Hn) (h0He) (h0HT) (h0HP) (h0HL) (h0HN) (h0HM) (0) (0) (a1) _) (⟨va_cnB 1 hts gX10_look_X9_hasApple_n150 rfl rfl rfl (nw79 hN) (hts _ (List.mem_of_getElem? (i := 4) rfl)) (by decide +kernel) ⟨Nat.le_of_ble_eq_true rfl, Nat.le_of_ble_eq_true rfl⟩, (hts _ (List.mem_of_getElem? (i := 3) rfl)), (hts _ (List.mem_of_getElem? (i := 5) rfl))⟩) (g_preV h0H [.int a1] hP hD hK hN [1] rfl rfl 1 (ci := 8) rfl rfl) rfl rfl hl.1 rfl (lv_room (Nat.le_of_ble_eq_true rfl)) dX10_look_5 ⟨Nat.le_of_ble_eq_true rfl, Nat.le_of_ble_eq_true rfl⟩) hP hD hS hA [1] [0] rfl rfl rfl (by decide) (fun r_1 u H locs hw hP hD hS => ?_)
  obtain ⟨rfl, rfl⟩ := hw
  have hP : va_P G.1 vwCl [(h0, .inr (9, [.ref h0H, .ref h0S, .ref h0I, .ref h0K, .ref h0Ex, .ref h0E, .ref h0D, .ref h0F, .ref h0B, .ref h0R, .ref h0G, .long 0, .long 1, .int 0, .int 0, .int 0])), (h0H, .inr (8, [.ref h0Hd, .ref h0Hk, .ref h0Hr, .ref h0Hn, .ref h0He, .ref h0HT, .ref h0HP, .ref h0HL, .ref h0HN, .ref h0HM, .int 0, .int 0, .int 0]))] H := hP
  have hD : va_D A [(h0, .inr (9, [.ref h0H, .ref h0S, .ref h0I, .ref h0K, .ref h0Ex, .ref h0E, .ref h0D, .ref h0F, .ref h0B, .ref h0R, .ref h0G, .long 0, .long 1, .int 0, .int 0, .int 0])), (h0H, .inr (8, [.ref h0Hd, .ref h0Hk, .ref h0Hr, .ref h0Hn, .ref h0He, .ref h0HT, .ref h0HP, .ref h0HL, .ref h0HN, .ref h0HM, .int 0, .int 0, .int 0]))] := hD
  refine lv_if_ne (tgt := 16) hx hb dX10_look_8 (by decide) (fun c_2 => g_no (by decide) c_2) (fun _ => ?_)
  refine lv_aload_n hx hb dX10_look_11 rfl (lv_at hl 0 rfl) ?_
  refine g_calli (wr := [(h0H, .inr (8, [.ref h0Hd, .ref h0Hk, .ref h0Hr, .ref h0Hn, .ref h0He, .ref h0HT, .ref h0HP, .ref h0HL, .ref h0HN, .ref h0HM, .int 0, .int 0, .int 0]))]) (va_runV (As := []) (rest := []) ⟨hx, hb, hml, hown, hts⟩ (e_X10_refuseBad l G (h0) (h0H) (h0S) (h0I) (h0K) (h0Ex) (h0E) (h0D) (h0F) (h0B) (h0R) (h0G) (0) (1) (0) (0) (0) _) (cwV 0 hts gX10_look_X10_refuseBad rfl rfl rfl (by decide +kernel) ⟨Nat.le_of_ble_eq_true rfl, Nat.le_of_ble_eq_true rfl⟩) (g_preV h0 [] hP hD hK hN [0] rfl rfl 0 (ci := 9) rfl rfl) rfl rfl hl.1 rfl (lv_room (Nat.le_of_ble_eq_true rfl)) dX10_look_12 ⟨Nat.le_of_ble_eq_true rfl, Nat.le_of_ble_eq_true rfl⟩) hP hD hS hA [0] [1] rfl rfl rfl (by decide) (fun r_3 u H locs hw hP hD hS => ?_)
  obtain ⟨rfl, rfl⟩ := hw
  have hP : va_P G.1 vwCl [(h0H, .inr (8, [.ref h0Hd, .ref h0Hk, .ref h0Hr, .ref h0Hn, .ref h0He, .ref h0HT, .ref h0HP, .ref h0HL, .ref h0HN, .ref h0HM, .int 0, .int 0, .int 0]))] H := hP
  have hD : va_D A [(h0H, .inr (8, [.ref h0Hd, .ref h0Hk, .ref h0Hr, .ref h0Hn, .ref h0He, .ref h0HT, .ref h0HP, .ref h0HL, .ref h0HN, .ref h0HM, .int 0, .int 0, .int 0]))] := hD
  have hP := hP.sub (ws' := []) [] rfl
  have hD := hD.sub (ws' := []) [] rfl rfl
  exact g_iret (v := (-2)) hx hb hr hlocks hP hD hS (⟨rfl, rfl⟩) dX10_look_15
theorem dX10_kinds_0 : decode cX10_kinds 0 = .ok (.aload_n 0, 1) := by decide +kernel
theorem dX10_kinds_1 : decode cX10_kinds 1 = .ok (.getfield 10, 3) := by decide +kernel
theorem dX10_kinds_4 : decode cX10_kinds 4 = .ok (.iload_n 1, 1) := by decide +kernel
set_option maxRecDepth 20000 in
theorem ggX10_kinds_X9_hasBiter : GoodIn wsX10_kinds wsX9_hasBiter := goodIn_r _ [6, 7, 51, 52, 53, 54, 55, 56, 57, 58, 59, 60, 61, 62, 63] (by decide +kernel) (by decide +kernel)
set_option maxRecDepth 20000 in
theorem gX10_kinds_X9_hasBiter_n146 : GoodIn wsX10_kinds (wsX9_hasBiter) := ggX10_kinds_X9_hasBiter
theorem dX10_kinds_5 : decode cX10_kinds 5 = .ok (.invokevirtual 146, 3) := by decide +kernel
theorem dX10_kinds_8 : decode cX10_kinds 8 = .ok (.ifCond .ne 8, 3) := by decide +kernel
theorem dX10_kinds_11 : decode cX10_kinds 11 = .ok (.aload_n 0, 1) := by decide +kernel
set_option maxRecDepth 20000 in
theorem ggX10_kinds_X10_refuseBad : GoodIn wsX10_kinds wsX10_refuseBad := goodIn_r _ [12, 13, 35, 36, 37, 38, 39, 40, 41, 42, 43, 44, 45, 46, 47, 48, 49, 50] (by decide +kernel) (by decide +kernel)
set_option maxRecDepth 20000 in
theorem gX10_kinds_X10_refuseBad : GoodIn wsX10_kinds (wsV RX10 92 RX10 yX10_refuseBad wsX10_refuseBad) := goodIn_app (goodIn_of _ (by decide +kernel)) ggX10_kinds_X10_refuseBad
theorem dX10_kinds_12 : decode cX10_kinds 12 = .ok (.invokevirtual 92, 3) := by decide +kernel
theorem dX10_kinds_15 : decode cX10_kinds 15 = .ok (.ireturn, 1) := by decide +kernel
set_option maxHeartbeats 8000000 in
set_option maxRecDepth 100000 in
theorem c_X10_kinds (l : Launch) (G : gG) (h0 : Nat) (h0H : Nat) (h0S : Nat) (h0I : Nat) (h0K : Nat) (h0Ex : Nat) (h0E : Nat) (h0D : Nat) (h0F : Nat) (h0B : Nat) (h0R : Nat) (h0G : Nat) (h0Hd : Nat) (h0Hk : Nat) (h0Hr : Nat) (h0Hn : Nat) (h0He : Nat) (h0HT : Nat) (h0HP : Nat) (h0HL : Nat) (h0HN : Nat) (h0HM : Nat) (a1 : Int32) (sz : Nat) : gI G l yX10_kinds wsX10_kinds ({ frames := 1, cells := 0, slots := 0, locals := 21 } : Room) [.ref h0, .int a1] [(h0, .inr (9, [.ref h0H, .ref h0S, .ref h0I, .ref h0K, .ref h0Ex, .ref h0E, .ref h0D, .ref h0F, .ref h0B, .ref h0R, .ref h0G, .long 0, .long 1, .int 0, .int 0, .int 0])), (h0H, .inr (8, [.ref h0Hd, .ref h0Hk, .ref h0Hr, .ref h0Hn, .ref h0He, .ref h0HT, .ref h0HP, .ref h0HL, .ref h0HN, .ref h0HM, .int 0, .int 0, .int 0]))] sz (fun (r : Int32) (u : va_W) => (r = (-2) ∧ u = [])) := by
  refine Met.ofW (cc := cX10_kinds) (maxL := 2) (ret := (some .int)) (by decide) rfl ?_
  intro p e s m args below meth c s₁ B hml hv
  obtain ⟨rfl, hsz, hP, hK, hD0, hN⟩ := hv
  have hx := B.exec
  have hb := B.bytes
  have hr := B.returns
  have hts := atoms_spec (ws := wsX10_kinds) B.pre
  have hown : s.vm.findClass RX10 = some m.cls := findClass_of_methodNamed B.named
  have hlocks := B.notSynchronized
  subst hsz
  have hD := hD0.self (sz := s.heap.size)
  generalize hAe : va_A [(h0, .inr (9, [.ref h0H, .ref h0S, .ref h0I, .ref h0K, .ref h0Ex, .ref h0E, .ref h0D, .ref h0F, .ref h0B, .ref h0R, .ref h0G, .long 0, .long 1, .int 0, .int 0, .int 0])), (h0H, .inr (8, [.ref h0Hd, .ref h0Hk, .ref h0Hr, .ref h0Hn, .ref h0He, .ref h0HT, .ref h0HP, .ref h0HL, .ref h0HN, .ref h0HM, .int 0, .int 0, .int 0]))] s.heap.size = A at hD ⊢
  have hA : ∀ q : Nat, s.heap.size ≤ q → A q := fun q h => by rw [← hAe]; exact Or.inr h
  have hS : va_S A s.heap s.heap [] := va_S.rf
  have hP : va_P G.1 vwCl [(h0, .inr (9, [.ref h0H, .ref h0S, .ref h0I, .ref h0K, .ref h0Ex, .ref h0E, .ref h0D, .ref h0F, .ref h0B, .ref h0R, .ref h0G, .long 0, .long 1, .int 0, .int 0, .int 0])), (h0H, .inr (8, [.ref h0Hd, .ref h0Hk, .ref h0Hr, .ref h0Hn, .ref h0He, .ref h0HT, .ref h0HP, .ref h0HL, .ref h0HN, .ref h0HM, .int 0, .int 0, .int 0]))] s.heap := hP
  have hl := lv_entry ([.ref h0, .int a1]) (n := 2) (Nat.le_of_ble_eq_true rfl)
  rw [lg_entry_eq]
  generalize (lg_sl ([.ref h0, .int a1]) ++ List.replicate (2 - (lg_sl ([.ref h0, .int a1])).length) Slot.unset).toArray = ls at hl ⊢
  have hl : lv_has ls 2 [(0, .ref h0), (1, .int a1)] := hl
  refine lv_aload_n hx hb dX10_kinds_0 rfl (lv_at hl 0 rfl) ?_
  refine va_get (D := G.1) (ci := 9) (v := .ref h0H) (C := RX10) (T := TX10) (N := 16) hx hb hts (fun _ h => List.mem_cons_of_mem _ (List.mem_append_left _ (List.mem_append_left _ (List.mem_append_right _ h)))) hown hK hP 0 rfl rfl 0 (by decide) (hts _ (List.mem_of_getElem? (i := 1) rfl)) (fun _ h9 => h9) rfl dX10_kinds_1 ?_
  refine lv_iload_n hx hb dX10_kinds_4 rfl (lv_at hl 1 rfl) ?_
  refine g_calli (wr := [(h0, .inr (9, [.ref h0H, .ref h0S, .ref h0I, .ref h0K, .ref h0Ex, .ref h0E, .ref h0D, .ref h0F, .ref h0B, .ref h0R, .ref h0G, .long 0, .long 1, .int 0, .int 0, .int 0]))]) (va_runVN (C := RX9) (As := [.int a1]) (rest := []) ⟨hx, hb, hml, hown, hts⟩ (c_X9_hasBiter l G (h0H) (h0Hd) (h0Hk) (h0Hr) (h0Hn) (h0He) (h0HT) (h0HP) (h0HL) (h0HN) (h0HM) (0) (0) (a1) _) (⟨va_cnB 1 hts gX10_kinds_X9_hasBiter_n146 rfl rfl rfl (nw78 hN) (hts _ (List.mem_of_getElem? (i := 4) rfl)) (by decide +kernel) ⟨Nat.le_of_ble_eq_true rfl, Nat.le_of_ble_eq_true rfl⟩, (hts _ (List.mem_of_getElem? (i := 3) rfl)), (hts _ (List.mem_of_getElem? (i := 5) rfl))⟩) (g_preV h0H [.int a1] hP hD hK hN [1] rfl rfl 1 (ci := 8) rfl rfl) rfl rfl hl.1 rfl (lv_room (Nat.le_of_ble_eq_true rfl)) dX10_kinds_5 ⟨Nat.le_of_ble_eq_true rfl, Nat.le_of_ble_eq_true rfl⟩) hP hD hS hA [1] [0] rfl rfl rfl (by decide) (fun r_1 u H locs hw hP hD hS => ?_)
  obtain ⟨rfl, rfl⟩ := hw
  have hP : va_P G.1 vwCl [(h0, .inr (9, [.ref h0H, .ref h0S, .ref h0I, .ref h0K, .ref h0Ex, .ref h0E, .ref h0D, .ref h0F, .ref h0B, .ref h0R, .ref h0G, .long 0, .long 1, .int 0, .int 0, .int 0])), (h0H, .inr (8, [.ref h0Hd, .ref h0Hk, .ref h0Hr, .ref h0Hn, .ref h0He, .ref h0HT, .ref h0HP, .ref h0HL, .ref h0HN, .ref h0HM, .int 0, .int 0, .int 0]))] H := hP
  have hD : va_D A [(h0, .inr (9, [.ref h0H, .ref h0S, .ref h0I, .ref h0K, .ref h0Ex, .ref h0E, .ref h0D, .ref h0F, .ref h0B, .ref h0R, .ref h0G, .long 0, .long 1, .int 0, .int 0, .int 0])), (h0H, .inr (8, [.ref h0Hd, .ref h0Hk, .ref h0Hr, .ref h0Hn, .ref h0He, .ref h0HT, .ref h0HP, .ref h0HL, .ref h0HN, .ref h0HM, .int 0, .int 0, .int 0]))] := hD
  refine lv_if_ne (tgt := 16) hx hb dX10_kinds_8 (by decide) (fun c_2 => g_no (by decide) c_2) (fun _ => ?_)
  refine lv_aload_n hx hb dX10_kinds_11 rfl (lv_at hl 0 rfl) ?_
  refine g_calli (wr := [(h0H, .inr (8, [.ref h0Hd, .ref h0Hk, .ref h0Hr, .ref h0Hn, .ref h0He, .ref h0HT, .ref h0HP, .ref h0HL, .ref h0HN, .ref h0HM, .int 0, .int 0, .int 0]))]) (va_runV (As := []) (rest := []) ⟨hx, hb, hml, hown, hts⟩ (e_X10_refuseBad l G (h0) (h0H) (h0S) (h0I) (h0K) (h0Ex) (h0E) (h0D) (h0F) (h0B) (h0R) (h0G) (0) (1) (0) (0) (0) _) (cwV 0 hts gX10_kinds_X10_refuseBad rfl rfl rfl (by decide +kernel) ⟨Nat.le_of_ble_eq_true rfl, Nat.le_of_ble_eq_true rfl⟩) (g_preV h0 [] hP hD hK hN [0] rfl rfl 0 (ci := 9) rfl rfl) rfl rfl hl.1 rfl (lv_room (Nat.le_of_ble_eq_true rfl)) dX10_kinds_12 ⟨Nat.le_of_ble_eq_true rfl, Nat.le_of_ble_eq_true rfl⟩) hP hD hS hA [0] [1] rfl rfl rfl (by decide) (fun r_3 u H locs hw hP hD hS => ?_)
  obtain ⟨rfl, rfl⟩ := hw
  have hP : va_P G.1 vwCl [(h0H, .inr (8, [.ref h0Hd, .ref h0Hk, .ref h0Hr, .ref h0Hn, .ref h0He, .ref h0HT, .ref h0HP, .ref h0HL, .ref h0HN, .ref h0HM, .int 0, .int 0, .int 0]))] H := hP
  have hD : va_D A [(h0H, .inr (8, [.ref h0Hd, .ref h0Hk, .ref h0Hr, .ref h0Hn, .ref h0He, .ref h0HT, .ref h0HP, .ref h0HL, .ref h0HN, .ref h0HM, .int 0, .int 0, .int 0]))] := hD
  have hP := hP.sub (ws' := []) [] rfl
  have hD := hD.sub (ws' := []) [] rfl rfl
  exact g_iret (v := (-2)) hx hb hr hlocks hP hD hS (⟨rfl, rfl⟩) dX10_kinds_15
theorem dX10_ask_0 : decode cX10_ask 0 = .ok (.aload_n 0, 1) := by decide +kernel
theorem dX10_ask_1 : decode cX10_ask 1 = .ok (.getfield 10, 3) := by decide +kernel
theorem dX10_ask_4 : decode cX10_ask 4 = .ok (.iload_n 1, 1) := by decide +kernel
set_option maxRecDepth 20000 in
theorem ggX10_ask_X9_hasBiter : GoodIn wsX10_ask wsX9_hasBiter := goodIn_r _ [6, 7, 61, 62, 63, 64, 65, 66, 67, 68, 69, 70, 71, 72, 73] (by decide +kernel) (by decide +kernel)
set_option maxRecDepth 20000 in
theorem gX10_ask_X9_hasBiter_n146 : GoodIn wsX10_ask (wsX9_hasBiter) := ggX10_ask_X9_hasBiter
theorem dX10_ask_5 : decode cX10_ask 5 = .ok (.invokevirtual 146, 3) := by decide +kernel
theorem dX10_ask_8 : decode cX10_ask 8 = .ok (.ifCond .ne 8, 3) := by decide +kernel
theorem dX10_ask_11 : decode cX10_ask 11 = .ok (.aload_n 0, 1) := by decide +kernel
set_option maxRecDepth 20000 in
theorem ggX10_ask_X10_refuseBad : GoodIn wsX10_ask wsX10_refuseBad := goodIn_r _ [12, 13, 45, 46, 47, 48, 49, 50, 51, 52, 53, 54, 55, 56, 57, 58, 59, 60] (by decide +kernel) (by decide +kernel)
set_option maxRecDepth 20000 in
theorem gX10_ask_X10_refuseBad : GoodIn wsX10_ask (wsV RX10 92 RX10 yX10_refuseBad wsX10_refuseBad) := goodIn_app (goodIn_of _ (by decide +kernel)) ggX10_ask_X10_refuseBad
theorem dX10_ask_12 : decode cX10_ask 12 = .ok (.invokevirtual 92, 3) := by decide +kernel
theorem dX10_ask_15 : decode cX10_ask 15 = .ok (.ireturn, 1) := by decide +kernel
set_option maxHeartbeats 8000000 in
set_option maxRecDepth 100000 in
theorem c_X10_ask (l : Launch) (G : gG) (h0 : Nat) (h0H : Nat) (h0S : Nat) (h0I : Nat) (h0K : Nat) (h0Ex : Nat) (h0E : Nat) (h0D : Nat) (h0F : Nat) (h0B : Nat) (h0R : Nat) (h0G : Nat) (h0Hd : Nat) (h0Hk : Nat) (h0Hr : Nat) (h0Hn : Nat) (h0He : Nat) (h0HT : Nat) (h0HP : Nat) (h0HL : Nat) (h0HN : Nat) (h0HM : Nat) (a1 : Int32) (sz : Nat) : gI G l yX10_ask wsX10_ask ({ frames := 1, cells := 0, slots := 0, locals := 21 } : Room) [.ref h0, .int a1] [(h0, .inr (9, [.ref h0H, .ref h0S, .ref h0I, .ref h0K, .ref h0Ex, .ref h0E, .ref h0D, .ref h0F, .ref h0B, .ref h0R, .ref h0G, .long 0, .long 1, .int 0, .int 0, .int 0])), (h0H, .inr (8, [.ref h0Hd, .ref h0Hk, .ref h0Hr, .ref h0Hn, .ref h0He, .ref h0HT, .ref h0HP, .ref h0HL, .ref h0HN, .ref h0HM, .int 0, .int 0, .int 0]))] sz (fun (r : Int32) (u : va_W) => (r = (-2) ∧ u = [])) := by
  refine Met.ofW (cc := cX10_ask) (maxL := 2) (ret := (some .int)) (by decide) rfl ?_
  intro p e s m args below meth c s₁ B hml hv
  obtain ⟨rfl, hsz, hP, hK, hD0, hN⟩ := hv
  have hx := B.exec
  have hb := B.bytes
  have hr := B.returns
  have hts := atoms_spec (ws := wsX10_ask) B.pre
  have hown : s.vm.findClass RX10 = some m.cls := findClass_of_methodNamed B.named
  have hlocks := B.notSynchronized
  subst hsz
  have hD := hD0.self (sz := s.heap.size)
  generalize hAe : va_A [(h0, .inr (9, [.ref h0H, .ref h0S, .ref h0I, .ref h0K, .ref h0Ex, .ref h0E, .ref h0D, .ref h0F, .ref h0B, .ref h0R, .ref h0G, .long 0, .long 1, .int 0, .int 0, .int 0])), (h0H, .inr (8, [.ref h0Hd, .ref h0Hk, .ref h0Hr, .ref h0Hn, .ref h0He, .ref h0HT, .ref h0HP, .ref h0HL, .ref h0HN, .ref h0HM, .int 0, .int 0, .int 0]))] s.heap.size = A at hD ⊢
  have hA : ∀ q : Nat, s.heap.size ≤ q → A q := fun q h => by rw [← hAe]; exact Or.inr h
  have hS : va_S A s.heap s.heap [] := va_S.rf
  have hP : va_P G.1 vwCl [(h0, .inr (9, [.ref h0H, .ref h0S, .ref h0I, .ref h0K, .ref h0Ex, .ref h0E, .ref h0D, .ref h0F, .ref h0B, .ref h0R, .ref h0G, .long 0, .long 1, .int 0, .int 0, .int 0])), (h0H, .inr (8, [.ref h0Hd, .ref h0Hk, .ref h0Hr, .ref h0Hn, .ref h0He, .ref h0HT, .ref h0HP, .ref h0HL, .ref h0HN, .ref h0HM, .int 0, .int 0, .int 0]))] s.heap := hP
  have hl := lv_entry ([.ref h0, .int a1]) (n := 2) (Nat.le_of_ble_eq_true rfl)
  rw [lg_entry_eq]
  generalize (lg_sl ([.ref h0, .int a1]) ++ List.replicate (2 - (lg_sl ([.ref h0, .int a1])).length) Slot.unset).toArray = ls at hl ⊢
  have hl : lv_has ls 2 [(0, .ref h0), (1, .int a1)] := hl
  refine lv_aload_n hx hb dX10_ask_0 rfl (lv_at hl 0 rfl) ?_
  refine va_get (D := G.1) (ci := 9) (v := .ref h0H) (C := RX10) (T := TX10) (N := 16) hx hb hts (fun _ h => List.mem_cons_of_mem _ (List.mem_append_left _ (List.mem_append_left _ (List.mem_append_left _ (List.mem_append_right _ h))))) hown hK hP 0 rfl rfl 0 (by decide) (hts _ (List.mem_of_getElem? (i := 1) rfl)) (fun _ h9 => h9) rfl dX10_ask_1 ?_
  refine lv_iload_n hx hb dX10_ask_4 rfl (lv_at hl 1 rfl) ?_
  refine g_calli (wr := [(h0, .inr (9, [.ref h0H, .ref h0S, .ref h0I, .ref h0K, .ref h0Ex, .ref h0E, .ref h0D, .ref h0F, .ref h0B, .ref h0R, .ref h0G, .long 0, .long 1, .int 0, .int 0, .int 0]))]) (va_runVN (C := RX9) (As := [.int a1]) (rest := []) ⟨hx, hb, hml, hown, hts⟩ (c_X9_hasBiter l G (h0H) (h0Hd) (h0Hk) (h0Hr) (h0Hn) (h0He) (h0HT) (h0HP) (h0HL) (h0HN) (h0HM) (0) (0) (a1) _) (⟨va_cnB 1 hts gX10_ask_X9_hasBiter_n146 rfl rfl rfl (nw78 hN) (hts _ (List.mem_of_getElem? (i := 4) rfl)) (by decide +kernel) ⟨Nat.le_of_ble_eq_true rfl, Nat.le_of_ble_eq_true rfl⟩, (hts _ (List.mem_of_getElem? (i := 3) rfl)), (hts _ (List.mem_of_getElem? (i := 5) rfl))⟩) (g_preV h0H [.int a1] hP hD hK hN [1] rfl rfl 1 (ci := 8) rfl rfl) rfl rfl hl.1 rfl (lv_room (Nat.le_of_ble_eq_true rfl)) dX10_ask_5 ⟨Nat.le_of_ble_eq_true rfl, Nat.le_of_ble_eq_true rfl⟩) hP hD hS hA [1] [0] rfl rfl rfl (by decide) (fun r_1 u H locs hw hP hD hS => ?_)
  obtain ⟨rfl, rfl⟩ := hw
  have hP : va_P G.1 vwCl [(h0, .inr (9, [.ref h0H, .ref h0S, .ref h0I, .ref h0K, .ref h0Ex, .ref h0E, .ref h0D, .ref h0F, .ref h0B, .ref h0R, .ref h0G, .long 0, .long 1, .int 0, .int 0, .int 0])), (h0H, .inr (8, [.ref h0Hd, .ref h0Hk, .ref h0Hr, .ref h0Hn, .ref h0He, .ref h0HT, .ref h0HP, .ref h0HL, .ref h0HN, .ref h0HM, .int 0, .int 0, .int 0]))] H := hP
  have hD : va_D A [(h0, .inr (9, [.ref h0H, .ref h0S, .ref h0I, .ref h0K, .ref h0Ex, .ref h0E, .ref h0D, .ref h0F, .ref h0B, .ref h0R, .ref h0G, .long 0, .long 1, .int 0, .int 0, .int 0])), (h0H, .inr (8, [.ref h0Hd, .ref h0Hk, .ref h0Hr, .ref h0Hn, .ref h0He, .ref h0HT, .ref h0HP, .ref h0HL, .ref h0HN, .ref h0HM, .int 0, .int 0, .int 0]))] := hD
  refine lv_if_ne (tgt := 16) hx hb dX10_ask_8 (by decide) (fun c_2 => g_no (by decide) c_2) (fun _ => ?_)
  refine lv_aload_n hx hb dX10_ask_11 rfl (lv_at hl 0 rfl) ?_
  refine g_calli (wr := [(h0H, .inr (8, [.ref h0Hd, .ref h0Hk, .ref h0Hr, .ref h0Hn, .ref h0He, .ref h0HT, .ref h0HP, .ref h0HL, .ref h0HN, .ref h0HM, .int 0, .int 0, .int 0]))]) (va_runV (As := []) (rest := []) ⟨hx, hb, hml, hown, hts⟩ (e_X10_refuseBad l G (h0) (h0H) (h0S) (h0I) (h0K) (h0Ex) (h0E) (h0D) (h0F) (h0B) (h0R) (h0G) (0) (1) (0) (0) (0) _) (cwV 0 hts gX10_ask_X10_refuseBad rfl rfl rfl (by decide +kernel) ⟨Nat.le_of_ble_eq_true rfl, Nat.le_of_ble_eq_true rfl⟩) (g_preV h0 [] hP hD hK hN [0] rfl rfl 0 (ci := 9) rfl rfl) rfl rfl hl.1 rfl (lv_room (Nat.le_of_ble_eq_true rfl)) dX10_ask_12 ⟨Nat.le_of_ble_eq_true rfl, Nat.le_of_ble_eq_true rfl⟩) hP hD hS hA [0] [1] rfl rfl rfl (by decide) (fun r_3 u H locs hw hP hD hS => ?_)
  obtain ⟨rfl, rfl⟩ := hw
  have hP : va_P G.1 vwCl [(h0H, .inr (8, [.ref h0Hd, .ref h0Hk, .ref h0Hr, .ref h0Hn, .ref h0He, .ref h0HT, .ref h0HP, .ref h0HL, .ref h0HN, .ref h0HM, .int 0, .int 0, .int 0]))] H := hP
  have hD : va_D A [(h0H, .inr (8, [.ref h0Hd, .ref h0Hk, .ref h0Hr, .ref h0Hn, .ref h0He, .ref h0HT, .ref h0HP, .ref h0HL, .ref h0HN, .ref h0HM, .int 0, .int 0, .int 0]))] := hD
  have hP := hP.sub (ws' := []) [] rfl
  have hD := hD.sub (ws' := []) [] rfl rfl
  exact g_iret (v := (-2)) hx hb hr hlocks hP hD hS (⟨rfl, rfl⟩) dX10_ask_15
theorem dX10_pair_0 : decode cX10_pair 0 = .ok (.aload_n 0, 1) := by decide +kernel
theorem dX10_pair_1 : decode cX10_pair 1 = .ok (.getfield 10, 3) := by decide +kernel
theorem dX10_pair_4 : decode cX10_pair 4 = .ok (.iload_n 1, 1) := by decide +kernel
set_option maxRecDepth 20000 in
theorem ggX10_pair_X9_hasBiter : GoodIn wsX10_pair wsX9_hasBiter := goodIn_r _ [6, 7, 87, 88, 89, 90, 91, 92, 93, 94, 95, 96, 97, 98, 99] (by decide +kernel) (by decide +kernel)
set_option maxRecDepth 20000 in
theorem gX10_pair_X9_hasBiter_n146 : GoodIn wsX10_pair (wsX9_hasBiter) := ggX10_pair_X9_hasBiter
theorem dX10_pair_5 : decode cX10_pair 5 = .ok (.invokevirtual 146, 3) := by decide +kernel
theorem dX10_pair_8 : decode cX10_pair 8 = .ok (.ifCond .eq 36, 3) := by decide +kernel
theorem dX10_pair_44 : decode cX10_pair 44 = .ok (.aload_n 0, 1) := by decide +kernel
set_option maxRecDepth 20000 in
theorem ggX10_pair_X10_refuseBadAsTen : GoodIn wsX10_pair wsX10_refuseBadAsTen := goodIn_r _ [16, 17, 67, 68, 69, 70, 71, 72, 73, 74, 75, 76, 77, 78, 79, 80, 81, 82] (by decide +kernel) (by decide +kernel)
set_option maxRecDepth 20000 in
theorem gX10_pair_X10_refuseBadAsTen : GoodIn wsX10_pair (wsV RX10 187 RX10 yX10_refuseBadAsTen wsX10_refuseBadAsTen) := goodIn_app (goodIn_of _ (by decide +kernel)) ggX10_pair_X10_refuseBadAsTen
theorem dX10_pair_45 : decode cX10_pair 45 = .ok (.invokevirtual 187, 3) := by decide +kernel
theorem dX10_pair_48 : decode cX10_pair 48 = .ok (.ireturn, 1) := by decide +kernel
set_option maxHeartbeats 8000000 in
set_option maxRecDepth 100000 in
theorem c_X10_pair (l : Launch) (G : gG) (h0 : Nat) (h0H : Nat) (h0S : Nat) (h0I : Nat) (h0K : Nat) (h0Ex : Nat) (h0E : Nat) (h0D : Nat) (h0F : Nat) (h0B : Nat) (h0R : Nat) (h0G : Nat) (h0Hd : Nat) (h0Hk : Nat) (h0Hr : Nat) (h0Hn : Nat) (h0He : Nat) (h0HT : Nat) (h0HP : Nat) (h0HL : Nat) (h0HN : Nat) (h0HM : Nat) (a1 : Int32) (a2 : Int32) (a3 : Int32) (a4 : Int32) (sz : Nat) : gI G l yX10_pair wsX10_pair ({ frames := 1, cells := 0, slots := 0, locals := 21 } : Room) [.ref h0, .int a1, .int a2, .int a3, .int a4] [(h0, .inr (9, [.ref h0H, .ref h0S, .ref h0I, .ref h0K, .ref h0Ex, .ref h0E, .ref h0D, .ref h0F, .ref h0B, .ref h0R, .ref h0G, .long 0, .long 1, .int 0, .int 0, .int 0])), (h0H, .inr (8, [.ref h0Hd, .ref h0Hk, .ref h0Hr, .ref h0Hn, .ref h0He, .ref h0HT, .ref h0HP, .ref h0HL, .ref h0HN, .ref h0HM, .int 0, .int 0, .int 0]))] sz (fun (r : Int32) (u : va_W) => (r = (-10) ∧ u = [])) := by
  refine Met.ofW (cc := cX10_pair) (maxL := 5) (ret := (some .int)) (by decide) rfl ?_
  intro p e s m args below meth c s₁ B hml hv
  obtain ⟨rfl, hsz, hP, hK, hD0, hN⟩ := hv
  have hx := B.exec
  have hb := B.bytes
  have hr := B.returns
  have hts := atoms_spec (ws := wsX10_pair) B.pre
  have hown : s.vm.findClass RX10 = some m.cls := findClass_of_methodNamed B.named
  have hlocks := B.notSynchronized
  subst hsz
  have hD := hD0.self (sz := s.heap.size)
  generalize hAe : va_A [(h0, .inr (9, [.ref h0H, .ref h0S, .ref h0I, .ref h0K, .ref h0Ex, .ref h0E, .ref h0D, .ref h0F, .ref h0B, .ref h0R, .ref h0G, .long 0, .long 1, .int 0, .int 0, .int 0])), (h0H, .inr (8, [.ref h0Hd, .ref h0Hk, .ref h0Hr, .ref h0Hn, .ref h0He, .ref h0HT, .ref h0HP, .ref h0HL, .ref h0HN, .ref h0HM, .int 0, .int 0, .int 0]))] s.heap.size = A at hD ⊢
  have hA : ∀ q : Nat, s.heap.size ≤ q → A q := fun q h => by rw [← hAe]; exact Or.inr h
  have hS : va_S A s.heap s.heap [] := va_S.rf
  have hP : va_P G.1 vwCl [(h0, .inr (9, [.ref h0H, .ref h0S, .ref h0I, .ref h0K, .ref h0Ex, .ref h0E, .ref h0D, .ref h0F, .ref h0B, .ref h0R, .ref h0G, .long 0, .long 1, .int 0, .int 0, .int 0])), (h0H, .inr (8, [.ref h0Hd, .ref h0Hk, .ref h0Hr, .ref h0Hn, .ref h0He, .ref h0HT, .ref h0HP, .ref h0HL, .ref h0HN, .ref h0HM, .int 0, .int 0, .int 0]))] s.heap := hP
  have hl := lv_entry ([.ref h0, .int a1, .int a2, .int a3, .int a4]) (n := 5) (Nat.le_of_ble_eq_true rfl)
  rw [lg_entry_eq]
  generalize (lg_sl ([.ref h0, .int a1, .int a2, .int a3, .int a4]) ++ List.replicate (5 - (lg_sl ([.ref h0, .int a1, .int a2, .int a3, .int a4])).length) Slot.unset).toArray = ls at hl ⊢
  have hl : lv_has ls 5 [(0, .ref h0), (1, .int a1), (2, .int a2), (3, .int a3), (4, .int a4)] := hl
  refine lv_aload_n hx hb dX10_pair_0 rfl (lv_at hl 0 rfl) ?_
  refine va_get (D := G.1) (ci := 9) (v := .ref h0H) (C := RX10) (T := TX10) (N := 16) hx hb hts (fun _ h => List.mem_cons_of_mem _ (List.mem_append_left _ (List.mem_append_left _ (List.mem_append_left _ (List.mem_append_right _ h))))) hown hK hP 0 rfl rfl 0 (by decide) (hts _ (List.mem_of_getElem? (i := 1) rfl)) (fun _ h9 => h9) rfl dX10_pair_1 ?_
  refine lv_iload_n hx hb dX10_pair_4 rfl (lv_at hl 1 rfl) ?_
  refine g_calli (wr := [(h0, .inr (9, [.ref h0H, .ref h0S, .ref h0I, .ref h0K, .ref h0Ex, .ref h0E, .ref h0D, .ref h0F, .ref h0B, .ref h0R, .ref h0G, .long 0, .long 1, .int 0, .int 0, .int 0]))]) (va_runVN (C := RX9) (As := [.int a1]) (rest := []) ⟨hx, hb, hml, hown, hts⟩ (c_X9_hasBiter l G (h0H) (h0Hd) (h0Hk) (h0Hr) (h0Hn) (h0He) (h0HT) (h0HP) (h0HL) (h0HN) (h0HM) (0) (0) (a1) _) (⟨va_cnB 1 hts gX10_pair_X9_hasBiter_n146 rfl rfl rfl (nw78 hN) (hts _ (List.mem_of_getElem? (i := 4) rfl)) (by decide +kernel) ⟨Nat.le_of_ble_eq_true rfl, Nat.le_of_ble_eq_true rfl⟩, (hts _ (List.mem_of_getElem? (i := 3) rfl)), (hts _ (List.mem_of_getElem? (i := 5) rfl))⟩) (g_preV h0H [.int a1] hP hD hK hN [1] rfl rfl 1 (ci := 8) rfl rfl) rfl rfl hl.1 rfl (lv_room (Nat.le_of_ble_eq_true rfl)) dX10_pair_5 ⟨Nat.le_of_ble_eq_true rfl, Nat.le_of_ble_eq_true rfl⟩) hP hD hS hA [1] [0] rfl rfl rfl (by decide) (fun r_1 u H locs hw hP hD hS => ?_)
  obtain ⟨rfl, rfl⟩ := hw
  have hP : va_P G.1 vwCl [(h0, .inr (9, [.ref h0H, .ref h0S, .ref h0I, .ref h0K, .ref h0Ex, .ref h0E, .ref h0D, .ref h0F, .ref h0B, .ref h0R, .ref h0G, .long 0, .long 1, .int 0, .int 0, .int 0])), (h0H, .inr (8, [.ref h0Hd, .ref h0Hk, .ref h0Hr, .ref h0Hn, .ref h0He, .ref h0HT, .ref h0HP, .ref h0HL, .ref h0HN, .ref h0HM, .int 0, .int 0, .int 0]))] H := hP
  have hD : va_D A [(h0, .inr (9, [.ref h0H, .ref h0S, .ref h0I, .ref h0K, .ref h0Ex, .ref h0E, .ref h0D, .ref h0F, .ref h0B, .ref h0R, .ref h0G, .long 0, .long 1, .int 0, .int 0, .int 0])), (h0H, .inr (8, [.ref h0Hd, .ref h0Hk, .ref h0Hr, .ref h0Hn, .ref h0He, .ref h0HT, .ref h0HP, .ref h0HL, .ref h0HN, .ref h0HM, .int 0, .int 0, .int 0]))] := hD
  refine lv_if_eq (tgt := 44) hx hb dX10_pair_8 (by decide) (fun _ => ?_) (fun c_2 => g_no (by decide) c_2)
  refine lv_aload_n hx hb dX10_pair_44 rfl (lv_at hl 0 rfl) ?_
  refine g_calli (wr := [(h0H, .inr (8, [.ref h0Hd, .ref h0Hk, .ref h0Hr, .ref h0Hn, .ref h0He, .ref h0HT, .ref h0HP, .ref h0HL, .ref h0HN, .ref h0HM, .int 0, .int 0, .int 0]))]) (va_runV (As := []) (rest := []) ⟨hx, hb, hml, hown, hts⟩ (e_X10_refuseBadAsTen l G (h0) (h0H) (h0S) (h0I) (h0K) (h0Ex) (h0E) (h0D) (h0F) (h0B) (h0R) (h0G) (0) (1) (0) (0) (0) _) (cwV 0 hts gX10_pair_X10_refuseBadAsTen rfl rfl rfl (by decide +kernel) ⟨Nat.le_of_ble_eq_true rfl, Nat.le_of_ble_eq_true rfl⟩) (g_preV h0 [] hP hD hK hN [0] rfl rfl 0 (ci := 9) rfl rfl) rfl rfl hl.1 rfl (lv_room (Nat.le_of_ble_eq_true rfl)) dX10_pair_45 ⟨Nat.le_of_ble_eq_true rfl, Nat.le_of_ble_eq_true rfl⟩) hP hD hS hA [0] [1] rfl rfl rfl (by decide) (fun r_3 u H locs hw hP hD hS => ?_)
  obtain ⟨rfl, rfl⟩ := hw
  have hP : va_P G.1 vwCl [(h0H, .inr (8, [.ref h0Hd, .ref h0Hk, .ref h0Hr, .ref h0Hn, .ref h0He, .ref h0HT, .ref h0HP, .ref h0HL, .ref h0HN, .ref h0HM, .int 0, .int 0, .int 0]))] H := hP
  have hD : va_D A [(h0H, .inr (8, [.ref h0Hd, .ref h0Hk, .ref h0Hr, .ref h0Hn, .ref h0He, .ref h0HT, .ref h0HP, .ref h0HL, .ref h0HN, .ref h0HM, .int 0, .int 0, .int 0]))] := hD
  have hP := hP.sub (ws' := []) [] rfl
  have hD := hD.sub (ws' := []) [] rfl rfl
  exact g_iret (v := (-10)) hx hb hr hlocks hP hD hS (⟨rfl, rfl⟩) dX10_pair_48
theorem dX10_feast_0 : decode cX10_feast 0 = .ok (.iload_n 1, 1) := by decide +kernel
theorem dX10_feast_1 : decode cX10_feast 1 = .ok (.iconst (-1), 1) := by decide +kernel
theorem dX10_feast_2 : decode cX10_feast 2 = .ok (.if_icmp .eq 19, 3) := by decide +kernel
theorem dX10_feast_21 : decode cX10_feast 21 = .ok (.aload_n 0, 1) := by decide +kernel
theorem dX10_feast_22 : decode cX10_feast 22 = .ok (.getfield 56, 3) := by decide +kernel
theorem dX10_feast_25 : decode cX10_feast 25 = .ok (.aload_n 0, 1) := by decide +kernel
theorem dX10_feast_26 : decode cX10_feast 26 = .ok (.getfield 10, 3) := by decide +kernel
set_option maxRecDepth 20000 in
theorem ggX10_feast_X0_lay : GoodIn wsX10_feast wsX0_lay := goodIn_r _ [17, 18, 19, 20, 21, 22, 23, 24, 25, 15, 26, 27, 28, 29, 30, 31, 32, 33, 4, 34, 35, 36, 37, 38, 39, 40, 41, 42, 43, 44, 45, 46, 47, 48, 49, 50, 51, 52, 53, 54, 55, 56, 57, 58, 59, 60, 81, 82, 83, 84, 85, 86, 87, 88, 89, 90, 91, 92, 93, 94, 95, 96, 97, 77, 78, 79, 80] (by decide +kernel) (by decide +kernel)
set_option maxRecDepth 20000 in
theorem gX10_feast_X0_lay_n198 : GoodIn wsX10_feast (wsX0_lay) := ggX10_feast_X0_lay
theorem dX10_feast_29 : decode cX10_feast 29 = .ok (.invokevirtual 198, 3) := by decide +kernel
theorem dX10_feast_32 : decode cX10_feast 32 = .ok (.iload_n 1, 1) := by decide +kernel
theorem dX10_feast_33 : decode cX10_feast 33 = .ok (.iconst (-1), 1) := by decide +kernel
theorem dX10_feast_34 : decode cX10_feast 34 = .ok (.if_icmp .ne 13, 3) := by decide +kernel
theorem dX10_feast_37 : decode cX10_feast 37 = .ok (.aload_n 0, 1) := by decide +kernel
theorem dX10_feast_38 : decode cX10_feast 38 = .ok (.getfield 56, 3) := by decide +kernel
theorem dX10_feast_41 : decode cX10_feast 41 = .ok (.getfield 202, 3) := by decide +kernel
theorem dX10_feast_44 : decode cX10_feast 44 = .ok (.goto 12, 3) := by decide +kernel
theorem dX10_feast_56 : decode cX10_feast 56 = .ok (.ireturn, 1) := by decide +kernel
theorem dX10_feast_5 : decode cX10_feast 5 = .ok (.aload_n 0, 1) := by decide +kernel
theorem dX10_feast_6 : decode cX10_feast 6 = .ok (.getfield 10, 3) := by decide +kernel
theorem dX10_feast_9 : decode cX10_feast 9 = .ok (.iload_n 1, 1) := by decide +kernel
set_option maxRecDepth 20000 in
theorem ggX10_feast_X9_hasBiter : GoodIn wsX10_feast wsX9_hasBiter := goodIn_r _ [6, 7, 81, 82, 83, 84, 85, 86, 87, 88, 89, 90, 91, 92, 93] (by decide +kernel) (by decide +kernel)
set_option maxRecDepth 20000 in
theorem gX10_feast_X9_hasBiter_n146 : GoodIn wsX10_feast (wsX9_hasBiter) := ggX10_feast_X9_hasBiter
theorem dX10_feast_10 : decode cX10_feast 10 = .ok (.invokevirtual 146, 3) := by decide +kernel
theorem dX10_feast_13 : decode cX10_feast 13 = .ok (.ifCond .ne 8, 3) := by decide +kernel
theorem dX10_feast_16 : decode cX10_feast 16 = .ok (.aload_n 0, 1) := by decide +kernel
set_option maxRecDepth 20000 in
theorem ggX10_feast_X10_refuseBadAsTen : GoodIn wsX10_feast wsX10_refuseBadAsTen := goodIn_r _ [12, 13, 61, 62, 63, 64, 65, 66, 67, 68, 69, 70, 71, 72, 73, 74, 75, 76] (by decide +kernel) (by decide +kernel)
set_option maxRecDepth 20000 in
theorem gX10_feast_X10_refuseBadAsTen : GoodIn wsX10_feast (wsV RX10 187 RX10 yX10_refuseBadAsTen wsX10_refuseBadAsTen) := goodIn_app (goodIn_of _ (by decide +kernel)) ggX10_feast_X10_refuseBadAsTen
theorem dX10_feast_17 : decode cX10_feast 17 = .ok (.invokevirtual 187, 3) := by decide +kernel
theorem dX10_feast_20 : decode cX10_feast 20 = .ok (.ireturn, 1) := by decide +kernel
set_option maxHeartbeats 8000000 in
set_option maxRecDepth 100000 in
theorem c_X10_feast (l : Launch) (G : gG) (h0 : Nat) (h0H : Nat) (h0S : Nat) (h0I : Nat) (h0K : Nat) (h0Ex : Nat) (h0E : Nat) (h0D : Nat) (h0F : Nat) (h0B : Nat) (h0R : Nat) (h0G : Nat) (h0Hd : Nat) (h0Hk : Nat) (h0Hr : Nat) (h0Hn : Nat) (h0He : Nat) (h0HT : Nat) (h0HP : Nat) (h0HL : Nat) (h0HN : Nat) (h0HM : Nat) (h0Bo : Nat) (h0Bw : Nat) (h0Bb : Nat) (h0HTt : Nat) (h0HTa : Nat) (h0HTf : Nat) (a1 : Int32) (sz : Nat) : gI G l yX10_feast wsX10_feast ({ frames := 4, cells := 0, slots := 0, locals := 91 } : Room) [.ref h0, .int a1] [(h0, .inr (9, [.ref h0H, .ref h0S, .ref h0I, .ref h0K, .ref h0Ex, .ref h0E, .ref h0D, .ref h0F, .ref h0B, .ref h0R, .ref h0G, .long 0, .long 1, .int 0, .int 0, .int 0])), (h0H, .inr (8, [.ref h0Hd, .ref h0Hk, .ref h0Hr, .ref h0Hn, .ref h0He, .ref h0HT, .ref h0HP, .ref h0HL, .ref h0HN, .ref h0HM, .int 0, .int 0, .int 0])), (h0B, .inr (0, [.ref h0Bo, .ref h0Bw, .ref h0Bb, .int 0])), (h0Bo, .inl (G.2 0, 7, .inl (fun _ => 0))), (h0Bw, .inl (G.2 0, 4, .inl (fun _ => 0))), (h0Bb, .inl (G.2 0, 4, .inl (fun _ => 0))), (h0HT, .inr (3, [.int 0, .ref h0HTt, .ref h0HTa, .ref h0HTf])), (h0HTt, .inl (G.2 0, 7, .inl (fun _ => 0)))] sz (fun (r : Int32) (u : va_W) => (r = (F_feast a1) ∧ u = [])) := by
  refine Met.ofW (cc := cX10_feast) (maxL := 2) (ret := (some .int)) (by decide) rfl ?_
  intro p e s m args below meth c s₁ B hml hv
  obtain ⟨rfl, hsz, hP, hK, hD0, hN⟩ := hv
  have hx := B.exec
  have hb := B.bytes
  have hr := B.returns
  have hts := atoms_spec (ws := wsX10_feast) B.pre
  have hown : s.vm.findClass RX10 = some m.cls := findClass_of_methodNamed B.named
  have hlocks := B.notSynchronized
  subst hsz
  have hD := hD0.self (sz := s.heap.size)
  generalize hAe : va_A [(h0, .inr (9, [.ref h0H, .ref h0S, .ref h0I, .ref h0K, .ref h0Ex, .ref h0E, .ref h0D, .ref h0F, .ref h0B, .ref h0R, .ref h0G, .long 0, .long 1, .int 0, .int 0, .int 0])), (h0H, .inr (8, [.ref h0Hd, .ref h0Hk, .ref h0Hr, .ref h0Hn, .ref h0He, .ref h0HT, .ref h0HP, .ref h0HL, .ref h0HN, .ref h0HM, .int 0, .int 0, .int 0])), (h0B, .inr (0, [.ref h0Bo, .ref h0Bw, .ref h0Bb, .int 0])), (h0Bo, .inl (G.2 0, 7, .inl (fun _ => 0))), (h0Bw, .inl (G.2 0, 4, .inl (fun _ => 0))), (h0Bb, .inl (G.2 0, 4, .inl (fun _ => 0))), (h0HT, .inr (3, [.int 0, .ref h0HTt, .ref h0HTa, .ref h0HTf])), (h0HTt, .inl (G.2 0, 7, .inl (fun _ => 0)))] s.heap.size = A at hD ⊢
  have hA : ∀ q : Nat, s.heap.size ≤ q → A q := fun q h => by rw [← hAe]; exact Or.inr h
  have hS : va_S A s.heap s.heap [] := va_S.rf
  have hP : va_P G.1 vwCl [(h0, .inr (9, [.ref h0H, .ref h0S, .ref h0I, .ref h0K, .ref h0Ex, .ref h0E, .ref h0D, .ref h0F, .ref h0B, .ref h0R, .ref h0G, .long 0, .long 1, .int 0, .int 0, .int 0])), (h0H, .inr (8, [.ref h0Hd, .ref h0Hk, .ref h0Hr, .ref h0Hn, .ref h0He, .ref h0HT, .ref h0HP, .ref h0HL, .ref h0HN, .ref h0HM, .int 0, .int 0, .int 0])), (h0B, .inr (0, [.ref h0Bo, .ref h0Bw, .ref h0Bb, .int 0])), (h0Bo, .inl (G.2 0, 7, .inl (fun _ => 0))), (h0Bw, .inl (G.2 0, 4, .inl (fun _ => 0))), (h0Bb, .inl (G.2 0, 4, .inl (fun _ => 0))), (h0HT, .inr (3, [.int 0, .ref h0HTt, .ref h0HTa, .ref h0HTf])), (h0HTt, .inl (G.2 0, 7, .inl (fun _ => 0)))] s.heap := hP
  have hl := lv_entry ([.ref h0, .int a1]) (n := 2) (Nat.le_of_ble_eq_true rfl)
  rw [lg_entry_eq]
  generalize (lg_sl ([.ref h0, .int a1]) ++ List.replicate (2 - (lg_sl ([.ref h0, .int a1])).length) Slot.unset).toArray = ls at hl ⊢
  have hl : lv_has ls 2 [(0, .ref h0), (1, .int a1)] := hl
  refine lv_iload_n hx hb dX10_feast_0 rfl (lv_at hl 1 rfl) ?_
  refine lv_iconst (v := (-1)) hx hb dX10_feast_1 (by decide) ?_
  refine lv_icmp_eq (tgt := 21) hx hb dX10_feast_2 (by decide) (fun c_1 => ?_) (fun c_1 => ?_)
  · refine lv_aload_n hx hb dX10_feast_21 rfl (lv_at hl 0 rfl) ?_
    refine va_get (D := G.1) (ci := 9) (v := .ref h0B) (C := RX10) (T := TX10) (N := 16) hx hb hts (fun _ h => List.mem_cons_of_mem _ (List.mem_append_left _ (List.mem_append_left _ (List.mem_append_left _ (List.mem_append_right _ h))))) hown hK hP 0 rfl rfl 8 (by decide) (hts _ (List.mem_of_getElem? (i := 2) rfl)) (fun _ h9 => h9) rfl dX10_feast_22 ?_
    refine lv_aload_n hx hb dX10_feast_25 rfl (lv_at hl 0 rfl) ?_
    refine va_get (D := G.1) (ci := 9) (v := .ref h0H) (C := RX10) (T := TX10) (N := 16) hx hb hts (fun _ h => List.mem_cons_of_mem _ (List.mem_append_left _ (List.mem_append_left _ (List.mem_append_left _ (List.mem_append_right _ h))))) hown hK hP 0 rfl rfl 0 (by decide) (hts _ (List.mem_of_getElem? (i := 1) rfl)) (fun _ h9 => h9) rfl dX10_feast_26 ?_
    refine g_callv (wr := [(h0, .inr (9, [.ref h0H, .ref h0S, .ref h0I, .ref h0K, .ref h0Ex, .ref h0E, .ref h0D, .ref h0F, .ref h0B, .ref h0R, .ref h0G, .long 0, .long 1, .int 0, .int 0, .int 0]))]) (va_runVN (C := RX0) (As := [.ref h0H]) (rest := []) ⟨hx, hb, hml, hown, hts⟩ (c_X0_lay l G (h0B) (h0Bo) (h0Bw) (h0Bb) (h0H) (h0Hd) (h0Hk) (h0Hr) (h0Hn) (h0He) (h0HT) (h0HP) (h0HL) (h0HN) (h0HM) (h0HTt) (h0HTa) (h0HTf) _) (⟨va_cnB 1 hts gX10_feast_X0_lay_n198 rfl rfl rfl (nw91 hN) (hts _ (List.mem_of_getElem? (i := 15) rfl)) (by decide +kernel) ⟨Nat.le_of_ble_eq_true rfl, Nat.le_of_ble_eq_true rfl⟩, (hts _ (List.mem_of_getElem? (i := 14) rfl)), (hts _ (List.mem_of_getElem? (i := 16) rfl))⟩) (g_preV h0B [.ref h0H] hP hD hK hN [2, 3, 4, 5, 1, 6, 7] rfl rfl 2 (ci := 0) rfl rfl) rfl rfl hl.1 rfl (lv_room (Nat.le_of_ble_eq_true rfl)) dX10_feast_29 ⟨Nat.le_of_ble_eq_true rfl, Nat.le_of_ble_eq_true rfl⟩) hP hD hS hA [2, 3, 4, 5, 1, 6, 7] [0] rfl rfl rfl (by decide) (fun u H locs hw hP hD hS => ?_)
    subst hw
    have hP : va_P G.1 vwCl [(h0, .inr (9, [.ref h0H, .ref h0S, .ref h0I, .ref h0K, .ref h0Ex, .ref h0E, .ref h0D, .ref h0F, .ref h0B, .ref h0R, .ref h0G, .long 0, .long 1, .int 0, .int 0, .int 0])), (h0B, .inr (0, [.ref h0Bo, .ref h0Bw, .ref h0Bb, .int 0]))] H := hP
    have hD : va_D A [(h0, .inr (9, [.ref h0H, .ref h0S, .ref h0I, .ref h0K, .ref h0Ex, .ref h0E, .ref h0D, .ref h0F, .ref h0B, .ref h0R, .ref h0G, .long 0, .long 1, .int 0, .int 0, .int 0])), (h0B, .inr (0, [.ref h0Bo, .ref h0Bw, .ref h0Bb, .int 0]))] := hD
    refine lv_iload_n hx hb dX10_feast_32 rfl (lv_at hl 1 rfl) ?_
    refine lv_iconst (v := (-1)) hx hb dX10_feast_33 (by decide) ?_
    refine lv_icmp_ne (tgt := 47) hx hb dX10_feast_34 (by decide) (fun c_2 => g_no c_1 c_2) (fun _ => ?_)
    refine lv_aload_n hx hb dX10_feast_37 rfl (lv_at hl 0 rfl) ?_
    refine va_get (D := G.1) (ci := 9) (v := .ref h0B) (C := RX10) (T := TX10) (N := 16) hx hb hts (fun _ h => List.mem_cons_of_mem _ (List.mem_append_left _ (List.mem_append_left _ (List.mem_append_left _ (List.mem_append_right _ h))))) hown hK hP 0 rfl rfl 8 (by decide) (hts _ (List.mem_of_getElem? (i := 2) rfl)) (fun _ h9 => h9) rfl dX10_feast_38 ?_
    refine va_getN (D := G.1) (ci := 0) (v := .int 0) (C := RX0) (T := TX0) (N := 4) hx hb hts (fun _ h => List.mem_cons_of_mem _ (List.mem_append_left _ (List.mem_append_left _ (List.mem_append_right _ h)))) hown hK hP 1 rfl rfl 3 (by decide) (va_Nw.use rfl (nw50 hN)) (fun _ h9 => h9) rfl dX10_feast_41 ?_
    refine lv_goto (tgt := 56) hx hb dX10_feast_44 (by decide) ?_
    have hP := hP.sub (ws' := []) [] rfl
    have hD := hD.sub (ws' := []) [] rfl rfl
    exact g_iret (v := 0) hx hb hr hlocks hP hD hS (⟨by simp [F_feast, c_1], rfl⟩) dX10_feast_56
  · refine lv_aload_n hx hb dX10_feast_5 rfl (lv_at hl 0 rfl) ?_
    refine va_get (D := G.1) (ci := 9) (v := .ref h0H) (C := RX10) (T := TX10) (N := 16) hx hb hts (fun _ h => List.mem_cons_of_mem _ (List.mem_append_left _ (List.mem_append_left _ (List.mem_append_left _ (List.mem_append_right _ h))))) hown hK hP 0 rfl rfl 0 (by decide) (hts _ (List.mem_of_getElem? (i := 1) rfl)) (fun _ h9 => h9) rfl dX10_feast_6 ?_
    refine lv_iload_n hx hb dX10_feast_9 rfl (lv_at hl 1 rfl) ?_
    refine g_calli (wr := [(h0, .inr (9, [.ref h0H, .ref h0S, .ref h0I, .ref h0K, .ref h0Ex, .ref h0E, .ref h0D, .ref h0F, .ref h0B, .ref h0R, .ref h0G, .long 0, .long 1, .int 0, .int 0, .int 0])), (h0B, .inr (0, [.ref h0Bo, .ref h0Bw, .ref h0Bb, .int 0])), (h0Bo, .inl (G.2 0, 7, .inl (fun _ => 0))), (h0Bw, .inl (G.2 0, 4, .inl (fun _ => 0))), (h0Bb, .inl (G.2 0, 4, .inl (fun _ => 0))), (h0HT, .inr (3, [.int 0, .ref h0HTt, .ref h0HTa, .ref h0HTf])), (h0HTt, .inl (G.2 0, 7, .inl (fun _ => 0)))]) (va_runVN (C := RX9) (As := [.int a1]) (rest := []) ⟨hx, hb, hml, hown, hts⟩ (c_X9_hasBiter l G (h0H) (h0Hd) (h0Hk) (h0Hr) (h0Hn) (h0He) (h0HT) (h0HP) (h0HL) (h0HN) (h0HM) (0) (0) (a1) _) (⟨va_cnB 1 hts gX10_feast_X9_hasBiter_n146 rfl rfl rfl (nw78 hN) (hts _ (List.mem_of_getElem? (i := 4) rfl)) (by decide +kernel) ⟨Nat.le_of_ble_eq_true rfl, Nat.le_of_ble_eq_true rfl⟩, (hts _ (List.mem_of_getElem? (i := 3) rfl)), (hts _ (List.mem_of_getElem? (i := 5) rfl))⟩) (g_preV h0H [.int a1] hP hD hK hN [1] rfl rfl 1 (ci := 8) rfl rfl) rfl rfl hl.1 rfl (lv_room (Nat.le_of_ble_eq_true rfl)) dX10_feast_10 ⟨Nat.le_of_ble_eq_true rfl, Nat.le_of_ble_eq_true rfl⟩) hP hD hS hA [1] [0, 2, 3, 4, 5, 6, 7] rfl rfl rfl (by decide) (fun r_3 u H locs hw hP hD hS => ?_)
    obtain ⟨rfl, rfl⟩ := hw
    have hP : va_P G.1 vwCl [(h0, .inr (9, [.ref h0H, .ref h0S, .ref h0I, .ref h0K, .ref h0Ex, .ref h0E, .ref h0D, .ref h0F, .ref h0B, .ref h0R, .ref h0G, .long 0, .long 1, .int 0, .int 0, .int 0])), (h0B, .inr (0, [.ref h0Bo, .ref h0Bw, .ref h0Bb, .int 0])), (h0Bo, .inl (G.2 0, 7, .inl (fun _ => 0))), (h0Bw, .inl (G.2 0, 4, .inl (fun _ => 0))), (h0Bb, .inl (G.2 0, 4, .inl (fun _ => 0))), (h0HT, .inr (3, [.int 0, .ref h0HTt, .ref h0HTa, .ref h0HTf])), (h0HTt, .inl (G.2 0, 7, .inl (fun _ => 0))), (h0H, .inr (8, [.ref h0Hd, .ref h0Hk, .ref h0Hr, .ref h0Hn, .ref h0He, .ref h0HT, .ref h0HP, .ref h0HL, .ref h0HN, .ref h0HM, .int 0, .int 0, .int 0]))] H := hP
    have hD : va_D A [(h0, .inr (9, [.ref h0H, .ref h0S, .ref h0I, .ref h0K, .ref h0Ex, .ref h0E, .ref h0D, .ref h0F, .ref h0B, .ref h0R, .ref h0G, .long 0, .long 1, .int 0, .int 0, .int 0])), (h0B, .inr (0, [.ref h0Bo, .ref h0Bw, .ref h0Bb, .int 0])), (h0Bo, .inl (G.2 0, 7, .inl (fun _ => 0))), (h0Bw, .inl (G.2 0, 4, .inl (fun _ => 0))), (h0Bb, .inl (G.2 0, 4, .inl (fun _ => 0))), (h0HT, .inr (3, [.int 0, .ref h0HTt, .ref h0HTa, .ref h0HTf])), (h0HTt, .inl (G.2 0, 7, .inl (fun _ => 0))), (h0H, .inr (8, [.ref h0Hd, .ref h0Hk, .ref h0Hr, .ref h0Hn, .ref h0He, .ref h0HT, .ref h0HP, .ref h0HL, .ref h0HN, .ref h0HM, .int 0, .int 0, .int 0]))] := hD
    refine lv_if_ne (tgt := 21) hx hb dX10_feast_13 (by decide) (fun c_4 => g_no (by decide) c_4) (fun _ => ?_)
    refine lv_aload_n hx hb dX10_feast_16 rfl (lv_at hl 0 rfl) ?_
    refine g_calli (wr := [(h0B, .inr (0, [.ref h0Bo, .ref h0Bw, .ref h0Bb, .int 0])), (h0Bo, .inl (G.2 0, 7, .inl (fun _ => 0))), (h0Bw, .inl (G.2 0, 4, .inl (fun _ => 0))), (h0Bb, .inl (G.2 0, 4, .inl (fun _ => 0))), (h0HT, .inr (3, [.int 0, .ref h0HTt, .ref h0HTa, .ref h0HTf])), (h0HTt, .inl (G.2 0, 7, .inl (fun _ => 0))), (h0H, .inr (8, [.ref h0Hd, .ref h0Hk, .ref h0Hr, .ref h0Hn, .ref h0He, .ref h0HT, .ref h0HP, .ref h0HL, .ref h0HN, .ref h0HM, .int 0, .int 0, .int 0]))]) (va_runV (As := []) (rest := []) ⟨hx, hb, hml, hown, hts⟩ (e_X10_refuseBadAsTen l G (h0) (h0H) (h0S) (h0I) (h0K) (h0Ex) (h0E) (h0D) (h0F) (h0B) (h0R) (h0G) (0) (1) (0) (0) (0) _) (cwV 0 hts gX10_feast_X10_refuseBadAsTen rfl rfl rfl (by decide +kernel) ⟨Nat.le_of_ble_eq_true rfl, Nat.le_of_ble_eq_true rfl⟩) (g_preV h0 [] hP hD hK hN [0] rfl rfl 0 (ci := 9) rfl rfl) rfl rfl hl.1 rfl (lv_room (Nat.le_of_ble_eq_true rfl)) dX10_feast_17 ⟨Nat.le_of_ble_eq_true rfl, Nat.le_of_ble_eq_true rfl⟩) hP hD hS hA [0] [1, 2, 3, 4, 5, 6, 7] rfl rfl rfl (by decide) (fun r_5 u H locs hw hP hD hS => ?_)
    obtain ⟨rfl, rfl⟩ := hw
    have hP : va_P G.1 vwCl [(h0B, .inr (0, [.ref h0Bo, .ref h0Bw, .ref h0Bb, .int 0])), (h0Bo, .inl (G.2 0, 7, .inl (fun _ => 0))), (h0Bw, .inl (G.2 0, 4, .inl (fun _ => 0))), (h0Bb, .inl (G.2 0, 4, .inl (fun _ => 0))), (h0HT, .inr (3, [.int 0, .ref h0HTt, .ref h0HTa, .ref h0HTf])), (h0HTt, .inl (G.2 0, 7, .inl (fun _ => 0))), (h0H, .inr (8, [.ref h0Hd, .ref h0Hk, .ref h0Hr, .ref h0Hn, .ref h0He, .ref h0HT, .ref h0HP, .ref h0HL, .ref h0HN, .ref h0HM, .int 0, .int 0, .int 0]))] H := hP
    have hD : va_D A [(h0B, .inr (0, [.ref h0Bo, .ref h0Bw, .ref h0Bb, .int 0])), (h0Bo, .inl (G.2 0, 7, .inl (fun _ => 0))), (h0Bw, .inl (G.2 0, 4, .inl (fun _ => 0))), (h0Bb, .inl (G.2 0, 4, .inl (fun _ => 0))), (h0HT, .inr (3, [.int 0, .ref h0HTt, .ref h0HTa, .ref h0HTf])), (h0HTt, .inl (G.2 0, 7, .inl (fun _ => 0))), (h0H, .inr (8, [.ref h0Hd, .ref h0Hk, .ref h0Hr, .ref h0Hn, .ref h0He, .ref h0HT, .ref h0HP, .ref h0HL, .ref h0HN, .ref h0HM, .int 0, .int 0, .int 0]))] := hD
    have hP := hP.sub (ws' := []) [] rfl
    have hD := hD.sub (ws' := []) [] rfl rfl
    exact g_iret (v := (-10)) hx hb hr hlocks hP hD hS (⟨by simp [F_feast, c_1], rfl⟩) dX10_feast_20
theorem dX10_forget_0 : decode cX10_forget 0 = .ok (.iload_n 1, 1) := by decide +kernel
theorem dX10_forget_1 : decode cX10_forget 1 = .ok (.tableswitch 60 0 2 #[27, 38, 49], 27) := by decide +kernel
theorem dX10_forget_28 : decode cX10_forget 28 = .ok (.aload_n 0, 1) := by decide +kernel
theorem dX10_forget_29 : decode cX10_forget 29 = .ok (.getfield 10, 3) := by decide +kernel
theorem dX10_forget_32 : decode cX10_forget 32 = .ok (.getfield 208, 3) := by decide +kernel
set_option maxRecDepth 20000 in
theorem ggX10_forget_X6_empty : GoodIn wsX10_forget wsX6_empty := goodIn_r _ [5, 6, 42, 43, 44, 45] (by decide +kernel) (by decide +kernel)
set_option maxRecDepth 20000 in
theorem gX10_forget_X6_empty_n231 : GoodIn wsX10_forget (wsX6_empty) := ggX10_forget_X6_empty
theorem dX10_forget_35 : decode cX10_forget 35 = .ok (.invokevirtual 231, 3) := by decide +kernel
theorem dX10_forget_38 : decode cX10_forget 38 = .ok (.ireturn, 1) := by decide +kernel
theorem dX10_forget_39 : decode cX10_forget 39 = .ok (.aload_n 0, 1) := by decide +kernel
theorem dX10_forget_40 : decode cX10_forget 40 = .ok (.getfield 10, 3) := by decide +kernel
theorem dX10_forget_43 : decode cX10_forget 43 = .ok (.getfield 225, 3) := by decide +kernel
theorem dX10_forget_46 : decode cX10_forget 46 = .ok (.invokevirtual 231, 3) := by decide +kernel
theorem dX10_forget_49 : decode cX10_forget 49 = .ok (.ireturn, 1) := by decide +kernel
theorem dX10_forget_50 : decode cX10_forget 50 = .ok (.aload_n 0, 1) := by decide +kernel
theorem dX10_forget_51 : decode cX10_forget 51 = .ok (.getfield 10, 3) := by decide +kernel
theorem dX10_forget_54 : decode cX10_forget 54 = .ok (.getfield 228, 3) := by decide +kernel
theorem dX10_forget_57 : decode cX10_forget 57 = .ok (.invokevirtual 231, 3) := by decide +kernel
theorem dX10_forget_60 : decode cX10_forget 60 = .ok (.ireturn, 1) := by decide +kernel
theorem dX10_forget_61 : decode cX10_forget 61 = .ok (.aload_n 0, 1) := by decide +kernel
set_option maxRecDepth 20000 in
theorem ggX10_forget_X10_refuseBad : GoodIn wsX10_forget wsX10_refuseBad := goodIn_r _ [11, 12, 13, 14, 15, 16, 17, 18, 19, 20, 21, 22, 23, 24, 25, 26, 27, 28] (by decide +kernel) (by decide +kernel)
set_option maxRecDepth 20000 in
theorem gX10_forget_X10_refuseBad : GoodIn wsX10_forget (wsV RX10 92 RX10 yX10_refuseBad wsX10_refuseBad) := goodIn_app (goodIn_of _ (by decide +kernel)) ggX10_forget_X10_refuseBad
theorem dX10_forget_62 : decode cX10_forget 62 = .ok (.invokevirtual 92, 3) := by decide +kernel
theorem dX10_forget_65 : decode cX10_forget 65 = .ok (.ireturn, 1) := by decide +kernel
set_option maxHeartbeats 8000000 in
set_option maxRecDepth 100000 in
theorem c_X10_forget (l : Launch) (G : gG) (h0 : Nat) (h0H : Nat) (h0S : Nat) (h0I : Nat) (h0K : Nat) (h0Ex : Nat) (h0E : Nat) (h0D : Nat) (h0F : Nat) (h0B : Nat) (h0R : Nat) (h0G : Nat) (h0Hd : Nat) (h0Hk : Nat) (h0Hr : Nat) (h0Hn : Nat) (h0He : Nat) (h0HT : Nat) (h0HP : Nat) (h0HL : Nat) (h0HN : Nat) (h0HM : Nat) (h0HLc : Nat) (h0HNc : Nat) (h0HMc : Nat) (a1 : Int32) (sz : Nat) : gI G l yX10_forget wsX10_forget ({ frames := 1, cells := 0, slots := 0, locals := 21 } : Room) [.ref h0, .int a1] [(h0, .inr (9, [.ref h0H, .ref h0S, .ref h0I, .ref h0K, .ref h0Ex, .ref h0E, .ref h0D, .ref h0F, .ref h0B, .ref h0R, .ref h0G, .long 0, .long 1, .int 0, .int 0, .int 0])), (h0H, .inr (8, [.ref h0Hd, .ref h0Hk, .ref h0Hr, .ref h0Hn, .ref h0He, .ref h0HT, .ref h0HP, .ref h0HL, .ref h0HN, .ref h0HM, .int 0, .int 0, .int 0])), (h0HL, .inr (5, [.int 5, .int 5, .ref h0HLc, .int 0])), (h0HN, .inr (5, [.int 5, .int 6, .ref h0HNc, .int 0])), (h0HM, .inr (5, [.int 4, .int 6, .ref h0HMc, .int 0]))] sz (fun (r : Int32) (u : va_W) => (r = (F_forget a1) ∧ u = [])) := by
  refine Met.ofW (cc := cX10_forget) (maxL := 2) (ret := (some .int)) (by decide) rfl ?_
  intro p e s m args below meth c s₁ B hml hv
  obtain ⟨rfl, hsz, hP, hK, hD0, hN⟩ := hv
  have hx := B.exec
  have hb := B.bytes
  have hr := B.returns
  have hts := atoms_spec (ws := wsX10_forget) B.pre
  have hown : s.vm.findClass RX10 = some m.cls := findClass_of_methodNamed B.named
  have hlocks := B.notSynchronized
  subst hsz
  have hD := hD0.self (sz := s.heap.size)
  generalize hAe : va_A [(h0, .inr (9, [.ref h0H, .ref h0S, .ref h0I, .ref h0K, .ref h0Ex, .ref h0E, .ref h0D, .ref h0F, .ref h0B, .ref h0R, .ref h0G, .long 0, .long 1, .int 0, .int 0, .int 0])), (h0H, .inr (8, [.ref h0Hd, .ref h0Hk, .ref h0Hr, .ref h0Hn, .ref h0He, .ref h0HT, .ref h0HP, .ref h0HL, .ref h0HN, .ref h0HM, .int 0, .int 0, .int 0])), (h0HL, .inr (5, [.int 5, .int 5, .ref h0HLc, .int 0])), (h0HN, .inr (5, [.int 5, .int 6, .ref h0HNc, .int 0])), (h0HM, .inr (5, [.int 4, .int 6, .ref h0HMc, .int 0]))] s.heap.size = A at hD ⊢
  have hA : ∀ q : Nat, s.heap.size ≤ q → A q := fun q h => by rw [← hAe]; exact Or.inr h
  have hS : va_S A s.heap s.heap [] := va_S.rf
  have hP : va_P G.1 vwCl [(h0, .inr (9, [.ref h0H, .ref h0S, .ref h0I, .ref h0K, .ref h0Ex, .ref h0E, .ref h0D, .ref h0F, .ref h0B, .ref h0R, .ref h0G, .long 0, .long 1, .int 0, .int 0, .int 0])), (h0H, .inr (8, [.ref h0Hd, .ref h0Hk, .ref h0Hr, .ref h0Hn, .ref h0He, .ref h0HT, .ref h0HP, .ref h0HL, .ref h0HN, .ref h0HM, .int 0, .int 0, .int 0])), (h0HL, .inr (5, [.int 5, .int 5, .ref h0HLc, .int 0])), (h0HN, .inr (5, [.int 5, .int 6, .ref h0HNc, .int 0])), (h0HM, .inr (5, [.int 4, .int 6, .ref h0HMc, .int 0]))] s.heap := hP
  have hl := lv_entry ([.ref h0, .int a1]) (n := 2) (Nat.le_of_ble_eq_true rfl)
  rw [lg_entry_eq]
  generalize (lg_sl ([.ref h0, .int a1]) ++ List.replicate (2 - (lg_sl ([.ref h0, .int a1])).length) Slot.unset).toArray = ls at hl ⊢
  have hl : lv_has ls 2 [(0, .ref h0), (1, .int a1)] := hl
  refine lv_iload_n hx hb dX10_forget_0 rfl (lv_at hl 1 rfl) ?_
  rcases (show a1 = 0 ∨ a1 = 1 ∨ a1 = 2 ∨ (a1.toInt < 0 ∨ 2 < a1.toInt) from g_tab3 a1) with rfl | rfl | rfl | c_out
  · refine lv_tableIn (off := 27) (tgt := 28) hx hb dX10_forget_1 (by decide) (by decide) (by decide) (by decide) ?_
    refine lv_aload_n hx hb dX10_forget_28 rfl (lv_at hl 0 rfl) ?_
    refine va_get (D := G.1) (ci := 9) (v := .ref h0H) (C := RX10) (T := TX10) (N := 16) hx hb hts (fun _ h => List.mem_cons_of_mem _ (List.mem_append_left _ (List.mem_append_left _ (List.mem_append_right _ h)))) hown hK hP 0 rfl rfl 0 (by decide) (hts _ (List.mem_of_getElem? (i := 1) rfl)) (fun _ h9 => h9) rfl dX10_forget_29 ?_
    refine va_getN (D := G.1) (ci := 8) (v := .ref h0HL) (C := RX9) (T := TX9) (N := 13) hx hb hts (fun _ h => List.mem_cons_of_mem _ (List.mem_append_left _ (List.mem_append_right _ h))) hown hK hP 1 rfl rfl 7 (by decide) (va_Nw.use rfl (nw25 hN)) (fun _ h9 => h9) rfl dX10_forget_32 ?_
    refine g_calli (wr := [(h0, .inr (9, [.ref h0H, .ref h0S, .ref h0I, .ref h0K, .ref h0Ex, .ref h0E, .ref h0D, .ref h0F, .ref h0B, .ref h0R, .ref h0G, .long 0, .long 1, .int 0, .int 0, .int 0])), (h0H, .inr (8, [.ref h0Hd, .ref h0Hk, .ref h0Hr, .ref h0Hn, .ref h0He, .ref h0HT, .ref h0HP, .ref h0HL, .ref h0HN, .ref h0HM, .int 0, .int 0, .int 0])), (h0HN, .inr (5, [.int 5, .int 6, .ref h0HNc, .int 0])), (h0HM, .inr (5, [.int 4, .int 6, .ref h0HMc, .int 0]))]) (va_runVN (C := RX6) (As := []) (rest := []) ⟨hx, hb, hml, hown, hts⟩ (c_X6_empty l G (h0HL) (5) (5) (h0HLc) (0) _) (⟨va_cnB 0 hts gX10_forget_X6_empty_n231 rfl rfl rfl (nw101 hN) (hts _ (List.mem_of_getElem? (i := 3) rfl)) (by decide +kernel) ⟨Nat.le_of_ble_eq_true rfl, Nat.le_of_ble_eq_true rfl⟩, (hts _ (List.mem_of_getElem? (i := 2) rfl)), (hts _ (List.mem_of_getElem? (i := 4) rfl))⟩) (g_preV h0HL [] hP hD hK hN [2] rfl rfl 2 (ci := 5) rfl rfl) rfl rfl hl.1 rfl (lv_room (Nat.le_of_ble_eq_true rfl)) dX10_forget_35 ⟨Nat.le_of_ble_eq_true rfl, Nat.le_of_ble_eq_true rfl⟩) hP hD hS hA [2] [0, 1, 3, 4] rfl rfl rfl (by decide) (fun r_1 u H locs hw hP hD hS => ?_)
    obtain ⟨rfl, rfl⟩ := hw
    have hP : va_P G.1 vwCl [(h0, .inr (9, [.ref h0H, .ref h0S, .ref h0I, .ref h0K, .ref h0Ex, .ref h0E, .ref h0D, .ref h0F, .ref h0B, .ref h0R, .ref h0G, .long 0, .long 1, .int 0, .int 0, .int 0])), (h0H, .inr (8, [.ref h0Hd, .ref h0Hk, .ref h0Hr, .ref h0Hn, .ref h0He, .ref h0HT, .ref h0HP, .ref h0HL, .ref h0HN, .ref h0HM, .int 0, .int 0, .int 0])), (h0HN, .inr (5, [.int 5, .int 6, .ref h0HNc, .int 0])), (h0HM, .inr (5, [.int 4, .int 6, .ref h0HMc, .int 0])), (h0HL, .inr (5, [.int 5, .int 5, .ref h0HLc, .int 0]))] H := hP
    have hD : va_D A [(h0, .inr (9, [.ref h0H, .ref h0S, .ref h0I, .ref h0K, .ref h0Ex, .ref h0E, .ref h0D, .ref h0F, .ref h0B, .ref h0R, .ref h0G, .long 0, .long 1, .int 0, .int 0, .int 0])), (h0H, .inr (8, [.ref h0Hd, .ref h0Hk, .ref h0Hr, .ref h0Hn, .ref h0He, .ref h0HT, .ref h0HP, .ref h0HL, .ref h0HN, .ref h0HM, .int 0, .int 0, .int 0])), (h0HN, .inr (5, [.int 5, .int 6, .ref h0HNc, .int 0])), (h0HM, .inr (5, [.int 4, .int 6, .ref h0HMc, .int 0])), (h0HL, .inr (5, [.int 5, .int 5, .ref h0HLc, .int 0]))] := hD
    have hP := hP.sub (ws' := []) [] rfl
    have hD := hD.sub (ws' := []) [] rfl rfl
    exact g_iret (v := 0) hx hb hr hlocks hP hD hS (⟨by decide, rfl⟩) dX10_forget_38
  · refine lv_tableIn (off := 38) (tgt := 39) hx hb dX10_forget_1 (by decide) (by decide) (by decide) (by decide) ?_
    refine lv_aload_n hx hb dX10_forget_39 rfl (lv_at hl 0 rfl) ?_
    refine va_get (D := G.1) (ci := 9) (v := .ref h0H) (C := RX10) (T := TX10) (N := 16) hx hb hts (fun _ h => List.mem_cons_of_mem _ (List.mem_append_left _ (List.mem_append_left _ (List.mem_append_right _ h)))) hown hK hP 0 rfl rfl 0 (by decide) (hts _ (List.mem_of_getElem? (i := 1) rfl)) (fun _ h9 => h9) rfl dX10_forget_40 ?_
    refine va_getN (D := G.1) (ci := 8) (v := .ref h0HN) (C := RX9) (T := TX9) (N := 13) hx hb hts (fun _ h => List.mem_cons_of_mem _ (List.mem_append_left _ (List.mem_append_right _ h))) hown hK hP 1 rfl rfl 8 (by decide) (va_Nw.use rfl (nw27 hN)) (fun _ h9 => h9) rfl dX10_forget_43 ?_
    refine g_calli (wr := [(h0, .inr (9, [.ref h0H, .ref h0S, .ref h0I, .ref h0K, .ref h0Ex, .ref h0E, .ref h0D, .ref h0F, .ref h0B, .ref h0R, .ref h0G, .long 0, .long 1, .int 0, .int 0, .int 0])), (h0H, .inr (8, [.ref h0Hd, .ref h0Hk, .ref h0Hr, .ref h0Hn, .ref h0He, .ref h0HT, .ref h0HP, .ref h0HL, .ref h0HN, .ref h0HM, .int 0, .int 0, .int 0])), (h0HL, .inr (5, [.int 5, .int 5, .ref h0HLc, .int 0])), (h0HM, .inr (5, [.int 4, .int 6, .ref h0HMc, .int 0]))]) (va_runVN (C := RX6) (As := []) (rest := []) ⟨hx, hb, hml, hown, hts⟩ (c_X6_empty l G (h0HN) (5) (6) (h0HNc) (0) _) (⟨va_cnB 0 hts gX10_forget_X6_empty_n231 rfl rfl rfl (nw101 hN) (hts _ (List.mem_of_getElem? (i := 3) rfl)) (by decide +kernel) ⟨Nat.le_of_ble_eq_true rfl, Nat.le_of_ble_eq_true rfl⟩, (hts _ (List.mem_of_getElem? (i := 2) rfl)), (hts _ (List.mem_of_getElem? (i := 4) rfl))⟩) (g_preV h0HN [] hP hD hK hN [3] rfl rfl 3 (ci := 5) rfl rfl) rfl rfl hl.1 rfl (lv_room (Nat.le_of_ble_eq_true rfl)) dX10_forget_46 ⟨Nat.le_of_ble_eq_true rfl, Nat.le_of_ble_eq_true rfl⟩) hP hD hS hA [3] [0, 1, 2, 4] rfl rfl rfl (by decide) (fun r_2 u H locs hw hP hD hS => ?_)
    obtain ⟨rfl, rfl⟩ := hw
    have hP : va_P G.1 vwCl [(h0, .inr (9, [.ref h0H, .ref h0S, .ref h0I, .ref h0K, .ref h0Ex, .ref h0E, .ref h0D, .ref h0F, .ref h0B, .ref h0R, .ref h0G, .long 0, .long 1, .int 0, .int 0, .int 0])), (h0H, .inr (8, [.ref h0Hd, .ref h0Hk, .ref h0Hr, .ref h0Hn, .ref h0He, .ref h0HT, .ref h0HP, .ref h0HL, .ref h0HN, .ref h0HM, .int 0, .int 0, .int 0])), (h0HL, .inr (5, [.int 5, .int 5, .ref h0HLc, .int 0])), (h0HM, .inr (5, [.int 4, .int 6, .ref h0HMc, .int 0])), (h0HN, .inr (5, [.int 5, .int 6, .ref h0HNc, .int 0]))] H := hP
    have hD : va_D A [(h0, .inr (9, [.ref h0H, .ref h0S, .ref h0I, .ref h0K, .ref h0Ex, .ref h0E, .ref h0D, .ref h0F, .ref h0B, .ref h0R, .ref h0G, .long 0, .long 1, .int 0, .int 0, .int 0])), (h0H, .inr (8, [.ref h0Hd, .ref h0Hk, .ref h0Hr, .ref h0Hn, .ref h0He, .ref h0HT, .ref h0HP, .ref h0HL, .ref h0HN, .ref h0HM, .int 0, .int 0, .int 0])), (h0HL, .inr (5, [.int 5, .int 5, .ref h0HLc, .int 0])), (h0HM, .inr (5, [.int 4, .int 6, .ref h0HMc, .int 0])), (h0HN, .inr (5, [.int 5, .int 6, .ref h0HNc, .int 0]))] := hD
    have hP := hP.sub (ws' := []) [] rfl
    have hD := hD.sub (ws' := []) [] rfl rfl
    exact g_iret (v := 0) hx hb hr hlocks hP hD hS (⟨by decide, rfl⟩) dX10_forget_49
  · refine lv_tableIn (off := 49) (tgt := 50) hx hb dX10_forget_1 (by decide) (by decide) (by decide) (by decide) ?_
    refine lv_aload_n hx hb dX10_forget_50 rfl (lv_at hl 0 rfl) ?_
    refine va_get (D := G.1) (ci := 9) (v := .ref h0H) (C := RX10) (T := TX10) (N := 16) hx hb hts (fun _ h => List.mem_cons_of_mem _ (List.mem_append_left _ (List.mem_append_left _ (List.mem_append_right _ h)))) hown hK hP 0 rfl rfl 0 (by decide) (hts _ (List.mem_of_getElem? (i := 1) rfl)) (fun _ h9 => h9) rfl dX10_forget_51 ?_
    refine va_getN (D := G.1) (ci := 8) (v := .ref h0HM) (C := RX9) (T := TX9) (N := 13) hx hb hts (fun _ h => List.mem_cons_of_mem _ (List.mem_append_left _ (List.mem_append_right _ h))) hown hK hP 1 rfl rfl 9 (by decide) (va_Nw.use rfl (nw29 hN)) (fun _ h9 => h9) rfl dX10_forget_54 ?_
    refine g_calli (wr := [(h0, .inr (9, [.ref h0H, .ref h0S, .ref h0I, .ref h0K, .ref h0Ex, .ref h0E, .ref h0D, .ref h0F, .ref h0B, .ref h0R, .ref h0G, .long 0, .long 1, .int 0, .int 0, .int 0])), (h0H, .inr (8, [.ref h0Hd, .ref h0Hk, .ref h0Hr, .ref h0Hn, .ref h0He, .ref h0HT, .ref h0HP, .ref h0HL, .ref h0HN, .ref h0HM, .int 0, .int 0, .int 0])), (h0HL, .inr (5, [.int 5, .int 5, .ref h0HLc, .int 0])), (h0HN, .inr (5, [.int 5, .int 6, .ref h0HNc, .int 0]))]) (va_runVN (C := RX6) (As := []) (rest := []) ⟨hx, hb, hml, hown, hts⟩ (c_X6_empty l G (h0HM) (4) (6) (h0HMc) (0) _) (⟨va_cnB 0 hts gX10_forget_X6_empty_n231 rfl rfl rfl (nw101 hN) (hts _ (List.mem_of_getElem? (i := 3) rfl)) (by decide +kernel) ⟨Nat.le_of_ble_eq_true rfl, Nat.le_of_ble_eq_true rfl⟩, (hts _ (List.mem_of_getElem? (i := 2) rfl)), (hts _ (List.mem_of_getElem? (i := 4) rfl))⟩) (g_preV h0HM [] hP hD hK hN [4] rfl rfl 4 (ci := 5) rfl rfl) rfl rfl hl.1 rfl (lv_room (Nat.le_of_ble_eq_true rfl)) dX10_forget_57 ⟨Nat.le_of_ble_eq_true rfl, Nat.le_of_ble_eq_true rfl⟩) hP hD hS hA [4] [0, 1, 2, 3] rfl rfl rfl (by decide) (fun r_3 u H locs hw hP hD hS => ?_)
    obtain ⟨rfl, rfl⟩ := hw
    have hP : va_P G.1 vwCl [(h0, .inr (9, [.ref h0H, .ref h0S, .ref h0I, .ref h0K, .ref h0Ex, .ref h0E, .ref h0D, .ref h0F, .ref h0B, .ref h0R, .ref h0G, .long 0, .long 1, .int 0, .int 0, .int 0])), (h0H, .inr (8, [.ref h0Hd, .ref h0Hk, .ref h0Hr, .ref h0Hn, .ref h0He, .ref h0HT, .ref h0HP, .ref h0HL, .ref h0HN, .ref h0HM, .int 0, .int 0, .int 0])), (h0HL, .inr (5, [.int 5, .int 5, .ref h0HLc, .int 0])), (h0HN, .inr (5, [.int 5, .int 6, .ref h0HNc, .int 0])), (h0HM, .inr (5, [.int 4, .int 6, .ref h0HMc, .int 0]))] H := hP
    have hD : va_D A [(h0, .inr (9, [.ref h0H, .ref h0S, .ref h0I, .ref h0K, .ref h0Ex, .ref h0E, .ref h0D, .ref h0F, .ref h0B, .ref h0R, .ref h0G, .long 0, .long 1, .int 0, .int 0, .int 0])), (h0H, .inr (8, [.ref h0Hd, .ref h0Hk, .ref h0Hr, .ref h0Hn, .ref h0He, .ref h0HT, .ref h0HP, .ref h0HL, .ref h0HN, .ref h0HM, .int 0, .int 0, .int 0])), (h0HL, .inr (5, [.int 5, .int 5, .ref h0HLc, .int 0])), (h0HN, .inr (5, [.int 5, .int 6, .ref h0HNc, .int 0])), (h0HM, .inr (5, [.int 4, .int 6, .ref h0HMc, .int 0]))] := hD
    have hP := hP.sub (ws' := []) [] rfl
    have hD := hD.sub (ws' := []) [] rfl rfl
    exact g_iret (v := 0) hx hb hr hlocks hP hD hS (⟨by decide, rfl⟩) dX10_forget_60
  · refine lv_tableOut (tgt := 61) hx hb dX10_forget_1 c_out (by decide) ?_
    refine lv_aload_n hx hb dX10_forget_61 rfl (lv_at hl 0 rfl) ?_
    refine g_calli (wr := [(h0H, .inr (8, [.ref h0Hd, .ref h0Hk, .ref h0Hr, .ref h0Hn, .ref h0He, .ref h0HT, .ref h0HP, .ref h0HL, .ref h0HN, .ref h0HM, .int 0, .int 0, .int 0])), (h0HL, .inr (5, [.int 5, .int 5, .ref h0HLc, .int 0])), (h0HN, .inr (5, [.int 5, .int 6, .ref h0HNc, .int 0])), (h0HM, .inr (5, [.int 4, .int 6, .ref h0HMc, .int 0]))]) (va_runV (As := []) (rest := []) ⟨hx, hb, hml, hown, hts⟩ (e_X10_refuseBad l G (h0) (h0H) (h0S) (h0I) (h0K) (h0Ex) (h0E) (h0D) (h0F) (h0B) (h0R) (h0G) (0) (1) (0) (0) (0) _) (cwV 0 hts gX10_forget_X10_refuseBad rfl rfl rfl (by decide +kernel) ⟨Nat.le_of_ble_eq_true rfl, Nat.le_of_ble_eq_true rfl⟩) (g_preV h0 [] hP hD hK hN [0] rfl rfl 0 (ci := 9) rfl rfl) rfl rfl hl.1 rfl (lv_room (Nat.le_of_ble_eq_true rfl)) dX10_forget_62 ⟨Nat.le_of_ble_eq_true rfl, Nat.le_of_ble_eq_true rfl⟩) hP hD hS hA [0] [1, 2, 3, 4] rfl rfl rfl (by decide) (fun r_4 u H locs hw hP hD hS => ?_)
    obtain ⟨rfl, rfl⟩ := hw
    have hP : va_P G.1 vwCl [(h0H, .inr (8, [.ref h0Hd, .ref h0Hk, .ref h0Hr, .ref h0Hn, .ref h0He, .ref h0HT, .ref h0HP, .ref h0HL, .ref h0HN, .ref h0HM, .int 0, .int 0, .int 0])), (h0HL, .inr (5, [.int 5, .int 5, .ref h0HLc, .int 0])), (h0HN, .inr (5, [.int 5, .int 6, .ref h0HNc, .int 0])), (h0HM, .inr (5, [.int 4, .int 6, .ref h0HMc, .int 0]))] H := hP
    have hD : va_D A [(h0H, .inr (8, [.ref h0Hd, .ref h0Hk, .ref h0Hr, .ref h0Hn, .ref h0He, .ref h0HT, .ref h0HP, .ref h0HL, .ref h0HN, .ref h0HM, .int 0, .int 0, .int 0])), (h0HL, .inr (5, [.int 5, .int 5, .ref h0HLc, .int 0])), (h0HN, .inr (5, [.int 5, .int 6, .ref h0HNc, .int 0])), (h0HM, .inr (5, [.int 4, .int 6, .ref h0HMc, .int 0]))] := hD
    have hP := hP.sub (ws' := []) [] rfl
    have hD := hD.sub (ws' := []) [] rfl rfl
    exact g_iret (v := (-2)) hx hb hr hlocks hP hD hS (⟨by simp [F_forget, inB_out c_out], rfl⟩) dX10_forget_65
theorem dX10_status_0 : decode cX10_status 0 = .ok (.iload_n 1, 1) := by decide +kernel
theorem dX10_status_1 : decode cX10_status 1 = .ok (.tableswitch 42 0 2 #[27, 32, 37], 27) := by decide +kernel
theorem dX10_status_28 : decode cX10_status 28 = .ok (.aload_n 0, 1) := by decide +kernel
theorem dX10_status_29 : decode cX10_status 29 = .ok (.getfield 289, 3) := by decide +kernel
theorem dX10_status_32 : decode cX10_status 32 = .ok (.ireturn, 1) := by decide +kernel
theorem dX10_status_33 : decode cX10_status 33 = .ok (.aload_n 0, 1) := by decide +kernel
theorem dX10_status_34 : decode cX10_status 34 = .ok (.getfield 292, 3) := by decide +kernel
theorem dX10_status_37 : decode cX10_status 37 = .ok (.ireturn, 1) := by decide +kernel
theorem dX10_status_38 : decode cX10_status 38 = .ok (.aload_n 0, 1) := by decide +kernel
theorem dX10_status_39 : decode cX10_status 39 = .ok (.getfield 295, 3) := by decide +kernel
theorem dX10_status_42 : decode cX10_status 42 = .ok (.ireturn, 1) := by decide +kernel
theorem dX10_status_43 : decode cX10_status 43 = .ok (.aload_n 0, 1) := by decide +kernel
set_option maxRecDepth 20000 in
theorem ggX10_status_X10_refuseBad : GoodIn wsX10_status wsX10_refuseBad := goodIn_r _ [8, 1, 9, 10, 11, 12, 13, 14, 15, 16, 17, 18, 19, 20, 21, 22, 23, 24] (by decide +kernel) (by decide +kernel)
set_option maxRecDepth 20000 in
theorem gX10_status_X10_refuseBad : GoodIn wsX10_status (wsV RX10 92 RX10 yX10_refuseBad wsX10_refuseBad) := goodIn_app (goodIn_of _ (by decide +kernel)) ggX10_status_X10_refuseBad
theorem dX10_status_44 : decode cX10_status 44 = .ok (.invokevirtual 92, 3) := by decide +kernel
theorem dX10_status_47 : decode cX10_status 47 = .ok (.pop, 1) := by decide +kernel
theorem dX10_status_48 : decode cX10_status 48 = .ok (.iconst (-1), 1) := by decide +kernel
theorem dX10_status_49 : decode cX10_status 49 = .ok (.ireturn, 1) := by decide +kernel
set_option maxHeartbeats 8000000 in
set_option maxRecDepth 100000 in
theorem c_X10_status (l : Launch) (G : gG) (h0 : Nat) (h0H : Nat) (h0S : Nat) (h0I : Nat) (h0K : Nat) (h0Ex : Nat) (h0E : Nat) (h0D : Nat) (h0F : Nat) (h0B : Nat) (h0R : Nat) (h0G : Nat) (a1 : Int32) (sz : Nat) : gI G l yX10_status wsX10_status ({ frames := 1, cells := 0, slots := 0, locals := 20 } : Room) [.ref h0, .int a1] [(h0, .inr (9, [.ref h0H, .ref h0S, .ref h0I, .ref h0K, .ref h0Ex, .ref h0E, .ref h0D, .ref h0F, .ref h0B, .ref h0R, .ref h0G, .long 0, .long 1, .int 0, .int 0, .int 0]))] sz (fun (r : Int32) (u : va_W) => (r = (F_status a1) ∧ u = [])) := by
  refine Met.ofW (cc := cX10_status) (maxL := 2) (ret := (some .int)) (by decide) rfl ?_
  intro p e s m args below meth c s₁ B hml hv
  obtain ⟨rfl, hsz, hP, hK, hD0, hN⟩ := hv
  have hx := B.exec
  have hb := B.bytes
  have hr := B.returns
  have hts := atoms_spec (ws := wsX10_status) B.pre
  have hown : s.vm.findClass RX10 = some m.cls := findClass_of_methodNamed B.named
  have hlocks := B.notSynchronized
  subst hsz
  have hD := hD0.self (sz := s.heap.size)
  generalize hAe : va_A [(h0, .inr (9, [.ref h0H, .ref h0S, .ref h0I, .ref h0K, .ref h0Ex, .ref h0E, .ref h0D, .ref h0F, .ref h0B, .ref h0R, .ref h0G, .long 0, .long 1, .int 0, .int 0, .int 0]))] s.heap.size = A at hD ⊢
  have hA : ∀ q : Nat, s.heap.size ≤ q → A q := fun q h => by rw [← hAe]; exact Or.inr h
  have hS : va_S A s.heap s.heap [] := va_S.rf
  have hP : va_P G.1 vwCl [(h0, .inr (9, [.ref h0H, .ref h0S, .ref h0I, .ref h0K, .ref h0Ex, .ref h0E, .ref h0D, .ref h0F, .ref h0B, .ref h0R, .ref h0G, .long 0, .long 1, .int 0, .int 0, .int 0]))] s.heap := hP
  have hl := lv_entry ([.ref h0, .int a1]) (n := 2) (Nat.le_of_ble_eq_true rfl)
  rw [lg_entry_eq]
  generalize (lg_sl ([.ref h0, .int a1]) ++ List.replicate (2 - (lg_sl ([.ref h0, .int a1])).length) Slot.unset).toArray = ls at hl ⊢
  have hl : lv_has ls 2 [(0, .ref h0), (1, .int a1)] := hl
  refine lv_iload_n hx hb dX10_status_0 rfl (lv_at hl 1 rfl) ?_
  rcases (show a1 = 0 ∨ a1 = 1 ∨ a1 = 2 ∨ (a1.toInt < 0 ∨ 2 < a1.toInt) from g_tab3 a1) with rfl | rfl | rfl | c_out
  · refine lv_tableIn (off := 27) (tgt := 28) hx hb dX10_status_1 (by decide) (by decide) (by decide) (by decide) ?_
    refine lv_aload_n hx hb dX10_status_28 rfl (lv_at hl 0 rfl) ?_
    refine va_get (D := G.1) (ci := 9) (v := .int 0) (C := RX10) (T := TX10) (N := 16) hx hb hts (fun _ h => List.mem_cons_of_mem _ (List.mem_append_right _ h)) hown hK hP 0 rfl rfl 13 (by decide) (hts _ (List.mem_of_getElem? (i := 1) rfl)) (fun _ h9 => h9) rfl dX10_status_29 ?_
    have hP := hP.sub (ws' := []) [] rfl
    have hD := hD.sub (ws' := []) [] rfl rfl
    exact g_iret (v := 0) hx hb hr hlocks hP hD hS (⟨by decide, rfl⟩) dX10_status_32
  · refine lv_tableIn (off := 32) (tgt := 33) hx hb dX10_status_1 (by decide) (by decide) (by decide) (by decide) ?_
    refine lv_aload_n hx hb dX10_status_33 rfl (lv_at hl 0 rfl) ?_
    refine va_get (D := G.1) (ci := 9) (v := .int 0) (C := RX10) (T := TX10) (N := 16) hx hb hts (fun _ h => List.mem_cons_of_mem _ (List.mem_append_right _ h)) hown hK hP 0 rfl rfl 14 (by decide) (hts _ (List.mem_of_getElem? (i := 2) rfl)) (fun _ h9 => h9) rfl dX10_status_34 ?_
    have hP := hP.sub (ws' := []) [] rfl
    have hD := hD.sub (ws' := []) [] rfl rfl
    exact g_iret (v := 0) hx hb hr hlocks hP hD hS (⟨by decide, rfl⟩) dX10_status_37
  · refine lv_tableIn (off := 37) (tgt := 38) hx hb dX10_status_1 (by decide) (by decide) (by decide) (by decide) ?_
    refine lv_aload_n hx hb dX10_status_38 rfl (lv_at hl 0 rfl) ?_
    refine va_get (D := G.1) (ci := 9) (v := .int 0) (C := RX10) (T := TX10) (N := 16) hx hb hts (fun _ h => List.mem_cons_of_mem _ (List.mem_append_right _ h)) hown hK hP 0 rfl rfl 15 (by decide) (hts _ (List.mem_of_getElem? (i := 3) rfl)) (fun _ h9 => h9) rfl dX10_status_39 ?_
    have hP := hP.sub (ws' := []) [] rfl
    have hD := hD.sub (ws' := []) [] rfl rfl
    exact g_iret (v := 0) hx hb hr hlocks hP hD hS (⟨by decide, rfl⟩) dX10_status_42
  · refine lv_tableOut (tgt := 43) hx hb dX10_status_1 c_out (by decide) ?_
    refine lv_aload_n hx hb dX10_status_43 rfl (lv_at hl 0 rfl) ?_
    refine g_calli (wr := []) (va_runV (As := []) (rest := []) ⟨hx, hb, hml, hown, hts⟩ (e_X10_refuseBad l G (h0) (h0H) (h0S) (h0I) (h0K) (h0Ex) (h0E) (h0D) (h0F) (h0B) (h0R) (h0G) (0) (1) (0) (0) (0) _) (cwV 0 hts gX10_status_X10_refuseBad rfl rfl rfl (by decide +kernel) ⟨Nat.le_of_ble_eq_true rfl, Nat.le_of_ble_eq_true rfl⟩) (g_preV h0 [] hP hD hK hN [0] rfl rfl 0 (ci := 9) rfl rfl) rfl rfl hl.1 rfl (lv_room (Nat.le_of_ble_eq_true rfl)) dX10_status_44 ⟨Nat.le_of_ble_eq_true rfl, Nat.le_of_ble_eq_true rfl⟩) hP hD hS hA [0] [] rfl rfl rfl (by decide) (fun r_1 u H locs hw hP hD hS => ?_)
    obtain ⟨rfl, rfl⟩ := hw
    have hP : va_P G.1 vwCl [] H := hP
    have hD : va_D A [] := hD
    refine lv_pop hx hb dX10_status_47 rfl ?_
    refine lv_iconst (v := (-1)) hx hb dX10_status_48 (by decide) ?_
    exact g_iret (v := (-1)) hx hb hr hlocks hP hD hS (⟨by simp [F_status, inB_out c_out], rfl⟩) dX10_status_49
theorem dX10_from_0 : decode cX10_from 0 = .ok (.iload_n 1, 1) := by decide +kernel
theorem dX10_from_1 : decode cX10_from 1 = .ok (.iconst 0, 1) := by decide +kernel
theorem dX10_from_2 : decode cX10_from 2 = .ok (.iconst 1, 1) := by decide +kernel
set_option maxRecDepth 20000 in
theorem ggX10_from_X10_within : GoodIn wsX10_from wsX10_within := goodIn_r _ [7] (by decide +kernel) (by decide +kernel)
set_option maxRecDepth 20000 in
theorem gX10_from_X10_within : GoodIn wsX10_from (va_wsS RX10 88 yX10_within wsX10_within) := goodIn_app (goodIn_of _ (by decide +kernel)) ggX10_from_X10_within
theorem dX10_from_3 : decode cX10_from 3 = .ok (.invokestatic 88, 3) := by decide +kernel
theorem dX10_from_6 : decode cX10_from 6 = .ok (.ifCond .ne 8, 3) := by decide +kernel
theorem dX10_from_14 : decode cX10_from 14 = .ok (.aload_n 0, 1) := by decide +kernel
theorem dX10_from_15 : decode cX10_from 15 = .ok (.getfield 23, 3) := by decide +kernel
theorem dX10_from_18 : decode cX10_from 18 = .ok (.iload_n 1, 1) := by decide +kernel
theorem dX10_from_19 : decode cX10_from 19 = .ok (.baload, 1) := by decide +kernel
theorem dX10_from_20 : decode cX10_from 20 = .ok (.ifCond .ne 8, 3) := by decide +kernel
theorem dX10_from_23 : decode cX10_from 23 = .ok (.aload_n 0, 1) := by decide +kernel
set_option maxRecDepth 20000 in
theorem ggX10_from_X10_refuseNo : GoodIn wsX10_from wsX10_refuseNo := goodIn_r _ [16, 17, 55, 56, 57, 58, 59, 60, 61, 62, 63, 64, 65, 66, 67, 68, 69, 70] (by decide +kernel) (by decide +kernel)
set_option maxRecDepth 20000 in
theorem gX10_from_X10_refuseNo : GoodIn wsX10_from (wsV RX10 156 RX10 yX10_refuseNo wsX10_refuseNo) := goodIn_app (goodIn_of _ (by decide +kernel)) ggX10_from_X10_refuseNo
theorem dX10_from_24 : decode cX10_from 24 = .ok (.invokevirtual 156, 3) := by decide +kernel
theorem dX10_from_27 : decode cX10_from 27 = .ok (.ireturn, 1) := by decide +kernel
theorem dX10_from_9 : decode cX10_from 9 = .ok (.aload_n 0, 1) := by decide +kernel
set_option maxRecDepth 20000 in
theorem ggX10_from_X10_refuseBad : GoodIn wsX10_from wsX10_refuseBad := goodIn_r _ [11, 12, 55, 56, 57, 58, 59, 60, 61, 62, 63, 64, 65, 66, 67, 68, 69, 70] (by decide +kernel) (by decide +kernel)
set_option maxRecDepth 20000 in
theorem gX10_from_X10_refuseBad : GoodIn wsX10_from (wsV RX10 92 RX10 yX10_refuseBad wsX10_refuseBad) := goodIn_app (goodIn_of _ (by decide +kernel)) ggX10_from_X10_refuseBad
theorem dX10_from_10 : decode cX10_from 10 = .ok (.invokevirtual 92, 3) := by decide +kernel
theorem dX10_from_13 : decode cX10_from 13 = .ok (.ireturn, 1) := by decide +kernel
set_option maxHeartbeats 8000000 in
set_option maxRecDepth 100000 in
theorem c_X10_from (l : Launch) (G : gG) (h0 : Nat) (h0H : Nat) (h0S : Nat) (h0I : Nat) (h0K : Nat) (h0Ex : Nat) (h0E : Nat) (h0D : Nat) (h0F : Nat) (h0B : Nat) (h0R : Nat) (h0G : Nat) (a1 : Int32) (sz : Nat) : gI G l yX10_from wsX10_from ({ frames := 1, cells := 0, slots := 0, locals := 22 } : Room) [.ref h0, .int a1] [(h0, .inr (9, [.ref h0H, .ref h0S, .ref h0I, .ref h0K, .ref h0Ex, .ref h0E, .ref h0D, .ref h0F, .ref h0B, .ref h0R, .ref h0G, .long 0, .long 1, .int 0, .int 0, .int 0])), (h0K, .inl (G.2 1, 2, .inl (fun _ => 0)))] sz (fun (r : Int32) (u : va_W) => (r = (F_from a1) ∧ u = [])) := by
  refine Met.ofW (cc := cX10_from) (maxL := 2) (ret := (some .int)) (by decide) rfl ?_
  intro p e s m args below meth c s₁ B hml hv
  obtain ⟨rfl, hsz, hP, hK, hD0, hN⟩ := hv
  have hx := B.exec
  have hb := B.bytes
  have hr := B.returns
  have hts := atoms_spec (ws := wsX10_from) B.pre
  have hown : s.vm.findClass RX10 = some m.cls := findClass_of_methodNamed B.named
  have hlocks := B.notSynchronized
  subst hsz
  have hD := hD0.self (sz := s.heap.size)
  generalize hAe : va_A [(h0, .inr (9, [.ref h0H, .ref h0S, .ref h0I, .ref h0K, .ref h0Ex, .ref h0E, .ref h0D, .ref h0F, .ref h0B, .ref h0R, .ref h0G, .long 0, .long 1, .int 0, .int 0, .int 0])), (h0K, .inl (G.2 1, 2, .inl (fun _ => 0)))] s.heap.size = A at hD ⊢
  have hA : ∀ q : Nat, s.heap.size ≤ q → A q := fun q h => by rw [← hAe]; exact Or.inr h
  have hS : va_S A s.heap s.heap [] := va_S.rf
  have hP : va_P G.1 vwCl [(h0, .inr (9, [.ref h0H, .ref h0S, .ref h0I, .ref h0K, .ref h0Ex, .ref h0E, .ref h0D, .ref h0F, .ref h0B, .ref h0R, .ref h0G, .long 0, .long 1, .int 0, .int 0, .int 0])), (h0K, .inl (G.2 1, 2, .inl (fun _ => 0)))] s.heap := hP
  have hl := lv_entry ([.ref h0, .int a1]) (n := 2) (Nat.le_of_ble_eq_true rfl)
  rw [lg_entry_eq]
  generalize (lg_sl ([.ref h0, .int a1]) ++ List.replicate (2 - (lg_sl ([.ref h0, .int a1])).length) Slot.unset).toArray = ls at hl ⊢
  have hl : lv_has ls 2 [(0, .ref h0), (1, .int a1)] := hl
  refine lv_iload_n hx hb dX10_from_0 rfl (lv_at hl 1 rfl) ?_
  refine lv_iconst (v := 0) hx hb dX10_from_1 (by decide) ?_
  refine lv_iconst (v := 1) hx hb dX10_from_2 (by decide) ?_
  refine g_calli (wr := [(h0, .inr (9, [.ref h0H, .ref h0S, .ref h0I, .ref h0K, .ref h0Ex, .ref h0E, .ref h0D, .ref h0F, .ref h0B, .ref h0R, .ref h0G, .long 0, .long 1, .int 0, .int 0, .int 0])), (h0K, .inl (G.2 1, 2, .inl (fun _ => 0)))]) (va_runS (As := [.int a1, .int 0, .int 1]) (rest := []) ⟨hx, hb, hml, hown, hts⟩ (c_X10_within l G (a1) (0) (1) _) (va_cwS 3 hts gX10_from_X10_within rfl rfl rfl (by decide +kernel) ⟨Nat.le_of_ble_eq_true rfl, Nat.le_of_ble_eq_true rfl⟩) (g_preS [.int a1, .int 0, .int 1] hP hD hK hN [] rfl rfl) rfl rfl hl.1 rfl (lv_room (Nat.le_of_ble_eq_true rfl)) dX10_from_3 ⟨Nat.le_of_ble_eq_true rfl, Nat.le_of_ble_eq_true rfl⟩) hP hD hS hA [] [0, 1] rfl rfl rfl (by decide) (fun r_1 u H locs hw hP hD hS => ?_)
  rcases hw with ⟨k_2, rfl, rfl⟩ | ⟨k_3, rfl, rfl⟩
  · have hP : va_P G.1 vwCl [(h0, .inr (9, [.ref h0H, .ref h0S, .ref h0I, .ref h0K, .ref h0Ex, .ref h0E, .ref h0D, .ref h0F, .ref h0B, .ref h0R, .ref h0G, .long 0, .long 1, .int 0, .int 0, .int 0])), (h0K, .inl (G.2 1, 2, .inl (fun _ => 0)))] H := hP
    have hD : va_D A [(h0, .inr (9, [.ref h0H, .ref h0S, .ref h0I, .ref h0K, .ref h0Ex, .ref h0E, .ref h0D, .ref h0F, .ref h0B, .ref h0R, .ref h0G, .long 0, .long 1, .int 0, .int 0, .int 0])), (h0K, .inl (G.2 1, 2, .inl (fun _ => 0)))] := hD
    refine lv_if_ne (tgt := 14) hx hb dX10_from_6 (by decide) (fun _ => ?_) (fun c_4 => g_no c_4 (by decide))
    refine lv_aload_n hx hb dX10_from_14 rfl (lv_at hl 0 rfl) ?_
    refine va_get (D := G.1) (ci := 9) (v := .ref h0K) (C := RX10) (T := TX10) (N := 16) hx hb hts (fun _ h => List.mem_cons_of_mem _ (List.mem_append_left _ (List.mem_append_left _ (List.mem_append_left _ (List.mem_append_right _ h))))) hown hK hP 0 rfl rfl 3 (by decide) (hts _ (List.mem_of_getElem? (i := 1) rfl)) (fun _ h9 => h9) rfl dX10_from_15 ?_
    refine lv_iload_n hx hb dX10_from_18 rfl (lv_at hl 1 rfl) ?_
    refine va_zald hx hb hK hP 1 1 rfl rfl (inB_in k_2 (by decide) (by decide)) dX10_from_19 ?_
    refine g_topi (y := 0) rfl ?_
    refine lv_if_ne (tgt := 28) hx hb dX10_from_20 (by decide) (fun c_5 => g_no (by decide) c_5) (fun _ => ?_)
    refine lv_aload_n hx hb dX10_from_23 rfl (lv_at hl 0 rfl) ?_
    refine g_calli (wr := [(h0K, .inl (G.2 1, 2, .inl (fun _ => 0)))]) (va_runV (As := []) (rest := []) ⟨hx, hb, hml, hown, hts⟩ (e_X10_refuseNo l G (h0) (h0H) (h0S) (h0I) (h0K) (h0Ex) (h0E) (h0D) (h0F) (h0B) (h0R) (h0G) (0) (1) (0) (0) (0) _) (cwV 0 hts gX10_from_X10_refuseNo rfl rfl rfl (by decide +kernel) ⟨Nat.le_of_ble_eq_true rfl, Nat.le_of_ble_eq_true rfl⟩) (g_preV h0 [] hP hD hK hN [0] rfl rfl 0 (ci := 9) rfl rfl) rfl rfl hl.1 rfl (lv_room (Nat.le_of_ble_eq_true rfl)) dX10_from_24 ⟨Nat.le_of_ble_eq_true rfl, Nat.le_of_ble_eq_true rfl⟩) hP hD hS hA [0] [1] rfl rfl rfl (by decide) (fun r_6 u H locs hw hP hD hS => ?_)
    obtain ⟨rfl, rfl⟩ := hw
    have hP : va_P G.1 vwCl [(h0K, .inl (G.2 1, 2, .inl (fun _ => 0)))] H := hP
    have hD : va_D A [(h0K, .inl (G.2 1, 2, .inl (fun _ => 0)))] := hD
    have hP := hP.sub (ws' := []) [] rfl
    have hD := hD.sub (ws' := []) [] rfl rfl
    exact g_iret (v := (-3)) hx hb hr hlocks hP hD hS (⟨by simp [F_from, k_2], rfl⟩) dX10_from_27
  · have hP : va_P G.1 vwCl [(h0, .inr (9, [.ref h0H, .ref h0S, .ref h0I, .ref h0K, .ref h0Ex, .ref h0E, .ref h0D, .ref h0F, .ref h0B, .ref h0R, .ref h0G, .long 0, .long 1, .int 0, .int 0, .int 0])), (h0K, .inl (G.2 1, 2, .inl (fun _ => 0)))] H := hP
    have hD : va_D A [(h0, .inr (9, [.ref h0H, .ref h0S, .ref h0I, .ref h0K, .ref h0Ex, .ref h0E, .ref h0D, .ref h0F, .ref h0B, .ref h0R, .ref h0G, .long 0, .long 1, .int 0, .int 0, .int 0])), (h0K, .inl (G.2 1, 2, .inl (fun _ => 0)))] := hD
    refine lv_if_ne (tgt := 14) hx hb dX10_from_6 (by decide) (fun c_7 => g_no (by decide) c_7) (fun _ => ?_)
    refine lv_aload_n hx hb dX10_from_9 rfl (lv_at hl 0 rfl) ?_
    refine g_calli (wr := [(h0K, .inl (G.2 1, 2, .inl (fun _ => 0)))]) (va_runV (As := []) (rest := []) ⟨hx, hb, hml, hown, hts⟩ (e_X10_refuseBad l G (h0) (h0H) (h0S) (h0I) (h0K) (h0Ex) (h0E) (h0D) (h0F) (h0B) (h0R) (h0G) (0) (1) (0) (0) (0) _) (cwV 0 hts gX10_from_X10_refuseBad rfl rfl rfl (by decide +kernel) ⟨Nat.le_of_ble_eq_true rfl, Nat.le_of_ble_eq_true rfl⟩) (g_preV h0 [] hP hD hK hN [0] rfl rfl 0 (ci := 9) rfl rfl) rfl rfl hl.1 rfl (lv_room (Nat.le_of_ble_eq_true rfl)) dX10_from_10 ⟨Nat.le_of_ble_eq_true rfl, Nat.le_of_ble_eq_true rfl⟩) hP hD hS hA [0] [1] rfl rfl rfl (by decide) (fun r_8 u H locs hw hP hD hS => ?_)
    obtain ⟨rfl, rfl⟩ := hw
    have hP : va_P G.1 vwCl [(h0K, .inl (G.2 1, 2, .inl (fun _ => 0)))] H := hP
    have hD : va_D A [(h0K, .inl (G.2 1, 2, .inl (fun _ => 0)))] := hD
    have hP := hP.sub (ws' := []) [] rfl
    have hD := hD.sub (ws' := []) [] rfl rfl
    exact g_iret (v := (-2)) hx hb hr hlocks hP hD hS (⟨by simp [F_from, k_3], rfl⟩) dX10_from_13
theorem dX10_part_0 : decode cX10_part 0 = .ok (.iload_n 1, 1) := by decide +kernel
theorem dX10_part_1 : decode cX10_part 1 = .ok (.iconst 0, 1) := by decide +kernel
theorem dX10_part_2 : decode cX10_part 2 = .ok (.iconst 1, 1) := by decide +kernel
set_option maxRecDepth 20000 in
theorem ggX10_part_X10_within : GoodIn wsX10_part wsX10_within := goodIn_r _ [6] (by decide +kernel) (by decide +kernel)
set_option maxRecDepth 20000 in
theorem gX10_part_X10_within : GoodIn wsX10_part (va_wsS RX10 88 yX10_within wsX10_within) := goodIn_app (goodIn_of _ (by decide +kernel)) ggX10_part_X10_within
theorem dX10_part_3 : decode cX10_part 3 = .ok (.invokestatic 88, 3) := by decide +kernel
theorem dX10_part_6 : decode cX10_part 6 = .ok (.ifCond .ne 9, 3) := by decide +kernel
theorem dX10_part_15 : decode cX10_part 15 = .ok (.iload_n 1, 1) := by decide +kernel
theorem dX10_part_16 : decode cX10_part 16 = .ok (.ifCond .ne 10, 3) := by decide +kernel
theorem dX10_part_26 : decode cX10_part 26 = .ok (.aload_n 0, 1) := by decide +kernel
theorem dX10_part_27 : decode cX10_part 27 = .ok (.getfield 78, 3) := by decide +kernel
theorem dX10_part_30 : decode cX10_part 30 = .ok (.lreturn, 1) := by decide +kernel
theorem dX10_part_19 : decode cX10_part 19 = .ok (.aload_n 0, 1) := by decide +kernel
theorem dX10_part_20 : decode cX10_part 20 = .ok (.getfield 74, 3) := by decide +kernel
theorem dX10_part_23 : decode cX10_part 23 = .ok (.goto 7, 3) := by decide +kernel
theorem dX10_part_9 : decode cX10_part 9 = .ok (.aload_n 0, 1) := by decide +kernel
set_option maxRecDepth 20000 in
theorem ggX10_part_X10_refuseBad : GoodIn wsX10_part wsX10_refuseBad := goodIn_r _ [10, 11, 12, 13, 14, 15, 16, 17, 18, 19, 20, 21, 22, 23, 24, 25, 26, 27] (by decide +kernel) (by decide +kernel)
set_option maxRecDepth 20000 in
theorem gX10_part_X10_refuseBad : GoodIn wsX10_part (wsV RX10 92 RX10 yX10_refuseBad wsX10_refuseBad) := goodIn_app (goodIn_of _ (by decide +kernel)) ggX10_part_X10_refuseBad
theorem dX10_part_10 : decode cX10_part 10 = .ok (.invokevirtual 92, 3) := by decide +kernel
theorem dX10_part_13 : decode cX10_part 13 = .ok (.i2l, 1) := by decide +kernel
theorem dX10_part_14 : decode cX10_part 14 = .ok (.lreturn, 1) := by decide +kernel
set_option maxHeartbeats 8000000 in
set_option maxRecDepth 100000 in
theorem c_X10_part (l : Launch) (G : gG) (h0 : Nat) (h0H : Nat) (h0S : Nat) (h0I : Nat) (h0K : Nat) (h0Ex : Nat) (h0E : Nat) (h0D : Nat) (h0F : Nat) (h0B : Nat) (h0R : Nat) (h0G : Nat) (a1 : Int32) (sz : Nat) : gL G l yX10_part wsX10_part ({ frames := 1, cells := 0, slots := 0, locals := 22 } : Room) [.ref h0, .int a1] [(h0, .inr (9, [.ref h0H, .ref h0S, .ref h0I, .ref h0K, .ref h0Ex, .ref h0E, .ref h0D, .ref h0F, .ref h0B, .ref h0R, .ref h0G, .long 0, .long 1, .int 0, .int 0, .int 0]))] sz (fun (r : Int64) (u : va_W) => (r = (F_part a1) ∧ u = [])) := by
  refine Met.ofW (cc := cX10_part) (maxL := 2) (ret := (some .long)) (by decide) rfl ?_
  intro p e s m args below meth c s₁ B hml hv
  obtain ⟨rfl, hsz, hP, hK, hD0, hN⟩ := hv
  have hx := B.exec
  have hb := B.bytes
  have hr := B.returns
  have hts := atoms_spec (ws := wsX10_part) B.pre
  have hown : s.vm.findClass RX10 = some m.cls := findClass_of_methodNamed B.named
  have hlocks := B.notSynchronized
  subst hsz
  have hD := hD0.self (sz := s.heap.size)
  generalize hAe : va_A [(h0, .inr (9, [.ref h0H, .ref h0S, .ref h0I, .ref h0K, .ref h0Ex, .ref h0E, .ref h0D, .ref h0F, .ref h0B, .ref h0R, .ref h0G, .long 0, .long 1, .int 0, .int 0, .int 0]))] s.heap.size = A at hD ⊢
  have hA : ∀ q : Nat, s.heap.size ≤ q → A q := fun q h => by rw [← hAe]; exact Or.inr h
  have hS : va_S A s.heap s.heap [] := va_S.rf
  have hP : va_P G.1 vwCl [(h0, .inr (9, [.ref h0H, .ref h0S, .ref h0I, .ref h0K, .ref h0Ex, .ref h0E, .ref h0D, .ref h0F, .ref h0B, .ref h0R, .ref h0G, .long 0, .long 1, .int 0, .int 0, .int 0]))] s.heap := hP
  have hl := lv_entry ([.ref h0, .int a1]) (n := 2) (Nat.le_of_ble_eq_true rfl)
  rw [lg_entry_eq]
  generalize (lg_sl ([.ref h0, .int a1]) ++ List.replicate (2 - (lg_sl ([.ref h0, .int a1])).length) Slot.unset).toArray = ls at hl ⊢
  have hl : lv_has ls 2 [(0, .ref h0), (1, .int a1)] := hl
  refine lv_iload_n hx hb dX10_part_0 rfl (lv_at hl 1 rfl) ?_
  refine lv_iconst (v := 0) hx hb dX10_part_1 (by decide) ?_
  refine lv_iconst (v := 1) hx hb dX10_part_2 (by decide) ?_
  refine g_calli (wr := [(h0, .inr (9, [.ref h0H, .ref h0S, .ref h0I, .ref h0K, .ref h0Ex, .ref h0E, .ref h0D, .ref h0F, .ref h0B, .ref h0R, .ref h0G, .long 0, .long 1, .int 0, .int 0, .int 0]))]) (va_runS (As := [.int a1, .int 0, .int 1]) (rest := []) ⟨hx, hb, hml, hown, hts⟩ (c_X10_within l G (a1) (0) (1) _) (va_cwS 3 hts gX10_part_X10_within rfl rfl rfl (by decide +kernel) ⟨Nat.le_of_ble_eq_true rfl, Nat.le_of_ble_eq_true rfl⟩) (g_preS [.int a1, .int 0, .int 1] hP hD hK hN [] rfl rfl) rfl rfl hl.1 rfl (lv_room (Nat.le_of_ble_eq_true rfl)) dX10_part_3 ⟨Nat.le_of_ble_eq_true rfl, Nat.le_of_ble_eq_true rfl⟩) hP hD hS hA [] [0] rfl rfl rfl (by decide) (fun r_1 u H locs hw hP hD hS => ?_)
  rcases hw with ⟨k_2, rfl, rfl⟩ | ⟨k_3, rfl, rfl⟩
  · have hP : va_P G.1 vwCl [(h0, .inr (9, [.ref h0H, .ref h0S, .ref h0I, .ref h0K, .ref h0Ex, .ref h0E, .ref h0D, .ref h0F, .ref h0B, .ref h0R, .ref h0G, .long 0, .long 1, .int 0, .int 0, .int 0]))] H := hP
    have hD : va_D A [(h0, .inr (9, [.ref h0H, .ref h0S, .ref h0I, .ref h0K, .ref h0Ex, .ref h0E, .ref h0D, .ref h0F, .ref h0B, .ref h0R, .ref h0G, .long 0, .long 1, .int 0, .int 0, .int 0]))] := hD
    refine lv_if_ne (tgt := 15) hx hb dX10_part_6 (by decide) (fun _ => ?_) (fun c_4 => g_no c_4 (by decide))
    refine lv_iload_n hx hb dX10_part_15 rfl (lv_at hl 1 rfl) ?_
    refine lv_if_ne (tgt := 26) hx hb dX10_part_16 (by decide) (fun c_5 => ?_) (fun c_5 => ?_)
    · refine lv_aload_n hx hb dX10_part_26 rfl (lv_at hl 0 rfl) ?_
      refine va_get (D := G.1) (ci := 9) (v := .long 1) (C := RX10) (T := TX10) (N := 16) hx hb hts (fun _ h => List.mem_cons_of_mem _ (List.mem_append_right _ h)) hown hK hP 0 rfl rfl 12 (by decide) (hts _ (List.mem_of_getElem? (i := 2) rfl)) (fun _ h9 => h9) rfl dX10_part_27 ?_
      have hP := hP.sub (ws' := []) [] rfl
      have hD := hD.sub (ws' := []) [] rfl rfl
      exact g_lret (v := 1) hx hb hr hlocks hP hD hS (⟨by unfold F_part; rw [k_2]; simp [c_5], rfl⟩) dX10_part_30
    · refine lv_aload_n hx hb dX10_part_19 rfl (lv_at hl 0 rfl) ?_
      refine va_get (D := G.1) (ci := 9) (v := .long 0) (C := RX10) (T := TX10) (N := 16) hx hb hts (fun _ h => List.mem_cons_of_mem _ (List.mem_append_right _ h)) hown hK hP 0 rfl rfl 11 (by decide) (hts _ (List.mem_of_getElem? (i := 1) rfl)) (fun _ h9 => h9) rfl dX10_part_20 ?_
      refine lv_goto (tgt := 30) hx hb dX10_part_23 (by decide) ?_
      have hP := hP.sub (ws' := []) [] rfl
      have hD := hD.sub (ws' := []) [] rfl rfl
      exact g_lret (v := 0) hx hb hr hlocks hP hD hS (⟨by unfold F_part; rw [k_2]; simp [c_5], rfl⟩) dX10_part_30
  · have hP : va_P G.1 vwCl [(h0, .inr (9, [.ref h0H, .ref h0S, .ref h0I, .ref h0K, .ref h0Ex, .ref h0E, .ref h0D, .ref h0F, .ref h0B, .ref h0R, .ref h0G, .long 0, .long 1, .int 0, .int 0, .int 0]))] H := hP
    have hD : va_D A [(h0, .inr (9, [.ref h0H, .ref h0S, .ref h0I, .ref h0K, .ref h0Ex, .ref h0E, .ref h0D, .ref h0F, .ref h0B, .ref h0R, .ref h0G, .long 0, .long 1, .int 0, .int 0, .int 0]))] := hD
    refine lv_if_ne (tgt := 15) hx hb dX10_part_6 (by decide) (fun c_6 => g_no (by decide) c_6) (fun _ => ?_)
    refine lv_aload_n hx hb dX10_part_9 rfl (lv_at hl 0 rfl) ?_
    refine g_calli (wr := []) (va_runV (As := []) (rest := []) ⟨hx, hb, hml, hown, hts⟩ (e_X10_refuseBad l G (h0) (h0H) (h0S) (h0I) (h0K) (h0Ex) (h0E) (h0D) (h0F) (h0B) (h0R) (h0G) (0) (1) (0) (0) (0) _) (cwV 0 hts gX10_part_X10_refuseBad rfl rfl rfl (by decide +kernel) ⟨Nat.le_of_ble_eq_true rfl, Nat.le_of_ble_eq_true rfl⟩) (g_preV h0 [] hP hD hK hN [0] rfl rfl 0 (ci := 9) rfl rfl) rfl rfl hl.1 rfl (lv_room (Nat.le_of_ble_eq_true rfl)) dX10_part_10 ⟨Nat.le_of_ble_eq_true rfl, Nat.le_of_ble_eq_true rfl⟩) hP hD hS hA [0] [] rfl rfl rfl (by decide) (fun r_7 u H locs hw hP hD hS => ?_)
    obtain ⟨rfl, rfl⟩ := hw
    have hP : va_P G.1 vwCl [] H := hP
    have hD : va_D A [] := hD
    refine lv_i2l (v := (-2)) hx hb dX10_part_13 (by decide) ?_
    exact g_lret (v := (-2)) hx hb hr hlocks hP hD hS (⟨by unfold F_part; rw [k_3]; simp, rfl⟩) dX10_part_14
theorem dX10_count_0 : decode cX10_count 0 = .ok (.iload_n 1, 1) := by decide +kernel
theorem dX10_count_1 : decode cX10_count 1 = .ok (.iconst 0, 1) := by decide +kernel
theorem dX10_count_2 : decode cX10_count 2 = .ok (.bipush 11, 2) := by decide +kernel
set_option maxRecDepth 20000 in
theorem ggX10_count_X10_within : GoodIn wsX10_count wsX10_within := goodIn_r _ [6] (by decide +kernel) (by decide +kernel)
set_option maxRecDepth 20000 in
theorem gX10_count_X10_within : GoodIn wsX10_count (va_wsS RX10 88 yX10_within wsX10_within) := goodIn_app (goodIn_of _ (by decide +kernel)) ggX10_count_X10_within
theorem dX10_count_4 : decode cX10_count 4 = .ok (.invokestatic 88, 3) := by decide +kernel
theorem dX10_count_7 : decode cX10_count 7 = .ok (.ifCond .ne 8, 3) := by decide +kernel
theorem dX10_count_15 : decode cX10_count 15 = .ok (.iload_n 1, 1) := by decide +kernel
theorem dX10_count_16 : decode cX10_count 16 = .ok (.bipush 11, 2) := by decide +kernel
theorem dX10_count_18 : decode cX10_count 18 = .ok (.if_icmp .ne 13, 3) := by decide +kernel
theorem dX10_count_31 : decode cX10_count 31 = .ok (.aload_n 0, 1) := by decide +kernel
theorem dX10_count_32 : decode cX10_count 32 = .ok (.getfield 10, 3) := by decide +kernel
theorem dX10_count_35 : decode cX10_count 35 = .ok (.iload_n 1, 1) := by decide +kernel
set_option maxRecDepth 20000 in
theorem ggX10_count_X9_howMany : GoodIn wsX10_count wsX9_howMany := goodIn_r _ [15, 16, 17, 18, 19, 20, 21, 22, 23, 24, 25, 26, 27, 28, 29, 30, 31, 54, 55, 56, 57, 58, 59, 60, 61, 62, 63, 64, 65, 66, 67, 68, 69, 70, 71, 72, 73, 74] (by decide +kernel) (by decide +kernel)
set_option maxRecDepth 20000 in
theorem gX10_count_X9_howMany_n298 : GoodIn wsX10_count (wsX9_howMany) := ggX10_count_X9_howMany
theorem dX10_count_36 : decode cX10_count 36 = .ok (.invokevirtual 298, 3) := by decide +kernel
theorem dX10_count_39 : decode cX10_count 39 = .ok (.ireturn, 1) := by decide +kernel
theorem dX10_count_21 : decode cX10_count 21 = .ok (.aload_n 0, 1) := by decide +kernel
theorem dX10_count_22 : decode cX10_count 22 = .ok (.getfield 38, 3) := by decide +kernel
theorem dX10_count_25 : decode cX10_count 25 = .ok (.getfield 117, 3) := by decide +kernel
theorem dX10_count_28 : decode cX10_count 28 = .ok (.goto 11, 3) := by decide +kernel
theorem dX10_count_10 : decode cX10_count 10 = .ok (.aload_n 0, 1) := by decide +kernel
set_option maxRecDepth 20000 in
theorem ggX10_count_X10_refuseBad : GoodIn wsX10_count wsX10_refuseBad := goodIn_r _ [10, 11, 32, 33, 34, 35, 36, 37, 38, 39, 40, 41, 42, 43, 44, 45, 46, 47] (by decide +kernel) (by decide +kernel)
set_option maxRecDepth 20000 in
theorem gX10_count_X10_refuseBad : GoodIn wsX10_count (wsV RX10 92 RX10 yX10_refuseBad wsX10_refuseBad) := goodIn_app (goodIn_of _ (by decide +kernel)) ggX10_count_X10_refuseBad
theorem dX10_count_11 : decode cX10_count 11 = .ok (.invokevirtual 92, 3) := by decide +kernel
theorem dX10_count_14 : decode cX10_count 14 = .ok (.ireturn, 1) := by decide +kernel
set_option maxHeartbeats 8000000 in
set_option maxRecDepth 100000 in
theorem c_X10_count (l : Launch) (G : gG) (h0 : Nat) (h0H : Nat) (h0S : Nat) (h0I : Nat) (h0K : Nat) (h0Ex : Nat) (h0E : Nat) (h0D : Nat) (h0F : Nat) (h0B : Nat) (h0R : Nat) (h0G : Nat) (h0Hd : Nat) (h0Hk : Nat) (h0Hr : Nat) (h0Hn : Nat) (h0He : Nat) (h0HT : Nat) (h0HP : Nat) (h0HL : Nat) (h0HN : Nat) (h0HM : Nat) (h0HTt : Nat) (h0HTa : Nat) (h0HTf : Nat) (h0HLc : Nat) (h0HNc : Nat) (h0HMc : Nat) (h0Exb : Nat) (h0Exs : Nat) (h0Exg : Nat) (h0Exv : Nat) (a1 : Int32) (sz : Nat) : gI G l yX10_count wsX10_count ({ frames := 2, cells := 0, slots := 0, locals := 45 } : Room) [.ref h0, .int a1] [(h0, .inr (9, [.ref h0H, .ref h0S, .ref h0I, .ref h0K, .ref h0Ex, .ref h0E, .ref h0D, .ref h0F, .ref h0B, .ref h0R, .ref h0G, .long 0, .long 1, .int 0, .int 0, .int 0])), (h0H, .inr (8, [.ref h0Hd, .ref h0Hk, .ref h0Hr, .ref h0Hn, .ref h0He, .ref h0HT, .ref h0HP, .ref h0HL, .ref h0HN, .ref h0HM, .int 0, .int 0, .int 0])), (h0HT, .inr (3, [.int 0, .ref h0HTt, .ref h0HTa, .ref h0HTf])), (h0HL, .inr (5, [.int 5, .int 5, .ref h0HLc, .int 0])), (h0HN, .inr (5, [.int 5, .int 6, .ref h0HNc, .int 0])), (h0HM, .inr (5, [.int 4, .int 6, .ref h0HMc, .int 0])), (h0Ex, .inr (7, [.ref h0Exb, .ref h0Exs, .ref h0Exg, .ref h0Exv, .int 0, .int 0]))] sz (fun (r : Int32) (u : va_W) => (r = (F_count a1) ∧ u = [])) := by
  refine Met.ofW (cc := cX10_count) (maxL := 2) (ret := (some .int)) (by decide) rfl ?_
  intro p e s m args below meth c s₁ B hml hv
  obtain ⟨rfl, hsz, hP, hK, hD0, hN⟩ := hv
  have hx := B.exec
  have hb := B.bytes
  have hr := B.returns
  have hts := atoms_spec (ws := wsX10_count) B.pre
  have hown : s.vm.findClass RX10 = some m.cls := findClass_of_methodNamed B.named
  have hlocks := B.notSynchronized
  subst hsz
  have hD := hD0.self (sz := s.heap.size)
  generalize hAe : va_A [(h0, .inr (9, [.ref h0H, .ref h0S, .ref h0I, .ref h0K, .ref h0Ex, .ref h0E, .ref h0D, .ref h0F, .ref h0B, .ref h0R, .ref h0G, .long 0, .long 1, .int 0, .int 0, .int 0])), (h0H, .inr (8, [.ref h0Hd, .ref h0Hk, .ref h0Hr, .ref h0Hn, .ref h0He, .ref h0HT, .ref h0HP, .ref h0HL, .ref h0HN, .ref h0HM, .int 0, .int 0, .int 0])), (h0HT, .inr (3, [.int 0, .ref h0HTt, .ref h0HTa, .ref h0HTf])), (h0HL, .inr (5, [.int 5, .int 5, .ref h0HLc, .int 0])), (h0HN, .inr (5, [.int 5, .int 6, .ref h0HNc, .int 0])), (h0HM, .inr (5, [.int 4, .int 6, .ref h0HMc, .int 0])), (h0Ex, .inr (7, [.ref h0Exb, .ref h0Exs, .ref h0Exg, .ref h0Exv, .int 0, .int 0]))] s.heap.size = A at hD ⊢
  have hA : ∀ q : Nat, s.heap.size ≤ q → A q := fun q h => by rw [← hAe]; exact Or.inr h
  have hS : va_S A s.heap s.heap [] := va_S.rf
  have hP : va_P G.1 vwCl [(h0, .inr (9, [.ref h0H, .ref h0S, .ref h0I, .ref h0K, .ref h0Ex, .ref h0E, .ref h0D, .ref h0F, .ref h0B, .ref h0R, .ref h0G, .long 0, .long 1, .int 0, .int 0, .int 0])), (h0H, .inr (8, [.ref h0Hd, .ref h0Hk, .ref h0Hr, .ref h0Hn, .ref h0He, .ref h0HT, .ref h0HP, .ref h0HL, .ref h0HN, .ref h0HM, .int 0, .int 0, .int 0])), (h0HT, .inr (3, [.int 0, .ref h0HTt, .ref h0HTa, .ref h0HTf])), (h0HL, .inr (5, [.int 5, .int 5, .ref h0HLc, .int 0])), (h0HN, .inr (5, [.int 5, .int 6, .ref h0HNc, .int 0])), (h0HM, .inr (5, [.int 4, .int 6, .ref h0HMc, .int 0])), (h0Ex, .inr (7, [.ref h0Exb, .ref h0Exs, .ref h0Exg, .ref h0Exv, .int 0, .int 0]))] s.heap := hP
  have hl := lv_entry ([.ref h0, .int a1]) (n := 2) (Nat.le_of_ble_eq_true rfl)
  rw [lg_entry_eq]
  generalize (lg_sl ([.ref h0, .int a1]) ++ List.replicate (2 - (lg_sl ([.ref h0, .int a1])).length) Slot.unset).toArray = ls at hl ⊢
  have hl : lv_has ls 2 [(0, .ref h0), (1, .int a1)] := hl
  refine lv_iload_n hx hb dX10_count_0 rfl (lv_at hl 1 rfl) ?_
  refine lv_iconst (v := 0) hx hb dX10_count_1 (by decide) ?_
  refine lv_bipush (v := 11) hx hb dX10_count_2 (by decide) ?_
  refine g_calli (wr := [(h0, .inr (9, [.ref h0H, .ref h0S, .ref h0I, .ref h0K, .ref h0Ex, .ref h0E, .ref h0D, .ref h0F, .ref h0B, .ref h0R, .ref h0G, .long 0, .long 1, .int 0, .int 0, .int 0])), (h0H, .inr (8, [.ref h0Hd, .ref h0Hk, .ref h0Hr, .ref h0Hn, .ref h0He, .ref h0HT, .ref h0HP, .ref h0HL, .ref h0HN, .ref h0HM, .int 0, .int 0, .int 0])), (h0HT, .inr (3, [.int 0, .ref h0HTt, .ref h0HTa, .ref h0HTf])), (h0HL, .inr (5, [.int 5, .int 5, .ref h0HLc, .int 0])), (h0HN, .inr (5, [.int 5, .int 6, .ref h0HNc, .int 0])), (h0HM, .inr (5, [.int 4, .int 6, .ref h0HMc, .int 0])), (h0Ex, .inr (7, [.ref h0Exb, .ref h0Exs, .ref h0Exg, .ref h0Exv, .int 0, .int 0]))]) (va_runS (As := [.int a1, .int 0, .int 11]) (rest := []) ⟨hx, hb, hml, hown, hts⟩ (c_X10_within l G (a1) (0) (11) _) (va_cwS 3 hts gX10_count_X10_within rfl rfl rfl (by decide +kernel) ⟨Nat.le_of_ble_eq_true rfl, Nat.le_of_ble_eq_true rfl⟩) (g_preS [.int a1, .int 0, .int 11] hP hD hK hN [] rfl rfl) rfl rfl hl.1 rfl (lv_room (Nat.le_of_ble_eq_true rfl)) dX10_count_4 ⟨Nat.le_of_ble_eq_true rfl, Nat.le_of_ble_eq_true rfl⟩) hP hD hS hA [] [0, 1, 2, 3, 4, 5, 6] rfl rfl rfl (by decide) (fun r_1 u H locs hw hP hD hS => ?_)
  rcases hw with ⟨k_2, rfl, rfl⟩ | ⟨k_3, rfl, rfl⟩
  · have hP : va_P G.1 vwCl [(h0, .inr (9, [.ref h0H, .ref h0S, .ref h0I, .ref h0K, .ref h0Ex, .ref h0E, .ref h0D, .ref h0F, .ref h0B, .ref h0R, .ref h0G, .long 0, .long 1, .int 0, .int 0, .int 0])), (h0H, .inr (8, [.ref h0Hd, .ref h0Hk, .ref h0Hr, .ref h0Hn, .ref h0He, .ref h0HT, .ref h0HP, .ref h0HL, .ref h0HN, .ref h0HM, .int 0, .int 0, .int 0])), (h0HT, .inr (3, [.int 0, .ref h0HTt, .ref h0HTa, .ref h0HTf])), (h0HL, .inr (5, [.int 5, .int 5, .ref h0HLc, .int 0])), (h0HN, .inr (5, [.int 5, .int 6, .ref h0HNc, .int 0])), (h0HM, .inr (5, [.int 4, .int 6, .ref h0HMc, .int 0])), (h0Ex, .inr (7, [.ref h0Exb, .ref h0Exs, .ref h0Exg, .ref h0Exv, .int 0, .int 0]))] H := hP
    have hD : va_D A [(h0, .inr (9, [.ref h0H, .ref h0S, .ref h0I, .ref h0K, .ref h0Ex, .ref h0E, .ref h0D, .ref h0F, .ref h0B, .ref h0R, .ref h0G, .long 0, .long 1, .int 0, .int 0, .int 0])), (h0H, .inr (8, [.ref h0Hd, .ref h0Hk, .ref h0Hr, .ref h0Hn, .ref h0He, .ref h0HT, .ref h0HP, .ref h0HL, .ref h0HN, .ref h0HM, .int 0, .int 0, .int 0])), (h0HT, .inr (3, [.int 0, .ref h0HTt, .ref h0HTa, .ref h0HTf])), (h0HL, .inr (5, [.int 5, .int 5, .ref h0HLc, .int 0])), (h0HN, .inr (5, [.int 5, .int 6, .ref h0HNc, .int 0])), (h0HM, .inr (5, [.int 4, .int 6, .ref h0HMc, .int 0])), (h0Ex, .inr (7, [.ref h0Exb, .ref h0Exs, .ref h0Exg, .ref h0Exv, .int 0, .int 0]))] := hD
    refine lv_if_ne (tgt := 15) hx hb dX10_count_7 (by decide) (fun _ => ?_) (fun c_4 => g_no c_4 (by decide))
    refine lv_iload_n hx hb dX10_count_15 rfl (lv_at hl 1 rfl) ?_
    refine lv_bipush (v := 11) hx hb dX10_count_16 (by decide) ?_
    refine lv_icmp_ne (tgt := 31) hx hb dX10_count_18 (by decide) (fun c_5 => ?_) (fun c_5 => ?_)
    · refine lv_aload_n hx hb dX10_count_31 rfl (lv_at hl 0 rfl) ?_
      refine va_get (D := G.1) (ci := 9) (v := .ref h0H) (C := RX10) (T := TX10) (N := 16) hx hb hts (fun _ h => List.mem_cons_of_mem _ (List.mem_append_left _ (List.mem_append_left _ (List.mem_append_left _ (List.mem_append_left _ (List.mem_append_right _ h)))))) hown hK hP 0 rfl rfl 0 (by decide) (hts _ (List.mem_of_getElem? (i := 2) rfl)) (fun _ h9 => h9) rfl dX10_count_32 ?_
      refine lv_iload_n hx hb dX10_count_35 rfl (lv_at hl 1 rfl) ?_
      refine g_calli (wr := [(h0, .inr (9, [.ref h0H, .ref h0S, .ref h0I, .ref h0K, .ref h0Ex, .ref h0E, .ref h0D, .ref h0F, .ref h0B, .ref h0R, .ref h0G, .long 0, .long 1, .int 0, .int 0, .int 0])), (h0Ex, .inr (7, [.ref h0Exb, .ref h0Exs, .ref h0Exg, .ref h0Exv, .int 0, .int 0]))]) (va_runVN (C := RX9) (As := [.int a1]) (rest := []) ⟨hx, hb, hml, hown, hts⟩ (c_X9_howMany l G (h0H) (h0Hd) (h0Hk) (h0Hr) (h0Hn) (h0He) (h0HT) (h0HP) (h0HL) (h0HN) (h0HM) (h0HTt) (h0HTa) (h0HTf) (h0HLc) (h0HNc) (h0HMc) (a1) _) (⟨va_cnB 1 hts gX10_count_X9_howMany_n298 rfl rfl rfl (nw115 hN) (hts _ (List.mem_of_getElem? (i := 13) rfl)) (by decide +kernel) ⟨Nat.le_of_ble_eq_true rfl, Nat.le_of_ble_eq_true rfl⟩, (hts _ (List.mem_of_getElem? (i := 12) rfl)), (hts _ (List.mem_of_getElem? (i := 14) rfl))⟩) (g_preV h0H [.int a1] hP hD hK hN [1, 2, 3, 4, 5] rfl rfl 1 (ci := 8) rfl rfl) rfl rfl hl.1 rfl (lv_room (Nat.le_of_ble_eq_true rfl)) dX10_count_36 ⟨Nat.le_of_ble_eq_true rfl, Nat.le_of_ble_eq_true rfl⟩) hP hD hS hA [1, 2, 3, 4, 5] [0, 6] rfl rfl rfl (by decide) (fun r_6 u H locs hw hP hD hS => ?_)
      obtain ⟨rfl, rfl⟩ := hw
      have hP : va_P G.1 vwCl [(h0, .inr (9, [.ref h0H, .ref h0S, .ref h0I, .ref h0K, .ref h0Ex, .ref h0E, .ref h0D, .ref h0F, .ref h0B, .ref h0R, .ref h0G, .long 0, .long 1, .int 0, .int 0, .int 0])), (h0Ex, .inr (7, [.ref h0Exb, .ref h0Exs, .ref h0Exg, .ref h0Exv, .int 0, .int 0])), (h0H, .inr (8, [.ref h0Hd, .ref h0Hk, .ref h0Hr, .ref h0Hn, .ref h0He, .ref h0HT, .ref h0HP, .ref h0HL, .ref h0HN, .ref h0HM, .int 0, .int 0, .int 0])), (h0HT, .inr (3, [.int 0, .ref h0HTt, .ref h0HTa, .ref h0HTf])), (h0HL, .inr (5, [.int 5, .int 5, .ref h0HLc, .int 0])), (h0HN, .inr (5, [.int 5, .int 6, .ref h0HNc, .int 0])), (h0HM, .inr (5, [.int 4, .int 6, .ref h0HMc, .int 0]))] H := hP
      have hD : va_D A [(h0, .inr (9, [.ref h0H, .ref h0S, .ref h0I, .ref h0K, .ref h0Ex, .ref h0E, .ref h0D, .ref h0F, .ref h0B, .ref h0R, .ref h0G, .long 0, .long 1, .int 0, .int 0, .int 0])), (h0Ex, .inr (7, [.ref h0Exb, .ref h0Exs, .ref h0Exg, .ref h0Exv, .int 0, .int 0])), (h0H, .inr (8, [.ref h0Hd, .ref h0Hk, .ref h0Hr, .ref h0Hn, .ref h0He, .ref h0HT, .ref h0HP, .ref h0HL, .ref h0HN, .ref h0HM, .int 0, .int 0, .int 0])), (h0HT, .inr (3, [.int 0, .ref h0HTt, .ref h0HTa, .ref h0HTf])), (h0HL, .inr (5, [.int 5, .int 5, .ref h0HLc, .int 0])), (h0HN, .inr (5, [.int 5, .int 6, .ref h0HNc, .int 0])), (h0HM, .inr (5, [.int 4, .int 6, .ref h0HMc, .int 0]))] := hD
      have hP := hP.sub (ws' := []) [] rfl
      have hD := hD.sub (ws' := []) [] rfl rfl
      exact g_iret (v := 0) hx hb hr hlocks hP hD hS (⟨by simp [F_count, k_2], rfl⟩) dX10_count_39
    · refine lv_aload_n hx hb dX10_count_21 rfl (lv_at hl 0 rfl) ?_
      refine va_get (D := G.1) (ci := 9) (v := .ref h0Ex) (C := RX10) (T := TX10) (N := 16) hx hb hts (fun _ h => List.mem_cons_of_mem _ (List.mem_append_left _ (List.mem_append_left _ (List.mem_append_left _ (List.mem_append_left _ (List.mem_append_right _ h)))))) hown hK hP 0 rfl rfl 4 (by decide) (hts _ (List.mem_of_getElem? (i := 1) rfl)) (fun _ h9 => h9) rfl dX10_count_22 ?_
      refine va_getN (D := G.1) (ci := 7) (v := .int 0) (C := RX8) (T := TX8) (N := 6) hx hb hts (fun _ h => List.mem_cons_of_mem _ (List.mem_append_left _ (List.mem_append_left _ (List.mem_append_left _ (List.mem_append_right _ h))))) hown hK hP 6 rfl rfl 4 (by decide) (va_Nw.use rfl (nw43 hN)) (fun _ h9 => h9) rfl dX10_count_25 ?_
      refine lv_goto (tgt := 39) hx hb dX10_count_28 (by decide) ?_
      have hP := hP.sub (ws' := []) [] rfl
      have hD := hD.sub (ws' := []) [] rfl rfl
      exact g_iret (v := 0) hx hb hr hlocks hP hD hS (⟨by simp [F_count, k_2], rfl⟩) dX10_count_39
  · have hP : va_P G.1 vwCl [(h0, .inr (9, [.ref h0H, .ref h0S, .ref h0I, .ref h0K, .ref h0Ex, .ref h0E, .ref h0D, .ref h0F, .ref h0B, .ref h0R, .ref h0G, .long 0, .long 1, .int 0, .int 0, .int 0])), (h0H, .inr (8, [.ref h0Hd, .ref h0Hk, .ref h0Hr, .ref h0Hn, .ref h0He, .ref h0HT, .ref h0HP, .ref h0HL, .ref h0HN, .ref h0HM, .int 0, .int 0, .int 0])), (h0HT, .inr (3, [.int 0, .ref h0HTt, .ref h0HTa, .ref h0HTf])), (h0HL, .inr (5, [.int 5, .int 5, .ref h0HLc, .int 0])), (h0HN, .inr (5, [.int 5, .int 6, .ref h0HNc, .int 0])), (h0HM, .inr (5, [.int 4, .int 6, .ref h0HMc, .int 0])), (h0Ex, .inr (7, [.ref h0Exb, .ref h0Exs, .ref h0Exg, .ref h0Exv, .int 0, .int 0]))] H := hP
    have hD : va_D A [(h0, .inr (9, [.ref h0H, .ref h0S, .ref h0I, .ref h0K, .ref h0Ex, .ref h0E, .ref h0D, .ref h0F, .ref h0B, .ref h0R, .ref h0G, .long 0, .long 1, .int 0, .int 0, .int 0])), (h0H, .inr (8, [.ref h0Hd, .ref h0Hk, .ref h0Hr, .ref h0Hn, .ref h0He, .ref h0HT, .ref h0HP, .ref h0HL, .ref h0HN, .ref h0HM, .int 0, .int 0, .int 0])), (h0HT, .inr (3, [.int 0, .ref h0HTt, .ref h0HTa, .ref h0HTf])), (h0HL, .inr (5, [.int 5, .int 5, .ref h0HLc, .int 0])), (h0HN, .inr (5, [.int 5, .int 6, .ref h0HNc, .int 0])), (h0HM, .inr (5, [.int 4, .int 6, .ref h0HMc, .int 0])), (h0Ex, .inr (7, [.ref h0Exb, .ref h0Exs, .ref h0Exg, .ref h0Exv, .int 0, .int 0]))] := hD
    refine lv_if_ne (tgt := 15) hx hb dX10_count_7 (by decide) (fun c_7 => g_no (by decide) c_7) (fun _ => ?_)
    refine lv_aload_n hx hb dX10_count_10 rfl (lv_at hl 0 rfl) ?_
    refine g_calli (wr := [(h0H, .inr (8, [.ref h0Hd, .ref h0Hk, .ref h0Hr, .ref h0Hn, .ref h0He, .ref h0HT, .ref h0HP, .ref h0HL, .ref h0HN, .ref h0HM, .int 0, .int 0, .int 0])), (h0HT, .inr (3, [.int 0, .ref h0HTt, .ref h0HTa, .ref h0HTf])), (h0HL, .inr (5, [.int 5, .int 5, .ref h0HLc, .int 0])), (h0HN, .inr (5, [.int 5, .int 6, .ref h0HNc, .int 0])), (h0HM, .inr (5, [.int 4, .int 6, .ref h0HMc, .int 0])), (h0Ex, .inr (7, [.ref h0Exb, .ref h0Exs, .ref h0Exg, .ref h0Exv, .int 0, .int 0]))]) (va_runV (As := []) (rest := []) ⟨hx, hb, hml, hown, hts⟩ (e_X10_refuseBad l G (h0) (h0H) (h0S) (h0I) (h0K) (h0Ex) (h0E) (h0D) (h0F) (h0B) (h0R) (h0G) (0) (1) (0) (0) (0) _) (cwV 0 hts gX10_count_X10_refuseBad rfl rfl rfl (by decide +kernel) ⟨Nat.le_of_ble_eq_true rfl, Nat.le_of_ble_eq_true rfl⟩) (g_preV h0 [] hP hD hK hN [0] rfl rfl 0 (ci := 9) rfl rfl) rfl rfl hl.1 rfl (lv_room (Nat.le_of_ble_eq_true rfl)) dX10_count_11 ⟨Nat.le_of_ble_eq_true rfl, Nat.le_of_ble_eq_true rfl⟩) hP hD hS hA [0] [1, 2, 3, 4, 5, 6] rfl rfl rfl (by decide) (fun r_8 u H locs hw hP hD hS => ?_)
    obtain ⟨rfl, rfl⟩ := hw
    have hP : va_P G.1 vwCl [(h0H, .inr (8, [.ref h0Hd, .ref h0Hk, .ref h0Hr, .ref h0Hn, .ref h0He, .ref h0HT, .ref h0HP, .ref h0HL, .ref h0HN, .ref h0HM, .int 0, .int 0, .int 0])), (h0HT, .inr (3, [.int 0, .ref h0HTt, .ref h0HTa, .ref h0HTf])), (h0HL, .inr (5, [.int 5, .int 5, .ref h0HLc, .int 0])), (h0HN, .inr (5, [.int 5, .int 6, .ref h0HNc, .int 0])), (h0HM, .inr (5, [.int 4, .int 6, .ref h0HMc, .int 0])), (h0Ex, .inr (7, [.ref h0Exb, .ref h0Exs, .ref h0Exg, .ref h0Exv, .int 0, .int 0]))] H := hP
    have hD : va_D A [(h0H, .inr (8, [.ref h0Hd, .ref h0Hk, .ref h0Hr, .ref h0Hn, .ref h0He, .ref h0HT, .ref h0HP, .ref h0HL, .ref h0HN, .ref h0HM, .int 0, .int 0, .int 0])), (h0HT, .inr (3, [.int 0, .ref h0HTt, .ref h0HTa, .ref h0HTf])), (h0HL, .inr (5, [.int 5, .int 5, .ref h0HLc, .int 0])), (h0HN, .inr (5, [.int 5, .int 6, .ref h0HNc, .int 0])), (h0HM, .inr (5, [.int 4, .int 6, .ref h0HMc, .int 0])), (h0Ex, .inr (7, [.ref h0Exb, .ref h0Exs, .ref h0Exg, .ref h0Exv, .int 0, .int 0]))] := hD
    have hP := hP.sub (ws' := []) [] rfl
    have hD := hD.sub (ws' := []) [] rfl rfl
    exact g_iret (v := (-2)) hx hb hr hlocks hP hD hS (⟨by simp [F_count, k_3], rfl⟩) dX10_count_14
theorem dX10_wasps_0 : decode cX10_wasps 0 = .ok (.iload_n 1, 1) := by decide +kernel
theorem dX10_wasps_1 : decode cX10_wasps 1 = .ok (.iconst 0, 1) := by decide +kernel
theorem dX10_wasps_2 : decode cX10_wasps 2 = .ok (.bipush 10, 2) := by decide +kernel
set_option maxRecDepth 20000 in
theorem ggX10_wasps_X10_within : GoodIn wsX10_wasps wsX10_within := goodIn_r _ [8] (by decide +kernel) (by decide +kernel)
set_option maxRecDepth 20000 in
theorem gX10_wasps_X10_within : GoodIn wsX10_wasps (va_wsS RX10 88 yX10_within wsX10_within) := goodIn_app (goodIn_of _ (by decide +kernel)) ggX10_wasps_X10_within
theorem dX10_wasps_4 : decode cX10_wasps 4 = .ok (.invokestatic 88, 3) := by decide +kernel
theorem dX10_wasps_7 : decode cX10_wasps 7 = .ok (.ifCond .ne 8, 3) := by decide +kernel
theorem dX10_wasps_15 : decode cX10_wasps 15 = .ok (.lconst 0, 1) := by decide +kernel
theorem dX10_wasps_16 : decode cX10_wasps 16 = .ok (.lstore_n 2, 1) := by decide +kernel
theorem dX10_wasps_17 : decode cX10_wasps 17 = .ok (.iconst 0, 1) := by decide +kernel
theorem dX10_wasps_18 : decode cX10_wasps 18 = .ok (.istore 4, 2) := by decide +kernel
theorem dX10_wasps_20 : decode cX10_wasps 20 = .ok (.iload 4, 2) := by decide +kernel
theorem dX10_wasps_22 : decode cX10_wasps 22 = .ok (.aload_n 0, 1) := by decide +kernel
theorem dX10_wasps_23 : decode cX10_wasps 23 = .ok (.getfield 10, 3) := by decide +kernel
theorem dX10_wasps_26 : decode cX10_wasps 26 = .ok (.getfield 81, 3) := by decide +kernel
theorem dX10_wasps_29 : decode cX10_wasps 29 = .ok (.if_icmp .ge 35, 3) := by decide +kernel
theorem dX10_wasps_64 : decode cX10_wasps 64 = .ok (.lload_n 2, 1) := by decide +kernel
theorem dX10_wasps_65 : decode cX10_wasps 65 = .ok (.ldc2_w 259, 3) := by decide +kernel
set_option maxRecDepth 20000 in
theorem ggX10_wasps_X10_commonDivisor : GoodIn wsX10_wasps wsX10_commonDivisor := goodIn_r _ [48, 49, 50, 41, 51] (by decide +kernel) (by decide +kernel)
set_option maxRecDepth 20000 in
theorem gX10_wasps_X10_commonDivisor : GoodIn wsX10_wasps (va_wsS RX10 261 yX10_commonDivisor wsX10_commonDivisor) := goodIn_app (goodIn_of _ (by decide +kernel)) ggX10_wasps_X10_commonDivisor
theorem dX10_wasps_68 : decode cX10_wasps 68 = .ok (.invokestatic 261, 3) := by decide +kernel
theorem dX10_wasps_71 : decode cX10_wasps 71 = .ok (.lstore 4, 2) := by decide +kernel
theorem dX10_wasps_73 : decode cX10_wasps 73 = .ok (.aload_n 0, 1) := by decide +kernel
theorem dX10_wasps_74 : decode cX10_wasps 74 = .ok (.lload_n 2, 1) := by decide +kernel
theorem dX10_wasps_75 : decode cX10_wasps 75 = .ok (.lload 4, 2) := by decide +kernel
theorem dX10_wasps_77 : decode cX10_wasps 77 = .ok (.ldiv, 1) := by decide +kernel
theorem dX10_wasps_78 : decode cX10_wasps 78 = .ok (.putfield 74, 3) := by decide +kernel
theorem dX10_wasps_81 : decode cX10_wasps 81 = .ok (.aload_n 0, 1) := by decide +kernel
theorem dX10_wasps_82 : decode cX10_wasps 82 = .ok (.ldc2_w 259, 3) := by decide +kernel
theorem dX10_wasps_85 : decode cX10_wasps 85 = .ok (.lload 4, 2) := by decide +kernel
theorem dX10_wasps_87 : decode cX10_wasps 87 = .ok (.ldiv, 1) := by decide +kernel
theorem dX10_wasps_88 : decode cX10_wasps 88 = .ok (.putfield 78, 3) := by decide +kernel
theorem dX10_wasps_91 : decode cX10_wasps 91 = .ok (.iconst 1, 1) := by decide +kernel
theorem dX10_wasps_92 : decode cX10_wasps 92 = .ok (.ireturn, 1) := by decide +kernel
theorem dX10_wasps_10 : decode cX10_wasps 10 = .ok (.aload_n 0, 1) := by decide +kernel
set_option maxRecDepth 20000 in
theorem ggX10_wasps_X10_refuseBad : GoodIn wsX10_wasps wsX10_refuseBad := goodIn_r _ [12, 13, 52, 53, 54, 55, 56, 57, 58, 59, 60, 61, 62, 63, 64, 65, 66, 67] (by decide +kernel) (by decide +kernel)
set_option maxRecDepth 20000 in
theorem gX10_wasps_X10_refuseBad : GoodIn wsX10_wasps (wsV RX10 92 RX10 yX10_refuseBad wsX10_refuseBad) := goodIn_app (goodIn_of _ (by decide +kernel)) ggX10_wasps_X10_refuseBad
theorem dX10_wasps_11 : decode cX10_wasps 11 = .ok (.invokevirtual 92, 3) := by decide +kernel
theorem dX10_wasps_14 : decode cX10_wasps 14 = .ok (.ireturn, 1) := by decide +kernel
set_option maxHeartbeats 8000000 in
set_option maxRecDepth 100000 in
theorem c_X10_wasps (l : Launch) (G : gG) (h0 : Nat) (h0H : Nat) (h0S : Nat) (h0I : Nat) (h0K : Nat) (h0Ex : Nat) (h0E : Nat) (h0D : Nat) (h0F : Nat) (h0B : Nat) (h0R : Nat) (h0G : Nat) (h0Hd : Nat) (h0Hk : Nat) (h0Hr : Nat) (h0Hn : Nat) (h0He : Nat) (h0HT : Nat) (h0HP : Nat) (h0HL : Nat) (h0HN : Nat) (h0HM : Nat) (a1 : Int32) (sz : Nat) : gI G l yX10_wasps wsX10_wasps ({ frames := 2, cells := 0, slots := 0, locals := 45 } : Room) [.ref h0, .int a1] [(h0, .inr (9, [.ref h0H, .ref h0S, .ref h0I, .ref h0K, .ref h0Ex, .ref h0E, .ref h0D, .ref h0F, .ref h0B, .ref h0R, .ref h0G, .long 0, .long 1, .int 0, .int 0, .int 0])), (h0H, .inr (8, [.ref h0Hd, .ref h0Hk, .ref h0Hr, .ref h0Hn, .ref h0He, .ref h0HT, .ref h0HP, .ref h0HL, .ref h0HN, .ref h0HM, .int 0, .int 0, .int 0]))] sz (fun (r : Int32) (u : va_W) => (r = (F_wasps a1) ∧ u = [])) := by
  refine Met.ofW (cc := cX10_wasps) (maxL := 6) (ret := (some .int)) (by decide) rfl ?_
  intro p e s m args below meth c s₁ B hml hv
  obtain ⟨rfl, hsz, hP, hK, hD0, hN⟩ := hv
  have hx := B.exec
  have hb := B.bytes
  have hr := B.returns
  have hts := atoms_spec (ws := wsX10_wasps) B.pre
  have hown : s.vm.findClass RX10 = some m.cls := findClass_of_methodNamed B.named
  have hlocks := B.notSynchronized
  subst hsz
  have hD := hD0.self (sz := s.heap.size)
  generalize hAe : va_A [(h0, .inr (9, [.ref h0H, .ref h0S, .ref h0I, .ref h0K, .ref h0Ex, .ref h0E, .ref h0D, .ref h0F, .ref h0B, .ref h0R, .ref h0G, .long 0, .long 1, .int 0, .int 0, .int 0])), (h0H, .inr (8, [.ref h0Hd, .ref h0Hk, .ref h0Hr, .ref h0Hn, .ref h0He, .ref h0HT, .ref h0HP, .ref h0HL, .ref h0HN, .ref h0HM, .int 0, .int 0, .int 0]))] s.heap.size = A at hD ⊢
  have hA : ∀ q : Nat, s.heap.size ≤ q → A q := fun q h => by rw [← hAe]; exact Or.inr h
  have hS : va_S A s.heap s.heap [] := va_S.rf
  have hP : va_P G.1 vwCl [(h0, .inr (9, [.ref h0H, .ref h0S, .ref h0I, .ref h0K, .ref h0Ex, .ref h0E, .ref h0D, .ref h0F, .ref h0B, .ref h0R, .ref h0G, .long 0, .long 1, .int 0, .int 0, .int 0])), (h0H, .inr (8, [.ref h0Hd, .ref h0Hk, .ref h0Hr, .ref h0Hn, .ref h0He, .ref h0HT, .ref h0HP, .ref h0HL, .ref h0HN, .ref h0HM, .int 0, .int 0, .int 0]))] s.heap := hP
  have hl := lv_entry ([.ref h0, .int a1]) (n := 6) (Nat.le_of_ble_eq_true rfl)
  rw [lg_entry_eq]
  generalize (lg_sl ([.ref h0, .int a1]) ++ List.replicate (6 - (lg_sl ([.ref h0, .int a1])).length) Slot.unset).toArray = ls at hl ⊢
  have hl : lv_has ls 6 [(0, .ref h0), (1, .int a1)] := hl
  refine lv_iload_n hx hb dX10_wasps_0 rfl (lv_at hl 1 rfl) ?_
  refine lv_iconst (v := 0) hx hb dX10_wasps_1 (by decide) ?_
  refine lv_bipush (v := 10) hx hb dX10_wasps_2 (by decide) ?_
  refine g_calli (wr := [(h0, .inr (9, [.ref h0H, .ref h0S, .ref h0I, .ref h0K, .ref h0Ex, .ref h0E, .ref h0D, .ref h0F, .ref h0B, .ref h0R, .ref h0G, .long 0, .long 1, .int 0, .int 0, .int 0])), (h0H, .inr (8, [.ref h0Hd, .ref h0Hk, .ref h0Hr, .ref h0Hn, .ref h0He, .ref h0HT, .ref h0HP, .ref h0HL, .ref h0HN, .ref h0HM, .int 0, .int 0, .int 0]))]) (va_runS (As := [.int a1, .int 0, .int 10]) (rest := []) ⟨hx, hb, hml, hown, hts⟩ (c_X10_within l G (a1) (0) (10) _) (va_cwS 3 hts gX10_wasps_X10_within rfl rfl rfl (by decide +kernel) ⟨Nat.le_of_ble_eq_true rfl, Nat.le_of_ble_eq_true rfl⟩) (g_preS [.int a1, .int 0, .int 10] hP hD hK hN [] rfl rfl) rfl rfl hl.1 rfl (lv_room (Nat.le_of_ble_eq_true rfl)) dX10_wasps_4 ⟨Nat.le_of_ble_eq_true rfl, Nat.le_of_ble_eq_true rfl⟩) hP hD hS hA [] [0, 1] rfl rfl rfl (by decide) (fun r_1 u H locs hw hP hD hS => ?_)
  rcases hw with ⟨k_2, rfl, rfl⟩ | ⟨k_3, rfl, rfl⟩
  · have hP : va_P G.1 vwCl [(h0, .inr (9, [.ref h0H, .ref h0S, .ref h0I, .ref h0K, .ref h0Ex, .ref h0E, .ref h0D, .ref h0F, .ref h0B, .ref h0R, .ref h0G, .long 0, .long 1, .int 0, .int 0, .int 0])), (h0H, .inr (8, [.ref h0Hd, .ref h0Hk, .ref h0Hr, .ref h0Hn, .ref h0He, .ref h0HT, .ref h0HP, .ref h0HL, .ref h0HN, .ref h0HM, .int 0, .int 0, .int 0]))] H := hP
    have hD : va_D A [(h0, .inr (9, [.ref h0H, .ref h0S, .ref h0I, .ref h0K, .ref h0Ex, .ref h0E, .ref h0D, .ref h0F, .ref h0B, .ref h0R, .ref h0G, .long 0, .long 1, .int 0, .int 0, .int 0])), (h0H, .inr (8, [.ref h0Hd, .ref h0Hk, .ref h0Hr, .ref h0Hn, .ref h0He, .ref h0HT, .ref h0HP, .ref h0HL, .ref h0HN, .ref h0HM, .int 0, .int 0, .int 0]))] := hD
    refine lv_if_ne (tgt := 15) hx hb dX10_wasps_7 (by decide) (fun _ => ?_) (fun c_4 => g_no c_4 (by decide))
    refine lv_lconst (v := 0) hx hb dX10_wasps_15 (by decide) ?_
    refine lv_lstore_n (lv' := [(2, .long 0), (0, .ref h0), (1, .int a1)]) hx hb dX10_wasps_16 rfl hl (by decide) rfl (fun ls hl => ?_)
    refine lv_iconst (v := 0) hx hb dX10_wasps_17 (by decide) ?_
    refine lv_istore (lv' := [(4, .int 0), (2, .long 0), (0, .ref h0), (1, .int a1)]) hx hb dX10_wasps_18 hl (by decide) rfl (fun ls hl => ?_)
    refine lv_iload hx hb dX10_wasps_20 (lv_at hl 0 rfl) ?_
    refine lv_aload_n hx hb dX10_wasps_22 rfl (lv_at hl 2 rfl) ?_
    refine va_get (D := G.1) (ci := 9) (v := .ref h0H) (C := RX10) (T := TX10) (N := 16) hx hb hts (fun _ h => List.mem_cons_of_mem _ (List.mem_append_left _ (List.mem_append_left _ (List.mem_append_right _ h)))) hown hK hP 0 rfl rfl 0 (by decide) (hts _ (List.mem_of_getElem? (i := 1) rfl)) (fun _ h9 => h9) rfl dX10_wasps_23 ?_
    refine va_getN (D := G.1) (ci := 8) (v := .int 0) (C := RX9) (T := TX9) (N := 13) hx hb hts (fun _ h => List.mem_cons_of_mem _ (List.mem_append_left _ (List.mem_append_right _ h))) hown hK hP 1 rfl rfl 10 (by decide) (va_Nw.use rfl (nw30 hN)) (fun _ h9 => h9) rfl dX10_wasps_26 ?_
    refine lv_icmp_ge (tgt := 64) hx hb dX10_wasps_29 (by decide) (fun _ => ?_) (fun c_5 => g_no (by decide) c_5)
    refine lv_lload_n hx hb dX10_wasps_64 rfl (lv_at hl 1 rfl) ?_
    refine lv_ldc2 (v := 10) hx hb hown (hts _ (List.mem_of_getElem? (i := 2) rfl)) dX10_wasps_65 ?_
    refine g_calll (wr := [(h0, .inr (9, [.ref h0H, .ref h0S, .ref h0I, .ref h0K, .ref h0Ex, .ref h0E, .ref h0D, .ref h0F, .ref h0B, .ref h0R, .ref h0G, .long 0, .long 1, .int 0, .int 0, .int 0])), (h0H, .inr (8, [.ref h0Hd, .ref h0Hk, .ref h0Hr, .ref h0Hn, .ref h0He, .ref h0HT, .ref h0HP, .ref h0HL, .ref h0HN, .ref h0HM, .int 0, .int 0, .int 0]))]) (va_runS (As := [.long 0, .long 10]) (rest := []) ⟨hx, hb, hml, hown, hts⟩ (c_X10_commonDivisor l G _) (va_cwS 2 hts gX10_wasps_X10_commonDivisor rfl rfl rfl (by decide +kernel) ⟨Nat.le_of_ble_eq_true rfl, Nat.le_of_ble_eq_true rfl⟩) (g_preS [.long 0, .long 10] hP hD hK hN [] rfl rfl) rfl rfl hl.1 rfl (lv_room (Nat.le_of_ble_eq_true rfl)) dX10_wasps_68 ⟨Nat.le_of_ble_eq_true rfl, Nat.le_of_ble_eq_true rfl⟩) hP hD hS hA [] [0, 1] rfl rfl rfl (by decide) (fun r_6 u H locs hw hP hD hS => ?_)
    obtain ⟨rfl, rfl⟩ := hw
    have hP : va_P G.1 vwCl [(h0, .inr (9, [.ref h0H, .ref h0S, .ref h0I, .ref h0K, .ref h0Ex, .ref h0E, .ref h0D, .ref h0F, .ref h0B, .ref h0R, .ref h0G, .long 0, .long 1, .int 0, .int 0, .int 0])), (h0H, .inr (8, [.ref h0Hd, .ref h0Hk, .ref h0Hr, .ref h0Hn, .ref h0He, .ref h0HT, .ref h0HP, .ref h0HL, .ref h0HN, .ref h0HM, .int 0, .int 0, .int 0]))] H := hP
    have hD : va_D A [(h0, .inr (9, [.ref h0H, .ref h0S, .ref h0I, .ref h0K, .ref h0Ex, .ref h0E, .ref h0D, .ref h0F, .ref h0B, .ref h0R, .ref h0G, .long 0, .long 1, .int 0, .int 0, .int 0])), (h0H, .inr (8, [.ref h0Hd, .ref h0Hk, .ref h0Hr, .ref h0Hn, .ref h0He, .ref h0HT, .ref h0HP, .ref h0HL, .ref h0HN, .ref h0HM, .int 0, .int 0, .int 0]))] := hD
    refine lv_lstore (lv' := [(4, .long 10), (2, .long 0), (0, .ref h0), (1, .int a1)]) hx hb dX10_wasps_71 hl (by decide) rfl (fun ls hl => ?_)
    refine lv_aload_n hx hb dX10_wasps_73 rfl (lv_at hl 2 rfl) ?_
    refine lv_lload_n hx hb dX10_wasps_74 rfl (lv_at hl 1 rfl) ?_
    refine lv_lload hx hb dX10_wasps_75 (lv_at hl 0 rfl) ?_
    refine lv_ldiv hx hb dX10_wasps_77 (by decide) ?_
    refine g_topl (y := 0) (by decide) ?_
    refine va_put (D := G.1) (ci := 9) (v := .long 0) (ty := .long) (C := RX10) (T := TX10) (N := 16) hx hb hts (fun _ h => List.mem_cons_of_mem _ (List.mem_append_left _ (List.mem_append_left _ (List.mem_append_right _ h)))) tyX10 tyX10_ok nmX10 hown hK hP hD hS 0 rfl rfl 11 (by decide) (hts _ (List.mem_of_getElem? (i := 3) rfl)) (fun _ h9 => h9) rfl (by decide +kernel) rfl rfl (Nat.le_of_ble_eq_true rfl) dX10_wasps_78 (fun H locs hP hD hS => ?_)
    have hP : va_P G.1 vwCl [(h0, .inr (9, [.ref h0H, .ref h0S, .ref h0I, .ref h0K, .ref h0Ex, .ref h0E, .ref h0D, .ref h0F, .ref h0B, .ref h0R, .ref h0G, .long 0, .long 1, .int 0, .int 0, .int 0])), (h0H, .inr (8, [.ref h0Hd, .ref h0Hk, .ref h0Hr, .ref h0Hn, .ref h0He, .ref h0HT, .ref h0HP, .ref h0HL, .ref h0HN, .ref h0HM, .int 0, .int 0, .int 0]))] H := hP
    have hD : va_D A [(h0, .inr (9, [.ref h0H, .ref h0S, .ref h0I, .ref h0K, .ref h0Ex, .ref h0E, .ref h0D, .ref h0F, .ref h0B, .ref h0R, .ref h0G, .long 0, .long 1, .int 0, .int 0, .int 0])), (h0H, .inr (8, [.ref h0Hd, .ref h0Hk, .ref h0Hr, .ref h0Hn, .ref h0He, .ref h0HT, .ref h0HP, .ref h0HL, .ref h0HN, .ref h0HM, .int 0, .int 0, .int 0]))] := hD
    refine lv_aload_n hx hb dX10_wasps_81 rfl (lv_at hl 2 rfl) ?_
    refine lv_ldc2 (v := 10) hx hb hown (hts _ (List.mem_of_getElem? (i := 2) rfl)) dX10_wasps_82 ?_
    refine lv_lload hx hb dX10_wasps_85 (lv_at hl 0 rfl) ?_
    refine lv_ldiv hx hb dX10_wasps_87 (by decide) ?_
    refine g_topl (y := 1) (by decide) ?_
    refine va_put (D := G.1) (ci := 9) (v := .long 1) (ty := .long) (C := RX10) (T := TX10) (N := 16) hx hb hts (fun _ h => List.mem_cons_of_mem _ (List.mem_append_left _ (List.mem_append_left _ (List.mem_append_right _ h)))) tyX10 tyX10_ok nmX10 hown hK hP hD hS 0 rfl rfl 12 (by decide) (hts _ (List.mem_of_getElem? (i := 4) rfl)) (fun _ h9 => h9) rfl (by decide +kernel) rfl rfl (Nat.le_of_ble_eq_true rfl) dX10_wasps_88 (fun H locs hP hD hS => ?_)
    have hP : va_P G.1 vwCl [(h0, .inr (9, [.ref h0H, .ref h0S, .ref h0I, .ref h0K, .ref h0Ex, .ref h0E, .ref h0D, .ref h0F, .ref h0B, .ref h0R, .ref h0G, .long 0, .long 1, .int 0, .int 0, .int 0])), (h0H, .inr (8, [.ref h0Hd, .ref h0Hk, .ref h0Hr, .ref h0Hn, .ref h0He, .ref h0HT, .ref h0HP, .ref h0HL, .ref h0HN, .ref h0HM, .int 0, .int 0, .int 0]))] H := hP
    have hD : va_D A [(h0, .inr (9, [.ref h0H, .ref h0S, .ref h0I, .ref h0K, .ref h0Ex, .ref h0E, .ref h0D, .ref h0F, .ref h0B, .ref h0R, .ref h0G, .long 0, .long 1, .int 0, .int 0, .int 0])), (h0H, .inr (8, [.ref h0Hd, .ref h0Hk, .ref h0Hr, .ref h0Hn, .ref h0He, .ref h0HT, .ref h0HP, .ref h0HL, .ref h0HN, .ref h0HM, .int 0, .int 0, .int 0]))] := hD
    refine lv_iconst (v := 1) hx hb dX10_wasps_91 (by decide) ?_
    have hP := hP.sub (ws' := []) [] rfl
    have hD := hD.sub (ws' := []) [] rfl rfl
    exact g_iret (v := 1) hx hb hr hlocks hP hD hS (⟨by simp [F_wasps, k_2], rfl⟩) dX10_wasps_92
  · have hP : va_P G.1 vwCl [(h0, .inr (9, [.ref h0H, .ref h0S, .ref h0I, .ref h0K, .ref h0Ex, .ref h0E, .ref h0D, .ref h0F, .ref h0B, .ref h0R, .ref h0G, .long 0, .long 1, .int 0, .int 0, .int 0])), (h0H, .inr (8, [.ref h0Hd, .ref h0Hk, .ref h0Hr, .ref h0Hn, .ref h0He, .ref h0HT, .ref h0HP, .ref h0HL, .ref h0HN, .ref h0HM, .int 0, .int 0, .int 0]))] H := hP
    have hD : va_D A [(h0, .inr (9, [.ref h0H, .ref h0S, .ref h0I, .ref h0K, .ref h0Ex, .ref h0E, .ref h0D, .ref h0F, .ref h0B, .ref h0R, .ref h0G, .long 0, .long 1, .int 0, .int 0, .int 0])), (h0H, .inr (8, [.ref h0Hd, .ref h0Hk, .ref h0Hr, .ref h0Hn, .ref h0He, .ref h0HT, .ref h0HP, .ref h0HL, .ref h0HN, .ref h0HM, .int 0, .int 0, .int 0]))] := hD
    refine lv_if_ne (tgt := 15) hx hb dX10_wasps_7 (by decide) (fun c_7 => g_no (by decide) c_7) (fun _ => ?_)
    refine lv_aload_n hx hb dX10_wasps_10 rfl (lv_at hl 0 rfl) ?_
    refine g_calli (wr := [(h0H, .inr (8, [.ref h0Hd, .ref h0Hk, .ref h0Hr, .ref h0Hn, .ref h0He, .ref h0HT, .ref h0HP, .ref h0HL, .ref h0HN, .ref h0HM, .int 0, .int 0, .int 0]))]) (va_runV (As := []) (rest := []) ⟨hx, hb, hml, hown, hts⟩ (e_X10_refuseBad l G (h0) (h0H) (h0S) (h0I) (h0K) (h0Ex) (h0E) (h0D) (h0F) (h0B) (h0R) (h0G) (0) (1) (0) (0) (0) _) (cwV 0 hts gX10_wasps_X10_refuseBad rfl rfl rfl (by decide +kernel) ⟨Nat.le_of_ble_eq_true rfl, Nat.le_of_ble_eq_true rfl⟩) (g_preV h0 [] hP hD hK hN [0] rfl rfl 0 (ci := 9) rfl rfl) rfl rfl hl.1 rfl (lv_room (Nat.le_of_ble_eq_true rfl)) dX10_wasps_11 ⟨Nat.le_of_ble_eq_true rfl, Nat.le_of_ble_eq_true rfl⟩) hP hD hS hA [0] [1] rfl rfl rfl (by decide) (fun r_8 u H locs hw hP hD hS => ?_)
    obtain ⟨rfl, rfl⟩ := hw
    have hP : va_P G.1 vwCl [(h0H, .inr (8, [.ref h0Hd, .ref h0Hk, .ref h0Hr, .ref h0Hn, .ref h0He, .ref h0HT, .ref h0HP, .ref h0HL, .ref h0HN, .ref h0HM, .int 0, .int 0, .int 0]))] H := hP
    have hD : va_D A [(h0H, .inr (8, [.ref h0Hd, .ref h0Hk, .ref h0Hr, .ref h0Hn, .ref h0He, .ref h0HT, .ref h0HP, .ref h0HL, .ref h0HN, .ref h0HM, .int 0, .int 0, .int 0]))] := hD
    have hP := hP.sub (ws' := []) [] rfl
    have hD := hD.sub (ws' := []) [] rfl rfl
    exact g_iret (v := (-2)) hx hb hr hlocks hP hD hS (⟨by simp [F_wasps, k_3], rfl⟩) dX10_wasps_14
