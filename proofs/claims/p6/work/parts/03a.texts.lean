theorem dJ3_checkIndex_8e157_0 : decode cJ3_checkIndex_8e157 0 = .ok (.iload_n 0, 1) := kd_26 (by decide +kernel)
theorem dJ3_checkIndex_8e157_1 : decode cJ3_checkIndex_8e157 1 = .ok (.ifCond .lt 8, 3) := kd_155 (a := 0) (b := 8) (by decide +kernel)
theorem dJ3_checkIndex_8e157_4 : decode cJ3_checkIndex_8e157 4 = .ok (.iload_n 0, 1) := kd_26 (by decide +kernel)
theorem dJ3_checkIndex_8e157_5 : decode cJ3_checkIndex_8e157 5 = .ok (.iload_n 1, 1) := kd_27 (by decide +kernel)
theorem dJ3_checkIndex_8e157_6 : decode cJ3_checkIndex_8e157 6 = .ok (.if_icmp .lt 10, 3) := kd_161 (a := 0) (b := 10) (by decide +kernel)
theorem dJ3_checkIndex_8e157_16 : decode cJ3_checkIndex_8e157 16 = .ok (.iload_n 0, 1) := kd_26 (by decide +kernel)
theorem dJ3_checkIndex_8e157_17 : decode cJ3_checkIndex_8e157 17 = .ok (.ireturn, 1) := kd_172 (by decide +kernel)
set_option maxHeartbeats 8000000 in
set_option maxRecDepth 100000 in
theorem c_J3_checkIndex_8e157 (l : Launch) (G : gG) (k0 : Int) (n0 : Int) (q0 : Nat) (rk0 : -2147483648 ≤ k0 ∧ k0 ≤ 2147483647) (rn0 : -2147483648 ≤ n0 ∧ n0 ≤ 2147483647) (h1 : 0 ≤ k0) (h2 : k0 < n0) (sz : Nat) : gI G l yJ3_checkIndex_8e157 wsJ3_checkIndex_8e157 ({ frames := 0, cells := 0, slots := 0, locals := 0 } : Room) [.int (iI k0), .int (iI n0), .ref q0] [] sz (fun (r : Int32) (u : va_W) => (r = (iI k0) ∧ u = [])) := by
  refine Met.ofW (cc := cJ3_checkIndex_8e157) (maxL := 3) (ret := (some .int)) (by decide) rfl ?_
  intro p e s m args below meth c s₁ B hml hv
  obtain ⟨rfl, hsz, hP, hK, hD0, hN, hZ⟩ := hv
  have hx := B.exec
  have hb := B.bytes
  have hr := B.returns
  have hts := atoms_spec (ws := wsJ3_checkIndex_8e157) B.pre
  have hown : s.vm.findClass RJ3 = some m.cls := findClass_of_methodNamed B.named
  have hlocks := B.notSynchronized
  subst hsz
  have hD := hD0.self (sz := s.heap.size)
  generalize hAe : va_A [] s.heap.size = A at hD hZ ⊢
  have hA : ∀ q : Nat, s.heap.size ≤ q → A q := fun q h => by rw [← hAe]; exact Or.inr h
  have hS : va_S A s.heap s.heap [] := va_S.rf
  have hP : va_P G.1 vwCl [] s.heap := hP
  have hl := lv_entry ([.int (iI k0), .int (iI n0), .ref q0]) (n := 3) (Nat.le_of_ble_eq_true rfl)
  rw [lg_entry_eq]
  generalize (lg_sl ([.int (iI k0), .int (iI n0), .ref q0]) ++ List.replicate (3 - (lg_sl ([.int (iI k0), .int (iI n0), .ref q0])).length) Slot.unset).toArray = ls at hl ⊢
  have hl : lv_has ls 3 [(0, .int (iI k0)), (1, .int (iI n0)), (2, .ref q0)] := hl
  refine lv_iload_n hx hb dJ3_checkIndex_8e157_0 rfl (lv_at hl 0 rfl) ?_
  refine lv_if_lt (tgt := 9) hx hb dJ3_checkIndex_8e157_1 (by decide) (fun c_1 => ?_) (fun c_1 => ?_)
  · have c_1 := (iI_lt (a := k0) (b := 0) (by omega) (by first | decide | omega)).mp c_1
    exfalso
    omega
  · have c_1 : ¬ (k0 < 0) := fun h9 => c_1 ((iI_lt (a := k0) (b := 0) (by omega) (by first | decide | omega)).mpr h9)
    refine lv_iload_n hx hb dJ3_checkIndex_8e157_4 rfl (lv_at hl 0 rfl) ?_
    refine lv_iload_n hx hb dJ3_checkIndex_8e157_5 rfl (lv_at hl 1 rfl) ?_
    refine lv_icmp_lt (tgt := 16) hx hb dJ3_checkIndex_8e157_6 (by decide) (fun c_2 => ?_) (fun c_2 => ?_)
    · have c_2 := (iI_lt (a := k0) (b := n0) (by omega) (by omega)).mp c_2
      refine lv_iload_n hx hb dJ3_checkIndex_8e157_16 rfl (lv_at hl 0 rfl) ?_
      exact g_iret (v := (iI k0)) hx hb hr hlocks hP hD hS (⟨rfl, rfl⟩) dJ3_checkIndex_8e157_17
    · have c_2 : ¬ (k0 < n0) := fun h9 => c_2 ((iI_lt (a := k0) (b := n0) (by omega) (by omega)).mpr h9)
      exfalso
      omega
set_option maxHeartbeats 8000000 in
set_option maxRecDepth 100000 in
theorem c_J3_checkIndex_n (l : Launch) (G : gG) (k0 : Int) (n0 : Int) (rk0 : -2147483648 ≤ k0 ∧ k0 ≤ 2147483647) (rn0 : -2147483648 ≤ n0 ∧ n0 ≤ 2147483647) (h1 : 0 ≤ k0) (h2 : k0 < n0) (sz : Nat) : gI G l yJ3_checkIndex_8e157 wsJ3_checkIndex_8e157 ({ frames := 0, cells := 0, slots := 0, locals := 0 } : Room) [.int (iI k0), .int (iI n0), .null] [] sz (fun (r : Int32) (u : va_W) => (r = (iI k0) ∧ u = [])) := by
  refine Met.ofW (cc := cJ3_checkIndex_8e157) (maxL := 3) (ret := (some .int)) (by decide) rfl ?_
  intro p e s m args below meth c s₁ B hml hv
  obtain ⟨rfl, hsz, hP, hK, hD0, hN, hZ⟩ := hv
  have hx := B.exec
  have hb := B.bytes
  have hr := B.returns
  have hts := atoms_spec (ws := wsJ3_checkIndex_8e157) B.pre
  have hown : s.vm.findClass RJ3 = some m.cls := findClass_of_methodNamed B.named
  have hlocks := B.notSynchronized
  subst hsz
  have hD := hD0.self (sz := s.heap.size)
  generalize hAe : va_A [] s.heap.size = A at hD hZ ⊢
  have hA : ∀ q : Nat, s.heap.size ≤ q → A q := fun q h => by rw [← hAe]; exact Or.inr h
  have hS : va_S A s.heap s.heap [] := va_S.rf
  have hP : va_P G.1 vwCl [] s.heap := hP
  have hl := lv_entry ([.int (iI k0), .int (iI n0), .null]) (n := 3) (Nat.le_of_ble_eq_true rfl)
  rw [lg_entry_eq]
  generalize (lg_sl ([.int (iI k0), .int (iI n0), .null]) ++ List.replicate (3 - (lg_sl ([.int (iI k0), .int (iI n0), .null])).length) Slot.unset).toArray = ls at hl ⊢
  have hl : lv_has ls 3 [(0, .int (iI k0)), (1, .int (iI n0)), (2, .null)] := hl
  refine lv_iload_n hx hb dJ3_checkIndex_8e157_0 rfl (lv_at hl 0 rfl) ?_
  refine lv_if_lt (tgt := 9) hx hb dJ3_checkIndex_8e157_1 (by decide) (fun c_1 => ?_) (fun c_1 => ?_)
  · have c_1 := (iI_lt (a := k0) (b := 0) (by omega) (by first | decide | omega)).mp c_1
    exfalso
    omega
  · have c_1 : ¬ (k0 < 0) := fun h9 => c_1 ((iI_lt (a := k0) (b := 0) (by omega) (by first | decide | omega)).mpr h9)
    refine lv_iload_n hx hb dJ3_checkIndex_8e157_4 rfl (lv_at hl 0 rfl) ?_
    refine lv_iload_n hx hb dJ3_checkIndex_8e157_5 rfl (lv_at hl 1 rfl) ?_
    refine lv_icmp_lt (tgt := 16) hx hb dJ3_checkIndex_8e157_6 (by decide) (fun c_2 => ?_) (fun c_2 => ?_)
    · have c_2 := (iI_lt (a := k0) (b := n0) (by omega) (by omega)).mp c_2
      refine lv_iload_n hx hb dJ3_checkIndex_8e157_16 rfl (lv_at hl 0 rfl) ?_
      exact g_iret (v := (iI k0)) hx hb hr hlocks hP hD hS (⟨rfl, rfl⟩) dJ3_checkIndex_8e157_17
    · have c_2 : ¬ (k0 < n0) := fun h9 => c_2 ((iI_lt (a := k0) (b := n0) (by omega) (by omega)).mpr h9)
      exfalso
      omega
theorem dJ0_checkIndex_df160_0 : decode cJ0_checkIndex_df160 0 = .ok (.iload_n 0, 1) := kd_26 (by decide +kernel)
theorem dJ0_checkIndex_df160_1 : decode cJ0_checkIndex_df160 1 = .ok (.iload_n 1, 1) := kd_27 (by decide +kernel)
theorem dJ0_checkIndex_df160_2 : decode cJ0_checkIndex_df160 2 = .ok (.getstatic 1053, 3) := kd_178 (a := 4) (b := 29) (by decide +kernel)
theorem gJ0_checkIndex_df160_J3_checkIndex_8e157 : GoodIn wsJ0_checkIndex_df160 (va_wsS RJ0 1059 yJ3_checkIndex_8e157 wsJ3_checkIndex_8e157) := gW_S (in_r13 (List.mem_of_getElem? (i := 23) rfl)) (in_r14 (List.mem_of_getElem? (i := 0) rfl)) (in_r14 (List.mem_of_getElem? (i := 1) rfl)) (in_r14 (List.mem_of_getElem? (i := 2) rfl))
theorem dJ0_checkIndex_df160_5 : decode cJ0_checkIndex_df160 5 = .ok (.invokestatic 1059, 3) := kd_184 (a := 4) (b := 35) (by decide +kernel)
theorem dJ0_checkIndex_df160_8 : decode cJ0_checkIndex_df160 8 = .ok (.pop, 1) := kd_87 (by decide +kernel)
theorem dJ0_checkIndex_df160_9 : decode cJ0_checkIndex_df160 9 = .ok (.return_, 1) := kd_177 (by decide +kernel)
set_option maxHeartbeats 8000000 in
set_option maxRecDepth 100000 in
theorem c_J0_checkIndex_df160 (l : Launch) (G : gG) (k0 : Int) (n0 : Int) (rk0 : -2147483648 ≤ k0 ∧ k0 ≤ 2147483647) (rn0 : -2147483648 ≤ n0 ∧ n0 ≤ 2147483647) (h1 : 0 ≤ k0) (h2 : k0 < n0) (sz : Nat) : gV G l yJ0_checkIndex_df160 wsJ0_checkIndex_df160 ({ frames := 1, cells := 0, slots := 0, locals := 22 } : Room) [.int (iI k0), .int (iI n0)] [] sz (fun (u : va_W) => (u = [])) := by
  refine Met.ofW (cc := cJ0_checkIndex_df160) (maxL := 2) (ret := none) (by decide) rfl ?_
  intro p e s m args below meth c s₁ B hml hv
  obtain ⟨rfl, hsz, hP, hK, hD0, hN, hZ⟩ := hv
  have hx := B.exec
  have hb := B.bytes
  have hr := B.returns
  have hts := atoms_spec (ws := wsJ0_checkIndex_df160) B.pre
  have hown : s.vm.findClass RJ0 = some m.cls := findClass_of_methodNamed B.named
  have hlocks := B.notSynchronized
  subst hsz
  have hD := hD0.self (sz := s.heap.size)
  generalize hAe : va_A [] s.heap.size = A at hD hZ ⊢
  have hA : ∀ q : Nat, s.heap.size ≤ q → A q := fun q h => by rw [← hAe]; exact Or.inr h
  have hS : va_S A s.heap s.heap [] := va_S.rf
  have hP : va_P G.1 vwCl [] s.heap := hP
  have hl := lv_entry ([.int (iI k0), .int (iI n0)]) (n := 2) (Nat.le_of_ble_eq_true rfl)
  rw [lg_entry_eq]
  generalize (lg_sl ([.int (iI k0), .int (iI n0)]) ++ List.replicate (2 - (lg_sl ([.int (iI k0), .int (iI n0)])).length) Slot.unset).toArray = ls at hl ⊢
  have hl : lv_has ls 2 [(0, .int (iI k0)), (1, .int (iI n0))] := hl
  refine lv_iload_n hx hb dJ0_checkIndex_df160_0 rfl (lv_at hl 0 rfl) ?_
  refine lv_iload_n hx hb dJ0_checkIndex_df160_1 rfl (lv_at hl 1 rfl) ?_
  rcases hZ.2.2.2 with z9_2 | ⟨t9_1, z9_2⟩
  · refine va_gets hx hb z9_2 hS hown (hts _ (List.mem_cons_of_mem _ (in_r13 (List.mem_of_getElem? (i := 22) rfl)))) (fun _ h9 => h9) dJ0_checkIndex_df160_2 ?_
    refine g_calli (wr := []) (va_runS (As := [.int (iI k0), .int (iI n0), .null]) (rest := []) ⟨hx, hb, hml, hown, hts⟩ (c_J3_checkIndex_n l G (k0) (n0) (by first | exact rk0 | assumption | omega) (by first | exact rn0 | assumption | omega) (by first | exact h1 | assumption | omega) (by first | exact h2 | assumption | omega) _) (va_cwS 3 hts gJ0_checkIndex_df160_J3_checkIndex_8e157 rfl rfl rfl (by decide +kernel) ⟨Nat.le_of_ble_eq_true rfl, Nat.le_of_ble_eq_true rfl⟩) (g_preS [.int (iI k0), .int (iI n0), .null] hP hD hK hN hS hA hZ [] rfl rfl) rfl rfl hl.1 rfl (lv_room (Nat.le_of_ble_eq_true rfl)) dJ0_checkIndex_df160_5 ⟨Nat.le_of_ble_eq_true rfl, Nat.le_of_ble_eq_true rfl⟩) hP hD hS hA [] [] rfl rfl rfl (by decide) (fun r_3 u H locs hw hP hD hS => ?_)
    obtain ⟨rfl, rfl⟩ := hw
    have hP : va_P G.1 vwCl [] H := hP
    have hD : va_D A [] := hD
    refine lv_pop hx hb dJ0_checkIndex_df160_8 rfl ?_
    exact g_vret hx hb hr hlocks hP hD hS (rfl) dJ0_checkIndex_df160_9
  · refine va_gets hx hb z9_2 hS hown (hts _ (List.mem_cons_of_mem _ (in_r13 (List.mem_of_getElem? (i := 22) rfl)))) (fun _ h9 => h9) dJ0_checkIndex_df160_2 ?_
    refine g_calli (wr := []) (va_runS (As := [.int (iI k0), .int (iI n0), .ref t9_1]) (rest := []) ⟨hx, hb, hml, hown, hts⟩ (c_J3_checkIndex_8e157 l G (k0) (n0) (t9_1) (by first | exact rk0 | assumption | omega) (by first | exact rn0 | assumption | omega) (by first | exact h1 | assumption | omega) (by first | exact h2 | assumption | omega) _) (va_cwS 3 hts gJ0_checkIndex_df160_J3_checkIndex_8e157 rfl rfl rfl (by decide +kernel) ⟨Nat.le_of_ble_eq_true rfl, Nat.le_of_ble_eq_true rfl⟩) (g_preS [.int (iI k0), .int (iI n0), .ref t9_1] hP hD hK hN hS hA hZ [] rfl rfl) rfl rfl hl.1 rfl (lv_room (Nat.le_of_ble_eq_true rfl)) dJ0_checkIndex_df160_5 ⟨Nat.le_of_ble_eq_true rfl, Nat.le_of_ble_eq_true rfl⟩) hP hD hS hA [] [] rfl rfl rfl (by decide) (fun r_4 u H locs hw hP hD hS => ?_)
    obtain ⟨rfl, rfl⟩ := hw
    have hP : va_P G.1 vwCl [] H := hP
    have hD : va_D A [] := hD
    refine lv_pop hx hb dJ0_checkIndex_df160_8 rfl ?_
    exact g_vret hx hb hr hlocks hP hD hS (rfl) dJ0_checkIndex_df160_9
theorem dJ0_coder_7d493_0 : decode cJ0_coder_7d493 0 = .ok (.getstatic 38, 3) := kd_178 (a := 0) (b := 38) (by decide +kernel)
theorem dJ0_coder_7d493_3 : decode cJ0_coder_7d493 3 = .ok (.ifCond .eq 10, 3) := kd_153 (a := 0) (b := 10) (by decide +kernel)
theorem dJ0_coder_7d493_6 : decode cJ0_coder_7d493 6 = .ok (.aload_n 0, 1) := kd_42 (by decide +kernel)
theorem dJ0_coder_7d493_7 : decode cJ0_coder_7d493 7 = .ok (.getfield 15, 3) := kd_180 (a := 0) (b := 15) (by decide +kernel)
theorem dJ0_coder_7d493_10 : decode cJ0_coder_7d493 10 = .ok (.goto 4, 3) := kd_167 (a := 0) (b := 4) (by decide +kernel)
theorem dJ0_coder_7d493_14 : decode cJ0_coder_7d493 14 = .ok (.ireturn, 1) := kd_172 (by decide +kernel)
set_option maxHeartbeats 8000000 in
set_option maxRecDepth 100000 in
theorem c_J0_coder_7d493 (l : Launch) (G : gG) (i0 : Nat) (hi0 : i0 < 7) (sz : Nat) : gI G l yJ0_coder_7d493 wsJ0_coder_7d493 ({ frames := 0, cells := 0, slots := 0, locals := 0 } : Room) [.ref (G.2 (10 + i0))] [] sz (fun (r : Int32) (u : va_W) => (r = (iI 0) ∧ u = [])) := by
  refine Met.ofW (cc := cJ0_coder_7d493) (maxL := 1) (ret := (some .byte)) (by decide) rfl ?_
  intro p e s m args below meth c s₁ B hml hv
  obtain ⟨rfl, hsz, hP, hK, hD0, hN, hZ⟩ := hv
  have hx := B.exec
  have hb := B.bytes
  have hr := B.returns
  have hts := atoms_spec (ws := wsJ0_coder_7d493) B.pre
  have hown : s.vm.findClass RJ0 = some m.cls := findClass_of_methodNamed B.named
  have hlocks := B.notSynchronized
  subst hsz
  have hD := hD0.self (sz := s.heap.size)
  generalize hAe : va_A [] s.heap.size = A at hD hZ ⊢
  have hA : ∀ q : Nat, s.heap.size ≤ q → A q := fun q h => by rw [← hAe]; exact Or.inr h
  have hS : va_S A s.heap s.heap [] := va_S.rf
  have hP : va_P G.1 vwCl [] s.heap := hP
  have hl := lv_entry ([.ref (G.2 (10 + i0))]) (n := 1) (Nat.le_of_ble_eq_true rfl)
  rw [lg_entry_eq]
  generalize (lg_sl ([.ref (G.2 (10 + i0))]) ++ List.replicate (1 - (lg_sl ([.ref (G.2 (10 + i0))])).length) Slot.unset).toArray = ls at hl ⊢
  have hl : lv_has ls 1 [(0, .ref (G.2 (10 + i0)))] := hl
  refine va_gets hx hb hZ.2.2.1 hS hown (hts _ (List.mem_cons_of_mem _ (in_r13 (List.mem_of_getElem? (i := 5) rfl)))) (fun _ h9 => h9) dJ0_coder_7d493_0 ?_
  refine g_topi (y := iI 1) (by decide) ?_
  refine lv_if_eq (tgt := 13) hx hb dJ0_coder_7d493_3 (by decide) (fun c_1 => g_no c_1 (by decide)) (fun _ => ?_)
  refine lv_aload_n hx hb dJ0_coder_7d493_6 rfl (lv_at hl 0 rfl) ?_
  refine vk_getf hx hb (hZ.1.1 i0 (by omega)).2.1 hS hown (hts _ (List.mem_cons_of_mem _ (in_r13 (List.mem_of_getElem? (i := 6) rfl)))) (fun _ h9 => h9) dJ0_coder_7d493_7 ?_
  refine g_topi (y := iI 0) (by decide) ?_
  refine lv_goto (tgt := 14) hx hb dJ0_coder_7d493_10 (by decide) ?_
  exact g_xret (v := (iI 0)) hx hb hr hlocks rfl hP hD hS (⟨rfl, rfl⟩) dJ0_coder_7d493_14
theorem dJ0_isLatin1_aae02_0 : decode cJ0_isLatin1_aae02 0 = .ok (.getstatic 38, 3) := kd_178 (a := 0) (b := 38) (by decide +kernel)
theorem dJ0_isLatin1_aae02_3 : decode cJ0_isLatin1_aae02 3 = .ok (.ifCond .eq 14, 3) := kd_153 (a := 0) (b := 14) (by decide +kernel)
theorem dJ0_isLatin1_aae02_6 : decode cJ0_isLatin1_aae02 6 = .ok (.aload_n 0, 1) := kd_42 (by decide +kernel)
theorem dJ0_isLatin1_aae02_7 : decode cJ0_isLatin1_aae02 7 = .ok (.getfield 15, 3) := kd_180 (a := 0) (b := 15) (by decide +kernel)
theorem dJ0_isLatin1_aae02_10 : decode cJ0_isLatin1_aae02 10 = .ok (.ifCond .ne 7, 3) := kd_154 (a := 0) (b := 7) (by decide +kernel)
theorem dJ0_isLatin1_aae02_13 : decode cJ0_isLatin1_aae02 13 = .ok (.iconst 1, 1) := kd_4 (by decide +kernel)
theorem dJ0_isLatin1_aae02_14 : decode cJ0_isLatin1_aae02 14 = .ok (.goto 4, 3) := kd_167 (a := 0) (b := 4) (by decide +kernel)
theorem dJ0_isLatin1_aae02_18 : decode cJ0_isLatin1_aae02 18 = .ok (.ireturn, 1) := kd_172 (by decide +kernel)
set_option maxHeartbeats 8000000 in
set_option maxRecDepth 100000 in
theorem c_J0_isLatin1_aae02 (l : Launch) (G : gG) (i0 : Nat) (hi0 : i0 < 7) (sz : Nat) : gI G l yJ0_isLatin1_aae02 wsJ0_isLatin1_aae02 ({ frames := 0, cells := 0, slots := 0, locals := 0 } : Room) [.ref (G.2 (10 + i0))] [] sz (fun (r : Int32) (u : va_W) => (r = (iI 1) ∧ u = [])) := by
  refine Met.ofW (cc := cJ0_isLatin1_aae02) (maxL := 1) (ret := (some .boolean)) (by decide) rfl ?_
  intro p e s m args below meth c s₁ B hml hv
  obtain ⟨rfl, hsz, hP, hK, hD0, hN, hZ⟩ := hv
  have hx := B.exec
  have hb := B.bytes
  have hr := B.returns
  have hts := atoms_spec (ws := wsJ0_isLatin1_aae02) B.pre
  have hown : s.vm.findClass RJ0 = some m.cls := findClass_of_methodNamed B.named
  have hlocks := B.notSynchronized
  subst hsz
  have hD := hD0.self (sz := s.heap.size)
  generalize hAe : va_A [] s.heap.size = A at hD hZ ⊢
  have hA : ∀ q : Nat, s.heap.size ≤ q → A q := fun q h => by rw [← hAe]; exact Or.inr h
  have hS : va_S A s.heap s.heap [] := va_S.rf
  have hP : va_P G.1 vwCl [] s.heap := hP
  have hl := lv_entry ([.ref (G.2 (10 + i0))]) (n := 1) (Nat.le_of_ble_eq_true rfl)
  rw [lg_entry_eq]
  generalize (lg_sl ([.ref (G.2 (10 + i0))]) ++ List.replicate (1 - (lg_sl ([.ref (G.2 (10 + i0))])).length) Slot.unset).toArray = ls at hl ⊢
  have hl : lv_has ls 1 [(0, .ref (G.2 (10 + i0)))] := hl
  refine va_gets hx hb hZ.2.2.1 hS hown (hts _ (List.mem_cons_of_mem _ (in_r13 (List.mem_of_getElem? (i := 5) rfl)))) (fun _ h9 => h9) dJ0_isLatin1_aae02_0 ?_
  refine g_topi (y := iI 1) (by decide) ?_
  refine lv_if_eq (tgt := 17) hx hb dJ0_isLatin1_aae02_3 (by decide) (fun c_1 => g_no c_1 (by decide)) (fun _ => ?_)
  refine lv_aload_n hx hb dJ0_isLatin1_aae02_6 rfl (lv_at hl 0 rfl) ?_
  refine vk_getf hx hb (hZ.1.1 i0 (by omega)).2.1 hS hown (hts _ (List.mem_cons_of_mem _ (in_r13 (List.mem_of_getElem? (i := 6) rfl)))) (fun _ h9 => h9) dJ0_isLatin1_aae02_7 ?_
  refine g_topi (y := iI 0) (by decide) ?_
  refine lv_if_ne (tgt := 17) hx hb dJ0_isLatin1_aae02_10 (by decide) (fun c_2 => g_no (by decide) c_2) (fun _ => ?_)
  refine lv_iconst (v := iI 1) hx hb dJ0_isLatin1_aae02_13 rfl ?_
  refine lv_goto (tgt := 18) hx hb dJ0_isLatin1_aae02_14 (by decide) ?_
  exact g_zret (v := (iI 1)) hx hb hr hlocks rfl hP hD hS (⟨rfl, rfl⟩) dJ0_isLatin1_aae02_18
theorem dJ0_length_8abf5_0 : decode cJ0_length_8abf5 0 = .ok (.aload_n 0, 1) := kd_42 (by decide +kernel)
theorem dJ0_length_8abf5_1 : decode cJ0_length_8abf5 1 = .ok (.getfield 9, 3) := kd_180 (a := 0) (b := 9) (by decide +kernel)
theorem dJ0_length_8abf5_4 : decode cJ0_length_8abf5 4 = .ok (.arraylength, 1) := kd_190 (by decide +kernel)
theorem dJ0_length_8abf5_5 : decode cJ0_length_8abf5 5 = .ok (.aload_n 0, 1) := kd_42 (by decide +kernel)
theorem gJ0_length_8abf5_J0_coder_7d493 : GoodIn wsJ0_length_8abf5 (wsV RJ0 335 RJ0 yJ0_coder_7d493 wsJ0_coder_7d493) := gW_V (in_r13 (List.mem_of_getElem? (i := 1) rfl)) (in_r13 (List.mem_of_getElem? (i := 2) rfl)) (in_r13 (List.mem_of_getElem? (i := 3) rfl)) (in_r12 (List.mem_of_getElem? (i := 22) rfl)) (in_r13 (List.mem_of_getElem? (i := 4) rfl))
theorem dJ0_length_8abf5_6 : decode cJ0_length_8abf5 6 = .ok (.invokevirtual 335, 3) := kd_182 (a := 1) (b := 79) (by decide +kernel)
theorem dJ0_length_8abf5_9 : decode cJ0_length_8abf5 9 = .ok (.ishr, 1) := kd_122 (by decide +kernel)
theorem dJ0_length_8abf5_10 : decode cJ0_length_8abf5 10 = .ok (.ireturn, 1) := kd_172 (by decide +kernel)
set_option maxHeartbeats 8000000 in
set_option maxRecDepth 100000 in
theorem c_J0_length_8abf5 (l : Launch) (G : gG) (i0 : Nat) (hi0 : i0 < 7) (sz : Nat) : gI G l yJ0_length_8abf5 wsJ0_length_8abf5 ({ frames := 1, cells := 0, slots := 0, locals := 20 } : Room) [.ref (G.2 (10 + i0))] [] sz (fun (r : Int32) (u : va_W) => (∃ rr : Int, (rr = ((zLen.getD i0 0 : Nat) : Int)) ∧ r = (iI rr) ∧ u = [])) := by
  refine Met.ofW (cc := cJ0_length_8abf5) (maxL := 1) (ret := (some .int)) (by decide) rfl ?_
  intro p e s m args below meth c s₁ B hml hv
  obtain ⟨rfl, hsz, hP, hK, hD0, hN, hZ⟩ := hv
  have hx := B.exec
  have hb := B.bytes
  have hr := B.returns
  have hts := atoms_spec (ws := wsJ0_length_8abf5) B.pre
  have hown : s.vm.findClass RJ0 = some m.cls := findClass_of_methodNamed B.named
  have hlocks := B.notSynchronized
  subst hsz
  have hD := hD0.self (sz := s.heap.size)
  generalize hAe : va_A [] s.heap.size = A at hD hZ ⊢
  have hA : ∀ q : Nat, s.heap.size ≤ q → A q := fun q h => by rw [← hAe]; exact Or.inr h
  have hS : va_S A s.heap s.heap [] := va_S.rf
  have hP : va_P G.1 vwCl [] s.heap := hP
  have hl := lv_entry ([.ref (G.2 (10 + i0))]) (n := 1) (Nat.le_of_ble_eq_true rfl)
  rw [lg_entry_eq]
  generalize (lg_sl ([.ref (G.2 (10 + i0))]) ++ List.replicate (1 - (lg_sl ([.ref (G.2 (10 + i0))])).length) Slot.unset).toArray = ls at hl ⊢
  have hl : lv_has ls 1 [(0, .ref (G.2 (10 + i0)))] := hl
  refine lv_aload_n hx hb dJ0_length_8abf5_0 rfl (lv_at hl 0 rfl) ?_
  refine vk_getf hx hb (hZ.1.1 i0 (by omega)).2.2.1 hS hown (hts _ (List.mem_cons_of_mem _ (in_r13 (List.mem_of_getElem? (i := 0) rfl)))) (fun _ h9 => h9) dJ0_length_8abf5_1 ?_
  refine W.eq (g2 := F0 m 4 ls [.ref (G.2 (20 + i0))]) rfl ?_
  refine va_tlen hx hb (hZ.1.1 i0 (by omega)).2.2.2 hS (v := iI ((zLen.getD i0 0 : Nat) : Int)) rfl dJ0_length_8abf5_4 ?_
  refine lv_aload_n hx hb dJ0_length_8abf5_5 rfl (lv_at hl 0 rfl) ?_
  refine g_calli (wc := []) (wr := []) (va_runV (As := []) (rest := [.int (iI ((zLen.getD i0 0 : Nat) : Int))]) ⟨hx, hb, hml, hown, hts⟩ (c_J0_coder_7d493 l G (i0) (by first | exact hi0 | assumption | omega) _) (cwV 0 hts gJ0_length_8abf5_J0_coder_7d493 rfl rfl rfl (by decide +kernel) ⟨Nat.le_of_ble_eq_true rfl, Nat.le_of_ble_eq_true rfl⟩) (g_preZ i0 (by omega) [] hP hD hK hN hS hA hZ [] rfl rfl) rfl rfl hl.1 rfl (lv_room (Nat.le_of_ble_eq_true rfl)) dJ0_length_8abf5_6 ⟨Nat.le_of_ble_eq_true rfl, Nat.le_of_ble_eq_true rfl⟩) hP hD hS hA [] [] rfl rfl rfl (by decide) (fun r_1 u H locs hw hP hD hS => ?_)
  obtain ⟨rfl, rfl⟩ := hw
  have hP : va_P G.1 vwCl [] H := by rw [List.append_nil] at hP; exact hP
  have hD : va_D A [] := by rw [List.append_nil] at hD; exact hD
  refine lv_ishr hx hb dJ0_length_8abf5_9 ?_
  refine g_topi (y := iI ((zLen.getD i0 0 : Nat) : Int)) (iI_shr0 ((zLen.getD i0 0 : Nat) : Int)) ?_
  exact g_iret (v := (iI ((zLen.getD i0 0 : Nat) : Int))) hx hb hr hlocks hP hD hS (⟨((zLen.getD i0 0 : Nat) : Int), (by first | assumption | omega | decide), rfl, rfl⟩) dJ0_length_8abf5_10
theorem dJ1_charAt_3b067_0 : decode cJ1_charAt_3b067 0 = .ok (.iload_n 1, 1) := kd_27 (by decide +kernel)
theorem dJ1_charAt_3b067_1 : decode cJ1_charAt_3b067 1 = .ok (.aload_n 0, 1) := kd_42 (by decide +kernel)
theorem dJ1_charAt_3b067_2 : decode cJ1_charAt_3b067 2 = .ok (.arraylength, 1) := kd_190 (by decide +kernel)
theorem gJ1_charAt_3b067_J0_checkIndex_df160 : GoodIn wsJ1_charAt_3b067 (va_wsS RJ1 9 yJ0_checkIndex_df160 wsJ0_checkIndex_df160) := gW_S (in_r13 (List.mem_of_getElem? (i := 19) rfl)) (in_r13 (List.mem_of_getElem? (i := 20) rfl)) (in_r12 (List.mem_of_getElem? (i := 22) rfl)) (in_r13 (List.mem_of_getElem? (i := 21) rfl))
theorem dJ1_charAt_3b067_3 : decode cJ1_charAt_3b067 3 = .ok (.invokestatic 9, 3) := kd_184 (a := 0) (b := 9) (by decide +kernel)
theorem dJ1_charAt_3b067_6 : decode cJ1_charAt_3b067 6 = .ok (.aload_n 0, 1) := kd_42 (by decide +kernel)
theorem dJ1_charAt_3b067_7 : decode cJ1_charAt_3b067 7 = .ok (.iload_n 1, 1) := kd_27 (by decide +kernel)
theorem dJ1_charAt_3b067_8 : decode cJ1_charAt_3b067 8 = .ok (.baload, 1) := kd_51 (by decide +kernel)
theorem dJ1_charAt_3b067_9 : decode cJ1_charAt_3b067 9 = .ok (.sipush 255, 3) := kd_17 (a := 0) (b := 255) (by decide +kernel)
theorem dJ1_charAt_3b067_12 : decode cJ1_charAt_3b067 12 = .ok (.iand, 1) := kd_126 (by decide +kernel)
theorem dJ1_charAt_3b067_13 : decode cJ1_charAt_3b067 13 = .ok (.i2c, 1) := kd_146 (by decide +kernel)
theorem dJ1_charAt_3b067_14 : decode cJ1_charAt_3b067 14 = .ok (.ireturn, 1) := kd_172 (by decide +kernel)
set_option maxHeartbeats 8000000 in
set_option maxRecDepth 100000 in
theorem c_J1_charAt_3b067 (l : Launch) (G : gG) (i0 : Nat) (k0 : Int) (hi0 : i0 < 7) (h1 : 0 ≤ k0) (h2 : k0 < ((zLen.getD i0 0 : Nat) : Int)) (hz0 : ((zLen.getD i0 0 : Nat) : Int) ≤ 6) (sz : Nat) : gI G l yJ1_charAt_3b067 wsJ1_charAt_3b067 ({ frames := 2, cells := 0, slots := 0, locals := 43 } : Room) [.ref (G.2 (20 + i0)), .int (iI k0)] [] sz (fun (r : Int32) (u : va_W) => (∃ rr : Int, (rr = zC i0 k0) ∧ (0 ≤ rr ∧ rr ≤ 127) ∧ r = (iI rr) ∧ u = [])) := by
  refine Met.ofW (cc := cJ1_charAt_3b067) (maxL := 2) (ret := (some .char)) (by decide) rfl ?_
  intro p e s m args below meth c s₁ B hml hv
  obtain ⟨rfl, hsz, hP, hK, hD0, hN, hZ⟩ := hv
  have hx := B.exec
  have hb := B.bytes
  have hr := B.returns
  have hts := atoms_spec (ws := wsJ1_charAt_3b067) B.pre
  have hown : s.vm.findClass RJ1 = some m.cls := findClass_of_methodNamed B.named
  have hlocks := B.notSynchronized
  subst hsz
  have hD := hD0.self (sz := s.heap.size)
  generalize hAe : va_A [] s.heap.size = A at hD hZ ⊢
  have hA : ∀ q : Nat, s.heap.size ≤ q → A q := fun q h => by rw [← hAe]; exact Or.inr h
  have hS : va_S A s.heap s.heap [] := va_S.rf
  have hP : va_P G.1 vwCl [] s.heap := hP
  have hl := lv_entry ([.ref (G.2 (20 + i0)), .int (iI k0)]) (n := 2) (Nat.le_of_ble_eq_true rfl)
  rw [lg_entry_eq]
  generalize (lg_sl ([.ref (G.2 (20 + i0)), .int (iI k0)]) ++ List.replicate (2 - (lg_sl ([.ref (G.2 (20 + i0)), .int (iI k0)])).length) Slot.unset).toArray = ls at hl ⊢
  have hl : lv_has ls 2 [(0, .ref (G.2 (20 + i0))), (1, .int (iI k0))] := hl
  refine lv_iload_n hx hb dJ1_charAt_3b067_0 rfl (lv_at hl 1 rfl) ?_
  refine lv_aload_n hx hb dJ1_charAt_3b067_1 rfl (lv_at hl 0 rfl) ?_
  refine va_tlen hx hb (hZ.1.1 i0 (by omega)).2.2.2 hS (v := iI ((zLen.getD i0 0 : Nat) : Int)) rfl dJ1_charAt_3b067_2 ?_
  refine g_callv (wr := []) (va_runS (As := [.int (iI k0), .int (iI ((zLen.getD i0 0 : Nat) : Int))]) (rest := []) ⟨hx, hb, hml, hown, hts⟩ (c_J0_checkIndex_df160 l G (k0) (((zLen.getD i0 0 : Nat) : Int)) (by first | assumption | omega) (by first | assumption | omega | decide) (by first | exact h1 | assumption | omega) (by first | exact h2 | assumption | omega) _) (va_cwS 2 hts gJ1_charAt_3b067_J0_checkIndex_df160 rfl rfl rfl (by decide +kernel) ⟨Nat.le_of_ble_eq_true rfl, Nat.le_of_ble_eq_true rfl⟩) (g_preS [.int (iI k0), .int (iI ((zLen.getD i0 0 : Nat) : Int))] hP hD hK hN hS hA hZ [] rfl rfl) rfl rfl hl.1 rfl (lv_room (Nat.le_of_ble_eq_true rfl)) dJ1_charAt_3b067_3 ⟨Nat.le_of_ble_eq_true rfl, Nat.le_of_ble_eq_true rfl⟩) hP hD hS hA [] [] rfl rfl rfl (by decide) (fun u H locs hw hP hD hS => ?_)
  subst hw
  have hP : va_P G.1 vwCl [] H := hP
  have hD : va_D A [] := hD
  refine lv_aload_n hx hb dJ1_charAt_3b067_6 rfl (lv_at hl 0 rfl) ?_
  refine lv_iload_n hx hb dJ1_charAt_3b067_7 rfl (lv_at hl 1 rfl) ?_
  refine va_tb hx hb (hZ.1.1 i0 (by omega)).2.2.2 hS (vp_iI (by omega) (by omega) (by have := zLen_le (i := i0) (by omega); omega)) (v := .int (iI (zC i0 k0))) (by rw [iI_cl (by omega) (by omega)]; exact congrArg Value.int (zC_eq i0 k0)) dJ1_charAt_3b067_8 ?_
  refine lv_sipush (v := iI 255) hx hb dJ1_charAt_3b067_9 (by decide) ?_
  refine lv_iand hx hb dJ1_charAt_3b067_12 ?_
  have zc9 := (zC_ch hi0 h1 h2).2.2
  refine lv_i2c (v := iI (zC i0 k0)) hx hb dJ1_charAt_3b067_13 (zC_ch hi0 h1 h2).1 ?_
  exact g_xret (v := (iI (zC i0 k0))) hx hb hr hlocks (zC_ch hi0 h1 h2).2.1 hP hD hS (⟨(zC i0 k0), (by first | assumption | omega), (by first | assumption | omega), rfl, rfl⟩) dJ1_charAt_3b067_14
theorem dJ0_charAt_5068e_0 : decode cJ0_charAt_5068e 0 = .ok (.aload_n 0, 1) := kd_42 (by decide +kernel)
theorem gJ0_charAt_5068e_J0_isLatin1_aae02 : GoodIn wsJ0_charAt_5068e (wsV RJ0 492 RJ0 yJ0_isLatin1_aae02 wsJ0_isLatin1_aae02) := gW_V (in_r13 (List.mem_of_getElem? (i := 11) rfl)) (in_r13 (List.mem_of_getElem? (i := 12) rfl)) (in_r13 (List.mem_of_getElem? (i := 13) rfl)) (in_r12 (List.mem_of_getElem? (i := 22) rfl)) (in_r13 (List.mem_of_getElem? (i := 14) rfl))
theorem dJ0_charAt_5068e_1 : decode cJ0_charAt_5068e 1 = .ok (.invokevirtual 492, 3) := kd_182 (a := 1) (b := 236) (by decide +kernel)
theorem dJ0_charAt_5068e_4 : decode cJ0_charAt_5068e 4 = .ok (.ifCond .eq 12, 3) := kd_153 (a := 0) (b := 12) (by decide +kernel)
theorem dJ0_charAt_5068e_7 : decode cJ0_charAt_5068e 7 = .ok (.aload_n 0, 1) := kd_42 (by decide +kernel)
theorem dJ0_charAt_5068e_8 : decode cJ0_charAt_5068e 8 = .ok (.getfield 9, 3) := kd_180 (a := 0) (b := 9) (by decide +kernel)
theorem dJ0_charAt_5068e_11 : decode cJ0_charAt_5068e 11 = .ok (.iload_n 1, 1) := kd_27 (by decide +kernel)
theorem gJ0_charAt_5068e_J1_charAt_3b067 : GoodIn wsJ0_charAt_5068e (va_wsS RJ0 495 yJ1_charAt_3b067 wsJ1_charAt_3b067) := gW_S (in_r13 (List.mem_of_getElem? (i := 15) rfl)) (in_r13 (List.mem_of_getElem? (i := 16) rfl)) (in_r13 (List.mem_of_getElem? (i := 17) rfl)) (in_r13 (List.mem_of_getElem? (i := 18) rfl))
theorem dJ0_charAt_5068e_12 : decode cJ0_charAt_5068e 12 = .ok (.invokestatic 495, 3) := kd_184 (a := 1) (b := 239) (by decide +kernel)
theorem dJ0_charAt_5068e_15 : decode cJ0_charAt_5068e 15 = .ok (.ireturn, 1) := kd_172 (by decide +kernel)
set_option maxHeartbeats 8000000 in
set_option maxRecDepth 100000 in
theorem c_J0_charAt_5068e (l : Launch) (G : gG) (i0 : Nat) (k0 : Int) (hi0 : i0 < 7) (h1 : 0 ≤ k0) (h2 : k0 < ((zLen.getD i0 0 : Nat) : Int)) (hz0 : ((zLen.getD i0 0 : Nat) : Int) ≤ 6) (sz : Nat) : gI G l yJ0_charAt_5068e wsJ0_charAt_5068e ({ frames := 3, cells := 0, slots := 0, locals := 64 } : Room) [.ref (G.2 (10 + i0)), .int (iI k0)] [] sz (fun (r : Int32) (u : va_W) => (∃ rr : Int, (rr = zC i0 k0) ∧ (0 ≤ rr ∧ rr ≤ 127) ∧ r = (iI rr) ∧ u = [])) := by
  refine Met.ofW (cc := cJ0_charAt_5068e) (maxL := 2) (ret := (some .char)) (by decide) rfl ?_
  intro p e s m args below meth c s₁ B hml hv
  obtain ⟨rfl, hsz, hP, hK, hD0, hN, hZ⟩ := hv
  have hx := B.exec
  have hb := B.bytes
  have hr := B.returns
  have hts := atoms_spec (ws := wsJ0_charAt_5068e) B.pre
  have hown : s.vm.findClass RJ0 = some m.cls := findClass_of_methodNamed B.named
  have hlocks := B.notSynchronized
  subst hsz
  have hD := hD0.self (sz := s.heap.size)
  generalize hAe : va_A [] s.heap.size = A at hD hZ ⊢
  have hA : ∀ q : Nat, s.heap.size ≤ q → A q := fun q h => by rw [← hAe]; exact Or.inr h
  have hS : va_S A s.heap s.heap [] := va_S.rf
  have hP : va_P G.1 vwCl [] s.heap := hP
  have hl := lv_entry ([.ref (G.2 (10 + i0)), .int (iI k0)]) (n := 2) (Nat.le_of_ble_eq_true rfl)
  rw [lg_entry_eq]
  generalize (lg_sl ([.ref (G.2 (10 + i0)), .int (iI k0)]) ++ List.replicate (2 - (lg_sl ([.ref (G.2 (10 + i0)), .int (iI k0)])).length) Slot.unset).toArray = ls at hl ⊢
  have hl : lv_has ls 2 [(0, .ref (G.2 (10 + i0))), (1, .int (iI k0))] := hl
  refine lv_aload_n hx hb dJ0_charAt_5068e_0 rfl (lv_at hl 0 rfl) ?_
  refine g_calli (wc := []) (wr := []) (va_runV (As := []) (rest := []) ⟨hx, hb, hml, hown, hts⟩ (c_J0_isLatin1_aae02 l G (i0) (by first | exact hi0 | assumption | omega) _) (cwV 0 hts gJ0_charAt_5068e_J0_isLatin1_aae02 rfl rfl rfl (by decide +kernel) ⟨Nat.le_of_ble_eq_true rfl, Nat.le_of_ble_eq_true rfl⟩) (g_preZ i0 (by omega) [] hP hD hK hN hS hA hZ [] rfl rfl) rfl rfl hl.1 rfl (lv_room (Nat.le_of_ble_eq_true rfl)) dJ0_charAt_5068e_1 ⟨Nat.le_of_ble_eq_true rfl, Nat.le_of_ble_eq_true rfl⟩) hP hD hS hA [] [] rfl rfl rfl (by decide) (fun r_1 u H locs hw hP hD hS => ?_)
  obtain ⟨rfl, rfl⟩ := hw
  have hP : va_P G.1 vwCl [] H := by rw [List.append_nil] at hP; exact hP
  have hD : va_D A [] := by rw [List.append_nil] at hD; exact hD
  refine lv_if_eq (tgt := 16) hx hb dJ0_charAt_5068e_4 (by decide) (fun c_2 => g_no c_2 (by decide)) (fun _ => ?_)
  refine lv_aload_n hx hb dJ0_charAt_5068e_7 rfl (lv_at hl 0 rfl) ?_
  refine vk_getf hx hb (hZ.1.1 i0 (by omega)).2.2.1 hS hown (hts _ (List.mem_cons_of_mem _ (in_r13 (List.mem_of_getElem? (i := 0) rfl)))) (fun _ h9 => h9) dJ0_charAt_5068e_8 ?_
  refine W.eq (g2 := F0 m 11 ls [.ref (G.2 (20 + i0))]) rfl ?_
  refine lv_iload_n hx hb dJ0_charAt_5068e_11 rfl (lv_at hl 1 rfl) ?_
  refine g_calli (wr := []) (va_runS (As := [.ref (G.2 (20 + i0)), .int (iI k0)]) (rest := []) ⟨hx, hb, hml, hown, hts⟩ (c_J1_charAt_3b067 l G (i0) (k0) (by first | exact hi0 | assumption | omega) (by first | exact h1 | assumption | omega) (by first | exact h2 | assumption | omega) (by first | exact hz0 | assumption | omega) _) (va_cwS 2 hts gJ0_charAt_5068e_J1_charAt_3b067 rfl rfl rfl (by decide +kernel) ⟨Nat.le_of_ble_eq_true rfl, Nat.le_of_ble_eq_true rfl⟩) (g_preS [.ref (G.2 (20 + i0)), .int (iI k0)] hP hD hK hN hS hA hZ [] rfl rfl) rfl rfl hl.1 rfl (lv_room (Nat.le_of_ble_eq_true rfl)) dJ0_charAt_5068e_12 ⟨Nat.le_of_ble_eq_true rfl, Nat.le_of_ble_eq_true rfl⟩) hP hD hS hA [] [] rfl rfl rfl (by decide) (fun r_3 u H locs hw hP hD hS => ?_)
  refine ea_1_4 hw (fun rr_4 k_5 k_6 e8_0 e8_1 => ?_)
  subst e8_0
  subst e8_1
  clear hw
  have hP : va_P G.1 vwCl [] H := hP
  have hD : va_D A [] := hD
  exact g_xret (v := (iI rr_4)) hx hb hr hlocks (by rw [show rr_4 = zC i0 k0 by omega]; exact (zC_ch hi0 h1 h2).2.1) hP hD hS (⟨rr_4, (by first | exact k_5 | assumption | omega), (by first | exact k_6 | assumption | omega), rfl, rfl⟩) dJ0_charAt_5068e_15
