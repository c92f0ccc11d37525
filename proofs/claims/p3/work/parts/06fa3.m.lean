theorem dX11_gives_0 : decode cX11_gives 0 = .ok (.aload_n 0, 1) := by decide +kernel
theorem dX11_gives_1 : decode cX11_gives 1 = .ok (.getfield 250, 3) := by decide +kernel
theorem dX11_gives_4 : decode cX11_gives 4 = .ok (.iconst 2, 1) := by decide +kernel
theorem dX11_gives_5 : decode cX11_gives 5 = .ok (.if_icmp .ne 18, 3) := by decide +kernel
theorem dX11_gives_23 : decode cX11_gives 23 = .ok (.iconst 0, 1) := by decide +kernel
theorem dX11_gives_24 : decode cX11_gives 24 = .ok (.ireturn, 1) := by decide +kernel
theorem dX11_gives_8 : decode cX11_gives 8 = .ok (.aload_n 0, 1) := by decide +kernel
theorem dX11_gives_9 : decode cX11_gives 9 = .ok (.getfield 253, 3) := by decide +kernel
theorem dX11_gives_12 : decode cX11_gives 12 = .ok (.i2l, 1) := by decide +kernel
theorem dX11_gives_13 : decode cX11_gives 13 = .ok (.iload_n 2, 1) := by decide +kernel
theorem dX11_gives_14 : decode cX11_gives 14 = .ok (.i2l, 1) := by decide +kernel
theorem dX11_gives_15 : decode cX11_gives 15 = .ok (.iload_n 3, 1) := by decide +kernel
theorem dX11_gives_16 : decode cX11_gives 16 = .ok (.i2l, 1) := by decide +kernel
theorem gX11_gives_X11_in : GoodIn wsX11_gives (va_wsS RX11 65 yX11_in wsX11_in) := gW_S (in_r8 (List.mem_of_getElem? (i := 9) rfl)) (in_r8 (List.mem_of_getElem? (i := 10) rfl)) (in_r1 (List.mem_of_getElem? (i := 5) rfl)) (in_r8 (List.mem_of_getElem? (i := 11) rfl))
theorem dX11_gives_17 : decode cX11_gives 17 = .ok (.invokestatic 65, 3) := by decide +kernel
theorem dX11_gives_20 : decode cX11_gives 20 = .ok (.ifCond .ne 5, 3) := by decide +kernel
theorem dX11_gives_25 : decode cX11_gives 25 = .ok (.aload_n 0, 1) := by decide +kernel
theorem dX11_gives_26 : decode cX11_gives 26 = .ok (.getfield 54, 3) := by decide +kernel
theorem dX11_gives_29 : decode cX11_gives 29 = .ok (.iload_n 1, 1) := by decide +kernel
theorem dX11_gives_30 : decode cX11_gives 30 = .ok (.aload_n 0, 1) := by decide +kernel
theorem dX11_gives_31 : decode cX11_gives 31 = .ok (.getfield 253, 3) := by decide +kernel
theorem dX11_gives_34 : decode cX11_gives 34 = .ok (.iastore, 1) := by decide +kernel
theorem dX11_gives_35 : decode cX11_gives 35 = .ok (.aload_n 0, 1) := by decide +kernel
theorem gX11_gives_X11_goBehind : GoodIn wsX11_gives (wsV RX11 265 RX11 yX11_goBehind wsX11_goBehind) := gW_V (in_r20 (List.mem_of_getElem? (i := 6) rfl)) (in_r20 (List.mem_of_getElem? (i := 7) rfl)) (in_r20 (List.mem_of_getElem? (i := 8) rfl)) (in_r1 (List.mem_of_getElem? (i := 5) rfl)) (in_r20 (List.mem_of_getElem? (i := 9) rfl))
theorem dX11_gives_36 : decode cX11_gives 36 = .ok (.invokevirtual 265, 3) := by decide +kernel
theorem dX11_gives_39 : decode cX11_gives 39 = .ok (.iconst 1, 1) := by decide +kernel
theorem dX11_gives_40 : decode cX11_gives 40 = .ok (.ireturn, 1) := by decide +kernel
set_option maxHeartbeats 8000000 in
set_option maxRecDepth 100000 in
theorem c_X11_gives0 (l : Launch) (G : gG) (m0 : Nat) (m_all : Nat) (m_kept : Nat) (m_isKept : Nat) (m_refused : Nat) (m_above : Int) (m_below : Int) (m_hand : Nat) (m_fewest : Nat) (m_whoBites : Nat) (m_leaves : Nat) (m_bestFeast : Nat) (m_tells : Nat) (m_hardOn : Nat) (m_bytes : Nat) (m_bytesLong : Int) (m_tokenAt : Int) (m_tokenLong : Int) (m_token : Int) (m_value : Int) (m_anew : Nat) (m_values : Nat) (my : Nat → Int) (mv : Nat → Int) (uS : Nat → Int) (uA : Nat → Int) (uV : Nat → Int) (uE : Nat → Int) (n0 : Int) (j0 : Int) (lo0 : Int) (hi0 : Int) (y0_ : bd 0 127 my) (hL : 0 ≤ m_bytesLong ∧ m_bytesLong ≤ 150) (i0_ : 0 ≤ m_tokenAt ∧ 0 ≤ m_tokenLong ∧ m_tokenAt + m_tokenLong ≤ m_bytesLong) (i1_ : 0 ≤ m_token ∧ m_token ≤ 4) (i2_ : m_token = 0 ∨ 1 ≤ m_tokenLong) (i3_ : -2000 ≤ m_value ∧ m_value ≤ 2000) (hch : chF my m_bytesLong uS uA uV n0 uE) (hra : ra my uS uA uV uE j0 m_tokenAt m_tokenLong m_token m_value) (hj : 0 ≤ j0 ∧ j0 < n0) (rlo0 : -2147483648 ≤ lo0 ∧ lo0 ≤ 2147483647) (rhi0 : -2147483648 ≤ hi0 ∧ hi0 ≤ 2147483647) (sz : Nat) : gI G l yX11_gives wsX11_gives ({ frames := 4, cells := 0, slots := 0, locals := 89 } : Room) [.ref m0, .int (iI 0), .int (iI lo0), .int (iI hi0)] [(m0, .inr (10, [.ref m_all, .ref m_kept, .ref m_isKept, .ref m_refused, .long (lI m_above), .long (lI m_below), .ref m_hand, .ref m_fewest, .ref m_whoBites, .ref m_leaves, .ref m_bestFeast, .ref m_tells, .ref m_hardOn, .ref m_bytes, .int (iI m_bytesLong), .int (iI m_tokenAt), .int (iI m_tokenLong), .int (iI m_token), .int (iI m_value), .ref m_anew, .ref m_values])), (m_bytes, .inl (G.2 0, 150, .inl (cI my))), (m_values, .inl (G.2 0, 3, .inl (cI mv)))] sz (fun (r : Int32) (u : va_W) => (∃ NtA : Int, ∃ NtL : Int, ∃ Ntk : Int, ∃ Nva : Int, ∃ nv : Int, (nv = uV (j0 : Int).toNat) ∧ (0 ≤ NtA ∧ 0 ≤ NtL ∧ NtA + NtL ≤ m_bytesLong) ∧ (0 ≤ Ntk ∧ Ntk ≤ 4) ∧ (Ntk = 0 ∨ 1 ≤ NtL) ∧ (-2000 ≤ Nva ∧ Nva ≤ 2000) ∧ (m_tokenAt ≤ NtA) ∧ (ra my uS uA uV uE (j0 + 1) NtA NtL Ntk Nva) ∧ (uS (j0 : Int).toNat = 2 ∧ lo0 ≤ uV (j0 : Int).toNat ∧ uV (j0 : Int).toNat ≤ hi0) ∧ (j0 + 1 < n0) ∧ r = (iI 1) ∧ u = [(m0, .inr (10, [.ref m_all, .ref m_kept, .ref m_isKept, .ref m_refused, .long (lI m_above), .long (lI m_below), .ref m_hand, .ref m_fewest, .ref m_whoBites, .ref m_leaves, .ref m_bestFeast, .ref m_tells, .ref m_hardOn, .ref m_bytes, .int (iI m_bytesLong), .int (iI NtA), .int (iI NtL), .int (iI Ntk), .int (iI Nva), .ref m_anew, .ref m_values])), (m_bytes, .inl (G.2 0, 150, .inl (cI my))), (m_values, .inl (G.2 0, 3, .inl (cI (uI mv 0 nv))))]) ∨ ((¬ (uS (j0 : Int).toNat = 2 ∧ lo0 ≤ uV (j0 : Int).toNat ∧ uV (j0 : Int).toNat ≤ hi0)) ∧ r = (iI 0) ∧ u = [(m0, .inr (10, [.ref m_all, .ref m_kept, .ref m_isKept, .ref m_refused, .long (lI m_above), .long (lI m_below), .ref m_hand, .ref m_fewest, .ref m_whoBites, .ref m_leaves, .ref m_bestFeast, .ref m_tells, .ref m_hardOn, .ref m_bytes, .int (iI m_bytesLong), .int (iI m_tokenAt), .int (iI m_tokenLong), .int (iI m_token), .int (iI m_value), .ref m_anew, .ref m_values])), (m_bytes, .inl (G.2 0, 150, .inl (cI my))), (m_values, .inl (G.2 0, 3, .inl (cI mv)))])) := by
  refine Met.ofW (cc := cX11_gives) (maxL := 4) (ret := (some .boolean)) (by decide) rfl ?_
  intro p e s m args below meth c s₁ B hml hv
  obtain ⟨rfl, hsz, hP, hK, hD0, hN, hZ⟩ := hv
  have hx := B.exec
  have hb := B.bytes
  have hr := B.returns
  have hts := atoms_spec (ws := wsX11_gives) B.pre
  have hown : s.vm.findClass RX11 = some m.cls := findClass_of_methodNamed B.named
  have hlocks := B.notSynchronized
  subst hsz
  have hD := hD0.self (sz := s.heap.size)
  generalize hAe : va_A [(m0, .inr (10, [.ref m_all, .ref m_kept, .ref m_isKept, .ref m_refused, .long (lI m_above), .long (lI m_below), .ref m_hand, .ref m_fewest, .ref m_whoBites, .ref m_leaves, .ref m_bestFeast, .ref m_tells, .ref m_hardOn, .ref m_bytes, .int (iI m_bytesLong), .int (iI m_tokenAt), .int (iI m_tokenLong), .int (iI m_token), .int (iI m_value), .ref m_anew, .ref m_values])), (m_bytes, .inl (G.2 0, 150, .inl (cI my))), (m_values, .inl (G.2 0, 3, .inl (cI mv)))] s.heap.size = A at hD hZ ⊢
  have hA : ∀ q : Nat, s.heap.size ≤ q → A q := fun q h => by rw [← hAe]; exact Or.inr h
  have hS : va_S A s.heap s.heap [] := va_S.rf
  have hP : va_P G.1 vwCl [(m0, .inr (10, [.ref m_all, .ref m_kept, .ref m_isKept, .ref m_refused, .long (lI m_above), .long (lI m_below), .ref m_hand, .ref m_fewest, .ref m_whoBites, .ref m_leaves, .ref m_bestFeast, .ref m_tells, .ref m_hardOn, .ref m_bytes, .int (iI m_bytesLong), .int (iI m_tokenAt), .int (iI m_tokenLong), .int (iI m_token), .int (iI m_value), .ref m_anew, .ref m_values])), (m_bytes, .inl (G.2 0, 150, .inl (cI my))), (m_values, .inl (G.2 0, 3, .inl (cI mv)))] s.heap := hP
  have hl := lv_entry ([.ref m0, .int (iI 0), .int (iI lo0), .int (iI hi0)]) (n := 4) (Nat.le_of_ble_eq_true rfl)
  rw [lg_entry_eq]
  generalize (lg_sl ([.ref m0, .int (iI 0), .int (iI lo0), .int (iI hi0)]) ++ List.replicate (4 - (lg_sl ([.ref m0, .int (iI 0), .int (iI lo0), .int (iI hi0)])).length) Slot.unset).toArray = ls at hl ⊢
  have hl : lv_has ls 4 [(0, .ref m0), (1, .int (iI 0)), (2, .int (iI lo0)), (3, .int (iI hi0))] := hl
  refine lv_aload_n hx hb dX11_gives_0 rfl (lv_at hl 0 rfl) ?_
  refine va_get (D := G.1) (ci := 10) (v := .int (iI m_token)) (C := RX11) (T := TX11) (N := 21) hx hb hts (fun _ h => List.mem_cons_of_mem _ (inlX11 _ h)) hown hK hP 0 rfl rfl 17 (by decide) (hts _ (List.mem_cons_of_mem _ (in_r19 (List.mem_of_getElem? (i := 9) rfl)))) (fun _ h9 => h9) rfl dX11_gives_1 ?_
  refine lv_iconst (v := iI 2) hx hb dX11_gives_4 rfl ?_
  refine lv_icmp_ne (tgt := 23) hx hb dX11_gives_5 (by decide) (fun c_1 => ?_) (fun c_1 => ?_)
  · have c_1 : ¬ (m_token = 2) := fun h9 => c_1 ((iI_eq (a := m_token) (b := 2) (by omega) (by omega)).mpr h9)
    refine lv_iconst (v := iI 0) hx hb dX11_gives_23 rfl ?_
    exact g_zret (v := (iI 0)) hx hb hr hlocks rfl hP hD hS (Or.inr (⟨(ra_non hra (by omega)), rfl, rfl⟩)) dX11_gives_24
  · have c_1 := (iI_eq (a := m_token) (b := 2) (by omega) (by omega)).mp c_1
    refine lv_aload_n hx hb dX11_gives_8 rfl (lv_at hl 0 rfl) ?_
    refine va_get (D := G.1) (ci := 10) (v := .int (iI m_value)) (C := RX11) (T := TX11) (N := 21) hx hb hts (fun _ h => List.mem_cons_of_mem _ (inlX11 _ h)) hown hK hP 0 rfl rfl 18 (by decide) (hts _ (List.mem_cons_of_mem _ (in_r19 (List.mem_of_getElem? (i := 15) rfl)))) (fun _ h9 => h9) rfl dX11_gives_9 ?_
    refine lv_i2l (v := lI m_value) hx hb dX11_gives_12 (i2l_iI (by omega)) ?_
    refine lv_iload_n hx hb dX11_gives_13 rfl (lv_at hl 2 rfl) ?_
    refine lv_i2l (v := lI lo0) hx hb dX11_gives_14 (i2l_iI (by omega)) ?_
    refine lv_iload_n hx hb dX11_gives_15 rfl (lv_at hl 3 rfl) ?_
    refine lv_i2l (v := lI hi0) hx hb dX11_gives_16 (i2l_iI (by omega)) ?_
    refine g_calli (wr := [(m0, .inr (10, [.ref m_all, .ref m_kept, .ref m_isKept, .ref m_refused, .long (lI m_above), .long (lI m_below), .ref m_hand, .ref m_fewest, .ref m_whoBites, .ref m_leaves, .ref m_bestFeast, .ref m_tells, .ref m_hardOn, .ref m_bytes, .int (iI m_bytesLong), .int (iI m_tokenAt), .int (iI m_tokenLong), .int (iI m_token), .int (iI m_value), .ref m_anew, .ref m_values])), (m_bytes, .inl (G.2 0, 150, .inl (cI my))), (m_values, .inl (G.2 0, 3, .inl (cI mv)))]) (va_runS (As := [.long (lI m_value), .long (lI lo0), .long (lI hi0)]) (rest := []) ⟨hx, hb, hml, hown, hts⟩ (c_X11_in l G (m_value) (lo0) (hi0) (by first | assumption | omega) (by first | assumption | omega) (by first | assumption | omega) _) (va_cwS 3 hts gX11_gives_X11_in rfl rfl rfl (by decide +kernel) ⟨Nat.le_of_ble_eq_true rfl, Nat.le_of_ble_eq_true rfl⟩) (g_preS [.long (lI m_value), .long (lI lo0), .long (lI hi0)] hP hD hK hN hS hA hZ [] rfl rfl) rfl rfl hl.1 rfl (lv_room (Nat.le_of_ble_eq_true rfl)) dX11_gives_17 ⟨Nat.le_of_ble_eq_true rfl, Nat.le_of_ble_eq_true rfl⟩) hP hD hS hA [] [0, 1, 2] rfl rfl rfl (by decide) (fun r_2 u H locs hw hP hD hS => ?_)
    rcases hw with ⟨k_3, k_4, rfl, rfl⟩ | ⟨k_5, rfl, rfl⟩
    · obtain ⟨hP, hD⟩ : PD G A H [(m0, .inr (10, [.ref m_all, .ref m_kept, .ref m_isKept, .ref m_refused, .long (lI m_above), .long (lI m_below), .ref m_hand, .ref m_fewest, .ref m_whoBites, .ref m_leaves, .ref m_bestFeast, .ref m_tells, .ref m_hardOn, .ref m_bytes, .int (iI m_bytesLong), .int (iI m_tokenAt), .int (iI m_tokenLong), .int (iI m_token), .int (iI m_value), .ref m_anew, .ref m_values])), (m_bytes, .inl (G.2 0, 150, .inl (cI my))), (m_values, .inl (G.2 0, 3, .inl (cI mv)))] := ⟨hP, hD⟩
      refine lv_if_ne (tgt := 25) hx hb dX11_gives_20 (by decide) (fun _ => ?_) (fun c_6 => g_no c_6 (by decide))
      have hs2 := hra.2.1.2.2.mp (by omega)
      refine lv_aload_n hx hb dX11_gives_25 rfl (lv_at hl 0 rfl) ?_
      refine va_get (D := G.1) (ci := 10) (v := .ref m_values) (C := RX11) (T := TX11) (N := 21) hx hb hts (fun _ h => List.mem_cons_of_mem _ (inlX11 _ h)) hown hK hP 0 rfl rfl 20 (by decide) (hts _ (List.mem_cons_of_mem _ (in_r6 (List.mem_of_getElem? (i := 14) rfl)))) (fun _ h9 => h9) rfl dX11_gives_26 ?_
      refine lv_iload_n hx hb dX11_gives_29 rfl (lv_at hl 1 rfl) ?_
      refine lv_aload_n hx hb dX11_gives_30 rfl (lv_at hl 0 rfl) ?_
      refine va_get (D := G.1) (ci := 10) (v := .int (iI m_value)) (C := RX11) (T := TX11) (N := 21) hx hb hts (fun _ h => List.mem_cons_of_mem _ (inlX11 _ h)) hown hK hP 0 rfl rfl 18 (by decide) (hts _ (List.mem_cons_of_mem _ (in_r19 (List.mem_of_getElem? (i := 15) rfl)))) (fun _ h9 => h9) rfl dX11_gives_31 ?_
      refine g_ist hx hb hK hP hD hS 2 rfl (by omega) (by omega) (by omega) dX11_gives_34 (fun H locs hP hD hS => ?_)
      obtain ⟨hP, hD⟩ : PD G A H [(m0, .inr (10, [.ref m_all, .ref m_kept, .ref m_isKept, .ref m_refused, .long (lI m_above), .long (lI m_below), .ref m_hand, .ref m_fewest, .ref m_whoBites, .ref m_leaves, .ref m_bestFeast, .ref m_tells, .ref m_hardOn, .ref m_bytes, .int (iI m_bytesLong), .int (iI m_tokenAt), .int (iI m_tokenLong), .int (iI m_token), .int (iI m_value), .ref m_anew, .ref m_values])), (m_bytes, .inl (G.2 0, 150, .inl (cI my))), (m_values, .inl (G.2 0, 3, .inl (cI (uI mv 0 m_value))))] := ⟨hP, hD⟩
      refine lv_aload_n hx hb dX11_gives_35 rfl (lv_at hl 0 rfl) ?_
      refine g_callv (wr := [(m_values, .inl (G.2 0, 3, .inl (cI (uI mv 0 m_value))))]) (va_runV (As := []) (rest := []) ⟨hx, hb, hml, hown, hts⟩ (c_X11_goBehind l G (m0) (m_all) (m_kept) (m_isKept) (m_refused) (m_above) (m_below) (m_hand) (m_fewest) (m_whoBites) (m_leaves) (m_bestFeast) (m_tells) (m_hardOn) (m_bytes) (m_bytesLong) (m_tokenAt) (m_tokenLong) (m_token) (m_value) (m_anew) (m_values) (my) (uS) (uA) (uV) (uE) (n0) (j0) (by first | assumption | exact y0_ | exact bd_mono y0_ (by omega) (by omega)) (by first | assumption | omega) (by first | assumption | omega) (by first | assumption | omega) (by first | assumption | omega) (by first | assumption | omega) (by first | assumption | omega) (by first | assumption | omega) (by first | assumption | omega) (by first | assumption | omega) _) (cwV 0 hts gX11_gives_X11_goBehind rfl rfl rfl (by decide +kernel) ⟨Nat.le_of_ble_eq_true rfl, Nat.le_of_ble_eq_true rfl⟩) (g_preV m0 [] hP hD hK hN hS hA hZ [0, 1] rfl rfl 0 (ci := 10) rfl rfl) rfl rfl hl.1 rfl (lv_room (Nat.le_of_ble_eq_true rfl)) dX11_gives_36 ⟨Nat.le_of_ble_eq_true rfl, Nat.le_of_ble_eq_true rfl⟩) hP hD hS hA [0, 1] [2] rfl rfl rfl (by decide) (fun u H locs hw hP hD hS => ?_)
      obtain ⟨NtA_8, NtL_9, Ntk_10, Nva_11, k_12, k_13, k_14, k_15, k_16, k_17, k_18, rfl⟩ := hw
      obtain ⟨hP, hD⟩ : PD G A H [(m_values, .inl (G.2 0, 3, .inl (cI (uI mv 0 m_value)))), (m0, .inr (10, [.ref m_all, .ref m_kept, .ref m_isKept, .ref m_refused, .long (lI m_above), .long (lI m_below), .ref m_hand, .ref m_fewest, .ref m_whoBites, .ref m_leaves, .ref m_bestFeast, .ref m_tells, .ref m_hardOn, .ref m_bytes, .int (iI m_bytesLong), .int (iI NtA_8), .int (iI NtL_9), .int (iI Ntk_10), .int (iI Nva_11), .ref m_anew, .ref m_values])), (m_bytes, .inl (G.2 0, 150, .inl (cI my)))] := ⟨hP, hD⟩
      refine lv_iconst (v := iI 1) hx hb dX11_gives_39 rfl ?_
      have hP := hP.sub (ws' := [(m0, .inr (10, [.ref m_all, .ref m_kept, .ref m_isKept, .ref m_refused, .long (lI m_above), .long (lI m_below), .ref m_hand, .ref m_fewest, .ref m_whoBites, .ref m_leaves, .ref m_bestFeast, .ref m_tells, .ref m_hardOn, .ref m_bytes, .int (iI m_bytesLong), .int (iI NtA_8), .int (iI NtL_9), .int (iI Ntk_10), .int (iI Nva_11), .ref m_anew, .ref m_values])), (m_bytes, .inl (G.2 0, 150, .inl (cI my))), (m_values, .inl (G.2 0, 3, .inl (cI (uI mv 0 m_value))))]) [1, 2, 0] rfl
      have hD := hD.sub (ws' := [(m0, .inr (10, [.ref m_all, .ref m_kept, .ref m_isKept, .ref m_refused, .long (lI m_above), .long (lI m_below), .ref m_hand, .ref m_fewest, .ref m_whoBites, .ref m_leaves, .ref m_bestFeast, .ref m_tells, .ref m_hardOn, .ref m_bytes, .int (iI m_bytesLong), .int (iI NtA_8), .int (iI NtL_9), .int (iI Ntk_10), .int (iI Nva_11), .ref m_anew, .ref m_values])), (m_bytes, .inl (G.2 0, 150, .inl (cI my))), (m_values, .inl (G.2 0, 3, .inl (cI (uI mv 0 m_value))))]) [1, 2, 0] rfl rfl
      exact g_zret (v := (iI 1)) hx hb hr hlocks rfl hP hD hS (Or.inl ⟨NtA_8, NtL_9, Ntk_10, Nva_11, m_value, (hra.2.2.1 (by omega)), (by first | assumption | omega), (by first | assumption | omega), (by first | assumption | omega), (by first | assumption | omega), (by first | assumption | omega), (by first | assumption | omega), (ra_num hra (by omega)), (by first | assumption | omega), rfl, rfl⟩) dX11_gives_40
    · obtain ⟨hP, hD⟩ : PD G A H [(m0, .inr (10, [.ref m_all, .ref m_kept, .ref m_isKept, .ref m_refused, .long (lI m_above), .long (lI m_below), .ref m_hand, .ref m_fewest, .ref m_whoBites, .ref m_leaves, .ref m_bestFeast, .ref m_tells, .ref m_hardOn, .ref m_bytes, .int (iI m_bytesLong), .int (iI m_tokenAt), .int (iI m_tokenLong), .int (iI m_token), .int (iI m_value), .ref m_anew, .ref m_values])), (m_bytes, .inl (G.2 0, 150, .inl (cI my))), (m_values, .inl (G.2 0, 3, .inl (cI mv)))] := ⟨hP, hD⟩
      refine lv_if_ne (tgt := 25) hx hb dX11_gives_20 (by decide) (fun c_19 => g_no (by decide) c_19) (fun _ => ?_)
      refine lv_iconst (v := iI 0) hx hb dX11_gives_23 rfl ?_
      exact g_zret (v := (iI 0)) hx hb hr hlocks rfl hP hD hS (Or.inr (⟨(ra_non hra (by omega)), rfl, rfl⟩)) dX11_gives_24
