theorem dX11_goBehind_0 : decode cX11_goBehind 0 = .ok (.aload_n 0, 1) := by decide +kernel
theorem dX11_goBehind_1 : decode cX11_goBehind 1 = .ok (.aload_n 0, 1) := by decide +kernel
theorem dX11_goBehind_2 : decode cX11_goBehind 2 = .ok (.getfield 244, 3) := by decide +kernel
theorem dX11_goBehind_5 : decode cX11_goBehind 5 = .ok (.aload_n 0, 1) := by decide +kernel
theorem dX11_goBehind_6 : decode cX11_goBehind 6 = .ok (.getfield 247, 3) := by decide +kernel
theorem dX11_goBehind_9 : decode cX11_goBehind 9 = .ok (.iadd, 1) := by decide +kernel
theorem gX11_goBehind_X11_lookAt : GoodIn wsX11_goBehind (wsV RX11 262 RX11 yX11_lookAt wsX11_lookAt) := gW_V (in_r19 (List.mem_of_getElem? (i := 10) rfl)) (in_r19 (List.mem_of_getElem? (i := 11) rfl)) (in_r19 (List.mem_of_getElem? (i := 12) rfl)) (in_r1 (List.mem_of_getElem? (i := 5) rfl)) (in_r19 (List.mem_of_getElem? (i := 13) rfl))
theorem dX11_goBehind_10 : decode cX11_goBehind 10 = .ok (.invokevirtual 262, 3) := by decide +kernel
theorem dX11_goBehind_13 : decode cX11_goBehind 13 = .ok (.return_, 1) := by decide +kernel
set_option maxHeartbeats 8000000 in
set_option maxRecDepth 100000 in
theorem c_X11_goBehind (l : Launch) (G : gG) (m0 : Nat) (m_all : Nat) (m_kept : Nat) (m_isKept : Nat) (m_refused : Nat) (m_above : Int) (m_below : Int) (m_hand : Nat) (m_fewest : Nat) (m_whoBites : Nat) (m_leaves : Nat) (m_bestFeast : Nat) (m_tells : Nat) (m_hardOn : Nat) (m_bytes : Nat) (m_bytesLong : Int) (m_tokenAt : Int) (m_tokenLong : Int) (m_token : Int) (m_value : Int) (m_anew : Nat) (m_values : Nat) (my : Nat → Int) (uS : Nat → Int) (uA : Nat → Int) (uV : Nat → Int) (uE : Nat → Int) (n0 : Int) (j0 : Int) (y0_ : bd 0 127 my) (hL : 0 ≤ m_bytesLong ∧ m_bytesLong ≤ 150) (i0_ : 0 ≤ m_tokenAt ∧ 0 ≤ m_tokenLong ∧ m_tokenAt + m_tokenLong ≤ m_bytesLong) (i1_ : 0 ≤ m_token ∧ m_token ≤ 4) (i2_ : m_token = 0 ∨ 1 ≤ m_tokenLong) (i3_ : -2000 ≤ m_value ∧ m_value ≤ 2000) (hch : chF my m_bytesLong uS uA uV n0 uE) (hra : ra my uS uA uV uE j0 m_tokenAt m_tokenLong m_token m_value) (hj : 0 ≤ j0 ∧ j0 < n0) (hs : ¬ (uS (j0 : Int).toNat = 0)) (sz : Nat) : gV G l yX11_goBehind wsX11_goBehind ({ frames := 3, cells := 0, slots := 0, locals := 69 } : Room) [.ref m0] [(m0, .inr (10, [.ref m_all, .ref m_kept, .ref m_isKept, .ref m_refused, .long (lI m_above), .long (lI m_below), .ref m_hand, .ref m_fewest, .ref m_whoBites, .ref m_leaves, .ref m_bestFeast, .ref m_tells, .ref m_hardOn, .ref m_bytes, .int (iI m_bytesLong), .int (iI m_tokenAt), .int (iI m_tokenLong), .int (iI m_token), .int (iI m_value), .ref m_anew, .ref m_values])), (m_bytes, .inl (G.2 0, 150, .inl (cI my)))] sz (fun (u : va_W) => (∃ NtA : Int, ∃ NtL : Int, ∃ Ntk : Int, ∃ Nva : Int, (0 ≤ NtA ∧ 0 ≤ NtL ∧ NtA + NtL ≤ m_bytesLong) ∧ (0 ≤ Ntk ∧ Ntk ≤ 4) ∧ (Ntk = 0 ∨ 1 ≤ NtL) ∧ (-2000 ≤ Nva ∧ Nva ≤ 2000) ∧ (m_tokenAt + m_tokenLong ≤ NtA) ∧ (ra my uS uA uV uE (j0 + 1) NtA NtL Ntk Nva) ∧ (j0 + 1 < n0) ∧ u = [(m0, .inr (10, [.ref m_all, .ref m_kept, .ref m_isKept, .ref m_refused, .long (lI m_above), .long (lI m_below), .ref m_hand, .ref m_fewest, .ref m_whoBites, .ref m_leaves, .ref m_bestFeast, .ref m_tells, .ref m_hardOn, .ref m_bytes, .int (iI m_bytesLong), .int (iI NtA), .int (iI NtL), .int (iI Ntk), .int (iI Nva), .ref m_anew, .ref m_values])), (m_bytes, .inl (G.2 0, 150, .inl (cI my)))])) := by
  refine Met.ofW (cc := cX11_goBehind) (maxL := 1) (ret := none) (by decide) rfl ?_
  intro p e s m args below meth c s₁ B hml hv
  obtain ⟨rfl, hsz, hP, hK, hD0, hN, hZ⟩ := hv
  have hx := B.exec
  have hb := B.bytes
  have hr := B.returns
  have hts := atoms_spec (ws := wsX11_goBehind) B.pre
  have hown : s.vm.findClass RX11 = some m.cls := findClass_of_methodNamed B.named
  have hlocks := B.notSynchronized
  subst hsz
  have hD := hD0.self (sz := s.heap.size)
  generalize hAe : va_A [(m0, .inr (10, [.ref m_all, .ref m_kept, .ref m_isKept, .ref m_refused, .long (lI m_above), .long (lI m_below), .ref m_hand, .ref m_fewest, .ref m_whoBites, .ref m_leaves, .ref m_bestFeast, .ref m_tells, .ref m_hardOn, .ref m_bytes, .int (iI m_bytesLong), .int (iI m_tokenAt), .int (iI m_tokenLong), .int (iI m_token), .int (iI m_value), .ref m_anew, .ref m_values])), (m_bytes, .inl (G.2 0, 150, .inl (cI my)))] s.heap.size = A at hD hZ ⊢
  have hA : ∀ q : Nat, s.heap.size ≤ q → A q := fun q h => by rw [← hAe]; exact Or.inr h
  have hS : va_S A s.heap s.heap [] := va_S.rf
  have hP : va_P G.1 vwCl [(m0, .inr (10, [.ref m_all, .ref m_kept, .ref m_isKept, .ref m_refused, .long (lI m_above), .long (lI m_below), .ref m_hand, .ref m_fewest, .ref m_whoBites, .ref m_leaves, .ref m_bestFeast, .ref m_tells, .ref m_hardOn, .ref m_bytes, .int (iI m_bytesLong), .int (iI m_tokenAt), .int (iI m_tokenLong), .int (iI m_token), .int (iI m_value), .ref m_anew, .ref m_values])), (m_bytes, .inl (G.2 0, 150, .inl (cI my)))] s.heap := hP
  have hl := lv_entry ([.ref m0]) (n := 1) (Nat.le_of_ble_eq_true rfl)
  rw [lg_entry_eq]
  generalize (lg_sl ([.ref m0]) ++ List.replicate (1 - (lg_sl ([.ref m0])).length) Slot.unset).toArray = ls at hl ⊢
  have hl : lv_has ls 1 [(0, .ref m0)] := hl
  refine lv_aload_n hx hb dX11_goBehind_0 rfl (lv_at hl 0 rfl) ?_
  refine lv_aload_n hx hb dX11_goBehind_1 rfl (lv_at hl 0 rfl) ?_
  refine va_get (D := G.1) (ci := 10) (v := .int (iI m_tokenAt)) (C := RX11) (T := TX11) (N := 21) hx hb hts (fun _ h => List.mem_cons_of_mem _ (inlX11 _ h)) hown hK hP 0 rfl rfl 15 (by decide) (hts _ (List.mem_cons_of_mem _ (in_r19 (List.mem_of_getElem? (i := 8) rfl)))) (fun _ h9 => h9) rfl dX11_goBehind_2 ?_
  refine lv_aload_n hx hb dX11_goBehind_5 rfl (lv_at hl 0 rfl) ?_
  refine va_get (D := G.1) (ci := 10) (v := .int (iI m_tokenLong)) (C := RX11) (T := TX11) (N := 21) hx hb hts (fun _ h => List.mem_cons_of_mem _ (inlX11 _ h)) hown hK hP 0 rfl rfl 16 (by decide) (hts _ (List.mem_cons_of_mem _ (in_r19 (List.mem_of_getElem? (i := 14) rfl)))) (fun _ h9 => h9) rfl dX11_goBehind_6 ?_
  refine lv_iadd hx hb dX11_goBehind_9 ?_
  refine g_topi (y := iI (m_tokenAt + m_tokenLong)) (iI_add m_tokenAt m_tokenLong) ?_
  refine g_callv (wr := []) (va_runV (As := [.int (iI (m_tokenAt + m_tokenLong))]) (rest := []) ⟨hx, hb, hml, hown, hts⟩ (c_X11_lookAt l G (m0) (m_all) (m_kept) (m_isKept) (m_refused) (m_above) (m_below) (m_hand) (m_fewest) (m_whoBites) (m_leaves) (m_bestFeast) (m_tells) (m_hardOn) (m_bytes) (m_bytesLong) (m_tokenAt) (m_tokenLong) (m_token) (m_value) (m_anew) (m_values) (my) ((m_tokenAt + m_tokenLong)) (by first | assumption | exact y0_ | exact bd_mono y0_ (by omega) (by omega)) (by first | assumption | omega) (by first | assumption | omega) _) (cwV 1 hts gX11_goBehind_X11_lookAt rfl rfl rfl (by decide +kernel) ⟨Nat.le_of_ble_eq_true rfl, Nat.le_of_ble_eq_true rfl⟩) (g_preV m0 [.int (iI (m_tokenAt + m_tokenLong))] hP hD hK hN hS hA hZ [0, 1] rfl rfl 0 (ci := 10) rfl rfl) rfl rfl hl.1 rfl (lv_room (Nat.le_of_ble_eq_true rfl)) dX11_goBehind_10 ⟨Nat.le_of_ble_eq_true rfl, Nat.le_of_ble_eq_true rfl⟩) hP hD hS hA [0, 1] [] rfl rfl rfl (by decide) (fun u H locs hw hP hD hS => ?_)
  obtain ⟨NtA_1, NtL_2, Ntk_3, Nva_4, k_5, k_6, k_7, k_8, k_9, k_10, rfl⟩ := hw
  obtain ⟨hP, hD⟩ : PD G A H [(m0, .inr (10, [.ref m_all, .ref m_kept, .ref m_isKept, .ref m_refused, .long (lI m_above), .long (lI m_below), .ref m_hand, .ref m_fewest, .ref m_whoBites, .ref m_leaves, .ref m_bestFeast, .ref m_tells, .ref m_hardOn, .ref m_bytes, .int (iI m_bytesLong), .int (iI NtA_1), .int (iI NtL_2), .int (iI Ntk_3), .int (iI Nva_4), .ref m_anew, .ref m_values])), (m_bytes, .inl (G.2 0, 150, .inl (cI my)))] := ⟨hP, hD⟩
  exact g_vret hx hb hr hlocks hP hD hS (⟨NtA_1, NtL_2, Ntk_3, Nva_4, (by first | assumption | omega), (by first | assumption | omega), (by first | assumption | omega), (by first | assumption | omega), (by first | assumption | omega), (ra_nx hch hra (by omega) (hch.ts (by omega) (by omega) hs) (by assumption)), (hch.ts (by omega) (by omega) hs), rfl⟩) dX11_goBehind_13
