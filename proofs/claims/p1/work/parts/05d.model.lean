theorem dX11_layHand_0 : decode cX11_layHand 0 = .ok (.iconst 0, 1) := by decide +kernel
theorem dX11_layHand_1 : decode cX11_layHand 1 = .ok (.istore_n 1, 1) := by decide +kernel
theorem dX11_layHand_2 : decode cX11_layHand 2 = .ok (.iload_n 1, 1) := by decide +kernel
theorem dX11_layHand_3 : decode cX11_layHand 3 = .ok (.bipush 56, 2) := by decide +kernel
theorem dX11_layHand_5 : decode cX11_layHand 5 = .ok (.if_icmp .ge 21, 3) := by decide +kernel
theorem dX11_layHand_8 : decode cX11_layHand 8 = .ok (.aload_n 0, 1) := by decide +kernel
theorem dX11_layHand_9 : decode cX11_layHand 9 = .ok (.getfield 27, 3) := by decide +kernel
theorem dX11_layHand_12 : decode cX11_layHand 12 = .ok (.iload_n 1, 1) := by decide +kernel
theorem dX11_layHand_13 : decode cX11_layHand 13 = .ok (.aload_n 0, 1) := by decide +kernel
theorem dX11_layHand_14 : decode cX11_layHand 14 = .ok (.getfield 7, 3) := by decide +kernel
theorem dX11_layHand_17 : decode cX11_layHand 17 = .ok (.iload_n 1, 1) := by decide +kernel
theorem dX11_layHand_18 : decode cX11_layHand 18 = .ok (.iaload, 1) := by decide +kernel
theorem dX11_layHand_19 : decode cX11_layHand 19 = .ok (.iastore, 1) := by decide +kernel
theorem dX11_layHand_20 : decode cX11_layHand 20 = .ok (.iinc 1 1, 3) := by decide +kernel
theorem dX11_layHand_23 : decode cX11_layHand 23 = .ok (.goto (-21), 3) := by decide +kernel
theorem dX11_layHand_26 : decode cX11_layHand 26 = .ok (.return_, 1) := by decide +kernel
set_option maxHeartbeats 8000000 in
set_option maxRecDepth 100000 in
theorem c_X11_layHand (l : Launch) (G : gG) (m0 : Nat) (m0A : Nat) (m0K : Nat) (m0I : Nat) (m0R : Nat) (m0H : Nat) (m0F : Nat) (m0W : Nat) (m0L : Nat) (m0B : Nat) (m0T : Nat) (m0O : Nat) (m0Y : Nat) (m0N : Nat) (m0V : Nat) (sz : Nat) : gV G l yX11_layHand wsX11_layHand ({ frames := 0, cells := 0, slots := 0, locals := 0 } : Room) [.ref m0] [(m0, .inr (10, [.ref m0A, .ref m0K, .ref m0I, .ref m0R, .long 0, .long 1, .ref m0H, .ref m0F, .ref m0W, .ref m0L, .ref m0B, .ref m0T, .ref m0O, .ref m0Y, .int 0, .int 0, .int 0, .int 0, .int 0, .ref m0N, .ref m0V])), (m0A, .inl (G.2 0, 311, .inl (fun _ => 0))), (m0H, .inl (G.2 0, 56, .inl (fun _ => 0)))] sz (fun (u : va_W) => (u = [(m0, .inr (10, [.ref m0A, .ref m0K, .ref m0I, .ref m0R, .long 0, .long 1, .ref m0H, .ref m0F, .ref m0W, .ref m0L, .ref m0B, .ref m0T, .ref m0O, .ref m0Y, .int 0, .int 0, .int 0, .int 0, .int 0, .ref m0N, .ref m0V])), (m0A, .inl (G.2 0, 311, .inl (fun _ => 0))), (m0H, .inl (G.2 0, 56, .inl (fun _ => 0)))])) := by
  refine Met.ofW (cc := cX11_layHand) (maxL := 2) (ret := none) (by decide) rfl ?_
  intro p e s m args below meth c s₁ B hml hv
  obtain ⟨rfl, hsz, hP, hK, hD0, hN⟩ := hv
  have hx := B.exec
  have hb := B.bytes
  have hr := B.returns
  have hts := atoms_spec (ws := wsX11_layHand) B.pre
  have hown : s.vm.findClass RX11 = some m.cls := findClass_of_methodNamed B.named
  have hlocks := B.notSynchronized
  subst hsz
  have hD := hD0.self (sz := s.heap.size)
  generalize hAe : va_A [(m0, .inr (10, [.ref m0A, .ref m0K, .ref m0I, .ref m0R, .long 0, .long 1, .ref m0H, .ref m0F, .ref m0W, .ref m0L, .ref m0B, .ref m0T, .ref m0O, .ref m0Y, .int 0, .int 0, .int 0, .int 0, .int 0, .ref m0N, .ref m0V])), (m0A, .inl (G.2 0, 311, .inl (fun _ => 0))), (m0H, .inl (G.2 0, 56, .inl (fun _ => 0)))] s.heap.size = A at hD ⊢
  have hA : ∀ q : Nat, s.heap.size ≤ q → A q := fun q h => by rw [← hAe]; exact Or.inr h
  have hS : va_S A s.heap s.heap [] := va_S.rf
  have hP : va_P G.1 vwCl [(m0, .inr (10, [.ref m0A, .ref m0K, .ref m0I, .ref m0R, .long 0, .long 1, .ref m0H, .ref m0F, .ref m0W, .ref m0L, .ref m0B, .ref m0T, .ref m0O, .ref m0Y, .int 0, .int 0, .int 0, .int 0, .int 0, .ref m0N, .ref m0V])), (m0A, .inl (G.2 0, 311, .inl (fun _ => 0))), (m0H, .inl (G.2 0, 56, .inl (fun _ => 0)))] s.heap := hP
  have hl := lv_entry ([.ref m0]) (n := 2) (Nat.le_of_ble_eq_true rfl)
  rw [lg_entry_eq]
  generalize (lg_sl ([.ref m0]) ++ List.replicate (2 - (lg_sl ([.ref m0])).length) Slot.unset).toArray = ls at hl ⊢
  have hl : lv_has ls 2 [(0, .ref m0)] := hl
  refine lv_iconst (v := 0) hx hb dX11_layHand_0 (by decide) ?_
  refine lv_istore_n (lv' := [(1, .int 0), (0, .ref m0)]) hx hb dX11_layHand_1 rfl hl (by decide) rfl (fun ls hl => ?_)
  refine g_loop (pc := 2) (56) (fun k H locs ls => va_P G.1 vwCl [(m0, .inr (10, [.ref m0A, .ref m0K, .ref m0I, .ref m0R, .long 0, .long 1, .ref m0H, .ref m0F, .ref m0W, .ref m0L, .ref m0B, .ref m0T, .ref m0O, .ref m0Y, .int 0, .int 0, .int 0, .int 0, .int 0, .ref m0N, .ref m0V])), (m0A, .inl (G.2 0, 311, .inl (fun _ => 0))), (m0H, .inl (G.2 0, 56, .inl (fun _ => 0)))] H ∧ va_D A [(m0, .inr (10, [.ref m0A, .ref m0K, .ref m0I, .ref m0R, .long 0, .long 1, .ref m0H, .ref m0F, .ref m0W, .ref m0L, .ref m0B, .ref m0T, .ref m0O, .ref m0Y, .int 0, .int 0, .int 0, .int 0, .int 0, .ref m0N, .ref m0V])), (m0A, .inl (G.2 0, 311, .inl (fun _ => 0))), (m0H, .inl (G.2 0, 56, .inl (fun _ => 0)))] ∧ va_S A s.heap H locs ∧ lv_has ls 2 [(1, .int (nI k)), (0, .ref m0)]) ?_ ⟨hP, hD, hS, lv_sub hl [0, 1] rfl⟩
  intro k H locs ls hkN ih hI
  obtain ⟨hP, hD, hS, hl⟩ := hI
  rcases Nat.lt_or_ge k (56) with hlt | hge
  · refine lv_iload_n hx hb dX11_layHand_2 rfl (lv_at hl 0 rfl) ?_
    refine lv_bipush (v := 56) hx hb dX11_layHand_3 (by decide) ?_
    refine lv_icmp_ge (tgt := 26) hx hb dX11_layHand_5 (by decide) (fun c_1 => g_no c_1 (nI_ge (a := k) (b := 56) hlt (by omega))) (fun _ => ?_)
    refine lv_aload_n hx hb dX11_layHand_8 rfl (lv_at hl 1 rfl) ?_
    refine va_get (D := G.1) (ci := 10) (v := .ref m0H) (C := RX11) (T := TX11) (N := 21) hx hb hts (fun _ h => List.mem_cons_of_mem _ (List.mem_append_right _ h)) hown hK hP 0 rfl rfl 6 (by decide) (hts _ (List.mem_of_getElem? (i := 1) rfl)) (fun _ h9 => h9) rfl dX11_layHand_9 ?_
    refine lv_iload_n hx hb dX11_layHand_12 rfl (lv_at hl 0 rfl) ?_
    refine lv_aload_n hx hb dX11_layHand_13 rfl (lv_at hl 1 rfl) ?_
    refine va_get (D := G.1) (ci := 10) (v := .ref m0A) (C := RX11) (T := TX11) (N := 21) hx hb hts (fun _ h => List.mem_cons_of_mem _ (List.mem_append_right _ h)) hown hK hP 0 rfl rfl 0 (by decide) (hts _ (List.mem_of_getElem? (i := 2) rfl)) (fun _ h9 => h9) rfl dX11_layHand_14 ?_
    refine lv_iload_n hx hb dX11_layHand_17 rfl (lv_at hl 0 rfl) ?_
    refine va_iald hx hb hK hP 1 0 rfl rfl (vp_in_nI (n := k) (N := 311) (by omega) (by omega)) dX11_layHand_18 ?_
    refine g_topi (y := 0) rfl ?_
    refine va_iast hx hb hK hP hD hS 2 0 rfl rfl (vp_in_nI (n := k) (N := 56) (by omega) (by omega)) dX11_layHand_19 (fun H locs hP hD hS => ?_)
    rw [upd_zz] at hP hD
    have hP : va_P G.1 vwCl [(m0, .inr (10, [.ref m0A, .ref m0K, .ref m0I, .ref m0R, .long 0, .long 1, .ref m0H, .ref m0F, .ref m0W, .ref m0L, .ref m0B, .ref m0T, .ref m0O, .ref m0Y, .int 0, .int 0, .int 0, .int 0, .int 0, .ref m0N, .ref m0V])), (m0A, .inl (G.2 0, 311, .inl (fun _ => 0))), (m0H, .inl (G.2 0, 56, .inl (fun _ => 0)))] H := hP
    have hD : va_D A [(m0, .inr (10, [.ref m0A, .ref m0K, .ref m0I, .ref m0R, .long 0, .long 1, .ref m0H, .ref m0F, .ref m0W, .ref m0L, .ref m0B, .ref m0T, .ref m0O, .ref m0Y, .int 0, .int 0, .int 0, .int 0, .int 0, .ref m0N, .ref m0V])), (m0A, .inl (G.2 0, 311, .inl (fun _ => 0))), (m0H, .inl (G.2 0, 56, .inl (fun _ => 0)))] := hD
    refine lv_iinc (v := (nI (k + 1))) (lv' := [(1, .int (nI (k + 1))), (0, .ref m0)]) hx hb dX11_layHand_20 hl (k := 0) rfl (nI_1 k) (by decide) rfl (fun ls hl => ?_)
    refine lv_goto (tgt := 2) hx hb dX11_layHand_23 (by decide) ?_
    exact ih _ _ _ hlt ⟨hP, hD, hS, lv_sub hl [0, 1] rfl⟩
  · have hkE : 56 = k := by omega
    subst hkE
    refine lv_iload_n hx hb dX11_layHand_2 rfl (lv_at hl 0 rfl) ?_
    refine lv_bipush (v := 56) hx hb dX11_layHand_3 (by decide) ?_
    refine lv_icmp_ge (tgt := 26) hx hb dX11_layHand_5 (by decide) (fun _ => ?_) (fun c_2 => g_no (by decide) c_2)
    exact g_vret hx hb hr hlocks hP hD hS (rfl) dX11_layHand_26
theorem dX11_save_0 : decode cX11_save 0 = .ok (.aload_n 0, 1) := by decide +kernel
theorem dX11_save_1 : decode cX11_save 1 = .ok (.getfield 7, 3) := by decide +kernel
theorem dX11_save_4 : decode cX11_save 4 = .ok (.iconst 5, 1) := by decide +kernel
theorem dX11_save_5 : decode cX11_save 5 = .ok (.iaload, 1) := by decide +kernel
theorem dX11_save_6 : decode cX11_save 6 = .ok (.bipush 8, 2) := by decide +kernel
theorem dX11_save_8 : decode cX11_save 8 = .ok (.if_icmp .ne 46, 3) := by decide +kernel
theorem dX11_save_54 : decode cX11_save 54 = .ok (.iconst 0, 1) := by decide +kernel
theorem dX11_save_55 : decode cX11_save 55 = .ok (.istore_n 1, 1) := by decide +kernel
theorem dX11_save_56 : decode cX11_save 56 = .ok (.iload_n 1, 1) := by decide +kernel
theorem dX11_save_57 : decode cX11_save 57 = .ok (.bipush 22, 2) := by decide +kernel
theorem dX11_save_59 : decode cX11_save 59 = .ok (.if_icmp .ge 38, 3) := by decide +kernel
theorem dX11_save_62 : decode cX11_save 62 = .ok (.aload_n 0, 1) := by decide +kernel
theorem dX11_save_63 : decode cX11_save 63 = .ok (.getfield 7, 3) := by decide +kernel
theorem dX11_save_66 : decode cX11_save 66 = .ok (.sipush 135, 3) := by decide +kernel
theorem dX11_save_69 : decode cX11_save 69 = .ok (.bipush 22, 2) := by decide +kernel
theorem dX11_save_71 : decode cX11_save 71 = .ok (.aload_n 0, 1) := by decide +kernel
theorem dX11_save_72 : decode cX11_save 72 = .ok (.getfield 7, 3) := by decide +kernel
theorem dX11_save_75 : decode cX11_save 75 = .ok (.iconst 5, 1) := by decide +kernel
theorem dX11_save_76 : decode cX11_save 76 = .ok (.iaload, 1) := by decide +kernel
theorem dX11_save_77 : decode cX11_save 77 = .ok (.imul, 1) := by decide +kernel
theorem dX11_save_78 : decode cX11_save 78 = .ok (.iadd, 1) := by decide +kernel
theorem dX11_save_79 : decode cX11_save 79 = .ok (.iload_n 1, 1) := by decide +kernel
theorem dX11_save_80 : decode cX11_save 80 = .ok (.iadd, 1) := by decide +kernel
theorem dX11_save_81 : decode cX11_save 81 = .ok (.aload_n 0, 1) := by decide +kernel
theorem dX11_save_82 : decode cX11_save 82 = .ok (.getfield 7, 3) := by decide +kernel
theorem dX11_save_85 : decode cX11_save 85 = .ok (.bipush 6, 2) := by decide +kernel
theorem dX11_save_87 : decode cX11_save 87 = .ok (.iload_n 1, 1) := by decide +kernel
theorem dX11_save_88 : decode cX11_save 88 = .ok (.iadd, 1) := by decide +kernel
theorem dX11_save_89 : decode cX11_save 89 = .ok (.iaload, 1) := by decide +kernel
theorem dX11_save_90 : decode cX11_save 90 = .ok (.iastore, 1) := by decide +kernel
theorem dX11_save_91 : decode cX11_save 91 = .ok (.iinc 1 1, 3) := by decide +kernel
theorem dX11_save_94 : decode cX11_save 94 = .ok (.goto (-38), 3) := by decide +kernel
theorem dX11_save_97 : decode cX11_save 97 = .ok (.aload_n 0, 1) := by decide +kernel
theorem dX11_save_98 : decode cX11_save 98 = .ok (.getfield 7, 3) := by decide +kernel
theorem dX11_save_101 : decode cX11_save 101 = .ok (.iconst 5, 1) := by decide +kernel
theorem dX11_save_102 : decode cX11_save 102 = .ok (.dup2, 1) := by decide +kernel
theorem dX11_save_103 : decode cX11_save 103 = .ok (.iaload, 1) := by decide +kernel
theorem dX11_save_104 : decode cX11_save 104 = .ok (.iconst 1, 1) := by decide +kernel
theorem dX11_save_105 : decode cX11_save 105 = .ok (.iadd, 1) := by decide +kernel
theorem dX11_save_106 : decode cX11_save 106 = .ok (.iastore, 1) := by decide +kernel
theorem dX11_save_107 : decode cX11_save 107 = .ok (.return_, 1) := by decide +kernel
set_option maxHeartbeats 8000000 in
set_option maxRecDepth 100000 in
theorem c_X11_save (l : Launch) (G : gG) (m0 : Nat) (m0A : Nat) (m0K : Nat) (m0I : Nat) (m0R : Nat) (m0H : Nat) (m0F : Nat) (m0W : Nat) (m0L : Nat) (m0B : Nat) (m0T : Nat) (m0O : Nat) (m0Y : Nat) (m0N : Nat) (m0V : Nat) (sz : Nat) : gV G l yX11_save wsX11_save ({ frames := 0, cells := 0, slots := 0, locals := 0 } : Room) [.ref m0] [(m0, .inr (10, [.ref m0A, .ref m0K, .ref m0I, .ref m0R, .long 0, .long 1, .ref m0H, .ref m0F, .ref m0W, .ref m0L, .ref m0B, .ref m0T, .ref m0O, .ref m0Y, .int 0, .int 0, .int 0, .int 0, .int 0, .ref m0N, .ref m0V])), (m0A, .inl (G.2 0, 311, .inl (fun _ => 0)))] sz (fun (u : va_W) => (u = [(m0, .inr (10, [.ref m0A, .ref m0K, .ref m0I, .ref m0R, .long 0, .long 1, .ref m0H, .ref m0F, .ref m0W, .ref m0L, .ref m0B, .ref m0T, .ref m0O, .ref m0Y, .int 0, .int 0, .int 0, .int 0, .int 0, .ref m0N, .ref m0V])), (m0A, .inl (G.2 0, 311, .inl (upd (fun _ => 0) 5 1)))])) := by
  refine Met.ofW (cc := cX11_save) (maxL := 2) (ret := none) (by decide) rfl ?_
  intro p e s m args below meth c s₁ B hml hv
  obtain ⟨rfl, hsz, hP, hK, hD0, hN⟩ := hv
  have hx := B.exec
  have hb := B.bytes
  have hr := B.returns
  have hts := atoms_spec (ws := wsX11_save) B.pre
  have hown : s.vm.findClass RX11 = some m.cls := findClass_of_methodNamed B.named
  have hlocks := B.notSynchronized
  subst hsz
  have hD := hD0.self (sz := s.heap.size)
  generalize hAe : va_A [(m0, .inr (10, [.ref m0A, .ref m0K, .ref m0I, .ref m0R, .long 0, .long 1, .ref m0H, .ref m0F, .ref m0W, .ref m0L, .ref m0B, .ref m0T, .ref m0O, .ref m0Y, .int 0, .int 0, .int 0, .int 0, .int 0, .ref m0N, .ref m0V])), (m0A, .inl (G.2 0, 311, .inl (fun _ => 0)))] s.heap.size = A at hD ⊢
  have hA : ∀ q : Nat, s.heap.size ≤ q → A q := fun q h => by rw [← hAe]; exact Or.inr h
  have hS : va_S A s.heap s.heap [] := va_S.rf
  have hP : va_P G.1 vwCl [(m0, .inr (10, [.ref m0A, .ref m0K, .ref m0I, .ref m0R, .long 0, .long 1, .ref m0H, .ref m0F, .ref m0W, .ref m0L, .ref m0B, .ref m0T, .ref m0O, .ref m0Y, .int 0, .int 0, .int 0, .int 0, .int 0, .ref m0N, .ref m0V])), (m0A, .inl (G.2 0, 311, .inl (fun _ => 0)))] s.heap := hP
  have hl := lv_entry ([.ref m0]) (n := 2) (Nat.le_of_ble_eq_true rfl)
  rw [lg_entry_eq]
  generalize (lg_sl ([.ref m0]) ++ List.replicate (2 - (lg_sl ([.ref m0])).length) Slot.unset).toArray = ls at hl ⊢
  have hl : lv_has ls 2 [(0, .ref m0)] := hl
  refine lv_aload_n hx hb dX11_save_0 rfl (lv_at hl 0 rfl) ?_
  refine va_get (D := G.1) (ci := 10) (v := .ref m0A) (C := RX11) (T := TX11) (N := 21) hx hb hts (fun _ h => List.mem_cons_of_mem _ (List.mem_append_right _ h)) hown hK hP 0 rfl rfl 0 (by decide) (hts _ (List.mem_of_getElem? (i := 1) rfl)) (fun _ h9 => h9) rfl dX11_save_1 ?_
  refine lv_iconst (v := 5) hx hb dX11_save_4 (by decide) ?_
  refine va_iald hx hb hK hP 1 0 rfl rfl (by unfold vp_in; decide) dX11_save_5 ?_
  refine g_topi (y := 0) rfl ?_
  refine lv_bipush (v := 8) hx hb dX11_save_6 (by decide) ?_
  refine lv_icmp_ne (tgt := 54) hx hb dX11_save_8 (by decide) (fun _ => ?_) (fun c_1 => g_no c_1 (by decide))
  refine lv_iconst (v := 0) hx hb dX11_save_54 (by decide) ?_
  refine lv_istore_n (lv' := [(1, .int 0), (0, .ref m0)]) hx hb dX11_save_55 rfl hl (by decide) rfl (fun ls hl => ?_)
  refine g_loop (pc := 56) (22) (fun k H locs ls => va_P G.1 vwCl [(m0, .inr (10, [.ref m0A, .ref m0K, .ref m0I, .ref m0R, .long 0, .long 1, .ref m0H, .ref m0F, .ref m0W, .ref m0L, .ref m0B, .ref m0T, .ref m0O, .ref m0Y, .int 0, .int 0, .int 0, .int 0, .int 0, .ref m0N, .ref m0V])), (m0A, .inl (G.2 0, 311, .inl (fun _ => 0)))] H ∧ va_D A [(m0, .inr (10, [.ref m0A, .ref m0K, .ref m0I, .ref m0R, .long 0, .long 1, .ref m0H, .ref m0F, .ref m0W, .ref m0L, .ref m0B, .ref m0T, .ref m0O, .ref m0Y, .int 0, .int 0, .int 0, .int 0, .int 0, .ref m0N, .ref m0V])), (m0A, .inl (G.2 0, 311, .inl (fun _ => 0)))] ∧ va_S A s.heap H locs ∧ lv_has ls 2 [(1, .int (nI k)), (0, .ref m0)]) ?_ ⟨hP, hD, hS, lv_sub hl [0, 1] rfl⟩
  intro k H locs ls hkN ih hI
  obtain ⟨hP, hD, hS, hl⟩ := hI
  rcases Nat.lt_or_ge k (22) with hlt | hge
  · refine lv_iload_n hx hb dX11_save_56 rfl (lv_at hl 0 rfl) ?_
    refine lv_bipush (v := 22) hx hb dX11_save_57 (by decide) ?_
    refine lv_icmp_ge (tgt := 97) hx hb dX11_save_59 (by decide) (fun c_2 => g_no c_2 (nI_ge (a := k) (b := 22) hlt (by omega))) (fun _ => ?_)
    refine lv_aload_n hx hb dX11_save_62 rfl (lv_at hl 1 rfl) ?_
    refine va_get (D := G.1) (ci := 10) (v := .ref m0A) (C := RX11) (T := TX11) (N := 21) hx hb hts (fun _ h => List.mem_cons_of_mem _ (List.mem_append_right _ h)) hown hK hP 0 rfl rfl 0 (by decide) (hts _ (List.mem_of_getElem? (i := 1) rfl)) (fun _ h9 => h9) rfl dX11_save_63 ?_
    refine lv_sipush (v := 135) hx hb dX11_save_66 (by decide) ?_
    refine lv_bipush (v := 22) hx hb dX11_save_69 (by decide) ?_
    refine lv_aload_n hx hb dX11_save_71 rfl (lv_at hl 1 rfl) ?_
    refine va_get (D := G.1) (ci := 10) (v := .ref m0A) (C := RX11) (T := TX11) (N := 21) hx hb hts (fun _ h => List.mem_cons_of_mem _ (List.mem_append_right _ h)) hown hK hP 0 rfl rfl 0 (by decide) (hts _ (List.mem_of_getElem? (i := 1) rfl)) (fun _ h9 => h9) rfl dX11_save_72 ?_
    refine lv_iconst (v := 5) hx hb dX11_save_75 (by decide) ?_
    refine va_iald hx hb hK hP 1 0 rfl rfl (by unfold vp_in; decide) dX11_save_76 ?_
    refine g_topi (y := 0) rfl ?_
    refine lv_imul hx hb dX11_save_77 ?_
    refine g_topi (y := 0) (by decide) ?_
    refine lv_iadd hx hb dX11_save_78 ?_
    refine g_topi (y := 135) (by decide) ?_
    refine lv_iload_n hx hb dX11_save_79 rfl (lv_at hl 0 rfl) ?_
    refine lv_iadd hx hb dX11_save_80 ?_
    refine g_topi (y := (nI (135 + k))) (nI_add (135) (k)) ?_
    refine lv_aload_n hx hb dX11_save_81 rfl (lv_at hl 1 rfl) ?_
    refine va_get (D := G.1) (ci := 10) (v := .ref m0A) (C := RX11) (T := TX11) (N := 21) hx hb hts (fun _ h => List.mem_cons_of_mem _ (List.mem_append_right _ h)) hown hK hP 0 rfl rfl 0 (by decide) (hts _ (List.mem_of_getElem? (i := 1) rfl)) (fun _ h9 => h9) rfl dX11_save_82 ?_
    refine lv_bipush (v := 6) hx hb dX11_save_85 (by decide) ?_
    refine lv_iload_n hx hb dX11_save_87 rfl (lv_at hl 0 rfl) ?_
    refine lv_iadd hx hb dX11_save_88 ?_
    refine g_topi (y := (nI (6 + k))) (nI_add (6) (k)) ?_
    refine va_iald hx hb hK hP 1 0 rfl rfl (vp_in_nI (n := (6 + k)) (N := 311) (by omega) (by omega)) dX11_save_89 ?_
    refine g_topi (y := 0) rfl ?_
    refine va_iast hx hb hK hP hD hS 1 0 rfl rfl (vp_in_nI (n := (135 + k)) (N := 311) (by omega) (by omega)) dX11_save_90 (fun H locs hP hD hS => ?_)
    rw [upd_zz] at hP hD
    have hP : va_P G.1 vwCl [(m0, .inr (10, [.ref m0A, .ref m0K, .ref m0I, .ref m0R, .long 0, .long 1, .ref m0H, .ref m0F, .ref m0W, .ref m0L, .ref m0B, .ref m0T, .ref m0O, .ref m0Y, .int 0, .int 0, .int 0, .int 0, .int 0, .ref m0N, .ref m0V])), (m0A, .inl (G.2 0, 311, .inl (fun _ => 0)))] H := hP
    have hD : va_D A [(m0, .inr (10, [.ref m0A, .ref m0K, .ref m0I, .ref m0R, .long 0, .long 1, .ref m0H, .ref m0F, .ref m0W, .ref m0L, .ref m0B, .ref m0T, .ref m0O, .ref m0Y, .int 0, .int 0, .int 0, .int 0, .int 0, .ref m0N, .ref m0V])), (m0A, .inl (G.2 0, 311, .inl (fun _ => 0)))] := hD
    refine lv_iinc (v := (nI (k + 1))) (lv' := [(1, .int (nI (k + 1))), (0, .ref m0)]) hx hb dX11_save_91 hl (k := 0) rfl (nI_1 k) (by decide) rfl (fun ls hl => ?_)
    refine lv_goto (tgt := 56) hx hb dX11_save_94 (by decide) ?_
    exact ih _ _ _ hlt ⟨hP, hD, hS, lv_sub hl [0, 1] rfl⟩
  · have hkE : 22 = k := by omega
    subst hkE
    refine lv_iload_n hx hb dX11_save_56 rfl (lv_at hl 0 rfl) ?_
    refine lv_bipush (v := 22) hx hb dX11_save_57 (by decide) ?_
    refine lv_icmp_ge (tgt := 97) hx hb dX11_save_59 (by decide) (fun _ => ?_) (fun c_3 => g_no (by decide) c_3)
    refine lv_aload_n hx hb dX11_save_97 rfl (lv_at hl 1 rfl) ?_
    refine va_get (D := G.1) (ci := 10) (v := .ref m0A) (C := RX11) (T := TX11) (N := 21) hx hb hts (fun _ h => List.mem_cons_of_mem _ (List.mem_append_right _ h)) hown hK hP 0 rfl rfl 0 (by decide) (hts _ (List.mem_of_getElem? (i := 1) rfl)) (fun _ h9 => h9) rfl dX11_save_98 ?_
    refine lv_iconst (v := 5) hx hb dX11_save_101 (by decide) ?_
    refine lv_dup2_11 hx hb dX11_save_102 rfl rfl ?_
    refine va_iald hx hb hK hP 1 0 rfl rfl (by unfold vp_in; decide) dX11_save_103 ?_
    refine g_topi (y := 0) rfl ?_
    refine lv_iconst (v := 1) hx hb dX11_save_104 (by decide) ?_
    refine lv_iadd hx hb dX11_save_105 ?_
    refine g_topi (y := 1) (by decide) ?_
    refine va_iast hx hb hK hP hD hS 1 0 rfl rfl (by unfold vp_in; decide) dX11_save_106 (fun H locs hP hD hS => ?_)
    have hP : va_P G.1 vwCl [(m0, .inr (10, [.ref m0A, .ref m0K, .ref m0I, .ref m0R, .long 0, .long 1, .ref m0H, .ref m0F, .ref m0W, .ref m0L, .ref m0B, .ref m0T, .ref m0O, .ref m0Y, .int 0, .int 0, .int 0, .int 0, .int 0, .ref m0N, .ref m0V])), (m0A, .inl (G.2 0, 311, .inl (upd (fun _ => 0) 5 1)))] H := hP
    have hD : va_D A [(m0, .inr (10, [.ref m0A, .ref m0K, .ref m0I, .ref m0R, .long 0, .long 1, .ref m0H, .ref m0F, .ref m0W, .ref m0L, .ref m0B, .ref m0T, .ref m0O, .ref m0Y, .int 0, .int 0, .int 0, .int 0, .int 0, .ref m0N, .ref m0V])), (m0A, .inl (G.2 0, 311, .inl (upd (fun _ => 0) 5 1)))] := hD
    exact g_vret hx hb hr hlocks hP hD hS (rfl) dX11_save_107
theorem dX11_goDays_0 : decode cX11_goDays 0 = .ok (.iconst 0, 1) := by decide +kernel
theorem dX11_goDays_1 : decode cX11_goDays 1 = .ok (.istore_n 2, 1) := by decide +kernel
theorem dX11_goDays_2 : decode cX11_goDays 2 = .ok (.iload_n 2, 1) := by decide +kernel
theorem dX11_goDays_3 : decode cX11_goDays 3 = .ok (.iload_n 1, 1) := by decide +kernel
theorem dX11_goDays_4 : decode cX11_goDays 4 = .ok (.if_icmp .ge 23, 3) := by decide +kernel
theorem dX11_goDays_7 : decode cX11_goDays 7 = .ok (.aload_n 0, 1) := by decide +kernel
theorem dX11_goDays_8 : decode cX11_goDays 8 = .ok (.bipush 27, 2) := by decide +kernel
theorem dX11_goDays_10 : decode cX11_goDays 10 = .ok (.iaload, 1) := by decide +kernel
theorem dX11_goDays_11 : decode cX11_goDays 11 = .ok (.sipush 999, 3) := by decide +kernel
theorem dX11_goDays_14 : decode cX11_goDays 14 = .ok (.if_icmp .ge 13, 3) := by decide +kernel
theorem dX11_goDays_17 : decode cX11_goDays 17 = .ok (.aload_n 0, 1) := by decide +kernel
set_option maxRecDepth 20000 in
theorem ggX11_goDays_X11_goDay : GoodIn wsX11_goDays wsX11_goDay := goodIn_r _ [4, 5, 6, 3, 7] (by decide +kernel) (by decide +kernel)
set_option maxRecDepth 20000 in
theorem gX11_goDays_X11_goDay : GoodIn wsX11_goDays (va_wsS RX11 128 yX11_goDay wsX11_goDay) := goodIn_app (goodIn_of _ (by decide +kernel)) ggX11_goDays_X11_goDay
theorem dX11_goDays_18 : decode cX11_goDays 18 = .ok (.invokestatic 128, 3) := by decide +kernel
theorem dX11_goDays_21 : decode cX11_goDays 21 = .ok (.iinc 2 1, 3) := by decide +kernel
theorem dX11_goDays_24 : decode cX11_goDays 24 = .ok (.goto (-22), 3) := by decide +kernel
theorem dX11_goDays_27 : decode cX11_goDays 27 = .ok (.return_, 1) := by decide +kernel
set_option maxHeartbeats 8000000 in
set_option maxRecDepth 100000 in
theorem c_X11_goDays (l : Launch) (G : gG) (b0 : Nat) (f0 : Nat → Int32) (j : Nat) (hf : f0 0 = 0) (hf27 : f0 27 = 0) (hj : j ≤ 60) (sz : Nat) : gV G l yX11_goDays wsX11_goDays ({ frames := 1, cells := 0, slots := 0, locals := 21 } : Room) [.ref b0, .int (nI j)] [(b0, .inl (G.2 0, 311, .inl f0))] sz (fun (u : va_W) => (∃ f1 : Nat → Int32, f1 0 = 0 ∧ u = [(b0, .inl (G.2 0, 311, .inl f1))])) := by
  refine Met.ofW (cc := cX11_goDays) (maxL := 3) (ret := none) (by decide) rfl ?_
  intro p e s m args below meth c s₁ B hml hv
  obtain ⟨rfl, hsz, hP, hK, hD0, hN⟩ := hv
  have hx := B.exec
  have hb := B.bytes
  have hr := B.returns
  have hts := atoms_spec (ws := wsX11_goDays) B.pre
  have hown : s.vm.findClass RX11 = some m.cls := findClass_of_methodNamed B.named
  have hlocks := B.notSynchronized
  subst hsz
  have hD := hD0.self (sz := s.heap.size)
  generalize hAe : va_A [(b0, .inl (G.2 0, 311, .inl f0))] s.heap.size = A at hD ⊢
  have hA : ∀ q : Nat, s.heap.size ≤ q → A q := fun q h => by rw [← hAe]; exact Or.inr h
  have hS : va_S A s.heap s.heap [] := va_S.rf
  have hP : va_P G.1 vwCl [(b0, .inl (G.2 0, 311, .inl f0))] s.heap := hP
  have hl := lv_entry ([.ref b0, .int (nI j)]) (n := 3) (Nat.le_of_ble_eq_true rfl)
  rw [lg_entry_eq]
  generalize (lg_sl ([.ref b0, .int (nI j)]) ++ List.replicate (3 - (lg_sl ([.ref b0, .int (nI j)])).length) Slot.unset).toArray = ls at hl ⊢
  have hl : lv_has ls 3 [(0, .ref b0), (1, .int (nI j))] := hl
  refine lv_iconst (v := 0) hx hb dX11_goDays_0 (by decide) ?_
  refine lv_istore_n (lv' := [(2, .int 0), (0, .ref b0), (1, .int (nI j))]) hx hb dX11_goDays_1 rfl hl (by decide) rfl (fun ls hl => ?_)
  refine g_loop (pc := 2) (j) (fun k H locs ls => ∃ ff : Nat → Int32, ff 0 = 0 ∧ ff 27 = nI k ∧ va_P G.1 vwCl [(b0, .inl (G.2 0, 311, .inl ff))] H ∧ va_D A [(b0, .inl (G.2 0, 311, .inl ff))] ∧ va_S A s.heap H locs ∧ lv_has ls 3 [(2, .int (nI k)), (0, .ref b0), (1, .int (nI j))]) ?_ ⟨f0, hf, hf27, hP, hD, hS, lv_sub hl [0, 1, 2] rfl⟩
  intro k H locs ls hkN ih hI
  obtain ⟨ff, h0f, h27, hP, hD, hS, hl⟩ := hI
  rcases Nat.lt_or_ge k (j) with hlt | hge
  · refine lv_iload_n hx hb dX11_goDays_2 rfl (lv_at hl 0 rfl) ?_
    refine lv_iload_n hx hb dX11_goDays_3 rfl (lv_at hl 2 rfl) ?_
    refine lv_icmp_ge (tgt := 27) hx hb dX11_goDays_4 (by decide) (fun c_1 => g_no c_1 (nI_ge (a := k) (b := j) hlt (by omega))) (fun _ => ?_)
    refine lv_aload_n hx hb dX11_goDays_7 rfl (lv_at hl 1 rfl) ?_
    refine lv_bipush (v := 27) hx hb dX11_goDays_8 (by decide) ?_
    refine va_iald hx hb hK hP 0 0 rfl rfl (by unfold vp_in; decide) dX11_goDays_10 ?_
    refine g_topi (y := (nI k)) h27 ?_
    refine lv_sipush (v := 999) hx hb dX11_goDays_11 (by decide) ?_
    refine lv_icmp_ge (tgt := 27) hx hb dX11_goDays_14 (by decide) (fun c_2 => g_no c_2 (nI_ge (a := k) (b := 999) (by omega) (by decide))) (fun _ => ?_)
    refine lv_aload_n hx hb dX11_goDays_17 rfl (lv_at hl 1 rfl) ?_
    refine g_callv (wr := []) (va_runS (As := [.ref b0]) (rest := []) ⟨hx, hb, hml, hown, hts⟩ (c_X11_goDay_311 l G (b0) (ff) (h0f) _) (va_cwS 1 hts gX11_goDays_X11_goDay rfl rfl rfl (by decide +kernel) ⟨Nat.le_of_ble_eq_true rfl, Nat.le_of_ble_eq_true rfl⟩) (g_preS [.ref b0] hP hD hK hN [0] rfl rfl) rfl rfl hl.1 rfl (lv_room (Nat.le_of_ble_eq_true rfl)) dX11_goDays_18 ⟨Nat.le_of_ble_eq_true rfl, Nat.le_of_ble_eq_true rfl⟩) hP hD hS hA [0] [] rfl rfl rfl (by decide) (fun u H locs hw hP hD hS => ?_)
    subst hw
    have hP : va_P G.1 vwCl [(b0, .inl (G.2 0, 311, .inl (upd ff 27 ((ff 27) + 1))))] H := hP
    have hD : va_D A [(b0, .inl (G.2 0, 311, .inl (upd ff 27 ((ff 27) + 1))))] := hD
    refine lv_iinc (v := (nI (k + 1))) (lv' := [(2, .int (nI (k + 1))), (0, .ref b0), (1, .int (nI j))]) hx hb dX11_goDays_21 hl (k := 0) rfl (nI_1 k) (by decide) rfl (fun ls hl => ?_)
    refine lv_goto (tgt := 2) hx hb dX11_goDays_24 (by decide) ?_
    exact ih _ _ _ hlt ⟨(upd ff 27 ((ff 27) + 1)), h0f, (congrArg (fun x => x + 1) h27).trans (nI_1 k), hP, hD, hS, lv_sub hl [0, 1, 2] rfl⟩
  · have hkE : j = k := by omega
    subst hkE
    refine lv_iload_n hx hb dX11_goDays_2 rfl (lv_at hl 0 rfl) ?_
    refine lv_iload_n hx hb dX11_goDays_3 rfl (lv_at hl 2 rfl) ?_
    refine lv_icmp_ge (tgt := 27) hx hb dX11_goDays_4 (by decide) (fun _ => ?_) (fun c_3 => g_no (nI_le (a := j) (b := j) (Nat.le_refl _) (by omega)) c_3)
    exact g_vret hx hb hr hlocks hP hD hS (⟨ff, h0f, rfl⟩) dX11_goDays_27
theorem dX11_days_0 : decode cX11_days 0 = .ok (.iload_n 1, 1) := by decide +kernel
theorem dX11_days_1 : decode cX11_days 1 = .ok (.i2l, 1) := by decide +kernel
theorem dX11_days_2 : decode cX11_days 2 = .ok (.lconst 1, 1) := by decide +kernel
theorem dX11_days_3 : decode cX11_days 3 = .ok (.ldc2_w 131, 3) := by decide +kernel
set_option maxRecDepth 20000 in
theorem ggX11_days_X11_in : GoodIn wsX11_days wsX11_in := goodIn_r _ [6] (by decide +kernel) (by decide +kernel)
set_option maxRecDepth 20000 in
theorem gX11_days_X11_in : GoodIn wsX11_days (va_wsS RX11 65 yX11_in wsX11_in) := goodIn_app (goodIn_of _ (by decide +kernel)) ggX11_days_X11_in
theorem dX11_days_6 : decode cX11_days 6 = .ok (.invokestatic 65, 3) := by decide +kernel
theorem dX11_days_9 : decode cX11_days 9 = .ok (.ifCond .ne 10, 3) := by decide +kernel
theorem dX11_days_19 : decode cX11_days 19 = .ok (.aload_n 0, 1) := by decide +kernel
set_option maxRecDepth 20000 in
theorem ggX11_days_X11_save : GoodIn wsX11_days wsX11_save := goodIn_r _ [15, 2, 28, 29, 30, 31, 32, 33, 34, 35, 36, 37, 38, 39, 40, 41, 42, 43, 44, 45, 46, 47, 48] (by decide +kernel) (by decide +kernel)
set_option maxRecDepth 20000 in
theorem gX11_days_X11_save : GoodIn wsX11_days (wsV RX11 133 RX11 yX11_save wsX11_save) := goodIn_app (goodIn_of _ (by decide +kernel)) ggX11_days_X11_save
theorem dX11_days_20 : decode cX11_days 20 = .ok (.invokevirtual 133, 3) := by decide +kernel
theorem dX11_days_23 : decode cX11_days 23 = .ok (.aload_n 0, 1) := by decide +kernel
theorem dX11_days_24 : decode cX11_days 24 = .ok (.getfield 7, 3) := by decide +kernel
theorem dX11_days_27 : decode cX11_days 27 = .ok (.iload_n 1, 1) := by decide +kernel
set_option maxRecDepth 20000 in
theorem ggX11_days_X11_goDays : GoodIn wsX11_days wsX11_goDays := goodIn_r _ [18, 19, 20, 5, 21, 22, 23, 24] (by decide +kernel) (by decide +kernel)
set_option maxRecDepth 20000 in
theorem gX11_days_X11_goDays : GoodIn wsX11_days (va_wsS RX11 136 yX11_goDays wsX11_goDays) := goodIn_app (goodIn_of _ (by decide +kernel)) ggX11_days_X11_goDays
theorem dX11_days_28 : decode cX11_days 28 = .ok (.invokestatic 136, 3) := by decide +kernel
theorem dX11_days_31 : decode cX11_days 31 = .ok (.aload_n 0, 1) := by decide +kernel
theorem dX11_days_32 : decode cX11_days 32 = .ok (.getfield 7, 3) := by decide +kernel
theorem dX11_days_35 : decode cX11_days 35 = .ok (.iconst 0, 1) := by decide +kernel
set_option maxRecDepth 20000 in
theorem ggX11_days_X11_manyWith : GoodIn wsX11_days wsX11_manyWith := goodIn_r _ [27] (by decide +kernel) (by decide +kernel)
set_option maxRecDepth 20000 in
theorem gX11_days_X11_manyWith : GoodIn wsX11_days (va_wsS RX11 140 yX11_manyWith wsX11_manyWith) := goodIn_app (goodIn_of _ (by decide +kernel)) ggX11_days_X11_manyWith
theorem dX11_days_36 : decode cX11_days 36 = .ok (.invokestatic 140, 3) := by decide +kernel
theorem dX11_days_39 : decode cX11_days 39 = .ok (.ireturn, 1) := by decide +kernel
theorem dX11_days_12 : decode cX11_days 12 = .ok (.aload_n 0, 1) := by decide +kernel
theorem dX11_days_13 : decode cX11_days 13 = .ok (.bipush (-2), 2) := by decide +kernel
set_option maxRecDepth 20000 in
theorem ggX11_days_X11_bad : GoodIn wsX11_days wsX11_bad := goodIn_r _ [10, 11, 28, 29, 30, 31, 32, 33, 34, 35, 36, 37, 38, 39, 40, 41, 42, 43, 44, 45, 46, 47, 48] (by decide +kernel) (by decide +kernel)
set_option maxRecDepth 20000 in
theorem gX11_days_X11_bad : GoodIn wsX11_days (wsV RX11 79 RX11 yX11_bad wsX11_bad) := goodIn_app (goodIn_of _ (by decide +kernel)) ggX11_days_X11_bad
theorem dX11_days_15 : decode cX11_days 15 = .ok (.invokevirtual 79, 3) := by decide +kernel
theorem dX11_days_18 : decode cX11_days 18 = .ok (.ireturn, 1) := by decide +kernel
set_option maxHeartbeats 8000000 in
set_option maxRecDepth 100000 in
theorem c_X11_days (l : Launch) (G : gG) (m0 : Nat) (m0A : Nat) (m0K : Nat) (m0I : Nat) (m0R : Nat) (m0H : Nat) (m0F : Nat) (m0W : Nat) (m0L : Nat) (m0B : Nat) (m0T : Nat) (m0O : Nat) (m0Y : Nat) (m0N : Nat) (m0V : Nat) (a1 : Int32) (sz : Nat) : gI G l yX11_days wsX11_days ({ frames := 2, cells := 0, slots := 0, locals := 43 } : Room) [.ref m0, .int a1] [(m0, .inr (10, [.ref m0A, .ref m0K, .ref m0I, .ref m0R, .long 0, .long 1, .ref m0H, .ref m0F, .ref m0W, .ref m0L, .ref m0B, .ref m0T, .ref m0O, .ref m0Y, .int 0, .int 0, .int 0, .int 0, .int 0, .ref m0N, .ref m0V])), (m0A, .inl (G.2 0, 311, .inl (fun _ => 0))), (m0R, .inl (G.2 0, 3, .inl (fun _ => 0)))] sz (fun (r : Int32) (u : va_W) => (r = (F_days a1) ∧ u = [])) := by
  refine Met.ofW (cc := cX11_days) (maxL := 2) (ret := (some .int)) (by decide) rfl ?_
  intro p e s m args below meth c s₁ B hml hv
  obtain ⟨rfl, hsz, hP, hK, hD0, hN⟩ := hv
  have hx := B.exec
  have hb := B.bytes
  have hr := B.returns
  have hts := atoms_spec (ws := wsX11_days) B.pre
  have hown : s.vm.findClass RX11 = some m.cls := findClass_of_methodNamed B.named
  have hlocks := B.notSynchronized
  subst hsz
  have hD := hD0.self (sz := s.heap.size)
  generalize hAe : va_A [(m0, .inr (10, [.ref m0A, .ref m0K, .ref m0I, .ref m0R, .long 0, .long 1, .ref m0H, .ref m0F, .ref m0W, .ref m0L, .ref m0B, .ref m0T, .ref m0O, .ref m0Y, .int 0, .int 0, .int 0, .int 0, .int 0, .ref m0N, .ref m0V])), (m0A, .inl (G.2 0, 311, .inl (fun _ => 0))), (m0R, .inl (G.2 0, 3, .inl (fun _ => 0)))] s.heap.size = A at hD ⊢
  have hA : ∀ q : Nat, s.heap.size ≤ q → A q := fun q h => by rw [← hAe]; exact Or.inr h
  have hS : va_S A s.heap s.heap [] := va_S.rf
  have hP : va_P G.1 vwCl [(m0, .inr (10, [.ref m0A, .ref m0K, .ref m0I, .ref m0R, .long 0, .long 1, .ref m0H, .ref m0F, .ref m0W, .ref m0L, .ref m0B, .ref m0T, .ref m0O, .ref m0Y, .int 0, .int 0, .int 0, .int 0, .int 0, .ref m0N, .ref m0V])), (m0A, .inl (G.2 0, 311, .inl (fun _ => 0))), (m0R, .inl (G.2 0, 3, .inl (fun _ => 0)))] s.heap := hP
  have hl := lv_entry ([.ref m0, .int a1]) (n := 2) (Nat.le_of_ble_eq_true rfl)
  rw [lg_entry_eq]
  generalize (lg_sl ([.ref m0, .int a1]) ++ List.replicate (2 - (lg_sl ([.ref m0, .int a1])).length) Slot.unset).toArray = ls at hl ⊢
  have hl : lv_has ls 2 [(0, .ref m0), (1, .int a1)] := hl
  refine lv_iload_n hx hb dX11_days_0 rfl (lv_at hl 1 rfl) ?_
  refine lv_i2l (v := a1.toInt64) hx hb dX11_days_1 rfl ?_
  refine lv_lconst (v := 1) hx hb dX11_days_2 (by decide) ?_
  refine lv_ldc2 (v := 60) hx hb hown (hts _ (List.mem_of_getElem? (i := 1) rfl)) dX11_days_3 ?_
  refine g_calli (wr := [(m0, .inr (10, [.ref m0A, .ref m0K, .ref m0I, .ref m0R, .long 0, .long 1, .ref m0H, .ref m0F, .ref m0W, .ref m0L, .ref m0B, .ref m0T, .ref m0O, .ref m0Y, .int 0, .int 0, .int 0, .int 0, .int 0, .ref m0N, .ref m0V])), (m0A, .inl (G.2 0, 311, .inl (fun _ => 0))), (m0R, .inl (G.2 0, 3, .inl (fun _ => 0)))]) (va_runS (As := [.long a1.toInt64, .long 1, .long 60]) (rest := []) ⟨hx, hb, hml, hown, hts⟩ (c_X11_in l G (a1.toInt64) (1) (60) _) (va_cwS 3 hts gX11_days_X11_in rfl rfl rfl (by decide +kernel) ⟨Nat.le_of_ble_eq_true rfl, Nat.le_of_ble_eq_true rfl⟩) (g_preS [.long a1.toInt64, .long 1, .long 60] hP hD hK hN [] rfl rfl) rfl rfl hl.1 rfl (lv_room (Nat.le_of_ble_eq_true rfl)) dX11_days_6 ⟨Nat.le_of_ble_eq_true rfl, Nat.le_of_ble_eq_true rfl⟩) hP hD hS hA [] [0, 1, 2] rfl rfl rfl (by decide) (fun r_1 u H locs hw hP hD hS => ?_)
  rcases hw with ⟨k_2, rfl, rfl⟩ | ⟨k_3, rfl, rfl⟩
  · have hP : va_P G.1 vwCl [(m0, .inr (10, [.ref m0A, .ref m0K, .ref m0I, .ref m0R, .long 0, .long 1, .ref m0H, .ref m0F, .ref m0W, .ref m0L, .ref m0B, .ref m0T, .ref m0O, .ref m0Y, .int 0, .int 0, .int 0, .int 0, .int 0, .ref m0N, .ref m0V])), (m0A, .inl (G.2 0, 311, .inl (fun _ => 0))), (m0R, .inl (G.2 0, 3, .inl (fun _ => 0)))] H := hP
    have hD : va_D A [(m0, .inr (10, [.ref m0A, .ref m0K, .ref m0I, .ref m0R, .long 0, .long 1, .ref m0H, .ref m0F, .ref m0W, .ref m0L, .ref m0B, .ref m0T, .ref m0O, .ref m0Y, .int 0, .int 0, .int 0, .int 0, .int 0, .ref m0N, .ref m0V])), (m0A, .inl (G.2 0, 311, .inl (fun _ => 0))), (m0R, .inl (G.2 0, 3, .inl (fun _ => 0)))] := hD
    refine lv_if_ne (tgt := 19) hx hb dX11_days_9 (by decide) (fun _ => ?_) (fun c_4 => g_no c_4 (by decide))
    have kk := (inL_i (lo := 1) (n := a1) (hi := 60) (by decide) (by decide)).symm.trans k_2
    obtain ⟨j, hj1, hj2, rfl⟩ := inB_nat (a := 1) (b := 60) kk (by decide) (by decide)
    refine lv_aload_n hx hb dX11_days_19 rfl (lv_at hl 0 rfl) ?_
    refine g_callv (wr := [(m0R, .inl (G.2 0, 3, .inl (fun _ => 0)))]) (va_runV (As := []) (rest := []) ⟨hx, hb, hml, hown, hts⟩ (c_X11_save l G (m0) (m0A) (m0K) (m0I) (m0R) (m0H) (m0F) (m0W) (m0L) (m0B) (m0T) (m0O) (m0Y) (m0N) (m0V) _) (cwV 0 hts gX11_days_X11_save rfl rfl rfl (by decide +kernel) ⟨Nat.le_of_ble_eq_true rfl, Nat.le_of_ble_eq_true rfl⟩) (g_preV m0 [] hP hD hK hN [0, 1] rfl rfl 0 (ci := 10) rfl rfl) rfl rfl hl.1 rfl (lv_room (Nat.le_of_ble_eq_true rfl)) dX11_days_20 ⟨Nat.le_of_ble_eq_true rfl, Nat.le_of_ble_eq_true rfl⟩) hP hD hS hA [0, 1] [2] rfl rfl rfl (by decide) (fun u H locs hw hP hD hS => ?_)
    subst hw
    have hP : va_P G.1 vwCl [(m0R, .inl (G.2 0, 3, .inl (fun _ => 0))), (m0, .inr (10, [.ref m0A, .ref m0K, .ref m0I, .ref m0R, .long 0, .long 1, .ref m0H, .ref m0F, .ref m0W, .ref m0L, .ref m0B, .ref m0T, .ref m0O, .ref m0Y, .int 0, .int 0, .int 0, .int 0, .int 0, .ref m0N, .ref m0V])), (m0A, .inl (G.2 0, 311, .inl (upd (fun _ => 0) 5 1)))] H := hP
    have hD : va_D A [(m0R, .inl (G.2 0, 3, .inl (fun _ => 0))), (m0, .inr (10, [.ref m0A, .ref m0K, .ref m0I, .ref m0R, .long 0, .long 1, .ref m0H, .ref m0F, .ref m0W, .ref m0L, .ref m0B, .ref m0T, .ref m0O, .ref m0Y, .int 0, .int 0, .int 0, .int 0, .int 0, .ref m0N, .ref m0V])), (m0A, .inl (G.2 0, 311, .inl (upd (fun _ => 0) 5 1)))] := hD
    refine lv_aload_n hx hb dX11_days_23 rfl (lv_at hl 0 rfl) ?_
    refine va_get (D := G.1) (ci := 10) (v := .ref m0A) (C := RX11) (T := TX11) (N := 21) hx hb hts (fun _ h => List.mem_cons_of_mem _ (List.mem_append_right _ h)) hown hK hP 1 rfl rfl 0 (by decide) (hts _ (List.mem_of_getElem? (i := 2) rfl)) (fun _ h9 => h9) rfl dX11_days_24 ?_
    refine lv_iload_n hx hb dX11_days_27 rfl (lv_at hl 1 rfl) ?_
    refine g_callv (wr := [(m0R, .inl (G.2 0, 3, .inl (fun _ => 0))), (m0, .inr (10, [.ref m0A, .ref m0K, .ref m0I, .ref m0R, .long 0, .long 1, .ref m0H, .ref m0F, .ref m0W, .ref m0L, .ref m0B, .ref m0T, .ref m0O, .ref m0Y, .int 0, .int 0, .int 0, .int 0, .int 0, .ref m0N, .ref m0V]))]) (va_runS (As := [.ref m0A, .int (nI j)]) (rest := []) ⟨hx, hb, hml, hown, hts⟩ (c_X11_goDays l G (m0A) ((upd (fun _ => 0) 5 1)) (j) (rfl) (rfl) (hj2) _) (va_cwS 2 hts gX11_days_X11_goDays rfl rfl rfl (by decide +kernel) ⟨Nat.le_of_ble_eq_true rfl, Nat.le_of_ble_eq_true rfl⟩) (g_preS [.ref m0A, .int (nI j)] hP hD hK hN [2] rfl rfl) rfl rfl hl.1 rfl (lv_room (Nat.le_of_ble_eq_true rfl)) dX11_days_28 ⟨Nat.le_of_ble_eq_true rfl, Nat.le_of_ble_eq_true rfl⟩) hP hD hS hA [2] [0, 1] rfl rfl rfl (by decide) (fun u H locs hw hP hD hS => ?_)
    obtain ⟨f1_5, k_6, rfl⟩ := hw
    have hP : va_P G.1 vwCl [(m0R, .inl (G.2 0, 3, .inl (fun _ => 0))), (m0, .inr (10, [.ref m0A, .ref m0K, .ref m0I, .ref m0R, .long 0, .long 1, .ref m0H, .ref m0F, .ref m0W, .ref m0L, .ref m0B, .ref m0T, .ref m0O, .ref m0Y, .int 0, .int 0, .int 0, .int 0, .int 0, .ref m0N, .ref m0V])), (m0A, .inl (G.2 0, 311, .inl f1_5))] H := hP
    have hD : va_D A [(m0R, .inl (G.2 0, 3, .inl (fun _ => 0))), (m0, .inr (10, [.ref m0A, .ref m0K, .ref m0I, .ref m0R, .long 0, .long 1, .ref m0H, .ref m0F, .ref m0W, .ref m0L, .ref m0B, .ref m0T, .ref m0O, .ref m0Y, .int 0, .int 0, .int 0, .int 0, .int 0, .ref m0N, .ref m0V])), (m0A, .inl (G.2 0, 311, .inl f1_5))] := hD
    refine lv_aload_n hx hb dX11_days_31 rfl (lv_at hl 0 rfl) ?_
    refine va_get (D := G.1) (ci := 10) (v := .ref m0A) (C := RX11) (T := TX11) (N := 21) hx hb hts (fun _ h => List.mem_cons_of_mem _ (List.mem_append_right _ h)) hown hK hP 1 rfl rfl 0 (by decide) (hts _ (List.mem_of_getElem? (i := 2) rfl)) (fun _ h9 => h9) rfl dX11_days_32 ?_
    refine lv_iconst (v := 0) hx hb dX11_days_35 (by decide) ?_
    refine g_calli (wr := [(m0R, .inl (G.2 0, 3, .inl (fun _ => 0))), (m0, .inr (10, [.ref m0A, .ref m0K, .ref m0I, .ref m0R, .long 0, .long 1, .ref m0H, .ref m0F, .ref m0W, .ref m0L, .ref m0B, .ref m0T, .ref m0O, .ref m0Y, .int 0, .int 0, .int 0, .int 0, .int 0, .ref m0N, .ref m0V]))]) (va_runS (As := [.ref m0A, .int 0]) (rest := []) ⟨hx, hb, hml, hown, hts⟩ (c_X11_manyWith_311f l G (m0A) (f1_5) (0) (k_6) _) (va_cwS 2 hts gX11_days_X11_manyWith rfl rfl rfl (by decide +kernel) ⟨Nat.le_of_ble_eq_true rfl, Nat.le_of_ble_eq_true rfl⟩) (g_preS [.ref m0A, .int 0] hP hD hK hN [2] rfl rfl) rfl rfl hl.1 rfl (lv_room (Nat.le_of_ble_eq_true rfl)) dX11_days_36 ⟨Nat.le_of_ble_eq_true rfl, Nat.le_of_ble_eq_true rfl⟩) hP hD hS hA [2] [0, 1] rfl rfl rfl (by decide) (fun r_7 u H locs hw hP hD hS => ?_)
    obtain ⟨rfl, rfl⟩ := hw
    have hP : va_P G.1 vwCl [(m0R, .inl (G.2 0, 3, .inl (fun _ => 0))), (m0, .inr (10, [.ref m0A, .ref m0K, .ref m0I, .ref m0R, .long 0, .long 1, .ref m0H, .ref m0F, .ref m0W, .ref m0L, .ref m0B, .ref m0T, .ref m0O, .ref m0Y, .int 0, .int 0, .int 0, .int 0, .int 0, .ref m0N, .ref m0V])), (m0A, .inl (G.2 0, 311, .inl f1_5))] H := hP
    have hD : va_D A [(m0R, .inl (G.2 0, 3, .inl (fun _ => 0))), (m0, .inr (10, [.ref m0A, .ref m0K, .ref m0I, .ref m0R, .long 0, .long 1, .ref m0H, .ref m0F, .ref m0W, .ref m0L, .ref m0B, .ref m0T, .ref m0O, .ref m0Y, .int 0, .int 0, .int 0, .int 0, .int 0, .ref m0N, .ref m0V])), (m0A, .inl (G.2 0, 311, .inl f1_5))] := hD
    have hP := hP.sub (ws' := []) [] rfl
    have hD := hD.sub (ws' := []) [] rfl rfl
    exact g_iret (v := 0) hx hb hr hlocks hP hD hS (⟨by simp [F_days, kk], rfl⟩) dX11_days_39
  · have hP : va_P G.1 vwCl [(m0, .inr (10, [.ref m0A, .ref m0K, .ref m0I, .ref m0R, .long 0, .long 1, .ref m0H, .ref m0F, .ref m0W, .ref m0L, .ref m0B, .ref m0T, .ref m0O, .ref m0Y, .int 0, .int 0, .int 0, .int 0, .int 0, .ref m0N, .ref m0V])), (m0A, .inl (G.2 0, 311, .inl (fun _ => 0))), (m0R, .inl (G.2 0, 3, .inl (fun _ => 0)))] H := hP
    have hD : va_D A [(m0, .inr (10, [.ref m0A, .ref m0K, .ref m0I, .ref m0R, .long 0, .long 1, .ref m0H, .ref m0F, .ref m0W, .ref m0L, .ref m0B, .ref m0T, .ref m0O, .ref m0Y, .int 0, .int 0, .int 0, .int 0, .int 0, .ref m0N, .ref m0V])), (m0A, .inl (G.2 0, 311, .inl (fun _ => 0))), (m0R, .inl (G.2 0, 3, .inl (fun _ => 0)))] := hD
    refine lv_if_ne (tgt := 19) hx hb dX11_days_9 (by decide) (fun c_8 => g_no (by decide) c_8) (fun _ => ?_)
    refine lv_aload_n hx hb dX11_days_12 rfl (lv_at hl 0 rfl) ?_
    refine lv_bipush (v := (-2)) hx hb dX11_days_13 (by decide) ?_
    refine g_calli (wr := [(m0A, .inl (G.2 0, 311, .inl (fun _ => 0)))]) (va_runV (As := [.int (-2)]) (rest := []) ⟨hx, hb, hml, hown, hts⟩ (c_X11_bad l G (m0) (m0A) (m0K) (m0I) (m0R) (m0H) (m0F) (m0W) (m0L) (m0B) (m0T) (m0O) (m0Y) (m0N) (m0V) ((-2)) _) (cwV 1 hts gX11_days_X11_bad rfl rfl rfl (by decide +kernel) ⟨Nat.le_of_ble_eq_true rfl, Nat.le_of_ble_eq_true rfl⟩) (g_preV m0 [.int (-2)] hP hD hK hN [0, 2] rfl rfl 0 (ci := 10) rfl rfl) rfl rfl hl.1 rfl (lv_room (Nat.le_of_ble_eq_true rfl)) dX11_days_15 ⟨Nat.le_of_ble_eq_true rfl, Nat.le_of_ble_eq_true rfl⟩) hP hD hS hA [0, 2] [1] rfl rfl rfl (by decide) (fun r_9 u H locs hw hP hD hS => ?_)
    obtain ⟨rfl, rfl⟩ := hw
    have hP : va_P G.1 vwCl [(m0A, .inl (G.2 0, 311, .inl (fun _ => 0)))] H := hP
    have hD : va_D A [(m0A, .inl (G.2 0, 311, .inl (fun _ => 0)))] := hD
    have hP := hP.sub (ws' := []) [] rfl
    have hD := hD.sub (ws' := []) [] rfl rfl
    exact g_iret (v := (-2)) hx hb hr hlocks hP hD hS (⟨by have e1 := (inL_i (lo := 1) (n := a1) (hi := 60) (by decide) (by decide)).symm.trans k_3; simp [F_days, e1], rfl⟩) dX11_days_18
theorem dX11_feastBy_0 : decode cX11_feastBy 0 = .ok (.iconst 1, 1) := by decide +kernel
theorem dX11_feastBy_1 : decode cX11_feastBy 1 = .ok (.istore_n 2, 1) := by decide +kernel
theorem dX11_feastBy_2 : decode cX11_feastBy 2 = .ok (.iconst 0, 1) := by decide +kernel
theorem dX11_feastBy_3 : decode cX11_feastBy 3 = .ok (.istore_n 3, 1) := by decide +kernel
theorem dX11_feastBy_4 : decode cX11_feastBy 4 = .ok (.iload_n 1, 1) := by decide +kernel
theorem dX11_feastBy_5 : decode cX11_feastBy 5 = .ok (.istore 4, 2) := by decide +kernel
theorem dX11_feastBy_7 : decode cX11_feastBy 7 = .ok (.aload_n 0, 1) := by decide +kernel
set_option maxRecDepth 20000 in
theorem ggX11_feastBy_X11_layHand : GoodIn wsX11_feastBy wsX11_layHand := goodIn_r _ [7, 2, 1, 33, 34, 35, 36, 37, 38, 39, 40, 41, 42, 43, 44, 45, 46, 47, 48, 49, 50, 51, 52, 53] (by decide +kernel) (by decide +kernel)
set_option maxRecDepth 20000 in
theorem gX11_feastBy_X11_layHand : GoodIn wsX11_feastBy (wsV RX11 162 RX11 yX11_layHand wsX11_layHand) := goodIn_app (goodIn_of _ (by decide +kernel)) ggX11_feastBy_X11_layHand
theorem dX11_feastBy_8 : decode cX11_feastBy 8 = .ok (.invokevirtual 162, 3) := by decide +kernel
theorem dX11_feastBy_11 : decode cX11_feastBy 11 = .ok (.iconst 1, 1) := by decide +kernel
theorem dX11_feastBy_12 : decode cX11_feastBy 12 = .ok (.istore 5, 2) := by decide +kernel
theorem dX11_feastBy_14 : decode cX11_feastBy 14 = .ok (.iload 5, 2) := by decide +kernel
theorem dX11_feastBy_16 : decode cX11_feastBy 16 = .ok (.aload_n 0, 1) := by decide +kernel
theorem dX11_feastBy_17 : decode cX11_feastBy 17 = .ok (.getfield 7, 3) := by decide +kernel
theorem dX11_feastBy_20 : decode cX11_feastBy 20 = .ok (.iconst 1, 1) := by decide +kernel
theorem dX11_feastBy_21 : decode cX11_feastBy 21 = .ok (.iaload, 1) := by decide +kernel
theorem dX11_feastBy_22 : decode cX11_feastBy 22 = .ok (.if_icmp .ge 14, 3) := by decide +kernel
theorem dX11_feastBy_36 : decode cX11_feastBy 36 = .ok (.iconst 0, 1) := by decide +kernel
theorem dX11_feastBy_37 : decode cX11_feastBy 37 = .ok (.istore 5, 2) := by decide +kernel
theorem dX11_feastBy_39 : decode cX11_feastBy 39 = .ok (.iload 5, 2) := by decide +kernel
theorem dX11_feastBy_41 : decode cX11_feastBy 41 = .ok (.aload_n 0, 1) := by decide +kernel
theorem dX11_feastBy_42 : decode cX11_feastBy 42 = .ok (.getfield 7, 3) := by decide +kernel
theorem dX11_feastBy_45 : decode cX11_feastBy 45 = .ok (.iconst 1, 1) := by decide +kernel
theorem dX11_feastBy_46 : decode cX11_feastBy 46 = .ok (.iaload, 1) := by decide +kernel
theorem dX11_feastBy_47 : decode cX11_feastBy 47 = .ok (.if_icmp .ge 79, 3) := by decide +kernel
theorem dX11_feastBy_126 : decode cX11_feastBy 126 = .ok (.iload_n 3, 1) := by decide +kernel
theorem dX11_feastBy_127 : decode cX11_feastBy 127 = .ok (.ireturn, 1) := by decide +kernel
set_option maxHeartbeats 8000000 in
set_option maxRecDepth 100000 in
theorem c_X11_feastBy (l : Launch) (G : gG) (m0 : Nat) (m0A : Nat) (m0K : Nat) (m0I : Nat) (m0R : Nat) (m0H : Nat) (m0F : Nat) (m0W : Nat) (m0L : Nat) (m0B : Nat) (m0T : Nat) (m0O : Nat) (m0Y : Nat) (m0N : Nat) (m0V : Nat) (sz : Nat) : gI G l yX11_feastBy wsX11_feastBy ({ frames := 1, cells := 0, slots := 0, locals := 21 } : Room) [.ref m0, .int 0] [(m0, .inr (10, [.ref m0A, .ref m0K, .ref m0I, .ref m0R, .long 0, .long 1, .ref m0H, .ref m0F, .ref m0W, .ref m0L, .ref m0B, .ref m0T, .ref m0O, .ref m0Y, .int 0, .int 0, .int 0, .int 0, .int 0, .ref m0N, .ref m0V])), (m0A, .inl (G.2 0, 311, .inl (fun _ => 0))), (m0H, .inl (G.2 0, 56, .inl (fun _ => 0)))] sz (fun (r : Int32) (u : va_W) => (r = 0 ∧ u = [(m0, .inr (10, [.ref m0A, .ref m0K, .ref m0I, .ref m0R, .long 0, .long 1, .ref m0H, .ref m0F, .ref m0W, .ref m0L, .ref m0B, .ref m0T, .ref m0O, .ref m0Y, .int 0, .int 0, .int 0, .int 0, .int 0, .ref m0N, .ref m0V])), (m0A, .inl (G.2 0, 311, .inl (fun _ => 0))), (m0H, .inl (G.2 0, 56, .inl (fun _ => 0)))])) := by
  refine Met.ofW (cc := cX11_feastBy) (maxL := 7) (ret := (some .int)) (by decide) rfl ?_
  intro p e s m args below meth c s₁ B hml hv
  obtain ⟨rfl, hsz, hP, hK, hD0, hN⟩ := hv
  have hx := B.exec
  have hb := B.bytes
  have hr := B.returns
  have hts := atoms_spec (ws := wsX11_feastBy) B.pre
  have hown : s.vm.findClass RX11 = some m.cls := findClass_of_methodNamed B.named
  have hlocks := B.notSynchronized
  subst hsz
  have hD := hD0.self (sz := s.heap.size)
  generalize hAe : va_A [(m0, .inr (10, [.ref m0A, .ref m0K, .ref m0I, .ref m0R, .long 0, .long 1, .ref m0H, .ref m0F, .ref m0W, .ref m0L, .ref m0B, .ref m0T, .ref m0O, .ref m0Y, .int 0, .int 0, .int 0, .int 0, .int 0, .ref m0N, .ref m0V])), (m0A, .inl (G.2 0, 311, .inl (fun _ => 0))), (m0H, .inl (G.2 0, 56, .inl (fun _ => 0)))] s.heap.size = A at hD ⊢
  have hA : ∀ q : Nat, s.heap.size ≤ q → A q := fun q h => by rw [← hAe]; exact Or.inr h
  have hS : va_S A s.heap s.heap [] := va_S.rf
  have hP : va_P G.1 vwCl [(m0, .inr (10, [.ref m0A, .ref m0K, .ref m0I, .ref m0R, .long 0, .long 1, .ref m0H, .ref m0F, .ref m0W, .ref m0L, .ref m0B, .ref m0T, .ref m0O, .ref m0Y, .int 0, .int 0, .int 0, .int 0, .int 0, .ref m0N, .ref m0V])), (m0A, .inl (G.2 0, 311, .inl (fun _ => 0))), (m0H, .inl (G.2 0, 56, .inl (fun _ => 0)))] s.heap := hP
  have hl := lv_entry ([.ref m0, .int 0]) (n := 7) (Nat.le_of_ble_eq_true rfl)
  rw [lg_entry_eq]
  generalize (lg_sl ([.ref m0, .int 0]) ++ List.replicate (7 - (lg_sl ([.ref m0, .int 0])).length) Slot.unset).toArray = ls at hl ⊢
  have hl : lv_has ls 7 [(0, .ref m0), (1, .int 0)] := hl
  refine lv_iconst (v := 1) hx hb dX11_feastBy_0 (by decide) ?_
  refine lv_istore_n (lv' := [(2, .int 1), (0, .ref m0), (1, .int 0)]) hx hb dX11_feastBy_1 rfl hl (by decide) rfl (fun ls hl => ?_)
  refine lv_iconst (v := 0) hx hb dX11_feastBy_2 (by decide) ?_
  refine lv_istore_n (lv' := [(3, .int 0), (2, .int 1), (0, .ref m0), (1, .int 0)]) hx hb dX11_feastBy_3 rfl hl (by decide) rfl (fun ls hl => ?_)
  refine lv_iload_n hx hb dX11_feastBy_4 rfl (lv_at hl 3 rfl) ?_
  refine lv_istore (lv' := [(4, .int 0), (3, .int 0), (2, .int 1), (0, .ref m0), (1, .int 0)]) hx hb dX11_feastBy_5 hl (by decide) rfl (fun ls hl => ?_)
  refine lv_aload_n hx hb dX11_feastBy_7 rfl (lv_at hl 3 rfl) ?_
  refine g_callv (wr := []) (va_runV (As := []) (rest := []) ⟨hx, hb, hml, hown, hts⟩ (c_X11_layHand l G (m0) (m0A) (m0K) (m0I) (m0R) (m0H) (m0F) (m0W) (m0L) (m0B) (m0T) (m0O) (m0Y) (m0N) (m0V) _) (cwV 0 hts gX11_feastBy_X11_layHand rfl rfl rfl (by decide +kernel) ⟨Nat.le_of_ble_eq_true rfl, Nat.le_of_ble_eq_true rfl⟩) (g_preV m0 [] hP hD hK hN [0, 1, 2] rfl rfl 0 (ci := 10) rfl rfl) rfl rfl hl.1 rfl (lv_room (Nat.le_of_ble_eq_true rfl)) dX11_feastBy_8 ⟨Nat.le_of_ble_eq_true rfl, Nat.le_of_ble_eq_true rfl⟩) hP hD hS hA [0, 1, 2] [] rfl rfl rfl (by decide) (fun u H locs hw hP hD hS => ?_)
  subst hw
  have hP : va_P G.1 vwCl [(m0, .inr (10, [.ref m0A, .ref m0K, .ref m0I, .ref m0R, .long 0, .long 1, .ref m0H, .ref m0F, .ref m0W, .ref m0L, .ref m0B, .ref m0T, .ref m0O, .ref m0Y, .int 0, .int 0, .int 0, .int 0, .int 0, .ref m0N, .ref m0V])), (m0A, .inl (G.2 0, 311, .inl (fun _ => 0))), (m0H, .inl (G.2 0, 56, .inl (fun _ => 0)))] H := hP
  have hD : va_D A [(m0, .inr (10, [.ref m0A, .ref m0K, .ref m0I, .ref m0R, .long 0, .long 1, .ref m0H, .ref m0F, .ref m0W, .ref m0L, .ref m0B, .ref m0T, .ref m0O, .ref m0Y, .int 0, .int 0, .int 0, .int 0, .int 0, .ref m0N, .ref m0V])), (m0A, .inl (G.2 0, 311, .inl (fun _ => 0))), (m0H, .inl (G.2 0, 56, .inl (fun _ => 0)))] := hD
  refine lv_iconst (v := 1) hx hb dX11_feastBy_11 (by decide) ?_
  refine lv_istore (lv' := [(5, .int 1), (4, .int 0), (3, .int 0), (2, .int 1), (0, .ref m0), (1, .int 0)]) hx hb dX11_feastBy_12 hl (by decide) rfl (fun ls hl => ?_)
  refine lv_iload hx hb dX11_feastBy_14 (lv_at hl 0 rfl) ?_
  refine lv_aload_n hx hb dX11_feastBy_16 rfl (lv_at hl 4 rfl) ?_
  refine va_get (D := G.1) (ci := 10) (v := .ref m0A) (C := RX11) (T := TX11) (N := 21) hx hb hts (fun _ h => List.mem_cons_of_mem _ (List.mem_append_right _ h)) hown hK hP 0 rfl rfl 0 (by decide) (hts _ (List.mem_of_getElem? (i := 1) rfl)) (fun _ h9 => h9) rfl dX11_feastBy_17 ?_
  refine lv_iconst (v := 1) hx hb dX11_feastBy_20 (by decide) ?_
  refine va_iald hx hb hK hP 1 0 rfl rfl (by unfold vp_in; decide) dX11_feastBy_21 ?_
  refine g_topi (y := 0) rfl ?_
  refine lv_icmp_ge (tgt := 36) hx hb dX11_feastBy_22 (by decide) (fun _ => ?_) (fun c_1 => g_no (by decide) c_1)
  refine lv_iconst (v := 0) hx hb dX11_feastBy_36 (by decide) ?_
  refine lv_istore (lv' := [(5, .int 0), (4, .int 0), (3, .int 0), (2, .int 1), (0, .ref m0), (1, .int 0)]) hx hb dX11_feastBy_37 hl (by decide) rfl (fun ls hl => ?_)
  refine lv_iload hx hb dX11_feastBy_39 (lv_at hl 0 rfl) ?_
  refine lv_aload_n hx hb dX11_feastBy_41 rfl (lv_at hl 4 rfl) ?_
  refine va_get (D := G.1) (ci := 10) (v := .ref m0A) (C := RX11) (T := TX11) (N := 21) hx hb hts (fun _ h => List.mem_cons_of_mem _ (List.mem_append_right _ h)) hown hK hP 0 rfl rfl 0 (by decide) (hts _ (List.mem_of_getElem? (i := 1) rfl)) (fun _ h9 => h9) rfl dX11_feastBy_42 ?_
  refine lv_iconst (v := 1) hx hb dX11_feastBy_45 (by decide) ?_
  refine va_iald hx hb hK hP 1 0 rfl rfl (by unfold vp_in; decide) dX11_feastBy_46 ?_
  refine g_topi (y := 0) rfl ?_
  refine lv_icmp_ge (tgt := 126) hx hb dX11_feastBy_47 (by decide) (fun _ => ?_) (fun c_2 => g_no (by decide) c_2)
  refine lv_iload_n hx hb dX11_feastBy_126 rfl (lv_at hl 2 rfl) ?_
  exact g_iret (v := 0) hx hb hr hlocks hP hD hS (⟨rfl, rfl⟩) dX11_feastBy_127
theorem dX11_feast_0 : decode cX11_feast 0 = .ok (.iload_n 1, 1) := by decide +kernel
theorem dX11_feast_1 : decode cX11_feast 1 = .ok (.iconst (-1), 1) := by decide +kernel
theorem dX11_feast_2 : decode cX11_feast 2 = .ok (.if_icmp .eq 18, 3) := by decide +kernel
theorem dX11_feast_20 : decode cX11_feast 20 = .ok (.iconst 1, 1) := by decide +kernel
theorem dX11_feast_21 : decode cX11_feast 21 = .ok (.istore_n 2, 1) := by decide +kernel
theorem dX11_feast_22 : decode cX11_feast 22 = .ok (.iconst (-1), 1) := by decide +kernel
theorem dX11_feast_23 : decode cX11_feast 23 = .ok (.istore_n 3, 1) := by decide +kernel
theorem dX11_feast_24 : decode cX11_feast 24 = .ok (.iconst 0, 1) := by decide +kernel
theorem dX11_feast_25 : decode cX11_feast 25 = .ok (.istore 4, 2) := by decide +kernel
theorem dX11_feast_27 : decode cX11_feast 27 = .ok (.iconst 0, 1) := by decide +kernel
theorem dX11_feast_28 : decode cX11_feast 28 = .ok (.istore 5, 2) := by decide +kernel
theorem dX11_feast_30 : decode cX11_feast 30 = .ok (.iload 5, 2) := by decide +kernel
theorem dX11_feast_32 : decode cX11_feast 32 = .ok (.aload_n 0, 1) := by decide +kernel
theorem dX11_feast_33 : decode cX11_feast 33 = .ok (.getfield 7, 3) := by decide +kernel
theorem dX11_feast_36 : decode cX11_feast 36 = .ok (.iconst 1, 1) := by decide +kernel
theorem dX11_feast_37 : decode cX11_feast 37 = .ok (.iaload, 1) := by decide +kernel
theorem dX11_feast_38 : decode cX11_feast 38 = .ok (.if_icmp .ge 14, 3) := by decide +kernel
theorem dX11_feast_52 : decode cX11_feast 52 = .ok (.iconst 0, 1) := by decide +kernel
theorem dX11_feast_53 : decode cX11_feast 53 = .ok (.istore 5, 2) := by decide +kernel
theorem dX11_feast_55 : decode cX11_feast 55 = .ok (.iload 5, 2) := by decide +kernel
theorem dX11_feast_57 : decode cX11_feast 57 = .ok (.iload_n 2, 1) := by decide +kernel
theorem dX11_feast_58 : decode cX11_feast 58 = .ok (.if_icmp .ge 45, 3) := by decide +kernel
theorem dX11_feast_61 : decode cX11_feast 61 = .ok (.aload_n 0, 1) := by decide +kernel
theorem dX11_feast_62 : decode cX11_feast 62 = .ok (.iload 5, 2) := by decide +kernel
set_option maxRecDepth 20000 in
theorem ggX11_feast_X11_feastBy : GoodIn wsX11_feast wsX11_feastBy := goodIn_r _ [19, 1, 20, 21, 22, 23, 6, 24, 25, 26, 27, 28, 29, 30, 31, 32, 33, 34, 35, 36, 37, 38, 39, 40, 41, 42, 43, 44, 45, 46, 47, 48, 49, 50, 51, 52, 53, 54, 55, 56, 57, 58, 59, 60, 61, 62, 63, 64, 65, 66, 67, 68, 69, 70] (by decide +kernel) (by decide +kernel)
set_option maxRecDepth 20000 in
theorem gX11_feast_X11_feastBy : GoodIn wsX11_feast (wsV RX11 173 RX11 yX11_feastBy wsX11_feastBy) := goodIn_app (goodIn_of _ (by decide +kernel)) ggX11_feast_X11_feastBy
theorem dX11_feast_64 : decode cX11_feast 64 = .ok (.invokevirtual 173, 3) := by decide +kernel
theorem dX11_feast_67 : decode cX11_feast 67 = .ok (.istore 6, 2) := by decide +kernel
theorem dX11_feast_69 : decode cX11_feast 69 = .ok (.iload 6, 2) := by decide +kernel
theorem dX11_feast_71 : decode cX11_feast 71 = .ok (.iload_n 3, 1) := by decide +kernel
theorem dX11_feast_72 : decode cX11_feast 72 = .ok (.if_icmp .le 8, 3) := by decide +kernel
theorem dX11_feast_75 : decode cX11_feast 75 = .ok (.iload 5, 2) := by decide +kernel
theorem dX11_feast_77 : decode cX11_feast 77 = .ok (.goto 5, 3) := by decide +kernel
theorem dX11_feast_82 : decode cX11_feast 82 = .ok (.istore 4, 2) := by decide +kernel
theorem dX11_feast_84 : decode cX11_feast 84 = .ok (.iload 6, 2) := by decide +kernel
theorem dX11_feast_86 : decode cX11_feast 86 = .ok (.iload_n 3, 1) := by decide +kernel
theorem dX11_feast_87 : decode cX11_feast 87 = .ok (.if_icmp .le 8, 3) := by decide +kernel
theorem dX11_feast_90 : decode cX11_feast 90 = .ok (.iload 6, 2) := by decide +kernel
theorem dX11_feast_92 : decode cX11_feast 92 = .ok (.goto 4, 3) := by decide +kernel
theorem dX11_feast_96 : decode cX11_feast 96 = .ok (.istore_n 3, 1) := by decide +kernel
theorem dX11_feast_97 : decode cX11_feast 97 = .ok (.iinc 5 1, 3) := by decide +kernel
theorem dX11_feast_100 : decode cX11_feast 100 = .ok (.goto (-45), 3) := by decide +kernel
theorem dX11_feast_103 : decode cX11_feast 103 = .ok (.aload_n 0, 1) := by decide +kernel
theorem dX11_feast_104 : decode cX11_feast 104 = .ok (.getfield 7, 3) := by decide +kernel
theorem dX11_feast_107 : decode cX11_feast 107 = .ok (.iconst 1, 1) := by decide +kernel
theorem dX11_feast_108 : decode cX11_feast 108 = .ok (.iaload, 1) := by decide +kernel
theorem dX11_feast_109 : decode cX11_feast 109 = .ok (.iconst 1, 1) := by decide +kernel
theorem dX11_feast_110 : decode cX11_feast 110 = .ok (.isub, 1) := by decide +kernel
theorem dX11_feast_111 : decode cX11_feast 111 = .ok (.istore 5, 2) := by decide +kernel
theorem dX11_feast_113 : decode cX11_feast 113 = .ok (.iload 5, 2) := by decide +kernel
theorem dX11_feast_115 : decode cX11_feast 115 = .ok (.ifCond .lt 30, 3) := by decide +kernel
theorem dX11_feast_145 : decode cX11_feast 145 = .ok (.iload_n 1, 1) := by decide +kernel
theorem dX11_feast_146 : decode cX11_feast 146 = .ok (.iconst (-1), 1) := by decide +kernel
theorem dX11_feast_147 : decode cX11_feast 147 = .ok (.if_icmp .ne 7, 3) := by decide +kernel
theorem dX11_feast_150 : decode cX11_feast 150 = .ok (.iload_n 3, 1) := by decide +kernel
theorem dX11_feast_151 : decode cX11_feast 151 = .ok (.goto 9, 3) := by decide +kernel
theorem dX11_feast_160 : decode cX11_feast 160 = .ok (.ireturn, 1) := by decide +kernel
theorem dX11_feast_5 : decode cX11_feast 5 = .ok (.aload_n 0, 1) := by decide +kernel
theorem dX11_feast_6 : decode cX11_feast 6 = .ok (.iload_n 1, 1) := by decide +kernel
set_option maxRecDepth 20000 in
theorem ggX11_feast_X11_isBiter : GoodIn wsX11_feast wsX11_isBiter := goodIn_r _ [7, 1, 8, 9, 6, 10, 50, 51, 52, 53, 54, 55, 56, 57, 58, 59, 60, 61, 62, 63, 64, 65, 66, 67, 68, 69, 70] (by decide +kernel) (by decide +kernel)
set_option maxRecDepth 20000 in
theorem gX11_feast_X11_isBiter : GoodIn wsX11_feast (wsV RX11 143 RX11 yX11_isBiter wsX11_isBiter) := goodIn_app (goodIn_of _ (by decide +kernel)) ggX11_feast_X11_isBiter
theorem dX11_feast_7 : decode cX11_feast 7 = .ok (.invokevirtual 143, 3) := by decide +kernel
theorem dX11_feast_10 : decode cX11_feast 10 = .ok (.ifCond .ne 10, 3) := by decide +kernel
theorem dX11_feast_13 : decode cX11_feast 13 = .ok (.aload_n 0, 1) := by decide +kernel
theorem dX11_feast_14 : decode cX11_feast 14 = .ok (.bipush (-10), 2) := by decide +kernel
set_option maxRecDepth 20000 in
theorem ggX11_feast_X11_bad : GoodIn wsX11_feast wsX11_bad := goodIn_r _ [14, 15, 50, 51, 52, 53, 54, 55, 56, 57, 58, 59, 60, 61, 62, 63, 64, 65, 66, 67, 68, 69, 70] (by decide +kernel) (by decide +kernel)
set_option maxRecDepth 20000 in
theorem gX11_feast_X11_bad : GoodIn wsX11_feast (wsV RX11 79 RX11 yX11_bad wsX11_bad) := goodIn_app (goodIn_of _ (by decide +kernel)) ggX11_feast_X11_bad
theorem dX11_feast_16 : decode cX11_feast 16 = .ok (.invokevirtual 79, 3) := by decide +kernel
theorem dX11_feast_19 : decode cX11_feast 19 = .ok (.ireturn, 1) := by decide +kernel
set_option maxHeartbeats 8000000 in
set_option maxRecDepth 100000 in
theorem c_X11_feast (l : Launch) (G : gG) (m0 : Nat) (m0A : Nat) (m0K : Nat) (m0I : Nat) (m0R : Nat) (m0H : Nat) (m0F : Nat) (m0W : Nat) (m0L : Nat) (m0B : Nat) (m0T : Nat) (m0O : Nat) (m0Y : Nat) (m0N : Nat) (m0V : Nat) (a1 : Int32) (sz : Nat) : gI G l yX11_feast wsX11_feast ({ frames := 2, cells := 0, slots := 0, locals := 47 } : Room) [.ref m0, .int a1] [(m0, .inr (10, [.ref m0A, .ref m0K, .ref m0I, .ref m0R, .long 0, .long 1, .ref m0H, .ref m0F, .ref m0W, .ref m0L, .ref m0B, .ref m0T, .ref m0O, .ref m0Y, .int 0, .int 0, .int 0, .int 0, .int 0, .ref m0N, .ref m0V])), (m0A, .inl (G.2 0, 311, .inl (fun _ => 0))), (m0H, .inl (G.2 0, 56, .inl (fun _ => 0))), (m0R, .inl (G.2 0, 3, .inl (fun _ => 0)))] sz (fun (r : Int32) (u : va_W) => (r = (F_feast a1) ∧ u = [])) := by
  refine Met.ofW (cc := cX11_feast) (maxL := 7) (ret := (some .int)) (by decide) rfl ?_
  intro p e s m args below meth c s₁ B hml hv
  obtain ⟨rfl, hsz, hP, hK, hD0, hN⟩ := hv
  have hx := B.exec
  have hb := B.bytes
  have hr := B.returns
  have hts := atoms_spec (ws := wsX11_feast) B.pre
  have hown : s.vm.findClass RX11 = some m.cls := findClass_of_methodNamed B.named
  have hlocks := B.notSynchronized
  subst hsz
  have hD := hD0.self (sz := s.heap.size)
  generalize hAe : va_A [(m0, .inr (10, [.ref m0A, .ref m0K, .ref m0I, .ref m0R, .long 0, .long 1, .ref m0H, .ref m0F, .ref m0W, .ref m0L, .ref m0B, .ref m0T, .ref m0O, .ref m0Y, .int 0, .int 0, .int 0, .int 0, .int 0, .ref m0N, .ref m0V])), (m0A, .inl (G.2 0, 311, .inl (fun _ => 0))), (m0H, .inl (G.2 0, 56, .inl (fun _ => 0))), (m0R, .inl (G.2 0, 3, .inl (fun _ => 0)))] s.heap.size = A at hD ⊢
  have hA : ∀ q : Nat, s.heap.size ≤ q → A q := fun q h => by rw [← hAe]; exact Or.inr h
  have hS : va_S A s.heap s.heap [] := va_S.rf
  have hP : va_P G.1 vwCl [(m0, .inr (10, [.ref m0A, .ref m0K, .ref m0I, .ref m0R, .long 0, .long 1, .ref m0H, .ref m0F, .ref m0W, .ref m0L, .ref m0B, .ref m0T, .ref m0O, .ref m0Y, .int 0, .int 0, .int 0, .int 0, .int 0, .ref m0N, .ref m0V])), (m0A, .inl (G.2 0, 311, .inl (fun _ => 0))), (m0H, .inl (G.2 0, 56, .inl (fun _ => 0))), (m0R, .inl (G.2 0, 3, .inl (fun _ => 0)))] s.heap := hP
  have hl := lv_entry ([.ref m0, .int a1]) (n := 7) (Nat.le_of_ble_eq_true rfl)
  rw [lg_entry_eq]
  generalize (lg_sl ([.ref m0, .int a1]) ++ List.replicate (7 - (lg_sl ([.ref m0, .int a1])).length) Slot.unset).toArray = ls at hl ⊢
  have hl : lv_has ls 7 [(0, .ref m0), (1, .int a1)] := hl
  refine lv_iload_n hx hb dX11_feast_0 rfl (lv_at hl 1 rfl) ?_
  refine lv_iconst (v := (-1)) hx hb dX11_feast_1 (by decide) ?_
  refine lv_icmp_eq (tgt := 20) hx hb dX11_feast_2 (by decide) (fun c_1 => ?_) (fun c_1 => ?_)
  · refine lv_iconst (v := 1) hx hb dX11_feast_20 (by decide) ?_
    refine lv_istore_n (lv' := [(2, .int 1), (0, .ref m0), (1, .int a1)]) hx hb dX11_feast_21 rfl hl (by decide) rfl (fun ls hl => ?_)
    refine lv_iconst (v := (-1)) hx hb dX11_feast_22 (by decide) ?_
    refine lv_istore_n (lv' := [(3, .int (-1)), (2, .int 1), (0, .ref m0), (1, .int a1)]) hx hb dX11_feast_23 rfl hl (by decide) rfl (fun ls hl => ?_)
    refine lv_iconst (v := 0) hx hb dX11_feast_24 (by decide) ?_
    refine lv_istore (lv' := [(4, .int 0), (3, .int (-1)), (2, .int 1), (0, .ref m0), (1, .int a1)]) hx hb dX11_feast_25 hl (by decide) rfl (fun ls hl => ?_)
    refine lv_iconst (v := 0) hx hb dX11_feast_27 (by decide) ?_
    refine lv_istore (lv' := [(5, .int 0), (4, .int 0), (3, .int (-1)), (2, .int 1), (0, .ref m0), (1, .int a1)]) hx hb dX11_feast_28 hl (by decide) rfl (fun ls hl => ?_)
    refine lv_iload hx hb dX11_feast_30 (lv_at hl 0 rfl) ?_
    refine lv_aload_n hx hb dX11_feast_32 rfl (lv_at hl 4 rfl) ?_
    refine va_get (D := G.1) (ci := 10) (v := .ref m0A) (C := RX11) (T := TX11) (N := 21) hx hb hts (fun _ h => List.mem_cons_of_mem _ (List.mem_append_right _ h)) hown hK hP 0 rfl rfl 0 (by decide) (hts _ (List.mem_of_getElem? (i := 1) rfl)) (fun _ h9 => h9) rfl dX11_feast_33 ?_
    refine lv_iconst (v := 1) hx hb dX11_feast_36 (by decide) ?_
    refine va_iald hx hb hK hP 1 0 rfl rfl (by unfold vp_in; decide) dX11_feast_37 ?_
    refine g_topi (y := 0) rfl ?_
    refine lv_icmp_ge (tgt := 52) hx hb dX11_feast_38 (by decide) (fun _ => ?_) (fun c_2 => g_no (by decide) c_2)
    refine lv_iconst (v := 0) hx hb dX11_feast_52 (by decide) ?_
    refine lv_istore (lv' := [(5, .int 0), (4, .int 0), (3, .int (-1)), (2, .int 1), (0, .ref m0), (1, .int a1)]) hx hb dX11_feast_53 hl (by decide) rfl (fun ls hl => ?_)
    refine lv_iload hx hb dX11_feast_55 (lv_at hl 0 rfl) ?_
    refine lv_iload_n hx hb dX11_feast_57 rfl (lv_at hl 3 rfl) ?_
    refine lv_icmp_ge (tgt := 103) hx hb dX11_feast_58 (by decide) (fun c_3 => g_no c_3 (by decide)) (fun _ => ?_)
    refine lv_aload_n hx hb dX11_feast_61 rfl (lv_at hl 4 rfl) ?_
    refine lv_iload hx hb dX11_feast_62 (lv_at hl 0 rfl) ?_
    refine g_calli (wr := [(m0R, .inl (G.2 0, 3, .inl (fun _ => 0)))]) (va_runV (As := [.int 0]) (rest := []) ⟨hx, hb, hml, hown, hts⟩ (c_X11_feastBy l G (m0) (m0A) (m0K) (m0I) (m0R) (m0H) (m0F) (m0W) (m0L) (m0B) (m0T) (m0O) (m0Y) (m0N) (m0V) _) (cwV 1 hts gX11_feast_X11_feastBy rfl rfl rfl (by decide +kernel) ⟨Nat.le_of_ble_eq_true rfl, Nat.le_of_ble_eq_true rfl⟩) (g_preV m0 [.int 0] hP hD hK hN [0, 1, 2] rfl rfl 0 (ci := 10) rfl rfl) rfl rfl hl.1 rfl (lv_room (Nat.le_of_ble_eq_true rfl)) dX11_feast_64 ⟨Nat.le_of_ble_eq_true rfl, Nat.le_of_ble_eq_true rfl⟩) hP hD hS hA [0, 1, 2] [3] rfl rfl rfl (by decide) (fun r_4 u H locs hw hP hD hS => ?_)
    obtain ⟨rfl, rfl⟩ := hw
    have hP : va_P G.1 vwCl [(m0R, .inl (G.2 0, 3, .inl (fun _ => 0))), (m0, .inr (10, [.ref m0A, .ref m0K, .ref m0I, .ref m0R, .long 0, .long 1, .ref m0H, .ref m0F, .ref m0W, .ref m0L, .ref m0B, .ref m0T, .ref m0O, .ref m0Y, .int 0, .int 0, .int 0, .int 0, .int 0, .ref m0N, .ref m0V])), (m0A, .inl (G.2 0, 311, .inl (fun _ => 0))), (m0H, .inl (G.2 0, 56, .inl (fun _ => 0)))] H := hP
    have hD : va_D A [(m0R, .inl (G.2 0, 3, .inl (fun _ => 0))), (m0, .inr (10, [.ref m0A, .ref m0K, .ref m0I, .ref m0R, .long 0, .long 1, .ref m0H, .ref m0F, .ref m0W, .ref m0L, .ref m0B, .ref m0T, .ref m0O, .ref m0Y, .int 0, .int 0, .int 0, .int 0, .int 0, .ref m0N, .ref m0V])), (m0A, .inl (G.2 0, 311, .inl (fun _ => 0))), (m0H, .inl (G.2 0, 56, .inl (fun _ => 0)))] := hD
    refine lv_istore (lv' := [(6, .int 0), (5, .int 0), (4, .int 0), (3, .int (-1)), (2, .int 1), (0, .ref m0), (1, .int a1)]) hx hb dX11_feast_67 hl (by decide) rfl (fun ls hl => ?_)
    refine lv_iload hx hb dX11_feast_69 (lv_at hl 0 rfl) ?_
    refine lv_iload_n hx hb dX11_feast_71 rfl (lv_at hl 3 rfl) ?_
    refine lv_icmp_le (tgt := 80) hx hb dX11_feast_72 (by decide) (fun c_5 => g_no c_5 (by decide)) (fun _ => ?_)
    refine lv_iload hx hb dX11_feast_75 (lv_at hl 1 rfl) ?_
    refine lv_goto (tgt := 82) hx hb dX11_feast_77 (by decide) ?_
    refine lv_istore (lv' := [(4, .int 0), (6, .int 0), (5, .int 0), (3, .int (-1)), (2, .int 1), (0, .ref m0), (1, .int a1)]) hx hb dX11_feast_82 hl (by decide) rfl (fun ls hl => ?_)
    refine lv_iload hx hb dX11_feast_84 (lv_at hl 1 rfl) ?_
    refine lv_iload_n hx hb dX11_feast_86 rfl (lv_at hl 3 rfl) ?_
    refine lv_icmp_le (tgt := 95) hx hb dX11_feast_87 (by decide) (fun c_6 => g_no c_6 (by decide)) (fun _ => ?_)
    refine lv_iload hx hb dX11_feast_90 (lv_at hl 1 rfl) ?_
    refine lv_goto (tgt := 96) hx hb dX11_feast_92 (by decide) ?_
    refine lv_istore_n (lv' := [(3, .int 0), (4, .int 0), (6, .int 0), (5, .int 0), (2, .int 1), (0, .ref m0), (1, .int a1)]) hx hb dX11_feast_96 rfl hl (by decide) rfl (fun ls hl => ?_)
    refine lv_iinc (v := 1) (lv' := [(5, .int 1), (3, .int 0), (4, .int 0), (6, .int 0), (2, .int 1), (0, .ref m0), (1, .int a1)]) hx hb dX11_feast_97 hl (k := 3) rfl (by decide) (by decide) rfl (fun ls hl => ?_)
    refine lv_goto (tgt := 55) hx hb dX11_feast_100 (by decide) ?_
    refine lv_iload hx hb dX11_feast_55 (lv_at hl 0 rfl) ?_
    refine lv_iload_n hx hb dX11_feast_57 rfl (lv_at hl 4 rfl) ?_
    refine lv_icmp_ge (tgt := 103) hx hb dX11_feast_58 (by decide) (fun _ => ?_) (fun c_7 => g_no (by decide) c_7)
    refine lv_aload_n hx hb dX11_feast_103 rfl (lv_at hl 5 rfl) ?_
    refine va_get (D := G.1) (ci := 10) (v := .ref m0A) (C := RX11) (T := TX11) (N := 21) hx hb hts (fun _ h => List.mem_cons_of_mem _ (List.mem_append_right _ h)) hown hK hP 1 rfl rfl 0 (by decide) (hts _ (List.mem_of_getElem? (i := 1) rfl)) (fun _ h9 => h9) rfl dX11_feast_104 ?_
    refine lv_iconst (v := 1) hx hb dX11_feast_107 (by decide) ?_
    refine va_iald hx hb hK hP 2 0 rfl rfl (by unfold vp_in; decide) dX11_feast_108 ?_
    refine g_topi (y := 0) rfl ?_
    refine lv_iconst (v := 1) hx hb dX11_feast_109 (by decide) ?_
    refine lv_isub hx hb dX11_feast_110 ?_
    refine g_topi (y := (-1)) (by decide) ?_
    refine lv_istore (lv' := [(5, .int (-1)), (3, .int 0), (4, .int 0), (6, .int 0), (2, .int 1), (0, .ref m0), (1, .int a1)]) hx hb dX11_feast_111 hl (by decide) rfl (fun ls hl => ?_)
    refine lv_iload hx hb dX11_feast_113 (lv_at hl 0 rfl) ?_
    refine lv_if_lt (tgt := 145) hx hb dX11_feast_115 (by decide) (fun _ => ?_) (fun c_8 => g_no (by decide) c_8)
    refine lv_iload_n hx hb dX11_feast_145 rfl (lv_at hl 6 rfl) ?_
    refine lv_iconst (v := (-1)) hx hb dX11_feast_146 (by decide) ?_
    refine lv_icmp_ne (tgt := 154) hx hb dX11_feast_147 (by decide) (fun c_9 => g_no c_1 c_9) (fun _ => ?_)
    refine lv_iload_n hx hb dX11_feast_150 rfl (lv_at hl 1 rfl) ?_
    refine lv_goto (tgt := 160) hx hb dX11_feast_151 (by decide) ?_
    have hP := hP.sub (ws' := []) [] rfl
    have hD := hD.sub (ws' := []) [] rfl rfl
    exact g_iret (v := 0) hx hb hr hlocks hP hD hS (⟨by simp [F_feast, c_1], rfl⟩) dX11_feast_160
  · refine lv_aload_n hx hb dX11_feast_5 rfl (lv_at hl 0 rfl) ?_
    refine lv_iload_n hx hb dX11_feast_6 rfl (lv_at hl 1 rfl) ?_
    refine g_calli (wr := [(m0H, .inl (G.2 0, 56, .inl (fun _ => 0))), (m0R, .inl (G.2 0, 3, .inl (fun _ => 0)))]) (va_runV (As := [.int a1]) (rest := []) ⟨hx, hb, hml, hown, hts⟩ (c_X11_isBiter l G (m0) (m0A) (m0K) (m0I) (m0R) (m0H) (m0F) (m0W) (m0L) (m0B) (m0T) (m0O) (m0Y) (m0N) (m0V) (a1) _) (cwV 1 hts gX11_feast_X11_isBiter rfl rfl rfl (by decide +kernel) ⟨Nat.le_of_ble_eq_true rfl, Nat.le_of_ble_eq_true rfl⟩) (g_preV m0 [.int a1] hP hD hK hN [0, 1] rfl rfl 0 (ci := 10) rfl rfl) rfl rfl hl.1 rfl (lv_room (Nat.le_of_ble_eq_true rfl)) dX11_feast_7 ⟨Nat.le_of_ble_eq_true rfl, Nat.le_of_ble_eq_true rfl⟩) hP hD hS hA [0, 1] [2, 3] rfl rfl rfl (by decide) (fun r_10 u H locs hw hP hD hS => ?_)
    obtain ⟨rfl, rfl⟩ := hw
    have hP : va_P G.1 vwCl [(m0H, .inl (G.2 0, 56, .inl (fun _ => 0))), (m0R, .inl (G.2 0, 3, .inl (fun _ => 0))), (m0, .inr (10, [.ref m0A, .ref m0K, .ref m0I, .ref m0R, .long 0, .long 1, .ref m0H, .ref m0F, .ref m0W, .ref m0L, .ref m0B, .ref m0T, .ref m0O, .ref m0Y, .int 0, .int 0, .int 0, .int 0, .int 0, .ref m0N, .ref m0V])), (m0A, .inl (G.2 0, 311, .inl (fun _ => 0)))] H := hP
    have hD : va_D A [(m0H, .inl (G.2 0, 56, .inl (fun _ => 0))), (m0R, .inl (G.2 0, 3, .inl (fun _ => 0))), (m0, .inr (10, [.ref m0A, .ref m0K, .ref m0I, .ref m0R, .long 0, .long 1, .ref m0H, .ref m0F, .ref m0W, .ref m0L, .ref m0B, .ref m0T, .ref m0O, .ref m0Y, .int 0, .int 0, .int 0, .int 0, .int 0, .ref m0N, .ref m0V])), (m0A, .inl (G.2 0, 311, .inl (fun _ => 0)))] := hD
    refine lv_if_ne (tgt := 20) hx hb dX11_feast_10 (by decide) (fun c_11 => g_no (by decide) c_11) (fun _ => ?_)
    refine lv_aload_n hx hb dX11_feast_13 rfl (lv_at hl 0 rfl) ?_
    refine lv_bipush (v := (-10)) hx hb dX11_feast_14 (by decide) ?_
    refine g_calli (wr := [(m0H, .inl (G.2 0, 56, .inl (fun _ => 0))), (m0A, .inl (G.2 0, 311, .inl (fun _ => 0)))]) (va_runV (As := [.int (-10)]) (rest := []) ⟨hx, hb, hml, hown, hts⟩ (c_X11_bad l G (m0) (m0A) (m0K) (m0I) (m0R) (m0H) (m0F) (m0W) (m0L) (m0B) (m0T) (m0O) (m0Y) (m0N) (m0V) ((-10)) _) (cwV 1 hts gX11_feast_X11_bad rfl rfl rfl (by decide +kernel) ⟨Nat.le_of_ble_eq_true rfl, Nat.le_of_ble_eq_true rfl⟩) (g_preV m0 [.int (-10)] hP hD hK hN [2, 1] rfl rfl 2 (ci := 10) rfl rfl) rfl rfl hl.1 rfl (lv_room (Nat.le_of_ble_eq_true rfl)) dX11_feast_16 ⟨Nat.le_of_ble_eq_true rfl, Nat.le_of_ble_eq_true rfl⟩) hP hD hS hA [2, 1] [0, 3] rfl rfl rfl (by decide) (fun r_12 u H locs hw hP hD hS => ?_)
    obtain ⟨rfl, rfl⟩ := hw
    have hP : va_P G.1 vwCl [(m0H, .inl (G.2 0, 56, .inl (fun _ => 0))), (m0A, .inl (G.2 0, 311, .inl (fun _ => 0)))] H := hP
    have hD : va_D A [(m0H, .inl (G.2 0, 56, .inl (fun _ => 0))), (m0A, .inl (G.2 0, 311, .inl (fun _ => 0)))] := hD
    have hP := hP.sub (ws' := []) [] rfl
    have hD := hD.sub (ws' := []) [] rfl rfl
    exact g_iret (v := (-10)) hx hb hr hlocks hP hD hS (⟨by simp [F_feast, c_1], rfl⟩) dX11_feast_19
theorem dX11_fraction_0 : decode cX11_fraction 0 = .ok (.lload_n 1, 1) := by decide +kernel
theorem dX11_fraction_1 : decode cX11_fraction 1 = .ok (.lstore 5, 2) := by decide +kernel
theorem dX11_fraction_3 : decode cX11_fraction 3 = .ok (.lload_n 3, 1) := by decide +kernel
theorem dX11_fraction_4 : decode cX11_fraction 4 = .ok (.lstore 7, 2) := by decide +kernel
theorem dX11_fraction_6 : decode cX11_fraction 6 = .ok (.lload 7, 2) := by decide +kernel
theorem dX11_fraction_8 : decode cX11_fraction 8 = .ok (.lconst 0, 1) := by decide +kernel
theorem dX11_fraction_9 : decode cX11_fraction 9 = .ok (.lcmp, 1) := by decide +kernel
theorem dX11_fraction_10 : decode cX11_fraction 10 = .ok (.ifCond .eq 21, 3) := by decide +kernel
theorem dX11_fraction_13 : decode cX11_fraction 13 = .ok (.lload 5, 2) := by decide +kernel
theorem dX11_fraction_15 : decode cX11_fraction 15 = .ok (.lload 7, 2) := by decide +kernel
theorem dX11_fraction_17 : decode cX11_fraction 17 = .ok (.lrem, 1) := by decide +kernel
theorem dX11_fraction_18 : decode cX11_fraction 18 = .ok (.lstore 9, 2) := by decide +kernel
theorem dX11_fraction_20 : decode cX11_fraction 20 = .ok (.lload 7, 2) := by decide +kernel
theorem dX11_fraction_22 : decode cX11_fraction 22 = .ok (.lstore 5, 2) := by decide +kernel
theorem dX11_fraction_24 : decode cX11_fraction 24 = .ok (.lload 9, 2) := by decide +kernel
theorem dX11_fraction_26 : decode cX11_fraction 26 = .ok (.lstore 7, 2) := by decide +kernel
theorem dX11_fraction_28 : decode cX11_fraction 28 = .ok (.goto (-22), 3) := by decide +kernel
theorem dX11_fraction_31 : decode cX11_fraction 31 = .ok (.aload_n 0, 1) := by decide +kernel
theorem dX11_fraction_32 : decode cX11_fraction 32 = .ok (.lload_n 1, 1) := by decide +kernel
theorem dX11_fraction_33 : decode cX11_fraction 33 = .ok (.lload 5, 2) := by decide +kernel
theorem dX11_fraction_35 : decode cX11_fraction 35 = .ok (.ldiv, 1) := by decide +kernel
theorem dX11_fraction_36 : decode cX11_fraction 36 = .ok (.putfield 207, 3) := by decide +kernel
theorem dX11_fraction_39 : decode cX11_fraction 39 = .ok (.aload_n 0, 1) := by decide +kernel
theorem dX11_fraction_40 : decode cX11_fraction 40 = .ok (.lload_n 3, 1) := by decide +kernel
theorem dX11_fraction_41 : decode cX11_fraction 41 = .ok (.lload 5, 2) := by decide +kernel
theorem dX11_fraction_43 : decode cX11_fraction 43 = .ok (.ldiv, 1) := by decide +kernel
theorem dX11_fraction_44 : decode cX11_fraction 44 = .ok (.putfield 23, 3) := by decide +kernel
theorem dX11_fraction_47 : decode cX11_fraction 47 = .ok (.return_, 1) := by decide +kernel
set_option maxHeartbeats 8000000 in
set_option maxRecDepth 100000 in
theorem c_X11_fraction (l : Launch) (G : gG) (m0 : Nat) (m0A : Nat) (m0K : Nat) (m0I : Nat) (m0R : Nat) (m0H : Nat) (m0F : Nat) (m0W : Nat) (m0L : Nat) (m0B : Nat) (m0T : Nat) (m0O : Nat) (m0Y : Nat) (m0N : Nat) (m0V : Nat) (sz : Nat) : gV G l yX11_fraction wsX11_fraction ({ frames := 0, cells := 0, slots := 0, locals := 0 } : Room) [.ref m0, .long 0, .long 10] [(m0, .inr (10, [.ref m0A, .ref m0K, .ref m0I, .ref m0R, .long 0, .long 1, .ref m0H, .ref m0F, .ref m0W, .ref m0L, .ref m0B, .ref m0T, .ref m0O, .ref m0Y, .int 0, .int 0, .int 0, .int 0, .int 0, .ref m0N, .ref m0V]))] sz (fun (u : va_W) => (u = [])) := by
  refine Met.ofW (cc := cX11_fraction) (maxL := 11) (ret := none) (by decide) rfl ?_
  intro p e s m args below meth c s₁ B hml hv
  obtain ⟨rfl, hsz, hP, hK, hD0, hN⟩ := hv
  have hx := B.exec
  have hb := B.bytes
  have hr := B.returns
  have hts := atoms_spec (ws := wsX11_fraction) B.pre
  have hown : s.vm.findClass RX11 = some m.cls := findClass_of_methodNamed B.named
  have hlocks := B.notSynchronized
  subst hsz
  have hD := hD0.self (sz := s.heap.size)
  generalize hAe : va_A [(m0, .inr (10, [.ref m0A, .ref m0K, .ref m0I, .ref m0R, .long 0, .long 1, .ref m0H, .ref m0F, .ref m0W, .ref m0L, .ref m0B, .ref m0T, .ref m0O, .ref m0Y, .int 0, .int 0, .int 0, .int 0, .int 0, .ref m0N, .ref m0V]))] s.heap.size = A at hD ⊢
  have hA : ∀ q : Nat, s.heap.size ≤ q → A q := fun q h => by rw [← hAe]; exact Or.inr h
  have hS : va_S A s.heap s.heap [] := va_S.rf
  have hP : va_P G.1 vwCl [(m0, .inr (10, [.ref m0A, .ref m0K, .ref m0I, .ref m0R, .long 0, .long 1, .ref m0H, .ref m0F, .ref m0W, .ref m0L, .ref m0B, .ref m0T, .ref m0O, .ref m0Y, .int 0, .int 0, .int 0, .int 0, .int 0, .ref m0N, .ref m0V]))] s.heap := hP
  have hl := lv_entry ([.ref m0, .long 0, .long 10]) (n := 11) (Nat.le_of_ble_eq_true rfl)
  rw [lg_entry_eq]
  generalize (lg_sl ([.ref m0, .long 0, .long 10]) ++ List.replicate (11 - (lg_sl ([.ref m0, .long 0, .long 10])).length) Slot.unset).toArray = ls at hl ⊢
  have hl : lv_has ls 11 [(0, .ref m0), (1, .long 0), (3, .long 10)] := hl
  refine lv_lload_n hx hb dX11_fraction_0 rfl (lv_at hl 1 rfl) ?_
  refine lv_lstore (lv' := [(5, .long 0), (0, .ref m0), (1, .long 0), (3, .long 10)]) hx hb dX11_fraction_1 hl (by decide) rfl (fun ls hl => ?_)
  refine lv_lload_n hx hb dX11_fraction_3 rfl (lv_at hl 3 rfl) ?_
  refine lv_lstore (lv' := [(7, .long 10), (5, .long 0), (0, .ref m0), (1, .long 0), (3, .long 10)]) hx hb dX11_fraction_4 hl (by decide) rfl (fun ls hl => ?_)
  refine lv_lload hx hb dX11_fraction_6 (lv_at hl 0 rfl) ?_
  refine lv_lconst (v := 0) hx hb dX11_fraction_8 (by decide) ?_
  refine W.lcmp hx hb dX11_fraction_9 ?_
  refine g_topi (y := 1) (by decide) ?_
  refine lv_if_eq (tgt := 31) hx hb dX11_fraction_10 (by decide) (fun c_1 => g_no c_1 (by decide)) (fun _ => ?_)
  refine lv_lload hx hb dX11_fraction_13 (lv_at hl 1 rfl) ?_
  refine lv_lload hx hb dX11_fraction_15 (lv_at hl 0 rfl) ?_
  refine lv_lrem hx hb dX11_fraction_17 (by decide) ?_
  refine g_topl (y := 0) (by decide) ?_
  refine lv_lstore (lv' := [(9, .long 0), (7, .long 10), (5, .long 0), (0, .ref m0), (1, .long 0), (3, .long 10)]) hx hb dX11_fraction_18 hl (by decide) rfl (fun ls hl => ?_)
  refine lv_lload hx hb dX11_fraction_20 (lv_at hl 1 rfl) ?_
  refine lv_lstore (lv' := [(5, .long 10), (9, .long 0), (7, .long 10), (0, .ref m0), (1, .long 0), (3, .long 10)]) hx hb dX11_fraction_22 hl (by decide) rfl (fun ls hl => ?_)
  refine lv_lload hx hb dX11_fraction_24 (lv_at hl 1 rfl) ?_
  refine lv_lstore (lv' := [(7, .long 0), (5, .long 10), (9, .long 0), (0, .ref m0), (1, .long 0), (3, .long 10)]) hx hb dX11_fraction_26 hl (by decide) rfl (fun ls hl => ?_)
  refine lv_goto (tgt := 6) hx hb dX11_fraction_28 (by decide) ?_
  refine lv_lload hx hb dX11_fraction_6 (lv_at hl 0 rfl) ?_
  refine lv_lconst (v := 0) hx hb dX11_fraction_8 (by decide) ?_
  refine W.lcmp hx hb dX11_fraction_9 ?_
  refine g_topi (y := 0) (by decide) ?_
  refine lv_if_eq (tgt := 31) hx hb dX11_fraction_10 (by decide) (fun _ => ?_) (fun c_2 => g_no (by decide) c_2)
  refine lv_aload_n hx hb dX11_fraction_31 rfl (lv_at hl 3 rfl) ?_
  refine lv_lload_n hx hb dX11_fraction_32 rfl (lv_at hl 4 rfl) ?_
  refine lv_lload hx hb dX11_fraction_33 (lv_at hl 1 rfl) ?_
  refine lv_ldiv hx hb dX11_fraction_35 (by decide) ?_
  refine g_topl (y := 0) (by decide) ?_
  refine va_put (D := G.1) (ci := 10) (v := .long 0) (ty := .long) (C := RX11) (T := TX11) (N := 21) hx hb hts (fun _ h => List.mem_cons_of_mem _ (List.mem_append_right _ h)) tyX11 tyX11_ok nmX11 hown hK hP hD hS 0 rfl rfl 4 (by decide) (hts _ (List.mem_of_getElem? (i := 1) rfl)) (fun _ h9 => h9) rfl (by decide +kernel) rfl rfl (Nat.le_of_ble_eq_true rfl) dX11_fraction_36 (fun H locs hP hD hS => ?_)
  have hP : va_P G.1 vwCl [(m0, .inr (10, [.ref m0A, .ref m0K, .ref m0I, .ref m0R, .long 0, .long 1, .ref m0H, .ref m0F, .ref m0W, .ref m0L, .ref m0B, .ref m0T, .ref m0O, .ref m0Y, .int 0, .int 0, .int 0, .int 0, .int 0, .ref m0N, .ref m0V]))] H := hP
  have hD : va_D A [(m0, .inr (10, [.ref m0A, .ref m0K, .ref m0I, .ref m0R, .long 0, .long 1, .ref m0H, .ref m0F, .ref m0W, .ref m0L, .ref m0B, .ref m0T, .ref m0O, .ref m0Y, .int 0, .int 0, .int 0, .int 0, .int 0, .ref m0N, .ref m0V]))] := hD
  refine lv_aload_n hx hb dX11_fraction_39 rfl (lv_at hl 3 rfl) ?_
  refine lv_lload_n hx hb dX11_fraction_40 rfl (lv_at hl 5 rfl) ?_
  refine lv_lload hx hb dX11_fraction_41 (lv_at hl 1 rfl) ?_
  refine lv_ldiv hx hb dX11_fraction_43 (by decide) ?_
  refine g_topl (y := 1) (by decide) ?_
  refine va_put (D := G.1) (ci := 10) (v := .long 1) (ty := .long) (C := RX11) (T := TX11) (N := 21) hx hb hts (fun _ h => List.mem_cons_of_mem _ (List.mem_append_right _ h)) tyX11 tyX11_ok nmX11 hown hK hP hD hS 0 rfl rfl 5 (by decide) (hts _ (List.mem_of_getElem? (i := 2) rfl)) (fun _ h9 => h9) rfl (by decide +kernel) rfl rfl (Nat.le_of_ble_eq_true rfl) dX11_fraction_44 (fun H locs hP hD hS => ?_)
  have hP : va_P G.1 vwCl [(m0, .inr (10, [.ref m0A, .ref m0K, .ref m0I, .ref m0R, .long 0, .long 1, .ref m0H, .ref m0F, .ref m0W, .ref m0L, .ref m0B, .ref m0T, .ref m0O, .ref m0Y, .int 0, .int 0, .int 0, .int 0, .int 0, .ref m0N, .ref m0V]))] H := hP
  have hD : va_D A [(m0, .inr (10, [.ref m0A, .ref m0K, .ref m0I, .ref m0R, .long 0, .long 1, .ref m0H, .ref m0F, .ref m0W, .ref m0L, .ref m0B, .ref m0T, .ref m0O, .ref m0Y, .int 0, .int 0, .int 0, .int 0, .int 0, .ref m0N, .ref m0V]))] := hD
  have hP := hP.sub (ws' := []) [] rfl
  have hD := hD.sub (ws' := []) [] rfl rfl
  exact g_vret hx hb hr hlocks hP hD hS (rfl) dX11_fraction_47
theorem dX11_wasps_0 : decode cX11_wasps 0 = .ok (.iload_n 1, 1) := by decide +kernel
theorem dX11_wasps_1 : decode cX11_wasps 1 = .ok (.i2l, 1) := by decide +kernel
theorem dX11_wasps_2 : decode cX11_wasps 2 = .ok (.lconst 0, 1) := by decide +kernel
theorem dX11_wasps_3 : decode cX11_wasps 3 = .ok (.ldc2_w 210, 3) := by decide +kernel
set_option maxRecDepth 20000 in
theorem ggX11_wasps_X11_in : GoodIn wsX11_wasps wsX11_in := goodIn_r _ [6] (by decide +kernel) (by decide +kernel)
set_option maxRecDepth 20000 in
theorem gX11_wasps_X11_in : GoodIn wsX11_wasps (va_wsS RX11 65 yX11_in wsX11_in) := goodIn_app (goodIn_of _ (by decide +kernel)) ggX11_wasps_X11_in
theorem dX11_wasps_6 : decode cX11_wasps 6 = .ok (.invokestatic 65, 3) := by decide +kernel
theorem dX11_wasps_9 : decode cX11_wasps 9 = .ok (.ifCond .ne 10, 3) := by decide +kernel
theorem dX11_wasps_19 : decode cX11_wasps 19 = .ok (.lconst 0, 1) := by decide +kernel
theorem dX11_wasps_20 : decode cX11_wasps 20 = .ok (.lstore_n 2, 1) := by decide +kernel
theorem dX11_wasps_21 : decode cX11_wasps 21 = .ok (.iconst 0, 1) := by decide +kernel
theorem dX11_wasps_22 : decode cX11_wasps 22 = .ok (.istore 4, 2) := by decide +kernel
theorem dX11_wasps_24 : decode cX11_wasps 24 = .ok (.iload 4, 2) := by decide +kernel
theorem dX11_wasps_26 : decode cX11_wasps 26 = .ok (.aload_n 0, 1) := by decide +kernel
set_option maxRecDepth 20000 in
theorem ggX11_wasps_X11_many : GoodIn wsX11_wasps wsX11_many := goodIn_r _ [15, 2, 34, 35, 36, 37, 38, 39, 40, 41, 42, 43, 44, 45, 46, 47, 48, 49, 50, 51, 52, 53, 54] (by decide +kernel) (by decide +kernel)
set_option maxRecDepth 20000 in
theorem gX11_wasps_X11_many : GoodIn wsX11_wasps (wsV RX11 61 RX11 yX11_many wsX11_many) := goodIn_app (goodIn_of _ (by decide +kernel)) ggX11_wasps_X11_many
theorem dX11_wasps_27 : decode cX11_wasps 27 = .ok (.invokevirtual 61, 3) := by decide +kernel
theorem dX11_wasps_30 : decode cX11_wasps 30 = .ok (.if_icmp .ge 101, 3) := by decide +kernel
theorem dX11_wasps_131 : decode cX11_wasps 131 = .ok (.aload_n 0, 1) := by decide +kernel
theorem dX11_wasps_132 : decode cX11_wasps 132 = .ok (.lload_n 2, 1) := by decide +kernel
theorem dX11_wasps_133 : decode cX11_wasps 133 = .ok (.ldc2_w 210, 3) := by decide +kernel
set_option maxRecDepth 20000 in
theorem ggX11_wasps_X11_fraction : GoodIn wsX11_wasps wsX11_fraction := goodIn_r _ [31, 32, 33, 34, 35, 36, 37, 38, 39, 40, 41, 42, 43, 44, 45, 46, 47, 48, 49, 50, 51, 52, 53, 54] (by decide +kernel) (by decide +kernel)
set_option maxRecDepth 20000 in
theorem gX11_wasps_X11_fraction : GoodIn wsX11_wasps (wsV RX11 212 RX11 yX11_fraction wsX11_fraction) := goodIn_app (goodIn_of _ (by decide +kernel)) ggX11_wasps_X11_fraction
theorem dX11_wasps_136 : decode cX11_wasps 136 = .ok (.invokevirtual 212, 3) := by decide +kernel
theorem dX11_wasps_139 : decode cX11_wasps 139 = .ok (.iconst 1, 1) := by decide +kernel
theorem dX11_wasps_140 : decode cX11_wasps 140 = .ok (.ireturn, 1) := by decide +kernel
theorem dX11_wasps_12 : decode cX11_wasps 12 = .ok (.aload_n 0, 1) := by decide +kernel
theorem dX11_wasps_13 : decode cX11_wasps 13 = .ok (.bipush (-2), 2) := by decide +kernel
set_option maxRecDepth 20000 in
theorem ggX11_wasps_X11_bad : GoodIn wsX11_wasps wsX11_bad := goodIn_r _ [10, 11, 34, 35, 36, 37, 38, 39, 40, 41, 42, 43, 44, 45, 46, 47, 48, 49, 50, 51, 52, 53, 54] (by decide +kernel) (by decide +kernel)
set_option maxRecDepth 20000 in
theorem gX11_wasps_X11_bad : GoodIn wsX11_wasps (wsV RX11 79 RX11 yX11_bad wsX11_bad) := goodIn_app (goodIn_of _ (by decide +kernel)) ggX11_wasps_X11_bad
theorem dX11_wasps_15 : decode cX11_wasps 15 = .ok (.invokevirtual 79, 3) := by decide +kernel
theorem dX11_wasps_18 : decode cX11_wasps 18 = .ok (.ireturn, 1) := by decide +kernel
set_option maxHeartbeats 8000000 in
set_option maxRecDepth 100000 in
theorem c_X11_wasps (l : Launch) (G : gG) (m0 : Nat) (m0A : Nat) (m0K : Nat) (m0I : Nat) (m0R : Nat) (m0H : Nat) (m0F : Nat) (m0W : Nat) (m0L : Nat) (m0B : Nat) (m0T : Nat) (m0O : Nat) (m0Y : Nat) (m0N : Nat) (m0V : Nat) (a1 : Int32) (sz : Nat) : gI G l yX11_wasps wsX11_wasps ({ frames := 1, cells := 0, slots := 0, locals := 30 } : Room) [.ref m0, .int a1] [(m0, .inr (10, [.ref m0A, .ref m0K, .ref m0I, .ref m0R, .long 0, .long 1, .ref m0H, .ref m0F, .ref m0W, .ref m0L, .ref m0B, .ref m0T, .ref m0O, .ref m0Y, .int 0, .int 0, .int 0, .int 0, .int 0, .ref m0N, .ref m0V])), (m0A, .inl (G.2 0, 311, .inl (fun _ => 0))), (m0R, .inl (G.2 0, 3, .inl (fun _ => 0)))] sz (fun (r : Int32) (u : va_W) => (r = (F_wasps a1) ∧ u = [])) := by
  refine Met.ofW (cc := cX11_wasps) (maxL := 7) (ret := (some .int)) (by decide) rfl ?_
  intro p e s m args below meth c s₁ B hml hv
  obtain ⟨rfl, hsz, hP, hK, hD0, hN⟩ := hv
  have hx := B.exec
  have hb := B.bytes
  have hr := B.returns
  have hts := atoms_spec (ws := wsX11_wasps) B.pre
  have hown : s.vm.findClass RX11 = some m.cls := findClass_of_methodNamed B.named
  have hlocks := B.notSynchronized
  subst hsz
  have hD := hD0.self (sz := s.heap.size)
  generalize hAe : va_A [(m0, .inr (10, [.ref m0A, .ref m0K, .ref m0I, .ref m0R, .long 0, .long 1, .ref m0H, .ref m0F, .ref m0W, .ref m0L, .ref m0B, .ref m0T, .ref m0O, .ref m0Y, .int 0, .int 0, .int 0, .int 0, .int 0, .ref m0N, .ref m0V])), (m0A, .inl (G.2 0, 311, .inl (fun _ => 0))), (m0R, .inl (G.2 0, 3, .inl (fun _ => 0)))] s.heap.size = A at hD ⊢
  have hA : ∀ q : Nat, s.heap.size ≤ q → A q := fun q h => by rw [← hAe]; exact Or.inr h
  have hS : va_S A s.heap s.heap [] := va_S.rf
  have hP : va_P G.1 vwCl [(m0, .inr (10, [.ref m0A, .ref m0K, .ref m0I, .ref m0R, .long 0, .long 1, .ref m0H, .ref m0F, .ref m0W, .ref m0L, .ref m0B, .ref m0T, .ref m0O, .ref m0Y, .int 0, .int 0, .int 0, .int 0, .int 0, .ref m0N, .ref m0V])), (m0A, .inl (G.2 0, 311, .inl (fun _ => 0))), (m0R, .inl (G.2 0, 3, .inl (fun _ => 0)))] s.heap := hP
  have hl := lv_entry ([.ref m0, .int a1]) (n := 7) (Nat.le_of_ble_eq_true rfl)
  rw [lg_entry_eq]
  generalize (lg_sl ([.ref m0, .int a1]) ++ List.replicate (7 - (lg_sl ([.ref m0, .int a1])).length) Slot.unset).toArray = ls at hl ⊢
  have hl : lv_has ls 7 [(0, .ref m0), (1, .int a1)] := hl
  refine lv_iload_n hx hb dX11_wasps_0 rfl (lv_at hl 1 rfl) ?_
  refine lv_i2l (v := a1.toInt64) hx hb dX11_wasps_1 rfl ?_
  refine lv_lconst (v := 0) hx hb dX11_wasps_2 (by decide) ?_
  refine lv_ldc2 (v := 10) hx hb hown (hts _ (List.mem_of_getElem? (i := 1) rfl)) dX11_wasps_3 ?_
  refine g_calli (wr := [(m0, .inr (10, [.ref m0A, .ref m0K, .ref m0I, .ref m0R, .long 0, .long 1, .ref m0H, .ref m0F, .ref m0W, .ref m0L, .ref m0B, .ref m0T, .ref m0O, .ref m0Y, .int 0, .int 0, .int 0, .int 0, .int 0, .ref m0N, .ref m0V])), (m0A, .inl (G.2 0, 311, .inl (fun _ => 0))), (m0R, .inl (G.2 0, 3, .inl (fun _ => 0)))]) (va_runS (As := [.long a1.toInt64, .long 0, .long 10]) (rest := []) ⟨hx, hb, hml, hown, hts⟩ (c_X11_in l G (a1.toInt64) (0) (10) _) (va_cwS 3 hts gX11_wasps_X11_in rfl rfl rfl (by decide +kernel) ⟨Nat.le_of_ble_eq_true rfl, Nat.le_of_ble_eq_true rfl⟩) (g_preS [.long a1.toInt64, .long 0, .long 10] hP hD hK hN [] rfl rfl) rfl rfl hl.1 rfl (lv_room (Nat.le_of_ble_eq_true rfl)) dX11_wasps_6 ⟨Nat.le_of_ble_eq_true rfl, Nat.le_of_ble_eq_true rfl⟩) hP hD hS hA [] [0, 1, 2] rfl rfl rfl (by decide) (fun r_1 u H locs hw hP hD hS => ?_)
  rcases hw with ⟨k_2, rfl, rfl⟩ | ⟨k_3, rfl, rfl⟩
  · have hP : va_P G.1 vwCl [(m0, .inr (10, [.ref m0A, .ref m0K, .ref m0I, .ref m0R, .long 0, .long 1, .ref m0H, .ref m0F, .ref m0W, .ref m0L, .ref m0B, .ref m0T, .ref m0O, .ref m0Y, .int 0, .int 0, .int 0, .int 0, .int 0, .ref m0N, .ref m0V])), (m0A, .inl (G.2 0, 311, .inl (fun _ => 0))), (m0R, .inl (G.2 0, 3, .inl (fun _ => 0)))] H := hP
    have hD : va_D A [(m0, .inr (10, [.ref m0A, .ref m0K, .ref m0I, .ref m0R, .long 0, .long 1, .ref m0H, .ref m0F, .ref m0W, .ref m0L, .ref m0B, .ref m0T, .ref m0O, .ref m0Y, .int 0, .int 0, .int 0, .int 0, .int 0, .ref m0N, .ref m0V])), (m0A, .inl (G.2 0, 311, .inl (fun _ => 0))), (m0R, .inl (G.2 0, 3, .inl (fun _ => 0)))] := hD
    refine lv_if_ne (tgt := 19) hx hb dX11_wasps_9 (by decide) (fun _ => ?_) (fun c_4 => g_no c_4 (by decide))
    refine lv_lconst (v := 0) hx hb dX11_wasps_19 (by decide) ?_
    refine lv_lstore_n (lv' := [(2, .long 0), (0, .ref m0), (1, .int a1)]) hx hb dX11_wasps_20 rfl hl (by decide) rfl (fun ls hl => ?_)
    refine lv_iconst (v := 0) hx hb dX11_wasps_21 (by decide) ?_
    refine lv_istore (lv' := [(4, .int 0), (2, .long 0), (0, .ref m0), (1, .int a1)]) hx hb dX11_wasps_22 hl (by decide) rfl (fun ls hl => ?_)
    refine lv_iload hx hb dX11_wasps_24 (lv_at hl 0 rfl) ?_
    refine lv_aload_n hx hb dX11_wasps_26 rfl (lv_at hl 2 rfl) ?_
    refine g_calli (wr := [(m0R, .inl (G.2 0, 3, .inl (fun _ => 0)))]) (va_runV (As := []) (rest := [.int 0]) ⟨hx, hb, hml, hown, hts⟩ (c_X11_many l G (m0) (m0A) (m0K) (m0I) (m0R) (m0H) (m0F) (m0W) (m0L) (m0B) (m0T) (m0O) (m0Y) (m0N) (m0V) _) (cwV 0 hts gX11_wasps_X11_many rfl rfl rfl (by decide +kernel) ⟨Nat.le_of_ble_eq_true rfl, Nat.le_of_ble_eq_true rfl⟩) (g_preV m0 [] hP hD hK hN [0, 1] rfl rfl 0 (ci := 10) rfl rfl) rfl rfl hl.1 rfl (lv_room (Nat.le_of_ble_eq_true rfl)) dX11_wasps_27 ⟨Nat.le_of_ble_eq_true rfl, Nat.le_of_ble_eq_true rfl⟩) hP hD hS hA [0, 1] [2] rfl rfl rfl (by decide) (fun r_5 u H locs hw hP hD hS => ?_)
    obtain ⟨rfl, rfl⟩ := hw
    have hP : va_P G.1 vwCl [(m0R, .inl (G.2 0, 3, .inl (fun _ => 0))), (m0, .inr (10, [.ref m0A, .ref m0K, .ref m0I, .ref m0R, .long 0, .long 1, .ref m0H, .ref m0F, .ref m0W, .ref m0L, .ref m0B, .ref m0T, .ref m0O, .ref m0Y, .int 0, .int 0, .int 0, .int 0, .int 0, .ref m0N, .ref m0V])), (m0A, .inl (G.2 0, 311, .inl (fun _ => 0)))] H := hP
    have hD : va_D A [(m0R, .inl (G.2 0, 3, .inl (fun _ => 0))), (m0, .inr (10, [.ref m0A, .ref m0K, .ref m0I, .ref m0R, .long 0, .long 1, .ref m0H, .ref m0F, .ref m0W, .ref m0L, .ref m0B, .ref m0T, .ref m0O, .ref m0Y, .int 0, .int 0, .int 0, .int 0, .int 0, .ref m0N, .ref m0V])), (m0A, .inl (G.2 0, 311, .inl (fun _ => 0)))] := hD
    refine lv_icmp_ge (tgt := 131) hx hb dX11_wasps_30 (by decide) (fun _ => ?_) (fun c_6 => g_no (by decide) c_6)
    refine lv_aload_n hx hb dX11_wasps_131 rfl (lv_at hl 2 rfl) ?_
    refine lv_lload_n hx hb dX11_wasps_132 rfl (lv_at hl 1 rfl) ?_
    refine lv_ldc2 (v := 10) hx hb hown (hts _ (List.mem_of_getElem? (i := 1) rfl)) dX11_wasps_133 ?_
    refine g_callv (wr := [(m0R, .inl (G.2 0, 3, .inl (fun _ => 0))), (m0A, .inl (G.2 0, 311, .inl (fun _ => 0)))]) (va_runV (As := [.long 0, .long 10]) (rest := []) ⟨hx, hb, hml, hown, hts⟩ (c_X11_fraction l G (m0) (m0A) (m0K) (m0I) (m0R) (m0H) (m0F) (m0W) (m0L) (m0B) (m0T) (m0O) (m0Y) (m0N) (m0V) _) (cwV 2 hts gX11_wasps_X11_fraction rfl rfl rfl (by decide +kernel) ⟨Nat.le_of_ble_eq_true rfl, Nat.le_of_ble_eq_true rfl⟩) (g_preV m0 [.long 0, .long 10] hP hD hK hN [1] rfl rfl 1 (ci := 10) rfl rfl) rfl rfl hl.1 rfl (lv_room (Nat.le_of_ble_eq_true rfl)) dX11_wasps_136 ⟨Nat.le_of_ble_eq_true rfl, Nat.le_of_ble_eq_true rfl⟩) hP hD hS hA [1] [0, 2] rfl rfl rfl (by decide) (fun u H locs hw hP hD hS => ?_)
    subst hw
    have hP : va_P G.1 vwCl [(m0R, .inl (G.2 0, 3, .inl (fun _ => 0))), (m0A, .inl (G.2 0, 311, .inl (fun _ => 0)))] H := hP
    have hD : va_D A [(m0R, .inl (G.2 0, 3, .inl (fun _ => 0))), (m0A, .inl (G.2 0, 311, .inl (fun _ => 0)))] := hD
    refine lv_iconst (v := 1) hx hb dX11_wasps_139 (by decide) ?_
    have hP := hP.sub (ws' := []) [] rfl
    have hD := hD.sub (ws' := []) [] rfl rfl
    exact g_iret (v := 1) hx hb hr hlocks hP hD hS (⟨by have e1 := (inL_i (lo := 0) (n := a1) (hi := 10) (by decide) (by decide)).symm.trans k_2; simp [F_wasps, e1], rfl⟩) dX11_wasps_140
  · have hP : va_P G.1 vwCl [(m0, .inr (10, [.ref m0A, .ref m0K, .ref m0I, .ref m0R, .long 0, .long 1, .ref m0H, .ref m0F, .ref m0W, .ref m0L, .ref m0B, .ref m0T, .ref m0O, .ref m0Y, .int 0, .int 0, .int 0, .int 0, .int 0, .ref m0N, .ref m0V])), (m0A, .inl (G.2 0, 311, .inl (fun _ => 0))), (m0R, .inl (G.2 0, 3, .inl (fun _ => 0)))] H := hP
    have hD : va_D A [(m0, .inr (10, [.ref m0A, .ref m0K, .ref m0I, .ref m0R, .long 0, .long 1, .ref m0H, .ref m0F, .ref m0W, .ref m0L, .ref m0B, .ref m0T, .ref m0O, .ref m0Y, .int 0, .int 0, .int 0, .int 0, .int 0, .ref m0N, .ref m0V])), (m0A, .inl (G.2 0, 311, .inl (fun _ => 0))), (m0R, .inl (G.2 0, 3, .inl (fun _ => 0)))] := hD
    refine lv_if_ne (tgt := 19) hx hb dX11_wasps_9 (by decide) (fun c_7 => g_no (by decide) c_7) (fun _ => ?_)
    refine lv_aload_n hx hb dX11_wasps_12 rfl (lv_at hl 0 rfl) ?_
    refine lv_bipush (v := (-2)) hx hb dX11_wasps_13 (by decide) ?_
    refine g_calli (wr := [(m0A, .inl (G.2 0, 311, .inl (fun _ => 0)))]) (va_runV (As := [.int (-2)]) (rest := []) ⟨hx, hb, hml, hown, hts⟩ (c_X11_bad l G (m0) (m0A) (m0K) (m0I) (m0R) (m0H) (m0F) (m0W) (m0L) (m0B) (m0T) (m0O) (m0Y) (m0N) (m0V) ((-2)) _) (cwV 1 hts gX11_wasps_X11_bad rfl rfl rfl (by decide +kernel) ⟨Nat.le_of_ble_eq_true rfl, Nat.le_of_ble_eq_true rfl⟩) (g_preV m0 [.int (-2)] hP hD hK hN [0, 2] rfl rfl 0 (ci := 10) rfl rfl) rfl rfl hl.1 rfl (lv_room (Nat.le_of_ble_eq_true rfl)) dX11_wasps_15 ⟨Nat.le_of_ble_eq_true rfl, Nat.le_of_ble_eq_true rfl⟩) hP hD hS hA [0, 2] [1] rfl rfl rfl (by decide) (fun r_8 u H locs hw hP hD hS => ?_)
    obtain ⟨rfl, rfl⟩ := hw
    have hP : va_P G.1 vwCl [(m0A, .inl (G.2 0, 311, .inl (fun _ => 0)))] H := hP
    have hD : va_D A [(m0A, .inl (G.2 0, 311, .inl (fun _ => 0)))] := hD
    have hP := hP.sub (ws' := []) [] rfl
    have hD := hD.sub (ws' := []) [] rfl rfl
    exact g_iret (v := (-2)) hx hb hr hlocks hP hD hS (⟨by have e1 := (inL_i (lo := 0) (n := a1) (hi := 10) (by decide) (by decide)).symm.trans k_3; simp [F_wasps, e1], rfl⟩) dX11_wasps_18
theorem dX11_augusts_0 : decode cX11_augusts 0 = .ok (.iload_n 1, 1) := by decide +kernel
theorem dX11_augusts_1 : decode cX11_augusts 1 = .ok (.i2l, 1) := by decide +kernel
theorem dX11_augusts_2 : decode cX11_augusts 2 = .ok (.lconst 0, 1) := by decide +kernel
theorem dX11_augusts_3 : decode cX11_augusts 3 = .ok (.ldc2_w 216, 3) := by decide +kernel
set_option maxRecDepth 20000 in
theorem ggX11_augusts_X11_in : GoodIn wsX11_augusts wsX11_in := goodIn_r _ [14] (by decide +kernel) (by decide +kernel)
set_option maxRecDepth 20000 in
theorem gX11_augusts_X11_in : GoodIn wsX11_augusts (va_wsS RX11 65 yX11_in wsX11_in) := goodIn_app (goodIn_of _ (by decide +kernel)) ggX11_augusts_X11_in
theorem dX11_augusts_6 : decode cX11_augusts 6 = .ok (.invokestatic 65, 3) := by decide +kernel
theorem dX11_augusts_9 : decode cX11_augusts 9 = .ok (.ifCond .eq 15, 3) := by decide +kernel
theorem dX11_augusts_12 : decode cX11_augusts 12 = .ok (.iload_n 2, 1) := by decide +kernel
theorem dX11_augusts_13 : decode cX11_augusts 13 = .ok (.i2l, 1) := by decide +kernel
theorem dX11_augusts_14 : decode cX11_augusts 14 = .ok (.lconst 0, 1) := by decide +kernel
theorem dX11_augusts_15 : decode cX11_augusts 15 = .ok (.ldc2_w 131, 3) := by decide +kernel
theorem dX11_augusts_18 : decode cX11_augusts 18 = .ok (.invokestatic 65, 3) := by decide +kernel
theorem dX11_augusts_21 : decode cX11_augusts 21 = .ok (.ifCond .ne 10, 3) := by decide +kernel
theorem dX11_augusts_31 : decode cX11_augusts 31 = .ok (.iload_n 1, 1) := by decide +kernel
theorem dX11_augusts_32 : decode cX11_augusts 32 = .ok (.i2l, 1) := by decide +kernel
theorem dX11_augusts_33 : decode cX11_augusts 33 = .ok (.lstore_n 3, 1) := by decide +kernel
theorem dX11_augusts_34 : decode cX11_augusts 34 = .ok (.aload_n 0, 1) := by decide +kernel
set_option maxRecDepth 20000 in
theorem ggX11_augusts_X11_layHand : GoodIn wsX11_augusts wsX11_layHand := goodIn_r _ [23, 10, 24, 64, 65, 66, 67, 68, 69, 70, 71, 72, 73, 74, 75, 76, 77, 78, 79, 80, 81, 82, 83, 84] (by decide +kernel) (by decide +kernel)
set_option maxRecDepth 20000 in
theorem gX11_augusts_X11_layHand : GoodIn wsX11_augusts (wsV RX11 162 RX11 yX11_layHand wsX11_layHand) := goodIn_app (goodIn_of _ (by decide +kernel)) ggX11_augusts_X11_layHand
theorem dX11_augusts_35 : decode cX11_augusts 35 = .ok (.invokevirtual 162, 3) := by decide +kernel
theorem dX11_augusts_38 : decode cX11_augusts 38 = .ok (.iconst 0, 1) := by decide +kernel
theorem dX11_augusts_39 : decode cX11_augusts 39 = .ok (.istore 5, 2) := by decide +kernel
theorem dX11_augusts_41 : decode cX11_augusts 41 = .ok (.iload 5, 2) := by decide +kernel
theorem dX11_augusts_43 : decode cX11_augusts 43 = .ok (.iload_n 2, 1) := by decide +kernel
theorem dX11_augusts_44 : decode cX11_augusts 44 = .ok (.if_icmp .ge 83, 3) := by decide +kernel
theorem dX11_augusts_47 : decode cX11_augusts 47 = .ok (.lload_n 3, 1) := by decide +kernel
theorem dX11_augusts_48 : decode cX11_augusts 48 = .ok (.ldc2_w 218, 3) := by decide +kernel
theorem dX11_augusts_51 : decode cX11_augusts 51 = .ok (.lmul, 1) := by decide +kernel
theorem dX11_augusts_52 : decode cX11_augusts 52 = .ok (.ldc2_w 220, 3) := by decide +kernel
theorem dX11_augusts_55 : decode cX11_augusts 55 = .ok (.ladd, 1) := by decide +kernel
theorem dX11_augusts_56 : decode cX11_augusts 56 = .ok (.ldc2_w 222, 3) := by decide +kernel
theorem dX11_augusts_59 : decode cX11_augusts 59 = .ok (.lrem, 1) := by decide +kernel
theorem dX11_augusts_60 : decode cX11_augusts 60 = .ok (.lstore_n 3, 1) := by decide +kernel
theorem dX11_augusts_61 : decode cX11_augusts 61 = .ok (.lload_n 3, 1) := by decide +kernel
theorem dX11_augusts_62 : decode cX11_augusts 62 = .ok (.ldc2_w 224, 3) := by decide +kernel
theorem dX11_augusts_65 : decode cX11_augusts 65 = .ok (.ldiv, 1) := by decide +kernel
theorem dX11_augusts_66 : decode cX11_augusts 66 = .ok (.ldc2_w 71, 3) := by decide +kernel
theorem dX11_augusts_69 : decode cX11_augusts 69 = .ok (.lrem, 1) := by decide +kernel
theorem dX11_augusts_70 : decode cX11_augusts 70 = .ok (.l2i, 1) := by decide +kernel
theorem dX11_augusts_71 : decode cX11_augusts 71 = .ok (.istore 6, 2) := by decide +kernel
theorem dX11_augusts_73 : decode cX11_augusts 73 = .ok (.lload_n 3, 1) := by decide +kernel
theorem dX11_augusts_74 : decode cX11_augusts 74 = .ok (.ldc2_w 226, 3) := by decide +kernel
theorem dX11_augusts_77 : decode cX11_augusts 77 = .ok (.ldiv, 1) := by decide +kernel
theorem dX11_augusts_78 : decode cX11_augusts 78 = .ok (.ldc2_w 228, 3) := by decide +kernel
theorem dX11_augusts_81 : decode cX11_augusts 81 = .ok (.lrem, 1) := by decide +kernel
theorem dX11_augusts_82 : decode cX11_augusts 82 = .ok (.l2i, 1) := by decide +kernel
theorem dX11_augusts_83 : decode cX11_augusts 83 = .ok (.istore 7, 2) := by decide +kernel
theorem dX11_augusts_85 : decode cX11_augusts 85 = .ok (.aload_n 0, 1) := by decide +kernel
theorem dX11_augusts_86 : decode cX11_augusts 86 = .ok (.iload 6, 2) := by decide +kernel
set_option maxRecDepth 20000 in
theorem ggX11_augusts_X11_isBiter : GoodIn wsX11_augusts wsX11_isBiter := goodIn_r _ [28, 24, 11, 12, 13, 14, 64, 65, 66, 67, 68, 69, 70, 71, 72, 73, 74, 75, 76, 77, 78, 79, 80, 81, 82, 83, 84] (by decide +kernel) (by decide +kernel)
set_option maxRecDepth 20000 in
theorem gX11_augusts_X11_isBiter : GoodIn wsX11_augusts (wsV RX11 143 RX11 yX11_isBiter wsX11_isBiter) := goodIn_app (goodIn_of _ (by decide +kernel)) ggX11_augusts_X11_isBiter
theorem dX11_augusts_88 : decode cX11_augusts 88 = .ok (.invokevirtual 143, 3) := by decide +kernel
theorem dX11_augusts_91 : decode cX11_augusts 91 = .ok (.ifCond .eq 23, 3) := by decide +kernel
theorem dX11_augusts_114 : decode cX11_augusts 114 = .ok (.aload_n 0, 1) := by decide +kernel
theorem dX11_augusts_115 : decode cX11_augusts 115 = .ok (.getfield 27, 3) := by decide +kernel
set_option maxRecDepth 20000 in
theorem ggX11_augusts_X11_goDay : GoodIn wsX11_augusts wsX11_goDay := goodIn_r _ [60, 55, 56, 13, 57] (by decide +kernel) (by decide +kernel)
set_option maxRecDepth 20000 in
theorem gX11_augusts_X11_goDay : GoodIn wsX11_augusts (va_wsS RX11 128 yX11_goDay wsX11_goDay) := goodIn_app (goodIn_of _ (by decide +kernel)) ggX11_augusts_X11_goDay
theorem dX11_augusts_118 : decode cX11_augusts 118 = .ok (.invokestatic 128, 3) := by decide +kernel
theorem dX11_augusts_121 : decode cX11_augusts 121 = .ok (.iinc 5 1, 3) := by decide +kernel
theorem dX11_augusts_124 : decode cX11_augusts 124 = .ok (.goto (-83), 3) := by decide +kernel
theorem dX11_augusts_127 : decode cX11_augusts 127 = .ok (.aload_n 0, 1) := by decide +kernel
theorem dX11_augusts_128 : decode cX11_augusts 128 = .ok (.getfield 27, 3) := by decide +kernel
theorem dX11_augusts_131 : decode cX11_augusts 131 = .ok (.iconst 1, 1) := by decide +kernel
set_option maxRecDepth 20000 in
theorem ggX11_augusts_X11_manyWith : GoodIn wsX11_augusts wsX11_manyWith := goodIn_r _ [63] (by decide +kernel) (by decide +kernel)
set_option maxRecDepth 20000 in
theorem gX11_augusts_X11_manyWith : GoodIn wsX11_augusts (va_wsS RX11 140 yX11_manyWith wsX11_manyWith) := goodIn_app (goodIn_of _ (by decide +kernel)) ggX11_augusts_X11_manyWith
theorem dX11_augusts_132 : decode cX11_augusts 132 = .ok (.invokestatic 140, 3) := by decide +kernel
theorem dX11_augusts_135 : decode cX11_augusts 135 = .ok (.ireturn, 1) := by decide +kernel
theorem dX11_augusts_24 : decode cX11_augusts 24 = .ok (.aload_n 0, 1) := by decide +kernel
theorem dX11_augusts_25 : decode cX11_augusts 25 = .ok (.bipush (-2), 2) := by decide +kernel
set_option maxRecDepth 20000 in
theorem ggX11_augusts_X11_bad : GoodIn wsX11_augusts wsX11_bad := goodIn_r _ [18, 19, 64, 65, 66, 67, 68, 69, 70, 71, 72, 73, 74, 75, 76, 77, 78, 79, 80, 81, 82, 83, 84] (by decide +kernel) (by decide +kernel)
set_option maxRecDepth 20000 in
theorem gX11_augusts_X11_bad : GoodIn wsX11_augusts (wsV RX11 79 RX11 yX11_bad wsX11_bad) := goodIn_app (goodIn_of _ (by decide +kernel)) ggX11_augusts_X11_bad
theorem dX11_augusts_27 : decode cX11_augusts 27 = .ok (.invokevirtual 79, 3) := by decide +kernel
theorem dX11_augusts_30 : decode cX11_augusts 30 = .ok (.ireturn, 1) := by decide +kernel
set_option maxHeartbeats 8000000 in
set_option maxRecDepth 100000 in
theorem c_X11_augusts (l : Launch) (G : gG) (m0 : Nat) (m0A : Nat) (m0K : Nat) (m0I : Nat) (m0R : Nat) (m0H : Nat) (m0F : Nat) (m0W : Nat) (m0L : Nat) (m0B : Nat) (m0T : Nat) (m0O : Nat) (m0Y : Nat) (m0N : Nat) (m0V : Nat) (a1 : Int32) (a2 : Int32) (sz : Nat) : gI G l yX11_augusts wsX11_augusts ({ frames := 2, cells := 0, slots := 0, locals := 46 } : Room) [.ref m0, .int a1, .int a2] [(m0, .inr (10, [.ref m0A, .ref m0K, .ref m0I, .ref m0R, .long 0, .long 1, .ref m0H, .ref m0F, .ref m0W, .ref m0L, .ref m0B, .ref m0T, .ref m0O, .ref m0Y, .int 0, .int 0, .int 0, .int 0, .int 0, .ref m0N, .ref m0V])), (m0A, .inl (G.2 0, 311, .inl (fun _ => 0))), (m0H, .inl (G.2 0, 56, .inl (fun _ => 0))), (m0R, .inl (G.2 0, 3, .inl (fun _ => 0)))] sz (fun (r : Int32) (u : va_W) => (r = (F_augusts a1 a2) ∧ u = [])) := by
  refine Met.ofW (cc := cX11_augusts) (maxL := 8) (ret := (some .int)) (by decide) rfl ?_
  intro p e s m args below meth c s₁ B hml hv
  obtain ⟨rfl, hsz, hP, hK, hD0, hN⟩ := hv
  have hx := B.exec
  have hb := B.bytes
  have hr := B.returns
  have hts := atoms_spec (ws := wsX11_augusts) B.pre
  have hown : s.vm.findClass RX11 = some m.cls := findClass_of_methodNamed B.named
  have hlocks := B.notSynchronized
  subst hsz
  have hD := hD0.self (sz := s.heap.size)
  generalize hAe : va_A [(m0, .inr (10, [.ref m0A, .ref m0K, .ref m0I, .ref m0R, .long 0, .long 1, .ref m0H, .ref m0F, .ref m0W, .ref m0L, .ref m0B, .ref m0T, .ref m0O, .ref m0Y, .int 0, .int 0, .int 0, .int 0, .int 0, .ref m0N, .ref m0V])), (m0A, .inl (G.2 0, 311, .inl (fun _ => 0))), (m0H, .inl (G.2 0, 56, .inl (fun _ => 0))), (m0R, .inl (G.2 0, 3, .inl (fun _ => 0)))] s.heap.size = A at hD ⊢
  have hA : ∀ q : Nat, s.heap.size ≤ q → A q := fun q h => by rw [← hAe]; exact Or.inr h
  have hS : va_S A s.heap s.heap [] := va_S.rf
  have hP : va_P G.1 vwCl [(m0, .inr (10, [.ref m0A, .ref m0K, .ref m0I, .ref m0R, .long 0, .long 1, .ref m0H, .ref m0F, .ref m0W, .ref m0L, .ref m0B, .ref m0T, .ref m0O, .ref m0Y, .int 0, .int 0, .int 0, .int 0, .int 0, .ref m0N, .ref m0V])), (m0A, .inl (G.2 0, 311, .inl (fun _ => 0))), (m0H, .inl (G.2 0, 56, .inl (fun _ => 0))), (m0R, .inl (G.2 0, 3, .inl (fun _ => 0)))] s.heap := hP
  have hl := lv_entry ([.ref m0, .int a1, .int a2]) (n := 8) (Nat.le_of_ble_eq_true rfl)
  rw [lg_entry_eq]
  generalize (lg_sl ([.ref m0, .int a1, .int a2]) ++ List.replicate (8 - (lg_sl ([.ref m0, .int a1, .int a2])).length) Slot.unset).toArray = ls at hl ⊢
  have hl : lv_has ls 8 [(0, .ref m0), (1, .int a1), (2, .int a2)] := hl
  refine lv_iload_n hx hb dX11_augusts_0 rfl (lv_at hl 1 rfl) ?_
  refine lv_i2l (v := a1.toInt64) hx hb dX11_augusts_1 rfl ?_
  refine lv_lconst (v := 0) hx hb dX11_augusts_2 (by decide) ?_
  refine lv_ldc2 (v := 999999) hx hb hown (hts _ (List.mem_of_getElem? (i := 1) rfl)) dX11_augusts_3 ?_
  refine g_calli (wr := [(m0, .inr (10, [.ref m0A, .ref m0K, .ref m0I, .ref m0R, .long 0, .long 1, .ref m0H, .ref m0F, .ref m0W, .ref m0L, .ref m0B, .ref m0T, .ref m0O, .ref m0Y, .int 0, .int 0, .int 0, .int 0, .int 0, .ref m0N, .ref m0V])), (m0A, .inl (G.2 0, 311, .inl (fun _ => 0))), (m0H, .inl (G.2 0, 56, .inl (fun _ => 0))), (m0R, .inl (G.2 0, 3, .inl (fun _ => 0)))]) (va_runS (As := [.long a1.toInt64, .long 0, .long 999999]) (rest := []) ⟨hx, hb, hml, hown, hts⟩ (c_X11_in l G (a1.toInt64) (0) (999999) _) (va_cwS 3 hts gX11_augusts_X11_in rfl rfl rfl (by decide +kernel) ⟨Nat.le_of_ble_eq_true rfl, Nat.le_of_ble_eq_true rfl⟩) (g_preS [.long a1.toInt64, .long 0, .long 999999] hP hD hK hN [] rfl rfl) rfl rfl hl.1 rfl (lv_room (Nat.le_of_ble_eq_true rfl)) dX11_augusts_6 ⟨Nat.le_of_ble_eq_true rfl, Nat.le_of_ble_eq_true rfl⟩) hP hD hS hA [] [0, 1, 2, 3] rfl rfl rfl (by decide) (fun r_1 u H locs hw hP hD hS => ?_)
  rcases hw with ⟨k_2, rfl, rfl⟩ | ⟨k_3, rfl, rfl⟩
  · have hP : va_P G.1 vwCl [(m0, .inr (10, [.ref m0A, .ref m0K, .ref m0I, .ref m0R, .long 0, .long 1, .ref m0H, .ref m0F, .ref m0W, .ref m0L, .ref m0B, .ref m0T, .ref m0O, .ref m0Y, .int 0, .int 0, .int 0, .int 0, .int 0, .ref m0N, .ref m0V])), (m0A, .inl (G.2 0, 311, .inl (fun _ => 0))), (m0H, .inl (G.2 0, 56, .inl (fun _ => 0))), (m0R, .inl (G.2 0, 3, .inl (fun _ => 0)))] H := hP
    have hD : va_D A [(m0, .inr (10, [.ref m0A, .ref m0K, .ref m0I, .ref m0R, .long 0, .long 1, .ref m0H, .ref m0F, .ref m0W, .ref m0L, .ref m0B, .ref m0T, .ref m0O, .ref m0Y, .int 0, .int 0, .int 0, .int 0, .int 0, .ref m0N, .ref m0V])), (m0A, .inl (G.2 0, 311, .inl (fun _ => 0))), (m0H, .inl (G.2 0, 56, .inl (fun _ => 0))), (m0R, .inl (G.2 0, 3, .inl (fun _ => 0)))] := hD
    refine lv_if_eq (tgt := 24) hx hb dX11_augusts_9 (by decide) (fun c_4 => g_no c_4 (by decide)) (fun _ => ?_)
    refine lv_iload_n hx hb dX11_augusts_12 rfl (lv_at hl 2 rfl) ?_
    refine lv_i2l (v := a2.toInt64) hx hb dX11_augusts_13 rfl ?_
    refine lv_lconst (v := 0) hx hb dX11_augusts_14 (by decide) ?_
    refine lv_ldc2 (v := 60) hx hb hown (hts _ (List.mem_of_getElem? (i := 2) rfl)) dX11_augusts_15 ?_
    refine g_calli (wr := [(m0, .inr (10, [.ref m0A, .ref m0K, .ref m0I, .ref m0R, .long 0, .long 1, .ref m0H, .ref m0F, .ref m0W, .ref m0L, .ref m0B, .ref m0T, .ref m0O, .ref m0Y, .int 0, .int 0, .int 0, .int 0, .int 0, .ref m0N, .ref m0V])), (m0A, .inl (G.2 0, 311, .inl (fun _ => 0))), (m0H, .inl (G.2 0, 56, .inl (fun _ => 0))), (m0R, .inl (G.2 0, 3, .inl (fun _ => 0)))]) (va_runS (As := [.long a2.toInt64, .long 0, .long 60]) (rest := []) ⟨hx, hb, hml, hown, hts⟩ (c_X11_in l G (a2.toInt64) (0) (60) _) (va_cwS 3 hts gX11_augusts_X11_in rfl rfl rfl (by decide +kernel) ⟨Nat.le_of_ble_eq_true rfl, Nat.le_of_ble_eq_true rfl⟩) (g_preS [.long a2.toInt64, .long 0, .long 60] hP hD hK hN [] rfl rfl) rfl rfl hl.1 rfl (lv_room (Nat.le_of_ble_eq_true rfl)) dX11_augusts_18 ⟨Nat.le_of_ble_eq_true rfl, Nat.le_of_ble_eq_true rfl⟩) hP hD hS hA [] [0, 1, 2, 3] rfl rfl rfl (by decide) (fun r_5 u H locs hw hP hD hS => ?_)
    rcases hw with ⟨k_6, rfl, rfl⟩ | ⟨k_7, rfl, rfl⟩
    · have hP : va_P G.1 vwCl [(m0, .inr (10, [.ref m0A, .ref m0K, .ref m0I, .ref m0R, .long 0, .long 1, .ref m0H, .ref m0F, .ref m0W, .ref m0L, .ref m0B, .ref m0T, .ref m0O, .ref m0Y, .int 0, .int 0, .int 0, .int 0, .int 0, .ref m0N, .ref m0V])), (m0A, .inl (G.2 0, 311, .inl (fun _ => 0))), (m0H, .inl (G.2 0, 56, .inl (fun _ => 0))), (m0R, .inl (G.2 0, 3, .inl (fun _ => 0)))] H := hP
      have hD : va_D A [(m0, .inr (10, [.ref m0A, .ref m0K, .ref m0I, .ref m0R, .long 0, .long 1, .ref m0H, .ref m0F, .ref m0W, .ref m0L, .ref m0B, .ref m0T, .ref m0O, .ref m0Y, .int 0, .int 0, .int 0, .int 0, .int 0, .ref m0N, .ref m0V])), (m0A, .inl (G.2 0, 311, .inl (fun _ => 0))), (m0H, .inl (G.2 0, 56, .inl (fun _ => 0))), (m0R, .inl (G.2 0, 3, .inl (fun _ => 0)))] := hD
      refine lv_if_ne (tgt := 31) hx hb dX11_augusts_21 (by decide) (fun _ => ?_) (fun c_8 => g_no c_8 (by decide))
      have kk := (inL_i (lo := 0) (n := a2) (hi := 60) (by decide) (by decide)).symm.trans k_6
      obtain ⟨j, hj1, hj2, rfl⟩ := inB_nat (a := 0) (b := 60) kk (by decide) (by decide)
      refine lv_iload_n hx hb dX11_augusts_31 rfl (lv_at hl 1 rfl) ?_
      refine lv_i2l (v := a1.toInt64) hx hb dX11_augusts_32 rfl ?_
      refine lv_lstore_n (lv' := [(3, .long a1.toInt64), (0, .ref m0), (1, .int a1), (2, .int (nI j))]) hx hb dX11_augusts_33 rfl hl (by decide) rfl (fun ls hl => ?_)
      refine lv_aload_n hx hb dX11_augusts_34 rfl (lv_at hl 1 rfl) ?_
      refine g_callv (wr := [(m0R, .inl (G.2 0, 3, .inl (fun _ => 0)))]) (va_runV (As := []) (rest := []) ⟨hx, hb, hml, hown, hts⟩ (c_X11_layHand l G (m0) (m0A) (m0K) (m0I) (m0R) (m0H) (m0F) (m0W) (m0L) (m0B) (m0T) (m0O) (m0Y) (m0N) (m0V) _) (cwV 0 hts gX11_augusts_X11_layHand rfl rfl rfl (by decide +kernel) ⟨Nat.le_of_ble_eq_true rfl, Nat.le_of_ble_eq_true rfl⟩) (g_preV m0 [] hP hD hK hN [0, 1, 2] rfl rfl 0 (ci := 10) rfl rfl) rfl rfl hl.1 rfl (lv_room (Nat.le_of_ble_eq_true rfl)) dX11_augusts_35 ⟨Nat.le_of_ble_eq_true rfl, Nat.le_of_ble_eq_true rfl⟩) hP hD hS hA [0, 1, 2] [3] rfl rfl rfl (by decide) (fun u H locs hw hP hD hS => ?_)
      subst hw
      have hP : va_P G.1 vwCl [(m0R, .inl (G.2 0, 3, .inl (fun _ => 0))), (m0, .inr (10, [.ref m0A, .ref m0K, .ref m0I, .ref m0R, .long 0, .long 1, .ref m0H, .ref m0F, .ref m0W, .ref m0L, .ref m0B, .ref m0T, .ref m0O, .ref m0Y, .int 0, .int 0, .int 0, .int 0, .int 0, .ref m0N, .ref m0V])), (m0A, .inl (G.2 0, 311, .inl (fun _ => 0))), (m0H, .inl (G.2 0, 56, .inl (fun _ => 0)))] H := hP
      have hD : va_D A [(m0R, .inl (G.2 0, 3, .inl (fun _ => 0))), (m0, .inr (10, [.ref m0A, .ref m0K, .ref m0I, .ref m0R, .long 0, .long 1, .ref m0H, .ref m0F, .ref m0W, .ref m0L, .ref m0B, .ref m0T, .ref m0O, .ref m0Y, .int 0, .int 0, .int 0, .int 0, .int 0, .ref m0N, .ref m0V])), (m0A, .inl (G.2 0, 311, .inl (fun _ => 0))), (m0H, .inl (G.2 0, 56, .inl (fun _ => 0)))] := hD
      refine lv_iconst (v := 0) hx hb dX11_augusts_38 (by decide) ?_
      refine lv_istore (lv' := [(5, .int 0), (3, .long a1.toInt64), (0, .ref m0), (1, .int a1), (2, .int (nI j))]) hx hb dX11_augusts_39 hl (by decide) rfl (fun ls hl => ?_)
      refine g_loop (pc := 41) (j) (fun k H locs ls => ∃ z : Int64, ∃ ff : Nat → Int32, ff 0 = 0 ∧ va_P G.1 vwCl [(m0R, .inl (G.2 0, 3, .inl (fun _ => 0))), (m0, .inr (10, [.ref m0A, .ref m0K, .ref m0I, .ref m0R, .long 0, .long 1, .ref m0H, .ref m0F, .ref m0W, .ref m0L, .ref m0B, .ref m0T, .ref m0O, .ref m0Y, .int 0, .int 0, .int 0, .int 0, .int 0, .ref m0N, .ref m0V])), (m0A, .inl (G.2 0, 311, .inl (fun _ => 0))), (m0H, .inl (G.2 0, 56, .inl ff))] H ∧ va_D A [(m0R, .inl (G.2 0, 3, .inl (fun _ => 0))), (m0, .inr (10, [.ref m0A, .ref m0K, .ref m0I, .ref m0R, .long 0, .long 1, .ref m0H, .ref m0F, .ref m0W, .ref m0L, .ref m0B, .ref m0T, .ref m0O, .ref m0Y, .int 0, .int 0, .int 0, .int 0, .int 0, .ref m0N, .ref m0V])), (m0A, .inl (G.2 0, 311, .inl (fun _ => 0))), (m0H, .inl (G.2 0, 56, .inl ff))] ∧ va_S A s.heap H locs ∧ lv_has ls 8 [(5, .int (nI k)), (3, .long z), (0, .ref m0), (1, .int a1), (2, .int (nI j))]) ?_ ⟨_, (fun _ => 0), rfl, hP, hD, hS, lv_sub hl [0, 1, 2, 3, 4] rfl⟩
      intro k H locs ls hkN ih hI
      obtain ⟨z, ff, hf, hP, hD, hS, hl⟩ := hI
      rcases Nat.lt_or_ge k (j) with hlt | hge
      · refine lv_iload hx hb dX11_augusts_41 (lv_at hl 0 rfl) ?_
        refine lv_iload_n hx hb dX11_augusts_43 rfl (lv_at hl 4 rfl) ?_
        refine lv_icmp_ge (tgt := 127) hx hb dX11_augusts_44 (by decide) (fun c_9 => g_no c_9 (nI_ge (a := k) (b := j) hlt (by omega))) (fun _ => ?_)
        refine lv_lload_n hx hb dX11_augusts_47 rfl (lv_at hl 1 rfl) ?_
        refine lv_ldc2 (v := 1103515245) hx hb hown (hts _ (List.mem_of_getElem? (i := 3) rfl)) dX11_augusts_48 ?_
        refine lv_lmul hx hb dX11_augusts_51 ?_
        refine lv_topl (fun z_10 _ => ?_)
        refine lv_ldc2 (v := 12345) hx hb hown (hts _ (List.mem_of_getElem? (i := 4) rfl)) dX11_augusts_52 ?_
        refine lv_ladd hx hb dX11_augusts_55 ?_
        refine lv_topl (fun z_11 _ => ?_)
        refine lv_ldc2 (v := 2147483648) hx hb hown (hts _ (List.mem_of_getElem? (i := 5) rfl)) dX11_augusts_56 ?_
        refine lv_lrem hx hb dX11_augusts_59 (by decide) ?_
        refine lv_topl (fun z_12 _ => ?_)
        refine lv_lstore_n (lv' := [(3, .long z_12), (5, .int (nI k)), (0, .ref m0), (1, .int a1), (2, .int (nI j))]) hx hb dX11_augusts_60 rfl hl (by decide) rfl (fun ls hl => ?_)
        refine lv_lload_n hx hb dX11_augusts_61 rfl (lv_at hl 0 rfl) ?_
        refine lv_ldc2 (v := 65536) hx hb hown (hts _ (List.mem_of_getElem? (i := 6) rfl)) dX11_augusts_62 ?_
        refine lv_ldiv hx hb dX11_augusts_65 (by decide) ?_
        refine lv_topl (fun z_13 _ => ?_)
        refine lv_ldc2 (v := 4) hx hb hown (hts _ (List.mem_of_getElem? (i := 7) rfl)) dX11_augusts_66 ?_
        refine lv_lrem hx hb dX11_augusts_69 (by decide) ?_
        refine lv_topl (fun z_14 _ => ?_)
        refine lv_l2i (v := z_14.toInt32) hx hb dX11_augusts_70 rfl ?_
        refine lv_topi (fun z_15 _ => ?_)
        refine lv_istore (lv' := [(6, .int z_15), (3, .long z_12), (5, .int (nI k)), (0, .ref m0), (1, .int a1), (2, .int (nI j))]) hx hb dX11_augusts_71 hl (by decide) rfl (fun ls hl => ?_)
        refine lv_lload_n hx hb dX11_augusts_73 rfl (lv_at hl 1 rfl) ?_
        refine lv_ldc2 (v := 1048576) hx hb hown (hts _ (List.mem_of_getElem? (i := 8) rfl)) dX11_augusts_74 ?_
        refine lv_ldiv hx hb dX11_augusts_77 (by decide) ?_
        refine lv_topl (fun z_16 _ => ?_)
        refine lv_ldc2 (v := 7) hx hb hown (hts _ (List.mem_of_getElem? (i := 9) rfl)) dX11_augusts_78 ?_
        refine lv_lrem hx hb dX11_augusts_81 (by decide) ?_
        refine lv_topl (fun z_17 _ => ?_)
        refine lv_l2i (v := z_17.toInt32) hx hb dX11_augusts_82 rfl ?_
        refine lv_topi (fun z_18 _ => ?_)
        refine lv_istore (lv' := [(7, .int z_18), (6, .int z_15), (3, .long z_12), (5, .int (nI k)), (0, .ref m0), (1, .int a1), (2, .int (nI j))]) hx hb dX11_augusts_83 hl (by decide) rfl (fun ls hl => ?_)
        refine lv_aload_n hx hb dX11_augusts_85 rfl (lv_at hl 4 rfl) ?_
        refine lv_iload hx hb dX11_augusts_86 (lv_at hl 1 rfl) ?_
        refine g_calli (wr := [(m0R, .inl (G.2 0, 3, .inl (fun _ => 0))), (m0H, .inl (G.2 0, 56, .inl ff))]) (va_runV (As := [.int z_15]) (rest := []) ⟨hx, hb, hml, hown, hts⟩ (c_X11_isBiter l G (m0) (m0A) (m0K) (m0I) (m0R) (m0H) (m0F) (m0W) (m0L) (m0B) (m0T) (m0O) (m0Y) (m0N) (m0V) (z_15) _) (cwV 1 hts gX11_augusts_X11_isBiter rfl rfl rfl (by decide +kernel) ⟨Nat.le_of_ble_eq_true rfl, Nat.le_of_ble_eq_true rfl⟩) (g_preV m0 [.int z_15] hP hD hK hN [1, 2] rfl rfl 1 (ci := 10) rfl rfl) rfl rfl hl.1 rfl (lv_room (Nat.le_of_ble_eq_true rfl)) dX11_augusts_88 ⟨Nat.le_of_ble_eq_true rfl, Nat.le_of_ble_eq_true rfl⟩) hP hD hS hA [1, 2] [0, 3] rfl rfl rfl (by decide) (fun r_19 u H locs hw hP hD hS => ?_)
        obtain ⟨rfl, rfl⟩ := hw
        have hP : va_P G.1 vwCl [(m0R, .inl (G.2 0, 3, .inl (fun _ => 0))), (m0H, .inl (G.2 0, 56, .inl ff)), (m0, .inr (10, [.ref m0A, .ref m0K, .ref m0I, .ref m0R, .long 0, .long 1, .ref m0H, .ref m0F, .ref m0W, .ref m0L, .ref m0B, .ref m0T, .ref m0O, .ref m0Y, .int 0, .int 0, .int 0, .int 0, .int 0, .ref m0N, .ref m0V])), (m0A, .inl (G.2 0, 311, .inl (fun _ => 0)))] H := hP
        have hD : va_D A [(m0R, .inl (G.2 0, 3, .inl (fun _ => 0))), (m0H, .inl (G.2 0, 56, .inl ff)), (m0, .inr (10, [.ref m0A, .ref m0K, .ref m0I, .ref m0R, .long 0, .long 1, .ref m0H, .ref m0F, .ref m0W, .ref m0L, .ref m0B, .ref m0T, .ref m0O, .ref m0Y, .int 0, .int 0, .int 0, .int 0, .int 0, .ref m0N, .ref m0V])), (m0A, .inl (G.2 0, 311, .inl (fun _ => 0)))] := hD
        refine lv_if_eq (tgt := 114) hx hb dX11_augusts_91 (by decide) (fun _ => ?_) (fun c_20 => g_no (by decide) c_20)
        refine lv_aload_n hx hb dX11_augusts_114 rfl (lv_at hl 4 rfl) ?_
        refine va_get (D := G.1) (ci := 10) (v := .ref m0H) (C := RX11) (T := TX11) (N := 21) hx hb hts (fun _ h => List.mem_cons_of_mem _ (List.mem_append_right _ h)) hown hK hP 2 rfl rfl 6 (by decide) (hts _ (List.mem_of_getElem? (i := 10) rfl)) (fun _ h9 => h9) rfl dX11_augusts_115 ?_
        refine g_callv (wr := [(m0R, .inl (G.2 0, 3, .inl (fun _ => 0))), (m0, .inr (10, [.ref m0A, .ref m0K, .ref m0I, .ref m0R, .long 0, .long 1, .ref m0H, .ref m0F, .ref m0W, .ref m0L, .ref m0B, .ref m0T, .ref m0O, .ref m0Y, .int 0, .int 0, .int 0, .int 0, .int 0, .ref m0N, .ref m0V])), (m0A, .inl (G.2 0, 311, .inl (fun _ => 0)))]) (va_runS (As := [.ref m0H]) (rest := []) ⟨hx, hb, hml, hown, hts⟩ (c_X11_goDay_56 l G (m0H) (ff) (hf) _) (va_cwS 1 hts gX11_augusts_X11_goDay rfl rfl rfl (by decide +kernel) ⟨Nat.le_of_ble_eq_true rfl, Nat.le_of_ble_eq_true rfl⟩) (g_preS [.ref m0H] hP hD hK hN [1] rfl rfl) rfl rfl hl.1 rfl (lv_room (Nat.le_of_ble_eq_true rfl)) dX11_augusts_118 ⟨Nat.le_of_ble_eq_true rfl, Nat.le_of_ble_eq_true rfl⟩) hP hD hS hA [1] [0, 2, 3] rfl rfl rfl (by decide) (fun u H locs hw hP hD hS => ?_)
        subst hw
        have hP : va_P G.1 vwCl [(m0R, .inl (G.2 0, 3, .inl (fun _ => 0))), (m0, .inr (10, [.ref m0A, .ref m0K, .ref m0I, .ref m0R, .long 0, .long 1, .ref m0H, .ref m0F, .ref m0W, .ref m0L, .ref m0B, .ref m0T, .ref m0O, .ref m0Y, .int 0, .int 0, .int 0, .int 0, .int 0, .ref m0N, .ref m0V])), (m0A, .inl (G.2 0, 311, .inl (fun _ => 0))), (m0H, .inl (G.2 0, 56, .inl (upd ff 27 ((ff 27) + 1))))] H := hP
        have hD : va_D A [(m0R, .inl (G.2 0, 3, .inl (fun _ => 0))), (m0, .inr (10, [.ref m0A, .ref m0K, .ref m0I, .ref m0R, .long 0, .long 1, .ref m0H, .ref m0F, .ref m0W, .ref m0L, .ref m0B, .ref m0T, .ref m0O, .ref m0Y, .int 0, .int 0, .int 0, .int 0, .int 0, .ref m0N, .ref m0V])), (m0A, .inl (G.2 0, 311, .inl (fun _ => 0))), (m0H, .inl (G.2 0, 56, .inl (upd ff 27 ((ff 27) + 1))))] := hD
        refine lv_iinc (v := (nI (k + 1))) (lv' := [(5, .int (nI (k + 1))), (7, .int z_18), (6, .int z_15), (3, .long z_12), (0, .ref m0), (1, .int a1), (2, .int (nI j))]) hx hb dX11_augusts_121 hl (k := 3) rfl (nI_1 k) (by decide) rfl (fun ls hl => ?_)
        refine lv_goto (tgt := 41) hx hb dX11_augusts_124 (by decide) ?_
        exact ih _ _ _ hlt ⟨_, (upd ff 27 ((ff 27) + 1)), hf, hP, hD, hS, lv_sub hl [0, 3, 4, 5, 6] rfl⟩
      · have hkE : j = k := by omega
        subst hkE
        refine lv_iload hx hb dX11_augusts_41 (lv_at hl 0 rfl) ?_
        refine lv_iload_n hx hb dX11_augusts_43 rfl (lv_at hl 4 rfl) ?_
        refine lv_icmp_ge (tgt := 127) hx hb dX11_augusts_44 (by decide) (fun _ => ?_) (fun c_21 => g_no (nI_le (a := j) (b := j) (Nat.le_refl _) (by omega)) c_21)
        refine lv_aload_n hx hb dX11_augusts_127 rfl (lv_at hl 2 rfl) ?_
        refine va_get (D := G.1) (ci := 10) (v := .ref m0H) (C := RX11) (T := TX11) (N := 21) hx hb hts (fun _ h => List.mem_cons_of_mem _ (List.mem_append_right _ h)) hown hK hP 1 rfl rfl 6 (by decide) (hts _ (List.mem_of_getElem? (i := 10) rfl)) (fun _ h9 => h9) rfl dX11_augusts_128 ?_
        refine lv_iconst (v := 1) hx hb dX11_augusts_131 (by decide) ?_
        refine g_calli (wr := [(m0R, .inl (G.2 0, 3, .inl (fun _ => 0))), (m0, .inr (10, [.ref m0A, .ref m0K, .ref m0I, .ref m0R, .long 0, .long 1, .ref m0H, .ref m0F, .ref m0W, .ref m0L, .ref m0B, .ref m0T, .ref m0O, .ref m0Y, .int 0, .int 0, .int 0, .int 0, .int 0, .ref m0N, .ref m0V])), (m0A, .inl (G.2 0, 311, .inl (fun _ => 0)))]) (va_runS (As := [.ref m0H, .int 1]) (rest := []) ⟨hx, hb, hml, hown, hts⟩ (c_X11_manyWith_56f l G (m0H) (ff) (1) (hf) _) (va_cwS 2 hts gX11_augusts_X11_manyWith rfl rfl rfl (by decide +kernel) ⟨Nat.le_of_ble_eq_true rfl, Nat.le_of_ble_eq_true rfl⟩) (g_preS [.ref m0H, .int 1] hP hD hK hN [3] rfl rfl) rfl rfl hl.1 rfl (lv_room (Nat.le_of_ble_eq_true rfl)) dX11_augusts_132 ⟨Nat.le_of_ble_eq_true rfl, Nat.le_of_ble_eq_true rfl⟩) hP hD hS hA [3] [0, 1, 2] rfl rfl rfl (by decide) (fun r_22 u H locs hw hP hD hS => ?_)
        obtain ⟨rfl, rfl⟩ := hw
        have hP : va_P G.1 vwCl [(m0R, .inl (G.2 0, 3, .inl (fun _ => 0))), (m0, .inr (10, [.ref m0A, .ref m0K, .ref m0I, .ref m0R, .long 0, .long 1, .ref m0H, .ref m0F, .ref m0W, .ref m0L, .ref m0B, .ref m0T, .ref m0O, .ref m0Y, .int 0, .int 0, .int 0, .int 0, .int 0, .ref m0N, .ref m0V])), (m0A, .inl (G.2 0, 311, .inl (fun _ => 0))), (m0H, .inl (G.2 0, 56, .inl ff))] H := hP
        have hD : va_D A [(m0R, .inl (G.2 0, 3, .inl (fun _ => 0))), (m0, .inr (10, [.ref m0A, .ref m0K, .ref m0I, .ref m0R, .long 0, .long 1, .ref m0H, .ref m0F, .ref m0W, .ref m0L, .ref m0B, .ref m0T, .ref m0O, .ref m0Y, .int 0, .int 0, .int 0, .int 0, .int 0, .ref m0N, .ref m0V])), (m0A, .inl (G.2 0, 311, .inl (fun _ => 0))), (m0H, .inl (G.2 0, 56, .inl ff))] := hD
        have hP := hP.sub (ws' := []) [] rfl
        have hD := hD.sub (ws' := []) [] rfl rfl
        exact g_iret (v := 0) hx hb hr hlocks hP hD hS (⟨by have e1 := (inL_i (lo := 0) (n := a1) (hi := 999999) (by decide) (by decide)).symm.trans k_2; simp [F_augusts, e1, kk], rfl⟩) dX11_augusts_135
    · have hP : va_P G.1 vwCl [(m0, .inr (10, [.ref m0A, .ref m0K, .ref m0I, .ref m0R, .long 0, .long 1, .ref m0H, .ref m0F, .ref m0W, .ref m0L, .ref m0B, .ref m0T, .ref m0O, .ref m0Y, .int 0, .int 0, .int 0, .int 0, .int 0, .ref m0N, .ref m0V])), (m0A, .inl (G.2 0, 311, .inl (fun _ => 0))), (m0H, .inl (G.2 0, 56, .inl (fun _ => 0))), (m0R, .inl (G.2 0, 3, .inl (fun _ => 0)))] H := hP
      have hD : va_D A [(m0, .inr (10, [.ref m0A, .ref m0K, .ref m0I, .ref m0R, .long 0, .long 1, .ref m0H, .ref m0F, .ref m0W, .ref m0L, .ref m0B, .ref m0T, .ref m0O, .ref m0Y, .int 0, .int 0, .int 0, .int 0, .int 0, .ref m0N, .ref m0V])), (m0A, .inl (G.2 0, 311, .inl (fun _ => 0))), (m0H, .inl (G.2 0, 56, .inl (fun _ => 0))), (m0R, .inl (G.2 0, 3, .inl (fun _ => 0)))] := hD
      refine lv_if_ne (tgt := 31) hx hb dX11_augusts_21 (by decide) (fun c_23 => g_no (by decide) c_23) (fun _ => ?_)
      refine lv_aload_n hx hb dX11_augusts_24 rfl (lv_at hl 0 rfl) ?_
      refine lv_bipush (v := (-2)) hx hb dX11_augusts_25 (by decide) ?_
      refine g_calli (wr := [(m0A, .inl (G.2 0, 311, .inl (fun _ => 0))), (m0H, .inl (G.2 0, 56, .inl (fun _ => 0)))]) (va_runV (As := [.int (-2)]) (rest := []) ⟨hx, hb, hml, hown, hts⟩ (c_X11_bad l G (m0) (m0A) (m0K) (m0I) (m0R) (m0H) (m0F) (m0W) (m0L) (m0B) (m0T) (m0O) (m0Y) (m0N) (m0V) ((-2)) _) (cwV 1 hts gX11_augusts_X11_bad rfl rfl rfl (by decide +kernel) ⟨Nat.le_of_ble_eq_true rfl, Nat.le_of_ble_eq_true rfl⟩) (g_preV m0 [.int (-2)] hP hD hK hN [0, 3] rfl rfl 0 (ci := 10) rfl rfl) rfl rfl hl.1 rfl (lv_room (Nat.le_of_ble_eq_true rfl)) dX11_augusts_27 ⟨Nat.le_of_ble_eq_true rfl, Nat.le_of_ble_eq_true rfl⟩) hP hD hS hA [0, 3] [1, 2] rfl rfl rfl (by decide) (fun r_24 u H locs hw hP hD hS => ?_)
      obtain ⟨rfl, rfl⟩ := hw
      have hP : va_P G.1 vwCl [(m0A, .inl (G.2 0, 311, .inl (fun _ => 0))), (m0H, .inl (G.2 0, 56, .inl (fun _ => 0)))] H := hP
      have hD : va_D A [(m0A, .inl (G.2 0, 311, .inl (fun _ => 0))), (m0H, .inl (G.2 0, 56, .inl (fun _ => 0)))] := hD
      have hP := hP.sub (ws' := []) [] rfl
      have hD := hD.sub (ws' := []) [] rfl rfl
      exact g_iret (v := (-2)) hx hb hr hlocks hP hD hS (⟨by have e1 := (inL_i (lo := 0) (n := a1) (hi := 999999) (by decide) (by decide)).symm.trans k_2; have e2 := (inL_i (lo := 0) (n := a2) (hi := 60) (by decide) (by decide)).symm.trans k_7; simp [F_augusts, e1, e2], rfl⟩) dX11_augusts_30
  · have hP : va_P G.1 vwCl [(m0, .inr (10, [.ref m0A, .ref m0K, .ref m0I, .ref m0R, .long 0, .long 1, .ref m0H, .ref m0F, .ref m0W, .ref m0L, .ref m0B, .ref m0T, .ref m0O, .ref m0Y, .int 0, .int 0, .int 0, .int 0, .int 0, .ref m0N, .ref m0V])), (m0A, .inl (G.2 0, 311, .inl (fun _ => 0))), (m0H, .inl (G.2 0, 56, .inl (fun _ => 0))), (m0R, .inl (G.2 0, 3, .inl (fun _ => 0)))] H := hP
    have hD : va_D A [(m0, .inr (10, [.ref m0A, .ref m0K, .ref m0I, .ref m0R, .long 0, .long 1, .ref m0H, .ref m0F, .ref m0W, .ref m0L, .ref m0B, .ref m0T, .ref m0O, .ref m0Y, .int 0, .int 0, .int 0, .int 0, .int 0, .ref m0N, .ref m0V])), (m0A, .inl (G.2 0, 311, .inl (fun _ => 0))), (m0H, .inl (G.2 0, 56, .inl (fun _ => 0))), (m0R, .inl (G.2 0, 3, .inl (fun _ => 0)))] := hD
    refine lv_if_eq (tgt := 24) hx hb dX11_augusts_9 (by decide) (fun _ => ?_) (fun c_25 => g_no (by decide) c_25)
    refine lv_aload_n hx hb dX11_augusts_24 rfl (lv_at hl 0 rfl) ?_
    refine lv_bipush (v := (-2)) hx hb dX11_augusts_25 (by decide) ?_
    refine g_calli (wr := [(m0A, .inl (G.2 0, 311, .inl (fun _ => 0))), (m0H, .inl (G.2 0, 56, .inl (fun _ => 0)))]) (va_runV (As := [.int (-2)]) (rest := []) ⟨hx, hb, hml, hown, hts⟩ (c_X11_bad l G (m0) (m0A) (m0K) (m0I) (m0R) (m0H) (m0F) (m0W) (m0L) (m0B) (m0T) (m0O) (m0Y) (m0N) (m0V) ((-2)) _) (cwV 1 hts gX11_augusts_X11_bad rfl rfl rfl (by decide +kernel) ⟨Nat.le_of_ble_eq_true rfl, Nat.le_of_ble_eq_true rfl⟩) (g_preV m0 [.int (-2)] hP hD hK hN [0, 3] rfl rfl 0 (ci := 10) rfl rfl) rfl rfl hl.1 rfl (lv_room (Nat.le_of_ble_eq_true rfl)) dX11_augusts_27 ⟨Nat.le_of_ble_eq_true rfl, Nat.le_of_ble_eq_true rfl⟩) hP hD hS hA [0, 3] [1, 2] rfl rfl rfl (by decide) (fun r_26 u H locs hw hP hD hS => ?_)
    obtain ⟨rfl, rfl⟩ := hw
    have hP : va_P G.1 vwCl [(m0A, .inl (G.2 0, 311, .inl (fun _ => 0))), (m0H, .inl (G.2 0, 56, .inl (fun _ => 0)))] H := hP
    have hD : va_D A [(m0A, .inl (G.2 0, 311, .inl (fun _ => 0))), (m0H, .inl (G.2 0, 56, .inl (fun _ => 0)))] := hD
    have hP := hP.sub (ws' := []) [] rfl
    have hD := hD.sub (ws' := []) [] rfl rfl
    exact g_iret (v := (-2)) hx hb hr hlocks hP hD hS (⟨by have e1 := (inL_i (lo := 0) (n := a1) (hi := 999999) (by decide) (by decide)).symm.trans k_3; simp [F_augusts, e1], rfl⟩) dX11_augusts_30
