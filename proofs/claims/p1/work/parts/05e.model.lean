theorem dX11_image_0 : decode cX11_image 0 = .ok (.iload_n 1, 1) := by decide +kernel
theorem dX11_image_1 : decode cX11_image 1 = .ok (.i2l, 1) := by decide +kernel
theorem dX11_image_2 : decode cX11_image 2 = .ok (.lconst 0, 1) := by decide +kernel
theorem dX11_image_3 : decode cX11_image 3 = .ok (.lconst 1, 1) := by decide +kernel
set_option maxRecDepth 20000 in
theorem ggX11_image_X11_in : GoodIn wsX11_image wsX11_in := goodIn_r _ [7] (by decide +kernel) (by decide +kernel)
set_option maxRecDepth 20000 in
theorem gX11_image_X11_in : GoodIn wsX11_image (va_wsS RX11 65 yX11_in wsX11_in) := goodIn_app (goodIn_of _ (by decide +kernel)) ggX11_image_X11_in
theorem dX11_image_4 : decode cX11_image 4 = .ok (.invokestatic 65, 3) := by decide +kernel
theorem dX11_image_7 : decode cX11_image 7 = .ok (.ifCond .ne 10, 3) := by decide +kernel
theorem dX11_image_17 : decode cX11_image 17 = .ok (.iconst 0, 1) := by decide +kernel
theorem dX11_image_18 : decode cX11_image 18 = .ok (.istore_n 2, 1) := by decide +kernel
theorem dX11_image_19 : decode cX11_image 19 = .ok (.iload_n 2, 1) := by decide +kernel
theorem dX11_image_20 : decode cX11_image 20 = .ok (.sipush 311, 3) := by decide +kernel
theorem dX11_image_23 : decode cX11_image 23 = .ok (.if_icmp .ge 27, 3) := by decide +kernel
theorem dX11_image_26 : decode cX11_image 26 = .ok (.aload_n 0, 1) := by decide +kernel
theorem dX11_image_27 : decode cX11_image 27 = .ok (.getfield 13, 3) := by decide +kernel
theorem dX11_image_30 : decode cX11_image 30 = .ok (.sipush 311, 3) := by decide +kernel
theorem dX11_image_33 : decode cX11_image 33 = .ok (.iload_n 1, 1) := by decide +kernel
theorem dX11_image_34 : decode cX11_image 34 = .ok (.imul, 1) := by decide +kernel
theorem dX11_image_35 : decode cX11_image 35 = .ok (.iload_n 2, 1) := by decide +kernel
theorem dX11_image_36 : decode cX11_image 36 = .ok (.iadd, 1) := by decide +kernel
theorem dX11_image_37 : decode cX11_image 37 = .ok (.aload_n 0, 1) := by decide +kernel
theorem dX11_image_38 : decode cX11_image 38 = .ok (.getfield 7, 3) := by decide +kernel
theorem dX11_image_41 : decode cX11_image 41 = .ok (.iload_n 2, 1) := by decide +kernel
theorem dX11_image_42 : decode cX11_image 42 = .ok (.iaload, 1) := by decide +kernel
theorem dX11_image_43 : decode cX11_image 43 = .ok (.iastore, 1) := by decide +kernel
theorem dX11_image_44 : decode cX11_image 44 = .ok (.iinc 2 1, 3) := by decide +kernel
theorem dX11_image_47 : decode cX11_image 47 = .ok (.goto (-28), 3) := by decide +kernel
theorem dX11_image_50 : decode cX11_image 50 = .ok (.aload_n 0, 1) := by decide +kernel
theorem dX11_image_51 : decode cX11_image 51 = .ok (.getfield 16, 3) := by decide +kernel
theorem dX11_image_54 : decode cX11_image 54 = .ok (.iload_n 1, 1) := by decide +kernel
theorem dX11_image_55 : decode cX11_image 55 = .ok (.iconst 1, 1) := by decide +kernel
theorem dX11_image_56 : decode cX11_image 56 = .ok (.bastore, 1) := by decide +kernel
theorem dX11_image_57 : decode cX11_image 57 = .ok (.iconst 1, 1) := by decide +kernel
theorem dX11_image_58 : decode cX11_image 58 = .ok (.ireturn, 1) := by decide +kernel
theorem dX11_image_10 : decode cX11_image 10 = .ok (.aload_n 0, 1) := by decide +kernel
theorem dX11_image_11 : decode cX11_image 11 = .ok (.bipush (-2), 2) := by decide +kernel
set_option maxRecDepth 20000 in
theorem ggX11_image_X11_bad : GoodIn wsX11_image wsX11_bad := goodIn_r _ [11, 12, 13, 14, 15, 16, 17, 18, 19, 20, 21, 22, 23, 24, 25, 26, 27, 28, 29, 30, 31, 32, 33] (by decide +kernel) (by decide +kernel)
set_option maxRecDepth 20000 in
theorem gX11_image_X11_bad : GoodIn wsX11_image (wsV RX11 79 RX11 yX11_bad wsX11_bad) := goodIn_app (goodIn_of _ (by decide +kernel)) ggX11_image_X11_bad
theorem dX11_image_13 : decode cX11_image 13 = .ok (.invokevirtual 79, 3) := by decide +kernel
theorem dX11_image_16 : decode cX11_image 16 = .ok (.ireturn, 1) := by decide +kernel
set_option maxHeartbeats 8000000 in
set_option maxRecDepth 100000 in
theorem c_X11_image (l : Launch) (G : gG) (m0 : Nat) (m0A : Nat) (m0K : Nat) (m0I : Nat) (m0R : Nat) (m0H : Nat) (m0F : Nat) (m0W : Nat) (m0L : Nat) (m0B : Nat) (m0T : Nat) (m0O : Nat) (m0Y : Nat) (m0N : Nat) (m0V : Nat) (a1 : Int32) (sz : Nat) : gI G l yX11_image wsX11_image ({ frames := 1, cells := 0, slots := 0, locals := 25 } : Room) [.ref m0, .int a1] [(m0, .inr (10, [.ref m0A, .ref m0K, .ref m0I, .ref m0R, .long 0, .long 1, .ref m0H, .ref m0F, .ref m0W, .ref m0L, .ref m0B, .ref m0T, .ref m0O, .ref m0Y, .int 0, .int 0, .int 0, .int 0, .int 0, .ref m0N, .ref m0V])), (m0A, .inl (G.2 0, 311, .inl (fun _ => 0))), (m0K, .inl (G.2 0, 622, .inl (fun _ => 0))), (m0I, .inl (G.2 1, 2, .inl (fun _ => 0))), (m0R, .inl (G.2 0, 3, .inl (fun _ => 0)))] sz (fun (r : Int32) (u : va_W) => (r = (F_image a1) ∧ u = [])) := by
  refine Met.ofW (cc := cX11_image) (maxL := 3) (ret := (some .int)) (by decide) rfl ?_
  intro p e s m args below meth c s₁ B hml hv
  obtain ⟨rfl, hsz, hP, hK, hD0, hN⟩ := hv
  have hx := B.exec
  have hb := B.bytes
  have hr := B.returns
  have hts := atoms_spec (ws := wsX11_image) B.pre
  have hown : s.vm.findClass RX11 = some m.cls := findClass_of_methodNamed B.named
  have hlocks := B.notSynchronized
  subst hsz
  have hD := hD0.self (sz := s.heap.size)
  generalize hAe : va_A [(m0, .inr (10, [.ref m0A, .ref m0K, .ref m0I, .ref m0R, .long 0, .long 1, .ref m0H, .ref m0F, .ref m0W, .ref m0L, .ref m0B, .ref m0T, .ref m0O, .ref m0Y, .int 0, .int 0, .int 0, .int 0, .int 0, .ref m0N, .ref m0V])), (m0A, .inl (G.2 0, 311, .inl (fun _ => 0))), (m0K, .inl (G.2 0, 622, .inl (fun _ => 0))), (m0I, .inl (G.2 1, 2, .inl (fun _ => 0))), (m0R, .inl (G.2 0, 3, .inl (fun _ => 0)))] s.heap.size = A at hD ⊢
  have hA : ∀ q : Nat, s.heap.size ≤ q → A q := fun q h => by rw [← hAe]; exact Or.inr h
  have hS : va_S A s.heap s.heap [] := va_S.rf
  have hP : va_P G.1 vwCl [(m0, .inr (10, [.ref m0A, .ref m0K, .ref m0I, .ref m0R, .long 0, .long 1, .ref m0H, .ref m0F, .ref m0W, .ref m0L, .ref m0B, .ref m0T, .ref m0O, .ref m0Y, .int 0, .int 0, .int 0, .int 0, .int 0, .ref m0N, .ref m0V])), (m0A, .inl (G.2 0, 311, .inl (fun _ => 0))), (m0K, .inl (G.2 0, 622, .inl (fun _ => 0))), (m0I, .inl (G.2 1, 2, .inl (fun _ => 0))), (m0R, .inl (G.2 0, 3, .inl (fun _ => 0)))] s.heap := hP
  have hl := lv_entry ([.ref m0, .int a1]) (n := 3) (Nat.le_of_ble_eq_true rfl)
  rw [lg_entry_eq]
  generalize (lg_sl ([.ref m0, .int a1]) ++ List.replicate (3 - (lg_sl ([.ref m0, .int a1])).length) Slot.unset).toArray = ls at hl ⊢
  have hl : lv_has ls 3 [(0, .ref m0), (1, .int a1)] := hl
  refine lv_iload_n hx hb dX11_image_0 rfl (lv_at hl 1 rfl) ?_
  refine lv_i2l (v := a1.toInt64) hx hb dX11_image_1 rfl ?_
  refine lv_lconst (v := 0) hx hb dX11_image_2 (by decide) ?_
  refine lv_lconst (v := 1) hx hb dX11_image_3 (by decide) ?_
  refine g_calli (wr := [(m0, .inr (10, [.ref m0A, .ref m0K, .ref m0I, .ref m0R, .long 0, .long 1, .ref m0H, .ref m0F, .ref m0W, .ref m0L, .ref m0B, .ref m0T, .ref m0O, .ref m0Y, .int 0, .int 0, .int 0, .int 0, .int 0, .ref m0N, .ref m0V])), (m0A, .inl (G.2 0, 311, .inl (fun _ => 0))), (m0K, .inl (G.2 0, 622, .inl (fun _ => 0))), (m0I, .inl (G.2 1, 2, .inl (fun _ => 0))), (m0R, .inl (G.2 0, 3, .inl (fun _ => 0)))]) (va_runS (As := [.long a1.toInt64, .long 0, .long 1]) (rest := []) ⟨hx, hb, hml, hown, hts⟩ (c_X11_in l G (a1.toInt64) (0) (1) _) (va_cwS 3 hts gX11_image_X11_in rfl rfl rfl (by decide +kernel) ⟨Nat.le_of_ble_eq_true rfl, Nat.le_of_ble_eq_true rfl⟩) (g_preS [.long a1.toInt64, .long 0, .long 1] hP hD hK hN [] rfl rfl) rfl rfl hl.1 rfl (lv_room (Nat.le_of_ble_eq_true rfl)) dX11_image_4 ⟨Nat.le_of_ble_eq_true rfl, Nat.le_of_ble_eq_true rfl⟩) hP hD hS hA [] [0, 1, 2, 3, 4] rfl rfl rfl (by decide) (fun r_1 u H locs hw hP hD hS => ?_)
  rcases hw with ⟨k_2, rfl, rfl⟩ | ⟨k_3, rfl, rfl⟩
  · have hP : va_P G.1 vwCl [(m0, .inr (10, [.ref m0A, .ref m0K, .ref m0I, .ref m0R, .long 0, .long 1, .ref m0H, .ref m0F, .ref m0W, .ref m0L, .ref m0B, .ref m0T, .ref m0O, .ref m0Y, .int 0, .int 0, .int 0, .int 0, .int 0, .ref m0N, .ref m0V])), (m0A, .inl (G.2 0, 311, .inl (fun _ => 0))), (m0K, .inl (G.2 0, 622, .inl (fun _ => 0))), (m0I, .inl (G.2 1, 2, .inl (fun _ => 0))), (m0R, .inl (G.2 0, 3, .inl (fun _ => 0)))] H := hP
    have hD : va_D A [(m0, .inr (10, [.ref m0A, .ref m0K, .ref m0I, .ref m0R, .long 0, .long 1, .ref m0H, .ref m0F, .ref m0W, .ref m0L, .ref m0B, .ref m0T, .ref m0O, .ref m0Y, .int 0, .int 0, .int 0, .int 0, .int 0, .ref m0N, .ref m0V])), (m0A, .inl (G.2 0, 311, .inl (fun _ => 0))), (m0K, .inl (G.2 0, 622, .inl (fun _ => 0))), (m0I, .inl (G.2 1, 2, .inl (fun _ => 0))), (m0R, .inl (G.2 0, 3, .inl (fun _ => 0)))] := hD
    refine lv_if_ne (tgt := 17) hx hb dX11_image_7 (by decide) (fun _ => ?_) (fun c_4 => g_no c_4 (by decide))
    rcases inB01 ((inL_i (lo := 0) (n := a1) (hi := 1) (by decide) (by decide)).symm.trans k_2) with rfl | rfl
    · refine lv_iconst (v := 0) hx hb dX11_image_17 (by decide) ?_
      refine lv_istore_n (lv' := [(2, .int 0), (0, .ref m0), (1, .int 0)]) hx hb dX11_image_18 rfl hl (by decide) rfl (fun ls hl => ?_)
      refine g_loop (pc := 19) (311) (fun k H locs ls => va_P G.1 vwCl [(m0, .inr (10, [.ref m0A, .ref m0K, .ref m0I, .ref m0R, .long 0, .long 1, .ref m0H, .ref m0F, .ref m0W, .ref m0L, .ref m0B, .ref m0T, .ref m0O, .ref m0Y, .int 0, .int 0, .int 0, .int 0, .int 0, .ref m0N, .ref m0V])), (m0A, .inl (G.2 0, 311, .inl (fun _ => 0))), (m0K, .inl (G.2 0, 622, .inl (fun _ => 0))), (m0I, .inl (G.2 1, 2, .inl (fun _ => 0))), (m0R, .inl (G.2 0, 3, .inl (fun _ => 0)))] H ∧ va_D A [(m0, .inr (10, [.ref m0A, .ref m0K, .ref m0I, .ref m0R, .long 0, .long 1, .ref m0H, .ref m0F, .ref m0W, .ref m0L, .ref m0B, .ref m0T, .ref m0O, .ref m0Y, .int 0, .int 0, .int 0, .int 0, .int 0, .ref m0N, .ref m0V])), (m0A, .inl (G.2 0, 311, .inl (fun _ => 0))), (m0K, .inl (G.2 0, 622, .inl (fun _ => 0))), (m0I, .inl (G.2 1, 2, .inl (fun _ => 0))), (m0R, .inl (G.2 0, 3, .inl (fun _ => 0)))] ∧ va_S A s.heap H locs ∧ lv_has ls 3 [(2, .int (nI k)), (0, .ref m0), (1, .int 0)]) ?_ ⟨hP, hD, hS, lv_sub hl [0, 1, 2] rfl⟩
      intro k H locs ls hkN ih hI
      obtain ⟨hP, hD, hS, hl⟩ := hI
      rcases Nat.lt_or_ge k (311) with hlt | hge
      · refine lv_iload_n hx hb dX11_image_19 rfl (lv_at hl 0 rfl) ?_
        refine lv_sipush (v := 311) hx hb dX11_image_20 (by decide) ?_
        refine lv_icmp_ge (tgt := 50) hx hb dX11_image_23 (by decide) (fun c_5 => g_no c_5 (nI_ge (a := k) (b := 311) hlt (by omega))) (fun _ => ?_)
        refine lv_aload_n hx hb dX11_image_26 rfl (lv_at hl 1 rfl) ?_
        refine va_get (D := G.1) (ci := 10) (v := .ref m0K) (C := RX11) (T := TX11) (N := 21) hx hb hts (fun _ h => List.mem_cons_of_mem _ (List.mem_append_right _ h)) hown hK hP 0 rfl rfl 1 (by decide) (hts _ (List.mem_of_getElem? (i := 1) rfl)) (fun _ h9 => h9) rfl dX11_image_27 ?_
        refine lv_sipush (v := 311) hx hb dX11_image_30 (by decide) ?_
        refine lv_iload_n hx hb dX11_image_33 rfl (lv_at hl 2 rfl) ?_
        refine lv_imul hx hb dX11_image_34 ?_
        refine g_topi (y := 0) (by decide) ?_
        refine lv_iload_n hx hb dX11_image_35 rfl (lv_at hl 0 rfl) ?_
        refine lv_iadd hx hb dX11_image_36 ?_
        refine g_topi (y := (nI (0 + k))) (nI_add (0) (k)) ?_
        refine lv_aload_n hx hb dX11_image_37 rfl (lv_at hl 1 rfl) ?_
        refine va_get (D := G.1) (ci := 10) (v := .ref m0A) (C := RX11) (T := TX11) (N := 21) hx hb hts (fun _ h => List.mem_cons_of_mem _ (List.mem_append_right _ h)) hown hK hP 0 rfl rfl 0 (by decide) (hts _ (List.mem_of_getElem? (i := 2) rfl)) (fun _ h9 => h9) rfl dX11_image_38 ?_
        refine lv_iload_n hx hb dX11_image_41 rfl (lv_at hl 0 rfl) ?_
        refine va_iald hx hb hK hP 1 0 rfl rfl (vp_in_nI (n := k) (N := 311) (by omega) (by omega)) dX11_image_42 ?_
        refine g_topi (y := 0) rfl ?_
        refine va_iast hx hb hK hP hD hS 2 0 rfl rfl (vp_in_nI (n := (0 + k)) (N := 622) (by omega) (by omega)) dX11_image_43 (fun H locs hP hD hS => ?_)
        rw [upd_zz] at hP hD
        have hP : va_P G.1 vwCl [(m0, .inr (10, [.ref m0A, .ref m0K, .ref m0I, .ref m0R, .long 0, .long 1, .ref m0H, .ref m0F, .ref m0W, .ref m0L, .ref m0B, .ref m0T, .ref m0O, .ref m0Y, .int 0, .int 0, .int 0, .int 0, .int 0, .ref m0N, .ref m0V])), (m0A, .inl (G.2 0, 311, .inl (fun _ => 0))), (m0K, .inl (G.2 0, 622, .inl (fun _ => 0))), (m0I, .inl (G.2 1, 2, .inl (fun _ => 0))), (m0R, .inl (G.2 0, 3, .inl (fun _ => 0)))] H := hP
        have hD : va_D A [(m0, .inr (10, [.ref m0A, .ref m0K, .ref m0I, .ref m0R, .long 0, .long 1, .ref m0H, .ref m0F, .ref m0W, .ref m0L, .ref m0B, .ref m0T, .ref m0O, .ref m0Y, .int 0, .int 0, .int 0, .int 0, .int 0, .ref m0N, .ref m0V])), (m0A, .inl (G.2 0, 311, .inl (fun _ => 0))), (m0K, .inl (G.2 0, 622, .inl (fun _ => 0))), (m0I, .inl (G.2 1, 2, .inl (fun _ => 0))), (m0R, .inl (G.2 0, 3, .inl (fun _ => 0)))] := hD
        refine lv_iinc (v := (nI (k + 1))) (lv' := [(2, .int (nI (k + 1))), (0, .ref m0), (1, .int 0)]) hx hb dX11_image_44 hl (k := 0) rfl (nI_1 k) (by decide) rfl (fun ls hl => ?_)
        refine lv_goto (tgt := 19) hx hb dX11_image_47 (by decide) ?_
        exact ih _ _ _ hlt ⟨hP, hD, hS, lv_sub hl [0, 1, 2] rfl⟩
      · have hkE : 311 = k := by omega
        subst hkE
        refine lv_iload_n hx hb dX11_image_19 rfl (lv_at hl 0 rfl) ?_
        refine lv_sipush (v := 311) hx hb dX11_image_20 (by decide) ?_
        refine lv_icmp_ge (tgt := 50) hx hb dX11_image_23 (by decide) (fun _ => ?_) (fun c_6 => g_no (by decide) c_6)
        refine lv_aload_n hx hb dX11_image_50 rfl (lv_at hl 1 rfl) ?_
        refine va_get (D := G.1) (ci := 10) (v := .ref m0I) (C := RX11) (T := TX11) (N := 21) hx hb hts (fun _ h => List.mem_cons_of_mem _ (List.mem_append_right _ h)) hown hK hP 0 rfl rfl 2 (by decide) (hts _ (List.mem_of_getElem? (i := 3) rfl)) (fun _ h9 => h9) rfl dX11_image_51 ?_
        refine lv_iload_n hx hb dX11_image_54 rfl (lv_at hl 2 rfl) ?_
        refine lv_iconst (v := 1) hx hb dX11_image_55 (by decide) ?_
        refine va_zast hx hb hK hP hD hS 3 1 rfl rfl (by unfold vp_in; decide) dX11_image_56 (fun H locs hP hD hS => ?_)
        have hP : va_P G.1 vwCl [(m0, .inr (10, [.ref m0A, .ref m0K, .ref m0I, .ref m0R, .long 0, .long 1, .ref m0H, .ref m0F, .ref m0W, .ref m0L, .ref m0B, .ref m0T, .ref m0O, .ref m0Y, .int 0, .int 0, .int 0, .int 0, .int 0, .ref m0N, .ref m0V])), (m0A, .inl (G.2 0, 311, .inl (fun _ => 0))), (m0K, .inl (G.2 0, 622, .inl (fun _ => 0))), (m0I, .inl (G.2 1, 2, .inl (upd (fun _ => 0) 0 (vp_nar .boolean 1)))), (m0R, .inl (G.2 0, 3, .inl (fun _ => 0)))] H := hP
        have hD : va_D A [(m0, .inr (10, [.ref m0A, .ref m0K, .ref m0I, .ref m0R, .long 0, .long 1, .ref m0H, .ref m0F, .ref m0W, .ref m0L, .ref m0B, .ref m0T, .ref m0O, .ref m0Y, .int 0, .int 0, .int 0, .int 0, .int 0, .ref m0N, .ref m0V])), (m0A, .inl (G.2 0, 311, .inl (fun _ => 0))), (m0K, .inl (G.2 0, 622, .inl (fun _ => 0))), (m0I, .inl (G.2 1, 2, .inl (upd (fun _ => 0) 0 (vp_nar .boolean 1)))), (m0R, .inl (G.2 0, 3, .inl (fun _ => 0)))] := hD
        refine lv_iconst (v := 1) hx hb dX11_image_57 (by decide) ?_
        have hP := hP.sub (ws' := []) [] rfl
        have hD := hD.sub (ws' := []) [] rfl rfl
        exact g_iret (v := 1) hx hb hr hlocks hP hD hS (⟨by decide, rfl⟩) dX11_image_58
    · refine lv_iconst (v := 0) hx hb dX11_image_17 (by decide) ?_
      refine lv_istore_n (lv' := [(2, .int 0), (0, .ref m0), (1, .int 1)]) hx hb dX11_image_18 rfl hl (by decide) rfl (fun ls hl => ?_)
      refine g_loop (pc := 19) (311) (fun k H locs ls => va_P G.1 vwCl [(m0, .inr (10, [.ref m0A, .ref m0K, .ref m0I, .ref m0R, .long 0, .long 1, .ref m0H, .ref m0F, .ref m0W, .ref m0L, .ref m0B, .ref m0T, .ref m0O, .ref m0Y, .int 0, .int 0, .int 0, .int 0, .int 0, .ref m0N, .ref m0V])), (m0A, .inl (G.2 0, 311, .inl (fun _ => 0))), (m0K, .inl (G.2 0, 622, .inl (fun _ => 0))), (m0I, .inl (G.2 1, 2, .inl (fun _ => 0))), (m0R, .inl (G.2 0, 3, .inl (fun _ => 0)))] H ∧ va_D A [(m0, .inr (10, [.ref m0A, .ref m0K, .ref m0I, .ref m0R, .long 0, .long 1, .ref m0H, .ref m0F, .ref m0W, .ref m0L, .ref m0B, .ref m0T, .ref m0O, .ref m0Y, .int 0, .int 0, .int 0, .int 0, .int 0, .ref m0N, .ref m0V])), (m0A, .inl (G.2 0, 311, .inl (fun _ => 0))), (m0K, .inl (G.2 0, 622, .inl (fun _ => 0))), (m0I, .inl (G.2 1, 2, .inl (fun _ => 0))), (m0R, .inl (G.2 0, 3, .inl (fun _ => 0)))] ∧ va_S A s.heap H locs ∧ lv_has ls 3 [(2, .int (nI k)), (0, .ref m0), (1, .int 1)]) ?_ ⟨hP, hD, hS, lv_sub hl [0, 1, 2] rfl⟩
      intro k H locs ls hkN ih hI
      obtain ⟨hP, hD, hS, hl⟩ := hI
      rcases Nat.lt_or_ge k (311) with hlt | hge
      · refine lv_iload_n hx hb dX11_image_19 rfl (lv_at hl 0 rfl) ?_
        refine lv_sipush (v := 311) hx hb dX11_image_20 (by decide) ?_
        refine lv_icmp_ge (tgt := 50) hx hb dX11_image_23 (by decide) (fun c_7 => g_no c_7 (nI_ge (a := k) (b := 311) hlt (by omega))) (fun _ => ?_)
        refine lv_aload_n hx hb dX11_image_26 rfl (lv_at hl 1 rfl) ?_
        refine va_get (D := G.1) (ci := 10) (v := .ref m0K) (C := RX11) (T := TX11) (N := 21) hx hb hts (fun _ h => List.mem_cons_of_mem _ (List.mem_append_right _ h)) hown hK hP 0 rfl rfl 1 (by decide) (hts _ (List.mem_of_getElem? (i := 1) rfl)) (fun _ h9 => h9) rfl dX11_image_27 ?_
        refine lv_sipush (v := 311) hx hb dX11_image_30 (by decide) ?_
        refine lv_iload_n hx hb dX11_image_33 rfl (lv_at hl 2 rfl) ?_
        refine lv_imul hx hb dX11_image_34 ?_
        refine g_topi (y := 311) (by decide) ?_
        refine lv_iload_n hx hb dX11_image_35 rfl (lv_at hl 0 rfl) ?_
        refine lv_iadd hx hb dX11_image_36 ?_
        refine g_topi (y := (nI (311 + k))) (nI_add (311) (k)) ?_
        refine lv_aload_n hx hb dX11_image_37 rfl (lv_at hl 1 rfl) ?_
        refine va_get (D := G.1) (ci := 10) (v := .ref m0A) (C := RX11) (T := TX11) (N := 21) hx hb hts (fun _ h => List.mem_cons_of_mem _ (List.mem_append_right _ h)) hown hK hP 0 rfl rfl 0 (by decide) (hts _ (List.mem_of_getElem? (i := 2) rfl)) (fun _ h9 => h9) rfl dX11_image_38 ?_
        refine lv_iload_n hx hb dX11_image_41 rfl (lv_at hl 0 rfl) ?_
        refine va_iald hx hb hK hP 1 0 rfl rfl (vp_in_nI (n := k) (N := 311) (by omega) (by omega)) dX11_image_42 ?_
        refine g_topi (y := 0) rfl ?_
        refine va_iast hx hb hK hP hD hS 2 0 rfl rfl (vp_in_nI (n := (311 + k)) (N := 622) (by omega) (by omega)) dX11_image_43 (fun H locs hP hD hS => ?_)
        rw [upd_zz] at hP hD
        have hP : va_P G.1 vwCl [(m0, .inr (10, [.ref m0A, .ref m0K, .ref m0I, .ref m0R, .long 0, .long 1, .ref m0H, .ref m0F, .ref m0W, .ref m0L, .ref m0B, .ref m0T, .ref m0O, .ref m0Y, .int 0, .int 0, .int 0, .int 0, .int 0, .ref m0N, .ref m0V])), (m0A, .inl (G.2 0, 311, .inl (fun _ => 0))), (m0K, .inl (G.2 0, 622, .inl (fun _ => 0))), (m0I, .inl (G.2 1, 2, .inl (fun _ => 0))), (m0R, .inl (G.2 0, 3, .inl (fun _ => 0)))] H := hP
        have hD : va_D A [(m0, .inr (10, [.ref m0A, .ref m0K, .ref m0I, .ref m0R, .long 0, .long 1, .ref m0H, .ref m0F, .ref m0W, .ref m0L, .ref m0B, .ref m0T, .ref m0O, .ref m0Y, .int 0, .int 0, .int 0, .int 0, .int 0, .ref m0N, .ref m0V])), (m0A, .inl (G.2 0, 311, .inl (fun _ => 0))), (m0K, .inl (G.2 0, 622, .inl (fun _ => 0))), (m0I, .inl (G.2 1, 2, .inl (fun _ => 0))), (m0R, .inl (G.2 0, 3, .inl (fun _ => 0)))] := hD
        refine lv_iinc (v := (nI (k + 1))) (lv' := [(2, .int (nI (k + 1))), (0, .ref m0), (1, .int 1)]) hx hb dX11_image_44 hl (k := 0) rfl (nI_1 k) (by decide) rfl (fun ls hl => ?_)
        refine lv_goto (tgt := 19) hx hb dX11_image_47 (by decide) ?_
        exact ih _ _ _ hlt ⟨hP, hD, hS, lv_sub hl [0, 1, 2] rfl⟩
      · have hkE : 311 = k := by omega
        subst hkE
        refine lv_iload_n hx hb dX11_image_19 rfl (lv_at hl 0 rfl) ?_
        refine lv_sipush (v := 311) hx hb dX11_image_20 (by decide) ?_
        refine lv_icmp_ge (tgt := 50) hx hb dX11_image_23 (by decide) (fun _ => ?_) (fun c_8 => g_no (by decide) c_8)
        refine lv_aload_n hx hb dX11_image_50 rfl (lv_at hl 1 rfl) ?_
        refine va_get (D := G.1) (ci := 10) (v := .ref m0I) (C := RX11) (T := TX11) (N := 21) hx hb hts (fun _ h => List.mem_cons_of_mem _ (List.mem_append_right _ h)) hown hK hP 0 rfl rfl 2 (by decide) (hts _ (List.mem_of_getElem? (i := 3) rfl)) (fun _ h9 => h9) rfl dX11_image_51 ?_
        refine lv_iload_n hx hb dX11_image_54 rfl (lv_at hl 2 rfl) ?_
        refine lv_iconst (v := 1) hx hb dX11_image_55 (by decide) ?_
        refine va_zast hx hb hK hP hD hS 3 1 rfl rfl (by unfold vp_in; decide) dX11_image_56 (fun H locs hP hD hS => ?_)
        have hP : va_P G.1 vwCl [(m0, .inr (10, [.ref m0A, .ref m0K, .ref m0I, .ref m0R, .long 0, .long 1, .ref m0H, .ref m0F, .ref m0W, .ref m0L, .ref m0B, .ref m0T, .ref m0O, .ref m0Y, .int 0, .int 0, .int 0, .int 0, .int 0, .ref m0N, .ref m0V])), (m0A, .inl (G.2 0, 311, .inl (fun _ => 0))), (m0K, .inl (G.2 0, 622, .inl (fun _ => 0))), (m0I, .inl (G.2 1, 2, .inl (upd (fun _ => 0) 1 (vp_nar .boolean 1)))), (m0R, .inl (G.2 0, 3, .inl (fun _ => 0)))] H := hP
        have hD : va_D A [(m0, .inr (10, [.ref m0A, .ref m0K, .ref m0I, .ref m0R, .long 0, .long 1, .ref m0H, .ref m0F, .ref m0W, .ref m0L, .ref m0B, .ref m0T, .ref m0O, .ref m0Y, .int 0, .int 0, .int 0, .int 0, .int 0, .ref m0N, .ref m0V])), (m0A, .inl (G.2 0, 311, .inl (fun _ => 0))), (m0K, .inl (G.2 0, 622, .inl (fun _ => 0))), (m0I, .inl (G.2 1, 2, .inl (upd (fun _ => 0) 1 (vp_nar .boolean 1)))), (m0R, .inl (G.2 0, 3, .inl (fun _ => 0)))] := hD
        refine lv_iconst (v := 1) hx hb dX11_image_57 (by decide) ?_
        have hP := hP.sub (ws' := []) [] rfl
        have hD := hD.sub (ws' := []) [] rfl rfl
        exact g_iret (v := 1) hx hb hr hlocks hP hD hS (⟨by decide, rfl⟩) dX11_image_58
  · have hP : va_P G.1 vwCl [(m0, .inr (10, [.ref m0A, .ref m0K, .ref m0I, .ref m0R, .long 0, .long 1, .ref m0H, .ref m0F, .ref m0W, .ref m0L, .ref m0B, .ref m0T, .ref m0O, .ref m0Y, .int 0, .int 0, .int 0, .int 0, .int 0, .ref m0N, .ref m0V])), (m0A, .inl (G.2 0, 311, .inl (fun _ => 0))), (m0K, .inl (G.2 0, 622, .inl (fun _ => 0))), (m0I, .inl (G.2 1, 2, .inl (fun _ => 0))), (m0R, .inl (G.2 0, 3, .inl (fun _ => 0)))] H := hP
    have hD : va_D A [(m0, .inr (10, [.ref m0A, .ref m0K, .ref m0I, .ref m0R, .long 0, .long 1, .ref m0H, .ref m0F, .ref m0W, .ref m0L, .ref m0B, .ref m0T, .ref m0O, .ref m0Y, .int 0, .int 0, .int 0, .int 0, .int 0, .ref m0N, .ref m0V])), (m0A, .inl (G.2 0, 311, .inl (fun _ => 0))), (m0K, .inl (G.2 0, 622, .inl (fun _ => 0))), (m0I, .inl (G.2 1, 2, .inl (fun _ => 0))), (m0R, .inl (G.2 0, 3, .inl (fun _ => 0)))] := hD
    refine lv_if_ne (tgt := 17) hx hb dX11_image_7 (by decide) (fun c_9 => g_no (by decide) c_9) (fun _ => ?_)
    refine lv_aload_n hx hb dX11_image_10 rfl (lv_at hl 0 rfl) ?_
    refine lv_bipush (v := (-2)) hx hb dX11_image_11 (by decide) ?_
    refine g_calli (wr := [(m0A, .inl (G.2 0, 311, .inl (fun _ => 0))), (m0K, .inl (G.2 0, 622, .inl (fun _ => 0))), (m0I, .inl (G.2 1, 2, .inl (fun _ => 0)))]) (va_runV (As := [.int (-2)]) (rest := []) ⟨hx, hb, hml, hown, hts⟩ (c_X11_bad l G (m0) (m0A) (m0K) (m0I) (m0R) (m0H) (m0F) (m0W) (m0L) (m0B) (m0T) (m0O) (m0Y) (m0N) (m0V) ((-2)) _) (cwV 1 hts gX11_image_X11_bad rfl rfl rfl (by decide +kernel) ⟨Nat.le_of_ble_eq_true rfl, Nat.le_of_ble_eq_true rfl⟩) (g_preV m0 [.int (-2)] hP hD hK hN [0, 4] rfl rfl 0 (ci := 10) rfl rfl) rfl rfl hl.1 rfl (lv_room (Nat.le_of_ble_eq_true rfl)) dX11_image_13 ⟨Nat.le_of_ble_eq_true rfl, Nat.le_of_ble_eq_true rfl⟩) hP hD hS hA [0, 4] [1, 2, 3] rfl rfl rfl (by decide) (fun r_10 u H locs hw hP hD hS => ?_)
    obtain ⟨rfl, rfl⟩ := hw
    have hP : va_P G.1 vwCl [(m0A, .inl (G.2 0, 311, .inl (fun _ => 0))), (m0K, .inl (G.2 0, 622, .inl (fun _ => 0))), (m0I, .inl (G.2 1, 2, .inl (fun _ => 0)))] H := hP
    have hD : va_D A [(m0A, .inl (G.2 0, 311, .inl (fun _ => 0))), (m0K, .inl (G.2 0, 622, .inl (fun _ => 0))), (m0I, .inl (G.2 1, 2, .inl (fun _ => 0)))] := hD
    have hP := hP.sub (ws' := []) [] rfl
    have hD := hD.sub (ws' := []) [] rfl rfl
    exact g_iret (v := (-2)) hx hb hr hlocks hP hD hS (⟨by have e1 := (inL_i (lo := 0) (n := a1) (hi := 1) (by decide) (by decide)).symm.trans k_3; simp [F_image, e1], rfl⟩) dX11_image_16
theorem dX11_lookAt_0 : decode cX11_lookAt 0 = .ok (.aload_n 0, 1) := by decide +kernel
theorem dX11_lookAt_1 : decode cX11_lookAt 1 = .ok (.iload_n 1, 1) := by decide +kernel
theorem dX11_lookAt_2 : decode cX11_lookAt 2 = .ok (.putfield 244, 3) := by decide +kernel
theorem dX11_lookAt_5 : decode cX11_lookAt 5 = .ok (.aload_n 0, 1) := by decide +kernel
theorem dX11_lookAt_6 : decode cX11_lookAt 6 = .ok (.getfield 244, 3) := by decide +kernel
theorem dX11_lookAt_9 : decode cX11_lookAt 9 = .ok (.aload_n 0, 1) := by decide +kernel
theorem dX11_lookAt_10 : decode cX11_lookAt 10 = .ok (.getfield 232, 3) := by decide +kernel
theorem dX11_lookAt_13 : decode cX11_lookAt 13 = .ok (.if_icmp .ge 30, 3) := by decide +kernel
theorem dX11_lookAt_43 : decode cX11_lookAt 43 = .ok (.aload_n 0, 1) := by decide +kernel
theorem dX11_lookAt_44 : decode cX11_lookAt 44 = .ok (.iconst 0, 1) := by decide +kernel
theorem dX11_lookAt_45 : decode cX11_lookAt 45 = .ok (.putfield 247, 3) := by decide +kernel
theorem dX11_lookAt_48 : decode cX11_lookAt 48 = .ok (.aload_n 0, 1) := by decide +kernel
theorem dX11_lookAt_49 : decode cX11_lookAt 49 = .ok (.iconst 0, 1) := by decide +kernel
theorem dX11_lookAt_50 : decode cX11_lookAt 50 = .ok (.putfield 250, 3) := by decide +kernel
theorem dX11_lookAt_53 : decode cX11_lookAt 53 = .ok (.aload_n 0, 1) := by decide +kernel
theorem dX11_lookAt_54 : decode cX11_lookAt 54 = .ok (.iconst 0, 1) := by decide +kernel
theorem dX11_lookAt_55 : decode cX11_lookAt 55 = .ok (.putfield 253, 3) := by decide +kernel
theorem dX11_lookAt_58 : decode cX11_lookAt 58 = .ok (.aload_n 0, 1) := by decide +kernel
theorem dX11_lookAt_59 : decode cX11_lookAt 59 = .ok (.getfield 244, 3) := by decide +kernel
theorem dX11_lookAt_62 : decode cX11_lookAt 62 = .ok (.aload_n 0, 1) := by decide +kernel
theorem dX11_lookAt_63 : decode cX11_lookAt 63 = .ok (.getfield 232, 3) := by decide +kernel
theorem dX11_lookAt_66 : decode cX11_lookAt 66 = .ok (.if_icmp .ne 4, 3) := by decide +kernel
theorem dX11_lookAt_69 : decode cX11_lookAt 69 = .ok (.return_, 1) := by decide +kernel
set_option maxHeartbeats 8000000 in
set_option maxRecDepth 100000 in
theorem c_X11_lookAt (l : Launch) (G : gG) (m0 : Nat) (m0A : Nat) (m0K : Nat) (m0I : Nat) (m0R : Nat) (m0H : Nat) (m0F : Nat) (m0W : Nat) (m0L : Nat) (m0B : Nat) (m0T : Nat) (m0O : Nat) (m0Y : Nat) (m0N : Nat) (m0V : Nat) (sz : Nat) : gV G l yX11_lookAt wsX11_lookAt ({ frames := 0, cells := 0, slots := 0, locals := 0 } : Room) [.ref m0, .int 0] [(m0, .inr (10, [.ref m0A, .ref m0K, .ref m0I, .ref m0R, .long 0, .long 1, .ref m0H, .ref m0F, .ref m0W, .ref m0L, .ref m0B, .ref m0T, .ref m0O, .ref m0Y, .int 0, .int 0, .int 0, .int 0, .int 0, .ref m0N, .ref m0V]))] sz (fun (u : va_W) => (u = [(m0, .inr (10, [.ref m0A, .ref m0K, .ref m0I, .ref m0R, .long 0, .long 1, .ref m0H, .ref m0F, .ref m0W, .ref m0L, .ref m0B, .ref m0T, .ref m0O, .ref m0Y, .int 0, .int 0, .int 0, .int 0, .int 0, .ref m0N, .ref m0V]))])) := by
  refine Met.ofW (cc := cX11_lookAt) (maxL := 5) (ret := none) (by decide) rfl ?_
  intro p e s m args below meth c s₁ B hml hv
  obtain ⟨rfl, hsz, hP, hK, hD0, hN⟩ := hv
  have hx := B.exec
  have hb := B.bytes
  have hr := B.returns
  have hts := atoms_spec (ws := wsX11_lookAt) B.pre
  have hown : s.vm.findClass RX11 = some m.cls := findClass_of_methodNamed B.named
  have hlocks := B.notSynchronized
  subst hsz
  have hD := hD0.self (sz := s.heap.size)
  generalize hAe : va_A [(m0, .inr (10, [.ref m0A, .ref m0K, .ref m0I, .ref m0R, .long 0, .long 1, .ref m0H, .ref m0F, .ref m0W, .ref m0L, .ref m0B, .ref m0T, .ref m0O, .ref m0Y, .int 0, .int 0, .int 0, .int 0, .int 0, .ref m0N, .ref m0V]))] s.heap.size = A at hD ⊢
  have hA : ∀ q : Nat, s.heap.size ≤ q → A q := fun q h => by rw [← hAe]; exact Or.inr h
  have hS : va_S A s.heap s.heap [] := va_S.rf
  have hP : va_P G.1 vwCl [(m0, .inr (10, [.ref m0A, .ref m0K, .ref m0I, .ref m0R, .long 0, .long 1, .ref m0H, .ref m0F, .ref m0W, .ref m0L, .ref m0B, .ref m0T, .ref m0O, .ref m0Y, .int 0, .int 0, .int 0, .int 0, .int 0, .ref m0N, .ref m0V]))] s.heap := hP
  have hl := lv_entry ([.ref m0, .int 0]) (n := 5) (Nat.le_of_ble_eq_true rfl)
  rw [lg_entry_eq]
  generalize (lg_sl ([.ref m0, .int 0]) ++ List.replicate (5 - (lg_sl ([.ref m0, .int 0])).length) Slot.unset).toArray = ls at hl ⊢
  have hl : lv_has ls 5 [(0, .ref m0), (1, .int 0)] := hl
  refine lv_aload_n hx hb dX11_lookAt_0 rfl (lv_at hl 0 rfl) ?_
  refine lv_iload_n hx hb dX11_lookAt_1 rfl (lv_at hl 1 rfl) ?_
  refine va_put (D := G.1) (ci := 10) (v := .int 0) (ty := .int) (C := RX11) (T := TX11) (N := 21) hx hb hts (fun _ h => List.mem_cons_of_mem _ (List.mem_append_right _ h)) tyX11 tyX11_ok nmX11 hown hK hP hD hS 0 rfl rfl 15 (by decide) (hts _ (List.mem_of_getElem? (i := 1) rfl)) (fun _ h9 => h9) rfl (by decide +kernel) rfl rfl (Nat.le_of_ble_eq_true rfl) dX11_lookAt_2 (fun H locs hP hD hS => ?_)
  have hP : va_P G.1 vwCl [(m0, .inr (10, [.ref m0A, .ref m0K, .ref m0I, .ref m0R, .long 0, .long 1, .ref m0H, .ref m0F, .ref m0W, .ref m0L, .ref m0B, .ref m0T, .ref m0O, .ref m0Y, .int 0, .int 0, .int 0, .int 0, .int 0, .ref m0N, .ref m0V]))] H := hP
  have hD : va_D A [(m0, .inr (10, [.ref m0A, .ref m0K, .ref m0I, .ref m0R, .long 0, .long 1, .ref m0H, .ref m0F, .ref m0W, .ref m0L, .ref m0B, .ref m0T, .ref m0O, .ref m0Y, .int 0, .int 0, .int 0, .int 0, .int 0, .ref m0N, .ref m0V]))] := hD
  refine lv_aload_n hx hb dX11_lookAt_5 rfl (lv_at hl 0 rfl) ?_
  refine va_get (D := G.1) (ci := 10) (v := .int 0) (C := RX11) (T := TX11) (N := 21) hx hb hts (fun _ h => List.mem_cons_of_mem _ (List.mem_append_right _ h)) hown hK hP 0 rfl rfl 15 (by decide) (hts _ (List.mem_of_getElem? (i := 1) rfl)) (fun _ h9 => h9) rfl dX11_lookAt_6 ?_
  refine lv_aload_n hx hb dX11_lookAt_9 rfl (lv_at hl 0 rfl) ?_
  refine va_get (D := G.1) (ci := 10) (v := .int 0) (C := RX11) (T := TX11) (N := 21) hx hb hts (fun _ h => List.mem_cons_of_mem _ (List.mem_append_right _ h)) hown hK hP 0 rfl rfl 14 (by decide) (hts _ (List.mem_of_getElem? (i := 2) rfl)) (fun _ h9 => h9) rfl dX11_lookAt_10 ?_
  refine lv_icmp_ge (tgt := 43) hx hb dX11_lookAt_13 (by decide) (fun _ => ?_) (fun c_1 => g_no (by decide) c_1)
  refine lv_aload_n hx hb dX11_lookAt_43 rfl (lv_at hl 0 rfl) ?_
  refine lv_iconst (v := 0) hx hb dX11_lookAt_44 (by decide) ?_
  refine va_put (D := G.1) (ci := 10) (v := .int 0) (ty := .int) (C := RX11) (T := TX11) (N := 21) hx hb hts (fun _ h => List.mem_cons_of_mem _ (List.mem_append_right _ h)) tyX11 tyX11_ok nmX11 hown hK hP hD hS 0 rfl rfl 16 (by decide) (hts _ (List.mem_of_getElem? (i := 4) rfl)) (fun _ h9 => h9) rfl (by decide +kernel) rfl rfl (Nat.le_of_ble_eq_true rfl) dX11_lookAt_45 (fun H locs hP hD hS => ?_)
  have hP : va_P G.1 vwCl [(m0, .inr (10, [.ref m0A, .ref m0K, .ref m0I, .ref m0R, .long 0, .long 1, .ref m0H, .ref m0F, .ref m0W, .ref m0L, .ref m0B, .ref m0T, .ref m0O, .ref m0Y, .int 0, .int 0, .int 0, .int 0, .int 0, .ref m0N, .ref m0V]))] H := hP
  have hD : va_D A [(m0, .inr (10, [.ref m0A, .ref m0K, .ref m0I, .ref m0R, .long 0, .long 1, .ref m0H, .ref m0F, .ref m0W, .ref m0L, .ref m0B, .ref m0T, .ref m0O, .ref m0Y, .int 0, .int 0, .int 0, .int 0, .int 0, .ref m0N, .ref m0V]))] := hD
  refine lv_aload_n hx hb dX11_lookAt_48 rfl (lv_at hl 0 rfl) ?_
  refine lv_iconst (v := 0) hx hb dX11_lookAt_49 (by decide) ?_
  refine va_put (D := G.1) (ci := 10) (v := .int 0) (ty := .int) (C := RX11) (T := TX11) (N := 21) hx hb hts (fun _ h => List.mem_cons_of_mem _ (List.mem_append_right _ h)) tyX11 tyX11_ok nmX11 hown hK hP hD hS 0 rfl rfl 17 (by decide) (hts _ (List.mem_of_getElem? (i := 5) rfl)) (fun _ h9 => h9) rfl (by decide +kernel) rfl rfl (Nat.le_of_ble_eq_true rfl) dX11_lookAt_50 (fun H locs hP hD hS => ?_)
  have hP : va_P G.1 vwCl [(m0, .inr (10, [.ref m0A, .ref m0K, .ref m0I, .ref m0R, .long 0, .long 1, .ref m0H, .ref m0F, .ref m0W, .ref m0L, .ref m0B, .ref m0T, .ref m0O, .ref m0Y, .int 0, .int 0, .int 0, .int 0, .int 0, .ref m0N, .ref m0V]))] H := hP
  have hD : va_D A [(m0, .inr (10, [.ref m0A, .ref m0K, .ref m0I, .ref m0R, .long 0, .long 1, .ref m0H, .ref m0F, .ref m0W, .ref m0L, .ref m0B, .ref m0T, .ref m0O, .ref m0Y, .int 0, .int 0, .int 0, .int 0, .int 0, .ref m0N, .ref m0V]))] := hD
  refine lv_aload_n hx hb dX11_lookAt_53 rfl (lv_at hl 0 rfl) ?_
  refine lv_iconst (v := 0) hx hb dX11_lookAt_54 (by decide) ?_
  refine va_put (D := G.1) (ci := 10) (v := .int 0) (ty := .int) (C := RX11) (T := TX11) (N := 21) hx hb hts (fun _ h => List.mem_cons_of_mem _ (List.mem_append_right _ h)) tyX11 tyX11_ok nmX11 hown hK hP hD hS 0 rfl rfl 18 (by decide) (hts _ (List.mem_of_getElem? (i := 6) rfl)) (fun _ h9 => h9) rfl (by decide +kernel) rfl rfl (Nat.le_of_ble_eq_true rfl) dX11_lookAt_55 (fun H locs hP hD hS => ?_)
  have hP : va_P G.1 vwCl [(m0, .inr (10, [.ref m0A, .ref m0K, .ref m0I, .ref m0R, .long 0, .long 1, .ref m0H, .ref m0F, .ref m0W, .ref m0L, .ref m0B, .ref m0T, .ref m0O, .ref m0Y, .int 0, .int 0, .int 0, .int 0, .int 0, .ref m0N, .ref m0V]))] H := hP
  have hD : va_D A [(m0, .inr (10, [.ref m0A, .ref m0K, .ref m0I, .ref m0R, .long 0, .long 1, .ref m0H, .ref m0F, .ref m0W, .ref m0L, .ref m0B, .ref m0T, .ref m0O, .ref m0Y, .int 0, .int 0, .int 0, .int 0, .int 0, .ref m0N, .ref m0V]))] := hD
  refine lv_aload_n hx hb dX11_lookAt_58 rfl (lv_at hl 0 rfl) ?_
  refine va_get (D := G.1) (ci := 10) (v := .int 0) (C := RX11) (T := TX11) (N := 21) hx hb hts (fun _ h => List.mem_cons_of_mem _ (List.mem_append_right _ h)) hown hK hP 0 rfl rfl 15 (by decide) (hts _ (List.mem_of_getElem? (i := 1) rfl)) (fun _ h9 => h9) rfl dX11_lookAt_59 ?_
  refine lv_aload_n hx hb dX11_lookAt_62 rfl (lv_at hl 0 rfl) ?_
  refine va_get (D := G.1) (ci := 10) (v := .int 0) (C := RX11) (T := TX11) (N := 21) hx hb hts (fun _ h => List.mem_cons_of_mem _ (List.mem_append_right _ h)) hown hK hP 0 rfl rfl 14 (by decide) (hts _ (List.mem_of_getElem? (i := 2) rfl)) (fun _ h9 => h9) rfl dX11_lookAt_63 ?_
  refine lv_icmp_ne (tgt := 70) hx hb dX11_lookAt_66 (by decide) (fun c_2 => g_no (by decide) c_2) (fun _ => ?_)
  exact g_vret hx hb hr hlocks hP hD hS (rfl) dX11_lookAt_69
theorem dX11_spells_0 : decode cX11_spells 0 = .ok (.aload_n 0, 1) := by decide +kernel
theorem dX11_spells_1 : decode cX11_spells 1 = .ok (.getfield 250, 3) := by decide +kernel
theorem dX11_spells_4 : decode cX11_spells 4 = .ok (.iconst 1, 1) := by decide +kernel
theorem dX11_spells_5 : decode cX11_spells 5 = .ok (.if_icmp .ne 15, 3) := by decide +kernel
theorem dX11_spells_20 : decode cX11_spells 20 = .ok (.iconst 0, 1) := by decide +kernel
theorem dX11_spells_21 : decode cX11_spells 21 = .ok (.istore 8, 2) := by decide +kernel
theorem dX11_spells_23 : decode cX11_spells 23 = .ok (.iconst 0, 1) := by decide +kernel
theorem dX11_spells_24 : decode cX11_spells 24 = .ok (.istore 9, 2) := by decide +kernel
theorem dX11_spells_26 : decode cX11_spells 26 = .ok (.iload 9, 2) := by decide +kernel
theorem dX11_spells_28 : decode cX11_spells 28 = .ok (.iload_n 1, 1) := by decide +kernel
theorem dX11_spells_29 : decode cX11_spells 29 = .ok (.if_icmp .ge 90, 3) := by decide +kernel
theorem dX11_spells_32 : decode cX11_spells 32 = .ok (.iload 8, 2) := by decide +kernel
theorem dX11_spells_34 : decode cX11_spells 34 = .ok (.ifCond .eq 85, 3) := by decide +kernel
theorem dX11_spells_119 : decode cX11_spells 119 = .ok (.iload 8, 2) := by decide +kernel
theorem dX11_spells_121 : decode cX11_spells 121 = .ok (.ireturn, 1) := by decide +kernel
set_option maxHeartbeats 8000000 in
set_option maxRecDepth 100000 in
theorem c_X11_spells (l : Launch) (G : gG) (m0 : Nat) (m0A : Nat) (m0K : Nat) (m0I : Nat) (m0R : Nat) (m0H : Nat) (m0F : Nat) (m0W : Nat) (m0L : Nat) (m0B : Nat) (m0T : Nat) (m0O : Nat) (m0Y : Nat) (m0N : Nat) (m0V : Nat) (b1 : Int32) (b2 : Int32) (b3 : Int32) (b4 : Int32) (b5 : Int32) (b6 : Int32) (sz : Nat) : gI G l yX11_spells wsX11_spells ({ frames := 0, cells := 0, slots := 0, locals := 0 } : Room) [.ref m0, .int 6, .int b1, .int b2, .int b3, .int b4, .int b5, .int b6] [(m0, .inr (10, [.ref m0A, .ref m0K, .ref m0I, .ref m0R, .long 0, .long 1, .ref m0H, .ref m0F, .ref m0W, .ref m0L, .ref m0B, .ref m0T, .ref m0O, .ref m0Y, .int 0, .int 0, .int 0, .int 0, .int 0, .ref m0N, .ref m0V]))] sz (fun (r : Int32) (u : va_W) => (r = 0 ∧ u = [(m0, .inr (10, [.ref m0A, .ref m0K, .ref m0I, .ref m0R, .long 0, .long 1, .ref m0H, .ref m0F, .ref m0W, .ref m0L, .ref m0B, .ref m0T, .ref m0O, .ref m0Y, .int 0, .int 0, .int 0, .int 0, .int 0, .ref m0N, .ref m0V]))])) := by
  refine Met.ofW (cc := cX11_spells) (maxL := 10) (ret := (some .boolean)) (by decide) rfl ?_
  intro p e s m args below meth c s₁ B hml hv
  obtain ⟨rfl, hsz, hP, hK, hD0, hN⟩ := hv
  have hx := B.exec
  have hb := B.bytes
  have hr := B.returns
  have hts := atoms_spec (ws := wsX11_spells) B.pre
  have hown : s.vm.findClass RX11 = some m.cls := findClass_of_methodNamed B.named
  have hlocks := B.notSynchronized
  subst hsz
  have hD := hD0.self (sz := s.heap.size)
  generalize hAe : va_A [(m0, .inr (10, [.ref m0A, .ref m0K, .ref m0I, .ref m0R, .long 0, .long 1, .ref m0H, .ref m0F, .ref m0W, .ref m0L, .ref m0B, .ref m0T, .ref m0O, .ref m0Y, .int 0, .int 0, .int 0, .int 0, .int 0, .ref m0N, .ref m0V]))] s.heap.size = A at hD ⊢
  have hA : ∀ q : Nat, s.heap.size ≤ q → A q := fun q h => by rw [← hAe]; exact Or.inr h
  have hS : va_S A s.heap s.heap [] := va_S.rf
  have hP : va_P G.1 vwCl [(m0, .inr (10, [.ref m0A, .ref m0K, .ref m0I, .ref m0R, .long 0, .long 1, .ref m0H, .ref m0F, .ref m0W, .ref m0L, .ref m0B, .ref m0T, .ref m0O, .ref m0Y, .int 0, .int 0, .int 0, .int 0, .int 0, .ref m0N, .ref m0V]))] s.heap := hP
  have hl := lv_entry ([.ref m0, .int 6, .int b1, .int b2, .int b3, .int b4, .int b5, .int b6]) (n := 10) (Nat.le_of_ble_eq_true rfl)
  rw [lg_entry_eq]
  generalize (lg_sl ([.ref m0, .int 6, .int b1, .int b2, .int b3, .int b4, .int b5, .int b6]) ++ List.replicate (10 - (lg_sl ([.ref m0, .int 6, .int b1, .int b2, .int b3, .int b4, .int b5, .int b6])).length) Slot.unset).toArray = ls at hl ⊢
  have hl : lv_has ls 10 [(0, .ref m0), (1, .int 6), (2, .int b1), (3, .int b2), (4, .int b3), (5, .int b4), (6, .int b5), (7, .int b6)] := hl
  refine lv_aload_n hx hb dX11_spells_0 rfl (lv_at hl 0 rfl) ?_
  refine va_get (D := G.1) (ci := 10) (v := .int 0) (C := RX11) (T := TX11) (N := 21) hx hb hts (fun _ h => List.mem_cons_of_mem _ (List.mem_append_right _ h)) hown hK hP 0 rfl rfl 17 (by decide) (hts _ (List.mem_of_getElem? (i := 1) rfl)) (fun _ h9 => h9) rfl dX11_spells_1 ?_
  refine lv_iconst (v := 1) hx hb dX11_spells_4 (by decide) ?_
  refine lv_icmp_ne (tgt := 20) hx hb dX11_spells_5 (by decide) (fun _ => ?_) (fun c_1 => g_no c_1 (by decide))
  refine lv_iconst (v := 0) hx hb dX11_spells_20 (by decide) ?_
  refine lv_istore (lv' := [(8, .int 0), (0, .ref m0), (1, .int 6), (2, .int b1), (3, .int b2), (4, .int b3), (5, .int b4), (6, .int b5), (7, .int b6)]) hx hb dX11_spells_21 hl (by decide) rfl (fun ls hl => ?_)
  refine lv_iconst (v := 0) hx hb dX11_spells_23 (by decide) ?_
  refine lv_istore (lv' := [(9, .int 0), (8, .int 0), (0, .ref m0), (1, .int 6), (2, .int b1), (3, .int b2), (4, .int b3), (5, .int b4), (6, .int b5), (7, .int b6)]) hx hb dX11_spells_24 hl (by decide) rfl (fun ls hl => ?_)
  refine lv_iload hx hb dX11_spells_26 (lv_at hl 0 rfl) ?_
  refine lv_iload_n hx hb dX11_spells_28 rfl (lv_at hl 3 rfl) ?_
  refine lv_icmp_ge (tgt := 119) hx hb dX11_spells_29 (by decide) (fun c_2 => g_no c_2 (by decide)) (fun _ => ?_)
  refine lv_iload hx hb dX11_spells_32 (lv_at hl 1 rfl) ?_
  refine lv_if_eq (tgt := 119) hx hb dX11_spells_34 (by decide) (fun _ => ?_) (fun c_3 => g_no (by decide) c_3)
  refine lv_iload hx hb dX11_spells_119 (lv_at hl 1 rfl) ?_
  exact g_zret (v := 0) hx hb hr hlocks rfl hP hD hS (⟨rfl, rfl⟩) dX11_spells_121
theorem dX11_read_0 : decode cX11_read 0 = .ok (.aload_n 0, 1) := by decide +kernel
theorem dX11_read_1 : decode cX11_read 1 = .ok (.iconst 0, 1) := by decide +kernel
set_option maxRecDepth 20000 in
theorem ggX11_read_X11_lookAt : GoodIn wsX11_read wsX11_lookAt := goodIn_r _ [9, 1, 10, 11, 12, 2, 13, 14, 15, 8, 16, 17, 18, 19, 20, 21, 22, 23, 24, 25, 26, 111, 112, 113, 114, 115, 116, 117, 118, 119, 120, 121, 122, 123, 124, 125, 126, 127, 128, 129, 130, 131] (by decide +kernel) (by decide +kernel)
set_option maxRecDepth 20000 in
theorem gX11_read_X11_lookAt : GoodIn wsX11_read (wsV RX11 262 RX11 yX11_lookAt wsX11_lookAt) := goodIn_app (goodIn_of _ (by decide +kernel)) ggX11_read_X11_lookAt
theorem dX11_read_2 : decode cX11_read 2 = .ok (.invokevirtual 262, 3) := by decide +kernel
theorem dX11_read_5 : decode cX11_read 5 = .ok (.aload_n 0, 1) := by decide +kernel
theorem dX11_read_6 : decode cX11_read 6 = .ok (.bipush 6, 2) := by decide +kernel
theorem dX11_read_8 : decode cX11_read 8 = .ok (.bipush 118, 2) := by decide +kernel
theorem dX11_read_10 : decode cX11_read 10 = .ok (.bipush 97, 2) := by decide +kernel
theorem dX11_read_12 : decode cX11_read 12 = .ok (.bipush 108, 2) := by decide +kernel
theorem dX11_read_14 : decode cX11_read 14 = .ok (.bipush 108, 2) := by decide +kernel
theorem dX11_read_16 : decode cX11_read 16 = .ok (.bipush 101, 2) := by decide +kernel
theorem dX11_read_18 : decode cX11_read 18 = .ok (.bipush 121, 2) := by decide +kernel
set_option maxRecDepth 20000 in
theorem ggX11_read_X11_spells : GoodIn wsX11_read wsX11_spells := goodIn_r _ [30, 2, 12, 11, 1, 111, 112, 113, 114, 115, 116, 117, 118, 119, 120, 121, 122, 123, 124, 125, 126, 127, 128, 129, 130, 131] (by decide +kernel) (by decide +kernel)
set_option maxRecDepth 20000 in
theorem gX11_read_X11_spells : GoodIn wsX11_read (wsV RX11 276 RX11 yX11_spells wsX11_spells) := goodIn_app (goodIn_of _ (by decide +kernel)) ggX11_read_X11_spells
theorem dX11_read_20 : decode cX11_read 20 = .ok (.invokevirtual 276, 3) := by decide +kernel
theorem dX11_read_23 : decode cX11_read 23 = .ok (.ifCond .ne 11, 3) := by decide +kernel
theorem dX11_read_26 : decode cX11_read 26 = .ok (.bipush (-10), 2) := by decide +kernel
theorem dX11_read_28 : decode cX11_read 28 = .ok (.aload_n 0, 1) := by decide +kernel
theorem dX11_read_29 : decode cX11_read 29 = .ok (.getfield 244, 3) := by decide +kernel
theorem dX11_read_32 : decode cX11_read 32 = .ok (.isub, 1) := by decide +kernel
theorem dX11_read_33 : decode cX11_read 33 = .ok (.ireturn, 1) := by decide +kernel
set_option maxHeartbeats 8000000 in
set_option maxRecDepth 100000 in
theorem c_X11_read (l : Launch) (G : gG) (m0 : Nat) (m0A : Nat) (m0K : Nat) (m0I : Nat) (m0R : Nat) (m0H : Nat) (m0F : Nat) (m0W : Nat) (m0L : Nat) (m0B : Nat) (m0T : Nat) (m0O : Nat) (m0Y : Nat) (m0N : Nat) (m0V : Nat) (sz : Nat) : gI G l yX11_read wsX11_read ({ frames := 1, cells := 0, slots := 0, locals := 29 } : Room) [.ref m0] [(m0, .inr (10, [.ref m0A, .ref m0K, .ref m0I, .ref m0R, .long 0, .long 1, .ref m0H, .ref m0F, .ref m0W, .ref m0L, .ref m0B, .ref m0T, .ref m0O, .ref m0Y, .int 0, .int 0, .int 0, .int 0, .int 0, .ref m0N, .ref m0V]))] sz (fun (r : Int32) (u : va_W) => (r = (-10) ∧ u = [])) := by
  refine Met.ofW (cc := cX11_read) (maxL := 3) (ret := (some .int)) (by decide) rfl ?_
  intro p e s m args below meth c s₁ B hml hv
  obtain ⟨rfl, hsz, hP, hK, hD0, hN⟩ := hv
  have hx := B.exec
  have hb := B.bytes
  have hr := B.returns
  have hts := atoms_spec (ws := wsX11_read) B.pre
  have hown : s.vm.findClass RX11 = some m.cls := findClass_of_methodNamed B.named
  have hlocks := B.notSynchronized
  subst hsz
  have hD := hD0.self (sz := s.heap.size)
  generalize hAe : va_A [(m0, .inr (10, [.ref m0A, .ref m0K, .ref m0I, .ref m0R, .long 0, .long 1, .ref m0H, .ref m0F, .ref m0W, .ref m0L, .ref m0B, .ref m0T, .ref m0O, .ref m0Y, .int 0, .int 0, .int 0, .int 0, .int 0, .ref m0N, .ref m0V]))] s.heap.size = A at hD ⊢
  have hA : ∀ q : Nat, s.heap.size ≤ q → A q := fun q h => by rw [← hAe]; exact Or.inr h
  have hS : va_S A s.heap s.heap [] := va_S.rf
  have hP : va_P G.1 vwCl [(m0, .inr (10, [.ref m0A, .ref m0K, .ref m0I, .ref m0R, .long 0, .long 1, .ref m0H, .ref m0F, .ref m0W, .ref m0L, .ref m0B, .ref m0T, .ref m0O, .ref m0Y, .int 0, .int 0, .int 0, .int 0, .int 0, .ref m0N, .ref m0V]))] s.heap := hP
  have hl := lv_entry ([.ref m0]) (n := 3) (Nat.le_of_ble_eq_true rfl)
  rw [lg_entry_eq]
  generalize (lg_sl ([.ref m0]) ++ List.replicate (3 - (lg_sl ([.ref m0])).length) Slot.unset).toArray = ls at hl ⊢
  have hl : lv_has ls 3 [(0, .ref m0)] := hl
  refine lv_aload_n hx hb dX11_read_0 rfl (lv_at hl 0 rfl) ?_
  refine lv_iconst (v := 0) hx hb dX11_read_1 (by decide) ?_
  refine g_callv (wr := []) (va_runV (As := [.int 0]) (rest := []) ⟨hx, hb, hml, hown, hts⟩ (c_X11_lookAt l G (m0) (m0A) (m0K) (m0I) (m0R) (m0H) (m0F) (m0W) (m0L) (m0B) (m0T) (m0O) (m0Y) (m0N) (m0V) _) (cwV 1 hts gX11_read_X11_lookAt rfl rfl rfl (by decide +kernel) ⟨Nat.le_of_ble_eq_true rfl, Nat.le_of_ble_eq_true rfl⟩) (g_preV m0 [.int 0] hP hD hK hN [0] rfl rfl 0 (ci := 10) rfl rfl) rfl rfl hl.1 rfl (lv_room (Nat.le_of_ble_eq_true rfl)) dX11_read_2 ⟨Nat.le_of_ble_eq_true rfl, Nat.le_of_ble_eq_true rfl⟩) hP hD hS hA [0] [] rfl rfl rfl (by decide) (fun u H locs hw hP hD hS => ?_)
  subst hw
  have hP : va_P G.1 vwCl [(m0, .inr (10, [.ref m0A, .ref m0K, .ref m0I, .ref m0R, .long 0, .long 1, .ref m0H, .ref m0F, .ref m0W, .ref m0L, .ref m0B, .ref m0T, .ref m0O, .ref m0Y, .int 0, .int 0, .int 0, .int 0, .int 0, .ref m0N, .ref m0V]))] H := hP
  have hD : va_D A [(m0, .inr (10, [.ref m0A, .ref m0K, .ref m0I, .ref m0R, .long 0, .long 1, .ref m0H, .ref m0F, .ref m0W, .ref m0L, .ref m0B, .ref m0T, .ref m0O, .ref m0Y, .int 0, .int 0, .int 0, .int 0, .int 0, .ref m0N, .ref m0V]))] := hD
  refine lv_aload_n hx hb dX11_read_5 rfl (lv_at hl 0 rfl) ?_
  refine lv_bipush (v := 6) hx hb dX11_read_6 (by decide) ?_
  refine lv_bipush (v := 118) hx hb dX11_read_8 (by decide) ?_
  refine lv_bipush (v := 97) hx hb dX11_read_10 (by decide) ?_
  refine lv_bipush (v := 108) hx hb dX11_read_12 (by decide) ?_
  refine lv_bipush (v := 108) hx hb dX11_read_14 (by decide) ?_
  refine lv_bipush (v := 101) hx hb dX11_read_16 (by decide) ?_
  refine lv_bipush (v := 121) hx hb dX11_read_18 (by decide) ?_
  refine g_calli (wr := []) (va_runV (As := [.int 6, .int 118, .int 97, .int 108, .int 108, .int 101, .int 121]) (rest := []) ⟨hx, hb, hml, hown, hts⟩ (c_X11_spells l G (m0) (m0A) (m0K) (m0I) (m0R) (m0H) (m0F) (m0W) (m0L) (m0B) (m0T) (m0O) (m0Y) (m0N) (m0V) (118) (97) (108) (108) (101) (121) _) (cwV 7 hts gX11_read_X11_spells rfl rfl rfl (by decide +kernel) ⟨Nat.le_of_ble_eq_true rfl, Nat.le_of_ble_eq_true rfl⟩) (g_preV m0 [.int 6, .int 118, .int 97, .int 108, .int 108, .int 101, .int 121] hP hD hK hN [0] rfl rfl 0 (ci := 10) rfl rfl) rfl rfl hl.1 rfl (lv_room (Nat.le_of_ble_eq_true rfl)) dX11_read_20 ⟨Nat.le_of_ble_eq_true rfl, Nat.le_of_ble_eq_true rfl⟩) hP hD hS hA [0] [] rfl rfl rfl (by decide) (fun r_1 u H locs hw hP hD hS => ?_)
  obtain ⟨rfl, rfl⟩ := hw
  have hP : va_P G.1 vwCl [(m0, .inr (10, [.ref m0A, .ref m0K, .ref m0I, .ref m0R, .long 0, .long 1, .ref m0H, .ref m0F, .ref m0W, .ref m0L, .ref m0B, .ref m0T, .ref m0O, .ref m0Y, .int 0, .int 0, .int 0, .int 0, .int 0, .ref m0N, .ref m0V]))] H := hP
  have hD : va_D A [(m0, .inr (10, [.ref m0A, .ref m0K, .ref m0I, .ref m0R, .long 0, .long 1, .ref m0H, .ref m0F, .ref m0W, .ref m0L, .ref m0B, .ref m0T, .ref m0O, .ref m0Y, .int 0, .int 0, .int 0, .int 0, .int 0, .ref m0N, .ref m0V]))] := hD
  refine lv_if_ne (tgt := 34) hx hb dX11_read_23 (by decide) (fun c_2 => g_no (by decide) c_2) (fun _ => ?_)
  refine lv_bipush (v := (-10)) hx hb dX11_read_26 (by decide) ?_
  refine lv_aload_n hx hb dX11_read_28 rfl (lv_at hl 0 rfl) ?_
  refine va_get (D := G.1) (ci := 10) (v := .int 0) (C := RX11) (T := TX11) (N := 21) hx hb hts (fun _ h => List.mem_cons_of_mem _ (List.mem_append_right _ h)) hown hK hP 0 rfl rfl 15 (by decide) (hts _ (List.mem_of_getElem? (i := 1) rfl)) (fun _ h9 => h9) rfl dX11_read_29 ?_
  refine lv_isub hx hb dX11_read_32 ?_
  refine g_topi (y := (-10)) (by decide) ?_
  have hP := hP.sub (ws' := []) [] rfl
  have hD := hD.sub (ws' := []) [] rfl rfl
  exact g_iret (v := (-10)) hx hb hr hlocks hP hD hS (⟨rfl, rfl⟩) dX11_read_33
theorem dX11_sums_0 : decode cX11_sums 0 = .ok (.lload_n 1, 1) := by decide +kernel
theorem dX11_sums_1 : decode cX11_sums 1 = .ok (.lstore 5, 2) := by decide +kernel
theorem dX11_sums_3 : decode cX11_sums 3 = .ok (.iconst 0, 1) := by decide +kernel
theorem dX11_sums_4 : decode cX11_sums 4 = .ok (.istore 7, 2) := by decide +kernel
theorem dX11_sums_6 : decode cX11_sums 6 = .ok (.iload 7, 2) := by decide +kernel
theorem dX11_sums_8 : decode cX11_sums 8 = .ok (.iload 4, 2) := by decide +kernel
theorem dX11_sums_10 : decode cX11_sums 10 = .ok (.if_icmp .ge 28, 3) := by decide +kernel
theorem dX11_sums_13 : decode cX11_sums 13 = .ok (.ldc2_w 306, 3) := by decide +kernel
theorem dX11_sums_16 : decode cX11_sums 16 = .ok (.lload 5, 2) := by decide +kernel
theorem dX11_sums_18 : decode cX11_sums 18 = .ok (.lmul, 1) := by decide +kernel
theorem dX11_sums_19 : decode cX11_sums 19 = .ok (.aload_n 0, 1) := by decide +kernel
theorem dX11_sums_20 : decode cX11_sums 20 = .ok (.getfield 7, 3) := by decide +kernel
theorem dX11_sums_23 : decode cX11_sums 23 = .ok (.iload_n 3, 1) := by decide +kernel
theorem dX11_sums_24 : decode cX11_sums 24 = .ok (.iload 7, 2) := by decide +kernel
theorem dX11_sums_26 : decode cX11_sums 26 = .ok (.iadd, 1) := by decide +kernel
theorem dX11_sums_27 : decode cX11_sums 27 = .ok (.iaload, 1) := by decide +kernel
theorem dX11_sums_28 : decode cX11_sums 28 = .ok (.i2l, 1) := by decide +kernel
theorem dX11_sums_29 : decode cX11_sums 29 = .ok (.ladd, 1) := by decide +kernel
theorem dX11_sums_30 : decode cX11_sums 30 = .ok (.lstore 5, 2) := by decide +kernel
theorem dX11_sums_32 : decode cX11_sums 32 = .ok (.iinc 7 1, 3) := by decide +kernel
theorem dX11_sums_35 : decode cX11_sums 35 = .ok (.goto (-29), 3) := by decide +kernel
theorem dX11_sums_38 : decode cX11_sums 38 = .ok (.lload 5, 2) := by decide +kernel
theorem dX11_sums_40 : decode cX11_sums 40 = .ok (.lreturn, 1) := by decide +kernel
set_option maxHeartbeats 8000000 in
set_option maxRecDepth 100000 in
theorem c_X11_sums_d (l : Launch) (G : gG) (m0 : Nat) (m0A : Nat) (m0K : Nat) (m0I : Nat) (m0R : Nat) (m0H : Nat) (m0F : Nat) (m0W : Nat) (m0L : Nat) (m0B : Nat) (m0T : Nat) (m0O : Nat) (m0Y : Nat) (m0N : Nat) (m0V : Nat) (sz : Nat) : gL G l yX11_sums wsX11_sums ({ frames := 0, cells := 0, slots := 0, locals := 0 } : Room) [.ref m0, .long (-4561596495751210759), .int 28, .int 6] [(m0, .inr (10, [.ref m0A, .ref m0K, .ref m0I, .ref m0R, .long 0, .long 1, .ref m0H, .ref m0F, .ref m0W, .ref m0L, .ref m0B, .ref m0T, .ref m0O, .ref m0Y, .int 0, .int 0, .int 0, .int 0, .int 0, .ref m0N, .ref m0V])), (m0A, .inl (G.2 0, 311, .inl (fun _ => 0)))] sz (fun (r : Int64) (u : va_W) => (r = 7067162257424300601 ∧ u = [(m0, .inr (10, [.ref m0A, .ref m0K, .ref m0I, .ref m0R, .long 0, .long 1, .ref m0H, .ref m0F, .ref m0W, .ref m0L, .ref m0B, .ref m0T, .ref m0O, .ref m0Y, .int 0, .int 0, .int 0, .int 0, .int 0, .ref m0N, .ref m0V])), (m0A, .inl (G.2 0, 311, .inl (fun _ => 0)))])) := by
  refine Met.ofW (cc := cX11_sums) (maxL := 8) (ret := (some .long)) (by decide) rfl ?_
  intro p e s m args below meth c s₁ B hml hv
  obtain ⟨rfl, hsz, hP, hK, hD0, hN⟩ := hv
  have hx := B.exec
  have hb := B.bytes
  have hr := B.returns
  have hts := atoms_spec (ws := wsX11_sums) B.pre
  have hown : s.vm.findClass RX11 = some m.cls := findClass_of_methodNamed B.named
  have hlocks := B.notSynchronized
  subst hsz
  have hD := hD0.self (sz := s.heap.size)
  generalize hAe : va_A [(m0, .inr (10, [.ref m0A, .ref m0K, .ref m0I, .ref m0R, .long 0, .long 1, .ref m0H, .ref m0F, .ref m0W, .ref m0L, .ref m0B, .ref m0T, .ref m0O, .ref m0Y, .int 0, .int 0, .int 0, .int 0, .int 0, .ref m0N, .ref m0V])), (m0A, .inl (G.2 0, 311, .inl (fun _ => 0)))] s.heap.size = A at hD ⊢
  have hA : ∀ q : Nat, s.heap.size ≤ q → A q := fun q h => by rw [← hAe]; exact Or.inr h
  have hS : va_S A s.heap s.heap [] := va_S.rf
  have hP : va_P G.1 vwCl [(m0, .inr (10, [.ref m0A, .ref m0K, .ref m0I, .ref m0R, .long 0, .long 1, .ref m0H, .ref m0F, .ref m0W, .ref m0L, .ref m0B, .ref m0T, .ref m0O, .ref m0Y, .int 0, .int 0, .int 0, .int 0, .int 0, .ref m0N, .ref m0V])), (m0A, .inl (G.2 0, 311, .inl (fun _ => 0)))] s.heap := hP
  have hl := lv_entry ([.ref m0, .long (-4561596495751210759), .int 28, .int 6]) (n := 8) (Nat.le_of_ble_eq_true rfl)
  rw [lg_entry_eq]
  generalize (lg_sl ([.ref m0, .long (-4561596495751210759), .int 28, .int 6]) ++ List.replicate (8 - (lg_sl ([.ref m0, .long (-4561596495751210759), .int 28, .int 6])).length) Slot.unset).toArray = ls at hl ⊢
  have hl : lv_has ls 8 [(0, .ref m0), (1, .long (-4561596495751210759)), (3, .int 28), (4, .int 6)] := hl
  refine lv_lload_n hx hb dX11_sums_0 rfl (lv_at hl 1 rfl) ?_
  refine lv_lstore (lv' := [(5, .long (-4561596495751210759)), (0, .ref m0), (1, .long (-4561596495751210759)), (3, .int 28), (4, .int 6)]) hx hb dX11_sums_1 hl (by decide) rfl (fun ls hl => ?_)
  refine lv_iconst (v := 0) hx hb dX11_sums_3 (by decide) ?_
  refine lv_istore (lv' := [(7, .int 0), (5, .long (-4561596495751210759)), (0, .ref m0), (1, .long (-4561596495751210759)), (3, .int 28), (4, .int 6)]) hx hb dX11_sums_4 hl (by decide) rfl (fun ls hl => ?_)
  refine lv_iload hx hb dX11_sums_6 (lv_at hl 0 rfl) ?_
  refine lv_iload hx hb dX11_sums_8 (lv_at hl 5 rfl) ?_
  refine lv_icmp_ge (tgt := 38) hx hb dX11_sums_10 (by decide) (fun c_1 => g_no c_1 (by decide)) (fun _ => ?_)
  refine lv_ldc2 (v := 31) hx hb hown (hts _ (List.mem_of_getElem? (i := 1) rfl)) dX11_sums_13 ?_
  refine lv_lload hx hb dX11_sums_16 (lv_at hl 1 rfl) ?_
  refine lv_lmul hx hb dX11_sums_18 ?_
  refine g_topl (y := 6164461221388879399) (by decide) ?_
  refine lv_aload_n hx hb dX11_sums_19 rfl (lv_at hl 2 rfl) ?_
  refine va_get (D := G.1) (ci := 10) (v := .ref m0A) (C := RX11) (T := TX11) (N := 21) hx hb hts (fun _ h => List.mem_cons_of_mem _ (List.mem_append_right _ h)) hown hK hP 0 rfl rfl 0 (by decide) (hts _ (List.mem_of_getElem? (i := 2) rfl)) (fun _ h9 => h9) rfl dX11_sums_20 ?_
  refine lv_iload_n hx hb dX11_sums_23 rfl (lv_at hl 4 rfl) ?_
  refine lv_iload hx hb dX11_sums_24 (lv_at hl 0 rfl) ?_
  refine lv_iadd hx hb dX11_sums_26 ?_
  refine g_topi (y := 28) (by decide) ?_
  refine va_iald hx hb hK hP 1 0 rfl rfl (by unfold vp_in; decide) dX11_sums_27 ?_
  refine g_topi (y := 0) rfl ?_
  refine lv_i2l (v := 0) hx hb dX11_sums_28 (by decide) ?_
  refine lv_ladd hx hb dX11_sums_29 ?_
  refine g_topl (y := 6164461221388879399) (by decide) ?_
  refine lv_lstore (lv' := [(5, .long 6164461221388879399), (7, .int 0), (0, .ref m0), (1, .long (-4561596495751210759)), (3, .int 28), (4, .int 6)]) hx hb dX11_sums_30 hl (by decide) rfl (fun ls hl => ?_)
  refine lv_iinc (v := 1) (lv' := [(7, .int 1), (5, .long 6164461221388879399), (0, .ref m0), (1, .long (-4561596495751210759)), (3, .int 28), (4, .int 6)]) hx hb dX11_sums_32 hl (k := 1) rfl (by decide) (by decide) rfl (fun ls hl => ?_)
  refine lv_goto (tgt := 6) hx hb dX11_sums_35 (by decide) ?_
  refine lv_iload hx hb dX11_sums_6 (lv_at hl 0 rfl) ?_
  refine lv_iload hx hb dX11_sums_8 (lv_at hl 5 rfl) ?_
  refine lv_icmp_ge (tgt := 38) hx hb dX11_sums_10 (by decide) (fun c_2 => g_no c_2 (by decide)) (fun _ => ?_)
  refine lv_ldc2 (v := 31) hx hb hown (hts _ (List.mem_of_getElem? (i := 1) rfl)) dX11_sums_13 ?_
  refine lv_lload hx hb dX11_sums_16 (lv_at hl 1 rfl) ?_
  refine lv_lmul hx hb dX11_sums_18 ?_
  refine g_topl (y := 6630857125959745209) (by decide) ?_
  refine lv_aload_n hx hb dX11_sums_19 rfl (lv_at hl 2 rfl) ?_
  refine va_get (D := G.1) (ci := 10) (v := .ref m0A) (C := RX11) (T := TX11) (N := 21) hx hb hts (fun _ h => List.mem_cons_of_mem _ (List.mem_append_right _ h)) hown hK hP 0 rfl rfl 0 (by decide) (hts _ (List.mem_of_getElem? (i := 2) rfl)) (fun _ h9 => h9) rfl dX11_sums_20 ?_
  refine lv_iload_n hx hb dX11_sums_23 rfl (lv_at hl 4 rfl) ?_
  refine lv_iload hx hb dX11_sums_24 (lv_at hl 0 rfl) ?_
  refine lv_iadd hx hb dX11_sums_26 ?_
  refine g_topi (y := 29) (by decide) ?_
  refine va_iald hx hb hK hP 1 0 rfl rfl (by unfold vp_in; decide) dX11_sums_27 ?_
  refine g_topi (y := 0) rfl ?_
  refine lv_i2l (v := 0) hx hb dX11_sums_28 (by decide) ?_
  refine lv_ladd hx hb dX11_sums_29 ?_
  refine g_topl (y := 6630857125959745209) (by decide) ?_
  refine lv_lstore (lv' := [(5, .long 6630857125959745209), (7, .int 1), (0, .ref m0), (1, .long (-4561596495751210759)), (3, .int 28), (4, .int 6)]) hx hb dX11_sums_30 hl (by decide) rfl (fun ls hl => ?_)
  refine lv_iinc (v := 2) (lv' := [(7, .int 2), (5, .long 6630857125959745209), (0, .ref m0), (1, .long (-4561596495751210759)), (3, .int 28), (4, .int 6)]) hx hb dX11_sums_32 hl (k := 1) rfl (by decide) (by decide) rfl (fun ls hl => ?_)
  refine lv_goto (tgt := 6) hx hb dX11_sums_35 (by decide) ?_
  refine lv_iload hx hb dX11_sums_6 (lv_at hl 0 rfl) ?_
  refine lv_iload hx hb dX11_sums_8 (lv_at hl 5 rfl) ?_
  refine lv_icmp_ge (tgt := 38) hx hb dX11_sums_10 (by decide) (fun c_3 => g_no c_3 (by decide)) (fun _ => ?_)
  refine lv_ldc2 (v := 31) hx hb hown (hts _ (List.mem_of_getElem? (i := 1) rfl)) dX11_sums_13 ?_
  refine lv_lload hx hb dX11_sums_16 (lv_at hl 1 rfl) ?_
  refine lv_lmul hx hb dX11_sums_18 ?_
  refine g_topl (y := 2642386093947033703) (by decide) ?_
  refine lv_aload_n hx hb dX11_sums_19 rfl (lv_at hl 2 rfl) ?_
  refine va_get (D := G.1) (ci := 10) (v := .ref m0A) (C := RX11) (T := TX11) (N := 21) hx hb hts (fun _ h => List.mem_cons_of_mem _ (List.mem_append_right _ h)) hown hK hP 0 rfl rfl 0 (by decide) (hts _ (List.mem_of_getElem? (i := 2) rfl)) (fun _ h9 => h9) rfl dX11_sums_20 ?_
  refine lv_iload_n hx hb dX11_sums_23 rfl (lv_at hl 4 rfl) ?_
  refine lv_iload hx hb dX11_sums_24 (lv_at hl 0 rfl) ?_
  refine lv_iadd hx hb dX11_sums_26 ?_
  refine g_topi (y := 30) (by decide) ?_
  refine va_iald hx hb hK hP 1 0 rfl rfl (by unfold vp_in; decide) dX11_sums_27 ?_
  refine g_topi (y := 0) rfl ?_
  refine lv_i2l (v := 0) hx hb dX11_sums_28 (by decide) ?_
  refine lv_ladd hx hb dX11_sums_29 ?_
  refine g_topl (y := 2642386093947033703) (by decide) ?_
  refine lv_lstore (lv' := [(5, .long 2642386093947033703), (7, .int 2), (0, .ref m0), (1, .long (-4561596495751210759)), (3, .int 28), (4, .int 6)]) hx hb dX11_sums_30 hl (by decide) rfl (fun ls hl => ?_)
  refine lv_iinc (v := 3) (lv' := [(7, .int 3), (5, .long 2642386093947033703), (0, .ref m0), (1, .long (-4561596495751210759)), (3, .int 28), (4, .int 6)]) hx hb dX11_sums_32 hl (k := 1) rfl (by decide) (by decide) rfl (fun ls hl => ?_)
  refine lv_goto (tgt := 6) hx hb dX11_sums_35 (by decide) ?_
  refine lv_iload hx hb dX11_sums_6 (lv_at hl 0 rfl) ?_
  refine lv_iload hx hb dX11_sums_8 (lv_at hl 5 rfl) ?_
  refine lv_icmp_ge (tgt := 38) hx hb dX11_sums_10 (by decide) (fun c_4 => g_no c_4 (by decide)) (fun _ => ?_)
  refine lv_ldc2 (v := 31) hx hb hown (hts _ (List.mem_of_getElem? (i := 1) rfl)) dX11_sums_13 ?_
  refine lv_lload hx hb dX11_sums_16 (lv_at hl 1 rfl) ?_
  refine lv_lmul hx hb dX11_sums_18 ?_
  refine g_topl (y := 8126992617519838329) (by decide) ?_
  refine lv_aload_n hx hb dX11_sums_19 rfl (lv_at hl 2 rfl) ?_
  refine va_get (D := G.1) (ci := 10) (v := .ref m0A) (C := RX11) (T := TX11) (N := 21) hx hb hts (fun _ h => List.mem_cons_of_mem _ (List.mem_append_right _ h)) hown hK hP 0 rfl rfl 0 (by decide) (hts _ (List.mem_of_getElem? (i := 2) rfl)) (fun _ h9 => h9) rfl dX11_sums_20 ?_
  refine lv_iload_n hx hb dX11_sums_23 rfl (lv_at hl 4 rfl) ?_
  refine lv_iload hx hb dX11_sums_24 (lv_at hl 0 rfl) ?_
  refine lv_iadd hx hb dX11_sums_26 ?_
  refine g_topi (y := 31) (by decide) ?_
  refine va_iald hx hb hK hP 1 0 rfl rfl (by unfold vp_in; decide) dX11_sums_27 ?_
  refine g_topi (y := 0) rfl ?_
  refine lv_i2l (v := 0) hx hb dX11_sums_28 (by decide) ?_
  refine lv_ladd hx hb dX11_sums_29 ?_
  refine g_topl (y := 8126992617519838329) (by decide) ?_
  refine lv_lstore (lv' := [(5, .long 8126992617519838329), (7, .int 3), (0, .ref m0), (1, .long (-4561596495751210759)), (3, .int 28), (4, .int 6)]) hx hb dX11_sums_30 hl (by decide) rfl (fun ls hl => ?_)
  refine lv_iinc (v := 4) (lv' := [(7, .int 4), (5, .long 8126992617519838329), (0, .ref m0), (1, .long (-4561596495751210759)), (3, .int 28), (4, .int 6)]) hx hb dX11_sums_32 hl (k := 1) rfl (by decide) (by decide) rfl (fun ls hl => ?_)
  refine lv_goto (tgt := 6) hx hb dX11_sums_35 (by decide) ?_
  refine lv_iload hx hb dX11_sums_6 (lv_at hl 0 rfl) ?_
  refine lv_iload hx hb dX11_sums_8 (lv_at hl 5 rfl) ?_
  refine lv_icmp_ge (tgt := 38) hx hb dX11_sums_10 (by decide) (fun c_5 => g_no c_5 (by decide)) (fun _ => ?_)
  refine lv_ldc2 (v := 31) hx hb hown (hts _ (List.mem_of_getElem? (i := 1) rfl)) dX11_sums_13 ?_
  refine lv_lload hx hb dX11_sums_16 (lv_at hl 1 rfl) ?_
  refine lv_lmul hx hb dX11_sums_18 ?_
  refine g_topl (y := (-6317645888818734425)) (by decide) ?_
  refine lv_aload_n hx hb dX11_sums_19 rfl (lv_at hl 2 rfl) ?_
  refine va_get (D := G.1) (ci := 10) (v := .ref m0A) (C := RX11) (T := TX11) (N := 21) hx hb hts (fun _ h => List.mem_cons_of_mem _ (List.mem_append_right _ h)) hown hK hP 0 rfl rfl 0 (by decide) (hts _ (List.mem_of_getElem? (i := 2) rfl)) (fun _ h9 => h9) rfl dX11_sums_20 ?_
  refine lv_iload_n hx hb dX11_sums_23 rfl (lv_at hl 4 rfl) ?_
  refine lv_iload hx hb dX11_sums_24 (lv_at hl 0 rfl) ?_
  refine lv_iadd hx hb dX11_sums_26 ?_
  refine g_topi (y := 32) (by decide) ?_
  refine va_iald hx hb hK hP 1 0 rfl rfl (by unfold vp_in; decide) dX11_sums_27 ?_
  refine g_topi (y := 0) rfl ?_
  refine lv_i2l (v := 0) hx hb dX11_sums_28 (by decide) ?_
  refine lv_ladd hx hb dX11_sums_29 ?_
  refine g_topl (y := (-6317645888818734425)) (by decide) ?_
  refine lv_lstore (lv' := [(5, .long (-6317645888818734425)), (7, .int 4), (0, .ref m0), (1, .long (-4561596495751210759)), (3, .int 28), (4, .int 6)]) hx hb dX11_sums_30 hl (by decide) rfl (fun ls hl => ?_)
  refine lv_iinc (v := 5) (lv' := [(7, .int 5), (5, .long (-6317645888818734425)), (0, .ref m0), (1, .long (-4561596495751210759)), (3, .int 28), (4, .int 6)]) hx hb dX11_sums_32 hl (k := 1) rfl (by decide) (by decide) rfl (fun ls hl => ?_)
  refine lv_goto (tgt := 6) hx hb dX11_sums_35 (by decide) ?_
  refine lv_iload hx hb dX11_sums_6 (lv_at hl 0 rfl) ?_
  refine lv_iload hx hb dX11_sums_8 (lv_at hl 5 rfl) ?_
  refine lv_icmp_ge (tgt := 38) hx hb dX11_sums_10 (by decide) (fun c_6 => g_no c_6 (by decide)) (fun _ => ?_)
  refine lv_ldc2 (v := 31) hx hb hown (hts _ (List.mem_of_getElem? (i := 1) rfl)) dX11_sums_13 ?_
  refine lv_lload hx hb dX11_sums_16 (lv_at hl 1 rfl) ?_
  refine lv_lmul hx hb dX11_sums_18 ?_
  refine g_topl (y := 7067162257424300601) (by decide) ?_
  refine lv_aload_n hx hb dX11_sums_19 rfl (lv_at hl 2 rfl) ?_
  refine va_get (D := G.1) (ci := 10) (v := .ref m0A) (C := RX11) (T := TX11) (N := 21) hx hb hts (fun _ h => List.mem_cons_of_mem _ (List.mem_append_right _ h)) hown hK hP 0 rfl rfl 0 (by decide) (hts _ (List.mem_of_getElem? (i := 2) rfl)) (fun _ h9 => h9) rfl dX11_sums_20 ?_
  refine lv_iload_n hx hb dX11_sums_23 rfl (lv_at hl 4 rfl) ?_
  refine lv_iload hx hb dX11_sums_24 (lv_at hl 0 rfl) ?_
  refine lv_iadd hx hb dX11_sums_26 ?_
  refine g_topi (y := 33) (by decide) ?_
  refine va_iald hx hb hK hP 1 0 rfl rfl (by unfold vp_in; decide) dX11_sums_27 ?_
  refine g_topi (y := 0) rfl ?_
  refine lv_i2l (v := 0) hx hb dX11_sums_28 (by decide) ?_
  refine lv_ladd hx hb dX11_sums_29 ?_
  refine g_topl (y := 7067162257424300601) (by decide) ?_
  refine lv_lstore (lv' := [(5, .long 7067162257424300601), (7, .int 5), (0, .ref m0), (1, .long (-4561596495751210759)), (3, .int 28), (4, .int 6)]) hx hb dX11_sums_30 hl (by decide) rfl (fun ls hl => ?_)
  refine lv_iinc (v := 6) (lv' := [(7, .int 6), (5, .long 7067162257424300601), (0, .ref m0), (1, .long (-4561596495751210759)), (3, .int 28), (4, .int 6)]) hx hb dX11_sums_32 hl (k := 1) rfl (by decide) (by decide) rfl (fun ls hl => ?_)
  refine lv_goto (tgt := 6) hx hb dX11_sums_35 (by decide) ?_
  refine lv_iload hx hb dX11_sums_6 (lv_at hl 0 rfl) ?_
  refine lv_iload hx hb dX11_sums_8 (lv_at hl 5 rfl) ?_
  refine lv_icmp_ge (tgt := 38) hx hb dX11_sums_10 (by decide) (fun _ => ?_) (fun c_7 => g_no (by decide) c_7)
  refine lv_lload hx hb dX11_sums_38 (lv_at hl 1 rfl) ?_
  exact g_lret (v := 7067162257424300601) hx hb hr hlocks hP hD hS (⟨rfl, rfl⟩) dX11_sums_40
set_option maxHeartbeats 8000000 in
set_option maxRecDepth 100000 in
theorem c_X11_sums_56 (l : Launch) (G : gG) (m0 : Nat) (m0A : Nat) (m0K : Nat) (m0I : Nat) (m0R : Nat) (m0H : Nat) (m0F : Nat) (m0W : Nat) (m0L : Nat) (m0B : Nat) (m0T : Nat) (m0O : Nat) (m0Y : Nat) (m0N : Nat) (m0V : Nat) (sz : Nat) : gL G l yX11_sums wsX11_sums ({ frames := 0, cells := 0, slots := 0, locals := 0 } : Room) [.ref m0, .long 7067162257424300601, .int 56, .int 0] [(m0, .inr (10, [.ref m0A, .ref m0K, .ref m0I, .ref m0R, .long 0, .long 1, .ref m0H, .ref m0F, .ref m0W, .ref m0L, .ref m0B, .ref m0T, .ref m0O, .ref m0Y, .int 0, .int 0, .int 0, .int 0, .int 0, .ref m0N, .ref m0V])), (m0A, .inl (G.2 0, 311, .inl (fun _ => 0)))] sz (fun (r : Int64) (u : va_W) => (r = 7067162257424300601 ∧ u = [(m0, .inr (10, [.ref m0A, .ref m0K, .ref m0I, .ref m0R, .long 0, .long 1, .ref m0H, .ref m0F, .ref m0W, .ref m0L, .ref m0B, .ref m0T, .ref m0O, .ref m0Y, .int 0, .int 0, .int 0, .int 0, .int 0, .ref m0N, .ref m0V])), (m0A, .inl (G.2 0, 311, .inl (fun _ => 0)))])) := by
  refine Met.ofW (cc := cX11_sums) (maxL := 8) (ret := (some .long)) (by decide) rfl ?_
  intro p e s m args below meth c s₁ B hml hv
  obtain ⟨rfl, hsz, hP, hK, hD0, hN⟩ := hv
  have hx := B.exec
  have hb := B.bytes
  have hr := B.returns
  have hts := atoms_spec (ws := wsX11_sums) B.pre
  have hown : s.vm.findClass RX11 = some m.cls := findClass_of_methodNamed B.named
  have hlocks := B.notSynchronized
  subst hsz
  have hD := hD0.self (sz := s.heap.size)
  generalize hAe : va_A [(m0, .inr (10, [.ref m0A, .ref m0K, .ref m0I, .ref m0R, .long 0, .long 1, .ref m0H, .ref m0F, .ref m0W, .ref m0L, .ref m0B, .ref m0T, .ref m0O, .ref m0Y, .int 0, .int 0, .int 0, .int 0, .int 0, .ref m0N, .ref m0V])), (m0A, .inl (G.2 0, 311, .inl (fun _ => 0)))] s.heap.size = A at hD ⊢
  have hA : ∀ q : Nat, s.heap.size ≤ q → A q := fun q h => by rw [← hAe]; exact Or.inr h
  have hS : va_S A s.heap s.heap [] := va_S.rf
  have hP : va_P G.1 vwCl [(m0, .inr (10, [.ref m0A, .ref m0K, .ref m0I, .ref m0R, .long 0, .long 1, .ref m0H, .ref m0F, .ref m0W, .ref m0L, .ref m0B, .ref m0T, .ref m0O, .ref m0Y, .int 0, .int 0, .int 0, .int 0, .int 0, .ref m0N, .ref m0V])), (m0A, .inl (G.2 0, 311, .inl (fun _ => 0)))] s.heap := hP
  have hl := lv_entry ([.ref m0, .long 7067162257424300601, .int 56, .int 0]) (n := 8) (Nat.le_of_ble_eq_true rfl)
  rw [lg_entry_eq]
  generalize (lg_sl ([.ref m0, .long 7067162257424300601, .int 56, .int 0]) ++ List.replicate (8 - (lg_sl ([.ref m0, .long 7067162257424300601, .int 56, .int 0])).length) Slot.unset).toArray = ls at hl ⊢
  have hl : lv_has ls 8 [(0, .ref m0), (1, .long 7067162257424300601), (3, .int 56), (4, .int 0)] := hl
  refine lv_lload_n hx hb dX11_sums_0 rfl (lv_at hl 1 rfl) ?_
  refine lv_lstore (lv' := [(5, .long 7067162257424300601), (0, .ref m0), (1, .long 7067162257424300601), (3, .int 56), (4, .int 0)]) hx hb dX11_sums_1 hl (by decide) rfl (fun ls hl => ?_)
  refine lv_iconst (v := 0) hx hb dX11_sums_3 (by decide) ?_
  refine lv_istore (lv' := [(7, .int 0), (5, .long 7067162257424300601), (0, .ref m0), (1, .long 7067162257424300601), (3, .int 56), (4, .int 0)]) hx hb dX11_sums_4 hl (by decide) rfl (fun ls hl => ?_)
  refine lv_iload hx hb dX11_sums_6 (lv_at hl 0 rfl) ?_
  refine lv_iload hx hb dX11_sums_8 (lv_at hl 5 rfl) ?_
  refine lv_icmp_ge (tgt := 38) hx hb dX11_sums_10 (by decide) (fun _ => ?_) (fun c_1 => g_no (by decide) c_1)
  refine lv_lload hx hb dX11_sums_38 (lv_at hl 1 rfl) ?_
  exact g_lret (v := 7067162257424300601) hx hb hr hlocks hP hD hS (⟨rfl, rfl⟩) dX11_sums_40
set_option maxHeartbeats 8000000 in
set_option maxRecDepth 100000 in
theorem c_X11_sums_81 (l : Launch) (G : gG) (m0 : Nat) (m0A : Nat) (m0K : Nat) (m0I : Nat) (m0R : Nat) (m0H : Nat) (m0F : Nat) (m0W : Nat) (m0L : Nat) (m0B : Nat) (m0T : Nat) (m0O : Nat) (m0Y : Nat) (m0N : Nat) (m0V : Nat) (sz : Nat) : gL G l yX11_sums wsX11_sums ({ frames := 0, cells := 0, slots := 0, locals := 0 } : Room) [.ref m0, .long 7067162257424300601, .int 81, .int 0] [(m0, .inr (10, [.ref m0A, .ref m0K, .ref m0I, .ref m0R, .long 0, .long 1, .ref m0H, .ref m0F, .ref m0W, .ref m0L, .ref m0B, .ref m0T, .ref m0O, .ref m0Y, .int 0, .int 0, .int 0, .int 0, .int 0, .ref m0N, .ref m0V])), (m0A, .inl (G.2 0, 311, .inl (fun _ => 0)))] sz (fun (r : Int64) (u : va_W) => (r = 7067162257424300601 ∧ u = [(m0, .inr (10, [.ref m0A, .ref m0K, .ref m0I, .ref m0R, .long 0, .long 1, .ref m0H, .ref m0F, .ref m0W, .ref m0L, .ref m0B, .ref m0T, .ref m0O, .ref m0Y, .int 0, .int 0, .int 0, .int 0, .int 0, .ref m0N, .ref m0V])), (m0A, .inl (G.2 0, 311, .inl (fun _ => 0)))])) := by
  refine Met.ofW (cc := cX11_sums) (maxL := 8) (ret := (some .long)) (by decide) rfl ?_
  intro p e s m args below meth c s₁ B hml hv
  obtain ⟨rfl, hsz, hP, hK, hD0, hN⟩ := hv
  have hx := B.exec
  have hb := B.bytes
  have hr := B.returns
  have hts := atoms_spec (ws := wsX11_sums) B.pre
  have hown : s.vm.findClass RX11 = some m.cls := findClass_of_methodNamed B.named
  have hlocks := B.notSynchronized
  subst hsz
  have hD := hD0.self (sz := s.heap.size)
  generalize hAe : va_A [(m0, .inr (10, [.ref m0A, .ref m0K, .ref m0I, .ref m0R, .long 0, .long 1, .ref m0H, .ref m0F, .ref m0W, .ref m0L, .ref m0B, .ref m0T, .ref m0O, .ref m0Y, .int 0, .int 0, .int 0, .int 0, .int 0, .ref m0N, .ref m0V])), (m0A, .inl (G.2 0, 311, .inl (fun _ => 0)))] s.heap.size = A at hD ⊢
  have hA : ∀ q : Nat, s.heap.size ≤ q → A q := fun q h => by rw [← hAe]; exact Or.inr h
  have hS : va_S A s.heap s.heap [] := va_S.rf
  have hP : va_P G.1 vwCl [(m0, .inr (10, [.ref m0A, .ref m0K, .ref m0I, .ref m0R, .long 0, .long 1, .ref m0H, .ref m0F, .ref m0W, .ref m0L, .ref m0B, .ref m0T, .ref m0O, .ref m0Y, .int 0, .int 0, .int 0, .int 0, .int 0, .ref m0N, .ref m0V])), (m0A, .inl (G.2 0, 311, .inl (fun _ => 0)))] s.heap := hP
  have hl := lv_entry ([.ref m0, .long 7067162257424300601, .int 81, .int 0]) (n := 8) (Nat.le_of_ble_eq_true rfl)
  rw [lg_entry_eq]
  generalize (lg_sl ([.ref m0, .long 7067162257424300601, .int 81, .int 0]) ++ List.replicate (8 - (lg_sl ([.ref m0, .long 7067162257424300601, .int 81, .int 0])).length) Slot.unset).toArray = ls at hl ⊢
  have hl : lv_has ls 8 [(0, .ref m0), (1, .long 7067162257424300601), (3, .int 81), (4, .int 0)] := hl
  refine lv_lload_n hx hb dX11_sums_0 rfl (lv_at hl 1 rfl) ?_
  refine lv_lstore (lv' := [(5, .long 7067162257424300601), (0, .ref m0), (1, .long 7067162257424300601), (3, .int 81), (4, .int 0)]) hx hb dX11_sums_1 hl (by decide) rfl (fun ls hl => ?_)
  refine lv_iconst (v := 0) hx hb dX11_sums_3 (by decide) ?_
  refine lv_istore (lv' := [(7, .int 0), (5, .long 7067162257424300601), (0, .ref m0), (1, .long 7067162257424300601), (3, .int 81), (4, .int 0)]) hx hb dX11_sums_4 hl (by decide) rfl (fun ls hl => ?_)
  refine lv_iload hx hb dX11_sums_6 (lv_at hl 0 rfl) ?_
  refine lv_iload hx hb dX11_sums_8 (lv_at hl 5 rfl) ?_
  refine lv_icmp_ge (tgt := 38) hx hb dX11_sums_10 (by decide) (fun _ => ?_) (fun c_1 => g_no (by decide) c_1)
  refine lv_lload hx hb dX11_sums_38 (lv_at hl 1 rfl) ?_
  exact g_lret (v := 7067162257424300601) hx hb hr hlocks hP hD hS (⟨rfl, rfl⟩) dX11_sums_40
set_option maxHeartbeats 8000000 in
set_option maxRecDepth 100000 in
theorem c_X11_sums_111 (l : Launch) (G : gG) (m0 : Nat) (m0A : Nat) (m0K : Nat) (m0I : Nat) (m0R : Nat) (m0H : Nat) (m0F : Nat) (m0W : Nat) (m0L : Nat) (m0B : Nat) (m0T : Nat) (m0O : Nat) (m0Y : Nat) (m0N : Nat) (m0V : Nat) (sz : Nat) : gL G l yX11_sums wsX11_sums ({ frames := 0, cells := 0, slots := 0, locals := 0 } : Room) [.ref m0, .long 7067162257424300601, .int 111, .int 0] [(m0, .inr (10, [.ref m0A, .ref m0K, .ref m0I, .ref m0R, .long 0, .long 1, .ref m0H, .ref m0F, .ref m0W, .ref m0L, .ref m0B, .ref m0T, .ref m0O, .ref m0Y, .int 0, .int 0, .int 0, .int 0, .int 0, .ref m0N, .ref m0V])), (m0A, .inl (G.2 0, 311, .inl (fun _ => 0)))] sz (fun (r : Int64) (u : va_W) => (r = 7067162257424300601 ∧ u = [(m0, .inr (10, [.ref m0A, .ref m0K, .ref m0I, .ref m0R, .long 0, .long 1, .ref m0H, .ref m0F, .ref m0W, .ref m0L, .ref m0B, .ref m0T, .ref m0O, .ref m0Y, .int 0, .int 0, .int 0, .int 0, .int 0, .ref m0N, .ref m0V])), (m0A, .inl (G.2 0, 311, .inl (fun _ => 0)))])) := by
  refine Met.ofW (cc := cX11_sums) (maxL := 8) (ret := (some .long)) (by decide) rfl ?_
  intro p e s m args below meth c s₁ B hml hv
  obtain ⟨rfl, hsz, hP, hK, hD0, hN⟩ := hv
  have hx := B.exec
  have hb := B.bytes
  have hr := B.returns
  have hts := atoms_spec (ws := wsX11_sums) B.pre
  have hown : s.vm.findClass RX11 = some m.cls := findClass_of_methodNamed B.named
  have hlocks := B.notSynchronized
  subst hsz
  have hD := hD0.self (sz := s.heap.size)
  generalize hAe : va_A [(m0, .inr (10, [.ref m0A, .ref m0K, .ref m0I, .ref m0R, .long 0, .long 1, .ref m0H, .ref m0F, .ref m0W, .ref m0L, .ref m0B, .ref m0T, .ref m0O, .ref m0Y, .int 0, .int 0, .int 0, .int 0, .int 0, .ref m0N, .ref m0V])), (m0A, .inl (G.2 0, 311, .inl (fun _ => 0)))] s.heap.size = A at hD ⊢
  have hA : ∀ q : Nat, s.heap.size ≤ q → A q := fun q h => by rw [← hAe]; exact Or.inr h
  have hS : va_S A s.heap s.heap [] := va_S.rf
  have hP : va_P G.1 vwCl [(m0, .inr (10, [.ref m0A, .ref m0K, .ref m0I, .ref m0R, .long 0, .long 1, .ref m0H, .ref m0F, .ref m0W, .ref m0L, .ref m0B, .ref m0T, .ref m0O, .ref m0Y, .int 0, .int 0, .int 0, .int 0, .int 0, .ref m0N, .ref m0V])), (m0A, .inl (G.2 0, 311, .inl (fun _ => 0)))] s.heap := hP
  have hl := lv_entry ([.ref m0, .long 7067162257424300601, .int 111, .int 0]) (n := 8) (Nat.le_of_ble_eq_true rfl)
  rw [lg_entry_eq]
  generalize (lg_sl ([.ref m0, .long 7067162257424300601, .int 111, .int 0]) ++ List.replicate (8 - (lg_sl ([.ref m0, .long 7067162257424300601, .int 111, .int 0])).length) Slot.unset).toArray = ls at hl ⊢
  have hl : lv_has ls 8 [(0, .ref m0), (1, .long 7067162257424300601), (3, .int 111), (4, .int 0)] := hl
  refine lv_lload_n hx hb dX11_sums_0 rfl (lv_at hl 1 rfl) ?_
  refine lv_lstore (lv' := [(5, .long 7067162257424300601), (0, .ref m0), (1, .long 7067162257424300601), (3, .int 111), (4, .int 0)]) hx hb dX11_sums_1 hl (by decide) rfl (fun ls hl => ?_)
  refine lv_iconst (v := 0) hx hb dX11_sums_3 (by decide) ?_
  refine lv_istore (lv' := [(7, .int 0), (5, .long 7067162257424300601), (0, .ref m0), (1, .long 7067162257424300601), (3, .int 111), (4, .int 0)]) hx hb dX11_sums_4 hl (by decide) rfl (fun ls hl => ?_)
  refine lv_iload hx hb dX11_sums_6 (lv_at hl 0 rfl) ?_
  refine lv_iload hx hb dX11_sums_8 (lv_at hl 5 rfl) ?_
  refine lv_icmp_ge (tgt := 38) hx hb dX11_sums_10 (by decide) (fun _ => ?_) (fun c_1 => g_no (by decide) c_1)
  refine lv_lload hx hb dX11_sums_38 (lv_at hl 1 rfl) ?_
  exact g_lret (v := 7067162257424300601) hx hb hr hlocks hP hD hS (⟨rfl, rfl⟩) dX11_sums_40
theorem dX11_digest_0 : decode cX11_digest 0 = .ok (.ldc2_w 308, 3) := by decide +kernel
theorem dX11_digest_3 : decode cX11_digest 3 = .ok (.lstore_n 1, 1) := by decide +kernel
theorem dX11_digest_4 : decode cX11_digest 4 = .ok (.iconst 0, 1) := by decide +kernel
theorem dX11_digest_5 : decode cX11_digest 5 = .ok (.istore_n 3, 1) := by decide +kernel
theorem dX11_digest_6 : decode cX11_digest 6 = .ok (.iload_n 3, 1) := by decide +kernel
theorem dX11_digest_7 : decode cX11_digest 7 = .ok (.bipush 12, 2) := by decide +kernel
theorem dX11_digest_9 : decode cX11_digest 9 = .ok (.if_icmp .ge 22, 3) := by decide +kernel
theorem dX11_digest_12 : decode cX11_digest 12 = .ok (.ldc2_w 306, 3) := by decide +kernel
theorem dX11_digest_15 : decode cX11_digest 15 = .ok (.lload_n 1, 1) := by decide +kernel
theorem dX11_digest_16 : decode cX11_digest 16 = .ok (.lmul, 1) := by decide +kernel
theorem dX11_digest_17 : decode cX11_digest 17 = .ok (.aload_n 0, 1) := by decide +kernel
theorem dX11_digest_18 : decode cX11_digest 18 = .ok (.iload_n 3, 1) := by decide +kernel
set_option maxRecDepth 20000 in
theorem ggX11_digest_X11_counted : GoodIn wsX11_digest wsX11_counted := goodIn_r _ [10, 3, 11, 12, 13, 14, 9, 15, 16, 17, 18, 36, 37, 38, 39, 40, 41, 42, 43, 44, 45, 46, 47, 48, 49, 50, 51, 52, 53, 54, 55, 56] (by decide +kernel) (by decide +kernel)
set_option maxRecDepth 20000 in
theorem gX11_digest_X11_counted : GoodIn wsX11_digest (wsV RX11 303 RX11 yX11_counted wsX11_counted) := goodIn_app (goodIn_of _ (by decide +kernel)) ggX11_digest_X11_counted
theorem dX11_digest_19 : decode cX11_digest 19 = .ok (.invokevirtual 303, 3) := by decide +kernel
theorem dX11_digest_22 : decode cX11_digest 22 = .ok (.i2l, 1) := by decide +kernel
theorem dX11_digest_23 : decode cX11_digest 23 = .ok (.ladd, 1) := by decide +kernel
theorem dX11_digest_24 : decode cX11_digest 24 = .ok (.lstore_n 1, 1) := by decide +kernel
theorem dX11_digest_25 : decode cX11_digest 25 = .ok (.iinc 3 1, 3) := by decide +kernel
theorem dX11_digest_28 : decode cX11_digest 28 = .ok (.goto (-22), 3) := by decide +kernel
theorem dX11_digest_31 : decode cX11_digest 31 = .ok (.aload_n 0, 1) := by decide +kernel
theorem dX11_digest_32 : decode cX11_digest 32 = .ok (.lload_n 1, 1) := by decide +kernel
theorem dX11_digest_33 : decode cX11_digest 33 = .ok (.bipush 28, 2) := by decide +kernel
theorem dX11_digest_35 : decode cX11_digest 35 = .ok (.bipush 6, 2) := by decide +kernel
set_option maxRecDepth 20000 in
theorem ggX11_digest_X11_sums : GoodIn wsX11_digest wsX11_sums := goodIn_r _ [22, 2, 3, 36, 37, 38, 39, 40, 41, 42, 43, 44, 45, 46, 47, 48, 49, 50, 51, 52, 53, 54, 55, 56] (by decide +kernel) (by decide +kernel)
set_option maxRecDepth 20000 in
theorem gX11_digest_X11_sums : GoodIn wsX11_digest (wsV RX11 310 RX11 yX11_sums wsX11_sums) := goodIn_app (goodIn_of _ (by decide +kernel)) ggX11_digest_X11_sums
theorem dX11_digest_37 : decode cX11_digest 37 = .ok (.invokevirtual 310, 3) := by decide +kernel
theorem dX11_digest_40 : decode cX11_digest 40 = .ok (.lstore_n 1, 1) := by decide +kernel
theorem dX11_digest_41 : decode cX11_digest 41 = .ok (.iconst 0, 1) := by decide +kernel
theorem dX11_digest_42 : decode cX11_digest 42 = .ok (.istore_n 3, 1) := by decide +kernel
theorem dX11_digest_43 : decode cX11_digest 43 = .ok (.iload_n 3, 1) := by decide +kernel
theorem dX11_digest_44 : decode cX11_digest 44 = .ok (.aload_n 0, 1) := by decide +kernel
set_option maxRecDepth 20000 in
theorem ggX11_digest_X11_many : GoodIn wsX11_digest wsX11_many := goodIn_r _ [15, 3, 36, 37, 38, 39, 40, 41, 42, 43, 44, 45, 46, 47, 48, 49, 50, 51, 52, 53, 54, 55, 56] (by decide +kernel) (by decide +kernel)
set_option maxRecDepth 20000 in
theorem gX11_digest_X11_many : GoodIn wsX11_digest (wsV RX11 61 RX11 yX11_many wsX11_many) := goodIn_app (goodIn_of _ (by decide +kernel)) ggX11_digest_X11_many
theorem dX11_digest_45 : decode cX11_digest 45 = .ok (.invokevirtual 61, 3) := by decide +kernel
theorem dX11_digest_48 : decode cX11_digest 48 = .ok (.if_icmp .ge 39, 3) := by decide +kernel
theorem dX11_digest_87 : decode cX11_digest 87 = .ok (.iconst 0, 1) := by decide +kernel
theorem dX11_digest_88 : decode cX11_digest 88 = .ok (.istore_n 3, 1) := by decide +kernel
theorem dX11_digest_89 : decode cX11_digest 89 = .ok (.iload_n 3, 1) := by decide +kernel
theorem dX11_digest_90 : decode cX11_digest 90 = .ok (.aload_n 0, 1) := by decide +kernel
theorem dX11_digest_91 : decode cX11_digest 91 = .ok (.getfield 7, 3) := by decide +kernel
theorem dX11_digest_94 : decode cX11_digest 94 = .ok (.iconst 1, 1) := by decide +kernel
theorem dX11_digest_95 : decode cX11_digest 95 = .ok (.iaload, 1) := by decide +kernel
theorem dX11_digest_96 : decode cX11_digest 96 = .ok (.if_icmp .ge 41, 3) := by decide +kernel
theorem dX11_digest_137 : decode cX11_digest 137 = .ok (.aload_n 0, 1) := by decide +kernel
theorem dX11_digest_138 : decode cX11_digest 138 = .ok (.lload_n 1, 1) := by decide +kernel
theorem dX11_digest_139 : decode cX11_digest 139 = .ok (.bipush 56, 2) := by decide +kernel
theorem dX11_digest_141 : decode cX11_digest 141 = .ok (.iconst 5, 1) := by decide +kernel
theorem dX11_digest_142 : decode cX11_digest 142 = .ok (.aload_n 0, 1) := by decide +kernel
theorem dX11_digest_143 : decode cX11_digest 143 = .ok (.getfield 7, 3) := by decide +kernel
theorem dX11_digest_146 : decode cX11_digest 146 = .ok (.iconst 2, 1) := by decide +kernel
theorem dX11_digest_147 : decode cX11_digest 147 = .ok (.iaload, 1) := by decide +kernel
theorem dX11_digest_148 : decode cX11_digest 148 = .ok (.imul, 1) := by decide +kernel
theorem dX11_digest_149 : decode cX11_digest 149 = .ok (.invokevirtual 310, 3) := by decide +kernel
theorem dX11_digest_152 : decode cX11_digest 152 = .ok (.lstore_n 1, 1) := by decide +kernel
theorem dX11_digest_153 : decode cX11_digest 153 = .ok (.aload_n 0, 1) := by decide +kernel
theorem dX11_digest_154 : decode cX11_digest 154 = .ok (.lload_n 1, 1) := by decide +kernel
theorem dX11_digest_155 : decode cX11_digest 155 = .ok (.bipush 81, 2) := by decide +kernel
theorem dX11_digest_157 : decode cX11_digest 157 = .ok (.iconst 5, 1) := by decide +kernel
theorem dX11_digest_158 : decode cX11_digest 158 = .ok (.aload_n 0, 1) := by decide +kernel
theorem dX11_digest_159 : decode cX11_digest 159 = .ok (.getfield 7, 3) := by decide +kernel
theorem dX11_digest_162 : decode cX11_digest 162 = .ok (.iconst 3, 1) := by decide +kernel
theorem dX11_digest_163 : decode cX11_digest 163 = .ok (.iaload, 1) := by decide +kernel
theorem dX11_digest_164 : decode cX11_digest 164 = .ok (.imul, 1) := by decide +kernel
theorem dX11_digest_165 : decode cX11_digest 165 = .ok (.invokevirtual 310, 3) := by decide +kernel
theorem dX11_digest_168 : decode cX11_digest 168 = .ok (.lstore_n 1, 1) := by decide +kernel
theorem dX11_digest_169 : decode cX11_digest 169 = .ok (.aload_n 0, 1) := by decide +kernel
theorem dX11_digest_170 : decode cX11_digest 170 = .ok (.lload_n 1, 1) := by decide +kernel
theorem dX11_digest_171 : decode cX11_digest 171 = .ok (.bipush 111, 2) := by decide +kernel
theorem dX11_digest_173 : decode cX11_digest 173 = .ok (.iconst 4, 1) := by decide +kernel
theorem dX11_digest_174 : decode cX11_digest 174 = .ok (.aload_n 0, 1) := by decide +kernel
theorem dX11_digest_175 : decode cX11_digest 175 = .ok (.getfield 7, 3) := by decide +kernel
theorem dX11_digest_178 : decode cX11_digest 178 = .ok (.iconst 4, 1) := by decide +kernel
theorem dX11_digest_179 : decode cX11_digest 179 = .ok (.iaload, 1) := by decide +kernel
theorem dX11_digest_180 : decode cX11_digest 180 = .ok (.imul, 1) := by decide +kernel
theorem dX11_digest_181 : decode cX11_digest 181 = .ok (.invokevirtual 310, 3) := by decide +kernel
theorem dX11_digest_184 : decode cX11_digest 184 = .ok (.lstore_n 1, 1) := by decide +kernel
theorem dX11_digest_185 : decode cX11_digest 185 = .ok (.ldc2_w 306, 3) := by decide +kernel
theorem dX11_digest_188 : decode cX11_digest 188 = .ok (.ldc2_w 306, 3) := by decide +kernel
theorem dX11_digest_191 : decode cX11_digest 191 = .ok (.lload_n 1, 1) := by decide +kernel
theorem dX11_digest_192 : decode cX11_digest 192 = .ok (.lmul, 1) := by decide +kernel
theorem dX11_digest_193 : decode cX11_digest 193 = .ok (.aload_n 0, 1) := by decide +kernel
theorem dX11_digest_194 : decode cX11_digest 194 = .ok (.getfield 207, 3) := by decide +kernel
theorem dX11_digest_197 : decode cX11_digest 197 = .ok (.ladd, 1) := by decide +kernel
theorem dX11_digest_198 : decode cX11_digest 198 = .ok (.lmul, 1) := by decide +kernel
theorem dX11_digest_199 : decode cX11_digest 199 = .ok (.aload_n 0, 1) := by decide +kernel
theorem dX11_digest_200 : decode cX11_digest 200 = .ok (.getfield 23, 3) := by decide +kernel
theorem dX11_digest_203 : decode cX11_digest 203 = .ok (.ladd, 1) := by decide +kernel
theorem dX11_digest_204 : decode cX11_digest 204 = .ok (.lreturn, 1) := by decide +kernel
set_option maxHeartbeats 8000000 in
set_option maxRecDepth 100000 in
theorem c_X11_digest (l : Launch) (G : gG) (m0 : Nat) (m0A : Nat) (m0K : Nat) (m0I : Nat) (m0R : Nat) (m0H : Nat) (m0F : Nat) (m0W : Nat) (m0L : Nat) (m0B : Nat) (m0T : Nat) (m0O : Nat) (m0Y : Nat) (m0N : Nat) (m0V : Nat) (sz : Nat) : gL G l yX11_digest wsX11_digest ({ frames := 2, cells := 0, slots := 0, locals := 46 } : Room) [.ref m0] [(m0, .inr (10, [.ref m0A, .ref m0K, .ref m0I, .ref m0R, .long 0, .long 1, .ref m0H, .ref m0F, .ref m0W, .ref m0L, .ref m0B, .ref m0T, .ref m0O, .ref m0Y, .int 0, .int 0, .int 0, .int 0, .int 0, .ref m0N, .ref m0V])), (m0A, .inl (G.2 0, 311, .inl (fun _ => 0)))] sz (fun (r : Int64) (u : va_W) => (r = 3141110259637882874 ∧ u = [])) := by
  refine Met.ofW (cc := cX11_digest) (maxL := 5) (ret := (some .long)) (by decide) rfl ?_
  intro p e s m args below meth c s₁ B hml hv
  obtain ⟨rfl, hsz, hP, hK, hD0, hN⟩ := hv
  have hx := B.exec
  have hb := B.bytes
  have hr := B.returns
  have hts := atoms_spec (ws := wsX11_digest) B.pre
  have hown : s.vm.findClass RX11 = some m.cls := findClass_of_methodNamed B.named
  have hlocks := B.notSynchronized
  subst hsz
  have hD := hD0.self (sz := s.heap.size)
  generalize hAe : va_A [(m0, .inr (10, [.ref m0A, .ref m0K, .ref m0I, .ref m0R, .long 0, .long 1, .ref m0H, .ref m0F, .ref m0W, .ref m0L, .ref m0B, .ref m0T, .ref m0O, .ref m0Y, .int 0, .int 0, .int 0, .int 0, .int 0, .ref m0N, .ref m0V])), (m0A, .inl (G.2 0, 311, .inl (fun _ => 0)))] s.heap.size = A at hD ⊢
  have hA : ∀ q : Nat, s.heap.size ≤ q → A q := fun q h => by rw [← hAe]; exact Or.inr h
  have hS : va_S A s.heap s.heap [] := va_S.rf
  have hP : va_P G.1 vwCl [(m0, .inr (10, [.ref m0A, .ref m0K, .ref m0I, .ref m0R, .long 0, .long 1, .ref m0H, .ref m0F, .ref m0W, .ref m0L, .ref m0B, .ref m0T, .ref m0O, .ref m0Y, .int 0, .int 0, .int 0, .int 0, .int 0, .ref m0N, .ref m0V])), (m0A, .inl (G.2 0, 311, .inl (fun _ => 0)))] s.heap := hP
  have hl := lv_entry ([.ref m0]) (n := 5) (Nat.le_of_ble_eq_true rfl)
  rw [lg_entry_eq]
  generalize (lg_sl ([.ref m0]) ++ List.replicate (5 - (lg_sl ([.ref m0])).length) Slot.unset).toArray = ls at hl ⊢
  have hl : lv_has ls 5 [(0, .ref m0)] := hl
  refine lv_ldc2 (v := 1657) hx hb hown (hts _ (List.mem_of_getElem? (i := 1) rfl)) dX11_digest_0 ?_
  refine lv_lstore_n (lv' := [(1, .long 1657), (0, .ref m0)]) hx hb dX11_digest_3 rfl hl (by decide) rfl (fun ls hl => ?_)
  refine lv_iconst (v := 0) hx hb dX11_digest_4 (by decide) ?_
  refine lv_istore_n (lv' := [(3, .int 0), (1, .long 1657), (0, .ref m0)]) hx hb dX11_digest_5 rfl hl (by decide) rfl (fun ls hl => ?_)
  refine lv_iload_n hx hb dX11_digest_6 rfl (lv_at hl 0 rfl) ?_
  refine lv_bipush (v := 12) hx hb dX11_digest_7 (by decide) ?_
  refine lv_icmp_ge (tgt := 31) hx hb dX11_digest_9 (by decide) (fun c_1 => g_no c_1 (by decide)) (fun _ => ?_)
  refine lv_ldc2 (v := 31) hx hb hown (hts _ (List.mem_of_getElem? (i := 2) rfl)) dX11_digest_12 ?_
  refine lv_lload_n hx hb dX11_digest_15 rfl (lv_at hl 1 rfl) ?_
  refine lv_lmul hx hb dX11_digest_16 ?_
  refine g_topl (y := 51367) (by decide) ?_
  refine lv_aload_n hx hb dX11_digest_17 rfl (lv_at hl 2 rfl) ?_
  refine lv_iload_n hx hb dX11_digest_18 rfl (lv_at hl 0 rfl) ?_
  refine g_calli (wr := []) (va_runV (As := [.int 0]) (rest := [.long 51367]) ⟨hx, hb, hml, hown, hts⟩ (c_X11_counted_0 l G (m0) (m0A) (m0K) (m0I) (m0R) (m0H) (m0F) (m0W) (m0L) (m0B) (m0T) (m0O) (m0Y) (m0N) (m0V) _) (cwV 1 hts gX11_digest_X11_counted rfl rfl rfl (by decide +kernel) ⟨Nat.le_of_ble_eq_true rfl, Nat.le_of_ble_eq_true rfl⟩) (g_preV m0 [.int 0] hP hD hK hN [0, 1] rfl rfl 0 (ci := 10) rfl rfl) rfl rfl hl.1 rfl (lv_room (Nat.le_of_ble_eq_true rfl)) dX11_digest_19 ⟨Nat.le_of_ble_eq_true rfl, Nat.le_of_ble_eq_true rfl⟩) hP hD hS hA [0, 1] [] rfl rfl rfl (by decide) (fun r_2 u H locs hw hP hD hS => ?_)
  obtain ⟨rfl, rfl⟩ := hw
  have hP : va_P G.1 vwCl [(m0, .inr (10, [.ref m0A, .ref m0K, .ref m0I, .ref m0R, .long 0, .long 1, .ref m0H, .ref m0F, .ref m0W, .ref m0L, .ref m0B, .ref m0T, .ref m0O, .ref m0Y, .int 0, .int 0, .int 0, .int 0, .int 0, .ref m0N, .ref m0V])), (m0A, .inl (G.2 0, 311, .inl (fun _ => 0)))] H := hP
  have hD : va_D A [(m0, .inr (10, [.ref m0A, .ref m0K, .ref m0I, .ref m0R, .long 0, .long 1, .ref m0H, .ref m0F, .ref m0W, .ref m0L, .ref m0B, .ref m0T, .ref m0O, .ref m0Y, .int 0, .int 0, .int 0, .int 0, .int 0, .ref m0N, .ref m0V])), (m0A, .inl (G.2 0, 311, .inl (fun _ => 0)))] := hD
  refine lv_i2l (v := 0) hx hb dX11_digest_22 (by decide) ?_
  refine lv_ladd hx hb dX11_digest_23 ?_
  refine g_topl (y := 51367) (by decide) ?_
  refine lv_lstore_n (lv' := [(1, .long 51367), (3, .int 0), (0, .ref m0)]) hx hb dX11_digest_24 rfl hl (by decide) rfl (fun ls hl => ?_)
  refine lv_iinc (v := 1) (lv' := [(3, .int 1), (1, .long 51367), (0, .ref m0)]) hx hb dX11_digest_25 hl (k := 1) rfl (by decide) (by decide) rfl (fun ls hl => ?_)
  refine lv_goto (tgt := 6) hx hb dX11_digest_28 (by decide) ?_
  refine lv_iload_n hx hb dX11_digest_6 rfl (lv_at hl 0 rfl) ?_
  refine lv_bipush (v := 12) hx hb dX11_digest_7 (by decide) ?_
  refine lv_icmp_ge (tgt := 31) hx hb dX11_digest_9 (by decide) (fun c_3 => g_no c_3 (by decide)) (fun _ => ?_)
  refine lv_ldc2 (v := 31) hx hb hown (hts _ (List.mem_of_getElem? (i := 2) rfl)) dX11_digest_12 ?_
  refine lv_lload_n hx hb dX11_digest_15 rfl (lv_at hl 1 rfl) ?_
  refine lv_lmul hx hb dX11_digest_16 ?_
  refine g_topl (y := 1592377) (by decide) ?_
  refine lv_aload_n hx hb dX11_digest_17 rfl (lv_at hl 2 rfl) ?_
  refine lv_iload_n hx hb dX11_digest_18 rfl (lv_at hl 0 rfl) ?_
  refine g_calli (wr := []) (va_runV (As := [.int 1]) (rest := [.long 1592377]) ⟨hx, hb, hml, hown, hts⟩ (c_X11_counted_1 l G (m0) (m0A) (m0K) (m0I) (m0R) (m0H) (m0F) (m0W) (m0L) (m0B) (m0T) (m0O) (m0Y) (m0N) (m0V) _) (cwV 1 hts gX11_digest_X11_counted rfl rfl rfl (by decide +kernel) ⟨Nat.le_of_ble_eq_true rfl, Nat.le_of_ble_eq_true rfl⟩) (g_preV m0 [.int 1] hP hD hK hN [0, 1] rfl rfl 0 (ci := 10) rfl rfl) rfl rfl hl.1 rfl (lv_room (Nat.le_of_ble_eq_true rfl)) dX11_digest_19 ⟨Nat.le_of_ble_eq_true rfl, Nat.le_of_ble_eq_true rfl⟩) hP hD hS hA [0, 1] [] rfl rfl rfl (by decide) (fun r_4 u H locs hw hP hD hS => ?_)
  obtain ⟨rfl, rfl⟩ := hw
  have hP : va_P G.1 vwCl [(m0, .inr (10, [.ref m0A, .ref m0K, .ref m0I, .ref m0R, .long 0, .long 1, .ref m0H, .ref m0F, .ref m0W, .ref m0L, .ref m0B, .ref m0T, .ref m0O, .ref m0Y, .int 0, .int 0, .int 0, .int 0, .int 0, .ref m0N, .ref m0V])), (m0A, .inl (G.2 0, 311, .inl (fun _ => 0)))] H := hP
  have hD : va_D A [(m0, .inr (10, [.ref m0A, .ref m0K, .ref m0I, .ref m0R, .long 0, .long 1, .ref m0H, .ref m0F, .ref m0W, .ref m0L, .ref m0B, .ref m0T, .ref m0O, .ref m0Y, .int 0, .int 0, .int 0, .int 0, .int 0, .ref m0N, .ref m0V])), (m0A, .inl (G.2 0, 311, .inl (fun _ => 0)))] := hD
  refine lv_i2l (v := 0) hx hb dX11_digest_22 (by decide) ?_
  refine lv_ladd hx hb dX11_digest_23 ?_
  refine g_topl (y := 1592377) (by decide) ?_
  refine lv_lstore_n (lv' := [(1, .long 1592377), (3, .int 1), (0, .ref m0)]) hx hb dX11_digest_24 rfl hl (by decide) rfl (fun ls hl => ?_)
  refine lv_iinc (v := 2) (lv' := [(3, .int 2), (1, .long 1592377), (0, .ref m0)]) hx hb dX11_digest_25 hl (k := 1) rfl (by decide) (by decide) rfl (fun ls hl => ?_)
  refine lv_goto (tgt := 6) hx hb dX11_digest_28 (by decide) ?_
  refine lv_iload_n hx hb dX11_digest_6 rfl (lv_at hl 0 rfl) ?_
  refine lv_bipush (v := 12) hx hb dX11_digest_7 (by decide) ?_
  refine lv_icmp_ge (tgt := 31) hx hb dX11_digest_9 (by decide) (fun c_5 => g_no c_5 (by decide)) (fun _ => ?_)
  refine lv_ldc2 (v := 31) hx hb hown (hts _ (List.mem_of_getElem? (i := 2) rfl)) dX11_digest_12 ?_
  refine lv_lload_n hx hb dX11_digest_15 rfl (lv_at hl 1 rfl) ?_
  refine lv_lmul hx hb dX11_digest_16 ?_
  refine g_topl (y := 49363687) (by decide) ?_
  refine lv_aload_n hx hb dX11_digest_17 rfl (lv_at hl 2 rfl) ?_
  refine lv_iload_n hx hb dX11_digest_18 rfl (lv_at hl 0 rfl) ?_
  refine g_calli (wr := []) (va_runV (As := [.int 2]) (rest := [.long 49363687]) ⟨hx, hb, hml, hown, hts⟩ (c_X11_counted_2 l G (m0) (m0A) (m0K) (m0I) (m0R) (m0H) (m0F) (m0W) (m0L) (m0B) (m0T) (m0O) (m0Y) (m0N) (m0V) _) (cwV 1 hts gX11_digest_X11_counted rfl rfl rfl (by decide +kernel) ⟨Nat.le_of_ble_eq_true rfl, Nat.le_of_ble_eq_true rfl⟩) (g_preV m0 [.int 2] hP hD hK hN [0, 1] rfl rfl 0 (ci := 10) rfl rfl) rfl rfl hl.1 rfl (lv_room (Nat.le_of_ble_eq_true rfl)) dX11_digest_19 ⟨Nat.le_of_ble_eq_true rfl, Nat.le_of_ble_eq_true rfl⟩) hP hD hS hA [0, 1] [] rfl rfl rfl (by decide) (fun r_6 u H locs hw hP hD hS => ?_)
  obtain ⟨rfl, rfl⟩ := hw
  have hP : va_P G.1 vwCl [(m0, .inr (10, [.ref m0A, .ref m0K, .ref m0I, .ref m0R, .long 0, .long 1, .ref m0H, .ref m0F, .ref m0W, .ref m0L, .ref m0B, .ref m0T, .ref m0O, .ref m0Y, .int 0, .int 0, .int 0, .int 0, .int 0, .ref m0N, .ref m0V])), (m0A, .inl (G.2 0, 311, .inl (fun _ => 0)))] H := hP
  have hD : va_D A [(m0, .inr (10, [.ref m0A, .ref m0K, .ref m0I, .ref m0R, .long 0, .long 1, .ref m0H, .ref m0F, .ref m0W, .ref m0L, .ref m0B, .ref m0T, .ref m0O, .ref m0Y, .int 0, .int 0, .int 0, .int 0, .int 0, .ref m0N, .ref m0V])), (m0A, .inl (G.2 0, 311, .inl (fun _ => 0)))] := hD
  refine lv_i2l (v := 0) hx hb dX11_digest_22 (by decide) ?_
  refine lv_ladd hx hb dX11_digest_23 ?_
  refine g_topl (y := 49363687) (by decide) ?_
  refine lv_lstore_n (lv' := [(1, .long 49363687), (3, .int 2), (0, .ref m0)]) hx hb dX11_digest_24 rfl hl (by decide) rfl (fun ls hl => ?_)
  refine lv_iinc (v := 3) (lv' := [(3, .int 3), (1, .long 49363687), (0, .ref m0)]) hx hb dX11_digest_25 hl (k := 1) rfl (by decide) (by decide) rfl (fun ls hl => ?_)
  refine lv_goto (tgt := 6) hx hb dX11_digest_28 (by decide) ?_
  refine lv_iload_n hx hb dX11_digest_6 rfl (lv_at hl 0 rfl) ?_
  refine lv_bipush (v := 12) hx hb dX11_digest_7 (by decide) ?_
  refine lv_icmp_ge (tgt := 31) hx hb dX11_digest_9 (by decide) (fun c_7 => g_no c_7 (by decide)) (fun _ => ?_)
  refine lv_ldc2 (v := 31) hx hb hown (hts _ (List.mem_of_getElem? (i := 2) rfl)) dX11_digest_12 ?_
  refine lv_lload_n hx hb dX11_digest_15 rfl (lv_at hl 1 rfl) ?_
  refine lv_lmul hx hb dX11_digest_16 ?_
  refine g_topl (y := 1530274297) (by decide) ?_
  refine lv_aload_n hx hb dX11_digest_17 rfl (lv_at hl 2 rfl) ?_
  refine lv_iload_n hx hb dX11_digest_18 rfl (lv_at hl 0 rfl) ?_
  refine g_calli (wr := []) (va_runV (As := [.int 3]) (rest := [.long 1530274297]) ⟨hx, hb, hml, hown, hts⟩ (c_X11_counted_3 l G (m0) (m0A) (m0K) (m0I) (m0R) (m0H) (m0F) (m0W) (m0L) (m0B) (m0T) (m0O) (m0Y) (m0N) (m0V) _) (cwV 1 hts gX11_digest_X11_counted rfl rfl rfl (by decide +kernel) ⟨Nat.le_of_ble_eq_true rfl, Nat.le_of_ble_eq_true rfl⟩) (g_preV m0 [.int 3] hP hD hK hN [0, 1] rfl rfl 0 (ci := 10) rfl rfl) rfl rfl hl.1 rfl (lv_room (Nat.le_of_ble_eq_true rfl)) dX11_digest_19 ⟨Nat.le_of_ble_eq_true rfl, Nat.le_of_ble_eq_true rfl⟩) hP hD hS hA [0, 1] [] rfl rfl rfl (by decide) (fun r_8 u H locs hw hP hD hS => ?_)
  obtain ⟨rfl, rfl⟩ := hw
  have hP : va_P G.1 vwCl [(m0, .inr (10, [.ref m0A, .ref m0K, .ref m0I, .ref m0R, .long 0, .long 1, .ref m0H, .ref m0F, .ref m0W, .ref m0L, .ref m0B, .ref m0T, .ref m0O, .ref m0Y, .int 0, .int 0, .int 0, .int 0, .int 0, .ref m0N, .ref m0V])), (m0A, .inl (G.2 0, 311, .inl (fun _ => 0)))] H := hP
  have hD : va_D A [(m0, .inr (10, [.ref m0A, .ref m0K, .ref m0I, .ref m0R, .long 0, .long 1, .ref m0H, .ref m0F, .ref m0W, .ref m0L, .ref m0B, .ref m0T, .ref m0O, .ref m0Y, .int 0, .int 0, .int 0, .int 0, .int 0, .ref m0N, .ref m0V])), (m0A, .inl (G.2 0, 311, .inl (fun _ => 0)))] := hD
  refine lv_i2l (v := 0) hx hb dX11_digest_22 (by decide) ?_
  refine lv_ladd hx hb dX11_digest_23 ?_
  refine g_topl (y := 1530274297) (by decide) ?_
  refine lv_lstore_n (lv' := [(1, .long 1530274297), (3, .int 3), (0, .ref m0)]) hx hb dX11_digest_24 rfl hl (by decide) rfl (fun ls hl => ?_)
  refine lv_iinc (v := 4) (lv' := [(3, .int 4), (1, .long 1530274297), (0, .ref m0)]) hx hb dX11_digest_25 hl (k := 1) rfl (by decide) (by decide) rfl (fun ls hl => ?_)
  refine lv_goto (tgt := 6) hx hb dX11_digest_28 (by decide) ?_
  refine lv_iload_n hx hb dX11_digest_6 rfl (lv_at hl 0 rfl) ?_
  refine lv_bipush (v := 12) hx hb dX11_digest_7 (by decide) ?_
  refine lv_icmp_ge (tgt := 31) hx hb dX11_digest_9 (by decide) (fun c_9 => g_no c_9 (by decide)) (fun _ => ?_)
  refine lv_ldc2 (v := 31) hx hb hown (hts _ (List.mem_of_getElem? (i := 2) rfl)) dX11_digest_12 ?_
  refine lv_lload_n hx hb dX11_digest_15 rfl (lv_at hl 1 rfl) ?_
  refine lv_lmul hx hb dX11_digest_16 ?_
  refine g_topl (y := 47438503207) (by decide) ?_
  refine lv_aload_n hx hb dX11_digest_17 rfl (lv_at hl 2 rfl) ?_
  refine lv_iload_n hx hb dX11_digest_18 rfl (lv_at hl 0 rfl) ?_
  refine g_calli (wr := []) (va_runV (As := [.int 4]) (rest := [.long 47438503207]) ⟨hx, hb, hml, hown, hts⟩ (c_X11_counted_4 l G (m0) (m0A) (m0K) (m0I) (m0R) (m0H) (m0F) (m0W) (m0L) (m0B) (m0T) (m0O) (m0Y) (m0N) (m0V) _) (cwV 1 hts gX11_digest_X11_counted rfl rfl rfl (by decide +kernel) ⟨Nat.le_of_ble_eq_true rfl, Nat.le_of_ble_eq_true rfl⟩) (g_preV m0 [.int 4] hP hD hK hN [0, 1] rfl rfl 0 (ci := 10) rfl rfl) rfl rfl hl.1 rfl (lv_room (Nat.le_of_ble_eq_true rfl)) dX11_digest_19 ⟨Nat.le_of_ble_eq_true rfl, Nat.le_of_ble_eq_true rfl⟩) hP hD hS hA [0, 1] [] rfl rfl rfl (by decide) (fun r_10 u H locs hw hP hD hS => ?_)
  obtain ⟨rfl, rfl⟩ := hw
  have hP : va_P G.1 vwCl [(m0, .inr (10, [.ref m0A, .ref m0K, .ref m0I, .ref m0R, .long 0, .long 1, .ref m0H, .ref m0F, .ref m0W, .ref m0L, .ref m0B, .ref m0T, .ref m0O, .ref m0Y, .int 0, .int 0, .int 0, .int 0, .int 0, .ref m0N, .ref m0V])), (m0A, .inl (G.2 0, 311, .inl (fun _ => 0)))] H := hP
  have hD : va_D A [(m0, .inr (10, [.ref m0A, .ref m0K, .ref m0I, .ref m0R, .long 0, .long 1, .ref m0H, .ref m0F, .ref m0W, .ref m0L, .ref m0B, .ref m0T, .ref m0O, .ref m0Y, .int 0, .int 0, .int 0, .int 0, .int 0, .ref m0N, .ref m0V])), (m0A, .inl (G.2 0, 311, .inl (fun _ => 0)))] := hD
  refine lv_i2l (v := 0) hx hb dX11_digest_22 (by decide) ?_
  refine lv_ladd hx hb dX11_digest_23 ?_
  refine g_topl (y := 47438503207) (by decide) ?_
  refine lv_lstore_n (lv' := [(1, .long 47438503207), (3, .int 4), (0, .ref m0)]) hx hb dX11_digest_24 rfl hl (by decide) rfl (fun ls hl => ?_)
  refine lv_iinc (v := 5) (lv' := [(3, .int 5), (1, .long 47438503207), (0, .ref m0)]) hx hb dX11_digest_25 hl (k := 1) rfl (by decide) (by decide) rfl (fun ls hl => ?_)
  refine lv_goto (tgt := 6) hx hb dX11_digest_28 (by decide) ?_
  refine lv_iload_n hx hb dX11_digest_6 rfl (lv_at hl 0 rfl) ?_
  refine lv_bipush (v := 12) hx hb dX11_digest_7 (by decide) ?_
  refine lv_icmp_ge (tgt := 31) hx hb dX11_digest_9 (by decide) (fun c_11 => g_no c_11 (by decide)) (fun _ => ?_)
  refine lv_ldc2 (v := 31) hx hb hown (hts _ (List.mem_of_getElem? (i := 2) rfl)) dX11_digest_12 ?_
  refine lv_lload_n hx hb dX11_digest_15 rfl (lv_at hl 1 rfl) ?_
  refine lv_lmul hx hb dX11_digest_16 ?_
  refine g_topl (y := 1470593599417) (by decide) ?_
  refine lv_aload_n hx hb dX11_digest_17 rfl (lv_at hl 2 rfl) ?_
  refine lv_iload_n hx hb dX11_digest_18 rfl (lv_at hl 0 rfl) ?_
  refine g_calli (wr := []) (va_runV (As := [.int 5]) (rest := [.long 1470593599417]) ⟨hx, hb, hml, hown, hts⟩ (c_X11_counted_5 l G (m0) (m0A) (m0K) (m0I) (m0R) (m0H) (m0F) (m0W) (m0L) (m0B) (m0T) (m0O) (m0Y) (m0N) (m0V) _) (cwV 1 hts gX11_digest_X11_counted rfl rfl rfl (by decide +kernel) ⟨Nat.le_of_ble_eq_true rfl, Nat.le_of_ble_eq_true rfl⟩) (g_preV m0 [.int 5] hP hD hK hN [0, 1] rfl rfl 0 (ci := 10) rfl rfl) rfl rfl hl.1 rfl (lv_room (Nat.le_of_ble_eq_true rfl)) dX11_digest_19 ⟨Nat.le_of_ble_eq_true rfl, Nat.le_of_ble_eq_true rfl⟩) hP hD hS hA [0, 1] [] rfl rfl rfl (by decide) (fun r_12 u H locs hw hP hD hS => ?_)
  obtain ⟨rfl, rfl⟩ := hw
  have hP : va_P G.1 vwCl [(m0, .inr (10, [.ref m0A, .ref m0K, .ref m0I, .ref m0R, .long 0, .long 1, .ref m0H, .ref m0F, .ref m0W, .ref m0L, .ref m0B, .ref m0T, .ref m0O, .ref m0Y, .int 0, .int 0, .int 0, .int 0, .int 0, .ref m0N, .ref m0V])), (m0A, .inl (G.2 0, 311, .inl (fun _ => 0)))] H := hP
  have hD : va_D A [(m0, .inr (10, [.ref m0A, .ref m0K, .ref m0I, .ref m0R, .long 0, .long 1, .ref m0H, .ref m0F, .ref m0W, .ref m0L, .ref m0B, .ref m0T, .ref m0O, .ref m0Y, .int 0, .int 0, .int 0, .int 0, .int 0, .ref m0N, .ref m0V])), (m0A, .inl (G.2 0, 311, .inl (fun _ => 0)))] := hD
  refine lv_i2l (v := 0) hx hb dX11_digest_22 (by decide) ?_
  refine lv_ladd hx hb dX11_digest_23 ?_
  refine g_topl (y := 1470593599417) (by decide) ?_
  refine lv_lstore_n (lv' := [(1, .long 1470593599417), (3, .int 5), (0, .ref m0)]) hx hb dX11_digest_24 rfl hl (by decide) rfl (fun ls hl => ?_)
  refine lv_iinc (v := 6) (lv' := [(3, .int 6), (1, .long 1470593599417), (0, .ref m0)]) hx hb dX11_digest_25 hl (k := 1) rfl (by decide) (by decide) rfl (fun ls hl => ?_)
  refine lv_goto (tgt := 6) hx hb dX11_digest_28 (by decide) ?_
  refine lv_iload_n hx hb dX11_digest_6 rfl (lv_at hl 0 rfl) ?_
  refine lv_bipush (v := 12) hx hb dX11_digest_7 (by decide) ?_
  refine lv_icmp_ge (tgt := 31) hx hb dX11_digest_9 (by decide) (fun c_13 => g_no c_13 (by decide)) (fun _ => ?_)
  refine lv_ldc2 (v := 31) hx hb hown (hts _ (List.mem_of_getElem? (i := 2) rfl)) dX11_digest_12 ?_
  refine lv_lload_n hx hb dX11_digest_15 rfl (lv_at hl 1 rfl) ?_
  refine lv_lmul hx hb dX11_digest_16 ?_
  refine g_topl (y := 45588401581927) (by decide) ?_
  refine lv_aload_n hx hb dX11_digest_17 rfl (lv_at hl 2 rfl) ?_
  refine lv_iload_n hx hb dX11_digest_18 rfl (lv_at hl 0 rfl) ?_
  refine g_calli (wr := []) (va_runV (As := [.int 6]) (rest := [.long 45588401581927]) ⟨hx, hb, hml, hown, hts⟩ (c_X11_counted_6 l G (m0) (m0A) (m0K) (m0I) (m0R) (m0H) (m0F) (m0W) (m0L) (m0B) (m0T) (m0O) (m0Y) (m0N) (m0V) _) (cwV 1 hts gX11_digest_X11_counted rfl rfl rfl (by decide +kernel) ⟨Nat.le_of_ble_eq_true rfl, Nat.le_of_ble_eq_true rfl⟩) (g_preV m0 [.int 6] hP hD hK hN [0, 1] rfl rfl 0 (ci := 10) rfl rfl) rfl rfl hl.1 rfl (lv_room (Nat.le_of_ble_eq_true rfl)) dX11_digest_19 ⟨Nat.le_of_ble_eq_true rfl, Nat.le_of_ble_eq_true rfl⟩) hP hD hS hA [0, 1] [] rfl rfl rfl (by decide) (fun r_14 u H locs hw hP hD hS => ?_)
  obtain ⟨rfl, rfl⟩ := hw
  have hP : va_P G.1 vwCl [(m0, .inr (10, [.ref m0A, .ref m0K, .ref m0I, .ref m0R, .long 0, .long 1, .ref m0H, .ref m0F, .ref m0W, .ref m0L, .ref m0B, .ref m0T, .ref m0O, .ref m0Y, .int 0, .int 0, .int 0, .int 0, .int 0, .ref m0N, .ref m0V])), (m0A, .inl (G.2 0, 311, .inl (fun _ => 0)))] H := hP
  have hD : va_D A [(m0, .inr (10, [.ref m0A, .ref m0K, .ref m0I, .ref m0R, .long 0, .long 1, .ref m0H, .ref m0F, .ref m0W, .ref m0L, .ref m0B, .ref m0T, .ref m0O, .ref m0Y, .int 0, .int 0, .int 0, .int 0, .int 0, .ref m0N, .ref m0V])), (m0A, .inl (G.2 0, 311, .inl (fun _ => 0)))] := hD
  refine lv_i2l (v := 0) hx hb dX11_digest_22 (by decide) ?_
  refine lv_ladd hx hb dX11_digest_23 ?_
  refine g_topl (y := 45588401581927) (by decide) ?_
  refine lv_lstore_n (lv' := [(1, .long 45588401581927), (3, .int 6), (0, .ref m0)]) hx hb dX11_digest_24 rfl hl (by decide) rfl (fun ls hl => ?_)
  refine lv_iinc (v := 7) (lv' := [(3, .int 7), (1, .long 45588401581927), (0, .ref m0)]) hx hb dX11_digest_25 hl (k := 1) rfl (by decide) (by decide) rfl (fun ls hl => ?_)
  refine lv_goto (tgt := 6) hx hb dX11_digest_28 (by decide) ?_
  refine lv_iload_n hx hb dX11_digest_6 rfl (lv_at hl 0 rfl) ?_
  refine lv_bipush (v := 12) hx hb dX11_digest_7 (by decide) ?_
  refine lv_icmp_ge (tgt := 31) hx hb dX11_digest_9 (by decide) (fun c_15 => g_no c_15 (by decide)) (fun _ => ?_)
  refine lv_ldc2 (v := 31) hx hb hown (hts _ (List.mem_of_getElem? (i := 2) rfl)) dX11_digest_12 ?_
  refine lv_lload_n hx hb dX11_digest_15 rfl (lv_at hl 1 rfl) ?_
  refine lv_lmul hx hb dX11_digest_16 ?_
  refine g_topl (y := 1413240449039737) (by decide) ?_
  refine lv_aload_n hx hb dX11_digest_17 rfl (lv_at hl 2 rfl) ?_
  refine lv_iload_n hx hb dX11_digest_18 rfl (lv_at hl 0 rfl) ?_
  refine g_calli (wr := []) (va_runV (As := [.int 7]) (rest := [.long 1413240449039737]) ⟨hx, hb, hml, hown, hts⟩ (c_X11_counted_7 l G (m0) (m0A) (m0K) (m0I) (m0R) (m0H) (m0F) (m0W) (m0L) (m0B) (m0T) (m0O) (m0Y) (m0N) (m0V) _) (cwV 1 hts gX11_digest_X11_counted rfl rfl rfl (by decide +kernel) ⟨Nat.le_of_ble_eq_true rfl, Nat.le_of_ble_eq_true rfl⟩) (g_preV m0 [.int 7] hP hD hK hN [0, 1] rfl rfl 0 (ci := 10) rfl rfl) rfl rfl hl.1 rfl (lv_room (Nat.le_of_ble_eq_true rfl)) dX11_digest_19 ⟨Nat.le_of_ble_eq_true rfl, Nat.le_of_ble_eq_true rfl⟩) hP hD hS hA [0, 1] [] rfl rfl rfl (by decide) (fun r_16 u H locs hw hP hD hS => ?_)
  obtain ⟨rfl, rfl⟩ := hw
  have hP : va_P G.1 vwCl [(m0, .inr (10, [.ref m0A, .ref m0K, .ref m0I, .ref m0R, .long 0, .long 1, .ref m0H, .ref m0F, .ref m0W, .ref m0L, .ref m0B, .ref m0T, .ref m0O, .ref m0Y, .int 0, .int 0, .int 0, .int 0, .int 0, .ref m0N, .ref m0V])), (m0A, .inl (G.2 0, 311, .inl (fun _ => 0)))] H := hP
  have hD : va_D A [(m0, .inr (10, [.ref m0A, .ref m0K, .ref m0I, .ref m0R, .long 0, .long 1, .ref m0H, .ref m0F, .ref m0W, .ref m0L, .ref m0B, .ref m0T, .ref m0O, .ref m0Y, .int 0, .int 0, .int 0, .int 0, .int 0, .ref m0N, .ref m0V])), (m0A, .inl (G.2 0, 311, .inl (fun _ => 0)))] := hD
  refine lv_i2l (v := 0) hx hb dX11_digest_22 (by decide) ?_
  refine lv_ladd hx hb dX11_digest_23 ?_
  refine g_topl (y := 1413240449039737) (by decide) ?_
  refine lv_lstore_n (lv' := [(1, .long 1413240449039737), (3, .int 7), (0, .ref m0)]) hx hb dX11_digest_24 rfl hl (by decide) rfl (fun ls hl => ?_)
  refine lv_iinc (v := 8) (lv' := [(3, .int 8), (1, .long 1413240449039737), (0, .ref m0)]) hx hb dX11_digest_25 hl (k := 1) rfl (by decide) (by decide) rfl (fun ls hl => ?_)
  refine lv_goto (tgt := 6) hx hb dX11_digest_28 (by decide) ?_
  refine lv_iload_n hx hb dX11_digest_6 rfl (lv_at hl 0 rfl) ?_
  refine lv_bipush (v := 12) hx hb dX11_digest_7 (by decide) ?_
  refine lv_icmp_ge (tgt := 31) hx hb dX11_digest_9 (by decide) (fun c_17 => g_no c_17 (by decide)) (fun _ => ?_)
  refine lv_ldc2 (v := 31) hx hb hown (hts _ (List.mem_of_getElem? (i := 2) rfl)) dX11_digest_12 ?_
  refine lv_lload_n hx hb dX11_digest_15 rfl (lv_at hl 1 rfl) ?_
  refine lv_lmul hx hb dX11_digest_16 ?_
  refine g_topl (y := 43810453920231847) (by decide) ?_
  refine lv_aload_n hx hb dX11_digest_17 rfl (lv_at hl 2 rfl) ?_
  refine lv_iload_n hx hb dX11_digest_18 rfl (lv_at hl 0 rfl) ?_
  refine g_calli (wr := []) (va_runV (As := [.int 8]) (rest := [.long 43810453920231847]) ⟨hx, hb, hml, hown, hts⟩ (c_X11_counted_8 l G (m0) (m0A) (m0K) (m0I) (m0R) (m0H) (m0F) (m0W) (m0L) (m0B) (m0T) (m0O) (m0Y) (m0N) (m0V) _) (cwV 1 hts gX11_digest_X11_counted rfl rfl rfl (by decide +kernel) ⟨Nat.le_of_ble_eq_true rfl, Nat.le_of_ble_eq_true rfl⟩) (g_preV m0 [.int 8] hP hD hK hN [0, 1] rfl rfl 0 (ci := 10) rfl rfl) rfl rfl hl.1 rfl (lv_room (Nat.le_of_ble_eq_true rfl)) dX11_digest_19 ⟨Nat.le_of_ble_eq_true rfl, Nat.le_of_ble_eq_true rfl⟩) hP hD hS hA [0, 1] [] rfl rfl rfl (by decide) (fun r_18 u H locs hw hP hD hS => ?_)
  obtain ⟨rfl, rfl⟩ := hw
  have hP : va_P G.1 vwCl [(m0, .inr (10, [.ref m0A, .ref m0K, .ref m0I, .ref m0R, .long 0, .long 1, .ref m0H, .ref m0F, .ref m0W, .ref m0L, .ref m0B, .ref m0T, .ref m0O, .ref m0Y, .int 0, .int 0, .int 0, .int 0, .int 0, .ref m0N, .ref m0V])), (m0A, .inl (G.2 0, 311, .inl (fun _ => 0)))] H := hP
  have hD : va_D A [(m0, .inr (10, [.ref m0A, .ref m0K, .ref m0I, .ref m0R, .long 0, .long 1, .ref m0H, .ref m0F, .ref m0W, .ref m0L, .ref m0B, .ref m0T, .ref m0O, .ref m0Y, .int 0, .int 0, .int 0, .int 0, .int 0, .ref m0N, .ref m0V])), (m0A, .inl (G.2 0, 311, .inl (fun _ => 0)))] := hD
  refine lv_i2l (v := 0) hx hb dX11_digest_22 (by decide) ?_
  refine lv_ladd hx hb dX11_digest_23 ?_
  refine g_topl (y := 43810453920231847) (by decide) ?_
  refine lv_lstore_n (lv' := [(1, .long 43810453920231847), (3, .int 8), (0, .ref m0)]) hx hb dX11_digest_24 rfl hl (by decide) rfl (fun ls hl => ?_)
  refine lv_iinc (v := 9) (lv' := [(3, .int 9), (1, .long 43810453920231847), (0, .ref m0)]) hx hb dX11_digest_25 hl (k := 1) rfl (by decide) (by decide) rfl (fun ls hl => ?_)
  refine lv_goto (tgt := 6) hx hb dX11_digest_28 (by decide) ?_
  refine lv_iload_n hx hb dX11_digest_6 rfl (lv_at hl 0 rfl) ?_
  refine lv_bipush (v := 12) hx hb dX11_digest_7 (by decide) ?_
  refine lv_icmp_ge (tgt := 31) hx hb dX11_digest_9 (by decide) (fun c_19 => g_no c_19 (by decide)) (fun _ => ?_)
  refine lv_ldc2 (v := 31) hx hb hown (hts _ (List.mem_of_getElem? (i := 2) rfl)) dX11_digest_12 ?_
  refine lv_lload_n hx hb dX11_digest_15 rfl (lv_at hl 1 rfl) ?_
  refine lv_lmul hx hb dX11_digest_16 ?_
  refine g_topl (y := 1358124071527187257) (by decide) ?_
  refine lv_aload_n hx hb dX11_digest_17 rfl (lv_at hl 2 rfl) ?_
  refine lv_iload_n hx hb dX11_digest_18 rfl (lv_at hl 0 rfl) ?_
  refine g_calli (wr := []) (va_runV (As := [.int 9]) (rest := [.long 1358124071527187257]) ⟨hx, hb, hml, hown, hts⟩ (c_X11_counted_9 l G (m0) (m0A) (m0K) (m0I) (m0R) (m0H) (m0F) (m0W) (m0L) (m0B) (m0T) (m0O) (m0Y) (m0N) (m0V) _) (cwV 1 hts gX11_digest_X11_counted rfl rfl rfl (by decide +kernel) ⟨Nat.le_of_ble_eq_true rfl, Nat.le_of_ble_eq_true rfl⟩) (g_preV m0 [.int 9] hP hD hK hN [0, 1] rfl rfl 0 (ci := 10) rfl rfl) rfl rfl hl.1 rfl (lv_room (Nat.le_of_ble_eq_true rfl)) dX11_digest_19 ⟨Nat.le_of_ble_eq_true rfl, Nat.le_of_ble_eq_true rfl⟩) hP hD hS hA [0, 1] [] rfl rfl rfl (by decide) (fun r_20 u H locs hw hP hD hS => ?_)
  obtain ⟨rfl, rfl⟩ := hw
  have hP : va_P G.1 vwCl [(m0, .inr (10, [.ref m0A, .ref m0K, .ref m0I, .ref m0R, .long 0, .long 1, .ref m0H, .ref m0F, .ref m0W, .ref m0L, .ref m0B, .ref m0T, .ref m0O, .ref m0Y, .int 0, .int 0, .int 0, .int 0, .int 0, .ref m0N, .ref m0V])), (m0A, .inl (G.2 0, 311, .inl (fun _ => 0)))] H := hP
  have hD : va_D A [(m0, .inr (10, [.ref m0A, .ref m0K, .ref m0I, .ref m0R, .long 0, .long 1, .ref m0H, .ref m0F, .ref m0W, .ref m0L, .ref m0B, .ref m0T, .ref m0O, .ref m0Y, .int 0, .int 0, .int 0, .int 0, .int 0, .ref m0N, .ref m0V])), (m0A, .inl (G.2 0, 311, .inl (fun _ => 0)))] := hD
  refine lv_i2l (v := 0) hx hb dX11_digest_22 (by decide) ?_
  refine lv_ladd hx hb dX11_digest_23 ?_
  refine g_topl (y := 1358124071527187257) (by decide) ?_
  refine lv_lstore_n (lv' := [(1, .long 1358124071527187257), (3, .int 9), (0, .ref m0)]) hx hb dX11_digest_24 rfl hl (by decide) rfl (fun ls hl => ?_)
  refine lv_iinc (v := 10) (lv' := [(3, .int 10), (1, .long 1358124071527187257), (0, .ref m0)]) hx hb dX11_digest_25 hl (k := 1) rfl (by decide) (by decide) rfl (fun ls hl => ?_)
  refine lv_goto (tgt := 6) hx hb dX11_digest_28 (by decide) ?_
  refine lv_iload_n hx hb dX11_digest_6 rfl (lv_at hl 0 rfl) ?_
  refine lv_bipush (v := 12) hx hb dX11_digest_7 (by decide) ?_
  refine lv_icmp_ge (tgt := 31) hx hb dX11_digest_9 (by decide) (fun c_21 => g_no c_21 (by decide)) (fun _ => ?_)
  refine lv_ldc2 (v := 31) hx hb hown (hts _ (List.mem_of_getElem? (i := 2) rfl)) dX11_digest_12 ?_
  refine lv_lload_n hx hb dX11_digest_15 rfl (lv_at hl 1 rfl) ?_
  refine lv_lmul hx hb dX11_digest_16 ?_
  refine g_topl (y := 5208358069923701735) (by decide) ?_
  refine lv_aload_n hx hb dX11_digest_17 rfl (lv_at hl 2 rfl) ?_
  refine lv_iload_n hx hb dX11_digest_18 rfl (lv_at hl 0 rfl) ?_
  refine g_calli (wr := []) (va_runV (As := [.int 10]) (rest := [.long 5208358069923701735]) ⟨hx, hb, hml, hown, hts⟩ (c_X11_counted_10 l G (m0) (m0A) (m0K) (m0I) (m0R) (m0H) (m0F) (m0W) (m0L) (m0B) (m0T) (m0O) (m0Y) (m0N) (m0V) _) (cwV 1 hts gX11_digest_X11_counted rfl rfl rfl (by decide +kernel) ⟨Nat.le_of_ble_eq_true rfl, Nat.le_of_ble_eq_true rfl⟩) (g_preV m0 [.int 10] hP hD hK hN [0, 1] rfl rfl 0 (ci := 10) rfl rfl) rfl rfl hl.1 rfl (lv_room (Nat.le_of_ble_eq_true rfl)) dX11_digest_19 ⟨Nat.le_of_ble_eq_true rfl, Nat.le_of_ble_eq_true rfl⟩) hP hD hS hA [0, 1] [] rfl rfl rfl (by decide) (fun r_22 u H locs hw hP hD hS => ?_)
  obtain ⟨rfl, rfl⟩ := hw
  have hP : va_P G.1 vwCl [(m0, .inr (10, [.ref m0A, .ref m0K, .ref m0I, .ref m0R, .long 0, .long 1, .ref m0H, .ref m0F, .ref m0W, .ref m0L, .ref m0B, .ref m0T, .ref m0O, .ref m0Y, .int 0, .int 0, .int 0, .int 0, .int 0, .ref m0N, .ref m0V])), (m0A, .inl (G.2 0, 311, .inl (fun _ => 0)))] H := hP
  have hD : va_D A [(m0, .inr (10, [.ref m0A, .ref m0K, .ref m0I, .ref m0R, .long 0, .long 1, .ref m0H, .ref m0F, .ref m0W, .ref m0L, .ref m0B, .ref m0T, .ref m0O, .ref m0Y, .int 0, .int 0, .int 0, .int 0, .int 0, .ref m0N, .ref m0V])), (m0A, .inl (G.2 0, 311, .inl (fun _ => 0)))] := hD
  refine lv_i2l (v := 0) hx hb dX11_digest_22 (by decide) ?_
  refine lv_ladd hx hb dX11_digest_23 ?_
  refine g_topl (y := 5208358069923701735) (by decide) ?_
  refine lv_lstore_n (lv' := [(1, .long 5208358069923701735), (3, .int 10), (0, .ref m0)]) hx hb dX11_digest_24 rfl hl (by decide) rfl (fun ls hl => ?_)
  refine lv_iinc (v := 11) (lv' := [(3, .int 11), (1, .long 5208358069923701735), (0, .ref m0)]) hx hb dX11_digest_25 hl (k := 1) rfl (by decide) (by decide) rfl (fun ls hl => ?_)
  refine lv_goto (tgt := 6) hx hb dX11_digest_28 (by decide) ?_
  refine lv_iload_n hx hb dX11_digest_6 rfl (lv_at hl 0 rfl) ?_
  refine lv_bipush (v := 12) hx hb dX11_digest_7 (by decide) ?_
  refine lv_icmp_ge (tgt := 31) hx hb dX11_digest_9 (by decide) (fun c_23 => g_no c_23 (by decide)) (fun _ => ?_)
  refine lv_ldc2 (v := 31) hx hb hown (hts _ (List.mem_of_getElem? (i := 2) rfl)) dX11_digest_12 ?_
  refine lv_lload_n hx hb dX11_digest_15 rfl (lv_at hl 1 rfl) ?_
  refine lv_lmul hx hb dX11_digest_16 ?_
  refine g_topl (y := (-4561596495751210759)) (by decide) ?_
  refine lv_aload_n hx hb dX11_digest_17 rfl (lv_at hl 2 rfl) ?_
  refine lv_iload_n hx hb dX11_digest_18 rfl (lv_at hl 0 rfl) ?_
  refine g_calli (wr := []) (va_runV (As := [.int 11]) (rest := [.long (-4561596495751210759)]) ⟨hx, hb, hml, hown, hts⟩ (c_X11_counted_11 l G (m0) (m0A) (m0K) (m0I) (m0R) (m0H) (m0F) (m0W) (m0L) (m0B) (m0T) (m0O) (m0Y) (m0N) (m0V) _) (cwV 1 hts gX11_digest_X11_counted rfl rfl rfl (by decide +kernel) ⟨Nat.le_of_ble_eq_true rfl, Nat.le_of_ble_eq_true rfl⟩) (g_preV m0 [.int 11] hP hD hK hN [0, 1] rfl rfl 0 (ci := 10) rfl rfl) rfl rfl hl.1 rfl (lv_room (Nat.le_of_ble_eq_true rfl)) dX11_digest_19 ⟨Nat.le_of_ble_eq_true rfl, Nat.le_of_ble_eq_true rfl⟩) hP hD hS hA [0, 1] [] rfl rfl rfl (by decide) (fun r_24 u H locs hw hP hD hS => ?_)
  obtain ⟨rfl, rfl⟩ := hw
  have hP : va_P G.1 vwCl [(m0, .inr (10, [.ref m0A, .ref m0K, .ref m0I, .ref m0R, .long 0, .long 1, .ref m0H, .ref m0F, .ref m0W, .ref m0L, .ref m0B, .ref m0T, .ref m0O, .ref m0Y, .int 0, .int 0, .int 0, .int 0, .int 0, .ref m0N, .ref m0V])), (m0A, .inl (G.2 0, 311, .inl (fun _ => 0)))] H := hP
  have hD : va_D A [(m0, .inr (10, [.ref m0A, .ref m0K, .ref m0I, .ref m0R, .long 0, .long 1, .ref m0H, .ref m0F, .ref m0W, .ref m0L, .ref m0B, .ref m0T, .ref m0O, .ref m0Y, .int 0, .int 0, .int 0, .int 0, .int 0, .ref m0N, .ref m0V])), (m0A, .inl (G.2 0, 311, .inl (fun _ => 0)))] := hD
  refine lv_i2l (v := 0) hx hb dX11_digest_22 (by decide) ?_
  refine lv_ladd hx hb dX11_digest_23 ?_
  refine g_topl (y := (-4561596495751210759)) (by decide) ?_
  refine lv_lstore_n (lv' := [(1, .long (-4561596495751210759)), (3, .int 11), (0, .ref m0)]) hx hb dX11_digest_24 rfl hl (by decide) rfl (fun ls hl => ?_)
  refine lv_iinc (v := 12) (lv' := [(3, .int 12), (1, .long (-4561596495751210759)), (0, .ref m0)]) hx hb dX11_digest_25 hl (k := 1) rfl (by decide) (by decide) rfl (fun ls hl => ?_)
  refine lv_goto (tgt := 6) hx hb dX11_digest_28 (by decide) ?_
  refine lv_iload_n hx hb dX11_digest_6 rfl (lv_at hl 0 rfl) ?_
  refine lv_bipush (v := 12) hx hb dX11_digest_7 (by decide) ?_
  refine lv_icmp_ge (tgt := 31) hx hb dX11_digest_9 (by decide) (fun _ => ?_) (fun c_25 => g_no (by decide) c_25)
  refine lv_aload_n hx hb dX11_digest_31 rfl (lv_at hl 2 rfl) ?_
  refine lv_lload_n hx hb dX11_digest_32 rfl (lv_at hl 1 rfl) ?_
  refine lv_bipush (v := 28) hx hb dX11_digest_33 (by decide) ?_
  refine lv_bipush (v := 6) hx hb dX11_digest_35 (by decide) ?_
  refine g_calll (wr := []) (va_runV (As := [.long (-4561596495751210759), .int 28, .int 6]) (rest := []) ⟨hx, hb, hml, hown, hts⟩ (c_X11_sums_d l G (m0) (m0A) (m0K) (m0I) (m0R) (m0H) (m0F) (m0W) (m0L) (m0B) (m0T) (m0O) (m0Y) (m0N) (m0V) _) (cwV 3 hts gX11_digest_X11_sums rfl rfl rfl (by decide +kernel) ⟨Nat.le_of_ble_eq_true rfl, Nat.le_of_ble_eq_true rfl⟩) (g_preV m0 [.long (-4561596495751210759), .int 28, .int 6] hP hD hK hN [0, 1] rfl rfl 0 (ci := 10) rfl rfl) rfl rfl hl.1 rfl (lv_room (Nat.le_of_ble_eq_true rfl)) dX11_digest_37 ⟨Nat.le_of_ble_eq_true rfl, Nat.le_of_ble_eq_true rfl⟩) hP hD hS hA [0, 1] [] rfl rfl rfl (by decide) (fun r_26 u H locs hw hP hD hS => ?_)
  obtain ⟨rfl, rfl⟩ := hw
  have hP : va_P G.1 vwCl [(m0, .inr (10, [.ref m0A, .ref m0K, .ref m0I, .ref m0R, .long 0, .long 1, .ref m0H, .ref m0F, .ref m0W, .ref m0L, .ref m0B, .ref m0T, .ref m0O, .ref m0Y, .int 0, .int 0, .int 0, .int 0, .int 0, .ref m0N, .ref m0V])), (m0A, .inl (G.2 0, 311, .inl (fun _ => 0)))] H := hP
  have hD : va_D A [(m0, .inr (10, [.ref m0A, .ref m0K, .ref m0I, .ref m0R, .long 0, .long 1, .ref m0H, .ref m0F, .ref m0W, .ref m0L, .ref m0B, .ref m0T, .ref m0O, .ref m0Y, .int 0, .int 0, .int 0, .int 0, .int 0, .ref m0N, .ref m0V])), (m0A, .inl (G.2 0, 311, .inl (fun _ => 0)))] := hD
  refine lv_lstore_n (lv' := [(1, .long 7067162257424300601), (3, .int 12), (0, .ref m0)]) hx hb dX11_digest_40 rfl hl (by decide) rfl (fun ls hl => ?_)
  refine lv_iconst (v := 0) hx hb dX11_digest_41 (by decide) ?_
  refine lv_istore_n (lv' := [(3, .int 0), (1, .long 7067162257424300601), (0, .ref m0)]) hx hb dX11_digest_42 rfl hl (by decide) rfl (fun ls hl => ?_)
  refine lv_iload_n hx hb dX11_digest_43 rfl (lv_at hl 0 rfl) ?_
  refine lv_aload_n hx hb dX11_digest_44 rfl (lv_at hl 2 rfl) ?_
  refine g_calli (wr := []) (va_runV (As := []) (rest := [.int 0]) ⟨hx, hb, hml, hown, hts⟩ (c_X11_many l G (m0) (m0A) (m0K) (m0I) (m0R) (m0H) (m0F) (m0W) (m0L) (m0B) (m0T) (m0O) (m0Y) (m0N) (m0V) _) (cwV 0 hts gX11_digest_X11_many rfl rfl rfl (by decide +kernel) ⟨Nat.le_of_ble_eq_true rfl, Nat.le_of_ble_eq_true rfl⟩) (g_preV m0 [] hP hD hK hN [0, 1] rfl rfl 0 (ci := 10) rfl rfl) rfl rfl hl.1 rfl (lv_room (Nat.le_of_ble_eq_true rfl)) dX11_digest_45 ⟨Nat.le_of_ble_eq_true rfl, Nat.le_of_ble_eq_true rfl⟩) hP hD hS hA [0, 1] [] rfl rfl rfl (by decide) (fun r_27 u H locs hw hP hD hS => ?_)
  obtain ⟨rfl, rfl⟩ := hw
  have hP : va_P G.1 vwCl [(m0, .inr (10, [.ref m0A, .ref m0K, .ref m0I, .ref m0R, .long 0, .long 1, .ref m0H, .ref m0F, .ref m0W, .ref m0L, .ref m0B, .ref m0T, .ref m0O, .ref m0Y, .int 0, .int 0, .int 0, .int 0, .int 0, .ref m0N, .ref m0V])), (m0A, .inl (G.2 0, 311, .inl (fun _ => 0)))] H := hP
  have hD : va_D A [(m0, .inr (10, [.ref m0A, .ref m0K, .ref m0I, .ref m0R, .long 0, .long 1, .ref m0H, .ref m0F, .ref m0W, .ref m0L, .ref m0B, .ref m0T, .ref m0O, .ref m0Y, .int 0, .int 0, .int 0, .int 0, .int 0, .ref m0N, .ref m0V])), (m0A, .inl (G.2 0, 311, .inl (fun _ => 0)))] := hD
  refine lv_icmp_ge (tgt := 87) hx hb dX11_digest_48 (by decide) (fun _ => ?_) (fun c_28 => g_no (by decide) c_28)
  refine lv_iconst (v := 0) hx hb dX11_digest_87 (by decide) ?_
  refine lv_istore_n (lv' := [(3, .int 0), (1, .long 7067162257424300601), (0, .ref m0)]) hx hb dX11_digest_88 rfl hl (by decide) rfl (fun ls hl => ?_)
  refine lv_iload_n hx hb dX11_digest_89 rfl (lv_at hl 0 rfl) ?_
  refine lv_aload_n hx hb dX11_digest_90 rfl (lv_at hl 2 rfl) ?_
  refine va_get (D := G.1) (ci := 10) (v := .ref m0A) (C := RX11) (T := TX11) (N := 21) hx hb hts (fun _ h => List.mem_cons_of_mem _ (List.mem_append_right _ h)) hown hK hP 0 rfl rfl 0 (by decide) (hts _ (List.mem_of_getElem? (i := 3) rfl)) (fun _ h9 => h9) rfl dX11_digest_91 ?_
  refine lv_iconst (v := 1) hx hb dX11_digest_94 (by decide) ?_
  refine va_iald hx hb hK hP 1 0 rfl rfl (by unfold vp_in; decide) dX11_digest_95 ?_
  refine g_topi (y := 0) rfl ?_
  refine lv_icmp_ge (tgt := 137) hx hb dX11_digest_96 (by decide) (fun _ => ?_) (fun c_29 => g_no (by decide) c_29)
  refine lv_aload_n hx hb dX11_digest_137 rfl (lv_at hl 2 rfl) ?_
  refine lv_lload_n hx hb dX11_digest_138 rfl (lv_at hl 1 rfl) ?_
  refine lv_bipush (v := 56) hx hb dX11_digest_139 (by decide) ?_
  refine lv_iconst (v := 5) hx hb dX11_digest_141 (by decide) ?_
  refine lv_aload_n hx hb dX11_digest_142 rfl (lv_at hl 2 rfl) ?_
  refine va_get (D := G.1) (ci := 10) (v := .ref m0A) (C := RX11) (T := TX11) (N := 21) hx hb hts (fun _ h => List.mem_cons_of_mem _ (List.mem_append_right _ h)) hown hK hP 0 rfl rfl 0 (by decide) (hts _ (List.mem_of_getElem? (i := 3) rfl)) (fun _ h9 => h9) rfl dX11_digest_143 ?_
  refine lv_iconst (v := 2) hx hb dX11_digest_146 (by decide) ?_
  refine va_iald hx hb hK hP 1 0 rfl rfl (by unfold vp_in; decide) dX11_digest_147 ?_
  refine g_topi (y := 0) rfl ?_
  refine lv_imul hx hb dX11_digest_148 ?_
  refine g_topi (y := 0) (by decide) ?_
  refine g_calll (wr := []) (va_runV (As := [.long 7067162257424300601, .int 56, .int 0]) (rest := []) ⟨hx, hb, hml, hown, hts⟩ (c_X11_sums_56 l G (m0) (m0A) (m0K) (m0I) (m0R) (m0H) (m0F) (m0W) (m0L) (m0B) (m0T) (m0O) (m0Y) (m0N) (m0V) _) (cwV 3 hts gX11_digest_X11_sums rfl rfl rfl (by decide +kernel) ⟨Nat.le_of_ble_eq_true rfl, Nat.le_of_ble_eq_true rfl⟩) (g_preV m0 [.long 7067162257424300601, .int 56, .int 0] hP hD hK hN [0, 1] rfl rfl 0 (ci := 10) rfl rfl) rfl rfl hl.1 rfl (lv_room (Nat.le_of_ble_eq_true rfl)) dX11_digest_149 ⟨Nat.le_of_ble_eq_true rfl, Nat.le_of_ble_eq_true rfl⟩) hP hD hS hA [0, 1] [] rfl rfl rfl (by decide) (fun r_30 u H locs hw hP hD hS => ?_)
  obtain ⟨rfl, rfl⟩ := hw
  have hP : va_P G.1 vwCl [(m0, .inr (10, [.ref m0A, .ref m0K, .ref m0I, .ref m0R, .long 0, .long 1, .ref m0H, .ref m0F, .ref m0W, .ref m0L, .ref m0B, .ref m0T, .ref m0O, .ref m0Y, .int 0, .int 0, .int 0, .int 0, .int 0, .ref m0N, .ref m0V])), (m0A, .inl (G.2 0, 311, .inl (fun _ => 0)))] H := hP
  have hD : va_D A [(m0, .inr (10, [.ref m0A, .ref m0K, .ref m0I, .ref m0R, .long 0, .long 1, .ref m0H, .ref m0F, .ref m0W, .ref m0L, .ref m0B, .ref m0T, .ref m0O, .ref m0Y, .int 0, .int 0, .int 0, .int 0, .int 0, .ref m0N, .ref m0V])), (m0A, .inl (G.2 0, 311, .inl (fun _ => 0)))] := hD
  refine lv_lstore_n (lv' := [(1, .long 7067162257424300601), (3, .int 0), (0, .ref m0)]) hx hb dX11_digest_152 rfl hl (by decide) rfl (fun ls hl => ?_)
  refine lv_aload_n hx hb dX11_digest_153 rfl (lv_at hl 2 rfl) ?_
  refine lv_lload_n hx hb dX11_digest_154 rfl (lv_at hl 0 rfl) ?_
  refine lv_bipush (v := 81) hx hb dX11_digest_155 (by decide) ?_
  refine lv_iconst (v := 5) hx hb dX11_digest_157 (by decide) ?_
  refine lv_aload_n hx hb dX11_digest_158 rfl (lv_at hl 2 rfl) ?_
  refine va_get (D := G.1) (ci := 10) (v := .ref m0A) (C := RX11) (T := TX11) (N := 21) hx hb hts (fun _ h => List.mem_cons_of_mem _ (List.mem_append_right _ h)) hown hK hP 0 rfl rfl 0 (by decide) (hts _ (List.mem_of_getElem? (i := 3) rfl)) (fun _ h9 => h9) rfl dX11_digest_159 ?_
  refine lv_iconst (v := 3) hx hb dX11_digest_162 (by decide) ?_
  refine va_iald hx hb hK hP 1 0 rfl rfl (by unfold vp_in; decide) dX11_digest_163 ?_
  refine g_topi (y := 0) rfl ?_
  refine lv_imul hx hb dX11_digest_164 ?_
  refine g_topi (y := 0) (by decide) ?_
  refine g_calll (wr := []) (va_runV (As := [.long 7067162257424300601, .int 81, .int 0]) (rest := []) ⟨hx, hb, hml, hown, hts⟩ (c_X11_sums_81 l G (m0) (m0A) (m0K) (m0I) (m0R) (m0H) (m0F) (m0W) (m0L) (m0B) (m0T) (m0O) (m0Y) (m0N) (m0V) _) (cwV 3 hts gX11_digest_X11_sums rfl rfl rfl (by decide +kernel) ⟨Nat.le_of_ble_eq_true rfl, Nat.le_of_ble_eq_true rfl⟩) (g_preV m0 [.long 7067162257424300601, .int 81, .int 0] hP hD hK hN [0, 1] rfl rfl 0 (ci := 10) rfl rfl) rfl rfl hl.1 rfl (lv_room (Nat.le_of_ble_eq_true rfl)) dX11_digest_165 ⟨Nat.le_of_ble_eq_true rfl, Nat.le_of_ble_eq_true rfl⟩) hP hD hS hA [0, 1] [] rfl rfl rfl (by decide) (fun r_31 u H locs hw hP hD hS => ?_)
  obtain ⟨rfl, rfl⟩ := hw
  have hP : va_P G.1 vwCl [(m0, .inr (10, [.ref m0A, .ref m0K, .ref m0I, .ref m0R, .long 0, .long 1, .ref m0H, .ref m0F, .ref m0W, .ref m0L, .ref m0B, .ref m0T, .ref m0O, .ref m0Y, .int 0, .int 0, .int 0, .int 0, .int 0, .ref m0N, .ref m0V])), (m0A, .inl (G.2 0, 311, .inl (fun _ => 0)))] H := hP
  have hD : va_D A [(m0, .inr (10, [.ref m0A, .ref m0K, .ref m0I, .ref m0R, .long 0, .long 1, .ref m0H, .ref m0F, .ref m0W, .ref m0L, .ref m0B, .ref m0T, .ref m0O, .ref m0Y, .int 0, .int 0, .int 0, .int 0, .int 0, .ref m0N, .ref m0V])), (m0A, .inl (G.2 0, 311, .inl (fun _ => 0)))] := hD
  refine lv_lstore_n (lv' := [(1, .long 7067162257424300601), (3, .int 0), (0, .ref m0)]) hx hb dX11_digest_168 rfl hl (by decide) rfl (fun ls hl => ?_)
  refine lv_aload_n hx hb dX11_digest_169 rfl (lv_at hl 2 rfl) ?_
  refine lv_lload_n hx hb dX11_digest_170 rfl (lv_at hl 0 rfl) ?_
  refine lv_bipush (v := 111) hx hb dX11_digest_171 (by decide) ?_
  refine lv_iconst (v := 4) hx hb dX11_digest_173 (by decide) ?_
  refine lv_aload_n hx hb dX11_digest_174 rfl (lv_at hl 2 rfl) ?_
  refine va_get (D := G.1) (ci := 10) (v := .ref m0A) (C := RX11) (T := TX11) (N := 21) hx hb hts (fun _ h => List.mem_cons_of_mem _ (List.mem_append_right _ h)) hown hK hP 0 rfl rfl 0 (by decide) (hts _ (List.mem_of_getElem? (i := 3) rfl)) (fun _ h9 => h9) rfl dX11_digest_175 ?_
  refine lv_iconst (v := 4) hx hb dX11_digest_178 (by decide) ?_
  refine va_iald hx hb hK hP 1 0 rfl rfl (by unfold vp_in; decide) dX11_digest_179 ?_
  refine g_topi (y := 0) rfl ?_
  refine lv_imul hx hb dX11_digest_180 ?_
  refine g_topi (y := 0) (by decide) ?_
  refine g_calll (wr := []) (va_runV (As := [.long 7067162257424300601, .int 111, .int 0]) (rest := []) ⟨hx, hb, hml, hown, hts⟩ (c_X11_sums_111 l G (m0) (m0A) (m0K) (m0I) (m0R) (m0H) (m0F) (m0W) (m0L) (m0B) (m0T) (m0O) (m0Y) (m0N) (m0V) _) (cwV 3 hts gX11_digest_X11_sums rfl rfl rfl (by decide +kernel) ⟨Nat.le_of_ble_eq_true rfl, Nat.le_of_ble_eq_true rfl⟩) (g_preV m0 [.long 7067162257424300601, .int 111, .int 0] hP hD hK hN [0, 1] rfl rfl 0 (ci := 10) rfl rfl) rfl rfl hl.1 rfl (lv_room (Nat.le_of_ble_eq_true rfl)) dX11_digest_181 ⟨Nat.le_of_ble_eq_true rfl, Nat.le_of_ble_eq_true rfl⟩) hP hD hS hA [0, 1] [] rfl rfl rfl (by decide) (fun r_32 u H locs hw hP hD hS => ?_)
  obtain ⟨rfl, rfl⟩ := hw
  have hP : va_P G.1 vwCl [(m0, .inr (10, [.ref m0A, .ref m0K, .ref m0I, .ref m0R, .long 0, .long 1, .ref m0H, .ref m0F, .ref m0W, .ref m0L, .ref m0B, .ref m0T, .ref m0O, .ref m0Y, .int 0, .int 0, .int 0, .int 0, .int 0, .ref m0N, .ref m0V])), (m0A, .inl (G.2 0, 311, .inl (fun _ => 0)))] H := hP
  have hD : va_D A [(m0, .inr (10, [.ref m0A, .ref m0K, .ref m0I, .ref m0R, .long 0, .long 1, .ref m0H, .ref m0F, .ref m0W, .ref m0L, .ref m0B, .ref m0T, .ref m0O, .ref m0Y, .int 0, .int 0, .int 0, .int 0, .int 0, .ref m0N, .ref m0V])), (m0A, .inl (G.2 0, 311, .inl (fun _ => 0)))] := hD
  refine lv_lstore_n (lv' := [(1, .long 7067162257424300601), (3, .int 0), (0, .ref m0)]) hx hb dX11_digest_184 rfl hl (by decide) rfl (fun ls hl => ?_)
  refine lv_ldc2 (v := 31) hx hb hown (hts _ (List.mem_of_getElem? (i := 2) rfl)) dX11_digest_185 ?_
  refine lv_ldc2 (v := 31) hx hb hown (hts _ (List.mem_of_getElem? (i := 2) rfl)) dX11_digest_188 ?_
  refine lv_lload_n hx hb dX11_digest_191 rfl (lv_at hl 0 rfl) ?_
  refine lv_lmul hx hb dX11_digest_192 ?_
  refine g_topl (y := (-2278898904361300761)) (by decide) ?_
  refine lv_aload_n hx hb dX11_digest_193 rfl (lv_at hl 2 rfl) ?_
  refine va_get (D := G.1) (ci := 10) (v := .long 0) (C := RX11) (T := TX11) (N := 21) hx hb hts (fun _ h => List.mem_cons_of_mem _ (List.mem_append_right _ h)) hown hK hP 0 rfl rfl 4 (by decide) (hts _ (List.mem_of_getElem? (i := 4) rfl)) (fun _ h9 => h9) rfl dX11_digest_194 ?_
  refine lv_ladd hx hb dX11_digest_197 ?_
  refine g_topl (y := (-2278898904361300761)) (by decide) ?_
  refine lv_lmul hx hb dX11_digest_198 ?_
  refine g_topl (y := 3141110259637882873) (by decide) ?_
  refine lv_aload_n hx hb dX11_digest_199 rfl (lv_at hl 2 rfl) ?_
  refine va_get (D := G.1) (ci := 10) (v := .long 1) (C := RX11) (T := TX11) (N := 21) hx hb hts (fun _ h => List.mem_cons_of_mem _ (List.mem_append_right _ h)) hown hK hP 0 rfl rfl 5 (by decide) (hts _ (List.mem_of_getElem? (i := 5) rfl)) (fun _ h9 => h9) rfl dX11_digest_200 ?_
  refine lv_ladd hx hb dX11_digest_203 ?_
  refine g_topl (y := 3141110259637882874) (by decide) ?_
  have hP := hP.sub (ws' := []) [] rfl
  have hD := hD.sub (ws' := []) [] rfl rfl
  exact g_lret (v := 3141110259637882874) hx hb hr hlocks hP hD hS (⟨rfl, rfl⟩) dX11_digest_204
