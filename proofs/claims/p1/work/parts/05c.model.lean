theorem part_out {w : Int32} (h0 : ¬ w = 0) (h1 : ¬ w = 1) : F_part w = -2 := by
  unfold F_part
  cases h : inB 0 w 1 with
  | false => rfl
  | true =>
    rcases inB01 h with e | e
    · exact absurd e h0
    · exact absurd e h1
theorem inB12 {w : Int32} (h : inB 0 w 11 = true) : w = 0 ∨ w = 1 ∨ w = 2 ∨ w = 3 ∨ w = 4 ∨ w = 5 ∨ w = 6 ∨ w = 7 ∨ w = 8 ∨ w = 9 ∨ w = 10 ∨ w = 11 := by
  obtain ⟨j, -, h2, rfl⟩ := inB_nat (a := 0) (b := 11) h (by decide) (by decide)
  rcases (show j = 0 ∨ j = 1 ∨ j = 2 ∨ j = 3 ∨ j = 4 ∨ j = 5 ∨ j = 6 ∨ j = 7 ∨ j = 8 ∨ j = 9 ∨ j = 10 ∨ j = 11 by omega) with rfl | rfl | rfl | rfl | rfl | rfl | rfl | rfl | rfl | rfl | rfl | rfl
  · exact Or.inl rfl
  · exact Or.inr (Or.inl rfl)
  · exact Or.inr (Or.inr (Or.inl rfl))
  · exact Or.inr (Or.inr (Or.inr (Or.inl rfl)))
  · exact Or.inr (Or.inr (Or.inr (Or.inr (Or.inl rfl))))
  · exact Or.inr (Or.inr (Or.inr (Or.inr (Or.inr (Or.inl rfl)))))
  · exact Or.inr (Or.inr (Or.inr (Or.inr (Or.inr (Or.inr (Or.inl rfl))))))
  · exact Or.inr (Or.inr (Or.inr (Or.inr (Or.inr (Or.inr (Or.inr (Or.inl rfl)))))))
  · exact Or.inr (Or.inr (Or.inr (Or.inr (Or.inr (Or.inr (Or.inr (Or.inr (Or.inl rfl))))))))
  · exact Or.inr (Or.inr (Or.inr (Or.inr (Or.inr (Or.inr (Or.inr (Or.inr (Or.inr (Or.inl rfl)))))))))
  · exact Or.inr (Or.inr (Or.inr (Or.inr (Or.inr (Or.inr (Or.inr (Or.inr (Or.inr (Or.inr (Or.inl rfl))))))))))
  · exact Or.inr (Or.inr (Or.inr (Or.inr (Or.inr (Or.inr (Or.inr (Or.inr (Or.inr (Or.inr (Or.inr (rfl)))))))))))
theorem dX11_forget_0 : decode cX11_forget 0 = .ok (.iload_n 1, 1) := by decide +kernel
theorem dX11_forget_1 : decode cX11_forget 1 = .ok (.i2l, 1) := by decide +kernel
theorem dX11_forget_2 : decode cX11_forget 2 = .ok (.lconst 0, 1) := by decide +kernel
theorem dX11_forget_3 : decode cX11_forget 3 = .ok (.ldc2_w 180, 3) := by decide +kernel
set_option maxRecDepth 20000 in
theorem ggX11_forget_X11_in : GoodIn wsX11_forget wsX11_in := goodIn_r _ [6] (by decide +kernel) (by decide +kernel)
set_option maxRecDepth 20000 in
theorem gX11_forget_X11_in : GoodIn wsX11_forget (va_wsS RX11 65 yX11_in wsX11_in) := goodIn_app (goodIn_of _ (by decide +kernel)) ggX11_forget_X11_in
theorem dX11_forget_6 : decode cX11_forget 6 = .ok (.invokestatic 65, 3) := by decide +kernel
theorem dX11_forget_9 : decode cX11_forget 9 = .ok (.ifCond .ne 10, 3) := by decide +kernel
theorem dX11_forget_19 : decode cX11_forget 19 = .ok (.aload_n 0, 1) := by decide +kernel
theorem dX11_forget_20 : decode cX11_forget 20 = .ok (.getfield 7, 3) := by decide +kernel
theorem dX11_forget_23 : decode cX11_forget 23 = .ok (.iconst 2, 1) := by decide +kernel
theorem dX11_forget_24 : decode cX11_forget 24 = .ok (.iload_n 1, 1) := by decide +kernel
theorem dX11_forget_25 : decode cX11_forget 25 = .ok (.iadd, 1) := by decide +kernel
theorem dX11_forget_26 : decode cX11_forget 26 = .ok (.iaload, 1) := by decide +kernel
theorem dX11_forget_27 : decode cX11_forget 27 = .ok (.istore_n 2, 1) := by decide +kernel
theorem dX11_forget_28 : decode cX11_forget 28 = .ok (.aload_n 0, 1) := by decide +kernel
theorem dX11_forget_29 : decode cX11_forget 29 = .ok (.getfield 7, 3) := by decide +kernel
theorem dX11_forget_32 : decode cX11_forget 32 = .ok (.iconst 2, 1) := by decide +kernel
theorem dX11_forget_33 : decode cX11_forget 33 = .ok (.iload_n 1, 1) := by decide +kernel
theorem dX11_forget_34 : decode cX11_forget 34 = .ok (.iadd, 1) := by decide +kernel
theorem dX11_forget_35 : decode cX11_forget 35 = .ok (.iconst 0, 1) := by decide +kernel
theorem dX11_forget_36 : decode cX11_forget 36 = .ok (.iastore, 1) := by decide +kernel
theorem dX11_forget_37 : decode cX11_forget 37 = .ok (.iload_n 2, 1) := by decide +kernel
theorem dX11_forget_38 : decode cX11_forget 38 = .ok (.ireturn, 1) := by decide +kernel
theorem dX11_forget_12 : decode cX11_forget 12 = .ok (.aload_n 0, 1) := by decide +kernel
theorem dX11_forget_13 : decode cX11_forget 13 = .ok (.bipush (-2), 2) := by decide +kernel
set_option maxRecDepth 20000 in
theorem ggX11_forget_X11_bad : GoodIn wsX11_forget wsX11_bad := goodIn_r _ [10, 11, 12, 13, 14, 15, 16, 17, 18, 19, 20, 21, 22, 23, 24, 25, 26, 27, 28, 29, 30, 31, 32] (by decide +kernel) (by decide +kernel)
set_option maxRecDepth 20000 in
theorem gX11_forget_X11_bad : GoodIn wsX11_forget (wsV RX11 79 RX11 yX11_bad wsX11_bad) := goodIn_app (goodIn_of _ (by decide +kernel)) ggX11_forget_X11_bad
theorem dX11_forget_15 : decode cX11_forget 15 = .ok (.invokevirtual 79, 3) := by decide +kernel
theorem dX11_forget_18 : decode cX11_forget 18 = .ok (.ireturn, 1) := by decide +kernel
set_option maxHeartbeats 8000000 in
set_option maxRecDepth 100000 in
theorem c_X11_forget (l : Launch) (G : gG) (m0 : Nat) (m0A : Nat) (m0K : Nat) (m0I : Nat) (m0R : Nat) (m0H : Nat) (m0F : Nat) (m0W : Nat) (m0L : Nat) (m0B : Nat) (m0T : Nat) (m0O : Nat) (m0Y : Nat) (m0N : Nat) (m0V : Nat) (a1 : Int32) (sz : Nat) : gI G l yX11_forget wsX11_forget ({ frames := 1, cells := 0, slots := 0, locals := 25 } : Room) [.ref m0, .int a1] [(m0, .inr (10, [.ref m0A, .ref m0K, .ref m0I, .ref m0R, .long 0, .long 1, .ref m0H, .ref m0F, .ref m0W, .ref m0L, .ref m0B, .ref m0T, .ref m0O, .ref m0Y, .int 0, .int 0, .int 0, .int 0, .int 0, .ref m0N, .ref m0V])), (m0A, .inl (G.2 0, 311, .inl (fun _ => 0))), (m0R, .inl (G.2 0, 3, .inl (fun _ => 0)))] sz (fun (r : Int32) (u : va_W) => (r = (F_forget a1) ∧ u = [])) := by
  refine Met.ofW (cc := cX11_forget) (maxL := 3) (ret := (some .int)) (by decide) rfl ?_
  intro p e s m args below meth c s₁ B hml hv
  obtain ⟨rfl, hsz, hP, hK, hD0, hN⟩ := hv
  have hx := B.exec
  have hb := B.bytes
  have hr := B.returns
  have hts := atoms_spec (ws := wsX11_forget) B.pre
  have hown : s.vm.findClass RX11 = some m.cls := findClass_of_methodNamed B.named
  have hlocks := B.notSynchronized
  subst hsz
  have hD := hD0.self (sz := s.heap.size)
  generalize hAe : va_A [(m0, .inr (10, [.ref m0A, .ref m0K, .ref m0I, .ref m0R, .long 0, .long 1, .ref m0H, .ref m0F, .ref m0W, .ref m0L, .ref m0B, .ref m0T, .ref m0O, .ref m0Y, .int 0, .int 0, .int 0, .int 0, .int 0, .ref m0N, .ref m0V])), (m0A, .inl (G.2 0, 311, .inl (fun _ => 0))), (m0R, .inl (G.2 0, 3, .inl (fun _ => 0)))] s.heap.size = A at hD ⊢
  have hA : ∀ q : Nat, s.heap.size ≤ q → A q := fun q h => by rw [← hAe]; exact Or.inr h
  have hS : va_S A s.heap s.heap [] := va_S.rf
  have hP : va_P G.1 vwCl [(m0, .inr (10, [.ref m0A, .ref m0K, .ref m0I, .ref m0R, .long 0, .long 1, .ref m0H, .ref m0F, .ref m0W, .ref m0L, .ref m0B, .ref m0T, .ref m0O, .ref m0Y, .int 0, .int 0, .int 0, .int 0, .int 0, .ref m0N, .ref m0V])), (m0A, .inl (G.2 0, 311, .inl (fun _ => 0))), (m0R, .inl (G.2 0, 3, .inl (fun _ => 0)))] s.heap := hP
  have hl := lv_entry ([.ref m0, .int a1]) (n := 3) (Nat.le_of_ble_eq_true rfl)
  rw [lg_entry_eq]
  generalize (lg_sl ([.ref m0, .int a1]) ++ List.replicate (3 - (lg_sl ([.ref m0, .int a1])).length) Slot.unset).toArray = ls at hl ⊢
  have hl : lv_has ls 3 [(0, .ref m0), (1, .int a1)] := hl
  refine lv_iload_n hx hb dX11_forget_0 rfl (lv_at hl 1 rfl) ?_
  refine lv_i2l (v := a1.toInt64) hx hb dX11_forget_1 rfl ?_
  refine lv_lconst (v := 0) hx hb dX11_forget_2 (by decide) ?_
  refine lv_ldc2 (v := 2) hx hb hown (hts _ (List.mem_of_getElem? (i := 1) rfl)) dX11_forget_3 ?_
  refine g_calli (wr := [(m0, .inr (10, [.ref m0A, .ref m0K, .ref m0I, .ref m0R, .long 0, .long 1, .ref m0H, .ref m0F, .ref m0W, .ref m0L, .ref m0B, .ref m0T, .ref m0O, .ref m0Y, .int 0, .int 0, .int 0, .int 0, .int 0, .ref m0N, .ref m0V])), (m0A, .inl (G.2 0, 311, .inl (fun _ => 0))), (m0R, .inl (G.2 0, 3, .inl (fun _ => 0)))]) (va_runS (As := [.long a1.toInt64, .long 0, .long 2]) (rest := []) ⟨hx, hb, hml, hown, hts⟩ (c_X11_in l G (a1.toInt64) (0) (2) _) (va_cwS 3 hts gX11_forget_X11_in rfl rfl rfl (by decide +kernel) ⟨Nat.le_of_ble_eq_true rfl, Nat.le_of_ble_eq_true rfl⟩) (g_preS [.long a1.toInt64, .long 0, .long 2] hP hD hK hN [] rfl rfl) rfl rfl hl.1 rfl (lv_room (Nat.le_of_ble_eq_true rfl)) dX11_forget_6 ⟨Nat.le_of_ble_eq_true rfl, Nat.le_of_ble_eq_true rfl⟩) hP hD hS hA [] [0, 1, 2] rfl rfl rfl (by decide) (fun r_1 u H locs hw hP hD hS => ?_)
  rcases hw with ⟨k_2, rfl, rfl⟩ | ⟨k_3, rfl, rfl⟩
  · have hP : va_P G.1 vwCl [(m0, .inr (10, [.ref m0A, .ref m0K, .ref m0I, .ref m0R, .long 0, .long 1, .ref m0H, .ref m0F, .ref m0W, .ref m0L, .ref m0B, .ref m0T, .ref m0O, .ref m0Y, .int 0, .int 0, .int 0, .int 0, .int 0, .ref m0N, .ref m0V])), (m0A, .inl (G.2 0, 311, .inl (fun _ => 0))), (m0R, .inl (G.2 0, 3, .inl (fun _ => 0)))] H := hP
    have hD : va_D A [(m0, .inr (10, [.ref m0A, .ref m0K, .ref m0I, .ref m0R, .long 0, .long 1, .ref m0H, .ref m0F, .ref m0W, .ref m0L, .ref m0B, .ref m0T, .ref m0O, .ref m0Y, .int 0, .int 0, .int 0, .int 0, .int 0, .ref m0N, .ref m0V])), (m0A, .inl (G.2 0, 311, .inl (fun _ => 0))), (m0R, .inl (G.2 0, 3, .inl (fun _ => 0)))] := hD
    refine lv_if_ne (tgt := 19) hx hb dX11_forget_9 (by decide) (fun _ => ?_) (fun c_4 => g_no c_4 (by decide))
    refine lv_aload_n hx hb dX11_forget_19 rfl (lv_at hl 0 rfl) ?_
    refine va_get (D := G.1) (ci := 10) (v := .ref m0A) (C := RX11) (T := TX11) (N := 21) hx hb hts (fun _ h => List.mem_cons_of_mem _ (List.mem_append_right _ h)) hown hK hP 0 rfl rfl 0 (by decide) (hts _ (List.mem_of_getElem? (i := 2) rfl)) (fun _ h9 => h9) rfl dX11_forget_20 ?_
    refine lv_iconst (v := 2) hx hb dX11_forget_23 (by decide) ?_
    refine lv_iload_n hx hb dX11_forget_24 rfl (lv_at hl 1 rfl) ?_
    refine lv_iadd hx hb dX11_forget_25 ?_
    refine va_iald hx hb hK hP 1 0 rfl rfl (in_two k_2) dX11_forget_26 ?_
    refine g_topi (y := 0) rfl ?_
    refine lv_istore_n (lv' := [(2, .int 0), (0, .ref m0), (1, .int a1)]) hx hb dX11_forget_27 rfl hl (by decide) rfl (fun ls hl => ?_)
    refine lv_aload_n hx hb dX11_forget_28 rfl (lv_at hl 1 rfl) ?_
    refine va_get (D := G.1) (ci := 10) (v := .ref m0A) (C := RX11) (T := TX11) (N := 21) hx hb hts (fun _ h => List.mem_cons_of_mem _ (List.mem_append_right _ h)) hown hK hP 0 rfl rfl 0 (by decide) (hts _ (List.mem_of_getElem? (i := 2) rfl)) (fun _ h9 => h9) rfl dX11_forget_29 ?_
    refine lv_iconst (v := 2) hx hb dX11_forget_32 (by decide) ?_
    refine lv_iload_n hx hb dX11_forget_33 rfl (lv_at hl 2 rfl) ?_
    refine lv_iadd hx hb dX11_forget_34 ?_
    refine lv_iconst (v := 0) hx hb dX11_forget_35 (by decide) ?_
    refine va_iast hx hb hK hP hD hS 1 0 rfl rfl (in_two k_2) dX11_forget_36 (fun H locs hP hD hS => ?_)
    rw [upd_zz] at hP hD
    have hP : va_P G.1 vwCl [(m0, .inr (10, [.ref m0A, .ref m0K, .ref m0I, .ref m0R, .long 0, .long 1, .ref m0H, .ref m0F, .ref m0W, .ref m0L, .ref m0B, .ref m0T, .ref m0O, .ref m0Y, .int 0, .int 0, .int 0, .int 0, .int 0, .ref m0N, .ref m0V])), (m0A, .inl (G.2 0, 311, .inl (fun _ => 0))), (m0R, .inl (G.2 0, 3, .inl (fun _ => 0)))] H := hP
    have hD : va_D A [(m0, .inr (10, [.ref m0A, .ref m0K, .ref m0I, .ref m0R, .long 0, .long 1, .ref m0H, .ref m0F, .ref m0W, .ref m0L, .ref m0B, .ref m0T, .ref m0O, .ref m0Y, .int 0, .int 0, .int 0, .int 0, .int 0, .ref m0N, .ref m0V])), (m0A, .inl (G.2 0, 311, .inl (fun _ => 0))), (m0R, .inl (G.2 0, 3, .inl (fun _ => 0)))] := hD
    refine lv_iload_n hx hb dX11_forget_37 rfl (lv_at hl 0 rfl) ?_
    have hP := hP.sub (ws' := []) [] rfl
    have hD := hD.sub (ws' := []) [] rfl rfl
    exact g_iret (v := 0) hx hb hr hlocks hP hD hS (⟨by have e1 := (inL_i (lo := 0) (n := a1) (hi := 2) (by decide) (by decide)).symm.trans k_2; simp [F_forget, e1], rfl⟩) dX11_forget_38
  · have hP : va_P G.1 vwCl [(m0, .inr (10, [.ref m0A, .ref m0K, .ref m0I, .ref m0R, .long 0, .long 1, .ref m0H, .ref m0F, .ref m0W, .ref m0L, .ref m0B, .ref m0T, .ref m0O, .ref m0Y, .int 0, .int 0, .int 0, .int 0, .int 0, .ref m0N, .ref m0V])), (m0A, .inl (G.2 0, 311, .inl (fun _ => 0))), (m0R, .inl (G.2 0, 3, .inl (fun _ => 0)))] H := hP
    have hD : va_D A [(m0, .inr (10, [.ref m0A, .ref m0K, .ref m0I, .ref m0R, .long 0, .long 1, .ref m0H, .ref m0F, .ref m0W, .ref m0L, .ref m0B, .ref m0T, .ref m0O, .ref m0Y, .int 0, .int 0, .int 0, .int 0, .int 0, .ref m0N, .ref m0V])), (m0A, .inl (G.2 0, 311, .inl (fun _ => 0))), (m0R, .inl (G.2 0, 3, .inl (fun _ => 0)))] := hD
    refine lv_if_ne (tgt := 19) hx hb dX11_forget_9 (by decide) (fun c_5 => g_no (by decide) c_5) (fun _ => ?_)
    refine lv_aload_n hx hb dX11_forget_12 rfl (lv_at hl 0 rfl) ?_
    refine lv_bipush (v := (-2)) hx hb dX11_forget_13 (by decide) ?_
    refine g_calli (wr := [(m0A, .inl (G.2 0, 311, .inl (fun _ => 0)))]) (va_runV (As := [.int (-2)]) (rest := []) ⟨hx, hb, hml, hown, hts⟩ (c_X11_bad l G (m0) (m0A) (m0K) (m0I) (m0R) (m0H) (m0F) (m0W) (m0L) (m0B) (m0T) (m0O) (m0Y) (m0N) (m0V) ((-2)) _) (cwV 1 hts gX11_forget_X11_bad rfl rfl rfl (by decide +kernel) ⟨Nat.le_of_ble_eq_true rfl, Nat.le_of_ble_eq_true rfl⟩) (g_preV m0 [.int (-2)] hP hD hK hN [0, 2] rfl rfl 0 (ci := 10) rfl rfl) rfl rfl hl.1 rfl (lv_room (Nat.le_of_ble_eq_true rfl)) dX11_forget_15 ⟨Nat.le_of_ble_eq_true rfl, Nat.le_of_ble_eq_true rfl⟩) hP hD hS hA [0, 2] [1] rfl rfl rfl (by decide) (fun r_6 u H locs hw hP hD hS => ?_)
    obtain ⟨rfl, rfl⟩ := hw
    have hP : va_P G.1 vwCl [(m0A, .inl (G.2 0, 311, .inl (fun _ => 0)))] H := hP
    have hD : va_D A [(m0A, .inl (G.2 0, 311, .inl (fun _ => 0)))] := hD
    have hP := hP.sub (ws' := []) [] rfl
    have hD := hD.sub (ws' := []) [] rfl rfl
    exact g_iret (v := (-2)) hx hb hr hlocks hP hD hS (⟨by have e1 := (inL_i (lo := 0) (n := a1) (hi := 2) (by decide) (by decide)).symm.trans k_3; simp [F_forget, e1], rfl⟩) dX11_forget_18
theorem dX11_status_0 : decode cX11_status 0 = .ok (.iload_n 1, 1) := by decide +kernel
theorem dX11_status_1 : decode cX11_status 1 = .ok (.i2l, 1) := by decide +kernel
theorem dX11_status_2 : decode cX11_status 2 = .ok (.lconst 0, 1) := by decide +kernel
theorem dX11_status_3 : decode cX11_status 3 = .ok (.ldc2_w 180, 3) := by decide +kernel
set_option maxRecDepth 20000 in
theorem ggX11_status_X11_in : GoodIn wsX11_status wsX11_in := goodIn_r _ [6] (by decide +kernel) (by decide +kernel)
set_option maxRecDepth 20000 in
theorem gX11_status_X11_in : GoodIn wsX11_status (va_wsS RX11 65 yX11_in wsX11_in) := goodIn_app (goodIn_of _ (by decide +kernel)) ggX11_status_X11_in
theorem dX11_status_6 : decode cX11_status 6 = .ok (.invokestatic 65, 3) := by decide +kernel
theorem dX11_status_9 : decode cX11_status 9 = .ok (.ifCond .eq 12, 3) := by decide +kernel
theorem dX11_status_12 : decode cX11_status 12 = .ok (.aload_n 0, 1) := by decide +kernel
theorem dX11_status_13 : decode cX11_status 13 = .ok (.getfield 20, 3) := by decide +kernel
theorem dX11_status_16 : decode cX11_status 16 = .ok (.iload_n 1, 1) := by decide +kernel
theorem dX11_status_17 : decode cX11_status 17 = .ok (.iaload, 1) := by decide +kernel
theorem dX11_status_18 : decode cX11_status 18 = .ok (.goto 8, 3) := by decide +kernel
theorem dX11_status_26 : decode cX11_status 26 = .ok (.ireturn, 1) := by decide +kernel
theorem dX11_status_21 : decode cX11_status 21 = .ok (.aload_n 0, 1) := by decide +kernel
theorem dX11_status_22 : decode cX11_status 22 = .ok (.iconst (-1), 1) := by decide +kernel
set_option maxRecDepth 20000 in
theorem ggX11_status_X11_bad : GoodIn wsX11_status wsX11_bad := goodIn_r _ [10, 2, 11, 12, 13, 14, 15, 16, 17, 18, 19, 20, 21, 22, 23, 24, 25, 26, 27, 28, 29, 30, 31] (by decide +kernel) (by decide +kernel)
set_option maxRecDepth 20000 in
theorem gX11_status_X11_bad : GoodIn wsX11_status (wsV RX11 79 RX11 yX11_bad wsX11_bad) := goodIn_app (goodIn_of _ (by decide +kernel)) ggX11_status_X11_bad
theorem dX11_status_23 : decode cX11_status 23 = .ok (.invokevirtual 79, 3) := by decide +kernel
set_option maxHeartbeats 8000000 in
set_option maxRecDepth 100000 in
theorem c_X11_status (l : Launch) (G : gG) (m0 : Nat) (m0A : Nat) (m0K : Nat) (m0I : Nat) (m0R : Nat) (m0H : Nat) (m0F : Nat) (m0W : Nat) (m0L : Nat) (m0B : Nat) (m0T : Nat) (m0O : Nat) (m0Y : Nat) (m0N : Nat) (m0V : Nat) (a1 : Int32) (sz : Nat) : gI G l yX11_status wsX11_status ({ frames := 1, cells := 0, slots := 0, locals := 25 } : Room) [.ref m0, .int a1] [(m0, .inr (10, [.ref m0A, .ref m0K, .ref m0I, .ref m0R, .long 0, .long 1, .ref m0H, .ref m0F, .ref m0W, .ref m0L, .ref m0B, .ref m0T, .ref m0O, .ref m0Y, .int 0, .int 0, .int 0, .int 0, .int 0, .ref m0N, .ref m0V])), (m0R, .inl (G.2 0, 3, .inl (fun _ => 0)))] sz (fun (r : Int32) (u : va_W) => (r = (F_status a1) ∧ u = [])) := by
  refine Met.ofW (cc := cX11_status) (maxL := 2) (ret := (some .int)) (by decide) rfl ?_
  intro p e s m args below meth c s₁ B hml hv
  obtain ⟨rfl, hsz, hP, hK, hD0, hN⟩ := hv
  have hx := B.exec
  have hb := B.bytes
  have hr := B.returns
  have hts := atoms_spec (ws := wsX11_status) B.pre
  have hown : s.vm.findClass RX11 = some m.cls := findClass_of_methodNamed B.named
  have hlocks := B.notSynchronized
  subst hsz
  have hD := hD0.self (sz := s.heap.size)
  generalize hAe : va_A [(m0, .inr (10, [.ref m0A, .ref m0K, .ref m0I, .ref m0R, .long 0, .long 1, .ref m0H, .ref m0F, .ref m0W, .ref m0L, .ref m0B, .ref m0T, .ref m0O, .ref m0Y, .int 0, .int 0, .int 0, .int 0, .int 0, .ref m0N, .ref m0V])), (m0R, .inl (G.2 0, 3, .inl (fun _ => 0)))] s.heap.size = A at hD ⊢
  have hA : ∀ q : Nat, s.heap.size ≤ q → A q := fun q h => by rw [← hAe]; exact Or.inr h
  have hS : va_S A s.heap s.heap [] := va_S.rf
  have hP : va_P G.1 vwCl [(m0, .inr (10, [.ref m0A, .ref m0K, .ref m0I, .ref m0R, .long 0, .long 1, .ref m0H, .ref m0F, .ref m0W, .ref m0L, .ref m0B, .ref m0T, .ref m0O, .ref m0Y, .int 0, .int 0, .int 0, .int 0, .int 0, .ref m0N, .ref m0V])), (m0R, .inl (G.2 0, 3, .inl (fun _ => 0)))] s.heap := hP
  have hl := lv_entry ([.ref m0, .int a1]) (n := 2) (Nat.le_of_ble_eq_true rfl)
  rw [lg_entry_eq]
  generalize (lg_sl ([.ref m0, .int a1]) ++ List.replicate (2 - (lg_sl ([.ref m0, .int a1])).length) Slot.unset).toArray = ls at hl ⊢
  have hl : lv_has ls 2 [(0, .ref m0), (1, .int a1)] := hl
  refine lv_iload_n hx hb dX11_status_0 rfl (lv_at hl 1 rfl) ?_
  refine lv_i2l (v := a1.toInt64) hx hb dX11_status_1 rfl ?_
  refine lv_lconst (v := 0) hx hb dX11_status_2 (by decide) ?_
  refine lv_ldc2 (v := 2) hx hb hown (hts _ (List.mem_of_getElem? (i := 1) rfl)) dX11_status_3 ?_
  refine g_calli (wr := [(m0, .inr (10, [.ref m0A, .ref m0K, .ref m0I, .ref m0R, .long 0, .long 1, .ref m0H, .ref m0F, .ref m0W, .ref m0L, .ref m0B, .ref m0T, .ref m0O, .ref m0Y, .int 0, .int 0, .int 0, .int 0, .int 0, .ref m0N, .ref m0V])), (m0R, .inl (G.2 0, 3, .inl (fun _ => 0)))]) (va_runS (As := [.long a1.toInt64, .long 0, .long 2]) (rest := []) ⟨hx, hb, hml, hown, hts⟩ (c_X11_in l G (a1.toInt64) (0) (2) _) (va_cwS 3 hts gX11_status_X11_in rfl rfl rfl (by decide +kernel) ⟨Nat.le_of_ble_eq_true rfl, Nat.le_of_ble_eq_true rfl⟩) (g_preS [.long a1.toInt64, .long 0, .long 2] hP hD hK hN [] rfl rfl) rfl rfl hl.1 rfl (lv_room (Nat.le_of_ble_eq_true rfl)) dX11_status_6 ⟨Nat.le_of_ble_eq_true rfl, Nat.le_of_ble_eq_true rfl⟩) hP hD hS hA [] [0, 1] rfl rfl rfl (by decide) (fun r_1 u H locs hw hP hD hS => ?_)
  rcases hw with ⟨k_2, rfl, rfl⟩ | ⟨k_3, rfl, rfl⟩
  · have hP : va_P G.1 vwCl [(m0, .inr (10, [.ref m0A, .ref m0K, .ref m0I, .ref m0R, .long 0, .long 1, .ref m0H, .ref m0F, .ref m0W, .ref m0L, .ref m0B, .ref m0T, .ref m0O, .ref m0Y, .int 0, .int 0, .int 0, .int 0, .int 0, .ref m0N, .ref m0V])), (m0R, .inl (G.2 0, 3, .inl (fun _ => 0)))] H := hP
    have hD : va_D A [(m0, .inr (10, [.ref m0A, .ref m0K, .ref m0I, .ref m0R, .long 0, .long 1, .ref m0H, .ref m0F, .ref m0W, .ref m0L, .ref m0B, .ref m0T, .ref m0O, .ref m0Y, .int 0, .int 0, .int 0, .int 0, .int 0, .ref m0N, .ref m0V])), (m0R, .inl (G.2 0, 3, .inl (fun _ => 0)))] := hD
    refine lv_if_eq (tgt := 21) hx hb dX11_status_9 (by decide) (fun c_4 => g_no c_4 (by decide)) (fun _ => ?_)
    refine lv_aload_n hx hb dX11_status_12 rfl (lv_at hl 0 rfl) ?_
    refine va_get (D := G.1) (ci := 10) (v := .ref m0R) (C := RX11) (T := TX11) (N := 21) hx hb hts (fun _ h => List.mem_cons_of_mem _ (List.mem_append_right _ h)) hown hK hP 0 rfl rfl 3 (by decide) (hts _ (List.mem_of_getElem? (i := 2) rfl)) (fun _ h9 => h9) rfl dX11_status_13 ?_
    refine lv_iload_n hx hb dX11_status_16 rfl (lv_at hl 1 rfl) ?_
    refine va_iald hx hb hK hP 1 0 rfl rfl (in_inL (hi := 2) k_2 (by decide) (by decide) (by decide)) dX11_status_17 ?_
    refine g_topi (y := 0) rfl ?_
    refine lv_goto (tgt := 26) hx hb dX11_status_18 (by decide) ?_
    have hP := hP.sub (ws' := []) [] rfl
    have hD := hD.sub (ws' := []) [] rfl rfl
    exact g_iret (v := 0) hx hb hr hlocks hP hD hS (⟨by have e1 := (inL_i (lo := 0) (n := a1) (hi := 2) (by decide) (by decide)).symm.trans k_2; simp [F_status, e1], rfl⟩) dX11_status_26
  · have hP : va_P G.1 vwCl [(m0, .inr (10, [.ref m0A, .ref m0K, .ref m0I, .ref m0R, .long 0, .long 1, .ref m0H, .ref m0F, .ref m0W, .ref m0L, .ref m0B, .ref m0T, .ref m0O, .ref m0Y, .int 0, .int 0, .int 0, .int 0, .int 0, .ref m0N, .ref m0V])), (m0R, .inl (G.2 0, 3, .inl (fun _ => 0)))] H := hP
    have hD : va_D A [(m0, .inr (10, [.ref m0A, .ref m0K, .ref m0I, .ref m0R, .long 0, .long 1, .ref m0H, .ref m0F, .ref m0W, .ref m0L, .ref m0B, .ref m0T, .ref m0O, .ref m0Y, .int 0, .int 0, .int 0, .int 0, .int 0, .ref m0N, .ref m0V])), (m0R, .inl (G.2 0, 3, .inl (fun _ => 0)))] := hD
    refine lv_if_eq (tgt := 21) hx hb dX11_status_9 (by decide) (fun _ => ?_) (fun c_5 => g_no (by decide) c_5)
    refine lv_aload_n hx hb dX11_status_21 rfl (lv_at hl 0 rfl) ?_
    refine lv_iconst (v := (-1)) hx hb dX11_status_22 (by decide) ?_
    refine g_calli (wr := []) (va_runV (As := [.int (-1)]) (rest := []) ⟨hx, hb, hml, hown, hts⟩ (c_X11_bad l G (m0) (m0A) (m0K) (m0I) (m0R) (m0H) (m0F) (m0W) (m0L) (m0B) (m0T) (m0O) (m0Y) (m0N) (m0V) ((-1)) _) (cwV 1 hts gX11_status_X11_bad rfl rfl rfl (by decide +kernel) ⟨Nat.le_of_ble_eq_true rfl, Nat.le_of_ble_eq_true rfl⟩) (g_preV m0 [.int (-1)] hP hD hK hN [0, 1] rfl rfl 0 (ci := 10) rfl rfl) rfl rfl hl.1 rfl (lv_room (Nat.le_of_ble_eq_true rfl)) dX11_status_23 ⟨Nat.le_of_ble_eq_true rfl, Nat.le_of_ble_eq_true rfl⟩) hP hD hS hA [0, 1] [] rfl rfl rfl (by decide) (fun r_6 u H locs hw hP hD hS => ?_)
    obtain ⟨rfl, rfl⟩ := hw
    have hP : va_P G.1 vwCl [] H := hP
    have hD : va_D A [] := hD
    exact g_iret (v := (-1)) hx hb hr hlocks hP hD hS (⟨by have e1 := (inL_i (lo := 0) (n := a1) (hi := 2) (by decide) (by decide)).symm.trans k_3; simp [F_status, e1], rfl⟩) dX11_status_26
theorem dX11_from_0 : decode cX11_from 0 = .ok (.iload_n 1, 1) := by decide +kernel
theorem dX11_from_1 : decode cX11_from 1 = .ok (.i2l, 1) := by decide +kernel
theorem dX11_from_2 : decode cX11_from 2 = .ok (.lconst 0, 1) := by decide +kernel
theorem dX11_from_3 : decode cX11_from 3 = .ok (.lconst 1, 1) := by decide +kernel
set_option maxRecDepth 20000 in
theorem ggX11_from_X11_in : GoodIn wsX11_from wsX11_in := goodIn_r _ [7] (by decide +kernel) (by decide +kernel)
set_option maxRecDepth 20000 in
theorem gX11_from_X11_in : GoodIn wsX11_from (va_wsS RX11 65 yX11_in wsX11_in) := goodIn_app (goodIn_of _ (by decide +kernel)) ggX11_from_X11_in
theorem dX11_from_4 : decode cX11_from 4 = .ok (.invokestatic 65, 3) := by decide +kernel
theorem dX11_from_7 : decode cX11_from 7 = .ok (.ifCond .ne 10, 3) := by decide +kernel
theorem dX11_from_17 : decode cX11_from 17 = .ok (.aload_n 0, 1) := by decide +kernel
theorem dX11_from_18 : decode cX11_from 18 = .ok (.getfield 16, 3) := by decide +kernel
theorem dX11_from_21 : decode cX11_from 21 = .ok (.iload_n 1, 1) := by decide +kernel
theorem dX11_from_22 : decode cX11_from 22 = .ok (.baload, 1) := by decide +kernel
theorem dX11_from_23 : decode cX11_from 23 = .ok (.ifCond .ne 8, 3) := by decide +kernel
theorem dX11_from_26 : decode cX11_from 26 = .ok (.aload_n 0, 1) := by decide +kernel
set_option maxRecDepth 20000 in
theorem ggX11_from_X11_no : GoodIn wsX11_from wsX11_no := goodIn_r _ [16, 12, 17, 18, 19, 20, 21, 22, 23, 24, 25, 26, 27, 28, 29, 30, 31, 32, 33, 34, 35, 36, 37] (by decide +kernel) (by decide +kernel)
set_option maxRecDepth 20000 in
theorem gX11_from_X11_no : GoodIn wsX11_from (wsV RX11 149 RX11 yX11_no wsX11_no) := goodIn_app (goodIn_of _ (by decide +kernel)) ggX11_from_X11_no
theorem dX11_from_27 : decode cX11_from 27 = .ok (.invokevirtual 149, 3) := by decide +kernel
theorem dX11_from_30 : decode cX11_from 30 = .ok (.ireturn, 1) := by decide +kernel
theorem dX11_from_10 : decode cX11_from 10 = .ok (.aload_n 0, 1) := by decide +kernel
theorem dX11_from_11 : decode cX11_from 11 = .ok (.bipush (-2), 2) := by decide +kernel
set_option maxRecDepth 20000 in
theorem ggX11_from_X11_bad : GoodIn wsX11_from wsX11_bad := goodIn_r _ [11, 12, 17, 18, 19, 20, 21, 22, 23, 24, 25, 26, 27, 28, 29, 30, 31, 32, 33, 34, 35, 36, 37] (by decide +kernel) (by decide +kernel)
set_option maxRecDepth 20000 in
theorem gX11_from_X11_bad : GoodIn wsX11_from (wsV RX11 79 RX11 yX11_bad wsX11_bad) := goodIn_app (goodIn_of _ (by decide +kernel)) ggX11_from_X11_bad
theorem dX11_from_13 : decode cX11_from 13 = .ok (.invokevirtual 79, 3) := by decide +kernel
theorem dX11_from_16 : decode cX11_from 16 = .ok (.ireturn, 1) := by decide +kernel
set_option maxHeartbeats 8000000 in
set_option maxRecDepth 100000 in
theorem c_X11_from (l : Launch) (G : gG) (m0 : Nat) (m0A : Nat) (m0K : Nat) (m0I : Nat) (m0R : Nat) (m0H : Nat) (m0F : Nat) (m0W : Nat) (m0L : Nat) (m0B : Nat) (m0T : Nat) (m0O : Nat) (m0Y : Nat) (m0N : Nat) (m0V : Nat) (a1 : Int32) (sz : Nat) : gI G l yX11_from wsX11_from ({ frames := 1, cells := 0, slots := 0, locals := 25 } : Room) [.ref m0, .int a1] [(m0, .inr (10, [.ref m0A, .ref m0K, .ref m0I, .ref m0R, .long 0, .long 1, .ref m0H, .ref m0F, .ref m0W, .ref m0L, .ref m0B, .ref m0T, .ref m0O, .ref m0Y, .int 0, .int 0, .int 0, .int 0, .int 0, .ref m0N, .ref m0V])), (m0I, .inl (G.2 1, 2, .inl (fun _ => 0))), (m0R, .inl (G.2 0, 3, .inl (fun _ => 0)))] sz (fun (r : Int32) (u : va_W) => (r = (F_from a1) ∧ u = [])) := by
  refine Met.ofW (cc := cX11_from) (maxL := 3) (ret := (some .int)) (by decide) rfl ?_
  intro p e s m args below meth c s₁ B hml hv
  obtain ⟨rfl, hsz, hP, hK, hD0, hN⟩ := hv
  have hx := B.exec
  have hb := B.bytes
  have hr := B.returns
  have hts := atoms_spec (ws := wsX11_from) B.pre
  have hown : s.vm.findClass RX11 = some m.cls := findClass_of_methodNamed B.named
  have hlocks := B.notSynchronized
  subst hsz
  have hD := hD0.self (sz := s.heap.size)
  generalize hAe : va_A [(m0, .inr (10, [.ref m0A, .ref m0K, .ref m0I, .ref m0R, .long 0, .long 1, .ref m0H, .ref m0F, .ref m0W, .ref m0L, .ref m0B, .ref m0T, .ref m0O, .ref m0Y, .int 0, .int 0, .int 0, .int 0, .int 0, .ref m0N, .ref m0V])), (m0I, .inl (G.2 1, 2, .inl (fun _ => 0))), (m0R, .inl (G.2 0, 3, .inl (fun _ => 0)))] s.heap.size = A at hD ⊢
  have hA : ∀ q : Nat, s.heap.size ≤ q → A q := fun q h => by rw [← hAe]; exact Or.inr h
  have hS : va_S A s.heap s.heap [] := va_S.rf
  have hP : va_P G.1 vwCl [(m0, .inr (10, [.ref m0A, .ref m0K, .ref m0I, .ref m0R, .long 0, .long 1, .ref m0H, .ref m0F, .ref m0W, .ref m0L, .ref m0B, .ref m0T, .ref m0O, .ref m0Y, .int 0, .int 0, .int 0, .int 0, .int 0, .ref m0N, .ref m0V])), (m0I, .inl (G.2 1, 2, .inl (fun _ => 0))), (m0R, .inl (G.2 0, 3, .inl (fun _ => 0)))] s.heap := hP
  have hl := lv_entry ([.ref m0, .int a1]) (n := 3) (Nat.le_of_ble_eq_true rfl)
  rw [lg_entry_eq]
  generalize (lg_sl ([.ref m0, .int a1]) ++ List.replicate (3 - (lg_sl ([.ref m0, .int a1])).length) Slot.unset).toArray = ls at hl ⊢
  have hl : lv_has ls 3 [(0, .ref m0), (1, .int a1)] := hl
  refine lv_iload_n hx hb dX11_from_0 rfl (lv_at hl 1 rfl) ?_
  refine lv_i2l (v := a1.toInt64) hx hb dX11_from_1 rfl ?_
  refine lv_lconst (v := 0) hx hb dX11_from_2 (by decide) ?_
  refine lv_lconst (v := 1) hx hb dX11_from_3 (by decide) ?_
  refine g_calli (wr := [(m0, .inr (10, [.ref m0A, .ref m0K, .ref m0I, .ref m0R, .long 0, .long 1, .ref m0H, .ref m0F, .ref m0W, .ref m0L, .ref m0B, .ref m0T, .ref m0O, .ref m0Y, .int 0, .int 0, .int 0, .int 0, .int 0, .ref m0N, .ref m0V])), (m0I, .inl (G.2 1, 2, .inl (fun _ => 0))), (m0R, .inl (G.2 0, 3, .inl (fun _ => 0)))]) (va_runS (As := [.long a1.toInt64, .long 0, .long 1]) (rest := []) ⟨hx, hb, hml, hown, hts⟩ (c_X11_in l G (a1.toInt64) (0) (1) _) (va_cwS 3 hts gX11_from_X11_in rfl rfl rfl (by decide +kernel) ⟨Nat.le_of_ble_eq_true rfl, Nat.le_of_ble_eq_true rfl⟩) (g_preS [.long a1.toInt64, .long 0, .long 1] hP hD hK hN [] rfl rfl) rfl rfl hl.1 rfl (lv_room (Nat.le_of_ble_eq_true rfl)) dX11_from_4 ⟨Nat.le_of_ble_eq_true rfl, Nat.le_of_ble_eq_true rfl⟩) hP hD hS hA [] [0, 1, 2] rfl rfl rfl (by decide) (fun r_1 u H locs hw hP hD hS => ?_)
  rcases hw with ⟨k_2, rfl, rfl⟩ | ⟨k_3, rfl, rfl⟩
  · have hP : va_P G.1 vwCl [(m0, .inr (10, [.ref m0A, .ref m0K, .ref m0I, .ref m0R, .long 0, .long 1, .ref m0H, .ref m0F, .ref m0W, .ref m0L, .ref m0B, .ref m0T, .ref m0O, .ref m0Y, .int 0, .int 0, .int 0, .int 0, .int 0, .ref m0N, .ref m0V])), (m0I, .inl (G.2 1, 2, .inl (fun _ => 0))), (m0R, .inl (G.2 0, 3, .inl (fun _ => 0)))] H := hP
    have hD : va_D A [(m0, .inr (10, [.ref m0A, .ref m0K, .ref m0I, .ref m0R, .long 0, .long 1, .ref m0H, .ref m0F, .ref m0W, .ref m0L, .ref m0B, .ref m0T, .ref m0O, .ref m0Y, .int 0, .int 0, .int 0, .int 0, .int 0, .ref m0N, .ref m0V])), (m0I, .inl (G.2 1, 2, .inl (fun _ => 0))), (m0R, .inl (G.2 0, 3, .inl (fun _ => 0)))] := hD
    refine lv_if_ne (tgt := 17) hx hb dX11_from_7 (by decide) (fun _ => ?_) (fun c_4 => g_no c_4 (by decide))
    refine lv_aload_n hx hb dX11_from_17 rfl (lv_at hl 0 rfl) ?_
    refine va_get (D := G.1) (ci := 10) (v := .ref m0I) (C := RX11) (T := TX11) (N := 21) hx hb hts (fun _ h => List.mem_cons_of_mem _ (List.mem_append_right _ h)) hown hK hP 0 rfl rfl 2 (by decide) (hts _ (List.mem_of_getElem? (i := 1) rfl)) (fun _ h9 => h9) rfl dX11_from_18 ?_
    refine lv_iload_n hx hb dX11_from_21 rfl (lv_at hl 1 rfl) ?_
    refine va_zald hx hb hK hP 1 1 rfl rfl (in_inL (hi := 1) k_2 (by decide) (by decide) (by decide)) dX11_from_22 ?_
    refine g_topi (y := 0) rfl ?_
    refine lv_if_ne (tgt := 31) hx hb dX11_from_23 (by decide) (fun c_5 => g_no (by decide) c_5) (fun _ => ?_)
    refine lv_aload_n hx hb dX11_from_26 rfl (lv_at hl 0 rfl) ?_
    refine g_calli (wr := [(m0I, .inl (G.2 1, 2, .inl (fun _ => 0)))]) (va_runV (As := []) (rest := []) ⟨hx, hb, hml, hown, hts⟩ (c_X11_no l G (m0) (m0A) (m0K) (m0I) (m0R) (m0H) (m0F) (m0W) (m0L) (m0B) (m0T) (m0O) (m0Y) (m0N) (m0V) _) (cwV 0 hts gX11_from_X11_no rfl rfl rfl (by decide +kernel) ⟨Nat.le_of_ble_eq_true rfl, Nat.le_of_ble_eq_true rfl⟩) (g_preV m0 [] hP hD hK hN [0, 2] rfl rfl 0 (ci := 10) rfl rfl) rfl rfl hl.1 rfl (lv_room (Nat.le_of_ble_eq_true rfl)) dX11_from_27 ⟨Nat.le_of_ble_eq_true rfl, Nat.le_of_ble_eq_true rfl⟩) hP hD hS hA [0, 2] [1] rfl rfl rfl (by decide) (fun r_6 u H locs hw hP hD hS => ?_)
    obtain ⟨rfl, rfl⟩ := hw
    have hP : va_P G.1 vwCl [(m0I, .inl (G.2 1, 2, .inl (fun _ => 0)))] H := hP
    have hD : va_D A [(m0I, .inl (G.2 1, 2, .inl (fun _ => 0)))] := hD
    have hP := hP.sub (ws' := []) [] rfl
    have hD := hD.sub (ws' := []) [] rfl rfl
    exact g_iret (v := (-3)) hx hb hr hlocks hP hD hS (⟨by have e1 := (inL_i (lo := 0) (n := a1) (hi := 1) (by decide) (by decide)).symm.trans k_2; simp [F_from, e1], rfl⟩) dX11_from_30
  · have hP : va_P G.1 vwCl [(m0, .inr (10, [.ref m0A, .ref m0K, .ref m0I, .ref m0R, .long 0, .long 1, .ref m0H, .ref m0F, .ref m0W, .ref m0L, .ref m0B, .ref m0T, .ref m0O, .ref m0Y, .int 0, .int 0, .int 0, .int 0, .int 0, .ref m0N, .ref m0V])), (m0I, .inl (G.2 1, 2, .inl (fun _ => 0))), (m0R, .inl (G.2 0, 3, .inl (fun _ => 0)))] H := hP
    have hD : va_D A [(m0, .inr (10, [.ref m0A, .ref m0K, .ref m0I, .ref m0R, .long 0, .long 1, .ref m0H, .ref m0F, .ref m0W, .ref m0L, .ref m0B, .ref m0T, .ref m0O, .ref m0Y, .int 0, .int 0, .int 0, .int 0, .int 0, .ref m0N, .ref m0V])), (m0I, .inl (G.2 1, 2, .inl (fun _ => 0))), (m0R, .inl (G.2 0, 3, .inl (fun _ => 0)))] := hD
    refine lv_if_ne (tgt := 17) hx hb dX11_from_7 (by decide) (fun c_7 => g_no (by decide) c_7) (fun _ => ?_)
    refine lv_aload_n hx hb dX11_from_10 rfl (lv_at hl 0 rfl) ?_
    refine lv_bipush (v := (-2)) hx hb dX11_from_11 (by decide) ?_
    refine g_calli (wr := [(m0I, .inl (G.2 1, 2, .inl (fun _ => 0)))]) (va_runV (As := [.int (-2)]) (rest := []) ⟨hx, hb, hml, hown, hts⟩ (c_X11_bad l G (m0) (m0A) (m0K) (m0I) (m0R) (m0H) (m0F) (m0W) (m0L) (m0B) (m0T) (m0O) (m0Y) (m0N) (m0V) ((-2)) _) (cwV 1 hts gX11_from_X11_bad rfl rfl rfl (by decide +kernel) ⟨Nat.le_of_ble_eq_true rfl, Nat.le_of_ble_eq_true rfl⟩) (g_preV m0 [.int (-2)] hP hD hK hN [0, 2] rfl rfl 0 (ci := 10) rfl rfl) rfl rfl hl.1 rfl (lv_room (Nat.le_of_ble_eq_true rfl)) dX11_from_13 ⟨Nat.le_of_ble_eq_true rfl, Nat.le_of_ble_eq_true rfl⟩) hP hD hS hA [0, 2] [1] rfl rfl rfl (by decide) (fun r_8 u H locs hw hP hD hS => ?_)
    obtain ⟨rfl, rfl⟩ := hw
    have hP : va_P G.1 vwCl [(m0I, .inl (G.2 1, 2, .inl (fun _ => 0)))] H := hP
    have hD : va_D A [(m0I, .inl (G.2 1, 2, .inl (fun _ => 0)))] := hD
    have hP := hP.sub (ws' := []) [] rfl
    have hD := hD.sub (ws' := []) [] rfl rfl
    exact g_iret (v := (-2)) hx hb hr hlocks hP hD hS (⟨by have e1 := (inL_i (lo := 0) (n := a1) (hi := 1) (by decide) (by decide)).symm.trans k_3; simp [F_from, e1], rfl⟩) dX11_from_16
theorem dX11_part_0 : decode cX11_part 0 = .ok (.iload_n 1, 1) := by decide +kernel
theorem dX11_part_1 : decode cX11_part 1 = .ok (.ifCond .ne 10, 3) := by decide +kernel
theorem dX11_part_11 : decode cX11_part 11 = .ok (.iload_n 1, 1) := by decide +kernel
theorem dX11_part_12 : decode cX11_part 12 = .ok (.iconst 1, 1) := by decide +kernel
theorem dX11_part_13 : decode cX11_part 13 = .ok (.if_icmp .ne 10, 3) := by decide +kernel
theorem dX11_part_23 : decode cX11_part 23 = .ok (.aload_n 0, 1) := by decide +kernel
theorem dX11_part_24 : decode cX11_part 24 = .ok (.bipush (-2), 2) := by decide +kernel
set_option maxRecDepth 20000 in
theorem ggX11_part_X11_bad : GoodIn wsX11_part wsX11_bad := goodIn_r _ [7, 8, 9, 10, 11, 12, 13, 14, 15, 16, 17, 18, 19, 20, 21, 22, 23, 24, 25, 26, 27, 28, 29] (by decide +kernel) (by decide +kernel)
set_option maxRecDepth 20000 in
theorem gX11_part_X11_bad : GoodIn wsX11_part (wsV RX11 79 RX11 yX11_bad wsX11_bad) := goodIn_app (goodIn_of _ (by decide +kernel)) ggX11_part_X11_bad
theorem dX11_part_26 : decode cX11_part 26 = .ok (.invokevirtual 79, 3) := by decide +kernel
theorem dX11_part_29 : decode cX11_part 29 = .ok (.i2l, 1) := by decide +kernel
theorem dX11_part_30 : decode cX11_part 30 = .ok (.lreturn, 1) := by decide +kernel
theorem dX11_part_16 : decode cX11_part 16 = .ok (.aload_n 0, 1) := by decide +kernel
theorem dX11_part_17 : decode cX11_part 17 = .ok (.getfield 23, 3) := by decide +kernel
theorem dX11_part_20 : decode cX11_part 20 = .ok (.goto 10, 3) := by decide +kernel
theorem dX11_part_4 : decode cX11_part 4 = .ok (.aload_n 0, 1) := by decide +kernel
theorem dX11_part_5 : decode cX11_part 5 = .ok (.getfield 207, 3) := by decide +kernel
theorem dX11_part_8 : decode cX11_part 8 = .ok (.goto 22, 3) := by decide +kernel
set_option maxHeartbeats 8000000 in
set_option maxRecDepth 100000 in
theorem c_X11_part (l : Launch) (G : gG) (m0 : Nat) (m0A : Nat) (m0K : Nat) (m0I : Nat) (m0R : Nat) (m0H : Nat) (m0F : Nat) (m0W : Nat) (m0L : Nat) (m0B : Nat) (m0T : Nat) (m0O : Nat) (m0Y : Nat) (m0N : Nat) (m0V : Nat) (a1 : Int32) (sz : Nat) : gL G l yX11_part wsX11_part ({ frames := 1, cells := 0, slots := 0, locals := 21 } : Room) [.ref m0, .int a1] [(m0, .inr (10, [.ref m0A, .ref m0K, .ref m0I, .ref m0R, .long 0, .long 1, .ref m0H, .ref m0F, .ref m0W, .ref m0L, .ref m0B, .ref m0T, .ref m0O, .ref m0Y, .int 0, .int 0, .int 0, .int 0, .int 0, .ref m0N, .ref m0V])), (m0R, .inl (G.2 0, 3, .inl (fun _ => 0)))] sz (fun (r : Int64) (u : va_W) => (r = (F_part a1) ∧ u = [])) := by
  refine Met.ofW (cc := cX11_part) (maxL := 2) (ret := (some .long)) (by decide) rfl ?_
  intro p e s m args below meth c s₁ B hml hv
  obtain ⟨rfl, hsz, hP, hK, hD0, hN⟩ := hv
  have hx := B.exec
  have hb := B.bytes
  have hr := B.returns
  have hts := atoms_spec (ws := wsX11_part) B.pre
  have hown : s.vm.findClass RX11 = some m.cls := findClass_of_methodNamed B.named
  have hlocks := B.notSynchronized
  subst hsz
  have hD := hD0.self (sz := s.heap.size)
  generalize hAe : va_A [(m0, .inr (10, [.ref m0A, .ref m0K, .ref m0I, .ref m0R, .long 0, .long 1, .ref m0H, .ref m0F, .ref m0W, .ref m0L, .ref m0B, .ref m0T, .ref m0O, .ref m0Y, .int 0, .int 0, .int 0, .int 0, .int 0, .ref m0N, .ref m0V])), (m0R, .inl (G.2 0, 3, .inl (fun _ => 0)))] s.heap.size = A at hD ⊢
  have hA : ∀ q : Nat, s.heap.size ≤ q → A q := fun q h => by rw [← hAe]; exact Or.inr h
  have hS : va_S A s.heap s.heap [] := va_S.rf
  have hP : va_P G.1 vwCl [(m0, .inr (10, [.ref m0A, .ref m0K, .ref m0I, .ref m0R, .long 0, .long 1, .ref m0H, .ref m0F, .ref m0W, .ref m0L, .ref m0B, .ref m0T, .ref m0O, .ref m0Y, .int 0, .int 0, .int 0, .int 0, .int 0, .ref m0N, .ref m0V])), (m0R, .inl (G.2 0, 3, .inl (fun _ => 0)))] s.heap := hP
  have hl := lv_entry ([.ref m0, .int a1]) (n := 2) (Nat.le_of_ble_eq_true rfl)
  rw [lg_entry_eq]
  generalize (lg_sl ([.ref m0, .int a1]) ++ List.replicate (2 - (lg_sl ([.ref m0, .int a1])).length) Slot.unset).toArray = ls at hl ⊢
  have hl : lv_has ls 2 [(0, .ref m0), (1, .int a1)] := hl
  refine lv_iload_n hx hb dX11_part_0 rfl (lv_at hl 1 rfl) ?_
  refine lv_if_ne (tgt := 11) hx hb dX11_part_1 (by decide) (fun c_1 => ?_) (fun c_1 => ?_)
  · refine lv_iload_n hx hb dX11_part_11 rfl (lv_at hl 1 rfl) ?_
    refine lv_iconst (v := 1) hx hb dX11_part_12 (by decide) ?_
    refine lv_icmp_ne (tgt := 23) hx hb dX11_part_13 (by decide) (fun c_2 => ?_) (fun c_2 => ?_)
    · refine lv_aload_n hx hb dX11_part_23 rfl (lv_at hl 0 rfl) ?_
      refine lv_bipush (v := (-2)) hx hb dX11_part_24 (by decide) ?_
      refine g_calli (wr := []) (va_runV (As := [.int (-2)]) (rest := []) ⟨hx, hb, hml, hown, hts⟩ (c_X11_bad l G (m0) (m0A) (m0K) (m0I) (m0R) (m0H) (m0F) (m0W) (m0L) (m0B) (m0T) (m0O) (m0Y) (m0N) (m0V) ((-2)) _) (cwV 1 hts gX11_part_X11_bad rfl rfl rfl (by decide +kernel) ⟨Nat.le_of_ble_eq_true rfl, Nat.le_of_ble_eq_true rfl⟩) (g_preV m0 [.int (-2)] hP hD hK hN [0, 1] rfl rfl 0 (ci := 10) rfl rfl) rfl rfl hl.1 rfl (lv_room (Nat.le_of_ble_eq_true rfl)) dX11_part_26 ⟨Nat.le_of_ble_eq_true rfl, Nat.le_of_ble_eq_true rfl⟩) hP hD hS hA [0, 1] [] rfl rfl rfl (by decide) (fun r_3 u H locs hw hP hD hS => ?_)
      obtain ⟨rfl, rfl⟩ := hw
      have hP : va_P G.1 vwCl [] H := hP
      have hD : va_D A [] := hD
      refine lv_i2l (v := (-2)) hx hb dX11_part_29 (by decide) ?_
      exact g_lret (v := (-2)) hx hb hr hlocks hP hD hS (⟨(part_out c_1 c_2).symm, rfl⟩) dX11_part_30
    · refine lv_aload_n hx hb dX11_part_16 rfl (lv_at hl 0 rfl) ?_
      refine va_get (D := G.1) (ci := 10) (v := .long 1) (C := RX11) (T := TX11) (N := 21) hx hb hts (fun _ h => List.mem_cons_of_mem _ (List.mem_append_right _ h)) hown hK hP 0 rfl rfl 5 (by decide) (hts _ (List.mem_of_getElem? (i := 2) rfl)) (fun _ h9 => h9) rfl dX11_part_17 ?_
      refine lv_goto (tgt := 30) hx hb dX11_part_20 (by decide) ?_
      have hP := hP.sub (ws' := []) [] rfl
      have hD := hD.sub (ws' := []) [] rfl rfl
      exact g_lret (v := 1) hx hb hr hlocks hP hD hS (⟨by rw [c_2]; decide, rfl⟩) dX11_part_30
  · refine lv_aload_n hx hb dX11_part_4 rfl (lv_at hl 0 rfl) ?_
    refine va_get (D := G.1) (ci := 10) (v := .long 0) (C := RX11) (T := TX11) (N := 21) hx hb hts (fun _ h => List.mem_cons_of_mem _ (List.mem_append_right _ h)) hown hK hP 0 rfl rfl 4 (by decide) (hts _ (List.mem_of_getElem? (i := 1) rfl)) (fun _ h9 => h9) rfl dX11_part_5 ?_
    refine lv_goto (tgt := 30) hx hb dX11_part_8 (by decide) ?_
    have hP := hP.sub (ws' := []) [] rfl
    have hD := hD.sub (ws' := []) [] rfl rfl
    exact g_lret (v := 0) hx hb hr hlocks hP hD hS (⟨by rw [c_1]; decide, rfl⟩) dX11_part_30
theorem dX11_manyWith_0 : decode cX11_manyWith 0 = .ok (.iconst 0, 1) := by decide +kernel
theorem dX11_manyWith_1 : decode cX11_manyWith 1 = .ok (.istore_n 2, 1) := by decide +kernel
theorem dX11_manyWith_2 : decode cX11_manyWith 2 = .ok (.iconst 0, 1) := by decide +kernel
theorem dX11_manyWith_3 : decode cX11_manyWith 3 = .ok (.istore_n 3, 1) := by decide +kernel
theorem dX11_manyWith_4 : decode cX11_manyWith 4 = .ok (.iload_n 3, 1) := by decide +kernel
theorem dX11_manyWith_5 : decode cX11_manyWith 5 = .ok (.aload_n 0, 1) := by decide +kernel
theorem dX11_manyWith_6 : decode cX11_manyWith 6 = .ok (.iconst 0, 1) := by decide +kernel
theorem dX11_manyWith_7 : decode cX11_manyWith 7 = .ok (.iaload, 1) := by decide +kernel
theorem dX11_manyWith_8 : decode cX11_manyWith 8 = .ok (.if_icmp .ge 27, 3) := by decide +kernel
theorem dX11_manyWith_35 : decode cX11_manyWith 35 = .ok (.iload_n 2, 1) := by decide +kernel
theorem dX11_manyWith_36 : decode cX11_manyWith 36 = .ok (.ireturn, 1) := by decide +kernel
set_option maxHeartbeats 8000000 in
set_option maxRecDepth 100000 in
theorem c_X11_manyWith_311z (l : Launch) (G : gG) (b0 : Nat) (a1 : Int32) (sz : Nat) : gI G l yX11_manyWith wsX11_manyWith ({ frames := 0, cells := 0, slots := 0, locals := 0 } : Room) [.ref b0, .int a1] [(b0, .inl (G.2 0, 311, .inl (fun _ => 0)))] sz (fun (r : Int32) (u : va_W) => (r = 0 ∧ u = [(b0, .inl (G.2 0, 311, .inl (fun _ => 0)))])) := by
  refine Met.ofW (cc := cX11_manyWith) (maxL := 4) (ret := (some .int)) (by decide) rfl ?_
  intro p e s m args below meth c s₁ B hml hv
  obtain ⟨rfl, hsz, hP, hK, hD0, hN⟩ := hv
  have hx := B.exec
  have hb := B.bytes
  have hr := B.returns
  have hts := atoms_spec (ws := wsX11_manyWith) B.pre
  have hown : s.vm.findClass RX11 = some m.cls := findClass_of_methodNamed B.named
  have hlocks := B.notSynchronized
  subst hsz
  have hD := hD0.self (sz := s.heap.size)
  generalize hAe : va_A [(b0, .inl (G.2 0, 311, .inl (fun _ => 0)))] s.heap.size = A at hD ⊢
  have hA : ∀ q : Nat, s.heap.size ≤ q → A q := fun q h => by rw [← hAe]; exact Or.inr h
  have hS : va_S A s.heap s.heap [] := va_S.rf
  have hP : va_P G.1 vwCl [(b0, .inl (G.2 0, 311, .inl (fun _ => 0)))] s.heap := hP
  have hl := lv_entry ([.ref b0, .int a1]) (n := 4) (Nat.le_of_ble_eq_true rfl)
  rw [lg_entry_eq]
  generalize (lg_sl ([.ref b0, .int a1]) ++ List.replicate (4 - (lg_sl ([.ref b0, .int a1])).length) Slot.unset).toArray = ls at hl ⊢
  have hl : lv_has ls 4 [(0, .ref b0), (1, .int a1)] := hl
  refine lv_iconst (v := 0) hx hb dX11_manyWith_0 (by decide) ?_
  refine lv_istore_n (lv' := [(2, .int 0), (0, .ref b0), (1, .int a1)]) hx hb dX11_manyWith_1 rfl hl (by decide) rfl (fun ls hl => ?_)
  refine lv_iconst (v := 0) hx hb dX11_manyWith_2 (by decide) ?_
  refine lv_istore_n (lv' := [(3, .int 0), (2, .int 0), (0, .ref b0), (1, .int a1)]) hx hb dX11_manyWith_3 rfl hl (by decide) rfl (fun ls hl => ?_)
  refine lv_iload_n hx hb dX11_manyWith_4 rfl (lv_at hl 0 rfl) ?_
  refine lv_aload_n hx hb dX11_manyWith_5 rfl (lv_at hl 2 rfl) ?_
  refine lv_iconst (v := 0) hx hb dX11_manyWith_6 (by decide) ?_
  refine va_iald hx hb hK hP 0 0 rfl rfl (by unfold vp_in; decide) dX11_manyWith_7 ?_
  refine g_topi (y := 0) rfl ?_
  refine lv_icmp_ge (tgt := 35) hx hb dX11_manyWith_8 (by decide) (fun _ => ?_) (fun c_1 => g_no (by decide) c_1)
  refine lv_iload_n hx hb dX11_manyWith_35 rfl (lv_at hl 1 rfl) ?_
  exact g_iret (v := 0) hx hb hr hlocks hP hD hS (⟨rfl, rfl⟩) dX11_manyWith_36
set_option maxHeartbeats 8000000 in
set_option maxRecDepth 100000 in
theorem c_X11_manyWith_311f (l : Launch) (G : gG) (b0 : Nat) (f0 : Nat → Int32) (a1 : Int32) (hf : f0 0 = 0) (sz : Nat) : gI G l yX11_manyWith wsX11_manyWith ({ frames := 0, cells := 0, slots := 0, locals := 0 } : Room) [.ref b0, .int a1] [(b0, .inl (G.2 0, 311, .inl f0))] sz (fun (r : Int32) (u : va_W) => (r = 0 ∧ u = [(b0, .inl (G.2 0, 311, .inl f0))])) := by
  refine Met.ofW (cc := cX11_manyWith) (maxL := 4) (ret := (some .int)) (by decide) rfl ?_
  intro p e s m args below meth c s₁ B hml hv
  obtain ⟨rfl, hsz, hP, hK, hD0, hN⟩ := hv
  have hx := B.exec
  have hb := B.bytes
  have hr := B.returns
  have hts := atoms_spec (ws := wsX11_manyWith) B.pre
  have hown : s.vm.findClass RX11 = some m.cls := findClass_of_methodNamed B.named
  have hlocks := B.notSynchronized
  subst hsz
  have hD := hD0.self (sz := s.heap.size)
  generalize hAe : va_A [(b0, .inl (G.2 0, 311, .inl f0))] s.heap.size = A at hD ⊢
  have hA : ∀ q : Nat, s.heap.size ≤ q → A q := fun q h => by rw [← hAe]; exact Or.inr h
  have hS : va_S A s.heap s.heap [] := va_S.rf
  have hP : va_P G.1 vwCl [(b0, .inl (G.2 0, 311, .inl f0))] s.heap := hP
  have hl := lv_entry ([.ref b0, .int a1]) (n := 4) (Nat.le_of_ble_eq_true rfl)
  rw [lg_entry_eq]
  generalize (lg_sl ([.ref b0, .int a1]) ++ List.replicate (4 - (lg_sl ([.ref b0, .int a1])).length) Slot.unset).toArray = ls at hl ⊢
  have hl : lv_has ls 4 [(0, .ref b0), (1, .int a1)] := hl
  refine lv_iconst (v := 0) hx hb dX11_manyWith_0 (by decide) ?_
  refine lv_istore_n (lv' := [(2, .int 0), (0, .ref b0), (1, .int a1)]) hx hb dX11_manyWith_1 rfl hl (by decide) rfl (fun ls hl => ?_)
  refine lv_iconst (v := 0) hx hb dX11_manyWith_2 (by decide) ?_
  refine lv_istore_n (lv' := [(3, .int 0), (2, .int 0), (0, .ref b0), (1, .int a1)]) hx hb dX11_manyWith_3 rfl hl (by decide) rfl (fun ls hl => ?_)
  refine lv_iload_n hx hb dX11_manyWith_4 rfl (lv_at hl 0 rfl) ?_
  refine lv_aload_n hx hb dX11_manyWith_5 rfl (lv_at hl 2 rfl) ?_
  refine lv_iconst (v := 0) hx hb dX11_manyWith_6 (by decide) ?_
  refine va_iald hx hb hK hP 0 0 rfl rfl (by unfold vp_in; decide) dX11_manyWith_7 ?_
  refine g_topi (y := 0) hf ?_
  refine lv_icmp_ge (tgt := 35) hx hb dX11_manyWith_8 (by decide) (fun _ => ?_) (fun c_1 => g_no (by decide) c_1)
  refine lv_iload_n hx hb dX11_manyWith_35 rfl (lv_at hl 1 rfl) ?_
  exact g_iret (v := 0) hx hb hr hlocks hP hD hS (⟨rfl, rfl⟩) dX11_manyWith_36
set_option maxHeartbeats 8000000 in
set_option maxRecDepth 100000 in
theorem c_X11_manyWith_56f (l : Launch) (G : gG) (b0 : Nat) (f0 : Nat → Int32) (a1 : Int32) (hf : f0 0 = 0) (sz : Nat) : gI G l yX11_manyWith wsX11_manyWith ({ frames := 0, cells := 0, slots := 0, locals := 0 } : Room) [.ref b0, .int a1] [(b0, .inl (G.2 0, 56, .inl f0))] sz (fun (r : Int32) (u : va_W) => (r = 0 ∧ u = [(b0, .inl (G.2 0, 56, .inl f0))])) := by
  refine Met.ofW (cc := cX11_manyWith) (maxL := 4) (ret := (some .int)) (by decide) rfl ?_
  intro p e s m args below meth c s₁ B hml hv
  obtain ⟨rfl, hsz, hP, hK, hD0, hN⟩ := hv
  have hx := B.exec
  have hb := B.bytes
  have hr := B.returns
  have hts := atoms_spec (ws := wsX11_manyWith) B.pre
  have hown : s.vm.findClass RX11 = some m.cls := findClass_of_methodNamed B.named
  have hlocks := B.notSynchronized
  subst hsz
  have hD := hD0.self (sz := s.heap.size)
  generalize hAe : va_A [(b0, .inl (G.2 0, 56, .inl f0))] s.heap.size = A at hD ⊢
  have hA : ∀ q : Nat, s.heap.size ≤ q → A q := fun q h => by rw [← hAe]; exact Or.inr h
  have hS : va_S A s.heap s.heap [] := va_S.rf
  have hP : va_P G.1 vwCl [(b0, .inl (G.2 0, 56, .inl f0))] s.heap := hP
  have hl := lv_entry ([.ref b0, .int a1]) (n := 4) (Nat.le_of_ble_eq_true rfl)
  rw [lg_entry_eq]
  generalize (lg_sl ([.ref b0, .int a1]) ++ List.replicate (4 - (lg_sl ([.ref b0, .int a1])).length) Slot.unset).toArray = ls at hl ⊢
  have hl : lv_has ls 4 [(0, .ref b0), (1, .int a1)] := hl
  refine lv_iconst (v := 0) hx hb dX11_manyWith_0 (by decide) ?_
  refine lv_istore_n (lv' := [(2, .int 0), (0, .ref b0), (1, .int a1)]) hx hb dX11_manyWith_1 rfl hl (by decide) rfl (fun ls hl => ?_)
  refine lv_iconst (v := 0) hx hb dX11_manyWith_2 (by decide) ?_
  refine lv_istore_n (lv' := [(3, .int 0), (2, .int 0), (0, .ref b0), (1, .int a1)]) hx hb dX11_manyWith_3 rfl hl (by decide) rfl (fun ls hl => ?_)
  refine lv_iload_n hx hb dX11_manyWith_4 rfl (lv_at hl 0 rfl) ?_
  refine lv_aload_n hx hb dX11_manyWith_5 rfl (lv_at hl 2 rfl) ?_
  refine lv_iconst (v := 0) hx hb dX11_manyWith_6 (by decide) ?_
  refine va_iald hx hb hK hP 0 0 rfl rfl (by unfold vp_in; decide) dX11_manyWith_7 ?_
  refine g_topi (y := 0) hf ?_
  refine lv_icmp_ge (tgt := 35) hx hb dX11_manyWith_8 (by decide) (fun _ => ?_) (fun c_1 => g_no (by decide) c_1)
  refine lv_iload_n hx hb dX11_manyWith_35 rfl (lv_at hl 1 rfl) ?_
  exact g_iret (v := 0) hx hb hr hlocks hP hD hS (⟨rfl, rfl⟩) dX11_manyWith_36
theorem dX11_goDay_0 : decode cX11_goDay 0 = .ok (.iconst 0, 1) := by decide +kernel
theorem dX11_goDay_1 : decode cX11_goDay 1 = .ok (.istore_n 1, 1) := by decide +kernel
theorem dX11_goDay_2 : decode cX11_goDay 2 = .ok (.iload_n 1, 1) := by decide +kernel
theorem dX11_goDay_3 : decode cX11_goDay 3 = .ok (.aload_n 0, 1) := by decide +kernel
theorem dX11_goDay_4 : decode cX11_goDay 4 = .ok (.iconst 0, 1) := by decide +kernel
theorem dX11_goDay_5 : decode cX11_goDay 5 = .ok (.iaload, 1) := by decide +kernel
theorem dX11_goDay_6 : decode cX11_goDay 6 = .ok (.if_icmp .ge 31, 3) := by decide +kernel
theorem dX11_goDay_37 : decode cX11_goDay 37 = .ok (.aload_n 0, 1) := by decide +kernel
theorem dX11_goDay_38 : decode cX11_goDay 38 = .ok (.bipush 27, 2) := by decide +kernel
theorem dX11_goDay_40 : decode cX11_goDay 40 = .ok (.dup2, 1) := by decide +kernel
theorem dX11_goDay_41 : decode cX11_goDay 41 = .ok (.iaload, 1) := by decide +kernel
theorem dX11_goDay_42 : decode cX11_goDay 42 = .ok (.iconst 1, 1) := by decide +kernel
theorem dX11_goDay_43 : decode cX11_goDay 43 = .ok (.iadd, 1) := by decide +kernel
theorem dX11_goDay_44 : decode cX11_goDay 44 = .ok (.iastore, 1) := by decide +kernel
theorem dX11_goDay_45 : decode cX11_goDay 45 = .ok (.return_, 1) := by decide +kernel
set_option maxHeartbeats 8000000 in
set_option maxRecDepth 100000 in
theorem c_X11_goDay_311 (l : Launch) (G : gG) (b0 : Nat) (f0 : Nat → Int32) (hf : f0 0 = 0) (sz : Nat) : gV G l yX11_goDay wsX11_goDay ({ frames := 0, cells := 0, slots := 0, locals := 0 } : Room) [.ref b0] [(b0, .inl (G.2 0, 311, .inl f0))] sz (fun (u : va_W) => (u = [(b0, .inl (G.2 0, 311, .inl (upd f0 27 ((f0 27) + 1))))])) := by
  refine Met.ofW (cc := cX11_goDay) (maxL := 2) (ret := none) (by decide) rfl ?_
  intro p e s m args below meth c s₁ B hml hv
  obtain ⟨rfl, hsz, hP, hK, hD0, hN⟩ := hv
  have hx := B.exec
  have hb := B.bytes
  have hr := B.returns
  have hts := atoms_spec (ws := wsX11_goDay) B.pre
  have hown : s.vm.findClass RX11 = some m.cls := findClass_of_methodNamed B.named
  have hlocks := B.notSynchronized
  subst hsz
  have hD := hD0.self (sz := s.heap.size)
  generalize hAe : va_A [(b0, .inl (G.2 0, 311, .inl f0))] s.heap.size = A at hD ⊢
  have hA : ∀ q : Nat, s.heap.size ≤ q → A q := fun q h => by rw [← hAe]; exact Or.inr h
  have hS : va_S A s.heap s.heap [] := va_S.rf
  have hP : va_P G.1 vwCl [(b0, .inl (G.2 0, 311, .inl f0))] s.heap := hP
  have hl := lv_entry ([.ref b0]) (n := 2) (Nat.le_of_ble_eq_true rfl)
  rw [lg_entry_eq]
  generalize (lg_sl ([.ref b0]) ++ List.replicate (2 - (lg_sl ([.ref b0])).length) Slot.unset).toArray = ls at hl ⊢
  have hl : lv_has ls 2 [(0, .ref b0)] := hl
  refine lv_iconst (v := 0) hx hb dX11_goDay_0 (by decide) ?_
  refine lv_istore_n (lv' := [(1, .int 0), (0, .ref b0)]) hx hb dX11_goDay_1 rfl hl (by decide) rfl (fun ls hl => ?_)
  refine lv_iload_n hx hb dX11_goDay_2 rfl (lv_at hl 0 rfl) ?_
  refine lv_aload_n hx hb dX11_goDay_3 rfl (lv_at hl 1 rfl) ?_
  refine lv_iconst (v := 0) hx hb dX11_goDay_4 (by decide) ?_
  refine va_iald hx hb hK hP 0 0 rfl rfl (by unfold vp_in; decide) dX11_goDay_5 ?_
  refine g_topi (y := 0) hf ?_
  refine lv_icmp_ge (tgt := 37) hx hb dX11_goDay_6 (by decide) (fun _ => ?_) (fun c_1 => g_no (by decide) c_1)
  refine lv_aload_n hx hb dX11_goDay_37 rfl (lv_at hl 1 rfl) ?_
  refine lv_bipush (v := 27) hx hb dX11_goDay_38 (by decide) ?_
  refine lv_dup2_11 hx hb dX11_goDay_40 rfl rfl ?_
  refine va_iald hx hb hK hP 0 0 rfl rfl (by unfold vp_in; decide) dX11_goDay_41 ?_
  refine g_topi (y := (f0 27)) rfl ?_
  refine lv_iconst (v := 1) hx hb dX11_goDay_42 (by decide) ?_
  refine lv_iadd hx hb dX11_goDay_43 ?_
  refine va_iast hx hb hK hP hD hS 0 0 rfl rfl (by unfold vp_in; decide) dX11_goDay_44 (fun H locs hP hD hS => ?_)
  have hP : va_P G.1 vwCl [(b0, .inl (G.2 0, 311, .inl (upd f0 27 ((f0 27) + 1))))] H := hP
  have hD : va_D A [(b0, .inl (G.2 0, 311, .inl (upd f0 27 ((f0 27) + 1))))] := hD
  exact g_vret hx hb hr hlocks hP hD hS (rfl) dX11_goDay_45
set_option maxHeartbeats 8000000 in
set_option maxRecDepth 100000 in
theorem c_X11_goDay_56 (l : Launch) (G : gG) (b0 : Nat) (f0 : Nat → Int32) (hf : f0 0 = 0) (sz : Nat) : gV G l yX11_goDay wsX11_goDay ({ frames := 0, cells := 0, slots := 0, locals := 0 } : Room) [.ref b0] [(b0, .inl (G.2 0, 56, .inl f0))] sz (fun (u : va_W) => (u = [(b0, .inl (G.2 0, 56, .inl (upd f0 27 ((f0 27) + 1))))])) := by
  refine Met.ofW (cc := cX11_goDay) (maxL := 2) (ret := none) (by decide) rfl ?_
  intro p e s m args below meth c s₁ B hml hv
  obtain ⟨rfl, hsz, hP, hK, hD0, hN⟩ := hv
  have hx := B.exec
  have hb := B.bytes
  have hr := B.returns
  have hts := atoms_spec (ws := wsX11_goDay) B.pre
  have hown : s.vm.findClass RX11 = some m.cls := findClass_of_methodNamed B.named
  have hlocks := B.notSynchronized
  subst hsz
  have hD := hD0.self (sz := s.heap.size)
  generalize hAe : va_A [(b0, .inl (G.2 0, 56, .inl f0))] s.heap.size = A at hD ⊢
  have hA : ∀ q : Nat, s.heap.size ≤ q → A q := fun q h => by rw [← hAe]; exact Or.inr h
  have hS : va_S A s.heap s.heap [] := va_S.rf
  have hP : va_P G.1 vwCl [(b0, .inl (G.2 0, 56, .inl f0))] s.heap := hP
  have hl := lv_entry ([.ref b0]) (n := 2) (Nat.le_of_ble_eq_true rfl)
  rw [lg_entry_eq]
  generalize (lg_sl ([.ref b0]) ++ List.replicate (2 - (lg_sl ([.ref b0])).length) Slot.unset).toArray = ls at hl ⊢
  have hl : lv_has ls 2 [(0, .ref b0)] := hl
  refine lv_iconst (v := 0) hx hb dX11_goDay_0 (by decide) ?_
  refine lv_istore_n (lv' := [(1, .int 0), (0, .ref b0)]) hx hb dX11_goDay_1 rfl hl (by decide) rfl (fun ls hl => ?_)
  refine lv_iload_n hx hb dX11_goDay_2 rfl (lv_at hl 0 rfl) ?_
  refine lv_aload_n hx hb dX11_goDay_3 rfl (lv_at hl 1 rfl) ?_
  refine lv_iconst (v := 0) hx hb dX11_goDay_4 (by decide) ?_
  refine va_iald hx hb hK hP 0 0 rfl rfl (by unfold vp_in; decide) dX11_goDay_5 ?_
  refine g_topi (y := 0) hf ?_
  refine lv_icmp_ge (tgt := 37) hx hb dX11_goDay_6 (by decide) (fun _ => ?_) (fun c_1 => g_no (by decide) c_1)
  refine lv_aload_n hx hb dX11_goDay_37 rfl (lv_at hl 1 rfl) ?_
  refine lv_bipush (v := 27) hx hb dX11_goDay_38 (by decide) ?_
  refine lv_dup2_11 hx hb dX11_goDay_40 rfl rfl ?_
  refine va_iald hx hb hK hP 0 0 rfl rfl (by unfold vp_in; decide) dX11_goDay_41 ?_
  refine g_topi (y := (f0 27)) rfl ?_
  refine lv_iconst (v := 1) hx hb dX11_goDay_42 (by decide) ?_
  refine lv_iadd hx hb dX11_goDay_43 ?_
  refine va_iast hx hb hK hP hD hS 0 0 rfl rfl (by unfold vp_in; decide) dX11_goDay_44 (fun H locs hP hD hS => ?_)
  have hP : va_P G.1 vwCl [(b0, .inl (G.2 0, 56, .inl (upd f0 27 ((f0 27) + 1))))] H := hP
  have hD : va_D A [(b0, .inl (G.2 0, 56, .inl (upd f0 27 ((f0 27) + 1))))] := hD
  exact g_vret hx hb hr hlocks hP hD hS (rfl) dX11_goDay_45
theorem dX11_counted_0 : decode cX11_counted 0 = .ok (.iconst 0, 1) := by decide +kernel
theorem dX11_counted_1 : decode cX11_counted 1 = .ok (.istore_n 2, 1) := by decide +kernel
theorem dX11_counted_2 : decode cX11_counted 2 = .ok (.iconst 0, 1) := by decide +kernel
theorem dX11_counted_3 : decode cX11_counted 3 = .ok (.istore_n 3, 1) := by decide +kernel
theorem dX11_counted_4 : decode cX11_counted 4 = .ok (.iload_n 3, 1) := by decide +kernel
theorem dX11_counted_5 : decode cX11_counted 5 = .ok (.aload_n 0, 1) := by decide +kernel
set_option maxRecDepth 20000 in
theorem ggX11_counted_X11_many : GoodIn wsX11_counted wsX11_many := goodIn_r _ [7, 1, 11, 12, 13, 14, 15, 16, 17, 18, 19, 20, 21, 22, 23, 24, 25, 26, 27, 28, 29, 30, 31] (by decide +kernel) (by decide +kernel)
set_option maxRecDepth 20000 in
theorem gX11_counted_X11_many : GoodIn wsX11_counted (wsV RX11 61 RX11 yX11_many wsX11_many) := goodIn_app (goodIn_of _ (by decide +kernel)) ggX11_counted_X11_many
theorem dX11_counted_6 : decode cX11_counted 6 = .ok (.invokevirtual 61, 3) := by decide +kernel
theorem dX11_counted_9 : decode cX11_counted 9 = .ok (.if_icmp .ge 21, 3) := by decide +kernel
theorem dX11_counted_30 : decode cX11_counted 30 = .ok (.iload_n 1, 1) := by decide +kernel
theorem dX11_counted_31 : decode cX11_counted 31 = .ok (.tableswitch 115 0 11 #[61, 66, 73, 81, 90, 99, 108, 115, 115, 115, 115, 110], 61) := by decide +kernel
theorem dX11_counted_92 : decode cX11_counted 92 = .ok (.aload_n 0, 1) := by decide +kernel
theorem dX11_counted_93 : decode cX11_counted 93 = .ok (.invokevirtual 61, 3) := by decide +kernel
theorem dX11_counted_96 : decode cX11_counted 96 = .ok (.ireturn, 1) := by decide +kernel
set_option maxHeartbeats 8000000 in
set_option maxRecDepth 100000 in
theorem c_X11_counted_0 (l : Launch) (G : gG) (m0 : Nat) (m0A : Nat) (m0K : Nat) (m0I : Nat) (m0R : Nat) (m0H : Nat) (m0F : Nat) (m0W : Nat) (m0L : Nat) (m0B : Nat) (m0T : Nat) (m0O : Nat) (m0Y : Nat) (m0N : Nat) (m0V : Nat) (sz : Nat) : gI G l yX11_counted wsX11_counted ({ frames := 1, cells := 0, slots := 0, locals := 20 } : Room) [.ref m0, .int 0] [(m0, .inr (10, [.ref m0A, .ref m0K, .ref m0I, .ref m0R, .long 0, .long 1, .ref m0H, .ref m0F, .ref m0W, .ref m0L, .ref m0B, .ref m0T, .ref m0O, .ref m0Y, .int 0, .int 0, .int 0, .int 0, .int 0, .ref m0N, .ref m0V])), (m0A, .inl (G.2 0, 311, .inl (fun _ => 0)))] sz (fun (r : Int32) (u : va_W) => (r = 0 ∧ u = [(m0, .inr (10, [.ref m0A, .ref m0K, .ref m0I, .ref m0R, .long 0, .long 1, .ref m0H, .ref m0F, .ref m0W, .ref m0L, .ref m0B, .ref m0T, .ref m0O, .ref m0Y, .int 0, .int 0, .int 0, .int 0, .int 0, .ref m0N, .ref m0V])), (m0A, .inl (G.2 0, 311, .inl (fun _ => 0)))])) := by
  refine Met.ofW (cc := cX11_counted) (maxL := 4) (ret := (some .int)) (by decide) rfl ?_
  intro p e s m args below meth c s₁ B hml hv
  obtain ⟨rfl, hsz, hP, hK, hD0, hN⟩ := hv
  have hx := B.exec
  have hb := B.bytes
  have hr := B.returns
  have hts := atoms_spec (ws := wsX11_counted) B.pre
  have hown : s.vm.findClass RX11 = some m.cls := findClass_of_methodNamed B.named
  have hlocks := B.notSynchronized
  subst hsz
  have hD := hD0.self (sz := s.heap.size)
  generalize hAe : va_A [(m0, .inr (10, [.ref m0A, .ref m0K, .ref m0I, .ref m0R, .long 0, .long 1, .ref m0H, .ref m0F, .ref m0W, .ref m0L, .ref m0B, .ref m0T, .ref m0O, .ref m0Y, .int 0, .int 0, .int 0, .int 0, .int 0, .ref m0N, .ref m0V])), (m0A, .inl (G.2 0, 311, .inl (fun _ => 0)))] s.heap.size = A at hD ⊢
  have hA : ∀ q : Nat, s.heap.size ≤ q → A q := fun q h => by rw [← hAe]; exact Or.inr h
  have hS : va_S A s.heap s.heap [] := va_S.rf
  have hP : va_P G.1 vwCl [(m0, .inr (10, [.ref m0A, .ref m0K, .ref m0I, .ref m0R, .long 0, .long 1, .ref m0H, .ref m0F, .ref m0W, .ref m0L, .ref m0B, .ref m0T, .ref m0O, .ref m0Y, .int 0, .int 0, .int 0, .int 0, .int 0, .ref m0N, .ref m0V])), (m0A, .inl (G.2 0, 311, .inl (fun _ => 0)))] s.heap := hP
  have hl := lv_entry ([.ref m0, .int 0]) (n := 4) (Nat.le_of_ble_eq_true rfl)
  rw [lg_entry_eq]
  generalize (lg_sl ([.ref m0, .int 0]) ++ List.replicate (4 - (lg_sl ([.ref m0, .int 0])).length) Slot.unset).toArray = ls at hl ⊢
  have hl : lv_has ls 4 [(0, .ref m0), (1, .int 0)] := hl
  refine lv_iconst (v := 0) hx hb dX11_counted_0 (by decide) ?_
  refine lv_istore_n (lv' := [(2, .int 0), (0, .ref m0), (1, .int 0)]) hx hb dX11_counted_1 rfl hl (by decide) rfl (fun ls hl => ?_)
  refine lv_iconst (v := 0) hx hb dX11_counted_2 (by decide) ?_
  refine lv_istore_n (lv' := [(3, .int 0), (2, .int 0), (0, .ref m0), (1, .int 0)]) hx hb dX11_counted_3 rfl hl (by decide) rfl (fun ls hl => ?_)
  refine lv_iload_n hx hb dX11_counted_4 rfl (lv_at hl 0 rfl) ?_
  refine lv_aload_n hx hb dX11_counted_5 rfl (lv_at hl 2 rfl) ?_
  refine g_calli (wr := []) (va_runV (As := []) (rest := [.int 0]) ⟨hx, hb, hml, hown, hts⟩ (c_X11_many l G (m0) (m0A) (m0K) (m0I) (m0R) (m0H) (m0F) (m0W) (m0L) (m0B) (m0T) (m0O) (m0Y) (m0N) (m0V) _) (cwV 0 hts gX11_counted_X11_many rfl rfl rfl (by decide +kernel) ⟨Nat.le_of_ble_eq_true rfl, Nat.le_of_ble_eq_true rfl⟩) (g_preV m0 [] hP hD hK hN [0, 1] rfl rfl 0 (ci := 10) rfl rfl) rfl rfl hl.1 rfl (lv_room (Nat.le_of_ble_eq_true rfl)) dX11_counted_6 ⟨Nat.le_of_ble_eq_true rfl, Nat.le_of_ble_eq_true rfl⟩) hP hD hS hA [0, 1] [] rfl rfl rfl (by decide) (fun r_1 u H locs hw hP hD hS => ?_)
  obtain ⟨rfl, rfl⟩ := hw
  have hP : va_P G.1 vwCl [(m0, .inr (10, [.ref m0A, .ref m0K, .ref m0I, .ref m0R, .long 0, .long 1, .ref m0H, .ref m0F, .ref m0W, .ref m0L, .ref m0B, .ref m0T, .ref m0O, .ref m0Y, .int 0, .int 0, .int 0, .int 0, .int 0, .ref m0N, .ref m0V])), (m0A, .inl (G.2 0, 311, .inl (fun _ => 0)))] H := hP
  have hD : va_D A [(m0, .inr (10, [.ref m0A, .ref m0K, .ref m0I, .ref m0R, .long 0, .long 1, .ref m0H, .ref m0F, .ref m0W, .ref m0L, .ref m0B, .ref m0T, .ref m0O, .ref m0Y, .int 0, .int 0, .int 0, .int 0, .int 0, .ref m0N, .ref m0V])), (m0A, .inl (G.2 0, 311, .inl (fun _ => 0)))] := hD
  refine lv_icmp_ge (tgt := 30) hx hb dX11_counted_9 (by decide) (fun _ => ?_) (fun c_2 => g_no (by decide) c_2)
  refine lv_iload_n hx hb dX11_counted_30 rfl (lv_at hl 3 rfl) ?_
  refine lv_tableIn (off := 61) (tgt := 92) hx hb dX11_counted_31 (by decide) (by decide) (by decide) (by decide) ?_
  refine lv_aload_n hx hb dX11_counted_92 rfl (lv_at hl 2 rfl) ?_
  refine g_calli (wr := []) (va_runV (As := []) (rest := []) ⟨hx, hb, hml, hown, hts⟩ (c_X11_many l G (m0) (m0A) (m0K) (m0I) (m0R) (m0H) (m0F) (m0W) (m0L) (m0B) (m0T) (m0O) (m0Y) (m0N) (m0V) _) (cwV 0 hts gX11_counted_X11_many rfl rfl rfl (by decide +kernel) ⟨Nat.le_of_ble_eq_true rfl, Nat.le_of_ble_eq_true rfl⟩) (g_preV m0 [] hP hD hK hN [0, 1] rfl rfl 0 (ci := 10) rfl rfl) rfl rfl hl.1 rfl (lv_room (Nat.le_of_ble_eq_true rfl)) dX11_counted_93 ⟨Nat.le_of_ble_eq_true rfl, Nat.le_of_ble_eq_true rfl⟩) hP hD hS hA [0, 1] [] rfl rfl rfl (by decide) (fun r_3 u H locs hw hP hD hS => ?_)
  obtain ⟨rfl, rfl⟩ := hw
  have hP : va_P G.1 vwCl [(m0, .inr (10, [.ref m0A, .ref m0K, .ref m0I, .ref m0R, .long 0, .long 1, .ref m0H, .ref m0F, .ref m0W, .ref m0L, .ref m0B, .ref m0T, .ref m0O, .ref m0Y, .int 0, .int 0, .int 0, .int 0, .int 0, .ref m0N, .ref m0V])), (m0A, .inl (G.2 0, 311, .inl (fun _ => 0)))] H := hP
  have hD : va_D A [(m0, .inr (10, [.ref m0A, .ref m0K, .ref m0I, .ref m0R, .long 0, .long 1, .ref m0H, .ref m0F, .ref m0W, .ref m0L, .ref m0B, .ref m0T, .ref m0O, .ref m0Y, .int 0, .int 0, .int 0, .int 0, .int 0, .ref m0N, .ref m0V])), (m0A, .inl (G.2 0, 311, .inl (fun _ => 0)))] := hD
  exact g_iret (v := 0) hx hb hr hlocks hP hD hS (⟨rfl, rfl⟩) dX11_counted_96
theorem dX11_counted_97 : decode cX11_counted 97 = .ok (.aload_n 0, 1) := by decide +kernel
theorem dX11_counted_98 : decode cX11_counted 98 = .ok (.getfield 7, 3) := by decide +kernel
theorem dX11_counted_101 : decode cX11_counted 101 = .ok (.iconst 1, 1) := by decide +kernel
theorem dX11_counted_102 : decode cX11_counted 102 = .ok (.iaload, 1) := by decide +kernel
theorem dX11_counted_103 : decode cX11_counted 103 = .ok (.ireturn, 1) := by decide +kernel
set_option maxHeartbeats 8000000 in
set_option maxRecDepth 100000 in
theorem c_X11_counted_1 (l : Launch) (G : gG) (m0 : Nat) (m0A : Nat) (m0K : Nat) (m0I : Nat) (m0R : Nat) (m0H : Nat) (m0F : Nat) (m0W : Nat) (m0L : Nat) (m0B : Nat) (m0T : Nat) (m0O : Nat) (m0Y : Nat) (m0N : Nat) (m0V : Nat) (sz : Nat) : gI G l yX11_counted wsX11_counted ({ frames := 1, cells := 0, slots := 0, locals := 20 } : Room) [.ref m0, .int 1] [(m0, .inr (10, [.ref m0A, .ref m0K, .ref m0I, .ref m0R, .long 0, .long 1, .ref m0H, .ref m0F, .ref m0W, .ref m0L, .ref m0B, .ref m0T, .ref m0O, .ref m0Y, .int 0, .int 0, .int 0, .int 0, .int 0, .ref m0N, .ref m0V])), (m0A, .inl (G.2 0, 311, .inl (fun _ => 0)))] sz (fun (r : Int32) (u : va_W) => (r = 0 ∧ u = [(m0, .inr (10, [.ref m0A, .ref m0K, .ref m0I, .ref m0R, .long 0, .long 1, .ref m0H, .ref m0F, .ref m0W, .ref m0L, .ref m0B, .ref m0T, .ref m0O, .ref m0Y, .int 0, .int 0, .int 0, .int 0, .int 0, .ref m0N, .ref m0V])), (m0A, .inl (G.2 0, 311, .inl (fun _ => 0)))])) := by
  refine Met.ofW (cc := cX11_counted) (maxL := 4) (ret := (some .int)) (by decide) rfl ?_
  intro p e s m args below meth c s₁ B hml hv
  obtain ⟨rfl, hsz, hP, hK, hD0, hN⟩ := hv
  have hx := B.exec
  have hb := B.bytes
  have hr := B.returns
  have hts := atoms_spec (ws := wsX11_counted) B.pre
  have hown : s.vm.findClass RX11 = some m.cls := findClass_of_methodNamed B.named
  have hlocks := B.notSynchronized
  subst hsz
  have hD := hD0.self (sz := s.heap.size)
  generalize hAe : va_A [(m0, .inr (10, [.ref m0A, .ref m0K, .ref m0I, .ref m0R, .long 0, .long 1, .ref m0H, .ref m0F, .ref m0W, .ref m0L, .ref m0B, .ref m0T, .ref m0O, .ref m0Y, .int 0, .int 0, .int 0, .int 0, .int 0, .ref m0N, .ref m0V])), (m0A, .inl (G.2 0, 311, .inl (fun _ => 0)))] s.heap.size = A at hD ⊢
  have hA : ∀ q : Nat, s.heap.size ≤ q → A q := fun q h => by rw [← hAe]; exact Or.inr h
  have hS : va_S A s.heap s.heap [] := va_S.rf
  have hP : va_P G.1 vwCl [(m0, .inr (10, [.ref m0A, .ref m0K, .ref m0I, .ref m0R, .long 0, .long 1, .ref m0H, .ref m0F, .ref m0W, .ref m0L, .ref m0B, .ref m0T, .ref m0O, .ref m0Y, .int 0, .int 0, .int 0, .int 0, .int 0, .ref m0N, .ref m0V])), (m0A, .inl (G.2 0, 311, .inl (fun _ => 0)))] s.heap := hP
  have hl := lv_entry ([.ref m0, .int 1]) (n := 4) (Nat.le_of_ble_eq_true rfl)
  rw [lg_entry_eq]
  generalize (lg_sl ([.ref m0, .int 1]) ++ List.replicate (4 - (lg_sl ([.ref m0, .int 1])).length) Slot.unset).toArray = ls at hl ⊢
  have hl : lv_has ls 4 [(0, .ref m0), (1, .int 1)] := hl
  refine lv_iconst (v := 0) hx hb dX11_counted_0 (by decide) ?_
  refine lv_istore_n (lv' := [(2, .int 0), (0, .ref m0), (1, .int 1)]) hx hb dX11_counted_1 rfl hl (by decide) rfl (fun ls hl => ?_)
  refine lv_iconst (v := 0) hx hb dX11_counted_2 (by decide) ?_
  refine lv_istore_n (lv' := [(3, .int 0), (2, .int 0), (0, .ref m0), (1, .int 1)]) hx hb dX11_counted_3 rfl hl (by decide) rfl (fun ls hl => ?_)
  refine lv_iload_n hx hb dX11_counted_4 rfl (lv_at hl 0 rfl) ?_
  refine lv_aload_n hx hb dX11_counted_5 rfl (lv_at hl 2 rfl) ?_
  refine g_calli (wr := []) (va_runV (As := []) (rest := [.int 0]) ⟨hx, hb, hml, hown, hts⟩ (c_X11_many l G (m0) (m0A) (m0K) (m0I) (m0R) (m0H) (m0F) (m0W) (m0L) (m0B) (m0T) (m0O) (m0Y) (m0N) (m0V) _) (cwV 0 hts gX11_counted_X11_many rfl rfl rfl (by decide +kernel) ⟨Nat.le_of_ble_eq_true rfl, Nat.le_of_ble_eq_true rfl⟩) (g_preV m0 [] hP hD hK hN [0, 1] rfl rfl 0 (ci := 10) rfl rfl) rfl rfl hl.1 rfl (lv_room (Nat.le_of_ble_eq_true rfl)) dX11_counted_6 ⟨Nat.le_of_ble_eq_true rfl, Nat.le_of_ble_eq_true rfl⟩) hP hD hS hA [0, 1] [] rfl rfl rfl (by decide) (fun r_1 u H locs hw hP hD hS => ?_)
  obtain ⟨rfl, rfl⟩ := hw
  have hP : va_P G.1 vwCl [(m0, .inr (10, [.ref m0A, .ref m0K, .ref m0I, .ref m0R, .long 0, .long 1, .ref m0H, .ref m0F, .ref m0W, .ref m0L, .ref m0B, .ref m0T, .ref m0O, .ref m0Y, .int 0, .int 0, .int 0, .int 0, .int 0, .ref m0N, .ref m0V])), (m0A, .inl (G.2 0, 311, .inl (fun _ => 0)))] H := hP
  have hD : va_D A [(m0, .inr (10, [.ref m0A, .ref m0K, .ref m0I, .ref m0R, .long 0, .long 1, .ref m0H, .ref m0F, .ref m0W, .ref m0L, .ref m0B, .ref m0T, .ref m0O, .ref m0Y, .int 0, .int 0, .int 0, .int 0, .int 0, .ref m0N, .ref m0V])), (m0A, .inl (G.2 0, 311, .inl (fun _ => 0)))] := hD
  refine lv_icmp_ge (tgt := 30) hx hb dX11_counted_9 (by decide) (fun _ => ?_) (fun c_2 => g_no (by decide) c_2)
  refine lv_iload_n hx hb dX11_counted_30 rfl (lv_at hl 3 rfl) ?_
  refine lv_tableIn (off := 66) (tgt := 97) hx hb dX11_counted_31 (by decide) (by decide) (by decide) (by decide) ?_
  refine lv_aload_n hx hb dX11_counted_97 rfl (lv_at hl 2 rfl) ?_
  refine va_get (D := G.1) (ci := 10) (v := .ref m0A) (C := RX11) (T := TX11) (N := 21) hx hb hts (fun _ h => List.mem_cons_of_mem _ (List.mem_append_right _ h)) hown hK hP 0 rfl rfl 0 (by decide) (hts _ (List.mem_of_getElem? (i := 1) rfl)) (fun _ h9 => h9) rfl dX11_counted_98 ?_
  refine lv_iconst (v := 1) hx hb dX11_counted_101 (by decide) ?_
  refine va_iald hx hb hK hP 1 0 rfl rfl (by unfold vp_in; decide) dX11_counted_102 ?_
  refine g_topi (y := 0) rfl ?_
  exact g_iret (v := 0) hx hb hr hlocks hP hD hS (⟨rfl, rfl⟩) dX11_counted_103
theorem dX11_counted_104 : decode cX11_counted 104 = .ok (.aload_n 0, 1) := by decide +kernel
theorem dX11_counted_105 : decode cX11_counted 105 = .ok (.getfield 7, 3) := by decide +kernel
theorem dX11_counted_108 : decode cX11_counted 108 = .ok (.bipush 27, 2) := by decide +kernel
theorem dX11_counted_110 : decode cX11_counted 110 = .ok (.iaload, 1) := by decide +kernel
theorem dX11_counted_111 : decode cX11_counted 111 = .ok (.ireturn, 1) := by decide +kernel
set_option maxHeartbeats 8000000 in
set_option maxRecDepth 100000 in
theorem c_X11_counted_2 (l : Launch) (G : gG) (m0 : Nat) (m0A : Nat) (m0K : Nat) (m0I : Nat) (m0R : Nat) (m0H : Nat) (m0F : Nat) (m0W : Nat) (m0L : Nat) (m0B : Nat) (m0T : Nat) (m0O : Nat) (m0Y : Nat) (m0N : Nat) (m0V : Nat) (sz : Nat) : gI G l yX11_counted wsX11_counted ({ frames := 1, cells := 0, slots := 0, locals := 20 } : Room) [.ref m0, .int 2] [(m0, .inr (10, [.ref m0A, .ref m0K, .ref m0I, .ref m0R, .long 0, .long 1, .ref m0H, .ref m0F, .ref m0W, .ref m0L, .ref m0B, .ref m0T, .ref m0O, .ref m0Y, .int 0, .int 0, .int 0, .int 0, .int 0, .ref m0N, .ref m0V])), (m0A, .inl (G.2 0, 311, .inl (fun _ => 0)))] sz (fun (r : Int32) (u : va_W) => (r = 0 ∧ u = [(m0, .inr (10, [.ref m0A, .ref m0K, .ref m0I, .ref m0R, .long 0, .long 1, .ref m0H, .ref m0F, .ref m0W, .ref m0L, .ref m0B, .ref m0T, .ref m0O, .ref m0Y, .int 0, .int 0, .int 0, .int 0, .int 0, .ref m0N, .ref m0V])), (m0A, .inl (G.2 0, 311, .inl (fun _ => 0)))])) := by
  refine Met.ofW (cc := cX11_counted) (maxL := 4) (ret := (some .int)) (by decide) rfl ?_
  intro p e s m args below meth c s₁ B hml hv
  obtain ⟨rfl, hsz, hP, hK, hD0, hN⟩ := hv
  have hx := B.exec
  have hb := B.bytes
  have hr := B.returns
  have hts := atoms_spec (ws := wsX11_counted) B.pre
  have hown : s.vm.findClass RX11 = some m.cls := findClass_of_methodNamed B.named
  have hlocks := B.notSynchronized
  subst hsz
  have hD := hD0.self (sz := s.heap.size)
  generalize hAe : va_A [(m0, .inr (10, [.ref m0A, .ref m0K, .ref m0I, .ref m0R, .long 0, .long 1, .ref m0H, .ref m0F, .ref m0W, .ref m0L, .ref m0B, .ref m0T, .ref m0O, .ref m0Y, .int 0, .int 0, .int 0, .int 0, .int 0, .ref m0N, .ref m0V])), (m0A, .inl (G.2 0, 311, .inl (fun _ => 0)))] s.heap.size = A at hD ⊢
  have hA : ∀ q : Nat, s.heap.size ≤ q → A q := fun q h => by rw [← hAe]; exact Or.inr h
  have hS : va_S A s.heap s.heap [] := va_S.rf
  have hP : va_P G.1 vwCl [(m0, .inr (10, [.ref m0A, .ref m0K, .ref m0I, .ref m0R, .long 0, .long 1, .ref m0H, .ref m0F, .ref m0W, .ref m0L, .ref m0B, .ref m0T, .ref m0O, .ref m0Y, .int 0, .int 0, .int 0, .int 0, .int 0, .ref m0N, .ref m0V])), (m0A, .inl (G.2 0, 311, .inl (fun _ => 0)))] s.heap := hP
  have hl := lv_entry ([.ref m0, .int 2]) (n := 4) (Nat.le_of_ble_eq_true rfl)
  rw [lg_entry_eq]
  generalize (lg_sl ([.ref m0, .int 2]) ++ List.replicate (4 - (lg_sl ([.ref m0, .int 2])).length) Slot.unset).toArray = ls at hl ⊢
  have hl : lv_has ls 4 [(0, .ref m0), (1, .int 2)] := hl
  refine lv_iconst (v := 0) hx hb dX11_counted_0 (by decide) ?_
  refine lv_istore_n (lv' := [(2, .int 0), (0, .ref m0), (1, .int 2)]) hx hb dX11_counted_1 rfl hl (by decide) rfl (fun ls hl => ?_)
  refine lv_iconst (v := 0) hx hb dX11_counted_2 (by decide) ?_
  refine lv_istore_n (lv' := [(3, .int 0), (2, .int 0), (0, .ref m0), (1, .int 2)]) hx hb dX11_counted_3 rfl hl (by decide) rfl (fun ls hl => ?_)
  refine lv_iload_n hx hb dX11_counted_4 rfl (lv_at hl 0 rfl) ?_
  refine lv_aload_n hx hb dX11_counted_5 rfl (lv_at hl 2 rfl) ?_
  refine g_calli (wr := []) (va_runV (As := []) (rest := [.int 0]) ⟨hx, hb, hml, hown, hts⟩ (c_X11_many l G (m0) (m0A) (m0K) (m0I) (m0R) (m0H) (m0F) (m0W) (m0L) (m0B) (m0T) (m0O) (m0Y) (m0N) (m0V) _) (cwV 0 hts gX11_counted_X11_many rfl rfl rfl (by decide +kernel) ⟨Nat.le_of_ble_eq_true rfl, Nat.le_of_ble_eq_true rfl⟩) (g_preV m0 [] hP hD hK hN [0, 1] rfl rfl 0 (ci := 10) rfl rfl) rfl rfl hl.1 rfl (lv_room (Nat.le_of_ble_eq_true rfl)) dX11_counted_6 ⟨Nat.le_of_ble_eq_true rfl, Nat.le_of_ble_eq_true rfl⟩) hP hD hS hA [0, 1] [] rfl rfl rfl (by decide) (fun r_1 u H locs hw hP hD hS => ?_)
  obtain ⟨rfl, rfl⟩ := hw
  have hP : va_P G.1 vwCl [(m0, .inr (10, [.ref m0A, .ref m0K, .ref m0I, .ref m0R, .long 0, .long 1, .ref m0H, .ref m0F, .ref m0W, .ref m0L, .ref m0B, .ref m0T, .ref m0O, .ref m0Y, .int 0, .int 0, .int 0, .int 0, .int 0, .ref m0N, .ref m0V])), (m0A, .inl (G.2 0, 311, .inl (fun _ => 0)))] H := hP
  have hD : va_D A [(m0, .inr (10, [.ref m0A, .ref m0K, .ref m0I, .ref m0R, .long 0, .long 1, .ref m0H, .ref m0F, .ref m0W, .ref m0L, .ref m0B, .ref m0T, .ref m0O, .ref m0Y, .int 0, .int 0, .int 0, .int 0, .int 0, .ref m0N, .ref m0V])), (m0A, .inl (G.2 0, 311, .inl (fun _ => 0)))] := hD
  refine lv_icmp_ge (tgt := 30) hx hb dX11_counted_9 (by decide) (fun _ => ?_) (fun c_2 => g_no (by decide) c_2)
  refine lv_iload_n hx hb dX11_counted_30 rfl (lv_at hl 3 rfl) ?_
  refine lv_tableIn (off := 73) (tgt := 104) hx hb dX11_counted_31 (by decide) (by decide) (by decide) (by decide) ?_
  refine lv_aload_n hx hb dX11_counted_104 rfl (lv_at hl 2 rfl) ?_
  refine va_get (D := G.1) (ci := 10) (v := .ref m0A) (C := RX11) (T := TX11) (N := 21) hx hb hts (fun _ h => List.mem_cons_of_mem _ (List.mem_append_right _ h)) hown hK hP 0 rfl rfl 0 (by decide) (hts _ (List.mem_of_getElem? (i := 1) rfl)) (fun _ h9 => h9) rfl dX11_counted_105 ?_
  refine lv_bipush (v := 27) hx hb dX11_counted_108 (by decide) ?_
  refine va_iald hx hb hK hP 1 0 rfl rfl (by unfold vp_in; decide) dX11_counted_110 ?_
  refine g_topi (y := 0) rfl ?_
  exact g_iret (v := 0) hx hb hr hlocks hP hD hS (⟨rfl, rfl⟩) dX11_counted_111
theorem dX11_counted_112 : decode cX11_counted 112 = .ok (.aload_n 0, 1) := by decide +kernel
theorem dX11_counted_113 : decode cX11_counted 113 = .ok (.getfield 7, 3) := by decide +kernel
theorem dX11_counted_116 : decode cX11_counted 116 = .ok (.iconst 0, 1) := by decide +kernel
set_option maxRecDepth 20000 in
theorem ggX11_counted_X11_manyWith : GoodIn wsX11_counted wsX11_manyWith := goodIn_r _ [10] (by decide +kernel) (by decide +kernel)
set_option maxRecDepth 20000 in
theorem gX11_counted_X11_manyWith : GoodIn wsX11_counted (va_wsS RX11 140 yX11_manyWith wsX11_manyWith) := goodIn_app (goodIn_of _ (by decide +kernel)) ggX11_counted_X11_manyWith
theorem dX11_counted_117 : decode cX11_counted 117 = .ok (.invokestatic 140, 3) := by decide +kernel
theorem dX11_counted_120 : decode cX11_counted 120 = .ok (.ireturn, 1) := by decide +kernel
set_option maxHeartbeats 8000000 in
set_option maxRecDepth 100000 in
theorem c_X11_counted_3 (l : Launch) (G : gG) (m0 : Nat) (m0A : Nat) (m0K : Nat) (m0I : Nat) (m0R : Nat) (m0H : Nat) (m0F : Nat) (m0W : Nat) (m0L : Nat) (m0B : Nat) (m0T : Nat) (m0O : Nat) (m0Y : Nat) (m0N : Nat) (m0V : Nat) (sz : Nat) : gI G l yX11_counted wsX11_counted ({ frames := 1, cells := 0, slots := 0, locals := 23 } : Room) [.ref m0, .int 3] [(m0, .inr (10, [.ref m0A, .ref m0K, .ref m0I, .ref m0R, .long 0, .long 1, .ref m0H, .ref m0F, .ref m0W, .ref m0L, .ref m0B, .ref m0T, .ref m0O, .ref m0Y, .int 0, .int 0, .int 0, .int 0, .int 0, .ref m0N, .ref m0V])), (m0A, .inl (G.2 0, 311, .inl (fun _ => 0)))] sz (fun (r : Int32) (u : va_W) => (r = 0 ∧ u = [(m0, .inr (10, [.ref m0A, .ref m0K, .ref m0I, .ref m0R, .long 0, .long 1, .ref m0H, .ref m0F, .ref m0W, .ref m0L, .ref m0B, .ref m0T, .ref m0O, .ref m0Y, .int 0, .int 0, .int 0, .int 0, .int 0, .ref m0N, .ref m0V])), (m0A, .inl (G.2 0, 311, .inl (fun _ => 0)))])) := by
  refine Met.ofW (cc := cX11_counted) (maxL := 4) (ret := (some .int)) (by decide) rfl ?_
  intro p e s m args below meth c s₁ B hml hv
  obtain ⟨rfl, hsz, hP, hK, hD0, hN⟩ := hv
  have hx := B.exec
  have hb := B.bytes
  have hr := B.returns
  have hts := atoms_spec (ws := wsX11_counted) B.pre
  have hown : s.vm.findClass RX11 = some m.cls := findClass_of_methodNamed B.named
  have hlocks := B.notSynchronized
  subst hsz
  have hD := hD0.self (sz := s.heap.size)
  generalize hAe : va_A [(m0, .inr (10, [.ref m0A, .ref m0K, .ref m0I, .ref m0R, .long 0, .long 1, .ref m0H, .ref m0F, .ref m0W, .ref m0L, .ref m0B, .ref m0T, .ref m0O, .ref m0Y, .int 0, .int 0, .int 0, .int 0, .int 0, .ref m0N, .ref m0V])), (m0A, .inl (G.2 0, 311, .inl (fun _ => 0)))] s.heap.size = A at hD ⊢
  have hA : ∀ q : Nat, s.heap.size ≤ q → A q := fun q h => by rw [← hAe]; exact Or.inr h
  have hS : va_S A s.heap s.heap [] := va_S.rf
  have hP : va_P G.1 vwCl [(m0, .inr (10, [.ref m0A, .ref m0K, .ref m0I, .ref m0R, .long 0, .long 1, .ref m0H, .ref m0F, .ref m0W, .ref m0L, .ref m0B, .ref m0T, .ref m0O, .ref m0Y, .int 0, .int 0, .int 0, .int 0, .int 0, .ref m0N, .ref m0V])), (m0A, .inl (G.2 0, 311, .inl (fun _ => 0)))] s.heap := hP
  have hl := lv_entry ([.ref m0, .int 3]) (n := 4) (Nat.le_of_ble_eq_true rfl)
  rw [lg_entry_eq]
  generalize (lg_sl ([.ref m0, .int 3]) ++ List.replicate (4 - (lg_sl ([.ref m0, .int 3])).length) Slot.unset).toArray = ls at hl ⊢
  have hl : lv_has ls 4 [(0, .ref m0), (1, .int 3)] := hl
  refine lv_iconst (v := 0) hx hb dX11_counted_0 (by decide) ?_
  refine lv_istore_n (lv' := [(2, .int 0), (0, .ref m0), (1, .int 3)]) hx hb dX11_counted_1 rfl hl (by decide) rfl (fun ls hl => ?_)
  refine lv_iconst (v := 0) hx hb dX11_counted_2 (by decide) ?_
  refine lv_istore_n (lv' := [(3, .int 0), (2, .int 0), (0, .ref m0), (1, .int 3)]) hx hb dX11_counted_3 rfl hl (by decide) rfl (fun ls hl => ?_)
  refine lv_iload_n hx hb dX11_counted_4 rfl (lv_at hl 0 rfl) ?_
  refine lv_aload_n hx hb dX11_counted_5 rfl (lv_at hl 2 rfl) ?_
  refine g_calli (wr := []) (va_runV (As := []) (rest := [.int 0]) ⟨hx, hb, hml, hown, hts⟩ (c_X11_many l G (m0) (m0A) (m0K) (m0I) (m0R) (m0H) (m0F) (m0W) (m0L) (m0B) (m0T) (m0O) (m0Y) (m0N) (m0V) _) (cwV 0 hts gX11_counted_X11_many rfl rfl rfl (by decide +kernel) ⟨Nat.le_of_ble_eq_true rfl, Nat.le_of_ble_eq_true rfl⟩) (g_preV m0 [] hP hD hK hN [0, 1] rfl rfl 0 (ci := 10) rfl rfl) rfl rfl hl.1 rfl (lv_room (Nat.le_of_ble_eq_true rfl)) dX11_counted_6 ⟨Nat.le_of_ble_eq_true rfl, Nat.le_of_ble_eq_true rfl⟩) hP hD hS hA [0, 1] [] rfl rfl rfl (by decide) (fun r_1 u H locs hw hP hD hS => ?_)
  obtain ⟨rfl, rfl⟩ := hw
  have hP : va_P G.1 vwCl [(m0, .inr (10, [.ref m0A, .ref m0K, .ref m0I, .ref m0R, .long 0, .long 1, .ref m0H, .ref m0F, .ref m0W, .ref m0L, .ref m0B, .ref m0T, .ref m0O, .ref m0Y, .int 0, .int 0, .int 0, .int 0, .int 0, .ref m0N, .ref m0V])), (m0A, .inl (G.2 0, 311, .inl (fun _ => 0)))] H := hP
  have hD : va_D A [(m0, .inr (10, [.ref m0A, .ref m0K, .ref m0I, .ref m0R, .long 0, .long 1, .ref m0H, .ref m0F, .ref m0W, .ref m0L, .ref m0B, .ref m0T, .ref m0O, .ref m0Y, .int 0, .int 0, .int 0, .int 0, .int 0, .ref m0N, .ref m0V])), (m0A, .inl (G.2 0, 311, .inl (fun _ => 0)))] := hD
  refine lv_icmp_ge (tgt := 30) hx hb dX11_counted_9 (by decide) (fun _ => ?_) (fun c_2 => g_no (by decide) c_2)
  refine lv_iload_n hx hb dX11_counted_30 rfl (lv_at hl 3 rfl) ?_
  refine lv_tableIn (off := 81) (tgt := 112) hx hb dX11_counted_31 (by decide) (by decide) (by decide) (by decide) ?_
  refine lv_aload_n hx hb dX11_counted_112 rfl (lv_at hl 2 rfl) ?_
  refine va_get (D := G.1) (ci := 10) (v := .ref m0A) (C := RX11) (T := TX11) (N := 21) hx hb hts (fun _ h => List.mem_cons_of_mem _ (List.mem_append_right _ h)) hown hK hP 0 rfl rfl 0 (by decide) (hts _ (List.mem_of_getElem? (i := 1) rfl)) (fun _ h9 => h9) rfl dX11_counted_113 ?_
  refine lv_iconst (v := 0) hx hb dX11_counted_116 (by decide) ?_
  refine g_calli (wr := [(m0, .inr (10, [.ref m0A, .ref m0K, .ref m0I, .ref m0R, .long 0, .long 1, .ref m0H, .ref m0F, .ref m0W, .ref m0L, .ref m0B, .ref m0T, .ref m0O, .ref m0Y, .int 0, .int 0, .int 0, .int 0, .int 0, .ref m0N, .ref m0V]))]) (va_runS (As := [.ref m0A, .int 0]) (rest := []) ⟨hx, hb, hml, hown, hts⟩ (c_X11_manyWith_311z l G (m0A) (0) _) (va_cwS 2 hts gX11_counted_X11_manyWith rfl rfl rfl (by decide +kernel) ⟨Nat.le_of_ble_eq_true rfl, Nat.le_of_ble_eq_true rfl⟩) (g_preS [.ref m0A, .int 0] hP hD hK hN [1] rfl rfl) rfl rfl hl.1 rfl (lv_room (Nat.le_of_ble_eq_true rfl)) dX11_counted_117 ⟨Nat.le_of_ble_eq_true rfl, Nat.le_of_ble_eq_true rfl⟩) hP hD hS hA [1] [0] rfl rfl rfl (by decide) (fun r_3 u H locs hw hP hD hS => ?_)
  obtain ⟨rfl, rfl⟩ := hw
  have hP : va_P G.1 vwCl [(m0, .inr (10, [.ref m0A, .ref m0K, .ref m0I, .ref m0R, .long 0, .long 1, .ref m0H, .ref m0F, .ref m0W, .ref m0L, .ref m0B, .ref m0T, .ref m0O, .ref m0Y, .int 0, .int 0, .int 0, .int 0, .int 0, .ref m0N, .ref m0V])), (m0A, .inl (G.2 0, 311, .inl (fun _ => 0)))] H := hP
  have hD : va_D A [(m0, .inr (10, [.ref m0A, .ref m0K, .ref m0I, .ref m0R, .long 0, .long 1, .ref m0H, .ref m0F, .ref m0W, .ref m0L, .ref m0B, .ref m0T, .ref m0O, .ref m0Y, .int 0, .int 0, .int 0, .int 0, .int 0, .ref m0N, .ref m0V])), (m0A, .inl (G.2 0, 311, .inl (fun _ => 0)))] := hD
  exact g_iret (v := 0) hx hb hr hlocks hP hD hS (⟨rfl, rfl⟩) dX11_counted_120
theorem dX11_counted_121 : decode cX11_counted 121 = .ok (.aload_n 0, 1) := by decide +kernel
theorem dX11_counted_122 : decode cX11_counted 122 = .ok (.getfield 7, 3) := by decide +kernel
theorem dX11_counted_125 : decode cX11_counted 125 = .ok (.iconst 1, 1) := by decide +kernel
theorem dX11_counted_126 : decode cX11_counted 126 = .ok (.invokestatic 140, 3) := by decide +kernel
theorem dX11_counted_129 : decode cX11_counted 129 = .ok (.ireturn, 1) := by decide +kernel
set_option maxHeartbeats 8000000 in
set_option maxRecDepth 100000 in
theorem c_X11_counted_4 (l : Launch) (G : gG) (m0 : Nat) (m0A : Nat) (m0K : Nat) (m0I : Nat) (m0R : Nat) (m0H : Nat) (m0F : Nat) (m0W : Nat) (m0L : Nat) (m0B : Nat) (m0T : Nat) (m0O : Nat) (m0Y : Nat) (m0N : Nat) (m0V : Nat) (sz : Nat) : gI G l yX11_counted wsX11_counted ({ frames := 1, cells := 0, slots := 0, locals := 23 } : Room) [.ref m0, .int 4] [(m0, .inr (10, [.ref m0A, .ref m0K, .ref m0I, .ref m0R, .long 0, .long 1, .ref m0H, .ref m0F, .ref m0W, .ref m0L, .ref m0B, .ref m0T, .ref m0O, .ref m0Y, .int 0, .int 0, .int 0, .int 0, .int 0, .ref m0N, .ref m0V])), (m0A, .inl (G.2 0, 311, .inl (fun _ => 0)))] sz (fun (r : Int32) (u : va_W) => (r = 0 ∧ u = [(m0, .inr (10, [.ref m0A, .ref m0K, .ref m0I, .ref m0R, .long 0, .long 1, .ref m0H, .ref m0F, .ref m0W, .ref m0L, .ref m0B, .ref m0T, .ref m0O, .ref m0Y, .int 0, .int 0, .int 0, .int 0, .int 0, .ref m0N, .ref m0V])), (m0A, .inl (G.2 0, 311, .inl (fun _ => 0)))])) := by
  refine Met.ofW (cc := cX11_counted) (maxL := 4) (ret := (some .int)) (by decide) rfl ?_
  intro p e s m args below meth c s₁ B hml hv
  obtain ⟨rfl, hsz, hP, hK, hD0, hN⟩ := hv
  have hx := B.exec
  have hb := B.bytes
  have hr := B.returns
  have hts := atoms_spec (ws := wsX11_counted) B.pre
  have hown : s.vm.findClass RX11 = some m.cls := findClass_of_methodNamed B.named
  have hlocks := B.notSynchronized
  subst hsz
  have hD := hD0.self (sz := s.heap.size)
  generalize hAe : va_A [(m0, .inr (10, [.ref m0A, .ref m0K, .ref m0I, .ref m0R, .long 0, .long 1, .ref m0H, .ref m0F, .ref m0W, .ref m0L, .ref m0B, .ref m0T, .ref m0O, .ref m0Y, .int 0, .int 0, .int 0, .int 0, .int 0, .ref m0N, .ref m0V])), (m0A, .inl (G.2 0, 311, .inl (fun _ => 0)))] s.heap.size = A at hD ⊢
  have hA : ∀ q : Nat, s.heap.size ≤ q → A q := fun q h => by rw [← hAe]; exact Or.inr h
  have hS : va_S A s.heap s.heap [] := va_S.rf
  have hP : va_P G.1 vwCl [(m0, .inr (10, [.ref m0A, .ref m0K, .ref m0I, .ref m0R, .long 0, .long 1, .ref m0H, .ref m0F, .ref m0W, .ref m0L, .ref m0B, .ref m0T, .ref m0O, .ref m0Y, .int 0, .int 0, .int 0, .int 0, .int 0, .ref m0N, .ref m0V])), (m0A, .inl (G.2 0, 311, .inl (fun _ => 0)))] s.heap := hP
  have hl := lv_entry ([.ref m0, .int 4]) (n := 4) (Nat.le_of_ble_eq_true rfl)
  rw [lg_entry_eq]
  generalize (lg_sl ([.ref m0, .int 4]) ++ List.replicate (4 - (lg_sl ([.ref m0, .int 4])).length) Slot.unset).toArray = ls at hl ⊢
  have hl : lv_has ls 4 [(0, .ref m0), (1, .int 4)] := hl
  refine lv_iconst (v := 0) hx hb dX11_counted_0 (by decide) ?_
  refine lv_istore_n (lv' := [(2, .int 0), (0, .ref m0), (1, .int 4)]) hx hb dX11_counted_1 rfl hl (by decide) rfl (fun ls hl => ?_)
  refine lv_iconst (v := 0) hx hb dX11_counted_2 (by decide) ?_
  refine lv_istore_n (lv' := [(3, .int 0), (2, .int 0), (0, .ref m0), (1, .int 4)]) hx hb dX11_counted_3 rfl hl (by decide) rfl (fun ls hl => ?_)
  refine lv_iload_n hx hb dX11_counted_4 rfl (lv_at hl 0 rfl) ?_
  refine lv_aload_n hx hb dX11_counted_5 rfl (lv_at hl 2 rfl) ?_
  refine g_calli (wr := []) (va_runV (As := []) (rest := [.int 0]) ⟨hx, hb, hml, hown, hts⟩ (c_X11_many l G (m0) (m0A) (m0K) (m0I) (m0R) (m0H) (m0F) (m0W) (m0L) (m0B) (m0T) (m0O) (m0Y) (m0N) (m0V) _) (cwV 0 hts gX11_counted_X11_many rfl rfl rfl (by decide +kernel) ⟨Nat.le_of_ble_eq_true rfl, Nat.le_of_ble_eq_true rfl⟩) (g_preV m0 [] hP hD hK hN [0, 1] rfl rfl 0 (ci := 10) rfl rfl) rfl rfl hl.1 rfl (lv_room (Nat.le_of_ble_eq_true rfl)) dX11_counted_6 ⟨Nat.le_of_ble_eq_true rfl, Nat.le_of_ble_eq_true rfl⟩) hP hD hS hA [0, 1] [] rfl rfl rfl (by decide) (fun r_1 u H locs hw hP hD hS => ?_)
  obtain ⟨rfl, rfl⟩ := hw
  have hP : va_P G.1 vwCl [(m0, .inr (10, [.ref m0A, .ref m0K, .ref m0I, .ref m0R, .long 0, .long 1, .ref m0H, .ref m0F, .ref m0W, .ref m0L, .ref m0B, .ref m0T, .ref m0O, .ref m0Y, .int 0, .int 0, .int 0, .int 0, .int 0, .ref m0N, .ref m0V])), (m0A, .inl (G.2 0, 311, .inl (fun _ => 0)))] H := hP
  have hD : va_D A [(m0, .inr (10, [.ref m0A, .ref m0K, .ref m0I, .ref m0R, .long 0, .long 1, .ref m0H, .ref m0F, .ref m0W, .ref m0L, .ref m0B, .ref m0T, .ref m0O, .ref m0Y, .int 0, .int 0, .int 0, .int 0, .int 0, .ref m0N, .ref m0V])), (m0A, .inl (G.2 0, 311, .inl (fun _ => 0)))] := hD
  refine lv_icmp_ge (tgt := 30) hx hb dX11_counted_9 (by decide) (fun _ => ?_) (fun c_2 => g_no (by decide) c_2)
  refine lv_iload_n hx hb dX11_counted_30 rfl (lv_at hl 3 rfl) ?_
  refine lv_tableIn (off := 90) (tgt := 121) hx hb dX11_counted_31 (by decide) (by decide) (by decide) (by decide) ?_
  refine lv_aload_n hx hb dX11_counted_121 rfl (lv_at hl 2 rfl) ?_
  refine va_get (D := G.1) (ci := 10) (v := .ref m0A) (C := RX11) (T := TX11) (N := 21) hx hb hts (fun _ h => List.mem_cons_of_mem _ (List.mem_append_right _ h)) hown hK hP 0 rfl rfl 0 (by decide) (hts _ (List.mem_of_getElem? (i := 1) rfl)) (fun _ h9 => h9) rfl dX11_counted_122 ?_
  refine lv_iconst (v := 1) hx hb dX11_counted_125 (by decide) ?_
  refine g_calli (wr := [(m0, .inr (10, [.ref m0A, .ref m0K, .ref m0I, .ref m0R, .long 0, .long 1, .ref m0H, .ref m0F, .ref m0W, .ref m0L, .ref m0B, .ref m0T, .ref m0O, .ref m0Y, .int 0, .int 0, .int 0, .int 0, .int 0, .ref m0N, .ref m0V]))]) (va_runS (As := [.ref m0A, .int 1]) (rest := []) ⟨hx, hb, hml, hown, hts⟩ (c_X11_manyWith_311z l G (m0A) (1) _) (va_cwS 2 hts gX11_counted_X11_manyWith rfl rfl rfl (by decide +kernel) ⟨Nat.le_of_ble_eq_true rfl, Nat.le_of_ble_eq_true rfl⟩) (g_preS [.ref m0A, .int 1] hP hD hK hN [1] rfl rfl) rfl rfl hl.1 rfl (lv_room (Nat.le_of_ble_eq_true rfl)) dX11_counted_126 ⟨Nat.le_of_ble_eq_true rfl, Nat.le_of_ble_eq_true rfl⟩) hP hD hS hA [1] [0] rfl rfl rfl (by decide) (fun r_3 u H locs hw hP hD hS => ?_)
  obtain ⟨rfl, rfl⟩ := hw
  have hP : va_P G.1 vwCl [(m0, .inr (10, [.ref m0A, .ref m0K, .ref m0I, .ref m0R, .long 0, .long 1, .ref m0H, .ref m0F, .ref m0W, .ref m0L, .ref m0B, .ref m0T, .ref m0O, .ref m0Y, .int 0, .int 0, .int 0, .int 0, .int 0, .ref m0N, .ref m0V])), (m0A, .inl (G.2 0, 311, .inl (fun _ => 0)))] H := hP
  have hD : va_D A [(m0, .inr (10, [.ref m0A, .ref m0K, .ref m0I, .ref m0R, .long 0, .long 1, .ref m0H, .ref m0F, .ref m0W, .ref m0L, .ref m0B, .ref m0T, .ref m0O, .ref m0Y, .int 0, .int 0, .int 0, .int 0, .int 0, .ref m0N, .ref m0V])), (m0A, .inl (G.2 0, 311, .inl (fun _ => 0)))] := hD
  exact g_iret (v := 0) hx hb hr hlocks hP hD hS (⟨rfl, rfl⟩) dX11_counted_129
theorem dX11_counted_130 : decode cX11_counted 130 = .ok (.aload_n 0, 1) := by decide +kernel
theorem dX11_counted_131 : decode cX11_counted 131 = .ok (.getfield 7, 3) := by decide +kernel
theorem dX11_counted_134 : decode cX11_counted 134 = .ok (.iconst 2, 1) := by decide +kernel
theorem dX11_counted_135 : decode cX11_counted 135 = .ok (.invokestatic 140, 3) := by decide +kernel
theorem dX11_counted_138 : decode cX11_counted 138 = .ok (.ireturn, 1) := by decide +kernel
set_option maxHeartbeats 8000000 in
set_option maxRecDepth 100000 in
theorem c_X11_counted_5 (l : Launch) (G : gG) (m0 : Nat) (m0A : Nat) (m0K : Nat) (m0I : Nat) (m0R : Nat) (m0H : Nat) (m0F : Nat) (m0W : Nat) (m0L : Nat) (m0B : Nat) (m0T : Nat) (m0O : Nat) (m0Y : Nat) (m0N : Nat) (m0V : Nat) (sz : Nat) : gI G l yX11_counted wsX11_counted ({ frames := 1, cells := 0, slots := 0, locals := 23 } : Room) [.ref m0, .int 5] [(m0, .inr (10, [.ref m0A, .ref m0K, .ref m0I, .ref m0R, .long 0, .long 1, .ref m0H, .ref m0F, .ref m0W, .ref m0L, .ref m0B, .ref m0T, .ref m0O, .ref m0Y, .int 0, .int 0, .int 0, .int 0, .int 0, .ref m0N, .ref m0V])), (m0A, .inl (G.2 0, 311, .inl (fun _ => 0)))] sz (fun (r : Int32) (u : va_W) => (r = 0 ∧ u = [(m0, .inr (10, [.ref m0A, .ref m0K, .ref m0I, .ref m0R, .long 0, .long 1, .ref m0H, .ref m0F, .ref m0W, .ref m0L, .ref m0B, .ref m0T, .ref m0O, .ref m0Y, .int 0, .int 0, .int 0, .int 0, .int 0, .ref m0N, .ref m0V])), (m0A, .inl (G.2 0, 311, .inl (fun _ => 0)))])) := by
  refine Met.ofW (cc := cX11_counted) (maxL := 4) (ret := (some .int)) (by decide) rfl ?_
  intro p e s m args below meth c s₁ B hml hv
  obtain ⟨rfl, hsz, hP, hK, hD0, hN⟩ := hv
  have hx := B.exec
  have hb := B.bytes
  have hr := B.returns
  have hts := atoms_spec (ws := wsX11_counted) B.pre
  have hown : s.vm.findClass RX11 = some m.cls := findClass_of_methodNamed B.named
  have hlocks := B.notSynchronized
  subst hsz
  have hD := hD0.self (sz := s.heap.size)
  generalize hAe : va_A [(m0, .inr (10, [.ref m0A, .ref m0K, .ref m0I, .ref m0R, .long 0, .long 1, .ref m0H, .ref m0F, .ref m0W, .ref m0L, .ref m0B, .ref m0T, .ref m0O, .ref m0Y, .int 0, .int 0, .int 0, .int 0, .int 0, .ref m0N, .ref m0V])), (m0A, .inl (G.2 0, 311, .inl (fun _ => 0)))] s.heap.size = A at hD ⊢
  have hA : ∀ q : Nat, s.heap.size ≤ q → A q := fun q h => by rw [← hAe]; exact Or.inr h
  have hS : va_S A s.heap s.heap [] := va_S.rf
  have hP : va_P G.1 vwCl [(m0, .inr (10, [.ref m0A, .ref m0K, .ref m0I, .ref m0R, .long 0, .long 1, .ref m0H, .ref m0F, .ref m0W, .ref m0L, .ref m0B, .ref m0T, .ref m0O, .ref m0Y, .int 0, .int 0, .int 0, .int 0, .int 0, .ref m0N, .ref m0V])), (m0A, .inl (G.2 0, 311, .inl (fun _ => 0)))] s.heap := hP
  have hl := lv_entry ([.ref m0, .int 5]) (n := 4) (Nat.le_of_ble_eq_true rfl)
  rw [lg_entry_eq]
  generalize (lg_sl ([.ref m0, .int 5]) ++ List.replicate (4 - (lg_sl ([.ref m0, .int 5])).length) Slot.unset).toArray = ls at hl ⊢
  have hl : lv_has ls 4 [(0, .ref m0), (1, .int 5)] := hl
  refine lv_iconst (v := 0) hx hb dX11_counted_0 (by decide) ?_
  refine lv_istore_n (lv' := [(2, .int 0), (0, .ref m0), (1, .int 5)]) hx hb dX11_counted_1 rfl hl (by decide) rfl (fun ls hl => ?_)
  refine lv_iconst (v := 0) hx hb dX11_counted_2 (by decide) ?_
  refine lv_istore_n (lv' := [(3, .int 0), (2, .int 0), (0, .ref m0), (1, .int 5)]) hx hb dX11_counted_3 rfl hl (by decide) rfl (fun ls hl => ?_)
  refine lv_iload_n hx hb dX11_counted_4 rfl (lv_at hl 0 rfl) ?_
  refine lv_aload_n hx hb dX11_counted_5 rfl (lv_at hl 2 rfl) ?_
  refine g_calli (wr := []) (va_runV (As := []) (rest := [.int 0]) ⟨hx, hb, hml, hown, hts⟩ (c_X11_many l G (m0) (m0A) (m0K) (m0I) (m0R) (m0H) (m0F) (m0W) (m0L) (m0B) (m0T) (m0O) (m0Y) (m0N) (m0V) _) (cwV 0 hts gX11_counted_X11_many rfl rfl rfl (by decide +kernel) ⟨Nat.le_of_ble_eq_true rfl, Nat.le_of_ble_eq_true rfl⟩) (g_preV m0 [] hP hD hK hN [0, 1] rfl rfl 0 (ci := 10) rfl rfl) rfl rfl hl.1 rfl (lv_room (Nat.le_of_ble_eq_true rfl)) dX11_counted_6 ⟨Nat.le_of_ble_eq_true rfl, Nat.le_of_ble_eq_true rfl⟩) hP hD hS hA [0, 1] [] rfl rfl rfl (by decide) (fun r_1 u H locs hw hP hD hS => ?_)
  obtain ⟨rfl, rfl⟩ := hw
  have hP : va_P G.1 vwCl [(m0, .inr (10, [.ref m0A, .ref m0K, .ref m0I, .ref m0R, .long 0, .long 1, .ref m0H, .ref m0F, .ref m0W, .ref m0L, .ref m0B, .ref m0T, .ref m0O, .ref m0Y, .int 0, .int 0, .int 0, .int 0, .int 0, .ref m0N, .ref m0V])), (m0A, .inl (G.2 0, 311, .inl (fun _ => 0)))] H := hP
  have hD : va_D A [(m0, .inr (10, [.ref m0A, .ref m0K, .ref m0I, .ref m0R, .long 0, .long 1, .ref m0H, .ref m0F, .ref m0W, .ref m0L, .ref m0B, .ref m0T, .ref m0O, .ref m0Y, .int 0, .int 0, .int 0, .int 0, .int 0, .ref m0N, .ref m0V])), (m0A, .inl (G.2 0, 311, .inl (fun _ => 0)))] := hD
  refine lv_icmp_ge (tgt := 30) hx hb dX11_counted_9 (by decide) (fun _ => ?_) (fun c_2 => g_no (by decide) c_2)
  refine lv_iload_n hx hb dX11_counted_30 rfl (lv_at hl 3 rfl) ?_
  refine lv_tableIn (off := 99) (tgt := 130) hx hb dX11_counted_31 (by decide) (by decide) (by decide) (by decide) ?_
  refine lv_aload_n hx hb dX11_counted_130 rfl (lv_at hl 2 rfl) ?_
  refine va_get (D := G.1) (ci := 10) (v := .ref m0A) (C := RX11) (T := TX11) (N := 21) hx hb hts (fun _ h => List.mem_cons_of_mem _ (List.mem_append_right _ h)) hown hK hP 0 rfl rfl 0 (by decide) (hts _ (List.mem_of_getElem? (i := 1) rfl)) (fun _ h9 => h9) rfl dX11_counted_131 ?_
  refine lv_iconst (v := 2) hx hb dX11_counted_134 (by decide) ?_
  refine g_calli (wr := [(m0, .inr (10, [.ref m0A, .ref m0K, .ref m0I, .ref m0R, .long 0, .long 1, .ref m0H, .ref m0F, .ref m0W, .ref m0L, .ref m0B, .ref m0T, .ref m0O, .ref m0Y, .int 0, .int 0, .int 0, .int 0, .int 0, .ref m0N, .ref m0V]))]) (va_runS (As := [.ref m0A, .int 2]) (rest := []) ⟨hx, hb, hml, hown, hts⟩ (c_X11_manyWith_311z l G (m0A) (2) _) (va_cwS 2 hts gX11_counted_X11_manyWith rfl rfl rfl (by decide +kernel) ⟨Nat.le_of_ble_eq_true rfl, Nat.le_of_ble_eq_true rfl⟩) (g_preS [.ref m0A, .int 2] hP hD hK hN [1] rfl rfl) rfl rfl hl.1 rfl (lv_room (Nat.le_of_ble_eq_true rfl)) dX11_counted_135 ⟨Nat.le_of_ble_eq_true rfl, Nat.le_of_ble_eq_true rfl⟩) hP hD hS hA [1] [0] rfl rfl rfl (by decide) (fun r_3 u H locs hw hP hD hS => ?_)
  obtain ⟨rfl, rfl⟩ := hw
  have hP : va_P G.1 vwCl [(m0, .inr (10, [.ref m0A, .ref m0K, .ref m0I, .ref m0R, .long 0, .long 1, .ref m0H, .ref m0F, .ref m0W, .ref m0L, .ref m0B, .ref m0T, .ref m0O, .ref m0Y, .int 0, .int 0, .int 0, .int 0, .int 0, .ref m0N, .ref m0V])), (m0A, .inl (G.2 0, 311, .inl (fun _ => 0)))] H := hP
  have hD : va_D A [(m0, .inr (10, [.ref m0A, .ref m0K, .ref m0I, .ref m0R, .long 0, .long 1, .ref m0H, .ref m0F, .ref m0W, .ref m0L, .ref m0B, .ref m0T, .ref m0O, .ref m0Y, .int 0, .int 0, .int 0, .int 0, .int 0, .ref m0N, .ref m0V])), (m0A, .inl (G.2 0, 311, .inl (fun _ => 0)))] := hD
  exact g_iret (v := 0) hx hb hr hlocks hP hD hS (⟨rfl, rfl⟩) dX11_counted_138
theorem dX11_counted_139 : decode cX11_counted 139 = .ok (.iload_n 2, 1) := by decide +kernel
theorem dX11_counted_140 : decode cX11_counted 140 = .ok (.ireturn, 1) := by decide +kernel
set_option maxHeartbeats 8000000 in
set_option maxRecDepth 100000 in
theorem c_X11_counted_6 (l : Launch) (G : gG) (m0 : Nat) (m0A : Nat) (m0K : Nat) (m0I : Nat) (m0R : Nat) (m0H : Nat) (m0F : Nat) (m0W : Nat) (m0L : Nat) (m0B : Nat) (m0T : Nat) (m0O : Nat) (m0Y : Nat) (m0N : Nat) (m0V : Nat) (sz : Nat) : gI G l yX11_counted wsX11_counted ({ frames := 1, cells := 0, slots := 0, locals := 20 } : Room) [.ref m0, .int 6] [(m0, .inr (10, [.ref m0A, .ref m0K, .ref m0I, .ref m0R, .long 0, .long 1, .ref m0H, .ref m0F, .ref m0W, .ref m0L, .ref m0B, .ref m0T, .ref m0O, .ref m0Y, .int 0, .int 0, .int 0, .int 0, .int 0, .ref m0N, .ref m0V])), (m0A, .inl (G.2 0, 311, .inl (fun _ => 0)))] sz (fun (r : Int32) (u : va_W) => (r = 0 ∧ u = [(m0, .inr (10, [.ref m0A, .ref m0K, .ref m0I, .ref m0R, .long 0, .long 1, .ref m0H, .ref m0F, .ref m0W, .ref m0L, .ref m0B, .ref m0T, .ref m0O, .ref m0Y, .int 0, .int 0, .int 0, .int 0, .int 0, .ref m0N, .ref m0V])), (m0A, .inl (G.2 0, 311, .inl (fun _ => 0)))])) := by
  refine Met.ofW (cc := cX11_counted) (maxL := 4) (ret := (some .int)) (by decide) rfl ?_
  intro p e s m args below meth c s₁ B hml hv
  obtain ⟨rfl, hsz, hP, hK, hD0, hN⟩ := hv
  have hx := B.exec
  have hb := B.bytes
  have hr := B.returns
  have hts := atoms_spec (ws := wsX11_counted) B.pre
  have hown : s.vm.findClass RX11 = some m.cls := findClass_of_methodNamed B.named
  have hlocks := B.notSynchronized
  subst hsz
  have hD := hD0.self (sz := s.heap.size)
  generalize hAe : va_A [(m0, .inr (10, [.ref m0A, .ref m0K, .ref m0I, .ref m0R, .long 0, .long 1, .ref m0H, .ref m0F, .ref m0W, .ref m0L, .ref m0B, .ref m0T, .ref m0O, .ref m0Y, .int 0, .int 0, .int 0, .int 0, .int 0, .ref m0N, .ref m0V])), (m0A, .inl (G.2 0, 311, .inl (fun _ => 0)))] s.heap.size = A at hD ⊢
  have hA : ∀ q : Nat, s.heap.size ≤ q → A q := fun q h => by rw [← hAe]; exact Or.inr h
  have hS : va_S A s.heap s.heap [] := va_S.rf
  have hP : va_P G.1 vwCl [(m0, .inr (10, [.ref m0A, .ref m0K, .ref m0I, .ref m0R, .long 0, .long 1, .ref m0H, .ref m0F, .ref m0W, .ref m0L, .ref m0B, .ref m0T, .ref m0O, .ref m0Y, .int 0, .int 0, .int 0, .int 0, .int 0, .ref m0N, .ref m0V])), (m0A, .inl (G.2 0, 311, .inl (fun _ => 0)))] s.heap := hP
  have hl := lv_entry ([.ref m0, .int 6]) (n := 4) (Nat.le_of_ble_eq_true rfl)
  rw [lg_entry_eq]
  generalize (lg_sl ([.ref m0, .int 6]) ++ List.replicate (4 - (lg_sl ([.ref m0, .int 6])).length) Slot.unset).toArray = ls at hl ⊢
  have hl : lv_has ls 4 [(0, .ref m0), (1, .int 6)] := hl
  refine lv_iconst (v := 0) hx hb dX11_counted_0 (by decide) ?_
  refine lv_istore_n (lv' := [(2, .int 0), (0, .ref m0), (1, .int 6)]) hx hb dX11_counted_1 rfl hl (by decide) rfl (fun ls hl => ?_)
  refine lv_iconst (v := 0) hx hb dX11_counted_2 (by decide) ?_
  refine lv_istore_n (lv' := [(3, .int 0), (2, .int 0), (0, .ref m0), (1, .int 6)]) hx hb dX11_counted_3 rfl hl (by decide) rfl (fun ls hl => ?_)
  refine lv_iload_n hx hb dX11_counted_4 rfl (lv_at hl 0 rfl) ?_
  refine lv_aload_n hx hb dX11_counted_5 rfl (lv_at hl 2 rfl) ?_
  refine g_calli (wr := []) (va_runV (As := []) (rest := [.int 0]) ⟨hx, hb, hml, hown, hts⟩ (c_X11_many l G (m0) (m0A) (m0K) (m0I) (m0R) (m0H) (m0F) (m0W) (m0L) (m0B) (m0T) (m0O) (m0Y) (m0N) (m0V) _) (cwV 0 hts gX11_counted_X11_many rfl rfl rfl (by decide +kernel) ⟨Nat.le_of_ble_eq_true rfl, Nat.le_of_ble_eq_true rfl⟩) (g_preV m0 [] hP hD hK hN [0, 1] rfl rfl 0 (ci := 10) rfl rfl) rfl rfl hl.1 rfl (lv_room (Nat.le_of_ble_eq_true rfl)) dX11_counted_6 ⟨Nat.le_of_ble_eq_true rfl, Nat.le_of_ble_eq_true rfl⟩) hP hD hS hA [0, 1] [] rfl rfl rfl (by decide) (fun r_1 u H locs hw hP hD hS => ?_)
  obtain ⟨rfl, rfl⟩ := hw
  have hP : va_P G.1 vwCl [(m0, .inr (10, [.ref m0A, .ref m0K, .ref m0I, .ref m0R, .long 0, .long 1, .ref m0H, .ref m0F, .ref m0W, .ref m0L, .ref m0B, .ref m0T, .ref m0O, .ref m0Y, .int 0, .int 0, .int 0, .int 0, .int 0, .ref m0N, .ref m0V])), (m0A, .inl (G.2 0, 311, .inl (fun _ => 0)))] H := hP
  have hD : va_D A [(m0, .inr (10, [.ref m0A, .ref m0K, .ref m0I, .ref m0R, .long 0, .long 1, .ref m0H, .ref m0F, .ref m0W, .ref m0L, .ref m0B, .ref m0T, .ref m0O, .ref m0Y, .int 0, .int 0, .int 0, .int 0, .int 0, .ref m0N, .ref m0V])), (m0A, .inl (G.2 0, 311, .inl (fun _ => 0)))] := hD
  refine lv_icmp_ge (tgt := 30) hx hb dX11_counted_9 (by decide) (fun _ => ?_) (fun c_2 => g_no (by decide) c_2)
  refine lv_iload_n hx hb dX11_counted_30 rfl (lv_at hl 3 rfl) ?_
  refine lv_tableIn (off := 108) (tgt := 139) hx hb dX11_counted_31 (by decide) (by decide) (by decide) (by decide) ?_
  refine lv_iload_n hx hb dX11_counted_139 rfl (lv_at hl 1 rfl) ?_
  exact g_iret (v := 0) hx hb hr hlocks hP hD hS (⟨rfl, rfl⟩) dX11_counted_140
theorem dX11_counted_146 : decode cX11_counted 146 = .ok (.aload_n 0, 1) := by decide +kernel
theorem dX11_counted_147 : decode cX11_counted 147 = .ok (.getfield 7, 3) := by decide +kernel
theorem dX11_counted_150 : decode cX11_counted 150 = .ok (.iconst 2, 1) := by decide +kernel
theorem dX11_counted_151 : decode cX11_counted 151 = .ok (.iload_n 1, 1) := by decide +kernel
theorem dX11_counted_152 : decode cX11_counted 152 = .ok (.iadd, 1) := by decide +kernel
theorem dX11_counted_153 : decode cX11_counted 153 = .ok (.bipush 7, 2) := by decide +kernel
theorem dX11_counted_155 : decode cX11_counted 155 = .ok (.isub, 1) := by decide +kernel
theorem dX11_counted_156 : decode cX11_counted 156 = .ok (.iaload, 1) := by decide +kernel
theorem dX11_counted_157 : decode cX11_counted 157 = .ok (.ireturn, 1) := by decide +kernel
set_option maxHeartbeats 8000000 in
set_option maxRecDepth 100000 in
theorem c_X11_counted_7 (l : Launch) (G : gG) (m0 : Nat) (m0A : Nat) (m0K : Nat) (m0I : Nat) (m0R : Nat) (m0H : Nat) (m0F : Nat) (m0W : Nat) (m0L : Nat) (m0B : Nat) (m0T : Nat) (m0O : Nat) (m0Y : Nat) (m0N : Nat) (m0V : Nat) (sz : Nat) : gI G l yX11_counted wsX11_counted ({ frames := 1, cells := 0, slots := 0, locals := 20 } : Room) [.ref m0, .int 7] [(m0, .inr (10, [.ref m0A, .ref m0K, .ref m0I, .ref m0R, .long 0, .long 1, .ref m0H, .ref m0F, .ref m0W, .ref m0L, .ref m0B, .ref m0T, .ref m0O, .ref m0Y, .int 0, .int 0, .int 0, .int 0, .int 0, .ref m0N, .ref m0V])), (m0A, .inl (G.2 0, 311, .inl (fun _ => 0)))] sz (fun (r : Int32) (u : va_W) => (r = 0 ∧ u = [(m0, .inr (10, [.ref m0A, .ref m0K, .ref m0I, .ref m0R, .long 0, .long 1, .ref m0H, .ref m0F, .ref m0W, .ref m0L, .ref m0B, .ref m0T, .ref m0O, .ref m0Y, .int 0, .int 0, .int 0, .int 0, .int 0, .ref m0N, .ref m0V])), (m0A, .inl (G.2 0, 311, .inl (fun _ => 0)))])) := by
  refine Met.ofW (cc := cX11_counted) (maxL := 4) (ret := (some .int)) (by decide) rfl ?_
  intro p e s m args below meth c s₁ B hml hv
  obtain ⟨rfl, hsz, hP, hK, hD0, hN⟩ := hv
  have hx := B.exec
  have hb := B.bytes
  have hr := B.returns
  have hts := atoms_spec (ws := wsX11_counted) B.pre
  have hown : s.vm.findClass RX11 = some m.cls := findClass_of_methodNamed B.named
  have hlocks := B.notSynchronized
  subst hsz
  have hD := hD0.self (sz := s.heap.size)
  generalize hAe : va_A [(m0, .inr (10, [.ref m0A, .ref m0K, .ref m0I, .ref m0R, .long 0, .long 1, .ref m0H, .ref m0F, .ref m0W, .ref m0L, .ref m0B, .ref m0T, .ref m0O, .ref m0Y, .int 0, .int 0, .int 0, .int 0, .int 0, .ref m0N, .ref m0V])), (m0A, .inl (G.2 0, 311, .inl (fun _ => 0)))] s.heap.size = A at hD ⊢
  have hA : ∀ q : Nat, s.heap.size ≤ q → A q := fun q h => by rw [← hAe]; exact Or.inr h
  have hS : va_S A s.heap s.heap [] := va_S.rf
  have hP : va_P G.1 vwCl [(m0, .inr (10, [.ref m0A, .ref m0K, .ref m0I, .ref m0R, .long 0, .long 1, .ref m0H, .ref m0F, .ref m0W, .ref m0L, .ref m0B, .ref m0T, .ref m0O, .ref m0Y, .int 0, .int 0, .int 0, .int 0, .int 0, .ref m0N, .ref m0V])), (m0A, .inl (G.2 0, 311, .inl (fun _ => 0)))] s.heap := hP
  have hl := lv_entry ([.ref m0, .int 7]) (n := 4) (Nat.le_of_ble_eq_true rfl)
  rw [lg_entry_eq]
  generalize (lg_sl ([.ref m0, .int 7]) ++ List.replicate (4 - (lg_sl ([.ref m0, .int 7])).length) Slot.unset).toArray = ls at hl ⊢
  have hl : lv_has ls 4 [(0, .ref m0), (1, .int 7)] := hl
  refine lv_iconst (v := 0) hx hb dX11_counted_0 (by decide) ?_
  refine lv_istore_n (lv' := [(2, .int 0), (0, .ref m0), (1, .int 7)]) hx hb dX11_counted_1 rfl hl (by decide) rfl (fun ls hl => ?_)
  refine lv_iconst (v := 0) hx hb dX11_counted_2 (by decide) ?_
  refine lv_istore_n (lv' := [(3, .int 0), (2, .int 0), (0, .ref m0), (1, .int 7)]) hx hb dX11_counted_3 rfl hl (by decide) rfl (fun ls hl => ?_)
  refine lv_iload_n hx hb dX11_counted_4 rfl (lv_at hl 0 rfl) ?_
  refine lv_aload_n hx hb dX11_counted_5 rfl (lv_at hl 2 rfl) ?_
  refine g_calli (wr := []) (va_runV (As := []) (rest := [.int 0]) ⟨hx, hb, hml, hown, hts⟩ (c_X11_many l G (m0) (m0A) (m0K) (m0I) (m0R) (m0H) (m0F) (m0W) (m0L) (m0B) (m0T) (m0O) (m0Y) (m0N) (m0V) _) (cwV 0 hts gX11_counted_X11_many rfl rfl rfl (by decide +kernel) ⟨Nat.le_of_ble_eq_true rfl, Nat.le_of_ble_eq_true rfl⟩) (g_preV m0 [] hP hD hK hN [0, 1] rfl rfl 0 (ci := 10) rfl rfl) rfl rfl hl.1 rfl (lv_room (Nat.le_of_ble_eq_true rfl)) dX11_counted_6 ⟨Nat.le_of_ble_eq_true rfl, Nat.le_of_ble_eq_true rfl⟩) hP hD hS hA [0, 1] [] rfl rfl rfl (by decide) (fun r_1 u H locs hw hP hD hS => ?_)
  obtain ⟨rfl, rfl⟩ := hw
  have hP : va_P G.1 vwCl [(m0, .inr (10, [.ref m0A, .ref m0K, .ref m0I, .ref m0R, .long 0, .long 1, .ref m0H, .ref m0F, .ref m0W, .ref m0L, .ref m0B, .ref m0T, .ref m0O, .ref m0Y, .int 0, .int 0, .int 0, .int 0, .int 0, .ref m0N, .ref m0V])), (m0A, .inl (G.2 0, 311, .inl (fun _ => 0)))] H := hP
  have hD : va_D A [(m0, .inr (10, [.ref m0A, .ref m0K, .ref m0I, .ref m0R, .long 0, .long 1, .ref m0H, .ref m0F, .ref m0W, .ref m0L, .ref m0B, .ref m0T, .ref m0O, .ref m0Y, .int 0, .int 0, .int 0, .int 0, .int 0, .ref m0N, .ref m0V])), (m0A, .inl (G.2 0, 311, .inl (fun _ => 0)))] := hD
  refine lv_icmp_ge (tgt := 30) hx hb dX11_counted_9 (by decide) (fun _ => ?_) (fun c_2 => g_no (by decide) c_2)
  refine lv_iload_n hx hb dX11_counted_30 rfl (lv_at hl 3 rfl) ?_
  refine lv_tableIn (off := 115) (tgt := 146) hx hb dX11_counted_31 (by decide) (by decide) (by decide) (by decide) ?_
  refine lv_aload_n hx hb dX11_counted_146 rfl (lv_at hl 2 rfl) ?_
  refine va_get (D := G.1) (ci := 10) (v := .ref m0A) (C := RX11) (T := TX11) (N := 21) hx hb hts (fun _ h => List.mem_cons_of_mem _ (List.mem_append_right _ h)) hown hK hP 0 rfl rfl 0 (by decide) (hts _ (List.mem_of_getElem? (i := 1) rfl)) (fun _ h9 => h9) rfl dX11_counted_147 ?_
  refine lv_iconst (v := 2) hx hb dX11_counted_150 (by decide) ?_
  refine lv_iload_n hx hb dX11_counted_151 rfl (lv_at hl 3 rfl) ?_
  refine lv_iadd hx hb dX11_counted_152 ?_
  refine g_topi (y := 9) (by decide) ?_
  refine lv_bipush (v := 7) hx hb dX11_counted_153 (by decide) ?_
  refine lv_isub hx hb dX11_counted_155 ?_
  refine g_topi (y := 2) (by decide) ?_
  refine va_iald hx hb hK hP 1 0 rfl rfl (by unfold vp_in; decide) dX11_counted_156 ?_
  refine g_topi (y := 0) rfl ?_
  exact g_iret (v := 0) hx hb hr hlocks hP hD hS (⟨rfl, rfl⟩) dX11_counted_157
set_option maxHeartbeats 8000000 in
set_option maxRecDepth 100000 in
theorem c_X11_counted_8 (l : Launch) (G : gG) (m0 : Nat) (m0A : Nat) (m0K : Nat) (m0I : Nat) (m0R : Nat) (m0H : Nat) (m0F : Nat) (m0W : Nat) (m0L : Nat) (m0B : Nat) (m0T : Nat) (m0O : Nat) (m0Y : Nat) (m0N : Nat) (m0V : Nat) (sz : Nat) : gI G l yX11_counted wsX11_counted ({ frames := 1, cells := 0, slots := 0, locals := 20 } : Room) [.ref m0, .int 8] [(m0, .inr (10, [.ref m0A, .ref m0K, .ref m0I, .ref m0R, .long 0, .long 1, .ref m0H, .ref m0F, .ref m0W, .ref m0L, .ref m0B, .ref m0T, .ref m0O, .ref m0Y, .int 0, .int 0, .int 0, .int 0, .int 0, .ref m0N, .ref m0V])), (m0A, .inl (G.2 0, 311, .inl (fun _ => 0)))] sz (fun (r : Int32) (u : va_W) => (r = 0 ∧ u = [(m0, .inr (10, [.ref m0A, .ref m0K, .ref m0I, .ref m0R, .long 0, .long 1, .ref m0H, .ref m0F, .ref m0W, .ref m0L, .ref m0B, .ref m0T, .ref m0O, .ref m0Y, .int 0, .int 0, .int 0, .int 0, .int 0, .ref m0N, .ref m0V])), (m0A, .inl (G.2 0, 311, .inl (fun _ => 0)))])) := by
  refine Met.ofW (cc := cX11_counted) (maxL := 4) (ret := (some .int)) (by decide) rfl ?_
  intro p e s m args below meth c s₁ B hml hv
  obtain ⟨rfl, hsz, hP, hK, hD0, hN⟩ := hv
  have hx := B.exec
  have hb := B.bytes
  have hr := B.returns
  have hts := atoms_spec (ws := wsX11_counted) B.pre
  have hown : s.vm.findClass RX11 = some m.cls := findClass_of_methodNamed B.named
  have hlocks := B.notSynchronized
  subst hsz
  have hD := hD0.self (sz := s.heap.size)
  generalize hAe : va_A [(m0, .inr (10, [.ref m0A, .ref m0K, .ref m0I, .ref m0R, .long 0, .long 1, .ref m0H, .ref m0F, .ref m0W, .ref m0L, .ref m0B, .ref m0T, .ref m0O, .ref m0Y, .int 0, .int 0, .int 0, .int 0, .int 0, .ref m0N, .ref m0V])), (m0A, .inl (G.2 0, 311, .inl (fun _ => 0)))] s.heap.size = A at hD ⊢
  have hA : ∀ q : Nat, s.heap.size ≤ q → A q := fun q h => by rw [← hAe]; exact Or.inr h
  have hS : va_S A s.heap s.heap [] := va_S.rf
  have hP : va_P G.1 vwCl [(m0, .inr (10, [.ref m0A, .ref m0K, .ref m0I, .ref m0R, .long 0, .long 1, .ref m0H, .ref m0F, .ref m0W, .ref m0L, .ref m0B, .ref m0T, .ref m0O, .ref m0Y, .int 0, .int 0, .int 0, .int 0, .int 0, .ref m0N, .ref m0V])), (m0A, .inl (G.2 0, 311, .inl (fun _ => 0)))] s.heap := hP
  have hl := lv_entry ([.ref m0, .int 8]) (n := 4) (Nat.le_of_ble_eq_true rfl)
  rw [lg_entry_eq]
  generalize (lg_sl ([.ref m0, .int 8]) ++ List.replicate (4 - (lg_sl ([.ref m0, .int 8])).length) Slot.unset).toArray = ls at hl ⊢
  have hl : lv_has ls 4 [(0, .ref m0), (1, .int 8)] := hl
  refine lv_iconst (v := 0) hx hb dX11_counted_0 (by decide) ?_
  refine lv_istore_n (lv' := [(2, .int 0), (0, .ref m0), (1, .int 8)]) hx hb dX11_counted_1 rfl hl (by decide) rfl (fun ls hl => ?_)
  refine lv_iconst (v := 0) hx hb dX11_counted_2 (by decide) ?_
  refine lv_istore_n (lv' := [(3, .int 0), (2, .int 0), (0, .ref m0), (1, .int 8)]) hx hb dX11_counted_3 rfl hl (by decide) rfl (fun ls hl => ?_)
  refine lv_iload_n hx hb dX11_counted_4 rfl (lv_at hl 0 rfl) ?_
  refine lv_aload_n hx hb dX11_counted_5 rfl (lv_at hl 2 rfl) ?_
  refine g_calli (wr := []) (va_runV (As := []) (rest := [.int 0]) ⟨hx, hb, hml, hown, hts⟩ (c_X11_many l G (m0) (m0A) (m0K) (m0I) (m0R) (m0H) (m0F) (m0W) (m0L) (m0B) (m0T) (m0O) (m0Y) (m0N) (m0V) _) (cwV 0 hts gX11_counted_X11_many rfl rfl rfl (by decide +kernel) ⟨Nat.le_of_ble_eq_true rfl, Nat.le_of_ble_eq_true rfl⟩) (g_preV m0 [] hP hD hK hN [0, 1] rfl rfl 0 (ci := 10) rfl rfl) rfl rfl hl.1 rfl (lv_room (Nat.le_of_ble_eq_true rfl)) dX11_counted_6 ⟨Nat.le_of_ble_eq_true rfl, Nat.le_of_ble_eq_true rfl⟩) hP hD hS hA [0, 1] [] rfl rfl rfl (by decide) (fun r_1 u H locs hw hP hD hS => ?_)
  obtain ⟨rfl, rfl⟩ := hw
  have hP : va_P G.1 vwCl [(m0, .inr (10, [.ref m0A, .ref m0K, .ref m0I, .ref m0R, .long 0, .long 1, .ref m0H, .ref m0F, .ref m0W, .ref m0L, .ref m0B, .ref m0T, .ref m0O, .ref m0Y, .int 0, .int 0, .int 0, .int 0, .int 0, .ref m0N, .ref m0V])), (m0A, .inl (G.2 0, 311, .inl (fun _ => 0)))] H := hP
  have hD : va_D A [(m0, .inr (10, [.ref m0A, .ref m0K, .ref m0I, .ref m0R, .long 0, .long 1, .ref m0H, .ref m0F, .ref m0W, .ref m0L, .ref m0B, .ref m0T, .ref m0O, .ref m0Y, .int 0, .int 0, .int 0, .int 0, .int 0, .ref m0N, .ref m0V])), (m0A, .inl (G.2 0, 311, .inl (fun _ => 0)))] := hD
  refine lv_icmp_ge (tgt := 30) hx hb dX11_counted_9 (by decide) (fun _ => ?_) (fun c_2 => g_no (by decide) c_2)
  refine lv_iload_n hx hb dX11_counted_30 rfl (lv_at hl 3 rfl) ?_
  refine lv_tableIn (off := 115) (tgt := 146) hx hb dX11_counted_31 (by decide) (by decide) (by decide) (by decide) ?_
  refine lv_aload_n hx hb dX11_counted_146 rfl (lv_at hl 2 rfl) ?_
  refine va_get (D := G.1) (ci := 10) (v := .ref m0A) (C := RX11) (T := TX11) (N := 21) hx hb hts (fun _ h => List.mem_cons_of_mem _ (List.mem_append_right _ h)) hown hK hP 0 rfl rfl 0 (by decide) (hts _ (List.mem_of_getElem? (i := 1) rfl)) (fun _ h9 => h9) rfl dX11_counted_147 ?_
  refine lv_iconst (v := 2) hx hb dX11_counted_150 (by decide) ?_
  refine lv_iload_n hx hb dX11_counted_151 rfl (lv_at hl 3 rfl) ?_
  refine lv_iadd hx hb dX11_counted_152 ?_
  refine g_topi (y := 10) (by decide) ?_
  refine lv_bipush (v := 7) hx hb dX11_counted_153 (by decide) ?_
  refine lv_isub hx hb dX11_counted_155 ?_
  refine g_topi (y := 3) (by decide) ?_
  refine va_iald hx hb hK hP 1 0 rfl rfl (by unfold vp_in; decide) dX11_counted_156 ?_
  refine g_topi (y := 0) rfl ?_
  exact g_iret (v := 0) hx hb hr hlocks hP hD hS (⟨rfl, rfl⟩) dX11_counted_157
set_option maxHeartbeats 8000000 in
set_option maxRecDepth 100000 in
theorem c_X11_counted_9 (l : Launch) (G : gG) (m0 : Nat) (m0A : Nat) (m0K : Nat) (m0I : Nat) (m0R : Nat) (m0H : Nat) (m0F : Nat) (m0W : Nat) (m0L : Nat) (m0B : Nat) (m0T : Nat) (m0O : Nat) (m0Y : Nat) (m0N : Nat) (m0V : Nat) (sz : Nat) : gI G l yX11_counted wsX11_counted ({ frames := 1, cells := 0, slots := 0, locals := 20 } : Room) [.ref m0, .int 9] [(m0, .inr (10, [.ref m0A, .ref m0K, .ref m0I, .ref m0R, .long 0, .long 1, .ref m0H, .ref m0F, .ref m0W, .ref m0L, .ref m0B, .ref m0T, .ref m0O, .ref m0Y, .int 0, .int 0, .int 0, .int 0, .int 0, .ref m0N, .ref m0V])), (m0A, .inl (G.2 0, 311, .inl (fun _ => 0)))] sz (fun (r : Int32) (u : va_W) => (r = 0 ∧ u = [(m0, .inr (10, [.ref m0A, .ref m0K, .ref m0I, .ref m0R, .long 0, .long 1, .ref m0H, .ref m0F, .ref m0W, .ref m0L, .ref m0B, .ref m0T, .ref m0O, .ref m0Y, .int 0, .int 0, .int 0, .int 0, .int 0, .ref m0N, .ref m0V])), (m0A, .inl (G.2 0, 311, .inl (fun _ => 0)))])) := by
  refine Met.ofW (cc := cX11_counted) (maxL := 4) (ret := (some .int)) (by decide) rfl ?_
  intro p e s m args below meth c s₁ B hml hv
  obtain ⟨rfl, hsz, hP, hK, hD0, hN⟩ := hv
  have hx := B.exec
  have hb := B.bytes
  have hr := B.returns
  have hts := atoms_spec (ws := wsX11_counted) B.pre
  have hown : s.vm.findClass RX11 = some m.cls := findClass_of_methodNamed B.named
  have hlocks := B.notSynchronized
  subst hsz
  have hD := hD0.self (sz := s.heap.size)
  generalize hAe : va_A [(m0, .inr (10, [.ref m0A, .ref m0K, .ref m0I, .ref m0R, .long 0, .long 1, .ref m0H, .ref m0F, .ref m0W, .ref m0L, .ref m0B, .ref m0T, .ref m0O, .ref m0Y, .int 0, .int 0, .int 0, .int 0, .int 0, .ref m0N, .ref m0V])), (m0A, .inl (G.2 0, 311, .inl (fun _ => 0)))] s.heap.size = A at hD ⊢
  have hA : ∀ q : Nat, s.heap.size ≤ q → A q := fun q h => by rw [← hAe]; exact Or.inr h
  have hS : va_S A s.heap s.heap [] := va_S.rf
  have hP : va_P G.1 vwCl [(m0, .inr (10, [.ref m0A, .ref m0K, .ref m0I, .ref m0R, .long 0, .long 1, .ref m0H, .ref m0F, .ref m0W, .ref m0L, .ref m0B, .ref m0T, .ref m0O, .ref m0Y, .int 0, .int 0, .int 0, .int 0, .int 0, .ref m0N, .ref m0V])), (m0A, .inl (G.2 0, 311, .inl (fun _ => 0)))] s.heap := hP
  have hl := lv_entry ([.ref m0, .int 9]) (n := 4) (Nat.le_of_ble_eq_true rfl)
  rw [lg_entry_eq]
  generalize (lg_sl ([.ref m0, .int 9]) ++ List.replicate (4 - (lg_sl ([.ref m0, .int 9])).length) Slot.unset).toArray = ls at hl ⊢
  have hl : lv_has ls 4 [(0, .ref m0), (1, .int 9)] := hl
  refine lv_iconst (v := 0) hx hb dX11_counted_0 (by decide) ?_
  refine lv_istore_n (lv' := [(2, .int 0), (0, .ref m0), (1, .int 9)]) hx hb dX11_counted_1 rfl hl (by decide) rfl (fun ls hl => ?_)
  refine lv_iconst (v := 0) hx hb dX11_counted_2 (by decide) ?_
  refine lv_istore_n (lv' := [(3, .int 0), (2, .int 0), (0, .ref m0), (1, .int 9)]) hx hb dX11_counted_3 rfl hl (by decide) rfl (fun ls hl => ?_)
  refine lv_iload_n hx hb dX11_counted_4 rfl (lv_at hl 0 rfl) ?_
  refine lv_aload_n hx hb dX11_counted_5 rfl (lv_at hl 2 rfl) ?_
  refine g_calli (wr := []) (va_runV (As := []) (rest := [.int 0]) ⟨hx, hb, hml, hown, hts⟩ (c_X11_many l G (m0) (m0A) (m0K) (m0I) (m0R) (m0H) (m0F) (m0W) (m0L) (m0B) (m0T) (m0O) (m0Y) (m0N) (m0V) _) (cwV 0 hts gX11_counted_X11_many rfl rfl rfl (by decide +kernel) ⟨Nat.le_of_ble_eq_true rfl, Nat.le_of_ble_eq_true rfl⟩) (g_preV m0 [] hP hD hK hN [0, 1] rfl rfl 0 (ci := 10) rfl rfl) rfl rfl hl.1 rfl (lv_room (Nat.le_of_ble_eq_true rfl)) dX11_counted_6 ⟨Nat.le_of_ble_eq_true rfl, Nat.le_of_ble_eq_true rfl⟩) hP hD hS hA [0, 1] [] rfl rfl rfl (by decide) (fun r_1 u H locs hw hP hD hS => ?_)
  obtain ⟨rfl, rfl⟩ := hw
  have hP : va_P G.1 vwCl [(m0, .inr (10, [.ref m0A, .ref m0K, .ref m0I, .ref m0R, .long 0, .long 1, .ref m0H, .ref m0F, .ref m0W, .ref m0L, .ref m0B, .ref m0T, .ref m0O, .ref m0Y, .int 0, .int 0, .int 0, .int 0, .int 0, .ref m0N, .ref m0V])), (m0A, .inl (G.2 0, 311, .inl (fun _ => 0)))] H := hP
  have hD : va_D A [(m0, .inr (10, [.ref m0A, .ref m0K, .ref m0I, .ref m0R, .long 0, .long 1, .ref m0H, .ref m0F, .ref m0W, .ref m0L, .ref m0B, .ref m0T, .ref m0O, .ref m0Y, .int 0, .int 0, .int 0, .int 0, .int 0, .ref m0N, .ref m0V])), (m0A, .inl (G.2 0, 311, .inl (fun _ => 0)))] := hD
  refine lv_icmp_ge (tgt := 30) hx hb dX11_counted_9 (by decide) (fun _ => ?_) (fun c_2 => g_no (by decide) c_2)
  refine lv_iload_n hx hb dX11_counted_30 rfl (lv_at hl 3 rfl) ?_
  refine lv_tableIn (off := 115) (tgt := 146) hx hb dX11_counted_31 (by decide) (by decide) (by decide) (by decide) ?_
  refine lv_aload_n hx hb dX11_counted_146 rfl (lv_at hl 2 rfl) ?_
  refine va_get (D := G.1) (ci := 10) (v := .ref m0A) (C := RX11) (T := TX11) (N := 21) hx hb hts (fun _ h => List.mem_cons_of_mem _ (List.mem_append_right _ h)) hown hK hP 0 rfl rfl 0 (by decide) (hts _ (List.mem_of_getElem? (i := 1) rfl)) (fun _ h9 => h9) rfl dX11_counted_147 ?_
  refine lv_iconst (v := 2) hx hb dX11_counted_150 (by decide) ?_
  refine lv_iload_n hx hb dX11_counted_151 rfl (lv_at hl 3 rfl) ?_
  refine lv_iadd hx hb dX11_counted_152 ?_
  refine g_topi (y := 11) (by decide) ?_
  refine lv_bipush (v := 7) hx hb dX11_counted_153 (by decide) ?_
  refine lv_isub hx hb dX11_counted_155 ?_
  refine g_topi (y := 4) (by decide) ?_
  refine va_iald hx hb hK hP 1 0 rfl rfl (by unfold vp_in; decide) dX11_counted_156 ?_
  refine g_topi (y := 0) rfl ?_
  exact g_iret (v := 0) hx hb hr hlocks hP hD hS (⟨rfl, rfl⟩) dX11_counted_157
set_option maxHeartbeats 8000000 in
set_option maxRecDepth 100000 in
theorem c_X11_counted_10 (l : Launch) (G : gG) (m0 : Nat) (m0A : Nat) (m0K : Nat) (m0I : Nat) (m0R : Nat) (m0H : Nat) (m0F : Nat) (m0W : Nat) (m0L : Nat) (m0B : Nat) (m0T : Nat) (m0O : Nat) (m0Y : Nat) (m0N : Nat) (m0V : Nat) (sz : Nat) : gI G l yX11_counted wsX11_counted ({ frames := 1, cells := 0, slots := 0, locals := 20 } : Room) [.ref m0, .int 10] [(m0, .inr (10, [.ref m0A, .ref m0K, .ref m0I, .ref m0R, .long 0, .long 1, .ref m0H, .ref m0F, .ref m0W, .ref m0L, .ref m0B, .ref m0T, .ref m0O, .ref m0Y, .int 0, .int 0, .int 0, .int 0, .int 0, .ref m0N, .ref m0V])), (m0A, .inl (G.2 0, 311, .inl (fun _ => 0)))] sz (fun (r : Int32) (u : va_W) => (r = 0 ∧ u = [(m0, .inr (10, [.ref m0A, .ref m0K, .ref m0I, .ref m0R, .long 0, .long 1, .ref m0H, .ref m0F, .ref m0W, .ref m0L, .ref m0B, .ref m0T, .ref m0O, .ref m0Y, .int 0, .int 0, .int 0, .int 0, .int 0, .ref m0N, .ref m0V])), (m0A, .inl (G.2 0, 311, .inl (fun _ => 0)))])) := by
  refine Met.ofW (cc := cX11_counted) (maxL := 4) (ret := (some .int)) (by decide) rfl ?_
  intro p e s m args below meth c s₁ B hml hv
  obtain ⟨rfl, hsz, hP, hK, hD0, hN⟩ := hv
  have hx := B.exec
  have hb := B.bytes
  have hr := B.returns
  have hts := atoms_spec (ws := wsX11_counted) B.pre
  have hown : s.vm.findClass RX11 = some m.cls := findClass_of_methodNamed B.named
  have hlocks := B.notSynchronized
  subst hsz
  have hD := hD0.self (sz := s.heap.size)
  generalize hAe : va_A [(m0, .inr (10, [.ref m0A, .ref m0K, .ref m0I, .ref m0R, .long 0, .long 1, .ref m0H, .ref m0F, .ref m0W, .ref m0L, .ref m0B, .ref m0T, .ref m0O, .ref m0Y, .int 0, .int 0, .int 0, .int 0, .int 0, .ref m0N, .ref m0V])), (m0A, .inl (G.2 0, 311, .inl (fun _ => 0)))] s.heap.size = A at hD ⊢
  have hA : ∀ q : Nat, s.heap.size ≤ q → A q := fun q h => by rw [← hAe]; exact Or.inr h
  have hS : va_S A s.heap s.heap [] := va_S.rf
  have hP : va_P G.1 vwCl [(m0, .inr (10, [.ref m0A, .ref m0K, .ref m0I, .ref m0R, .long 0, .long 1, .ref m0H, .ref m0F, .ref m0W, .ref m0L, .ref m0B, .ref m0T, .ref m0O, .ref m0Y, .int 0, .int 0, .int 0, .int 0, .int 0, .ref m0N, .ref m0V])), (m0A, .inl (G.2 0, 311, .inl (fun _ => 0)))] s.heap := hP
  have hl := lv_entry ([.ref m0, .int 10]) (n := 4) (Nat.le_of_ble_eq_true rfl)
  rw [lg_entry_eq]
  generalize (lg_sl ([.ref m0, .int 10]) ++ List.replicate (4 - (lg_sl ([.ref m0, .int 10])).length) Slot.unset).toArray = ls at hl ⊢
  have hl : lv_has ls 4 [(0, .ref m0), (1, .int 10)] := hl
  refine lv_iconst (v := 0) hx hb dX11_counted_0 (by decide) ?_
  refine lv_istore_n (lv' := [(2, .int 0), (0, .ref m0), (1, .int 10)]) hx hb dX11_counted_1 rfl hl (by decide) rfl (fun ls hl => ?_)
  refine lv_iconst (v := 0) hx hb dX11_counted_2 (by decide) ?_
  refine lv_istore_n (lv' := [(3, .int 0), (2, .int 0), (0, .ref m0), (1, .int 10)]) hx hb dX11_counted_3 rfl hl (by decide) rfl (fun ls hl => ?_)
  refine lv_iload_n hx hb dX11_counted_4 rfl (lv_at hl 0 rfl) ?_
  refine lv_aload_n hx hb dX11_counted_5 rfl (lv_at hl 2 rfl) ?_
  refine g_calli (wr := []) (va_runV (As := []) (rest := [.int 0]) ⟨hx, hb, hml, hown, hts⟩ (c_X11_many l G (m0) (m0A) (m0K) (m0I) (m0R) (m0H) (m0F) (m0W) (m0L) (m0B) (m0T) (m0O) (m0Y) (m0N) (m0V) _) (cwV 0 hts gX11_counted_X11_many rfl rfl rfl (by decide +kernel) ⟨Nat.le_of_ble_eq_true rfl, Nat.le_of_ble_eq_true rfl⟩) (g_preV m0 [] hP hD hK hN [0, 1] rfl rfl 0 (ci := 10) rfl rfl) rfl rfl hl.1 rfl (lv_room (Nat.le_of_ble_eq_true rfl)) dX11_counted_6 ⟨Nat.le_of_ble_eq_true rfl, Nat.le_of_ble_eq_true rfl⟩) hP hD hS hA [0, 1] [] rfl rfl rfl (by decide) (fun r_1 u H locs hw hP hD hS => ?_)
  obtain ⟨rfl, rfl⟩ := hw
  have hP : va_P G.1 vwCl [(m0, .inr (10, [.ref m0A, .ref m0K, .ref m0I, .ref m0R, .long 0, .long 1, .ref m0H, .ref m0F, .ref m0W, .ref m0L, .ref m0B, .ref m0T, .ref m0O, .ref m0Y, .int 0, .int 0, .int 0, .int 0, .int 0, .ref m0N, .ref m0V])), (m0A, .inl (G.2 0, 311, .inl (fun _ => 0)))] H := hP
  have hD : va_D A [(m0, .inr (10, [.ref m0A, .ref m0K, .ref m0I, .ref m0R, .long 0, .long 1, .ref m0H, .ref m0F, .ref m0W, .ref m0L, .ref m0B, .ref m0T, .ref m0O, .ref m0Y, .int 0, .int 0, .int 0, .int 0, .int 0, .ref m0N, .ref m0V])), (m0A, .inl (G.2 0, 311, .inl (fun _ => 0)))] := hD
  refine lv_icmp_ge (tgt := 30) hx hb dX11_counted_9 (by decide) (fun _ => ?_) (fun c_2 => g_no (by decide) c_2)
  refine lv_iload_n hx hb dX11_counted_30 rfl (lv_at hl 3 rfl) ?_
  refine lv_tableIn (off := 115) (tgt := 146) hx hb dX11_counted_31 (by decide) (by decide) (by decide) (by decide) ?_
  refine lv_aload_n hx hb dX11_counted_146 rfl (lv_at hl 2 rfl) ?_
  refine va_get (D := G.1) (ci := 10) (v := .ref m0A) (C := RX11) (T := TX11) (N := 21) hx hb hts (fun _ h => List.mem_cons_of_mem _ (List.mem_append_right _ h)) hown hK hP 0 rfl rfl 0 (by decide) (hts _ (List.mem_of_getElem? (i := 1) rfl)) (fun _ h9 => h9) rfl dX11_counted_147 ?_
  refine lv_iconst (v := 2) hx hb dX11_counted_150 (by decide) ?_
  refine lv_iload_n hx hb dX11_counted_151 rfl (lv_at hl 3 rfl) ?_
  refine lv_iadd hx hb dX11_counted_152 ?_
  refine g_topi (y := 12) (by decide) ?_
  refine lv_bipush (v := 7) hx hb dX11_counted_153 (by decide) ?_
  refine lv_isub hx hb dX11_counted_155 ?_
  refine g_topi (y := 5) (by decide) ?_
  refine va_iald hx hb hK hP 1 0 rfl rfl (by unfold vp_in; decide) dX11_counted_156 ?_
  refine g_topi (y := 0) rfl ?_
  exact g_iret (v := 0) hx hb hr hlocks hP hD hS (⟨rfl, rfl⟩) dX11_counted_157
theorem dX11_counted_141 : decode cX11_counted 141 = .ok (.aload_n 0, 1) := by decide +kernel
theorem dX11_counted_142 : decode cX11_counted 142 = .ok (.getfield 232, 3) := by decide +kernel
theorem dX11_counted_145 : decode cX11_counted 145 = .ok (.ireturn, 1) := by decide +kernel
set_option maxHeartbeats 8000000 in
set_option maxRecDepth 100000 in
theorem c_X11_counted_11 (l : Launch) (G : gG) (m0 : Nat) (m0A : Nat) (m0K : Nat) (m0I : Nat) (m0R : Nat) (m0H : Nat) (m0F : Nat) (m0W : Nat) (m0L : Nat) (m0B : Nat) (m0T : Nat) (m0O : Nat) (m0Y : Nat) (m0N : Nat) (m0V : Nat) (sz : Nat) : gI G l yX11_counted wsX11_counted ({ frames := 1, cells := 0, slots := 0, locals := 20 } : Room) [.ref m0, .int 11] [(m0, .inr (10, [.ref m0A, .ref m0K, .ref m0I, .ref m0R, .long 0, .long 1, .ref m0H, .ref m0F, .ref m0W, .ref m0L, .ref m0B, .ref m0T, .ref m0O, .ref m0Y, .int 0, .int 0, .int 0, .int 0, .int 0, .ref m0N, .ref m0V])), (m0A, .inl (G.2 0, 311, .inl (fun _ => 0)))] sz (fun (r : Int32) (u : va_W) => (r = 0 ∧ u = [(m0, .inr (10, [.ref m0A, .ref m0K, .ref m0I, .ref m0R, .long 0, .long 1, .ref m0H, .ref m0F, .ref m0W, .ref m0L, .ref m0B, .ref m0T, .ref m0O, .ref m0Y, .int 0, .int 0, .int 0, .int 0, .int 0, .ref m0N, .ref m0V])), (m0A, .inl (G.2 0, 311, .inl (fun _ => 0)))])) := by
  refine Met.ofW (cc := cX11_counted) (maxL := 4) (ret := (some .int)) (by decide) rfl ?_
  intro p e s m args below meth c s₁ B hml hv
  obtain ⟨rfl, hsz, hP, hK, hD0, hN⟩ := hv
  have hx := B.exec
  have hb := B.bytes
  have hr := B.returns
  have hts := atoms_spec (ws := wsX11_counted) B.pre
  have hown : s.vm.findClass RX11 = some m.cls := findClass_of_methodNamed B.named
  have hlocks := B.notSynchronized
  subst hsz
  have hD := hD0.self (sz := s.heap.size)
  generalize hAe : va_A [(m0, .inr (10, [.ref m0A, .ref m0K, .ref m0I, .ref m0R, .long 0, .long 1, .ref m0H, .ref m0F, .ref m0W, .ref m0L, .ref m0B, .ref m0T, .ref m0O, .ref m0Y, .int 0, .int 0, .int 0, .int 0, .int 0, .ref m0N, .ref m0V])), (m0A, .inl (G.2 0, 311, .inl (fun _ => 0)))] s.heap.size = A at hD ⊢
  have hA : ∀ q : Nat, s.heap.size ≤ q → A q := fun q h => by rw [← hAe]; exact Or.inr h
  have hS : va_S A s.heap s.heap [] := va_S.rf
  have hP : va_P G.1 vwCl [(m0, .inr (10, [.ref m0A, .ref m0K, .ref m0I, .ref m0R, .long 0, .long 1, .ref m0H, .ref m0F, .ref m0W, .ref m0L, .ref m0B, .ref m0T, .ref m0O, .ref m0Y, .int 0, .int 0, .int 0, .int 0, .int 0, .ref m0N, .ref m0V])), (m0A, .inl (G.2 0, 311, .inl (fun _ => 0)))] s.heap := hP
  have hl := lv_entry ([.ref m0, .int 11]) (n := 4) (Nat.le_of_ble_eq_true rfl)
  rw [lg_entry_eq]
  generalize (lg_sl ([.ref m0, .int 11]) ++ List.replicate (4 - (lg_sl ([.ref m0, .int 11])).length) Slot.unset).toArray = ls at hl ⊢
  have hl : lv_has ls 4 [(0, .ref m0), (1, .int 11)] := hl
  refine lv_iconst (v := 0) hx hb dX11_counted_0 (by decide) ?_
  refine lv_istore_n (lv' := [(2, .int 0), (0, .ref m0), (1, .int 11)]) hx hb dX11_counted_1 rfl hl (by decide) rfl (fun ls hl => ?_)
  refine lv_iconst (v := 0) hx hb dX11_counted_2 (by decide) ?_
  refine lv_istore_n (lv' := [(3, .int 0), (2, .int 0), (0, .ref m0), (1, .int 11)]) hx hb dX11_counted_3 rfl hl (by decide) rfl (fun ls hl => ?_)
  refine lv_iload_n hx hb dX11_counted_4 rfl (lv_at hl 0 rfl) ?_
  refine lv_aload_n hx hb dX11_counted_5 rfl (lv_at hl 2 rfl) ?_
  refine g_calli (wr := []) (va_runV (As := []) (rest := [.int 0]) ⟨hx, hb, hml, hown, hts⟩ (c_X11_many l G (m0) (m0A) (m0K) (m0I) (m0R) (m0H) (m0F) (m0W) (m0L) (m0B) (m0T) (m0O) (m0Y) (m0N) (m0V) _) (cwV 0 hts gX11_counted_X11_many rfl rfl rfl (by decide +kernel) ⟨Nat.le_of_ble_eq_true rfl, Nat.le_of_ble_eq_true rfl⟩) (g_preV m0 [] hP hD hK hN [0, 1] rfl rfl 0 (ci := 10) rfl rfl) rfl rfl hl.1 rfl (lv_room (Nat.le_of_ble_eq_true rfl)) dX11_counted_6 ⟨Nat.le_of_ble_eq_true rfl, Nat.le_of_ble_eq_true rfl⟩) hP hD hS hA [0, 1] [] rfl rfl rfl (by decide) (fun r_1 u H locs hw hP hD hS => ?_)
  obtain ⟨rfl, rfl⟩ := hw
  have hP : va_P G.1 vwCl [(m0, .inr (10, [.ref m0A, .ref m0K, .ref m0I, .ref m0R, .long 0, .long 1, .ref m0H, .ref m0F, .ref m0W, .ref m0L, .ref m0B, .ref m0T, .ref m0O, .ref m0Y, .int 0, .int 0, .int 0, .int 0, .int 0, .ref m0N, .ref m0V])), (m0A, .inl (G.2 0, 311, .inl (fun _ => 0)))] H := hP
  have hD : va_D A [(m0, .inr (10, [.ref m0A, .ref m0K, .ref m0I, .ref m0R, .long 0, .long 1, .ref m0H, .ref m0F, .ref m0W, .ref m0L, .ref m0B, .ref m0T, .ref m0O, .ref m0Y, .int 0, .int 0, .int 0, .int 0, .int 0, .ref m0N, .ref m0V])), (m0A, .inl (G.2 0, 311, .inl (fun _ => 0)))] := hD
  refine lv_icmp_ge (tgt := 30) hx hb dX11_counted_9 (by decide) (fun _ => ?_) (fun c_2 => g_no (by decide) c_2)
  refine lv_iload_n hx hb dX11_counted_30 rfl (lv_at hl 3 rfl) ?_
  refine lv_tableIn (off := 110) (tgt := 141) hx hb dX11_counted_31 (by decide) (by decide) (by decide) (by decide) ?_
  refine lv_aload_n hx hb dX11_counted_141 rfl (lv_at hl 2 rfl) ?_
  refine va_get (D := G.1) (ci := 10) (v := .int 0) (C := RX11) (T := TX11) (N := 21) hx hb hts (fun _ h => List.mem_cons_of_mem _ (List.mem_append_right _ h)) hown hK hP 0 rfl rfl 14 (by decide) (hts _ (List.mem_of_getElem? (i := 2) rfl)) (fun _ h9 => h9) rfl dX11_counted_142 ?_
  exact g_iret (v := 0) hx hb hr hlocks hP hD hS (⟨rfl, rfl⟩) dX11_counted_145
theorem dX11_count_0 : decode cX11_count 0 = .ok (.iload_n 1, 1) := by decide +kernel
theorem dX11_count_1 : decode cX11_count 1 = .ok (.i2l, 1) := by decide +kernel
theorem dX11_count_2 : decode cX11_count 2 = .ok (.lconst 0, 1) := by decide +kernel
theorem dX11_count_3 : decode cX11_count 3 = .ok (.ldc2_w 301, 3) := by decide +kernel
set_option maxRecDepth 20000 in
theorem ggX11_count_X11_in : GoodIn wsX11_count wsX11_in := goodIn_r _ [5] (by decide +kernel) (by decide +kernel)
set_option maxRecDepth 20000 in
theorem gX11_count_X11_in : GoodIn wsX11_count (va_wsS RX11 65 yX11_in wsX11_in) := goodIn_app (goodIn_of _ (by decide +kernel)) ggX11_count_X11_in
theorem dX11_count_6 : decode cX11_count 6 = .ok (.invokestatic 65, 3) := by decide +kernel
theorem dX11_count_9 : decode cX11_count 9 = .ok (.ifCond .eq 11, 3) := by decide +kernel
theorem dX11_count_12 : decode cX11_count 12 = .ok (.aload_n 0, 1) := by decide +kernel
theorem dX11_count_13 : decode cX11_count 13 = .ok (.iload_n 1, 1) := by decide +kernel
set_option maxRecDepth 20000 in
theorem ggX11_count_X11_counted : GoodIn wsX11_count wsX11_counted := goodIn_r _ [9, 10, 11, 12, 13, 14, 4, 15, 16, 17, 18, 24, 25, 26, 27, 28, 29, 30, 31, 32, 33, 34, 35, 36, 37, 38, 39, 40, 41, 42, 43, 44] (by decide +kernel) (by decide +kernel)
set_option maxRecDepth 20000 in
theorem gX11_count_X11_counted : GoodIn wsX11_count (wsV RX11 303 RX11 yX11_counted wsX11_counted) := goodIn_app (goodIn_of _ (by decide +kernel)) ggX11_count_X11_counted
theorem dX11_count_14 : decode cX11_count 14 = .ok (.invokevirtual 303, 3) := by decide +kernel
theorem dX11_count_17 : decode cX11_count 17 = .ok (.goto 9, 3) := by decide +kernel
theorem dX11_count_26 : decode cX11_count 26 = .ok (.ireturn, 1) := by decide +kernel
theorem dX11_count_20 : decode cX11_count 20 = .ok (.aload_n 0, 1) := by decide +kernel
theorem dX11_count_21 : decode cX11_count 21 = .ok (.bipush (-2), 2) := by decide +kernel
set_option maxRecDepth 20000 in
theorem ggX11_count_X11_bad : GoodIn wsX11_count wsX11_bad := goodIn_r _ [22, 23, 24, 25, 26, 27, 28, 29, 30, 31, 32, 33, 34, 35, 36, 37, 38, 39, 40, 41, 42, 43, 44] (by decide +kernel) (by decide +kernel)
set_option maxRecDepth 20000 in
theorem gX11_count_X11_bad : GoodIn wsX11_count (wsV RX11 79 RX11 yX11_bad wsX11_bad) := goodIn_app (goodIn_of _ (by decide +kernel)) ggX11_count_X11_bad
theorem dX11_count_23 : decode cX11_count 23 = .ok (.invokevirtual 79, 3) := by decide +kernel
set_option maxHeartbeats 8000000 in
set_option maxRecDepth 100000 in
theorem c_X11_count (l : Launch) (G : gG) (m0 : Nat) (m0A : Nat) (m0K : Nat) (m0I : Nat) (m0R : Nat) (m0H : Nat) (m0F : Nat) (m0W : Nat) (m0L : Nat) (m0B : Nat) (m0T : Nat) (m0O : Nat) (m0Y : Nat) (m0N : Nat) (m0V : Nat) (a1 : Int32) (sz : Nat) : gI G l yX11_count wsX11_count ({ frames := 2, cells := 0, slots := 0, locals := 46 } : Room) [.ref m0, .int a1] [(m0, .inr (10, [.ref m0A, .ref m0K, .ref m0I, .ref m0R, .long 0, .long 1, .ref m0H, .ref m0F, .ref m0W, .ref m0L, .ref m0B, .ref m0T, .ref m0O, .ref m0Y, .int 0, .int 0, .int 0, .int 0, .int 0, .ref m0N, .ref m0V])), (m0A, .inl (G.2 0, 311, .inl (fun _ => 0))), (m0R, .inl (G.2 0, 3, .inl (fun _ => 0)))] sz (fun (r : Int32) (u : va_W) => (r = (F_count a1) ∧ u = [])) := by
  refine Met.ofW (cc := cX11_count) (maxL := 2) (ret := (some .int)) (by decide) rfl ?_
  intro p e s m args below meth c s₁ B hml hv
  obtain ⟨rfl, hsz, hP, hK, hD0, hN⟩ := hv
  have hx := B.exec
  have hb := B.bytes
  have hr := B.returns
  have hts := atoms_spec (ws := wsX11_count) B.pre
  have hown : s.vm.findClass RX11 = some m.cls := findClass_of_methodNamed B.named
  have hlocks := B.notSynchronized
  subst hsz
  have hD := hD0.self (sz := s.heap.size)
  generalize hAe : va_A [(m0, .inr (10, [.ref m0A, .ref m0K, .ref m0I, .ref m0R, .long 0, .long 1, .ref m0H, .ref m0F, .ref m0W, .ref m0L, .ref m0B, .ref m0T, .ref m0O, .ref m0Y, .int 0, .int 0, .int 0, .int 0, .int 0, .ref m0N, .ref m0V])), (m0A, .inl (G.2 0, 311, .inl (fun _ => 0))), (m0R, .inl (G.2 0, 3, .inl (fun _ => 0)))] s.heap.size = A at hD ⊢
  have hA : ∀ q : Nat, s.heap.size ≤ q → A q := fun q h => by rw [← hAe]; exact Or.inr h
  have hS : va_S A s.heap s.heap [] := va_S.rf
  have hP : va_P G.1 vwCl [(m0, .inr (10, [.ref m0A, .ref m0K, .ref m0I, .ref m0R, .long 0, .long 1, .ref m0H, .ref m0F, .ref m0W, .ref m0L, .ref m0B, .ref m0T, .ref m0O, .ref m0Y, .int 0, .int 0, .int 0, .int 0, .int 0, .ref m0N, .ref m0V])), (m0A, .inl (G.2 0, 311, .inl (fun _ => 0))), (m0R, .inl (G.2 0, 3, .inl (fun _ => 0)))] s.heap := hP
  have hl := lv_entry ([.ref m0, .int a1]) (n := 2) (Nat.le_of_ble_eq_true rfl)
  rw [lg_entry_eq]
  generalize (lg_sl ([.ref m0, .int a1]) ++ List.replicate (2 - (lg_sl ([.ref m0, .int a1])).length) Slot.unset).toArray = ls at hl ⊢
  have hl : lv_has ls 2 [(0, .ref m0), (1, .int a1)] := hl
  refine lv_iload_n hx hb dX11_count_0 rfl (lv_at hl 1 rfl) ?_
  refine lv_i2l (v := a1.toInt64) hx hb dX11_count_1 rfl ?_
  refine lv_lconst (v := 0) hx hb dX11_count_2 (by decide) ?_
  refine lv_ldc2 (v := 11) hx hb hown (hts _ (List.mem_of_getElem? (i := 1) rfl)) dX11_count_3 ?_
  refine g_calli (wr := [(m0, .inr (10, [.ref m0A, .ref m0K, .ref m0I, .ref m0R, .long 0, .long 1, .ref m0H, .ref m0F, .ref m0W, .ref m0L, .ref m0B, .ref m0T, .ref m0O, .ref m0Y, .int 0, .int 0, .int 0, .int 0, .int 0, .ref m0N, .ref m0V])), (m0A, .inl (G.2 0, 311, .inl (fun _ => 0))), (m0R, .inl (G.2 0, 3, .inl (fun _ => 0)))]) (va_runS (As := [.long a1.toInt64, .long 0, .long 11]) (rest := []) ⟨hx, hb, hml, hown, hts⟩ (c_X11_in l G (a1.toInt64) (0) (11) _) (va_cwS 3 hts gX11_count_X11_in rfl rfl rfl (by decide +kernel) ⟨Nat.le_of_ble_eq_true rfl, Nat.le_of_ble_eq_true rfl⟩) (g_preS [.long a1.toInt64, .long 0, .long 11] hP hD hK hN [] rfl rfl) rfl rfl hl.1 rfl (lv_room (Nat.le_of_ble_eq_true rfl)) dX11_count_6 ⟨Nat.le_of_ble_eq_true rfl, Nat.le_of_ble_eq_true rfl⟩) hP hD hS hA [] [0, 1, 2] rfl rfl rfl (by decide) (fun r_1 u H locs hw hP hD hS => ?_)
  rcases hw with ⟨k_2, rfl, rfl⟩ | ⟨k_3, rfl, rfl⟩
  · have hP : va_P G.1 vwCl [(m0, .inr (10, [.ref m0A, .ref m0K, .ref m0I, .ref m0R, .long 0, .long 1, .ref m0H, .ref m0F, .ref m0W, .ref m0L, .ref m0B, .ref m0T, .ref m0O, .ref m0Y, .int 0, .int 0, .int 0, .int 0, .int 0, .ref m0N, .ref m0V])), (m0A, .inl (G.2 0, 311, .inl (fun _ => 0))), (m0R, .inl (G.2 0, 3, .inl (fun _ => 0)))] H := hP
    have hD : va_D A [(m0, .inr (10, [.ref m0A, .ref m0K, .ref m0I, .ref m0R, .long 0, .long 1, .ref m0H, .ref m0F, .ref m0W, .ref m0L, .ref m0B, .ref m0T, .ref m0O, .ref m0Y, .int 0, .int 0, .int 0, .int 0, .int 0, .ref m0N, .ref m0V])), (m0A, .inl (G.2 0, 311, .inl (fun _ => 0))), (m0R, .inl (G.2 0, 3, .inl (fun _ => 0)))] := hD
    rcases inB12 ((inL_i (lo := 0) (n := a1) (hi := 11) (by decide) (by decide)).symm.trans k_2) with rfl | rfl | rfl | rfl | rfl | rfl | rfl | rfl | rfl | rfl | rfl | rfl
    · refine lv_if_eq (tgt := 20) hx hb dX11_count_9 (by decide) (fun c_4 => g_no c_4 (by decide)) (fun _ => ?_)
      refine lv_aload_n hx hb dX11_count_12 rfl (lv_at hl 0 rfl) ?_
      refine lv_iload_n hx hb dX11_count_13 rfl (lv_at hl 1 rfl) ?_
      refine g_calli (wr := [(m0R, .inl (G.2 0, 3, .inl (fun _ => 0)))]) (va_runV (As := [.int 0]) (rest := []) ⟨hx, hb, hml, hown, hts⟩ (c_X11_counted_0 l G (m0) (m0A) (m0K) (m0I) (m0R) (m0H) (m0F) (m0W) (m0L) (m0B) (m0T) (m0O) (m0Y) (m0N) (m0V) _) (cwV 1 hts gX11_count_X11_counted rfl rfl rfl (by decide +kernel) ⟨Nat.le_of_ble_eq_true rfl, Nat.le_of_ble_eq_true rfl⟩) (g_preV m0 [.int 0] hP hD hK hN [0, 1] rfl rfl 0 (ci := 10) rfl rfl) rfl rfl hl.1 rfl (lv_room (Nat.le_of_ble_eq_true rfl)) dX11_count_14 ⟨Nat.le_of_ble_eq_true rfl, Nat.le_of_ble_eq_true rfl⟩) hP hD hS hA [0, 1] [2] rfl rfl rfl (by decide) (fun r_5 u H locs hw hP hD hS => ?_)
      obtain ⟨rfl, rfl⟩ := hw
      have hP : va_P G.1 vwCl [(m0R, .inl (G.2 0, 3, .inl (fun _ => 0))), (m0, .inr (10, [.ref m0A, .ref m0K, .ref m0I, .ref m0R, .long 0, .long 1, .ref m0H, .ref m0F, .ref m0W, .ref m0L, .ref m0B, .ref m0T, .ref m0O, .ref m0Y, .int 0, .int 0, .int 0, .int 0, .int 0, .ref m0N, .ref m0V])), (m0A, .inl (G.2 0, 311, .inl (fun _ => 0)))] H := hP
      have hD : va_D A [(m0R, .inl (G.2 0, 3, .inl (fun _ => 0))), (m0, .inr (10, [.ref m0A, .ref m0K, .ref m0I, .ref m0R, .long 0, .long 1, .ref m0H, .ref m0F, .ref m0W, .ref m0L, .ref m0B, .ref m0T, .ref m0O, .ref m0Y, .int 0, .int 0, .int 0, .int 0, .int 0, .ref m0N, .ref m0V])), (m0A, .inl (G.2 0, 311, .inl (fun _ => 0)))] := hD
      refine lv_goto (tgt := 26) hx hb dX11_count_17 (by decide) ?_
      have hP := hP.sub (ws' := []) [] rfl
      have hD := hD.sub (ws' := []) [] rfl rfl
      exact g_iret (v := 0) hx hb hr hlocks hP hD hS (⟨by decide, rfl⟩) dX11_count_26
    · refine lv_if_eq (tgt := 20) hx hb dX11_count_9 (by decide) (fun c_6 => g_no c_6 (by decide)) (fun _ => ?_)
      refine lv_aload_n hx hb dX11_count_12 rfl (lv_at hl 0 rfl) ?_
      refine lv_iload_n hx hb dX11_count_13 rfl (lv_at hl 1 rfl) ?_
      refine g_calli (wr := [(m0R, .inl (G.2 0, 3, .inl (fun _ => 0)))]) (va_runV (As := [.int 1]) (rest := []) ⟨hx, hb, hml, hown, hts⟩ (c_X11_counted_1 l G (m0) (m0A) (m0K) (m0I) (m0R) (m0H) (m0F) (m0W) (m0L) (m0B) (m0T) (m0O) (m0Y) (m0N) (m0V) _) (cwV 1 hts gX11_count_X11_counted rfl rfl rfl (by decide +kernel) ⟨Nat.le_of_ble_eq_true rfl, Nat.le_of_ble_eq_true rfl⟩) (g_preV m0 [.int 1] hP hD hK hN [0, 1] rfl rfl 0 (ci := 10) rfl rfl) rfl rfl hl.1 rfl (lv_room (Nat.le_of_ble_eq_true rfl)) dX11_count_14 ⟨Nat.le_of_ble_eq_true rfl, Nat.le_of_ble_eq_true rfl⟩) hP hD hS hA [0, 1] [2] rfl rfl rfl (by decide) (fun r_7 u H locs hw hP hD hS => ?_)
      obtain ⟨rfl, rfl⟩ := hw
      have hP : va_P G.1 vwCl [(m0R, .inl (G.2 0, 3, .inl (fun _ => 0))), (m0, .inr (10, [.ref m0A, .ref m0K, .ref m0I, .ref m0R, .long 0, .long 1, .ref m0H, .ref m0F, .ref m0W, .ref m0L, .ref m0B, .ref m0T, .ref m0O, .ref m0Y, .int 0, .int 0, .int 0, .int 0, .int 0, .ref m0N, .ref m0V])), (m0A, .inl (G.2 0, 311, .inl (fun _ => 0)))] H := hP
      have hD : va_D A [(m0R, .inl (G.2 0, 3, .inl (fun _ => 0))), (m0, .inr (10, [.ref m0A, .ref m0K, .ref m0I, .ref m0R, .long 0, .long 1, .ref m0H, .ref m0F, .ref m0W, .ref m0L, .ref m0B, .ref m0T, .ref m0O, .ref m0Y, .int 0, .int 0, .int 0, .int 0, .int 0, .ref m0N, .ref m0V])), (m0A, .inl (G.2 0, 311, .inl (fun _ => 0)))] := hD
      refine lv_goto (tgt := 26) hx hb dX11_count_17 (by decide) ?_
      have hP := hP.sub (ws' := []) [] rfl
      have hD := hD.sub (ws' := []) [] rfl rfl
      exact g_iret (v := 0) hx hb hr hlocks hP hD hS (⟨by decide, rfl⟩) dX11_count_26
    · refine lv_if_eq (tgt := 20) hx hb dX11_count_9 (by decide) (fun c_8 => g_no c_8 (by decide)) (fun _ => ?_)
      refine lv_aload_n hx hb dX11_count_12 rfl (lv_at hl 0 rfl) ?_
      refine lv_iload_n hx hb dX11_count_13 rfl (lv_at hl 1 rfl) ?_
      refine g_calli (wr := [(m0R, .inl (G.2 0, 3, .inl (fun _ => 0)))]) (va_runV (As := [.int 2]) (rest := []) ⟨hx, hb, hml, hown, hts⟩ (c_X11_counted_2 l G (m0) (m0A) (m0K) (m0I) (m0R) (m0H) (m0F) (m0W) (m0L) (m0B) (m0T) (m0O) (m0Y) (m0N) (m0V) _) (cwV 1 hts gX11_count_X11_counted rfl rfl rfl (by decide +kernel) ⟨Nat.le_of_ble_eq_true rfl, Nat.le_of_ble_eq_true rfl⟩) (g_preV m0 [.int 2] hP hD hK hN [0, 1] rfl rfl 0 (ci := 10) rfl rfl) rfl rfl hl.1 rfl (lv_room (Nat.le_of_ble_eq_true rfl)) dX11_count_14 ⟨Nat.le_of_ble_eq_true rfl, Nat.le_of_ble_eq_true rfl⟩) hP hD hS hA [0, 1] [2] rfl rfl rfl (by decide) (fun r_9 u H locs hw hP hD hS => ?_)
      obtain ⟨rfl, rfl⟩ := hw
      have hP : va_P G.1 vwCl [(m0R, .inl (G.2 0, 3, .inl (fun _ => 0))), (m0, .inr (10, [.ref m0A, .ref m0K, .ref m0I, .ref m0R, .long 0, .long 1, .ref m0H, .ref m0F, .ref m0W, .ref m0L, .ref m0B, .ref m0T, .ref m0O, .ref m0Y, .int 0, .int 0, .int 0, .int 0, .int 0, .ref m0N, .ref m0V])), (m0A, .inl (G.2 0, 311, .inl (fun _ => 0)))] H := hP
      have hD : va_D A [(m0R, .inl (G.2 0, 3, .inl (fun _ => 0))), (m0, .inr (10, [.ref m0A, .ref m0K, .ref m0I, .ref m0R, .long 0, .long 1, .ref m0H, .ref m0F, .ref m0W, .ref m0L, .ref m0B, .ref m0T, .ref m0O, .ref m0Y, .int 0, .int 0, .int 0, .int 0, .int 0, .ref m0N, .ref m0V])), (m0A, .inl (G.2 0, 311, .inl (fun _ => 0)))] := hD
      refine lv_goto (tgt := 26) hx hb dX11_count_17 (by decide) ?_
      have hP := hP.sub (ws' := []) [] rfl
      have hD := hD.sub (ws' := []) [] rfl rfl
      exact g_iret (v := 0) hx hb hr hlocks hP hD hS (⟨by decide, rfl⟩) dX11_count_26
    · refine lv_if_eq (tgt := 20) hx hb dX11_count_9 (by decide) (fun c_10 => g_no c_10 (by decide)) (fun _ => ?_)
      refine lv_aload_n hx hb dX11_count_12 rfl (lv_at hl 0 rfl) ?_
      refine lv_iload_n hx hb dX11_count_13 rfl (lv_at hl 1 rfl) ?_
      refine g_calli (wr := [(m0R, .inl (G.2 0, 3, .inl (fun _ => 0)))]) (va_runV (As := [.int 3]) (rest := []) ⟨hx, hb, hml, hown, hts⟩ (c_X11_counted_3 l G (m0) (m0A) (m0K) (m0I) (m0R) (m0H) (m0F) (m0W) (m0L) (m0B) (m0T) (m0O) (m0Y) (m0N) (m0V) _) (cwV 1 hts gX11_count_X11_counted rfl rfl rfl (by decide +kernel) ⟨Nat.le_of_ble_eq_true rfl, Nat.le_of_ble_eq_true rfl⟩) (g_preV m0 [.int 3] hP hD hK hN [0, 1] rfl rfl 0 (ci := 10) rfl rfl) rfl rfl hl.1 rfl (lv_room (Nat.le_of_ble_eq_true rfl)) dX11_count_14 ⟨Nat.le_of_ble_eq_true rfl, Nat.le_of_ble_eq_true rfl⟩) hP hD hS hA [0, 1] [2] rfl rfl rfl (by decide) (fun r_11 u H locs hw hP hD hS => ?_)
      obtain ⟨rfl, rfl⟩ := hw
      have hP : va_P G.1 vwCl [(m0R, .inl (G.2 0, 3, .inl (fun _ => 0))), (m0, .inr (10, [.ref m0A, .ref m0K, .ref m0I, .ref m0R, .long 0, .long 1, .ref m0H, .ref m0F, .ref m0W, .ref m0L, .ref m0B, .ref m0T, .ref m0O, .ref m0Y, .int 0, .int 0, .int 0, .int 0, .int 0, .ref m0N, .ref m0V])), (m0A, .inl (G.2 0, 311, .inl (fun _ => 0)))] H := hP
      have hD : va_D A [(m0R, .inl (G.2 0, 3, .inl (fun _ => 0))), (m0, .inr (10, [.ref m0A, .ref m0K, .ref m0I, .ref m0R, .long 0, .long 1, .ref m0H, .ref m0F, .ref m0W, .ref m0L, .ref m0B, .ref m0T, .ref m0O, .ref m0Y, .int 0, .int 0, .int 0, .int 0, .int 0, .ref m0N, .ref m0V])), (m0A, .inl (G.2 0, 311, .inl (fun _ => 0)))] := hD
      refine lv_goto (tgt := 26) hx hb dX11_count_17 (by decide) ?_
      have hP := hP.sub (ws' := []) [] rfl
      have hD := hD.sub (ws' := []) [] rfl rfl
      exact g_iret (v := 0) hx hb hr hlocks hP hD hS (⟨by decide, rfl⟩) dX11_count_26
    · refine lv_if_eq (tgt := 20) hx hb dX11_count_9 (by decide) (fun c_12 => g_no c_12 (by decide)) (fun _ => ?_)
      refine lv_aload_n hx hb dX11_count_12 rfl (lv_at hl 0 rfl) ?_
      refine lv_iload_n hx hb dX11_count_13 rfl (lv_at hl 1 rfl) ?_
      refine g_calli (wr := [(m0R, .inl (G.2 0, 3, .inl (fun _ => 0)))]) (va_runV (As := [.int 4]) (rest := []) ⟨hx, hb, hml, hown, hts⟩ (c_X11_counted_4 l G (m0) (m0A) (m0K) (m0I) (m0R) (m0H) (m0F) (m0W) (m0L) (m0B) (m0T) (m0O) (m0Y) (m0N) (m0V) _) (cwV 1 hts gX11_count_X11_counted rfl rfl rfl (by decide +kernel) ⟨Nat.le_of_ble_eq_true rfl, Nat.le_of_ble_eq_true rfl⟩) (g_preV m0 [.int 4] hP hD hK hN [0, 1] rfl rfl 0 (ci := 10) rfl rfl) rfl rfl hl.1 rfl (lv_room (Nat.le_of_ble_eq_true rfl)) dX11_count_14 ⟨Nat.le_of_ble_eq_true rfl, Nat.le_of_ble_eq_true rfl⟩) hP hD hS hA [0, 1] [2] rfl rfl rfl (by decide) (fun r_13 u H locs hw hP hD hS => ?_)
      obtain ⟨rfl, rfl⟩ := hw
      have hP : va_P G.1 vwCl [(m0R, .inl (G.2 0, 3, .inl (fun _ => 0))), (m0, .inr (10, [.ref m0A, .ref m0K, .ref m0I, .ref m0R, .long 0, .long 1, .ref m0H, .ref m0F, .ref m0W, .ref m0L, .ref m0B, .ref m0T, .ref m0O, .ref m0Y, .int 0, .int 0, .int 0, .int 0, .int 0, .ref m0N, .ref m0V])), (m0A, .inl (G.2 0, 311, .inl (fun _ => 0)))] H := hP
      have hD : va_D A [(m0R, .inl (G.2 0, 3, .inl (fun _ => 0))), (m0, .inr (10, [.ref m0A, .ref m0K, .ref m0I, .ref m0R, .long 0, .long 1, .ref m0H, .ref m0F, .ref m0W, .ref m0L, .ref m0B, .ref m0T, .ref m0O, .ref m0Y, .int 0, .int 0, .int 0, .int 0, .int 0, .ref m0N, .ref m0V])), (m0A, .inl (G.2 0, 311, .inl (fun _ => 0)))] := hD
      refine lv_goto (tgt := 26) hx hb dX11_count_17 (by decide) ?_
      have hP := hP.sub (ws' := []) [] rfl
      have hD := hD.sub (ws' := []) [] rfl rfl
      exact g_iret (v := 0) hx hb hr hlocks hP hD hS (⟨by decide, rfl⟩) dX11_count_26
    · refine lv_if_eq (tgt := 20) hx hb dX11_count_9 (by decide) (fun c_14 => g_no c_14 (by decide)) (fun _ => ?_)
      refine lv_aload_n hx hb dX11_count_12 rfl (lv_at hl 0 rfl) ?_
      refine lv_iload_n hx hb dX11_count_13 rfl (lv_at hl 1 rfl) ?_
      refine g_calli (wr := [(m0R, .inl (G.2 0, 3, .inl (fun _ => 0)))]) (va_runV (As := [.int 5]) (rest := []) ⟨hx, hb, hml, hown, hts⟩ (c_X11_counted_5 l G (m0) (m0A) (m0K) (m0I) (m0R) (m0H) (m0F) (m0W) (m0L) (m0B) (m0T) (m0O) (m0Y) (m0N) (m0V) _) (cwV 1 hts gX11_count_X11_counted rfl rfl rfl (by decide +kernel) ⟨Nat.le_of_ble_eq_true rfl, Nat.le_of_ble_eq_true rfl⟩) (g_preV m0 [.int 5] hP hD hK hN [0, 1] rfl rfl 0 (ci := 10) rfl rfl) rfl rfl hl.1 rfl (lv_room (Nat.le_of_ble_eq_true rfl)) dX11_count_14 ⟨Nat.le_of_ble_eq_true rfl, Nat.le_of_ble_eq_true rfl⟩) hP hD hS hA [0, 1] [2] rfl rfl rfl (by decide) (fun r_15 u H locs hw hP hD hS => ?_)
      obtain ⟨rfl, rfl⟩ := hw
      have hP : va_P G.1 vwCl [(m0R, .inl (G.2 0, 3, .inl (fun _ => 0))), (m0, .inr (10, [.ref m0A, .ref m0K, .ref m0I, .ref m0R, .long 0, .long 1, .ref m0H, .ref m0F, .ref m0W, .ref m0L, .ref m0B, .ref m0T, .ref m0O, .ref m0Y, .int 0, .int 0, .int 0, .int 0, .int 0, .ref m0N, .ref m0V])), (m0A, .inl (G.2 0, 311, .inl (fun _ => 0)))] H := hP
      have hD : va_D A [(m0R, .inl (G.2 0, 3, .inl (fun _ => 0))), (m0, .inr (10, [.ref m0A, .ref m0K, .ref m0I, .ref m0R, .long 0, .long 1, .ref m0H, .ref m0F, .ref m0W, .ref m0L, .ref m0B, .ref m0T, .ref m0O, .ref m0Y, .int 0, .int 0, .int 0, .int 0, .int 0, .ref m0N, .ref m0V])), (m0A, .inl (G.2 0, 311, .inl (fun _ => 0)))] := hD
      refine lv_goto (tgt := 26) hx hb dX11_count_17 (by decide) ?_
      have hP := hP.sub (ws' := []) [] rfl
      have hD := hD.sub (ws' := []) [] rfl rfl
      exact g_iret (v := 0) hx hb hr hlocks hP hD hS (⟨by decide, rfl⟩) dX11_count_26
    · refine lv_if_eq (tgt := 20) hx hb dX11_count_9 (by decide) (fun c_16 => g_no c_16 (by decide)) (fun _ => ?_)
      refine lv_aload_n hx hb dX11_count_12 rfl (lv_at hl 0 rfl) ?_
      refine lv_iload_n hx hb dX11_count_13 rfl (lv_at hl 1 rfl) ?_
      refine g_calli (wr := [(m0R, .inl (G.2 0, 3, .inl (fun _ => 0)))]) (va_runV (As := [.int 6]) (rest := []) ⟨hx, hb, hml, hown, hts⟩ (c_X11_counted_6 l G (m0) (m0A) (m0K) (m0I) (m0R) (m0H) (m0F) (m0W) (m0L) (m0B) (m0T) (m0O) (m0Y) (m0N) (m0V) _) (cwV 1 hts gX11_count_X11_counted rfl rfl rfl (by decide +kernel) ⟨Nat.le_of_ble_eq_true rfl, Nat.le_of_ble_eq_true rfl⟩) (g_preV m0 [.int 6] hP hD hK hN [0, 1] rfl rfl 0 (ci := 10) rfl rfl) rfl rfl hl.1 rfl (lv_room (Nat.le_of_ble_eq_true rfl)) dX11_count_14 ⟨Nat.le_of_ble_eq_true rfl, Nat.le_of_ble_eq_true rfl⟩) hP hD hS hA [0, 1] [2] rfl rfl rfl (by decide) (fun r_17 u H locs hw hP hD hS => ?_)
      obtain ⟨rfl, rfl⟩ := hw
      have hP : va_P G.1 vwCl [(m0R, .inl (G.2 0, 3, .inl (fun _ => 0))), (m0, .inr (10, [.ref m0A, .ref m0K, .ref m0I, .ref m0R, .long 0, .long 1, .ref m0H, .ref m0F, .ref m0W, .ref m0L, .ref m0B, .ref m0T, .ref m0O, .ref m0Y, .int 0, .int 0, .int 0, .int 0, .int 0, .ref m0N, .ref m0V])), (m0A, .inl (G.2 0, 311, .inl (fun _ => 0)))] H := hP
      have hD : va_D A [(m0R, .inl (G.2 0, 3, .inl (fun _ => 0))), (m0, .inr (10, [.ref m0A, .ref m0K, .ref m0I, .ref m0R, .long 0, .long 1, .ref m0H, .ref m0F, .ref m0W, .ref m0L, .ref m0B, .ref m0T, .ref m0O, .ref m0Y, .int 0, .int 0, .int 0, .int 0, .int 0, .ref m0N, .ref m0V])), (m0A, .inl (G.2 0, 311, .inl (fun _ => 0)))] := hD
      refine lv_goto (tgt := 26) hx hb dX11_count_17 (by decide) ?_
      have hP := hP.sub (ws' := []) [] rfl
      have hD := hD.sub (ws' := []) [] rfl rfl
      exact g_iret (v := 0) hx hb hr hlocks hP hD hS (⟨by decide, rfl⟩) dX11_count_26
    · refine lv_if_eq (tgt := 20) hx hb dX11_count_9 (by decide) (fun c_18 => g_no c_18 (by decide)) (fun _ => ?_)
      refine lv_aload_n hx hb dX11_count_12 rfl (lv_at hl 0 rfl) ?_
      refine lv_iload_n hx hb dX11_count_13 rfl (lv_at hl 1 rfl) ?_
      refine g_calli (wr := [(m0R, .inl (G.2 0, 3, .inl (fun _ => 0)))]) (va_runV (As := [.int 7]) (rest := []) ⟨hx, hb, hml, hown, hts⟩ (c_X11_counted_7 l G (m0) (m0A) (m0K) (m0I) (m0R) (m0H) (m0F) (m0W) (m0L) (m0B) (m0T) (m0O) (m0Y) (m0N) (m0V) _) (cwV 1 hts gX11_count_X11_counted rfl rfl rfl (by decide +kernel) ⟨Nat.le_of_ble_eq_true rfl, Nat.le_of_ble_eq_true rfl⟩) (g_preV m0 [.int 7] hP hD hK hN [0, 1] rfl rfl 0 (ci := 10) rfl rfl) rfl rfl hl.1 rfl (lv_room (Nat.le_of_ble_eq_true rfl)) dX11_count_14 ⟨Nat.le_of_ble_eq_true rfl, Nat.le_of_ble_eq_true rfl⟩) hP hD hS hA [0, 1] [2] rfl rfl rfl (by decide) (fun r_19 u H locs hw hP hD hS => ?_)
      obtain ⟨rfl, rfl⟩ := hw
      have hP : va_P G.1 vwCl [(m0R, .inl (G.2 0, 3, .inl (fun _ => 0))), (m0, .inr (10, [.ref m0A, .ref m0K, .ref m0I, .ref m0R, .long 0, .long 1, .ref m0H, .ref m0F, .ref m0W, .ref m0L, .ref m0B, .ref m0T, .ref m0O, .ref m0Y, .int 0, .int 0, .int 0, .int 0, .int 0, .ref m0N, .ref m0V])), (m0A, .inl (G.2 0, 311, .inl (fun _ => 0)))] H := hP
      have hD : va_D A [(m0R, .inl (G.2 0, 3, .inl (fun _ => 0))), (m0, .inr (10, [.ref m0A, .ref m0K, .ref m0I, .ref m0R, .long 0, .long 1, .ref m0H, .ref m0F, .ref m0W, .ref m0L, .ref m0B, .ref m0T, .ref m0O, .ref m0Y, .int 0, .int 0, .int 0, .int 0, .int 0, .ref m0N, .ref m0V])), (m0A, .inl (G.2 0, 311, .inl (fun _ => 0)))] := hD
      refine lv_goto (tgt := 26) hx hb dX11_count_17 (by decide) ?_
      have hP := hP.sub (ws' := []) [] rfl
      have hD := hD.sub (ws' := []) [] rfl rfl
      exact g_iret (v := 0) hx hb hr hlocks hP hD hS (⟨by decide, rfl⟩) dX11_count_26
    · refine lv_if_eq (tgt := 20) hx hb dX11_count_9 (by decide) (fun c_20 => g_no c_20 (by decide)) (fun _ => ?_)
      refine lv_aload_n hx hb dX11_count_12 rfl (lv_at hl 0 rfl) ?_
      refine lv_iload_n hx hb dX11_count_13 rfl (lv_at hl 1 rfl) ?_
      refine g_calli (wr := [(m0R, .inl (G.2 0, 3, .inl (fun _ => 0)))]) (va_runV (As := [.int 8]) (rest := []) ⟨hx, hb, hml, hown, hts⟩ (c_X11_counted_8 l G (m0) (m0A) (m0K) (m0I) (m0R) (m0H) (m0F) (m0W) (m0L) (m0B) (m0T) (m0O) (m0Y) (m0N) (m0V) _) (cwV 1 hts gX11_count_X11_counted rfl rfl rfl (by decide +kernel) ⟨Nat.le_of_ble_eq_true rfl, Nat.le_of_ble_eq_true rfl⟩) (g_preV m0 [.int 8] hP hD hK hN [0, 1] rfl rfl 0 (ci := 10) rfl rfl) rfl rfl hl.1 rfl (lv_room (Nat.le_of_ble_eq_true rfl)) dX11_count_14 ⟨Nat.le_of_ble_eq_true rfl, Nat.le_of_ble_eq_true rfl⟩) hP hD hS hA [0, 1] [2] rfl rfl rfl (by decide) (fun r_21 u H locs hw hP hD hS => ?_)
      obtain ⟨rfl, rfl⟩ := hw
      have hP : va_P G.1 vwCl [(m0R, .inl (G.2 0, 3, .inl (fun _ => 0))), (m0, .inr (10, [.ref m0A, .ref m0K, .ref m0I, .ref m0R, .long 0, .long 1, .ref m0H, .ref m0F, .ref m0W, .ref m0L, .ref m0B, .ref m0T, .ref m0O, .ref m0Y, .int 0, .int 0, .int 0, .int 0, .int 0, .ref m0N, .ref m0V])), (m0A, .inl (G.2 0, 311, .inl (fun _ => 0)))] H := hP
      have hD : va_D A [(m0R, .inl (G.2 0, 3, .inl (fun _ => 0))), (m0, .inr (10, [.ref m0A, .ref m0K, .ref m0I, .ref m0R, .long 0, .long 1, .ref m0H, .ref m0F, .ref m0W, .ref m0L, .ref m0B, .ref m0T, .ref m0O, .ref m0Y, .int 0, .int 0, .int 0, .int 0, .int 0, .ref m0N, .ref m0V])), (m0A, .inl (G.2 0, 311, .inl (fun _ => 0)))] := hD
      refine lv_goto (tgt := 26) hx hb dX11_count_17 (by decide) ?_
      have hP := hP.sub (ws' := []) [] rfl
      have hD := hD.sub (ws' := []) [] rfl rfl
      exact g_iret (v := 0) hx hb hr hlocks hP hD hS (⟨by decide, rfl⟩) dX11_count_26
    · refine lv_if_eq (tgt := 20) hx hb dX11_count_9 (by decide) (fun c_22 => g_no c_22 (by decide)) (fun _ => ?_)
      refine lv_aload_n hx hb dX11_count_12 rfl (lv_at hl 0 rfl) ?_
      refine lv_iload_n hx hb dX11_count_13 rfl (lv_at hl 1 rfl) ?_
      refine g_calli (wr := [(m0R, .inl (G.2 0, 3, .inl (fun _ => 0)))]) (va_runV (As := [.int 9]) (rest := []) ⟨hx, hb, hml, hown, hts⟩ (c_X11_counted_9 l G (m0) (m0A) (m0K) (m0I) (m0R) (m0H) (m0F) (m0W) (m0L) (m0B) (m0T) (m0O) (m0Y) (m0N) (m0V) _) (cwV 1 hts gX11_count_X11_counted rfl rfl rfl (by decide +kernel) ⟨Nat.le_of_ble_eq_true rfl, Nat.le_of_ble_eq_true rfl⟩) (g_preV m0 [.int 9] hP hD hK hN [0, 1] rfl rfl 0 (ci := 10) rfl rfl) rfl rfl hl.1 rfl (lv_room (Nat.le_of_ble_eq_true rfl)) dX11_count_14 ⟨Nat.le_of_ble_eq_true rfl, Nat.le_of_ble_eq_true rfl⟩) hP hD hS hA [0, 1] [2] rfl rfl rfl (by decide) (fun r_23 u H locs hw hP hD hS => ?_)
      obtain ⟨rfl, rfl⟩ := hw
      have hP : va_P G.1 vwCl [(m0R, .inl (G.2 0, 3, .inl (fun _ => 0))), (m0, .inr (10, [.ref m0A, .ref m0K, .ref m0I, .ref m0R, .long 0, .long 1, .ref m0H, .ref m0F, .ref m0W, .ref m0L, .ref m0B, .ref m0T, .ref m0O, .ref m0Y, .int 0, .int 0, .int 0, .int 0, .int 0, .ref m0N, .ref m0V])), (m0A, .inl (G.2 0, 311, .inl (fun _ => 0)))] H := hP
      have hD : va_D A [(m0R, .inl (G.2 0, 3, .inl (fun _ => 0))), (m0, .inr (10, [.ref m0A, .ref m0K, .ref m0I, .ref m0R, .long 0, .long 1, .ref m0H, .ref m0F, .ref m0W, .ref m0L, .ref m0B, .ref m0T, .ref m0O, .ref m0Y, .int 0, .int 0, .int 0, .int 0, .int 0, .ref m0N, .ref m0V])), (m0A, .inl (G.2 0, 311, .inl (fun _ => 0)))] := hD
      refine lv_goto (tgt := 26) hx hb dX11_count_17 (by decide) ?_
      have hP := hP.sub (ws' := []) [] rfl
      have hD := hD.sub (ws' := []) [] rfl rfl
      exact g_iret (v := 0) hx hb hr hlocks hP hD hS (⟨by decide, rfl⟩) dX11_count_26
    · refine lv_if_eq (tgt := 20) hx hb dX11_count_9 (by decide) (fun c_24 => g_no c_24 (by decide)) (fun _ => ?_)
      refine lv_aload_n hx hb dX11_count_12 rfl (lv_at hl 0 rfl) ?_
      refine lv_iload_n hx hb dX11_count_13 rfl (lv_at hl 1 rfl) ?_
      refine g_calli (wr := [(m0R, .inl (G.2 0, 3, .inl (fun _ => 0)))]) (va_runV (As := [.int 10]) (rest := []) ⟨hx, hb, hml, hown, hts⟩ (c_X11_counted_10 l G (m0) (m0A) (m0K) (m0I) (m0R) (m0H) (m0F) (m0W) (m0L) (m0B) (m0T) (m0O) (m0Y) (m0N) (m0V) _) (cwV 1 hts gX11_count_X11_counted rfl rfl rfl (by decide +kernel) ⟨Nat.le_of_ble_eq_true rfl, Nat.le_of_ble_eq_true rfl⟩) (g_preV m0 [.int 10] hP hD hK hN [0, 1] rfl rfl 0 (ci := 10) rfl rfl) rfl rfl hl.1 rfl (lv_room (Nat.le_of_ble_eq_true rfl)) dX11_count_14 ⟨Nat.le_of_ble_eq_true rfl, Nat.le_of_ble_eq_true rfl⟩) hP hD hS hA [0, 1] [2] rfl rfl rfl (by decide) (fun r_25 u H locs hw hP hD hS => ?_)
      obtain ⟨rfl, rfl⟩ := hw
      have hP : va_P G.1 vwCl [(m0R, .inl (G.2 0, 3, .inl (fun _ => 0))), (m0, .inr (10, [.ref m0A, .ref m0K, .ref m0I, .ref m0R, .long 0, .long 1, .ref m0H, .ref m0F, .ref m0W, .ref m0L, .ref m0B, .ref m0T, .ref m0O, .ref m0Y, .int 0, .int 0, .int 0, .int 0, .int 0, .ref m0N, .ref m0V])), (m0A, .inl (G.2 0, 311, .inl (fun _ => 0)))] H := hP
      have hD : va_D A [(m0R, .inl (G.2 0, 3, .inl (fun _ => 0))), (m0, .inr (10, [.ref m0A, .ref m0K, .ref m0I, .ref m0R, .long 0, .long 1, .ref m0H, .ref m0F, .ref m0W, .ref m0L, .ref m0B, .ref m0T, .ref m0O, .ref m0Y, .int 0, .int 0, .int 0, .int 0, .int 0, .ref m0N, .ref m0V])), (m0A, .inl (G.2 0, 311, .inl (fun _ => 0)))] := hD
      refine lv_goto (tgt := 26) hx hb dX11_count_17 (by decide) ?_
      have hP := hP.sub (ws' := []) [] rfl
      have hD := hD.sub (ws' := []) [] rfl rfl
      exact g_iret (v := 0) hx hb hr hlocks hP hD hS (⟨by decide, rfl⟩) dX11_count_26
    · refine lv_if_eq (tgt := 20) hx hb dX11_count_9 (by decide) (fun c_26 => g_no c_26 (by decide)) (fun _ => ?_)
      refine lv_aload_n hx hb dX11_count_12 rfl (lv_at hl 0 rfl) ?_
      refine lv_iload_n hx hb dX11_count_13 rfl (lv_at hl 1 rfl) ?_
      refine g_calli (wr := [(m0R, .inl (G.2 0, 3, .inl (fun _ => 0)))]) (va_runV (As := [.int 11]) (rest := []) ⟨hx, hb, hml, hown, hts⟩ (c_X11_counted_11 l G (m0) (m0A) (m0K) (m0I) (m0R) (m0H) (m0F) (m0W) (m0L) (m0B) (m0T) (m0O) (m0Y) (m0N) (m0V) _) (cwV 1 hts gX11_count_X11_counted rfl rfl rfl (by decide +kernel) ⟨Nat.le_of_ble_eq_true rfl, Nat.le_of_ble_eq_true rfl⟩) (g_preV m0 [.int 11] hP hD hK hN [0, 1] rfl rfl 0 (ci := 10) rfl rfl) rfl rfl hl.1 rfl (lv_room (Nat.le_of_ble_eq_true rfl)) dX11_count_14 ⟨Nat.le_of_ble_eq_true rfl, Nat.le_of_ble_eq_true rfl⟩) hP hD hS hA [0, 1] [2] rfl rfl rfl (by decide) (fun r_27 u H locs hw hP hD hS => ?_)
      obtain ⟨rfl, rfl⟩ := hw
      have hP : va_P G.1 vwCl [(m0R, .inl (G.2 0, 3, .inl (fun _ => 0))), (m0, .inr (10, [.ref m0A, .ref m0K, .ref m0I, .ref m0R, .long 0, .long 1, .ref m0H, .ref m0F, .ref m0W, .ref m0L, .ref m0B, .ref m0T, .ref m0O, .ref m0Y, .int 0, .int 0, .int 0, .int 0, .int 0, .ref m0N, .ref m0V])), (m0A, .inl (G.2 0, 311, .inl (fun _ => 0)))] H := hP
      have hD : va_D A [(m0R, .inl (G.2 0, 3, .inl (fun _ => 0))), (m0, .inr (10, [.ref m0A, .ref m0K, .ref m0I, .ref m0R, .long 0, .long 1, .ref m0H, .ref m0F, .ref m0W, .ref m0L, .ref m0B, .ref m0T, .ref m0O, .ref m0Y, .int 0, .int 0, .int 0, .int 0, .int 0, .ref m0N, .ref m0V])), (m0A, .inl (G.2 0, 311, .inl (fun _ => 0)))] := hD
      refine lv_goto (tgt := 26) hx hb dX11_count_17 (by decide) ?_
      have hP := hP.sub (ws' := []) [] rfl
      have hD := hD.sub (ws' := []) [] rfl rfl
      exact g_iret (v := 0) hx hb hr hlocks hP hD hS (⟨by decide, rfl⟩) dX11_count_26
  · have hP : va_P G.1 vwCl [(m0, .inr (10, [.ref m0A, .ref m0K, .ref m0I, .ref m0R, .long 0, .long 1, .ref m0H, .ref m0F, .ref m0W, .ref m0L, .ref m0B, .ref m0T, .ref m0O, .ref m0Y, .int 0, .int 0, .int 0, .int 0, .int 0, .ref m0N, .ref m0V])), (m0A, .inl (G.2 0, 311, .inl (fun _ => 0))), (m0R, .inl (G.2 0, 3, .inl (fun _ => 0)))] H := hP
    have hD : va_D A [(m0, .inr (10, [.ref m0A, .ref m0K, .ref m0I, .ref m0R, .long 0, .long 1, .ref m0H, .ref m0F, .ref m0W, .ref m0L, .ref m0B, .ref m0T, .ref m0O, .ref m0Y, .int 0, .int 0, .int 0, .int 0, .int 0, .ref m0N, .ref m0V])), (m0A, .inl (G.2 0, 311, .inl (fun _ => 0))), (m0R, .inl (G.2 0, 3, .inl (fun _ => 0)))] := hD
    refine lv_if_eq (tgt := 20) hx hb dX11_count_9 (by decide) (fun _ => ?_) (fun c_28 => g_no (by decide) c_28)
    refine lv_aload_n hx hb dX11_count_20 rfl (lv_at hl 0 rfl) ?_
    refine lv_bipush (v := (-2)) hx hb dX11_count_21 (by decide) ?_
    refine g_calli (wr := [(m0A, .inl (G.2 0, 311, .inl (fun _ => 0)))]) (va_runV (As := [.int (-2)]) (rest := []) ⟨hx, hb, hml, hown, hts⟩ (c_X11_bad l G (m0) (m0A) (m0K) (m0I) (m0R) (m0H) (m0F) (m0W) (m0L) (m0B) (m0T) (m0O) (m0Y) (m0N) (m0V) ((-2)) _) (cwV 1 hts gX11_count_X11_bad rfl rfl rfl (by decide +kernel) ⟨Nat.le_of_ble_eq_true rfl, Nat.le_of_ble_eq_true rfl⟩) (g_preV m0 [.int (-2)] hP hD hK hN [0, 2] rfl rfl 0 (ci := 10) rfl rfl) rfl rfl hl.1 rfl (lv_room (Nat.le_of_ble_eq_true rfl)) dX11_count_23 ⟨Nat.le_of_ble_eq_true rfl, Nat.le_of_ble_eq_true rfl⟩) hP hD hS hA [0, 2] [1] rfl rfl rfl (by decide) (fun r_29 u H locs hw hP hD hS => ?_)
    obtain ⟨rfl, rfl⟩ := hw
    have hP : va_P G.1 vwCl [(m0A, .inl (G.2 0, 311, .inl (fun _ => 0)))] H := hP
    have hD : va_D A [(m0A, .inl (G.2 0, 311, .inl (fun _ => 0)))] := hD
    have hP := hP.sub (ws' := []) [] rfl
    have hD := hD.sub (ws' := []) [] rfl rfl
    exact g_iret (v := (-2)) hx hb hr hlocks hP hD hS (⟨by have e1 := (inL_i (lo := 0) (n := a1) (hi := 11) (by decide) (by decide)).symm.trans k_3; simp [F_count, e1], rfl⟩) dX11_count_26
