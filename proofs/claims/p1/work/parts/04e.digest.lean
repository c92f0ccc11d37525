theorem dX6_mixRows_0 : decode cX6_mixRows 0 = .ok (.lload_n 1, 1) := by decide +kernel
theorem dX6_mixRows_1 : decode cX6_mixRows 1 = .ok (.lstore_n 3, 1) := by decide +kernel
theorem dX6_mixRows_2 : decode cX6_mixRows 2 = .ok (.iconst 0, 1) := by decide +kernel
theorem dX6_mixRows_3 : decode cX6_mixRows 3 = .ok (.istore 5, 2) := by decide +kernel
theorem dX6_mixRows_5 : decode cX6_mixRows 5 = .ok (.iload 5, 2) := by decide +kernel
theorem dX6_mixRows_7 : decode cX6_mixRows 7 = .ok (.aload_n 0, 1) := by decide +kernel
theorem dX6_mixRows_8 : decode cX6_mixRows 8 = .ok (.getfield 26, 3) := by decide +kernel
theorem dX6_mixRows_11 : decode cX6_mixRows 11 = .ok (.if_icmp .ge 43, 3) := by decide +kernel
theorem dX6_mixRows_54 : decode cX6_mixRows 54 = .ok (.lload_n 3, 1) := by decide +kernel
theorem dX6_mixRows_55 : decode cX6_mixRows 55 = .ok (.lreturn, 1) := by decide +kernel
set_option maxHeartbeats 8000000 in
set_option maxRecDepth 100000 in
theorem c_X6_mixRows (l : Launch) (G : gG) (w0 : Nat) (w_width : Int32) (w_limit : Int32) (w_cells : Nat) (a1 : Int64) (sz : Nat) : gL G l yX6_mixRows wsX6_mixRows ({ frames := 0, cells := 0, slots := 0, locals := 0 } : Room) [.ref w0, .long a1] [(w0, .inr (5, [.int w_width, .int w_limit, .ref w_cells, .int 0]))] sz (fun (r : Int64) (u : va_W) => (r = a1 ∧ u = [(w0, .inr (5, [.int w_width, .int w_limit, .ref w_cells, .int 0]))])) := by
  refine Met.ofW (cc := cX6_mixRows) (maxL := 7) (ret := (some .long)) (by decide) rfl ?_
  intro p e s m args below meth c s₁ B hml hv
  obtain ⟨rfl, hsz, hP, hK, hD0, hN⟩ := hv
  have hx := B.exec
  have hb := B.bytes
  have hr := B.returns
  have hts := atoms_spec (ws := wsX6_mixRows) B.pre
  have hown : s.vm.findClass RX6 = some m.cls := findClass_of_methodNamed B.named
  have hlocks := B.notSynchronized
  subst hsz
  have hD := hD0.self (sz := s.heap.size)
  generalize hAe : va_A [(w0, .inr (5, [.int w_width, .int w_limit, .ref w_cells, .int 0]))] s.heap.size = A at hD ⊢
  have hA : ∀ q : Nat, s.heap.size ≤ q → A q := fun q h => by rw [← hAe]; exact Or.inr h
  have hS : va_S A s.heap s.heap [] := va_S.rf
  have hP : va_P G.1 vwCl [(w0, .inr (5, [.int w_width, .int w_limit, .ref w_cells, .int 0]))] s.heap := hP
  have hl := lv_entry ([.ref w0, .long a1]) (n := 7) (Nat.le_of_ble_eq_true rfl)
  rw [lg_entry_eq]
  generalize (lg_sl ([.ref w0, .long a1]) ++ List.replicate (7 - (lg_sl ([.ref w0, .long a1])).length) Slot.unset).toArray = ls at hl ⊢
  have hl : lv_has ls 7 [(0, .ref w0), (1, .long a1)] := hl
  refine lv_lload_n hx hb dX6_mixRows_0 rfl (lv_at hl 1 rfl) ?_
  refine lv_lstore_n (lv' := [(3, .long a1), (0, .ref w0), (1, .long a1)]) hx hb dX6_mixRows_1 rfl hl (by decide) rfl (fun ls hl => ?_)
  refine lv_iconst (v := 0) hx hb dX6_mixRows_2 (by decide) ?_
  refine lv_istore (lv' := [(5, .int 0), (3, .long a1), (0, .ref w0), (1, .long a1)]) hx hb dX6_mixRows_3 hl (by decide) rfl (fun ls hl => ?_)
  refine lv_iload hx hb dX6_mixRows_5 (lv_at hl 0 rfl) ?_
  refine lv_aload_n hx hb dX6_mixRows_7 rfl (lv_at hl 2 rfl) ?_
  refine va_get (D := G.1) (ci := 5) (v := .int 0) (C := RX6) (T := TX6) (N := 4) hx hb hts (fun _ h => List.mem_cons_of_mem _ (List.mem_append_right _ h)) hown hK hP 0 rfl rfl 3 (by decide) (hts _ (List.mem_of_getElem? (i := 1) rfl)) (fun _ h9 => h9) rfl dX6_mixRows_8 ?_
  refine lv_icmp_ge (tgt := 54) hx hb dX6_mixRows_11 (by decide) (fun _ => ?_) (fun c_1 => g_no (by decide) c_1)
  refine lv_lload_n hx hb dX6_mixRows_54 rfl (lv_at hl 1 rfl) ?_
  exact g_lret (v := a1) hx hb hr hlocks hP hD hS (⟨rfl, rfl⟩) dX6_mixRows_55
theorem dX9_mixInto_0 : decode cX9_mixInto 0 = .ok (.lload_n 1, 1) := by decide +kernel
theorem dX9_mixInto_1 : decode cX9_mixInto 1 = .ok (.lstore_n 3, 1) := by decide +kernel
theorem dX9_mixInto_2 : decode cX9_mixInto 2 = .ok (.iconst 0, 1) := by decide +kernel
theorem dX9_mixInto_3 : decode cX9_mixInto 3 = .ok (.istore 5, 2) := by decide +kernel
theorem dX9_mixInto_5 : decode cX9_mixInto 5 = .ok (.iload 5, 2) := by decide +kernel
theorem dX9_mixInto_7 : decode cX9_mixInto 7 = .ok (.bipush 6, 2) := by decide +kernel
theorem dX9_mixInto_9 : decode cX9_mixInto 9 = .ok (.if_icmp .ge 24, 3) := by decide +kernel
theorem dX9_mixInto_12 : decode cX9_mixInto 12 = .ok (.ldc2_w 145, 3) := by decide +kernel
theorem dX9_mixInto_15 : decode cX9_mixInto 15 = .ok (.lload_n 3, 1) := by decide +kernel
theorem dX9_mixInto_16 : decode cX9_mixInto 16 = .ok (.lmul, 1) := by decide +kernel
theorem dX9_mixInto_17 : decode cX9_mixInto 17 = .ok (.aload_n 0, 1) := by decide +kernel
theorem dX9_mixInto_18 : decode cX9_mixInto 18 = .ok (.getfield 9, 3) := by decide +kernel
theorem dX9_mixInto_21 : decode cX9_mixInto 21 = .ok (.iload 5, 2) := by decide +kernel
theorem dX9_mixInto_23 : decode cX9_mixInto 23 = .ok (.iaload, 1) := by decide +kernel
theorem dX9_mixInto_24 : decode cX9_mixInto 24 = .ok (.i2l, 1) := by decide +kernel
theorem dX9_mixInto_25 : decode cX9_mixInto 25 = .ok (.ladd, 1) := by decide +kernel
theorem dX9_mixInto_26 : decode cX9_mixInto 26 = .ok (.lstore_n 3, 1) := by decide +kernel
theorem dX9_mixInto_27 : decode cX9_mixInto 27 = .ok (.iinc 5 1, 3) := by decide +kernel
theorem dX9_mixInto_30 : decode cX9_mixInto 30 = .ok (.goto (-25), 3) := by decide +kernel
theorem dX9_mixInto_33 : decode cX9_mixInto 33 = .ok (.iconst 0, 1) := by decide +kernel
theorem dX9_mixInto_34 : decode cX9_mixInto 34 = .ok (.istore 5, 2) := by decide +kernel
theorem dX9_mixInto_36 : decode cX9_mixInto 36 = .ok (.iload 5, 2) := by decide +kernel
theorem dX9_mixInto_38 : decode cX9_mixInto 38 = .ok (.aload_n 0, 1) := by decide +kernel
theorem dX9_mixInto_39 : decode cX9_mixInto 39 = .ok (.getfield 53, 3) := by decide +kernel
theorem dX9_mixInto_42 : decode cX9_mixInto 42 = .ok (.if_icmp .ge 40, 3) := by decide +kernel
theorem dX9_mixInto_82 : decode cX9_mixInto 82 = .ok (.iconst 0, 1) := by decide +kernel
theorem dX9_mixInto_83 : decode cX9_mixInto 83 = .ok (.istore 5, 2) := by decide +kernel
theorem dX9_mixInto_85 : decode cX9_mixInto 85 = .ok (.iload 5, 2) := by decide +kernel
theorem dX9_mixInto_87 : decode cX9_mixInto 87 = .ok (.aload_n 0, 1) := by decide +kernel
theorem dX9_mixInto_88 : decode cX9_mixInto 88 = .ok (.getfield 57, 3) := by decide +kernel
theorem dX9_mixInto_91 : decode cX9_mixInto 91 = .ok (.if_icmp .ge 39, 3) := by decide +kernel
theorem dX9_mixInto_130 : decode cX9_mixInto 130 = .ok (.aload_n 0, 1) := by decide +kernel
theorem dX9_mixInto_131 : decode cX9_mixInto 131 = .ok (.getfield 43, 3) := by decide +kernel
theorem dX9_mixInto_134 : decode cX9_mixInto 134 = .ok (.lload_n 3, 1) := by decide +kernel
set_option maxRecDepth 20000 in
theorem ggX9_mixInto_X6_mixRows : GoodIn wsX9_mixInto wsX6_mixRows := goodIn_r _ [47, 48, 49, 50, 51, 52, 53, 45, 54, 55, 56, 57, 58, 76, 77, 78, 79] (by decide +kernel) (by decide +kernel)
set_option maxRecDepth 20000 in
theorem gX9_mixInto_X6_mixRows_n150 : GoodIn wsX9_mixInto (wsX6_mixRows) := ggX9_mixInto_X6_mixRows
theorem dX9_mixInto_135 : decode cX9_mixInto 135 = .ok (.invokevirtual 150, 3) := by decide +kernel
theorem dX9_mixInto_138 : decode cX9_mixInto 138 = .ok (.lstore_n 3, 1) := by decide +kernel
theorem dX9_mixInto_139 : decode cX9_mixInto 139 = .ok (.aload_n 0, 1) := by decide +kernel
theorem dX9_mixInto_140 : decode cX9_mixInto 140 = .ok (.getfield 47, 3) := by decide +kernel
theorem dX9_mixInto_143 : decode cX9_mixInto 143 = .ok (.lload_n 3, 1) := by decide +kernel
theorem dX9_mixInto_144 : decode cX9_mixInto 144 = .ok (.invokevirtual 150, 3) := by decide +kernel
theorem dX9_mixInto_147 : decode cX9_mixInto 147 = .ok (.lstore_n 3, 1) := by decide +kernel
theorem dX9_mixInto_148 : decode cX9_mixInto 148 = .ok (.aload_n 0, 1) := by decide +kernel
theorem dX9_mixInto_149 : decode cX9_mixInto 149 = .ok (.getfield 50, 3) := by decide +kernel
theorem dX9_mixInto_152 : decode cX9_mixInto 152 = .ok (.lload_n 3, 1) := by decide +kernel
theorem dX9_mixInto_153 : decode cX9_mixInto 153 = .ok (.invokevirtual 150, 3) := by decide +kernel
theorem dX9_mixInto_156 : decode cX9_mixInto 156 = .ok (.lreturn, 1) := by decide +kernel
set_option maxHeartbeats 8000000 in
set_option maxRecDepth 100000 in
theorem c_X9_mixInto (l : Launch) (G : gG) (h0H : Nat) (h0Hd : Nat) (h0Hk : Nat) (h0Hr : Nat) (h0Hn : Nat) (h0He : Nat) (h0HT : Nat) (h0HP : Nat) (h0HL : Nat) (h0HN : Nat) (h0HM : Nat) (h0HLc : Nat) (h0HNc : Nat) (h0HMc : Nat) (sz : Nat) : gL G l yX9_mixInto wsX9_mixInto ({ frames := 1, cells := 0, slots := 0, locals := 26 } : Room) [.ref h0H, .long (-4561596495751210759)] [(h0H, .inr (8, [.ref h0Hd, .ref h0Hk, .ref h0Hr, .ref h0Hn, .ref h0He, .ref h0HT, .ref h0HP, .ref h0HL, .ref h0HN, .ref h0HM, .int 0, .int 0, .int 0])), (h0Hd, .inl (G.2 0, 6, .inl (fun _ => 0))), (h0HL, .inr (5, [.int 5, .int 5, .ref h0HLc, .int 0])), (h0HN, .inr (5, [.int 5, .int 6, .ref h0HNc, .int 0])), (h0HM, .inr (5, [.int 4, .int 6, .ref h0HMc, .int 0]))] sz (fun (r : Int64) (u : va_W) => (r = 7067162257424300601 ∧ u = [])) := by
  refine Met.ofW (cc := cX9_mixInto) (maxL := 7) (ret := (some .long)) (by decide) rfl ?_
  intro p e s m args below meth c s₁ B hml hv
  obtain ⟨rfl, hsz, hP, hK, hD0, hN⟩ := hv
  have hx := B.exec
  have hb := B.bytes
  have hr := B.returns
  have hts := atoms_spec (ws := wsX9_mixInto) B.pre
  have hown : s.vm.findClass RX9 = some m.cls := findClass_of_methodNamed B.named
  have hlocks := B.notSynchronized
  subst hsz
  have hD := hD0.self (sz := s.heap.size)
  generalize hAe : va_A [(h0H, .inr (8, [.ref h0Hd, .ref h0Hk, .ref h0Hr, .ref h0Hn, .ref h0He, .ref h0HT, .ref h0HP, .ref h0HL, .ref h0HN, .ref h0HM, .int 0, .int 0, .int 0])), (h0Hd, .inl (G.2 0, 6, .inl (fun _ => 0))), (h0HL, .inr (5, [.int 5, .int 5, .ref h0HLc, .int 0])), (h0HN, .inr (5, [.int 5, .int 6, .ref h0HNc, .int 0])), (h0HM, .inr (5, [.int 4, .int 6, .ref h0HMc, .int 0]))] s.heap.size = A at hD ⊢
  have hA : ∀ q : Nat, s.heap.size ≤ q → A q := fun q h => by rw [← hAe]; exact Or.inr h
  have hS : va_S A s.heap s.heap [] := va_S.rf
  have hP : va_P G.1 vwCl [(h0H, .inr (8, [.ref h0Hd, .ref h0Hk, .ref h0Hr, .ref h0Hn, .ref h0He, .ref h0HT, .ref h0HP, .ref h0HL, .ref h0HN, .ref h0HM, .int 0, .int 0, .int 0])), (h0Hd, .inl (G.2 0, 6, .inl (fun _ => 0))), (h0HL, .inr (5, [.int 5, .int 5, .ref h0HLc, .int 0])), (h0HN, .inr (5, [.int 5, .int 6, .ref h0HNc, .int 0])), (h0HM, .inr (5, [.int 4, .int 6, .ref h0HMc, .int 0]))] s.heap := hP
  have hl := lv_entry ([.ref h0H, .long (-4561596495751210759)]) (n := 7) (Nat.le_of_ble_eq_true rfl)
  rw [lg_entry_eq]
  generalize (lg_sl ([.ref h0H, .long (-4561596495751210759)]) ++ List.replicate (7 - (lg_sl ([.ref h0H, .long (-4561596495751210759)])).length) Slot.unset).toArray = ls at hl ⊢
  have hl : lv_has ls 7 [(0, .ref h0H), (1, .long (-4561596495751210759))] := hl
  refine lv_lload_n hx hb dX9_mixInto_0 rfl (lv_at hl 1 rfl) ?_
  refine lv_lstore_n (lv' := [(3, .long (-4561596495751210759)), (0, .ref h0H), (1, .long (-4561596495751210759))]) hx hb dX9_mixInto_1 rfl hl (by decide) rfl (fun ls hl => ?_)
  refine lv_iconst (v := 0) hx hb dX9_mixInto_2 (by decide) ?_
  refine lv_istore (lv' := [(5, .int 0), (3, .long (-4561596495751210759)), (0, .ref h0H), (1, .long (-4561596495751210759))]) hx hb dX9_mixInto_3 hl (by decide) rfl (fun ls hl => ?_)
  refine lv_iload hx hb dX9_mixInto_5 (lv_at hl 0 rfl) ?_
  refine lv_bipush (v := 6) hx hb dX9_mixInto_7 (by decide) ?_
  refine lv_icmp_ge (tgt := 33) hx hb dX9_mixInto_9 (by decide) (fun c_1 => g_no c_1 (by decide)) (fun _ => ?_)
  refine lv_ldc2 (v := 31) hx hb hown (hts _ (List.mem_of_getElem? (i := 1) rfl)) dX9_mixInto_12 ?_
  refine lv_lload_n hx hb dX9_mixInto_15 rfl (lv_at hl 1 rfl) ?_
  refine lv_lmul hx hb dX9_mixInto_16 ?_
  refine g_topl (y := 6164461221388879399) (by decide) ?_
  refine lv_aload_n hx hb dX9_mixInto_17 rfl (lv_at hl 2 rfl) ?_
  refine va_get (D := G.1) (ci := 8) (v := .ref h0Hd) (C := RX9) (T := TX9) (N := 13) hx hb hts (fun _ h => List.mem_cons_of_mem _ (List.mem_append_left _ (List.mem_append_left _ (List.mem_append_right _ h)))) hown hK hP 0 rfl rfl 0 (by decide) (hts _ (List.mem_of_getElem? (i := 2) rfl)) (fun _ h9 => h9) rfl dX9_mixInto_18 ?_
  refine lv_iload hx hb dX9_mixInto_21 (lv_at hl 0 rfl) ?_
  refine va_iald hx hb hK hP 1 0 rfl rfl (by unfold vp_in; decide) dX9_mixInto_23 ?_
  refine g_topi (y := 0) rfl ?_
  refine lv_i2l (v := 0) hx hb dX9_mixInto_24 (by decide) ?_
  refine lv_ladd hx hb dX9_mixInto_25 ?_
  refine g_topl (y := 6164461221388879399) (by decide) ?_
  refine lv_lstore_n (lv' := [(3, .long 6164461221388879399), (5, .int 0), (0, .ref h0H), (1, .long (-4561596495751210759))]) hx hb dX9_mixInto_26 rfl hl (by decide) rfl (fun ls hl => ?_)
  refine lv_iinc (v := 1) (lv' := [(5, .int 1), (3, .long 6164461221388879399), (0, .ref h0H), (1, .long (-4561596495751210759))]) hx hb dX9_mixInto_27 hl (k := 1) rfl (by decide) (by decide) rfl (fun ls hl => ?_)
  refine lv_goto (tgt := 5) hx hb dX9_mixInto_30 (by decide) ?_
  refine lv_iload hx hb dX9_mixInto_5 (lv_at hl 0 rfl) ?_
  refine lv_bipush (v := 6) hx hb dX9_mixInto_7 (by decide) ?_
  refine lv_icmp_ge (tgt := 33) hx hb dX9_mixInto_9 (by decide) (fun c_2 => g_no c_2 (by decide)) (fun _ => ?_)
  refine lv_ldc2 (v := 31) hx hb hown (hts _ (List.mem_of_getElem? (i := 1) rfl)) dX9_mixInto_12 ?_
  refine lv_lload_n hx hb dX9_mixInto_15 rfl (lv_at hl 1 rfl) ?_
  refine lv_lmul hx hb dX9_mixInto_16 ?_
  refine g_topl (y := 6630857125959745209) (by decide) ?_
  refine lv_aload_n hx hb dX9_mixInto_17 rfl (lv_at hl 2 rfl) ?_
  refine va_get (D := G.1) (ci := 8) (v := .ref h0Hd) (C := RX9) (T := TX9) (N := 13) hx hb hts (fun _ h => List.mem_cons_of_mem _ (List.mem_append_left _ (List.mem_append_left _ (List.mem_append_right _ h)))) hown hK hP 0 rfl rfl 0 (by decide) (hts _ (List.mem_of_getElem? (i := 2) rfl)) (fun _ h9 => h9) rfl dX9_mixInto_18 ?_
  refine lv_iload hx hb dX9_mixInto_21 (lv_at hl 0 rfl) ?_
  refine va_iald hx hb hK hP 1 0 rfl rfl (by unfold vp_in; decide) dX9_mixInto_23 ?_
  refine g_topi (y := 0) rfl ?_
  refine lv_i2l (v := 0) hx hb dX9_mixInto_24 (by decide) ?_
  refine lv_ladd hx hb dX9_mixInto_25 ?_
  refine g_topl (y := 6630857125959745209) (by decide) ?_
  refine lv_lstore_n (lv' := [(3, .long 6630857125959745209), (5, .int 1), (0, .ref h0H), (1, .long (-4561596495751210759))]) hx hb dX9_mixInto_26 rfl hl (by decide) rfl (fun ls hl => ?_)
  refine lv_iinc (v := 2) (lv' := [(5, .int 2), (3, .long 6630857125959745209), (0, .ref h0H), (1, .long (-4561596495751210759))]) hx hb dX9_mixInto_27 hl (k := 1) rfl (by decide) (by decide) rfl (fun ls hl => ?_)
  refine lv_goto (tgt := 5) hx hb dX9_mixInto_30 (by decide) ?_
  refine lv_iload hx hb dX9_mixInto_5 (lv_at hl 0 rfl) ?_
  refine lv_bipush (v := 6) hx hb dX9_mixInto_7 (by decide) ?_
  refine lv_icmp_ge (tgt := 33) hx hb dX9_mixInto_9 (by decide) (fun c_3 => g_no c_3 (by decide)) (fun _ => ?_)
  refine lv_ldc2 (v := 31) hx hb hown (hts _ (List.mem_of_getElem? (i := 1) rfl)) dX9_mixInto_12 ?_
  refine lv_lload_n hx hb dX9_mixInto_15 rfl (lv_at hl 1 rfl) ?_
  refine lv_lmul hx hb dX9_mixInto_16 ?_
  refine g_topl (y := 2642386093947033703) (by decide) ?_
  refine lv_aload_n hx hb dX9_mixInto_17 rfl (lv_at hl 2 rfl) ?_
  refine va_get (D := G.1) (ci := 8) (v := .ref h0Hd) (C := RX9) (T := TX9) (N := 13) hx hb hts (fun _ h => List.mem_cons_of_mem _ (List.mem_append_left _ (List.mem_append_left _ (List.mem_append_right _ h)))) hown hK hP 0 rfl rfl 0 (by decide) (hts _ (List.mem_of_getElem? (i := 2) rfl)) (fun _ h9 => h9) rfl dX9_mixInto_18 ?_
  refine lv_iload hx hb dX9_mixInto_21 (lv_at hl 0 rfl) ?_
  refine va_iald hx hb hK hP 1 0 rfl rfl (by unfold vp_in; decide) dX9_mixInto_23 ?_
  refine g_topi (y := 0) rfl ?_
  refine lv_i2l (v := 0) hx hb dX9_mixInto_24 (by decide) ?_
  refine lv_ladd hx hb dX9_mixInto_25 ?_
  refine g_topl (y := 2642386093947033703) (by decide) ?_
  refine lv_lstore_n (lv' := [(3, .long 2642386093947033703), (5, .int 2), (0, .ref h0H), (1, .long (-4561596495751210759))]) hx hb dX9_mixInto_26 rfl hl (by decide) rfl (fun ls hl => ?_)
  refine lv_iinc (v := 3) (lv' := [(5, .int 3), (3, .long 2642386093947033703), (0, .ref h0H), (1, .long (-4561596495751210759))]) hx hb dX9_mixInto_27 hl (k := 1) rfl (by decide) (by decide) rfl (fun ls hl => ?_)
  refine lv_goto (tgt := 5) hx hb dX9_mixInto_30 (by decide) ?_
  refine lv_iload hx hb dX9_mixInto_5 (lv_at hl 0 rfl) ?_
  refine lv_bipush (v := 6) hx hb dX9_mixInto_7 (by decide) ?_
  refine lv_icmp_ge (tgt := 33) hx hb dX9_mixInto_9 (by decide) (fun c_4 => g_no c_4 (by decide)) (fun _ => ?_)
  refine lv_ldc2 (v := 31) hx hb hown (hts _ (List.mem_of_getElem? (i := 1) rfl)) dX9_mixInto_12 ?_
  refine lv_lload_n hx hb dX9_mixInto_15 rfl (lv_at hl 1 rfl) ?_
  refine lv_lmul hx hb dX9_mixInto_16 ?_
  refine g_topl (y := 8126992617519838329) (by decide) ?_
  refine lv_aload_n hx hb dX9_mixInto_17 rfl (lv_at hl 2 rfl) ?_
  refine va_get (D := G.1) (ci := 8) (v := .ref h0Hd) (C := RX9) (T := TX9) (N := 13) hx hb hts (fun _ h => List.mem_cons_of_mem _ (List.mem_append_left _ (List.mem_append_left _ (List.mem_append_right _ h)))) hown hK hP 0 rfl rfl 0 (by decide) (hts _ (List.mem_of_getElem? (i := 2) rfl)) (fun _ h9 => h9) rfl dX9_mixInto_18 ?_
  refine lv_iload hx hb dX9_mixInto_21 (lv_at hl 0 rfl) ?_
  refine va_iald hx hb hK hP 1 0 rfl rfl (by unfold vp_in; decide) dX9_mixInto_23 ?_
  refine g_topi (y := 0) rfl ?_
  refine lv_i2l (v := 0) hx hb dX9_mixInto_24 (by decide) ?_
  refine lv_ladd hx hb dX9_mixInto_25 ?_
  refine g_topl (y := 8126992617519838329) (by decide) ?_
  refine lv_lstore_n (lv' := [(3, .long 8126992617519838329), (5, .int 3), (0, .ref h0H), (1, .long (-4561596495751210759))]) hx hb dX9_mixInto_26 rfl hl (by decide) rfl (fun ls hl => ?_)
  refine lv_iinc (v := 4) (lv' := [(5, .int 4), (3, .long 8126992617519838329), (0, .ref h0H), (1, .long (-4561596495751210759))]) hx hb dX9_mixInto_27 hl (k := 1) rfl (by decide) (by decide) rfl (fun ls hl => ?_)
  refine lv_goto (tgt := 5) hx hb dX9_mixInto_30 (by decide) ?_
  refine lv_iload hx hb dX9_mixInto_5 (lv_at hl 0 rfl) ?_
  refine lv_bipush (v := 6) hx hb dX9_mixInto_7 (by decide) ?_
  refine lv_icmp_ge (tgt := 33) hx hb dX9_mixInto_9 (by decide) (fun c_5 => g_no c_5 (by decide)) (fun _ => ?_)
  refine lv_ldc2 (v := 31) hx hb hown (hts _ (List.mem_of_getElem? (i := 1) rfl)) dX9_mixInto_12 ?_
  refine lv_lload_n hx hb dX9_mixInto_15 rfl (lv_at hl 1 rfl) ?_
  refine lv_lmul hx hb dX9_mixInto_16 ?_
  refine g_topl (y := (-6317645888818734425)) (by decide) ?_
  refine lv_aload_n hx hb dX9_mixInto_17 rfl (lv_at hl 2 rfl) ?_
  refine va_get (D := G.1) (ci := 8) (v := .ref h0Hd) (C := RX9) (T := TX9) (N := 13) hx hb hts (fun _ h => List.mem_cons_of_mem _ (List.mem_append_left _ (List.mem_append_left _ (List.mem_append_right _ h)))) hown hK hP 0 rfl rfl 0 (by decide) (hts _ (List.mem_of_getElem? (i := 2) rfl)) (fun _ h9 => h9) rfl dX9_mixInto_18 ?_
  refine lv_iload hx hb dX9_mixInto_21 (lv_at hl 0 rfl) ?_
  refine va_iald hx hb hK hP 1 0 rfl rfl (by unfold vp_in; decide) dX9_mixInto_23 ?_
  refine g_topi (y := 0) rfl ?_
  refine lv_i2l (v := 0) hx hb dX9_mixInto_24 (by decide) ?_
  refine lv_ladd hx hb dX9_mixInto_25 ?_
  refine g_topl (y := (-6317645888818734425)) (by decide) ?_
  refine lv_lstore_n (lv' := [(3, .long (-6317645888818734425)), (5, .int 4), (0, .ref h0H), (1, .long (-4561596495751210759))]) hx hb dX9_mixInto_26 rfl hl (by decide) rfl (fun ls hl => ?_)
  refine lv_iinc (v := 5) (lv' := [(5, .int 5), (3, .long (-6317645888818734425)), (0, .ref h0H), (1, .long (-4561596495751210759))]) hx hb dX9_mixInto_27 hl (k := 1) rfl (by decide) (by decide) rfl (fun ls hl => ?_)
  refine lv_goto (tgt := 5) hx hb dX9_mixInto_30 (by decide) ?_
  refine lv_iload hx hb dX9_mixInto_5 (lv_at hl 0 rfl) ?_
  refine lv_bipush (v := 6) hx hb dX9_mixInto_7 (by decide) ?_
  refine lv_icmp_ge (tgt := 33) hx hb dX9_mixInto_9 (by decide) (fun c_6 => g_no c_6 (by decide)) (fun _ => ?_)
  refine lv_ldc2 (v := 31) hx hb hown (hts _ (List.mem_of_getElem? (i := 1) rfl)) dX9_mixInto_12 ?_
  refine lv_lload_n hx hb dX9_mixInto_15 rfl (lv_at hl 1 rfl) ?_
  refine lv_lmul hx hb dX9_mixInto_16 ?_
  refine g_topl (y := 7067162257424300601) (by decide) ?_
  refine lv_aload_n hx hb dX9_mixInto_17 rfl (lv_at hl 2 rfl) ?_
  refine va_get (D := G.1) (ci := 8) (v := .ref h0Hd) (C := RX9) (T := TX9) (N := 13) hx hb hts (fun _ h => List.mem_cons_of_mem _ (List.mem_append_left _ (List.mem_append_left _ (List.mem_append_right _ h)))) hown hK hP 0 rfl rfl 0 (by decide) (hts _ (List.mem_of_getElem? (i := 2) rfl)) (fun _ h9 => h9) rfl dX9_mixInto_18 ?_
  refine lv_iload hx hb dX9_mixInto_21 (lv_at hl 0 rfl) ?_
  refine va_iald hx hb hK hP 1 0 rfl rfl (by unfold vp_in; decide) dX9_mixInto_23 ?_
  refine g_topi (y := 0) rfl ?_
  refine lv_i2l (v := 0) hx hb dX9_mixInto_24 (by decide) ?_
  refine lv_ladd hx hb dX9_mixInto_25 ?_
  refine g_topl (y := 7067162257424300601) (by decide) ?_
  refine lv_lstore_n (lv' := [(3, .long 7067162257424300601), (5, .int 5), (0, .ref h0H), (1, .long (-4561596495751210759))]) hx hb dX9_mixInto_26 rfl hl (by decide) rfl (fun ls hl => ?_)
  refine lv_iinc (v := 6) (lv' := [(5, .int 6), (3, .long 7067162257424300601), (0, .ref h0H), (1, .long (-4561596495751210759))]) hx hb dX9_mixInto_27 hl (k := 1) rfl (by decide) (by decide) rfl (fun ls hl => ?_)
  refine lv_goto (tgt := 5) hx hb dX9_mixInto_30 (by decide) ?_
  refine lv_iload hx hb dX9_mixInto_5 (lv_at hl 0 rfl) ?_
  refine lv_bipush (v := 6) hx hb dX9_mixInto_7 (by decide) ?_
  refine lv_icmp_ge (tgt := 33) hx hb dX9_mixInto_9 (by decide) (fun _ => ?_) (fun c_7 => g_no (by decide) c_7)
  refine lv_iconst (v := 0) hx hb dX9_mixInto_33 (by decide) ?_
  refine lv_istore (lv' := [(5, .int 0), (3, .long 7067162257424300601), (0, .ref h0H), (1, .long (-4561596495751210759))]) hx hb dX9_mixInto_34 hl (by decide) rfl (fun ls hl => ?_)
  refine lv_iload hx hb dX9_mixInto_36 (lv_at hl 0 rfl) ?_
  refine lv_aload_n hx hb dX9_mixInto_38 rfl (lv_at hl 2 rfl) ?_
  refine va_get (D := G.1) (ci := 8) (v := .int 0) (C := RX9) (T := TX9) (N := 13) hx hb hts (fun _ h => List.mem_cons_of_mem _ (List.mem_append_left _ (List.mem_append_left _ (List.mem_append_right _ h)))) hown hK hP 0 rfl rfl 10 (by decide) (hts _ (List.mem_of_getElem? (i := 3) rfl)) (fun _ h9 => h9) rfl dX9_mixInto_39 ?_
  refine lv_icmp_ge (tgt := 82) hx hb dX9_mixInto_42 (by decide) (fun _ => ?_) (fun c_8 => g_no (by decide) c_8)
  refine lv_iconst (v := 0) hx hb dX9_mixInto_82 (by decide) ?_
  refine lv_istore (lv' := [(5, .int 0), (3, .long 7067162257424300601), (0, .ref h0H), (1, .long (-4561596495751210759))]) hx hb dX9_mixInto_83 hl (by decide) rfl (fun ls hl => ?_)
  refine lv_iload hx hb dX9_mixInto_85 (lv_at hl 0 rfl) ?_
  refine lv_aload_n hx hb dX9_mixInto_87 rfl (lv_at hl 2 rfl) ?_
  refine va_get (D := G.1) (ci := 8) (v := .int 0) (C := RX9) (T := TX9) (N := 13) hx hb hts (fun _ h => List.mem_cons_of_mem _ (List.mem_append_left _ (List.mem_append_left _ (List.mem_append_right _ h)))) hown hK hP 0 rfl rfl 11 (by decide) (hts _ (List.mem_of_getElem? (i := 4) rfl)) (fun _ h9 => h9) rfl dX9_mixInto_88 ?_
  refine lv_icmp_ge (tgt := 130) hx hb dX9_mixInto_91 (by decide) (fun _ => ?_) (fun c_9 => g_no (by decide) c_9)
  refine lv_aload_n hx hb dX9_mixInto_130 rfl (lv_at hl 2 rfl) ?_
  refine va_get (D := G.1) (ci := 8) (v := .ref h0HL) (C := RX9) (T := TX9) (N := 13) hx hb hts (fun _ h => List.mem_cons_of_mem _ (List.mem_append_left _ (List.mem_append_left _ (List.mem_append_right _ h)))) hown hK hP 0 rfl rfl 7 (by decide) (hts _ (List.mem_of_getElem? (i := 7) rfl)) (fun _ h9 => h9) rfl dX9_mixInto_131 ?_
  refine lv_lload_n hx hb dX9_mixInto_134 rfl (lv_at hl 1 rfl) ?_
  refine g_calll (wr := [(h0H, .inr (8, [.ref h0Hd, .ref h0Hk, .ref h0Hr, .ref h0Hn, .ref h0He, .ref h0HT, .ref h0HP, .ref h0HL, .ref h0HN, .ref h0HM, .int 0, .int 0, .int 0])), (h0Hd, .inl (G.2 0, 6, .inl (fun _ => 0))), (h0HN, .inr (5, [.int 5, .int 6, .ref h0HNc, .int 0])), (h0HM, .inr (5, [.int 4, .int 6, .ref h0HMc, .int 0]))]) (va_runVN (C := RX6) (As := [.long 7067162257424300601]) (rest := []) ⟨hx, hb, hml, hown, hts⟩ (c_X6_mixRows l G (h0HL) (5) (5) (h0HLc) (7067162257424300601) _) (⟨va_cnB 1 hts gX9_mixInto_X6_mixRows_n150 rfl rfl rfl (nw119 hN) (hts _ (List.mem_of_getElem? (i := 45) rfl)) (by decide +kernel) ⟨Nat.le_of_ble_eq_true rfl, Nat.le_of_ble_eq_true rfl⟩, (hts _ (List.mem_of_getElem? (i := 44) rfl)), (hts _ (List.mem_of_getElem? (i := 46) rfl))⟩) (g_preV h0HL [.long 7067162257424300601] hP hD hK hN [2] rfl rfl 2 (ci := 5) rfl rfl) rfl rfl hl.1 rfl (lv_room (Nat.le_of_ble_eq_true rfl)) dX9_mixInto_135 ⟨Nat.le_of_ble_eq_true rfl, Nat.le_of_ble_eq_true rfl⟩) hP hD hS hA [2] [0, 1, 3, 4] rfl rfl rfl (by decide) (fun r_10 u H locs hw hP hD hS => ?_)
  obtain ⟨rfl, rfl⟩ := hw
  have hP : va_P G.1 vwCl [(h0H, .inr (8, [.ref h0Hd, .ref h0Hk, .ref h0Hr, .ref h0Hn, .ref h0He, .ref h0HT, .ref h0HP, .ref h0HL, .ref h0HN, .ref h0HM, .int 0, .int 0, .int 0])), (h0Hd, .inl (G.2 0, 6, .inl (fun _ => 0))), (h0HN, .inr (5, [.int 5, .int 6, .ref h0HNc, .int 0])), (h0HM, .inr (5, [.int 4, .int 6, .ref h0HMc, .int 0])), (h0HL, .inr (5, [.int 5, .int 5, .ref h0HLc, .int 0]))] H := hP
  have hD : va_D A [(h0H, .inr (8, [.ref h0Hd, .ref h0Hk, .ref h0Hr, .ref h0Hn, .ref h0He, .ref h0HT, .ref h0HP, .ref h0HL, .ref h0HN, .ref h0HM, .int 0, .int 0, .int 0])), (h0Hd, .inl (G.2 0, 6, .inl (fun _ => 0))), (h0HN, .inr (5, [.int 5, .int 6, .ref h0HNc, .int 0])), (h0HM, .inr (5, [.int 4, .int 6, .ref h0HMc, .int 0])), (h0HL, .inr (5, [.int 5, .int 5, .ref h0HLc, .int 0]))] := hD
  refine lv_lstore_n (lv' := [(3, .long 7067162257424300601), (5, .int 0), (0, .ref h0H), (1, .long (-4561596495751210759))]) hx hb dX9_mixInto_138 rfl hl (by decide) rfl (fun ls hl => ?_)
  refine lv_aload_n hx hb dX9_mixInto_139 rfl (lv_at hl 2 rfl) ?_
  refine va_get (D := G.1) (ci := 8) (v := .ref h0HN) (C := RX9) (T := TX9) (N := 13) hx hb hts (fun _ h => List.mem_cons_of_mem _ (List.mem_append_left _ (List.mem_append_left _ (List.mem_append_right _ h)))) hown hK hP 0 rfl rfl 8 (by decide) (hts _ (List.mem_of_getElem? (i := 8) rfl)) (fun _ h9 => h9) rfl dX9_mixInto_140 ?_
  refine lv_lload_n hx hb dX9_mixInto_143 rfl (lv_at hl 0 rfl) ?_
  refine g_calll (wr := [(h0H, .inr (8, [.ref h0Hd, .ref h0Hk, .ref h0Hr, .ref h0Hn, .ref h0He, .ref h0HT, .ref h0HP, .ref h0HL, .ref h0HN, .ref h0HM, .int 0, .int 0, .int 0])), (h0Hd, .inl (G.2 0, 6, .inl (fun _ => 0))), (h0HM, .inr (5, [.int 4, .int 6, .ref h0HMc, .int 0])), (h0HL, .inr (5, [.int 5, .int 5, .ref h0HLc, .int 0]))]) (va_runVN (C := RX6) (As := [.long 7067162257424300601]) (rest := []) ⟨hx, hb, hml, hown, hts⟩ (c_X6_mixRows l G (h0HN) (5) (6) (h0HNc) (7067162257424300601) _) (⟨va_cnB 1 hts gX9_mixInto_X6_mixRows_n150 rfl rfl rfl (nw119 hN) (hts _ (List.mem_of_getElem? (i := 45) rfl)) (by decide +kernel) ⟨Nat.le_of_ble_eq_true rfl, Nat.le_of_ble_eq_true rfl⟩, (hts _ (List.mem_of_getElem? (i := 44) rfl)), (hts _ (List.mem_of_getElem? (i := 46) rfl))⟩) (g_preV h0HN [.long 7067162257424300601] hP hD hK hN [2] rfl rfl 2 (ci := 5) rfl rfl) rfl rfl hl.1 rfl (lv_room (Nat.le_of_ble_eq_true rfl)) dX9_mixInto_144 ⟨Nat.le_of_ble_eq_true rfl, Nat.le_of_ble_eq_true rfl⟩) hP hD hS hA [2] [0, 1, 3, 4] rfl rfl rfl (by decide) (fun r_11 u H locs hw hP hD hS => ?_)
  obtain ⟨rfl, rfl⟩ := hw
  have hP : va_P G.1 vwCl [(h0H, .inr (8, [.ref h0Hd, .ref h0Hk, .ref h0Hr, .ref h0Hn, .ref h0He, .ref h0HT, .ref h0HP, .ref h0HL, .ref h0HN, .ref h0HM, .int 0, .int 0, .int 0])), (h0Hd, .inl (G.2 0, 6, .inl (fun _ => 0))), (h0HM, .inr (5, [.int 4, .int 6, .ref h0HMc, .int 0])), (h0HL, .inr (5, [.int 5, .int 5, .ref h0HLc, .int 0])), (h0HN, .inr (5, [.int 5, .int 6, .ref h0HNc, .int 0]))] H := hP
  have hD : va_D A [(h0H, .inr (8, [.ref h0Hd, .ref h0Hk, .ref h0Hr, .ref h0Hn, .ref h0He, .ref h0HT, .ref h0HP, .ref h0HL, .ref h0HN, .ref h0HM, .int 0, .int 0, .int 0])), (h0Hd, .inl (G.2 0, 6, .inl (fun _ => 0))), (h0HM, .inr (5, [.int 4, .int 6, .ref h0HMc, .int 0])), (h0HL, .inr (5, [.int 5, .int 5, .ref h0HLc, .int 0])), (h0HN, .inr (5, [.int 5, .int 6, .ref h0HNc, .int 0]))] := hD
  refine lv_lstore_n (lv' := [(3, .long 7067162257424300601), (5, .int 0), (0, .ref h0H), (1, .long (-4561596495751210759))]) hx hb dX9_mixInto_147 rfl hl (by decide) rfl (fun ls hl => ?_)
  refine lv_aload_n hx hb dX9_mixInto_148 rfl (lv_at hl 2 rfl) ?_
  refine va_get (D := G.1) (ci := 8) (v := .ref h0HM) (C := RX9) (T := TX9) (N := 13) hx hb hts (fun _ h => List.mem_cons_of_mem _ (List.mem_append_left _ (List.mem_append_left _ (List.mem_append_right _ h)))) hown hK hP 0 rfl rfl 9 (by decide) (hts _ (List.mem_of_getElem? (i := 9) rfl)) (fun _ h9 => h9) rfl dX9_mixInto_149 ?_
  refine lv_lload_n hx hb dX9_mixInto_152 rfl (lv_at hl 0 rfl) ?_
  refine g_calll (wr := [(h0H, .inr (8, [.ref h0Hd, .ref h0Hk, .ref h0Hr, .ref h0Hn, .ref h0He, .ref h0HT, .ref h0HP, .ref h0HL, .ref h0HN, .ref h0HM, .int 0, .int 0, .int 0])), (h0Hd, .inl (G.2 0, 6, .inl (fun _ => 0))), (h0HL, .inr (5, [.int 5, .int 5, .ref h0HLc, .int 0])), (h0HN, .inr (5, [.int 5, .int 6, .ref h0HNc, .int 0]))]) (va_runVN (C := RX6) (As := [.long 7067162257424300601]) (rest := []) ⟨hx, hb, hml, hown, hts⟩ (c_X6_mixRows l G (h0HM) (4) (6) (h0HMc) (7067162257424300601) _) (⟨va_cnB 1 hts gX9_mixInto_X6_mixRows_n150 rfl rfl rfl (nw119 hN) (hts _ (List.mem_of_getElem? (i := 45) rfl)) (by decide +kernel) ⟨Nat.le_of_ble_eq_true rfl, Nat.le_of_ble_eq_true rfl⟩, (hts _ (List.mem_of_getElem? (i := 44) rfl)), (hts _ (List.mem_of_getElem? (i := 46) rfl))⟩) (g_preV h0HM [.long 7067162257424300601] hP hD hK hN [2] rfl rfl 2 (ci := 5) rfl rfl) rfl rfl hl.1 rfl (lv_room (Nat.le_of_ble_eq_true rfl)) dX9_mixInto_153 ⟨Nat.le_of_ble_eq_true rfl, Nat.le_of_ble_eq_true rfl⟩) hP hD hS hA [2] [0, 1, 3, 4] rfl rfl rfl (by decide) (fun r_12 u H locs hw hP hD hS => ?_)
  obtain ⟨rfl, rfl⟩ := hw
  have hP : va_P G.1 vwCl [(h0H, .inr (8, [.ref h0Hd, .ref h0Hk, .ref h0Hr, .ref h0Hn, .ref h0He, .ref h0HT, .ref h0HP, .ref h0HL, .ref h0HN, .ref h0HM, .int 0, .int 0, .int 0])), (h0Hd, .inl (G.2 0, 6, .inl (fun _ => 0))), (h0HL, .inr (5, [.int 5, .int 5, .ref h0HLc, .int 0])), (h0HN, .inr (5, [.int 5, .int 6, .ref h0HNc, .int 0])), (h0HM, .inr (5, [.int 4, .int 6, .ref h0HMc, .int 0]))] H := hP
  have hD : va_D A [(h0H, .inr (8, [.ref h0Hd, .ref h0Hk, .ref h0Hr, .ref h0Hn, .ref h0He, .ref h0HT, .ref h0HP, .ref h0HL, .ref h0HN, .ref h0HM, .int 0, .int 0, .int 0])), (h0Hd, .inl (G.2 0, 6, .inl (fun _ => 0))), (h0HL, .inr (5, [.int 5, .int 5, .ref h0HLc, .int 0])), (h0HN, .inr (5, [.int 5, .int 6, .ref h0HNc, .int 0])), (h0HM, .inr (5, [.int 4, .int 6, .ref h0HMc, .int 0]))] := hD
  have hP := hP.sub (ws' := []) [] rfl
  have hD := hD.sub (ws' := []) [] rfl rfl
  exact g_lret (v := 7067162257424300601) hx hb hr hlocks hP hD hS (⟨rfl, rfl⟩) dX9_mixInto_156
theorem dX10_digest_0 : decode cX10_digest 0 = .ok (.ldc2_w 301, 3) := by decide +kernel
theorem dX10_digest_3 : decode cX10_digest 3 = .ok (.lstore_n 1, 1) := by decide +kernel
theorem dX10_digest_4 : decode cX10_digest 4 = .ok (.iconst 0, 1) := by decide +kernel
theorem dX10_digest_5 : decode cX10_digest 5 = .ok (.istore_n 3, 1) := by decide +kernel
theorem dX10_digest_6 : decode cX10_digest 6 = .ok (.iload_n 3, 1) := by decide +kernel
theorem dX10_digest_7 : decode cX10_digest 7 = .ok (.bipush 11, 2) := by decide +kernel
theorem dX10_digest_9 : decode cX10_digest 9 = .ok (.if_icmp .ge 25, 3) := by decide +kernel
theorem dX10_digest_12 : decode cX10_digest 12 = .ok (.ldc2_w 303, 3) := by decide +kernel
theorem dX10_digest_15 : decode cX10_digest 15 = .ok (.lload_n 1, 1) := by decide +kernel
theorem dX10_digest_16 : decode cX10_digest 16 = .ok (.lmul, 1) := by decide +kernel
theorem dX10_digest_17 : decode cX10_digest 17 = .ok (.aload_n 0, 1) := by decide +kernel
theorem dX10_digest_18 : decode cX10_digest 18 = .ok (.getfield 10, 3) := by decide +kernel
theorem dX10_digest_21 : decode cX10_digest 21 = .ok (.iload_n 3, 1) := by decide +kernel
set_option maxRecDepth 20000 in
theorem ggX10_digest_X9_howMany : GoodIn wsX10_digest wsX9_howMany := goodIn_r _ [10, 11, 12, 13, 14, 15, 16, 17, 18, 19, 20, 21, 22, 23, 24, 25, 26, 103, 104, 105, 106, 107, 108, 109, 110, 111, 112, 113, 114, 115, 116, 117, 118, 119, 120, 121, 122, 123] (by decide +kernel) (by decide +kernel)
set_option maxRecDepth 20000 in
theorem gX10_digest_X9_howMany_n298 : GoodIn wsX10_digest (wsX9_howMany) := ggX10_digest_X9_howMany
theorem dX10_digest_22 : decode cX10_digest 22 = .ok (.invokevirtual 298, 3) := by decide +kernel
theorem dX10_digest_25 : decode cX10_digest 25 = .ok (.i2l, 1) := by decide +kernel
theorem dX10_digest_26 : decode cX10_digest 26 = .ok (.ladd, 1) := by decide +kernel
theorem dX10_digest_27 : decode cX10_digest 27 = .ok (.lstore_n 1, 1) := by decide +kernel
theorem dX10_digest_28 : decode cX10_digest 28 = .ok (.iinc 3 1, 3) := by decide +kernel
theorem dX10_digest_31 : decode cX10_digest 31 = .ok (.goto (-25), 3) := by decide +kernel
theorem dX10_digest_34 : decode cX10_digest 34 = .ok (.ldc2_w 303, 3) := by decide +kernel
theorem dX10_digest_37 : decode cX10_digest 37 = .ok (.lload_n 1, 1) := by decide +kernel
theorem dX10_digest_38 : decode cX10_digest 38 = .ok (.lmul, 1) := by decide +kernel
theorem dX10_digest_39 : decode cX10_digest 39 = .ok (.aload_n 0, 1) := by decide +kernel
theorem dX10_digest_40 : decode cX10_digest 40 = .ok (.getfield 38, 3) := by decide +kernel
theorem dX10_digest_43 : decode cX10_digest 43 = .ok (.getfield 117, 3) := by decide +kernel
theorem dX10_digest_46 : decode cX10_digest 46 = .ok (.i2l, 1) := by decide +kernel
theorem dX10_digest_47 : decode cX10_digest 47 = .ok (.ladd, 1) := by decide +kernel
theorem dX10_digest_48 : decode cX10_digest 48 = .ok (.lstore_n 1, 1) := by decide +kernel
theorem dX10_digest_49 : decode cX10_digest 49 = .ok (.aload_n 0, 1) := by decide +kernel
theorem dX10_digest_50 : decode cX10_digest 50 = .ok (.getfield 10, 3) := by decide +kernel
theorem dX10_digest_53 : decode cX10_digest 53 = .ok (.lload_n 1, 1) := by decide +kernel
set_option maxRecDepth 20000 in
theorem ggX10_digest_X9_mixInto : GoodIn wsX10_digest wsX9_mixInto := goodIn_r _ [29, 30, 31, 11, 12, 32, 33, 14, 15, 16, 34, 35, 36, 8, 37, 38, 13, 39, 40, 41, 42, 43, 44, 45, 46, 47, 48, 49, 50, 51, 52, 53, 54, 55, 56, 57, 58, 59, 60, 61, 62, 63, 64, 65, 66, 67, 68, 69, 70, 71, 72, 73, 74, 75, 76, 77, 78, 79, 80, 103, 104, 105, 106, 107, 108, 109, 110, 111, 112, 113, 114, 115, 116, 117, 118, 119, 120, 121, 122, 123] (by decide +kernel) (by decide +kernel)
set_option maxRecDepth 20000 in
theorem gX10_digest_X9_mixInto_n305 : GoodIn wsX10_digest (wsX9_mixInto) := ggX10_digest_X9_mixInto
theorem dX10_digest_54 : decode cX10_digest 54 = .ok (.invokevirtual 305, 3) := by decide +kernel
theorem dX10_digest_57 : decode cX10_digest 57 = .ok (.lstore_n 1, 1) := by decide +kernel
theorem dX10_digest_58 : decode cX10_digest 58 = .ok (.ldc2_w 303, 3) := by decide +kernel
theorem dX10_digest_61 : decode cX10_digest 61 = .ok (.lload_n 1, 1) := by decide +kernel
theorem dX10_digest_62 : decode cX10_digest 62 = .ok (.lmul, 1) := by decide +kernel
theorem dX10_digest_63 : decode cX10_digest 63 = .ok (.aload_n 0, 1) := by decide +kernel
theorem dX10_digest_64 : decode cX10_digest 64 = .ok (.getfield 74, 3) := by decide +kernel
theorem dX10_digest_67 : decode cX10_digest 67 = .ok (.ladd, 1) := by decide +kernel
theorem dX10_digest_68 : decode cX10_digest 68 = .ok (.lstore_n 1, 1) := by decide +kernel
theorem dX10_digest_69 : decode cX10_digest 69 = .ok (.ldc2_w 303, 3) := by decide +kernel
theorem dX10_digest_72 : decode cX10_digest 72 = .ok (.lload_n 1, 1) := by decide +kernel
theorem dX10_digest_73 : decode cX10_digest 73 = .ok (.lmul, 1) := by decide +kernel
theorem dX10_digest_74 : decode cX10_digest 74 = .ok (.aload_n 0, 1) := by decide +kernel
theorem dX10_digest_75 : decode cX10_digest 75 = .ok (.getfield 78, 3) := by decide +kernel
theorem dX10_digest_78 : decode cX10_digest 78 = .ok (.ladd, 1) := by decide +kernel
theorem dX10_digest_79 : decode cX10_digest 79 = .ok (.lreturn, 1) := by decide +kernel
set_option maxHeartbeats 8000000 in
set_option maxRecDepth 100000 in
theorem c_X10_digest (l : Launch) (G : gG) (h0 : Nat) (h0H : Nat) (h0S : Nat) (h0I : Nat) (h0K : Nat) (h0Ex : Nat) (h0E : Nat) (h0D : Nat) (h0F : Nat) (h0B : Nat) (h0R : Nat) (h0G : Nat) (h0Hd : Nat) (h0Hk : Nat) (h0Hr : Nat) (h0Hn : Nat) (h0He : Nat) (h0HT : Nat) (h0HP : Nat) (h0HL : Nat) (h0HN : Nat) (h0HM : Nat) (h0HTt : Nat) (h0HTa : Nat) (h0HTf : Nat) (h0HLc : Nat) (h0HNc : Nat) (h0HMc : Nat) (h0Exb : Nat) (h0Exs : Nat) (h0Exg : Nat) (h0Exv : Nat) (sz : Nat) : gL G l yX10_digest wsX10_digest ({ frames := 2, cells := 0, slots := 0, locals := 52 } : Room) [.ref h0] [(h0, .inr (9, [.ref h0H, .ref h0S, .ref h0I, .ref h0K, .ref h0Ex, .ref h0E, .ref h0D, .ref h0F, .ref h0B, .ref h0R, .ref h0G, .long 0, .long 1, .int 0, .int 0, .int 0])), (h0H, .inr (8, [.ref h0Hd, .ref h0Hk, .ref h0Hr, .ref h0Hn, .ref h0He, .ref h0HT, .ref h0HP, .ref h0HL, .ref h0HN, .ref h0HM, .int 0, .int 0, .int 0])), (h0Hd, .inl (G.2 0, 6, .inl (fun _ => 0))), (h0HT, .inr (3, [.int 0, .ref h0HTt, .ref h0HTa, .ref h0HTf])), (h0HL, .inr (5, [.int 5, .int 5, .ref h0HLc, .int 0])), (h0HN, .inr (5, [.int 5, .int 6, .ref h0HNc, .int 0])), (h0HM, .inr (5, [.int 4, .int 6, .ref h0HMc, .int 0])), (h0Ex, .inr (7, [.ref h0Exb, .ref h0Exs, .ref h0Exg, .ref h0Exv, .int 0, .int 0]))] sz (fun (r : Int64) (u : va_W) => (r = 3141110259637882874 ∧ u = [])) := by
  refine Met.ofW (cc := cX10_digest) (maxL := 4) (ret := (some .long)) (by decide) rfl ?_
  intro p e s m args below meth c s₁ B hml hv
  obtain ⟨rfl, hsz, hP, hK, hD0, hN⟩ := hv
  have hx := B.exec
  have hb := B.bytes
  have hr := B.returns
  have hts := atoms_spec (ws := wsX10_digest) B.pre
  have hown : s.vm.findClass RX10 = some m.cls := findClass_of_methodNamed B.named
  have hlocks := B.notSynchronized
  subst hsz
  have hD := hD0.self (sz := s.heap.size)
  generalize hAe : va_A [(h0, .inr (9, [.ref h0H, .ref h0S, .ref h0I, .ref h0K, .ref h0Ex, .ref h0E, .ref h0D, .ref h0F, .ref h0B, .ref h0R, .ref h0G, .long 0, .long 1, .int 0, .int 0, .int 0])), (h0H, .inr (8, [.ref h0Hd, .ref h0Hk, .ref h0Hr, .ref h0Hn, .ref h0He, .ref h0HT, .ref h0HP, .ref h0HL, .ref h0HN, .ref h0HM, .int 0, .int 0, .int 0])), (h0Hd, .inl (G.2 0, 6, .inl (fun _ => 0))), (h0HT, .inr (3, [.int 0, .ref h0HTt, .ref h0HTa, .ref h0HTf])), (h0HL, .inr (5, [.int 5, .int 5, .ref h0HLc, .int 0])), (h0HN, .inr (5, [.int 5, .int 6, .ref h0HNc, .int 0])), (h0HM, .inr (5, [.int 4, .int 6, .ref h0HMc, .int 0])), (h0Ex, .inr (7, [.ref h0Exb, .ref h0Exs, .ref h0Exg, .ref h0Exv, .int 0, .int 0]))] s.heap.size = A at hD ⊢
  have hA : ∀ q : Nat, s.heap.size ≤ q → A q := fun q h => by rw [← hAe]; exact Or.inr h
  have hS : va_S A s.heap s.heap [] := va_S.rf
  have hP : va_P G.1 vwCl [(h0, .inr (9, [.ref h0H, .ref h0S, .ref h0I, .ref h0K, .ref h0Ex, .ref h0E, .ref h0D, .ref h0F, .ref h0B, .ref h0R, .ref h0G, .long 0, .long 1, .int 0, .int 0, .int 0])), (h0H, .inr (8, [.ref h0Hd, .ref h0Hk, .ref h0Hr, .ref h0Hn, .ref h0He, .ref h0HT, .ref h0HP, .ref h0HL, .ref h0HN, .ref h0HM, .int 0, .int 0, .int 0])), (h0Hd, .inl (G.2 0, 6, .inl (fun _ => 0))), (h0HT, .inr (3, [.int 0, .ref h0HTt, .ref h0HTa, .ref h0HTf])), (h0HL, .inr (5, [.int 5, .int 5, .ref h0HLc, .int 0])), (h0HN, .inr (5, [.int 5, .int 6, .ref h0HNc, .int 0])), (h0HM, .inr (5, [.int 4, .int 6, .ref h0HMc, .int 0])), (h0Ex, .inr (7, [.ref h0Exb, .ref h0Exs, .ref h0Exg, .ref h0Exv, .int 0, .int 0]))] s.heap := hP
  have hl := lv_entry ([.ref h0]) (n := 4) (Nat.le_of_ble_eq_true rfl)
  rw [lg_entry_eq]
  generalize (lg_sl ([.ref h0]) ++ List.replicate (4 - (lg_sl ([.ref h0])).length) Slot.unset).toArray = ls at hl ⊢
  have hl : lv_has ls 4 [(0, .ref h0)] := hl
  refine lv_ldc2 (v := 1657) hx hb hown (hts _ (List.mem_of_getElem? (i := 1) rfl)) dX10_digest_0 ?_
  refine lv_lstore_n (lv' := [(1, .long 1657), (0, .ref h0)]) hx hb dX10_digest_3 rfl hl (by decide) rfl (fun ls hl => ?_)
  refine lv_iconst (v := 0) hx hb dX10_digest_4 (by decide) ?_
  refine lv_istore_n (lv' := [(3, .int 0), (1, .long 1657), (0, .ref h0)]) hx hb dX10_digest_5 rfl hl (by decide) rfl (fun ls hl => ?_)
  refine lv_iload_n hx hb dX10_digest_6 rfl (lv_at hl 0 rfl) ?_
  refine lv_bipush (v := 11) hx hb dX10_digest_7 (by decide) ?_
  refine lv_icmp_ge (tgt := 34) hx hb dX10_digest_9 (by decide) (fun c_1 => g_no c_1 (by decide)) (fun _ => ?_)
  refine lv_ldc2 (v := 31) hx hb hown (hts _ (List.mem_of_getElem? (i := 2) rfl)) dX10_digest_12 ?_
  refine lv_lload_n hx hb dX10_digest_15 rfl (lv_at hl 1 rfl) ?_
  refine lv_lmul hx hb dX10_digest_16 ?_
  refine g_topl (y := 51367) (by decide) ?_
  refine lv_aload_n hx hb dX10_digest_17 rfl (lv_at hl 2 rfl) ?_
  refine va_get (D := G.1) (ci := 9) (v := .ref h0H) (C := RX10) (T := TX10) (N := 16) hx hb hts (fun _ h => List.mem_cons_of_mem _ (List.mem_append_left _ (List.mem_append_left _ (List.mem_append_left _ (List.mem_append_left _ (List.mem_append_right _ h)))))) hown hK hP 0 rfl rfl 0 (by decide) (hts _ (List.mem_of_getElem? (i := 3) rfl)) (fun _ h9 => h9) rfl dX10_digest_18 ?_
  refine lv_iload_n hx hb dX10_digest_21 rfl (lv_at hl 0 rfl) ?_
  refine g_calli (wr := [(h0, .inr (9, [.ref h0H, .ref h0S, .ref h0I, .ref h0K, .ref h0Ex, .ref h0E, .ref h0D, .ref h0F, .ref h0B, .ref h0R, .ref h0G, .long 0, .long 1, .int 0, .int 0, .int 0])), (h0Hd, .inl (G.2 0, 6, .inl (fun _ => 0))), (h0Ex, .inr (7, [.ref h0Exb, .ref h0Exs, .ref h0Exg, .ref h0Exv, .int 0, .int 0]))]) (va_runVN (C := RX9) (As := [.int 0]) (rest := [.long 51367]) ⟨hx, hb, hml, hown, hts⟩ (c_X9_howMany l G (h0H) (h0Hd) (h0Hk) (h0Hr) (h0Hn) (h0He) (h0HT) (h0HP) (h0HL) (h0HN) (h0HM) (h0HTt) (h0HTa) (h0HTf) (h0HLc) (h0HNc) (h0HMc) (0) _) (⟨va_cnB 1 hts gX10_digest_X9_howMany_n298 rfl rfl rfl (nw115 hN) (hts _ (List.mem_of_getElem? (i := 8) rfl)) (by decide +kernel) ⟨Nat.le_of_ble_eq_true rfl, Nat.le_of_ble_eq_true rfl⟩, (hts _ (List.mem_of_getElem? (i := 7) rfl)), (hts _ (List.mem_of_getElem? (i := 9) rfl))⟩) (g_preV h0H [.int 0] hP hD hK hN [1, 3, 4, 5, 6] rfl rfl 1 (ci := 8) rfl rfl) rfl rfl hl.1 rfl (lv_room (Nat.le_of_ble_eq_true rfl)) dX10_digest_22 ⟨Nat.le_of_ble_eq_true rfl, Nat.le_of_ble_eq_true rfl⟩) hP hD hS hA [1, 3, 4, 5, 6] [0, 2, 7] rfl rfl rfl (by decide) (fun r_2 u H locs hw hP hD hS => ?_)
  obtain ⟨rfl, rfl⟩ := hw
  have hP : va_P G.1 vwCl [(h0, .inr (9, [.ref h0H, .ref h0S, .ref h0I, .ref h0K, .ref h0Ex, .ref h0E, .ref h0D, .ref h0F, .ref h0B, .ref h0R, .ref h0G, .long 0, .long 1, .int 0, .int 0, .int 0])), (h0Hd, .inl (G.2 0, 6, .inl (fun _ => 0))), (h0Ex, .inr (7, [.ref h0Exb, .ref h0Exs, .ref h0Exg, .ref h0Exv, .int 0, .int 0])), (h0H, .inr (8, [.ref h0Hd, .ref h0Hk, .ref h0Hr, .ref h0Hn, .ref h0He, .ref h0HT, .ref h0HP, .ref h0HL, .ref h0HN, .ref h0HM, .int 0, .int 0, .int 0])), (h0HT, .inr (3, [.int 0, .ref h0HTt, .ref h0HTa, .ref h0HTf])), (h0HL, .inr (5, [.int 5, .int 5, .ref h0HLc, .int 0])), (h0HN, .inr (5, [.int 5, .int 6, .ref h0HNc, .int 0])), (h0HM, .inr (5, [.int 4, .int 6, .ref h0HMc, .int 0]))] H := hP
  have hD : va_D A [(h0, .inr (9, [.ref h0H, .ref h0S, .ref h0I, .ref h0K, .ref h0Ex, .ref h0E, .ref h0D, .ref h0F, .ref h0B, .ref h0R, .ref h0G, .long 0, .long 1, .int 0, .int 0, .int 0])), (h0Hd, .inl (G.2 0, 6, .inl (fun _ => 0))), (h0Ex, .inr (7, [.ref h0Exb, .ref h0Exs, .ref h0Exg, .ref h0Exv, .int 0, .int 0])), (h0H, .inr (8, [.ref h0Hd, .ref h0Hk, .ref h0Hr, .ref h0Hn, .ref h0He, .ref h0HT, .ref h0HP, .ref h0HL, .ref h0HN, .ref h0HM, .int 0, .int 0, .int 0])), (h0HT, .inr (3, [.int 0, .ref h0HTt, .ref h0HTa, .ref h0HTf])), (h0HL, .inr (5, [.int 5, .int 5, .ref h0HLc, .int 0])), (h0HN, .inr (5, [.int 5, .int 6, .ref h0HNc, .int 0])), (h0HM, .inr (5, [.int 4, .int 6, .ref h0HMc, .int 0]))] := hD
  refine lv_i2l (v := 0) hx hb dX10_digest_25 (by decide) ?_
  refine lv_ladd hx hb dX10_digest_26 ?_
  refine g_topl (y := 51367) (by decide) ?_
  refine lv_lstore_n (lv' := [(1, .long 51367), (3, .int 0), (0, .ref h0)]) hx hb dX10_digest_27 rfl hl (by decide) rfl (fun ls hl => ?_)
  refine lv_iinc (v := 1) (lv' := [(3, .int 1), (1, .long 51367), (0, .ref h0)]) hx hb dX10_digest_28 hl (k := 1) rfl (by decide) (by decide) rfl (fun ls hl => ?_)
  refine lv_goto (tgt := 6) hx hb dX10_digest_31 (by decide) ?_
  refine lv_iload_n hx hb dX10_digest_6 rfl (lv_at hl 0 rfl) ?_
  refine lv_bipush (v := 11) hx hb dX10_digest_7 (by decide) ?_
  refine lv_icmp_ge (tgt := 34) hx hb dX10_digest_9 (by decide) (fun c_3 => g_no c_3 (by decide)) (fun _ => ?_)
  refine lv_ldc2 (v := 31) hx hb hown (hts _ (List.mem_of_getElem? (i := 2) rfl)) dX10_digest_12 ?_
  refine lv_lload_n hx hb dX10_digest_15 rfl (lv_at hl 1 rfl) ?_
  refine lv_lmul hx hb dX10_digest_16 ?_
  refine g_topl (y := 1592377) (by decide) ?_
  refine lv_aload_n hx hb dX10_digest_17 rfl (lv_at hl 2 rfl) ?_
  refine va_get (D := G.1) (ci := 9) (v := .ref h0H) (C := RX10) (T := TX10) (N := 16) hx hb hts (fun _ h => List.mem_cons_of_mem _ (List.mem_append_left _ (List.mem_append_left _ (List.mem_append_left _ (List.mem_append_left _ (List.mem_append_right _ h)))))) hown hK hP 0 rfl rfl 0 (by decide) (hts _ (List.mem_of_getElem? (i := 3) rfl)) (fun _ h9 => h9) rfl dX10_digest_18 ?_
  refine lv_iload_n hx hb dX10_digest_21 rfl (lv_at hl 0 rfl) ?_
  refine g_calli (wr := [(h0, .inr (9, [.ref h0H, .ref h0S, .ref h0I, .ref h0K, .ref h0Ex, .ref h0E, .ref h0D, .ref h0F, .ref h0B, .ref h0R, .ref h0G, .long 0, .long 1, .int 0, .int 0, .int 0])), (h0Hd, .inl (G.2 0, 6, .inl (fun _ => 0))), (h0Ex, .inr (7, [.ref h0Exb, .ref h0Exs, .ref h0Exg, .ref h0Exv, .int 0, .int 0]))]) (va_runVN (C := RX9) (As := [.int 1]) (rest := [.long 1592377]) ⟨hx, hb, hml, hown, hts⟩ (c_X9_howMany l G (h0H) (h0Hd) (h0Hk) (h0Hr) (h0Hn) (h0He) (h0HT) (h0HP) (h0HL) (h0HN) (h0HM) (h0HTt) (h0HTa) (h0HTf) (h0HLc) (h0HNc) (h0HMc) (1) _) (⟨va_cnB 1 hts gX10_digest_X9_howMany_n298 rfl rfl rfl (nw115 hN) (hts _ (List.mem_of_getElem? (i := 8) rfl)) (by decide +kernel) ⟨Nat.le_of_ble_eq_true rfl, Nat.le_of_ble_eq_true rfl⟩, (hts _ (List.mem_of_getElem? (i := 7) rfl)), (hts _ (List.mem_of_getElem? (i := 9) rfl))⟩) (g_preV h0H [.int 1] hP hD hK hN [3, 4, 5, 6, 7] rfl rfl 3 (ci := 8) rfl rfl) rfl rfl hl.1 rfl (lv_room (Nat.le_of_ble_eq_true rfl)) dX10_digest_22 ⟨Nat.le_of_ble_eq_true rfl, Nat.le_of_ble_eq_true rfl⟩) hP hD hS hA [3, 4, 5, 6, 7] [0, 1, 2] rfl rfl rfl (by decide) (fun r_4 u H locs hw hP hD hS => ?_)
  obtain ⟨rfl, rfl⟩ := hw
  have hP : va_P G.1 vwCl [(h0, .inr (9, [.ref h0H, .ref h0S, .ref h0I, .ref h0K, .ref h0Ex, .ref h0E, .ref h0D, .ref h0F, .ref h0B, .ref h0R, .ref h0G, .long 0, .long 1, .int 0, .int 0, .int 0])), (h0Hd, .inl (G.2 0, 6, .inl (fun _ => 0))), (h0Ex, .inr (7, [.ref h0Exb, .ref h0Exs, .ref h0Exg, .ref h0Exv, .int 0, .int 0])), (h0H, .inr (8, [.ref h0Hd, .ref h0Hk, .ref h0Hr, .ref h0Hn, .ref h0He, .ref h0HT, .ref h0HP, .ref h0HL, .ref h0HN, .ref h0HM, .int 0, .int 0, .int 0])), (h0HT, .inr (3, [.int 0, .ref h0HTt, .ref h0HTa, .ref h0HTf])), (h0HL, .inr (5, [.int 5, .int 5, .ref h0HLc, .int 0])), (h0HN, .inr (5, [.int 5, .int 6, .ref h0HNc, .int 0])), (h0HM, .inr (5, [.int 4, .int 6, .ref h0HMc, .int 0]))] H := hP
  have hD : va_D A [(h0, .inr (9, [.ref h0H, .ref h0S, .ref h0I, .ref h0K, .ref h0Ex, .ref h0E, .ref h0D, .ref h0F, .ref h0B, .ref h0R, .ref h0G, .long 0, .long 1, .int 0, .int 0, .int 0])), (h0Hd, .inl (G.2 0, 6, .inl (fun _ => 0))), (h0Ex, .inr (7, [.ref h0Exb, .ref h0Exs, .ref h0Exg, .ref h0Exv, .int 0, .int 0])), (h0H, .inr (8, [.ref h0Hd, .ref h0Hk, .ref h0Hr, .ref h0Hn, .ref h0He, .ref h0HT, .ref h0HP, .ref h0HL, .ref h0HN, .ref h0HM, .int 0, .int 0, .int 0])), (h0HT, .inr (3, [.int 0, .ref h0HTt, .ref h0HTa, .ref h0HTf])), (h0HL, .inr (5, [.int 5, .int 5, .ref h0HLc, .int 0])), (h0HN, .inr (5, [.int 5, .int 6, .ref h0HNc, .int 0])), (h0HM, .inr (5, [.int 4, .int 6, .ref h0HMc, .int 0]))] := hD
  refine lv_i2l (v := 0) hx hb dX10_digest_25 (by decide) ?_
  refine lv_ladd hx hb dX10_digest_26 ?_
  refine g_topl (y := 1592377) (by decide) ?_
  refine lv_lstore_n (lv' := [(1, .long 1592377), (3, .int 1), (0, .ref h0)]) hx hb dX10_digest_27 rfl hl (by decide) rfl (fun ls hl => ?_)
  refine lv_iinc (v := 2) (lv' := [(3, .int 2), (1, .long 1592377), (0, .ref h0)]) hx hb dX10_digest_28 hl (k := 1) rfl (by decide) (by decide) rfl (fun ls hl => ?_)
  refine lv_goto (tgt := 6) hx hb dX10_digest_31 (by decide) ?_
  refine lv_iload_n hx hb dX10_digest_6 rfl (lv_at hl 0 rfl) ?_
  refine lv_bipush (v := 11) hx hb dX10_digest_7 (by decide) ?_
  refine lv_icmp_ge (tgt := 34) hx hb dX10_digest_9 (by decide) (fun c_5 => g_no c_5 (by decide)) (fun _ => ?_)
  refine lv_ldc2 (v := 31) hx hb hown (hts _ (List.mem_of_getElem? (i := 2) rfl)) dX10_digest_12 ?_
  refine lv_lload_n hx hb dX10_digest_15 rfl (lv_at hl 1 rfl) ?_
  refine lv_lmul hx hb dX10_digest_16 ?_
  refine g_topl (y := 49363687) (by decide) ?_
  refine lv_aload_n hx hb dX10_digest_17 rfl (lv_at hl 2 rfl) ?_
  refine va_get (D := G.1) (ci := 9) (v := .ref h0H) (C := RX10) (T := TX10) (N := 16) hx hb hts (fun _ h => List.mem_cons_of_mem _ (List.mem_append_left _ (List.mem_append_left _ (List.mem_append_left _ (List.mem_append_left _ (List.mem_append_right _ h)))))) hown hK hP 0 rfl rfl 0 (by decide) (hts _ (List.mem_of_getElem? (i := 3) rfl)) (fun _ h9 => h9) rfl dX10_digest_18 ?_
  refine lv_iload_n hx hb dX10_digest_21 rfl (lv_at hl 0 rfl) ?_
  refine g_calli (wr := [(h0, .inr (9, [.ref h0H, .ref h0S, .ref h0I, .ref h0K, .ref h0Ex, .ref h0E, .ref h0D, .ref h0F, .ref h0B, .ref h0R, .ref h0G, .long 0, .long 1, .int 0, .int 0, .int 0])), (h0Hd, .inl (G.2 0, 6, .inl (fun _ => 0))), (h0Ex, .inr (7, [.ref h0Exb, .ref h0Exs, .ref h0Exg, .ref h0Exv, .int 0, .int 0]))]) (va_runVN (C := RX9) (As := [.int 2]) (rest := [.long 49363687]) ⟨hx, hb, hml, hown, hts⟩ (c_X9_howMany l G (h0H) (h0Hd) (h0Hk) (h0Hr) (h0Hn) (h0He) (h0HT) (h0HP) (h0HL) (h0HN) (h0HM) (h0HTt) (h0HTa) (h0HTf) (h0HLc) (h0HNc) (h0HMc) (2) _) (⟨va_cnB 1 hts gX10_digest_X9_howMany_n298 rfl rfl rfl (nw115 hN) (hts _ (List.mem_of_getElem? (i := 8) rfl)) (by decide +kernel) ⟨Nat.le_of_ble_eq_true rfl, Nat.le_of_ble_eq_true rfl⟩, (hts _ (List.mem_of_getElem? (i := 7) rfl)), (hts _ (List.mem_of_getElem? (i := 9) rfl))⟩) (g_preV h0H [.int 2] hP hD hK hN [3, 4, 5, 6, 7] rfl rfl 3 (ci := 8) rfl rfl) rfl rfl hl.1 rfl (lv_room (Nat.le_of_ble_eq_true rfl)) dX10_digest_22 ⟨Nat.le_of_ble_eq_true rfl, Nat.le_of_ble_eq_true rfl⟩) hP hD hS hA [3, 4, 5, 6, 7] [0, 1, 2] rfl rfl rfl (by decide) (fun r_6 u H locs hw hP hD hS => ?_)
  obtain ⟨rfl, rfl⟩ := hw
  have hP : va_P G.1 vwCl [(h0, .inr (9, [.ref h0H, .ref h0S, .ref h0I, .ref h0K, .ref h0Ex, .ref h0E, .ref h0D, .ref h0F, .ref h0B, .ref h0R, .ref h0G, .long 0, .long 1, .int 0, .int 0, .int 0])), (h0Hd, .inl (G.2 0, 6, .inl (fun _ => 0))), (h0Ex, .inr (7, [.ref h0Exb, .ref h0Exs, .ref h0Exg, .ref h0Exv, .int 0, .int 0])), (h0H, .inr (8, [.ref h0Hd, .ref h0Hk, .ref h0Hr, .ref h0Hn, .ref h0He, .ref h0HT, .ref h0HP, .ref h0HL, .ref h0HN, .ref h0HM, .int 0, .int 0, .int 0])), (h0HT, .inr (3, [.int 0, .ref h0HTt, .ref h0HTa, .ref h0HTf])), (h0HL, .inr (5, [.int 5, .int 5, .ref h0HLc, .int 0])), (h0HN, .inr (5, [.int 5, .int 6, .ref h0HNc, .int 0])), (h0HM, .inr (5, [.int 4, .int 6, .ref h0HMc, .int 0]))] H := hP
  have hD : va_D A [(h0, .inr (9, [.ref h0H, .ref h0S, .ref h0I, .ref h0K, .ref h0Ex, .ref h0E, .ref h0D, .ref h0F, .ref h0B, .ref h0R, .ref h0G, .long 0, .long 1, .int 0, .int 0, .int 0])), (h0Hd, .inl (G.2 0, 6, .inl (fun _ => 0))), (h0Ex, .inr (7, [.ref h0Exb, .ref h0Exs, .ref h0Exg, .ref h0Exv, .int 0, .int 0])), (h0H, .inr (8, [.ref h0Hd, .ref h0Hk, .ref h0Hr, .ref h0Hn, .ref h0He, .ref h0HT, .ref h0HP, .ref h0HL, .ref h0HN, .ref h0HM, .int 0, .int 0, .int 0])), (h0HT, .inr (3, [.int 0, .ref h0HTt, .ref h0HTa, .ref h0HTf])), (h0HL, .inr (5, [.int 5, .int 5, .ref h0HLc, .int 0])), (h0HN, .inr (5, [.int 5, .int 6, .ref h0HNc, .int 0])), (h0HM, .inr (5, [.int 4, .int 6, .ref h0HMc, .int 0]))] := hD
  refine lv_i2l (v := 0) hx hb dX10_digest_25 (by decide) ?_
  refine lv_ladd hx hb dX10_digest_26 ?_
  refine g_topl (y := 49363687) (by decide) ?_
  refine lv_lstore_n (lv' := [(1, .long 49363687), (3, .int 2), (0, .ref h0)]) hx hb dX10_digest_27 rfl hl (by decide) rfl (fun ls hl => ?_)
  refine lv_iinc (v := 3) (lv' := [(3, .int 3), (1, .long 49363687), (0, .ref h0)]) hx hb dX10_digest_28 hl (k := 1) rfl (by decide) (by decide) rfl (fun ls hl => ?_)
  refine lv_goto (tgt := 6) hx hb dX10_digest_31 (by decide) ?_
  refine lv_iload_n hx hb dX10_digest_6 rfl (lv_at hl 0 rfl) ?_
  refine lv_bipush (v := 11) hx hb dX10_digest_7 (by decide) ?_
  refine lv_icmp_ge (tgt := 34) hx hb dX10_digest_9 (by decide) (fun c_7 => g_no c_7 (by decide)) (fun _ => ?_)
  refine lv_ldc2 (v := 31) hx hb hown (hts _ (List.mem_of_getElem? (i := 2) rfl)) dX10_digest_12 ?_
  refine lv_lload_n hx hb dX10_digest_15 rfl (lv_at hl 1 rfl) ?_
  refine lv_lmul hx hb dX10_digest_16 ?_
  refine g_topl (y := 1530274297) (by decide) ?_
  refine lv_aload_n hx hb dX10_digest_17 rfl (lv_at hl 2 rfl) ?_
  refine va_get (D := G.1) (ci := 9) (v := .ref h0H) (C := RX10) (T := TX10) (N := 16) hx hb hts (fun _ h => List.mem_cons_of_mem _ (List.mem_append_left _ (List.mem_append_left _ (List.mem_append_left _ (List.mem_append_left _ (List.mem_append_right _ h)))))) hown hK hP 0 rfl rfl 0 (by decide) (hts _ (List.mem_of_getElem? (i := 3) rfl)) (fun _ h9 => h9) rfl dX10_digest_18 ?_
  refine lv_iload_n hx hb dX10_digest_21 rfl (lv_at hl 0 rfl) ?_
  refine g_calli (wr := [(h0, .inr (9, [.ref h0H, .ref h0S, .ref h0I, .ref h0K, .ref h0Ex, .ref h0E, .ref h0D, .ref h0F, .ref h0B, .ref h0R, .ref h0G, .long 0, .long 1, .int 0, .int 0, .int 0])), (h0Hd, .inl (G.2 0, 6, .inl (fun _ => 0))), (h0Ex, .inr (7, [.ref h0Exb, .ref h0Exs, .ref h0Exg, .ref h0Exv, .int 0, .int 0]))]) (va_runVN (C := RX9) (As := [.int 3]) (rest := [.long 1530274297]) ⟨hx, hb, hml, hown, hts⟩ (c_X9_howMany l G (h0H) (h0Hd) (h0Hk) (h0Hr) (h0Hn) (h0He) (h0HT) (h0HP) (h0HL) (h0HN) (h0HM) (h0HTt) (h0HTa) (h0HTf) (h0HLc) (h0HNc) (h0HMc) (3) _) (⟨va_cnB 1 hts gX10_digest_X9_howMany_n298 rfl rfl rfl (nw115 hN) (hts _ (List.mem_of_getElem? (i := 8) rfl)) (by decide +kernel) ⟨Nat.le_of_ble_eq_true rfl, Nat.le_of_ble_eq_true rfl⟩, (hts _ (List.mem_of_getElem? (i := 7) rfl)), (hts _ (List.mem_of_getElem? (i := 9) rfl))⟩) (g_preV h0H [.int 3] hP hD hK hN [3, 4, 5, 6, 7] rfl rfl 3 (ci := 8) rfl rfl) rfl rfl hl.1 rfl (lv_room (Nat.le_of_ble_eq_true rfl)) dX10_digest_22 ⟨Nat.le_of_ble_eq_true rfl, Nat.le_of_ble_eq_true rfl⟩) hP hD hS hA [3, 4, 5, 6, 7] [0, 1, 2] rfl rfl rfl (by decide) (fun r_8 u H locs hw hP hD hS => ?_)
  obtain ⟨rfl, rfl⟩ := hw
  have hP : va_P G.1 vwCl [(h0, .inr (9, [.ref h0H, .ref h0S, .ref h0I, .ref h0K, .ref h0Ex, .ref h0E, .ref h0D, .ref h0F, .ref h0B, .ref h0R, .ref h0G, .long 0, .long 1, .int 0, .int 0, .int 0])), (h0Hd, .inl (G.2 0, 6, .inl (fun _ => 0))), (h0Ex, .inr (7, [.ref h0Exb, .ref h0Exs, .ref h0Exg, .ref h0Exv, .int 0, .int 0])), (h0H, .inr (8, [.ref h0Hd, .ref h0Hk, .ref h0Hr, .ref h0Hn, .ref h0He, .ref h0HT, .ref h0HP, .ref h0HL, .ref h0HN, .ref h0HM, .int 0, .int 0, .int 0])), (h0HT, .inr (3, [.int 0, .ref h0HTt, .ref h0HTa, .ref h0HTf])), (h0HL, .inr (5, [.int 5, .int 5, .ref h0HLc, .int 0])), (h0HN, .inr (5, [.int 5, .int 6, .ref h0HNc, .int 0])), (h0HM, .inr (5, [.int 4, .int 6, .ref h0HMc, .int 0]))] H := hP
  have hD : va_D A [(h0, .inr (9, [.ref h0H, .ref h0S, .ref h0I, .ref h0K, .ref h0Ex, .ref h0E, .ref h0D, .ref h0F, .ref h0B, .ref h0R, .ref h0G, .long 0, .long 1, .int 0, .int 0, .int 0])), (h0Hd, .inl (G.2 0, 6, .inl (fun _ => 0))), (h0Ex, .inr (7, [.ref h0Exb, .ref h0Exs, .ref h0Exg, .ref h0Exv, .int 0, .int 0])), (h0H, .inr (8, [.ref h0Hd, .ref h0Hk, .ref h0Hr, .ref h0Hn, .ref h0He, .ref h0HT, .ref h0HP, .ref h0HL, .ref h0HN, .ref h0HM, .int 0, .int 0, .int 0])), (h0HT, .inr (3, [.int 0, .ref h0HTt, .ref h0HTa, .ref h0HTf])), (h0HL, .inr (5, [.int 5, .int 5, .ref h0HLc, .int 0])), (h0HN, .inr (5, [.int 5, .int 6, .ref h0HNc, .int 0])), (h0HM, .inr (5, [.int 4, .int 6, .ref h0HMc, .int 0]))] := hD
  refine lv_i2l (v := 0) hx hb dX10_digest_25 (by decide) ?_
  refine lv_ladd hx hb dX10_digest_26 ?_
  refine g_topl (y := 1530274297) (by decide) ?_
  refine lv_lstore_n (lv' := [(1, .long 1530274297), (3, .int 3), (0, .ref h0)]) hx hb dX10_digest_27 rfl hl (by decide) rfl (fun ls hl => ?_)
  refine lv_iinc (v := 4) (lv' := [(3, .int 4), (1, .long 1530274297), (0, .ref h0)]) hx hb dX10_digest_28 hl (k := 1) rfl (by decide) (by decide) rfl (fun ls hl => ?_)
  refine lv_goto (tgt := 6) hx hb dX10_digest_31 (by decide) ?_
  refine lv_iload_n hx hb dX10_digest_6 rfl (lv_at hl 0 rfl) ?_
  refine lv_bipush (v := 11) hx hb dX10_digest_7 (by decide) ?_
  refine lv_icmp_ge (tgt := 34) hx hb dX10_digest_9 (by decide) (fun c_9 => g_no c_9 (by decide)) (fun _ => ?_)
  refine lv_ldc2 (v := 31) hx hb hown (hts _ (List.mem_of_getElem? (i := 2) rfl)) dX10_digest_12 ?_
  refine lv_lload_n hx hb dX10_digest_15 rfl (lv_at hl 1 rfl) ?_
  refine lv_lmul hx hb dX10_digest_16 ?_
  refine g_topl (y := 47438503207) (by decide) ?_
  refine lv_aload_n hx hb dX10_digest_17 rfl (lv_at hl 2 rfl) ?_
  refine va_get (D := G.1) (ci := 9) (v := .ref h0H) (C := RX10) (T := TX10) (N := 16) hx hb hts (fun _ h => List.mem_cons_of_mem _ (List.mem_append_left _ (List.mem_append_left _ (List.mem_append_left _ (List.mem_append_left _ (List.mem_append_right _ h)))))) hown hK hP 0 rfl rfl 0 (by decide) (hts _ (List.mem_of_getElem? (i := 3) rfl)) (fun _ h9 => h9) rfl dX10_digest_18 ?_
  refine lv_iload_n hx hb dX10_digest_21 rfl (lv_at hl 0 rfl) ?_
  refine g_calli (wr := [(h0, .inr (9, [.ref h0H, .ref h0S, .ref h0I, .ref h0K, .ref h0Ex, .ref h0E, .ref h0D, .ref h0F, .ref h0B, .ref h0R, .ref h0G, .long 0, .long 1, .int 0, .int 0, .int 0])), (h0Hd, .inl (G.2 0, 6, .inl (fun _ => 0))), (h0Ex, .inr (7, [.ref h0Exb, .ref h0Exs, .ref h0Exg, .ref h0Exv, .int 0, .int 0]))]) (va_runVN (C := RX9) (As := [.int 4]) (rest := [.long 47438503207]) ⟨hx, hb, hml, hown, hts⟩ (c_X9_howMany l G (h0H) (h0Hd) (h0Hk) (h0Hr) (h0Hn) (h0He) (h0HT) (h0HP) (h0HL) (h0HN) (h0HM) (h0HTt) (h0HTa) (h0HTf) (h0HLc) (h0HNc) (h0HMc) (4) _) (⟨va_cnB 1 hts gX10_digest_X9_howMany_n298 rfl rfl rfl (nw115 hN) (hts _ (List.mem_of_getElem? (i := 8) rfl)) (by decide +kernel) ⟨Nat.le_of_ble_eq_true rfl, Nat.le_of_ble_eq_true rfl⟩, (hts _ (List.mem_of_getElem? (i := 7) rfl)), (hts _ (List.mem_of_getElem? (i := 9) rfl))⟩) (g_preV h0H [.int 4] hP hD hK hN [3, 4, 5, 6, 7] rfl rfl 3 (ci := 8) rfl rfl) rfl rfl hl.1 rfl (lv_room (Nat.le_of_ble_eq_true rfl)) dX10_digest_22 ⟨Nat.le_of_ble_eq_true rfl, Nat.le_of_ble_eq_true rfl⟩) hP hD hS hA [3, 4, 5, 6, 7] [0, 1, 2] rfl rfl rfl (by decide) (fun r_10 u H locs hw hP hD hS => ?_)
  obtain ⟨rfl, rfl⟩ := hw
  have hP : va_P G.1 vwCl [(h0, .inr (9, [.ref h0H, .ref h0S, .ref h0I, .ref h0K, .ref h0Ex, .ref h0E, .ref h0D, .ref h0F, .ref h0B, .ref h0R, .ref h0G, .long 0, .long 1, .int 0, .int 0, .int 0])), (h0Hd, .inl (G.2 0, 6, .inl (fun _ => 0))), (h0Ex, .inr (7, [.ref h0Exb, .ref h0Exs, .ref h0Exg, .ref h0Exv, .int 0, .int 0])), (h0H, .inr (8, [.ref h0Hd, .ref h0Hk, .ref h0Hr, .ref h0Hn, .ref h0He, .ref h0HT, .ref h0HP, .ref h0HL, .ref h0HN, .ref h0HM, .int 0, .int 0, .int 0])), (h0HT, .inr (3, [.int 0, .ref h0HTt, .ref h0HTa, .ref h0HTf])), (h0HL, .inr (5, [.int 5, .int 5, .ref h0HLc, .int 0])), (h0HN, .inr (5, [.int 5, .int 6, .ref h0HNc, .int 0])), (h0HM, .inr (5, [.int 4, .int 6, .ref h0HMc, .int 0]))] H := hP
  have hD : va_D A [(h0, .inr (9, [.ref h0H, .ref h0S, .ref h0I, .ref h0K, .ref h0Ex, .ref h0E, .ref h0D, .ref h0F, .ref h0B, .ref h0R, .ref h0G, .long 0, .long 1, .int 0, .int 0, .int 0])), (h0Hd, .inl (G.2 0, 6, .inl (fun _ => 0))), (h0Ex, .inr (7, [.ref h0Exb, .ref h0Exs, .ref h0Exg, .ref h0Exv, .int 0, .int 0])), (h0H, .inr (8, [.ref h0Hd, .ref h0Hk, .ref h0Hr, .ref h0Hn, .ref h0He, .ref h0HT, .ref h0HP, .ref h0HL, .ref h0HN, .ref h0HM, .int 0, .int 0, .int 0])), (h0HT, .inr (3, [.int 0, .ref h0HTt, .ref h0HTa, .ref h0HTf])), (h0HL, .inr (5, [.int 5, .int 5, .ref h0HLc, .int 0])), (h0HN, .inr (5, [.int 5, .int 6, .ref h0HNc, .int 0])), (h0HM, .inr (5, [.int 4, .int 6, .ref h0HMc, .int 0]))] := hD
  refine lv_i2l (v := 0) hx hb dX10_digest_25 (by decide) ?_
  refine lv_ladd hx hb dX10_digest_26 ?_
  refine g_topl (y := 47438503207) (by decide) ?_
  refine lv_lstore_n (lv' := [(1, .long 47438503207), (3, .int 4), (0, .ref h0)]) hx hb dX10_digest_27 rfl hl (by decide) rfl (fun ls hl => ?_)
  refine lv_iinc (v := 5) (lv' := [(3, .int 5), (1, .long 47438503207), (0, .ref h0)]) hx hb dX10_digest_28 hl (k := 1) rfl (by decide) (by decide) rfl (fun ls hl => ?_)
  refine lv_goto (tgt := 6) hx hb dX10_digest_31 (by decide) ?_
  refine lv_iload_n hx hb dX10_digest_6 rfl (lv_at hl 0 rfl) ?_
  refine lv_bipush (v := 11) hx hb dX10_digest_7 (by decide) ?_
  refine lv_icmp_ge (tgt := 34) hx hb dX10_digest_9 (by decide) (fun c_11 => g_no c_11 (by decide)) (fun _ => ?_)
  refine lv_ldc2 (v := 31) hx hb hown (hts _ (List.mem_of_getElem? (i := 2) rfl)) dX10_digest_12 ?_
  refine lv_lload_n hx hb dX10_digest_15 rfl (lv_at hl 1 rfl) ?_
  refine lv_lmul hx hb dX10_digest_16 ?_
  refine g_topl (y := 1470593599417) (by decide) ?_
  refine lv_aload_n hx hb dX10_digest_17 rfl (lv_at hl 2 rfl) ?_
  refine va_get (D := G.1) (ci := 9) (v := .ref h0H) (C := RX10) (T := TX10) (N := 16) hx hb hts (fun _ h => List.mem_cons_of_mem _ (List.mem_append_left _ (List.mem_append_left _ (List.mem_append_left _ (List.mem_append_left _ (List.mem_append_right _ h)))))) hown hK hP 0 rfl rfl 0 (by decide) (hts _ (List.mem_of_getElem? (i := 3) rfl)) (fun _ h9 => h9) rfl dX10_digest_18 ?_
  refine lv_iload_n hx hb dX10_digest_21 rfl (lv_at hl 0 rfl) ?_
  refine g_calli (wr := [(h0, .inr (9, [.ref h0H, .ref h0S, .ref h0I, .ref h0K, .ref h0Ex, .ref h0E, .ref h0D, .ref h0F, .ref h0B, .ref h0R, .ref h0G, .long 0, .long 1, .int 0, .int 0, .int 0])), (h0Hd, .inl (G.2 0, 6, .inl (fun _ => 0))), (h0Ex, .inr (7, [.ref h0Exb, .ref h0Exs, .ref h0Exg, .ref h0Exv, .int 0, .int 0]))]) (va_runVN (C := RX9) (As := [.int 5]) (rest := [.long 1470593599417]) ⟨hx, hb, hml, hown, hts⟩ (c_X9_howMany l G (h0H) (h0Hd) (h0Hk) (h0Hr) (h0Hn) (h0He) (h0HT) (h0HP) (h0HL) (h0HN) (h0HM) (h0HTt) (h0HTa) (h0HTf) (h0HLc) (h0HNc) (h0HMc) (5) _) (⟨va_cnB 1 hts gX10_digest_X9_howMany_n298 rfl rfl rfl (nw115 hN) (hts _ (List.mem_of_getElem? (i := 8) rfl)) (by decide +kernel) ⟨Nat.le_of_ble_eq_true rfl, Nat.le_of_ble_eq_true rfl⟩, (hts _ (List.mem_of_getElem? (i := 7) rfl)), (hts _ (List.mem_of_getElem? (i := 9) rfl))⟩) (g_preV h0H [.int 5] hP hD hK hN [3, 4, 5, 6, 7] rfl rfl 3 (ci := 8) rfl rfl) rfl rfl hl.1 rfl (lv_room (Nat.le_of_ble_eq_true rfl)) dX10_digest_22 ⟨Nat.le_of_ble_eq_true rfl, Nat.le_of_ble_eq_true rfl⟩) hP hD hS hA [3, 4, 5, 6, 7] [0, 1, 2] rfl rfl rfl (by decide) (fun r_12 u H locs hw hP hD hS => ?_)
  obtain ⟨rfl, rfl⟩ := hw
  have hP : va_P G.1 vwCl [(h0, .inr (9, [.ref h0H, .ref h0S, .ref h0I, .ref h0K, .ref h0Ex, .ref h0E, .ref h0D, .ref h0F, .ref h0B, .ref h0R, .ref h0G, .long 0, .long 1, .int 0, .int 0, .int 0])), (h0Hd, .inl (G.2 0, 6, .inl (fun _ => 0))), (h0Ex, .inr (7, [.ref h0Exb, .ref h0Exs, .ref h0Exg, .ref h0Exv, .int 0, .int 0])), (h0H, .inr (8, [.ref h0Hd, .ref h0Hk, .ref h0Hr, .ref h0Hn, .ref h0He, .ref h0HT, .ref h0HP, .ref h0HL, .ref h0HN, .ref h0HM, .int 0, .int 0, .int 0])), (h0HT, .inr (3, [.int 0, .ref h0HTt, .ref h0HTa, .ref h0HTf])), (h0HL, .inr (5, [.int 5, .int 5, .ref h0HLc, .int 0])), (h0HN, .inr (5, [.int 5, .int 6, .ref h0HNc, .int 0])), (h0HM, .inr (5, [.int 4, .int 6, .ref h0HMc, .int 0]))] H := hP
  have hD : va_D A [(h0, .inr (9, [.ref h0H, .ref h0S, .ref h0I, .ref h0K, .ref h0Ex, .ref h0E, .ref h0D, .ref h0F, .ref h0B, .ref h0R, .ref h0G, .long 0, .long 1, .int 0, .int 0, .int 0])), (h0Hd, .inl (G.2 0, 6, .inl (fun _ => 0))), (h0Ex, .inr (7, [.ref h0Exb, .ref h0Exs, .ref h0Exg, .ref h0Exv, .int 0, .int 0])), (h0H, .inr (8, [.ref h0Hd, .ref h0Hk, .ref h0Hr, .ref h0Hn, .ref h0He, .ref h0HT, .ref h0HP, .ref h0HL, .ref h0HN, .ref h0HM, .int 0, .int 0, .int 0])), (h0HT, .inr (3, [.int 0, .ref h0HTt, .ref h0HTa, .ref h0HTf])), (h0HL, .inr (5, [.int 5, .int 5, .ref h0HLc, .int 0])), (h0HN, .inr (5, [.int 5, .int 6, .ref h0HNc, .int 0])), (h0HM, .inr (5, [.int 4, .int 6, .ref h0HMc, .int 0]))] := hD
  refine lv_i2l (v := 0) hx hb dX10_digest_25 (by decide) ?_
  refine lv_ladd hx hb dX10_digest_26 ?_
  refine g_topl (y := 1470593599417) (by decide) ?_
  refine lv_lstore_n (lv' := [(1, .long 1470593599417), (3, .int 5), (0, .ref h0)]) hx hb dX10_digest_27 rfl hl (by decide) rfl (fun ls hl => ?_)
  refine lv_iinc (v := 6) (lv' := [(3, .int 6), (1, .long 1470593599417), (0, .ref h0)]) hx hb dX10_digest_28 hl (k := 1) rfl (by decide) (by decide) rfl (fun ls hl => ?_)
  refine lv_goto (tgt := 6) hx hb dX10_digest_31 (by decide) ?_
  refine lv_iload_n hx hb dX10_digest_6 rfl (lv_at hl 0 rfl) ?_
  refine lv_bipush (v := 11) hx hb dX10_digest_7 (by decide) ?_
  refine lv_icmp_ge (tgt := 34) hx hb dX10_digest_9 (by decide) (fun c_13 => g_no c_13 (by decide)) (fun _ => ?_)
  refine lv_ldc2 (v := 31) hx hb hown (hts _ (List.mem_of_getElem? (i := 2) rfl)) dX10_digest_12 ?_
  refine lv_lload_n hx hb dX10_digest_15 rfl (lv_at hl 1 rfl) ?_
  refine lv_lmul hx hb dX10_digest_16 ?_
  refine g_topl (y := 45588401581927) (by decide) ?_
  refine lv_aload_n hx hb dX10_digest_17 rfl (lv_at hl 2 rfl) ?_
  refine va_get (D := G.1) (ci := 9) (v := .ref h0H) (C := RX10) (T := TX10) (N := 16) hx hb hts (fun _ h => List.mem_cons_of_mem _ (List.mem_append_left _ (List.mem_append_left _ (List.mem_append_left _ (List.mem_append_left _ (List.mem_append_right _ h)))))) hown hK hP 0 rfl rfl 0 (by decide) (hts _ (List.mem_of_getElem? (i := 3) rfl)) (fun _ h9 => h9) rfl dX10_digest_18 ?_
  refine lv_iload_n hx hb dX10_digest_21 rfl (lv_at hl 0 rfl) ?_
  refine g_calli (wr := [(h0, .inr (9, [.ref h0H, .ref h0S, .ref h0I, .ref h0K, .ref h0Ex, .ref h0E, .ref h0D, .ref h0F, .ref h0B, .ref h0R, .ref h0G, .long 0, .long 1, .int 0, .int 0, .int 0])), (h0Hd, .inl (G.2 0, 6, .inl (fun _ => 0))), (h0Ex, .inr (7, [.ref h0Exb, .ref h0Exs, .ref h0Exg, .ref h0Exv, .int 0, .int 0]))]) (va_runVN (C := RX9) (As := [.int 6]) (rest := [.long 45588401581927]) ⟨hx, hb, hml, hown, hts⟩ (c_X9_howMany l G (h0H) (h0Hd) (h0Hk) (h0Hr) (h0Hn) (h0He) (h0HT) (h0HP) (h0HL) (h0HN) (h0HM) (h0HTt) (h0HTa) (h0HTf) (h0HLc) (h0HNc) (h0HMc) (6) _) (⟨va_cnB 1 hts gX10_digest_X9_howMany_n298 rfl rfl rfl (nw115 hN) (hts _ (List.mem_of_getElem? (i := 8) rfl)) (by decide +kernel) ⟨Nat.le_of_ble_eq_true rfl, Nat.le_of_ble_eq_true rfl⟩, (hts _ (List.mem_of_getElem? (i := 7) rfl)), (hts _ (List.mem_of_getElem? (i := 9) rfl))⟩) (g_preV h0H [.int 6] hP hD hK hN [3, 4, 5, 6, 7] rfl rfl 3 (ci := 8) rfl rfl) rfl rfl hl.1 rfl (lv_room (Nat.le_of_ble_eq_true rfl)) dX10_digest_22 ⟨Nat.le_of_ble_eq_true rfl, Nat.le_of_ble_eq_true rfl⟩) hP hD hS hA [3, 4, 5, 6, 7] [0, 1, 2] rfl rfl rfl (by decide) (fun r_14 u H locs hw hP hD hS => ?_)
  obtain ⟨rfl, rfl⟩ := hw
  have hP : va_P G.1 vwCl [(h0, .inr (9, [.ref h0H, .ref h0S, .ref h0I, .ref h0K, .ref h0Ex, .ref h0E, .ref h0D, .ref h0F, .ref h0B, .ref h0R, .ref h0G, .long 0, .long 1, .int 0, .int 0, .int 0])), (h0Hd, .inl (G.2 0, 6, .inl (fun _ => 0))), (h0Ex, .inr (7, [.ref h0Exb, .ref h0Exs, .ref h0Exg, .ref h0Exv, .int 0, .int 0])), (h0H, .inr (8, [.ref h0Hd, .ref h0Hk, .ref h0Hr, .ref h0Hn, .ref h0He, .ref h0HT, .ref h0HP, .ref h0HL, .ref h0HN, .ref h0HM, .int 0, .int 0, .int 0])), (h0HT, .inr (3, [.int 0, .ref h0HTt, .ref h0HTa, .ref h0HTf])), (h0HL, .inr (5, [.int 5, .int 5, .ref h0HLc, .int 0])), (h0HN, .inr (5, [.int 5, .int 6, .ref h0HNc, .int 0])), (h0HM, .inr (5, [.int 4, .int 6, .ref h0HMc, .int 0]))] H := hP
  have hD : va_D A [(h0, .inr (9, [.ref h0H, .ref h0S, .ref h0I, .ref h0K, .ref h0Ex, .ref h0E, .ref h0D, .ref h0F, .ref h0B, .ref h0R, .ref h0G, .long 0, .long 1, .int 0, .int 0, .int 0])), (h0Hd, .inl (G.2 0, 6, .inl (fun _ => 0))), (h0Ex, .inr (7, [.ref h0Exb, .ref h0Exs, .ref h0Exg, .ref h0Exv, .int 0, .int 0])), (h0H, .inr (8, [.ref h0Hd, .ref h0Hk, .ref h0Hr, .ref h0Hn, .ref h0He, .ref h0HT, .ref h0HP, .ref h0HL, .ref h0HN, .ref h0HM, .int 0, .int 0, .int 0])), (h0HT, .inr (3, [.int 0, .ref h0HTt, .ref h0HTa, .ref h0HTf])), (h0HL, .inr (5, [.int 5, .int 5, .ref h0HLc, .int 0])), (h0HN, .inr (5, [.int 5, .int 6, .ref h0HNc, .int 0])), (h0HM, .inr (5, [.int 4, .int 6, .ref h0HMc, .int 0]))] := hD
  refine lv_i2l (v := 0) hx hb dX10_digest_25 (by decide) ?_
  refine lv_ladd hx hb dX10_digest_26 ?_
  refine g_topl (y := 45588401581927) (by decide) ?_
  refine lv_lstore_n (lv' := [(1, .long 45588401581927), (3, .int 6), (0, .ref h0)]) hx hb dX10_digest_27 rfl hl (by decide) rfl (fun ls hl => ?_)
  refine lv_iinc (v := 7) (lv' := [(3, .int 7), (1, .long 45588401581927), (0, .ref h0)]) hx hb dX10_digest_28 hl (k := 1) rfl (by decide) (by decide) rfl (fun ls hl => ?_)
  refine lv_goto (tgt := 6) hx hb dX10_digest_31 (by decide) ?_
  refine lv_iload_n hx hb dX10_digest_6 rfl (lv_at hl 0 rfl) ?_
  refine lv_bipush (v := 11) hx hb dX10_digest_7 (by decide) ?_
  refine lv_icmp_ge (tgt := 34) hx hb dX10_digest_9 (by decide) (fun c_15 => g_no c_15 (by decide)) (fun _ => ?_)
  refine lv_ldc2 (v := 31) hx hb hown (hts _ (List.mem_of_getElem? (i := 2) rfl)) dX10_digest_12 ?_
  refine lv_lload_n hx hb dX10_digest_15 rfl (lv_at hl 1 rfl) ?_
  refine lv_lmul hx hb dX10_digest_16 ?_
  refine g_topl (y := 1413240449039737) (by decide) ?_
  refine lv_aload_n hx hb dX10_digest_17 rfl (lv_at hl 2 rfl) ?_
  refine va_get (D := G.1) (ci := 9) (v := .ref h0H) (C := RX10) (T := TX10) (N := 16) hx hb hts (fun _ h => List.mem_cons_of_mem _ (List.mem_append_left _ (List.mem_append_left _ (List.mem_append_left _ (List.mem_append_left _ (List.mem_append_right _ h)))))) hown hK hP 0 rfl rfl 0 (by decide) (hts _ (List.mem_of_getElem? (i := 3) rfl)) (fun _ h9 => h9) rfl dX10_digest_18 ?_
  refine lv_iload_n hx hb dX10_digest_21 rfl (lv_at hl 0 rfl) ?_
  refine g_calli (wr := [(h0, .inr (9, [.ref h0H, .ref h0S, .ref h0I, .ref h0K, .ref h0Ex, .ref h0E, .ref h0D, .ref h0F, .ref h0B, .ref h0R, .ref h0G, .long 0, .long 1, .int 0, .int 0, .int 0])), (h0Hd, .inl (G.2 0, 6, .inl (fun _ => 0))), (h0Ex, .inr (7, [.ref h0Exb, .ref h0Exs, .ref h0Exg, .ref h0Exv, .int 0, .int 0]))]) (va_runVN (C := RX9) (As := [.int 7]) (rest := [.long 1413240449039737]) ⟨hx, hb, hml, hown, hts⟩ (c_X9_howMany l G (h0H) (h0Hd) (h0Hk) (h0Hr) (h0Hn) (h0He) (h0HT) (h0HP) (h0HL) (h0HN) (h0HM) (h0HTt) (h0HTa) (h0HTf) (h0HLc) (h0HNc) (h0HMc) (7) _) (⟨va_cnB 1 hts gX10_digest_X9_howMany_n298 rfl rfl rfl (nw115 hN) (hts _ (List.mem_of_getElem? (i := 8) rfl)) (by decide +kernel) ⟨Nat.le_of_ble_eq_true rfl, Nat.le_of_ble_eq_true rfl⟩, (hts _ (List.mem_of_getElem? (i := 7) rfl)), (hts _ (List.mem_of_getElem? (i := 9) rfl))⟩) (g_preV h0H [.int 7] hP hD hK hN [3, 4, 5, 6, 7] rfl rfl 3 (ci := 8) rfl rfl) rfl rfl hl.1 rfl (lv_room (Nat.le_of_ble_eq_true rfl)) dX10_digest_22 ⟨Nat.le_of_ble_eq_true rfl, Nat.le_of_ble_eq_true rfl⟩) hP hD hS hA [3, 4, 5, 6, 7] [0, 1, 2] rfl rfl rfl (by decide) (fun r_16 u H locs hw hP hD hS => ?_)
  obtain ⟨rfl, rfl⟩ := hw
  have hP : va_P G.1 vwCl [(h0, .inr (9, [.ref h0H, .ref h0S, .ref h0I, .ref h0K, .ref h0Ex, .ref h0E, .ref h0D, .ref h0F, .ref h0B, .ref h0R, .ref h0G, .long 0, .long 1, .int 0, .int 0, .int 0])), (h0Hd, .inl (G.2 0, 6, .inl (fun _ => 0))), (h0Ex, .inr (7, [.ref h0Exb, .ref h0Exs, .ref h0Exg, .ref h0Exv, .int 0, .int 0])), (h0H, .inr (8, [.ref h0Hd, .ref h0Hk, .ref h0Hr, .ref h0Hn, .ref h0He, .ref h0HT, .ref h0HP, .ref h0HL, .ref h0HN, .ref h0HM, .int 0, .int 0, .int 0])), (h0HT, .inr (3, [.int 0, .ref h0HTt, .ref h0HTa, .ref h0HTf])), (h0HL, .inr (5, [.int 5, .int 5, .ref h0HLc, .int 0])), (h0HN, .inr (5, [.int 5, .int 6, .ref h0HNc, .int 0])), (h0HM, .inr (5, [.int 4, .int 6, .ref h0HMc, .int 0]))] H := hP
  have hD : va_D A [(h0, .inr (9, [.ref h0H, .ref h0S, .ref h0I, .ref h0K, .ref h0Ex, .ref h0E, .ref h0D, .ref h0F, .ref h0B, .ref h0R, .ref h0G, .long 0, .long 1, .int 0, .int 0, .int 0])), (h0Hd, .inl (G.2 0, 6, .inl (fun _ => 0))), (h0Ex, .inr (7, [.ref h0Exb, .ref h0Exs, .ref h0Exg, .ref h0Exv, .int 0, .int 0])), (h0H, .inr (8, [.ref h0Hd, .ref h0Hk, .ref h0Hr, .ref h0Hn, .ref h0He, .ref h0HT, .ref h0HP, .ref h0HL, .ref h0HN, .ref h0HM, .int 0, .int 0, .int 0])), (h0HT, .inr (3, [.int 0, .ref h0HTt, .ref h0HTa, .ref h0HTf])), (h0HL, .inr (5, [.int 5, .int 5, .ref h0HLc, .int 0])), (h0HN, .inr (5, [.int 5, .int 6, .ref h0HNc, .int 0])), (h0HM, .inr (5, [.int 4, .int 6, .ref h0HMc, .int 0]))] := hD
  refine lv_i2l (v := 0) hx hb dX10_digest_25 (by decide) ?_
  refine lv_ladd hx hb dX10_digest_26 ?_
  refine g_topl (y := 1413240449039737) (by decide) ?_
  refine lv_lstore_n (lv' := [(1, .long 1413240449039737), (3, .int 7), (0, .ref h0)]) hx hb dX10_digest_27 rfl hl (by decide) rfl (fun ls hl => ?_)
  refine lv_iinc (v := 8) (lv' := [(3, .int 8), (1, .long 1413240449039737), (0, .ref h0)]) hx hb dX10_digest_28 hl (k := 1) rfl (by decide) (by decide) rfl (fun ls hl => ?_)
  refine lv_goto (tgt := 6) hx hb dX10_digest_31 (by decide) ?_
  refine lv_iload_n hx hb dX10_digest_6 rfl (lv_at hl 0 rfl) ?_
  refine lv_bipush (v := 11) hx hb dX10_digest_7 (by decide) ?_
  refine lv_icmp_ge (tgt := 34) hx hb dX10_digest_9 (by decide) (fun c_17 => g_no c_17 (by decide)) (fun _ => ?_)
  refine lv_ldc2 (v := 31) hx hb hown (hts _ (List.mem_of_getElem? (i := 2) rfl)) dX10_digest_12 ?_
  refine lv_lload_n hx hb dX10_digest_15 rfl (lv_at hl 1 rfl) ?_
  refine lv_lmul hx hb dX10_digest_16 ?_
  refine g_topl (y := 43810453920231847) (by decide) ?_
  refine lv_aload_n hx hb dX10_digest_17 rfl (lv_at hl 2 rfl) ?_
  refine va_get (D := G.1) (ci := 9) (v := .ref h0H) (C := RX10) (T := TX10) (N := 16) hx hb hts (fun _ h => List.mem_cons_of_mem _ (List.mem_append_left _ (List.mem_append_left _ (List.mem_append_left _ (List.mem_append_left _ (List.mem_append_right _ h)))))) hown hK hP 0 rfl rfl 0 (by decide) (hts _ (List.mem_of_getElem? (i := 3) rfl)) (fun _ h9 => h9) rfl dX10_digest_18 ?_
  refine lv_iload_n hx hb dX10_digest_21 rfl (lv_at hl 0 rfl) ?_
  refine g_calli (wr := [(h0, .inr (9, [.ref h0H, .ref h0S, .ref h0I, .ref h0K, .ref h0Ex, .ref h0E, .ref h0D, .ref h0F, .ref h0B, .ref h0R, .ref h0G, .long 0, .long 1, .int 0, .int 0, .int 0])), (h0Hd, .inl (G.2 0, 6, .inl (fun _ => 0))), (h0Ex, .inr (7, [.ref h0Exb, .ref h0Exs, .ref h0Exg, .ref h0Exv, .int 0, .int 0]))]) (va_runVN (C := RX9) (As := [.int 8]) (rest := [.long 43810453920231847]) ⟨hx, hb, hml, hown, hts⟩ (c_X9_howMany l G (h0H) (h0Hd) (h0Hk) (h0Hr) (h0Hn) (h0He) (h0HT) (h0HP) (h0HL) (h0HN) (h0HM) (h0HTt) (h0HTa) (h0HTf) (h0HLc) (h0HNc) (h0HMc) (8) _) (⟨va_cnB 1 hts gX10_digest_X9_howMany_n298 rfl rfl rfl (nw115 hN) (hts _ (List.mem_of_getElem? (i := 8) rfl)) (by decide +kernel) ⟨Nat.le_of_ble_eq_true rfl, Nat.le_of_ble_eq_true rfl⟩, (hts _ (List.mem_of_getElem? (i := 7) rfl)), (hts _ (List.mem_of_getElem? (i := 9) rfl))⟩) (g_preV h0H [.int 8] hP hD hK hN [3, 4, 5, 6, 7] rfl rfl 3 (ci := 8) rfl rfl) rfl rfl hl.1 rfl (lv_room (Nat.le_of_ble_eq_true rfl)) dX10_digest_22 ⟨Nat.le_of_ble_eq_true rfl, Nat.le_of_ble_eq_true rfl⟩) hP hD hS hA [3, 4, 5, 6, 7] [0, 1, 2] rfl rfl rfl (by decide) (fun r_18 u H locs hw hP hD hS => ?_)
  obtain ⟨rfl, rfl⟩ := hw
  have hP : va_P G.1 vwCl [(h0, .inr (9, [.ref h0H, .ref h0S, .ref h0I, .ref h0K, .ref h0Ex, .ref h0E, .ref h0D, .ref h0F, .ref h0B, .ref h0R, .ref h0G, .long 0, .long 1, .int 0, .int 0, .int 0])), (h0Hd, .inl (G.2 0, 6, .inl (fun _ => 0))), (h0Ex, .inr (7, [.ref h0Exb, .ref h0Exs, .ref h0Exg, .ref h0Exv, .int 0, .int 0])), (h0H, .inr (8, [.ref h0Hd, .ref h0Hk, .ref h0Hr, .ref h0Hn, .ref h0He, .ref h0HT, .ref h0HP, .ref h0HL, .ref h0HN, .ref h0HM, .int 0, .int 0, .int 0])), (h0HT, .inr (3, [.int 0, .ref h0HTt, .ref h0HTa, .ref h0HTf])), (h0HL, .inr (5, [.int 5, .int 5, .ref h0HLc, .int 0])), (h0HN, .inr (5, [.int 5, .int 6, .ref h0HNc, .int 0])), (h0HM, .inr (5, [.int 4, .int 6, .ref h0HMc, .int 0]))] H := hP
  have hD : va_D A [(h0, .inr (9, [.ref h0H, .ref h0S, .ref h0I, .ref h0K, .ref h0Ex, .ref h0E, .ref h0D, .ref h0F, .ref h0B, .ref h0R, .ref h0G, .long 0, .long 1, .int 0, .int 0, .int 0])), (h0Hd, .inl (G.2 0, 6, .inl (fun _ => 0))), (h0Ex, .inr (7, [.ref h0Exb, .ref h0Exs, .ref h0Exg, .ref h0Exv, .int 0, .int 0])), (h0H, .inr (8, [.ref h0Hd, .ref h0Hk, .ref h0Hr, .ref h0Hn, .ref h0He, .ref h0HT, .ref h0HP, .ref h0HL, .ref h0HN, .ref h0HM, .int 0, .int 0, .int 0])), (h0HT, .inr (3, [.int 0, .ref h0HTt, .ref h0HTa, .ref h0HTf])), (h0HL, .inr (5, [.int 5, .int 5, .ref h0HLc, .int 0])), (h0HN, .inr (5, [.int 5, .int 6, .ref h0HNc, .int 0])), (h0HM, .inr (5, [.int 4, .int 6, .ref h0HMc, .int 0]))] := hD
  refine lv_i2l (v := 0) hx hb dX10_digest_25 (by decide) ?_
  refine lv_ladd hx hb dX10_digest_26 ?_
  refine g_topl (y := 43810453920231847) (by decide) ?_
  refine lv_lstore_n (lv' := [(1, .long 43810453920231847), (3, .int 8), (0, .ref h0)]) hx hb dX10_digest_27 rfl hl (by decide) rfl (fun ls hl => ?_)
  refine lv_iinc (v := 9) (lv' := [(3, .int 9), (1, .long 43810453920231847), (0, .ref h0)]) hx hb dX10_digest_28 hl (k := 1) rfl (by decide) (by decide) rfl (fun ls hl => ?_)
  refine lv_goto (tgt := 6) hx hb dX10_digest_31 (by decide) ?_
  refine lv_iload_n hx hb dX10_digest_6 rfl (lv_at hl 0 rfl) ?_
  refine lv_bipush (v := 11) hx hb dX10_digest_7 (by decide) ?_
  refine lv_icmp_ge (tgt := 34) hx hb dX10_digest_9 (by decide) (fun c_19 => g_no c_19 (by decide)) (fun _ => ?_)
  refine lv_ldc2 (v := 31) hx hb hown (hts _ (List.mem_of_getElem? (i := 2) rfl)) dX10_digest_12 ?_
  refine lv_lload_n hx hb dX10_digest_15 rfl (lv_at hl 1 rfl) ?_
  refine lv_lmul hx hb dX10_digest_16 ?_
  refine g_topl (y := 1358124071527187257) (by decide) ?_
  refine lv_aload_n hx hb dX10_digest_17 rfl (lv_at hl 2 rfl) ?_
  refine va_get (D := G.1) (ci := 9) (v := .ref h0H) (C := RX10) (T := TX10) (N := 16) hx hb hts (fun _ h => List.mem_cons_of_mem _ (List.mem_append_left _ (List.mem_append_left _ (List.mem_append_left _ (List.mem_append_left _ (List.mem_append_right _ h)))))) hown hK hP 0 rfl rfl 0 (by decide) (hts _ (List.mem_of_getElem? (i := 3) rfl)) (fun _ h9 => h9) rfl dX10_digest_18 ?_
  refine lv_iload_n hx hb dX10_digest_21 rfl (lv_at hl 0 rfl) ?_
  refine g_calli (wr := [(h0, .inr (9, [.ref h0H, .ref h0S, .ref h0I, .ref h0K, .ref h0Ex, .ref h0E, .ref h0D, .ref h0F, .ref h0B, .ref h0R, .ref h0G, .long 0, .long 1, .int 0, .int 0, .int 0])), (h0Hd, .inl (G.2 0, 6, .inl (fun _ => 0))), (h0Ex, .inr (7, [.ref h0Exb, .ref h0Exs, .ref h0Exg, .ref h0Exv, .int 0, .int 0]))]) (va_runVN (C := RX9) (As := [.int 9]) (rest := [.long 1358124071527187257]) ⟨hx, hb, hml, hown, hts⟩ (c_X9_howMany l G (h0H) (h0Hd) (h0Hk) (h0Hr) (h0Hn) (h0He) (h0HT) (h0HP) (h0HL) (h0HN) (h0HM) (h0HTt) (h0HTa) (h0HTf) (h0HLc) (h0HNc) (h0HMc) (9) _) (⟨va_cnB 1 hts gX10_digest_X9_howMany_n298 rfl rfl rfl (nw115 hN) (hts _ (List.mem_of_getElem? (i := 8) rfl)) (by decide +kernel) ⟨Nat.le_of_ble_eq_true rfl, Nat.le_of_ble_eq_true rfl⟩, (hts _ (List.mem_of_getElem? (i := 7) rfl)), (hts _ (List.mem_of_getElem? (i := 9) rfl))⟩) (g_preV h0H [.int 9] hP hD hK hN [3, 4, 5, 6, 7] rfl rfl 3 (ci := 8) rfl rfl) rfl rfl hl.1 rfl (lv_room (Nat.le_of_ble_eq_true rfl)) dX10_digest_22 ⟨Nat.le_of_ble_eq_true rfl, Nat.le_of_ble_eq_true rfl⟩) hP hD hS hA [3, 4, 5, 6, 7] [0, 1, 2] rfl rfl rfl (by decide) (fun r_20 u H locs hw hP hD hS => ?_)
  obtain ⟨rfl, rfl⟩ := hw
  have hP : va_P G.1 vwCl [(h0, .inr (9, [.ref h0H, .ref h0S, .ref h0I, .ref h0K, .ref h0Ex, .ref h0E, .ref h0D, .ref h0F, .ref h0B, .ref h0R, .ref h0G, .long 0, .long 1, .int 0, .int 0, .int 0])), (h0Hd, .inl (G.2 0, 6, .inl (fun _ => 0))), (h0Ex, .inr (7, [.ref h0Exb, .ref h0Exs, .ref h0Exg, .ref h0Exv, .int 0, .int 0])), (h0H, .inr (8, [.ref h0Hd, .ref h0Hk, .ref h0Hr, .ref h0Hn, .ref h0He, .ref h0HT, .ref h0HP, .ref h0HL, .ref h0HN, .ref h0HM, .int 0, .int 0, .int 0])), (h0HT, .inr (3, [.int 0, .ref h0HTt, .ref h0HTa, .ref h0HTf])), (h0HL, .inr (5, [.int 5, .int 5, .ref h0HLc, .int 0])), (h0HN, .inr (5, [.int 5, .int 6, .ref h0HNc, .int 0])), (h0HM, .inr (5, [.int 4, .int 6, .ref h0HMc, .int 0]))] H := hP
  have hD : va_D A [(h0, .inr (9, [.ref h0H, .ref h0S, .ref h0I, .ref h0K, .ref h0Ex, .ref h0E, .ref h0D, .ref h0F, .ref h0B, .ref h0R, .ref h0G, .long 0, .long 1, .int 0, .int 0, .int 0])), (h0Hd, .inl (G.2 0, 6, .inl (fun _ => 0))), (h0Ex, .inr (7, [.ref h0Exb, .ref h0Exs, .ref h0Exg, .ref h0Exv, .int 0, .int 0])), (h0H, .inr (8, [.ref h0Hd, .ref h0Hk, .ref h0Hr, .ref h0Hn, .ref h0He, .ref h0HT, .ref h0HP, .ref h0HL, .ref h0HN, .ref h0HM, .int 0, .int 0, .int 0])), (h0HT, .inr (3, [.int 0, .ref h0HTt, .ref h0HTa, .ref h0HTf])), (h0HL, .inr (5, [.int 5, .int 5, .ref h0HLc, .int 0])), (h0HN, .inr (5, [.int 5, .int 6, .ref h0HNc, .int 0])), (h0HM, .inr (5, [.int 4, .int 6, .ref h0HMc, .int 0]))] := hD
  refine lv_i2l (v := 0) hx hb dX10_digest_25 (by decide) ?_
  refine lv_ladd hx hb dX10_digest_26 ?_
  refine g_topl (y := 1358124071527187257) (by decide) ?_
  refine lv_lstore_n (lv' := [(1, .long 1358124071527187257), (3, .int 9), (0, .ref h0)]) hx hb dX10_digest_27 rfl hl (by decide) rfl (fun ls hl => ?_)
  refine lv_iinc (v := 10) (lv' := [(3, .int 10), (1, .long 1358124071527187257), (0, .ref h0)]) hx hb dX10_digest_28 hl (k := 1) rfl (by decide) (by decide) rfl (fun ls hl => ?_)
  refine lv_goto (tgt := 6) hx hb dX10_digest_31 (by decide) ?_
  refine lv_iload_n hx hb dX10_digest_6 rfl (lv_at hl 0 rfl) ?_
  refine lv_bipush (v := 11) hx hb dX10_digest_7 (by decide) ?_
  refine lv_icmp_ge (tgt := 34) hx hb dX10_digest_9 (by decide) (fun c_21 => g_no c_21 (by decide)) (fun _ => ?_)
  refine lv_ldc2 (v := 31) hx hb hown (hts _ (List.mem_of_getElem? (i := 2) rfl)) dX10_digest_12 ?_
  refine lv_lload_n hx hb dX10_digest_15 rfl (lv_at hl 1 rfl) ?_
  refine lv_lmul hx hb dX10_digest_16 ?_
  refine g_topl (y := 5208358069923701735) (by decide) ?_
  refine lv_aload_n hx hb dX10_digest_17 rfl (lv_at hl 2 rfl) ?_
  refine va_get (D := G.1) (ci := 9) (v := .ref h0H) (C := RX10) (T := TX10) (N := 16) hx hb hts (fun _ h => List.mem_cons_of_mem _ (List.mem_append_left _ (List.mem_append_left _ (List.mem_append_left _ (List.mem_append_left _ (List.mem_append_right _ h)))))) hown hK hP 0 rfl rfl 0 (by decide) (hts _ (List.mem_of_getElem? (i := 3) rfl)) (fun _ h9 => h9) rfl dX10_digest_18 ?_
  refine lv_iload_n hx hb dX10_digest_21 rfl (lv_at hl 0 rfl) ?_
  refine g_calli (wr := [(h0, .inr (9, [.ref h0H, .ref h0S, .ref h0I, .ref h0K, .ref h0Ex, .ref h0E, .ref h0D, .ref h0F, .ref h0B, .ref h0R, .ref h0G, .long 0, .long 1, .int 0, .int 0, .int 0])), (h0Hd, .inl (G.2 0, 6, .inl (fun _ => 0))), (h0Ex, .inr (7, [.ref h0Exb, .ref h0Exs, .ref h0Exg, .ref h0Exv, .int 0, .int 0]))]) (va_runVN (C := RX9) (As := [.int 10]) (rest := [.long 5208358069923701735]) ⟨hx, hb, hml, hown, hts⟩ (c_X9_howMany l G (h0H) (h0Hd) (h0Hk) (h0Hr) (h0Hn) (h0He) (h0HT) (h0HP) (h0HL) (h0HN) (h0HM) (h0HTt) (h0HTa) (h0HTf) (h0HLc) (h0HNc) (h0HMc) (10) _) (⟨va_cnB 1 hts gX10_digest_X9_howMany_n298 rfl rfl rfl (nw115 hN) (hts _ (List.mem_of_getElem? (i := 8) rfl)) (by decide +kernel) ⟨Nat.le_of_ble_eq_true rfl, Nat.le_of_ble_eq_true rfl⟩, (hts _ (List.mem_of_getElem? (i := 7) rfl)), (hts _ (List.mem_of_getElem? (i := 9) rfl))⟩) (g_preV h0H [.int 10] hP hD hK hN [3, 4, 5, 6, 7] rfl rfl 3 (ci := 8) rfl rfl) rfl rfl hl.1 rfl (lv_room (Nat.le_of_ble_eq_true rfl)) dX10_digest_22 ⟨Nat.le_of_ble_eq_true rfl, Nat.le_of_ble_eq_true rfl⟩) hP hD hS hA [3, 4, 5, 6, 7] [0, 1, 2] rfl rfl rfl (by decide) (fun r_22 u H locs hw hP hD hS => ?_)
  obtain ⟨rfl, rfl⟩ := hw
  have hP : va_P G.1 vwCl [(h0, .inr (9, [.ref h0H, .ref h0S, .ref h0I, .ref h0K, .ref h0Ex, .ref h0E, .ref h0D, .ref h0F, .ref h0B, .ref h0R, .ref h0G, .long 0, .long 1, .int 0, .int 0, .int 0])), (h0Hd, .inl (G.2 0, 6, .inl (fun _ => 0))), (h0Ex, .inr (7, [.ref h0Exb, .ref h0Exs, .ref h0Exg, .ref h0Exv, .int 0, .int 0])), (h0H, .inr (8, [.ref h0Hd, .ref h0Hk, .ref h0Hr, .ref h0Hn, .ref h0He, .ref h0HT, .ref h0HP, .ref h0HL, .ref h0HN, .ref h0HM, .int 0, .int 0, .int 0])), (h0HT, .inr (3, [.int 0, .ref h0HTt, .ref h0HTa, .ref h0HTf])), (h0HL, .inr (5, [.int 5, .int 5, .ref h0HLc, .int 0])), (h0HN, .inr (5, [.int 5, .int 6, .ref h0HNc, .int 0])), (h0HM, .inr (5, [.int 4, .int 6, .ref h0HMc, .int 0]))] H := hP
  have hD : va_D A [(h0, .inr (9, [.ref h0H, .ref h0S, .ref h0I, .ref h0K, .ref h0Ex, .ref h0E, .ref h0D, .ref h0F, .ref h0B, .ref h0R, .ref h0G, .long 0, .long 1, .int 0, .int 0, .int 0])), (h0Hd, .inl (G.2 0, 6, .inl (fun _ => 0))), (h0Ex, .inr (7, [.ref h0Exb, .ref h0Exs, .ref h0Exg, .ref h0Exv, .int 0, .int 0])), (h0H, .inr (8, [.ref h0Hd, .ref h0Hk, .ref h0Hr, .ref h0Hn, .ref h0He, .ref h0HT, .ref h0HP, .ref h0HL, .ref h0HN, .ref h0HM, .int 0, .int 0, .int 0])), (h0HT, .inr (3, [.int 0, .ref h0HTt, .ref h0HTa, .ref h0HTf])), (h0HL, .inr (5, [.int 5, .int 5, .ref h0HLc, .int 0])), (h0HN, .inr (5, [.int 5, .int 6, .ref h0HNc, .int 0])), (h0HM, .inr (5, [.int 4, .int 6, .ref h0HMc, .int 0]))] := hD
  refine lv_i2l (v := 0) hx hb dX10_digest_25 (by decide) ?_
  refine lv_ladd hx hb dX10_digest_26 ?_
  refine g_topl (y := 5208358069923701735) (by decide) ?_
  refine lv_lstore_n (lv' := [(1, .long 5208358069923701735), (3, .int 10), (0, .ref h0)]) hx hb dX10_digest_27 rfl hl (by decide) rfl (fun ls hl => ?_)
  refine lv_iinc (v := 11) (lv' := [(3, .int 11), (1, .long 5208358069923701735), (0, .ref h0)]) hx hb dX10_digest_28 hl (k := 1) rfl (by decide) (by decide) rfl (fun ls hl => ?_)
  refine lv_goto (tgt := 6) hx hb dX10_digest_31 (by decide) ?_
  refine lv_iload_n hx hb dX10_digest_6 rfl (lv_at hl 0 rfl) ?_
  refine lv_bipush (v := 11) hx hb dX10_digest_7 (by decide) ?_
  refine lv_icmp_ge (tgt := 34) hx hb dX10_digest_9 (by decide) (fun _ => ?_) (fun c_23 => g_no (by decide) c_23)
  refine lv_ldc2 (v := 31) hx hb hown (hts _ (List.mem_of_getElem? (i := 2) rfl)) dX10_digest_34 ?_
  refine lv_lload_n hx hb dX10_digest_37 rfl (lv_at hl 1 rfl) ?_
  refine lv_lmul hx hb dX10_digest_38 ?_
  refine g_topl (y := (-4561596495751210759)) (by decide) ?_
  refine lv_aload_n hx hb dX10_digest_39 rfl (lv_at hl 2 rfl) ?_
  refine va_get (D := G.1) (ci := 9) (v := .ref h0Ex) (C := RX10) (T := TX10) (N := 16) hx hb hts (fun _ h => List.mem_cons_of_mem _ (List.mem_append_left _ (List.mem_append_left _ (List.mem_append_left _ (List.mem_append_left _ (List.mem_append_right _ h)))))) hown hK hP 0 rfl rfl 4 (by decide) (hts _ (List.mem_of_getElem? (i := 4) rfl)) (fun _ h9 => h9) rfl dX10_digest_40 ?_
  refine va_getN (D := G.1) (ci := 7) (v := .int 0) (C := RX8) (T := TX8) (N := 6) hx hb hts (fun _ h => List.mem_cons_of_mem _ (List.mem_append_left _ (List.mem_append_left _ (List.mem_append_left _ (List.mem_append_right _ h))))) hown hK hP 2 rfl rfl 4 (by decide) (va_Nw.use rfl (nw43 hN)) (fun _ h9 => h9) rfl dX10_digest_43 ?_
  refine lv_i2l (v := 0) hx hb dX10_digest_46 (by decide) ?_
  refine lv_ladd hx hb dX10_digest_47 ?_
  refine g_topl (y := (-4561596495751210759)) (by decide) ?_
  refine lv_lstore_n (lv' := [(1, .long (-4561596495751210759)), (3, .int 11), (0, .ref h0)]) hx hb dX10_digest_48 rfl hl (by decide) rfl (fun ls hl => ?_)
  refine lv_aload_n hx hb dX10_digest_49 rfl (lv_at hl 2 rfl) ?_
  refine va_get (D := G.1) (ci := 9) (v := .ref h0H) (C := RX10) (T := TX10) (N := 16) hx hb hts (fun _ h => List.mem_cons_of_mem _ (List.mem_append_left _ (List.mem_append_left _ (List.mem_append_left _ (List.mem_append_left _ (List.mem_append_right _ h)))))) hown hK hP 0 rfl rfl 0 (by decide) (hts _ (List.mem_of_getElem? (i := 3) rfl)) (fun _ h9 => h9) rfl dX10_digest_50 ?_
  refine lv_lload_n hx hb dX10_digest_53 rfl (lv_at hl 0 rfl) ?_
  refine g_calll (wr := [(h0, .inr (9, [.ref h0H, .ref h0S, .ref h0I, .ref h0K, .ref h0Ex, .ref h0E, .ref h0D, .ref h0F, .ref h0B, .ref h0R, .ref h0G, .long 0, .long 1, .int 0, .int 0, .int 0])), (h0Ex, .inr (7, [.ref h0Exb, .ref h0Exs, .ref h0Exg, .ref h0Exv, .int 0, .int 0])), (h0HT, .inr (3, [.int 0, .ref h0HTt, .ref h0HTa, .ref h0HTf]))]) (va_runVN (C := RX9) (As := [.long (-4561596495751210759)]) (rest := []) ⟨hx, hb, hml, hown, hts⟩ (c_X9_mixInto l G (h0H) (h0Hd) (h0Hk) (h0Hr) (h0Hn) (h0He) (h0HT) (h0HP) (h0HL) (h0HN) (h0HM) (h0HLc) (h0HNc) (h0HMc) _) (⟨va_cnB 1 hts gX10_digest_X9_mixInto_n305 rfl rfl rfl (nw118 hN) (hts _ (List.mem_of_getElem? (i := 8) rfl)) (by decide +kernel) ⟨Nat.le_of_ble_eq_true rfl, Nat.le_of_ble_eq_true rfl⟩, (hts _ (List.mem_of_getElem? (i := 27) rfl)), (hts _ (List.mem_of_getElem? (i := 28) rfl))⟩) (g_preV h0H [.long (-4561596495751210759)] hP hD hK hN [3, 1, 5, 6, 7] rfl rfl 3 (ci := 8) rfl rfl) rfl rfl hl.1 rfl (lv_room (Nat.le_of_ble_eq_true rfl)) dX10_digest_54 ⟨Nat.le_of_ble_eq_true rfl, Nat.le_of_ble_eq_true rfl⟩) hP hD hS hA [3, 1, 5, 6, 7] [0, 2, 4] rfl rfl rfl (by decide) (fun r_24 u H locs hw hP hD hS => ?_)
  obtain ⟨rfl, rfl⟩ := hw
  have hP : va_P G.1 vwCl [(h0, .inr (9, [.ref h0H, .ref h0S, .ref h0I, .ref h0K, .ref h0Ex, .ref h0E, .ref h0D, .ref h0F, .ref h0B, .ref h0R, .ref h0G, .long 0, .long 1, .int 0, .int 0, .int 0])), (h0Ex, .inr (7, [.ref h0Exb, .ref h0Exs, .ref h0Exg, .ref h0Exv, .int 0, .int 0])), (h0HT, .inr (3, [.int 0, .ref h0HTt, .ref h0HTa, .ref h0HTf]))] H := hP
  have hD : va_D A [(h0, .inr (9, [.ref h0H, .ref h0S, .ref h0I, .ref h0K, .ref h0Ex, .ref h0E, .ref h0D, .ref h0F, .ref h0B, .ref h0R, .ref h0G, .long 0, .long 1, .int 0, .int 0, .int 0])), (h0Ex, .inr (7, [.ref h0Exb, .ref h0Exs, .ref h0Exg, .ref h0Exv, .int 0, .int 0])), (h0HT, .inr (3, [.int 0, .ref h0HTt, .ref h0HTa, .ref h0HTf]))] := hD
  refine lv_lstore_n (lv' := [(1, .long 7067162257424300601), (3, .int 11), (0, .ref h0)]) hx hb dX10_digest_57 rfl hl (by decide) rfl (fun ls hl => ?_)
  refine lv_ldc2 (v := 31) hx hb hown (hts _ (List.mem_of_getElem? (i := 2) rfl)) dX10_digest_58 ?_
  refine lv_lload_n hx hb dX10_digest_61 rfl (lv_at hl 0 rfl) ?_
  refine lv_lmul hx hb dX10_digest_62 ?_
  refine g_topl (y := (-2278898904361300761)) (by decide) ?_
  refine lv_aload_n hx hb dX10_digest_63 rfl (lv_at hl 2 rfl) ?_
  refine va_get (D := G.1) (ci := 9) (v := .long 0) (C := RX10) (T := TX10) (N := 16) hx hb hts (fun _ h => List.mem_cons_of_mem _ (List.mem_append_left _ (List.mem_append_left _ (List.mem_append_left _ (List.mem_append_left _ (List.mem_append_right _ h)))))) hown hK hP 0 rfl rfl 11 (by decide) (hts _ (List.mem_of_getElem? (i := 5) rfl)) (fun _ h9 => h9) rfl dX10_digest_64 ?_
  refine lv_ladd hx hb dX10_digest_67 ?_
  refine g_topl (y := (-2278898904361300761)) (by decide) ?_
  refine lv_lstore_n (lv' := [(1, .long (-2278898904361300761)), (3, .int 11), (0, .ref h0)]) hx hb dX10_digest_68 rfl hl (by decide) rfl (fun ls hl => ?_)
  refine lv_ldc2 (v := 31) hx hb hown (hts _ (List.mem_of_getElem? (i := 2) rfl)) dX10_digest_69 ?_
  refine lv_lload_n hx hb dX10_digest_72 rfl (lv_at hl 0 rfl) ?_
  refine lv_lmul hx hb dX10_digest_73 ?_
  refine g_topl (y := 3141110259637882873) (by decide) ?_
  refine lv_aload_n hx hb dX10_digest_74 rfl (lv_at hl 2 rfl) ?_
  refine va_get (D := G.1) (ci := 9) (v := .long 1) (C := RX10) (T := TX10) (N := 16) hx hb hts (fun _ h => List.mem_cons_of_mem _ (List.mem_append_left _ (List.mem_append_left _ (List.mem_append_left _ (List.mem_append_left _ (List.mem_append_right _ h)))))) hown hK hP 0 rfl rfl 12 (by decide) (hts _ (List.mem_of_getElem? (i := 6) rfl)) (fun _ h9 => h9) rfl dX10_digest_75 ?_
  refine lv_ladd hx hb dX10_digest_78 ?_
  refine g_topl (y := 3141110259637882874) (by decide) ?_
  have hP := hP.sub (ws' := []) [] rfl
  have hD := hD.sub (ws' := []) [] rfl rfl
  exact g_lret (v := 3141110259637882874) hx hb hr hlocks hP hD hS (⟨rfl, rfl⟩) dX10_digest_79
