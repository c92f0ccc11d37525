theorem dX11_getsBy_0 : decode cX11_getsBy 0 = .ok (.aload_n 0, 1) := kd_42 (by decide +kernel)
theorem dX11_getsBy_1 : decode cX11_getsBy 1 = .ok (.getfield 7, 3) := kd_180 (a := 0) (b := 7) (by decide +kernel)
theorem dX11_getsBy_4 : decode cX11_getsBy 4 = .ok (.bipush 48, 2) := kd_16 (a := 48) (by decide +kernel)
theorem dX11_getsBy_6 : decode cX11_getsBy 6 = .ok (.iload_n 1, 1) := kd_27 (by decide +kernel)
theorem dX11_getsBy_7 : decode cX11_getsBy 7 = .ok (.iadd, 1) := kd_96 (by decide +kernel)
theorem dX11_getsBy_8 : decode cX11_getsBy 8 = .ok (.iaload, 1) := kd_46 (by decide +kernel)
theorem dX11_getsBy_9 : decode cX11_getsBy 9 = .ok (.aload_n 0, 1) := kd_42 (by decide +kernel)
theorem dX11_getsBy_10 : decode cX11_getsBy 10 = .ok (.getfield 7, 3) := kd_180 (a := 0) (b := 7) (by decide +kernel)
theorem dX11_getsBy_13 : decode cX11_getsBy 13 = .ok (.bipush 52, 2) := kd_16 (a := 52) (by decide +kernel)
theorem dX11_getsBy_15 : decode cX11_getsBy 15 = .ok (.iload_n 1, 1) := kd_27 (by decide +kernel)
theorem dX11_getsBy_16 : decode cX11_getsBy 16 = .ok (.iadd, 1) := kd_96 (by decide +kernel)
theorem dX11_getsBy_17 : decode cX11_getsBy 17 = .ok (.iaload, 1) := kd_46 (by decide +kernel)
theorem dX11_getsBy_18 : decode cX11_getsBy 18 = .ok (.aload_n 0, 1) := kd_42 (by decide +kernel)
theorem dX11_getsBy_19 : decode cX11_getsBy 19 = .ok (.getfield 45, 3) := kd_180 (a := 0) (b := 45) (by decide +kernel)
theorem dX11_getsBy_22 : decode cX11_getsBy 22 = .ok (.iload_n 2, 1) := kd_28 (by decide +kernel)
theorem dX11_getsBy_23 : decode cX11_getsBy 23 = .ok (.iaload, 1) := kd_46 (by decide +kernel)
theorem gX11_getsBy_X11_takesAs : GoodIn wsX11_getsBy (va_wsS RX11 116 yX11_takesAs wsX11_takesAs) := gW_S (in_r22 (List.mem_of_getElem? (i := 8) rfl)) (in_r22 (List.mem_of_getElem? (i := 9) rfl)) (in_r1 (List.mem_of_getElem? (i := 5) rfl)) (in_r22 (List.mem_of_getElem? (i := 10) rfl))
theorem dX11_getsBy_24 : decode cX11_getsBy 24 = .ok (.invokestatic 116, 3) := kd_184 (a := 0) (b := 116) (by decide +kernel)
theorem dX11_getsBy_27 : decode cX11_getsBy 27 = .ok (.istore 4, 2) := kd_54 (a := 4) (by decide +kernel)
theorem dX11_getsBy_29 : decode cX11_getsBy 29 = .ok (.iload_n 2, 1) := kd_28 (by decide +kernel)
theorem dX11_getsBy_30 : decode cX11_getsBy 30 = .ok (.iload_n 3, 1) := kd_29 (by decide +kernel)
theorem dX11_getsBy_31 : decode cX11_getsBy 31 = .ok (.if_icmp .ge 12, 3) := kd_162 (a := 0) (b := 12) (by decide +kernel)
theorem dX11_getsBy_43 : decode cX11_getsBy 43 = .ok (.iload_n 2, 1) := kd_28 (by decide +kernel)
theorem dX11_getsBy_44 : decode cX11_getsBy 44 = .ok (.iload_n 3, 1) := kd_29 (by decide +kernel)
theorem dX11_getsBy_45 : decode cX11_getsBy 45 = .ok (.if_icmp .le 10, 3) := kd_164 (a := 0) (b := 10) (by decide +kernel)
theorem dX11_getsBy_55 : decode cX11_getsBy 55 = .ok (.iload 4, 2) := kd_21 (a := 4) (by decide +kernel)
theorem dX11_getsBy_57 : decode cX11_getsBy 57 = .ok (.iconst 1, 1) := kd_4 (by decide +kernel)
theorem dX11_getsBy_58 : decode cX11_getsBy 58 = .ok (.isub, 1) := kd_100 (by decide +kernel)
theorem dX11_getsBy_59 : decode cX11_getsBy 59 = .ok (.ireturn, 1) := kd_172 (by decide +kernel)
theorem dX11_getsBy_48 : decode cX11_getsBy 48 = .ok (.iload 4, 2) := kd_21 (a := 4) (by decide +kernel)
theorem dX11_getsBy_50 : decode cX11_getsBy 50 = .ok (.iconst 2, 1) := kd_5 (by decide +kernel)
theorem dX11_getsBy_51 : decode cX11_getsBy 51 = .ok (.idiv, 1) := kd_108 (by decide +kernel)
theorem dX11_getsBy_52 : decode cX11_getsBy 52 = .ok (.goto 7, 3) := kd_167 (a := 0) (b := 7) (by decide +kernel)
theorem dX11_getsBy_34 : decode cX11_getsBy 34 = .ok (.iload 4, 2) := kd_21 (a := 4) (by decide +kernel)
theorem dX11_getsBy_36 : decode cX11_getsBy 36 = .ok (.iload_n 2, 1) := kd_28 (by decide +kernel)
theorem dX11_getsBy_37 : decode cX11_getsBy 37 = .ok (.iconst 2, 1) := kd_5 (by decide +kernel)
theorem dX11_getsBy_38 : decode cX11_getsBy 38 = .ok (.idiv, 1) := kd_108 (by decide +kernel)
theorem dX11_getsBy_39 : decode cX11_getsBy 39 = .ok (.iadd, 1) := kd_96 (by decide +kernel)
theorem dX11_getsBy_40 : decode cX11_getsBy 40 = .ok (.goto 19, 3) := kd_167 (a := 0) (b := 19) (by decide +kernel)
set_option maxHeartbeats 8000000 in
set_option maxRecDepth 100000 in
theorem c_X11_getsBy (l : Launch) (G : gG) (m0 : Nat) (m_all : Nat) (m_kept : Nat) (m_isKept : Nat) (m_refused : Nat) (m_above : Int) (m_below : Int) (m_hand : Nat) (m_fewest : Nat) (m_whoBites : Nat) (m_leaves : Nat) (m_bestFeast : Nat) (m_tells : Nat) (m_hardOn : Nat) (m_bytes : Nat) (m_bytesLong : Int) (m_tokenAt : Int) (m_tokenLong : Int) (m_token : Int) (m_value : Int) (m_anew : Nat) (m_values : Nat) (mF : Nat → Int) (K0 : Int) (mo : Nat → Int) (bb0 : Int) (d0 : Int) (e0 : Int) (y0_ : bp (plA K0) mF) (y1_ : bd 0 20 mo) (rbb0 : -2147483648 ≤ bb0 ∧ bb0 ≤ 2147483647) (rd0 : -2147483648 ≤ d0 ∧ d0 ≤ 2147483647) (re0 : -2147483648 ≤ e0 ∧ e0 ≤ 2147483647) (hb0 : 0 ≤ bb0 ∧ bb0 ≤ 3) (hd : 0 ≤ d0 ∧ d0 ≤ 9) (he : 0 ≤ e0 ∧ e0 ≤ 9) (hK0 : 1000 ≤ K0 ∧ K0 ≤ 2000000) (sz : Nat) : gI G l yX11_getsBy wsX11_getsBy ({ frames := 1, cells := 0, slots := 0, locals := 25 } : Room) [.ref m0, .int (iI bb0), .int (iI d0), .int (iI e0)] [(m0, .inr (10, [.ref m_all, .ref m_kept, .ref m_isKept, .ref m_refused, .long (lI m_above), .long (lI m_below), .ref m_hand, .ref m_fewest, .ref m_whoBites, .ref m_leaves, .ref m_bestFeast, .ref m_tells, .ref m_hardOn, .ref m_bytes, .int (iI m_bytesLong), .int (iI m_tokenAt), .int (iI m_tokenLong), .int (iI m_token), .int (iI m_value), .ref m_anew, .ref m_values])), (m_all, .inl (G.2 0, 311, .inl (cI mF))), (m_hardOn, .inl (G.2 0, 10, .inl (cI mo)))] sz (fun (r : Int32) (u : va_W) => (∃ rr : Int, (-1 ≤ rr ∧ rr ≤ 7000000) ∧ r = (iI rr) ∧ u = [(m0, .inr (10, [.ref m_all, .ref m_kept, .ref m_isKept, .ref m_refused, .long (lI m_above), .long (lI m_below), .ref m_hand, .ref m_fewest, .ref m_whoBites, .ref m_leaves, .ref m_bestFeast, .ref m_tells, .ref m_hardOn, .ref m_bytes, .int (iI m_bytesLong), .int (iI m_tokenAt), .int (iI m_tokenLong), .int (iI m_token), .int (iI m_value), .ref m_anew, .ref m_values])), (m_all, .inl (G.2 0, 311, .inl (cI mF))), (m_hardOn, .inl (G.2 0, 10, .inl (cI mo)))])) := by
  refine Met.ofW (cc := cX11_getsBy) (maxL := 5) (ret := (some .int)) (by decide) rfl ?_
  intro p e s m args below meth c s₁ B hml hv
  obtain ⟨rfl, hsz, hP, hK, hD0, hN, hZ⟩ := hv
  have hx := B.exec
  have hb := B.bytes
  have hr := B.returns
  have hts := atoms_spec (ws := wsX11_getsBy) B.pre
  have hown : s.vm.findClass RX11 = some m.cls := findClass_of_methodNamed B.named
  have hlocks := B.notSynchronized
  subst hsz
  have hD := hD0.self (sz := s.heap.size)
  generalize hAe : va_A [(m0, .inr (10, [.ref m_all, .ref m_kept, .ref m_isKept, .ref m_refused, .long (lI m_above), .long (lI m_below), .ref m_hand, .ref m_fewest, .ref m_whoBites, .ref m_leaves, .ref m_bestFeast, .ref m_tells, .ref m_hardOn, .ref m_bytes, .int (iI m_bytesLong), .int (iI m_tokenAt), .int (iI m_tokenLong), .int (iI m_token), .int (iI m_value), .ref m_anew, .ref m_values])), (m_all, .inl (G.2 0, 311, .inl (cI mF))), (m_hardOn, .inl (G.2 0, 10, .inl (cI mo)))] s.heap.size = A at hD hZ ⊢
  have hA : ∀ q : Nat, s.heap.size ≤ q → A q := fun q h => by rw [← hAe]; exact Or.inr h
  have hS : va_S A s.heap s.heap [] := va_S.rf
  have hP : va_P G.1 vwCl [(m0, .inr (10, [.ref m_all, .ref m_kept, .ref m_isKept, .ref m_refused, .long (lI m_above), .long (lI m_below), .ref m_hand, .ref m_fewest, .ref m_whoBites, .ref m_leaves, .ref m_bestFeast, .ref m_tells, .ref m_hardOn, .ref m_bytes, .int (iI m_bytesLong), .int (iI m_tokenAt), .int (iI m_tokenLong), .int (iI m_token), .int (iI m_value), .ref m_anew, .ref m_values])), (m_all, .inl (G.2 0, 311, .inl (cI mF))), (m_hardOn, .inl (G.2 0, 10, .inl (cI mo)))] s.heap := hP
  have hl := lv_entry ([.ref m0, .int (iI bb0), .int (iI d0), .int (iI e0)]) (n := 5) (Nat.le_of_ble_eq_true rfl)
  rw [lg_entry_eq]
  generalize (lg_sl ([.ref m0, .int (iI bb0), .int (iI d0), .int (iI e0)]) ++ List.replicate (5 - (lg_sl ([.ref m0, .int (iI bb0), .int (iI d0), .int (iI e0)])).length) Slot.unset).toArray = ls at hl ⊢
  have hl : lv_has ls 5 [(0, .ref m0), (1, .int (iI bb0)), (2, .int (iI d0)), (3, .int (iI e0))] := hl
  refine lv_aload_n hx hb dX11_getsBy_0 rfl (lv_at hl 0 rfl) ?_
  refine va_get (D := G.1) (ci := 10) (v := .ref m_all) (C := RX11) (T := TX11) (N := 21) hx hb hts (fun _ h => List.mem_cons_of_mem _ (inlX11 _ h)) hown hK hP 0 rfl rfl 0 (by decide) (hts _ (List.mem_cons_of_mem _ (in_r6 (List.mem_of_getElem? (i := 0) rfl)))) (fun _ h9 => h9) rfl dX11_getsBy_1 ?_
  refine lv_bipush (v := iI 48) hx hb dX11_getsBy_4 (by decide) ?_
  refine lv_iload_n hx hb dX11_getsBy_6 rfl (lv_at hl 1 rfl) ?_
  refine lv_iadd hx hb dX11_getsBy_7 ?_
  refine g_topi (y := iI (48 + bb0)) (iI_add 48 bb0) ?_
  refine g_ild hx hb hK hP 1 rfl (by omega) (by omega) (by first | exact Nat.le_of_ble_eq_true rfl | omega) dX11_getsBy_8 (fun w_1 ew_1 => ?_)
  have bw_1 : 0 ≤ w_1 ∧ w_1 ≤ K0 := by rw [← ew_1]; exact ⟨(y0_ _).1, Int.le_trans (y0_ _).2 (plA_le (by omega) _)⟩
  refine lv_aload_n hx hb dX11_getsBy_9 rfl (lv_at hl 0 rfl) ?_
  refine va_get (D := G.1) (ci := 10) (v := .ref m_all) (C := RX11) (T := TX11) (N := 21) hx hb hts (fun _ h => List.mem_cons_of_mem _ (inlX11 _ h)) hown hK hP 0 rfl rfl 0 (by decide) (hts _ (List.mem_cons_of_mem _ (in_r6 (List.mem_of_getElem? (i := 0) rfl)))) (fun _ h9 => h9) rfl dX11_getsBy_10 ?_
  refine lv_bipush (v := iI 52) hx hb dX11_getsBy_13 (by decide) ?_
  refine lv_iload_n hx hb dX11_getsBy_15 rfl (lv_at hl 1 rfl) ?_
  refine lv_iadd hx hb dX11_getsBy_16 ?_
  refine g_topi (y := iI (52 + bb0)) (iI_add 52 bb0) ?_
  refine g_ild hx hb hK hP 1 rfl (by omega) (by omega) (by first | exact Nat.le_of_ble_eq_true rfl | omega) dX11_getsBy_17 (fun w_2 ew_2 => ?_)
  have bw_2 : 0 ≤ w_2 ∧ w_2 ≤ K0 := by rw [← ew_2]; exact ⟨(y0_ _).1, Int.le_trans (y0_ _).2 (plA_le (by omega) _)⟩
  refine lv_aload_n hx hb dX11_getsBy_18 rfl (lv_at hl 0 rfl) ?_
  refine va_get (D := G.1) (ci := 10) (v := .ref m_hardOn) (C := RX11) (T := TX11) (N := 21) hx hb hts (fun _ h => List.mem_cons_of_mem _ (inlX11 _ h)) hown hK hP 0 rfl rfl 12 (by decide) (hts _ (List.mem_cons_of_mem _ (in_r6 (List.mem_of_getElem? (i := 11) rfl)))) (fun _ h9 => h9) rfl dX11_getsBy_19 ?_
  refine lv_iload_n hx hb dX11_getsBy_22 rfl (lv_at hl 2 rfl) ?_
  refine g_ild hx hb hK hP 2 rfl (by omega) (by omega) (by first | exact Nat.le_of_ble_eq_true rfl | omega) dX11_getsBy_23 (fun w_3 ew_3 => ?_)
  have b0w_3 : _ := y1_ (d0.toNat)
  rw [ew_3] at b0w_3
  refine g_calli (wr := [(m0, .inr (10, [.ref m_all, .ref m_kept, .ref m_isKept, .ref m_refused, .long (lI m_above), .long (lI m_below), .ref m_hand, .ref m_fewest, .ref m_whoBites, .ref m_leaves, .ref m_bestFeast, .ref m_tells, .ref m_hardOn, .ref m_bytes, .int (iI m_bytesLong), .int (iI m_tokenAt), .int (iI m_tokenLong), .int (iI m_token), .int (iI m_value), .ref m_anew, .ref m_values])), (m_all, .inl (G.2 0, 311, .inl (cI mF))), (m_hardOn, .inl (G.2 0, 10, .inl (cI mo)))]) (va_runS (As := [.int (iI w_1), .int (iI w_2), .int (iI w_3)]) (rest := []) ⟨hx, hb, hml, hown, hts⟩ (c_X11_takesAs l G (w_1) (w_2) (w_3) (by first | assumption | omega) (by first | assumption | omega) (by first | assumption | omega) _) (va_cwS 3 hts gX11_getsBy_X11_takesAs rfl rfl rfl (by decide +kernel) ⟨Nat.le_of_ble_eq_true rfl, Nat.le_of_ble_eq_true rfl⟩) (g_preS [.int (iI w_1), .int (iI w_2), .int (iI w_3)] hP hD hK hN hS hA hZ [] rfl rfl) rfl rfl hl.1 rfl (lv_room (Nat.le_of_ble_eq_true rfl)) dX11_getsBy_24 ⟨Nat.le_of_ble_eq_true rfl, Nat.le_of_ble_eq_true rfl⟩) hP hD hS hA [] [0, 1, 2] rfl rfl rfl (by decide) (fun r_4 u H locs hw hP hD hS => ?_)
  refine ea_1_4 hw (fun rr_5 k_6 k_7 e8_0 e8_1 => ?_)
  subst e8_0
  subst e8_1
  clear hw
  have hPD : PD G A H [(m0, .inr (10, [.ref m_all, .ref m_kept, .ref m_isKept, .ref m_refused, .long (lI m_above), .long (lI m_below), .ref m_hand, .ref m_fewest, .ref m_whoBites, .ref m_leaves, .ref m_bestFeast, .ref m_tells, .ref m_hardOn, .ref m_bytes, .int (iI m_bytesLong), .int (iI m_tokenAt), .int (iI m_tokenLong), .int (iI m_token), .int (iI m_value), .ref m_anew, .ref m_values])), (m_all, .inl (G.2 0, 311, .inl (cI mF))), (m_hardOn, .inl (G.2 0, 10, .inl (cI mo)))] := ⟨hP, hD⟩
  have hP := hPD.1
  have hD := hPD.2
  clear hPD
  refine lv_istore (lv' := [(4, .int (iI rr_5)), (0, .ref m0), (1, .int (iI bb0)), (2, .int (iI d0)), (3, .int (iI e0))]) hx hb dX11_getsBy_27 hl (by decide) rfl (fun ls hl => ?_)
  refine lv_iload_n hx hb dX11_getsBy_29 rfl (lv_at hl 3 rfl) ?_
  refine lv_iload_n hx hb dX11_getsBy_30 rfl (lv_at hl 4 rfl) ?_
  refine lv_icmp_ge (tgt := 43) hx hb dX11_getsBy_31 (by decide) (fun c_8 => ?_) (fun c_8 => ?_)
  · have c_8 := (iI_le (a := e0) (b := d0) (by omega) (by omega)).mp c_8
    refine lv_iload_n hx hb dX11_getsBy_43 rfl (lv_at hl 3 rfl) ?_
    refine lv_iload_n hx hb dX11_getsBy_44 rfl (lv_at hl 4 rfl) ?_
    refine lv_icmp_le (tgt := 55) hx hb dX11_getsBy_45 (by decide) (fun c_9 => ?_) (fun c_9 => ?_)
    · have c_9 := (iI_le (a := d0) (b := e0) (by omega) (by omega)).mp c_9
      refine lv_iload hx hb dX11_getsBy_55 (lv_at hl 0 rfl) ?_
      refine lv_iconst (v := iI 1) hx hb dX11_getsBy_57 rfl ?_
      refine lv_isub hx hb dX11_getsBy_58 ?_
      refine g_topi (y := iI (rr_5 - 1)) (iI_sub rr_5 1) ?_
      exact g_iret (v := (iI (rr_5 - 1))) hx hb hr hlocks hP hD hS (⟨(rr_5 - 1), (by first | assumption | omega), rfl, rfl⟩) dX11_getsBy_59
    · have c_9 : ¬ (d0 ≤ e0) := fun h9 => c_9 ((iI_le (a := d0) (b := e0) (by omega) (by omega)).mpr h9)
      refine lv_iload hx hb dX11_getsBy_48 (lv_at hl 0 rfl) ?_
      refine lv_iconst (v := iI 2) hx hb dX11_getsBy_50 rfl ?_
      refine lv_idiv hx hb dX11_getsBy_51 (iI_ne0 (by omega) (by omega)) ?_
      refine g_topi (y := iI (rr_5 / 2)) (iI_div (by omega) (by omega) (by omega) (by omega)) ?_
      refine lv_goto (tgt := 59) hx hb dX11_getsBy_52 (by decide) ?_
      exact g_iret (v := (iI (rr_5 / 2))) hx hb hr hlocks hP hD hS (⟨(rr_5 / 2), (by first | assumption | omega), rfl, rfl⟩) dX11_getsBy_59
  · have c_8 : ¬ (e0 ≤ d0) := fun h9 => c_8 ((iI_le (a := e0) (b := d0) (by omega) (by omega)).mpr h9)
    refine lv_iload hx hb dX11_getsBy_34 (lv_at hl 0 rfl) ?_
    refine lv_iload_n hx hb dX11_getsBy_36 rfl (lv_at hl 3 rfl) ?_
    refine lv_iconst (v := iI 2) hx hb dX11_getsBy_37 rfl ?_
    refine lv_idiv hx hb dX11_getsBy_38 (iI_ne0 (by omega) (by omega)) ?_
    refine g_topi (y := iI (d0 / 2)) (iI_div (by omega) (by omega) (by omega) (by omega)) ?_
    refine lv_iadd hx hb dX11_getsBy_39 ?_
    refine g_topi (y := iI (rr_5 + (d0 / 2))) (iI_add rr_5 (d0 / 2)) ?_
    refine lv_goto (tgt := 59) hx hb dX11_getsBy_40 (by decide) ?_
    exact g_iret (v := (iI (rr_5 + (d0 / 2)))) hx hb hr hlocks hP hD hS (⟨(rr_5 + (d0 / 2)), (by first | assumption | omega), rfl, rfl⟩) dX11_getsBy_59
theorem dX11_rests_0 : decode cX11_rests 0 = .ok (.iconst 1, 1) := kd_4 (by decide +kernel)
theorem dX11_rests_1 : decode cX11_rests 1 = .ok (.istore 5, 2) := kd_54 (a := 5) (by decide +kernel)
theorem dX11_rests_3 : decode cX11_rests 3 = .ok (.iconst 0, 1) := kd_3 (by decide +kernel)
theorem dX11_rests_4 : decode cX11_rests 4 = .ok (.istore 6, 2) := kd_54 (a := 6) (by decide +kernel)
theorem dX11_rests_6 : decode cX11_rests 6 = .ok (.iload 6, 2) := kd_21 (a := 6) (by decide +kernel)
theorem dX11_rests_8 : decode cX11_rests 8 = .ok (.bipush 10, 2) := kd_16 (a := 10) (by decide +kernel)
theorem dX11_rests_10 : decode cX11_rests 10 = .ok (.if_icmp .ge 60, 3) := kd_162 (a := 0) (b := 60) (by decide +kernel)
theorem dX11_rests_70 : decode cX11_rests 70 = .ok (.iload 5, 2) := kd_21 (a := 5) (by decide +kernel)
theorem dX11_rests_72 : decode cX11_rests 72 = .ok (.ireturn, 1) := kd_172 (by decide +kernel)
theorem dX11_rests_13 : decode cX11_rests 13 = .ok (.iload 5, 2) := kd_21 (a := 5) (by decide +kernel)
theorem dX11_rests_15 : decode cX11_rests 15 = .ok (.ifCond .eq 55, 3) := kd_153 (a := 0) (b := 55) (by decide +kernel)
theorem dX11_rests_18 : decode cX11_rests 18 = .ok (.aload_n 0, 1) := kd_42 (by decide +kernel)
theorem dX11_rests_19 : decode cX11_rests 19 = .ok (.iload_n 1, 1) := kd_27 (by decide +kernel)
theorem dX11_rests_20 : decode cX11_rests 20 = .ok (.iload 6, 2) := kd_21 (a := 6) (by decide +kernel)
theorem dX11_rests_22 : decode cX11_rests 22 = .ok (.iload 4, 2) := kd_21 (a := 4) (by decide +kernel)
theorem gX11_rests_X11_getsBy : GoodIn wsX11_rests (wsV RX11 200 RX11 yX11_getsBy wsX11_getsBy) := gW_V (in_r38 (List.mem_of_getElem? (i := 11) rfl)) (in_r38 (List.mem_of_getElem? (i := 12) rfl)) (in_r38 (List.mem_of_getElem? (i := 13) rfl)) (in_r1 (List.mem_of_getElem? (i := 5) rfl)) (in_r38 (List.mem_of_getElem? (i := 14) rfl))
theorem dX11_rests_24 : decode cX11_rests 24 = .ok (.invokevirtual 200, 3) := kd_182 (a := 0) (b := 200) (by decide +kernel)
theorem dX11_rests_27 : decode cX11_rests 27 = .ok (.aload_n 0, 1) := kd_42 (by decide +kernel)
theorem dX11_rests_28 : decode cX11_rests 28 = .ok (.iload_n 1, 1) := kd_27 (by decide +kernel)
theorem dX11_rests_29 : decode cX11_rests 29 = .ok (.iload_n 3, 1) := kd_29 (by decide +kernel)
theorem dX11_rests_30 : decode cX11_rests 30 = .ok (.iload 4, 2) := kd_21 (a := 4) (by decide +kernel)
theorem dX11_rests_32 : decode cX11_rests 32 = .ok (.invokevirtual 200, 3) := kd_182 (a := 0) (b := 200) (by decide +kernel)
theorem dX11_rests_35 : decode cX11_rests 35 = .ok (.if_icmp .gt 26, 3) := kd_163 (a := 0) (b := 26) (by decide +kernel)
theorem dX11_rests_61 : decode cX11_rests 61 = .ok (.iconst 0, 1) := kd_3 (by decide +kernel)
theorem dX11_rests_38 : decode cX11_rests 38 = .ok (.aload_n 0, 1) := kd_42 (by decide +kernel)
theorem dX11_rests_39 : decode cX11_rests 39 = .ok (.iload_n 2, 1) := kd_28 (by decide +kernel)
theorem dX11_rests_40 : decode cX11_rests 40 = .ok (.iload 6, 2) := kd_21 (a := 6) (by decide +kernel)
theorem dX11_rests_42 : decode cX11_rests 42 = .ok (.iload_n 3, 1) := kd_29 (by decide +kernel)
theorem dX11_rests_43 : decode cX11_rests 43 = .ok (.invokevirtual 200, 3) := kd_182 (a := 0) (b := 200) (by decide +kernel)
theorem dX11_rests_46 : decode cX11_rests 46 = .ok (.aload_n 0, 1) := kd_42 (by decide +kernel)
theorem dX11_rests_47 : decode cX11_rests 47 = .ok (.iload_n 2, 1) := kd_28 (by decide +kernel)
theorem dX11_rests_48 : decode cX11_rests 48 = .ok (.iload 4, 2) := kd_21 (a := 4) (by decide +kernel)
theorem dX11_rests_50 : decode cX11_rests 50 = .ok (.iload_n 3, 1) := kd_29 (by decide +kernel)
theorem dX11_rests_51 : decode cX11_rests 51 = .ok (.invokevirtual 200, 3) := kd_182 (a := 0) (b := 200) (by decide +kernel)
theorem dX11_rests_54 : decode cX11_rests 54 = .ok (.if_icmp .gt 7, 3) := kd_163 (a := 0) (b := 7) (by decide +kernel)
theorem dX11_rests_57 : decode cX11_rests 57 = .ok (.iconst 1, 1) := kd_4 (by decide +kernel)
theorem dX11_rests_58 : decode cX11_rests 58 = .ok (.goto 4, 3) := kd_167 (a := 0) (b := 4) (by decide +kernel)
theorem dX11_rests_62 : decode cX11_rests 62 = .ok (.istore 5, 2) := kd_54 (a := 5) (by decide +kernel)
theorem dX11_rests_64 : decode cX11_rests 64 = .ok (.iinc 6 1, 3) := kd_132 (a := 6) (b := 1) (by decide +kernel)
theorem dX11_rests_67 : decode cX11_rests 67 = .ok (.goto (-61), 3) := kd_167 (a := 255) (b := 195) (by decide +kernel)
set_option maxHeartbeats 8000000 in
set_option maxRecDepth 100000 in
theorem c_X11_rests (l : Launch) (G : gG) (m0 : Nat) (m_all : Nat) (m_kept : Nat) (m_isKept : Nat) (m_refused : Nat) (m_above : Int) (m_below : Int) (m_hand : Nat) (m_fewest : Nat) (m_whoBites : Nat) (m_leaves : Nat) (m_bestFeast : Nat) (m_tells : Nat) (m_hardOn : Nat) (m_bytes : Nat) (m_bytesLong : Int) (m_tokenAt : Int) (m_tokenLong : Int) (m_token : Int) (m_value : Int) (m_anew : Nat) (m_values : Nat) (mF : Nat → Int) (K0 : Int) (mo : Nat → Int) (bb0 : Int) (c0 : Int) (d0 : Int) (e0 : Int) (y0_ : bp (plA K0) mF) (y1_ : bd 0 20 mo) (rbb0 : -2147483648 ≤ bb0 ∧ bb0 ≤ 2147483647) (rc0 : -2147483648 ≤ c0 ∧ c0 ≤ 2147483647) (rd0 : -2147483648 ≤ d0 ∧ d0 ≤ 2147483647) (re0 : -2147483648 ≤ e0 ∧ e0 ≤ 2147483647) (hb0 : 0 ≤ bb0 ∧ bb0 ≤ 3) (hc : 0 ≤ c0 ∧ c0 ≤ 3) (hd : 0 ≤ d0 ∧ d0 ≤ 9) (he : 0 ≤ e0 ∧ e0 ≤ 9) (hK0 : 1000 ≤ K0 ∧ K0 ≤ 2000000) (sz : Nat) : gI G l yX11_rests wsX11_rests ({ frames := 2, cells := 0, slots := 0, locals := 49 } : Room) [.ref m0, .int (iI bb0), .int (iI c0), .int (iI d0), .int (iI e0)] [(m0, .inr (10, [.ref m_all, .ref m_kept, .ref m_isKept, .ref m_refused, .long (lI m_above), .long (lI m_below), .ref m_hand, .ref m_fewest, .ref m_whoBites, .ref m_leaves, .ref m_bestFeast, .ref m_tells, .ref m_hardOn, .ref m_bytes, .int (iI m_bytesLong), .int (iI m_tokenAt), .int (iI m_tokenLong), .int (iI m_token), .int (iI m_value), .ref m_anew, .ref m_values])), (m_all, .inl (G.2 0, 311, .inl (cI mF))), (m_hardOn, .inl (G.2 0, 10, .inl (cI mo)))] sz (fun (r : Int32) (u : va_W) => (∃ rr : Int, (rr = 0 ∨ rr = 1) ∧ r = (iI rr) ∧ u = [(m0, .inr (10, [.ref m_all, .ref m_kept, .ref m_isKept, .ref m_refused, .long (lI m_above), .long (lI m_below), .ref m_hand, .ref m_fewest, .ref m_whoBites, .ref m_leaves, .ref m_bestFeast, .ref m_tells, .ref m_hardOn, .ref m_bytes, .int (iI m_bytesLong), .int (iI m_tokenAt), .int (iI m_tokenLong), .int (iI m_token), .int (iI m_value), .ref m_anew, .ref m_values])), (m_all, .inl (G.2 0, 311, .inl (cI mF))), (m_hardOn, .inl (G.2 0, 10, .inl (cI mo)))])) := by
  refine Met.ofW (cc := cX11_rests) (maxL := 7) (ret := (some .boolean)) (by decide) rfl ?_
  intro p e s m args below meth c s₁ B hml hv
  obtain ⟨rfl, hsz, hP, hK, hD0, hN, hZ⟩ := hv
  have hx := B.exec
  have hb := B.bytes
  have hr := B.returns
  have hts := atoms_spec (ws := wsX11_rests) B.pre
  have hown : s.vm.findClass RX11 = some m.cls := findClass_of_methodNamed B.named
  have hlocks := B.notSynchronized
  subst hsz
  have hD := hD0.self (sz := s.heap.size)
  generalize hAe : va_A [(m0, .inr (10, [.ref m_all, .ref m_kept, .ref m_isKept, .ref m_refused, .long (lI m_above), .long (lI m_below), .ref m_hand, .ref m_fewest, .ref m_whoBites, .ref m_leaves, .ref m_bestFeast, .ref m_tells, .ref m_hardOn, .ref m_bytes, .int (iI m_bytesLong), .int (iI m_tokenAt), .int (iI m_tokenLong), .int (iI m_token), .int (iI m_value), .ref m_anew, .ref m_values])), (m_all, .inl (G.2 0, 311, .inl (cI mF))), (m_hardOn, .inl (G.2 0, 10, .inl (cI mo)))] s.heap.size = A at hD hZ ⊢
  have hA : ∀ q : Nat, s.heap.size ≤ q → A q := fun q h => by rw [← hAe]; exact Or.inr h
  have hS : va_S A s.heap s.heap [] := va_S.rf
  have hP : va_P G.1 vwCl [(m0, .inr (10, [.ref m_all, .ref m_kept, .ref m_isKept, .ref m_refused, .long (lI m_above), .long (lI m_below), .ref m_hand, .ref m_fewest, .ref m_whoBites, .ref m_leaves, .ref m_bestFeast, .ref m_tells, .ref m_hardOn, .ref m_bytes, .int (iI m_bytesLong), .int (iI m_tokenAt), .int (iI m_tokenLong), .int (iI m_token), .int (iI m_value), .ref m_anew, .ref m_values])), (m_all, .inl (G.2 0, 311, .inl (cI mF))), (m_hardOn, .inl (G.2 0, 10, .inl (cI mo)))] s.heap := hP
  have hl := lv_entry ([.ref m0, .int (iI bb0), .int (iI c0), .int (iI d0), .int (iI e0)]) (n := 7) (Nat.le_of_ble_eq_true rfl)
  rw [lg_entry_eq]
  generalize (lg_sl ([.ref m0, .int (iI bb0), .int (iI c0), .int (iI d0), .int (iI e0)]) ++ List.replicate (7 - (lg_sl ([.ref m0, .int (iI bb0), .int (iI c0), .int (iI d0), .int (iI e0)])).length) Slot.unset).toArray = ls at hl ⊢
  have hl : lv_has ls 7 [(0, .ref m0), (1, .int (iI bb0)), (2, .int (iI c0)), (3, .int (iI d0)), (4, .int (iI e0))] := hl
  refine lv_iconst (v := iI 1) hx hb dX11_rests_0 rfl ?_
  refine lv_istore (lv' := [(5, .int (iI 1)), (0, .ref m0), (1, .int (iI bb0)), (2, .int (iI c0)), (3, .int (iI d0)), (4, .int (iI e0))]) hx hb dX11_rests_1 hl (by decide) rfl (fun ls hl => ?_)
  refine lv_iconst (v := iI 0) hx hb dX11_rests_3 rfl ?_
  refine lv_istore (lv' := [(6, .int (iI 0)), (5, .int (iI 1)), (0, .ref m0), (1, .int (iI bb0)), (2, .int (iI c0)), (3, .int (iI d0)), (4, .int (iI e0))]) hx hb dX11_rests_4 hl (by decide) rfl (fun ls hl => ?_)
  refine g_loopN (pc := 6) (fun nn H locs ls => ∃ s0__1 : Int, ∃ i0__2 : Int, (s0__1 = 0 ∨ s0__1 = 1) ∧ (0 ≤ i0__2 ∧ i0__2 ≤ 10) ∧ (10 - i0__2).toNat = nn ∧ va_P G.1 vwCl [(m0, .inr (10, [.ref m_all, .ref m_kept, .ref m_isKept, .ref m_refused, .long (lI m_above), .long (lI m_below), .ref m_hand, .ref m_fewest, .ref m_whoBites, .ref m_leaves, .ref m_bestFeast, .ref m_tells, .ref m_hardOn, .ref m_bytes, .int (iI m_bytesLong), .int (iI m_tokenAt), .int (iI m_tokenLong), .int (iI m_token), .int (iI m_value), .ref m_anew, .ref m_values])), (m_all, .inl (G.2 0, 311, .inl (cI mF))), (m_hardOn, .inl (G.2 0, 10, .inl (cI mo)))] H ∧ va_D A [(m0, .inr (10, [.ref m_all, .ref m_kept, .ref m_isKept, .ref m_refused, .long (lI m_above), .long (lI m_below), .ref m_hand, .ref m_fewest, .ref m_whoBites, .ref m_leaves, .ref m_bestFeast, .ref m_tells, .ref m_hardOn, .ref m_bytes, .int (iI m_bytesLong), .int (iI m_tokenAt), .int (iI m_tokenLong), .int (iI m_token), .int (iI m_value), .ref m_anew, .ref m_values])), (m_all, .inl (G.2 0, 311, .inl (cI mF))), (m_hardOn, .inl (G.2 0, 10, .inl (cI mo)))] ∧ va_S A s.heap H locs ∧ lv_has ls 7 [(6, .int (iI i0__2)), (5, .int (iI s0__1)), (0, .ref m0), (1, .int (iI bb0)), (2, .int (iI c0)), (3, .int (iI d0)), (4, .int (iI e0))]) ?_ ⟨1, 0, (by first | assumption | omega), (by first | assumption | omega), rfl, hP, hD, hS, lv_sub hl [0, 1, 2, 3, 4, 5, 6] rfl⟩
  intro nn_6 H locs ls ih_5 hI
  refine ea_2_7 hI (fun s0__1 i0__2 f_3 f_4 hnn_7 hP hD hS hl => ?_)
  clear hI
  refine lv_iload hx hb dX11_rests_6 (lv_at hl 0 rfl) ?_
  refine lv_bipush (v := iI 10) hx hb dX11_rests_8 (by decide) ?_
  refine lv_icmp_ge (tgt := 70) hx hb dX11_rests_10 (by decide) (fun c_8 => ?_) (fun c_8 => ?_)
  · have c_8 := (iI_le (a := 10) (b := i0__2) (by first | decide | omega) (by omega)).mp c_8
    refine lv_iload hx hb dX11_rests_70 (lv_at hl 1 rfl) ?_
    exact g_zret (v := (iI s0__1)) hx hb hr hlocks (narrow_z (by omega)) hP hD hS (⟨s0__1, (by first | exact f_3 | assumption | omega), rfl, rfl⟩) dX11_rests_72
  · have c_8 : ¬ (10 ≤ i0__2) := fun h9 => c_8 ((iI_le (a := 10) (b := i0__2) (by first | decide | omega) (by omega)).mpr h9)
    refine lv_iload hx hb dX11_rests_13 (lv_at hl 1 rfl) ?_
    refine lv_if_eq (tgt := 70) hx hb dX11_rests_15 (by decide) (fun c_9 => ?_) (fun c_9 => ?_)
    · have c_9 := (iI_eq (a := s0__1) (b := 0) (by omega) (by first | decide | omega)).mp c_9
      refine lv_iload hx hb dX11_rests_70 (lv_at hl 1 rfl) ?_
      exact g_zret (v := (iI s0__1)) hx hb hr hlocks (narrow_z (by omega)) hP hD hS (⟨s0__1, (by first | exact f_3 | assumption | omega), rfl, rfl⟩) dX11_rests_72
    · have c_9 : ¬ (s0__1 = 0) := fun h9 => c_9 ((iI_eq (a := s0__1) (b := 0) (by omega) (by first | decide | omega)).mpr h9)
      refine lv_aload_n hx hb dX11_rests_18 rfl (lv_at hl 2 rfl) ?_
      refine lv_iload_n hx hb dX11_rests_19 rfl (lv_at hl 3 rfl) ?_
      refine lv_iload hx hb dX11_rests_20 (lv_at hl 0 rfl) ?_
      refine lv_iload hx hb dX11_rests_22 (lv_at hl 6 rfl) ?_
      refine g_calli (wr := []) (va_runV (As := [.int (iI bb0), .int (iI i0__2), .int (iI e0)]) (rest := []) ⟨hx, hb, hml, hown, hts⟩ (c_X11_getsBy l G (m0) (m_all) (m_kept) (m_isKept) (m_refused) (m_above) (m_below) (m_hand) (m_fewest) (m_whoBites) (m_leaves) (m_bestFeast) (m_tells) (m_hardOn) (m_bytes) (m_bytesLong) (m_tokenAt) (m_tokenLong) (m_token) (m_value) (m_anew) (m_values) (mF) (K0) (mo) (bb0) (i0__2) (e0) (by first | exact y0_ | exact bpA_mono y0_ (by omega) | assumption) (by first | exact y1_ | exact bd_mono y1_ (by omega) (by omega) | assumption) (by first | exact rbb0 | assumption | omega) (by first | assumption | omega) (by first | exact re0 | assumption | omega) (by first | exact hb0 | assumption | omega) (by first | assumption | omega) (by first | exact he | assumption | omega) (by first | exact hK0 | assumption | omega) _) (cwV 3 hts gX11_rests_X11_getsBy rfl rfl rfl (by decide +kernel) ⟨Nat.le_of_ble_eq_true rfl, Nat.le_of_ble_eq_true rfl⟩) (g_preV m0 [.int (iI bb0), .int (iI i0__2), .int (iI e0)] hP hD hK hN hS hA hZ [0, 1, 2] rfl rfl 0 (ci := 10) rfl rfl) rfl rfl hl.1 rfl (lv_room (Nat.le_of_ble_eq_true rfl)) dX11_rests_24 ⟨Nat.le_of_ble_eq_true rfl, Nat.le_of_ble_eq_true rfl⟩) hP hD hS hA [0, 1, 2] [] rfl rfl rfl (by decide) (fun r_10 u H locs hw hP hD hS => ?_)
      refine ea_1_3 hw (fun rr_11 k_12 e8_0 e8_1 => ?_)
      subst e8_0
      subst e8_1
      clear hw
      have hPD : PD G A H [(m0, .inr (10, [.ref m_all, .ref m_kept, .ref m_isKept, .ref m_refused, .long (lI m_above), .long (lI m_below), .ref m_hand, .ref m_fewest, .ref m_whoBites, .ref m_leaves, .ref m_bestFeast, .ref m_tells, .ref m_hardOn, .ref m_bytes, .int (iI m_bytesLong), .int (iI m_tokenAt), .int (iI m_tokenLong), .int (iI m_token), .int (iI m_value), .ref m_anew, .ref m_values])), (m_all, .inl (G.2 0, 311, .inl (cI mF))), (m_hardOn, .inl (G.2 0, 10, .inl (cI mo)))] := ⟨hP, hD⟩
      have hP := hPD.1
      have hD := hPD.2
      clear hPD
      refine lv_aload_n hx hb dX11_rests_27 rfl (lv_at hl 2 rfl) ?_
      refine lv_iload_n hx hb dX11_rests_28 rfl (lv_at hl 3 rfl) ?_
      refine lv_iload_n hx hb dX11_rests_29 rfl (lv_at hl 5 rfl) ?_
      refine lv_iload hx hb dX11_rests_30 (lv_at hl 6 rfl) ?_
      refine g_calli (wr := []) (va_runV (As := [.int (iI bb0), .int (iI d0), .int (iI e0)]) (rest := [.int (iI rr_11)]) ⟨hx, hb, hml, hown, hts⟩ (c_X11_getsBy l G (m0) (m_all) (m_kept) (m_isKept) (m_refused) (m_above) (m_below) (m_hand) (m_fewest) (m_whoBites) (m_leaves) (m_bestFeast) (m_tells) (m_hardOn) (m_bytes) (m_bytesLong) (m_tokenAt) (m_tokenLong) (m_token) (m_value) (m_anew) (m_values) (mF) (K0) (mo) (bb0) (d0) (e0) (by first | exact y0_ | exact bpA_mono y0_ (by omega) | assumption) (by first | exact y1_ | exact bd_mono y1_ (by omega) (by omega) | assumption) (by first | exact rbb0 | assumption | omega) (by first | exact rd0 | assumption | omega) (by first | exact re0 | assumption | omega) (by first | exact hb0 | assumption | omega) (by first | exact hd | assumption | omega) (by first | exact he | assumption | omega) (by first | exact hK0 | assumption | omega) _) (cwV 3 hts gX11_rests_X11_getsBy rfl rfl rfl (by decide +kernel) ⟨Nat.le_of_ble_eq_true rfl, Nat.le_of_ble_eq_true rfl⟩) (g_preV m0 [.int (iI bb0), .int (iI d0), .int (iI e0)] hP hD hK hN hS hA hZ [0, 1, 2] rfl rfl 0 (ci := 10) rfl rfl) rfl rfl hl.1 rfl (lv_room (Nat.le_of_ble_eq_true rfl)) dX11_rests_32 ⟨Nat.le_of_ble_eq_true rfl, Nat.le_of_ble_eq_true rfl⟩) hP hD hS hA [0, 1, 2] [] rfl rfl rfl (by decide) (fun r_13 u H locs hw hP hD hS => ?_)
      refine ea_1_3 hw (fun rr_14 k_15 e8_0 e8_1 => ?_)
      subst e8_0
      subst e8_1
      clear hw
      have hPD : PD G A H [(m0, .inr (10, [.ref m_all, .ref m_kept, .ref m_isKept, .ref m_refused, .long (lI m_above), .long (lI m_below), .ref m_hand, .ref m_fewest, .ref m_whoBites, .ref m_leaves, .ref m_bestFeast, .ref m_tells, .ref m_hardOn, .ref m_bytes, .int (iI m_bytesLong), .int (iI m_tokenAt), .int (iI m_tokenLong), .int (iI m_token), .int (iI m_value), .ref m_anew, .ref m_values])), (m_all, .inl (G.2 0, 311, .inl (cI mF))), (m_hardOn, .inl (G.2 0, 10, .inl (cI mo)))] := ⟨hP, hD⟩
      have hP := hPD.1
      have hD := hPD.2
      clear hPD
      refine g_joinH (jn := 62) (rest := []) (fun t_16 H locs ls => (t_16 = 0 ∨ t_16 = 1) ∧ va_P G.1 vwCl [(m0, .inr (10, [.ref m_all, .ref m_kept, .ref m_isKept, .ref m_refused, .long (lI m_above), .long (lI m_below), .ref m_hand, .ref m_fewest, .ref m_whoBites, .ref m_leaves, .ref m_bestFeast, .ref m_tells, .ref m_hardOn, .ref m_bytes, .int (iI m_bytesLong), .int (iI m_tokenAt), .int (iI m_tokenLong), .int (iI m_token), .int (iI m_value), .ref m_anew, .ref m_values])), (m_all, .inl (G.2 0, 311, .inl (cI mF))), (m_hardOn, .inl (G.2 0, 10, .inl (cI mo)))] H ∧ va_D A [(m0, .inr (10, [.ref m_all, .ref m_kept, .ref m_isKept, .ref m_refused, .long (lI m_above), .long (lI m_below), .ref m_hand, .ref m_fewest, .ref m_whoBites, .ref m_leaves, .ref m_bestFeast, .ref m_tells, .ref m_hardOn, .ref m_bytes, .int (iI m_bytesLong), .int (iI m_tokenAt), .int (iI m_tokenLong), .int (iI m_token), .int (iI m_value), .ref m_anew, .ref m_values])), (m_all, .inl (G.2 0, 311, .inl (cI mF))), (m_hardOn, .inl (G.2 0, 10, .inl (cI mo)))] ∧ va_S A s.heap H locs ∧ lv_has ls 7 [(6, .int (iI i0__2)), (5, .int (iI s0__1)), (0, .ref m0), (1, .int (iI bb0)), (2, .int (iI c0)), (3, .int (iI d0)), (4, .int (iI e0))]) (fun t_16 H locs ls hI => ?_) (fun hJ_17 => ?_)
      · obtain ⟨f_18, hP, hD, hS, hl⟩ := hI
        refine lv_istore (lv' := [(5, .int (iI t_16)), (6, .int (iI i0__2)), (0, .ref m0), (1, .int (iI bb0)), (2, .int (iI c0)), (3, .int (iI d0)), (4, .int (iI e0))]) hx hb dX11_rests_62 hl (by decide) rfl (fun ls hl => ?_)
        refine lv_iinc (v := iI (i0__2 + 1)) (lv' := [(6, .int (iI (i0__2 + 1))), (5, .int (iI t_16)), (0, .ref m0), (1, .int (iI bb0)), (2, .int (iI c0)), (3, .int (iI d0)), (4, .int (iI e0))]) hx hb dX11_rests_64 hl (k := 1) rfl (iI_add i0__2 1) (by decide) rfl (fun ls hl => ?_)
        refine lv_goto (tgt := 6) hx hb dX11_rests_67 (by decide) ?_
        exact ih_5 _ _ _ _ (by omega) ⟨t_16, (i0__2 + 1), (by first | assumption | omega), (by first | assumption | omega), rfl, hP, hD, hS, lv_sub hl [0, 1, 2, 3, 4, 5, 6] rfl⟩
      · refine lv_icmp_gt (tgt := 61) hx hb dX11_rests_35 (by decide) (fun c_19 => ?_) (fun c_19 => ?_)
        · have c_19 := (iI_lt (a := rr_14) (b := rr_11) (by omega) (by omega)).mp c_19
          refine lv_iconst (v := iI 0) hx hb dX11_rests_61 rfl ?_
          exact hJ_17 0 H locs ls ⟨by omega, hP, hD, hS, lv_sub hl [0, 1, 2, 3, 4, 5, 6] rfl⟩
        · have c_19 : ¬ (rr_14 < rr_11) := fun h9 => c_19 ((iI_lt (a := rr_14) (b := rr_11) (by omega) (by omega)).mpr h9)
          refine lv_aload_n hx hb dX11_rests_38 rfl (lv_at hl 2 rfl) ?_
          refine lv_iload_n hx hb dX11_rests_39 rfl (lv_at hl 4 rfl) ?_
          refine lv_iload hx hb dX11_rests_40 (lv_at hl 0 rfl) ?_
          refine lv_iload_n hx hb dX11_rests_42 rfl (lv_at hl 5 rfl) ?_
          refine g_calli (wr := []) (va_runV (As := [.int (iI c0), .int (iI i0__2), .int (iI d0)]) (rest := []) ⟨hx, hb, hml, hown, hts⟩ (c_X11_getsBy l G (m0) (m_all) (m_kept) (m_isKept) (m_refused) (m_above) (m_below) (m_hand) (m_fewest) (m_whoBites) (m_leaves) (m_bestFeast) (m_tells) (m_hardOn) (m_bytes) (m_bytesLong) (m_tokenAt) (m_tokenLong) (m_token) (m_value) (m_anew) (m_values) (mF) (K0) (mo) (c0) (i0__2) (d0) (by first | exact y0_ | exact bpA_mono y0_ (by omega) | assumption) (by first | exact y1_ | exact bd_mono y1_ (by omega) (by omega) | assumption) (by first | exact rc0 | assumption | omega) (by first | assumption | omega) (by first | exact rd0 | assumption | omega) (by first | exact hc | assumption | omega) (by first | assumption | omega) (by first | exact hd | assumption | omega) (by first | exact hK0 | assumption | omega) _) (cwV 3 hts gX11_rests_X11_getsBy rfl rfl rfl (by decide +kernel) ⟨Nat.le_of_ble_eq_true rfl, Nat.le_of_ble_eq_true rfl⟩) (g_preV m0 [.int (iI c0), .int (iI i0__2), .int (iI d0)] hP hD hK hN hS hA hZ [0, 1, 2] rfl rfl 0 (ci := 10) rfl rfl) rfl rfl hl.1 rfl (lv_room (Nat.le_of_ble_eq_true rfl)) dX11_rests_43 ⟨Nat.le_of_ble_eq_true rfl, Nat.le_of_ble_eq_true rfl⟩) hP hD hS hA [0, 1, 2] [] rfl rfl rfl (by decide) (fun r_20 u H locs hw hP hD hS => ?_)
          refine ea_1_3 hw (fun rr_21 k_22 e8_0 e8_1 => ?_)
          subst e8_0
          subst e8_1
          clear hw
          have hPD : PD G A H [(m0, .inr (10, [.ref m_all, .ref m_kept, .ref m_isKept, .ref m_refused, .long (lI m_above), .long (lI m_below), .ref m_hand, .ref m_fewest, .ref m_whoBites, .ref m_leaves, .ref m_bestFeast, .ref m_tells, .ref m_hardOn, .ref m_bytes, .int (iI m_bytesLong), .int (iI m_tokenAt), .int (iI m_tokenLong), .int (iI m_token), .int (iI m_value), .ref m_anew, .ref m_values])), (m_all, .inl (G.2 0, 311, .inl (cI mF))), (m_hardOn, .inl (G.2 0, 10, .inl (cI mo)))] := ⟨hP, hD⟩
          have hP := hPD.1
          have hD := hPD.2
          clear hPD
          refine lv_aload_n hx hb dX11_rests_46 rfl (lv_at hl 2 rfl) ?_
          refine lv_iload_n hx hb dX11_rests_47 rfl (lv_at hl 4 rfl) ?_
          refine lv_iload hx hb dX11_rests_48 (lv_at hl 6 rfl) ?_
          refine lv_iload_n hx hb dX11_rests_50 rfl (lv_at hl 5 rfl) ?_
          refine g_calli (wr := []) (va_runV (As := [.int (iI c0), .int (iI e0), .int (iI d0)]) (rest := [.int (iI rr_21)]) ⟨hx, hb, hml, hown, hts⟩ (c_X11_getsBy l G (m0) (m_all) (m_kept) (m_isKept) (m_refused) (m_above) (m_below) (m_hand) (m_fewest) (m_whoBites) (m_leaves) (m_bestFeast) (m_tells) (m_hardOn) (m_bytes) (m_bytesLong) (m_tokenAt) (m_tokenLong) (m_token) (m_value) (m_anew) (m_values) (mF) (K0) (mo) (c0) (e0) (d0) (by first | exact y0_ | exact bpA_mono y0_ (by omega) | assumption) (by first | exact y1_ | exact bd_mono y1_ (by omega) (by omega) | assumption) (by first | exact rc0 | assumption | omega) (by first | exact re0 | assumption | omega) (by first | exact rd0 | assumption | omega) (by first | exact hc | assumption | omega) (by first | exact he | assumption | omega) (by first | exact hd | assumption | omega) (by first | exact hK0 | assumption | omega) _) (cwV 3 hts gX11_rests_X11_getsBy rfl rfl rfl (by decide +kernel) ⟨Nat.le_of_ble_eq_true rfl, Nat.le_of_ble_eq_true rfl⟩) (g_preV m0 [.int (iI c0), .int (iI e0), .int (iI d0)] hP hD hK hN hS hA hZ [0, 1, 2] rfl rfl 0 (ci := 10) rfl rfl) rfl rfl hl.1 rfl (lv_room (Nat.le_of_ble_eq_true rfl)) dX11_rests_51 ⟨Nat.le_of_ble_eq_true rfl, Nat.le_of_ble_eq_true rfl⟩) hP hD hS hA [0, 1, 2] [] rfl rfl rfl (by decide) (fun r_23 u H locs hw hP hD hS => ?_)
          refine ea_1_3 hw (fun rr_24 k_25 e8_0 e8_1 => ?_)
          subst e8_0
          subst e8_1
          clear hw
          have hPD : PD G A H [(m0, .inr (10, [.ref m_all, .ref m_kept, .ref m_isKept, .ref m_refused, .long (lI m_above), .long (lI m_below), .ref m_hand, .ref m_fewest, .ref m_whoBites, .ref m_leaves, .ref m_bestFeast, .ref m_tells, .ref m_hardOn, .ref m_bytes, .int (iI m_bytesLong), .int (iI m_tokenAt), .int (iI m_tokenLong), .int (iI m_token), .int (iI m_value), .ref m_anew, .ref m_values])), (m_all, .inl (G.2 0, 311, .inl (cI mF))), (m_hardOn, .inl (G.2 0, 10, .inl (cI mo)))] := ⟨hP, hD⟩
          have hP := hPD.1
          have hD := hPD.2
          clear hPD
          refine g_join (jn := 62) (rest := []) (fun t_26 ls => ((rr_24 < rr_21 ∧ t_26 = 0) ∨ (¬ (rr_24 < rr_21) ∧ t_26 = 1)) ∧ lv_has ls 7 [(6, .int (iI i0__2)), (5, .int (iI s0__1)), (0, .ref m0), (1, .int (iI bb0)), (2, .int (iI c0)), (3, .int (iI d0)), (4, .int (iI e0))]) (fun t_26 ls hI => ?_) (fun hJ_27 => ?_)
          · obtain ⟨f_28, hl⟩ := hI
            exact hJ_17 t_26 H locs ls ⟨by omega, hP, hD, hS, lv_sub hl [0, 1, 2, 3, 4, 5, 6] rfl⟩
          · refine lv_icmp_gt (tgt := 61) hx hb dX11_rests_54 (by decide) (fun c_29 => ?_) (fun c_29 => ?_)
            · have c_29 := (iI_lt (a := rr_24) (b := rr_21) (by omega) (by omega)).mp c_29
              refine lv_iconst (v := iI 0) hx hb dX11_rests_61 rfl ?_
              exact hJ_27 0 ls ⟨by omega, lv_sub hl [0, 1, 2, 3, 4, 5, 6] rfl⟩
            · have c_29 : ¬ (rr_24 < rr_21) := fun h9 => c_29 ((iI_lt (a := rr_24) (b := rr_21) (by omega) (by omega)).mpr h9)
              refine lv_iconst (v := iI 1) hx hb dX11_rests_57 rfl ?_
              refine lv_goto (tgt := 62) hx hb dX11_rests_58 (by decide) ?_
              exact hJ_27 1 ls ⟨by omega, lv_sub hl [0, 1, 2, 3, 4, 5, 6] rfl⟩
theorem dX11_pair_0 : decode cX11_pair 0 = .ok (.aload_n 0, 1) := kd_42 (by decide +kernel)
theorem dX11_pair_1 : decode cX11_pair 1 = .ok (.iload_n 1, 1) := kd_27 (by decide +kernel)
theorem gX11_pair_X11_isBiter : GoodIn wsX11_pair (wsV RX11 143 RX11 yX11_isBiter wsX11_isBiter) := gW_V (in_r25 (List.mem_of_getElem? (i := 5) rfl)) (in_r25 (List.mem_of_getElem? (i := 6) rfl)) (in_r25 (List.mem_of_getElem? (i := 7) rfl)) (in_r1 (List.mem_of_getElem? (i := 5) rfl)) (in_r25 (List.mem_of_getElem? (i := 8) rfl))
theorem dX11_pair_2 : decode cX11_pair 2 = .ok (.invokevirtual 143, 3) := kd_182 (a := 0) (b := 143) (by decide +kernel)
theorem dX11_pair_5 : decode cX11_pair 5 = .ok (.ifCond .eq 30, 3) := kd_153 (a := 0) (b := 30) (by decide +kernel)
theorem dX11_pair_8 : decode cX11_pair 8 = .ok (.aload_n 0, 1) := kd_42 (by decide +kernel)
theorem dX11_pair_9 : decode cX11_pair 9 = .ok (.iload_n 2, 1) := kd_28 (by decide +kernel)
theorem dX11_pair_10 : decode cX11_pair 10 = .ok (.invokevirtual 143, 3) := kd_182 (a := 0) (b := 143) (by decide +kernel)
theorem dX11_pair_13 : decode cX11_pair 13 = .ok (.ifCond .eq 22, 3) := kd_153 (a := 0) (b := 22) (by decide +kernel)
theorem dX11_pair_16 : decode cX11_pair 16 = .ok (.iload_n 1, 1) := kd_27 (by decide +kernel)
theorem dX11_pair_17 : decode cX11_pair 17 = .ok (.iload_n 2, 1) := kd_28 (by decide +kernel)
theorem dX11_pair_18 : decode cX11_pair 18 = .ok (.if_icmp .eq 17, 3) := kd_159 (a := 0) (b := 17) (by decide +kernel)
theorem dX11_pair_35 : decode cX11_pair 35 = .ok (.aload_n 0, 1) := kd_42 (by decide +kernel)
theorem dX11_pair_36 : decode cX11_pair 36 = .ok (.bipush (-10), 2) := kd_16 (a := 246) (by decide +kernel)
theorem gX11_pair_X11_bad : GoodIn wsX11_pair (wsV RX11 79 RX11 yX11_bad wsX11_bad) := gW_V (in_r8 (List.mem_of_getElem? (i := 16) rfl)) (in_r8 (List.mem_of_getElem? (i := 17) rfl)) (in_r8 (List.mem_of_getElem? (i := 18) rfl)) (in_r1 (List.mem_of_getElem? (i := 5) rfl)) (in_r8 (List.mem_of_getElem? (i := 19) rfl))
theorem dX11_pair_38 : decode cX11_pair 38 = .ok (.invokevirtual 79, 3) := kd_182 (a := 0) (b := 79) (by decide +kernel)
theorem dX11_pair_41 : decode cX11_pair 41 = .ok (.ireturn, 1) := kd_172 (by decide +kernel)
theorem dX11_pair_21 : decode cX11_pair 21 = .ok (.aload_n 0, 1) := kd_42 (by decide +kernel)
theorem dX11_pair_22 : decode cX11_pair 22 = .ok (.iload_n 3, 1) := kd_29 (by decide +kernel)
theorem gX11_pair_X11_isApple : GoodIn wsX11_pair (wsV RX11 146 RX11 yX11_isApple wsX11_isApple) := gW_V (in_r25 (List.mem_of_getElem? (i := 9) rfl)) (in_r25 (List.mem_of_getElem? (i := 10) rfl)) (in_r25 (List.mem_of_getElem? (i := 11) rfl)) (in_r1 (List.mem_of_getElem? (i := 5) rfl)) (in_r25 (List.mem_of_getElem? (i := 12) rfl))
theorem dX11_pair_23 : decode cX11_pair 23 = .ok (.invokevirtual 146, 3) := kd_182 (a := 0) (b := 146) (by decide +kernel)
theorem dX11_pair_26 : decode cX11_pair 26 = .ok (.ifCond .eq 9, 3) := kd_153 (a := 0) (b := 9) (by decide +kernel)
theorem dX11_pair_29 : decode cX11_pair 29 = .ok (.iload 4, 2) := kd_21 (a := 4) (by decide +kernel)
theorem dX11_pair_31 : decode cX11_pair 31 = .ok (.iconst (-1), 1) := kd_2 (by decide +kernel)
theorem dX11_pair_32 : decode cX11_pair 32 = .ok (.if_icmp .ge 10, 3) := kd_162 (a := 0) (b := 10) (by decide +kernel)
theorem dX11_pair_42 : decode cX11_pair 42 = .ok (.iconst 0, 1) := kd_3 (by decide +kernel)
theorem dX11_pair_43 : decode cX11_pair 43 = .ok (.istore 5, 2) := kd_54 (a := 5) (by decide +kernel)
theorem dX11_pair_45 : decode cX11_pair 45 = .ok (.iconst 0, 1) := kd_3 (by decide +kernel)
theorem dX11_pair_46 : decode cX11_pair 46 = .ok (.istore 6, 2) := kd_54 (a := 6) (by decide +kernel)
theorem dX11_pair_48 : decode cX11_pair 48 = .ok (.iload 6, 2) := kd_21 (a := 6) (by decide +kernel)
theorem dX11_pair_50 : decode cX11_pair 50 = .ok (.bipush 10, 2) := kd_16 (a := 10) (by decide +kernel)
theorem dX11_pair_52 : decode cX11_pair 52 = .ok (.if_icmp .ge 23, 3) := kd_162 (a := 0) (b := 23) (by decide +kernel)
theorem dX11_pair_75 : decode cX11_pair 75 = .ok (.iconst 0, 1) := kd_3 (by decide +kernel)
theorem dX11_pair_76 : decode cX11_pair 76 = .ok (.istore 6, 2) := kd_54 (a := 6) (by decide +kernel)
theorem dX11_pair_78 : decode cX11_pair 78 = .ok (.iload 6, 2) := kd_21 (a := 6) (by decide +kernel)
theorem dX11_pair_80 : decode cX11_pair 80 = .ok (.bipush 100, 2) := kd_16 (a := 100) (by decide +kernel)
theorem dX11_pair_82 : decode cX11_pair 82 = .ok (.if_icmp .ge 41, 3) := kd_162 (a := 0) (b := 41) (by decide +kernel)
theorem dX11_pair_123 : decode cX11_pair 123 = .ok (.iload 4, 2) := kd_21 (a := 4) (by decide +kernel)
theorem dX11_pair_125 : decode cX11_pair 125 = .ok (.iconst (-1), 1) := kd_2 (by decide +kernel)
theorem dX11_pair_126 : decode cX11_pair 126 = .ok (.if_icmp .ne 8, 3) := kd_160 (a := 0) (b := 8) (by decide +kernel)
theorem dX11_pair_134 : decode cX11_pair 134 = .ok (.bipush (-5), 2) := kd_16 (a := 251) (by decide +kernel)
theorem dX11_pair_136 : decode cX11_pair 136 = .ok (.ireturn, 1) := kd_172 (by decide +kernel)
theorem dX11_pair_129 : decode cX11_pair 129 = .ok (.iload 5, 2) := kd_21 (a := 5) (by decide +kernel)
theorem dX11_pair_131 : decode cX11_pair 131 = .ok (.goto 5, 3) := kd_167 (a := 0) (b := 5) (by decide +kernel)
theorem dX11_pair_85 : decode cX11_pair 85 = .ok (.aload_n 0, 1) := kd_42 (by decide +kernel)
theorem dX11_pair_86 : decode cX11_pair 86 = .ok (.iload_n 1, 1) := kd_27 (by decide +kernel)
theorem dX11_pair_87 : decode cX11_pair 87 = .ok (.iload_n 2, 1) := kd_28 (by decide +kernel)
theorem dX11_pair_88 : decode cX11_pair 88 = .ok (.iload 6, 2) := kd_21 (a := 6) (by decide +kernel)
theorem dX11_pair_90 : decode cX11_pair 90 = .ok (.bipush 10, 2) := kd_16 (a := 10) (by decide +kernel)
theorem dX11_pair_92 : decode cX11_pair 92 = .ok (.idiv, 1) := kd_108 (by decide +kernel)
theorem dX11_pair_93 : decode cX11_pair 93 = .ok (.iload 6, 2) := kd_21 (a := 6) (by decide +kernel)
theorem dX11_pair_95 : decode cX11_pair 95 = .ok (.bipush 10, 2) := kd_16 (a := 10) (by decide +kernel)
theorem dX11_pair_97 : decode cX11_pair 97 = .ok (.irem, 1) := kd_112 (by decide +kernel)
theorem gX11_pair_X11_rests : GoodIn wsX11_pair (wsV RX11 203 RX11 yX11_rests wsX11_rests) := gW_V (in_r38 (List.mem_of_getElem? (i := 7) rfl)) (in_r38 (List.mem_of_getElem? (i := 8) rfl)) (in_r38 (List.mem_of_getElem? (i := 9) rfl)) (in_r1 (List.mem_of_getElem? (i := 5) rfl)) (in_r38 (List.mem_of_getElem? (i := 10) rfl))
theorem dX11_pair_98 : decode cX11_pair 98 = .ok (.invokevirtual 203, 3) := kd_182 (a := 0) (b := 203) (by decide +kernel)
theorem dX11_pair_101 : decode cX11_pair 101 = .ok (.ifCond .eq 16, 3) := kd_153 (a := 0) (b := 16) (by decide +kernel)
theorem dX11_pair_117 : decode cX11_pair 117 = .ok (.iinc 6 1, 3) := kd_132 (a := 6) (b := 1) (by decide +kernel)
theorem dX11_pair_120 : decode cX11_pair 120 = .ok (.goto (-42), 3) := kd_167 (a := 255) (b := 214) (by decide +kernel)
theorem dX11_pair_104 : decode cX11_pair 104 = .ok (.iload 5, 2) := kd_21 (a := 5) (by decide +kernel)
theorem dX11_pair_106 : decode cX11_pair 106 = .ok (.iload 4, 2) := kd_21 (a := 4) (by decide +kernel)
theorem dX11_pair_108 : decode cX11_pair 108 = .ok (.if_icmp .ne 6, 3) := kd_160 (a := 0) (b := 6) (by decide +kernel)
theorem dX11_pair_114 : decode cX11_pair 114 = .ok (.iinc 5 1, 3) := kd_132 (a := 5) (b := 1) (by decide +kernel)
theorem dX11_pair_111 : decode cX11_pair 111 = .ok (.iload 6, 2) := kd_21 (a := 6) (by decide +kernel)
theorem dX11_pair_113 : decode cX11_pair 113 = .ok (.ireturn, 1) := kd_172 (by decide +kernel)
theorem dX11_pair_55 : decode cX11_pair 55 = .ok (.aload_n 0, 1) := kd_42 (by decide +kernel)
theorem dX11_pair_56 : decode cX11_pair 56 = .ok (.getfield 45, 3) := kd_180 (a := 0) (b := 45) (by decide +kernel)
theorem dX11_pair_59 : decode cX11_pair 59 = .ok (.iload 6, 2) := kd_21 (a := 6) (by decide +kernel)
theorem dX11_pair_61 : decode cX11_pair 61 = .ok (.aload_n 0, 1) := kd_42 (by decide +kernel)
theorem dX11_pair_62 : decode cX11_pair 62 = .ok (.iload_n 3, 1) := kd_29 (by decide +kernel)
theorem dX11_pair_63 : decode cX11_pair 63 = .ok (.iload 6, 2) := kd_21 (a := 6) (by decide +kernel)
theorem gX11_pair_X11_hardBehind : GoodIn wsX11_pair (wsV RX11 165 RX11 yX11_hardBehind wsX11_hardBehind) := gW_V (in_r28 (List.mem_of_getElem? (i := 0) rfl)) (in_r28 (List.mem_of_getElem? (i := 1) rfl)) (in_r28 (List.mem_of_getElem? (i := 2) rfl)) (in_r1 (List.mem_of_getElem? (i := 5) rfl)) (in_r28 (List.mem_of_getElem? (i := 3) rfl))
theorem dX11_pair_65 : decode cX11_pair 65 = .ok (.invokevirtual 165, 3) := kd_182 (a := 0) (b := 165) (by decide +kernel)
theorem dX11_pair_68 : decode cX11_pair 68 = .ok (.iastore, 1) := kd_79 (by decide +kernel)
theorem dX11_pair_69 : decode cX11_pair 69 = .ok (.iinc 6 1, 3) := kd_132 (a := 6) (b := 1) (by decide +kernel)
theorem dX11_pair_72 : decode cX11_pair 72 = .ok (.goto (-24), 3) := kd_167 (a := 255) (b := 232) (by decide +kernel)
set_option maxHeartbeats 8000000 in
set_option maxRecDepth 100000 in
theorem c_X11_pair (l : Launch) (G : gG) (m0 : Nat) (m_all : Nat) (m_kept : Nat) (m_isKept : Nat) (m_refused : Nat) (m_above : Int) (m_below : Int) (m_hand : Nat) (m_fewest : Nat) (m_whoBites : Nat) (m_leaves : Nat) (m_bestFeast : Nat) (m_tells : Nat) (m_hardOn : Nat) (m_bytes : Nat) (m_bytesLong : Int) (m_tokenAt : Int) (m_tokenLong : Int) (m_token : Int) (m_value : Int) (m_anew : Nat) (m_values : Nat) (mF : Nat → Int) (K0 : Int) (mh : Nat → Int) (mr : Nat → Int) (mo : Nat → Int) (a1 : Int) (a2 : Int) (a3 : Int) (a4 : Int) (y0_ : bp (plA K0) mF) (y1_ : bd 0 20 mo) (ra1 : -2147483648 ≤ a1 ∧ a1 ≤ 2147483647) (ra2 : -2147483648 ≤ a2 ∧ a2 ≤ 2147483647) (ra3 : -2147483648 ≤ a3 ∧ a3 ≤ 2147483647) (ra4 : -2147483648 ≤ a4 ∧ a4 ≤ 2147483647) (hK0 : 1000 ≤ K0 ∧ K0 ≤ 1900000) (sz : Nat) : gI G l yX11_pair wsX11_pair ({ frames := 3, cells := 0, slots := 0, locals := 75 } : Room) [.ref m0, .int (iI a1), .int (iI a2), .int (iI a3), .int (iI a4)] [(m0, .inr (10, [.ref m_all, .ref m_kept, .ref m_isKept, .ref m_refused, .long (lI m_above), .long (lI m_below), .ref m_hand, .ref m_fewest, .ref m_whoBites, .ref m_leaves, .ref m_bestFeast, .ref m_tells, .ref m_hardOn, .ref m_bytes, .int (iI m_bytesLong), .int (iI m_tokenAt), .int (iI m_tokenLong), .int (iI m_token), .int (iI m_value), .ref m_anew, .ref m_values])), (m_all, .inl (G.2 0, 311, .inl (cI mF))), (m_hand, .inl (G.2 0, 56, .inl (cI mh))), (m_refused, .inl (G.2 0, 3, .inl (cI mr))), (m_hardOn, .inl (G.2 0, 10, .inl (cI mo)))] sz (fun (r : Int32) (u : va_W) => (∃ rr : Int, ∃ N_h : Nat → Int, ∃ N_r : Nat → Int, ∃ N_o : Nat → Int, (bd 0 20 N_o) ∧ r = (iI rr) ∧ u = [(m0, .inr (10, [.ref m_all, .ref m_kept, .ref m_isKept, .ref m_refused, .long (lI m_above), .long (lI m_below), .ref m_hand, .ref m_fewest, .ref m_whoBites, .ref m_leaves, .ref m_bestFeast, .ref m_tells, .ref m_hardOn, .ref m_bytes, .int (iI m_bytesLong), .int (iI m_tokenAt), .int (iI m_tokenLong), .int (iI m_token), .int (iI m_value), .ref m_anew, .ref m_values])), (m_all, .inl (G.2 0, 311, .inl (cI mF))), (m_hand, .inl (G.2 0, 56, .inl (cI N_h))), (m_refused, .inl (G.2 0, 3, .inl (cI N_r))), (m_hardOn, .inl (G.2 0, 10, .inl (cI N_o)))])) := by
  refine Met.ofW (cc := cX11_pair) (maxL := 7) (ret := (some .int)) (by decide) rfl ?_
  intro p e s m args below meth c s₁ B hml hv
  obtain ⟨rfl, hsz, hP, hK, hD0, hN, hZ⟩ := hv
  have hx := B.exec
  have hb := B.bytes
  have hr := B.returns
  have hts := atoms_spec (ws := wsX11_pair) B.pre
  have hown : s.vm.findClass RX11 = some m.cls := findClass_of_methodNamed B.named
  have hlocks := B.notSynchronized
  subst hsz
  have hD := hD0.self (sz := s.heap.size)
  generalize hAe : va_A [(m0, .inr (10, [.ref m_all, .ref m_kept, .ref m_isKept, .ref m_refused, .long (lI m_above), .long (lI m_below), .ref m_hand, .ref m_fewest, .ref m_whoBites, .ref m_leaves, .ref m_bestFeast, .ref m_tells, .ref m_hardOn, .ref m_bytes, .int (iI m_bytesLong), .int (iI m_tokenAt), .int (iI m_tokenLong), .int (iI m_token), .int (iI m_value), .ref m_anew, .ref m_values])), (m_all, .inl (G.2 0, 311, .inl (cI mF))), (m_hand, .inl (G.2 0, 56, .inl (cI mh))), (m_refused, .inl (G.2 0, 3, .inl (cI mr))), (m_hardOn, .inl (G.2 0, 10, .inl (cI mo)))] s.heap.size = A at hD hZ ⊢
  have hA : ∀ q : Nat, s.heap.size ≤ q → A q := fun q h => by rw [← hAe]; exact Or.inr h
  have hS : va_S A s.heap s.heap [] := va_S.rf
  have hP : va_P G.1 vwCl [(m0, .inr (10, [.ref m_all, .ref m_kept, .ref m_isKept, .ref m_refused, .long (lI m_above), .long (lI m_below), .ref m_hand, .ref m_fewest, .ref m_whoBites, .ref m_leaves, .ref m_bestFeast, .ref m_tells, .ref m_hardOn, .ref m_bytes, .int (iI m_bytesLong), .int (iI m_tokenAt), .int (iI m_tokenLong), .int (iI m_token), .int (iI m_value), .ref m_anew, .ref m_values])), (m_all, .inl (G.2 0, 311, .inl (cI mF))), (m_hand, .inl (G.2 0, 56, .inl (cI mh))), (m_refused, .inl (G.2 0, 3, .inl (cI mr))), (m_hardOn, .inl (G.2 0, 10, .inl (cI mo)))] s.heap := hP
  have hl := lv_entry ([.ref m0, .int (iI a1), .int (iI a2), .int (iI a3), .int (iI a4)]) (n := 7) (Nat.le_of_ble_eq_true rfl)
  rw [lg_entry_eq]
  generalize (lg_sl ([.ref m0, .int (iI a1), .int (iI a2), .int (iI a3), .int (iI a4)]) ++ List.replicate (7 - (lg_sl ([.ref m0, .int (iI a1), .int (iI a2), .int (iI a3), .int (iI a4)])).length) Slot.unset).toArray = ls at hl ⊢
  have hl : lv_has ls 7 [(0, .ref m0), (1, .int (iI a1)), (2, .int (iI a2)), (3, .int (iI a3)), (4, .int (iI a4))] := hl
  refine lv_aload_n hx hb dX11_pair_0 rfl (lv_at hl 0 rfl) ?_
  refine lv_iload_n hx hb dX11_pair_1 rfl (lv_at hl 1 rfl) ?_
  refine g_calli (wr := [(m_hand, .inl (G.2 0, 56, .inl (cI mh))), (m_refused, .inl (G.2 0, 3, .inl (cI mr))), (m_hardOn, .inl (G.2 0, 10, .inl (cI mo)))]) (va_runV (As := [.int (iI a1)]) (rest := []) ⟨hx, hb, hml, hown, hts⟩ (c_X11_isBiter l G (m0) (m_all) (m_kept) (m_isKept) (m_refused) (m_above) (m_below) (m_hand) (m_fewest) (m_whoBites) (m_leaves) (m_bestFeast) (m_tells) (m_hardOn) (m_bytes) (m_bytesLong) (m_tokenAt) (m_tokenLong) (m_token) (m_value) (m_anew) (m_values) (mF) (K0) (a1) (by first | exact y0_ | exact bpA_mono y0_ (by omega) | assumption) (by first | assumption | omega) (by first | exact ra1 | assumption | omega) _) (cwV 1 hts gX11_pair_X11_isBiter rfl rfl rfl (by decide +kernel) ⟨Nat.le_of_ble_eq_true rfl, Nat.le_of_ble_eq_true rfl⟩) (g_preV m0 [.int (iI a1)] hP hD hK hN hS hA hZ [0, 1] rfl rfl 0 (ci := 10) rfl rfl) rfl rfl hl.1 rfl (lv_room (Nat.le_of_ble_eq_true rfl)) dX11_pair_2 ⟨Nat.le_of_ble_eq_true rfl, Nat.le_of_ble_eq_true rfl⟩) hP hD hS hA [0, 1] [2, 3, 4] rfl rfl rfl (by decide) (fun r_1 u H locs hw hP hD hS => ?_)
  rcases hw with hw | hw
  · refine ea_0_4 hw (fun k_2 k_3 e8_0 e8_1 => ?_)
    subst e8_0
    subst e8_1
    clear hw
    have hPD : PD G A H [(m_hand, .inl (G.2 0, 56, .inl (cI mh))), (m_refused, .inl (G.2 0, 3, .inl (cI mr))), (m_hardOn, .inl (G.2 0, 10, .inl (cI mo))), (m0, .inr (10, [.ref m_all, .ref m_kept, .ref m_isKept, .ref m_refused, .long (lI m_above), .long (lI m_below), .ref m_hand, .ref m_fewest, .ref m_whoBites, .ref m_leaves, .ref m_bestFeast, .ref m_tells, .ref m_hardOn, .ref m_bytes, .int (iI m_bytesLong), .int (iI m_tokenAt), .int (iI m_tokenLong), .int (iI m_token), .int (iI m_value), .ref m_anew, .ref m_values])), (m_all, .inl (G.2 0, 311, .inl (cI mF)))] := ⟨hP, hD⟩
    have hP := hPD.1
    have hD := hPD.2
    clear hPD
    refine lv_if_eq (tgt := 35) hx hb dX11_pair_5 (by decide) (fun c_5 => g_no c_5 (by decide)) (fun _ => ?_)
    refine lv_aload_n hx hb dX11_pair_8 rfl (lv_at hl 0 rfl) ?_
    refine lv_iload_n hx hb dX11_pair_9 rfl (lv_at hl 2 rfl) ?_
    refine g_calli (wr := [(m_hand, .inl (G.2 0, 56, .inl (cI mh))), (m_refused, .inl (G.2 0, 3, .inl (cI mr))), (m_hardOn, .inl (G.2 0, 10, .inl (cI mo)))]) (va_runV (As := [.int (iI a2)]) (rest := []) ⟨hx, hb, hml, hown, hts⟩ (c_X11_isBiter l G (m0) (m_all) (m_kept) (m_isKept) (m_refused) (m_above) (m_below) (m_hand) (m_fewest) (m_whoBites) (m_leaves) (m_bestFeast) (m_tells) (m_hardOn) (m_bytes) (m_bytesLong) (m_tokenAt) (m_tokenLong) (m_token) (m_value) (m_anew) (m_values) (mF) (K0) (a2) (by first | exact y0_ | exact bpA_mono y0_ (by omega) | assumption) (by first | assumption | omega) (by first | exact ra2 | assumption | omega) _) (cwV 1 hts gX11_pair_X11_isBiter rfl rfl rfl (by decide +kernel) ⟨Nat.le_of_ble_eq_true rfl, Nat.le_of_ble_eq_true rfl⟩) (g_preV m0 [.int (iI a2)] hP hD hK hN hS hA hZ [3, 4] rfl rfl 3 (ci := 10) rfl rfl) rfl rfl hl.1 rfl (lv_room (Nat.le_of_ble_eq_true rfl)) dX11_pair_10 ⟨Nat.le_of_ble_eq_true rfl, Nat.le_of_ble_eq_true rfl⟩) hP hD hS hA [3, 4] [0, 1, 2] rfl rfl rfl (by decide) (fun r_6 u H locs hw hP hD hS => ?_)
    rcases hw with hw | hw
    · refine ea_0_4 hw (fun k_7 k_8 e8_0 e8_1 => ?_)
      subst e8_0
      subst e8_1
      clear hw
      have hPD : PD G A H [(m_hand, .inl (G.2 0, 56, .inl (cI mh))), (m_refused, .inl (G.2 0, 3, .inl (cI mr))), (m_hardOn, .inl (G.2 0, 10, .inl (cI mo))), (m0, .inr (10, [.ref m_all, .ref m_kept, .ref m_isKept, .ref m_refused, .long (lI m_above), .long (lI m_below), .ref m_hand, .ref m_fewest, .ref m_whoBites, .ref m_leaves, .ref m_bestFeast, .ref m_tells, .ref m_hardOn, .ref m_bytes, .int (iI m_bytesLong), .int (iI m_tokenAt), .int (iI m_tokenLong), .int (iI m_token), .int (iI m_value), .ref m_anew, .ref m_values])), (m_all, .inl (G.2 0, 311, .inl (cI mF)))] := ⟨hP, hD⟩
      have hP := hPD.1
      have hD := hPD.2
      clear hPD
      refine lv_if_eq (tgt := 35) hx hb dX11_pair_13 (by decide) (fun c_10 => g_no c_10 (by decide)) (fun _ => ?_)
      refine lv_iload_n hx hb dX11_pair_16 rfl (lv_at hl 1 rfl) ?_
      refine lv_iload_n hx hb dX11_pair_17 rfl (lv_at hl 2 rfl) ?_
      refine lv_icmp_eq (tgt := 35) hx hb dX11_pair_18 (by decide) (fun c_11 => ?_) (fun c_11 => ?_)
      · have c_11 := (iI_eq (a := a1) (b := a2) (by omega) (by omega)).mp c_11
        refine lv_aload_n hx hb dX11_pair_35 rfl (lv_at hl 0 rfl) ?_
        refine lv_bipush (v := iI (-10)) hx hb dX11_pair_36 (by decide) ?_
        refine g_calli (wr := [(m_hand, .inl (G.2 0, 56, .inl (cI mh))), (m_hardOn, .inl (G.2 0, 10, .inl (cI mo))), (m_all, .inl (G.2 0, 311, .inl (cI mF)))]) (va_runV (As := [.int (iI (-10))]) (rest := []) ⟨hx, hb, hml, hown, hts⟩ (c_X11_bad l G (m0) (m_all) (m_kept) (m_isKept) (m_refused) (m_above) (m_below) (m_hand) (m_fewest) (m_whoBites) (m_leaves) (m_bestFeast) (m_tells) (m_hardOn) (m_bytes) (m_bytesLong) (m_tokenAt) (m_tokenLong) (m_token) (m_value) (m_anew) (m_values) (mr) ((-10)) (by first | assumption | omega) _) (cwV 1 hts gX11_pair_X11_bad rfl rfl rfl (by decide +kernel) ⟨Nat.le_of_ble_eq_true rfl, Nat.le_of_ble_eq_true rfl⟩) (g_preV m0 [.int (iI (-10))] hP hD hK hN hS hA hZ [3, 1] rfl rfl 3 (ci := 10) rfl rfl) rfl rfl hl.1 rfl (lv_room (Nat.le_of_ble_eq_true rfl)) dX11_pair_38 ⟨Nat.le_of_ble_eq_true rfl, Nat.le_of_ble_eq_true rfl⟩) hP hD hS hA [3, 1] [0, 2, 4] rfl rfl rfl (by decide) (fun r_12 u H locs hw hP hD hS => ?_)
        obtain ⟨Nr_13, rfl, rfl⟩ := hw
        have hPD : PD G A H [(m_hand, .inl (G.2 0, 56, .inl (cI mh))), (m_hardOn, .inl (G.2 0, 10, .inl (cI mo))), (m_all, .inl (G.2 0, 311, .inl (cI mF))), (m0, .inr (10, [.ref m_all, .ref m_kept, .ref m_isKept, .ref m_refused, .long (lI m_above), .long (lI m_below), .ref m_hand, .ref m_fewest, .ref m_whoBites, .ref m_leaves, .ref m_bestFeast, .ref m_tells, .ref m_hardOn, .ref m_bytes, .int (iI m_bytesLong), .int (iI m_tokenAt), .int (iI m_tokenLong), .int (iI m_token), .int (iI m_value), .ref m_anew, .ref m_values])), (m_refused, .inl (G.2 0, 3, .inl (cI Nr_13)))] := ⟨hP, hD⟩
        have hP := hPD.1
        have hD := hPD.2
        clear hPD
        have hP := hP.sub (ws' := [(m0, .inr (10, [.ref m_all, .ref m_kept, .ref m_isKept, .ref m_refused, .long (lI m_above), .long (lI m_below), .ref m_hand, .ref m_fewest, .ref m_whoBites, .ref m_leaves, .ref m_bestFeast, .ref m_tells, .ref m_hardOn, .ref m_bytes, .int (iI m_bytesLong), .int (iI m_tokenAt), .int (iI m_tokenLong), .int (iI m_token), .int (iI m_value), .ref m_anew, .ref m_values])), (m_all, .inl (G.2 0, 311, .inl (cI mF))), (m_hand, .inl (G.2 0, 56, .inl (cI mh))), (m_refused, .inl (G.2 0, 3, .inl (cI Nr_13))), (m_hardOn, .inl (G.2 0, 10, .inl (cI mo)))]) [3, 2, 0, 4, 1] rfl
        have hD := hD.sub (ws' := [(m0, .inr (10, [.ref m_all, .ref m_kept, .ref m_isKept, .ref m_refused, .long (lI m_above), .long (lI m_below), .ref m_hand, .ref m_fewest, .ref m_whoBites, .ref m_leaves, .ref m_bestFeast, .ref m_tells, .ref m_hardOn, .ref m_bytes, .int (iI m_bytesLong), .int (iI m_tokenAt), .int (iI m_tokenLong), .int (iI m_token), .int (iI m_value), .ref m_anew, .ref m_values])), (m_all, .inl (G.2 0, 311, .inl (cI mF))), (m_hand, .inl (G.2 0, 56, .inl (cI mh))), (m_refused, .inl (G.2 0, 3, .inl (cI Nr_13))), (m_hardOn, .inl (G.2 0, 10, .inl (cI mo)))]) [3, 2, 0, 4, 1] rfl rfl
        exact g_iret (v := (iI (-10))) hx hb hr hlocks hP hD hS (⟨(-10), mh, Nr_13, mo, (by first | exact y1_ | exact bd_mono y1_ (by omega) (by omega) | assumption), rfl, rfl⟩) dX11_pair_41
      · have c_11 : ¬ (a1 = a2) := fun h9 => c_11 ((iI_eq (a := a1) (b := a2) (by omega) (by omega)).mpr h9)
        refine lv_aload_n hx hb dX11_pair_21 rfl (lv_at hl 0 rfl) ?_
        refine lv_iload_n hx hb dX11_pair_22 rfl (lv_at hl 3 rfl) ?_
        refine g_calli (wr := [(m_hand, .inl (G.2 0, 56, .inl (cI mh))), (m_refused, .inl (G.2 0, 3, .inl (cI mr))), (m_hardOn, .inl (G.2 0, 10, .inl (cI mo)))]) (va_runV (As := [.int (iI a3)]) (rest := []) ⟨hx, hb, hml, hown, hts⟩ (c_X11_isApple l G (m0) (m_all) (m_kept) (m_isKept) (m_refused) (m_above) (m_below) (m_hand) (m_fewest) (m_whoBites) (m_leaves) (m_bestFeast) (m_tells) (m_hardOn) (m_bytes) (m_bytesLong) (m_tokenAt) (m_tokenLong) (m_token) (m_value) (m_anew) (m_values) (mF) (K0) (a3) (by first | exact y0_ | exact bpA_mono y0_ (by omega) | assumption) (by first | assumption | omega) (by first | exact ra3 | assumption | omega) _) (cwV 1 hts gX11_pair_X11_isApple rfl rfl rfl (by decide +kernel) ⟨Nat.le_of_ble_eq_true rfl, Nat.le_of_ble_eq_true rfl⟩) (g_preV m0 [.int (iI a3)] hP hD hK hN hS hA hZ [3, 4] rfl rfl 3 (ci := 10) rfl rfl) rfl rfl hl.1 rfl (lv_room (Nat.le_of_ble_eq_true rfl)) dX11_pair_23 ⟨Nat.le_of_ble_eq_true rfl, Nat.le_of_ble_eq_true rfl⟩) hP hD hS hA [3, 4] [0, 1, 2] rfl rfl rfl (by decide) (fun r_14 u H locs hw hP hD hS => ?_)
        rcases hw with hw | hw
        · refine ea_0_4 hw (fun k_15 k_16 e8_0 e8_1 => ?_)
          subst e8_0
          subst e8_1
          clear hw
          have hPD : PD G A H [(m_hand, .inl (G.2 0, 56, .inl (cI mh))), (m_refused, .inl (G.2 0, 3, .inl (cI mr))), (m_hardOn, .inl (G.2 0, 10, .inl (cI mo))), (m0, .inr (10, [.ref m_all, .ref m_kept, .ref m_isKept, .ref m_refused, .long (lI m_above), .long (lI m_below), .ref m_hand, .ref m_fewest, .ref m_whoBites, .ref m_leaves, .ref m_bestFeast, .ref m_tells, .ref m_hardOn, .ref m_bytes, .int (iI m_bytesLong), .int (iI m_tokenAt), .int (iI m_tokenLong), .int (iI m_token), .int (iI m_value), .ref m_anew, .ref m_values])), (m_all, .inl (G.2 0, 311, .inl (cI mF)))] := ⟨hP, hD⟩
          have hP := hPD.1
          have hD := hPD.2
          clear hPD
          refine lv_if_eq (tgt := 35) hx hb dX11_pair_26 (by decide) (fun c_18 => g_no c_18 (by decide)) (fun _ => ?_)
          refine lv_iload hx hb dX11_pair_29 (lv_at hl 4 rfl) ?_
          refine lv_iconst (v := iI (-1)) hx hb dX11_pair_31 rfl ?_
          refine lv_icmp_ge (tgt := 42) hx hb dX11_pair_32 (by decide) (fun c_19 => ?_) (fun c_19 => ?_)
          · have c_19 := (iI_le (a := (-1)) (b := a4) (by first | decide | omega) (by omega)).mp c_19
            refine lv_iconst (v := iI 0) hx hb dX11_pair_42 rfl ?_
            refine lv_istore (lv' := [(5, .int (iI 0)), (0, .ref m0), (1, .int (iI a1)), (2, .int (iI a2)), (3, .int (iI a3)), (4, .int (iI a4))]) hx hb dX11_pair_43 hl (by decide) rfl (fun ls hl => ?_)
            refine lv_iconst (v := iI 0) hx hb dX11_pair_45 rfl ?_
            refine lv_istore (lv' := [(6, .int (iI 0)), (5, .int (iI 0)), (0, .ref m0), (1, .int (iI a1)), (2, .int (iI a2)), (3, .int (iI a3)), (4, .int (iI a4))]) hx hb dX11_pair_46 hl (by decide) rfl (fun ls hl => ?_)
            refine g_loopN (pc := 48) (fun nn H locs ls => ∃ i0__20 : Int, ∃ Eh_21 : Nat → Int, ∃ Eo_22 : Nat → Int, (0 ≤ i0__20 ∧ i0__20 ≤ 10) ∧ (bd 0 20 Eo_22) ∧ (10 - i0__20).toNat = nn ∧ va_P G.1 vwCl [(m_hand, .inl (G.2 0, 56, .inl (cI Eh_21))), (m_refused, .inl (G.2 0, 3, .inl (cI mr))), (m_hardOn, .inl (G.2 0, 10, .inl (cI Eo_22))), (m0, .inr (10, [.ref m_all, .ref m_kept, .ref m_isKept, .ref m_refused, .long (lI m_above), .long (lI m_below), .ref m_hand, .ref m_fewest, .ref m_whoBites, .ref m_leaves, .ref m_bestFeast, .ref m_tells, .ref m_hardOn, .ref m_bytes, .int (iI m_bytesLong), .int (iI m_tokenAt), .int (iI m_tokenLong), .int (iI m_token), .int (iI m_value), .ref m_anew, .ref m_values])), (m_all, .inl (G.2 0, 311, .inl (cI mF)))] H ∧ va_D A [(m_hand, .inl (G.2 0, 56, .inl (cI Eh_21))), (m_refused, .inl (G.2 0, 3, .inl (cI mr))), (m_hardOn, .inl (G.2 0, 10, .inl (cI Eo_22))), (m0, .inr (10, [.ref m_all, .ref m_kept, .ref m_isKept, .ref m_refused, .long (lI m_above), .long (lI m_below), .ref m_hand, .ref m_fewest, .ref m_whoBites, .ref m_leaves, .ref m_bestFeast, .ref m_tells, .ref m_hardOn, .ref m_bytes, .int (iI m_bytesLong), .int (iI m_tokenAt), .int (iI m_tokenLong), .int (iI m_token), .int (iI m_value), .ref m_anew, .ref m_values])), (m_all, .inl (G.2 0, 311, .inl (cI mF)))] ∧ va_S A s.heap H locs ∧ lv_has ls 7 [(6, .int (iI i0__20)), (5, .int (iI 0)), (0, .ref m0), (1, .int (iI a1)), (2, .int (iI a2)), (3, .int (iI a3)), (4, .int (iI a4))]) ?_ ⟨0, mh, mo, (by first | assumption | omega), (by first | exact y1_ | exact bd_mono y1_ (by omega) (by omega) | assumption), rfl, hP, hD, hS, lv_sub hl [0, 1, 2, 3, 4, 5, 6] rfl⟩
            intro nn_26 H locs ls ih_25 hI
            refine ea_3_7 hI (fun i0__20 Eh_21 Eo_22 f_23 f_24 hnn_27 hP hD hS hl => ?_)
            clear hI
            refine lv_iload hx hb dX11_pair_48 (lv_at hl 0 rfl) ?_
            refine lv_bipush (v := iI 10) hx hb dX11_pair_50 (by decide) ?_
            refine lv_icmp_ge (tgt := 75) hx hb dX11_pair_52 (by decide) (fun c_28 => ?_) (fun c_28 => ?_)
            · have c_28 := (iI_le (a := 10) (b := i0__20) (by first | decide | omega) (by omega)).mp c_28
              refine lv_iconst (v := iI 0) hx hb dX11_pair_75 rfl ?_
              refine lv_istore (lv' := [(6, .int (iI 0)), (5, .int (iI 0)), (0, .ref m0), (1, .int (iI a1)), (2, .int (iI a2)), (3, .int (iI a3)), (4, .int (iI a4))]) hx hb dX11_pair_76 hl (by decide) rfl (fun ls hl => ?_)
              refine g_loopN (pc := 78) (fun nn H locs ls => ∃ n0__29 : Int, ∃ i0__30 : Int, (0 ≤ i0__30 ∧ i0__30 ≤ 100) ∧ (0 ≤ n0__29 ∧ n0__29 ≤ i0__30) ∧ (100 - i0__30).toNat = nn ∧ va_P G.1 vwCl [(m_hand, .inl (G.2 0, 56, .inl (cI Eh_21))), (m_refused, .inl (G.2 0, 3, .inl (cI mr))), (m_hardOn, .inl (G.2 0, 10, .inl (cI Eo_22))), (m0, .inr (10, [.ref m_all, .ref m_kept, .ref m_isKept, .ref m_refused, .long (lI m_above), .long (lI m_below), .ref m_hand, .ref m_fewest, .ref m_whoBites, .ref m_leaves, .ref m_bestFeast, .ref m_tells, .ref m_hardOn, .ref m_bytes, .int (iI m_bytesLong), .int (iI m_tokenAt), .int (iI m_tokenLong), .int (iI m_token), .int (iI m_value), .ref m_anew, .ref m_values])), (m_all, .inl (G.2 0, 311, .inl (cI mF)))] H ∧ va_D A [(m_hand, .inl (G.2 0, 56, .inl (cI Eh_21))), (m_refused, .inl (G.2 0, 3, .inl (cI mr))), (m_hardOn, .inl (G.2 0, 10, .inl (cI Eo_22))), (m0, .inr (10, [.ref m_all, .ref m_kept, .ref m_isKept, .ref m_refused, .long (lI m_above), .long (lI m_below), .ref m_hand, .ref m_fewest, .ref m_whoBites, .ref m_leaves, .ref m_bestFeast, .ref m_tells, .ref m_hardOn, .ref m_bytes, .int (iI m_bytesLong), .int (iI m_tokenAt), .int (iI m_tokenLong), .int (iI m_token), .int (iI m_value), .ref m_anew, .ref m_values])), (m_all, .inl (G.2 0, 311, .inl (cI mF)))] ∧ va_S A s.heap H locs ∧ lv_has ls 7 [(6, .int (iI i0__30)), (5, .int (iI n0__29)), (0, .ref m0), (1, .int (iI a1)), (2, .int (iI a2)), (3, .int (iI a3)), (4, .int (iI a4))]) ?_ ⟨0, 0, (by first | assumption | omega), (by first | assumption | omega), rfl, hP, hD, hS, lv_sub hl [0, 1, 2, 3, 4, 5, 6] rfl⟩
              intro nn_34 H locs ls ih_33 hI
              refine ea_2_7 hI (fun n0__29 i0__30 f_31 f_32 hnn_35 hP hD hS hl => ?_)
              clear hI
              refine lv_iload hx hb dX11_pair_78 (lv_at hl 0 rfl) ?_
              refine lv_bipush (v := iI 100) hx hb dX11_pair_80 (by decide) ?_
              refine lv_icmp_ge (tgt := 123) hx hb dX11_pair_82 (by decide) (fun c_36 => ?_) (fun c_36 => ?_)
              · have c_36 := (iI_le (a := 100) (b := i0__30) (by first | decide | omega) (by omega)).mp c_36
                refine lv_iload hx hb dX11_pair_123 (lv_at hl 6 rfl) ?_
                refine lv_iconst (v := iI (-1)) hx hb dX11_pair_125 rfl ?_
                refine lv_icmp_ne (tgt := 134) hx hb dX11_pair_126 (by decide) (fun c_37 => ?_) (fun c_37 => ?_)
                · have c_37 : ¬ (a4 = (-1)) := fun h9 => c_37 ((iI_eq (a := a4) (b := (-1)) (by omega) (by first | decide | omega)).mpr h9)
                  refine lv_bipush (v := iI (-5)) hx hb dX11_pair_134 (by decide) ?_
                  have hP := hP.sub (ws' := [(m0, .inr (10, [.ref m_all, .ref m_kept, .ref m_isKept, .ref m_refused, .long (lI m_above), .long (lI m_below), .ref m_hand, .ref m_fewest, .ref m_whoBites, .ref m_leaves, .ref m_bestFeast, .ref m_tells, .ref m_hardOn, .ref m_bytes, .int (iI m_bytesLong), .int (iI m_tokenAt), .int (iI m_tokenLong), .int (iI m_token), .int (iI m_value), .ref m_anew, .ref m_values])), (m_all, .inl (G.2 0, 311, .inl (cI mF))), (m_hand, .inl (G.2 0, 56, .inl (cI Eh_21))), (m_refused, .inl (G.2 0, 3, .inl (cI mr))), (m_hardOn, .inl (G.2 0, 10, .inl (cI Eo_22)))]) [3, 4, 0, 1, 2] rfl
                  have hD := hD.sub (ws' := [(m0, .inr (10, [.ref m_all, .ref m_kept, .ref m_isKept, .ref m_refused, .long (lI m_above), .long (lI m_below), .ref m_hand, .ref m_fewest, .ref m_whoBites, .ref m_leaves, .ref m_bestFeast, .ref m_tells, .ref m_hardOn, .ref m_bytes, .int (iI m_bytesLong), .int (iI m_tokenAt), .int (iI m_tokenLong), .int (iI m_token), .int (iI m_value), .ref m_anew, .ref m_values])), (m_all, .inl (G.2 0, 311, .inl (cI mF))), (m_hand, .inl (G.2 0, 56, .inl (cI Eh_21))), (m_refused, .inl (G.2 0, 3, .inl (cI mr))), (m_hardOn, .inl (G.2 0, 10, .inl (cI Eo_22)))]) [3, 4, 0, 1, 2] rfl rfl
                  exact g_iret (v := (iI (-5))) hx hb hr hlocks hP hD hS (⟨(-5), Eh_21, mr, Eo_22, (by first | exact f_24 | exact bd_mono f_24 (by omega) (by omega) | assumption), rfl, rfl⟩) dX11_pair_136
                · have c_37 := (iI_eq (a := a4) (b := (-1)) (by omega) (by first | decide | omega)).mp c_37
                  refine lv_iload hx hb dX11_pair_129 (lv_at hl 1 rfl) ?_
                  refine lv_goto (tgt := 136) hx hb dX11_pair_131 (by decide) ?_
                  have hP := hP.sub (ws' := [(m0, .inr (10, [.ref m_all, .ref m_kept, .ref m_isKept, .ref m_refused, .long (lI m_above), .long (lI m_below), .ref m_hand, .ref m_fewest, .ref m_whoBites, .ref m_leaves, .ref m_bestFeast, .ref m_tells, .ref m_hardOn, .ref m_bytes, .int (iI m_bytesLong), .int (iI m_tokenAt), .int (iI m_tokenLong), .int (iI m_token), .int (iI m_value), .ref m_anew, .ref m_values])), (m_all, .inl (G.2 0, 311, .inl (cI mF))), (m_hand, .inl (G.2 0, 56, .inl (cI Eh_21))), (m_refused, .inl (G.2 0, 3, .inl (cI mr))), (m_hardOn, .inl (G.2 0, 10, .inl (cI Eo_22)))]) [3, 4, 0, 1, 2] rfl
                  have hD := hD.sub (ws' := [(m0, .inr (10, [.ref m_all, .ref m_kept, .ref m_isKept, .ref m_refused, .long (lI m_above), .long (lI m_below), .ref m_hand, .ref m_fewest, .ref m_whoBites, .ref m_leaves, .ref m_bestFeast, .ref m_tells, .ref m_hardOn, .ref m_bytes, .int (iI m_bytesLong), .int (iI m_tokenAt), .int (iI m_tokenLong), .int (iI m_token), .int (iI m_value), .ref m_anew, .ref m_values])), (m_all, .inl (G.2 0, 311, .inl (cI mF))), (m_hand, .inl (G.2 0, 56, .inl (cI Eh_21))), (m_refused, .inl (G.2 0, 3, .inl (cI mr))), (m_hardOn, .inl (G.2 0, 10, .inl (cI Eo_22)))]) [3, 4, 0, 1, 2] rfl rfl
                  exact g_iret (v := (iI n0__29)) hx hb hr hlocks hP hD hS (⟨n0__29, Eh_21, mr, Eo_22, (by first | exact f_24 | exact bd_mono f_24 (by omega) (by omega) | assumption), rfl, rfl⟩) dX11_pair_136
              · have c_36 : ¬ (100 ≤ i0__30) := fun h9 => c_36 ((iI_le (a := 100) (b := i0__30) (by first | decide | omega) (by omega)).mpr h9)
                refine lv_aload_n hx hb dX11_pair_85 rfl (lv_at hl 2 rfl) ?_
                refine lv_iload_n hx hb dX11_pair_86 rfl (lv_at hl 3 rfl) ?_
                refine lv_iload_n hx hb dX11_pair_87 rfl (lv_at hl 4 rfl) ?_
                refine lv_iload hx hb dX11_pair_88 (lv_at hl 0 rfl) ?_
                refine lv_bipush (v := iI 10) hx hb dX11_pair_90 (by decide) ?_
                refine lv_idiv hx hb dX11_pair_92 (iI_ne0 (by omega) (by omega)) ?_
                refine g_topi (y := iI (i0__30 / 10)) (iI_div (by omega) (by omega) (by omega) (by omega)) ?_
                refine lv_iload hx hb dX11_pair_93 (lv_at hl 0 rfl) ?_
                refine lv_bipush (v := iI 10) hx hb dX11_pair_95 (by decide) ?_
                refine lv_irem hx hb dX11_pair_97 (iI_ne0 (by omega) (by omega)) ?_
                refine g_topi (y := iI (i0__30 % 10)) (iI_rem2 (by omega) (by omega) (by omega) (by omega)) ?_
                refine g_calli (wr := [(m_hand, .inl (G.2 0, 56, .inl (cI Eh_21))), (m_refused, .inl (G.2 0, 3, .inl (cI mr)))]) (va_runV (As := [.int (iI a1), .int (iI a2), .int (iI (i0__30 / 10)), .int (iI (i0__30 % 10))]) (rest := []) ⟨hx, hb, hml, hown, hts⟩ (c_X11_rests l G (m0) (m_all) (m_kept) (m_isKept) (m_refused) (m_above) (m_below) (m_hand) (m_fewest) (m_whoBites) (m_leaves) (m_bestFeast) (m_tells) (m_hardOn) (m_bytes) (m_bytesLong) (m_tokenAt) (m_tokenLong) (m_token) (m_value) (m_anew) (m_values) (mF) (K0) (Eo_22) (a1) (a2) ((i0__30 / 10)) ((i0__30 % 10)) (by first | exact y0_ | exact bpA_mono y0_ (by omega) | assumption) (by first | exact f_24 | exact bd_mono f_24 (by omega) (by omega) | assumption) (by first | exact ra1 | assumption | omega) (by first | exact ra2 | assumption | omega) (by first | assumption | omega) (by first | assumption | omega) (by first | exact k_2 | assumption | omega) (by first | exact k_7 | assumption | omega) (by first | assumption | omega) (by first | assumption | omega) (by first | assumption | omega) _) (cwV 4 hts gX11_pair_X11_rests rfl rfl rfl (by decide +kernel) ⟨Nat.le_of_ble_eq_true rfl, Nat.le_of_ble_eq_true rfl⟩) (g_preV m0 [.int (iI a1), .int (iI a2), .int (iI (i0__30 / 10)), .int (iI (i0__30 % 10))] hP hD hK hN hS hA hZ [3, 4, 2] rfl rfl 3 (ci := 10) rfl rfl) rfl rfl hl.1 rfl (lv_room (Nat.le_of_ble_eq_true rfl)) dX11_pair_98 ⟨Nat.le_of_ble_eq_true rfl, Nat.le_of_ble_eq_true rfl⟩) hP hD hS hA [3, 4, 2] [0, 1] rfl rfl rfl (by decide) (fun r_38 u H locs hw hP hD hS => ?_)
                refine ea_1_3 hw (fun rr_39 k_40 e8_0 e8_1 => ?_)
                subst e8_0
                subst e8_1
                clear hw
                have hPD : PD G A H [(m_hand, .inl (G.2 0, 56, .inl (cI Eh_21))), (m_refused, .inl (G.2 0, 3, .inl (cI mr))), (m0, .inr (10, [.ref m_all, .ref m_kept, .ref m_isKept, .ref m_refused, .long (lI m_above), .long (lI m_below), .ref m_hand, .ref m_fewest, .ref m_whoBites, .ref m_leaves, .ref m_bestFeast, .ref m_tells, .ref m_hardOn, .ref m_bytes, .int (iI m_bytesLong), .int (iI m_tokenAt), .int (iI m_tokenLong), .int (iI m_token), .int (iI m_value), .ref m_anew, .ref m_values])), (m_all, .inl (G.2 0, 311, .inl (cI mF))), (m_hardOn, .inl (G.2 0, 10, .inl (cI Eo_22)))] := ⟨hP, hD⟩
                have hP := hPD.1
                have hD := hPD.2
                clear hPD
                refine lv_if_eq (tgt := 117) hx hb dX11_pair_101 (by decide) (fun c_41 => ?_) (fun c_41 => ?_)
                · have c_41 := (iI_eq (a := rr_39) (b := 0) (by omega) (by first | decide | omega)).mp c_41
                  refine lv_iinc (v := iI (i0__30 + 1)) (lv' := [(6, .int (iI (i0__30 + 1))), (5, .int (iI n0__29)), (0, .ref m0), (1, .int (iI a1)), (2, .int (iI a2)), (3, .int (iI a3)), (4, .int (iI a4))]) hx hb dX11_pair_117 hl (k := 0) rfl (iI_add i0__30 1) (by decide) rfl (fun ls hl => ?_)
                  refine lv_goto (tgt := 78) hx hb dX11_pair_120 (by decide) ?_
                  have hP := hP.sub (ws' := [(m_hand, .inl (G.2 0, 56, .inl (cI Eh_21))), (m_refused, .inl (G.2 0, 3, .inl (cI mr))), (m_hardOn, .inl (G.2 0, 10, .inl (cI Eo_22))), (m0, .inr (10, [.ref m_all, .ref m_kept, .ref m_isKept, .ref m_refused, .long (lI m_above), .long (lI m_below), .ref m_hand, .ref m_fewest, .ref m_whoBites, .ref m_leaves, .ref m_bestFeast, .ref m_tells, .ref m_hardOn, .ref m_bytes, .int (iI m_bytesLong), .int (iI m_tokenAt), .int (iI m_tokenLong), .int (iI m_token), .int (iI m_value), .ref m_anew, .ref m_values])), (m_all, .inl (G.2 0, 311, .inl (cI mF)))]) [0, 1, 4, 2, 3] rfl
                  have hD := hD.sub (ws' := [(m_hand, .inl (G.2 0, 56, .inl (cI Eh_21))), (m_refused, .inl (G.2 0, 3, .inl (cI mr))), (m_hardOn, .inl (G.2 0, 10, .inl (cI Eo_22))), (m0, .inr (10, [.ref m_all, .ref m_kept, .ref m_isKept, .ref m_refused, .long (lI m_above), .long (lI m_below), .ref m_hand, .ref m_fewest, .ref m_whoBites, .ref m_leaves, .ref m_bestFeast, .ref m_tells, .ref m_hardOn, .ref m_bytes, .int (iI m_bytesLong), .int (iI m_tokenAt), .int (iI m_tokenLong), .int (iI m_token), .int (iI m_value), .ref m_anew, .ref m_values])), (m_all, .inl (G.2 0, 311, .inl (cI mF)))]) [0, 1, 4, 2, 3] rfl rfl
                  exact ih_33 _ _ _ _ (by omega) ⟨n0__29, (i0__30 + 1), (by first | assumption | omega), (by first | assumption | omega), rfl, hP, hD, hS, lv_sub hl [0, 1, 2, 3, 4, 5, 6] rfl⟩
                · have c_41 : ¬ (rr_39 = 0) := fun h9 => c_41 ((iI_eq (a := rr_39) (b := 0) (by omega) (by first | decide | omega)).mpr h9)
                  refine lv_iload hx hb dX11_pair_104 (lv_at hl 1 rfl) ?_
                  refine lv_iload hx hb dX11_pair_106 (lv_at hl 6 rfl) ?_
                  refine lv_icmp_ne (tgt := 114) hx hb dX11_pair_108 (by decide) (fun c_42 => ?_) (fun c_42 => ?_)
                  · have c_42 : ¬ (n0__29 = a4) := fun h9 => c_42 ((iI_eq (a := n0__29) (b := a4) (by omega) (by omega)).mpr h9)
                    refine lv_iinc (v := iI (n0__29 + 1)) (lv' := [(5, .int (iI (n0__29 + 1))), (6, .int (iI i0__30)), (0, .ref m0), (1, .int (iI a1)), (2, .int (iI a2)), (3, .int (iI a3)), (4, .int (iI a4))]) hx hb dX11_pair_114 hl (k := 1) rfl (iI_add n0__29 1) (by decide) rfl (fun ls hl => ?_)
                    refine lv_iinc (v := iI (i0__30 + 1)) (lv' := [(6, .int (iI (i0__30 + 1))), (5, .int (iI (n0__29 + 1))), (0, .ref m0), (1, .int (iI a1)), (2, .int (iI a2)), (3, .int (iI a3)), (4, .int (iI a4))]) hx hb dX11_pair_117 hl (k := 1) rfl (iI_add i0__30 1) (by decide) rfl (fun ls hl => ?_)
                    refine lv_goto (tgt := 78) hx hb dX11_pair_120 (by decide) ?_
                    have hP := hP.sub (ws' := [(m_hand, .inl (G.2 0, 56, .inl (cI Eh_21))), (m_refused, .inl (G.2 0, 3, .inl (cI mr))), (m_hardOn, .inl (G.2 0, 10, .inl (cI Eo_22))), (m0, .inr (10, [.ref m_all, .ref m_kept, .ref m_isKept, .ref m_refused, .long (lI m_above), .long (lI m_below), .ref m_hand, .ref m_fewest, .ref m_whoBites, .ref m_leaves, .ref m_bestFeast, .ref m_tells, .ref m_hardOn, .ref m_bytes, .int (iI m_bytesLong), .int (iI m_tokenAt), .int (iI m_tokenLong), .int (iI m_token), .int (iI m_value), .ref m_anew, .ref m_values])), (m_all, .inl (G.2 0, 311, .inl (cI mF)))]) [0, 1, 4, 2, 3] rfl
                    have hD := hD.sub (ws' := [(m_hand, .inl (G.2 0, 56, .inl (cI Eh_21))), (m_refused, .inl (G.2 0, 3, .inl (cI mr))), (m_hardOn, .inl (G.2 0, 10, .inl (cI Eo_22))), (m0, .inr (10, [.ref m_all, .ref m_kept, .ref m_isKept, .ref m_refused, .long (lI m_above), .long (lI m_below), .ref m_hand, .ref m_fewest, .ref m_whoBites, .ref m_leaves, .ref m_bestFeast, .ref m_tells, .ref m_hardOn, .ref m_bytes, .int (iI m_bytesLong), .int (iI m_tokenAt), .int (iI m_tokenLong), .int (iI m_token), .int (iI m_value), .ref m_anew, .ref m_values])), (m_all, .inl (G.2 0, 311, .inl (cI mF)))]) [0, 1, 4, 2, 3] rfl rfl
                    exact ih_33 _ _ _ _ (by omega) ⟨(n0__29 + 1), (i0__30 + 1), (by first | assumption | omega), (by first | assumption | omega), rfl, hP, hD, hS, lv_sub hl [0, 1, 2, 3, 4, 5, 6] rfl⟩
                  · have c_42 := (iI_eq (a := n0__29) (b := a4) (by omega) (by omega)).mp c_42
                    refine lv_iload hx hb dX11_pair_111 (lv_at hl 0 rfl) ?_
                    have hP := hP.sub (ws' := [(m0, .inr (10, [.ref m_all, .ref m_kept, .ref m_isKept, .ref m_refused, .long (lI m_above), .long (lI m_below), .ref m_hand, .ref m_fewest, .ref m_whoBites, .ref m_leaves, .ref m_bestFeast, .ref m_tells, .ref m_hardOn, .ref m_bytes, .int (iI m_bytesLong), .int (iI m_tokenAt), .int (iI m_tokenLong), .int (iI m_token), .int (iI m_value), .ref m_anew, .ref m_values])), (m_all, .inl (G.2 0, 311, .inl (cI mF))), (m_hand, .inl (G.2 0, 56, .inl (cI Eh_21))), (m_refused, .inl (G.2 0, 3, .inl (cI mr))), (m_hardOn, .inl (G.2 0, 10, .inl (cI Eo_22)))]) [2, 3, 0, 1, 4] rfl
                    have hD := hD.sub (ws' := [(m0, .inr (10, [.ref m_all, .ref m_kept, .ref m_isKept, .ref m_refused, .long (lI m_above), .long (lI m_below), .ref m_hand, .ref m_fewest, .ref m_whoBites, .ref m_leaves, .ref m_bestFeast, .ref m_tells, .ref m_hardOn, .ref m_bytes, .int (iI m_bytesLong), .int (iI m_tokenAt), .int (iI m_tokenLong), .int (iI m_token), .int (iI m_value), .ref m_anew, .ref m_values])), (m_all, .inl (G.2 0, 311, .inl (cI mF))), (m_hand, .inl (G.2 0, 56, .inl (cI Eh_21))), (m_refused, .inl (G.2 0, 3, .inl (cI mr))), (m_hardOn, .inl (G.2 0, 10, .inl (cI Eo_22)))]) [2, 3, 0, 1, 4] rfl rfl
                    exact g_iret (v := (iI i0__30)) hx hb hr hlocks hP hD hS (⟨i0__30, Eh_21, mr, Eo_22, (by first | exact f_24 | exact bd_mono f_24 (by omega) (by omega) | assumption), rfl, rfl⟩) dX11_pair_113
            · have c_28 : ¬ (10 ≤ i0__20) := fun h9 => c_28 ((iI_le (a := 10) (b := i0__20) (by first | decide | omega) (by omega)).mpr h9)
              refine lv_aload_n hx hb dX11_pair_55 rfl (lv_at hl 2 rfl) ?_
              refine va_get (D := G.1) (ci := 10) (v := .ref m_hardOn) (C := RX11) (T := TX11) (N := 21) hx hb hts (fun _ h => List.mem_cons_of_mem _ (inlX11 _ h)) hown hK hP 3 rfl rfl 12 (by decide) (hts _ (List.mem_cons_of_mem _ (in_r6 (List.mem_of_getElem? (i := 11) rfl)))) (fun _ h9 => h9) rfl dX11_pair_56 ?_
              refine lv_iload hx hb dX11_pair_59 (lv_at hl 0 rfl) ?_
              refine lv_aload_n hx hb dX11_pair_61 rfl (lv_at hl 2 rfl) ?_
              refine lv_iload_n hx hb dX11_pair_62 rfl (lv_at hl 5 rfl) ?_
              refine lv_iload hx hb dX11_pair_63 (lv_at hl 0 rfl) ?_
              refine g_calli (wr := [(m_refused, .inl (G.2 0, 3, .inl (cI mr))), (m_hardOn, .inl (G.2 0, 10, .inl (cI Eo_22)))]) (va_runV (As := [.int (iI a3), .int (iI i0__20)]) (rest := [.int (iI i0__20), .ref m_hardOn]) ⟨hx, hb, hml, hown, hts⟩ (c_X11_hardBehind l G (m0) (m_all) (m_kept) (m_isKept) (m_refused) (m_above) (m_below) (m_hand) (m_fewest) (m_whoBites) (m_leaves) (m_bestFeast) (m_tells) (m_hardOn) (m_bytes) (m_bytesLong) (m_tokenAt) (m_tokenLong) (m_token) (m_value) (m_anew) (m_values) (mF) (K0) (Eh_21) (a3) (i0__20) (by first | exact y0_ | exact bpA_mono y0_ (by omega) | assumption) (by first | exact hK0 | assumption | omega) (by first | exact k_15 | assumption | omega) (by first | assumption | omega) _) (cwV 2 hts gX11_pair_X11_hardBehind rfl rfl rfl (by decide +kernel) ⟨Nat.le_of_ble_eq_true rfl, Nat.le_of_ble_eq_true rfl⟩) (g_preV m0 [.int (iI a3), .int (iI i0__20)] hP hD hK hN hS hA hZ [3, 4, 0] rfl rfl 3 (ci := 10) rfl rfl) rfl rfl hl.1 rfl (lv_room (Nat.le_of_ble_eq_true rfl)) dX11_pair_65 ⟨Nat.le_of_ble_eq_true rfl, Nat.le_of_ble_eq_true rfl⟩) hP hD hS hA [3, 4, 0] [1, 2] rfl rfl rfl (by decide) (fun r_43 u H locs hw hP hD hS => ?_)
              refine ea_2_3 hw (fun rr_44 Nh_45 k_46 e8_0 e8_1 => ?_)
              subst e8_0
              subst e8_1
              clear hw
              have hPD : PD G A H [(m_refused, .inl (G.2 0, 3, .inl (cI mr))), (m_hardOn, .inl (G.2 0, 10, .inl (cI Eo_22))), (m0, .inr (10, [.ref m_all, .ref m_kept, .ref m_isKept, .ref m_refused, .long (lI m_above), .long (lI m_below), .ref m_hand, .ref m_fewest, .ref m_whoBites, .ref m_leaves, .ref m_bestFeast, .ref m_tells, .ref m_hardOn, .ref m_bytes, .int (iI m_bytesLong), .int (iI m_tokenAt), .int (iI m_tokenLong), .int (iI m_token), .int (iI m_value), .ref m_anew, .ref m_values])), (m_all, .inl (G.2 0, 311, .inl (cI mF))), (m_hand, .inl (G.2 0, 56, .inl (cI Nh_45)))] := ⟨hP, hD⟩
              have hP := hPD.1
              have hD := hPD.2
              clear hPD
              refine g_ist hx hb hK hP hD hS 1 rfl (by omega) (by omega) (by first | exact Nat.le_of_ble_eq_true rfl | omega) dX11_pair_68 (fun H locs hP hD hS => ?_)
              have hb_48 := bd_u (k := (i0__20.toNat)) (v := rr_44) f_24 (by omega) (by omega)
              have hPD : PD G A H [(m_refused, .inl (G.2 0, 3, .inl (cI mr))), (m_hardOn, .inl (G.2 0, 10, .inl (cI (uI Eo_22 (i0__20.toNat) rr_44)))), (m0, .inr (10, [.ref m_all, .ref m_kept, .ref m_isKept, .ref m_refused, .long (lI m_above), .long (lI m_below), .ref m_hand, .ref m_fewest, .ref m_whoBites, .ref m_leaves, .ref m_bestFeast, .ref m_tells, .ref m_hardOn, .ref m_bytes, .int (iI m_bytesLong), .int (iI m_tokenAt), .int (iI m_tokenLong), .int (iI m_token), .int (iI m_value), .ref m_anew, .ref m_values])), (m_all, .inl (G.2 0, 311, .inl (cI mF))), (m_hand, .inl (G.2 0, 56, .inl (cI Nh_45)))] := ⟨hP, hD⟩
              have hP := hPD.1
              have hD := hPD.2
              clear hPD
              generalize hF_47 : (uI Eo_22 (i0__20.toNat) rr_44) = F_47 at hP hD hb_48
              refine lv_iinc (v := iI (i0__20 + 1)) (lv' := [(6, .int (iI (i0__20 + 1))), (5, .int (iI 0)), (0, .ref m0), (1, .int (iI a1)), (2, .int (iI a2)), (3, .int (iI a3)), (4, .int (iI a4))]) hx hb dX11_pair_69 hl (k := 0) rfl (iI_add i0__20 1) (by decide) rfl (fun ls hl => ?_)
              refine lv_goto (tgt := 48) hx hb dX11_pair_72 (by decide) ?_
              have hP := hP.sub (ws' := [(m_hand, .inl (G.2 0, 56, .inl (cI Nh_45))), (m_refused, .inl (G.2 0, 3, .inl (cI mr))), (m_hardOn, .inl (G.2 0, 10, .inl (cI F_47))), (m0, .inr (10, [.ref m_all, .ref m_kept, .ref m_isKept, .ref m_refused, .long (lI m_above), .long (lI m_below), .ref m_hand, .ref m_fewest, .ref m_whoBites, .ref m_leaves, .ref m_bestFeast, .ref m_tells, .ref m_hardOn, .ref m_bytes, .int (iI m_bytesLong), .int (iI m_tokenAt), .int (iI m_tokenLong), .int (iI m_token), .int (iI m_value), .ref m_anew, .ref m_values])), (m_all, .inl (G.2 0, 311, .inl (cI mF)))]) [4, 0, 1, 2, 3] rfl
              have hD := hD.sub (ws' := [(m_hand, .inl (G.2 0, 56, .inl (cI Nh_45))), (m_refused, .inl (G.2 0, 3, .inl (cI mr))), (m_hardOn, .inl (G.2 0, 10, .inl (cI F_47))), (m0, .inr (10, [.ref m_all, .ref m_kept, .ref m_isKept, .ref m_refused, .long (lI m_above), .long (lI m_below), .ref m_hand, .ref m_fewest, .ref m_whoBites, .ref m_leaves, .ref m_bestFeast, .ref m_tells, .ref m_hardOn, .ref m_bytes, .int (iI m_bytesLong), .int (iI m_tokenAt), .int (iI m_tokenLong), .int (iI m_token), .int (iI m_value), .ref m_anew, .ref m_values])), (m_all, .inl (G.2 0, 311, .inl (cI mF)))]) [4, 0, 1, 2, 3] rfl rfl
              exact ih_25 _ _ _ _ (by omega) ⟨(i0__20 + 1), Nh_45, F_47, (by first | assumption | omega), (by first | exact hb_48 | exact bd_mono hb_48 (by omega) (by omega) | assumption), rfl, hP, hD, hS, lv_sub hl [0, 1, 2, 3, 4, 5, 6] rfl⟩
          · have c_19 : ¬ ((-1) ≤ a4) := fun h9 => c_19 ((iI_le (a := (-1)) (b := a4) (by first | decide | omega) (by omega)).mpr h9)
            refine lv_aload_n hx hb dX11_pair_35 rfl (lv_at hl 0 rfl) ?_
            refine lv_bipush (v := iI (-10)) hx hb dX11_pair_36 (by decide) ?_
            refine g_calli (wr := [(m_hand, .inl (G.2 0, 56, .inl (cI mh))), (m_hardOn, .inl (G.2 0, 10, .inl (cI mo))), (m_all, .inl (G.2 0, 311, .inl (cI mF)))]) (va_runV (As := [.int (iI (-10))]) (rest := []) ⟨hx, hb, hml, hown, hts⟩ (c_X11_bad l G (m0) (m_all) (m_kept) (m_isKept) (m_refused) (m_above) (m_below) (m_hand) (m_fewest) (m_whoBites) (m_leaves) (m_bestFeast) (m_tells) (m_hardOn) (m_bytes) (m_bytesLong) (m_tokenAt) (m_tokenLong) (m_token) (m_value) (m_anew) (m_values) (mr) ((-10)) (by first | assumption | omega) _) (cwV 1 hts gX11_pair_X11_bad rfl rfl rfl (by decide +kernel) ⟨Nat.le_of_ble_eq_true rfl, Nat.le_of_ble_eq_true rfl⟩) (g_preV m0 [.int (iI (-10))] hP hD hK hN hS hA hZ [3, 1] rfl rfl 3 (ci := 10) rfl rfl) rfl rfl hl.1 rfl (lv_room (Nat.le_of_ble_eq_true rfl)) dX11_pair_38 ⟨Nat.le_of_ble_eq_true rfl, Nat.le_of_ble_eq_true rfl⟩) hP hD hS hA [3, 1] [0, 2, 4] rfl rfl rfl (by decide) (fun r_49 u H locs hw hP hD hS => ?_)
            obtain ⟨Nr_50, rfl, rfl⟩ := hw
            have hPD : PD G A H [(m_hand, .inl (G.2 0, 56, .inl (cI mh))), (m_hardOn, .inl (G.2 0, 10, .inl (cI mo))), (m_all, .inl (G.2 0, 311, .inl (cI mF))), (m0, .inr (10, [.ref m_all, .ref m_kept, .ref m_isKept, .ref m_refused, .long (lI m_above), .long (lI m_below), .ref m_hand, .ref m_fewest, .ref m_whoBites, .ref m_leaves, .ref m_bestFeast, .ref m_tells, .ref m_hardOn, .ref m_bytes, .int (iI m_bytesLong), .int (iI m_tokenAt), .int (iI m_tokenLong), .int (iI m_token), .int (iI m_value), .ref m_anew, .ref m_values])), (m_refused, .inl (G.2 0, 3, .inl (cI Nr_50)))] := ⟨hP, hD⟩
            have hP := hPD.1
            have hD := hPD.2
            clear hPD
            have hP := hP.sub (ws' := [(m0, .inr (10, [.ref m_all, .ref m_kept, .ref m_isKept, .ref m_refused, .long (lI m_above), .long (lI m_below), .ref m_hand, .ref m_fewest, .ref m_whoBites, .ref m_leaves, .ref m_bestFeast, .ref m_tells, .ref m_hardOn, .ref m_bytes, .int (iI m_bytesLong), .int (iI m_tokenAt), .int (iI m_tokenLong), .int (iI m_token), .int (iI m_value), .ref m_anew, .ref m_values])), (m_all, .inl (G.2 0, 311, .inl (cI mF))), (m_hand, .inl (G.2 0, 56, .inl (cI mh))), (m_refused, .inl (G.2 0, 3, .inl (cI Nr_50))), (m_hardOn, .inl (G.2 0, 10, .inl (cI mo)))]) [3, 2, 0, 4, 1] rfl
            have hD := hD.sub (ws' := [(m0, .inr (10, [.ref m_all, .ref m_kept, .ref m_isKept, .ref m_refused, .long (lI m_above), .long (lI m_below), .ref m_hand, .ref m_fewest, .ref m_whoBites, .ref m_leaves, .ref m_bestFeast, .ref m_tells, .ref m_hardOn, .ref m_bytes, .int (iI m_bytesLong), .int (iI m_tokenAt), .int (iI m_tokenLong), .int (iI m_token), .int (iI m_value), .ref m_anew, .ref m_values])), (m_all, .inl (G.2 0, 311, .inl (cI mF))), (m_hand, .inl (G.2 0, 56, .inl (cI mh))), (m_refused, .inl (G.2 0, 3, .inl (cI Nr_50))), (m_hardOn, .inl (G.2 0, 10, .inl (cI mo)))]) [3, 2, 0, 4, 1] rfl rfl
            exact g_iret (v := (iI (-10))) hx hb hr hlocks hP hD hS (⟨(-10), mh, Nr_50, mo, (by first | exact y1_ | exact bd_mono y1_ (by omega) (by omega) | assumption), rfl, rfl⟩) dX11_pair_41
        · refine ea_0_3 hw (fun k_17 e8_0 e8_1 => ?_)
          subst e8_0
          subst e8_1
          clear hw
          have hPD : PD G A H [(m_hand, .inl (G.2 0, 56, .inl (cI mh))), (m_refused, .inl (G.2 0, 3, .inl (cI mr))), (m_hardOn, .inl (G.2 0, 10, .inl (cI mo))), (m0, .inr (10, [.ref m_all, .ref m_kept, .ref m_isKept, .ref m_refused, .long (lI m_above), .long (lI m_below), .ref m_hand, .ref m_fewest, .ref m_whoBites, .ref m_leaves, .ref m_bestFeast, .ref m_tells, .ref m_hardOn, .ref m_bytes, .int (iI m_bytesLong), .int (iI m_tokenAt), .int (iI m_tokenLong), .int (iI m_token), .int (iI m_value), .ref m_anew, .ref m_values])), (m_all, .inl (G.2 0, 311, .inl (cI mF)))] := ⟨hP, hD⟩
          have hP := hPD.1
          have hD := hPD.2
          clear hPD
          refine lv_if_eq (tgt := 35) hx hb dX11_pair_26 (by decide) (fun _ => ?_) (fun c_51 => g_no (by decide) c_51)
          refine lv_aload_n hx hb dX11_pair_35 rfl (lv_at hl 0 rfl) ?_
          refine lv_bipush (v := iI (-10)) hx hb dX11_pair_36 (by decide) ?_
          refine g_calli (wr := [(m_hand, .inl (G.2 0, 56, .inl (cI mh))), (m_hardOn, .inl (G.2 0, 10, .inl (cI mo))), (m_all, .inl (G.2 0, 311, .inl (cI mF)))]) (va_runV (As := [.int (iI (-10))]) (rest := []) ⟨hx, hb, hml, hown, hts⟩ (c_X11_bad l G (m0) (m_all) (m_kept) (m_isKept) (m_refused) (m_above) (m_below) (m_hand) (m_fewest) (m_whoBites) (m_leaves) (m_bestFeast) (m_tells) (m_hardOn) (m_bytes) (m_bytesLong) (m_tokenAt) (m_tokenLong) (m_token) (m_value) (m_anew) (m_values) (mr) ((-10)) (by first | assumption | omega) _) (cwV 1 hts gX11_pair_X11_bad rfl rfl rfl (by decide +kernel) ⟨Nat.le_of_ble_eq_true rfl, Nat.le_of_ble_eq_true rfl⟩) (g_preV m0 [.int (iI (-10))] hP hD hK hN hS hA hZ [3, 1] rfl rfl 3 (ci := 10) rfl rfl) rfl rfl hl.1 rfl (lv_room (Nat.le_of_ble_eq_true rfl)) dX11_pair_38 ⟨Nat.le_of_ble_eq_true rfl, Nat.le_of_ble_eq_true rfl⟩) hP hD hS hA [3, 1] [0, 2, 4] rfl rfl rfl (by decide) (fun r_52 u H locs hw hP hD hS => ?_)
          obtain ⟨Nr_53, rfl, rfl⟩ := hw
          have hPD : PD G A H [(m_hand, .inl (G.2 0, 56, .inl (cI mh))), (m_hardOn, .inl (G.2 0, 10, .inl (cI mo))), (m_all, .inl (G.2 0, 311, .inl (cI mF))), (m0, .inr (10, [.ref m_all, .ref m_kept, .ref m_isKept, .ref m_refused, .long (lI m_above), .long (lI m_below), .ref m_hand, .ref m_fewest, .ref m_whoBites, .ref m_leaves, .ref m_bestFeast, .ref m_tells, .ref m_hardOn, .ref m_bytes, .int (iI m_bytesLong), .int (iI m_tokenAt), .int (iI m_tokenLong), .int (iI m_token), .int (iI m_value), .ref m_anew, .ref m_values])), (m_refused, .inl (G.2 0, 3, .inl (cI Nr_53)))] := ⟨hP, hD⟩
          have hP := hPD.1
          have hD := hPD.2
          clear hPD
          have hP := hP.sub (ws' := [(m0, .inr (10, [.ref m_all, .ref m_kept, .ref m_isKept, .ref m_refused, .long (lI m_above), .long (lI m_below), .ref m_hand, .ref m_fewest, .ref m_whoBites, .ref m_leaves, .ref m_bestFeast, .ref m_tells, .ref m_hardOn, .ref m_bytes, .int (iI m_bytesLong), .int (iI m_tokenAt), .int (iI m_tokenLong), .int (iI m_token), .int (iI m_value), .ref m_anew, .ref m_values])), (m_all, .inl (G.2 0, 311, .inl (cI mF))), (m_hand, .inl (G.2 0, 56, .inl (cI mh))), (m_refused, .inl (G.2 0, 3, .inl (cI Nr_53))), (m_hardOn, .inl (G.2 0, 10, .inl (cI mo)))]) [3, 2, 0, 4, 1] rfl
          have hD := hD.sub (ws' := [(m0, .inr (10, [.ref m_all, .ref m_kept, .ref m_isKept, .ref m_refused, .long (lI m_above), .long (lI m_below), .ref m_hand, .ref m_fewest, .ref m_whoBites, .ref m_leaves, .ref m_bestFeast, .ref m_tells, .ref m_hardOn, .ref m_bytes, .int (iI m_bytesLong), .int (iI m_tokenAt), .int (iI m_tokenLong), .int (iI m_token), .int (iI m_value), .ref m_anew, .ref m_values])), (m_all, .inl (G.2 0, 311, .inl (cI mF))), (m_hand, .inl (G.2 0, 56, .inl (cI mh))), (m_refused, .inl (G.2 0, 3, .inl (cI Nr_53))), (m_hardOn, .inl (G.2 0, 10, .inl (cI mo)))]) [3, 2, 0, 4, 1] rfl rfl
          exact g_iret (v := (iI (-10))) hx hb hr hlocks hP hD hS (⟨(-10), mh, Nr_53, mo, (by first | exact y1_ | exact bd_mono y1_ (by omega) (by omega) | assumption), rfl, rfl⟩) dX11_pair_41
    · refine ea_0_3 hw (fun k_9 e8_0 e8_1 => ?_)
      subst e8_0
      subst e8_1
      clear hw
      have hPD : PD G A H [(m_hand, .inl (G.2 0, 56, .inl (cI mh))), (m_refused, .inl (G.2 0, 3, .inl (cI mr))), (m_hardOn, .inl (G.2 0, 10, .inl (cI mo))), (m0, .inr (10, [.ref m_all, .ref m_kept, .ref m_isKept, .ref m_refused, .long (lI m_above), .long (lI m_below), .ref m_hand, .ref m_fewest, .ref m_whoBites, .ref m_leaves, .ref m_bestFeast, .ref m_tells, .ref m_hardOn, .ref m_bytes, .int (iI m_bytesLong), .int (iI m_tokenAt), .int (iI m_tokenLong), .int (iI m_token), .int (iI m_value), .ref m_anew, .ref m_values])), (m_all, .inl (G.2 0, 311, .inl (cI mF)))] := ⟨hP, hD⟩
      have hP := hPD.1
      have hD := hPD.2
      clear hPD
      refine lv_if_eq (tgt := 35) hx hb dX11_pair_13 (by decide) (fun _ => ?_) (fun c_54 => g_no (by decide) c_54)
      refine lv_aload_n hx hb dX11_pair_35 rfl (lv_at hl 0 rfl) ?_
      refine lv_bipush (v := iI (-10)) hx hb dX11_pair_36 (by decide) ?_
      refine g_calli (wr := [(m_hand, .inl (G.2 0, 56, .inl (cI mh))), (m_hardOn, .inl (G.2 0, 10, .inl (cI mo))), (m_all, .inl (G.2 0, 311, .inl (cI mF)))]) (va_runV (As := [.int (iI (-10))]) (rest := []) ⟨hx, hb, hml, hown, hts⟩ (c_X11_bad l G (m0) (m_all) (m_kept) (m_isKept) (m_refused) (m_above) (m_below) (m_hand) (m_fewest) (m_whoBites) (m_leaves) (m_bestFeast) (m_tells) (m_hardOn) (m_bytes) (m_bytesLong) (m_tokenAt) (m_tokenLong) (m_token) (m_value) (m_anew) (m_values) (mr) ((-10)) (by first | assumption | omega) _) (cwV 1 hts gX11_pair_X11_bad rfl rfl rfl (by decide +kernel) ⟨Nat.le_of_ble_eq_true rfl, Nat.le_of_ble_eq_true rfl⟩) (g_preV m0 [.int (iI (-10))] hP hD hK hN hS hA hZ [3, 1] rfl rfl 3 (ci := 10) rfl rfl) rfl rfl hl.1 rfl (lv_room (Nat.le_of_ble_eq_true rfl)) dX11_pair_38 ⟨Nat.le_of_ble_eq_true rfl, Nat.le_of_ble_eq_true rfl⟩) hP hD hS hA [3, 1] [0, 2, 4] rfl rfl rfl (by decide) (fun r_55 u H locs hw hP hD hS => ?_)
      obtain ⟨Nr_56, rfl, rfl⟩ := hw
      have hPD : PD G A H [(m_hand, .inl (G.2 0, 56, .inl (cI mh))), (m_hardOn, .inl (G.2 0, 10, .inl (cI mo))), (m_all, .inl (G.2 0, 311, .inl (cI mF))), (m0, .inr (10, [.ref m_all, .ref m_kept, .ref m_isKept, .ref m_refused, .long (lI m_above), .long (lI m_below), .ref m_hand, .ref m_fewest, .ref m_whoBites, .ref m_leaves, .ref m_bestFeast, .ref m_tells, .ref m_hardOn, .ref m_bytes, .int (iI m_bytesLong), .int (iI m_tokenAt), .int (iI m_tokenLong), .int (iI m_token), .int (iI m_value), .ref m_anew, .ref m_values])), (m_refused, .inl (G.2 0, 3, .inl (cI Nr_56)))] := ⟨hP, hD⟩
      have hP := hPD.1
      have hD := hPD.2
      clear hPD
      have hP := hP.sub (ws' := [(m0, .inr (10, [.ref m_all, .ref m_kept, .ref m_isKept, .ref m_refused, .long (lI m_above), .long (lI m_below), .ref m_hand, .ref m_fewest, .ref m_whoBites, .ref m_leaves, .ref m_bestFeast, .ref m_tells, .ref m_hardOn, .ref m_bytes, .int (iI m_bytesLong), .int (iI m_tokenAt), .int (iI m_tokenLong), .int (iI m_token), .int (iI m_value), .ref m_anew, .ref m_values])), (m_all, .inl (G.2 0, 311, .inl (cI mF))), (m_hand, .inl (G.2 0, 56, .inl (cI mh))), (m_refused, .inl (G.2 0, 3, .inl (cI Nr_56))), (m_hardOn, .inl (G.2 0, 10, .inl (cI mo)))]) [3, 2, 0, 4, 1] rfl
      have hD := hD.sub (ws' := [(m0, .inr (10, [.ref m_all, .ref m_kept, .ref m_isKept, .ref m_refused, .long (lI m_above), .long (lI m_below), .ref m_hand, .ref m_fewest, .ref m_whoBites, .ref m_leaves, .ref m_bestFeast, .ref m_tells, .ref m_hardOn, .ref m_bytes, .int (iI m_bytesLong), .int (iI m_tokenAt), .int (iI m_tokenLong), .int (iI m_token), .int (iI m_value), .ref m_anew, .ref m_values])), (m_all, .inl (G.2 0, 311, .inl (cI mF))), (m_hand, .inl (G.2 0, 56, .inl (cI mh))), (m_refused, .inl (G.2 0, 3, .inl (cI Nr_56))), (m_hardOn, .inl (G.2 0, 10, .inl (cI mo)))]) [3, 2, 0, 4, 1] rfl rfl
      exact g_iret (v := (iI (-10))) hx hb hr hlocks hP hD hS (⟨(-10), mh, Nr_56, mo, (by first | exact y1_ | exact bd_mono y1_ (by omega) (by omega) | assumption), rfl, rfl⟩) dX11_pair_41
  · refine ea_0_3 hw (fun k_4 e8_0 e8_1 => ?_)
    subst e8_0
    subst e8_1
    clear hw
    have hPD : PD G A H [(m_hand, .inl (G.2 0, 56, .inl (cI mh))), (m_refused, .inl (G.2 0, 3, .inl (cI mr))), (m_hardOn, .inl (G.2 0, 10, .inl (cI mo))), (m0, .inr (10, [.ref m_all, .ref m_kept, .ref m_isKept, .ref m_refused, .long (lI m_above), .long (lI m_below), .ref m_hand, .ref m_fewest, .ref m_whoBites, .ref m_leaves, .ref m_bestFeast, .ref m_tells, .ref m_hardOn, .ref m_bytes, .int (iI m_bytesLong), .int (iI m_tokenAt), .int (iI m_tokenLong), .int (iI m_token), .int (iI m_value), .ref m_anew, .ref m_values])), (m_all, .inl (G.2 0, 311, .inl (cI mF)))] := ⟨hP, hD⟩
    have hP := hPD.1
    have hD := hPD.2
    clear hPD
    refine lv_if_eq (tgt := 35) hx hb dX11_pair_5 (by decide) (fun _ => ?_) (fun c_57 => g_no (by decide) c_57)
    refine lv_aload_n hx hb dX11_pair_35 rfl (lv_at hl 0 rfl) ?_
    refine lv_bipush (v := iI (-10)) hx hb dX11_pair_36 (by decide) ?_
    refine g_calli (wr := [(m_hand, .inl (G.2 0, 56, .inl (cI mh))), (m_hardOn, .inl (G.2 0, 10, .inl (cI mo))), (m_all, .inl (G.2 0, 311, .inl (cI mF)))]) (va_runV (As := [.int (iI (-10))]) (rest := []) ⟨hx, hb, hml, hown, hts⟩ (c_X11_bad l G (m0) (m_all) (m_kept) (m_isKept) (m_refused) (m_above) (m_below) (m_hand) (m_fewest) (m_whoBites) (m_leaves) (m_bestFeast) (m_tells) (m_hardOn) (m_bytes) (m_bytesLong) (m_tokenAt) (m_tokenLong) (m_token) (m_value) (m_anew) (m_values) (mr) ((-10)) (by first | assumption | omega) _) (cwV 1 hts gX11_pair_X11_bad rfl rfl rfl (by decide +kernel) ⟨Nat.le_of_ble_eq_true rfl, Nat.le_of_ble_eq_true rfl⟩) (g_preV m0 [.int (iI (-10))] hP hD hK hN hS hA hZ [3, 1] rfl rfl 3 (ci := 10) rfl rfl) rfl rfl hl.1 rfl (lv_room (Nat.le_of_ble_eq_true rfl)) dX11_pair_38 ⟨Nat.le_of_ble_eq_true rfl, Nat.le_of_ble_eq_true rfl⟩) hP hD hS hA [3, 1] [0, 2, 4] rfl rfl rfl (by decide) (fun r_58 u H locs hw hP hD hS => ?_)
    obtain ⟨Nr_59, rfl, rfl⟩ := hw
    have hPD : PD G A H [(m_hand, .inl (G.2 0, 56, .inl (cI mh))), (m_hardOn, .inl (G.2 0, 10, .inl (cI mo))), (m_all, .inl (G.2 0, 311, .inl (cI mF))), (m0, .inr (10, [.ref m_all, .ref m_kept, .ref m_isKept, .ref m_refused, .long (lI m_above), .long (lI m_below), .ref m_hand, .ref m_fewest, .ref m_whoBites, .ref m_leaves, .ref m_bestFeast, .ref m_tells, .ref m_hardOn, .ref m_bytes, .int (iI m_bytesLong), .int (iI m_tokenAt), .int (iI m_tokenLong), .int (iI m_token), .int (iI m_value), .ref m_anew, .ref m_values])), (m_refused, .inl (G.2 0, 3, .inl (cI Nr_59)))] := ⟨hP, hD⟩
    have hP := hPD.1
    have hD := hPD.2
    clear hPD
    have hP := hP.sub (ws' := [(m0, .inr (10, [.ref m_all, .ref m_kept, .ref m_isKept, .ref m_refused, .long (lI m_above), .long (lI m_below), .ref m_hand, .ref m_fewest, .ref m_whoBites, .ref m_leaves, .ref m_bestFeast, .ref m_tells, .ref m_hardOn, .ref m_bytes, .int (iI m_bytesLong), .int (iI m_tokenAt), .int (iI m_tokenLong), .int (iI m_token), .int (iI m_value), .ref m_anew, .ref m_values])), (m_all, .inl (G.2 0, 311, .inl (cI mF))), (m_hand, .inl (G.2 0, 56, .inl (cI mh))), (m_refused, .inl (G.2 0, 3, .inl (cI Nr_59))), (m_hardOn, .inl (G.2 0, 10, .inl (cI mo)))]) [3, 2, 0, 4, 1] rfl
    have hD := hD.sub (ws' := [(m0, .inr (10, [.ref m_all, .ref m_kept, .ref m_isKept, .ref m_refused, .long (lI m_above), .long (lI m_below), .ref m_hand, .ref m_fewest, .ref m_whoBites, .ref m_leaves, .ref m_bestFeast, .ref m_tells, .ref m_hardOn, .ref m_bytes, .int (iI m_bytesLong), .int (iI m_tokenAt), .int (iI m_tokenLong), .int (iI m_token), .int (iI m_value), .ref m_anew, .ref m_values])), (m_all, .inl (G.2 0, 311, .inl (cI mF))), (m_hand, .inl (G.2 0, 56, .inl (cI mh))), (m_refused, .inl (G.2 0, 3, .inl (cI Nr_59))), (m_hardOn, .inl (G.2 0, 10, .inl (cI mo)))]) [3, 2, 0, 4, 1] rfl rfl
    exact g_iret (v := (iI (-10))) hx hb hr hlocks hP hD hS (⟨(-10), mh, Nr_59, mo, (by first | exact y1_ | exact bd_mono y1_ (by omega) (by omega) | assumption), rfl, rfl⟩) dX11_pair_41
theorem dX11_fraction_0 : decode cX11_fraction 0 = .ok (.lload_n 1, 1) := kd_31 (by decide +kernel)
theorem dX11_fraction_1 : decode cX11_fraction 1 = .ok (.lstore 5, 2) := kd_55 (a := 5) (by decide +kernel)
theorem dX11_fraction_3 : decode cX11_fraction 3 = .ok (.lload_n 3, 1) := kd_33 (by decide +kernel)
theorem dX11_fraction_4 : decode cX11_fraction 4 = .ok (.lstore 7, 2) := kd_55 (a := 7) (by decide +kernel)
theorem dX11_fraction_6 : decode cX11_fraction 6 = .ok (.lload 7, 2) := kd_22 (a := 7) (by decide +kernel)
theorem dX11_fraction_8 : decode cX11_fraction 8 = .ok (.lconst 0, 1) := kd_9 (by decide +kernel)
theorem dX11_fraction_9 : decode cX11_fraction 9 = .ok (.lcmp, 1) := kd_148 (by decide +kernel)
theorem dX11_fraction_10 : decode cX11_fraction 10 = .ok (.ifCond .eq 21, 3) := kd_153 (a := 0) (b := 21) (by decide +kernel)
theorem dX11_fraction_31 : decode cX11_fraction 31 = .ok (.aload_n 0, 1) := kd_42 (by decide +kernel)
theorem dX11_fraction_32 : decode cX11_fraction 32 = .ok (.lload_n 1, 1) := kd_31 (by decide +kernel)
theorem dX11_fraction_33 : decode cX11_fraction 33 = .ok (.lload 5, 2) := kd_22 (a := 5) (by decide +kernel)
theorem dX11_fraction_35 : decode cX11_fraction 35 = .ok (.ldiv, 1) := kd_109 (by decide +kernel)
theorem dX11_fraction_36 : decode cX11_fraction 36 = .ok (.putfield 207, 3) := kd_181 (a := 0) (b := 207) (by decide +kernel)
theorem dX11_fraction_39 : decode cX11_fraction 39 = .ok (.aload_n 0, 1) := kd_42 (by decide +kernel)
theorem dX11_fraction_40 : decode cX11_fraction 40 = .ok (.lload_n 3, 1) := kd_33 (by decide +kernel)
theorem dX11_fraction_41 : decode cX11_fraction 41 = .ok (.lload 5, 2) := kd_22 (a := 5) (by decide +kernel)
theorem dX11_fraction_43 : decode cX11_fraction 43 = .ok (.ldiv, 1) := kd_109 (by decide +kernel)
theorem dX11_fraction_44 : decode cX11_fraction 44 = .ok (.putfield 23, 3) := kd_181 (a := 0) (b := 23) (by decide +kernel)
theorem dX11_fraction_47 : decode cX11_fraction 47 = .ok (.return_, 1) := kd_177 (by decide +kernel)
theorem dX11_fraction_13 : decode cX11_fraction 13 = .ok (.lload 5, 2) := kd_22 (a := 5) (by decide +kernel)
theorem dX11_fraction_15 : decode cX11_fraction 15 = .ok (.lload 7, 2) := kd_22 (a := 7) (by decide +kernel)
theorem dX11_fraction_17 : decode cX11_fraction 17 = .ok (.lrem, 1) := kd_113 (by decide +kernel)
theorem dX11_fraction_18 : decode cX11_fraction 18 = .ok (.lstore 9, 2) := kd_55 (a := 9) (by decide +kernel)
theorem dX11_fraction_20 : decode cX11_fraction 20 = .ok (.lload 7, 2) := kd_22 (a := 7) (by decide +kernel)
theorem dX11_fraction_22 : decode cX11_fraction 22 = .ok (.lstore 5, 2) := kd_55 (a := 5) (by decide +kernel)
theorem dX11_fraction_24 : decode cX11_fraction 24 = .ok (.lload 9, 2) := kd_22 (a := 9) (by decide +kernel)
theorem dX11_fraction_26 : decode cX11_fraction 26 = .ok (.lstore 7, 2) := kd_55 (a := 7) (by decide +kernel)
theorem dX11_fraction_28 : decode cX11_fraction 28 = .ok (.goto (-22), 3) := kd_167 (a := 255) (b := 234) (by decide +kernel)
set_option maxHeartbeats 8000000 in
set_option maxRecDepth 100000 in
theorem c_X11_fraction (l : Launch) (G : gG) (m0 : Nat) (m_all : Nat) (m_kept : Nat) (m_isKept : Nat) (m_refused : Nat) (m_above : Int) (m_below : Int) (m_hand : Nat) (m_fewest : Nat) (m_whoBites : Nat) (m_leaves : Nat) (m_bestFeast : Nat) (m_tells : Nat) (m_hardOn : Nat) (m_bytes : Nat) (m_bytesLong : Int) (m_tokenAt : Int) (m_tokenLong : Int) (m_token : Int) (m_value : Int) (m_anew : Nat) (m_values : Nat) (a0 : Int) (b0 : Int) (ra : (-9223372036854775808 ≤ a0 ∧ a0 ≤ 9223372036854775807)) (rb : (-9223372036854775808 ≤ b0 ∧ b0 ≤ 9223372036854775807)) (hb0 : b0 ≠ 0) (sz : Nat) : gV G l yX11_fraction wsX11_fraction ({ frames := 0, cells := 0, slots := 0, locals := 0 } : Room) [.ref m0, .long (lI a0), .long (lI b0)] [(m0, .inr (10, [.ref m_all, .ref m_kept, .ref m_isKept, .ref m_refused, .long (lI m_above), .long (lI m_below), .ref m_hand, .ref m_fewest, .ref m_whoBites, .ref m_leaves, .ref m_bestFeast, .ref m_tells, .ref m_hardOn, .ref m_bytes, .int (iI m_bytesLong), .int (iI m_tokenAt), .int (iI m_tokenLong), .int (iI m_token), .int (iI m_value), .ref m_anew, .ref m_values]))] sz (fun (u : va_W) => (∃ Nab : Int, ∃ Nbe : Int, u = [(m0, .inr (10, [.ref m_all, .ref m_kept, .ref m_isKept, .ref m_refused, .long (lI Nab), .long (lI Nbe), .ref m_hand, .ref m_fewest, .ref m_whoBites, .ref m_leaves, .ref m_bestFeast, .ref m_tells, .ref m_hardOn, .ref m_bytes, .int (iI m_bytesLong), .int (iI m_tokenAt), .int (iI m_tokenLong), .int (iI m_token), .int (iI m_value), .ref m_anew, .ref m_values]))])) := by
  refine Met.ofW (cc := cX11_fraction) (maxL := 11) (ret := none) (by decide) rfl ?_
  intro p e s m args below meth c s₁ B hml hv
  obtain ⟨rfl, hsz, hP, hK, hD0, hN, hZ⟩ := hv
  have hx := B.exec
  have hb := B.bytes
  have hr := B.returns
  have hts := atoms_spec (ws := wsX11_fraction) B.pre
  have hown : s.vm.findClass RX11 = some m.cls := findClass_of_methodNamed B.named
  have hlocks := B.notSynchronized
  subst hsz
  have hD := hD0.self (sz := s.heap.size)
  generalize hAe : va_A [(m0, .inr (10, [.ref m_all, .ref m_kept, .ref m_isKept, .ref m_refused, .long (lI m_above), .long (lI m_below), .ref m_hand, .ref m_fewest, .ref m_whoBites, .ref m_leaves, .ref m_bestFeast, .ref m_tells, .ref m_hardOn, .ref m_bytes, .int (iI m_bytesLong), .int (iI m_tokenAt), .int (iI m_tokenLong), .int (iI m_token), .int (iI m_value), .ref m_anew, .ref m_values]))] s.heap.size = A at hD hZ ⊢
  have hA : ∀ q : Nat, s.heap.size ≤ q → A q := fun q h => by rw [← hAe]; exact Or.inr h
  have hS : va_S A s.heap s.heap [] := va_S.rf
  have hP : va_P G.1 vwCl [(m0, .inr (10, [.ref m_all, .ref m_kept, .ref m_isKept, .ref m_refused, .long (lI m_above), .long (lI m_below), .ref m_hand, .ref m_fewest, .ref m_whoBites, .ref m_leaves, .ref m_bestFeast, .ref m_tells, .ref m_hardOn, .ref m_bytes, .int (iI m_bytesLong), .int (iI m_tokenAt), .int (iI m_tokenLong), .int (iI m_token), .int (iI m_value), .ref m_anew, .ref m_values]))] s.heap := hP
  have hl := lv_entry ([.ref m0, .long (lI a0), .long (lI b0)]) (n := 11) (Nat.le_of_ble_eq_true rfl)
  rw [lg_entry_eq]
  generalize (lg_sl ([.ref m0, .long (lI a0), .long (lI b0)]) ++ List.replicate (11 - (lg_sl ([.ref m0, .long (lI a0), .long (lI b0)])).length) Slot.unset).toArray = ls at hl ⊢
  have hl : lv_has ls 11 [(0, .ref m0), (1, .long (lI a0)), (3, .long (lI b0))] := hl
  refine lv_lload_n hx hb dX11_fraction_0 rfl (lv_at hl 1 rfl) ?_
  refine lv_lstore (lv' := [(5, .long (lI a0)), (0, .ref m0), (1, .long (lI a0)), (3, .long (lI b0))]) hx hb dX11_fraction_1 hl (by decide) rfl (fun ls hl => ?_)
  refine lv_lload_n hx hb dX11_fraction_3 rfl (lv_at hl 3 rfl) ?_
  refine lv_lstore (lv' := [(7, .long (lI b0)), (5, .long (lI a0)), (0, .ref m0), (1, .long (lI a0)), (3, .long (lI b0))]) hx hb dX11_fraction_4 hl (by decide) rfl (fun ls hl => ?_)
  refine g_loopN (pc := 6) (fun nn H locs ls => ∃ x0__1 : Int, ∃ y0__2 : Int, ((-9223372036854775808 ≤ x0__1 ∧ x0__1 ≤ 9223372036854775807)) ∧ ((-9223372036854775808 ≤ y0__2 ∧ y0__2 ≤ 9223372036854775807)) ∧ (x0__1 ≠ 0 ∨ y0__2 ≠ 0) ∧ y0__2.natAbs = nn ∧ va_P G.1 vwCl [(m0, .inr (10, [.ref m_all, .ref m_kept, .ref m_isKept, .ref m_refused, .long (lI m_above), .long (lI m_below), .ref m_hand, .ref m_fewest, .ref m_whoBites, .ref m_leaves, .ref m_bestFeast, .ref m_tells, .ref m_hardOn, .ref m_bytes, .int (iI m_bytesLong), .int (iI m_tokenAt), .int (iI m_tokenLong), .int (iI m_token), .int (iI m_value), .ref m_anew, .ref m_values]))] H ∧ va_D A [(m0, .inr (10, [.ref m_all, .ref m_kept, .ref m_isKept, .ref m_refused, .long (lI m_above), .long (lI m_below), .ref m_hand, .ref m_fewest, .ref m_whoBites, .ref m_leaves, .ref m_bestFeast, .ref m_tells, .ref m_hardOn, .ref m_bytes, .int (iI m_bytesLong), .int (iI m_tokenAt), .int (iI m_tokenLong), .int (iI m_token), .int (iI m_value), .ref m_anew, .ref m_values]))] ∧ va_S A s.heap H locs ∧ lv_has ls 11 [(7, .long (lI y0__2)), (5, .long (lI x0__1)), (0, .ref m0), (1, .long (lI a0)), (3, .long (lI b0))]) ?_ ⟨a0, b0, (by first | exact ra | assumption | omega), (by first | exact rb | assumption | omega), (by first | assumption | omega), rfl, hP, hD, hS, lv_sub hl [0, 1, 2, 3, 4] rfl⟩
  intro nn_7 H locs ls ih_6 hI
  refine ea_2_8 hI (fun x0__1 y0__2 f_3 f_4 f_5 hnn_8 hP hD hS hl => ?_)
  clear hI
  refine lv_lload hx hb dX11_fraction_6 (lv_at hl 0 rfl) ?_
  refine lv_lconst (v := lI 0) hx hb dX11_fraction_8 (by decide) ?_
  refine W.lcmp hx hb dX11_fraction_9 ?_
  refine g_lcmpo (a := y0__2) (b := 0) (by omega) (by first | decide | omega) (fun z_9 hz_9 => ?_)
  refine lv_if_eq (tgt := 31) hx hb dX11_fraction_10 (by decide) (fun c_10 => ?_) (fun c_10 => ?_)
  · have c_10 := (iI_eq (a := z_9) (b := 0) (by omega) (by first | decide | omega)).mp c_10
    refine lv_aload_n hx hb dX11_fraction_31 rfl (lv_at hl 2 rfl) ?_
    refine lv_lload_n hx hb dX11_fraction_32 rfl (lv_at hl 3 rfl) ?_
    refine lv_lload hx hb dX11_fraction_33 (lv_at hl 1 rfl) ?_
    refine lv_ldiv hx hb dX11_fraction_35 (lI_ne0 (by omega) (by omega)) ?_
    refine g_topol (fun z_11 hz_11 => ?_)
    refine va_put (D := G.1) (ci := 10) (v := .long (lI z_11)) (ty := .long) (C := RX11) (T := TX11) (N := 21) hx hb hts (fun _ h => List.mem_cons_of_mem _ (inlX11 _ h)) tyX11 tyX11_ok nmX11 hown hK hP hD hS 0 rfl rfl 4 (by decide) (hts _ (List.mem_cons_of_mem _ (in_r39 (List.mem_of_getElem? (i := 18) rfl)))) (fun _ h9 => h9) rfl (by decide +kernel) rfl rfl (Nat.le_of_ble_eq_true rfl) dX11_fraction_36 (fun H locs hP hD hS => ?_)
    have hPD : PD G A H [(m0, .inr (10, [.ref m_all, .ref m_kept, .ref m_isKept, .ref m_refused, .long (lI z_11), .long (lI m_below), .ref m_hand, .ref m_fewest, .ref m_whoBites, .ref m_leaves, .ref m_bestFeast, .ref m_tells, .ref m_hardOn, .ref m_bytes, .int (iI m_bytesLong), .int (iI m_tokenAt), .int (iI m_tokenLong), .int (iI m_token), .int (iI m_value), .ref m_anew, .ref m_values]))] := ⟨hP, hD⟩
    have hP := hPD.1
    have hD := hPD.2
    clear hPD
    refine lv_aload_n hx hb dX11_fraction_39 rfl (lv_at hl 2 rfl) ?_
    refine lv_lload_n hx hb dX11_fraction_40 rfl (lv_at hl 4 rfl) ?_
    refine lv_lload hx hb dX11_fraction_41 (lv_at hl 1 rfl) ?_
    refine lv_ldiv hx hb dX11_fraction_43 (lI_ne0 (by omega) (by omega)) ?_
    refine g_topol (fun z_12 hz_12 => ?_)
    refine va_put (D := G.1) (ci := 10) (v := .long (lI z_12)) (ty := .long) (C := RX11) (T := TX11) (N := 21) hx hb hts (fun _ h => List.mem_cons_of_mem _ (inlX11 _ h)) tyX11 tyX11_ok nmX11 hown hK hP hD hS 0 rfl rfl 5 (by decide) (hts _ (List.mem_cons_of_mem _ (in_r6 (List.mem_of_getElem? (i := 4) rfl)))) (fun _ h9 => h9) rfl (by decide +kernel) rfl rfl (Nat.le_of_ble_eq_true rfl) dX11_fraction_44 (fun H locs hP hD hS => ?_)
    have hPD : PD G A H [(m0, .inr (10, [.ref m_all, .ref m_kept, .ref m_isKept, .ref m_refused, .long (lI z_11), .long (lI z_12), .ref m_hand, .ref m_fewest, .ref m_whoBites, .ref m_leaves, .ref m_bestFeast, .ref m_tells, .ref m_hardOn, .ref m_bytes, .int (iI m_bytesLong), .int (iI m_tokenAt), .int (iI m_tokenLong), .int (iI m_token), .int (iI m_value), .ref m_anew, .ref m_values]))] := ⟨hP, hD⟩
    have hP := hPD.1
    have hD := hPD.2
    clear hPD
    exact g_vret hx hb hr hlocks hP hD hS (⟨z_11, z_12, rfl⟩) dX11_fraction_47
  · have c_10 : ¬ (z_9 = 0) := fun h9 => c_10 ((iI_eq (a := z_9) (b := 0) (by omega) (by first | decide | omega)).mpr h9)
    refine lv_lload hx hb dX11_fraction_13 (lv_at hl 1 rfl) ?_
    refine lv_lload hx hb dX11_fraction_15 (lv_at hl 0 rfl) ?_
    refine lv_lrem hx hb dX11_fraction_17 (lI_ne0 (by omega) (by omega)) ?_
    refine g_lremo (a := x0__1) (b := y0__2) (by omega) (by omega) (by omega) (fun z_13 hz_13 kz_13 jz_13 => ?_)
    refine lv_lstore (lv' := [(9, .long (lI z_13)), (7, .long (lI y0__2)), (5, .long (lI x0__1)), (0, .ref m0), (1, .long (lI a0)), (3, .long (lI b0))]) hx hb dX11_fraction_18 hl (by decide) rfl (fun ls hl => ?_)
    refine lv_lload hx hb dX11_fraction_20 (lv_at hl 1 rfl) ?_
    refine lv_lstore (lv' := [(5, .long (lI y0__2)), (9, .long (lI z_13)), (7, .long (lI y0__2)), (0, .ref m0), (1, .long (lI a0)), (3, .long (lI b0))]) hx hb dX11_fraction_22 hl (by decide) rfl (fun ls hl => ?_)
    refine lv_lload hx hb dX11_fraction_24 (lv_at hl 1 rfl) ?_
    refine lv_lstore (lv' := [(7, .long (lI z_13)), (5, .long (lI y0__2)), (9, .long (lI z_13)), (0, .ref m0), (1, .long (lI a0)), (3, .long (lI b0))]) hx hb dX11_fraction_26 hl (by decide) rfl (fun ls hl => ?_)
    refine lv_goto (tgt := 6) hx hb dX11_fraction_28 (by decide) ?_
    exact ih_6 _ _ _ _ (by omega) ⟨y0__2, z_13, (by first | exact f_4 | assumption | omega), (by first | assumption | omega), (by first | assumption | omega), rfl, hP, hD, hS, lv_sub hl [0, 1, 3, 4, 5] rfl⟩
theorem dX11_wasps_0 : decode cX11_wasps 0 = .ok (.iload_n 1, 1) := kd_27 (by decide +kernel)
theorem dX11_wasps_1 : decode cX11_wasps 1 = .ok (.i2l, 1) := kd_133 (by decide +kernel)
theorem dX11_wasps_2 : decode cX11_wasps 2 = .ok (.lconst 0, 1) := kd_9 (by decide +kernel)
theorem dX11_wasps_3 : decode cX11_wasps 3 = .ok (.ldc2_w 210, 3) := kd_20 (a := 0) (b := 210) (by decide +kernel)
theorem gX11_wasps_X11_in : GoodIn wsX11_wasps (va_wsS RX11 65 yX11_in wsX11_in) := gW_S (in_r8 (List.mem_of_getElem? (i := 9) rfl)) (in_r8 (List.mem_of_getElem? (i := 10) rfl)) (in_r1 (List.mem_of_getElem? (i := 5) rfl)) (in_r8 (List.mem_of_getElem? (i := 11) rfl))
theorem dX11_wasps_6 : decode cX11_wasps 6 = .ok (.invokestatic 65, 3) := kd_184 (a := 0) (b := 65) (by decide +kernel)
theorem dX11_wasps_9 : decode cX11_wasps 9 = .ok (.ifCond .ne 10, 3) := kd_154 (a := 0) (b := 10) (by decide +kernel)
theorem dX11_wasps_19 : decode cX11_wasps 19 = .ok (.lconst 0, 1) := kd_9 (by decide +kernel)
theorem dX11_wasps_20 : decode cX11_wasps 20 = .ok (.lstore_n 2, 1) := kd_65 (by decide +kernel)
theorem dX11_wasps_21 : decode cX11_wasps 21 = .ok (.iconst 0, 1) := kd_3 (by decide +kernel)
theorem dX11_wasps_22 : decode cX11_wasps 22 = .ok (.istore 4, 2) := kd_54 (a := 4) (by decide +kernel)
theorem dX11_wasps_24 : decode cX11_wasps 24 = .ok (.iload 4, 2) := kd_21 (a := 4) (by decide +kernel)
theorem dX11_wasps_26 : decode cX11_wasps 26 = .ok (.aload_n 0, 1) := kd_42 (by decide +kernel)
theorem gX11_wasps_X11_many : GoodIn wsX11_wasps (wsV RX11 61 RX11 yX11_many wsX11_many) := gW_V (in_r7 (List.mem_of_getElem? (i := 12) rfl)) (in_r7 (List.mem_of_getElem? (i := 13) rfl)) (in_r7 (List.mem_of_getElem? (i := 14) rfl)) (in_r1 (List.mem_of_getElem? (i := 5) rfl)) (in_r7 (List.mem_of_getElem? (i := 15) rfl))
theorem dX11_wasps_27 : decode cX11_wasps 27 = .ok (.invokevirtual 61, 3) := kd_182 (a := 0) (b := 61) (by decide +kernel)
theorem dX11_wasps_30 : decode cX11_wasps 30 = .ok (.if_icmp .ge 101, 3) := kd_162 (a := 0) (b := 101) (by decide +kernel)
theorem dX11_wasps_131 : decode cX11_wasps 131 = .ok (.aload_n 0, 1) := kd_42 (by decide +kernel)
theorem dX11_wasps_132 : decode cX11_wasps 132 = .ok (.lload_n 2, 1) := kd_32 (by decide +kernel)
theorem dX11_wasps_133 : decode cX11_wasps 133 = .ok (.ldc2_w 210, 3) := kd_20 (a := 0) (b := 210) (by decide +kernel)
theorem gX11_wasps_X11_fraction : GoodIn wsX11_wasps (wsV RX11 212 RX11 yX11_fraction wsX11_fraction) := gW_V (in_r39 (List.mem_of_getElem? (i := 14) rfl)) (in_r39 (List.mem_of_getElem? (i := 15) rfl)) (in_r39 (List.mem_of_getElem? (i := 16) rfl)) (in_r1 (List.mem_of_getElem? (i := 5) rfl)) (in_r39 (List.mem_of_getElem? (i := 17) rfl))
theorem dX11_wasps_136 : decode cX11_wasps 136 = .ok (.invokevirtual 212, 3) := kd_182 (a := 0) (b := 212) (by decide +kernel)
theorem dX11_wasps_139 : decode cX11_wasps 139 = .ok (.iconst 1, 1) := kd_4 (by decide +kernel)
theorem dX11_wasps_140 : decode cX11_wasps 140 = .ok (.ireturn, 1) := kd_172 (by decide +kernel)
theorem dX11_wasps_33 : decode cX11_wasps 33 = .ok (.aload_n 0, 1) := kd_42 (by decide +kernel)
theorem dX11_wasps_34 : decode cX11_wasps 34 = .ok (.getfield 7, 3) := kd_180 (a := 0) (b := 7) (by decide +kernel)
theorem dX11_wasps_37 : decode cX11_wasps 37 = .ok (.iload 4, 2) := kd_21 (a := 4) (by decide +kernel)
theorem gX11_wasps_X11_isOut : GoodIn wsX11_wasps (va_wsS RX11 120 yX11_isOut wsX11_isOut) := gW_S (in_r21 (List.mem_of_getElem? (i := 14) rfl)) (in_r21 (List.mem_of_getElem? (i := 15) rfl)) (in_r1 (List.mem_of_getElem? (i := 5) rfl)) (in_r21 (List.mem_of_getElem? (i := 16) rfl))
theorem dX11_wasps_39 : decode cX11_wasps 39 = .ok (.invokestatic 120, 3) := kd_184 (a := 0) (b := 120) (by decide +kernel)
theorem dX11_wasps_42 : decode cX11_wasps 42 = .ok (.ifCond .ne 83, 3) := kd_154 (a := 0) (b := 83) (by decide +kernel)
theorem dX11_wasps_125 : decode cX11_wasps 125 = .ok (.iinc 4 1, 3) := kd_132 (a := 4) (b := 1) (by decide +kernel)
theorem dX11_wasps_128 : decode cX11_wasps 128 = .ok (.goto (-104), 3) := kd_167 (a := 255) (b := 152) (by decide +kernel)
theorem dX11_wasps_45 : decode cX11_wasps 45 = .ok (.aload_n 0, 1) := kd_42 (by decide +kernel)
theorem dX11_wasps_46 : decode cX11_wasps 46 = .ok (.getfield 7, 3) := kd_180 (a := 0) (b := 7) (by decide +kernel)
theorem dX11_wasps_49 : decode cX11_wasps 49 = .ok (.bipush 6, 2) := kd_16 (a := 6) (by decide +kernel)
theorem dX11_wasps_51 : decode cX11_wasps 51 = .ok (.iload 4, 2) := kd_21 (a := 4) (by decide +kernel)
theorem dX11_wasps_53 : decode cX11_wasps 53 = .ok (.iadd, 1) := kd_96 (by decide +kernel)
theorem dX11_wasps_54 : decode cX11_wasps 54 = .ok (.iaload, 1) := kd_46 (by decide +kernel)
theorem dX11_wasps_55 : decode cX11_wasps 55 = .ok (.iconst 1, 1) := kd_4 (by decide +kernel)
theorem dX11_wasps_56 : decode cX11_wasps 56 = .ok (.isub, 1) := kd_100 (by decide +kernel)
theorem dX11_wasps_57 : decode cX11_wasps 57 = .ok (.istore 5, 2) := kd_54 (a := 5) (by decide +kernel)
theorem dX11_wasps_59 : decode cX11_wasps 59 = .ok (.iload 5, 2) := kd_21 (a := 5) (by decide +kernel)
theorem dX11_wasps_61 : decode cX11_wasps 61 = .ok (.ifCond .ne 7, 3) := kd_154 (a := 0) (b := 7) (by decide +kernel)
theorem dX11_wasps_68 : decode cX11_wasps 68 = .ok (.aload_n 0, 1) := kd_42 (by decide +kernel)
theorem dX11_wasps_69 : decode cX11_wasps 69 = .ok (.getfield 7, 3) := kd_180 (a := 0) (b := 7) (by decide +kernel)
theorem dX11_wasps_72 : decode cX11_wasps 72 = .ok (.bipush 34, 2) := kd_16 (a := 34) (by decide +kernel)
theorem dX11_wasps_74 : decode cX11_wasps 74 = .ok (.iload 4, 2) := kd_21 (a := 4) (by decide +kernel)
theorem dX11_wasps_76 : decode cX11_wasps 76 = .ok (.iadd, 1) := kd_96 (by decide +kernel)
theorem dX11_wasps_77 : decode cX11_wasps 77 = .ok (.iaload, 1) := kd_46 (by decide +kernel)
theorem dX11_wasps_78 : decode cX11_wasps 78 = .ok (.iload 5, 2) := kd_21 (a := 5) (by decide +kernel)
theorem dX11_wasps_80 : decode cX11_wasps 80 = .ok (.aload_n 0, 1) := kd_42 (by decide +kernel)
theorem dX11_wasps_81 : decode cX11_wasps 81 = .ok (.getfield 7, 3) := kd_180 (a := 0) (b := 7) (by decide +kernel)
theorem dX11_wasps_84 : decode cX11_wasps 84 = .ok (.bipush 13, 2) := kd_16 (a := 13) (by decide +kernel)
theorem dX11_wasps_86 : decode cX11_wasps 86 = .ok (.iload 4, 2) := kd_21 (a := 4) (by decide +kernel)
theorem dX11_wasps_88 : decode cX11_wasps 88 = .ok (.iadd, 1) := kd_96 (by decide +kernel)
theorem dX11_wasps_89 : decode cX11_wasps 89 = .ok (.iaload, 1) := kd_46 (by decide +kernel)
theorem dX11_wasps_90 : decode cX11_wasps 90 = .ok (.aload_n 0, 1) := kd_42 (by decide +kernel)
theorem dX11_wasps_91 : decode cX11_wasps 91 = .ok (.getfield 7, 3) := kd_180 (a := 0) (b := 7) (by decide +kernel)
theorem gX11_wasps_X11_dampOf : GoodIn wsX11_wasps (va_wsS RX11 104 yX11_dampOf wsX11_dampOf) := gW_S (in_r22 (List.mem_of_getElem? (i := 2) rfl)) (in_r22 (List.mem_of_getElem? (i := 3) rfl)) (in_r1 (List.mem_of_getElem? (i := 5) rfl)) (in_r22 (List.mem_of_getElem? (i := 4) rfl))
theorem dX11_wasps_94 : decode cX11_wasps 94 = .ok (.invokestatic 104, 3) := kd_184 (a := 0) (b := 104) (by decide +kernel)
theorem gX11_wasps_X11_hardAs : GoodIn wsX11_wasps (va_wsS RX11 108 yX11_hardAs wsX11_hardAs) := gW_S (in_r22 (List.mem_of_getElem? (i := 5) rfl)) (in_r22 (List.mem_of_getElem? (i := 6) rfl)) (in_r1 (List.mem_of_getElem? (i := 5) rfl)) (in_r22 (List.mem_of_getElem? (i := 7) rfl))
theorem dX11_wasps_97 : decode cX11_wasps 97 = .ok (.invokestatic 108, 3) := kd_184 (a := 0) (b := 108) (by decide +kernel)
theorem dX11_wasps_64 : decode cX11_wasps 64 = .ok (.iconst 0, 1) := kd_3 (by decide +kernel)
theorem dX11_wasps_65 : decode cX11_wasps 65 = .ok (.goto 35, 3) := kd_167 (a := 0) (b := 35) (by decide +kernel)
theorem dX11_wasps_100 : decode cX11_wasps 100 = .ok (.istore 6, 2) := kd_54 (a := 6) (by decide +kernel)
theorem dX11_wasps_102 : decode cX11_wasps 102 = .ok (.lload_n 2, 1) := kd_32 (by decide +kernel)
theorem dX11_wasps_103 : decode cX11_wasps 103 = .ok (.iload_n 1, 1) := kd_27 (by decide +kernel)
theorem dX11_wasps_104 : decode cX11_wasps 104 = .ok (.iload 6, 2) := kd_21 (a := 6) (by decide +kernel)
theorem dX11_wasps_106 : decode cX11_wasps 106 = .ok (.imul, 1) := kd_104 (by decide +kernel)
theorem dX11_wasps_107 : decode cX11_wasps 107 = .ok (.bipush 10, 2) := kd_16 (a := 10) (by decide +kernel)
theorem dX11_wasps_109 : decode cX11_wasps 109 = .ok (.iload_n 1, 1) := kd_27 (by decide +kernel)
theorem dX11_wasps_110 : decode cX11_wasps 110 = .ok (.isub, 1) := kd_100 (by decide +kernel)
theorem dX11_wasps_111 : decode cX11_wasps 111 = .ok (.aload_n 0, 1) := kd_42 (by decide +kernel)
theorem dX11_wasps_112 : decode cX11_wasps 112 = .ok (.getfield 7, 3) := kd_180 (a := 0) (b := 7) (by decide +kernel)
theorem dX11_wasps_115 : decode cX11_wasps 115 = .ok (.iload 4, 2) := kd_21 (a := 4) (by decide +kernel)
theorem gX11_wasps_X11_hardOf : GoodIn wsX11_wasps (va_wsS RX11 112 yX11_hardOf wsX11_hardOf) := gW_S (in_r21 (List.mem_of_getElem? (i := 23) rfl)) (in_r22 (List.mem_of_getElem? (i := 0) rfl)) (in_r1 (List.mem_of_getElem? (i := 5) rfl)) (in_r22 (List.mem_of_getElem? (i := 1) rfl))
theorem dX11_wasps_117 : decode cX11_wasps 117 = .ok (.invokestatic 112, 3) := kd_184 (a := 0) (b := 112) (by decide +kernel)
theorem dX11_wasps_120 : decode cX11_wasps 120 = .ok (.imul, 1) := kd_104 (by decide +kernel)
theorem dX11_wasps_121 : decode cX11_wasps 121 = .ok (.iadd, 1) := kd_96 (by decide +kernel)
theorem dX11_wasps_122 : decode cX11_wasps 122 = .ok (.i2l, 1) := kd_133 (by decide +kernel)
theorem dX11_wasps_123 : decode cX11_wasps 123 = .ok (.ladd, 1) := kd_97 (by decide +kernel)
theorem dX11_wasps_124 : decode cX11_wasps 124 = .ok (.lstore_n 2, 1) := kd_65 (by decide +kernel)
theorem dX11_wasps_12 : decode cX11_wasps 12 = .ok (.aload_n 0, 1) := kd_42 (by decide +kernel)
theorem dX11_wasps_13 : decode cX11_wasps 13 = .ok (.bipush (-2), 2) := kd_16 (a := 254) (by decide +kernel)
theorem gX11_wasps_X11_bad : GoodIn wsX11_wasps (wsV RX11 79 RX11 yX11_bad wsX11_bad) := gW_V (in_r8 (List.mem_of_getElem? (i := 16) rfl)) (in_r8 (List.mem_of_getElem? (i := 17) rfl)) (in_r8 (List.mem_of_getElem? (i := 18) rfl)) (in_r1 (List.mem_of_getElem? (i := 5) rfl)) (in_r8 (List.mem_of_getElem? (i := 19) rfl))
theorem dX11_wasps_15 : decode cX11_wasps 15 = .ok (.invokevirtual 79, 3) := kd_182 (a := 0) (b := 79) (by decide +kernel)
theorem dX11_wasps_18 : decode cX11_wasps 18 = .ok (.ireturn, 1) := kd_172 (by decide +kernel)
set_option maxHeartbeats 8000000 in
set_option maxRecDepth 100000 in
theorem c_X11_wasps (l : Launch) (G : gG) (m0 : Nat) (m_all : Nat) (m_kept : Nat) (m_isKept : Nat) (m_refused : Nat) (m_above : Int) (m_below : Int) (m_hand : Nat) (m_fewest : Nat) (m_whoBites : Nat) (m_leaves : Nat) (m_bestFeast : Nat) (m_tells : Nat) (m_hardOn : Nat) (m_bytes : Nat) (m_bytesLong : Int) (m_tokenAt : Int) (m_tokenLong : Int) (m_token : Int) (m_value : Int) (m_anew : Nat) (m_values : Nat) (mF : Nat → Int) (K0 : Int) (mr : Nat → Int) (a1 : Int) (y0_ : bp (plA K0) mF) (ra1 : -2147483648 ≤ a1 ∧ a1 ≤ 2147483647) (hK0 : 1000 ≤ K0 ∧ K0 ≤ 2000000) (sz : Nat) : gI G l yX11_wasps wsX11_wasps ({ frames := 2, cells := 0, slots := 0, locals := 48 } : Room) [.ref m0, .int (iI a1)] [(m0, .inr (10, [.ref m_all, .ref m_kept, .ref m_isKept, .ref m_refused, .long (lI m_above), .long (lI m_below), .ref m_hand, .ref m_fewest, .ref m_whoBites, .ref m_leaves, .ref m_bestFeast, .ref m_tells, .ref m_hardOn, .ref m_bytes, .int (iI m_bytesLong), .int (iI m_tokenAt), .int (iI m_tokenLong), .int (iI m_token), .int (iI m_value), .ref m_anew, .ref m_values])), (m_all, .inl (G.2 0, 311, .inl (cI mF))), (m_refused, .inl (G.2 0, 3, .inl (cI mr)))] sz (fun (r : Int32) (u : va_W) => (∃ Nr : Nat → Int, (¬ (0 ≤ a1 ∧ a1 ≤ 10)) ∧ r = (iI (-2)) ∧ u = [(m0, .inr (10, [.ref m_all, .ref m_kept, .ref m_isKept, .ref m_refused, .long (lI m_above), .long (lI m_below), .ref m_hand, .ref m_fewest, .ref m_whoBites, .ref m_leaves, .ref m_bestFeast, .ref m_tells, .ref m_hardOn, .ref m_bytes, .int (iI m_bytesLong), .int (iI m_tokenAt), .int (iI m_tokenLong), .int (iI m_token), .int (iI m_value), .ref m_anew, .ref m_values])), (m_all, .inl (G.2 0, 311, .inl (cI mF))), (m_refused, .inl (G.2 0, 3, .inl (cI Nr)))]) ∨ (∃ Nab : Int, ∃ Nbe : Int, (0 ≤ a1 ∧ a1 ≤ 10) ∧ r = (iI 1) ∧ u = [(m0, .inr (10, [.ref m_all, .ref m_kept, .ref m_isKept, .ref m_refused, .long (lI Nab), .long (lI Nbe), .ref m_hand, .ref m_fewest, .ref m_whoBites, .ref m_leaves, .ref m_bestFeast, .ref m_tells, .ref m_hardOn, .ref m_bytes, .int (iI m_bytesLong), .int (iI m_tokenAt), .int (iI m_tokenLong), .int (iI m_token), .int (iI m_value), .ref m_anew, .ref m_values])), (m_all, .inl (G.2 0, 311, .inl (cI mF))), (m_refused, .inl (G.2 0, 3, .inl (cI mr)))])) := by
  refine Met.ofW (cc := cX11_wasps) (maxL := 7) (ret := (some .int)) (by decide) rfl ?_
  intro p e s m args below meth c s₁ B hml hv
  obtain ⟨rfl, hsz, hP, hK, hD0, hN, hZ⟩ := hv
  have hx := B.exec
  have hb := B.bytes
  have hr := B.returns
  have hts := atoms_spec (ws := wsX11_wasps) B.pre
  have hown : s.vm.findClass RX11 = some m.cls := findClass_of_methodNamed B.named
  have hlocks := B.notSynchronized
  subst hsz
  have hD := hD0.self (sz := s.heap.size)
  generalize hAe : va_A [(m0, .inr (10, [.ref m_all, .ref m_kept, .ref m_isKept, .ref m_refused, .long (lI m_above), .long (lI m_below), .ref m_hand, .ref m_fewest, .ref m_whoBites, .ref m_leaves, .ref m_bestFeast, .ref m_tells, .ref m_hardOn, .ref m_bytes, .int (iI m_bytesLong), .int (iI m_tokenAt), .int (iI m_tokenLong), .int (iI m_token), .int (iI m_value), .ref m_anew, .ref m_values])), (m_all, .inl (G.2 0, 311, .inl (cI mF))), (m_refused, .inl (G.2 0, 3, .inl (cI mr)))] s.heap.size = A at hD hZ ⊢
  have hA : ∀ q : Nat, s.heap.size ≤ q → A q := fun q h => by rw [← hAe]; exact Or.inr h
  have hS : va_S A s.heap s.heap [] := va_S.rf
  have hP : va_P G.1 vwCl [(m0, .inr (10, [.ref m_all, .ref m_kept, .ref m_isKept, .ref m_refused, .long (lI m_above), .long (lI m_below), .ref m_hand, .ref m_fewest, .ref m_whoBites, .ref m_leaves, .ref m_bestFeast, .ref m_tells, .ref m_hardOn, .ref m_bytes, .int (iI m_bytesLong), .int (iI m_tokenAt), .int (iI m_tokenLong), .int (iI m_token), .int (iI m_value), .ref m_anew, .ref m_values])), (m_all, .inl (G.2 0, 311, .inl (cI mF))), (m_refused, .inl (G.2 0, 3, .inl (cI mr)))] s.heap := hP
  have hl := lv_entry ([.ref m0, .int (iI a1)]) (n := 7) (Nat.le_of_ble_eq_true rfl)
  rw [lg_entry_eq]
  generalize (lg_sl ([.ref m0, .int (iI a1)]) ++ List.replicate (7 - (lg_sl ([.ref m0, .int (iI a1)])).length) Slot.unset).toArray = ls at hl ⊢
  have hl : lv_has ls 7 [(0, .ref m0), (1, .int (iI a1))] := hl
  refine lv_iload_n hx hb dX11_wasps_0 rfl (lv_at hl 1 rfl) ?_
  refine lv_i2l (v := lI a1) hx hb dX11_wasps_1 (i2l_iI (by omega)) ?_
  refine lv_lconst (v := lI 0) hx hb dX11_wasps_2 (by decide) ?_
  refine lv_ldc2 (v := 10) hx hb hown (hts _ (List.mem_cons_of_mem _ (in_r39 (List.mem_of_getElem? (i := 13) rfl)))) dX11_wasps_3 ?_
  refine g_topl (y := lI 10) (by decide) ?_
  refine g_calli (wr := [(m0, .inr (10, [.ref m_all, .ref m_kept, .ref m_isKept, .ref m_refused, .long (lI m_above), .long (lI m_below), .ref m_hand, .ref m_fewest, .ref m_whoBites, .ref m_leaves, .ref m_bestFeast, .ref m_tells, .ref m_hardOn, .ref m_bytes, .int (iI m_bytesLong), .int (iI m_tokenAt), .int (iI m_tokenLong), .int (iI m_token), .int (iI m_value), .ref m_anew, .ref m_values])), (m_all, .inl (G.2 0, 311, .inl (cI mF))), (m_refused, .inl (G.2 0, 3, .inl (cI mr)))]) (va_runS (As := [.long (lI a1), .long (lI 0), .long (lI 10)]) (rest := []) ⟨hx, hb, hml, hown, hts⟩ (c_X11_in l G (a1) (0) (10) (by first | assumption | omega) (by first | assumption | omega) (by first | assumption | omega) _) (va_cwS 3 hts gX11_wasps_X11_in rfl rfl rfl (by decide +kernel) ⟨Nat.le_of_ble_eq_true rfl, Nat.le_of_ble_eq_true rfl⟩) (g_preS [.long (lI a1), .long (lI 0), .long (lI 10)] hP hD hK hN hS hA hZ [] rfl rfl) rfl rfl hl.1 rfl (lv_room (Nat.le_of_ble_eq_true rfl)) dX11_wasps_6 ⟨Nat.le_of_ble_eq_true rfl, Nat.le_of_ble_eq_true rfl⟩) hP hD hS hA [] [0, 1, 2] rfl rfl rfl (by decide) (fun r_1 u H locs hw hP hD hS => ?_)
  rcases hw with hw | hw
  · refine ea_0_4 hw (fun k_2 k_3 e8_0 e8_1 => ?_)
    subst e8_0
    subst e8_1
    clear hw
    have hPD : PD G A H [(m0, .inr (10, [.ref m_all, .ref m_kept, .ref m_isKept, .ref m_refused, .long (lI m_above), .long (lI m_below), .ref m_hand, .ref m_fewest, .ref m_whoBites, .ref m_leaves, .ref m_bestFeast, .ref m_tells, .ref m_hardOn, .ref m_bytes, .int (iI m_bytesLong), .int (iI m_tokenAt), .int (iI m_tokenLong), .int (iI m_token), .int (iI m_value), .ref m_anew, .ref m_values])), (m_all, .inl (G.2 0, 311, .inl (cI mF))), (m_refused, .inl (G.2 0, 3, .inl (cI mr)))] := ⟨hP, hD⟩
    have hP := hPD.1
    have hD := hPD.2
    clear hPD
    refine lv_if_ne (tgt := 19) hx hb dX11_wasps_9 (by decide) (fun _ => ?_) (fun c_5 => g_no c_5 (by decide))
    refine lv_lconst (v := lI 0) hx hb dX11_wasps_19 (by decide) ?_
    refine lv_lstore_n (lv' := [(2, .long (lI 0)), (0, .ref m0), (1, .int (iI a1))]) hx hb dX11_wasps_20 rfl hl (by decide) rfl (fun ls hl => ?_)
    refine lv_iconst (v := iI 0) hx hb dX11_wasps_21 rfl ?_
    refine lv_istore (lv' := [(4, .int (iI 0)), (2, .long (lI 0)), (0, .ref m0), (1, .int (iI a1))]) hx hb dX11_wasps_22 hl (by decide) rfl (fun ls hl => ?_)
    refine g_loopN (pc := 24) (fun nn H locs ls => ∃ s0__6 : Int, ∃ i0__7 : Int, (0 ≤ i0__7 ∧ i0__7 ≤ 7) ∧ ((-9223372036854775808 ≤ s0__6 ∧ s0__6 ≤ 9223372036854775807)) ∧ (7 - i0__7).toNat = nn ∧ va_P G.1 vwCl [(m0, .inr (10, [.ref m_all, .ref m_kept, .ref m_isKept, .ref m_refused, .long (lI m_above), .long (lI m_below), .ref m_hand, .ref m_fewest, .ref m_whoBites, .ref m_leaves, .ref m_bestFeast, .ref m_tells, .ref m_hardOn, .ref m_bytes, .int (iI m_bytesLong), .int (iI m_tokenAt), .int (iI m_tokenLong), .int (iI m_token), .int (iI m_value), .ref m_anew, .ref m_values])), (m_all, .inl (G.2 0, 311, .inl (cI mF))), (m_refused, .inl (G.2 0, 3, .inl (cI mr)))] H ∧ va_D A [(m0, .inr (10, [.ref m_all, .ref m_kept, .ref m_isKept, .ref m_refused, .long (lI m_above), .long (lI m_below), .ref m_hand, .ref m_fewest, .ref m_whoBites, .ref m_leaves, .ref m_bestFeast, .ref m_tells, .ref m_hardOn, .ref m_bytes, .int (iI m_bytesLong), .int (iI m_tokenAt), .int (iI m_tokenLong), .int (iI m_token), .int (iI m_value), .ref m_anew, .ref m_values])), (m_all, .inl (G.2 0, 311, .inl (cI mF))), (m_refused, .inl (G.2 0, 3, .inl (cI mr)))] ∧ va_S A s.heap H locs ∧ lv_has ls 7 [(4, .int (iI i0__7)), (2, .long (lI s0__6)), (0, .ref m0), (1, .int (iI a1))]) ?_ ⟨0, 0, (by first | assumption | omega), (by first | assumption | omega), rfl, hP, hD, hS, lv_sub hl [0, 1, 2, 3] rfl⟩
    intro nn_11 H locs ls ih_10 hI
    refine ea_2_7 hI (fun s0__6 i0__7 f_8 f_9 hnn_12 hP hD hS hl => ?_)
    clear hI
    refine lv_iload hx hb dX11_wasps_24 (lv_at hl 0 rfl) ?_
    refine lv_aload_n hx hb dX11_wasps_26 rfl (lv_at hl 2 rfl) ?_
    refine g_calli (wr := [(m_refused, .inl (G.2 0, 3, .inl (cI mr)))]) (va_runV (As := []) (rest := [.int (iI i0__7)]) ⟨hx, hb, hml, hown, hts⟩ (c_X11_many l G (m0) (m_all) (m_kept) (m_isKept) (m_refused) (m_above) (m_below) (m_hand) (m_fewest) (m_whoBites) (m_leaves) (m_bestFeast) (m_tells) (m_hardOn) (m_bytes) (m_bytesLong) (m_tokenAt) (m_tokenLong) (m_token) (m_value) (m_anew) (m_values) (mF) (K0) (by first | exact y0_ | exact bpA_mono y0_ (by omega) | assumption) (by first | exact hK0 | assumption | omega) _) (cwV 0 hts gX11_wasps_X11_many rfl rfl rfl (by decide +kernel) ⟨Nat.le_of_ble_eq_true rfl, Nat.le_of_ble_eq_true rfl⟩) (g_preV m0 [] hP hD hK hN hS hA hZ [0, 1] rfl rfl 0 (ci := 10) rfl rfl) rfl rfl hl.1 rfl (lv_room (Nat.le_of_ble_eq_true rfl)) dX11_wasps_27 ⟨Nat.le_of_ble_eq_true rfl, Nat.le_of_ble_eq_true rfl⟩) hP hD hS hA [0, 1] [2] rfl rfl rfl (by decide) (fun r_13 u H locs hw hP hD hS => ?_)
    refine ea_1_4 hw (fun rr_14 k_15 k_16 e8_0 e8_1 => ?_)
    subst e8_0
    subst e8_1
    clear hw
    have hPD : PD G A H [(m_refused, .inl (G.2 0, 3, .inl (cI mr))), (m0, .inr (10, [.ref m_all, .ref m_kept, .ref m_isKept, .ref m_refused, .long (lI m_above), .long (lI m_below), .ref m_hand, .ref m_fewest, .ref m_whoBites, .ref m_leaves, .ref m_bestFeast, .ref m_tells, .ref m_hardOn, .ref m_bytes, .int (iI m_bytesLong), .int (iI m_tokenAt), .int (iI m_tokenLong), .int (iI m_token), .int (iI m_value), .ref m_anew, .ref m_values])), (m_all, .inl (G.2 0, 311, .inl (cI mF)))] := ⟨hP, hD⟩
    have hP := hPD.1
    have hD := hPD.2
    clear hPD
    refine lv_icmp_ge (tgt := 131) hx hb dX11_wasps_30 (by decide) (fun c_17 => ?_) (fun c_17 => ?_)
    · have c_17 := (iI_le (a := rr_14) (b := i0__7) (by omega) (by omega)).mp c_17
      refine lv_aload_n hx hb dX11_wasps_131 rfl (lv_at hl 2 rfl) ?_
      refine lv_lload_n hx hb dX11_wasps_132 rfl (lv_at hl 1 rfl) ?_
      refine lv_ldc2 (v := 10) hx hb hown (hts _ (List.mem_cons_of_mem _ (in_r39 (List.mem_of_getElem? (i := 13) rfl)))) dX11_wasps_133 ?_
      refine g_topl (y := lI 10) (by decide) ?_
      refine g_callv (wr := [(m_refused, .inl (G.2 0, 3, .inl (cI mr))), (m_all, .inl (G.2 0, 311, .inl (cI mF)))]) (va_runV (As := [.long (lI s0__6), .long (lI 10)]) (rest := []) ⟨hx, hb, hml, hown, hts⟩ (c_X11_fraction l G (m0) (m_all) (m_kept) (m_isKept) (m_refused) (m_above) (m_below) (m_hand) (m_fewest) (m_whoBites) (m_leaves) (m_bestFeast) (m_tells) (m_hardOn) (m_bytes) (m_bytesLong) (m_tokenAt) (m_tokenLong) (m_token) (m_value) (m_anew) (m_values) (s0__6) (10) (by first | exact f_9 | assumption | omega) (by first | assumption | omega) (by first | assumption | omega) _) (cwV 2 hts gX11_wasps_X11_fraction rfl rfl rfl (by decide +kernel) ⟨Nat.le_of_ble_eq_true rfl, Nat.le_of_ble_eq_true rfl⟩) (g_preV m0 [.long (lI s0__6), .long (lI 10)] hP hD hK hN hS hA hZ [1] rfl rfl 1 (ci := 10) rfl rfl) rfl rfl hl.1 rfl (lv_room (Nat.le_of_ble_eq_true rfl)) dX11_wasps_136 ⟨Nat.le_of_ble_eq_true rfl, Nat.le_of_ble_eq_true rfl⟩) hP hD hS hA [1] [0, 2] rfl rfl rfl (by decide) (fun u H locs hw hP hD hS => ?_)
      obtain ⟨Nab_18, Nbe_19, rfl⟩ := hw
      have hPD : PD G A H [(m_refused, .inl (G.2 0, 3, .inl (cI mr))), (m_all, .inl (G.2 0, 311, .inl (cI mF))), (m0, .inr (10, [.ref m_all, .ref m_kept, .ref m_isKept, .ref m_refused, .long (lI Nab_18), .long (lI Nbe_19), .ref m_hand, .ref m_fewest, .ref m_whoBites, .ref m_leaves, .ref m_bestFeast, .ref m_tells, .ref m_hardOn, .ref m_bytes, .int (iI m_bytesLong), .int (iI m_tokenAt), .int (iI m_tokenLong), .int (iI m_token), .int (iI m_value), .ref m_anew, .ref m_values]))] := ⟨hP, hD⟩
      have hP := hPD.1
      have hD := hPD.2
      clear hPD
      refine lv_iconst (v := iI 1) hx hb dX11_wasps_139 rfl ?_
      have hP := hP.sub (ws' := [(m0, .inr (10, [.ref m_all, .ref m_kept, .ref m_isKept, .ref m_refused, .long (lI Nab_18), .long (lI Nbe_19), .ref m_hand, .ref m_fewest, .ref m_whoBites, .ref m_leaves, .ref m_bestFeast, .ref m_tells, .ref m_hardOn, .ref m_bytes, .int (iI m_bytesLong), .int (iI m_tokenAt), .int (iI m_tokenLong), .int (iI m_token), .int (iI m_value), .ref m_anew, .ref m_values])), (m_all, .inl (G.2 0, 311, .inl (cI mF))), (m_refused, .inl (G.2 0, 3, .inl (cI mr)))]) [2, 1, 0] rfl
      have hD := hD.sub (ws' := [(m0, .inr (10, [.ref m_all, .ref m_kept, .ref m_isKept, .ref m_refused, .long (lI Nab_18), .long (lI Nbe_19), .ref m_hand, .ref m_fewest, .ref m_whoBites, .ref m_leaves, .ref m_bestFeast, .ref m_tells, .ref m_hardOn, .ref m_bytes, .int (iI m_bytesLong), .int (iI m_tokenAt), .int (iI m_tokenLong), .int (iI m_token), .int (iI m_value), .ref m_anew, .ref m_values])), (m_all, .inl (G.2 0, 311, .inl (cI mF))), (m_refused, .inl (G.2 0, 3, .inl (cI mr)))]) [2, 1, 0] rfl rfl
      exact g_iret (v := (iI 1)) hx hb hr hlocks hP hD hS (Or.inr (⟨Nab_18, Nbe_19, (by first | assumption | omega), rfl, rfl⟩)) dX11_wasps_140
    · have c_17 : ¬ (rr_14 ≤ i0__7) := fun h9 => c_17 ((iI_le (a := rr_14) (b := i0__7) (by omega) (by omega)).mpr h9)
      refine lv_aload_n hx hb dX11_wasps_33 rfl (lv_at hl 2 rfl) ?_
      refine va_get (D := G.1) (ci := 10) (v := .ref m_all) (C := RX11) (T := TX11) (N := 21) hx hb hts (fun _ h => List.mem_cons_of_mem _ (inlX11 _ h)) hown hK hP 1 rfl rfl 0 (by decide) (hts _ (List.mem_cons_of_mem _ (in_r6 (List.mem_of_getElem? (i := 0) rfl)))) (fun _ h9 => h9) rfl dX11_wasps_34 ?_
      refine lv_iload hx hb dX11_wasps_37 (lv_at hl 0 rfl) ?_
      refine g_calli (wr := [(m_refused, .inl (G.2 0, 3, .inl (cI mr))), (m0, .inr (10, [.ref m_all, .ref m_kept, .ref m_isKept, .ref m_refused, .long (lI m_above), .long (lI m_below), .ref m_hand, .ref m_fewest, .ref m_whoBites, .ref m_leaves, .ref m_bestFeast, .ref m_tells, .ref m_hardOn, .ref m_bytes, .int (iI m_bytesLong), .int (iI m_tokenAt), .int (iI m_tokenLong), .int (iI m_token), .int (iI m_value), .ref m_anew, .ref m_values]))]) (va_runS (As := [.ref m_all, .int (iI i0__7)]) (rest := []) ⟨hx, hb, hml, hown, hts⟩ (c_X11_isOut_311 l G (m_all) (mF) (K0) (i0__7) (by first | exact y0_ | exact bpA_mono y0_ (by omega) | assumption) (by first | exact hK0 | assumption | omega) (by first | assumption | omega) _) (va_cwS 2 hts gX11_wasps_X11_isOut rfl rfl rfl (by decide +kernel) ⟨Nat.le_of_ble_eq_true rfl, Nat.le_of_ble_eq_true rfl⟩) (g_preS [.ref m_all, .int (iI i0__7)] hP hD hK hN hS hA hZ [2] rfl rfl) rfl rfl hl.1 rfl (lv_room (Nat.le_of_ble_eq_true rfl)) dX11_wasps_39 ⟨Nat.le_of_ble_eq_true rfl, Nat.le_of_ble_eq_true rfl⟩) hP hD hS hA [2] [0, 1] rfl rfl rfl (by decide) (fun r_20 u H locs hw hP hD hS => ?_)
      refine ea_1_3 hw (fun rr_21 k_22 e8_0 e8_1 => ?_)
      subst e8_0
      subst e8_1
      clear hw
      have hPD : PD G A H [(m_refused, .inl (G.2 0, 3, .inl (cI mr))), (m0, .inr (10, [.ref m_all, .ref m_kept, .ref m_isKept, .ref m_refused, .long (lI m_above), .long (lI m_below), .ref m_hand, .ref m_fewest, .ref m_whoBites, .ref m_leaves, .ref m_bestFeast, .ref m_tells, .ref m_hardOn, .ref m_bytes, .int (iI m_bytesLong), .int (iI m_tokenAt), .int (iI m_tokenLong), .int (iI m_token), .int (iI m_value), .ref m_anew, .ref m_values])), (m_all, .inl (G.2 0, 311, .inl (cI mF)))] := ⟨hP, hD⟩
      have hP := hPD.1
      have hD := hPD.2
      clear hPD
      refine lv_if_ne (tgt := 125) hx hb dX11_wasps_42 (by decide) (fun c_23 => ?_) (fun c_23 => ?_)
      · have c_23 : ¬ (rr_21 = 0) := fun h9 => c_23 ((iI_eq (a := rr_21) (b := 0) (by omega) (by first | decide | omega)).mpr h9)
        refine lv_iinc (v := iI (i0__7 + 1)) (lv' := [(4, .int (iI (i0__7 + 1))), (2, .long (lI s0__6)), (0, .ref m0), (1, .int (iI a1))]) hx hb dX11_wasps_125 hl (k := 0) rfl (iI_add i0__7 1) (by decide) rfl (fun ls hl => ?_)
        refine lv_goto (tgt := 24) hx hb dX11_wasps_128 (by decide) ?_
        have hP := hP.sub (ws' := [(m0, .inr (10, [.ref m_all, .ref m_kept, .ref m_isKept, .ref m_refused, .long (lI m_above), .long (lI m_below), .ref m_hand, .ref m_fewest, .ref m_whoBites, .ref m_leaves, .ref m_bestFeast, .ref m_tells, .ref m_hardOn, .ref m_bytes, .int (iI m_bytesLong), .int (iI m_tokenAt), .int (iI m_tokenLong), .int (iI m_token), .int (iI m_value), .ref m_anew, .ref m_values])), (m_all, .inl (G.2 0, 311, .inl (cI mF))), (m_refused, .inl (G.2 0, 3, .inl (cI mr)))]) [1, 2, 0] rfl
        have hD := hD.sub (ws' := [(m0, .inr (10, [.ref m_all, .ref m_kept, .ref m_isKept, .ref m_refused, .long (lI m_above), .long (lI m_below), .ref m_hand, .ref m_fewest, .ref m_whoBites, .ref m_leaves, .ref m_bestFeast, .ref m_tells, .ref m_hardOn, .ref m_bytes, .int (iI m_bytesLong), .int (iI m_tokenAt), .int (iI m_tokenLong), .int (iI m_token), .int (iI m_value), .ref m_anew, .ref m_values])), (m_all, .inl (G.2 0, 311, .inl (cI mF))), (m_refused, .inl (G.2 0, 3, .inl (cI mr)))]) [1, 2, 0] rfl rfl
        exact ih_10 _ _ _ _ (by omega) ⟨s0__6, (i0__7 + 1), (by first | assumption | omega), (by first | exact f_9 | assumption | omega), rfl, hP, hD, hS, lv_sub hl [0, 1, 2, 3] rfl⟩
      · have c_23 := (iI_eq (a := rr_21) (b := 0) (by omega) (by first | decide | omega)).mp c_23
        refine lv_aload_n hx hb dX11_wasps_45 rfl (lv_at hl 2 rfl) ?_
        refine va_get (D := G.1) (ci := 10) (v := .ref m_all) (C := RX11) (T := TX11) (N := 21) hx hb hts (fun _ h => List.mem_cons_of_mem _ (inlX11 _ h)) hown hK hP 1 rfl rfl 0 (by decide) (hts _ (List.mem_cons_of_mem _ (in_r6 (List.mem_of_getElem? (i := 0) rfl)))) (fun _ h9 => h9) rfl dX11_wasps_46 ?_
        refine lv_bipush (v := iI 6) hx hb dX11_wasps_49 (by decide) ?_
        refine lv_iload hx hb dX11_wasps_51 (lv_at hl 0 rfl) ?_
        refine lv_iadd hx hb dX11_wasps_53 ?_
        refine g_topi (y := iI (6 + i0__7)) (iI_add 6 i0__7) ?_
        refine g_ild hx hb hK hP 2 rfl (by omega) (by omega) (by first | exact Nat.le_of_ble_eq_true rfl | omega) dX11_wasps_54 (fun w_24 ew_24 => ?_)
        have bw_24 : 0 ≤ w_24 ∧ w_24 ≤ 30 := by rw [← ew_24]; exact ⟨(y0_ _).1, Int.le_trans (y0_ _).2 (plAu_T (by omega) (by omega))⟩
        refine lv_iconst (v := iI 1) hx hb dX11_wasps_55 rfl ?_
        refine lv_isub hx hb dX11_wasps_56 ?_
        refine g_topi (y := iI (w_24 - 1)) (iI_sub w_24 1) ?_
        refine lv_istore (lv' := [(5, .int (iI (w_24 - 1))), (4, .int (iI i0__7)), (2, .long (lI s0__6)), (0, .ref m0), (1, .int (iI a1))]) hx hb dX11_wasps_57 hl (by decide) rfl (fun ls hl => ?_)
        refine lv_iload hx hb dX11_wasps_59 (lv_at hl 0 rfl) ?_
        refine g_joinH (jn := 100) (rest := []) (fun t_25 H locs ls => ((-2147483648 ≤ t_25 ∧ t_25 ≤ 2147483647)) ∧ va_P G.1 vwCl [(m_refused, .inl (G.2 0, 3, .inl (cI mr))), (m0, .inr (10, [.ref m_all, .ref m_kept, .ref m_isKept, .ref m_refused, .long (lI m_above), .long (lI m_below), .ref m_hand, .ref m_fewest, .ref m_whoBites, .ref m_leaves, .ref m_bestFeast, .ref m_tells, .ref m_hardOn, .ref m_bytes, .int (iI m_bytesLong), .int (iI m_tokenAt), .int (iI m_tokenLong), .int (iI m_token), .int (iI m_value), .ref m_anew, .ref m_values])), (m_all, .inl (G.2 0, 311, .inl (cI mF)))] H ∧ va_D A [(m_refused, .inl (G.2 0, 3, .inl (cI mr))), (m0, .inr (10, [.ref m_all, .ref m_kept, .ref m_isKept, .ref m_refused, .long (lI m_above), .long (lI m_below), .ref m_hand, .ref m_fewest, .ref m_whoBites, .ref m_leaves, .ref m_bestFeast, .ref m_tells, .ref m_hardOn, .ref m_bytes, .int (iI m_bytesLong), .int (iI m_tokenAt), .int (iI m_tokenLong), .int (iI m_token), .int (iI m_value), .ref m_anew, .ref m_values])), (m_all, .inl (G.2 0, 311, .inl (cI mF)))] ∧ va_S A s.heap H locs ∧ lv_has ls 7 [(5, .int (iI (w_24 - 1))), (4, .int (iI i0__7)), (2, .long (lI s0__6)), (0, .ref m0), (1, .int (iI a1))]) (fun t_25 H locs ls hI => ?_) (fun hJ_26 => ?_)
        · obtain ⟨f_27, hP, hD, hS, hl⟩ := hI
          refine lv_istore (lv' := [(6, .int (iI t_25)), (5, .int (iI (w_24 - 1))), (4, .int (iI i0__7)), (2, .long (lI s0__6)), (0, .ref m0), (1, .int (iI a1))]) hx hb dX11_wasps_100 hl (by decide) rfl (fun ls hl => ?_)
          refine lv_lload_n hx hb dX11_wasps_102 rfl (lv_at hl 3 rfl) ?_
          refine lv_iload_n hx hb dX11_wasps_103 rfl (lv_at hl 5 rfl) ?_
          refine lv_iload hx hb dX11_wasps_104 (lv_at hl 0 rfl) ?_
          refine lv_imul hx hb dX11_wasps_106 ?_
          refine g_topoi (fun z_28 hz_28 => ?_)
          refine lv_bipush (v := iI 10) hx hb dX11_wasps_107 (by decide) ?_
          refine lv_iload_n hx hb dX11_wasps_109 rfl (lv_at hl 5 rfl) ?_
          refine lv_isub hx hb dX11_wasps_110 ?_
          refine g_topi (y := iI (10 - a1)) (iI_sub 10 a1) ?_
          refine lv_aload_n hx hb dX11_wasps_111 rfl (lv_at hl 4 rfl) ?_
          refine va_get (D := G.1) (ci := 10) (v := .ref m_all) (C := RX11) (T := TX11) (N := 21) hx hb hts (fun _ h => List.mem_cons_of_mem _ (inlX11 _ h)) hown hK hP 1 rfl rfl 0 (by decide) (hts _ (List.mem_cons_of_mem _ (in_r6 (List.mem_of_getElem? (i := 0) rfl)))) (fun _ h9 => h9) rfl dX11_wasps_112 ?_
          refine lv_iload hx hb dX11_wasps_115 (lv_at hl 2 rfl) ?_
          refine g_calli (wr := [(m_refused, .inl (G.2 0, 3, .inl (cI mr))), (m0, .inr (10, [.ref m_all, .ref m_kept, .ref m_isKept, .ref m_refused, .long (lI m_above), .long (lI m_below), .ref m_hand, .ref m_fewest, .ref m_whoBites, .ref m_leaves, .ref m_bestFeast, .ref m_tells, .ref m_hardOn, .ref m_bytes, .int (iI m_bytesLong), .int (iI m_tokenAt), .int (iI m_tokenLong), .int (iI m_token), .int (iI m_value), .ref m_anew, .ref m_values]))]) (va_runS (As := [.ref m_all, .int (iI i0__7)]) (rest := [.int (iI (10 - a1)), .int (iI z_28), .long (lI s0__6)]) ⟨hx, hb, hml, hown, hts⟩ (c_X11_hardOf_311 l G (m_all) (mF) (K0) (i0__7) (by first | exact y0_ | exact bpA_mono y0_ (by omega) | assumption) (by first | exact hK0 | assumption | omega) (by first | assumption | omega) _) (va_cwS 2 hts gX11_wasps_X11_hardOf rfl rfl rfl (by decide +kernel) ⟨Nat.le_of_ble_eq_true rfl, Nat.le_of_ble_eq_true rfl⟩) (g_preS [.ref m_all, .int (iI i0__7)] hP hD hK hN hS hA hZ [2] rfl rfl) rfl rfl hl.1 rfl (lv_room (Nat.le_of_ble_eq_true rfl)) dX11_wasps_117 ⟨Nat.le_of_ble_eq_true rfl, Nat.le_of_ble_eq_true rfl⟩) hP hD hS hA [2] [0, 1] rfl rfl rfl (by decide) (fun r_29 u H locs hw hP hD hS => ?_)
          refine ea_1_4 hw (fun rr_30 k_31 k_32 e8_0 e8_1 => ?_)
          subst e8_0
          subst e8_1
          clear hw
          have hPD : PD G A H [(m_refused, .inl (G.2 0, 3, .inl (cI mr))), (m0, .inr (10, [.ref m_all, .ref m_kept, .ref m_isKept, .ref m_refused, .long (lI m_above), .long (lI m_below), .ref m_hand, .ref m_fewest, .ref m_whoBites, .ref m_leaves, .ref m_bestFeast, .ref m_tells, .ref m_hardOn, .ref m_bytes, .int (iI m_bytesLong), .int (iI m_tokenAt), .int (iI m_tokenLong), .int (iI m_token), .int (iI m_value), .ref m_anew, .ref m_values])), (m_all, .inl (G.2 0, 311, .inl (cI mF)))] := ⟨hP, hD⟩
          have hP := hPD.1
          have hD := hPD.2
          clear hPD
          refine lv_imul hx hb dX11_wasps_120 ?_
          refine g_topoi (fun z_33 hz_33 => ?_)
          refine lv_iadd hx hb dX11_wasps_121 ?_
          refine g_topi (y := iI (z_28 + z_33)) (iI_add z_28 z_33) ?_
          refine lv_i2l hx hb dX11_wasps_122 rfl ?_
          refine g_topol (fun z_34 hz_34 => ?_)
          refine lv_ladd hx hb dX11_wasps_123 ?_
          refine g_topol (fun z_35 hz_35 => ?_)
          refine lv_lstore_n (lv' := [(2, .long (lI z_35)), (6, .int (iI t_25)), (5, .int (iI (w_24 - 1))), (4, .int (iI i0__7)), (0, .ref m0), (1, .int (iI a1))]) hx hb dX11_wasps_124 rfl hl (by decide) rfl (fun ls hl => ?_)
          refine lv_iinc (v := iI (i0__7 + 1)) (lv' := [(4, .int (iI (i0__7 + 1))), (2, .long (lI z_35)), (6, .int (iI t_25)), (5, .int (iI (w_24 - 1))), (0, .ref m0), (1, .int (iI a1))]) hx hb dX11_wasps_125 hl (k := 3) rfl (iI_add i0__7 1) (by decide) rfl (fun ls hl => ?_)
          refine lv_goto (tgt := 24) hx hb dX11_wasps_128 (by decide) ?_
          have hP := hP.sub (ws' := [(m0, .inr (10, [.ref m_all, .ref m_kept, .ref m_isKept, .ref m_refused, .long (lI m_above), .long (lI m_below), .ref m_hand, .ref m_fewest, .ref m_whoBites, .ref m_leaves, .ref m_bestFeast, .ref m_tells, .ref m_hardOn, .ref m_bytes, .int (iI m_bytesLong), .int (iI m_tokenAt), .int (iI m_tokenLong), .int (iI m_token), .int (iI m_value), .ref m_anew, .ref m_values])), (m_all, .inl (G.2 0, 311, .inl (cI mF))), (m_refused, .inl (G.2 0, 3, .inl (cI mr)))]) [1, 2, 0] rfl
          have hD := hD.sub (ws' := [(m0, .inr (10, [.ref m_all, .ref m_kept, .ref m_isKept, .ref m_refused, .long (lI m_above), .long (lI m_below), .ref m_hand, .ref m_fewest, .ref m_whoBites, .ref m_leaves, .ref m_bestFeast, .ref m_tells, .ref m_hardOn, .ref m_bytes, .int (iI m_bytesLong), .int (iI m_tokenAt), .int (iI m_tokenLong), .int (iI m_token), .int (iI m_value), .ref m_anew, .ref m_values])), (m_all, .inl (G.2 0, 311, .inl (cI mF))), (m_refused, .inl (G.2 0, 3, .inl (cI mr)))]) [1, 2, 0] rfl rfl
          exact ih_10 _ _ _ _ (by omega) ⟨z_35, (i0__7 + 1), (by first | assumption | omega), (by first | assumption | omega), rfl, hP, hD, hS, lv_sub hl [0, 1, 4, 5] rfl⟩
        · refine lv_if_ne (tgt := 68) hx hb dX11_wasps_61 (by decide) (fun c_36 => ?_) (fun c_36 => ?_)
          · have c_36 : ¬ ((w_24 - 1) = 0) := fun h9 => c_36 ((iI_eq (a := (w_24 - 1)) (b := 0) (by omega) (by first | decide | omega)).mpr h9)
            refine lv_aload_n hx hb dX11_wasps_68 rfl (lv_at hl 3 rfl) ?_
            refine va_get (D := G.1) (ci := 10) (v := .ref m_all) (C := RX11) (T := TX11) (N := 21) hx hb hts (fun _ h => List.mem_cons_of_mem _ (inlX11 _ h)) hown hK hP 1 rfl rfl 0 (by decide) (hts _ (List.mem_cons_of_mem _ (in_r6 (List.mem_of_getElem? (i := 0) rfl)))) (fun _ h9 => h9) rfl dX11_wasps_69 ?_
            refine lv_bipush (v := iI 34) hx hb dX11_wasps_72 (by decide) ?_
            refine lv_iload hx hb dX11_wasps_74 (lv_at hl 1 rfl) ?_
            refine lv_iadd hx hb dX11_wasps_76 ?_
            refine g_topi (y := iI (34 + i0__7)) (iI_add 34 i0__7) ?_
            refine g_ild hx hb hK hP 2 rfl (by omega) (by omega) (by first | exact Nat.le_of_ble_eq_true rfl | omega) dX11_wasps_77 (fun w_37 ew_37 => ?_)
            have bw_37 : 0 ≤ w_37 ∧ w_37 ≤ K0 := by rw [← ew_37]; exact ⟨(y0_ _).1, Int.le_trans (y0_ _).2 (plA_le (by omega) _)⟩
            refine lv_iload hx hb dX11_wasps_78 (lv_at hl 0 rfl) ?_
            refine lv_aload_n hx hb dX11_wasps_80 rfl (lv_at hl 3 rfl) ?_
            refine va_get (D := G.1) (ci := 10) (v := .ref m_all) (C := RX11) (T := TX11) (N := 21) hx hb hts (fun _ h => List.mem_cons_of_mem _ (inlX11 _ h)) hown hK hP 1 rfl rfl 0 (by decide) (hts _ (List.mem_cons_of_mem _ (in_r6 (List.mem_of_getElem? (i := 0) rfl)))) (fun _ h9 => h9) rfl dX11_wasps_81 ?_
            refine lv_bipush (v := iI 13) hx hb dX11_wasps_84 (by decide) ?_
            refine lv_iload hx hb dX11_wasps_86 (lv_at hl 1 rfl) ?_
            refine lv_iadd hx hb dX11_wasps_88 ?_
            refine g_topi (y := iI (13 + i0__7)) (iI_add 13 i0__7) ?_
            refine g_ild hx hb hK hP 2 rfl (by omega) (by omega) (by first | exact Nat.le_of_ble_eq_true rfl | omega) dX11_wasps_89 (fun w_38 ew_38 => ?_)
            have bw_38 : 0 ≤ w_38 ∧ w_38 ≤ K0 := by rw [← ew_38]; exact ⟨(y0_ _).1, Int.le_trans (y0_ _).2 (plA_le (by omega) _)⟩
            refine lv_aload_n hx hb dX11_wasps_90 rfl (lv_at hl 3 rfl) ?_
            refine va_get (D := G.1) (ci := 10) (v := .ref m_all) (C := RX11) (T := TX11) (N := 21) hx hb hts (fun _ h => List.mem_cons_of_mem _ (inlX11 _ h)) hown hK hP 1 rfl rfl 0 (by decide) (hts _ (List.mem_cons_of_mem _ (in_r6 (List.mem_of_getElem? (i := 0) rfl)))) (fun _ h9 => h9) rfl dX11_wasps_91 ?_
            refine g_calli (wr := [(m_refused, .inl (G.2 0, 3, .inl (cI mr))), (m0, .inr (10, [.ref m_all, .ref m_kept, .ref m_isKept, .ref m_refused, .long (lI m_above), .long (lI m_below), .ref m_hand, .ref m_fewest, .ref m_whoBites, .ref m_leaves, .ref m_bestFeast, .ref m_tells, .ref m_hardOn, .ref m_bytes, .int (iI m_bytesLong), .int (iI m_tokenAt), .int (iI m_tokenLong), .int (iI m_token), .int (iI m_value), .ref m_anew, .ref m_values]))]) (va_runS (As := [.ref m_all]) (rest := [.int (iI w_38), .int (iI (w_24 - 1)), .int (iI w_37)]) ⟨hx, hb, hml, hown, hts⟩ (c_X11_dampOf_311 l G (m_all) (mF) (K0) (by first | exact y0_ | exact bpA_mono y0_ (by omega) | assumption) (by first | exact hK0 | assumption | omega) _) (va_cwS 1 hts gX11_wasps_X11_dampOf rfl rfl rfl (by decide +kernel) ⟨Nat.le_of_ble_eq_true rfl, Nat.le_of_ble_eq_true rfl⟩) (g_preS [.ref m_all] hP hD hK hN hS hA hZ [2] rfl rfl) rfl rfl hl.1 rfl (lv_room (Nat.le_of_ble_eq_true rfl)) dX11_wasps_94 ⟨Nat.le_of_ble_eq_true rfl, Nat.le_of_ble_eq_true rfl⟩) hP hD hS hA [2] [0, 1] rfl rfl rfl (by decide) (fun r_39 u H locs hw hP hD hS => ?_)
            refine ea_1_4 hw (fun rr_40 k_41 k_42 e8_0 e8_1 => ?_)
            subst e8_0
            subst e8_1
            clear hw
            have hPD : PD G A H [(m_refused, .inl (G.2 0, 3, .inl (cI mr))), (m0, .inr (10, [.ref m_all, .ref m_kept, .ref m_isKept, .ref m_refused, .long (lI m_above), .long (lI m_below), .ref m_hand, .ref m_fewest, .ref m_whoBites, .ref m_leaves, .ref m_bestFeast, .ref m_tells, .ref m_hardOn, .ref m_bytes, .int (iI m_bytesLong), .int (iI m_tokenAt), .int (iI m_tokenLong), .int (iI m_token), .int (iI m_value), .ref m_anew, .ref m_values])), (m_all, .inl (G.2 0, 311, .inl (cI mF)))] := ⟨hP, hD⟩
            have hP := hPD.1
            have hD := hPD.2
            clear hPD
            refine g_calli (wr := [(m_refused, .inl (G.2 0, 3, .inl (cI mr))), (m0, .inr (10, [.ref m_all, .ref m_kept, .ref m_isKept, .ref m_refused, .long (lI m_above), .long (lI m_below), .ref m_hand, .ref m_fewest, .ref m_whoBites, .ref m_leaves, .ref m_bestFeast, .ref m_tells, .ref m_hardOn, .ref m_bytes, .int (iI m_bytesLong), .int (iI m_tokenAt), .int (iI m_tokenLong), .int (iI m_token), .int (iI m_value), .ref m_anew, .ref m_values])), (m_all, .inl (G.2 0, 311, .inl (cI mF)))]) (va_runS (As := [.int (iI w_37), .int (iI (w_24 - 1)), .int (iI w_38), .int (iI rr_40)]) (rest := []) ⟨hx, hb, hml, hown, hts⟩ (c_X11_hardAs l G (w_37) ((w_24 - 1)) (w_38) (rr_40) (by first | assumption | omega) (by first | assumption | omega) (by first | assumption | omega) (by first | assumption | omega) _) (va_cwS 4 hts gX11_wasps_X11_hardAs rfl rfl rfl (by decide +kernel) ⟨Nat.le_of_ble_eq_true rfl, Nat.le_of_ble_eq_true rfl⟩) (g_preS [.int (iI w_37), .int (iI (w_24 - 1)), .int (iI w_38), .int (iI rr_40)] hP hD hK hN hS hA hZ [] rfl rfl) rfl rfl hl.1 rfl (lv_room (Nat.le_of_ble_eq_true rfl)) dX11_wasps_97 ⟨Nat.le_of_ble_eq_true rfl, Nat.le_of_ble_eq_true rfl⟩) hP hD hS hA [] [0, 1, 2] rfl rfl rfl (by decide) (fun r_43 u H locs hw hP hD hS => ?_)
            refine ea_1_4 hw (fun rr_44 k_45 k_46 e8_0 e8_1 => ?_)
            subst e8_0
            subst e8_1
            clear hw
            have hPD : PD G A H [(m_refused, .inl (G.2 0, 3, .inl (cI mr))), (m0, .inr (10, [.ref m_all, .ref m_kept, .ref m_isKept, .ref m_refused, .long (lI m_above), .long (lI m_below), .ref m_hand, .ref m_fewest, .ref m_whoBites, .ref m_leaves, .ref m_bestFeast, .ref m_tells, .ref m_hardOn, .ref m_bytes, .int (iI m_bytesLong), .int (iI m_tokenAt), .int (iI m_tokenLong), .int (iI m_token), .int (iI m_value), .ref m_anew, .ref m_values])), (m_all, .inl (G.2 0, 311, .inl (cI mF)))] := ⟨hP, hD⟩
            have hP := hPD.1
            have hD := hPD.2
            clear hPD
            exact hJ_26 rr_44 H locs ls ⟨by omega, hP, hD, hS, lv_sub hl [0, 1, 2, 3, 4] rfl⟩
          · have c_36 := (iI_eq (a := (w_24 - 1)) (b := 0) (by omega) (by first | decide | omega)).mp c_36
            refine lv_iconst (v := iI 0) hx hb dX11_wasps_64 rfl ?_
            refine lv_goto (tgt := 100) hx hb dX11_wasps_65 (by decide) ?_
            exact hJ_26 0 H locs ls ⟨by omega, hP, hD, hS, lv_sub hl [0, 1, 2, 3, 4] rfl⟩
  · refine ea_0_3 hw (fun k_4 e8_0 e8_1 => ?_)
    subst e8_0
    subst e8_1
    clear hw
    have hPD : PD G A H [(m0, .inr (10, [.ref m_all, .ref m_kept, .ref m_isKept, .ref m_refused, .long (lI m_above), .long (lI m_below), .ref m_hand, .ref m_fewest, .ref m_whoBites, .ref m_leaves, .ref m_bestFeast, .ref m_tells, .ref m_hardOn, .ref m_bytes, .int (iI m_bytesLong), .int (iI m_tokenAt), .int (iI m_tokenLong), .int (iI m_token), .int (iI m_value), .ref m_anew, .ref m_values])), (m_all, .inl (G.2 0, 311, .inl (cI mF))), (m_refused, .inl (G.2 0, 3, .inl (cI mr)))] := ⟨hP, hD⟩
    have hP := hPD.1
    have hD := hPD.2
    clear hPD
    refine lv_if_ne (tgt := 19) hx hb dX11_wasps_9 (by decide) (fun c_47 => g_no (by decide) c_47) (fun _ => ?_)
    refine lv_aload_n hx hb dX11_wasps_12 rfl (lv_at hl 0 rfl) ?_
    refine lv_bipush (v := iI (-2)) hx hb dX11_wasps_13 (by decide) ?_
    refine g_calli (wr := [(m_all, .inl (G.2 0, 311, .inl (cI mF)))]) (va_runV (As := [.int (iI (-2))]) (rest := []) ⟨hx, hb, hml, hown, hts⟩ (c_X11_bad l G (m0) (m_all) (m_kept) (m_isKept) (m_refused) (m_above) (m_below) (m_hand) (m_fewest) (m_whoBites) (m_leaves) (m_bestFeast) (m_tells) (m_hardOn) (m_bytes) (m_bytesLong) (m_tokenAt) (m_tokenLong) (m_token) (m_value) (m_anew) (m_values) (mr) ((-2)) (by first | assumption | omega) _) (cwV 1 hts gX11_wasps_X11_bad rfl rfl rfl (by decide +kernel) ⟨Nat.le_of_ble_eq_true rfl, Nat.le_of_ble_eq_true rfl⟩) (g_preV m0 [.int (iI (-2))] hP hD hK hN hS hA hZ [0, 2] rfl rfl 0 (ci := 10) rfl rfl) rfl rfl hl.1 rfl (lv_room (Nat.le_of_ble_eq_true rfl)) dX11_wasps_15 ⟨Nat.le_of_ble_eq_true rfl, Nat.le_of_ble_eq_true rfl⟩) hP hD hS hA [0, 2] [1] rfl rfl rfl (by decide) (fun r_48 u H locs hw hP hD hS => ?_)
    obtain ⟨Nr_49, rfl, rfl⟩ := hw
    have hPD : PD G A H [(m_all, .inl (G.2 0, 311, .inl (cI mF))), (m0, .inr (10, [.ref m_all, .ref m_kept, .ref m_isKept, .ref m_refused, .long (lI m_above), .long (lI m_below), .ref m_hand, .ref m_fewest, .ref m_whoBites, .ref m_leaves, .ref m_bestFeast, .ref m_tells, .ref m_hardOn, .ref m_bytes, .int (iI m_bytesLong), .int (iI m_tokenAt), .int (iI m_tokenLong), .int (iI m_token), .int (iI m_value), .ref m_anew, .ref m_values])), (m_refused, .inl (G.2 0, 3, .inl (cI Nr_49)))] := ⟨hP, hD⟩
    have hP := hPD.1
    have hD := hPD.2
    clear hPD
    have hP := hP.sub (ws' := [(m0, .inr (10, [.ref m_all, .ref m_kept, .ref m_isKept, .ref m_refused, .long (lI m_above), .long (lI m_below), .ref m_hand, .ref m_fewest, .ref m_whoBites, .ref m_leaves, .ref m_bestFeast, .ref m_tells, .ref m_hardOn, .ref m_bytes, .int (iI m_bytesLong), .int (iI m_tokenAt), .int (iI m_tokenLong), .int (iI m_token), .int (iI m_value), .ref m_anew, .ref m_values])), (m_all, .inl (G.2 0, 311, .inl (cI mF))), (m_refused, .inl (G.2 0, 3, .inl (cI Nr_49)))]) [1, 0, 2] rfl
    have hD := hD.sub (ws' := [(m0, .inr (10, [.ref m_all, .ref m_kept, .ref m_isKept, .ref m_refused, .long (lI m_above), .long (lI m_below), .ref m_hand, .ref m_fewest, .ref m_whoBites, .ref m_leaves, .ref m_bestFeast, .ref m_tells, .ref m_hardOn, .ref m_bytes, .int (iI m_bytesLong), .int (iI m_tokenAt), .int (iI m_tokenLong), .int (iI m_token), .int (iI m_value), .ref m_anew, .ref m_values])), (m_all, .inl (G.2 0, 311, .inl (cI mF))), (m_refused, .inl (G.2 0, 3, .inl (cI Nr_49)))]) [1, 0, 2] rfl rfl
    exact g_iret (v := (iI (-2))) hx hb hr hlocks hP hD hS (Or.inl ⟨Nr_49, (by first | exact k_4 | assumption | omega), rfl, rfl⟩) dX11_wasps_18
theorem dX11_augusts_0 : decode cX11_augusts 0 = .ok (.iload_n 1, 1) := kd_27 (by decide +kernel)
theorem dX11_augusts_1 : decode cX11_augusts 1 = .ok (.i2l, 1) := kd_133 (by decide +kernel)
theorem dX11_augusts_2 : decode cX11_augusts 2 = .ok (.lconst 0, 1) := kd_9 (by decide +kernel)
theorem dX11_augusts_3 : decode cX11_augusts 3 = .ok (.ldc2_w 216, 3) := kd_20 (a := 0) (b := 216) (by decide +kernel)
theorem gX11_augusts_X11_in : GoodIn wsX11_augusts (va_wsS RX11 65 yX11_in wsX11_in) := gW_S (in_r8 (List.mem_of_getElem? (i := 9) rfl)) (in_r8 (List.mem_of_getElem? (i := 10) rfl)) (in_r1 (List.mem_of_getElem? (i := 5) rfl)) (in_r8 (List.mem_of_getElem? (i := 11) rfl))
theorem dX11_augusts_6 : decode cX11_augusts 6 = .ok (.invokestatic 65, 3) := kd_184 (a := 0) (b := 65) (by decide +kernel)
theorem dX11_augusts_9 : decode cX11_augusts 9 = .ok (.ifCond .eq 15, 3) := kd_153 (a := 0) (b := 15) (by decide +kernel)
theorem dX11_augusts_12 : decode cX11_augusts 12 = .ok (.iload_n 2, 1) := kd_28 (by decide +kernel)
theorem dX11_augusts_13 : decode cX11_augusts 13 = .ok (.i2l, 1) := kd_133 (by decide +kernel)
theorem dX11_augusts_14 : decode cX11_augusts 14 = .ok (.lconst 0, 1) := kd_9 (by decide +kernel)
theorem dX11_augusts_15 : decode cX11_augusts 15 = .ok (.ldc2_w 131, 3) := kd_20 (a := 0) (b := 131) (by decide +kernel)
theorem dX11_augusts_18 : decode cX11_augusts 18 = .ok (.invokestatic 65, 3) := kd_184 (a := 0) (b := 65) (by decide +kernel)
theorem dX11_augusts_21 : decode cX11_augusts 21 = .ok (.ifCond .ne 10, 3) := kd_154 (a := 0) (b := 10) (by decide +kernel)
theorem dX11_augusts_31 : decode cX11_augusts 31 = .ok (.iload_n 1, 1) := kd_27 (by decide +kernel)
theorem dX11_augusts_32 : decode cX11_augusts 32 = .ok (.i2l, 1) := kd_133 (by decide +kernel)
theorem dX11_augusts_33 : decode cX11_augusts 33 = .ok (.lstore_n 3, 1) := kd_66 (by decide +kernel)
theorem dX11_augusts_34 : decode cX11_augusts 34 = .ok (.aload_n 0, 1) := kd_42 (by decide +kernel)
theorem gX11_augusts_X11_layHand : GoodIn wsX11_augusts (wsV RX11 162 RX11 yX11_layHand wsX11_layHand) := gW_V (in_r28 (List.mem_of_getElem? (i := 4) rfl)) (in_r28 (List.mem_of_getElem? (i := 5) rfl)) (in_r28 (List.mem_of_getElem? (i := 6) rfl)) (in_r1 (List.mem_of_getElem? (i := 5) rfl)) (in_r28 (List.mem_of_getElem? (i := 7) rfl))
theorem dX11_augusts_35 : decode cX11_augusts 35 = .ok (.invokevirtual 162, 3) := kd_182 (a := 0) (b := 162) (by decide +kernel)
theorem dX11_augusts_38 : decode cX11_augusts 38 = .ok (.iconst 0, 1) := kd_3 (by decide +kernel)
theorem dX11_augusts_39 : decode cX11_augusts 39 = .ok (.istore 5, 2) := kd_54 (a := 5) (by decide +kernel)
theorem dX11_augusts_41 : decode cX11_augusts 41 = .ok (.iload 5, 2) := kd_21 (a := 5) (by decide +kernel)
theorem dX11_augusts_43 : decode cX11_augusts 43 = .ok (.iload_n 2, 1) := kd_28 (by decide +kernel)
theorem dX11_augusts_44 : decode cX11_augusts 44 = .ok (.if_icmp .ge 83, 3) := kd_162 (a := 0) (b := 83) (by decide +kernel)
theorem dX11_augusts_127 : decode cX11_augusts 127 = .ok (.aload_n 0, 1) := kd_42 (by decide +kernel)
theorem dX11_augusts_128 : decode cX11_augusts 128 = .ok (.getfield 27, 3) := kd_180 (a := 0) (b := 27) (by decide +kernel)
theorem dX11_augusts_131 : decode cX11_augusts 131 = .ok (.iconst 1, 1) := kd_4 (by decide +kernel)
theorem gX11_augusts_X11_manyWith : GoodIn wsX11_augusts (va_wsS RX11 140 yX11_manyWith wsX11_manyWith) := gW_S (in_r24 (List.mem_of_getElem? (i := 10) rfl)) (in_r24 (List.mem_of_getElem? (i := 11) rfl)) (in_r1 (List.mem_of_getElem? (i := 5) rfl)) (in_r24 (List.mem_of_getElem? (i := 12) rfl))
theorem dX11_augusts_132 : decode cX11_augusts 132 = .ok (.invokestatic 140, 3) := kd_184 (a := 0) (b := 140) (by decide +kernel)
theorem dX11_augusts_135 : decode cX11_augusts 135 = .ok (.ireturn, 1) := kd_172 (by decide +kernel)
theorem dX11_augusts_47 : decode cX11_augusts 47 = .ok (.lload_n 3, 1) := kd_33 (by decide +kernel)
theorem dX11_augusts_48 : decode cX11_augusts 48 = .ok (.ldc2_w 218, 3) := kd_20 (a := 0) (b := 218) (by decide +kernel)
theorem dX11_augusts_51 : decode cX11_augusts 51 = .ok (.lmul, 1) := kd_105 (by decide +kernel)
theorem dX11_augusts_52 : decode cX11_augusts 52 = .ok (.ldc2_w 220, 3) := kd_20 (a := 0) (b := 220) (by decide +kernel)
theorem dX11_augusts_55 : decode cX11_augusts 55 = .ok (.ladd, 1) := kd_97 (by decide +kernel)
theorem dX11_augusts_56 : decode cX11_augusts 56 = .ok (.ldc2_w 222, 3) := kd_20 (a := 0) (b := 222) (by decide +kernel)
theorem dX11_augusts_59 : decode cX11_augusts 59 = .ok (.lrem, 1) := kd_113 (by decide +kernel)
theorem dX11_augusts_60 : decode cX11_augusts 60 = .ok (.lstore_n 3, 1) := kd_66 (by decide +kernel)
theorem dX11_augusts_61 : decode cX11_augusts 61 = .ok (.lload_n 3, 1) := kd_33 (by decide +kernel)
theorem dX11_augusts_62 : decode cX11_augusts 62 = .ok (.ldc2_w 224, 3) := kd_20 (a := 0) (b := 224) (by decide +kernel)
theorem dX11_augusts_65 : decode cX11_augusts 65 = .ok (.ldiv, 1) := kd_109 (by decide +kernel)
theorem dX11_augusts_66 : decode cX11_augusts 66 = .ok (.ldc2_w 71, 3) := kd_20 (a := 0) (b := 71) (by decide +kernel)
theorem dX11_augusts_69 : decode cX11_augusts 69 = .ok (.lrem, 1) := kd_113 (by decide +kernel)
theorem dX11_augusts_70 : decode cX11_augusts 70 = .ok (.l2i, 1) := kd_136 (by decide +kernel)
theorem dX11_augusts_71 : decode cX11_augusts 71 = .ok (.istore 6, 2) := kd_54 (a := 6) (by decide +kernel)
theorem dX11_augusts_73 : decode cX11_augusts 73 = .ok (.lload_n 3, 1) := kd_33 (by decide +kernel)
theorem dX11_augusts_74 : decode cX11_augusts 74 = .ok (.ldc2_w 226, 3) := kd_20 (a := 0) (b := 226) (by decide +kernel)
theorem dX11_augusts_77 : decode cX11_augusts 77 = .ok (.ldiv, 1) := kd_109 (by decide +kernel)
theorem dX11_augusts_78 : decode cX11_augusts 78 = .ok (.ldc2_w 228, 3) := kd_20 (a := 0) (b := 228) (by decide +kernel)
theorem dX11_augusts_81 : decode cX11_augusts 81 = .ok (.lrem, 1) := kd_113 (by decide +kernel)
theorem dX11_augusts_82 : decode cX11_augusts 82 = .ok (.l2i, 1) := kd_136 (by decide +kernel)
theorem dX11_augusts_83 : decode cX11_augusts 83 = .ok (.istore 7, 2) := kd_54 (a := 7) (by decide +kernel)
theorem dX11_augusts_85 : decode cX11_augusts 85 = .ok (.aload_n 0, 1) := kd_42 (by decide +kernel)
theorem dX11_augusts_86 : decode cX11_augusts 86 = .ok (.iload 6, 2) := kd_21 (a := 6) (by decide +kernel)
theorem gX11_augusts_X11_isBiter : GoodIn wsX11_augusts (wsV RX11 143 RX11 yX11_isBiter wsX11_isBiter) := gW_V (in_r25 (List.mem_of_getElem? (i := 5) rfl)) (in_r25 (List.mem_of_getElem? (i := 6) rfl)) (in_r25 (List.mem_of_getElem? (i := 7) rfl)) (in_r1 (List.mem_of_getElem? (i := 5) rfl)) (in_r25 (List.mem_of_getElem? (i := 8) rfl))
theorem dX11_augusts_88 : decode cX11_augusts 88 = .ok (.invokevirtual 143, 3) := kd_182 (a := 0) (b := 143) (by decide +kernel)
theorem dX11_augusts_91 : decode cX11_augusts 91 = .ok (.ifCond .eq 23, 3) := kd_153 (a := 0) (b := 23) (by decide +kernel)
theorem dX11_augusts_94 : decode cX11_augusts 94 = .ok (.aload_n 0, 1) := kd_42 (by decide +kernel)
theorem dX11_augusts_95 : decode cX11_augusts 95 = .ok (.iload 7, 2) := kd_21 (a := 7) (by decide +kernel)
theorem gX11_augusts_X11_isApple : GoodIn wsX11_augusts (wsV RX11 146 RX11 yX11_isApple wsX11_isApple) := gW_V (in_r25 (List.mem_of_getElem? (i := 9) rfl)) (in_r25 (List.mem_of_getElem? (i := 10) rfl)) (in_r25 (List.mem_of_getElem? (i := 11) rfl)) (in_r1 (List.mem_of_getElem? (i := 5) rfl)) (in_r25 (List.mem_of_getElem? (i := 12) rfl))
theorem dX11_augusts_97 : decode cX11_augusts 97 = .ok (.invokevirtual 146, 3) := kd_182 (a := 0) (b := 146) (by decide +kernel)
theorem dX11_augusts_100 : decode cX11_augusts 100 = .ok (.ifCond .eq 14, 3) := kd_153 (a := 0) (b := 14) (by decide +kernel)
theorem dX11_augusts_103 : decode cX11_augusts 103 = .ok (.aload_n 0, 1) := kd_42 (by decide +kernel)
theorem dX11_augusts_104 : decode cX11_augusts 104 = .ok (.getfield 27, 3) := kd_180 (a := 0) (b := 27) (by decide +kernel)
theorem dX11_augusts_107 : decode cX11_augusts 107 = .ok (.iload 6, 2) := kd_21 (a := 6) (by decide +kernel)
theorem dX11_augusts_109 : decode cX11_augusts 109 = .ok (.iload 7, 2) := kd_21 (a := 7) (by decide +kernel)
theorem gX11_augusts_X11_goBite : GoodIn wsX11_augusts (va_wsS RX11 152 yX11_goBite wsX11_goBite) := gW_S (in_r21 (List.mem_of_getElem? (i := 17) rfl)) (in_r21 (List.mem_of_getElem? (i := 18) rfl)) (in_r1 (List.mem_of_getElem? (i := 5) rfl)) (in_r21 (List.mem_of_getElem? (i := 19) rfl))
theorem dX11_augusts_111 : decode cX11_augusts 111 = .ok (.invokestatic 152, 3) := kd_184 (a := 0) (b := 152) (by decide +kernel)
theorem dX11_augusts_114 : decode cX11_augusts 114 = .ok (.aload_n 0, 1) := kd_42 (by decide +kernel)
theorem dX11_augusts_115 : decode cX11_augusts 115 = .ok (.getfield 27, 3) := kd_180 (a := 0) (b := 27) (by decide +kernel)
theorem gX11_augusts_X11_goDay : GoodIn wsX11_augusts (va_wsS RX11 128 yX11_goDay wsX11_goDay) := gW_S (in_r23 (List.mem_of_getElem? (i := 1) rfl)) (in_r23 (List.mem_of_getElem? (i := 2) rfl)) (in_r1 (List.mem_of_getElem? (i := 5) rfl)) (in_r23 (List.mem_of_getElem? (i := 3) rfl))
theorem dX11_augusts_118 : decode cX11_augusts 118 = .ok (.invokestatic 128, 3) := kd_184 (a := 0) (b := 128) (by decide +kernel)
theorem dX11_augusts_121 : decode cX11_augusts 121 = .ok (.iinc 5 1, 3) := kd_132 (a := 5) (b := 1) (by decide +kernel)
theorem dX11_augusts_124 : decode cX11_augusts 124 = .ok (.goto (-83), 3) := kd_167 (a := 255) (b := 173) (by decide +kernel)
theorem dX11_augusts_24 : decode cX11_augusts 24 = .ok (.aload_n 0, 1) := kd_42 (by decide +kernel)
theorem dX11_augusts_25 : decode cX11_augusts 25 = .ok (.bipush (-2), 2) := kd_16 (a := 254) (by decide +kernel)
theorem gX11_augusts_X11_bad : GoodIn wsX11_augusts (wsV RX11 79 RX11 yX11_bad wsX11_bad) := gW_V (in_r8 (List.mem_of_getElem? (i := 16) rfl)) (in_r8 (List.mem_of_getElem? (i := 17) rfl)) (in_r8 (List.mem_of_getElem? (i := 18) rfl)) (in_r1 (List.mem_of_getElem? (i := 5) rfl)) (in_r8 (List.mem_of_getElem? (i := 19) rfl))
theorem dX11_augusts_27 : decode cX11_augusts 27 = .ok (.invokevirtual 79, 3) := kd_182 (a := 0) (b := 79) (by decide +kernel)
theorem dX11_augusts_30 : decode cX11_augusts 30 = .ok (.ireturn, 1) := kd_172 (by decide +kernel)
set_option maxHeartbeats 8000000 in
set_option maxRecDepth 100000 in
theorem c_X11_augusts (l : Launch) (G : gG) (m0 : Nat) (m_all : Nat) (m_kept : Nat) (m_isKept : Nat) (m_refused : Nat) (m_above : Int) (m_below : Int) (m_hand : Nat) (m_fewest : Nat) (m_whoBites : Nat) (m_leaves : Nat) (m_bestFeast : Nat) (m_tells : Nat) (m_hardOn : Nat) (m_bytes : Nat) (m_bytesLong : Int) (m_tokenAt : Int) (m_tokenLong : Int) (m_token : Int) (m_value : Int) (m_anew : Nat) (m_values : Nat) (mF : Nat → Int) (K0 : Int) (mh : Nat → Int) (mr : Nat → Int) (a1 : Int) (a2 : Int) (y0_ : bp (plA K0) mF) (ra1 : -2147483648 ≤ a1 ∧ a1 ≤ 2147483647) (ra2 : -2147483648 ≤ a2 ∧ a2 ≤ 2147483647) (hK0 : 1000 ≤ K0 ∧ K0 ≤ 1900000) (sz : Nat) : gI G l yX11_augusts wsX11_augusts ({ frames := 4, cells := 0, slots := 0, locals := 93 } : Room) [.ref m0, .int (iI a1), .int (iI a2)] [(m0, .inr (10, [.ref m_all, .ref m_kept, .ref m_isKept, .ref m_refused, .long (lI m_above), .long (lI m_below), .ref m_hand, .ref m_fewest, .ref m_whoBites, .ref m_leaves, .ref m_bestFeast, .ref m_tells, .ref m_hardOn, .ref m_bytes, .int (iI m_bytesLong), .int (iI m_tokenAt), .int (iI m_tokenLong), .int (iI m_token), .int (iI m_value), .ref m_anew, .ref m_values])), (m_all, .inl (G.2 0, 311, .inl (cI mF))), (m_hand, .inl (G.2 0, 56, .inl (cI mh))), (m_refused, .inl (G.2 0, 3, .inl (cI mr)))] sz (fun (r : Int32) (u : va_W) => (∃ rr : Int, ∃ N_h : Nat → Int, ∃ N_r : Nat → Int, r = (iI rr) ∧ u = [(m0, .inr (10, [.ref m_all, .ref m_kept, .ref m_isKept, .ref m_refused, .long (lI m_above), .long (lI m_below), .ref m_hand, .ref m_fewest, .ref m_whoBites, .ref m_leaves, .ref m_bestFeast, .ref m_tells, .ref m_hardOn, .ref m_bytes, .int (iI m_bytesLong), .int (iI m_tokenAt), .int (iI m_tokenLong), .int (iI m_token), .int (iI m_value), .ref m_anew, .ref m_values])), (m_all, .inl (G.2 0, 311, .inl (cI mF))), (m_hand, .inl (G.2 0, 56, .inl (cI N_h))), (m_refused, .inl (G.2 0, 3, .inl (cI N_r)))])) := by
  refine Met.ofW (cc := cX11_augusts) (maxL := 8) (ret := (some .int)) (by decide) rfl ?_
  intro p e s m args below meth c s₁ B hml hv
  obtain ⟨rfl, hsz, hP, hK, hD0, hN, hZ⟩ := hv
  have hx := B.exec
  have hb := B.bytes
  have hr := B.returns
  have hts := atoms_spec (ws := wsX11_augusts) B.pre
  have hown : s.vm.findClass RX11 = some m.cls := findClass_of_methodNamed B.named
  have hlocks := B.notSynchronized
  subst hsz
  have hD := hD0.self (sz := s.heap.size)
  generalize hAe : va_A [(m0, .inr (10, [.ref m_all, .ref m_kept, .ref m_isKept, .ref m_refused, .long (lI m_above), .long (lI m_below), .ref m_hand, .ref m_fewest, .ref m_whoBites, .ref m_leaves, .ref m_bestFeast, .ref m_tells, .ref m_hardOn, .ref m_bytes, .int (iI m_bytesLong), .int (iI m_tokenAt), .int (iI m_tokenLong), .int (iI m_token), .int (iI m_value), .ref m_anew, .ref m_values])), (m_all, .inl (G.2 0, 311, .inl (cI mF))), (m_hand, .inl (G.2 0, 56, .inl (cI mh))), (m_refused, .inl (G.2 0, 3, .inl (cI mr)))] s.heap.size = A at hD hZ ⊢
  have hA : ∀ q : Nat, s.heap.size ≤ q → A q := fun q h => by rw [← hAe]; exact Or.inr h
  have hS : va_S A s.heap s.heap [] := va_S.rf
  have hP : va_P G.1 vwCl [(m0, .inr (10, [.ref m_all, .ref m_kept, .ref m_isKept, .ref m_refused, .long (lI m_above), .long (lI m_below), .ref m_hand, .ref m_fewest, .ref m_whoBites, .ref m_leaves, .ref m_bestFeast, .ref m_tells, .ref m_hardOn, .ref m_bytes, .int (iI m_bytesLong), .int (iI m_tokenAt), .int (iI m_tokenLong), .int (iI m_token), .int (iI m_value), .ref m_anew, .ref m_values])), (m_all, .inl (G.2 0, 311, .inl (cI mF))), (m_hand, .inl (G.2 0, 56, .inl (cI mh))), (m_refused, .inl (G.2 0, 3, .inl (cI mr)))] s.heap := hP
  have hl := lv_entry ([.ref m0, .int (iI a1), .int (iI a2)]) (n := 8) (Nat.le_of_ble_eq_true rfl)
  rw [lg_entry_eq]
  generalize (lg_sl ([.ref m0, .int (iI a1), .int (iI a2)]) ++ List.replicate (8 - (lg_sl ([.ref m0, .int (iI a1), .int (iI a2)])).length) Slot.unset).toArray = ls at hl ⊢
  have hl : lv_has ls 8 [(0, .ref m0), (1, .int (iI a1)), (2, .int (iI a2))] := hl
  refine lv_iload_n hx hb dX11_augusts_0 rfl (lv_at hl 1 rfl) ?_
  refine lv_i2l (v := lI a1) hx hb dX11_augusts_1 (i2l_iI (by omega)) ?_
  refine lv_lconst (v := lI 0) hx hb dX11_augusts_2 (by decide) ?_
  refine lv_ldc2 (v := 999999) hx hb hown (hts _ (List.mem_cons_of_mem _ (in_r40 (List.mem_of_getElem? (i := 11) rfl)))) dX11_augusts_3 ?_
  refine g_topl (y := lI 999999) (by decide) ?_
  refine g_calli (wr := [(m0, .inr (10, [.ref m_all, .ref m_kept, .ref m_isKept, .ref m_refused, .long (lI m_above), .long (lI m_below), .ref m_hand, .ref m_fewest, .ref m_whoBites, .ref m_leaves, .ref m_bestFeast, .ref m_tells, .ref m_hardOn, .ref m_bytes, .int (iI m_bytesLong), .int (iI m_tokenAt), .int (iI m_tokenLong), .int (iI m_token), .int (iI m_value), .ref m_anew, .ref m_values])), (m_all, .inl (G.2 0, 311, .inl (cI mF))), (m_hand, .inl (G.2 0, 56, .inl (cI mh))), (m_refused, .inl (G.2 0, 3, .inl (cI mr)))]) (va_runS (As := [.long (lI a1), .long (lI 0), .long (lI 999999)]) (rest := []) ⟨hx, hb, hml, hown, hts⟩ (c_X11_in l G (a1) (0) (999999) (by first | assumption | omega) (by first | assumption | omega) (by first | assumption | omega) _) (va_cwS 3 hts gX11_augusts_X11_in rfl rfl rfl (by decide +kernel) ⟨Nat.le_of_ble_eq_true rfl, Nat.le_of_ble_eq_true rfl⟩) (g_preS [.long (lI a1), .long (lI 0), .long (lI 999999)] hP hD hK hN hS hA hZ [] rfl rfl) rfl rfl hl.1 rfl (lv_room (Nat.le_of_ble_eq_true rfl)) dX11_augusts_6 ⟨Nat.le_of_ble_eq_true rfl, Nat.le_of_ble_eq_true rfl⟩) hP hD hS hA [] [0, 1, 2, 3] rfl rfl rfl (by decide) (fun r_1 u H locs hw hP hD hS => ?_)
  rcases hw with hw | hw
  · refine ea_0_4 hw (fun k_2 k_3 e8_0 e8_1 => ?_)
    subst e8_0
    subst e8_1
    clear hw
    have hPD : PD G A H [(m0, .inr (10, [.ref m_all, .ref m_kept, .ref m_isKept, .ref m_refused, .long (lI m_above), .long (lI m_below), .ref m_hand, .ref m_fewest, .ref m_whoBites, .ref m_leaves, .ref m_bestFeast, .ref m_tells, .ref m_hardOn, .ref m_bytes, .int (iI m_bytesLong), .int (iI m_tokenAt), .int (iI m_tokenLong), .int (iI m_token), .int (iI m_value), .ref m_anew, .ref m_values])), (m_all, .inl (G.2 0, 311, .inl (cI mF))), (m_hand, .inl (G.2 0, 56, .inl (cI mh))), (m_refused, .inl (G.2 0, 3, .inl (cI mr)))] := ⟨hP, hD⟩
    have hP := hPD.1
    have hD := hPD.2
    clear hPD
    refine lv_if_eq (tgt := 24) hx hb dX11_augusts_9 (by decide) (fun c_5 => g_no c_5 (by decide)) (fun _ => ?_)
    refine lv_iload_n hx hb dX11_augusts_12 rfl (lv_at hl 2 rfl) ?_
    refine lv_i2l (v := lI a2) hx hb dX11_augusts_13 (i2l_iI (by omega)) ?_
    refine lv_lconst (v := lI 0) hx hb dX11_augusts_14 (by decide) ?_
    refine lv_ldc2 (v := 60) hx hb hown (hts _ (List.mem_cons_of_mem _ (in_r24 (List.mem_of_getElem? (i := 5) rfl)))) dX11_augusts_15 ?_
    refine g_topl (y := lI 60) (by decide) ?_
    refine g_calli (wr := [(m0, .inr (10, [.ref m_all, .ref m_kept, .ref m_isKept, .ref m_refused, .long (lI m_above), .long (lI m_below), .ref m_hand, .ref m_fewest, .ref m_whoBites, .ref m_leaves, .ref m_bestFeast, .ref m_tells, .ref m_hardOn, .ref m_bytes, .int (iI m_bytesLong), .int (iI m_tokenAt), .int (iI m_tokenLong), .int (iI m_token), .int (iI m_value), .ref m_anew, .ref m_values])), (m_all, .inl (G.2 0, 311, .inl (cI mF))), (m_hand, .inl (G.2 0, 56, .inl (cI mh))), (m_refused, .inl (G.2 0, 3, .inl (cI mr)))]) (va_runS (As := [.long (lI a2), .long (lI 0), .long (lI 60)]) (rest := []) ⟨hx, hb, hml, hown, hts⟩ (c_X11_in l G (a2) (0) (60) (by first | assumption | omega) (by first | assumption | omega) (by first | assumption | omega) _) (va_cwS 3 hts gX11_augusts_X11_in rfl rfl rfl (by decide +kernel) ⟨Nat.le_of_ble_eq_true rfl, Nat.le_of_ble_eq_true rfl⟩) (g_preS [.long (lI a2), .long (lI 0), .long (lI 60)] hP hD hK hN hS hA hZ [] rfl rfl) rfl rfl hl.1 rfl (lv_room (Nat.le_of_ble_eq_true rfl)) dX11_augusts_18 ⟨Nat.le_of_ble_eq_true rfl, Nat.le_of_ble_eq_true rfl⟩) hP hD hS hA [] [0, 1, 2, 3] rfl rfl rfl (by decide) (fun r_6 u H locs hw hP hD hS => ?_)
    rcases hw with hw | hw
    · refine ea_0_4 hw (fun k_7 k_8 e8_0 e8_1 => ?_)
      subst e8_0
      subst e8_1
      clear hw
      have hPD : PD G A H [(m0, .inr (10, [.ref m_all, .ref m_kept, .ref m_isKept, .ref m_refused, .long (lI m_above), .long (lI m_below), .ref m_hand, .ref m_fewest, .ref m_whoBites, .ref m_leaves, .ref m_bestFeast, .ref m_tells, .ref m_hardOn, .ref m_bytes, .int (iI m_bytesLong), .int (iI m_tokenAt), .int (iI m_tokenLong), .int (iI m_token), .int (iI m_value), .ref m_anew, .ref m_values])), (m_all, .inl (G.2 0, 311, .inl (cI mF))), (m_hand, .inl (G.2 0, 56, .inl (cI mh))), (m_refused, .inl (G.2 0, 3, .inl (cI mr)))] := ⟨hP, hD⟩
      have hP := hPD.1
      have hD := hPD.2
      clear hPD
      refine lv_if_ne (tgt := 31) hx hb dX11_augusts_21 (by decide) (fun _ => ?_) (fun c_10 => g_no c_10 (by decide))
      refine lv_iload_n hx hb dX11_augusts_31 rfl (lv_at hl 1 rfl) ?_
      refine lv_i2l (v := lI a1) hx hb dX11_augusts_32 (i2l_iI (by omega)) ?_
      refine lv_lstore_n (lv' := [(3, .long (lI a1)), (0, .ref m0), (1, .int (iI a1)), (2, .int (iI a2))]) hx hb dX11_augusts_33 rfl hl (by decide) rfl (fun ls hl => ?_)
      refine lv_aload_n hx hb dX11_augusts_34 rfl (lv_at hl 1 rfl) ?_
      refine g_callv (wr := [(m_refused, .inl (G.2 0, 3, .inl (cI mr)))]) (va_runV (As := []) (rest := []) ⟨hx, hb, hml, hown, hts⟩ (c_X11_layHand l G (m0) (m_all) (m_kept) (m_isKept) (m_refused) (m_above) (m_below) (m_hand) (m_fewest) (m_whoBites) (m_leaves) (m_bestFeast) (m_tells) (m_hardOn) (m_bytes) (m_bytesLong) (m_tokenAt) (m_tokenLong) (m_token) (m_value) (m_anew) (m_values) (mF) (K0) (mh) (by first | exact y0_ | exact bpA_mono y0_ (by omega) | assumption) (by first | assumption | omega) _) (cwV 0 hts gX11_augusts_X11_layHand rfl rfl rfl (by decide +kernel) ⟨Nat.le_of_ble_eq_true rfl, Nat.le_of_ble_eq_true rfl⟩) (g_preV m0 [] hP hD hK hN hS hA hZ [0, 1, 2] rfl rfl 0 (ci := 10) rfl rfl) rfl rfl hl.1 rfl (lv_room (Nat.le_of_ble_eq_true rfl)) dX11_augusts_35 ⟨Nat.le_of_ble_eq_true rfl, Nat.le_of_ble_eq_true rfl⟩) hP hD hS hA [0, 1, 2] [3] rfl rfl rfl (by decide) (fun u H locs hw hP hD hS => ?_)
      subst hw
      have hPD : PD G A H [(m_refused, .inl (G.2 0, 3, .inl (cI mr))), (m0, .inr (10, [.ref m_all, .ref m_kept, .ref m_isKept, .ref m_refused, .long (lI m_above), .long (lI m_below), .ref m_hand, .ref m_fewest, .ref m_whoBites, .ref m_leaves, .ref m_bestFeast, .ref m_tells, .ref m_hardOn, .ref m_bytes, .int (iI m_bytesLong), .int (iI m_tokenAt), .int (iI m_tokenLong), .int (iI m_token), .int (iI m_value), .ref m_anew, .ref m_values])), (m_all, .inl (G.2 0, 311, .inl (cI mF))), (m_hand, .inl (G.2 0, 56, .inl (cI mF)))] := ⟨hP, hD⟩
      have hP := hPD.1
      have hD := hPD.2
      clear hPD
      refine lv_iconst (v := iI 0) hx hb dX11_augusts_38 rfl ?_
      refine lv_istore (lv' := [(5, .int (iI 0)), (3, .long (lI a1)), (0, .ref m0), (1, .int (iI a1)), (2, .int (iI a2))]) hx hb dX11_augusts_39 hl (by decide) rfl (fun ls hl => ?_)
      refine g_loopN (pc := 41) (fun nn H locs ls => ∃ x0__11 : Int, ∃ i0__12 : Int, ∃ Eh_13 : Nat → Int, (0 ≤ i0__12 ∧ i0__12 ≤ 60) ∧ ((-9223372036854775808 ≤ x0__11 ∧ x0__11 ≤ 9223372036854775807)) ∧ (bp (plA (K0 + i0__12)) Eh_13) ∧ (60 - i0__12).toNat = nn ∧ va_P G.1 vwCl [(m_refused, .inl (G.2 0, 3, .inl (cI mr))), (m0, .inr (10, [.ref m_all, .ref m_kept, .ref m_isKept, .ref m_refused, .long (lI m_above), .long (lI m_below), .ref m_hand, .ref m_fewest, .ref m_whoBites, .ref m_leaves, .ref m_bestFeast, .ref m_tells, .ref m_hardOn, .ref m_bytes, .int (iI m_bytesLong), .int (iI m_tokenAt), .int (iI m_tokenLong), .int (iI m_token), .int (iI m_value), .ref m_anew, .ref m_values])), (m_all, .inl (G.2 0, 311, .inl (cI mF))), (m_hand, .inl (G.2 0, 56, .inl (cI Eh_13)))] H ∧ va_D A [(m_refused, .inl (G.2 0, 3, .inl (cI mr))), (m0, .inr (10, [.ref m_all, .ref m_kept, .ref m_isKept, .ref m_refused, .long (lI m_above), .long (lI m_below), .ref m_hand, .ref m_fewest, .ref m_whoBites, .ref m_leaves, .ref m_bestFeast, .ref m_tells, .ref m_hardOn, .ref m_bytes, .int (iI m_bytesLong), .int (iI m_tokenAt), .int (iI m_tokenLong), .int (iI m_token), .int (iI m_value), .ref m_anew, .ref m_values])), (m_all, .inl (G.2 0, 311, .inl (cI mF))), (m_hand, .inl (G.2 0, 56, .inl (cI Eh_13)))] ∧ va_S A s.heap H locs ∧ lv_has ls 8 [(5, .int (iI i0__12)), (3, .long (lI x0__11)), (0, .ref m0), (1, .int (iI a1)), (2, .int (iI a2))]) ?_ ⟨a1, 0, mF, (by first | assumption | omega), (by first | assumption | omega), (by first | exact y0_ | exact bpA_mono y0_ (by omega) | assumption), rfl, hP, hD, hS, lv_sub hl [0, 1, 2, 3, 4] rfl⟩
      intro nn_18 H locs ls ih_17 hI
      refine ea_3_8 hI (fun x0__11 i0__12 Eh_13 f_14 f_15 f_16 hnn_19 hP hD hS hl => ?_)
      clear hI
      refine lv_iload hx hb dX11_augusts_41 (lv_at hl 0 rfl) ?_
      refine lv_iload_n hx hb dX11_augusts_43 rfl (lv_at hl 4 rfl) ?_
      refine lv_icmp_ge (tgt := 127) hx hb dX11_augusts_44 (by decide) (fun c_20 => ?_) (fun c_20 => ?_)
      · have c_20 := (iI_le (a := a2) (b := i0__12) (by omega) (by omega)).mp c_20
        refine lv_aload_n hx hb dX11_augusts_127 rfl (lv_at hl 2 rfl) ?_
        refine va_get (D := G.1) (ci := 10) (v := .ref m_hand) (C := RX11) (T := TX11) (N := 21) hx hb hts (fun _ h => List.mem_cons_of_mem _ (inlX11 _ h)) hown hK hP 1 rfl rfl 6 (by decide) (hts _ (List.mem_cons_of_mem _ (in_r6 (List.mem_of_getElem? (i := 5) rfl)))) (fun _ h9 => h9) rfl dX11_augusts_128 ?_
        refine lv_iconst (v := iI 1) hx hb dX11_augusts_131 rfl ?_
        refine g_calli (wr := [(m_refused, .inl (G.2 0, 3, .inl (cI mr))), (m0, .inr (10, [.ref m_all, .ref m_kept, .ref m_isKept, .ref m_refused, .long (lI m_above), .long (lI m_below), .ref m_hand, .ref m_fewest, .ref m_whoBites, .ref m_leaves, .ref m_bestFeast, .ref m_tells, .ref m_hardOn, .ref m_bytes, .int (iI m_bytesLong), .int (iI m_tokenAt), .int (iI m_tokenLong), .int (iI m_token), .int (iI m_value), .ref m_anew, .ref m_values])), (m_all, .inl (G.2 0, 311, .inl (cI mF)))]) (va_runS (As := [.ref m_hand, .int (iI 1)]) (rest := []) ⟨hx, hb, hml, hown, hts⟩ (c_X11_manyWith_56 l G (m_hand) (Eh_13) ((K0 + i0__12)) (1) (by first | exact f_16 | exact bpA_mono f_16 (by omega) | assumption) (by first | assumption | omega) (by first | assumption | omega) _) (va_cwS 2 hts gX11_augusts_X11_manyWith rfl rfl rfl (by decide +kernel) ⟨Nat.le_of_ble_eq_true rfl, Nat.le_of_ble_eq_true rfl⟩) (g_preS [.ref m_hand, .int (iI 1)] hP hD hK hN hS hA hZ [3] rfl rfl) rfl rfl hl.1 rfl (lv_room (Nat.le_of_ble_eq_true rfl)) dX11_augusts_132 ⟨Nat.le_of_ble_eq_true rfl, Nat.le_of_ble_eq_true rfl⟩) hP hD hS hA [3] [0, 1, 2] rfl rfl rfl (by decide) (fun r_21 u H locs hw hP hD hS => ?_)
        obtain ⟨rr_22, rfl, rfl⟩ := hw
        have hPD : PD G A H [(m_refused, .inl (G.2 0, 3, .inl (cI mr))), (m0, .inr (10, [.ref m_all, .ref m_kept, .ref m_isKept, .ref m_refused, .long (lI m_above), .long (lI m_below), .ref m_hand, .ref m_fewest, .ref m_whoBites, .ref m_leaves, .ref m_bestFeast, .ref m_tells, .ref m_hardOn, .ref m_bytes, .int (iI m_bytesLong), .int (iI m_tokenAt), .int (iI m_tokenLong), .int (iI m_token), .int (iI m_value), .ref m_anew, .ref m_values])), (m_all, .inl (G.2 0, 311, .inl (cI mF))), (m_hand, .inl (G.2 0, 56, .inl (cI Eh_13)))] := ⟨hP, hD⟩
        have hP := hPD.1
        have hD := hPD.2
        clear hPD
        have hP := hP.sub (ws' := [(m0, .inr (10, [.ref m_all, .ref m_kept, .ref m_isKept, .ref m_refused, .long (lI m_above), .long (lI m_below), .ref m_hand, .ref m_fewest, .ref m_whoBites, .ref m_leaves, .ref m_bestFeast, .ref m_tells, .ref m_hardOn, .ref m_bytes, .int (iI m_bytesLong), .int (iI m_tokenAt), .int (iI m_tokenLong), .int (iI m_token), .int (iI m_value), .ref m_anew, .ref m_values])), (m_all, .inl (G.2 0, 311, .inl (cI mF))), (m_hand, .inl (G.2 0, 56, .inl (cI Eh_13))), (m_refused, .inl (G.2 0, 3, .inl (cI mr)))]) [1, 2, 3, 0] rfl
        have hD := hD.sub (ws' := [(m0, .inr (10, [.ref m_all, .ref m_kept, .ref m_isKept, .ref m_refused, .long (lI m_above), .long (lI m_below), .ref m_hand, .ref m_fewest, .ref m_whoBites, .ref m_leaves, .ref m_bestFeast, .ref m_tells, .ref m_hardOn, .ref m_bytes, .int (iI m_bytesLong), .int (iI m_tokenAt), .int (iI m_tokenLong), .int (iI m_token), .int (iI m_value), .ref m_anew, .ref m_values])), (m_all, .inl (G.2 0, 311, .inl (cI mF))), (m_hand, .inl (G.2 0, 56, .inl (cI Eh_13))), (m_refused, .inl (G.2 0, 3, .inl (cI mr)))]) [1, 2, 3, 0] rfl rfl
        exact g_iret (v := (iI rr_22)) hx hb hr hlocks hP hD hS (⟨rr_22, Eh_13, mr, rfl, rfl⟩) dX11_augusts_135
      · have c_20 : ¬ (a2 ≤ i0__12) := fun h9 => c_20 ((iI_le (a := a2) (b := i0__12) (by omega) (by omega)).mpr h9)
        refine lv_lload_n hx hb dX11_augusts_47 rfl (lv_at hl 1 rfl) ?_
        refine lv_ldc2 (v := 1103515245) hx hb hown (hts _ (List.mem_cons_of_mem _ (in_r40 (List.mem_of_getElem? (i := 12) rfl)))) dX11_augusts_48 ?_
        refine g_topl (y := lI 1103515245) (by decide) ?_
        refine lv_lmul hx hb dX11_augusts_51 ?_
        refine g_topol (fun z_23 hz_23 => ?_)
        refine lv_ldc2 (v := 12345) hx hb hown (hts _ (List.mem_cons_of_mem _ (in_r40 (List.mem_of_getElem? (i := 13) rfl)))) dX11_augusts_52 ?_
        refine g_topl (y := lI 12345) (by decide) ?_
        refine lv_ladd hx hb dX11_augusts_55 ?_
        refine g_topol (fun z_24 hz_24 => ?_)
        refine lv_ldc2 (v := 2147483648) hx hb hown (hts _ (List.mem_cons_of_mem _ (in_r40 (List.mem_of_getElem? (i := 14) rfl)))) dX11_augusts_56 ?_
        refine g_topl (y := lI 2147483648) (by decide) ?_
        refine lv_lrem hx hb dX11_augusts_59 (lI_ne0 (by omega) (by omega)) ?_
        refine g_lremo (a := z_24) (b := 2147483648) (by omega) (by first | decide | omega) (by omega) (fun z_25 hz_25 kz_25 jz_25 => ?_)
        refine lv_lstore_n (lv' := [(3, .long (lI z_25)), (5, .int (iI i0__12)), (0, .ref m0), (1, .int (iI a1)), (2, .int (iI a2))]) hx hb dX11_augusts_60 rfl hl (by decide) rfl (fun ls hl => ?_)
        refine lv_lload_n hx hb dX11_augusts_61 rfl (lv_at hl 0 rfl) ?_
        refine lv_ldc2 (v := 65536) hx hb hown (hts _ (List.mem_cons_of_mem _ (in_r40 (List.mem_of_getElem? (i := 15) rfl)))) dX11_augusts_62 ?_
        refine g_topl (y := lI 65536) (by decide) ?_
        refine lv_ldiv hx hb dX11_augusts_65 (lI_ne0 (by omega) (by omega)) ?_
        refine g_topol (fun z_26 hz_26 => ?_)
        refine lv_ldc2 (v := 4) hx hb hown (hts _ (List.mem_cons_of_mem _ (in_r8 (List.mem_of_getElem? (i := 15) rfl)))) dX11_augusts_66 ?_
        refine g_topl (y := lI 4) (by decide) ?_
        refine lv_lrem hx hb dX11_augusts_69 (lI_ne0 (by omega) (by omega)) ?_
        refine g_lremo (a := z_26) (b := 4) (by omega) (by first | decide | omega) (by omega) (fun z_27 hz_27 kz_27 jz_27 => ?_)
        refine lv_l2i hx hb dX11_augusts_70 rfl ?_
        refine g_topoi (fun z_28 hz_28 => ?_)
        refine lv_istore (lv' := [(6, .int (iI z_28)), (3, .long (lI z_25)), (5, .int (iI i0__12)), (0, .ref m0), (1, .int (iI a1)), (2, .int (iI a2))]) hx hb dX11_augusts_71 hl (by decide) rfl (fun ls hl => ?_)
        refine lv_lload_n hx hb dX11_augusts_73 rfl (lv_at hl 1 rfl) ?_
        refine lv_ldc2 (v := 1048576) hx hb hown (hts _ (List.mem_cons_of_mem _ (in_r40 (List.mem_of_getElem? (i := 16) rfl)))) dX11_augusts_74 ?_
        refine g_topl (y := lI 1048576) (by decide) ?_
        refine lv_ldiv hx hb dX11_augusts_77 (lI_ne0 (by omega) (by omega)) ?_
        refine g_topol (fun z_29 hz_29 => ?_)
        refine lv_ldc2 (v := 7) hx hb hown (hts _ (List.mem_cons_of_mem _ (in_r40 (List.mem_of_getElem? (i := 17) rfl)))) dX11_augusts_78 ?_
        refine g_topl (y := lI 7) (by decide) ?_
        refine lv_lrem hx hb dX11_augusts_81 (lI_ne0 (by omega) (by omega)) ?_
        refine g_lremo (a := z_29) (b := 7) (by omega) (by first | decide | omega) (by omega) (fun z_30 hz_30 kz_30 jz_30 => ?_)
        refine lv_l2i hx hb dX11_augusts_82 rfl ?_
        refine g_topoi (fun z_31 hz_31 => ?_)
        refine lv_istore (lv' := [(7, .int (iI z_31)), (6, .int (iI z_28)), (3, .long (lI z_25)), (5, .int (iI i0__12)), (0, .ref m0), (1, .int (iI a1)), (2, .int (iI a2))]) hx hb dX11_augusts_83 hl (by decide) rfl (fun ls hl => ?_)
        refine lv_aload_n hx hb dX11_augusts_85 rfl (lv_at hl 4 rfl) ?_
        refine lv_iload hx hb dX11_augusts_86 (lv_at hl 1 rfl) ?_
        refine g_calli (wr := [(m_refused, .inl (G.2 0, 3, .inl (cI mr))), (m_hand, .inl (G.2 0, 56, .inl (cI Eh_13)))]) (va_runV (As := [.int (iI z_28)]) (rest := []) ⟨hx, hb, hml, hown, hts⟩ (c_X11_isBiter l G (m0) (m_all) (m_kept) (m_isKept) (m_refused) (m_above) (m_below) (m_hand) (m_fewest) (m_whoBites) (m_leaves) (m_bestFeast) (m_tells) (m_hardOn) (m_bytes) (m_bytesLong) (m_tokenAt) (m_tokenLong) (m_token) (m_value) (m_anew) (m_values) (mF) (K0) (z_28) (by first | exact y0_ | exact bpA_mono y0_ (by omega) | assumption) (by first | assumption | omega) (by first | assumption | omega) _) (cwV 1 hts gX11_augusts_X11_isBiter rfl rfl rfl (by decide +kernel) ⟨Nat.le_of_ble_eq_true rfl, Nat.le_of_ble_eq_true rfl⟩) (g_preV m0 [.int (iI z_28)] hP hD hK hN hS hA hZ [1, 2] rfl rfl 1 (ci := 10) rfl rfl) rfl rfl hl.1 rfl (lv_room (Nat.le_of_ble_eq_true rfl)) dX11_augusts_88 ⟨Nat.le_of_ble_eq_true rfl, Nat.le_of_ble_eq_true rfl⟩) hP hD hS hA [1, 2] [0, 3] rfl rfl rfl (by decide) (fun r_32 u H locs hw hP hD hS => ?_)
        rcases hw with hw | hw
        · refine ea_0_4 hw (fun k_33 k_34 e8_0 e8_1 => ?_)
          subst e8_0
          subst e8_1
          clear hw
          have hPD : PD G A H [(m_refused, .inl (G.2 0, 3, .inl (cI mr))), (m_hand, .inl (G.2 0, 56, .inl (cI Eh_13))), (m0, .inr (10, [.ref m_all, .ref m_kept, .ref m_isKept, .ref m_refused, .long (lI m_above), .long (lI m_below), .ref m_hand, .ref m_fewest, .ref m_whoBites, .ref m_leaves, .ref m_bestFeast, .ref m_tells, .ref m_hardOn, .ref m_bytes, .int (iI m_bytesLong), .int (iI m_tokenAt), .int (iI m_tokenLong), .int (iI m_token), .int (iI m_value), .ref m_anew, .ref m_values])), (m_all, .inl (G.2 0, 311, .inl (cI mF)))] := ⟨hP, hD⟩
          have hP := hPD.1
          have hD := hPD.2
          clear hPD
          refine lv_if_eq (tgt := 114) hx hb dX11_augusts_91 (by decide) (fun c_36 => g_no c_36 (by decide)) (fun _ => ?_)
          refine lv_aload_n hx hb dX11_augusts_94 rfl (lv_at hl 4 rfl) ?_
          refine lv_iload hx hb dX11_augusts_95 (lv_at hl 0 rfl) ?_
          refine g_calli (wr := [(m_refused, .inl (G.2 0, 3, .inl (cI mr))), (m_hand, .inl (G.2 0, 56, .inl (cI Eh_13)))]) (va_runV (As := [.int (iI z_31)]) (rest := []) ⟨hx, hb, hml, hown, hts⟩ (c_X11_isApple l G (m0) (m_all) (m_kept) (m_isKept) (m_refused) (m_above) (m_below) (m_hand) (m_fewest) (m_whoBites) (m_leaves) (m_bestFeast) (m_tells) (m_hardOn) (m_bytes) (m_bytesLong) (m_tokenAt) (m_tokenLong) (m_token) (m_value) (m_anew) (m_values) (mF) (K0) (z_31) (by first | exact y0_ | exact bpA_mono y0_ (by omega) | assumption) (by first | assumption | omega) (by first | assumption | omega) _) (cwV 1 hts gX11_augusts_X11_isApple rfl rfl rfl (by decide +kernel) ⟨Nat.le_of_ble_eq_true rfl, Nat.le_of_ble_eq_true rfl⟩) (g_preV m0 [.int (iI z_31)] hP hD hK hN hS hA hZ [2, 3] rfl rfl 2 (ci := 10) rfl rfl) rfl rfl hl.1 rfl (lv_room (Nat.le_of_ble_eq_true rfl)) dX11_augusts_97 ⟨Nat.le_of_ble_eq_true rfl, Nat.le_of_ble_eq_true rfl⟩) hP hD hS hA [2, 3] [0, 1] rfl rfl rfl (by decide) (fun r_37 u H locs hw hP hD hS => ?_)
          rcases hw with hw | hw
          · refine ea_0_4 hw (fun k_38 k_39 e8_0 e8_1 => ?_)
            subst e8_0
            subst e8_1
            clear hw
            have hPD : PD G A H [(m_refused, .inl (G.2 0, 3, .inl (cI mr))), (m_hand, .inl (G.2 0, 56, .inl (cI Eh_13))), (m0, .inr (10, [.ref m_all, .ref m_kept, .ref m_isKept, .ref m_refused, .long (lI m_above), .long (lI m_below), .ref m_hand, .ref m_fewest, .ref m_whoBites, .ref m_leaves, .ref m_bestFeast, .ref m_tells, .ref m_hardOn, .ref m_bytes, .int (iI m_bytesLong), .int (iI m_tokenAt), .int (iI m_tokenLong), .int (iI m_token), .int (iI m_value), .ref m_anew, .ref m_values])), (m_all, .inl (G.2 0, 311, .inl (cI mF)))] := ⟨hP, hD⟩
            have hP := hPD.1
            have hD := hPD.2
            clear hPD
            refine lv_if_eq (tgt := 114) hx hb dX11_augusts_100 (by decide) (fun c_41 => g_no c_41 (by decide)) (fun _ => ?_)
            refine lv_aload_n hx hb dX11_augusts_103 rfl (lv_at hl 4 rfl) ?_
            refine va_get (D := G.1) (ci := 10) (v := .ref m_hand) (C := RX11) (T := TX11) (N := 21) hx hb hts (fun _ h => List.mem_cons_of_mem _ (inlX11 _ h)) hown hK hP 2 rfl rfl 6 (by decide) (hts _ (List.mem_cons_of_mem _ (in_r6 (List.mem_of_getElem? (i := 5) rfl)))) (fun _ h9 => h9) rfl dX11_augusts_104 ?_
            refine lv_iload hx hb dX11_augusts_107 (lv_at hl 1 rfl) ?_
            refine lv_iload hx hb dX11_augusts_109 (lv_at hl 0 rfl) ?_
            refine g_callv (wr := [(m_refused, .inl (G.2 0, 3, .inl (cI mr))), (m0, .inr (10, [.ref m_all, .ref m_kept, .ref m_isKept, .ref m_refused, .long (lI m_above), .long (lI m_below), .ref m_hand, .ref m_fewest, .ref m_whoBites, .ref m_leaves, .ref m_bestFeast, .ref m_tells, .ref m_hardOn, .ref m_bytes, .int (iI m_bytesLong), .int (iI m_tokenAt), .int (iI m_tokenLong), .int (iI m_token), .int (iI m_value), .ref m_anew, .ref m_values])), (m_all, .inl (G.2 0, 311, .inl (cI mF)))]) (va_runS (As := [.ref m_hand, .int (iI z_28), .int (iI z_31)]) (rest := []) ⟨hx, hb, hml, hown, hts⟩ (c_X11_goBite_56 l G (m_hand) (Eh_13) ((K0 + i0__12)) (z_28) (z_31) (by first | exact f_16 | exact bpA_mono f_16 (by omega) | assumption) (by first | assumption | omega) (by first | exact k_38 | assumption | omega) (by first | exact k_33 | assumption | omega) _) (va_cwS 3 hts gX11_augusts_X11_goBite rfl rfl rfl (by decide +kernel) ⟨Nat.le_of_ble_eq_true rfl, Nat.le_of_ble_eq_true rfl⟩) (g_preS [.ref m_hand, .int (iI z_28), .int (iI z_31)] hP hD hK hN hS hA hZ [1] rfl rfl) rfl rfl hl.1 rfl (lv_room (Nat.le_of_ble_eq_true rfl)) dX11_augusts_111 ⟨Nat.le_of_ble_eq_true rfl, Nat.le_of_ble_eq_true rfl⟩) hP hD hS hA [1] [0, 2, 3] rfl rfl rfl (by decide) (fun u H locs hw hP hD hS => ?_)
            obtain ⟨Nq_42, k_43, rfl⟩ := hw
            have hPD : PD G A H [(m_refused, .inl (G.2 0, 3, .inl (cI mr))), (m0, .inr (10, [.ref m_all, .ref m_kept, .ref m_isKept, .ref m_refused, .long (lI m_above), .long (lI m_below), .ref m_hand, .ref m_fewest, .ref m_whoBites, .ref m_leaves, .ref m_bestFeast, .ref m_tells, .ref m_hardOn, .ref m_bytes, .int (iI m_bytesLong), .int (iI m_tokenAt), .int (iI m_tokenLong), .int (iI m_token), .int (iI m_value), .ref m_anew, .ref m_values])), (m_all, .inl (G.2 0, 311, .inl (cI mF))), (m_hand, .inl (G.2 0, 56, .inl (cI Nq_42)))] := ⟨hP, hD⟩
            have hP := hPD.1
            have hD := hPD.2
            clear hPD
            refine lv_aload_n hx hb dX11_augusts_114 rfl (lv_at hl 4 rfl) ?_
            refine va_get (D := G.1) (ci := 10) (v := .ref m_hand) (C := RX11) (T := TX11) (N := 21) hx hb hts (fun _ h => List.mem_cons_of_mem _ (inlX11 _ h)) hown hK hP 1 rfl rfl 6 (by decide) (hts _ (List.mem_cons_of_mem _ (in_r6 (List.mem_of_getElem? (i := 5) rfl)))) (fun _ h9 => h9) rfl dX11_augusts_115 ?_
            refine g_callv (wr := [(m_refused, .inl (G.2 0, 3, .inl (cI mr))), (m0, .inr (10, [.ref m_all, .ref m_kept, .ref m_isKept, .ref m_refused, .long (lI m_above), .long (lI m_below), .ref m_hand, .ref m_fewest, .ref m_whoBites, .ref m_leaves, .ref m_bestFeast, .ref m_tells, .ref m_hardOn, .ref m_bytes, .int (iI m_bytesLong), .int (iI m_tokenAt), .int (iI m_tokenLong), .int (iI m_token), .int (iI m_value), .ref m_anew, .ref m_values])), (m_all, .inl (G.2 0, 311, .inl (cI mF)))]) (va_runS (As := [.ref m_hand]) (rest := []) ⟨hx, hb, hml, hown, hts⟩ (c_X11_goDay_56 l G (m_hand) (Nq_42) ((K0 + i0__12)) (by first | exact k_43 | exact bpA_mono k_43 (by omega) | assumption) (by first | assumption | omega) _) (va_cwS 1 hts gX11_augusts_X11_goDay rfl rfl rfl (by decide +kernel) ⟨Nat.le_of_ble_eq_true rfl, Nat.le_of_ble_eq_true rfl⟩) (g_preS [.ref m_hand] hP hD hK hN hS hA hZ [3] rfl rfl) rfl rfl hl.1 rfl (lv_room (Nat.le_of_ble_eq_true rfl)) dX11_augusts_118 ⟨Nat.le_of_ble_eq_true rfl, Nat.le_of_ble_eq_true rfl⟩) hP hD hS hA [3] [0, 1, 2] rfl rfl rfl (by decide) (fun u H locs hw hP hD hS => ?_)
            obtain ⟨Nq_44, k_45, rfl⟩ := hw
            have hPD : PD G A H [(m_refused, .inl (G.2 0, 3, .inl (cI mr))), (m0, .inr (10, [.ref m_all, .ref m_kept, .ref m_isKept, .ref m_refused, .long (lI m_above), .long (lI m_below), .ref m_hand, .ref m_fewest, .ref m_whoBites, .ref m_leaves, .ref m_bestFeast, .ref m_tells, .ref m_hardOn, .ref m_bytes, .int (iI m_bytesLong), .int (iI m_tokenAt), .int (iI m_tokenLong), .int (iI m_token), .int (iI m_value), .ref m_anew, .ref m_values])), (m_all, .inl (G.2 0, 311, .inl (cI mF))), (m_hand, .inl (G.2 0, 56, .inl (cI Nq_44)))] := ⟨hP, hD⟩
            have hP := hPD.1
            have hD := hPD.2
            clear hPD
            refine lv_iinc (v := iI (i0__12 + 1)) (lv' := [(5, .int (iI (i0__12 + 1))), (7, .int (iI z_31)), (6, .int (iI z_28)), (3, .long (lI z_25)), (0, .ref m0), (1, .int (iI a1)), (2, .int (iI a2))]) hx hb dX11_augusts_121 hl (k := 3) rfl (iI_add i0__12 1) (by decide) rfl (fun ls hl => ?_)
            refine lv_goto (tgt := 41) hx hb dX11_augusts_124 (by decide) ?_
            exact ih_17 _ _ _ _ (by omega) ⟨z_25, (i0__12 + 1), Nq_44, (by first | assumption | omega), (by first | assumption | omega), (by first | exact k_45 | exact bpA_mono k_45 (by omega) | assumption), rfl, hP, hD, hS, lv_sub hl [0, 3, 4, 5, 6] rfl⟩
          · refine ea_0_3 hw (fun k_40 e8_0 e8_1 => ?_)
            subst e8_0
            subst e8_1
            clear hw
            have hPD : PD G A H [(m_refused, .inl (G.2 0, 3, .inl (cI mr))), (m_hand, .inl (G.2 0, 56, .inl (cI Eh_13))), (m0, .inr (10, [.ref m_all, .ref m_kept, .ref m_isKept, .ref m_refused, .long (lI m_above), .long (lI m_below), .ref m_hand, .ref m_fewest, .ref m_whoBites, .ref m_leaves, .ref m_bestFeast, .ref m_tells, .ref m_hardOn, .ref m_bytes, .int (iI m_bytesLong), .int (iI m_tokenAt), .int (iI m_tokenLong), .int (iI m_token), .int (iI m_value), .ref m_anew, .ref m_values])), (m_all, .inl (G.2 0, 311, .inl (cI mF)))] := ⟨hP, hD⟩
            have hP := hPD.1
            have hD := hPD.2
            clear hPD
            refine lv_if_eq (tgt := 114) hx hb dX11_augusts_100 (by decide) (fun _ => ?_) (fun c_46 => g_no (by decide) c_46)
            refine lv_aload_n hx hb dX11_augusts_114 rfl (lv_at hl 4 rfl) ?_
            refine va_get (D := G.1) (ci := 10) (v := .ref m_hand) (C := RX11) (T := TX11) (N := 21) hx hb hts (fun _ h => List.mem_cons_of_mem _ (inlX11 _ h)) hown hK hP 2 rfl rfl 6 (by decide) (hts _ (List.mem_cons_of_mem _ (in_r6 (List.mem_of_getElem? (i := 5) rfl)))) (fun _ h9 => h9) rfl dX11_augusts_115 ?_
            refine g_callv (wr := [(m_refused, .inl (G.2 0, 3, .inl (cI mr))), (m0, .inr (10, [.ref m_all, .ref m_kept, .ref m_isKept, .ref m_refused, .long (lI m_above), .long (lI m_below), .ref m_hand, .ref m_fewest, .ref m_whoBites, .ref m_leaves, .ref m_bestFeast, .ref m_tells, .ref m_hardOn, .ref m_bytes, .int (iI m_bytesLong), .int (iI m_tokenAt), .int (iI m_tokenLong), .int (iI m_token), .int (iI m_value), .ref m_anew, .ref m_values])), (m_all, .inl (G.2 0, 311, .inl (cI mF)))]) (va_runS (As := [.ref m_hand]) (rest := []) ⟨hx, hb, hml, hown, hts⟩ (c_X11_goDay_56 l G (m_hand) (Eh_13) ((K0 + i0__12)) (by first | exact f_16 | exact bpA_mono f_16 (by omega) | assumption) (by first | assumption | omega) _) (va_cwS 1 hts gX11_augusts_X11_goDay rfl rfl rfl (by decide +kernel) ⟨Nat.le_of_ble_eq_true rfl, Nat.le_of_ble_eq_true rfl⟩) (g_preS [.ref m_hand] hP hD hK hN hS hA hZ [1] rfl rfl) rfl rfl hl.1 rfl (lv_room (Nat.le_of_ble_eq_true rfl)) dX11_augusts_118 ⟨Nat.le_of_ble_eq_true rfl, Nat.le_of_ble_eq_true rfl⟩) hP hD hS hA [1] [0, 2, 3] rfl rfl rfl (by decide) (fun u H locs hw hP hD hS => ?_)
            obtain ⟨Nq_47, k_48, rfl⟩ := hw
            have hPD : PD G A H [(m_refused, .inl (G.2 0, 3, .inl (cI mr))), (m0, .inr (10, [.ref m_all, .ref m_kept, .ref m_isKept, .ref m_refused, .long (lI m_above), .long (lI m_below), .ref m_hand, .ref m_fewest, .ref m_whoBites, .ref m_leaves, .ref m_bestFeast, .ref m_tells, .ref m_hardOn, .ref m_bytes, .int (iI m_bytesLong), .int (iI m_tokenAt), .int (iI m_tokenLong), .int (iI m_token), .int (iI m_value), .ref m_anew, .ref m_values])), (m_all, .inl (G.2 0, 311, .inl (cI mF))), (m_hand, .inl (G.2 0, 56, .inl (cI Nq_47)))] := ⟨hP, hD⟩
            have hP := hPD.1
            have hD := hPD.2
            clear hPD
            refine lv_iinc (v := iI (i0__12 + 1)) (lv' := [(5, .int (iI (i0__12 + 1))), (7, .int (iI z_31)), (6, .int (iI z_28)), (3, .long (lI z_25)), (0, .ref m0), (1, .int (iI a1)), (2, .int (iI a2))]) hx hb dX11_augusts_121 hl (k := 3) rfl (iI_add i0__12 1) (by decide) rfl (fun ls hl => ?_)
            refine lv_goto (tgt := 41) hx hb dX11_augusts_124 (by decide) ?_
            exact ih_17 _ _ _ _ (by omega) ⟨z_25, (i0__12 + 1), Nq_47, (by first | assumption | omega), (by first | assumption | omega), (by first | exact k_48 | exact bpA_mono k_48 (by omega) | assumption), rfl, hP, hD, hS, lv_sub hl [0, 3, 4, 5, 6] rfl⟩
        · refine ea_0_3 hw (fun k_35 e8_0 e8_1 => ?_)
          subst e8_0
          subst e8_1
          clear hw
          have hPD : PD G A H [(m_refused, .inl (G.2 0, 3, .inl (cI mr))), (m_hand, .inl (G.2 0, 56, .inl (cI Eh_13))), (m0, .inr (10, [.ref m_all, .ref m_kept, .ref m_isKept, .ref m_refused, .long (lI m_above), .long (lI m_below), .ref m_hand, .ref m_fewest, .ref m_whoBites, .ref m_leaves, .ref m_bestFeast, .ref m_tells, .ref m_hardOn, .ref m_bytes, .int (iI m_bytesLong), .int (iI m_tokenAt), .int (iI m_tokenLong), .int (iI m_token), .int (iI m_value), .ref m_anew, .ref m_values])), (m_all, .inl (G.2 0, 311, .inl (cI mF)))] := ⟨hP, hD⟩
          have hP := hPD.1
          have hD := hPD.2
          clear hPD
          refine lv_if_eq (tgt := 114) hx hb dX11_augusts_91 (by decide) (fun _ => ?_) (fun c_49 => g_no (by decide) c_49)
          refine lv_aload_n hx hb dX11_augusts_114 rfl (lv_at hl 4 rfl) ?_
          refine va_get (D := G.1) (ci := 10) (v := .ref m_hand) (C := RX11) (T := TX11) (N := 21) hx hb hts (fun _ h => List.mem_cons_of_mem _ (inlX11 _ h)) hown hK hP 2 rfl rfl 6 (by decide) (hts _ (List.mem_cons_of_mem _ (in_r6 (List.mem_of_getElem? (i := 5) rfl)))) (fun _ h9 => h9) rfl dX11_augusts_115 ?_
          refine g_callv (wr := [(m_refused, .inl (G.2 0, 3, .inl (cI mr))), (m0, .inr (10, [.ref m_all, .ref m_kept, .ref m_isKept, .ref m_refused, .long (lI m_above), .long (lI m_below), .ref m_hand, .ref m_fewest, .ref m_whoBites, .ref m_leaves, .ref m_bestFeast, .ref m_tells, .ref m_hardOn, .ref m_bytes, .int (iI m_bytesLong), .int (iI m_tokenAt), .int (iI m_tokenLong), .int (iI m_token), .int (iI m_value), .ref m_anew, .ref m_values])), (m_all, .inl (G.2 0, 311, .inl (cI mF)))]) (va_runS (As := [.ref m_hand]) (rest := []) ⟨hx, hb, hml, hown, hts⟩ (c_X11_goDay_56 l G (m_hand) (Eh_13) ((K0 + i0__12)) (by first | exact f_16 | exact bpA_mono f_16 (by omega) | assumption) (by first | assumption | omega) _) (va_cwS 1 hts gX11_augusts_X11_goDay rfl rfl rfl (by decide +kernel) ⟨Nat.le_of_ble_eq_true rfl, Nat.le_of_ble_eq_true rfl⟩) (g_preS [.ref m_hand] hP hD hK hN hS hA hZ [1] rfl rfl) rfl rfl hl.1 rfl (lv_room (Nat.le_of_ble_eq_true rfl)) dX11_augusts_118 ⟨Nat.le_of_ble_eq_true rfl, Nat.le_of_ble_eq_true rfl⟩) hP hD hS hA [1] [0, 2, 3] rfl rfl rfl (by decide) (fun u H locs hw hP hD hS => ?_)
          obtain ⟨Nq_50, k_51, rfl⟩ := hw
          have hPD : PD G A H [(m_refused, .inl (G.2 0, 3, .inl (cI mr))), (m0, .inr (10, [.ref m_all, .ref m_kept, .ref m_isKept, .ref m_refused, .long (lI m_above), .long (lI m_below), .ref m_hand, .ref m_fewest, .ref m_whoBites, .ref m_leaves, .ref m_bestFeast, .ref m_tells, .ref m_hardOn, .ref m_bytes, .int (iI m_bytesLong), .int (iI m_tokenAt), .int (iI m_tokenLong), .int (iI m_token), .int (iI m_value), .ref m_anew, .ref m_values])), (m_all, .inl (G.2 0, 311, .inl (cI mF))), (m_hand, .inl (G.2 0, 56, .inl (cI Nq_50)))] := ⟨hP, hD⟩
          have hP := hPD.1
          have hD := hPD.2
          clear hPD
          refine lv_iinc (v := iI (i0__12 + 1)) (lv' := [(5, .int (iI (i0__12 + 1))), (7, .int (iI z_31)), (6, .int (iI z_28)), (3, .long (lI z_25)), (0, .ref m0), (1, .int (iI a1)), (2, .int (iI a2))]) hx hb dX11_augusts_121 hl (k := 3) rfl (iI_add i0__12 1) (by decide) rfl (fun ls hl => ?_)
          refine lv_goto (tgt := 41) hx hb dX11_augusts_124 (by decide) ?_
          exact ih_17 _ _ _ _ (by omega) ⟨z_25, (i0__12 + 1), Nq_50, (by first | assumption | omega), (by first | assumption | omega), (by first | exact k_51 | exact bpA_mono k_51 (by omega) | assumption), rfl, hP, hD, hS, lv_sub hl [0, 3, 4, 5, 6] rfl⟩
    · refine ea_0_3 hw (fun k_9 e8_0 e8_1 => ?_)
      subst e8_0
      subst e8_1
      clear hw
      have hPD : PD G A H [(m0, .inr (10, [.ref m_all, .ref m_kept, .ref m_isKept, .ref m_refused, .long (lI m_above), .long (lI m_below), .ref m_hand, .ref m_fewest, .ref m_whoBites, .ref m_leaves, .ref m_bestFeast, .ref m_tells, .ref m_hardOn, .ref m_bytes, .int (iI m_bytesLong), .int (iI m_tokenAt), .int (iI m_tokenLong), .int (iI m_token), .int (iI m_value), .ref m_anew, .ref m_values])), (m_all, .inl (G.2 0, 311, .inl (cI mF))), (m_hand, .inl (G.2 0, 56, .inl (cI mh))), (m_refused, .inl (G.2 0, 3, .inl (cI mr)))] := ⟨hP, hD⟩
      have hP := hPD.1
      have hD := hPD.2
      clear hPD
      refine lv_if_ne (tgt := 31) hx hb dX11_augusts_21 (by decide) (fun c_52 => g_no (by decide) c_52) (fun _ => ?_)
      refine lv_aload_n hx hb dX11_augusts_24 rfl (lv_at hl 0 rfl) ?_
      refine lv_bipush (v := iI (-2)) hx hb dX11_augusts_25 (by decide) ?_
      refine g_calli (wr := [(m_all, .inl (G.2 0, 311, .inl (cI mF))), (m_hand, .inl (G.2 0, 56, .inl (cI mh)))]) (va_runV (As := [.int (iI (-2))]) (rest := []) ⟨hx, hb, hml, hown, hts⟩ (c_X11_bad l G (m0) (m_all) (m_kept) (m_isKept) (m_refused) (m_above) (m_below) (m_hand) (m_fewest) (m_whoBites) (m_leaves) (m_bestFeast) (m_tells) (m_hardOn) (m_bytes) (m_bytesLong) (m_tokenAt) (m_tokenLong) (m_token) (m_value) (m_anew) (m_values) (mr) ((-2)) (by first | assumption | omega) _) (cwV 1 hts gX11_augusts_X11_bad rfl rfl rfl (by decide +kernel) ⟨Nat.le_of_ble_eq_true rfl, Nat.le_of_ble_eq_true rfl⟩) (g_preV m0 [.int (iI (-2))] hP hD hK hN hS hA hZ [0, 3] rfl rfl 0 (ci := 10) rfl rfl) rfl rfl hl.1 rfl (lv_room (Nat.le_of_ble_eq_true rfl)) dX11_augusts_27 ⟨Nat.le_of_ble_eq_true rfl, Nat.le_of_ble_eq_true rfl⟩) hP hD hS hA [0, 3] [1, 2] rfl rfl rfl (by decide) (fun r_53 u H locs hw hP hD hS => ?_)
      obtain ⟨Nr_54, rfl, rfl⟩ := hw
      have hPD : PD G A H [(m_all, .inl (G.2 0, 311, .inl (cI mF))), (m_hand, .inl (G.2 0, 56, .inl (cI mh))), (m0, .inr (10, [.ref m_all, .ref m_kept, .ref m_isKept, .ref m_refused, .long (lI m_above), .long (lI m_below), .ref m_hand, .ref m_fewest, .ref m_whoBites, .ref m_leaves, .ref m_bestFeast, .ref m_tells, .ref m_hardOn, .ref m_bytes, .int (iI m_bytesLong), .int (iI m_tokenAt), .int (iI m_tokenLong), .int (iI m_token), .int (iI m_value), .ref m_anew, .ref m_values])), (m_refused, .inl (G.2 0, 3, .inl (cI Nr_54)))] := ⟨hP, hD⟩
      have hP := hPD.1
      have hD := hPD.2
      clear hPD
      have hP := hP.sub (ws' := [(m0, .inr (10, [.ref m_all, .ref m_kept, .ref m_isKept, .ref m_refused, .long (lI m_above), .long (lI m_below), .ref m_hand, .ref m_fewest, .ref m_whoBites, .ref m_leaves, .ref m_bestFeast, .ref m_tells, .ref m_hardOn, .ref m_bytes, .int (iI m_bytesLong), .int (iI m_tokenAt), .int (iI m_tokenLong), .int (iI m_token), .int (iI m_value), .ref m_anew, .ref m_values])), (m_all, .inl (G.2 0, 311, .inl (cI mF))), (m_hand, .inl (G.2 0, 56, .inl (cI mh))), (m_refused, .inl (G.2 0, 3, .inl (cI Nr_54)))]) [2, 0, 1, 3] rfl
      have hD := hD.sub (ws' := [(m0, .inr (10, [.ref m_all, .ref m_kept, .ref m_isKept, .ref m_refused, .long (lI m_above), .long (lI m_below), .ref m_hand, .ref m_fewest, .ref m_whoBites, .ref m_leaves, .ref m_bestFeast, .ref m_tells, .ref m_hardOn, .ref m_bytes, .int (iI m_bytesLong), .int (iI m_tokenAt), .int (iI m_tokenLong), .int (iI m_token), .int (iI m_value), .ref m_anew, .ref m_values])), (m_all, .inl (G.2 0, 311, .inl (cI mF))), (m_hand, .inl (G.2 0, 56, .inl (cI mh))), (m_refused, .inl (G.2 0, 3, .inl (cI Nr_54)))]) [2, 0, 1, 3] rfl rfl
      exact g_iret (v := (iI (-2))) hx hb hr hlocks hP hD hS (⟨(-2), mh, Nr_54, rfl, rfl⟩) dX11_augusts_30
  · refine ea_0_3 hw (fun k_4 e8_0 e8_1 => ?_)
    subst e8_0
    subst e8_1
    clear hw
    have hPD : PD G A H [(m0, .inr (10, [.ref m_all, .ref m_kept, .ref m_isKept, .ref m_refused, .long (lI m_above), .long (lI m_below), .ref m_hand, .ref m_fewest, .ref m_whoBites, .ref m_leaves, .ref m_bestFeast, .ref m_tells, .ref m_hardOn, .ref m_bytes, .int (iI m_bytesLong), .int (iI m_tokenAt), .int (iI m_tokenLong), .int (iI m_token), .int (iI m_value), .ref m_anew, .ref m_values])), (m_all, .inl (G.2 0, 311, .inl (cI mF))), (m_hand, .inl (G.2 0, 56, .inl (cI mh))), (m_refused, .inl (G.2 0, 3, .inl (cI mr)))] := ⟨hP, hD⟩
    have hP := hPD.1
    have hD := hPD.2
    clear hPD
    refine lv_if_eq (tgt := 24) hx hb dX11_augusts_9 (by decide) (fun _ => ?_) (fun c_55 => g_no (by decide) c_55)
    refine lv_aload_n hx hb dX11_augusts_24 rfl (lv_at hl 0 rfl) ?_
    refine lv_bipush (v := iI (-2)) hx hb dX11_augusts_25 (by decide) ?_
    refine g_calli (wr := [(m_all, .inl (G.2 0, 311, .inl (cI mF))), (m_hand, .inl (G.2 0, 56, .inl (cI mh)))]) (va_runV (As := [.int (iI (-2))]) (rest := []) ⟨hx, hb, hml, hown, hts⟩ (c_X11_bad l G (m0) (m_all) (m_kept) (m_isKept) (m_refused) (m_above) (m_below) (m_hand) (m_fewest) (m_whoBites) (m_leaves) (m_bestFeast) (m_tells) (m_hardOn) (m_bytes) (m_bytesLong) (m_tokenAt) (m_tokenLong) (m_token) (m_value) (m_anew) (m_values) (mr) ((-2)) (by first | assumption | omega) _) (cwV 1 hts gX11_augusts_X11_bad rfl rfl rfl (by decide +kernel) ⟨Nat.le_of_ble_eq_true rfl, Nat.le_of_ble_eq_true rfl⟩) (g_preV m0 [.int (iI (-2))] hP hD hK hN hS hA hZ [0, 3] rfl rfl 0 (ci := 10) rfl rfl) rfl rfl hl.1 rfl (lv_room (Nat.le_of_ble_eq_true rfl)) dX11_augusts_27 ⟨Nat.le_of_ble_eq_true rfl, Nat.le_of_ble_eq_true rfl⟩) hP hD hS hA [0, 3] [1, 2] rfl rfl rfl (by decide) (fun r_56 u H locs hw hP hD hS => ?_)
    obtain ⟨Nr_57, rfl, rfl⟩ := hw
    have hPD : PD G A H [(m_all, .inl (G.2 0, 311, .inl (cI mF))), (m_hand, .inl (G.2 0, 56, .inl (cI mh))), (m0, .inr (10, [.ref m_all, .ref m_kept, .ref m_isKept, .ref m_refused, .long (lI m_above), .long (lI m_below), .ref m_hand, .ref m_fewest, .ref m_whoBites, .ref m_leaves, .ref m_bestFeast, .ref m_tells, .ref m_hardOn, .ref m_bytes, .int (iI m_bytesLong), .int (iI m_tokenAt), .int (iI m_tokenLong), .int (iI m_token), .int (iI m_value), .ref m_anew, .ref m_values])), (m_refused, .inl (G.2 0, 3, .inl (cI Nr_57)))] := ⟨hP, hD⟩
    have hP := hPD.1
    have hD := hPD.2
    clear hPD
    have hP := hP.sub (ws' := [(m0, .inr (10, [.ref m_all, .ref m_kept, .ref m_isKept, .ref m_refused, .long (lI m_above), .long (lI m_below), .ref m_hand, .ref m_fewest, .ref m_whoBites, .ref m_leaves, .ref m_bestFeast, .ref m_tells, .ref m_hardOn, .ref m_bytes, .int (iI m_bytesLong), .int (iI m_tokenAt), .int (iI m_tokenLong), .int (iI m_token), .int (iI m_value), .ref m_anew, .ref m_values])), (m_all, .inl (G.2 0, 311, .inl (cI mF))), (m_hand, .inl (G.2 0, 56, .inl (cI mh))), (m_refused, .inl (G.2 0, 3, .inl (cI Nr_57)))]) [2, 0, 1, 3] rfl
    have hD := hD.sub (ws' := [(m0, .inr (10, [.ref m_all, .ref m_kept, .ref m_isKept, .ref m_refused, .long (lI m_above), .long (lI m_below), .ref m_hand, .ref m_fewest, .ref m_whoBites, .ref m_leaves, .ref m_bestFeast, .ref m_tells, .ref m_hardOn, .ref m_bytes, .int (iI m_bytesLong), .int (iI m_tokenAt), .int (iI m_tokenLong), .int (iI m_token), .int (iI m_value), .ref m_anew, .ref m_values])), (m_all, .inl (G.2 0, 311, .inl (cI mF))), (m_hand, .inl (G.2 0, 56, .inl (cI mh))), (m_refused, .inl (G.2 0, 3, .inl (cI Nr_57)))]) [2, 0, 1, 3] rfl rfl
    exact g_iret (v := (iI (-2))) hx hb hr hlocks hP hD hS (⟨(-2), mh, Nr_57, rfl, rfl⟩) dX11_augusts_30
theorem dX11_part_0 : decode cX11_part 0 = .ok (.iload_n 1, 1) := kd_27 (by decide +kernel)
theorem dX11_part_1 : decode cX11_part 1 = .ok (.ifCond .ne 10, 3) := kd_154 (a := 0) (b := 10) (by decide +kernel)
theorem dX11_part_11 : decode cX11_part 11 = .ok (.iload_n 1, 1) := kd_27 (by decide +kernel)
theorem dX11_part_12 : decode cX11_part 12 = .ok (.iconst 1, 1) := kd_4 (by decide +kernel)
theorem dX11_part_13 : decode cX11_part 13 = .ok (.if_icmp .ne 10, 3) := kd_160 (a := 0) (b := 10) (by decide +kernel)
theorem dX11_part_23 : decode cX11_part 23 = .ok (.aload_n 0, 1) := kd_42 (by decide +kernel)
theorem dX11_part_24 : decode cX11_part 24 = .ok (.bipush (-2), 2) := kd_16 (a := 254) (by decide +kernel)
theorem gX11_part_X11_bad : GoodIn wsX11_part (wsV RX11 79 RX11 yX11_bad wsX11_bad) := gW_V (in_r8 (List.mem_of_getElem? (i := 16) rfl)) (in_r8 (List.mem_of_getElem? (i := 17) rfl)) (in_r8 (List.mem_of_getElem? (i := 18) rfl)) (in_r1 (List.mem_of_getElem? (i := 5) rfl)) (in_r8 (List.mem_of_getElem? (i := 19) rfl))
theorem dX11_part_26 : decode cX11_part 26 = .ok (.invokevirtual 79, 3) := kd_182 (a := 0) (b := 79) (by decide +kernel)
theorem dX11_part_29 : decode cX11_part 29 = .ok (.i2l, 1) := kd_133 (by decide +kernel)
theorem dX11_part_16 : decode cX11_part 16 = .ok (.aload_n 0, 1) := kd_42 (by decide +kernel)
theorem dX11_part_17 : decode cX11_part 17 = .ok (.getfield 23, 3) := kd_180 (a := 0) (b := 23) (by decide +kernel)
theorem dX11_part_20 : decode cX11_part 20 = .ok (.goto 10, 3) := kd_167 (a := 0) (b := 10) (by decide +kernel)
theorem dX11_part_4 : decode cX11_part 4 = .ok (.aload_n 0, 1) := kd_42 (by decide +kernel)
theorem dX11_part_5 : decode cX11_part 5 = .ok (.getfield 207, 3) := kd_180 (a := 0) (b := 207) (by decide +kernel)
theorem dX11_part_8 : decode cX11_part 8 = .ok (.goto 22, 3) := kd_167 (a := 0) (b := 22) (by decide +kernel)
theorem dX11_part_30 : decode cX11_part 30 = .ok (.lreturn, 1) := kd_173 (by decide +kernel)
set_option maxHeartbeats 8000000 in
set_option maxRecDepth 100000 in
theorem c_X11_part (l : Launch) (G : gG) (m0 : Nat) (m_all : Nat) (m_kept : Nat) (m_isKept : Nat) (m_refused : Nat) (m_above : Int) (m_below : Int) (m_hand : Nat) (m_fewest : Nat) (m_whoBites : Nat) (m_leaves : Nat) (m_bestFeast : Nat) (m_tells : Nat) (m_hardOn : Nat) (m_bytes : Nat) (m_bytesLong : Int) (m_tokenAt : Int) (m_tokenLong : Int) (m_token : Int) (m_value : Int) (m_anew : Nat) (m_values : Nat) (mr : Nat → Int) (a1 : Int) (ra1 : -2147483648 ≤ a1 ∧ a1 ≤ 2147483647) (sz : Nat) : gL G l yX11_part wsX11_part ({ frames := 1, cells := 0, slots := 0, locals := 21 } : Room) [.ref m0, .int (iI a1)] [(m0, .inr (10, [.ref m_all, .ref m_kept, .ref m_isKept, .ref m_refused, .long (lI m_above), .long (lI m_below), .ref m_hand, .ref m_fewest, .ref m_whoBites, .ref m_leaves, .ref m_bestFeast, .ref m_tells, .ref m_hardOn, .ref m_bytes, .int (iI m_bytesLong), .int (iI m_tokenAt), .int (iI m_tokenLong), .int (iI m_token), .int (iI m_value), .ref m_anew, .ref m_values])), (m_refused, .inl (G.2 0, 3, .inl (cI mr)))] sz (fun (r : Int64) (u : va_W) => (∃ rr : Int, ∃ N_r : Nat → Int, r = (lI rr) ∧ u = [(m0, .inr (10, [.ref m_all, .ref m_kept, .ref m_isKept, .ref m_refused, .long (lI m_above), .long (lI m_below), .ref m_hand, .ref m_fewest, .ref m_whoBites, .ref m_leaves, .ref m_bestFeast, .ref m_tells, .ref m_hardOn, .ref m_bytes, .int (iI m_bytesLong), .int (iI m_tokenAt), .int (iI m_tokenLong), .int (iI m_token), .int (iI m_value), .ref m_anew, .ref m_values])), (m_refused, .inl (G.2 0, 3, .inl (cI N_r)))])) := by
  refine Met.ofW (cc := cX11_part) (maxL := 2) (ret := (some .long)) (by decide) rfl ?_
  intro p e s m args below meth c s₁ B hml hv
  obtain ⟨rfl, hsz, hP, hK, hD0, hN, hZ⟩ := hv
  have hx := B.exec
  have hb := B.bytes
  have hr := B.returns
  have hts := atoms_spec (ws := wsX11_part) B.pre
  have hown : s.vm.findClass RX11 = some m.cls := findClass_of_methodNamed B.named
  have hlocks := B.notSynchronized
  subst hsz
  have hD := hD0.self (sz := s.heap.size)
  generalize hAe : va_A [(m0, .inr (10, [.ref m_all, .ref m_kept, .ref m_isKept, .ref m_refused, .long (lI m_above), .long (lI m_below), .ref m_hand, .ref m_fewest, .ref m_whoBites, .ref m_leaves, .ref m_bestFeast, .ref m_tells, .ref m_hardOn, .ref m_bytes, .int (iI m_bytesLong), .int (iI m_tokenAt), .int (iI m_tokenLong), .int (iI m_token), .int (iI m_value), .ref m_anew, .ref m_values])), (m_refused, .inl (G.2 0, 3, .inl (cI mr)))] s.heap.size = A at hD hZ ⊢
  have hA : ∀ q : Nat, s.heap.size ≤ q → A q := fun q h => by rw [← hAe]; exact Or.inr h
  have hS : va_S A s.heap s.heap [] := va_S.rf
  have hP : va_P G.1 vwCl [(m0, .inr (10, [.ref m_all, .ref m_kept, .ref m_isKept, .ref m_refused, .long (lI m_above), .long (lI m_below), .ref m_hand, .ref m_fewest, .ref m_whoBites, .ref m_leaves, .ref m_bestFeast, .ref m_tells, .ref m_hardOn, .ref m_bytes, .int (iI m_bytesLong), .int (iI m_tokenAt), .int (iI m_tokenLong), .int (iI m_token), .int (iI m_value), .ref m_anew, .ref m_values])), (m_refused, .inl (G.2 0, 3, .inl (cI mr)))] s.heap := hP
  have hl := lv_entry ([.ref m0, .int (iI a1)]) (n := 2) (Nat.le_of_ble_eq_true rfl)
  rw [lg_entry_eq]
  generalize (lg_sl ([.ref m0, .int (iI a1)]) ++ List.replicate (2 - (lg_sl ([.ref m0, .int (iI a1)])).length) Slot.unset).toArray = ls at hl ⊢
  have hl : lv_has ls 2 [(0, .ref m0), (1, .int (iI a1))] := hl
  refine lv_iload_n hx hb dX11_part_0 rfl (lv_at hl 1 rfl) ?_
  refine lv_if_ne (tgt := 11) hx hb dX11_part_1 (by decide) (fun c_1 => ?_) (fun c_1 => ?_)
  · have c_1 : ¬ (a1 = 0) := fun h9 => c_1 ((iI_eq (a := a1) (b := 0) (by omega) (by first | decide | omega)).mpr h9)
    refine lv_iload_n hx hb dX11_part_11 rfl (lv_at hl 1 rfl) ?_
    refine lv_iconst (v := iI 1) hx hb dX11_part_12 rfl ?_
    refine lv_icmp_ne (tgt := 23) hx hb dX11_part_13 (by decide) (fun c_2 => ?_) (fun c_2 => ?_)
    · have c_2 : ¬ (a1 = 1) := fun h9 => c_2 ((iI_eq (a := a1) (b := 1) (by omega) (by first | decide | omega)).mpr h9)
      refine lv_aload_n hx hb dX11_part_23 rfl (lv_at hl 0 rfl) ?_
      refine lv_bipush (v := iI (-2)) hx hb dX11_part_24 (by decide) ?_
      refine g_calli (wr := []) (va_runV (As := [.int (iI (-2))]) (rest := []) ⟨hx, hb, hml, hown, hts⟩ (c_X11_bad l G (m0) (m_all) (m_kept) (m_isKept) (m_refused) (m_above) (m_below) (m_hand) (m_fewest) (m_whoBites) (m_leaves) (m_bestFeast) (m_tells) (m_hardOn) (m_bytes) (m_bytesLong) (m_tokenAt) (m_tokenLong) (m_token) (m_value) (m_anew) (m_values) (mr) ((-2)) (by first | assumption | omega) _) (cwV 1 hts gX11_part_X11_bad rfl rfl rfl (by decide +kernel) ⟨Nat.le_of_ble_eq_true rfl, Nat.le_of_ble_eq_true rfl⟩) (g_preV m0 [.int (iI (-2))] hP hD hK hN hS hA hZ [0, 1] rfl rfl 0 (ci := 10) rfl rfl) rfl rfl hl.1 rfl (lv_room (Nat.le_of_ble_eq_true rfl)) dX11_part_26 ⟨Nat.le_of_ble_eq_true rfl, Nat.le_of_ble_eq_true rfl⟩) hP hD hS hA [0, 1] [] rfl rfl rfl (by decide) (fun r_3 u H locs hw hP hD hS => ?_)
      obtain ⟨Nr_4, rfl, rfl⟩ := hw
      have hPD : PD G A H [(m0, .inr (10, [.ref m_all, .ref m_kept, .ref m_isKept, .ref m_refused, .long (lI m_above), .long (lI m_below), .ref m_hand, .ref m_fewest, .ref m_whoBites, .ref m_leaves, .ref m_bestFeast, .ref m_tells, .ref m_hardOn, .ref m_bytes, .int (iI m_bytesLong), .int (iI m_tokenAt), .int (iI m_tokenLong), .int (iI m_token), .int (iI m_value), .ref m_anew, .ref m_values])), (m_refused, .inl (G.2 0, 3, .inl (cI Nr_4)))] := ⟨hP, hD⟩
      have hP := hPD.1
      have hD := hPD.2
      clear hPD
      refine lv_i2l (v := lI (-2)) hx hb dX11_part_29 (i2l_iI (by omega)) ?_
      exact g_lret (v := (lI (-2))) hx hb hr hlocks hP hD hS (⟨(-2), Nr_4, rfl, rfl⟩) dX11_part_30
    · have c_2 := (iI_eq (a := a1) (b := 1) (by omega) (by first | decide | omega)).mp c_2
      refine lv_aload_n hx hb dX11_part_16 rfl (lv_at hl 0 rfl) ?_
      refine va_get (D := G.1) (ci := 10) (v := .long (lI m_below)) (C := RX11) (T := TX11) (N := 21) hx hb hts (fun _ h => List.mem_cons_of_mem _ (inlX11 _ h)) hown hK hP 0 rfl rfl 5 (by decide) (hts _ (List.mem_cons_of_mem _ (in_r6 (List.mem_of_getElem? (i := 4) rfl)))) (fun _ h9 => h9) rfl dX11_part_17 ?_
      refine lv_goto (tgt := 30) hx hb dX11_part_20 (by decide) ?_
      exact g_lret (v := (lI m_below)) hx hb hr hlocks hP hD hS (⟨m_below, mr, rfl, rfl⟩) dX11_part_30
  · have c_1 := (iI_eq (a := a1) (b := 0) (by omega) (by first | decide | omega)).mp c_1
    refine lv_aload_n hx hb dX11_part_4 rfl (lv_at hl 0 rfl) ?_
    refine va_get (D := G.1) (ci := 10) (v := .long (lI m_above)) (C := RX11) (T := TX11) (N := 21) hx hb hts (fun _ h => List.mem_cons_of_mem _ (inlX11 _ h)) hown hK hP 0 rfl rfl 4 (by decide) (hts _ (List.mem_cons_of_mem _ (in_r39 (List.mem_of_getElem? (i := 18) rfl)))) (fun _ h9 => h9) rfl dX11_part_5 ?_
    refine lv_goto (tgt := 30) hx hb dX11_part_8 (by decide) ?_
    exact g_lret (v := (lI m_above)) hx hb hr hlocks hP hD hS (⟨m_above, mr, rfl, rfl⟩) dX11_part_30
theorem dX11_status_0 : decode cX11_status 0 = .ok (.iload_n 1, 1) := kd_27 (by decide +kernel)
theorem dX11_status_1 : decode cX11_status 1 = .ok (.i2l, 1) := kd_133 (by decide +kernel)
theorem dX11_status_2 : decode cX11_status 2 = .ok (.lconst 0, 1) := kd_9 (by decide +kernel)
theorem dX11_status_3 : decode cX11_status 3 = .ok (.ldc2_w 180, 3) := kd_20 (a := 0) (b := 180) (by decide +kernel)
theorem gX11_status_X11_in : GoodIn wsX11_status (va_wsS RX11 65 yX11_in wsX11_in) := gW_S (in_r8 (List.mem_of_getElem? (i := 9) rfl)) (in_r8 (List.mem_of_getElem? (i := 10) rfl)) (in_r1 (List.mem_of_getElem? (i := 5) rfl)) (in_r8 (List.mem_of_getElem? (i := 11) rfl))
theorem dX11_status_6 : decode cX11_status 6 = .ok (.invokestatic 65, 3) := kd_184 (a := 0) (b := 65) (by decide +kernel)
theorem dX11_status_9 : decode cX11_status 9 = .ok (.ifCond .eq 12, 3) := kd_153 (a := 0) (b := 12) (by decide +kernel)
theorem dX11_status_12 : decode cX11_status 12 = .ok (.aload_n 0, 1) := kd_42 (by decide +kernel)
theorem dX11_status_13 : decode cX11_status 13 = .ok (.getfield 20, 3) := kd_180 (a := 0) (b := 20) (by decide +kernel)
theorem dX11_status_16 : decode cX11_status 16 = .ok (.iload_n 1, 1) := kd_27 (by decide +kernel)
theorem dX11_status_17 : decode cX11_status 17 = .ok (.iaload, 1) := kd_46 (by decide +kernel)
theorem dX11_status_18 : decode cX11_status 18 = .ok (.goto 8, 3) := kd_167 (a := 0) (b := 8) (by decide +kernel)
theorem dX11_status_26 : decode cX11_status 26 = .ok (.ireturn, 1) := kd_172 (by decide +kernel)
theorem dX11_status_21 : decode cX11_status 21 = .ok (.aload_n 0, 1) := kd_42 (by decide +kernel)
theorem dX11_status_22 : decode cX11_status 22 = .ok (.iconst (-1), 1) := kd_2 (by decide +kernel)
theorem gX11_status_X11_bad : GoodIn wsX11_status (wsV RX11 79 RX11 yX11_bad wsX11_bad) := gW_V (in_r8 (List.mem_of_getElem? (i := 16) rfl)) (in_r8 (List.mem_of_getElem? (i := 17) rfl)) (in_r8 (List.mem_of_getElem? (i := 18) rfl)) (in_r1 (List.mem_of_getElem? (i := 5) rfl)) (in_r8 (List.mem_of_getElem? (i := 19) rfl))
theorem dX11_status_23 : decode cX11_status 23 = .ok (.invokevirtual 79, 3) := kd_182 (a := 0) (b := 79) (by decide +kernel)
set_option maxHeartbeats 8000000 in
set_option maxRecDepth 100000 in
theorem c_X11_status (l : Launch) (G : gG) (m0 : Nat) (m_all : Nat) (m_kept : Nat) (m_isKept : Nat) (m_refused : Nat) (m_above : Int) (m_below : Int) (m_hand : Nat) (m_fewest : Nat) (m_whoBites : Nat) (m_leaves : Nat) (m_bestFeast : Nat) (m_tells : Nat) (m_hardOn : Nat) (m_bytes : Nat) (m_bytesLong : Int) (m_tokenAt : Int) (m_tokenLong : Int) (m_token : Int) (m_value : Int) (m_anew : Nat) (m_values : Nat) (mr : Nat → Int) (a1 : Int) (ra1 : -2147483648 ≤ a1 ∧ a1 ≤ 2147483647) (sz : Nat) : gI G l yX11_status wsX11_status ({ frames := 1, cells := 0, slots := 0, locals := 25 } : Room) [.ref m0, .int (iI a1)] [(m0, .inr (10, [.ref m_all, .ref m_kept, .ref m_isKept, .ref m_refused, .long (lI m_above), .long (lI m_below), .ref m_hand, .ref m_fewest, .ref m_whoBites, .ref m_leaves, .ref m_bestFeast, .ref m_tells, .ref m_hardOn, .ref m_bytes, .int (iI m_bytesLong), .int (iI m_tokenAt), .int (iI m_tokenLong), .int (iI m_token), .int (iI m_value), .ref m_anew, .ref m_values])), (m_refused, .inl (G.2 0, 3, .inl (cI mr)))] sz (fun (r : Int32) (u : va_W) => (∃ rr : Int, ∃ N_r : Nat → Int, r = (iI rr) ∧ u = [(m0, .inr (10, [.ref m_all, .ref m_kept, .ref m_isKept, .ref m_refused, .long (lI m_above), .long (lI m_below), .ref m_hand, .ref m_fewest, .ref m_whoBites, .ref m_leaves, .ref m_bestFeast, .ref m_tells, .ref m_hardOn, .ref m_bytes, .int (iI m_bytesLong), .int (iI m_tokenAt), .int (iI m_tokenLong), .int (iI m_token), .int (iI m_value), .ref m_anew, .ref m_values])), (m_refused, .inl (G.2 0, 3, .inl (cI N_r)))])) := by
  refine Met.ofW (cc := cX11_status) (maxL := 2) (ret := (some .int)) (by decide) rfl ?_
  intro p e s m args below meth c s₁ B hml hv
  obtain ⟨rfl, hsz, hP, hK, hD0, hN, hZ⟩ := hv
  have hx := B.exec
  have hb := B.bytes
  have hr := B.returns
  have hts := atoms_spec (ws := wsX11_status) B.pre
  have hown : s.vm.findClass RX11 = some m.cls := findClass_of_methodNamed B.named
  have hlocks := B.notSynchronized
  subst hsz
  have hD := hD0.self (sz := s.heap.size)
  generalize hAe : va_A [(m0, .inr (10, [.ref m_all, .ref m_kept, .ref m_isKept, .ref m_refused, .long (lI m_above), .long (lI m_below), .ref m_hand, .ref m_fewest, .ref m_whoBites, .ref m_leaves, .ref m_bestFeast, .ref m_tells, .ref m_hardOn, .ref m_bytes, .int (iI m_bytesLong), .int (iI m_tokenAt), .int (iI m_tokenLong), .int (iI m_token), .int (iI m_value), .ref m_anew, .ref m_values])), (m_refused, .inl (G.2 0, 3, .inl (cI mr)))] s.heap.size = A at hD hZ ⊢
  have hA : ∀ q : Nat, s.heap.size ≤ q → A q := fun q h => by rw [← hAe]; exact Or.inr h
  have hS : va_S A s.heap s.heap [] := va_S.rf
  have hP : va_P G.1 vwCl [(m0, .inr (10, [.ref m_all, .ref m_kept, .ref m_isKept, .ref m_refused, .long (lI m_above), .long (lI m_below), .ref m_hand, .ref m_fewest, .ref m_whoBites, .ref m_leaves, .ref m_bestFeast, .ref m_tells, .ref m_hardOn, .ref m_bytes, .int (iI m_bytesLong), .int (iI m_tokenAt), .int (iI m_tokenLong), .int (iI m_token), .int (iI m_value), .ref m_anew, .ref m_values])), (m_refused, .inl (G.2 0, 3, .inl (cI mr)))] s.heap := hP
  have hl := lv_entry ([.ref m0, .int (iI a1)]) (n := 2) (Nat.le_of_ble_eq_true rfl)
  rw [lg_entry_eq]
  generalize (lg_sl ([.ref m0, .int (iI a1)]) ++ List.replicate (2 - (lg_sl ([.ref m0, .int (iI a1)])).length) Slot.unset).toArray = ls at hl ⊢
  have hl : lv_has ls 2 [(0, .ref m0), (1, .int (iI a1))] := hl
  refine lv_iload_n hx hb dX11_status_0 rfl (lv_at hl 1 rfl) ?_
  refine lv_i2l (v := lI a1) hx hb dX11_status_1 (i2l_iI (by omega)) ?_
  refine lv_lconst (v := lI 0) hx hb dX11_status_2 (by decide) ?_
  refine lv_ldc2 (v := 2) hx hb hown (hts _ (List.mem_cons_of_mem _ (in_r33 (List.mem_of_getElem? (i := 7) rfl)))) dX11_status_3 ?_
  refine g_topl (y := lI 2) (by decide) ?_
  refine g_calli (wr := [(m0, .inr (10, [.ref m_all, .ref m_kept, .ref m_isKept, .ref m_refused, .long (lI m_above), .long (lI m_below), .ref m_hand, .ref m_fewest, .ref m_whoBites, .ref m_leaves, .ref m_bestFeast, .ref m_tells, .ref m_hardOn, .ref m_bytes, .int (iI m_bytesLong), .int (iI m_tokenAt), .int (iI m_tokenLong), .int (iI m_token), .int (iI m_value), .ref m_anew, .ref m_values])), (m_refused, .inl (G.2 0, 3, .inl (cI mr)))]) (va_runS (As := [.long (lI a1), .long (lI 0), .long (lI 2)]) (rest := []) ⟨hx, hb, hml, hown, hts⟩ (c_X11_in l G (a1) (0) (2) (by first | assumption | omega) (by first | assumption | omega) (by first | assumption | omega) _) (va_cwS 3 hts gX11_status_X11_in rfl rfl rfl (by decide +kernel) ⟨Nat.le_of_ble_eq_true rfl, Nat.le_of_ble_eq_true rfl⟩) (g_preS [.long (lI a1), .long (lI 0), .long (lI 2)] hP hD hK hN hS hA hZ [] rfl rfl) rfl rfl hl.1 rfl (lv_room (Nat.le_of_ble_eq_true rfl)) dX11_status_6 ⟨Nat.le_of_ble_eq_true rfl, Nat.le_of_ble_eq_true rfl⟩) hP hD hS hA [] [0, 1] rfl rfl rfl (by decide) (fun r_1 u H locs hw hP hD hS => ?_)
  rcases hw with hw | hw
  · refine ea_0_4 hw (fun k_2 k_3 e8_0 e8_1 => ?_)
    subst e8_0
    subst e8_1
    clear hw
    have hPD : PD G A H [(m0, .inr (10, [.ref m_all, .ref m_kept, .ref m_isKept, .ref m_refused, .long (lI m_above), .long (lI m_below), .ref m_hand, .ref m_fewest, .ref m_whoBites, .ref m_leaves, .ref m_bestFeast, .ref m_tells, .ref m_hardOn, .ref m_bytes, .int (iI m_bytesLong), .int (iI m_tokenAt), .int (iI m_tokenLong), .int (iI m_token), .int (iI m_value), .ref m_anew, .ref m_values])), (m_refused, .inl (G.2 0, 3, .inl (cI mr)))] := ⟨hP, hD⟩
    have hP := hPD.1
    have hD := hPD.2
    clear hPD
    refine lv_if_eq (tgt := 21) hx hb dX11_status_9 (by decide) (fun c_5 => g_no c_5 (by decide)) (fun _ => ?_)
    refine lv_aload_n hx hb dX11_status_12 rfl (lv_at hl 0 rfl) ?_
    refine va_get (D := G.1) (ci := 10) (v := .ref m_refused) (C := RX11) (T := TX11) (N := 21) hx hb hts (fun _ h => List.mem_cons_of_mem _ (inlX11 _ h)) hown hK hP 0 rfl rfl 3 (by decide) (hts _ (List.mem_cons_of_mem _ (in_r6 (List.mem_of_getElem? (i := 3) rfl)))) (fun _ h9 => h9) rfl dX11_status_13 ?_
    refine lv_iload_n hx hb dX11_status_16 rfl (lv_at hl 1 rfl) ?_
    refine g_ildo hx hb hK hP 1 rfl (by omega) (by omega) (by first | exact Nat.le_of_ble_eq_true rfl | omega) dX11_status_17 (fun w_6 hw_6 => ?_)
    refine lv_goto (tgt := 26) hx hb dX11_status_18 (by decide) ?_
    exact g_iret (v := (iI w_6)) hx hb hr hlocks hP hD hS (⟨w_6, mr, rfl, rfl⟩) dX11_status_26
  · refine ea_0_3 hw (fun k_4 e8_0 e8_1 => ?_)
    subst e8_0
    subst e8_1
    clear hw
    have hPD : PD G A H [(m0, .inr (10, [.ref m_all, .ref m_kept, .ref m_isKept, .ref m_refused, .long (lI m_above), .long (lI m_below), .ref m_hand, .ref m_fewest, .ref m_whoBites, .ref m_leaves, .ref m_bestFeast, .ref m_tells, .ref m_hardOn, .ref m_bytes, .int (iI m_bytesLong), .int (iI m_tokenAt), .int (iI m_tokenLong), .int (iI m_token), .int (iI m_value), .ref m_anew, .ref m_values])), (m_refused, .inl (G.2 0, 3, .inl (cI mr)))] := ⟨hP, hD⟩
    have hP := hPD.1
    have hD := hPD.2
    clear hPD
    refine lv_if_eq (tgt := 21) hx hb dX11_status_9 (by decide) (fun _ => ?_) (fun c_7 => g_no (by decide) c_7)
    refine lv_aload_n hx hb dX11_status_21 rfl (lv_at hl 0 rfl) ?_
    refine lv_iconst (v := iI (-1)) hx hb dX11_status_22 rfl ?_
    refine g_calli (wr := []) (va_runV (As := [.int (iI (-1))]) (rest := []) ⟨hx, hb, hml, hown, hts⟩ (c_X11_bad l G (m0) (m_all) (m_kept) (m_isKept) (m_refused) (m_above) (m_below) (m_hand) (m_fewest) (m_whoBites) (m_leaves) (m_bestFeast) (m_tells) (m_hardOn) (m_bytes) (m_bytesLong) (m_tokenAt) (m_tokenLong) (m_token) (m_value) (m_anew) (m_values) (mr) ((-1)) (by first | assumption | omega) _) (cwV 1 hts gX11_status_X11_bad rfl rfl rfl (by decide +kernel) ⟨Nat.le_of_ble_eq_true rfl, Nat.le_of_ble_eq_true rfl⟩) (g_preV m0 [.int (iI (-1))] hP hD hK hN hS hA hZ [0, 1] rfl rfl 0 (ci := 10) rfl rfl) rfl rfl hl.1 rfl (lv_room (Nat.le_of_ble_eq_true rfl)) dX11_status_23 ⟨Nat.le_of_ble_eq_true rfl, Nat.le_of_ble_eq_true rfl⟩) hP hD hS hA [0, 1] [] rfl rfl rfl (by decide) (fun r_8 u H locs hw hP hD hS => ?_)
    obtain ⟨Nr_9, rfl, rfl⟩ := hw
    have hPD : PD G A H [(m0, .inr (10, [.ref m_all, .ref m_kept, .ref m_isKept, .ref m_refused, .long (lI m_above), .long (lI m_below), .ref m_hand, .ref m_fewest, .ref m_whoBites, .ref m_leaves, .ref m_bestFeast, .ref m_tells, .ref m_hardOn, .ref m_bytes, .int (iI m_bytesLong), .int (iI m_tokenAt), .int (iI m_tokenLong), .int (iI m_token), .int (iI m_value), .ref m_anew, .ref m_values])), (m_refused, .inl (G.2 0, 3, .inl (cI Nr_9)))] := ⟨hP, hD⟩
    have hP := hPD.1
    have hD := hPD.2
    clear hPD
    exact g_iret (v := (iI (-1))) hx hb hr hlocks hP hD hS (⟨(-1), Nr_9, rfl, rfl⟩) dX11_status_26
theorem dX11_type_0 : decode cX11_type 0 = .ok (.iload_n 1, 1) := kd_27 (by decide +kernel)
theorem dX11_type_1 : decode cX11_type 1 = .ok (.i2l, 1) := kd_133 (by decide +kernel)
theorem dX11_type_2 : decode cX11_type 2 = .ok (.lconst 0, 1) := kd_9 (by decide +kernel)
theorem dX11_type_3 : decode cX11_type 3 = .ok (.ldc2_w 230, 3) := kd_20 (a := 0) (b := 230) (by decide +kernel)
theorem gX11_type_X11_in : GoodIn wsX11_type (va_wsS RX11 65 yX11_in wsX11_in) := gW_S (in_r8 (List.mem_of_getElem? (i := 9) rfl)) (in_r8 (List.mem_of_getElem? (i := 10) rfl)) (in_r1 (List.mem_of_getElem? (i := 5) rfl)) (in_r8 (List.mem_of_getElem? (i := 11) rfl))
theorem dX11_type_6 : decode cX11_type 6 = .ok (.invokestatic 65, 3) := kd_184 (a := 0) (b := 65) (by decide +kernel)
theorem dX11_type_9 : decode cX11_type 9 = .ok (.ifCond .ne 10, 3) := kd_154 (a := 0) (b := 10) (by decide +kernel)
theorem dX11_type_19 : decode cX11_type 19 = .ok (.aload_n 0, 1) := kd_42 (by decide +kernel)
theorem dX11_type_20 : decode cX11_type 20 = .ok (.getfield 232, 3) := kd_180 (a := 0) (b := 232) (by decide +kernel)
theorem dX11_type_23 : decode cX11_type 23 = .ok (.sipush 150, 3) := kd_17 (a := 0) (b := 150) (by decide +kernel)
theorem dX11_type_26 : decode cX11_type 26 = .ok (.if_icmp .ne 8, 3) := kd_160 (a := 0) (b := 8) (by decide +kernel)
theorem dX11_type_34 : decode cX11_type 34 = .ok (.aload_n 0, 1) := kd_42 (by decide +kernel)
theorem dX11_type_35 : decode cX11_type 35 = .ok (.getfield 48, 3) := kd_180 (a := 0) (b := 48) (by decide +kernel)
theorem dX11_type_38 : decode cX11_type 38 = .ok (.aload_n 0, 1) := kd_42 (by decide +kernel)
theorem dX11_type_39 : decode cX11_type 39 = .ok (.getfield 232, 3) := kd_180 (a := 0) (b := 232) (by decide +kernel)
theorem dX11_type_42 : decode cX11_type 42 = .ok (.iload_n 1, 1) := kd_27 (by decide +kernel)
theorem dX11_type_43 : decode cX11_type 43 = .ok (.iastore, 1) := kd_79 (by decide +kernel)
theorem dX11_type_44 : decode cX11_type 44 = .ok (.aload_n 0, 1) := kd_42 (by decide +kernel)
theorem dX11_type_45 : decode cX11_type 45 = .ok (.dup, 1) := kd_89 (by decide +kernel)
theorem dX11_type_46 : decode cX11_type 46 = .ok (.getfield 232, 3) := kd_180 (a := 0) (b := 232) (by decide +kernel)
theorem dX11_type_49 : decode cX11_type 49 = .ok (.iconst 1, 1) := kd_4 (by decide +kernel)
theorem dX11_type_50 : decode cX11_type 50 = .ok (.iadd, 1) := kd_96 (by decide +kernel)
theorem dX11_type_51 : decode cX11_type 51 = .ok (.putfield 232, 3) := kd_181 (a := 0) (b := 232) (by decide +kernel)
theorem dX11_type_54 : decode cX11_type 54 = .ok (.aload_n 0, 1) := kd_42 (by decide +kernel)
theorem dX11_type_55 : decode cX11_type 55 = .ok (.getfield 232, 3) := kd_180 (a := 0) (b := 232) (by decide +kernel)
theorem dX11_type_58 : decode cX11_type 58 = .ok (.ireturn, 1) := kd_172 (by decide +kernel)
theorem dX11_type_29 : decode cX11_type 29 = .ok (.aload_n 0, 1) := kd_42 (by decide +kernel)
theorem gX11_type_X11_full : GoodIn wsX11_type (wsV RX11 90 RX11 yX11_full wsX11_full) := gW_V (in_r9 (List.mem_of_getElem? (i := 17) rfl)) (in_r9 (List.mem_of_getElem? (i := 18) rfl)) (in_r9 (List.mem_of_getElem? (i := 19) rfl)) (in_r1 (List.mem_of_getElem? (i := 5) rfl)) (in_r9 (List.mem_of_getElem? (i := 20) rfl))
theorem dX11_type_30 : decode cX11_type 30 = .ok (.invokevirtual 90, 3) := kd_182 (a := 0) (b := 90) (by decide +kernel)
theorem dX11_type_33 : decode cX11_type 33 = .ok (.ireturn, 1) := kd_172 (by decide +kernel)
theorem dX11_type_12 : decode cX11_type 12 = .ok (.aload_n 0, 1) := kd_42 (by decide +kernel)
theorem dX11_type_13 : decode cX11_type 13 = .ok (.bipush (-2), 2) := kd_16 (a := 254) (by decide +kernel)
theorem gX11_type_X11_bad : GoodIn wsX11_type (wsV RX11 79 RX11 yX11_bad wsX11_bad) := gW_V (in_r8 (List.mem_of_getElem? (i := 16) rfl)) (in_r8 (List.mem_of_getElem? (i := 17) rfl)) (in_r8 (List.mem_of_getElem? (i := 18) rfl)) (in_r1 (List.mem_of_getElem? (i := 5) rfl)) (in_r8 (List.mem_of_getElem? (i := 19) rfl))
theorem dX11_type_15 : decode cX11_type 15 = .ok (.invokevirtual 79, 3) := kd_182 (a := 0) (b := 79) (by decide +kernel)
theorem dX11_type_18 : decode cX11_type 18 = .ok (.ireturn, 1) := kd_172 (by decide +kernel)
set_option maxHeartbeats 8000000 in
set_option maxRecDepth 100000 in
theorem c_X11_type (l : Launch) (G : gG) (m0 : Nat) (m_all : Nat) (m_kept : Nat) (m_isKept : Nat) (m_refused : Nat) (m_above : Int) (m_below : Int) (m_hand : Nat) (m_fewest : Nat) (m_whoBites : Nat) (m_leaves : Nat) (m_bestFeast : Nat) (m_tells : Nat) (m_hardOn : Nat) (m_bytes : Nat) (m_bytesLong : Int) (m_tokenAt : Int) (m_tokenLong : Int) (m_token : Int) (m_value : Int) (m_anew : Nat) (m_values : Nat) (mr : Nat → Int) (my : Nat → Int) (a1 : Int) (y0_ : bd 0 127 my) (ra1 : -2147483648 ≤ a1 ∧ a1 ≤ 2147483647) (hL : 0 ≤ m_bytesLong ∧ m_bytesLong ≤ 150) (sz : Nat) : gI G l yX11_type wsX11_type ({ frames := 1, cells := 0, slots := 0, locals := 25 } : Room) [.ref m0, .int (iI a1)] [(m0, .inr (10, [.ref m_all, .ref m_kept, .ref m_isKept, .ref m_refused, .long (lI m_above), .long (lI m_below), .ref m_hand, .ref m_fewest, .ref m_whoBites, .ref m_leaves, .ref m_bestFeast, .ref m_tells, .ref m_hardOn, .ref m_bytes, .int (iI m_bytesLong), .int (iI m_tokenAt), .int (iI m_tokenLong), .int (iI m_token), .int (iI m_value), .ref m_anew, .ref m_values])), (m_refused, .inl (G.2 0, 3, .inl (cI mr))), (m_bytes, .inl (G.2 0, 150, .inl (cI my)))] sz (fun (r : Int32) (u : va_W) => (∃ Nr : Nat → Int, (¬ (0 ≤ a1 ∧ a1 ≤ 127)) ∧ r = (iI (-2)) ∧ u = [(m0, .inr (10, [.ref m_all, .ref m_kept, .ref m_isKept, .ref m_refused, .long (lI m_above), .long (lI m_below), .ref m_hand, .ref m_fewest, .ref m_whoBites, .ref m_leaves, .ref m_bestFeast, .ref m_tells, .ref m_hardOn, .ref m_bytes, .int (iI m_bytesLong), .int (iI m_tokenAt), .int (iI m_tokenLong), .int (iI m_token), .int (iI m_value), .ref m_anew, .ref m_values])), (m_refused, .inl (G.2 0, 3, .inl (cI Nr))), (m_bytes, .inl (G.2 0, 150, .inl (cI my)))]) ∨ (∃ Nr : Nat → Int, (0 ≤ a1 ∧ a1 ≤ 127) ∧ (m_bytesLong = 150) ∧ r = (iI (-4)) ∧ u = [(m0, .inr (10, [.ref m_all, .ref m_kept, .ref m_isKept, .ref m_refused, .long (lI m_above), .long (lI m_below), .ref m_hand, .ref m_fewest, .ref m_whoBites, .ref m_leaves, .ref m_bestFeast, .ref m_tells, .ref m_hardOn, .ref m_bytes, .int (iI m_bytesLong), .int (iI m_tokenAt), .int (iI m_tokenLong), .int (iI m_token), .int (iI m_value), .ref m_anew, .ref m_values])), (m_refused, .inl (G.2 0, 3, .inl (cI Nr))), (m_bytes, .inl (G.2 0, 150, .inl (cI my)))]) ∨ ((0 ≤ a1 ∧ a1 ≤ 127) ∧ (m_bytesLong < 150) ∧ (bd 0 127 (uI my (m_bytesLong.toNat) a1)) ∧ r = (iI (m_bytesLong + 1)) ∧ u = [(m0, .inr (10, [.ref m_all, .ref m_kept, .ref m_isKept, .ref m_refused, .long (lI m_above), .long (lI m_below), .ref m_hand, .ref m_fewest, .ref m_whoBites, .ref m_leaves, .ref m_bestFeast, .ref m_tells, .ref m_hardOn, .ref m_bytes, .int (iI (m_bytesLong + 1)), .int (iI m_tokenAt), .int (iI m_tokenLong), .int (iI m_token), .int (iI m_value), .ref m_anew, .ref m_values])), (m_refused, .inl (G.2 0, 3, .inl (cI mr))), (m_bytes, .inl (G.2 0, 150, .inl (cI (uI my (m_bytesLong.toNat) a1))))])) := by
  refine Met.ofW (cc := cX11_type) (maxL := 2) (ret := (some .int)) (by decide) rfl ?_
  intro p e s m args below meth c s₁ B hml hv
  obtain ⟨rfl, hsz, hP, hK, hD0, hN, hZ⟩ := hv
  have hx := B.exec
  have hb := B.bytes
  have hr := B.returns
  have hts := atoms_spec (ws := wsX11_type) B.pre
  have hown : s.vm.findClass RX11 = some m.cls := findClass_of_methodNamed B.named
  have hlocks := B.notSynchronized
  subst hsz
  have hD := hD0.self (sz := s.heap.size)
  generalize hAe : va_A [(m0, .inr (10, [.ref m_all, .ref m_kept, .ref m_isKept, .ref m_refused, .long (lI m_above), .long (lI m_below), .ref m_hand, .ref m_fewest, .ref m_whoBites, .ref m_leaves, .ref m_bestFeast, .ref m_tells, .ref m_hardOn, .ref m_bytes, .int (iI m_bytesLong), .int (iI m_tokenAt), .int (iI m_tokenLong), .int (iI m_token), .int (iI m_value), .ref m_anew, .ref m_values])), (m_refused, .inl (G.2 0, 3, .inl (cI mr))), (m_bytes, .inl (G.2 0, 150, .inl (cI my)))] s.heap.size = A at hD hZ ⊢
  have hA : ∀ q : Nat, s.heap.size ≤ q → A q := fun q h => by rw [← hAe]; exact Or.inr h
  have hS : va_S A s.heap s.heap [] := va_S.rf
  have hP : va_P G.1 vwCl [(m0, .inr (10, [.ref m_all, .ref m_kept, .ref m_isKept, .ref m_refused, .long (lI m_above), .long (lI m_below), .ref m_hand, .ref m_fewest, .ref m_whoBites, .ref m_leaves, .ref m_bestFeast, .ref m_tells, .ref m_hardOn, .ref m_bytes, .int (iI m_bytesLong), .int (iI m_tokenAt), .int (iI m_tokenLong), .int (iI m_token), .int (iI m_value), .ref m_anew, .ref m_values])), (m_refused, .inl (G.2 0, 3, .inl (cI mr))), (m_bytes, .inl (G.2 0, 150, .inl (cI my)))] s.heap := hP
  have hl := lv_entry ([.ref m0, .int (iI a1)]) (n := 2) (Nat.le_of_ble_eq_true rfl)
  rw [lg_entry_eq]
  generalize (lg_sl ([.ref m0, .int (iI a1)]) ++ List.replicate (2 - (lg_sl ([.ref m0, .int (iI a1)])).length) Slot.unset).toArray = ls at hl ⊢
  have hl : lv_has ls 2 [(0, .ref m0), (1, .int (iI a1))] := hl
  refine lv_iload_n hx hb dX11_type_0 rfl (lv_at hl 1 rfl) ?_
  refine lv_i2l (v := lI a1) hx hb dX11_type_1 (i2l_iI (by omega)) ?_
  refine lv_lconst (v := lI 0) hx hb dX11_type_2 (by decide) ?_
  refine lv_ldc2 (v := 127) hx hb hown (hts _ (List.mem_cons_of_mem _ (in_r11 (List.mem_of_getElem? (i := 6) rfl)))) dX11_type_3 ?_
  refine g_topl (y := lI 127) (by decide) ?_
  refine g_calli (wr := [(m0, .inr (10, [.ref m_all, .ref m_kept, .ref m_isKept, .ref m_refused, .long (lI m_above), .long (lI m_below), .ref m_hand, .ref m_fewest, .ref m_whoBites, .ref m_leaves, .ref m_bestFeast, .ref m_tells, .ref m_hardOn, .ref m_bytes, .int (iI m_bytesLong), .int (iI m_tokenAt), .int (iI m_tokenLong), .int (iI m_token), .int (iI m_value), .ref m_anew, .ref m_values])), (m_refused, .inl (G.2 0, 3, .inl (cI mr))), (m_bytes, .inl (G.2 0, 150, .inl (cI my)))]) (va_runS (As := [.long (lI a1), .long (lI 0), .long (lI 127)]) (rest := []) ⟨hx, hb, hml, hown, hts⟩ (c_X11_in l G (a1) (0) (127) (by first | assumption | omega) (by first | assumption | omega) (by first | assumption | omega) _) (va_cwS 3 hts gX11_type_X11_in rfl rfl rfl (by decide +kernel) ⟨Nat.le_of_ble_eq_true rfl, Nat.le_of_ble_eq_true rfl⟩) (g_preS [.long (lI a1), .long (lI 0), .long (lI 127)] hP hD hK hN hS hA hZ [] rfl rfl) rfl rfl hl.1 rfl (lv_room (Nat.le_of_ble_eq_true rfl)) dX11_type_6 ⟨Nat.le_of_ble_eq_true rfl, Nat.le_of_ble_eq_true rfl⟩) hP hD hS hA [] [0, 1, 2] rfl rfl rfl (by decide) (fun r_1 u H locs hw hP hD hS => ?_)
  rcases hw with hw | hw
  · refine ea_0_4 hw (fun k_2 k_3 e8_0 e8_1 => ?_)
    subst e8_0
    subst e8_1
    clear hw
    have hPD : PD G A H [(m0, .inr (10, [.ref m_all, .ref m_kept, .ref m_isKept, .ref m_refused, .long (lI m_above), .long (lI m_below), .ref m_hand, .ref m_fewest, .ref m_whoBites, .ref m_leaves, .ref m_bestFeast, .ref m_tells, .ref m_hardOn, .ref m_bytes, .int (iI m_bytesLong), .int (iI m_tokenAt), .int (iI m_tokenLong), .int (iI m_token), .int (iI m_value), .ref m_anew, .ref m_values])), (m_refused, .inl (G.2 0, 3, .inl (cI mr))), (m_bytes, .inl (G.2 0, 150, .inl (cI my)))] := ⟨hP, hD⟩
    have hP := hPD.1
    have hD := hPD.2
    clear hPD
    refine lv_if_ne (tgt := 19) hx hb dX11_type_9 (by decide) (fun _ => ?_) (fun c_5 => g_no c_5 (by decide))
    refine lv_aload_n hx hb dX11_type_19 rfl (lv_at hl 0 rfl) ?_
    refine va_get (D := G.1) (ci := 10) (v := .int (iI m_bytesLong)) (C := RX11) (T := TX11) (N := 21) hx hb hts (fun _ h => List.mem_cons_of_mem _ (inlX11 _ h)) hown hK hP 0 rfl rfl 14 (by decide) (hts _ (List.mem_cons_of_mem _ (in_r11 (List.mem_of_getElem? (i := 7) rfl)))) (fun _ h9 => h9) rfl dX11_type_20 ?_
    refine lv_sipush (v := iI 150) hx hb dX11_type_23 (by decide) ?_
    refine lv_icmp_ne (tgt := 34) hx hb dX11_type_26 (by decide) (fun c_6 => ?_) (fun c_6 => ?_)
    · have c_6 : ¬ (m_bytesLong = 150) := fun h9 => c_6 ((iI_eq (a := m_bytesLong) (b := 150) (by omega) (by first | decide | omega)).mpr h9)
      refine lv_aload_n hx hb dX11_type_34 rfl (lv_at hl 0 rfl) ?_
      refine va_get (D := G.1) (ci := 10) (v := .ref m_bytes) (C := RX11) (T := TX11) (N := 21) hx hb hts (fun _ h => List.mem_cons_of_mem _ (inlX11 _ h)) hown hK hP 0 rfl rfl 13 (by decide) (hts _ (List.mem_cons_of_mem _ (in_r6 (List.mem_of_getElem? (i := 12) rfl)))) (fun _ h9 => h9) rfl dX11_type_35 ?_
      refine lv_aload_n hx hb dX11_type_38 rfl (lv_at hl 0 rfl) ?_
      refine va_get (D := G.1) (ci := 10) (v := .int (iI m_bytesLong)) (C := RX11) (T := TX11) (N := 21) hx hb hts (fun _ h => List.mem_cons_of_mem _ (inlX11 _ h)) hown hK hP 0 rfl rfl 14 (by decide) (hts _ (List.mem_cons_of_mem _ (in_r11 (List.mem_of_getElem? (i := 7) rfl)))) (fun _ h9 => h9) rfl dX11_type_39 ?_
      refine lv_iload_n hx hb dX11_type_42 rfl (lv_at hl 1 rfl) ?_
      refine g_ist hx hb hK hP hD hS 2 rfl (by omega) (by omega) (by first | exact Nat.le_of_ble_eq_true rfl | omega) dX11_type_43 (fun H locs hP hD hS => ?_)
      have hb_8 := bd_u (k := (m_bytesLong.toNat)) (v := a1) y0_ (by omega) (by omega)
      have hPD : PD G A H [(m0, .inr (10, [.ref m_all, .ref m_kept, .ref m_isKept, .ref m_refused, .long (lI m_above), .long (lI m_below), .ref m_hand, .ref m_fewest, .ref m_whoBites, .ref m_leaves, .ref m_bestFeast, .ref m_tells, .ref m_hardOn, .ref m_bytes, .int (iI m_bytesLong), .int (iI m_tokenAt), .int (iI m_tokenLong), .int (iI m_token), .int (iI m_value), .ref m_anew, .ref m_values])), (m_refused, .inl (G.2 0, 3, .inl (cI mr))), (m_bytes, .inl (G.2 0, 150, .inl (cI (uI my (m_bytesLong.toNat) a1))))] := ⟨hP, hD⟩
      have hP := hPD.1
      have hD := hPD.2
      clear hPD
      refine lv_aload_n hx hb dX11_type_44 rfl (lv_at hl 0 rfl) ?_
      refine lv_dup hx hb dX11_type_45 rfl ?_
      refine va_get (D := G.1) (ci := 10) (v := .int (iI m_bytesLong)) (C := RX11) (T := TX11) (N := 21) hx hb hts (fun _ h => List.mem_cons_of_mem _ (inlX11 _ h)) hown hK hP 0 rfl rfl 14 (by decide) (hts _ (List.mem_cons_of_mem _ (in_r11 (List.mem_of_getElem? (i := 7) rfl)))) (fun _ h9 => h9) rfl dX11_type_46 ?_
      refine lv_iconst (v := iI 1) hx hb dX11_type_49 rfl ?_
      refine lv_iadd hx hb dX11_type_50 ?_
      refine g_topi (y := iI (m_bytesLong + 1)) (iI_add m_bytesLong 1) ?_
      refine va_put (D := G.1) (ci := 10) (v := .int (iI (m_bytesLong + 1))) (ty := .int) (C := RX11) (T := TX11) (N := 21) hx hb hts (fun _ h => List.mem_cons_of_mem _ (inlX11 _ h)) tyX11 tyX11_ok nmX11 hown hK hP hD hS 0 rfl rfl 14 (by decide) (hts _ (List.mem_cons_of_mem _ (in_r11 (List.mem_of_getElem? (i := 7) rfl)))) (fun _ h9 => h9) rfl (by decide +kernel) rfl rfl (Nat.le_of_ble_eq_true rfl) dX11_type_51 (fun H locs hP hD hS => ?_)
      have hPD : PD G A H [(m0, .inr (10, [.ref m_all, .ref m_kept, .ref m_isKept, .ref m_refused, .long (lI m_above), .long (lI m_below), .ref m_hand, .ref m_fewest, .ref m_whoBites, .ref m_leaves, .ref m_bestFeast, .ref m_tells, .ref m_hardOn, .ref m_bytes, .int (iI (m_bytesLong + 1)), .int (iI m_tokenAt), .int (iI m_tokenLong), .int (iI m_token), .int (iI m_value), .ref m_anew, .ref m_values])), (m_refused, .inl (G.2 0, 3, .inl (cI mr))), (m_bytes, .inl (G.2 0, 150, .inl (cI (uI my (m_bytesLong.toNat) a1))))] := ⟨hP, hD⟩
      have hP := hPD.1
      have hD := hPD.2
      clear hPD
      refine lv_aload_n hx hb dX11_type_54 rfl (lv_at hl 0 rfl) ?_
      refine va_get (D := G.1) (ci := 10) (v := .int (iI (m_bytesLong + 1))) (C := RX11) (T := TX11) (N := 21) hx hb hts (fun _ h => List.mem_cons_of_mem _ (inlX11 _ h)) hown hK hP 0 rfl rfl 14 (by decide) (hts _ (List.mem_cons_of_mem _ (in_r11 (List.mem_of_getElem? (i := 7) rfl)))) (fun _ h9 => h9) rfl dX11_type_55 ?_
      exact g_iret (v := (iI (m_bytesLong + 1))) hx hb hr hlocks hP hD hS (Or.inr (Or.inr (⟨(by first | assumption | omega), (by first | assumption | omega), (by first | exact hb_8 | exact bd_mono hb_8 (by omega) (by omega) | assumption), rfl, rfl⟩))) dX11_type_58
    · have c_6 := (iI_eq (a := m_bytesLong) (b := 150) (by omega) (by first | decide | omega)).mp c_6
      refine lv_aload_n hx hb dX11_type_29 rfl (lv_at hl 0 rfl) ?_
      refine g_calli (wr := [(m_bytes, .inl (G.2 0, 150, .inl (cI my)))]) (va_runV (As := []) (rest := []) ⟨hx, hb, hml, hown, hts⟩ (c_X11_full l G (m0) (m_all) (m_kept) (m_isKept) (m_refused) (m_above) (m_below) (m_hand) (m_fewest) (m_whoBites) (m_leaves) (m_bestFeast) (m_tells) (m_hardOn) (m_bytes) (m_bytesLong) (m_tokenAt) (m_tokenLong) (m_token) (m_value) (m_anew) (m_values) (mr) _) (cwV 0 hts gX11_type_X11_full rfl rfl rfl (by decide +kernel) ⟨Nat.le_of_ble_eq_true rfl, Nat.le_of_ble_eq_true rfl⟩) (g_preV m0 [] hP hD hK hN hS hA hZ [0, 1] rfl rfl 0 (ci := 10) rfl rfl) rfl rfl hl.1 rfl (lv_room (Nat.le_of_ble_eq_true rfl)) dX11_type_30 ⟨Nat.le_of_ble_eq_true rfl, Nat.le_of_ble_eq_true rfl⟩) hP hD hS hA [0, 1] [2] rfl rfl rfl (by decide) (fun r_9 u H locs hw hP hD hS => ?_)
      obtain ⟨Nr_10, rfl, rfl⟩ := hw
      have hPD : PD G A H [(m_bytes, .inl (G.2 0, 150, .inl (cI my))), (m0, .inr (10, [.ref m_all, .ref m_kept, .ref m_isKept, .ref m_refused, .long (lI m_above), .long (lI m_below), .ref m_hand, .ref m_fewest, .ref m_whoBites, .ref m_leaves, .ref m_bestFeast, .ref m_tells, .ref m_hardOn, .ref m_bytes, .int (iI m_bytesLong), .int (iI m_tokenAt), .int (iI m_tokenLong), .int (iI m_token), .int (iI m_value), .ref m_anew, .ref m_values])), (m_refused, .inl (G.2 0, 3, .inl (cI Nr_10)))] := ⟨hP, hD⟩
      have hP := hPD.1
      have hD := hPD.2
      clear hPD
      have hP := hP.sub (ws' := [(m0, .inr (10, [.ref m_all, .ref m_kept, .ref m_isKept, .ref m_refused, .long (lI m_above), .long (lI m_below), .ref m_hand, .ref m_fewest, .ref m_whoBites, .ref m_leaves, .ref m_bestFeast, .ref m_tells, .ref m_hardOn, .ref m_bytes, .int (iI m_bytesLong), .int (iI m_tokenAt), .int (iI m_tokenLong), .int (iI m_token), .int (iI m_value), .ref m_anew, .ref m_values])), (m_refused, .inl (G.2 0, 3, .inl (cI Nr_10))), (m_bytes, .inl (G.2 0, 150, .inl (cI my)))]) [1, 2, 0] rfl
      have hD := hD.sub (ws' := [(m0, .inr (10, [.ref m_all, .ref m_kept, .ref m_isKept, .ref m_refused, .long (lI m_above), .long (lI m_below), .ref m_hand, .ref m_fewest, .ref m_whoBites, .ref m_leaves, .ref m_bestFeast, .ref m_tells, .ref m_hardOn, .ref m_bytes, .int (iI m_bytesLong), .int (iI m_tokenAt), .int (iI m_tokenLong), .int (iI m_token), .int (iI m_value), .ref m_anew, .ref m_values])), (m_refused, .inl (G.2 0, 3, .inl (cI Nr_10))), (m_bytes, .inl (G.2 0, 150, .inl (cI my)))]) [1, 2, 0] rfl rfl
      exact g_iret (v := (iI (-4))) hx hb hr hlocks hP hD hS (Or.inr (Or.inl ⟨Nr_10, (by first | assumption | omega), (by first | assumption | omega), rfl, rfl⟩)) dX11_type_33
  · refine ea_0_3 hw (fun k_4 e8_0 e8_1 => ?_)
    subst e8_0
    subst e8_1
    clear hw
    have hPD : PD G A H [(m0, .inr (10, [.ref m_all, .ref m_kept, .ref m_isKept, .ref m_refused, .long (lI m_above), .long (lI m_below), .ref m_hand, .ref m_fewest, .ref m_whoBites, .ref m_leaves, .ref m_bestFeast, .ref m_tells, .ref m_hardOn, .ref m_bytes, .int (iI m_bytesLong), .int (iI m_tokenAt), .int (iI m_tokenLong), .int (iI m_token), .int (iI m_value), .ref m_anew, .ref m_values])), (m_refused, .inl (G.2 0, 3, .inl (cI mr))), (m_bytes, .inl (G.2 0, 150, .inl (cI my)))] := ⟨hP, hD⟩
    have hP := hPD.1
    have hD := hPD.2
    clear hPD
    refine lv_if_ne (tgt := 19) hx hb dX11_type_9 (by decide) (fun c_11 => g_no (by decide) c_11) (fun _ => ?_)
    refine lv_aload_n hx hb dX11_type_12 rfl (lv_at hl 0 rfl) ?_
    refine lv_bipush (v := iI (-2)) hx hb dX11_type_13 (by decide) ?_
    refine g_calli (wr := [(m_bytes, .inl (G.2 0, 150, .inl (cI my)))]) (va_runV (As := [.int (iI (-2))]) (rest := []) ⟨hx, hb, hml, hown, hts⟩ (c_X11_bad l G (m0) (m_all) (m_kept) (m_isKept) (m_refused) (m_above) (m_below) (m_hand) (m_fewest) (m_whoBites) (m_leaves) (m_bestFeast) (m_tells) (m_hardOn) (m_bytes) (m_bytesLong) (m_tokenAt) (m_tokenLong) (m_token) (m_value) (m_anew) (m_values) (mr) ((-2)) (by first | assumption | omega) _) (cwV 1 hts gX11_type_X11_bad rfl rfl rfl (by decide +kernel) ⟨Nat.le_of_ble_eq_true rfl, Nat.le_of_ble_eq_true rfl⟩) (g_preV m0 [.int (iI (-2))] hP hD hK hN hS hA hZ [0, 1] rfl rfl 0 (ci := 10) rfl rfl) rfl rfl hl.1 rfl (lv_room (Nat.le_of_ble_eq_true rfl)) dX11_type_15 ⟨Nat.le_of_ble_eq_true rfl, Nat.le_of_ble_eq_true rfl⟩) hP hD hS hA [0, 1] [2] rfl rfl rfl (by decide) (fun r_12 u H locs hw hP hD hS => ?_)
    obtain ⟨Nr_13, rfl, rfl⟩ := hw
    have hPD : PD G A H [(m_bytes, .inl (G.2 0, 150, .inl (cI my))), (m0, .inr (10, [.ref m_all, .ref m_kept, .ref m_isKept, .ref m_refused, .long (lI m_above), .long (lI m_below), .ref m_hand, .ref m_fewest, .ref m_whoBites, .ref m_leaves, .ref m_bestFeast, .ref m_tells, .ref m_hardOn, .ref m_bytes, .int (iI m_bytesLong), .int (iI m_tokenAt), .int (iI m_tokenLong), .int (iI m_token), .int (iI m_value), .ref m_anew, .ref m_values])), (m_refused, .inl (G.2 0, 3, .inl (cI Nr_13)))] := ⟨hP, hD⟩
    have hP := hPD.1
    have hD := hPD.2
    clear hPD
    have hP := hP.sub (ws' := [(m0, .inr (10, [.ref m_all, .ref m_kept, .ref m_isKept, .ref m_refused, .long (lI m_above), .long (lI m_below), .ref m_hand, .ref m_fewest, .ref m_whoBites, .ref m_leaves, .ref m_bestFeast, .ref m_tells, .ref m_hardOn, .ref m_bytes, .int (iI m_bytesLong), .int (iI m_tokenAt), .int (iI m_tokenLong), .int (iI m_token), .int (iI m_value), .ref m_anew, .ref m_values])), (m_refused, .inl (G.2 0, 3, .inl (cI Nr_13))), (m_bytes, .inl (G.2 0, 150, .inl (cI my)))]) [1, 2, 0] rfl
    have hD := hD.sub (ws' := [(m0, .inr (10, [.ref m_all, .ref m_kept, .ref m_isKept, .ref m_refused, .long (lI m_above), .long (lI m_below), .ref m_hand, .ref m_fewest, .ref m_whoBites, .ref m_leaves, .ref m_bestFeast, .ref m_tells, .ref m_hardOn, .ref m_bytes, .int (iI m_bytesLong), .int (iI m_tokenAt), .int (iI m_tokenLong), .int (iI m_token), .int (iI m_value), .ref m_anew, .ref m_values])), (m_refused, .inl (G.2 0, 3, .inl (cI Nr_13))), (m_bytes, .inl (G.2 0, 150, .inl (cI my)))]) [1, 2, 0] rfl rfl
    exact g_iret (v := (iI (-2))) hx hb hr hlocks hP hD hS (Or.inl ⟨Nr_13, (by first | exact k_4 | assumption | omega), rfl, rfl⟩) dX11_type_18
theorem dX11_clear_0 : decode cX11_clear 0 = .ok (.aload_n 0, 1) := kd_42 (by decide +kernel)
theorem dX11_clear_1 : decode cX11_clear 1 = .ok (.getfield 232, 3) := kd_180 (a := 0) (b := 232) (by decide +kernel)
theorem dX11_clear_4 : decode cX11_clear 4 = .ok (.istore_n 1, 1) := kd_60 (by decide +kernel)
theorem dX11_clear_5 : decode cX11_clear 5 = .ok (.aload_n 0, 1) := kd_42 (by decide +kernel)
theorem dX11_clear_6 : decode cX11_clear 6 = .ok (.iconst 0, 1) := kd_3 (by decide +kernel)
theorem dX11_clear_7 : decode cX11_clear 7 = .ok (.putfield 232, 3) := kd_181 (a := 0) (b := 232) (by decide +kernel)
theorem dX11_clear_10 : decode cX11_clear 10 = .ok (.iload_n 1, 1) := kd_27 (by decide +kernel)
theorem dX11_clear_11 : decode cX11_clear 11 = .ok (.ireturn, 1) := kd_172 (by decide +kernel)
set_option maxHeartbeats 8000000 in
set_option maxRecDepth 100000 in
theorem c_X11_clear (l : Launch) (G : gG) (m0 : Nat) (m_all : Nat) (m_kept : Nat) (m_isKept : Nat) (m_refused : Nat) (m_above : Int) (m_below : Int) (m_hand : Nat) (m_fewest : Nat) (m_whoBites : Nat) (m_leaves : Nat) (m_bestFeast : Nat) (m_tells : Nat) (m_hardOn : Nat) (m_bytes : Nat) (m_bytesLong : Int) (m_tokenAt : Int) (m_tokenLong : Int) (m_token : Int) (m_value : Int) (m_anew : Nat) (m_values : Nat) (sz : Nat) : gI G l yX11_clear wsX11_clear ({ frames := 0, cells := 0, slots := 0, locals := 0 } : Room) [.ref m0] [(m0, .inr (10, [.ref m_all, .ref m_kept, .ref m_isKept, .ref m_refused, .long (lI m_above), .long (lI m_below), .ref m_hand, .ref m_fewest, .ref m_whoBites, .ref m_leaves, .ref m_bestFeast, .ref m_tells, .ref m_hardOn, .ref m_bytes, .int (iI m_bytesLong), .int (iI m_tokenAt), .int (iI m_tokenLong), .int (iI m_token), .int (iI m_value), .ref m_anew, .ref m_values]))] sz (fun (r : Int32) (u : va_W) => (r = (iI m_bytesLong) ∧ u = [(m0, .inr (10, [.ref m_all, .ref m_kept, .ref m_isKept, .ref m_refused, .long (lI m_above), .long (lI m_below), .ref m_hand, .ref m_fewest, .ref m_whoBites, .ref m_leaves, .ref m_bestFeast, .ref m_tells, .ref m_hardOn, .ref m_bytes, .int (iI 0), .int (iI m_tokenAt), .int (iI m_tokenLong), .int (iI m_token), .int (iI m_value), .ref m_anew, .ref m_values]))])) := by
  refine Met.ofW (cc := cX11_clear) (maxL := 2) (ret := (some .int)) (by decide) rfl ?_
  intro p e s m args below meth c s₁ B hml hv
  obtain ⟨rfl, hsz, hP, hK, hD0, hN, hZ⟩ := hv
  have hx := B.exec
  have hb := B.bytes
  have hr := B.returns
  have hts := atoms_spec (ws := wsX11_clear) B.pre
  have hown : s.vm.findClass RX11 = some m.cls := findClass_of_methodNamed B.named
  have hlocks := B.notSynchronized
  subst hsz
  have hD := hD0.self (sz := s.heap.size)
  generalize hAe : va_A [(m0, .inr (10, [.ref m_all, .ref m_kept, .ref m_isKept, .ref m_refused, .long (lI m_above), .long (lI m_below), .ref m_hand, .ref m_fewest, .ref m_whoBites, .ref m_leaves, .ref m_bestFeast, .ref m_tells, .ref m_hardOn, .ref m_bytes, .int (iI m_bytesLong), .int (iI m_tokenAt), .int (iI m_tokenLong), .int (iI m_token), .int (iI m_value), .ref m_anew, .ref m_values]))] s.heap.size = A at hD hZ ⊢
  have hA : ∀ q : Nat, s.heap.size ≤ q → A q := fun q h => by rw [← hAe]; exact Or.inr h
  have hS : va_S A s.heap s.heap [] := va_S.rf
  have hP : va_P G.1 vwCl [(m0, .inr (10, [.ref m_all, .ref m_kept, .ref m_isKept, .ref m_refused, .long (lI m_above), .long (lI m_below), .ref m_hand, .ref m_fewest, .ref m_whoBites, .ref m_leaves, .ref m_bestFeast, .ref m_tells, .ref m_hardOn, .ref m_bytes, .int (iI m_bytesLong), .int (iI m_tokenAt), .int (iI m_tokenLong), .int (iI m_token), .int (iI m_value), .ref m_anew, .ref m_values]))] s.heap := hP
  have hl := lv_entry ([.ref m0]) (n := 2) (Nat.le_of_ble_eq_true rfl)
  rw [lg_entry_eq]
  generalize (lg_sl ([.ref m0]) ++ List.replicate (2 - (lg_sl ([.ref m0])).length) Slot.unset).toArray = ls at hl ⊢
  have hl : lv_has ls 2 [(0, .ref m0)] := hl
  refine lv_aload_n hx hb dX11_clear_0 rfl (lv_at hl 0 rfl) ?_
  refine va_get (D := G.1) (ci := 10) (v := .int (iI m_bytesLong)) (C := RX11) (T := TX11) (N := 21) hx hb hts (fun _ h => List.mem_cons_of_mem _ (inlX11 _ h)) hown hK hP 0 rfl rfl 14 (by decide) (hts _ (List.mem_cons_of_mem _ (in_r11 (List.mem_of_getElem? (i := 7) rfl)))) (fun _ h9 => h9) rfl dX11_clear_1 ?_
  refine lv_istore_n (lv' := [(1, .int (iI m_bytesLong)), (0, .ref m0)]) hx hb dX11_clear_4 rfl hl (by decide) rfl (fun ls hl => ?_)
  refine lv_aload_n hx hb dX11_clear_5 rfl (lv_at hl 1 rfl) ?_
  refine lv_iconst (v := iI 0) hx hb dX11_clear_6 rfl ?_
  refine va_put (D := G.1) (ci := 10) (v := .int (iI 0)) (ty := .int) (C := RX11) (T := TX11) (N := 21) hx hb hts (fun _ h => List.mem_cons_of_mem _ (inlX11 _ h)) tyX11 tyX11_ok nmX11 hown hK hP hD hS 0 rfl rfl 14 (by decide) (hts _ (List.mem_cons_of_mem _ (in_r11 (List.mem_of_getElem? (i := 7) rfl)))) (fun _ h9 => h9) rfl (by decide +kernel) rfl rfl (Nat.le_of_ble_eq_true rfl) dX11_clear_7 (fun H locs hP hD hS => ?_)
  have hPD : PD G A H [(m0, .inr (10, [.ref m_all, .ref m_kept, .ref m_isKept, .ref m_refused, .long (lI m_above), .long (lI m_below), .ref m_hand, .ref m_fewest, .ref m_whoBites, .ref m_leaves, .ref m_bestFeast, .ref m_tells, .ref m_hardOn, .ref m_bytes, .int (iI 0), .int (iI m_tokenAt), .int (iI m_tokenLong), .int (iI m_token), .int (iI m_value), .ref m_anew, .ref m_values]))] := ⟨hP, hD⟩
  have hP := hPD.1
  have hD := hPD.2
  clear hPD
  refine lv_iload_n hx hb dX11_clear_10 rfl (lv_at hl 0 rfl) ?_
  exact g_iret (v := (iI m_bytesLong)) hx hb hr hlocks hP hD hS (⟨rfl, rfl⟩) dX11_clear_11
theorem dX11_image_0 : decode cX11_image 0 = .ok (.iload_n 1, 1) := kd_27 (by decide +kernel)
theorem dX11_image_1 : decode cX11_image 1 = .ok (.i2l, 1) := kd_133 (by decide +kernel)
theorem dX11_image_2 : decode cX11_image 2 = .ok (.lconst 0, 1) := kd_9 (by decide +kernel)
theorem dX11_image_3 : decode cX11_image 3 = .ok (.lconst 1, 1) := kd_10 (by decide +kernel)
theorem gX11_image_X11_in : GoodIn wsX11_image (va_wsS RX11 65 yX11_in wsX11_in) := gW_S (in_r8 (List.mem_of_getElem? (i := 9) rfl)) (in_r8 (List.mem_of_getElem? (i := 10) rfl)) (in_r1 (List.mem_of_getElem? (i := 5) rfl)) (in_r8 (List.mem_of_getElem? (i := 11) rfl))
theorem dX11_image_4 : decode cX11_image 4 = .ok (.invokestatic 65, 3) := kd_184 (a := 0) (b := 65) (by decide +kernel)
theorem dX11_image_7 : decode cX11_image 7 = .ok (.ifCond .ne 10, 3) := kd_154 (a := 0) (b := 10) (by decide +kernel)
theorem dX11_image_17 : decode cX11_image 17 = .ok (.iconst 0, 1) := kd_3 (by decide +kernel)
theorem dX11_image_18 : decode cX11_image 18 = .ok (.istore_n 2, 1) := kd_61 (by decide +kernel)
theorem dX11_image_19 : decode cX11_image 19 = .ok (.iload_n 2, 1) := kd_28 (by decide +kernel)
theorem dX11_image_20 : decode cX11_image 20 = .ok (.sipush 311, 3) := kd_17 (a := 1) (b := 55) (by decide +kernel)
theorem dX11_image_23 : decode cX11_image 23 = .ok (.if_icmp .ge 27, 3) := kd_162 (a := 0) (b := 27) (by decide +kernel)
theorem dX11_image_50 : decode cX11_image 50 = .ok (.aload_n 0, 1) := kd_42 (by decide +kernel)
theorem dX11_image_51 : decode cX11_image 51 = .ok (.getfield 16, 3) := kd_180 (a := 0) (b := 16) (by decide +kernel)
theorem dX11_image_54 : decode cX11_image 54 = .ok (.iload_n 1, 1) := kd_27 (by decide +kernel)
theorem dX11_image_55 : decode cX11_image 55 = .ok (.iconst 1, 1) := kd_4 (by decide +kernel)
theorem dX11_image_56 : decode cX11_image 56 = .ok (.bastore, 1) := kd_84 (by decide +kernel)
theorem dX11_image_57 : decode cX11_image 57 = .ok (.iconst 1, 1) := kd_4 (by decide +kernel)
theorem dX11_image_58 : decode cX11_image 58 = .ok (.ireturn, 1) := kd_172 (by decide +kernel)
theorem dX11_image_26 : decode cX11_image 26 = .ok (.aload_n 0, 1) := kd_42 (by decide +kernel)
theorem dX11_image_27 : decode cX11_image 27 = .ok (.getfield 13, 3) := kd_180 (a := 0) (b := 13) (by decide +kernel)
theorem dX11_image_30 : decode cX11_image 30 = .ok (.sipush 311, 3) := kd_17 (a := 1) (b := 55) (by decide +kernel)
theorem dX11_image_33 : decode cX11_image 33 = .ok (.iload_n 1, 1) := kd_27 (by decide +kernel)
theorem dX11_image_34 : decode cX11_image 34 = .ok (.imul, 1) := kd_104 (by decide +kernel)
theorem dX11_image_35 : decode cX11_image 35 = .ok (.iload_n 2, 1) := kd_28 (by decide +kernel)
theorem dX11_image_36 : decode cX11_image 36 = .ok (.iadd, 1) := kd_96 (by decide +kernel)
theorem dX11_image_37 : decode cX11_image 37 = .ok (.aload_n 0, 1) := kd_42 (by decide +kernel)
theorem dX11_image_38 : decode cX11_image 38 = .ok (.getfield 7, 3) := kd_180 (a := 0) (b := 7) (by decide +kernel)
theorem dX11_image_41 : decode cX11_image 41 = .ok (.iload_n 2, 1) := kd_28 (by decide +kernel)
theorem dX11_image_42 : decode cX11_image 42 = .ok (.iaload, 1) := kd_46 (by decide +kernel)
theorem dX11_image_43 : decode cX11_image 43 = .ok (.iastore, 1) := kd_79 (by decide +kernel)
theorem dX11_image_44 : decode cX11_image 44 = .ok (.iinc 2 1, 3) := kd_132 (a := 2) (b := 1) (by decide +kernel)
theorem dX11_image_47 : decode cX11_image 47 = .ok (.goto (-28), 3) := kd_167 (a := 255) (b := 228) (by decide +kernel)
set_option maxHeartbeats 8000000 in
set_option maxRecDepth 100000 in
theorem c_X11_image0 (l : Launch) (G : gG) (m0 : Nat) (m_all : Nat) (m_kept : Nat) (m_isKept : Nat) (m_refused : Nat) (m_above : Int) (m_below : Int) (m_hand : Nat) (m_fewest : Nat) (m_whoBites : Nat) (m_leaves : Nat) (m_bestFeast : Nat) (m_tells : Nat) (m_hardOn : Nat) (m_bytes : Nat) (m_bytesLong : Int) (m_tokenAt : Int) (m_tokenLong : Int) (m_token : Int) (m_value : Int) (m_anew : Nat) (m_values : Nat) (mF : Nat → Int) (K0 : Int) (mk : Nat → Int) (mi : Nat → Int32) (y0_ : bp (plA K0) mF) (y1_ : bp (plB K0) mk) (hK0 : 1000 ≤ K0 ∧ K0 ≤ 2000000) (sz : Nat) : gI G l yX11_image wsX11_image ({ frames := 1, cells := 0, slots := 0, locals := 25 } : Room) [.ref m0, .int (iI 0)] [(m0, .inr (10, [.ref m_all, .ref m_kept, .ref m_isKept, .ref m_refused, .long (lI m_above), .long (lI m_below), .ref m_hand, .ref m_fewest, .ref m_whoBites, .ref m_leaves, .ref m_bestFeast, .ref m_tells, .ref m_hardOn, .ref m_bytes, .int (iI m_bytesLong), .int (iI m_tokenAt), .int (iI m_tokenLong), .int (iI m_token), .int (iI m_value), .ref m_anew, .ref m_values])), (m_all, .inl (G.2 0, 311, .inl (cI mF))), (m_kept, .inl (G.2 0, 622, .inl (cI mk))), (m_isKept, .inl (G.2 1, 2, .inl mi))] sz (fun (r : Int32) (u : va_W) => (∃ Nk : Nat → Int, (bp (plB K0) Nk) ∧ (cp 0 311 mF mk Nk) ∧ r = (iI 1) ∧ u = [(m0, .inr (10, [.ref m_all, .ref m_kept, .ref m_isKept, .ref m_refused, .long (lI m_above), .long (lI m_below), .ref m_hand, .ref m_fewest, .ref m_whoBites, .ref m_leaves, .ref m_bestFeast, .ref m_tells, .ref m_hardOn, .ref m_bytes, .int (iI m_bytesLong), .int (iI m_tokenAt), .int (iI m_tokenLong), .int (iI m_token), .int (iI m_value), .ref m_anew, .ref m_values])), (m_all, .inl (G.2 0, 311, .inl (cI mF))), (m_kept, .inl (G.2 0, 622, .inl (cI Nk))), (m_isKept, .inl (G.2 1, 2, .inl (upd mi 0 (vp_nar .boolean (iI 1)))))])) := by
  refine Met.ofW (cc := cX11_image) (maxL := 3) (ret := (some .int)) (by decide) rfl ?_
  intro p e s m args below meth c s₁ B hml hv
  obtain ⟨rfl, hsz, hP, hK, hD0, hN, hZ⟩ := hv
  have hx := B.exec
  have hb := B.bytes
  have hr := B.returns
  have hts := atoms_spec (ws := wsX11_image) B.pre
  have hown : s.vm.findClass RX11 = some m.cls := findClass_of_methodNamed B.named
  have hlocks := B.notSynchronized
  subst hsz
  have hD := hD0.self (sz := s.heap.size)
  generalize hAe : va_A [(m0, .inr (10, [.ref m_all, .ref m_kept, .ref m_isKept, .ref m_refused, .long (lI m_above), .long (lI m_below), .ref m_hand, .ref m_fewest, .ref m_whoBites, .ref m_leaves, .ref m_bestFeast, .ref m_tells, .ref m_hardOn, .ref m_bytes, .int (iI m_bytesLong), .int (iI m_tokenAt), .int (iI m_tokenLong), .int (iI m_token), .int (iI m_value), .ref m_anew, .ref m_values])), (m_all, .inl (G.2 0, 311, .inl (cI mF))), (m_kept, .inl (G.2 0, 622, .inl (cI mk))), (m_isKept, .inl (G.2 1, 2, .inl mi))] s.heap.size = A at hD hZ ⊢
  have hA : ∀ q : Nat, s.heap.size ≤ q → A q := fun q h => by rw [← hAe]; exact Or.inr h
  have hS : va_S A s.heap s.heap [] := va_S.rf
  have hP : va_P G.1 vwCl [(m0, .inr (10, [.ref m_all, .ref m_kept, .ref m_isKept, .ref m_refused, .long (lI m_above), .long (lI m_below), .ref m_hand, .ref m_fewest, .ref m_whoBites, .ref m_leaves, .ref m_bestFeast, .ref m_tells, .ref m_hardOn, .ref m_bytes, .int (iI m_bytesLong), .int (iI m_tokenAt), .int (iI m_tokenLong), .int (iI m_token), .int (iI m_value), .ref m_anew, .ref m_values])), (m_all, .inl (G.2 0, 311, .inl (cI mF))), (m_kept, .inl (G.2 0, 622, .inl (cI mk))), (m_isKept, .inl (G.2 1, 2, .inl mi))] s.heap := hP
  have hl := lv_entry ([.ref m0, .int (iI 0)]) (n := 3) (Nat.le_of_ble_eq_true rfl)
  rw [lg_entry_eq]
  generalize (lg_sl ([.ref m0, .int (iI 0)]) ++ List.replicate (3 - (lg_sl ([.ref m0, .int (iI 0)])).length) Slot.unset).toArray = ls at hl ⊢
  have hl : lv_has ls 3 [(0, .ref m0), (1, .int (iI 0))] := hl
  refine lv_iload_n hx hb dX11_image_0 rfl (lv_at hl 1 rfl) ?_
  refine lv_i2l (v := lI 0) hx hb dX11_image_1 (i2l_iI (by omega)) ?_
  refine lv_lconst (v := lI 0) hx hb dX11_image_2 (by decide) ?_
  refine lv_lconst (v := lI 1) hx hb dX11_image_3 (by decide) ?_
  refine g_calli (wr := [(m0, .inr (10, [.ref m_all, .ref m_kept, .ref m_isKept, .ref m_refused, .long (lI m_above), .long (lI m_below), .ref m_hand, .ref m_fewest, .ref m_whoBites, .ref m_leaves, .ref m_bestFeast, .ref m_tells, .ref m_hardOn, .ref m_bytes, .int (iI m_bytesLong), .int (iI m_tokenAt), .int (iI m_tokenLong), .int (iI m_token), .int (iI m_value), .ref m_anew, .ref m_values])), (m_all, .inl (G.2 0, 311, .inl (cI mF))), (m_kept, .inl (G.2 0, 622, .inl (cI mk))), (m_isKept, .inl (G.2 1, 2, .inl mi))]) (va_runS (As := [.long (lI 0), .long (lI 0), .long (lI 1)]) (rest := []) ⟨hx, hb, hml, hown, hts⟩ (c_X11_in l G (0) (0) (1) (by first | assumption | omega) (by first | assumption | omega) (by first | assumption | omega) _) (va_cwS 3 hts gX11_image_X11_in rfl rfl rfl (by decide +kernel) ⟨Nat.le_of_ble_eq_true rfl, Nat.le_of_ble_eq_true rfl⟩) (g_preS [.long (lI 0), .long (lI 0), .long (lI 1)] hP hD hK hN hS hA hZ [] rfl rfl) rfl rfl hl.1 rfl (lv_room (Nat.le_of_ble_eq_true rfl)) dX11_image_4 ⟨Nat.le_of_ble_eq_true rfl, Nat.le_of_ble_eq_true rfl⟩) hP hD hS hA [] [0, 1, 2, 3] rfl rfl rfl (by decide) (fun r_1 u H locs hw hP hD hS => ?_)
  rcases hw with hw | hw
  · refine ea_0_4 hw (fun k_2 k_3 e8_0 e8_1 => ?_)
    subst e8_0
    subst e8_1
    clear hw
    have hPD : PD G A H [(m0, .inr (10, [.ref m_all, .ref m_kept, .ref m_isKept, .ref m_refused, .long (lI m_above), .long (lI m_below), .ref m_hand, .ref m_fewest, .ref m_whoBites, .ref m_leaves, .ref m_bestFeast, .ref m_tells, .ref m_hardOn, .ref m_bytes, .int (iI m_bytesLong), .int (iI m_tokenAt), .int (iI m_tokenLong), .int (iI m_token), .int (iI m_value), .ref m_anew, .ref m_values])), (m_all, .inl (G.2 0, 311, .inl (cI mF))), (m_kept, .inl (G.2 0, 622, .inl (cI mk))), (m_isKept, .inl (G.2 1, 2, .inl mi))] := ⟨hP, hD⟩
    have hP := hPD.1
    have hD := hPD.2
    clear hPD
    refine lv_if_ne (tgt := 17) hx hb dX11_image_7 (by decide) (fun _ => ?_) (fun c_5 => g_no c_5 (by decide))
    refine lv_iconst (v := iI 0) hx hb dX11_image_17 rfl ?_
    refine lv_istore_n (lv' := [(2, .int (iI 0)), (0, .ref m0), (1, .int (iI 0))]) hx hb dX11_image_18 rfl hl (by decide) rfl (fun ls hl => ?_)
    refine g_loopN (pc := 19) (fun nn H locs ls => ∃ i0__6 : Int, ∃ Ek_7 : Nat → Int, (0 ≤ i0__6 ∧ i0__6 ≤ 311) ∧ (bp (plB K0) Ek_7) ∧ (cp 0 i0__6 mF mk Ek_7) ∧ (311 - i0__6).toNat = nn ∧ va_P G.1 vwCl [(m0, .inr (10, [.ref m_all, .ref m_kept, .ref m_isKept, .ref m_refused, .long (lI m_above), .long (lI m_below), .ref m_hand, .ref m_fewest, .ref m_whoBites, .ref m_leaves, .ref m_bestFeast, .ref m_tells, .ref m_hardOn, .ref m_bytes, .int (iI m_bytesLong), .int (iI m_tokenAt), .int (iI m_tokenLong), .int (iI m_token), .int (iI m_value), .ref m_anew, .ref m_values])), (m_all, .inl (G.2 0, 311, .inl (cI mF))), (m_kept, .inl (G.2 0, 622, .inl (cI Ek_7))), (m_isKept, .inl (G.2 1, 2, .inl mi))] H ∧ va_D A [(m0, .inr (10, [.ref m_all, .ref m_kept, .ref m_isKept, .ref m_refused, .long (lI m_above), .long (lI m_below), .ref m_hand, .ref m_fewest, .ref m_whoBites, .ref m_leaves, .ref m_bestFeast, .ref m_tells, .ref m_hardOn, .ref m_bytes, .int (iI m_bytesLong), .int (iI m_tokenAt), .int (iI m_tokenLong), .int (iI m_token), .int (iI m_value), .ref m_anew, .ref m_values])), (m_all, .inl (G.2 0, 311, .inl (cI mF))), (m_kept, .inl (G.2 0, 622, .inl (cI Ek_7))), (m_isKept, .inl (G.2 1, 2, .inl mi))] ∧ va_S A s.heap H locs ∧ lv_has ls 3 [(2, .int (iI i0__6)), (0, .ref m0), (1, .int (iI 0))]) ?_ ⟨0, mk, (by first | assumption | omega), (by first | exact y1_ | exact bpB_mono y1_ (by omega) | assumption), (cp_0 _ _ ()), rfl, hP, hD, hS, lv_sub hl [0, 1, 2] rfl⟩
    intro nn_12 H locs ls ih_11 hI
    refine ea_2_8 hI (fun i0__6 Ek_7 f_8 f_9 f_10 hnn_13 hP hD hS hl => ?_)
    clear hI
    refine lv_iload_n hx hb dX11_image_19 rfl (lv_at hl 0 rfl) ?_
    refine lv_sipush (v := iI 311) hx hb dX11_image_20 (by decide) ?_
    refine lv_icmp_ge (tgt := 50) hx hb dX11_image_23 (by decide) (fun c_14 => ?_) (fun c_14 => ?_)
    · have c_14 := (iI_le (a := 311) (b := i0__6) (by first | decide | omega) (by omega)).mp c_14
      refine lv_aload_n hx hb dX11_image_50 rfl (lv_at hl 1 rfl) ?_
      refine va_get (D := G.1) (ci := 10) (v := .ref m_isKept) (C := RX11) (T := TX11) (N := 21) hx hb hts (fun _ h => List.mem_cons_of_mem _ (inlX11 _ h)) hown hK hP 0 rfl rfl 2 (by decide) (hts _ (List.mem_cons_of_mem _ (in_r6 (List.mem_of_getElem? (i := 2) rfl)))) (fun _ h9 => h9) rfl dX11_image_51 ?_
      refine lv_iload_n hx hb dX11_image_54 rfl (lv_at hl 2 rfl) ?_
      refine lv_iconst (v := iI 1) hx hb dX11_image_55 rfl ?_
      refine g_bst hx hb hK hP hD hS 3 rfl (by omega) (by omega) (by first | exact Nat.le_of_ble_eq_true rfl | omega) dX11_image_56 (fun H locs hP hD hS => ?_)
      have hPD : PD G A H [(m0, .inr (10, [.ref m_all, .ref m_kept, .ref m_isKept, .ref m_refused, .long (lI m_above), .long (lI m_below), .ref m_hand, .ref m_fewest, .ref m_whoBites, .ref m_leaves, .ref m_bestFeast, .ref m_tells, .ref m_hardOn, .ref m_bytes, .int (iI m_bytesLong), .int (iI m_tokenAt), .int (iI m_tokenLong), .int (iI m_token), .int (iI m_value), .ref m_anew, .ref m_values])), (m_all, .inl (G.2 0, 311, .inl (cI mF))), (m_kept, .inl (G.2 0, 622, .inl (cI Ek_7))), (m_isKept, .inl (G.2 1, 2, .inl (upd mi 0 (vp_nar .boolean (iI 1)))))] := ⟨hP, hD⟩
      have hP := hPD.1
      have hD := hPD.2
      clear hPD
      refine lv_iconst (v := iI 1) hx hb dX11_image_57 rfl ?_
      exact g_iret (v := (iI 1)) hx hb hr hlocks hP hD hS (⟨Ek_7, (by first | exact f_9 | exact bpB_mono f_9 (by omega) | assumption), (cp_at (by assumption) (by omega)), rfl, rfl⟩) dX11_image_58
    · have c_14 : ¬ (311 ≤ i0__6) := fun h9 => c_14 ((iI_le (a := 311) (b := i0__6) (by first | decide | omega) (by omega)).mpr h9)
      refine lv_aload_n hx hb dX11_image_26 rfl (lv_at hl 1 rfl) ?_
      refine va_get (D := G.1) (ci := 10) (v := .ref m_kept) (C := RX11) (T := TX11) (N := 21) hx hb hts (fun _ h => List.mem_cons_of_mem _ (inlX11 _ h)) hown hK hP 0 rfl rfl 1 (by decide) (hts _ (List.mem_cons_of_mem _ (in_r6 (List.mem_of_getElem? (i := 1) rfl)))) (fun _ h9 => h9) rfl dX11_image_27 ?_
      refine lv_sipush (v := iI 311) hx hb dX11_image_30 (by decide) ?_
      refine lv_iload_n hx hb dX11_image_33 rfl (lv_at hl 2 rfl) ?_
      refine lv_imul hx hb dX11_image_34 ?_
      refine g_topi (y := iI 0) (iI_mul 311 0) ?_
      refine lv_iload_n hx hb dX11_image_35 rfl (lv_at hl 0 rfl) ?_
      refine lv_iadd hx hb dX11_image_36 ?_
      refine g_topi (y := iI (0 + i0__6)) (iI_add 0 i0__6) ?_
      refine lv_aload_n hx hb dX11_image_37 rfl (lv_at hl 1 rfl) ?_
      refine va_get (D := G.1) (ci := 10) (v := .ref m_all) (C := RX11) (T := TX11) (N := 21) hx hb hts (fun _ h => List.mem_cons_of_mem _ (inlX11 _ h)) hown hK hP 0 rfl rfl 0 (by decide) (hts _ (List.mem_cons_of_mem _ (in_r6 (List.mem_of_getElem? (i := 0) rfl)))) (fun _ h9 => h9) rfl dX11_image_38 ?_
      refine lv_iload_n hx hb dX11_image_41 rfl (lv_at hl 0 rfl) ?_
      refine g_ild hx hb hK hP 1 rfl (by omega) (by omega) (by first | exact Nat.le_of_ble_eq_true rfl | omega) dX11_image_42 (fun w_15 ew_15 => ?_)
      have ew_15 : mF (i0__6.toNat) = w_15 := ew_15
      subst ew_15
      have bw_15 := y0_ (i0__6.toNat)
      refine g_ist hx hb hK hP hD hS 2 rfl (by omega) (by omega) (by first | exact Nat.le_of_ble_eq_true rfl | omega) dX11_image_43 (fun H locs hP hD hS => ?_)
      have hk_17 := bp_u (h := plB K0) (k := ((0 + i0__6).toNat)) (v := (mF (i0__6.toNat))) f_9 (by omega) (Int.le_trans bw_15.2 (Int.le_of_eq (plB_0 (by omega) (by omega)).symm))
      have hPD : PD G A H [(m0, .inr (10, [.ref m_all, .ref m_kept, .ref m_isKept, .ref m_refused, .long (lI m_above), .long (lI m_below), .ref m_hand, .ref m_fewest, .ref m_whoBites, .ref m_leaves, .ref m_bestFeast, .ref m_tells, .ref m_hardOn, .ref m_bytes, .int (iI m_bytesLong), .int (iI m_tokenAt), .int (iI m_tokenLong), .int (iI m_token), .int (iI m_value), .ref m_anew, .ref m_values])), (m_all, .inl (G.2 0, 311, .inl (cI mF))), (m_kept, .inl (G.2 0, 622, .inl (cI (uI Ek_7 ((0 + i0__6).toNat) (mF (i0__6.toNat)))))), (m_isKept, .inl (G.2 1, 2, .inl mi))] := ⟨hP, hD⟩
      have hP := hPD.1
      have hD := hPD.2
      clear hPD
      refine lv_iinc (v := iI (i0__6 + 1)) (lv' := [(2, .int (iI (i0__6 + 1))), (0, .ref m0), (1, .int (iI 0))]) hx hb dX11_image_44 hl (k := 0) rfl (iI_add i0__6 1) (by decide) rfl (fun ls hl => ?_)
      refine lv_goto (tgt := 19) hx hb dX11_image_47 (by decide) ?_
      exact ih_11 _ _ _ _ (by omega) ⟨(i0__6 + 1), (uI Ek_7 ((0 + i0__6).toNat) (mF (i0__6.toNat))), (by first | assumption | omega), (by first | exact hk_17 | exact bpB_mono hk_17 (by omega) | assumption), (cp_u (by assumption) rfl (by omega) (by omega)), rfl, hP, hD, hS, lv_sub hl [0, 1, 2] rfl⟩
  · refine ea_0_3 hw (fun k_4 e8_0 e8_1 => ?_)
    subst e8_0
    subst e8_1
    clear hw
    exact (by exfalso; omega)
set_option maxHeartbeats 8000000 in
set_option maxRecDepth 100000 in
theorem c_X11_image1 (l : Launch) (G : gG) (m0 : Nat) (m_all : Nat) (m_kept : Nat) (m_isKept : Nat) (m_refused : Nat) (m_above : Int) (m_below : Int) (m_hand : Nat) (m_fewest : Nat) (m_whoBites : Nat) (m_leaves : Nat) (m_bestFeast : Nat) (m_tells : Nat) (m_hardOn : Nat) (m_bytes : Nat) (m_bytesLong : Int) (m_tokenAt : Int) (m_tokenLong : Int) (m_token : Int) (m_value : Int) (m_anew : Nat) (m_values : Nat) (mF : Nat → Int) (K0 : Int) (mk : Nat → Int) (mi : Nat → Int32) (y0_ : bp (plA K0) mF) (y1_ : bp (plB K0) mk) (hK0 : 1000 ≤ K0 ∧ K0 ≤ 2000000) (sz : Nat) : gI G l yX11_image wsX11_image ({ frames := 1, cells := 0, slots := 0, locals := 25 } : Room) [.ref m0, .int (iI 1)] [(m0, .inr (10, [.ref m_all, .ref m_kept, .ref m_isKept, .ref m_refused, .long (lI m_above), .long (lI m_below), .ref m_hand, .ref m_fewest, .ref m_whoBites, .ref m_leaves, .ref m_bestFeast, .ref m_tells, .ref m_hardOn, .ref m_bytes, .int (iI m_bytesLong), .int (iI m_tokenAt), .int (iI m_tokenLong), .int (iI m_token), .int (iI m_value), .ref m_anew, .ref m_values])), (m_all, .inl (G.2 0, 311, .inl (cI mF))), (m_kept, .inl (G.2 0, 622, .inl (cI mk))), (m_isKept, .inl (G.2 1, 2, .inl mi))] sz (fun (r : Int32) (u : va_W) => (∃ Nk : Nat → Int, (bp (plB K0) Nk) ∧ (cp 311 311 mF mk Nk) ∧ r = (iI 1) ∧ u = [(m0, .inr (10, [.ref m_all, .ref m_kept, .ref m_isKept, .ref m_refused, .long (lI m_above), .long (lI m_below), .ref m_hand, .ref m_fewest, .ref m_whoBites, .ref m_leaves, .ref m_bestFeast, .ref m_tells, .ref m_hardOn, .ref m_bytes, .int (iI m_bytesLong), .int (iI m_tokenAt), .int (iI m_tokenLong), .int (iI m_token), .int (iI m_value), .ref m_anew, .ref m_values])), (m_all, .inl (G.2 0, 311, .inl (cI mF))), (m_kept, .inl (G.2 0, 622, .inl (cI Nk))), (m_isKept, .inl (G.2 1, 2, .inl (upd mi 1 (vp_nar .boolean (iI 1)))))])) := by
  refine Met.ofW (cc := cX11_image) (maxL := 3) (ret := (some .int)) (by decide) rfl ?_
  intro p e s m args below meth c s₁ B hml hv
  obtain ⟨rfl, hsz, hP, hK, hD0, hN, hZ⟩ := hv
  have hx := B.exec
  have hb := B.bytes
  have hr := B.returns
  have hts := atoms_spec (ws := wsX11_image) B.pre
  have hown : s.vm.findClass RX11 = some m.cls := findClass_of_methodNamed B.named
  have hlocks := B.notSynchronized
  subst hsz
  have hD := hD0.self (sz := s.heap.size)
  generalize hAe : va_A [(m0, .inr (10, [.ref m_all, .ref m_kept, .ref m_isKept, .ref m_refused, .long (lI m_above), .long (lI m_below), .ref m_hand, .ref m_fewest, .ref m_whoBites, .ref m_leaves, .ref m_bestFeast, .ref m_tells, .ref m_hardOn, .ref m_bytes, .int (iI m_bytesLong), .int (iI m_tokenAt), .int (iI m_tokenLong), .int (iI m_token), .int (iI m_value), .ref m_anew, .ref m_values])), (m_all, .inl (G.2 0, 311, .inl (cI mF))), (m_kept, .inl (G.2 0, 622, .inl (cI mk))), (m_isKept, .inl (G.2 1, 2, .inl mi))] s.heap.size = A at hD hZ ⊢
  have hA : ∀ q : Nat, s.heap.size ≤ q → A q := fun q h => by rw [← hAe]; exact Or.inr h
  have hS : va_S A s.heap s.heap [] := va_S.rf
  have hP : va_P G.1 vwCl [(m0, .inr (10, [.ref m_all, .ref m_kept, .ref m_isKept, .ref m_refused, .long (lI m_above), .long (lI m_below), .ref m_hand, .ref m_fewest, .ref m_whoBites, .ref m_leaves, .ref m_bestFeast, .ref m_tells, .ref m_hardOn, .ref m_bytes, .int (iI m_bytesLong), .int (iI m_tokenAt), .int (iI m_tokenLong), .int (iI m_token), .int (iI m_value), .ref m_anew, .ref m_values])), (m_all, .inl (G.2 0, 311, .inl (cI mF))), (m_kept, .inl (G.2 0, 622, .inl (cI mk))), (m_isKept, .inl (G.2 1, 2, .inl mi))] s.heap := hP
  have hl := lv_entry ([.ref m0, .int (iI 1)]) (n := 3) (Nat.le_of_ble_eq_true rfl)
  rw [lg_entry_eq]
  generalize (lg_sl ([.ref m0, .int (iI 1)]) ++ List.replicate (3 - (lg_sl ([.ref m0, .int (iI 1)])).length) Slot.unset).toArray = ls at hl ⊢
  have hl : lv_has ls 3 [(0, .ref m0), (1, .int (iI 1))] := hl
  refine lv_iload_n hx hb dX11_image_0 rfl (lv_at hl 1 rfl) ?_
  refine lv_i2l (v := lI 1) hx hb dX11_image_1 (i2l_iI (by omega)) ?_
  refine lv_lconst (v := lI 0) hx hb dX11_image_2 (by decide) ?_
  refine lv_lconst (v := lI 1) hx hb dX11_image_3 (by decide) ?_
  refine g_calli (wr := [(m0, .inr (10, [.ref m_all, .ref m_kept, .ref m_isKept, .ref m_refused, .long (lI m_above), .long (lI m_below), .ref m_hand, .ref m_fewest, .ref m_whoBites, .ref m_leaves, .ref m_bestFeast, .ref m_tells, .ref m_hardOn, .ref m_bytes, .int (iI m_bytesLong), .int (iI m_tokenAt), .int (iI m_tokenLong), .int (iI m_token), .int (iI m_value), .ref m_anew, .ref m_values])), (m_all, .inl (G.2 0, 311, .inl (cI mF))), (m_kept, .inl (G.2 0, 622, .inl (cI mk))), (m_isKept, .inl (G.2 1, 2, .inl mi))]) (va_runS (As := [.long (lI 1), .long (lI 0), .long (lI 1)]) (rest := []) ⟨hx, hb, hml, hown, hts⟩ (c_X11_in l G (1) (0) (1) (by first | assumption | omega) (by first | assumption | omega) (by first | assumption | omega) _) (va_cwS 3 hts gX11_image_X11_in rfl rfl rfl (by decide +kernel) ⟨Nat.le_of_ble_eq_true rfl, Nat.le_of_ble_eq_true rfl⟩) (g_preS [.long (lI 1), .long (lI 0), .long (lI 1)] hP hD hK hN hS hA hZ [] rfl rfl) rfl rfl hl.1 rfl (lv_room (Nat.le_of_ble_eq_true rfl)) dX11_image_4 ⟨Nat.le_of_ble_eq_true rfl, Nat.le_of_ble_eq_true rfl⟩) hP hD hS hA [] [0, 1, 2, 3] rfl rfl rfl (by decide) (fun r_1 u H locs hw hP hD hS => ?_)
  rcases hw with hw | hw
  · refine ea_0_4 hw (fun k_2 k_3 e8_0 e8_1 => ?_)
    subst e8_0
    subst e8_1
    clear hw
    have hPD : PD G A H [(m0, .inr (10, [.ref m_all, .ref m_kept, .ref m_isKept, .ref m_refused, .long (lI m_above), .long (lI m_below), .ref m_hand, .ref m_fewest, .ref m_whoBites, .ref m_leaves, .ref m_bestFeast, .ref m_tells, .ref m_hardOn, .ref m_bytes, .int (iI m_bytesLong), .int (iI m_tokenAt), .int (iI m_tokenLong), .int (iI m_token), .int (iI m_value), .ref m_anew, .ref m_values])), (m_all, .inl (G.2 0, 311, .inl (cI mF))), (m_kept, .inl (G.2 0, 622, .inl (cI mk))), (m_isKept, .inl (G.2 1, 2, .inl mi))] := ⟨hP, hD⟩
    have hP := hPD.1
    have hD := hPD.2
    clear hPD
    refine lv_if_ne (tgt := 17) hx hb dX11_image_7 (by decide) (fun _ => ?_) (fun c_5 => g_no c_5 (by decide))
    refine lv_iconst (v := iI 0) hx hb dX11_image_17 rfl ?_
    refine lv_istore_n (lv' := [(2, .int (iI 0)), (0, .ref m0), (1, .int (iI 1))]) hx hb dX11_image_18 rfl hl (by decide) rfl (fun ls hl => ?_)
    refine g_loopN (pc := 19) (fun nn H locs ls => ∃ i0__6 : Int, ∃ Ek_7 : Nat → Int, (0 ≤ i0__6 ∧ i0__6 ≤ 311) ∧ (bp (plB K0) Ek_7) ∧ (cp 311 i0__6 mF mk Ek_7) ∧ (311 - i0__6).toNat = nn ∧ va_P G.1 vwCl [(m0, .inr (10, [.ref m_all, .ref m_kept, .ref m_isKept, .ref m_refused, .long (lI m_above), .long (lI m_below), .ref m_hand, .ref m_fewest, .ref m_whoBites, .ref m_leaves, .ref m_bestFeast, .ref m_tells, .ref m_hardOn, .ref m_bytes, .int (iI m_bytesLong), .int (iI m_tokenAt), .int (iI m_tokenLong), .int (iI m_token), .int (iI m_value), .ref m_anew, .ref m_values])), (m_all, .inl (G.2 0, 311, .inl (cI mF))), (m_kept, .inl (G.2 0, 622, .inl (cI Ek_7))), (m_isKept, .inl (G.2 1, 2, .inl mi))] H ∧ va_D A [(m0, .inr (10, [.ref m_all, .ref m_kept, .ref m_isKept, .ref m_refused, .long (lI m_above), .long (lI m_below), .ref m_hand, .ref m_fewest, .ref m_whoBites, .ref m_leaves, .ref m_bestFeast, .ref m_tells, .ref m_hardOn, .ref m_bytes, .int (iI m_bytesLong), .int (iI m_tokenAt), .int (iI m_tokenLong), .int (iI m_token), .int (iI m_value), .ref m_anew, .ref m_values])), (m_all, .inl (G.2 0, 311, .inl (cI mF))), (m_kept, .inl (G.2 0, 622, .inl (cI Ek_7))), (m_isKept, .inl (G.2 1, 2, .inl mi))] ∧ va_S A s.heap H locs ∧ lv_has ls 3 [(2, .int (iI i0__6)), (0, .ref m0), (1, .int (iI 1))]) ?_ ⟨0, mk, (by first | assumption | omega), (by first | exact y1_ | exact bpB_mono y1_ (by omega) | assumption), (cp_0 _ _ ()), rfl, hP, hD, hS, lv_sub hl [0, 1, 2] rfl⟩
    intro nn_12 H locs ls ih_11 hI
    refine ea_2_8 hI (fun i0__6 Ek_7 f_8 f_9 f_10 hnn_13 hP hD hS hl => ?_)
    clear hI
    refine lv_iload_n hx hb dX11_image_19 rfl (lv_at hl 0 rfl) ?_
    refine lv_sipush (v := iI 311) hx hb dX11_image_20 (by decide) ?_
    refine lv_icmp_ge (tgt := 50) hx hb dX11_image_23 (by decide) (fun c_14 => ?_) (fun c_14 => ?_)
    · have c_14 := (iI_le (a := 311) (b := i0__6) (by first | decide | omega) (by omega)).mp c_14
      refine lv_aload_n hx hb dX11_image_50 rfl (lv_at hl 1 rfl) ?_
      refine va_get (D := G.1) (ci := 10) (v := .ref m_isKept) (C := RX11) (T := TX11) (N := 21) hx hb hts (fun _ h => List.mem_cons_of_mem _ (inlX11 _ h)) hown hK hP 0 rfl rfl 2 (by decide) (hts _ (List.mem_cons_of_mem _ (in_r6 (List.mem_of_getElem? (i := 2) rfl)))) (fun _ h9 => h9) rfl dX11_image_51 ?_
      refine lv_iload_n hx hb dX11_image_54 rfl (lv_at hl 2 rfl) ?_
      refine lv_iconst (v := iI 1) hx hb dX11_image_55 rfl ?_
      refine g_bst hx hb hK hP hD hS 3 rfl (by omega) (by omega) (by first | exact Nat.le_of_ble_eq_true rfl | omega) dX11_image_56 (fun H locs hP hD hS => ?_)
      have hPD : PD G A H [(m0, .inr (10, [.ref m_all, .ref m_kept, .ref m_isKept, .ref m_refused, .long (lI m_above), .long (lI m_below), .ref m_hand, .ref m_fewest, .ref m_whoBites, .ref m_leaves, .ref m_bestFeast, .ref m_tells, .ref m_hardOn, .ref m_bytes, .int (iI m_bytesLong), .int (iI m_tokenAt), .int (iI m_tokenLong), .int (iI m_token), .int (iI m_value), .ref m_anew, .ref m_values])), (m_all, .inl (G.2 0, 311, .inl (cI mF))), (m_kept, .inl (G.2 0, 622, .inl (cI Ek_7))), (m_isKept, .inl (G.2 1, 2, .inl (upd mi 1 (vp_nar .boolean (iI 1)))))] := ⟨hP, hD⟩
      have hP := hPD.1
      have hD := hPD.2
      clear hPD
      refine lv_iconst (v := iI 1) hx hb dX11_image_57 rfl ?_
      exact g_iret (v := (iI 1)) hx hb hr hlocks hP hD hS (⟨Ek_7, (by first | exact f_9 | exact bpB_mono f_9 (by omega) | assumption), (cp_at (by assumption) (by omega)), rfl, rfl⟩) dX11_image_58
    · have c_14 : ¬ (311 ≤ i0__6) := fun h9 => c_14 ((iI_le (a := 311) (b := i0__6) (by first | decide | omega) (by omega)).mpr h9)
      refine lv_aload_n hx hb dX11_image_26 rfl (lv_at hl 1 rfl) ?_
      refine va_get (D := G.1) (ci := 10) (v := .ref m_kept) (C := RX11) (T := TX11) (N := 21) hx hb hts (fun _ h => List.mem_cons_of_mem _ (inlX11 _ h)) hown hK hP 0 rfl rfl 1 (by decide) (hts _ (List.mem_cons_of_mem _ (in_r6 (List.mem_of_getElem? (i := 1) rfl)))) (fun _ h9 => h9) rfl dX11_image_27 ?_
      refine lv_sipush (v := iI 311) hx hb dX11_image_30 (by decide) ?_
      refine lv_iload_n hx hb dX11_image_33 rfl (lv_at hl 2 rfl) ?_
      refine lv_imul hx hb dX11_image_34 ?_
      refine g_topi (y := iI 311) (iI_mul 311 1) ?_
      refine lv_iload_n hx hb dX11_image_35 rfl (lv_at hl 0 rfl) ?_
      refine lv_iadd hx hb dX11_image_36 ?_
      refine g_topi (y := iI (311 + i0__6)) (iI_add 311 i0__6) ?_
      refine lv_aload_n hx hb dX11_image_37 rfl (lv_at hl 1 rfl) ?_
      refine va_get (D := G.1) (ci := 10) (v := .ref m_all) (C := RX11) (T := TX11) (N := 21) hx hb hts (fun _ h => List.mem_cons_of_mem _ (inlX11 _ h)) hown hK hP 0 rfl rfl 0 (by decide) (hts _ (List.mem_cons_of_mem _ (in_r6 (List.mem_of_getElem? (i := 0) rfl)))) (fun _ h9 => h9) rfl dX11_image_38 ?_
      refine lv_iload_n hx hb dX11_image_41 rfl (lv_at hl 0 rfl) ?_
      refine g_ild hx hb hK hP 1 rfl (by omega) (by omega) (by first | exact Nat.le_of_ble_eq_true rfl | omega) dX11_image_42 (fun w_15 ew_15 => ?_)
      have ew_15 : mF (i0__6.toNat) = w_15 := ew_15
      subst ew_15
      have bw_15 := y0_ (i0__6.toNat)
      refine g_ist hx hb hK hP hD hS 2 rfl (by omega) (by omega) (by first | exact Nat.le_of_ble_eq_true rfl | omega) dX11_image_43 (fun H locs hP hD hS => ?_)
      have hk_17 := bp_u (h := plB K0) (k := ((311 + i0__6).toNat)) (v := (mF (i0__6.toNat))) f_9 (by omega) (Int.le_trans bw_15.2 (Int.le_of_eq (plB_1 (by omega) (by omega)).symm))
      have hPD : PD G A H [(m0, .inr (10, [.ref m_all, .ref m_kept, .ref m_isKept, .ref m_refused, .long (lI m_above), .long (lI m_below), .ref m_hand, .ref m_fewest, .ref m_whoBites, .ref m_leaves, .ref m_bestFeast, .ref m_tells, .ref m_hardOn, .ref m_bytes, .int (iI m_bytesLong), .int (iI m_tokenAt), .int (iI m_tokenLong), .int (iI m_token), .int (iI m_value), .ref m_anew, .ref m_values])), (m_all, .inl (G.2 0, 311, .inl (cI mF))), (m_kept, .inl (G.2 0, 622, .inl (cI (uI Ek_7 ((311 + i0__6).toNat) (mF (i0__6.toNat)))))), (m_isKept, .inl (G.2 1, 2, .inl mi))] := ⟨hP, hD⟩
      have hP := hPD.1
      have hD := hPD.2
      clear hPD
      refine lv_iinc (v := iI (i0__6 + 1)) (lv' := [(2, .int (iI (i0__6 + 1))), (0, .ref m0), (1, .int (iI 1))]) hx hb dX11_image_44 hl (k := 0) rfl (iI_add i0__6 1) (by decide) rfl (fun ls hl => ?_)
      refine lv_goto (tgt := 19) hx hb dX11_image_47 (by decide) ?_
      exact ih_11 _ _ _ _ (by omega) ⟨(i0__6 + 1), (uI Ek_7 ((311 + i0__6).toNat) (mF (i0__6.toNat))), (by first | assumption | omega), (by first | exact hk_17 | exact bpB_mono hk_17 (by omega) | assumption), (cp_u (by assumption) rfl (by omega) (by omega)), rfl, hP, hD, hS, lv_sub hl [0, 1, 2] rfl⟩
  · refine ea_0_3 hw (fun k_4 e8_0 e8_1 => ?_)
    subst e8_0
    subst e8_1
    clear hw
    exact (by exfalso; omega)
theorem dX11_from_0 : decode cX11_from 0 = .ok (.iload_n 1, 1) := kd_27 (by decide +kernel)
theorem dX11_from_1 : decode cX11_from 1 = .ok (.i2l, 1) := kd_133 (by decide +kernel)
theorem dX11_from_2 : decode cX11_from 2 = .ok (.lconst 0, 1) := kd_9 (by decide +kernel)
theorem dX11_from_3 : decode cX11_from 3 = .ok (.lconst 1, 1) := kd_10 (by decide +kernel)
theorem gX11_from_X11_in : GoodIn wsX11_from (va_wsS RX11 65 yX11_in wsX11_in) := gW_S (in_r8 (List.mem_of_getElem? (i := 9) rfl)) (in_r8 (List.mem_of_getElem? (i := 10) rfl)) (in_r1 (List.mem_of_getElem? (i := 5) rfl)) (in_r8 (List.mem_of_getElem? (i := 11) rfl))
theorem dX11_from_4 : decode cX11_from 4 = .ok (.invokestatic 65, 3) := kd_184 (a := 0) (b := 65) (by decide +kernel)
theorem dX11_from_7 : decode cX11_from 7 = .ok (.ifCond .ne 10, 3) := kd_154 (a := 0) (b := 10) (by decide +kernel)
theorem dX11_from_17 : decode cX11_from 17 = .ok (.aload_n 0, 1) := kd_42 (by decide +kernel)
theorem dX11_from_18 : decode cX11_from 18 = .ok (.getfield 16, 3) := kd_180 (a := 0) (b := 16) (by decide +kernel)
theorem dX11_from_21 : decode cX11_from 21 = .ok (.iload_n 1, 1) := kd_27 (by decide +kernel)
theorem dX11_from_22 : decode cX11_from 22 = .ok (.baload, 1) := kd_51 (by decide +kernel)
theorem dX11_from_23 : decode cX11_from 23 = .ok (.ifCond .ne 8, 3) := kd_154 (a := 0) (b := 8) (by decide +kernel)
theorem dX11_from_31 : decode cX11_from 31 = .ok (.iconst 0, 1) := kd_3 (by decide +kernel)
theorem dX11_from_32 : decode cX11_from 32 = .ok (.istore_n 2, 1) := kd_61 (by decide +kernel)
theorem dX11_from_33 : decode cX11_from 33 = .ok (.iload_n 2, 1) := kd_28 (by decide +kernel)
theorem dX11_from_34 : decode cX11_from 34 = .ok (.sipush 311, 3) := kd_17 (a := 1) (b := 55) (by decide +kernel)
theorem dX11_from_37 : decode cX11_from 37 = .ok (.if_icmp .ge 27, 3) := kd_162 (a := 0) (b := 27) (by decide +kernel)
theorem dX11_from_64 : decode cX11_from 64 = .ok (.iconst 1, 1) := kd_4 (by decide +kernel)
theorem dX11_from_65 : decode cX11_from 65 = .ok (.ireturn, 1) := kd_172 (by decide +kernel)
theorem dX11_from_40 : decode cX11_from 40 = .ok (.aload_n 0, 1) := kd_42 (by decide +kernel)
theorem dX11_from_41 : decode cX11_from 41 = .ok (.getfield 7, 3) := kd_180 (a := 0) (b := 7) (by decide +kernel)
theorem dX11_from_44 : decode cX11_from 44 = .ok (.iload_n 2, 1) := kd_28 (by decide +kernel)
theorem dX11_from_45 : decode cX11_from 45 = .ok (.aload_n 0, 1) := kd_42 (by decide +kernel)
theorem dX11_from_46 : decode cX11_from 46 = .ok (.getfield 13, 3) := kd_180 (a := 0) (b := 13) (by decide +kernel)
theorem dX11_from_49 : decode cX11_from 49 = .ok (.sipush 311, 3) := kd_17 (a := 1) (b := 55) (by decide +kernel)
theorem dX11_from_52 : decode cX11_from 52 = .ok (.iload_n 1, 1) := kd_27 (by decide +kernel)
theorem dX11_from_53 : decode cX11_from 53 = .ok (.imul, 1) := kd_104 (by decide +kernel)
theorem dX11_from_54 : decode cX11_from 54 = .ok (.iload_n 2, 1) := kd_28 (by decide +kernel)
theorem dX11_from_55 : decode cX11_from 55 = .ok (.iadd, 1) := kd_96 (by decide +kernel)
theorem dX11_from_56 : decode cX11_from 56 = .ok (.iaload, 1) := kd_46 (by decide +kernel)
theorem dX11_from_57 : decode cX11_from 57 = .ok (.iastore, 1) := kd_79 (by decide +kernel)
theorem dX11_from_58 : decode cX11_from 58 = .ok (.iinc 2 1, 3) := kd_132 (a := 2) (b := 1) (by decide +kernel)
theorem dX11_from_61 : decode cX11_from 61 = .ok (.goto (-28), 3) := kd_167 (a := 255) (b := 228) (by decide +kernel)
theorem dX11_from_26 : decode cX11_from 26 = .ok (.aload_n 0, 1) := kd_42 (by decide +kernel)
theorem gX11_from_X11_no : GoodIn wsX11_from (wsV RX11 149 RX11 yX11_no wsX11_no) := gW_V (in_r25 (List.mem_of_getElem? (i := 13) rfl)) (in_r25 (List.mem_of_getElem? (i := 14) rfl)) (in_r25 (List.mem_of_getElem? (i := 15) rfl)) (in_r1 (List.mem_of_getElem? (i := 5) rfl)) (in_r25 (List.mem_of_getElem? (i := 16) rfl))
theorem dX11_from_27 : decode cX11_from 27 = .ok (.invokevirtual 149, 3) := kd_182 (a := 0) (b := 149) (by decide +kernel)
theorem dX11_from_30 : decode cX11_from 30 = .ok (.ireturn, 1) := kd_172 (by decide +kernel)
set_option maxHeartbeats 8000000 in
set_option maxRecDepth 100000 in
theorem c_X11_from0 (l : Launch) (G : gG) (m0 : Nat) (m_all : Nat) (m_kept : Nat) (m_isKept : Nat) (m_refused : Nat) (m_above : Int) (m_below : Int) (m_hand : Nat) (m_fewest : Nat) (m_whoBites : Nat) (m_leaves : Nat) (m_bestFeast : Nat) (m_tells : Nat) (m_hardOn : Nat) (m_bytes : Nat) (m_bytesLong : Int) (m_tokenAt : Int) (m_tokenLong : Int) (m_token : Int) (m_value : Int) (m_anew : Nat) (m_values : Nat) (mF : Nat → Int) (K0 : Int) (mk : Nat → Int) (mi : Nat → Int32) (mr : Nat → Int) (y0_ : bp (plA K0) mF) (y1_ : bp (plB K0) mk) (hK0 : 1000 ≤ K0 ∧ K0 ≤ 2000000) (sz : Nat) : gI G l yX11_from wsX11_from ({ frames := 1, cells := 0, slots := 0, locals := 25 } : Room) [.ref m0, .int (iI 0)] [(m0, .inr (10, [.ref m_all, .ref m_kept, .ref m_isKept, .ref m_refused, .long (lI m_above), .long (lI m_below), .ref m_hand, .ref m_fewest, .ref m_whoBites, .ref m_leaves, .ref m_bestFeast, .ref m_tells, .ref m_hardOn, .ref m_bytes, .int (iI m_bytesLong), .int (iI m_tokenAt), .int (iI m_tokenLong), .int (iI m_token), .int (iI m_value), .ref m_anew, .ref m_values])), (m_all, .inl (G.2 0, 311, .inl (cI mF))), (m_kept, .inl (G.2 0, 622, .inl (cI mk))), (m_isKept, .inl (G.2 1, 2, .inl mi)), (m_refused, .inl (G.2 0, 3, .inl (cI mr)))] sz (fun (r : Int32) (u : va_W) => (∃ Nr : Nat → Int, (mi 0 = 0) ∧ r = (iI (-3)) ∧ u = [(m0, .inr (10, [.ref m_all, .ref m_kept, .ref m_isKept, .ref m_refused, .long (lI m_above), .long (lI m_below), .ref m_hand, .ref m_fewest, .ref m_whoBites, .ref m_leaves, .ref m_bestFeast, .ref m_tells, .ref m_hardOn, .ref m_bytes, .int (iI m_bytesLong), .int (iI m_tokenAt), .int (iI m_tokenLong), .int (iI m_token), .int (iI m_value), .ref m_anew, .ref m_values])), (m_all, .inl (G.2 0, 311, .inl (cI mF))), (m_kept, .inl (G.2 0, 622, .inl (cI mk))), (m_isKept, .inl (G.2 1, 2, .inl mi)), (m_refused, .inl (G.2 0, 3, .inl (cI Nr)))]) ∨ (∃ Nq : Nat → Int, (¬ (mi 0 = 0)) ∧ (bp (plA K0) Nq) ∧ (cf 0 311 mk Nq) ∧ r = (iI 1) ∧ u = [(m0, .inr (10, [.ref m_all, .ref m_kept, .ref m_isKept, .ref m_refused, .long (lI m_above), .long (lI m_below), .ref m_hand, .ref m_fewest, .ref m_whoBites, .ref m_leaves, .ref m_bestFeast, .ref m_tells, .ref m_hardOn, .ref m_bytes, .int (iI m_bytesLong), .int (iI m_tokenAt), .int (iI m_tokenLong), .int (iI m_token), .int (iI m_value), .ref m_anew, .ref m_values])), (m_all, .inl (G.2 0, 311, .inl (cI Nq))), (m_kept, .inl (G.2 0, 622, .inl (cI mk))), (m_isKept, .inl (G.2 1, 2, .inl mi)), (m_refused, .inl (G.2 0, 3, .inl (cI mr)))])) := by
  refine Met.ofW (cc := cX11_from) (maxL := 3) (ret := (some .int)) (by decide) rfl ?_
  intro p e s m args below meth c s₁ B hml hv
  obtain ⟨rfl, hsz, hP, hK, hD0, hN, hZ⟩ := hv
  have hx := B.exec
  have hb := B.bytes
  have hr := B.returns
  have hts := atoms_spec (ws := wsX11_from) B.pre
  have hown : s.vm.findClass RX11 = some m.cls := findClass_of_methodNamed B.named
  have hlocks := B.notSynchronized
  subst hsz
  have hD := hD0.self (sz := s.heap.size)
  generalize hAe : va_A [(m0, .inr (10, [.ref m_all, .ref m_kept, .ref m_isKept, .ref m_refused, .long (lI m_above), .long (lI m_below), .ref m_hand, .ref m_fewest, .ref m_whoBites, .ref m_leaves, .ref m_bestFeast, .ref m_tells, .ref m_hardOn, .ref m_bytes, .int (iI m_bytesLong), .int (iI m_tokenAt), .int (iI m_tokenLong), .int (iI m_token), .int (iI m_value), .ref m_anew, .ref m_values])), (m_all, .inl (G.2 0, 311, .inl (cI mF))), (m_kept, .inl (G.2 0, 622, .inl (cI mk))), (m_isKept, .inl (G.2 1, 2, .inl mi)), (m_refused, .inl (G.2 0, 3, .inl (cI mr)))] s.heap.size = A at hD hZ ⊢
  have hA : ∀ q : Nat, s.heap.size ≤ q → A q := fun q h => by rw [← hAe]; exact Or.inr h
  have hS : va_S A s.heap s.heap [] := va_S.rf
  have hP : va_P G.1 vwCl [(m0, .inr (10, [.ref m_all, .ref m_kept, .ref m_isKept, .ref m_refused, .long (lI m_above), .long (lI m_below), .ref m_hand, .ref m_fewest, .ref m_whoBites, .ref m_leaves, .ref m_bestFeast, .ref m_tells, .ref m_hardOn, .ref m_bytes, .int (iI m_bytesLong), .int (iI m_tokenAt), .int (iI m_tokenLong), .int (iI m_token), .int (iI m_value), .ref m_anew, .ref m_values])), (m_all, .inl (G.2 0, 311, .inl (cI mF))), (m_kept, .inl (G.2 0, 622, .inl (cI mk))), (m_isKept, .inl (G.2 1, 2, .inl mi)), (m_refused, .inl (G.2 0, 3, .inl (cI mr)))] s.heap := hP
  have hl := lv_entry ([.ref m0, .int (iI 0)]) (n := 3) (Nat.le_of_ble_eq_true rfl)
  rw [lg_entry_eq]
  generalize (lg_sl ([.ref m0, .int (iI 0)]) ++ List.replicate (3 - (lg_sl ([.ref m0, .int (iI 0)])).length) Slot.unset).toArray = ls at hl ⊢
  have hl : lv_has ls 3 [(0, .ref m0), (1, .int (iI 0))] := hl
  refine lv_iload_n hx hb dX11_from_0 rfl (lv_at hl 1 rfl) ?_
  refine lv_i2l (v := lI 0) hx hb dX11_from_1 (i2l_iI (by omega)) ?_
  refine lv_lconst (v := lI 0) hx hb dX11_from_2 (by decide) ?_
  refine lv_lconst (v := lI 1) hx hb dX11_from_3 (by decide) ?_
  refine g_calli (wr := [(m0, .inr (10, [.ref m_all, .ref m_kept, .ref m_isKept, .ref m_refused, .long (lI m_above), .long (lI m_below), .ref m_hand, .ref m_fewest, .ref m_whoBites, .ref m_leaves, .ref m_bestFeast, .ref m_tells, .ref m_hardOn, .ref m_bytes, .int (iI m_bytesLong), .int (iI m_tokenAt), .int (iI m_tokenLong), .int (iI m_token), .int (iI m_value), .ref m_anew, .ref m_values])), (m_all, .inl (G.2 0, 311, .inl (cI mF))), (m_kept, .inl (G.2 0, 622, .inl (cI mk))), (m_isKept, .inl (G.2 1, 2, .inl mi)), (m_refused, .inl (G.2 0, 3, .inl (cI mr)))]) (va_runS (As := [.long (lI 0), .long (lI 0), .long (lI 1)]) (rest := []) ⟨hx, hb, hml, hown, hts⟩ (c_X11_in l G (0) (0) (1) (by first | assumption | omega) (by first | assumption | omega) (by first | assumption | omega) _) (va_cwS 3 hts gX11_from_X11_in rfl rfl rfl (by decide +kernel) ⟨Nat.le_of_ble_eq_true rfl, Nat.le_of_ble_eq_true rfl⟩) (g_preS [.long (lI 0), .long (lI 0), .long (lI 1)] hP hD hK hN hS hA hZ [] rfl rfl) rfl rfl hl.1 rfl (lv_room (Nat.le_of_ble_eq_true rfl)) dX11_from_4 ⟨Nat.le_of_ble_eq_true rfl, Nat.le_of_ble_eq_true rfl⟩) hP hD hS hA [] [0, 1, 2, 3, 4] rfl rfl rfl (by decide) (fun r_1 u H locs hw hP hD hS => ?_)
  rcases hw with hw | hw
  · refine ea_0_4 hw (fun k_2 k_3 e8_0 e8_1 => ?_)
    subst e8_0
    subst e8_1
    clear hw
    have hPD : PD G A H [(m0, .inr (10, [.ref m_all, .ref m_kept, .ref m_isKept, .ref m_refused, .long (lI m_above), .long (lI m_below), .ref m_hand, .ref m_fewest, .ref m_whoBites, .ref m_leaves, .ref m_bestFeast, .ref m_tells, .ref m_hardOn, .ref m_bytes, .int (iI m_bytesLong), .int (iI m_tokenAt), .int (iI m_tokenLong), .int (iI m_token), .int (iI m_value), .ref m_anew, .ref m_values])), (m_all, .inl (G.2 0, 311, .inl (cI mF))), (m_kept, .inl (G.2 0, 622, .inl (cI mk))), (m_isKept, .inl (G.2 1, 2, .inl mi)), (m_refused, .inl (G.2 0, 3, .inl (cI mr)))] := ⟨hP, hD⟩
    have hP := hPD.1
    have hD := hPD.2
    clear hPD
    refine lv_if_ne (tgt := 17) hx hb dX11_from_7 (by decide) (fun _ => ?_) (fun c_5 => g_no c_5 (by decide))
    refine lv_aload_n hx hb dX11_from_17 rfl (lv_at hl 0 rfl) ?_
    refine va_get (D := G.1) (ci := 10) (v := .ref m_isKept) (C := RX11) (T := TX11) (N := 21) hx hb hts (fun _ h => List.mem_cons_of_mem _ (inlX11 _ h)) hown hK hP 0 rfl rfl 2 (by decide) (hts _ (List.mem_cons_of_mem _ (in_r6 (List.mem_of_getElem? (i := 2) rfl)))) (fun _ h9 => h9) rfl dX11_from_18 ?_
    refine lv_iload_n hx hb dX11_from_21 rfl (lv_at hl 1 rfl) ?_
    refine g_bldo hx hb hK hP 3 rfl (by omega) (by omega) (by first | exact Nat.le_of_ble_eq_true rfl | omega) dX11_from_22 (fun w_6 hw_6 ew_6 => ?_)
    refine lv_if_ne (tgt := 31) hx hb dX11_from_23 (by decide) (fun c_7 => ?_) (fun c_7 => ?_)
    · have c_7 : ¬ (w_6 = 0) := fun h9 => c_7 ((iI_eq (a := w_6) (b := 0) (by omega) (by first | decide | omega)).mpr h9)
      refine lv_iconst (v := iI 0) hx hb dX11_from_31 rfl ?_
      refine lv_istore_n (lv' := [(2, .int (iI 0)), (0, .ref m0), (1, .int (iI 0))]) hx hb dX11_from_32 rfl hl (by decide) rfl (fun ls hl => ?_)
      refine g_loopN (pc := 33) (fun nn H locs ls => ∃ i0__8 : Int, ∃ Ek_9 : Nat → Int, (0 ≤ i0__8 ∧ i0__8 ≤ 311) ∧ (bp (plA K0) Ek_9) ∧ (cf 0 i0__8 mk Ek_9) ∧ (311 - i0__8).toNat = nn ∧ va_P G.1 vwCl [(m0, .inr (10, [.ref m_all, .ref m_kept, .ref m_isKept, .ref m_refused, .long (lI m_above), .long (lI m_below), .ref m_hand, .ref m_fewest, .ref m_whoBites, .ref m_leaves, .ref m_bestFeast, .ref m_tells, .ref m_hardOn, .ref m_bytes, .int (iI m_bytesLong), .int (iI m_tokenAt), .int (iI m_tokenLong), .int (iI m_token), .int (iI m_value), .ref m_anew, .ref m_values])), (m_all, .inl (G.2 0, 311, .inl (cI Ek_9))), (m_kept, .inl (G.2 0, 622, .inl (cI mk))), (m_isKept, .inl (G.2 1, 2, .inl mi)), (m_refused, .inl (G.2 0, 3, .inl (cI mr)))] H ∧ va_D A [(m0, .inr (10, [.ref m_all, .ref m_kept, .ref m_isKept, .ref m_refused, .long (lI m_above), .long (lI m_below), .ref m_hand, .ref m_fewest, .ref m_whoBites, .ref m_leaves, .ref m_bestFeast, .ref m_tells, .ref m_hardOn, .ref m_bytes, .int (iI m_bytesLong), .int (iI m_tokenAt), .int (iI m_tokenLong), .int (iI m_token), .int (iI m_value), .ref m_anew, .ref m_values])), (m_all, .inl (G.2 0, 311, .inl (cI Ek_9))), (m_kept, .inl (G.2 0, 622, .inl (cI mk))), (m_isKept, .inl (G.2 1, 2, .inl mi)), (m_refused, .inl (G.2 0, 3, .inl (cI mr)))] ∧ va_S A s.heap H locs ∧ lv_has ls 3 [(2, .int (iI i0__8)), (0, .ref m0), (1, .int (iI 0))]) ?_ ⟨0, mF, (by first | assumption | omega), (by first | exact y0_ | exact bpA_mono y0_ (by omega) | assumption), (cf_0 _ _ ()), rfl, hP, hD, hS, lv_sub hl [0, 1, 2] rfl⟩
      intro nn_14 H locs ls ih_13 hI
      refine ea_2_8 hI (fun i0__8 Ek_9 f_10 f_11 f_12 hnn_15 hP hD hS hl => ?_)
      clear hI
      refine lv_iload_n hx hb dX11_from_33 rfl (lv_at hl 0 rfl) ?_
      refine lv_sipush (v := iI 311) hx hb dX11_from_34 (by decide) ?_
      refine lv_icmp_ge (tgt := 64) hx hb dX11_from_37 (by decide) (fun c_16 => ?_) (fun c_16 => ?_)
      · have c_16 := (iI_le (a := 311) (b := i0__8) (by first | decide | omega) (by omega)).mp c_16
        refine lv_iconst (v := iI 1) hx hb dX11_from_64 rfl ?_
        exact g_iret (v := (iI 1)) hx hb hr hlocks hP hD hS (Or.inr (⟨Ek_9, (fun q9 => c_7 ((iI_eq (by omega) (by omega)).mp (ew_6.symm.trans q9))), (by first | exact f_11 | exact bpA_mono f_11 (by omega) | assumption), (cf_at (by assumption) (by omega)), rfl, rfl⟩)) dX11_from_65
      · have c_16 : ¬ (311 ≤ i0__8) := fun h9 => c_16 ((iI_le (a := 311) (b := i0__8) (by first | decide | omega) (by omega)).mpr h9)
        refine lv_aload_n hx hb dX11_from_40 rfl (lv_at hl 1 rfl) ?_
        refine va_get (D := G.1) (ci := 10) (v := .ref m_all) (C := RX11) (T := TX11) (N := 21) hx hb hts (fun _ h => List.mem_cons_of_mem _ (inlX11 _ h)) hown hK hP 0 rfl rfl 0 (by decide) (hts _ (List.mem_cons_of_mem _ (in_r6 (List.mem_of_getElem? (i := 0) rfl)))) (fun _ h9 => h9) rfl dX11_from_41 ?_
        refine lv_iload_n hx hb dX11_from_44 rfl (lv_at hl 0 rfl) ?_
        refine lv_aload_n hx hb dX11_from_45 rfl (lv_at hl 1 rfl) ?_
        refine va_get (D := G.1) (ci := 10) (v := .ref m_kept) (C := RX11) (T := TX11) (N := 21) hx hb hts (fun _ h => List.mem_cons_of_mem _ (inlX11 _ h)) hown hK hP 0 rfl rfl 1 (by decide) (hts _ (List.mem_cons_of_mem _ (in_r6 (List.mem_of_getElem? (i := 1) rfl)))) (fun _ h9 => h9) rfl dX11_from_46 ?_
        refine lv_sipush (v := iI 311) hx hb dX11_from_49 (by decide) ?_
        refine lv_iload_n hx hb dX11_from_52 rfl (lv_at hl 2 rfl) ?_
        refine lv_imul hx hb dX11_from_53 ?_
        refine g_topi (y := iI 0) (iI_mul 311 0) ?_
        refine lv_iload_n hx hb dX11_from_54 rfl (lv_at hl 0 rfl) ?_
        refine lv_iadd hx hb dX11_from_55 ?_
        refine g_topi (y := iI (0 + i0__8)) (iI_add 0 i0__8) ?_
        refine g_ild hx hb hK hP 2 rfl (by omega) (by omega) (by first | exact Nat.le_of_ble_eq_true rfl | omega) dX11_from_56 (fun w_17 ew_17 => ?_)
        have ew_17 : mk ((0 + i0__8).toNat) = w_17 := ew_17
        subst ew_17
        have bw_17 := y1_ ((0 + i0__8).toNat)
        refine g_ist hx hb hK hP hD hS 1 rfl (by omega) (by omega) (by first | exact Nat.le_of_ble_eq_true rfl | omega) dX11_from_57 (fun H locs hP hD hS => ?_)
        have hk_19 := bp_u (h := plA K0) (k := (i0__8.toNat)) (v := (mk ((0 + i0__8).toNat))) f_11 (by omega) (Int.le_trans bw_17.2 (Int.le_of_eq (plB_0 (by omega) (by omega))))
        have hPD : PD G A H [(m0, .inr (10, [.ref m_all, .ref m_kept, .ref m_isKept, .ref m_refused, .long (lI m_above), .long (lI m_below), .ref m_hand, .ref m_fewest, .ref m_whoBites, .ref m_leaves, .ref m_bestFeast, .ref m_tells, .ref m_hardOn, .ref m_bytes, .int (iI m_bytesLong), .int (iI m_tokenAt), .int (iI m_tokenLong), .int (iI m_token), .int (iI m_value), .ref m_anew, .ref m_values])), (m_all, .inl (G.2 0, 311, .inl (cI (uI Ek_9 (i0__8.toNat) (mk ((0 + i0__8).toNat)))))), (m_kept, .inl (G.2 0, 622, .inl (cI mk))), (m_isKept, .inl (G.2 1, 2, .inl mi)), (m_refused, .inl (G.2 0, 3, .inl (cI mr)))] := ⟨hP, hD⟩
        have hP := hPD.1
        have hD := hPD.2
        clear hPD
        refine lv_iinc (v := iI (i0__8 + 1)) (lv' := [(2, .int (iI (i0__8 + 1))), (0, .ref m0), (1, .int (iI 0))]) hx hb dX11_from_58 hl (k := 0) rfl (iI_add i0__8 1) (by decide) rfl (fun ls hl => ?_)
        refine lv_goto (tgt := 33) hx hb dX11_from_61 (by decide) ?_
        exact ih_13 _ _ _ _ (by omega) ⟨(i0__8 + 1), (uI Ek_9 (i0__8.toNat) (mk ((0 + i0__8).toNat))), (by first | assumption | omega), (by first | exact hk_19 | exact bpA_mono hk_19 (by omega) | assumption), (cf_u (by assumption) rfl (by omega) (by omega)), rfl, hP, hD, hS, lv_sub hl [0, 1, 2] rfl⟩
    · have c_7 := (iI_eq (a := w_6) (b := 0) (by omega) (by first | decide | omega)).mp c_7
      refine lv_aload_n hx hb dX11_from_26 rfl (lv_at hl 0 rfl) ?_
      refine g_calli (wr := [(m_all, .inl (G.2 0, 311, .inl (cI mF))), (m_kept, .inl (G.2 0, 622, .inl (cI mk))), (m_isKept, .inl (G.2 1, 2, .inl mi))]) (va_runV (As := []) (rest := []) ⟨hx, hb, hml, hown, hts⟩ (c_X11_no l G (m0) (m_all) (m_kept) (m_isKept) (m_refused) (m_above) (m_below) (m_hand) (m_fewest) (m_whoBites) (m_leaves) (m_bestFeast) (m_tells) (m_hardOn) (m_bytes) (m_bytesLong) (m_tokenAt) (m_tokenLong) (m_token) (m_value) (m_anew) (m_values) (mr) _) (cwV 0 hts gX11_from_X11_no rfl rfl rfl (by decide +kernel) ⟨Nat.le_of_ble_eq_true rfl, Nat.le_of_ble_eq_true rfl⟩) (g_preV m0 [] hP hD hK hN hS hA hZ [0, 4] rfl rfl 0 (ci := 10) rfl rfl) rfl rfl hl.1 rfl (lv_room (Nat.le_of_ble_eq_true rfl)) dX11_from_27 ⟨Nat.le_of_ble_eq_true rfl, Nat.le_of_ble_eq_true rfl⟩) hP hD hS hA [0, 4] [1, 2, 3] rfl rfl rfl (by decide) (fun r_20 u H locs hw hP hD hS => ?_)
      obtain ⟨Nr_21, rfl, rfl⟩ := hw
      have hPD : PD G A H [(m_all, .inl (G.2 0, 311, .inl (cI mF))), (m_kept, .inl (G.2 0, 622, .inl (cI mk))), (m_isKept, .inl (G.2 1, 2, .inl mi)), (m0, .inr (10, [.ref m_all, .ref m_kept, .ref m_isKept, .ref m_refused, .long (lI m_above), .long (lI m_below), .ref m_hand, .ref m_fewest, .ref m_whoBites, .ref m_leaves, .ref m_bestFeast, .ref m_tells, .ref m_hardOn, .ref m_bytes, .int (iI m_bytesLong), .int (iI m_tokenAt), .int (iI m_tokenLong), .int (iI m_token), .int (iI m_value), .ref m_anew, .ref m_values])), (m_refused, .inl (G.2 0, 3, .inl (cI Nr_21)))] := ⟨hP, hD⟩
      have hP := hPD.1
      have hD := hPD.2
      clear hPD
      have hP := hP.sub (ws' := [(m0, .inr (10, [.ref m_all, .ref m_kept, .ref m_isKept, .ref m_refused, .long (lI m_above), .long (lI m_below), .ref m_hand, .ref m_fewest, .ref m_whoBites, .ref m_leaves, .ref m_bestFeast, .ref m_tells, .ref m_hardOn, .ref m_bytes, .int (iI m_bytesLong), .int (iI m_tokenAt), .int (iI m_tokenLong), .int (iI m_token), .int (iI m_value), .ref m_anew, .ref m_values])), (m_all, .inl (G.2 0, 311, .inl (cI mF))), (m_kept, .inl (G.2 0, 622, .inl (cI mk))), (m_isKept, .inl (G.2 1, 2, .inl mi)), (m_refused, .inl (G.2 0, 3, .inl (cI Nr_21)))]) [3, 0, 1, 2, 4] rfl
      have hD := hD.sub (ws' := [(m0, .inr (10, [.ref m_all, .ref m_kept, .ref m_isKept, .ref m_refused, .long (lI m_above), .long (lI m_below), .ref m_hand, .ref m_fewest, .ref m_whoBites, .ref m_leaves, .ref m_bestFeast, .ref m_tells, .ref m_hardOn, .ref m_bytes, .int (iI m_bytesLong), .int (iI m_tokenAt), .int (iI m_tokenLong), .int (iI m_token), .int (iI m_value), .ref m_anew, .ref m_values])), (m_all, .inl (G.2 0, 311, .inl (cI mF))), (m_kept, .inl (G.2 0, 622, .inl (cI mk))), (m_isKept, .inl (G.2 1, 2, .inl mi)), (m_refused, .inl (G.2 0, 3, .inl (cI Nr_21)))]) [3, 0, 1, 2, 4] rfl rfl
      exact g_iret (v := (iI (-3))) hx hb hr hlocks hP hD hS (Or.inl ⟨Nr_21, (by have h9 : mi 0 = iI w_6 := ew_6; rw [h9, show w_6 = 0 by omega]; rfl), rfl, rfl⟩) dX11_from_30
  · refine ea_0_3 hw (fun k_4 e8_0 e8_1 => ?_)
    subst e8_0
    subst e8_1
    clear hw
    exact (by exfalso; omega)
set_option maxHeartbeats 8000000 in
set_option maxRecDepth 100000 in
theorem c_X11_from1 (l : Launch) (G : gG) (m0 : Nat) (m_all : Nat) (m_kept : Nat) (m_isKept : Nat) (m_refused : Nat) (m_above : Int) (m_below : Int) (m_hand : Nat) (m_fewest : Nat) (m_whoBites : Nat) (m_leaves : Nat) (m_bestFeast : Nat) (m_tells : Nat) (m_hardOn : Nat) (m_bytes : Nat) (m_bytesLong : Int) (m_tokenAt : Int) (m_tokenLong : Int) (m_token : Int) (m_value : Int) (m_anew : Nat) (m_values : Nat) (mF : Nat → Int) (K0 : Int) (mk : Nat → Int) (mi : Nat → Int32) (mr : Nat → Int) (y0_ : bp (plA K0) mF) (y1_ : bp (plB K0) mk) (hK0 : 1000 ≤ K0 ∧ K0 ≤ 2000000) (sz : Nat) : gI G l yX11_from wsX11_from ({ frames := 1, cells := 0, slots := 0, locals := 25 } : Room) [.ref m0, .int (iI 1)] [(m0, .inr (10, [.ref m_all, .ref m_kept, .ref m_isKept, .ref m_refused, .long (lI m_above), .long (lI m_below), .ref m_hand, .ref m_fewest, .ref m_whoBites, .ref m_leaves, .ref m_bestFeast, .ref m_tells, .ref m_hardOn, .ref m_bytes, .int (iI m_bytesLong), .int (iI m_tokenAt), .int (iI m_tokenLong), .int (iI m_token), .int (iI m_value), .ref m_anew, .ref m_values])), (m_all, .inl (G.2 0, 311, .inl (cI mF))), (m_kept, .inl (G.2 0, 622, .inl (cI mk))), (m_isKept, .inl (G.2 1, 2, .inl mi)), (m_refused, .inl (G.2 0, 3, .inl (cI mr)))] sz (fun (r : Int32) (u : va_W) => (∃ Nr : Nat → Int, (mi 1 = 0) ∧ r = (iI (-3)) ∧ u = [(m0, .inr (10, [.ref m_all, .ref m_kept, .ref m_isKept, .ref m_refused, .long (lI m_above), .long (lI m_below), .ref m_hand, .ref m_fewest, .ref m_whoBites, .ref m_leaves, .ref m_bestFeast, .ref m_tells, .ref m_hardOn, .ref m_bytes, .int (iI m_bytesLong), .int (iI m_tokenAt), .int (iI m_tokenLong), .int (iI m_token), .int (iI m_value), .ref m_anew, .ref m_values])), (m_all, .inl (G.2 0, 311, .inl (cI mF))), (m_kept, .inl (G.2 0, 622, .inl (cI mk))), (m_isKept, .inl (G.2 1, 2, .inl mi)), (m_refused, .inl (G.2 0, 3, .inl (cI Nr)))]) ∨ (∃ Nq : Nat → Int, (¬ (mi 1 = 0)) ∧ (bp (plA K0) Nq) ∧ (cf 311 311 mk Nq) ∧ r = (iI 1) ∧ u = [(m0, .inr (10, [.ref m_all, .ref m_kept, .ref m_isKept, .ref m_refused, .long (lI m_above), .long (lI m_below), .ref m_hand, .ref m_fewest, .ref m_whoBites, .ref m_leaves, .ref m_bestFeast, .ref m_tells, .ref m_hardOn, .ref m_bytes, .int (iI m_bytesLong), .int (iI m_tokenAt), .int (iI m_tokenLong), .int (iI m_token), .int (iI m_value), .ref m_anew, .ref m_values])), (m_all, .inl (G.2 0, 311, .inl (cI Nq))), (m_kept, .inl (G.2 0, 622, .inl (cI mk))), (m_isKept, .inl (G.2 1, 2, .inl mi)), (m_refused, .inl (G.2 0, 3, .inl (cI mr)))])) := by
  refine Met.ofW (cc := cX11_from) (maxL := 3) (ret := (some .int)) (by decide) rfl ?_
  intro p e s m args below meth c s₁ B hml hv
  obtain ⟨rfl, hsz, hP, hK, hD0, hN, hZ⟩ := hv
  have hx := B.exec
  have hb := B.bytes
  have hr := B.returns
  have hts := atoms_spec (ws := wsX11_from) B.pre
  have hown : s.vm.findClass RX11 = some m.cls := findClass_of_methodNamed B.named
  have hlocks := B.notSynchronized
  subst hsz
  have hD := hD0.self (sz := s.heap.size)
  generalize hAe : va_A [(m0, .inr (10, [.ref m_all, .ref m_kept, .ref m_isKept, .ref m_refused, .long (lI m_above), .long (lI m_below), .ref m_hand, .ref m_fewest, .ref m_whoBites, .ref m_leaves, .ref m_bestFeast, .ref m_tells, .ref m_hardOn, .ref m_bytes, .int (iI m_bytesLong), .int (iI m_tokenAt), .int (iI m_tokenLong), .int (iI m_token), .int (iI m_value), .ref m_anew, .ref m_values])), (m_all, .inl (G.2 0, 311, .inl (cI mF))), (m_kept, .inl (G.2 0, 622, .inl (cI mk))), (m_isKept, .inl (G.2 1, 2, .inl mi)), (m_refused, .inl (G.2 0, 3, .inl (cI mr)))] s.heap.size = A at hD hZ ⊢
  have hA : ∀ q : Nat, s.heap.size ≤ q → A q := fun q h => by rw [← hAe]; exact Or.inr h
  have hS : va_S A s.heap s.heap [] := va_S.rf
  have hP : va_P G.1 vwCl [(m0, .inr (10, [.ref m_all, .ref m_kept, .ref m_isKept, .ref m_refused, .long (lI m_above), .long (lI m_below), .ref m_hand, .ref m_fewest, .ref m_whoBites, .ref m_leaves, .ref m_bestFeast, .ref m_tells, .ref m_hardOn, .ref m_bytes, .int (iI m_bytesLong), .int (iI m_tokenAt), .int (iI m_tokenLong), .int (iI m_token), .int (iI m_value), .ref m_anew, .ref m_values])), (m_all, .inl (G.2 0, 311, .inl (cI mF))), (m_kept, .inl (G.2 0, 622, .inl (cI mk))), (m_isKept, .inl (G.2 1, 2, .inl mi)), (m_refused, .inl (G.2 0, 3, .inl (cI mr)))] s.heap := hP
  have hl := lv_entry ([.ref m0, .int (iI 1)]) (n := 3) (Nat.le_of_ble_eq_true rfl)
  rw [lg_entry_eq]
  generalize (lg_sl ([.ref m0, .int (iI 1)]) ++ List.replicate (3 - (lg_sl ([.ref m0, .int (iI 1)])).length) Slot.unset).toArray = ls at hl ⊢
  have hl : lv_has ls 3 [(0, .ref m0), (1, .int (iI 1))] := hl
  refine lv_iload_n hx hb dX11_from_0 rfl (lv_at hl 1 rfl) ?_
  refine lv_i2l (v := lI 1) hx hb dX11_from_1 (i2l_iI (by omega)) ?_
  refine lv_lconst (v := lI 0) hx hb dX11_from_2 (by decide) ?_
  refine lv_lconst (v := lI 1) hx hb dX11_from_3 (by decide) ?_
  refine g_calli (wr := [(m0, .inr (10, [.ref m_all, .ref m_kept, .ref m_isKept, .ref m_refused, .long (lI m_above), .long (lI m_below), .ref m_hand, .ref m_fewest, .ref m_whoBites, .ref m_leaves, .ref m_bestFeast, .ref m_tells, .ref m_hardOn, .ref m_bytes, .int (iI m_bytesLong), .int (iI m_tokenAt), .int (iI m_tokenLong), .int (iI m_token), .int (iI m_value), .ref m_anew, .ref m_values])), (m_all, .inl (G.2 0, 311, .inl (cI mF))), (m_kept, .inl (G.2 0, 622, .inl (cI mk))), (m_isKept, .inl (G.2 1, 2, .inl mi)), (m_refused, .inl (G.2 0, 3, .inl (cI mr)))]) (va_runS (As := [.long (lI 1), .long (lI 0), .long (lI 1)]) (rest := []) ⟨hx, hb, hml, hown, hts⟩ (c_X11_in l G (1) (0) (1) (by first | assumption | omega) (by first | assumption | omega) (by first | assumption | omega) _) (va_cwS 3 hts gX11_from_X11_in rfl rfl rfl (by decide +kernel) ⟨Nat.le_of_ble_eq_true rfl, Nat.le_of_ble_eq_true rfl⟩) (g_preS [.long (lI 1), .long (lI 0), .long (lI 1)] hP hD hK hN hS hA hZ [] rfl rfl) rfl rfl hl.1 rfl (lv_room (Nat.le_of_ble_eq_true rfl)) dX11_from_4 ⟨Nat.le_of_ble_eq_true rfl, Nat.le_of_ble_eq_true rfl⟩) hP hD hS hA [] [0, 1, 2, 3, 4] rfl rfl rfl (by decide) (fun r_1 u H locs hw hP hD hS => ?_)
  rcases hw with hw | hw
  · refine ea_0_4 hw (fun k_2 k_3 e8_0 e8_1 => ?_)
    subst e8_0
    subst e8_1
    clear hw
    have hPD : PD G A H [(m0, .inr (10, [.ref m_all, .ref m_kept, .ref m_isKept, .ref m_refused, .long (lI m_above), .long (lI m_below), .ref m_hand, .ref m_fewest, .ref m_whoBites, .ref m_leaves, .ref m_bestFeast, .ref m_tells, .ref m_hardOn, .ref m_bytes, .int (iI m_bytesLong), .int (iI m_tokenAt), .int (iI m_tokenLong), .int (iI m_token), .int (iI m_value), .ref m_anew, .ref m_values])), (m_all, .inl (G.2 0, 311, .inl (cI mF))), (m_kept, .inl (G.2 0, 622, .inl (cI mk))), (m_isKept, .inl (G.2 1, 2, .inl mi)), (m_refused, .inl (G.2 0, 3, .inl (cI mr)))] := ⟨hP, hD⟩
    have hP := hPD.1
    have hD := hPD.2
    clear hPD
    refine lv_if_ne (tgt := 17) hx hb dX11_from_7 (by decide) (fun _ => ?_) (fun c_5 => g_no c_5 (by decide))
    refine lv_aload_n hx hb dX11_from_17 rfl (lv_at hl 0 rfl) ?_
    refine va_get (D := G.1) (ci := 10) (v := .ref m_isKept) (C := RX11) (T := TX11) (N := 21) hx hb hts (fun _ h => List.mem_cons_of_mem _ (inlX11 _ h)) hown hK hP 0 rfl rfl 2 (by decide) (hts _ (List.mem_cons_of_mem _ (in_r6 (List.mem_of_getElem? (i := 2) rfl)))) (fun _ h9 => h9) rfl dX11_from_18 ?_
    refine lv_iload_n hx hb dX11_from_21 rfl (lv_at hl 1 rfl) ?_
    refine g_bldo hx hb hK hP 3 rfl (by omega) (by omega) (by first | exact Nat.le_of_ble_eq_true rfl | omega) dX11_from_22 (fun w_6 hw_6 ew_6 => ?_)
    refine lv_if_ne (tgt := 31) hx hb dX11_from_23 (by decide) (fun c_7 => ?_) (fun c_7 => ?_)
    · have c_7 : ¬ (w_6 = 0) := fun h9 => c_7 ((iI_eq (a := w_6) (b := 0) (by omega) (by first | decide | omega)).mpr h9)
      refine lv_iconst (v := iI 0) hx hb dX11_from_31 rfl ?_
      refine lv_istore_n (lv' := [(2, .int (iI 0)), (0, .ref m0), (1, .int (iI 1))]) hx hb dX11_from_32 rfl hl (by decide) rfl (fun ls hl => ?_)
      refine g_loopN (pc := 33) (fun nn H locs ls => ∃ i0__8 : Int, ∃ Ek_9 : Nat → Int, (0 ≤ i0__8 ∧ i0__8 ≤ 311) ∧ (bp (plA K0) Ek_9) ∧ (cf 311 i0__8 mk Ek_9) ∧ (311 - i0__8).toNat = nn ∧ va_P G.1 vwCl [(m0, .inr (10, [.ref m_all, .ref m_kept, .ref m_isKept, .ref m_refused, .long (lI m_above), .long (lI m_below), .ref m_hand, .ref m_fewest, .ref m_whoBites, .ref m_leaves, .ref m_bestFeast, .ref m_tells, .ref m_hardOn, .ref m_bytes, .int (iI m_bytesLong), .int (iI m_tokenAt), .int (iI m_tokenLong), .int (iI m_token), .int (iI m_value), .ref m_anew, .ref m_values])), (m_all, .inl (G.2 0, 311, .inl (cI Ek_9))), (m_kept, .inl (G.2 0, 622, .inl (cI mk))), (m_isKept, .inl (G.2 1, 2, .inl mi)), (m_refused, .inl (G.2 0, 3, .inl (cI mr)))] H ∧ va_D A [(m0, .inr (10, [.ref m_all, .ref m_kept, .ref m_isKept, .ref m_refused, .long (lI m_above), .long (lI m_below), .ref m_hand, .ref m_fewest, .ref m_whoBites, .ref m_leaves, .ref m_bestFeast, .ref m_tells, .ref m_hardOn, .ref m_bytes, .int (iI m_bytesLong), .int (iI m_tokenAt), .int (iI m_tokenLong), .int (iI m_token), .int (iI m_value), .ref m_anew, .ref m_values])), (m_all, .inl (G.2 0, 311, .inl (cI Ek_9))), (m_kept, .inl (G.2 0, 622, .inl (cI mk))), (m_isKept, .inl (G.2 1, 2, .inl mi)), (m_refused, .inl (G.2 0, 3, .inl (cI mr)))] ∧ va_S A s.heap H locs ∧ lv_has ls 3 [(2, .int (iI i0__8)), (0, .ref m0), (1, .int (iI 1))]) ?_ ⟨0, mF, (by first | assumption | omega), (by first | exact y0_ | exact bpA_mono y0_ (by omega) | assumption), (cf_0 _ _ ()), rfl, hP, hD, hS, lv_sub hl [0, 1, 2] rfl⟩
      intro nn_14 H locs ls ih_13 hI
      refine ea_2_8 hI (fun i0__8 Ek_9 f_10 f_11 f_12 hnn_15 hP hD hS hl => ?_)
      clear hI
      refine lv_iload_n hx hb dX11_from_33 rfl (lv_at hl 0 rfl) ?_
      refine lv_sipush (v := iI 311) hx hb dX11_from_34 (by decide) ?_
      refine lv_icmp_ge (tgt := 64) hx hb dX11_from_37 (by decide) (fun c_16 => ?_) (fun c_16 => ?_)
      · have c_16 := (iI_le (a := 311) (b := i0__8) (by first | decide | omega) (by omega)).mp c_16
        refine lv_iconst (v := iI 1) hx hb dX11_from_64 rfl ?_
        exact g_iret (v := (iI 1)) hx hb hr hlocks hP hD hS (Or.inr (⟨Ek_9, (fun q9 => c_7 ((iI_eq (by omega) (by omega)).mp (ew_6.symm.trans q9))), (by first | exact f_11 | exact bpA_mono f_11 (by omega) | assumption), (cf_at (by assumption) (by omega)), rfl, rfl⟩)) dX11_from_65
      · have c_16 : ¬ (311 ≤ i0__8) := fun h9 => c_16 ((iI_le (a := 311) (b := i0__8) (by first | decide | omega) (by omega)).mpr h9)
        refine lv_aload_n hx hb dX11_from_40 rfl (lv_at hl 1 rfl) ?_
        refine va_get (D := G.1) (ci := 10) (v := .ref m_all) (C := RX11) (T := TX11) (N := 21) hx hb hts (fun _ h => List.mem_cons_of_mem _ (inlX11 _ h)) hown hK hP 0 rfl rfl 0 (by decide) (hts _ (List.mem_cons_of_mem _ (in_r6 (List.mem_of_getElem? (i := 0) rfl)))) (fun _ h9 => h9) rfl dX11_from_41 ?_
        refine lv_iload_n hx hb dX11_from_44 rfl (lv_at hl 0 rfl) ?_
        refine lv_aload_n hx hb dX11_from_45 rfl (lv_at hl 1 rfl) ?_
        refine va_get (D := G.1) (ci := 10) (v := .ref m_kept) (C := RX11) (T := TX11) (N := 21) hx hb hts (fun _ h => List.mem_cons_of_mem _ (inlX11 _ h)) hown hK hP 0 rfl rfl 1 (by decide) (hts _ (List.mem_cons_of_mem _ (in_r6 (List.mem_of_getElem? (i := 1) rfl)))) (fun _ h9 => h9) rfl dX11_from_46 ?_
        refine lv_sipush (v := iI 311) hx hb dX11_from_49 (by decide) ?_
        refine lv_iload_n hx hb dX11_from_52 rfl (lv_at hl 2 rfl) ?_
        refine lv_imul hx hb dX11_from_53 ?_
        refine g_topi (y := iI 311) (iI_mul 311 1) ?_
        refine lv_iload_n hx hb dX11_from_54 rfl (lv_at hl 0 rfl) ?_
        refine lv_iadd hx hb dX11_from_55 ?_
        refine g_topi (y := iI (311 + i0__8)) (iI_add 311 i0__8) ?_
        refine g_ild hx hb hK hP 2 rfl (by omega) (by omega) (by first | exact Nat.le_of_ble_eq_true rfl | omega) dX11_from_56 (fun w_17 ew_17 => ?_)
        have ew_17 : mk ((311 + i0__8).toNat) = w_17 := ew_17
        subst ew_17
        have bw_17 := y1_ ((311 + i0__8).toNat)
        refine g_ist hx hb hK hP hD hS 1 rfl (by omega) (by omega) (by first | exact Nat.le_of_ble_eq_true rfl | omega) dX11_from_57 (fun H locs hP hD hS => ?_)
        have hk_19 := bp_u (h := plA K0) (k := (i0__8.toNat)) (v := (mk ((311 + i0__8).toNat))) f_11 (by omega) (Int.le_trans bw_17.2 (Int.le_of_eq (plB_1 (by omega) (by omega))))
        have hPD : PD G A H [(m0, .inr (10, [.ref m_all, .ref m_kept, .ref m_isKept, .ref m_refused, .long (lI m_above), .long (lI m_below), .ref m_hand, .ref m_fewest, .ref m_whoBites, .ref m_leaves, .ref m_bestFeast, .ref m_tells, .ref m_hardOn, .ref m_bytes, .int (iI m_bytesLong), .int (iI m_tokenAt), .int (iI m_tokenLong), .int (iI m_token), .int (iI m_value), .ref m_anew, .ref m_values])), (m_all, .inl (G.2 0, 311, .inl (cI (uI Ek_9 (i0__8.toNat) (mk ((311 + i0__8).toNat)))))), (m_kept, .inl (G.2 0, 622, .inl (cI mk))), (m_isKept, .inl (G.2 1, 2, .inl mi)), (m_refused, .inl (G.2 0, 3, .inl (cI mr)))] := ⟨hP, hD⟩
        have hP := hPD.1
        have hD := hPD.2
        clear hPD
        refine lv_iinc (v := iI (i0__8 + 1)) (lv' := [(2, .int (iI (i0__8 + 1))), (0, .ref m0), (1, .int (iI 1))]) hx hb dX11_from_58 hl (k := 0) rfl (iI_add i0__8 1) (by decide) rfl (fun ls hl => ?_)
        refine lv_goto (tgt := 33) hx hb dX11_from_61 (by decide) ?_
        exact ih_13 _ _ _ _ (by omega) ⟨(i0__8 + 1), (uI Ek_9 (i0__8.toNat) (mk ((311 + i0__8).toNat))), (by first | assumption | omega), (by first | exact hk_19 | exact bpA_mono hk_19 (by omega) | assumption), (cf_u (by assumption) rfl (by omega) (by omega)), rfl, hP, hD, hS, lv_sub hl [0, 1, 2] rfl⟩
    · have c_7 := (iI_eq (a := w_6) (b := 0) (by omega) (by first | decide | omega)).mp c_7
      refine lv_aload_n hx hb dX11_from_26 rfl (lv_at hl 0 rfl) ?_
      refine g_calli (wr := [(m_all, .inl (G.2 0, 311, .inl (cI mF))), (m_kept, .inl (G.2 0, 622, .inl (cI mk))), (m_isKept, .inl (G.2 1, 2, .inl mi))]) (va_runV (As := []) (rest := []) ⟨hx, hb, hml, hown, hts⟩ (c_X11_no l G (m0) (m_all) (m_kept) (m_isKept) (m_refused) (m_above) (m_below) (m_hand) (m_fewest) (m_whoBites) (m_leaves) (m_bestFeast) (m_tells) (m_hardOn) (m_bytes) (m_bytesLong) (m_tokenAt) (m_tokenLong) (m_token) (m_value) (m_anew) (m_values) (mr) _) (cwV 0 hts gX11_from_X11_no rfl rfl rfl (by decide +kernel) ⟨Nat.le_of_ble_eq_true rfl, Nat.le_of_ble_eq_true rfl⟩) (g_preV m0 [] hP hD hK hN hS hA hZ [0, 4] rfl rfl 0 (ci := 10) rfl rfl) rfl rfl hl.1 rfl (lv_room (Nat.le_of_ble_eq_true rfl)) dX11_from_27 ⟨Nat.le_of_ble_eq_true rfl, Nat.le_of_ble_eq_true rfl⟩) hP hD hS hA [0, 4] [1, 2, 3] rfl rfl rfl (by decide) (fun r_20 u H locs hw hP hD hS => ?_)
      obtain ⟨Nr_21, rfl, rfl⟩ := hw
      have hPD : PD G A H [(m_all, .inl (G.2 0, 311, .inl (cI mF))), (m_kept, .inl (G.2 0, 622, .inl (cI mk))), (m_isKept, .inl (G.2 1, 2, .inl mi)), (m0, .inr (10, [.ref m_all, .ref m_kept, .ref m_isKept, .ref m_refused, .long (lI m_above), .long (lI m_below), .ref m_hand, .ref m_fewest, .ref m_whoBites, .ref m_leaves, .ref m_bestFeast, .ref m_tells, .ref m_hardOn, .ref m_bytes, .int (iI m_bytesLong), .int (iI m_tokenAt), .int (iI m_tokenLong), .int (iI m_token), .int (iI m_value), .ref m_anew, .ref m_values])), (m_refused, .inl (G.2 0, 3, .inl (cI Nr_21)))] := ⟨hP, hD⟩
      have hP := hPD.1
      have hD := hPD.2
      clear hPD
      have hP := hP.sub (ws' := [(m0, .inr (10, [.ref m_all, .ref m_kept, .ref m_isKept, .ref m_refused, .long (lI m_above), .long (lI m_below), .ref m_hand, .ref m_fewest, .ref m_whoBites, .ref m_leaves, .ref m_bestFeast, .ref m_tells, .ref m_hardOn, .ref m_bytes, .int (iI m_bytesLong), .int (iI m_tokenAt), .int (iI m_tokenLong), .int (iI m_token), .int (iI m_value), .ref m_anew, .ref m_values])), (m_all, .inl (G.2 0, 311, .inl (cI mF))), (m_kept, .inl (G.2 0, 622, .inl (cI mk))), (m_isKept, .inl (G.2 1, 2, .inl mi)), (m_refused, .inl (G.2 0, 3, .inl (cI Nr_21)))]) [3, 0, 1, 2, 4] rfl
      have hD := hD.sub (ws' := [(m0, .inr (10, [.ref m_all, .ref m_kept, .ref m_isKept, .ref m_refused, .long (lI m_above), .long (lI m_below), .ref m_hand, .ref m_fewest, .ref m_whoBites, .ref m_leaves, .ref m_bestFeast, .ref m_tells, .ref m_hardOn, .ref m_bytes, .int (iI m_bytesLong), .int (iI m_tokenAt), .int (iI m_tokenLong), .int (iI m_token), .int (iI m_value), .ref m_anew, .ref m_values])), (m_all, .inl (G.2 0, 311, .inl (cI mF))), (m_kept, .inl (G.2 0, 622, .inl (cI mk))), (m_isKept, .inl (G.2 1, 2, .inl mi)), (m_refused, .inl (G.2 0, 3, .inl (cI Nr_21)))]) [3, 0, 1, 2, 4] rfl rfl
      exact g_iret (v := (iI (-3))) hx hb hr hlocks hP hD hS (Or.inl ⟨Nr_21, (by have h9 : mi 1 = iI w_6 := ew_6; rw [h9, show w_6 = 0 by omega]; rfl), rfl, rfl⟩) dX11_from_30
  · refine ea_0_3 hw (fun k_4 e8_0 e8_1 => ?_)
    subst e8_0
    subst e8_1
    clear hw
    exact (by exfalso; omega)
theorem dX11_image_10 : decode cX11_image 10 = .ok (.aload_n 0, 1) := kd_42 (by decide +kernel)
theorem dX11_image_11 : decode cX11_image 11 = .ok (.bipush (-2), 2) := kd_16 (a := 254) (by decide +kernel)
theorem gX11_image_X11_bad : GoodIn wsX11_image (wsV RX11 79 RX11 yX11_bad wsX11_bad) := gW_V (in_r8 (List.mem_of_getElem? (i := 16) rfl)) (in_r8 (List.mem_of_getElem? (i := 17) rfl)) (in_r8 (List.mem_of_getElem? (i := 18) rfl)) (in_r1 (List.mem_of_getElem? (i := 5) rfl)) (in_r8 (List.mem_of_getElem? (i := 19) rfl))
theorem dX11_image_13 : decode cX11_image 13 = .ok (.invokevirtual 79, 3) := kd_182 (a := 0) (b := 79) (by decide +kernel)
theorem dX11_image_16 : decode cX11_image 16 = .ok (.ireturn, 1) := kd_172 (by decide +kernel)
set_option maxHeartbeats 8000000 in
set_option maxRecDepth 100000 in
theorem c_X11_imageB (l : Launch) (G : gG) (m0 : Nat) (m_all : Nat) (m_kept : Nat) (m_isKept : Nat) (m_refused : Nat) (m_above : Int) (m_below : Int) (m_hand : Nat) (m_fewest : Nat) (m_whoBites : Nat) (m_leaves : Nat) (m_bestFeast : Nat) (m_tells : Nat) (m_hardOn : Nat) (m_bytes : Nat) (m_bytesLong : Int) (m_tokenAt : Int) (m_tokenLong : Int) (m_token : Int) (m_value : Int) (m_anew : Nat) (m_values : Nat) (mr : Nat → Int) (a1 : Int) (ra1 : -2147483648 ≤ a1 ∧ a1 ≤ 2147483647) (hbad : ¬ (0 ≤ a1 ∧ a1 ≤ 1)) (sz : Nat) : gI G l yX11_image wsX11_image ({ frames := 1, cells := 0, slots := 0, locals := 25 } : Room) [.ref m0, .int (iI a1)] [(m0, .inr (10, [.ref m_all, .ref m_kept, .ref m_isKept, .ref m_refused, .long (lI m_above), .long (lI m_below), .ref m_hand, .ref m_fewest, .ref m_whoBites, .ref m_leaves, .ref m_bestFeast, .ref m_tells, .ref m_hardOn, .ref m_bytes, .int (iI m_bytesLong), .int (iI m_tokenAt), .int (iI m_tokenLong), .int (iI m_token), .int (iI m_value), .ref m_anew, .ref m_values])), (m_refused, .inl (G.2 0, 3, .inl (cI mr)))] sz (fun (r : Int32) (u : va_W) => (∃ Nr : Nat → Int, r = (iI (-2)) ∧ u = [(m0, .inr (10, [.ref m_all, .ref m_kept, .ref m_isKept, .ref m_refused, .long (lI m_above), .long (lI m_below), .ref m_hand, .ref m_fewest, .ref m_whoBites, .ref m_leaves, .ref m_bestFeast, .ref m_tells, .ref m_hardOn, .ref m_bytes, .int (iI m_bytesLong), .int (iI m_tokenAt), .int (iI m_tokenLong), .int (iI m_token), .int (iI m_value), .ref m_anew, .ref m_values])), (m_refused, .inl (G.2 0, 3, .inl (cI Nr)))])) := by
  refine Met.ofW (cc := cX11_image) (maxL := 3) (ret := (some .int)) (by decide) rfl ?_
  intro p e s m args below meth c s₁ B hml hv
  obtain ⟨rfl, hsz, hP, hK, hD0, hN, hZ⟩ := hv
  have hx := B.exec
  have hb := B.bytes
  have hr := B.returns
  have hts := atoms_spec (ws := wsX11_image) B.pre
  have hown : s.vm.findClass RX11 = some m.cls := findClass_of_methodNamed B.named
  have hlocks := B.notSynchronized
  subst hsz
  have hD := hD0.self (sz := s.heap.size)
  generalize hAe : va_A [(m0, .inr (10, [.ref m_all, .ref m_kept, .ref m_isKept, .ref m_refused, .long (lI m_above), .long (lI m_below), .ref m_hand, .ref m_fewest, .ref m_whoBites, .ref m_leaves, .ref m_bestFeast, .ref m_tells, .ref m_hardOn, .ref m_bytes, .int (iI m_bytesLong), .int (iI m_tokenAt), .int (iI m_tokenLong), .int (iI m_token), .int (iI m_value), .ref m_anew, .ref m_values])), (m_refused, .inl (G.2 0, 3, .inl (cI mr)))] s.heap.size = A at hD hZ ⊢
  have hA : ∀ q : Nat, s.heap.size ≤ q → A q := fun q h => by rw [← hAe]; exact Or.inr h
  have hS : va_S A s.heap s.heap [] := va_S.rf
  have hP : va_P G.1 vwCl [(m0, .inr (10, [.ref m_all, .ref m_kept, .ref m_isKept, .ref m_refused, .long (lI m_above), .long (lI m_below), .ref m_hand, .ref m_fewest, .ref m_whoBites, .ref m_leaves, .ref m_bestFeast, .ref m_tells, .ref m_hardOn, .ref m_bytes, .int (iI m_bytesLong), .int (iI m_tokenAt), .int (iI m_tokenLong), .int (iI m_token), .int (iI m_value), .ref m_anew, .ref m_values])), (m_refused, .inl (G.2 0, 3, .inl (cI mr)))] s.heap := hP
  have hl := lv_entry ([.ref m0, .int (iI a1)]) (n := 3) (Nat.le_of_ble_eq_true rfl)
  rw [lg_entry_eq]
  generalize (lg_sl ([.ref m0, .int (iI a1)]) ++ List.replicate (3 - (lg_sl ([.ref m0, .int (iI a1)])).length) Slot.unset).toArray = ls at hl ⊢
  have hl : lv_has ls 3 [(0, .ref m0), (1, .int (iI a1))] := hl
  refine lv_iload_n hx hb dX11_image_0 rfl (lv_at hl 1 rfl) ?_
  refine lv_i2l (v := lI a1) hx hb dX11_image_1 (i2l_iI (by omega)) ?_
  refine lv_lconst (v := lI 0) hx hb dX11_image_2 (by decide) ?_
  refine lv_lconst (v := lI 1) hx hb dX11_image_3 (by decide) ?_
  refine g_calli (wr := [(m0, .inr (10, [.ref m_all, .ref m_kept, .ref m_isKept, .ref m_refused, .long (lI m_above), .long (lI m_below), .ref m_hand, .ref m_fewest, .ref m_whoBites, .ref m_leaves, .ref m_bestFeast, .ref m_tells, .ref m_hardOn, .ref m_bytes, .int (iI m_bytesLong), .int (iI m_tokenAt), .int (iI m_tokenLong), .int (iI m_token), .int (iI m_value), .ref m_anew, .ref m_values])), (m_refused, .inl (G.2 0, 3, .inl (cI mr)))]) (va_runS (As := [.long (lI a1), .long (lI 0), .long (lI 1)]) (rest := []) ⟨hx, hb, hml, hown, hts⟩ (c_X11_in l G (a1) (0) (1) (by first | assumption | omega) (by first | assumption | omega) (by first | assumption | omega) _) (va_cwS 3 hts gX11_image_X11_in rfl rfl rfl (by decide +kernel) ⟨Nat.le_of_ble_eq_true rfl, Nat.le_of_ble_eq_true rfl⟩) (g_preS [.long (lI a1), .long (lI 0), .long (lI 1)] hP hD hK hN hS hA hZ [] rfl rfl) rfl rfl hl.1 rfl (lv_room (Nat.le_of_ble_eq_true rfl)) dX11_image_4 ⟨Nat.le_of_ble_eq_true rfl, Nat.le_of_ble_eq_true rfl⟩) hP hD hS hA [] [0, 1] rfl rfl rfl (by decide) (fun r_1 u H locs hw hP hD hS => ?_)
  rcases hw with hw | hw
  · refine ea_0_4 hw (fun k_2 k_3 e8_0 e8_1 => ?_)
    subst e8_0
    subst e8_1
    clear hw
    exact absurd (show 0 ≤ a1 ∧ a1 ≤ 1 by omega) hbad
  · refine ea_0_3 hw (fun k_4 e8_0 e8_1 => ?_)
    subst e8_0
    subst e8_1
    clear hw
    have hPD : PD G A H [(m0, .inr (10, [.ref m_all, .ref m_kept, .ref m_isKept, .ref m_refused, .long (lI m_above), .long (lI m_below), .ref m_hand, .ref m_fewest, .ref m_whoBites, .ref m_leaves, .ref m_bestFeast, .ref m_tells, .ref m_hardOn, .ref m_bytes, .int (iI m_bytesLong), .int (iI m_tokenAt), .int (iI m_tokenLong), .int (iI m_token), .int (iI m_value), .ref m_anew, .ref m_values])), (m_refused, .inl (G.2 0, 3, .inl (cI mr)))] := ⟨hP, hD⟩
    have hP := hPD.1
    have hD := hPD.2
    clear hPD
    refine lv_if_ne (tgt := 17) hx hb dX11_image_7 (by decide) (fun c_5 => g_no (by decide) c_5) (fun _ => ?_)
    refine lv_aload_n hx hb dX11_image_10 rfl (lv_at hl 0 rfl) ?_
    refine lv_bipush (v := iI (-2)) hx hb dX11_image_11 (by decide) ?_
    refine g_calli (wr := []) (va_runV (As := [.int (iI (-2))]) (rest := []) ⟨hx, hb, hml, hown, hts⟩ (c_X11_bad l G (m0) (m_all) (m_kept) (m_isKept) (m_refused) (m_above) (m_below) (m_hand) (m_fewest) (m_whoBites) (m_leaves) (m_bestFeast) (m_tells) (m_hardOn) (m_bytes) (m_bytesLong) (m_tokenAt) (m_tokenLong) (m_token) (m_value) (m_anew) (m_values) (mr) ((-2)) (by first | assumption | omega) _) (cwV 1 hts gX11_image_X11_bad rfl rfl rfl (by decide +kernel) ⟨Nat.le_of_ble_eq_true rfl, Nat.le_of_ble_eq_true rfl⟩) (g_preV m0 [.int (iI (-2))] hP hD hK hN hS hA hZ [0, 1] rfl rfl 0 (ci := 10) rfl rfl) rfl rfl hl.1 rfl (lv_room (Nat.le_of_ble_eq_true rfl)) dX11_image_13 ⟨Nat.le_of_ble_eq_true rfl, Nat.le_of_ble_eq_true rfl⟩) hP hD hS hA [0, 1] [] rfl rfl rfl (by decide) (fun r_6 u H locs hw hP hD hS => ?_)
    obtain ⟨Nr_7, rfl, rfl⟩ := hw
    have hPD : PD G A H [(m0, .inr (10, [.ref m_all, .ref m_kept, .ref m_isKept, .ref m_refused, .long (lI m_above), .long (lI m_below), .ref m_hand, .ref m_fewest, .ref m_whoBites, .ref m_leaves, .ref m_bestFeast, .ref m_tells, .ref m_hardOn, .ref m_bytes, .int (iI m_bytesLong), .int (iI m_tokenAt), .int (iI m_tokenLong), .int (iI m_token), .int (iI m_value), .ref m_anew, .ref m_values])), (m_refused, .inl (G.2 0, 3, .inl (cI Nr_7)))] := ⟨hP, hD⟩
    have hP := hPD.1
    have hD := hPD.2
    clear hPD
    exact g_iret (v := (iI (-2))) hx hb hr hlocks hP hD hS (⟨Nr_7, rfl, rfl⟩) dX11_image_16
theorem dX11_from_10 : decode cX11_from 10 = .ok (.aload_n 0, 1) := kd_42 (by decide +kernel)
theorem dX11_from_11 : decode cX11_from 11 = .ok (.bipush (-2), 2) := kd_16 (a := 254) (by decide +kernel)
theorem gX11_from_X11_bad : GoodIn wsX11_from (wsV RX11 79 RX11 yX11_bad wsX11_bad) := gW_V (in_r8 (List.mem_of_getElem? (i := 16) rfl)) (in_r8 (List.mem_of_getElem? (i := 17) rfl)) (in_r8 (List.mem_of_getElem? (i := 18) rfl)) (in_r1 (List.mem_of_getElem? (i := 5) rfl)) (in_r8 (List.mem_of_getElem? (i := 19) rfl))
theorem dX11_from_13 : decode cX11_from 13 = .ok (.invokevirtual 79, 3) := kd_182 (a := 0) (b := 79) (by decide +kernel)
theorem dX11_from_16 : decode cX11_from 16 = .ok (.ireturn, 1) := kd_172 (by decide +kernel)
set_option maxHeartbeats 8000000 in
set_option maxRecDepth 100000 in
theorem c_X11_fromB (l : Launch) (G : gG) (m0 : Nat) (m_all : Nat) (m_kept : Nat) (m_isKept : Nat) (m_refused : Nat) (m_above : Int) (m_below : Int) (m_hand : Nat) (m_fewest : Nat) (m_whoBites : Nat) (m_leaves : Nat) (m_bestFeast : Nat) (m_tells : Nat) (m_hardOn : Nat) (m_bytes : Nat) (m_bytesLong : Int) (m_tokenAt : Int) (m_tokenLong : Int) (m_token : Int) (m_value : Int) (m_anew : Nat) (m_values : Nat) (mr : Nat → Int) (a1 : Int) (ra1 : -2147483648 ≤ a1 ∧ a1 ≤ 2147483647) (hbad : ¬ (0 ≤ a1 ∧ a1 ≤ 1)) (sz : Nat) : gI G l yX11_from wsX11_from ({ frames := 1, cells := 0, slots := 0, locals := 25 } : Room) [.ref m0, .int (iI a1)] [(m0, .inr (10, [.ref m_all, .ref m_kept, .ref m_isKept, .ref m_refused, .long (lI m_above), .long (lI m_below), .ref m_hand, .ref m_fewest, .ref m_whoBites, .ref m_leaves, .ref m_bestFeast, .ref m_tells, .ref m_hardOn, .ref m_bytes, .int (iI m_bytesLong), .int (iI m_tokenAt), .int (iI m_tokenLong), .int (iI m_token), .int (iI m_value), .ref m_anew, .ref m_values])), (m_refused, .inl (G.2 0, 3, .inl (cI mr)))] sz (fun (r : Int32) (u : va_W) => (∃ Nr : Nat → Int, r = (iI (-2)) ∧ u = [(m0, .inr (10, [.ref m_all, .ref m_kept, .ref m_isKept, .ref m_refused, .long (lI m_above), .long (lI m_below), .ref m_hand, .ref m_fewest, .ref m_whoBites, .ref m_leaves, .ref m_bestFeast, .ref m_tells, .ref m_hardOn, .ref m_bytes, .int (iI m_bytesLong), .int (iI m_tokenAt), .int (iI m_tokenLong), .int (iI m_token), .int (iI m_value), .ref m_anew, .ref m_values])), (m_refused, .inl (G.2 0, 3, .inl (cI Nr)))])) := by
  refine Met.ofW (cc := cX11_from) (maxL := 3) (ret := (some .int)) (by decide) rfl ?_
  intro p e s m args below meth c s₁ B hml hv
  obtain ⟨rfl, hsz, hP, hK, hD0, hN, hZ⟩ := hv
  have hx := B.exec
  have hb := B.bytes
  have hr := B.returns
  have hts := atoms_spec (ws := wsX11_from) B.pre
  have hown : s.vm.findClass RX11 = some m.cls := findClass_of_methodNamed B.named
  have hlocks := B.notSynchronized
  subst hsz
  have hD := hD0.self (sz := s.heap.size)
  generalize hAe : va_A [(m0, .inr (10, [.ref m_all, .ref m_kept, .ref m_isKept, .ref m_refused, .long (lI m_above), .long (lI m_below), .ref m_hand, .ref m_fewest, .ref m_whoBites, .ref m_leaves, .ref m_bestFeast, .ref m_tells, .ref m_hardOn, .ref m_bytes, .int (iI m_bytesLong), .int (iI m_tokenAt), .int (iI m_tokenLong), .int (iI m_token), .int (iI m_value), .ref m_anew, .ref m_values])), (m_refused, .inl (G.2 0, 3, .inl (cI mr)))] s.heap.size = A at hD hZ ⊢
  have hA : ∀ q : Nat, s.heap.size ≤ q → A q := fun q h => by rw [← hAe]; exact Or.inr h
  have hS : va_S A s.heap s.heap [] := va_S.rf
  have hP : va_P G.1 vwCl [(m0, .inr (10, [.ref m_all, .ref m_kept, .ref m_isKept, .ref m_refused, .long (lI m_above), .long (lI m_below), .ref m_hand, .ref m_fewest, .ref m_whoBites, .ref m_leaves, .ref m_bestFeast, .ref m_tells, .ref m_hardOn, .ref m_bytes, .int (iI m_bytesLong), .int (iI m_tokenAt), .int (iI m_tokenLong), .int (iI m_token), .int (iI m_value), .ref m_anew, .ref m_values])), (m_refused, .inl (G.2 0, 3, .inl (cI mr)))] s.heap := hP
  have hl := lv_entry ([.ref m0, .int (iI a1)]) (n := 3) (Nat.le_of_ble_eq_true rfl)
  rw [lg_entry_eq]
  generalize (lg_sl ([.ref m0, .int (iI a1)]) ++ List.replicate (3 - (lg_sl ([.ref m0, .int (iI a1)])).length) Slot.unset).toArray = ls at hl ⊢
  have hl : lv_has ls 3 [(0, .ref m0), (1, .int (iI a1))] := hl
  refine lv_iload_n hx hb dX11_from_0 rfl (lv_at hl 1 rfl) ?_
  refine lv_i2l (v := lI a1) hx hb dX11_from_1 (i2l_iI (by omega)) ?_
  refine lv_lconst (v := lI 0) hx hb dX11_from_2 (by decide) ?_
  refine lv_lconst (v := lI 1) hx hb dX11_from_3 (by decide) ?_
  refine g_calli (wr := [(m0, .inr (10, [.ref m_all, .ref m_kept, .ref m_isKept, .ref m_refused, .long (lI m_above), .long (lI m_below), .ref m_hand, .ref m_fewest, .ref m_whoBites, .ref m_leaves, .ref m_bestFeast, .ref m_tells, .ref m_hardOn, .ref m_bytes, .int (iI m_bytesLong), .int (iI m_tokenAt), .int (iI m_tokenLong), .int (iI m_token), .int (iI m_value), .ref m_anew, .ref m_values])), (m_refused, .inl (G.2 0, 3, .inl (cI mr)))]) (va_runS (As := [.long (lI a1), .long (lI 0), .long (lI 1)]) (rest := []) ⟨hx, hb, hml, hown, hts⟩ (c_X11_in l G (a1) (0) (1) (by first | assumption | omega) (by first | assumption | omega) (by first | assumption | omega) _) (va_cwS 3 hts gX11_from_X11_in rfl rfl rfl (by decide +kernel) ⟨Nat.le_of_ble_eq_true rfl, Nat.le_of_ble_eq_true rfl⟩) (g_preS [.long (lI a1), .long (lI 0), .long (lI 1)] hP hD hK hN hS hA hZ [] rfl rfl) rfl rfl hl.1 rfl (lv_room (Nat.le_of_ble_eq_true rfl)) dX11_from_4 ⟨Nat.le_of_ble_eq_true rfl, Nat.le_of_ble_eq_true rfl⟩) hP hD hS hA [] [0, 1] rfl rfl rfl (by decide) (fun r_1 u H locs hw hP hD hS => ?_)
  rcases hw with hw | hw
  · refine ea_0_4 hw (fun k_2 k_3 e8_0 e8_1 => ?_)
    subst e8_0
    subst e8_1
    clear hw
    exact absurd (show 0 ≤ a1 ∧ a1 ≤ 1 by omega) hbad
  · refine ea_0_3 hw (fun k_4 e8_0 e8_1 => ?_)
    subst e8_0
    subst e8_1
    clear hw
    have hPD : PD G A H [(m0, .inr (10, [.ref m_all, .ref m_kept, .ref m_isKept, .ref m_refused, .long (lI m_above), .long (lI m_below), .ref m_hand, .ref m_fewest, .ref m_whoBites, .ref m_leaves, .ref m_bestFeast, .ref m_tells, .ref m_hardOn, .ref m_bytes, .int (iI m_bytesLong), .int (iI m_tokenAt), .int (iI m_tokenLong), .int (iI m_token), .int (iI m_value), .ref m_anew, .ref m_values])), (m_refused, .inl (G.2 0, 3, .inl (cI mr)))] := ⟨hP, hD⟩
    have hP := hPD.1
    have hD := hPD.2
    clear hPD
    refine lv_if_ne (tgt := 17) hx hb dX11_from_7 (by decide) (fun c_5 => g_no (by decide) c_5) (fun _ => ?_)
    refine lv_aload_n hx hb dX11_from_10 rfl (lv_at hl 0 rfl) ?_
    refine lv_bipush (v := iI (-2)) hx hb dX11_from_11 (by decide) ?_
    refine g_calli (wr := []) (va_runV (As := [.int (iI (-2))]) (rest := []) ⟨hx, hb, hml, hown, hts⟩ (c_X11_bad l G (m0) (m_all) (m_kept) (m_isKept) (m_refused) (m_above) (m_below) (m_hand) (m_fewest) (m_whoBites) (m_leaves) (m_bestFeast) (m_tells) (m_hardOn) (m_bytes) (m_bytesLong) (m_tokenAt) (m_tokenLong) (m_token) (m_value) (m_anew) (m_values) (mr) ((-2)) (by first | assumption | omega) _) (cwV 1 hts gX11_from_X11_bad rfl rfl rfl (by decide +kernel) ⟨Nat.le_of_ble_eq_true rfl, Nat.le_of_ble_eq_true rfl⟩) (g_preV m0 [.int (iI (-2))] hP hD hK hN hS hA hZ [0, 1] rfl rfl 0 (ci := 10) rfl rfl) rfl rfl hl.1 rfl (lv_room (Nat.le_of_ble_eq_true rfl)) dX11_from_13 ⟨Nat.le_of_ble_eq_true rfl, Nat.le_of_ble_eq_true rfl⟩) hP hD hS hA [0, 1] [] rfl rfl rfl (by decide) (fun r_6 u H locs hw hP hD hS => ?_)
    obtain ⟨Nr_7, rfl, rfl⟩ := hw
    have hPD : PD G A H [(m0, .inr (10, [.ref m_all, .ref m_kept, .ref m_isKept, .ref m_refused, .long (lI m_above), .long (lI m_below), .ref m_hand, .ref m_fewest, .ref m_whoBites, .ref m_leaves, .ref m_bestFeast, .ref m_tells, .ref m_hardOn, .ref m_bytes, .int (iI m_bytesLong), .int (iI m_tokenAt), .int (iI m_tokenLong), .int (iI m_token), .int (iI m_value), .ref m_anew, .ref m_values])), (m_refused, .inl (G.2 0, 3, .inl (cI Nr_7)))] := ⟨hP, hD⟩
    have hP := hPD.1
    have hD := hPD.2
    clear hPD
    exact g_iret (v := (iI (-2))) hx hb hr hlocks hP hD hS (⟨Nr_7, rfl, rfl⟩) dX11_from_16
