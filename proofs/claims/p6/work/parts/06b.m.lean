theorem dX11_layFew_0 : decode cX11_layFew 0 = .ok (.aload_n 0, 1) := kd_42 (by decide +kernel)
theorem gX11_layFew_X11_layHand : GoodIn wsX11_layFew (wsV RX11 162 RX11 yX11_layHand wsX11_layHand) := gW_V (in_r28 (List.mem_of_getElem? (i := 4) rfl)) (in_r28 (List.mem_of_getElem? (i := 5) rfl)) (in_r28 (List.mem_of_getElem? (i := 6) rfl)) (in_r1 (List.mem_of_getElem? (i := 5) rfl)) (in_r28 (List.mem_of_getElem? (i := 7) rfl))
theorem dX11_layFew_1 : decode cX11_layFew 1 = .ok (.invokevirtual 162, 3) := kd_182 (a := 0) (b := 162) (by decide +kernel)
theorem dX11_layFew_4 : decode cX11_layFew 4 = .ok (.aload_n 0, 1) := kd_42 (by decide +kernel)
theorem dX11_layFew_5 : decode cX11_layFew 5 = .ok (.getfield 30, 3) := kd_180 (a := 0) (b := 30) (by decide +kernel)
theorem dX11_layFew_8 : decode cX11_layFew 8 = .ok (.iconst 0, 1) := kd_3 (by decide +kernel)
theorem dX11_layFew_9 : decode cX11_layFew 9 = .ok (.iconst 0, 1) := kd_3 (by decide +kernel)
theorem dX11_layFew_10 : decode cX11_layFew 10 = .ok (.iastore, 1) := kd_79 (by decide +kernel)
theorem dX11_layFew_11 : decode cX11_layFew 11 = .ok (.iconst 1, 1) := kd_4 (by decide +kernel)
theorem dX11_layFew_12 : decode cX11_layFew 12 = .ok (.istore_n 2, 1) := kd_61 (by decide +kernel)
theorem dX11_layFew_13 : decode cX11_layFew 13 = .ok (.iload_n 2, 1) := kd_28 (by decide +kernel)
theorem dX11_layFew_14 : decode cX11_layFew 14 = .ok (.bipush 30, 2) := kd_16 (a := 30) (by decide +kernel)
theorem dX11_layFew_16 : decode cX11_layFew 16 = .ok (.if_icmp .gt 115, 3) := kd_163 (a := 0) (b := 115) (by decide +kernel)
theorem dX11_layFew_131 : decode cX11_layFew 131 = .ok (.return_, 1) := kd_177 (by decide +kernel)
theorem dX11_layFew_19 : decode cX11_layFew 19 = .ok (.aload_n 0, 1) := kd_42 (by decide +kernel)
theorem dX11_layFew_20 : decode cX11_layFew 20 = .ok (.getfield 30, 3) := kd_180 (a := 0) (b := 30) (by decide +kernel)
theorem dX11_layFew_23 : decode cX11_layFew 23 = .ok (.iload_n 2, 1) := kd_28 (by decide +kernel)
theorem dX11_layFew_24 : decode cX11_layFew 24 = .ok (.ldc 168, 2) := kd_18 (a := 168) (by decide +kernel)
theorem dX11_layFew_26 : decode cX11_layFew 26 = .ok (.iastore, 1) := kd_79 (by decide +kernel)
theorem dX11_layFew_27 : decode cX11_layFew 27 = .ok (.aload_n 0, 1) := kd_42 (by decide +kernel)
theorem dX11_layFew_28 : decode cX11_layFew 28 = .ok (.getfield 27, 3) := kd_180 (a := 0) (b := 27) (by decide +kernel)
theorem dX11_layFew_31 : decode cX11_layFew 31 = .ok (.bipush 6, 2) := kd_16 (a := 6) (by decide +kernel)
theorem dX11_layFew_33 : decode cX11_layFew 33 = .ok (.iload_n 1, 1) := kd_27 (by decide +kernel)
theorem dX11_layFew_34 : decode cX11_layFew 34 = .ok (.iadd, 1) := kd_96 (by decide +kernel)
theorem dX11_layFew_35 : decode cX11_layFew 35 = .ok (.iload_n 2, 1) := kd_28 (by decide +kernel)
theorem dX11_layFew_36 : decode cX11_layFew 36 = .ok (.iastore, 1) := kd_79 (by decide +kernel)
theorem dX11_layFew_37 : decode cX11_layFew 37 = .ok (.iconst 0, 1) := kd_3 (by decide +kernel)
theorem dX11_layFew_38 : decode cX11_layFew 38 = .ok (.istore_n 3, 1) := kd_62 (by decide +kernel)
theorem dX11_layFew_39 : decode cX11_layFew 39 = .ok (.iload_n 3, 1) := kd_29 (by decide +kernel)
theorem dX11_layFew_40 : decode cX11_layFew 40 = .ok (.aload_n 0, 1) := kd_42 (by decide +kernel)
theorem dX11_layFew_41 : decode cX11_layFew 41 = .ok (.getfield 7, 3) := kd_180 (a := 0) (b := 7) (by decide +kernel)
theorem dX11_layFew_44 : decode cX11_layFew 44 = .ok (.iconst 1, 1) := kd_4 (by decide +kernel)
theorem dX11_layFew_45 : decode cX11_layFew 45 = .ok (.iaload, 1) := kd_46 (by decide +kernel)
theorem dX11_layFew_46 : decode cX11_layFew 46 = .ok (.if_icmp .ge 79, 3) := kd_162 (a := 0) (b := 79) (by decide +kernel)
theorem dX11_layFew_125 : decode cX11_layFew 125 = .ok (.iinc 2 1, 3) := kd_132 (a := 2) (b := 1) (by decide +kernel)
theorem dX11_layFew_128 : decode cX11_layFew 128 = .ok (.goto (-115), 3) := kd_167 (a := 255) (b := 141) (by decide +kernel)
theorem dX11_layFew_49 : decode cX11_layFew 49 = .ok (.aload_n 0, 1) := kd_42 (by decide +kernel)
theorem dX11_layFew_50 : decode cX11_layFew 50 = .ok (.getfield 27, 3) := kd_180 (a := 0) (b := 27) (by decide +kernel)
theorem dX11_layFew_53 : decode cX11_layFew 53 = .ok (.iload_n 3, 1) := kd_29 (by decide +kernel)
theorem dX11_layFew_54 : decode cX11_layFew 54 = .ok (.iload_n 1, 1) := kd_27 (by decide +kernel)
theorem gX11_layFew_X11_takesOff : GoodIn wsX11_layFew (va_wsS RX11 124 yX11_takesOff wsX11_takesOff) := gW_S (in_r21 (List.mem_of_getElem? (i := 20) rfl)) (in_r21 (List.mem_of_getElem? (i := 21) rfl)) (in_r1 (List.mem_of_getElem? (i := 5) rfl)) (in_r21 (List.mem_of_getElem? (i := 22) rfl))
theorem dX11_layFew_55 : decode cX11_layFew 55 = .ok (.invokestatic 124, 3) := kd_184 (a := 0) (b := 124) (by decide +kernel)
theorem dX11_layFew_58 : decode cX11_layFew 58 = .ok (.istore 4, 2) := kd_54 (a := 4) (by decide +kernel)
theorem dX11_layFew_60 : decode cX11_layFew 60 = .ok (.iload 4, 2) := kd_21 (a := 4) (by decide +kernel)
theorem dX11_layFew_62 : decode cX11_layFew 62 = .ok (.ifCond .ne 8, 3) := kd_154 (a := 0) (b := 8) (by decide +kernel)
theorem dX11_layFew_70 : decode cX11_layFew 70 = .ok (.iconst 1, 1) := kd_4 (by decide +kernel)
theorem dX11_layFew_71 : decode cX11_layFew 71 = .ok (.aload_n 0, 1) := kd_42 (by decide +kernel)
theorem dX11_layFew_72 : decode cX11_layFew 72 = .ok (.getfield 30, 3) := kd_180 (a := 0) (b := 30) (by decide +kernel)
theorem dX11_layFew_75 : decode cX11_layFew 75 = .ok (.iload_n 2, 1) := kd_28 (by decide +kernel)
theorem dX11_layFew_76 : decode cX11_layFew 76 = .ok (.iload 4, 2) := kd_21 (a := 4) (by decide +kernel)
theorem dX11_layFew_78 : decode cX11_layFew 78 = .ok (.isub, 1) := kd_100 (by decide +kernel)
theorem dX11_layFew_79 : decode cX11_layFew 79 = .ok (.iaload, 1) := kd_46 (by decide +kernel)
theorem dX11_layFew_80 : decode cX11_layFew 80 = .ok (.iadd, 1) := kd_96 (by decide +kernel)
theorem dX11_layFew_65 : decode cX11_layFew 65 = .ok (.ldc 168, 2) := kd_18 (a := 168) (by decide +kernel)
theorem dX11_layFew_67 : decode cX11_layFew 67 = .ok (.goto 14, 3) := kd_167 (a := 0) (b := 14) (by decide +kernel)
theorem dX11_layFew_81 : decode cX11_layFew 81 = .ok (.istore 5, 2) := kd_54 (a := 5) (by decide +kernel)
theorem dX11_layFew_83 : decode cX11_layFew 83 = .ok (.iload 5, 2) := kd_21 (a := 5) (by decide +kernel)
theorem dX11_layFew_85 : decode cX11_layFew 85 = .ok (.aload_n 0, 1) := kd_42 (by decide +kernel)
theorem dX11_layFew_86 : decode cX11_layFew 86 = .ok (.getfield 30, 3) := kd_180 (a := 0) (b := 30) (by decide +kernel)
theorem dX11_layFew_89 : decode cX11_layFew 89 = .ok (.iload_n 2, 1) := kd_28 (by decide +kernel)
theorem dX11_layFew_90 : decode cX11_layFew 90 = .ok (.iaload, 1) := kd_46 (by decide +kernel)
theorem dX11_layFew_91 : decode cX11_layFew 91 = .ok (.if_icmp .ge 28, 3) := kd_162 (a := 0) (b := 28) (by decide +kernel)
theorem dX11_layFew_119 : decode cX11_layFew 119 = .ok (.iinc 3 1, 3) := kd_132 (a := 3) (b := 1) (by decide +kernel)
theorem dX11_layFew_122 : decode cX11_layFew 122 = .ok (.goto (-83), 3) := kd_167 (a := 255) (b := 173) (by decide +kernel)
theorem dX11_layFew_94 : decode cX11_layFew 94 = .ok (.aload_n 0, 1) := kd_42 (by decide +kernel)
theorem dX11_layFew_95 : decode cX11_layFew 95 = .ok (.getfield 30, 3) := kd_180 (a := 0) (b := 30) (by decide +kernel)
theorem dX11_layFew_98 : decode cX11_layFew 98 = .ok (.iload_n 2, 1) := kd_28 (by decide +kernel)
theorem dX11_layFew_99 : decode cX11_layFew 99 = .ok (.iload 5, 2) := kd_21 (a := 5) (by decide +kernel)
theorem dX11_layFew_101 : decode cX11_layFew 101 = .ok (.iastore, 1) := kd_79 (by decide +kernel)
theorem dX11_layFew_102 : decode cX11_layFew 102 = .ok (.aload_n 0, 1) := kd_42 (by decide +kernel)
theorem dX11_layFew_103 : decode cX11_layFew 103 = .ok (.getfield 33, 3) := kd_180 (a := 0) (b := 33) (by decide +kernel)
theorem dX11_layFew_106 : decode cX11_layFew 106 = .ok (.iload_n 2, 1) := kd_28 (by decide +kernel)
theorem dX11_layFew_107 : decode cX11_layFew 107 = .ok (.iload_n 3, 1) := kd_29 (by decide +kernel)
theorem dX11_layFew_108 : decode cX11_layFew 108 = .ok (.iastore, 1) := kd_79 (by decide +kernel)
theorem dX11_layFew_109 : decode cX11_layFew 109 = .ok (.aload_n 0, 1) := kd_42 (by decide +kernel)
theorem dX11_layFew_110 : decode cX11_layFew 110 = .ok (.getfield 36, 3) := kd_180 (a := 0) (b := 36) (by decide +kernel)
theorem dX11_layFew_113 : decode cX11_layFew 113 = .ok (.iload_n 2, 1) := kd_28 (by decide +kernel)
theorem dX11_layFew_114 : decode cX11_layFew 114 = .ok (.iload_n 2, 1) := kd_28 (by decide +kernel)
theorem dX11_layFew_115 : decode cX11_layFew 115 = .ok (.iload 4, 2) := kd_21 (a := 4) (by decide +kernel)
theorem dX11_layFew_117 : decode cX11_layFew 117 = .ok (.isub, 1) := kd_100 (by decide +kernel)
theorem dX11_layFew_118 : decode cX11_layFew 118 = .ok (.iastore, 1) := kd_79 (by decide +kernel)
set_option maxHeartbeats 8000000 in
set_option maxRecDepth 100000 in
theorem c_X11_layFew (l : Launch) (G : gG) (m0 : Nat) (m_all : Nat) (m_kept : Nat) (m_isKept : Nat) (m_refused : Nat) (m_above : Int) (m_below : Int) (m_hand : Nat) (m_fewest : Nat) (m_whoBites : Nat) (m_leaves : Nat) (m_bestFeast : Nat) (m_tells : Nat) (m_hardOn : Nat) (m_bytes : Nat) (m_bytesLong : Int) (m_tokenAt : Int) (m_tokenLong : Int) (m_token : Int) (m_value : Int) (m_anew : Nat) (m_values : Nat) (mF : Nat → Int) (K0 : Int) (mh : Nat → Int) (mf : Nat → Int) (mw : Nat → Int) (ml : Nat → Int) (p0 : Int) (y0_ : bp (plA K0) mF) (y1_ : bd 0 1000000 mf) (y2_ : bd 0 30 ml) (rp0 : -2147483648 ≤ p0 ∧ p0 ≤ 2147483647) (hp : 0 ≤ p0 ∧ p0 ≤ 6) (hK0 : 1000 ≤ K0 ∧ K0 ≤ 2000000) (sz : Nat) : gV G l yX11_layFew wsX11_layFew ({ frames := 3, cells := 0, slots := 0, locals := 71 } : Room) [.ref m0, .int (iI p0)] [(m0, .inr (10, [.ref m_all, .ref m_kept, .ref m_isKept, .ref m_refused, .long (lI m_above), .long (lI m_below), .ref m_hand, .ref m_fewest, .ref m_whoBites, .ref m_leaves, .ref m_bestFeast, .ref m_tells, .ref m_hardOn, .ref m_bytes, .int (iI m_bytesLong), .int (iI m_tokenAt), .int (iI m_tokenLong), .int (iI m_token), .int (iI m_value), .ref m_anew, .ref m_values])), (m_all, .inl (G.2 0, 311, .inl (cI mF))), (m_hand, .inl (G.2 0, 56, .inl (cI mh))), (m_fewest, .inl (G.2 0, 31, .inl (cI mf))), (m_whoBites, .inl (G.2 0, 31, .inl (cI mw))), (m_leaves, .inl (G.2 0, 31, .inl (cI ml)))] sz (fun (u : va_W) => (∃ N_h : Nat → Int, ∃ N_f : Nat → Int, ∃ N_w : Nat → Int, ∃ N_l : Nat → Int, (bd 0 1000000 N_f) ∧ (bd 0 30 N_l) ∧ u = [(m0, .inr (10, [.ref m_all, .ref m_kept, .ref m_isKept, .ref m_refused, .long (lI m_above), .long (lI m_below), .ref m_hand, .ref m_fewest, .ref m_whoBites, .ref m_leaves, .ref m_bestFeast, .ref m_tells, .ref m_hardOn, .ref m_bytes, .int (iI m_bytesLong), .int (iI m_tokenAt), .int (iI m_tokenLong), .int (iI m_token), .int (iI m_value), .ref m_anew, .ref m_values])), (m_all, .inl (G.2 0, 311, .inl (cI mF))), (m_hand, .inl (G.2 0, 56, .inl (cI N_h))), (m_fewest, .inl (G.2 0, 31, .inl (cI N_f))), (m_whoBites, .inl (G.2 0, 31, .inl (cI N_w))), (m_leaves, .inl (G.2 0, 31, .inl (cI N_l)))])) := by
  refine Met.ofW (cc := cX11_layFew) (maxL := 6) (ret := none) (by decide) rfl ?_
  intro p e s m args below meth c s₁ B hml hv
  obtain ⟨rfl, hsz, hP, hK, hD0, hN, hZ⟩ := hv
  have hx := B.exec
  have hb := B.bytes
  have hr := B.returns
  have hts := atoms_spec (ws := wsX11_layFew) B.pre
  have hown : s.vm.findClass RX11 = some m.cls := findClass_of_methodNamed B.named
  have hlocks := B.notSynchronized
  subst hsz
  have hD := hD0.self (sz := s.heap.size)
  generalize hAe : va_A [(m0, .inr (10, [.ref m_all, .ref m_kept, .ref m_isKept, .ref m_refused, .long (lI m_above), .long (lI m_below), .ref m_hand, .ref m_fewest, .ref m_whoBites, .ref m_leaves, .ref m_bestFeast, .ref m_tells, .ref m_hardOn, .ref m_bytes, .int (iI m_bytesLong), .int (iI m_tokenAt), .int (iI m_tokenLong), .int (iI m_token), .int (iI m_value), .ref m_anew, .ref m_values])), (m_all, .inl (G.2 0, 311, .inl (cI mF))), (m_hand, .inl (G.2 0, 56, .inl (cI mh))), (m_fewest, .inl (G.2 0, 31, .inl (cI mf))), (m_whoBites, .inl (G.2 0, 31, .inl (cI mw))), (m_leaves, .inl (G.2 0, 31, .inl (cI ml)))] s.heap.size = A at hD hZ ⊢
  have hA : ∀ q : Nat, s.heap.size ≤ q → A q := fun q h => by rw [← hAe]; exact Or.inr h
  have hS : va_S A s.heap s.heap [] := va_S.rf
  have hP : va_P G.1 vwCl [(m0, .inr (10, [.ref m_all, .ref m_kept, .ref m_isKept, .ref m_refused, .long (lI m_above), .long (lI m_below), .ref m_hand, .ref m_fewest, .ref m_whoBites, .ref m_leaves, .ref m_bestFeast, .ref m_tells, .ref m_hardOn, .ref m_bytes, .int (iI m_bytesLong), .int (iI m_tokenAt), .int (iI m_tokenLong), .int (iI m_token), .int (iI m_value), .ref m_anew, .ref m_values])), (m_all, .inl (G.2 0, 311, .inl (cI mF))), (m_hand, .inl (G.2 0, 56, .inl (cI mh))), (m_fewest, .inl (G.2 0, 31, .inl (cI mf))), (m_whoBites, .inl (G.2 0, 31, .inl (cI mw))), (m_leaves, .inl (G.2 0, 31, .inl (cI ml)))] s.heap := hP
  have hl := lv_entry ([.ref m0, .int (iI p0)]) (n := 6) (Nat.le_of_ble_eq_true rfl)
  rw [lg_entry_eq]
  generalize (lg_sl ([.ref m0, .int (iI p0)]) ++ List.replicate (6 - (lg_sl ([.ref m0, .int (iI p0)])).length) Slot.unset).toArray = ls at hl ⊢
  have hl : lv_has ls 6 [(0, .ref m0), (1, .int (iI p0))] := hl
  refine lv_aload_n hx hb dX11_layFew_0 rfl (lv_at hl 0 rfl) ?_
  refine g_callv (wr := [(m_fewest, .inl (G.2 0, 31, .inl (cI mf))), (m_whoBites, .inl (G.2 0, 31, .inl (cI mw))), (m_leaves, .inl (G.2 0, 31, .inl (cI ml)))]) (va_runV (As := []) (rest := []) ⟨hx, hb, hml, hown, hts⟩ (c_X11_layHand l G (m0) (m_all) (m_kept) (m_isKept) (m_refused) (m_above) (m_below) (m_hand) (m_fewest) (m_whoBites) (m_leaves) (m_bestFeast) (m_tells) (m_hardOn) (m_bytes) (m_bytesLong) (m_tokenAt) (m_tokenLong) (m_token) (m_value) (m_anew) (m_values) (mF) (K0) (mh) (by first | exact y0_ | exact bpA_mono y0_ (by omega) | assumption) (by first | exact hK0 | assumption | omega) _) (cwV 0 hts gX11_layFew_X11_layHand rfl rfl rfl (by decide +kernel) ⟨Nat.le_of_ble_eq_true rfl, Nat.le_of_ble_eq_true rfl⟩) (g_preV m0 [] hP hD hK hN hS hA hZ [0, 1, 2] rfl rfl 0 (ci := 10) rfl rfl) rfl rfl hl.1 rfl (lv_room (Nat.le_of_ble_eq_true rfl)) dX11_layFew_1 ⟨Nat.le_of_ble_eq_true rfl, Nat.le_of_ble_eq_true rfl⟩) hP hD hS hA [0, 1, 2] [3, 4, 5] rfl rfl rfl (by decide) (fun u H locs hw hP hD hS => ?_)
  subst hw
  have hPD : PD G A H [(m_fewest, .inl (G.2 0, 31, .inl (cI mf))), (m_whoBites, .inl (G.2 0, 31, .inl (cI mw))), (m_leaves, .inl (G.2 0, 31, .inl (cI ml))), (m0, .inr (10, [.ref m_all, .ref m_kept, .ref m_isKept, .ref m_refused, .long (lI m_above), .long (lI m_below), .ref m_hand, .ref m_fewest, .ref m_whoBites, .ref m_leaves, .ref m_bestFeast, .ref m_tells, .ref m_hardOn, .ref m_bytes, .int (iI m_bytesLong), .int (iI m_tokenAt), .int (iI m_tokenLong), .int (iI m_token), .int (iI m_value), .ref m_anew, .ref m_values])), (m_all, .inl (G.2 0, 311, .inl (cI mF))), (m_hand, .inl (G.2 0, 56, .inl (cI mF)))] := ⟨hP, hD⟩
  have hP := hPD.1
  have hD := hPD.2
  clear hPD
  refine lv_aload_n hx hb dX11_layFew_4 rfl (lv_at hl 0 rfl) ?_
  refine va_get (D := G.1) (ci := 10) (v := .ref m_fewest) (C := RX11) (T := TX11) (N := 21) hx hb hts (fun _ h => List.mem_cons_of_mem _ (inlX11 _ h)) hown hK hP 3 rfl rfl 7 (by decide) (hts _ (List.mem_cons_of_mem _ (in_r6 (List.mem_of_getElem? (i := 6) rfl)))) (fun _ h9 => h9) rfl dX11_layFew_5 ?_
  refine lv_iconst (v := iI 0) hx hb dX11_layFew_8 rfl ?_
  refine lv_iconst (v := iI 0) hx hb dX11_layFew_9 rfl ?_
  refine g_ist hx hb hK hP hD hS 0 rfl (by omega) (by omega) (by first | exact Nat.le_of_ble_eq_true rfl | omega) dX11_layFew_10 (fun H locs hP hD hS => ?_)
  have hb_2 := bd_u (k := 0) (v := 0) y1_ (by omega) (by omega)
  have hPD : PD G A H [(m_fewest, .inl (G.2 0, 31, .inl (cI (uI mf 0 0)))), (m_whoBites, .inl (G.2 0, 31, .inl (cI mw))), (m_leaves, .inl (G.2 0, 31, .inl (cI ml))), (m0, .inr (10, [.ref m_all, .ref m_kept, .ref m_isKept, .ref m_refused, .long (lI m_above), .long (lI m_below), .ref m_hand, .ref m_fewest, .ref m_whoBites, .ref m_leaves, .ref m_bestFeast, .ref m_tells, .ref m_hardOn, .ref m_bytes, .int (iI m_bytesLong), .int (iI m_tokenAt), .int (iI m_tokenLong), .int (iI m_token), .int (iI m_value), .ref m_anew, .ref m_values])), (m_all, .inl (G.2 0, 311, .inl (cI mF))), (m_hand, .inl (G.2 0, 56, .inl (cI mF)))] := ⟨hP, hD⟩
  have hP := hPD.1
  have hD := hPD.2
  clear hPD
  generalize hF_1 : (uI mf 0 0) = F_1 at hP hD hb_2
  refine lv_iconst (v := iI 1) hx hb dX11_layFew_11 rfl ?_
  refine lv_istore_n (lv' := [(2, .int (iI 1)), (0, .ref m0), (1, .int (iI p0))]) hx hb dX11_layFew_12 rfl hl (by decide) rfl (fun ls hl => ?_)
  refine g_loopN (pc := 13) (fun nn H locs ls => ∃ t0__3 : Int, ∃ Eh_4 : Nat → Int, ∃ Ef_5 : Nat → Int, ∃ Ew_6 : Nat → Int, ∃ El_7 : Nat → Int, (1 ≤ t0__3 ∧ t0__3 ≤ 31) ∧ (bp (plA K0) Eh_4) ∧ (bd 0 1000000 Ef_5) ∧ (bd 0 30 El_7) ∧ (31 - t0__3).toNat = nn ∧ va_P G.1 vwCl [(m_fewest, .inl (G.2 0, 31, .inl (cI Ef_5))), (m_whoBites, .inl (G.2 0, 31, .inl (cI Ew_6))), (m_leaves, .inl (G.2 0, 31, .inl (cI El_7))), (m0, .inr (10, [.ref m_all, .ref m_kept, .ref m_isKept, .ref m_refused, .long (lI m_above), .long (lI m_below), .ref m_hand, .ref m_fewest, .ref m_whoBites, .ref m_leaves, .ref m_bestFeast, .ref m_tells, .ref m_hardOn, .ref m_bytes, .int (iI m_bytesLong), .int (iI m_tokenAt), .int (iI m_tokenLong), .int (iI m_token), .int (iI m_value), .ref m_anew, .ref m_values])), (m_all, .inl (G.2 0, 311, .inl (cI mF))), (m_hand, .inl (G.2 0, 56, .inl (cI Eh_4)))] H ∧ va_D A [(m_fewest, .inl (G.2 0, 31, .inl (cI Ef_5))), (m_whoBites, .inl (G.2 0, 31, .inl (cI Ew_6))), (m_leaves, .inl (G.2 0, 31, .inl (cI El_7))), (m0, .inr (10, [.ref m_all, .ref m_kept, .ref m_isKept, .ref m_refused, .long (lI m_above), .long (lI m_below), .ref m_hand, .ref m_fewest, .ref m_whoBites, .ref m_leaves, .ref m_bestFeast, .ref m_tells, .ref m_hardOn, .ref m_bytes, .int (iI m_bytesLong), .int (iI m_tokenAt), .int (iI m_tokenLong), .int (iI m_token), .int (iI m_value), .ref m_anew, .ref m_values])), (m_all, .inl (G.2 0, 311, .inl (cI mF))), (m_hand, .inl (G.2 0, 56, .inl (cI Eh_4)))] ∧ va_S A s.heap H locs ∧ lv_has ls 6 [(2, .int (iI t0__3)), (0, .ref m0), (1, .int (iI p0))]) ?_ ⟨1, mF, F_1, mw, ml, (by first | assumption | omega), (by first | exact y0_ | exact bpA_mono y0_ (by omega) | assumption), (by first | exact hb_2 | exact bd_mono hb_2 (by omega) (by omega) | assumption), (by first | exact y2_ | exact bd_mono y2_ (by omega) (by omega) | assumption), rfl, hP, hD, hS, lv_sub hl [0, 1, 2] rfl⟩
  intro nn_13 H locs ls ih_12 hI
  refine ea_5_9 hI (fun t0__3 Eh_4 Ef_5 Ew_6 El_7 f_8 f_9 f_10 f_11 hnn_14 hP hD hS hl => ?_)
  clear hI
  refine lv_iload_n hx hb dX11_layFew_13 rfl (lv_at hl 0 rfl) ?_
  refine lv_bipush (v := iI 30) hx hb dX11_layFew_14 (by decide) ?_
  refine lv_icmp_gt (tgt := 131) hx hb dX11_layFew_16 (by decide) (fun c_15 => ?_) (fun c_15 => ?_)
  · have c_15 := (iI_lt (a := 30) (b := t0__3) (by first | decide | omega) (by omega)).mp c_15
    have hP := hP.sub (ws' := [(m0, .inr (10, [.ref m_all, .ref m_kept, .ref m_isKept, .ref m_refused, .long (lI m_above), .long (lI m_below), .ref m_hand, .ref m_fewest, .ref m_whoBites, .ref m_leaves, .ref m_bestFeast, .ref m_tells, .ref m_hardOn, .ref m_bytes, .int (iI m_bytesLong), .int (iI m_tokenAt), .int (iI m_tokenLong), .int (iI m_token), .int (iI m_value), .ref m_anew, .ref m_values])), (m_all, .inl (G.2 0, 311, .inl (cI mF))), (m_hand, .inl (G.2 0, 56, .inl (cI Eh_4))), (m_fewest, .inl (G.2 0, 31, .inl (cI Ef_5))), (m_whoBites, .inl (G.2 0, 31, .inl (cI Ew_6))), (m_leaves, .inl (G.2 0, 31, .inl (cI El_7)))]) [3, 4, 5, 0, 1, 2] rfl
    have hD := hD.sub (ws' := [(m0, .inr (10, [.ref m_all, .ref m_kept, .ref m_isKept, .ref m_refused, .long (lI m_above), .long (lI m_below), .ref m_hand, .ref m_fewest, .ref m_whoBites, .ref m_leaves, .ref m_bestFeast, .ref m_tells, .ref m_hardOn, .ref m_bytes, .int (iI m_bytesLong), .int (iI m_tokenAt), .int (iI m_tokenLong), .int (iI m_token), .int (iI m_value), .ref m_anew, .ref m_values])), (m_all, .inl (G.2 0, 311, .inl (cI mF))), (m_hand, .inl (G.2 0, 56, .inl (cI Eh_4))), (m_fewest, .inl (G.2 0, 31, .inl (cI Ef_5))), (m_whoBites, .inl (G.2 0, 31, .inl (cI Ew_6))), (m_leaves, .inl (G.2 0, 31, .inl (cI El_7)))]) [3, 4, 5, 0, 1, 2] rfl rfl
    exact g_vret hx hb hr hlocks hP hD hS (⟨Eh_4, Ef_5, Ew_6, El_7, (by first | exact f_10 | exact bd_mono f_10 (by omega) (by omega) | assumption), (by first | exact f_11 | exact bd_mono f_11 (by omega) (by omega) | assumption), rfl⟩) dX11_layFew_131
  · have c_15 : ¬ (30 < t0__3) := fun h9 => c_15 ((iI_lt (a := 30) (b := t0__3) (by first | decide | omega) (by omega)).mpr h9)
    refine lv_aload_n hx hb dX11_layFew_19 rfl (lv_at hl 1 rfl) ?_
    refine va_get (D := G.1) (ci := 10) (v := .ref m_fewest) (C := RX11) (T := TX11) (N := 21) hx hb hts (fun _ h => List.mem_cons_of_mem _ (inlX11 _ h)) hown hK hP 3 rfl rfl 7 (by decide) (hts _ (List.mem_cons_of_mem _ (in_r6 (List.mem_of_getElem? (i := 6) rfl)))) (fun _ h9 => h9) rfl dX11_layFew_20 ?_
    refine lv_iload_n hx hb dX11_layFew_23 rfl (lv_at hl 0 rfl) ?_
    refine lv_ldc (v := 1000000) hx hb hown (hts _ (List.mem_cons_of_mem _ (in_r30 (List.mem_of_getElem? (i := 13) rfl)))) dX11_layFew_24 ?_
    refine g_topi (y := iI 1000000) (by decide) ?_
    refine g_ist hx hb hK hP hD hS 0 rfl (by omega) (by omega) (by first | exact Nat.le_of_ble_eq_true rfl | omega) dX11_layFew_26 (fun H locs hP hD hS => ?_)
    have hb_17 := bd_u (k := (t0__3.toNat)) (v := 1000000) f_10 (by omega) (by omega)
    have hPD : PD G A H [(m_fewest, .inl (G.2 0, 31, .inl (cI (uI Ef_5 (t0__3.toNat) 1000000)))), (m_whoBites, .inl (G.2 0, 31, .inl (cI Ew_6))), (m_leaves, .inl (G.2 0, 31, .inl (cI El_7))), (m0, .inr (10, [.ref m_all, .ref m_kept, .ref m_isKept, .ref m_refused, .long (lI m_above), .long (lI m_below), .ref m_hand, .ref m_fewest, .ref m_whoBites, .ref m_leaves, .ref m_bestFeast, .ref m_tells, .ref m_hardOn, .ref m_bytes, .int (iI m_bytesLong), .int (iI m_tokenAt), .int (iI m_tokenLong), .int (iI m_token), .int (iI m_value), .ref m_anew, .ref m_values])), (m_all, .inl (G.2 0, 311, .inl (cI mF))), (m_hand, .inl (G.2 0, 56, .inl (cI Eh_4)))] := ⟨hP, hD⟩
    have hP := hPD.1
    have hD := hPD.2
    clear hPD
    generalize hF_16 : (uI Ef_5 (t0__3.toNat) 1000000) = F_16 at hP hD hb_17
    refine lv_aload_n hx hb dX11_layFew_27 rfl (lv_at hl 1 rfl) ?_
    refine va_get (D := G.1) (ci := 10) (v := .ref m_hand) (C := RX11) (T := TX11) (N := 21) hx hb hts (fun _ h => List.mem_cons_of_mem _ (inlX11 _ h)) hown hK hP 3 rfl rfl 6 (by decide) (hts _ (List.mem_cons_of_mem _ (in_r6 (List.mem_of_getElem? (i := 5) rfl)))) (fun _ h9 => h9) rfl dX11_layFew_28 ?_
    refine lv_bipush (v := iI 6) hx hb dX11_layFew_31 (by decide) ?_
    refine lv_iload_n hx hb dX11_layFew_33 rfl (lv_at hl 2 rfl) ?_
    refine lv_iadd hx hb dX11_layFew_34 ?_
    refine g_topi (y := iI (6 + p0)) (iI_add 6 p0) ?_
    refine lv_iload_n hx hb dX11_layFew_35 rfl (lv_at hl 0 rfl) ?_
    refine g_ist hx hb hK hP hD hS 5 rfl (by omega) (by omega) (by first | exact Nat.le_of_ble_eq_true rfl | omega) dX11_layFew_36 (fun H locs hP hD hS => ?_)
    have hk_19 := bp_u (h := plA K0) (k := ((6 + p0).toNat)) (v := t0__3) f_9 (by omega) (Int.le_trans (show t0__3 ≤ 30 by omega) (plAl_T (by omega) (by omega)))
    have hPD : PD G A H [(m_fewest, .inl (G.2 0, 31, .inl (cI F_16))), (m_whoBites, .inl (G.2 0, 31, .inl (cI Ew_6))), (m_leaves, .inl (G.2 0, 31, .inl (cI El_7))), (m0, .inr (10, [.ref m_all, .ref m_kept, .ref m_isKept, .ref m_refused, .long (lI m_above), .long (lI m_below), .ref m_hand, .ref m_fewest, .ref m_whoBites, .ref m_leaves, .ref m_bestFeast, .ref m_tells, .ref m_hardOn, .ref m_bytes, .int (iI m_bytesLong), .int (iI m_tokenAt), .int (iI m_tokenLong), .int (iI m_token), .int (iI m_value), .ref m_anew, .ref m_values])), (m_all, .inl (G.2 0, 311, .inl (cI mF))), (m_hand, .inl (G.2 0, 56, .inl (cI (uI Eh_4 ((6 + p0).toNat) t0__3))))] := ⟨hP, hD⟩
    have hP := hPD.1
    have hD := hPD.2
    clear hPD
    generalize hF_18 : (uI Eh_4 ((6 + p0).toNat) t0__3) = F_18 at hP hD hk_19
    have uF_18 : F_18 ((6 + p0).toNat) = t0__3 := by rw [← hF_18]; exact uI_eq _ _ _
    refine lv_iconst (v := iI 0) hx hb dX11_layFew_37 rfl ?_
    refine lv_istore_n (lv' := [(3, .int (iI 0)), (2, .int (iI t0__3)), (0, .ref m0), (1, .int (iI p0))]) hx hb dX11_layFew_38 rfl hl (by decide) rfl (fun ls hl => ?_)
    refine g_loopN (pc := 39) (fun nn H locs ls => ∃ b0__20 : Int, ∃ Ef_21 : Nat → Int, ∃ Ew_22 : Nat → Int, ∃ El_23 : Nat → Int, (0 ≤ b0__20 ∧ b0__20 ≤ 4) ∧ (bd 0 1000000 Ef_21) ∧ (bd 0 30 El_23) ∧ (4 - b0__20).toNat = nn ∧ va_P G.1 vwCl [(m_fewest, .inl (G.2 0, 31, .inl (cI Ef_21))), (m_whoBites, .inl (G.2 0, 31, .inl (cI Ew_22))), (m_leaves, .inl (G.2 0, 31, .inl (cI El_23))), (m0, .inr (10, [.ref m_all, .ref m_kept, .ref m_isKept, .ref m_refused, .long (lI m_above), .long (lI m_below), .ref m_hand, .ref m_fewest, .ref m_whoBites, .ref m_leaves, .ref m_bestFeast, .ref m_tells, .ref m_hardOn, .ref m_bytes, .int (iI m_bytesLong), .int (iI m_tokenAt), .int (iI m_tokenLong), .int (iI m_token), .int (iI m_value), .ref m_anew, .ref m_values])), (m_all, .inl (G.2 0, 311, .inl (cI mF))), (m_hand, .inl (G.2 0, 56, .inl (cI F_18)))] H ∧ va_D A [(m_fewest, .inl (G.2 0, 31, .inl (cI Ef_21))), (m_whoBites, .inl (G.2 0, 31, .inl (cI Ew_22))), (m_leaves, .inl (G.2 0, 31, .inl (cI El_23))), (m0, .inr (10, [.ref m_all, .ref m_kept, .ref m_isKept, .ref m_refused, .long (lI m_above), .long (lI m_below), .ref m_hand, .ref m_fewest, .ref m_whoBites, .ref m_leaves, .ref m_bestFeast, .ref m_tells, .ref m_hardOn, .ref m_bytes, .int (iI m_bytesLong), .int (iI m_tokenAt), .int (iI m_tokenLong), .int (iI m_token), .int (iI m_value), .ref m_anew, .ref m_values])), (m_all, .inl (G.2 0, 311, .inl (cI mF))), (m_hand, .inl (G.2 0, 56, .inl (cI F_18)))] ∧ va_S A s.heap H locs ∧ lv_has ls 6 [(3, .int (iI b0__20)), (2, .int (iI t0__3)), (0, .ref m0), (1, .int (iI p0))]) ?_ ⟨0, F_16, Ew_6, El_7, (by first | assumption | omega), (by first | exact hb_17 | exact bd_mono hb_17 (by omega) (by omega) | assumption), (by first | exact f_11 | exact bd_mono f_11 (by omega) (by omega) | assumption), rfl, hP, hD, hS, lv_sub hl [0, 1, 2, 3] rfl⟩
    intro nn_28 H locs ls ih_27 hI
    refine ea_4_8 hI (fun b0__20 Ef_21 Ew_22 El_23 f_24 f_25 f_26 hnn_29 hP hD hS hl => ?_)
    clear hI
    refine lv_iload_n hx hb dX11_layFew_39 rfl (lv_at hl 0 rfl) ?_
    refine lv_aload_n hx hb dX11_layFew_40 rfl (lv_at hl 2 rfl) ?_
    refine va_get (D := G.1) (ci := 10) (v := .ref m_all) (C := RX11) (T := TX11) (N := 21) hx hb hts (fun _ h => List.mem_cons_of_mem _ (inlX11 _ h)) hown hK hP 3 rfl rfl 0 (by decide) (hts _ (List.mem_cons_of_mem _ (in_r6 (List.mem_of_getElem? (i := 0) rfl)))) (fun _ h9 => h9) rfl dX11_layFew_41 ?_
    refine lv_iconst (v := iI 1) hx hb dX11_layFew_44 rfl ?_
    refine g_ild hx hb hK hP 4 rfl (by omega) (by omega) (by first | exact Nat.le_of_ble_eq_true rfl | omega) dX11_layFew_45 (fun w_30 ew_30 => ?_)
    have ew_30 : mF 1 = w_30 := ew_30
    have bw_30 : 0 ≤ w_30 ∧ w_30 ≤ 4 := by rw [← ew_30]; exact y0_ 1
    refine lv_icmp_ge (tgt := 125) hx hb dX11_layFew_46 (by decide) (fun c_31 => ?_) (fun c_31 => ?_)
    · have c_31 := (iI_le (a := w_30) (b := b0__20) (by omega) (by omega)).mp c_31
      refine lv_iinc (v := iI (t0__3 + 1)) (lv' := [(2, .int (iI (t0__3 + 1))), (3, .int (iI b0__20)), (0, .ref m0), (1, .int (iI p0))]) hx hb dX11_layFew_125 hl (k := 1) rfl (iI_add t0__3 1) (by decide) rfl (fun ls hl => ?_)
      refine lv_goto (tgt := 13) hx hb dX11_layFew_128 (by decide) ?_
      exact ih_12 _ _ _ _ (by omega) ⟨(t0__3 + 1), F_18, Ef_21, Ew_22, El_23, (by first | assumption | omega), (by first | exact hk_19 | exact bpA_mono hk_19 (by omega) | assumption), (by first | exact f_25 | exact bd_mono f_25 (by omega) (by omega) | assumption), (by first | exact f_26 | exact bd_mono f_26 (by omega) (by omega) | assumption), rfl, hP, hD, hS, lv_sub hl [0, 2, 3] rfl⟩
    · have c_31 : ¬ (w_30 ≤ b0__20) := fun h9 => c_31 ((iI_le (a := w_30) (b := b0__20) (by omega) (by omega)).mpr h9)
      refine lv_aload_n hx hb dX11_layFew_49 rfl (lv_at hl 2 rfl) ?_
      refine va_get (D := G.1) (ci := 10) (v := .ref m_hand) (C := RX11) (T := TX11) (N := 21) hx hb hts (fun _ h => List.mem_cons_of_mem _ (inlX11 _ h)) hown hK hP 3 rfl rfl 6 (by decide) (hts _ (List.mem_cons_of_mem _ (in_r6 (List.mem_of_getElem? (i := 5) rfl)))) (fun _ h9 => h9) rfl dX11_layFew_50 ?_
      refine lv_iload_n hx hb dX11_layFew_53 rfl (lv_at hl 0 rfl) ?_
      refine lv_iload_n hx hb dX11_layFew_54 rfl (lv_at hl 3 rfl) ?_
      refine g_calli (wr := [(m_fewest, .inl (G.2 0, 31, .inl (cI Ef_21))), (m_whoBites, .inl (G.2 0, 31, .inl (cI Ew_22))), (m_leaves, .inl (G.2 0, 31, .inl (cI El_23))), (m0, .inr (10, [.ref m_all, .ref m_kept, .ref m_isKept, .ref m_refused, .long (lI m_above), .long (lI m_below), .ref m_hand, .ref m_fewest, .ref m_whoBites, .ref m_leaves, .ref m_bestFeast, .ref m_tells, .ref m_hardOn, .ref m_bytes, .int (iI m_bytesLong), .int (iI m_tokenAt), .int (iI m_tokenLong), .int (iI m_token), .int (iI m_value), .ref m_anew, .ref m_values])), (m_all, .inl (G.2 0, 311, .inl (cI mF)))]) (va_runS (As := [.ref m_hand, .int (iI b0__20), .int (iI p0)]) (rest := []) ⟨hx, hb, hml, hown, hts⟩ (c_X11_takesOff_56 l G (m_hand) (F_18) (K0) (b0__20) (p0) (by first | exact hk_19 | exact bpA_mono hk_19 (by omega) | assumption) (by first | exact hK0 | assumption | omega) (by first | exact hp | assumption | omega) (by first | assumption | omega) _) (va_cwS 3 hts gX11_layFew_X11_takesOff rfl rfl rfl (by decide +kernel) ⟨Nat.le_of_ble_eq_true rfl, Nat.le_of_ble_eq_true rfl⟩) (g_preS [.ref m_hand, .int (iI b0__20), .int (iI p0)] hP hD hK hN hS hA hZ [5] rfl rfl) rfl rfl hl.1 rfl (lv_room (Nat.le_of_ble_eq_true rfl)) dX11_layFew_55 ⟨Nat.le_of_ble_eq_true rfl, Nat.le_of_ble_eq_true rfl⟩) hP hD hS hA [5] [0, 1, 2, 3, 4] rfl rfl rfl (by decide) (fun r_32 u H locs hw hP hD hS => ?_)
      refine ea_1_4 hw (fun rr_33 k_34 k_35 e8_0 e8_1 => ?_)
      subst e8_0
      subst e8_1
      clear hw
      have hPD : PD G A H [(m_fewest, .inl (G.2 0, 31, .inl (cI Ef_21))), (m_whoBites, .inl (G.2 0, 31, .inl (cI Ew_22))), (m_leaves, .inl (G.2 0, 31, .inl (cI El_23))), (m0, .inr (10, [.ref m_all, .ref m_kept, .ref m_isKept, .ref m_refused, .long (lI m_above), .long (lI m_below), .ref m_hand, .ref m_fewest, .ref m_whoBites, .ref m_leaves, .ref m_bestFeast, .ref m_tells, .ref m_hardOn, .ref m_bytes, .int (iI m_bytesLong), .int (iI m_tokenAt), .int (iI m_tokenLong), .int (iI m_token), .int (iI m_value), .ref m_anew, .ref m_values])), (m_all, .inl (G.2 0, 311, .inl (cI mF))), (m_hand, .inl (G.2 0, 56, .inl (cI F_18)))] := ⟨hP, hD⟩
      have hP := hPD.1
      have hD := hPD.2
      clear hPD
      refine lv_istore (lv' := [(4, .int (iI rr_33)), (3, .int (iI b0__20)), (2, .int (iI t0__3)), (0, .ref m0), (1, .int (iI p0))]) hx hb dX11_layFew_58 hl (by decide) rfl (fun ls hl => ?_)
      refine lv_iload hx hb dX11_layFew_60 (lv_at hl 0 rfl) ?_
      refine g_join (jn := 81) (rest := []) (fun t_36 ls => (0 ≤ t_36 ∧ t_36 ≤ 1000001) ∧ lv_has ls 6 [(4, .int (iI rr_33)), (3, .int (iI b0__20)), (2, .int (iI t0__3)), (0, .ref m0), (1, .int (iI p0))]) (fun t_36 ls hI => ?_) (fun hJ_37 => ?_)
      · obtain ⟨f_38, hl⟩ := hI
        refine lv_istore (lv' := [(5, .int (iI t_36)), (4, .int (iI rr_33)), (3, .int (iI b0__20)), (2, .int (iI t0__3)), (0, .ref m0), (1, .int (iI p0))]) hx hb dX11_layFew_81 hl (by decide) rfl (fun ls hl => ?_)
        refine lv_iload hx hb dX11_layFew_83 (lv_at hl 0 rfl) ?_
        refine lv_aload_n hx hb dX11_layFew_85 rfl (lv_at hl 4 rfl) ?_
        refine va_get (D := G.1) (ci := 10) (v := .ref m_fewest) (C := RX11) (T := TX11) (N := 21) hx hb hts (fun _ h => List.mem_cons_of_mem _ (inlX11 _ h)) hown hK hP 3 rfl rfl 7 (by decide) (hts _ (List.mem_cons_of_mem _ (in_r6 (List.mem_of_getElem? (i := 6) rfl)))) (fun _ h9 => h9) rfl dX11_layFew_86 ?_
        refine lv_iload_n hx hb dX11_layFew_89 rfl (lv_at hl 3 rfl) ?_
        refine g_ild hx hb hK hP 0 rfl (by omega) (by omega) (by first | exact Nat.le_of_ble_eq_true rfl | omega) dX11_layFew_90 (fun w_39 ew_39 => ?_)
        have b0w_39 : _ := f_25 (t0__3.toNat)
        rw [ew_39] at b0w_39
        refine lv_icmp_ge (tgt := 119) hx hb dX11_layFew_91 (by decide) (fun c_40 => ?_) (fun c_40 => ?_)
        · have c_40 := (iI_le (a := w_39) (b := t_36) (by omega) (by omega)).mp c_40
          refine lv_iinc (v := iI (b0__20 + 1)) (lv' := [(3, .int (iI (b0__20 + 1))), (5, .int (iI t_36)), (4, .int (iI rr_33)), (2, .int (iI t0__3)), (0, .ref m0), (1, .int (iI p0))]) hx hb dX11_layFew_119 hl (k := 2) rfl (iI_add b0__20 1) (by decide) rfl (fun ls hl => ?_)
          refine lv_goto (tgt := 39) hx hb dX11_layFew_122 (by decide) ?_
          exact ih_27 _ _ _ _ (by omega) ⟨(b0__20 + 1), Ef_21, Ew_22, El_23, (by first | assumption | omega), (by first | exact f_25 | exact bd_mono f_25 (by omega) (by omega) | assumption), (by first | exact f_26 | exact bd_mono f_26 (by omega) (by omega) | assumption), rfl, hP, hD, hS, lv_sub hl [0, 3, 4, 5] rfl⟩
        · have c_40 : ¬ (w_39 ≤ t_36) := fun h9 => c_40 ((iI_le (a := w_39) (b := t_36) (by omega) (by omega)).mpr h9)
          refine lv_aload_n hx hb dX11_layFew_94 rfl (lv_at hl 4 rfl) ?_
          refine va_get (D := G.1) (ci := 10) (v := .ref m_fewest) (C := RX11) (T := TX11) (N := 21) hx hb hts (fun _ h => List.mem_cons_of_mem _ (inlX11 _ h)) hown hK hP 3 rfl rfl 7 (by decide) (hts _ (List.mem_cons_of_mem _ (in_r6 (List.mem_of_getElem? (i := 6) rfl)))) (fun _ h9 => h9) rfl dX11_layFew_95 ?_
          refine lv_iload_n hx hb dX11_layFew_98 rfl (lv_at hl 3 rfl) ?_
          refine lv_iload hx hb dX11_layFew_99 (lv_at hl 0 rfl) ?_
          refine g_ist hx hb hK hP hD hS 0 rfl (by omega) (by omega) (by first | exact Nat.le_of_ble_eq_true rfl | omega) dX11_layFew_101 (fun H locs hP hD hS => ?_)
          have hb_42 := bd_u (k := (t0__3.toNat)) (v := t_36) f_25 (by omega) (by omega)
          have hPD : PD G A H [(m_fewest, .inl (G.2 0, 31, .inl (cI (uI Ef_21 (t0__3.toNat) t_36)))), (m_whoBites, .inl (G.2 0, 31, .inl (cI Ew_22))), (m_leaves, .inl (G.2 0, 31, .inl (cI El_23))), (m0, .inr (10, [.ref m_all, .ref m_kept, .ref m_isKept, .ref m_refused, .long (lI m_above), .long (lI m_below), .ref m_hand, .ref m_fewest, .ref m_whoBites, .ref m_leaves, .ref m_bestFeast, .ref m_tells, .ref m_hardOn, .ref m_bytes, .int (iI m_bytesLong), .int (iI m_tokenAt), .int (iI m_tokenLong), .int (iI m_token), .int (iI m_value), .ref m_anew, .ref m_values])), (m_all, .inl (G.2 0, 311, .inl (cI mF))), (m_hand, .inl (G.2 0, 56, .inl (cI F_18)))] := ⟨hP, hD⟩
          have hP := hPD.1
          have hD := hPD.2
          clear hPD
          generalize hF_41 : (uI Ef_21 (t0__3.toNat) t_36) = F_41 at hP hD hb_42
          refine lv_aload_n hx hb dX11_layFew_102 rfl (lv_at hl 4 rfl) ?_
          refine va_get (D := G.1) (ci := 10) (v := .ref m_whoBites) (C := RX11) (T := TX11) (N := 21) hx hb hts (fun _ h => List.mem_cons_of_mem _ (inlX11 _ h)) hown hK hP 3 rfl rfl 8 (by decide) (hts _ (List.mem_cons_of_mem _ (in_r6 (List.mem_of_getElem? (i := 7) rfl)))) (fun _ h9 => h9) rfl dX11_layFew_103 ?_
          refine lv_iload_n hx hb dX11_layFew_106 rfl (lv_at hl 3 rfl) ?_
          refine lv_iload_n hx hb dX11_layFew_107 rfl (lv_at hl 2 rfl) ?_
          refine g_ist hx hb hK hP hD hS 1 rfl (by omega) (by omega) (by first | exact Nat.le_of_ble_eq_true rfl | omega) dX11_layFew_108 (fun H locs hP hD hS => ?_)
          have hPD : PD G A H [(m_fewest, .inl (G.2 0, 31, .inl (cI F_41))), (m_whoBites, .inl (G.2 0, 31, .inl (cI (uI Ew_22 (t0__3.toNat) b0__20)))), (m_leaves, .inl (G.2 0, 31, .inl (cI El_23))), (m0, .inr (10, [.ref m_all, .ref m_kept, .ref m_isKept, .ref m_refused, .long (lI m_above), .long (lI m_below), .ref m_hand, .ref m_fewest, .ref m_whoBites, .ref m_leaves, .ref m_bestFeast, .ref m_tells, .ref m_hardOn, .ref m_bytes, .int (iI m_bytesLong), .int (iI m_tokenAt), .int (iI m_tokenLong), .int (iI m_token), .int (iI m_value), .ref m_anew, .ref m_values])), (m_all, .inl (G.2 0, 311, .inl (cI mF))), (m_hand, .inl (G.2 0, 56, .inl (cI F_18)))] := ⟨hP, hD⟩
          have hP := hPD.1
          have hD := hPD.2
          clear hPD
          generalize hF_43 : (uI Ew_22 (t0__3.toNat) b0__20) = F_43 at hP hD
          refine lv_aload_n hx hb dX11_layFew_109 rfl (lv_at hl 4 rfl) ?_
          refine va_get (D := G.1) (ci := 10) (v := .ref m_leaves) (C := RX11) (T := TX11) (N := 21) hx hb hts (fun _ h => List.mem_cons_of_mem _ (inlX11 _ h)) hown hK hP 3 rfl rfl 9 (by decide) (hts _ (List.mem_cons_of_mem _ (in_r6 (List.mem_of_getElem? (i := 8) rfl)))) (fun _ h9 => h9) rfl dX11_layFew_110 ?_
          refine lv_iload_n hx hb dX11_layFew_113 rfl (lv_at hl 3 rfl) ?_
          refine lv_iload_n hx hb dX11_layFew_114 rfl (lv_at hl 3 rfl) ?_
          refine lv_iload hx hb dX11_layFew_115 (lv_at hl 1 rfl) ?_
          refine lv_isub hx hb dX11_layFew_117 ?_
          refine g_topi (y := iI (t0__3 - rr_33)) (iI_sub t0__3 rr_33) ?_
          refine g_ist hx hb hK hP hD hS 2 rfl (by omega) (by omega) (by first | exact Nat.le_of_ble_eq_true rfl | omega) dX11_layFew_118 (fun H locs hP hD hS => ?_)
          have hb_45 := bd_u (k := (t0__3.toNat)) (v := (t0__3 - rr_33)) f_26 (by omega) (by omega)
          have hPD : PD G A H [(m_fewest, .inl (G.2 0, 31, .inl (cI F_41))), (m_whoBites, .inl (G.2 0, 31, .inl (cI F_43))), (m_leaves, .inl (G.2 0, 31, .inl (cI (uI El_23 (t0__3.toNat) (t0__3 - rr_33))))), (m0, .inr (10, [.ref m_all, .ref m_kept, .ref m_isKept, .ref m_refused, .long (lI m_above), .long (lI m_below), .ref m_hand, .ref m_fewest, .ref m_whoBites, .ref m_leaves, .ref m_bestFeast, .ref m_tells, .ref m_hardOn, .ref m_bytes, .int (iI m_bytesLong), .int (iI m_tokenAt), .int (iI m_tokenLong), .int (iI m_token), .int (iI m_value), .ref m_anew, .ref m_values])), (m_all, .inl (G.2 0, 311, .inl (cI mF))), (m_hand, .inl (G.2 0, 56, .inl (cI F_18)))] := ⟨hP, hD⟩
          have hP := hPD.1
          have hD := hPD.2
          clear hPD
          generalize hF_44 : (uI El_23 (t0__3.toNat) (t0__3 - rr_33)) = F_44 at hP hD hb_45
          refine lv_iinc (v := iI (b0__20 + 1)) (lv' := [(3, .int (iI (b0__20 + 1))), (5, .int (iI t_36)), (4, .int (iI rr_33)), (2, .int (iI t0__3)), (0, .ref m0), (1, .int (iI p0))]) hx hb dX11_layFew_119 hl (k := 2) rfl (iI_add b0__20 1) (by decide) rfl (fun ls hl => ?_)
          refine lv_goto (tgt := 39) hx hb dX11_layFew_122 (by decide) ?_
          exact ih_27 _ _ _ _ (by omega) ⟨(b0__20 + 1), F_41, F_43, F_44, (by first | assumption | omega), (by first | exact hb_42 | exact bd_mono hb_42 (by omega) (by omega) | assumption), (by first | exact hb_45 | exact bd_mono hb_45 (by omega) (by omega) | assumption), rfl, hP, hD, hS, lv_sub hl [0, 3, 4, 5] rfl⟩
      · refine lv_if_ne (tgt := 70) hx hb dX11_layFew_62 (by decide) (fun c_46 => ?_) (fun c_46 => ?_)
        · have c_46 : ¬ (rr_33 = 0) := fun h9 => c_46 ((iI_eq (a := rr_33) (b := 0) (by omega) (by first | decide | omega)).mpr h9)
          refine lv_iconst (v := iI 1) hx hb dX11_layFew_70 rfl ?_
          refine lv_aload_n hx hb dX11_layFew_71 rfl (lv_at hl 3 rfl) ?_
          refine va_get (D := G.1) (ci := 10) (v := .ref m_fewest) (C := RX11) (T := TX11) (N := 21) hx hb hts (fun _ h => List.mem_cons_of_mem _ (inlX11 _ h)) hown hK hP 3 rfl rfl 7 (by decide) (hts _ (List.mem_cons_of_mem _ (in_r6 (List.mem_of_getElem? (i := 6) rfl)))) (fun _ h9 => h9) rfl dX11_layFew_72 ?_
          refine lv_iload_n hx hb dX11_layFew_75 rfl (lv_at hl 2 rfl) ?_
          refine lv_iload hx hb dX11_layFew_76 (lv_at hl 0 rfl) ?_
          refine lv_isub hx hb dX11_layFew_78 ?_
          refine g_topi (y := iI (t0__3 - rr_33)) (iI_sub t0__3 rr_33) ?_
          refine g_ild hx hb hK hP 0 rfl (by omega) (by omega) (by first | exact Nat.le_of_ble_eq_true rfl | omega) dX11_layFew_79 (fun w_47 ew_47 => ?_)
          have b0w_47 : _ := f_25 ((t0__3 - rr_33).toNat)
          rw [ew_47] at b0w_47
          refine lv_iadd hx hb dX11_layFew_80 ?_
          refine g_topi (y := iI (1 + w_47)) (iI_add 1 w_47) ?_
          exact hJ_37 (1 + w_47) ls ⟨by omega, lv_sub hl [0, 1, 2, 3, 4] rfl⟩
        · have c_46 := (iI_eq (a := rr_33) (b := 0) (by omega) (by first | decide | omega)).mp c_46
          refine lv_ldc (v := 1000000) hx hb hown (hts _ (List.mem_cons_of_mem _ (in_r30 (List.mem_of_getElem? (i := 13) rfl)))) dX11_layFew_65 ?_
          refine g_topi (y := iI 1000000) (by decide) ?_
          refine lv_goto (tgt := 81) hx hb dX11_layFew_67 (by decide) ?_
          exact hJ_37 1000000 ls ⟨by omega, lv_sub hl [0, 1, 2, 3, 4] rfl⟩
theorem dX11_few_0 : decode cX11_few 0 = .ok (.aload_n 0, 1) := kd_42 (by decide +kernel)
theorem dX11_few_1 : decode cX11_few 1 = .ok (.iload_n 1, 1) := kd_27 (by decide +kernel)
theorem gX11_few_X11_isApple : GoodIn wsX11_few (wsV RX11 146 RX11 yX11_isApple wsX11_isApple) := gW_V (in_r25 (List.mem_of_getElem? (i := 9) rfl)) (in_r25 (List.mem_of_getElem? (i := 10) rfl)) (in_r25 (List.mem_of_getElem? (i := 11) rfl)) (in_r1 (List.mem_of_getElem? (i := 5) rfl)) (in_r25 (List.mem_of_getElem? (i := 12) rfl))
theorem dX11_few_2 : decode cX11_few 2 = .ok (.invokevirtual 146, 3) := kd_182 (a := 0) (b := 146) (by decide +kernel)
theorem dX11_few_5 : decode cX11_few 5 = .ok (.ifCond .eq 8, 3) := kd_153 (a := 0) (b := 8) (by decide +kernel)
theorem dX11_few_8 : decode cX11_few 8 = .ok (.iload_n 2, 1) := kd_28 (by decide +kernel)
theorem dX11_few_9 : decode cX11_few 9 = .ok (.iconst (-1), 1) := kd_2 (by decide +kernel)
theorem dX11_few_10 : decode cX11_few 10 = .ok (.if_icmp .ge 10, 3) := kd_162 (a := 0) (b := 10) (by decide +kernel)
theorem dX11_few_20 : decode cX11_few 20 = .ok (.aload_n 0, 1) := kd_42 (by decide +kernel)
theorem dX11_few_21 : decode cX11_few 21 = .ok (.iload_n 1, 1) := kd_27 (by decide +kernel)
theorem gX11_few_X11_layFew : GoodIn wsX11_few (wsV RX11 169 RX11 yX11_layFew wsX11_layFew) := gW_V (in_r30 (List.mem_of_getElem? (i := 14) rfl)) (in_r30 (List.mem_of_getElem? (i := 15) rfl)) (in_r30 (List.mem_of_getElem? (i := 16) rfl)) (in_r1 (List.mem_of_getElem? (i := 5) rfl)) (in_r30 (List.mem_of_getElem? (i := 17) rfl))
theorem dX11_few_22 : decode cX11_few 22 = .ok (.invokevirtual 169, 3) := kd_182 (a := 0) (b := 169) (by decide +kernel)
theorem dX11_few_25 : decode cX11_few 25 = .ok (.aload_n 0, 1) := kd_42 (by decide +kernel)
theorem dX11_few_26 : decode cX11_few 26 = .ok (.getfield 7, 3) := kd_180 (a := 0) (b := 7) (by decide +kernel)
theorem dX11_few_29 : decode cX11_few 29 = .ok (.bipush 6, 2) := kd_16 (a := 6) (by decide +kernel)
theorem dX11_few_31 : decode cX11_few 31 = .ok (.iload_n 1, 1) := kd_27 (by decide +kernel)
theorem dX11_few_32 : decode cX11_few 32 = .ok (.iadd, 1) := kd_96 (by decide +kernel)
theorem dX11_few_33 : decode cX11_few 33 = .ok (.iaload, 1) := kd_46 (by decide +kernel)
theorem dX11_few_34 : decode cX11_few 34 = .ok (.istore_n 3, 1) := kd_62 (by decide +kernel)
theorem dX11_few_35 : decode cX11_few 35 = .ok (.aload_n 0, 1) := kd_42 (by decide +kernel)
theorem dX11_few_36 : decode cX11_few 36 = .ok (.getfield 30, 3) := kd_180 (a := 0) (b := 30) (by decide +kernel)
theorem dX11_few_39 : decode cX11_few 39 = .ok (.iload_n 3, 1) := kd_29 (by decide +kernel)
theorem dX11_few_40 : decode cX11_few 40 = .ok (.iaload, 1) := kd_46 (by decide +kernel)
theorem dX11_few_41 : decode cX11_few 41 = .ok (.istore 4, 2) := kd_54 (a := 4) (by decide +kernel)
theorem dX11_few_43 : decode cX11_few 43 = .ok (.iload 4, 2) := kd_21 (a := 4) (by decide +kernel)
theorem dX11_few_45 : decode cX11_few 45 = .ok (.ldc 168, 2) := kd_18 (a := 168) (by decide +kernel)
theorem dX11_few_47 : decode cX11_few 47 = .ok (.if_icmp .lt 6, 3) := kd_161 (a := 0) (b := 6) (by decide +kernel)
theorem dX11_few_53 : decode cX11_few 53 = .ok (.iload_n 2, 1) := kd_28 (by decide +kernel)
theorem dX11_few_54 : decode cX11_few 54 = .ok (.iconst (-1), 1) := kd_2 (by decide +kernel)
theorem dX11_few_55 : decode cX11_few 55 = .ok (.if_icmp .eq 9, 3) := kd_159 (a := 0) (b := 9) (by decide +kernel)
theorem dX11_few_64 : decode cX11_few 64 = .ok (.iload_n 2, 1) := kd_28 (by decide +kernel)
theorem dX11_few_65 : decode cX11_few 65 = .ok (.iconst (-1), 1) := kd_2 (by decide +kernel)
theorem dX11_few_66 : decode cX11_few 66 = .ok (.if_icmp .ne 8, 3) := kd_160 (a := 0) (b := 8) (by decide +kernel)
theorem dX11_few_74 : decode cX11_few 74 = .ok (.bipush (-5), 2) := kd_16 (a := 251) (by decide +kernel)
theorem dX11_few_76 : decode cX11_few 76 = .ok (.ireturn, 1) := kd_172 (by decide +kernel)
theorem dX11_few_69 : decode cX11_few 69 = .ok (.iload 4, 2) := kd_21 (a := 4) (by decide +kernel)
theorem dX11_few_71 : decode cX11_few 71 = .ok (.goto 5, 3) := kd_167 (a := 0) (b := 5) (by decide +kernel)
theorem dX11_few_58 : decode cX11_few 58 = .ok (.iload_n 2, 1) := kd_28 (by decide +kernel)
theorem dX11_few_59 : decode cX11_few 59 = .ok (.iload 4, 2) := kd_21 (a := 4) (by decide +kernel)
theorem dX11_few_61 : decode cX11_few 61 = .ok (.if_icmp .lt 16, 3) := kd_161 (a := 0) (b := 16) (by decide +kernel)
theorem dX11_few_77 : decode cX11_few 77 = .ok (.iconst 0, 1) := kd_3 (by decide +kernel)
theorem dX11_few_78 : decode cX11_few 78 = .ok (.istore 5, 2) := kd_54 (a := 5) (by decide +kernel)
theorem dX11_few_80 : decode cX11_few 80 = .ok (.iload 5, 2) := kd_21 (a := 5) (by decide +kernel)
theorem dX11_few_82 : decode cX11_few 82 = .ok (.iload_n 2, 1) := kd_28 (by decide +kernel)
theorem dX11_few_83 : decode cX11_few 83 = .ok (.if_icmp .ge 16, 3) := kd_162 (a := 0) (b := 16) (by decide +kernel)
theorem dX11_few_99 : decode cX11_few 99 = .ok (.aload_n 0, 1) := kd_42 (by decide +kernel)
theorem dX11_few_100 : decode cX11_few 100 = .ok (.getfield 33, 3) := kd_180 (a := 0) (b := 33) (by decide +kernel)
theorem dX11_few_103 : decode cX11_few 103 = .ok (.iload_n 3, 1) := kd_29 (by decide +kernel)
theorem dX11_few_104 : decode cX11_few 104 = .ok (.iaload, 1) := kd_46 (by decide +kernel)
theorem dX11_few_105 : decode cX11_few 105 = .ok (.ireturn, 1) := kd_172 (by decide +kernel)
theorem dX11_few_86 : decode cX11_few 86 = .ok (.aload_n 0, 1) := kd_42 (by decide +kernel)
theorem dX11_few_87 : decode cX11_few 87 = .ok (.getfield 36, 3) := kd_180 (a := 0) (b := 36) (by decide +kernel)
theorem dX11_few_90 : decode cX11_few 90 = .ok (.iload_n 3, 1) := kd_29 (by decide +kernel)
theorem dX11_few_91 : decode cX11_few 91 = .ok (.iaload, 1) := kd_46 (by decide +kernel)
theorem dX11_few_92 : decode cX11_few 92 = .ok (.istore_n 3, 1) := kd_62 (by decide +kernel)
theorem dX11_few_93 : decode cX11_few 93 = .ok (.iinc 5 1, 3) := kd_132 (a := 5) (b := 1) (by decide +kernel)
theorem dX11_few_96 : decode cX11_few 96 = .ok (.goto (-16), 3) := kd_167 (a := 255) (b := 240) (by decide +kernel)
theorem dX11_few_50 : decode cX11_few 50 = .ok (.bipush (-6), 2) := kd_16 (a := 250) (by decide +kernel)
theorem dX11_few_52 : decode cX11_few 52 = .ok (.ireturn, 1) := kd_172 (by decide +kernel)
theorem dX11_few_13 : decode cX11_few 13 = .ok (.aload_n 0, 1) := kd_42 (by decide +kernel)
theorem dX11_few_14 : decode cX11_few 14 = .ok (.bipush (-10), 2) := kd_16 (a := 246) (by decide +kernel)
theorem gX11_few_X11_bad : GoodIn wsX11_few (wsV RX11 79 RX11 yX11_bad wsX11_bad) := gW_V (in_r8 (List.mem_of_getElem? (i := 16) rfl)) (in_r8 (List.mem_of_getElem? (i := 17) rfl)) (in_r8 (List.mem_of_getElem? (i := 18) rfl)) (in_r1 (List.mem_of_getElem? (i := 5) rfl)) (in_r8 (List.mem_of_getElem? (i := 19) rfl))
theorem dX11_few_16 : decode cX11_few 16 = .ok (.invokevirtual 79, 3) := kd_182 (a := 0) (b := 79) (by decide +kernel)
theorem dX11_few_19 : decode cX11_few 19 = .ok (.ireturn, 1) := kd_172 (by decide +kernel)
set_option maxHeartbeats 8000000 in
set_option maxRecDepth 100000 in
theorem c_X11_few (l : Launch) (G : gG) (m0 : Nat) (m_all : Nat) (m_kept : Nat) (m_isKept : Nat) (m_refused : Nat) (m_above : Int) (m_below : Int) (m_hand : Nat) (m_fewest : Nat) (m_whoBites : Nat) (m_leaves : Nat) (m_bestFeast : Nat) (m_tells : Nat) (m_hardOn : Nat) (m_bytes : Nat) (m_bytesLong : Int) (m_tokenAt : Int) (m_tokenLong : Int) (m_token : Int) (m_value : Int) (m_anew : Nat) (m_values : Nat) (mF : Nat → Int) (K0 : Int) (mh : Nat → Int) (mr : Nat → Int) (mf : Nat → Int) (mw : Nat → Int) (ml : Nat → Int) (a1 : Int) (a2 : Int) (y0_ : bp (plA K0) mF) (y1_ : bd 0 1000000 mf) (y2_ : bd 0 30 ml) (ra1 : -2147483648 ≤ a1 ∧ a1 ≤ 2147483647) (ra2 : -2147483648 ≤ a2 ∧ a2 ≤ 2147483647) (hK0 : 1000 ≤ K0 ∧ K0 ≤ 2000000) (sz : Nat) : gI G l yX11_few wsX11_few ({ frames := 4, cells := 0, slots := 0, locals := 96 } : Room) [.ref m0, .int (iI a1), .int (iI a2)] [(m0, .inr (10, [.ref m_all, .ref m_kept, .ref m_isKept, .ref m_refused, .long (lI m_above), .long (lI m_below), .ref m_hand, .ref m_fewest, .ref m_whoBites, .ref m_leaves, .ref m_bestFeast, .ref m_tells, .ref m_hardOn, .ref m_bytes, .int (iI m_bytesLong), .int (iI m_tokenAt), .int (iI m_tokenLong), .int (iI m_token), .int (iI m_value), .ref m_anew, .ref m_values])), (m_all, .inl (G.2 0, 311, .inl (cI mF))), (m_hand, .inl (G.2 0, 56, .inl (cI mh))), (m_refused, .inl (G.2 0, 3, .inl (cI mr))), (m_fewest, .inl (G.2 0, 31, .inl (cI mf))), (m_whoBites, .inl (G.2 0, 31, .inl (cI mw))), (m_leaves, .inl (G.2 0, 31, .inl (cI ml)))] sz (fun (r : Int32) (u : va_W) => (∃ rr : Int, ∃ N_h : Nat → Int, ∃ N_r : Nat → Int, ∃ N_f : Nat → Int, ∃ N_w : Nat → Int, ∃ N_l : Nat → Int, (bd 0 1000000 N_f) ∧ (bd 0 30 N_l) ∧ r = (iI rr) ∧ u = [(m0, .inr (10, [.ref m_all, .ref m_kept, .ref m_isKept, .ref m_refused, .long (lI m_above), .long (lI m_below), .ref m_hand, .ref m_fewest, .ref m_whoBites, .ref m_leaves, .ref m_bestFeast, .ref m_tells, .ref m_hardOn, .ref m_bytes, .int (iI m_bytesLong), .int (iI m_tokenAt), .int (iI m_tokenLong), .int (iI m_token), .int (iI m_value), .ref m_anew, .ref m_values])), (m_all, .inl (G.2 0, 311, .inl (cI mF))), (m_hand, .inl (G.2 0, 56, .inl (cI N_h))), (m_refused, .inl (G.2 0, 3, .inl (cI N_r))), (m_fewest, .inl (G.2 0, 31, .inl (cI N_f))), (m_whoBites, .inl (G.2 0, 31, .inl (cI N_w))), (m_leaves, .inl (G.2 0, 31, .inl (cI N_l)))])) := by
  refine Met.ofW (cc := cX11_few) (maxL := 6) (ret := (some .int)) (by decide) rfl ?_
  intro p e s m args below meth c s₁ B hml hv
  obtain ⟨rfl, hsz, hP, hK, hD0, hN, hZ⟩ := hv
  have hx := B.exec
  have hb := B.bytes
  have hr := B.returns
  have hts := atoms_spec (ws := wsX11_few) B.pre
  have hown : s.vm.findClass RX11 = some m.cls := findClass_of_methodNamed B.named
  have hlocks := B.notSynchronized
  subst hsz
  have hD := hD0.self (sz := s.heap.size)
  generalize hAe : va_A [(m0, .inr (10, [.ref m_all, .ref m_kept, .ref m_isKept, .ref m_refused, .long (lI m_above), .long (lI m_below), .ref m_hand, .ref m_fewest, .ref m_whoBites, .ref m_leaves, .ref m_bestFeast, .ref m_tells, .ref m_hardOn, .ref m_bytes, .int (iI m_bytesLong), .int (iI m_tokenAt), .int (iI m_tokenLong), .int (iI m_token), .int (iI m_value), .ref m_anew, .ref m_values])), (m_all, .inl (G.2 0, 311, .inl (cI mF))), (m_hand, .inl (G.2 0, 56, .inl (cI mh))), (m_refused, .inl (G.2 0, 3, .inl (cI mr))), (m_fewest, .inl (G.2 0, 31, .inl (cI mf))), (m_whoBites, .inl (G.2 0, 31, .inl (cI mw))), (m_leaves, .inl (G.2 0, 31, .inl (cI ml)))] s.heap.size = A at hD hZ ⊢
  have hA : ∀ q : Nat, s.heap.size ≤ q → A q := fun q h => by rw [← hAe]; exact Or.inr h
  have hS : va_S A s.heap s.heap [] := va_S.rf
  have hP : va_P G.1 vwCl [(m0, .inr (10, [.ref m_all, .ref m_kept, .ref m_isKept, .ref m_refused, .long (lI m_above), .long (lI m_below), .ref m_hand, .ref m_fewest, .ref m_whoBites, .ref m_leaves, .ref m_bestFeast, .ref m_tells, .ref m_hardOn, .ref m_bytes, .int (iI m_bytesLong), .int (iI m_tokenAt), .int (iI m_tokenLong), .int (iI m_token), .int (iI m_value), .ref m_anew, .ref m_values])), (m_all, .inl (G.2 0, 311, .inl (cI mF))), (m_hand, .inl (G.2 0, 56, .inl (cI mh))), (m_refused, .inl (G.2 0, 3, .inl (cI mr))), (m_fewest, .inl (G.2 0, 31, .inl (cI mf))), (m_whoBites, .inl (G.2 0, 31, .inl (cI mw))), (m_leaves, .inl (G.2 0, 31, .inl (cI ml)))] s.heap := hP
  have hl := lv_entry ([.ref m0, .int (iI a1), .int (iI a2)]) (n := 6) (Nat.le_of_ble_eq_true rfl)
  rw [lg_entry_eq]
  generalize (lg_sl ([.ref m0, .int (iI a1), .int (iI a2)]) ++ List.replicate (6 - (lg_sl ([.ref m0, .int (iI a1), .int (iI a2)])).length) Slot.unset).toArray = ls at hl ⊢
  have hl : lv_has ls 6 [(0, .ref m0), (1, .int (iI a1)), (2, .int (iI a2))] := hl
  refine lv_aload_n hx hb dX11_few_0 rfl (lv_at hl 0 rfl) ?_
  refine lv_iload_n hx hb dX11_few_1 rfl (lv_at hl 1 rfl) ?_
  refine g_calli (wr := [(m_hand, .inl (G.2 0, 56, .inl (cI mh))), (m_refused, .inl (G.2 0, 3, .inl (cI mr))), (m_fewest, .inl (G.2 0, 31, .inl (cI mf))), (m_whoBites, .inl (G.2 0, 31, .inl (cI mw))), (m_leaves, .inl (G.2 0, 31, .inl (cI ml)))]) (va_runV (As := [.int (iI a1)]) (rest := []) ⟨hx, hb, hml, hown, hts⟩ (c_X11_isApple l G (m0) (m_all) (m_kept) (m_isKept) (m_refused) (m_above) (m_below) (m_hand) (m_fewest) (m_whoBites) (m_leaves) (m_bestFeast) (m_tells) (m_hardOn) (m_bytes) (m_bytesLong) (m_tokenAt) (m_tokenLong) (m_token) (m_value) (m_anew) (m_values) (mF) (K0) (a1) (by first | exact y0_ | exact bpA_mono y0_ (by omega) | assumption) (by first | exact hK0 | assumption | omega) (by first | exact ra1 | assumption | omega) _) (cwV 1 hts gX11_few_X11_isApple rfl rfl rfl (by decide +kernel) ⟨Nat.le_of_ble_eq_true rfl, Nat.le_of_ble_eq_true rfl⟩) (g_preV m0 [.int (iI a1)] hP hD hK hN hS hA hZ [0, 1] rfl rfl 0 (ci := 10) rfl rfl) rfl rfl hl.1 rfl (lv_room (Nat.le_of_ble_eq_true rfl)) dX11_few_2 ⟨Nat.le_of_ble_eq_true rfl, Nat.le_of_ble_eq_true rfl⟩) hP hD hS hA [0, 1] [2, 3, 4, 5, 6] rfl rfl rfl (by decide) (fun r_1 u H locs hw hP hD hS => ?_)
  rcases hw with hw | hw
  · refine ea_0_4 hw (fun k_2 k_3 e8_0 e8_1 => ?_)
    subst e8_0
    subst e8_1
    clear hw
    have hPD : PD G A H [(m_hand, .inl (G.2 0, 56, .inl (cI mh))), (m_refused, .inl (G.2 0, 3, .inl (cI mr))), (m_fewest, .inl (G.2 0, 31, .inl (cI mf))), (m_whoBites, .inl (G.2 0, 31, .inl (cI mw))), (m_leaves, .inl (G.2 0, 31, .inl (cI ml))), (m0, .inr (10, [.ref m_all, .ref m_kept, .ref m_isKept, .ref m_refused, .long (lI m_above), .long (lI m_below), .ref m_hand, .ref m_fewest, .ref m_whoBites, .ref m_leaves, .ref m_bestFeast, .ref m_tells, .ref m_hardOn, .ref m_bytes, .int (iI m_bytesLong), .int (iI m_tokenAt), .int (iI m_tokenLong), .int (iI m_token), .int (iI m_value), .ref m_anew, .ref m_values])), (m_all, .inl (G.2 0, 311, .inl (cI mF)))] := ⟨hP, hD⟩
    have hP := hPD.1
    have hD := hPD.2
    clear hPD
    refine lv_if_eq (tgt := 13) hx hb dX11_few_5 (by decide) (fun c_5 => g_no c_5 (by decide)) (fun _ => ?_)
    refine lv_iload_n hx hb dX11_few_8 rfl (lv_at hl 2 rfl) ?_
    refine lv_iconst (v := iI (-1)) hx hb dX11_few_9 rfl ?_
    refine lv_icmp_ge (tgt := 20) hx hb dX11_few_10 (by decide) (fun c_6 => ?_) (fun c_6 => ?_)
    · have c_6 := (iI_le (a := (-1)) (b := a2) (by first | decide | omega) (by omega)).mp c_6
      refine lv_aload_n hx hb dX11_few_20 rfl (lv_at hl 0 rfl) ?_
      refine lv_iload_n hx hb dX11_few_21 rfl (lv_at hl 1 rfl) ?_
      refine g_callv (wr := [(m_refused, .inl (G.2 0, 3, .inl (cI mr)))]) (va_runV (As := [.int (iI a1)]) (rest := []) ⟨hx, hb, hml, hown, hts⟩ (c_X11_layFew l G (m0) (m_all) (m_kept) (m_isKept) (m_refused) (m_above) (m_below) (m_hand) (m_fewest) (m_whoBites) (m_leaves) (m_bestFeast) (m_tells) (m_hardOn) (m_bytes) (m_bytesLong) (m_tokenAt) (m_tokenLong) (m_token) (m_value) (m_anew) (m_values) (mF) (K0) (mh) (mf) (mw) (ml) (a1) (by first | exact y0_ | exact bpA_mono y0_ (by omega) | assumption) (by first | exact y1_ | exact bd_mono y1_ (by omega) (by omega) | assumption) (by first | exact y2_ | exact bd_mono y2_ (by omega) (by omega) | assumption) (by first | exact ra1 | assumption | omega) (by first | exact k_2 | assumption | omega) (by first | exact hK0 | assumption | omega) _) (cwV 1 hts gX11_few_X11_layFew rfl rfl rfl (by decide +kernel) ⟨Nat.le_of_ble_eq_true rfl, Nat.le_of_ble_eq_true rfl⟩) (g_preV m0 [.int (iI a1)] hP hD hK hN hS hA hZ [5, 6, 0, 2, 3, 4] rfl rfl 5 (ci := 10) rfl rfl) rfl rfl hl.1 rfl (lv_room (Nat.le_of_ble_eq_true rfl)) dX11_few_22 ⟨Nat.le_of_ble_eq_true rfl, Nat.le_of_ble_eq_true rfl⟩) hP hD hS hA [5, 6, 0, 2, 3, 4] [1] rfl rfl rfl (by decide) (fun u H locs hw hP hD hS => ?_)
      refine ea_4_3 hw (fun N_h_7 N_f_8 N_w_9 N_l_10 k_11 k_12 e8_0 => ?_)
      subst e8_0
      clear hw
      have hPD : PD G A H [(m_refused, .inl (G.2 0, 3, .inl (cI mr))), (m0, .inr (10, [.ref m_all, .ref m_kept, .ref m_isKept, .ref m_refused, .long (lI m_above), .long (lI m_below), .ref m_hand, .ref m_fewest, .ref m_whoBites, .ref m_leaves, .ref m_bestFeast, .ref m_tells, .ref m_hardOn, .ref m_bytes, .int (iI m_bytesLong), .int (iI m_tokenAt), .int (iI m_tokenLong), .int (iI m_token), .int (iI m_value), .ref m_anew, .ref m_values])), (m_all, .inl (G.2 0, 311, .inl (cI mF))), (m_hand, .inl (G.2 0, 56, .inl (cI N_h_7))), (m_fewest, .inl (G.2 0, 31, .inl (cI N_f_8))), (m_whoBites, .inl (G.2 0, 31, .inl (cI N_w_9))), (m_leaves, .inl (G.2 0, 31, .inl (cI N_l_10)))] := ⟨hP, hD⟩
      have hP := hPD.1
      have hD := hPD.2
      clear hPD
      refine lv_aload_n hx hb dX11_few_25 rfl (lv_at hl 0 rfl) ?_
      refine va_get (D := G.1) (ci := 10) (v := .ref m_all) (C := RX11) (T := TX11) (N := 21) hx hb hts (fun _ h => List.mem_cons_of_mem _ (inlX11 _ h)) hown hK hP 1 rfl rfl 0 (by decide) (hts _ (List.mem_cons_of_mem _ (in_r6 (List.mem_of_getElem? (i := 0) rfl)))) (fun _ h9 => h9) rfl dX11_few_26 ?_
      refine lv_bipush (v := iI 6) hx hb dX11_few_29 (by decide) ?_
      refine lv_iload_n hx hb dX11_few_31 rfl (lv_at hl 1 rfl) ?_
      refine lv_iadd hx hb dX11_few_32 ?_
      refine g_topi (y := iI (6 + a1)) (iI_add 6 a1) ?_
      refine g_ild hx hb hK hP 2 rfl (by omega) (by omega) (by first | exact Nat.le_of_ble_eq_true rfl | omega) dX11_few_33 (fun w_13 ew_13 => ?_)
      have bw_13 : 0 ≤ w_13 ∧ w_13 ≤ 30 := by rw [← ew_13]; exact ⟨(y0_ _).1, Int.le_trans (y0_ _).2 (plAu_T (by omega) (by omega))⟩
      refine lv_istore_n (lv' := [(3, .int (iI w_13)), (0, .ref m0), (1, .int (iI a1)), (2, .int (iI a2))]) hx hb dX11_few_34 rfl hl (by decide) rfl (fun ls hl => ?_)
      refine lv_aload_n hx hb dX11_few_35 rfl (lv_at hl 1 rfl) ?_
      refine va_get (D := G.1) (ci := 10) (v := .ref m_fewest) (C := RX11) (T := TX11) (N := 21) hx hb hts (fun _ h => List.mem_cons_of_mem _ (inlX11 _ h)) hown hK hP 1 rfl rfl 7 (by decide) (hts _ (List.mem_cons_of_mem _ (in_r6 (List.mem_of_getElem? (i := 6) rfl)))) (fun _ h9 => h9) rfl dX11_few_36 ?_
      refine lv_iload_n hx hb dX11_few_39 rfl (lv_at hl 0 rfl) ?_
      refine g_ild hx hb hK hP 4 rfl (by omega) (by omega) (by first | exact Nat.le_of_ble_eq_true rfl | omega) dX11_few_40 (fun w_14 ew_14 => ?_)
      have b0w_14 : _ := k_11 (w_13.toNat)
      rw [ew_14] at b0w_14
      refine lv_istore (lv' := [(4, .int (iI w_14)), (3, .int (iI w_13)), (0, .ref m0), (1, .int (iI a1)), (2, .int (iI a2))]) hx hb dX11_few_41 hl (by decide) rfl (fun ls hl => ?_)
      refine lv_iload hx hb dX11_few_43 (lv_at hl 0 rfl) ?_
      refine lv_ldc (v := 1000000) hx hb hown (hts _ (List.mem_cons_of_mem _ (in_r30 (List.mem_of_getElem? (i := 13) rfl)))) dX11_few_45 ?_
      refine g_topi (y := iI 1000000) (by decide) ?_
      refine lv_icmp_lt (tgt := 53) hx hb dX11_few_47 (by decide) (fun c_15 => ?_) (fun c_15 => ?_)
      · have c_15 := (iI_lt (a := w_14) (b := 1000000) (by omega) (by first | decide | omega)).mp c_15
        refine lv_iload_n hx hb dX11_few_53 rfl (lv_at hl 4 rfl) ?_
        refine lv_iconst (v := iI (-1)) hx hb dX11_few_54 rfl ?_
        refine lv_icmp_eq (tgt := 64) hx hb dX11_few_55 (by decide) (fun c_16 => ?_) (fun c_16 => ?_)
        · have c_16 := (iI_eq (a := a2) (b := (-1)) (by omega) (by first | decide | omega)).mp c_16
          refine lv_iload_n hx hb dX11_few_64 rfl (lv_at hl 4 rfl) ?_
          refine lv_iconst (v := iI (-1)) hx hb dX11_few_65 rfl ?_
          refine lv_icmp_ne (tgt := 74) hx hb dX11_few_66 (by decide) (fun c_17 => ?_) (fun c_17 => ?_)
          · have c_17 : ¬ (a2 = (-1)) := fun h9 => c_17 ((iI_eq (a := a2) (b := (-1)) (by omega) (by first | decide | omega)).mpr h9)
            refine lv_bipush (v := iI (-5)) hx hb dX11_few_74 (by decide) ?_
            have hP := hP.sub (ws' := [(m0, .inr (10, [.ref m_all, .ref m_kept, .ref m_isKept, .ref m_refused, .long (lI m_above), .long (lI m_below), .ref m_hand, .ref m_fewest, .ref m_whoBites, .ref m_leaves, .ref m_bestFeast, .ref m_tells, .ref m_hardOn, .ref m_bytes, .int (iI m_bytesLong), .int (iI m_tokenAt), .int (iI m_tokenLong), .int (iI m_token), .int (iI m_value), .ref m_anew, .ref m_values])), (m_all, .inl (G.2 0, 311, .inl (cI mF))), (m_hand, .inl (G.2 0, 56, .inl (cI N_h_7))), (m_refused, .inl (G.2 0, 3, .inl (cI mr))), (m_fewest, .inl (G.2 0, 31, .inl (cI N_f_8))), (m_whoBites, .inl (G.2 0, 31, .inl (cI N_w_9))), (m_leaves, .inl (G.2 0, 31, .inl (cI N_l_10)))]) [1, 2, 3, 0, 4, 5, 6] rfl
            have hD := hD.sub (ws' := [(m0, .inr (10, [.ref m_all, .ref m_kept, .ref m_isKept, .ref m_refused, .long (lI m_above), .long (lI m_below), .ref m_hand, .ref m_fewest, .ref m_whoBites, .ref m_leaves, .ref m_bestFeast, .ref m_tells, .ref m_hardOn, .ref m_bytes, .int (iI m_bytesLong), .int (iI m_tokenAt), .int (iI m_tokenLong), .int (iI m_token), .int (iI m_value), .ref m_anew, .ref m_values])), (m_all, .inl (G.2 0, 311, .inl (cI mF))), (m_hand, .inl (G.2 0, 56, .inl (cI N_h_7))), (m_refused, .inl (G.2 0, 3, .inl (cI mr))), (m_fewest, .inl (G.2 0, 31, .inl (cI N_f_8))), (m_whoBites, .inl (G.2 0, 31, .inl (cI N_w_9))), (m_leaves, .inl (G.2 0, 31, .inl (cI N_l_10)))]) [1, 2, 3, 0, 4, 5, 6] rfl rfl
            exact g_iret (v := (iI (-5))) hx hb hr hlocks hP hD hS (⟨(-5), N_h_7, mr, N_f_8, N_w_9, N_l_10, (by first | exact k_11 | exact bd_mono k_11 (by omega) (by omega) | assumption), (by first | exact k_12 | exact bd_mono k_12 (by omega) (by omega) | assumption), rfl, rfl⟩) dX11_few_76
          · have c_17 := (iI_eq (a := a2) (b := (-1)) (by omega) (by first | decide | omega)).mp c_17
            refine lv_iload hx hb dX11_few_69 (lv_at hl 0 rfl) ?_
            refine lv_goto (tgt := 76) hx hb dX11_few_71 (by decide) ?_
            have hP := hP.sub (ws' := [(m0, .inr (10, [.ref m_all, .ref m_kept, .ref m_isKept, .ref m_refused, .long (lI m_above), .long (lI m_below), .ref m_hand, .ref m_fewest, .ref m_whoBites, .ref m_leaves, .ref m_bestFeast, .ref m_tells, .ref m_hardOn, .ref m_bytes, .int (iI m_bytesLong), .int (iI m_tokenAt), .int (iI m_tokenLong), .int (iI m_token), .int (iI m_value), .ref m_anew, .ref m_values])), (m_all, .inl (G.2 0, 311, .inl (cI mF))), (m_hand, .inl (G.2 0, 56, .inl (cI N_h_7))), (m_refused, .inl (G.2 0, 3, .inl (cI mr))), (m_fewest, .inl (G.2 0, 31, .inl (cI N_f_8))), (m_whoBites, .inl (G.2 0, 31, .inl (cI N_w_9))), (m_leaves, .inl (G.2 0, 31, .inl (cI N_l_10)))]) [1, 2, 3, 0, 4, 5, 6] rfl
            have hD := hD.sub (ws' := [(m0, .inr (10, [.ref m_all, .ref m_kept, .ref m_isKept, .ref m_refused, .long (lI m_above), .long (lI m_below), .ref m_hand, .ref m_fewest, .ref m_whoBites, .ref m_leaves, .ref m_bestFeast, .ref m_tells, .ref m_hardOn, .ref m_bytes, .int (iI m_bytesLong), .int (iI m_tokenAt), .int (iI m_tokenLong), .int (iI m_token), .int (iI m_value), .ref m_anew, .ref m_values])), (m_all, .inl (G.2 0, 311, .inl (cI mF))), (m_hand, .inl (G.2 0, 56, .inl (cI N_h_7))), (m_refused, .inl (G.2 0, 3, .inl (cI mr))), (m_fewest, .inl (G.2 0, 31, .inl (cI N_f_8))), (m_whoBites, .inl (G.2 0, 31, .inl (cI N_w_9))), (m_leaves, .inl (G.2 0, 31, .inl (cI N_l_10)))]) [1, 2, 3, 0, 4, 5, 6] rfl rfl
            exact g_iret (v := (iI w_14)) hx hb hr hlocks hP hD hS (⟨w_14, N_h_7, mr, N_f_8, N_w_9, N_l_10, (by first | exact k_11 | exact bd_mono k_11 (by omega) (by omega) | assumption), (by first | exact k_12 | exact bd_mono k_12 (by omega) (by omega) | assumption), rfl, rfl⟩) dX11_few_76
        · have c_16 : ¬ (a2 = (-1)) := fun h9 => c_16 ((iI_eq (a := a2) (b := (-1)) (by omega) (by first | decide | omega)).mpr h9)
          refine lv_iload_n hx hb dX11_few_58 rfl (lv_at hl 4 rfl) ?_
          refine lv_iload hx hb dX11_few_59 (lv_at hl 0 rfl) ?_
          refine lv_icmp_lt (tgt := 77) hx hb dX11_few_61 (by decide) (fun c_18 => ?_) (fun c_18 => ?_)
          · have c_18 := (iI_lt (a := a2) (b := w_14) (by omega) (by omega)).mp c_18
            refine lv_iconst (v := iI 0) hx hb dX11_few_77 rfl ?_
            refine lv_istore (lv' := [(5, .int (iI 0)), (4, .int (iI w_14)), (3, .int (iI w_13)), (0, .ref m0), (1, .int (iI a1)), (2, .int (iI a2))]) hx hb dX11_few_78 hl (by decide) rfl (fun ls hl => ?_)
            refine g_loopN (pc := 80) (fun nn H locs ls => ∃ t0__19 : Int, ∃ i0__20 : Int, (0 ≤ t0__19 ∧ t0__19 ≤ 30) ∧ (0 ≤ i0__20 ∧ i0__20 ≤ a2) ∧ (a2 - i0__20).toNat = nn ∧ va_P G.1 vwCl [(m_refused, .inl (G.2 0, 3, .inl (cI mr))), (m0, .inr (10, [.ref m_all, .ref m_kept, .ref m_isKept, .ref m_refused, .long (lI m_above), .long (lI m_below), .ref m_hand, .ref m_fewest, .ref m_whoBites, .ref m_leaves, .ref m_bestFeast, .ref m_tells, .ref m_hardOn, .ref m_bytes, .int (iI m_bytesLong), .int (iI m_tokenAt), .int (iI m_tokenLong), .int (iI m_token), .int (iI m_value), .ref m_anew, .ref m_values])), (m_all, .inl (G.2 0, 311, .inl (cI mF))), (m_hand, .inl (G.2 0, 56, .inl (cI N_h_7))), (m_fewest, .inl (G.2 0, 31, .inl (cI N_f_8))), (m_whoBites, .inl (G.2 0, 31, .inl (cI N_w_9))), (m_leaves, .inl (G.2 0, 31, .inl (cI N_l_10)))] H ∧ va_D A [(m_refused, .inl (G.2 0, 3, .inl (cI mr))), (m0, .inr (10, [.ref m_all, .ref m_kept, .ref m_isKept, .ref m_refused, .long (lI m_above), .long (lI m_below), .ref m_hand, .ref m_fewest, .ref m_whoBites, .ref m_leaves, .ref m_bestFeast, .ref m_tells, .ref m_hardOn, .ref m_bytes, .int (iI m_bytesLong), .int (iI m_tokenAt), .int (iI m_tokenLong), .int (iI m_token), .int (iI m_value), .ref m_anew, .ref m_values])), (m_all, .inl (G.2 0, 311, .inl (cI mF))), (m_hand, .inl (G.2 0, 56, .inl (cI N_h_7))), (m_fewest, .inl (G.2 0, 31, .inl (cI N_f_8))), (m_whoBites, .inl (G.2 0, 31, .inl (cI N_w_9))), (m_leaves, .inl (G.2 0, 31, .inl (cI N_l_10)))] ∧ va_S A s.heap H locs ∧ lv_has ls 6 [(5, .int (iI i0__20)), (4, .int (iI w_14)), (3, .int (iI t0__19)), (0, .ref m0), (1, .int (iI a1)), (2, .int (iI a2))]) ?_ ⟨w_13, 0, (by first | assumption | omega), (by first | assumption | omega), rfl, hP, hD, hS, lv_sub hl [0, 1, 2, 3, 4, 5] rfl⟩
            intro nn_24 H locs ls ih_23 hI
            refine ea_2_7 hI (fun t0__19 i0__20 f_21 f_22 hnn_25 hP hD hS hl => ?_)
            clear hI
            refine lv_iload hx hb dX11_few_80 (lv_at hl 0 rfl) ?_
            refine lv_iload_n hx hb dX11_few_82 rfl (lv_at hl 5 rfl) ?_
            refine lv_icmp_ge (tgt := 99) hx hb dX11_few_83 (by decide) (fun c_26 => ?_) (fun c_26 => ?_)
            · have c_26 := (iI_le (a := a2) (b := i0__20) (by omega) (by omega)).mp c_26
              refine lv_aload_n hx hb dX11_few_99 rfl (lv_at hl 3 rfl) ?_
              refine va_get (D := G.1) (ci := 10) (v := .ref m_whoBites) (C := RX11) (T := TX11) (N := 21) hx hb hts (fun _ h => List.mem_cons_of_mem _ (inlX11 _ h)) hown hK hP 1 rfl rfl 8 (by decide) (hts _ (List.mem_cons_of_mem _ (in_r6 (List.mem_of_getElem? (i := 7) rfl)))) (fun _ h9 => h9) rfl dX11_few_100 ?_
              refine lv_iload_n hx hb dX11_few_103 rfl (lv_at hl 2 rfl) ?_
              refine g_ildo hx hb hK hP 5 rfl (by omega) (by omega) (by first | exact Nat.le_of_ble_eq_true rfl | omega) dX11_few_104 (fun w_27 hw_27 => ?_)
              have hP := hP.sub (ws' := [(m0, .inr (10, [.ref m_all, .ref m_kept, .ref m_isKept, .ref m_refused, .long (lI m_above), .long (lI m_below), .ref m_hand, .ref m_fewest, .ref m_whoBites, .ref m_leaves, .ref m_bestFeast, .ref m_tells, .ref m_hardOn, .ref m_bytes, .int (iI m_bytesLong), .int (iI m_tokenAt), .int (iI m_tokenLong), .int (iI m_token), .int (iI m_value), .ref m_anew, .ref m_values])), (m_all, .inl (G.2 0, 311, .inl (cI mF))), (m_hand, .inl (G.2 0, 56, .inl (cI N_h_7))), (m_refused, .inl (G.2 0, 3, .inl (cI mr))), (m_fewest, .inl (G.2 0, 31, .inl (cI N_f_8))), (m_whoBites, .inl (G.2 0, 31, .inl (cI N_w_9))), (m_leaves, .inl (G.2 0, 31, .inl (cI N_l_10)))]) [1, 2, 3, 0, 4, 5, 6] rfl
              have hD := hD.sub (ws' := [(m0, .inr (10, [.ref m_all, .ref m_kept, .ref m_isKept, .ref m_refused, .long (lI m_above), .long (lI m_below), .ref m_hand, .ref m_fewest, .ref m_whoBites, .ref m_leaves, .ref m_bestFeast, .ref m_tells, .ref m_hardOn, .ref m_bytes, .int (iI m_bytesLong), .int (iI m_tokenAt), .int (iI m_tokenLong), .int (iI m_token), .int (iI m_value), .ref m_anew, .ref m_values])), (m_all, .inl (G.2 0, 311, .inl (cI mF))), (m_hand, .inl (G.2 0, 56, .inl (cI N_h_7))), (m_refused, .inl (G.2 0, 3, .inl (cI mr))), (m_fewest, .inl (G.2 0, 31, .inl (cI N_f_8))), (m_whoBites, .inl (G.2 0, 31, .inl (cI N_w_9))), (m_leaves, .inl (G.2 0, 31, .inl (cI N_l_10)))]) [1, 2, 3, 0, 4, 5, 6] rfl rfl
              exact g_iret (v := (iI w_27)) hx hb hr hlocks hP hD hS (⟨w_27, N_h_7, mr, N_f_8, N_w_9, N_l_10, (by first | exact k_11 | exact bd_mono k_11 (by omega) (by omega) | assumption), (by first | exact k_12 | exact bd_mono k_12 (by omega) (by omega) | assumption), rfl, rfl⟩) dX11_few_105
            · have c_26 : ¬ (a2 ≤ i0__20) := fun h9 => c_26 ((iI_le (a := a2) (b := i0__20) (by omega) (by omega)).mpr h9)
              refine lv_aload_n hx hb dX11_few_86 rfl (lv_at hl 3 rfl) ?_
              refine va_get (D := G.1) (ci := 10) (v := .ref m_leaves) (C := RX11) (T := TX11) (N := 21) hx hb hts (fun _ h => List.mem_cons_of_mem _ (inlX11 _ h)) hown hK hP 1 rfl rfl 9 (by decide) (hts _ (List.mem_cons_of_mem _ (in_r6 (List.mem_of_getElem? (i := 8) rfl)))) (fun _ h9 => h9) rfl dX11_few_87 ?_
              refine lv_iload_n hx hb dX11_few_90 rfl (lv_at hl 2 rfl) ?_
              refine g_ild hx hb hK hP 6 rfl (by omega) (by omega) (by first | exact Nat.le_of_ble_eq_true rfl | omega) dX11_few_91 (fun w_28 ew_28 => ?_)
              have b0w_28 : _ := k_12 (t0__19.toNat)
              rw [ew_28] at b0w_28
              refine lv_istore_n (lv' := [(3, .int (iI w_28)), (5, .int (iI i0__20)), (4, .int (iI w_14)), (0, .ref m0), (1, .int (iI a1)), (2, .int (iI a2))]) hx hb dX11_few_92 rfl hl (by decide) rfl (fun ls hl => ?_)
              refine lv_iinc (v := iI (i0__20 + 1)) (lv' := [(5, .int (iI (i0__20 + 1))), (3, .int (iI w_28)), (4, .int (iI w_14)), (0, .ref m0), (1, .int (iI a1)), (2, .int (iI a2))]) hx hb dX11_few_93 hl (k := 1) rfl (iI_add i0__20 1) (by decide) rfl (fun ls hl => ?_)
              refine lv_goto (tgt := 80) hx hb dX11_few_96 (by decide) ?_
              exact ih_23 _ _ _ _ (by omega) ⟨w_28, (i0__20 + 1), (by first | assumption | omega), (by first | assumption | omega), rfl, hP, hD, hS, lv_sub hl [0, 2, 1, 3, 4, 5] rfl⟩
          · have c_18 : ¬ (a2 < w_14) := fun h9 => c_18 ((iI_lt (a := a2) (b := w_14) (by omega) (by omega)).mpr h9)
            refine lv_iload_n hx hb dX11_few_64 rfl (lv_at hl 4 rfl) ?_
            refine lv_iconst (v := iI (-1)) hx hb dX11_few_65 rfl ?_
            refine lv_icmp_ne (tgt := 74) hx hb dX11_few_66 (by decide) (fun c_29 => ?_) (fun c_29 => ?_)
            · have c_29 : ¬ (a2 = (-1)) := fun h9 => c_29 ((iI_eq (a := a2) (b := (-1)) (by omega) (by first | decide | omega)).mpr h9)
              refine lv_bipush (v := iI (-5)) hx hb dX11_few_74 (by decide) ?_
              have hP := hP.sub (ws' := [(m0, .inr (10, [.ref m_all, .ref m_kept, .ref m_isKept, .ref m_refused, .long (lI m_above), .long (lI m_below), .ref m_hand, .ref m_fewest, .ref m_whoBites, .ref m_leaves, .ref m_bestFeast, .ref m_tells, .ref m_hardOn, .ref m_bytes, .int (iI m_bytesLong), .int (iI m_tokenAt), .int (iI m_tokenLong), .int (iI m_token), .int (iI m_value), .ref m_anew, .ref m_values])), (m_all, .inl (G.2 0, 311, .inl (cI mF))), (m_hand, .inl (G.2 0, 56, .inl (cI N_h_7))), (m_refused, .inl (G.2 0, 3, .inl (cI mr))), (m_fewest, .inl (G.2 0, 31, .inl (cI N_f_8))), (m_whoBites, .inl (G.2 0, 31, .inl (cI N_w_9))), (m_leaves, .inl (G.2 0, 31, .inl (cI N_l_10)))]) [1, 2, 3, 0, 4, 5, 6] rfl
              have hD := hD.sub (ws' := [(m0, .inr (10, [.ref m_all, .ref m_kept, .ref m_isKept, .ref m_refused, .long (lI m_above), .long (lI m_below), .ref m_hand, .ref m_fewest, .ref m_whoBites, .ref m_leaves, .ref m_bestFeast, .ref m_tells, .ref m_hardOn, .ref m_bytes, .int (iI m_bytesLong), .int (iI m_tokenAt), .int (iI m_tokenLong), .int (iI m_token), .int (iI m_value), .ref m_anew, .ref m_values])), (m_all, .inl (G.2 0, 311, .inl (cI mF))), (m_hand, .inl (G.2 0, 56, .inl (cI N_h_7))), (m_refused, .inl (G.2 0, 3, .inl (cI mr))), (m_fewest, .inl (G.2 0, 31, .inl (cI N_f_8))), (m_whoBites, .inl (G.2 0, 31, .inl (cI N_w_9))), (m_leaves, .inl (G.2 0, 31, .inl (cI N_l_10)))]) [1, 2, 3, 0, 4, 5, 6] rfl rfl
              exact g_iret (v := (iI (-5))) hx hb hr hlocks hP hD hS (⟨(-5), N_h_7, mr, N_f_8, N_w_9, N_l_10, (by first | exact k_11 | exact bd_mono k_11 (by omega) (by omega) | assumption), (by first | exact k_12 | exact bd_mono k_12 (by omega) (by omega) | assumption), rfl, rfl⟩) dX11_few_76
            · have c_29 := (iI_eq (a := a2) (b := (-1)) (by omega) (by first | decide | omega)).mp c_29
              refine lv_iload hx hb dX11_few_69 (lv_at hl 0 rfl) ?_
              refine lv_goto (tgt := 76) hx hb dX11_few_71 (by decide) ?_
              have hP := hP.sub (ws' := [(m0, .inr (10, [.ref m_all, .ref m_kept, .ref m_isKept, .ref m_refused, .long (lI m_above), .long (lI m_below), .ref m_hand, .ref m_fewest, .ref m_whoBites, .ref m_leaves, .ref m_bestFeast, .ref m_tells, .ref m_hardOn, .ref m_bytes, .int (iI m_bytesLong), .int (iI m_tokenAt), .int (iI m_tokenLong), .int (iI m_token), .int (iI m_value), .ref m_anew, .ref m_values])), (m_all, .inl (G.2 0, 311, .inl (cI mF))), (m_hand, .inl (G.2 0, 56, .inl (cI N_h_7))), (m_refused, .inl (G.2 0, 3, .inl (cI mr))), (m_fewest, .inl (G.2 0, 31, .inl (cI N_f_8))), (m_whoBites, .inl (G.2 0, 31, .inl (cI N_w_9))), (m_leaves, .inl (G.2 0, 31, .inl (cI N_l_10)))]) [1, 2, 3, 0, 4, 5, 6] rfl
              have hD := hD.sub (ws' := [(m0, .inr (10, [.ref m_all, .ref m_kept, .ref m_isKept, .ref m_refused, .long (lI m_above), .long (lI m_below), .ref m_hand, .ref m_fewest, .ref m_whoBites, .ref m_leaves, .ref m_bestFeast, .ref m_tells, .ref m_hardOn, .ref m_bytes, .int (iI m_bytesLong), .int (iI m_tokenAt), .int (iI m_tokenLong), .int (iI m_token), .int (iI m_value), .ref m_anew, .ref m_values])), (m_all, .inl (G.2 0, 311, .inl (cI mF))), (m_hand, .inl (G.2 0, 56, .inl (cI N_h_7))), (m_refused, .inl (G.2 0, 3, .inl (cI mr))), (m_fewest, .inl (G.2 0, 31, .inl (cI N_f_8))), (m_whoBites, .inl (G.2 0, 31, .inl (cI N_w_9))), (m_leaves, .inl (G.2 0, 31, .inl (cI N_l_10)))]) [1, 2, 3, 0, 4, 5, 6] rfl rfl
              exact g_iret (v := (iI w_14)) hx hb hr hlocks hP hD hS (⟨w_14, N_h_7, mr, N_f_8, N_w_9, N_l_10, (by first | exact k_11 | exact bd_mono k_11 (by omega) (by omega) | assumption), (by first | exact k_12 | exact bd_mono k_12 (by omega) (by omega) | assumption), rfl, rfl⟩) dX11_few_76
      · have c_15 : ¬ (w_14 < 1000000) := fun h9 => c_15 ((iI_lt (a := w_14) (b := 1000000) (by omega) (by first | decide | omega)).mpr h9)
        refine lv_bipush (v := iI (-6)) hx hb dX11_few_50 (by decide) ?_
        have hP := hP.sub (ws' := [(m0, .inr (10, [.ref m_all, .ref m_kept, .ref m_isKept, .ref m_refused, .long (lI m_above), .long (lI m_below), .ref m_hand, .ref m_fewest, .ref m_whoBites, .ref m_leaves, .ref m_bestFeast, .ref m_tells, .ref m_hardOn, .ref m_bytes, .int (iI m_bytesLong), .int (iI m_tokenAt), .int (iI m_tokenLong), .int (iI m_token), .int (iI m_value), .ref m_anew, .ref m_values])), (m_all, .inl (G.2 0, 311, .inl (cI mF))), (m_hand, .inl (G.2 0, 56, .inl (cI N_h_7))), (m_refused, .inl (G.2 0, 3, .inl (cI mr))), (m_fewest, .inl (G.2 0, 31, .inl (cI N_f_8))), (m_whoBites, .inl (G.2 0, 31, .inl (cI N_w_9))), (m_leaves, .inl (G.2 0, 31, .inl (cI N_l_10)))]) [1, 2, 3, 0, 4, 5, 6] rfl
        have hD := hD.sub (ws' := [(m0, .inr (10, [.ref m_all, .ref m_kept, .ref m_isKept, .ref m_refused, .long (lI m_above), .long (lI m_below), .ref m_hand, .ref m_fewest, .ref m_whoBites, .ref m_leaves, .ref m_bestFeast, .ref m_tells, .ref m_hardOn, .ref m_bytes, .int (iI m_bytesLong), .int (iI m_tokenAt), .int (iI m_tokenLong), .int (iI m_token), .int (iI m_value), .ref m_anew, .ref m_values])), (m_all, .inl (G.2 0, 311, .inl (cI mF))), (m_hand, .inl (G.2 0, 56, .inl (cI N_h_7))), (m_refused, .inl (G.2 0, 3, .inl (cI mr))), (m_fewest, .inl (G.2 0, 31, .inl (cI N_f_8))), (m_whoBites, .inl (G.2 0, 31, .inl (cI N_w_9))), (m_leaves, .inl (G.2 0, 31, .inl (cI N_l_10)))]) [1, 2, 3, 0, 4, 5, 6] rfl rfl
        exact g_iret (v := (iI (-6))) hx hb hr hlocks hP hD hS (⟨(-6), N_h_7, mr, N_f_8, N_w_9, N_l_10, (by first | exact k_11 | exact bd_mono k_11 (by omega) (by omega) | assumption), (by first | exact k_12 | exact bd_mono k_12 (by omega) (by omega) | assumption), rfl, rfl⟩) dX11_few_52
    · have c_6 : ¬ ((-1) ≤ a2) := fun h9 => c_6 ((iI_le (a := (-1)) (b := a2) (by first | decide | omega) (by omega)).mpr h9)
      refine lv_aload_n hx hb dX11_few_13 rfl (lv_at hl 0 rfl) ?_
      refine lv_bipush (v := iI (-10)) hx hb dX11_few_14 (by decide) ?_
      refine g_calli (wr := [(m_hand, .inl (G.2 0, 56, .inl (cI mh))), (m_fewest, .inl (G.2 0, 31, .inl (cI mf))), (m_whoBites, .inl (G.2 0, 31, .inl (cI mw))), (m_leaves, .inl (G.2 0, 31, .inl (cI ml))), (m_all, .inl (G.2 0, 311, .inl (cI mF)))]) (va_runV (As := [.int (iI (-10))]) (rest := []) ⟨hx, hb, hml, hown, hts⟩ (c_X11_bad l G (m0) (m_all) (m_kept) (m_isKept) (m_refused) (m_above) (m_below) (m_hand) (m_fewest) (m_whoBites) (m_leaves) (m_bestFeast) (m_tells) (m_hardOn) (m_bytes) (m_bytesLong) (m_tokenAt) (m_tokenLong) (m_token) (m_value) (m_anew) (m_values) (mr) ((-10)) (by first | assumption | omega) _) (cwV 1 hts gX11_few_X11_bad rfl rfl rfl (by decide +kernel) ⟨Nat.le_of_ble_eq_true rfl, Nat.le_of_ble_eq_true rfl⟩) (g_preV m0 [.int (iI (-10))] hP hD hK hN hS hA hZ [5, 1] rfl rfl 5 (ci := 10) rfl rfl) rfl rfl hl.1 rfl (lv_room (Nat.le_of_ble_eq_true rfl)) dX11_few_16 ⟨Nat.le_of_ble_eq_true rfl, Nat.le_of_ble_eq_true rfl⟩) hP hD hS hA [5, 1] [0, 2, 3, 4, 6] rfl rfl rfl (by decide) (fun r_30 u H locs hw hP hD hS => ?_)
      obtain ⟨Nr_31, rfl, rfl⟩ := hw
      have hPD : PD G A H [(m_hand, .inl (G.2 0, 56, .inl (cI mh))), (m_fewest, .inl (G.2 0, 31, .inl (cI mf))), (m_whoBites, .inl (G.2 0, 31, .inl (cI mw))), (m_leaves, .inl (G.2 0, 31, .inl (cI ml))), (m_all, .inl (G.2 0, 311, .inl (cI mF))), (m0, .inr (10, [.ref m_all, .ref m_kept, .ref m_isKept, .ref m_refused, .long (lI m_above), .long (lI m_below), .ref m_hand, .ref m_fewest, .ref m_whoBites, .ref m_leaves, .ref m_bestFeast, .ref m_tells, .ref m_hardOn, .ref m_bytes, .int (iI m_bytesLong), .int (iI m_tokenAt), .int (iI m_tokenLong), .int (iI m_token), .int (iI m_value), .ref m_anew, .ref m_values])), (m_refused, .inl (G.2 0, 3, .inl (cI Nr_31)))] := ⟨hP, hD⟩
      have hP := hPD.1
      have hD := hPD.2
      clear hPD
      have hP := hP.sub (ws' := [(m0, .inr (10, [.ref m_all, .ref m_kept, .ref m_isKept, .ref m_refused, .long (lI m_above), .long (lI m_below), .ref m_hand, .ref m_fewest, .ref m_whoBites, .ref m_leaves, .ref m_bestFeast, .ref m_tells, .ref m_hardOn, .ref m_bytes, .int (iI m_bytesLong), .int (iI m_tokenAt), .int (iI m_tokenLong), .int (iI m_token), .int (iI m_value), .ref m_anew, .ref m_values])), (m_all, .inl (G.2 0, 311, .inl (cI mF))), (m_hand, .inl (G.2 0, 56, .inl (cI mh))), (m_refused, .inl (G.2 0, 3, .inl (cI Nr_31))), (m_fewest, .inl (G.2 0, 31, .inl (cI mf))), (m_whoBites, .inl (G.2 0, 31, .inl (cI mw))), (m_leaves, .inl (G.2 0, 31, .inl (cI ml)))]) [5, 4, 0, 6, 1, 2, 3] rfl
      have hD := hD.sub (ws' := [(m0, .inr (10, [.ref m_all, .ref m_kept, .ref m_isKept, .ref m_refused, .long (lI m_above), .long (lI m_below), .ref m_hand, .ref m_fewest, .ref m_whoBites, .ref m_leaves, .ref m_bestFeast, .ref m_tells, .ref m_hardOn, .ref m_bytes, .int (iI m_bytesLong), .int (iI m_tokenAt), .int (iI m_tokenLong), .int (iI m_token), .int (iI m_value), .ref m_anew, .ref m_values])), (m_all, .inl (G.2 0, 311, .inl (cI mF))), (m_hand, .inl (G.2 0, 56, .inl (cI mh))), (m_refused, .inl (G.2 0, 3, .inl (cI Nr_31))), (m_fewest, .inl (G.2 0, 31, .inl (cI mf))), (m_whoBites, .inl (G.2 0, 31, .inl (cI mw))), (m_leaves, .inl (G.2 0, 31, .inl (cI ml)))]) [5, 4, 0, 6, 1, 2, 3] rfl rfl
      exact g_iret (v := (iI (-10))) hx hb hr hlocks hP hD hS (⟨(-10), mh, Nr_31, mf, mw, ml, (by first | exact y1_ | exact bd_mono y1_ (by omega) (by omega) | assumption), (by first | exact y2_ | exact bd_mono y2_ (by omega) (by omega) | assumption), rfl, rfl⟩) dX11_few_19
  · refine ea_0_3 hw (fun k_4 e8_0 e8_1 => ?_)
    subst e8_0
    subst e8_1
    clear hw
    have hPD : PD G A H [(m_hand, .inl (G.2 0, 56, .inl (cI mh))), (m_refused, .inl (G.2 0, 3, .inl (cI mr))), (m_fewest, .inl (G.2 0, 31, .inl (cI mf))), (m_whoBites, .inl (G.2 0, 31, .inl (cI mw))), (m_leaves, .inl (G.2 0, 31, .inl (cI ml))), (m0, .inr (10, [.ref m_all, .ref m_kept, .ref m_isKept, .ref m_refused, .long (lI m_above), .long (lI m_below), .ref m_hand, .ref m_fewest, .ref m_whoBites, .ref m_leaves, .ref m_bestFeast, .ref m_tells, .ref m_hardOn, .ref m_bytes, .int (iI m_bytesLong), .int (iI m_tokenAt), .int (iI m_tokenLong), .int (iI m_token), .int (iI m_value), .ref m_anew, .ref m_values])), (m_all, .inl (G.2 0, 311, .inl (cI mF)))] := ⟨hP, hD⟩
    have hP := hPD.1
    have hD := hPD.2
    clear hPD
    refine lv_if_eq (tgt := 13) hx hb dX11_few_5 (by decide) (fun _ => ?_) (fun c_32 => g_no (by decide) c_32)
    refine lv_aload_n hx hb dX11_few_13 rfl (lv_at hl 0 rfl) ?_
    refine lv_bipush (v := iI (-10)) hx hb dX11_few_14 (by decide) ?_
    refine g_calli (wr := [(m_hand, .inl (G.2 0, 56, .inl (cI mh))), (m_fewest, .inl (G.2 0, 31, .inl (cI mf))), (m_whoBites, .inl (G.2 0, 31, .inl (cI mw))), (m_leaves, .inl (G.2 0, 31, .inl (cI ml))), (m_all, .inl (G.2 0, 311, .inl (cI mF)))]) (va_runV (As := [.int (iI (-10))]) (rest := []) ⟨hx, hb, hml, hown, hts⟩ (c_X11_bad l G (m0) (m_all) (m_kept) (m_isKept) (m_refused) (m_above) (m_below) (m_hand) (m_fewest) (m_whoBites) (m_leaves) (m_bestFeast) (m_tells) (m_hardOn) (m_bytes) (m_bytesLong) (m_tokenAt) (m_tokenLong) (m_token) (m_value) (m_anew) (m_values) (mr) ((-10)) (by first | assumption | omega) _) (cwV 1 hts gX11_few_X11_bad rfl rfl rfl (by decide +kernel) ⟨Nat.le_of_ble_eq_true rfl, Nat.le_of_ble_eq_true rfl⟩) (g_preV m0 [.int (iI (-10))] hP hD hK hN hS hA hZ [5, 1] rfl rfl 5 (ci := 10) rfl rfl) rfl rfl hl.1 rfl (lv_room (Nat.le_of_ble_eq_true rfl)) dX11_few_16 ⟨Nat.le_of_ble_eq_true rfl, Nat.le_of_ble_eq_true rfl⟩) hP hD hS hA [5, 1] [0, 2, 3, 4, 6] rfl rfl rfl (by decide) (fun r_33 u H locs hw hP hD hS => ?_)
    obtain ⟨Nr_34, rfl, rfl⟩ := hw
    have hPD : PD G A H [(m_hand, .inl (G.2 0, 56, .inl (cI mh))), (m_fewest, .inl (G.2 0, 31, .inl (cI mf))), (m_whoBites, .inl (G.2 0, 31, .inl (cI mw))), (m_leaves, .inl (G.2 0, 31, .inl (cI ml))), (m_all, .inl (G.2 0, 311, .inl (cI mF))), (m0, .inr (10, [.ref m_all, .ref m_kept, .ref m_isKept, .ref m_refused, .long (lI m_above), .long (lI m_below), .ref m_hand, .ref m_fewest, .ref m_whoBites, .ref m_leaves, .ref m_bestFeast, .ref m_tells, .ref m_hardOn, .ref m_bytes, .int (iI m_bytesLong), .int (iI m_tokenAt), .int (iI m_tokenLong), .int (iI m_token), .int (iI m_value), .ref m_anew, .ref m_values])), (m_refused, .inl (G.2 0, 3, .inl (cI Nr_34)))] := ⟨hP, hD⟩
    have hP := hPD.1
    have hD := hPD.2
    clear hPD
    have hP := hP.sub (ws' := [(m0, .inr (10, [.ref m_all, .ref m_kept, .ref m_isKept, .ref m_refused, .long (lI m_above), .long (lI m_below), .ref m_hand, .ref m_fewest, .ref m_whoBites, .ref m_leaves, .ref m_bestFeast, .ref m_tells, .ref m_hardOn, .ref m_bytes, .int (iI m_bytesLong), .int (iI m_tokenAt), .int (iI m_tokenLong), .int (iI m_token), .int (iI m_value), .ref m_anew, .ref m_values])), (m_all, .inl (G.2 0, 311, .inl (cI mF))), (m_hand, .inl (G.2 0, 56, .inl (cI mh))), (m_refused, .inl (G.2 0, 3, .inl (cI Nr_34))), (m_fewest, .inl (G.2 0, 31, .inl (cI mf))), (m_whoBites, .inl (G.2 0, 31, .inl (cI mw))), (m_leaves, .inl (G.2 0, 31, .inl (cI ml)))]) [5, 4, 0, 6, 1, 2, 3] rfl
    have hD := hD.sub (ws' := [(m0, .inr (10, [.ref m_all, .ref m_kept, .ref m_isKept, .ref m_refused, .long (lI m_above), .long (lI m_below), .ref m_hand, .ref m_fewest, .ref m_whoBites, .ref m_leaves, .ref m_bestFeast, .ref m_tells, .ref m_hardOn, .ref m_bytes, .int (iI m_bytesLong), .int (iI m_tokenAt), .int (iI m_tokenLong), .int (iI m_token), .int (iI m_value), .ref m_anew, .ref m_values])), (m_all, .inl (G.2 0, 311, .inl (cI mF))), (m_hand, .inl (G.2 0, 56, .inl (cI mh))), (m_refused, .inl (G.2 0, 3, .inl (cI Nr_34))), (m_fewest, .inl (G.2 0, 31, .inl (cI mf))), (m_whoBites, .inl (G.2 0, 31, .inl (cI mw))), (m_leaves, .inl (G.2 0, 31, .inl (cI ml)))]) [5, 4, 0, 6, 1, 2, 3] rfl rfl
    exact g_iret (v := (iI (-10))) hx hb hr hlocks hP hD hS (⟨(-10), mh, Nr_34, mf, mw, ml, (by first | exact y1_ | exact bd_mono y1_ (by omega) (by omega) | assumption), (by first | exact y2_ | exact bd_mono y2_ (by omega) (by omega) | assumption), rfl, rfl⟩) dX11_few_19
theorem dX11_feastBy_0 : decode cX11_feastBy 0 = .ok (.iconst 1, 1) := kd_4 (by decide +kernel)
theorem dX11_feastBy_1 : decode cX11_feastBy 1 = .ok (.istore_n 2, 1) := kd_61 (by decide +kernel)
theorem dX11_feastBy_2 : decode cX11_feastBy 2 = .ok (.iconst 0, 1) := kd_3 (by decide +kernel)
theorem dX11_feastBy_3 : decode cX11_feastBy 3 = .ok (.istore_n 3, 1) := kd_62 (by decide +kernel)
theorem dX11_feastBy_4 : decode cX11_feastBy 4 = .ok (.iload_n 1, 1) := kd_27 (by decide +kernel)
theorem dX11_feastBy_5 : decode cX11_feastBy 5 = .ok (.istore 4, 2) := kd_54 (a := 4) (by decide +kernel)
theorem dX11_feastBy_7 : decode cX11_feastBy 7 = .ok (.aload_n 0, 1) := kd_42 (by decide +kernel)
theorem gX11_feastBy_X11_layHand : GoodIn wsX11_feastBy (wsV RX11 162 RX11 yX11_layHand wsX11_layHand) := gW_V (in_r28 (List.mem_of_getElem? (i := 4) rfl)) (in_r28 (List.mem_of_getElem? (i := 5) rfl)) (in_r28 (List.mem_of_getElem? (i := 6) rfl)) (in_r1 (List.mem_of_getElem? (i := 5) rfl)) (in_r28 (List.mem_of_getElem? (i := 7) rfl))
theorem dX11_feastBy_8 : decode cX11_feastBy 8 = .ok (.invokevirtual 162, 3) := kd_182 (a := 0) (b := 162) (by decide +kernel)
theorem dX11_feastBy_11 : decode cX11_feastBy 11 = .ok (.iconst 1, 1) := kd_4 (by decide +kernel)
theorem dX11_feastBy_12 : decode cX11_feastBy 12 = .ok (.istore 5, 2) := kd_54 (a := 5) (by decide +kernel)
theorem dX11_feastBy_14 : decode cX11_feastBy 14 = .ok (.iload 5, 2) := kd_21 (a := 5) (by decide +kernel)
theorem dX11_feastBy_16 : decode cX11_feastBy 16 = .ok (.aload_n 0, 1) := kd_42 (by decide +kernel)
theorem dX11_feastBy_17 : decode cX11_feastBy 17 = .ok (.getfield 7, 3) := kd_180 (a := 0) (b := 7) (by decide +kernel)
theorem dX11_feastBy_20 : decode cX11_feastBy 20 = .ok (.iconst 1, 1) := kd_4 (by decide +kernel)
theorem dX11_feastBy_21 : decode cX11_feastBy 21 = .ok (.iaload, 1) := kd_46 (by decide +kernel)
theorem dX11_feastBy_22 : decode cX11_feastBy 22 = .ok (.if_icmp .ge 14, 3) := kd_162 (a := 0) (b := 14) (by decide +kernel)
theorem dX11_feastBy_36 : decode cX11_feastBy 36 = .ok (.iconst 0, 1) := kd_3 (by decide +kernel)
theorem dX11_feastBy_37 : decode cX11_feastBy 37 = .ok (.istore 5, 2) := kd_54 (a := 5) (by decide +kernel)
theorem dX11_feastBy_39 : decode cX11_feastBy 39 = .ok (.iload 5, 2) := kd_21 (a := 5) (by decide +kernel)
theorem dX11_feastBy_41 : decode cX11_feastBy 41 = .ok (.aload_n 0, 1) := kd_42 (by decide +kernel)
theorem dX11_feastBy_42 : decode cX11_feastBy 42 = .ok (.getfield 7, 3) := kd_180 (a := 0) (b := 7) (by decide +kernel)
theorem dX11_feastBy_45 : decode cX11_feastBy 45 = .ok (.iconst 1, 1) := kd_4 (by decide +kernel)
theorem dX11_feastBy_46 : decode cX11_feastBy 46 = .ok (.iaload, 1) := kd_46 (by decide +kernel)
theorem dX11_feastBy_47 : decode cX11_feastBy 47 = .ok (.if_icmp .ge 79, 3) := kd_162 (a := 0) (b := 79) (by decide +kernel)
theorem dX11_feastBy_126 : decode cX11_feastBy 126 = .ok (.iload_n 3, 1) := kd_29 (by decide +kernel)
theorem dX11_feastBy_127 : decode cX11_feastBy 127 = .ok (.ireturn, 1) := kd_172 (by decide +kernel)
theorem dX11_feastBy_50 : decode cX11_feastBy 50 = .ok (.iload 4, 2) := kd_21 (a := 4) (by decide +kernel)
theorem dX11_feastBy_52 : decode cX11_feastBy 52 = .ok (.iload_n 2, 1) := kd_28 (by decide +kernel)
theorem dX11_feastBy_53 : decode cX11_feastBy 53 = .ok (.idiv, 1) := kd_108 (by decide +kernel)
theorem dX11_feastBy_54 : decode cX11_feastBy 54 = .ok (.iconst 1, 1) := kd_4 (by decide +kernel)
theorem dX11_feastBy_55 : decode cX11_feastBy 55 = .ok (.isub, 1) := kd_100 (by decide +kernel)
theorem dX11_feastBy_56 : decode cX11_feastBy 56 = .ok (.istore 6, 2) := kd_54 (a := 6) (by decide +kernel)
theorem dX11_feastBy_58 : decode cX11_feastBy 58 = .ok (.iload 4, 2) := kd_21 (a := 4) (by decide +kernel)
theorem dX11_feastBy_60 : decode cX11_feastBy 60 = .ok (.iload_n 2, 1) := kd_28 (by decide +kernel)
theorem dX11_feastBy_61 : decode cX11_feastBy 61 = .ok (.irem, 1) := kd_112 (by decide +kernel)
theorem dX11_feastBy_62 : decode cX11_feastBy 62 = .ok (.istore 4, 2) := kd_54 (a := 4) (by decide +kernel)
theorem dX11_feastBy_64 : decode cX11_feastBy 64 = .ok (.iload_n 2, 1) := kd_28 (by decide +kernel)
theorem dX11_feastBy_65 : decode cX11_feastBy 65 = .ok (.iconst 1, 1) := kd_4 (by decide +kernel)
theorem dX11_feastBy_66 : decode cX11_feastBy 66 = .ok (.if_icmp .le 10, 3) := kd_164 (a := 0) (b := 10) (by decide +kernel)
theorem dX11_feastBy_76 : decode cX11_feastBy 76 = .ok (.iconst 1, 1) := kd_4 (by decide +kernel)
theorem dX11_feastBy_69 : decode cX11_feastBy 69 = .ok (.iload_n 2, 1) := kd_28 (by decide +kernel)
theorem dX11_feastBy_70 : decode cX11_feastBy 70 = .ok (.bipush 8, 2) := kd_16 (a := 8) (by decide +kernel)
theorem dX11_feastBy_72 : decode cX11_feastBy 72 = .ok (.idiv, 1) := kd_108 (by decide +kernel)
theorem dX11_feastBy_73 : decode cX11_feastBy 73 = .ok (.goto 4, 3) := kd_167 (a := 0) (b := 4) (by decide +kernel)
theorem dX11_feastBy_77 : decode cX11_feastBy 77 = .ok (.istore_n 2, 1) := kd_61 (by decide +kernel)
theorem dX11_feastBy_78 : decode cX11_feastBy 78 = .ok (.iload 6, 2) := kd_21 (a := 6) (by decide +kernel)
theorem dX11_feastBy_80 : decode cX11_feastBy 80 = .ok (.aload_n 0, 1) := kd_42 (by decide +kernel)
theorem gX11_feastBy_X11_many : GoodIn wsX11_feastBy (wsV RX11 61 RX11 yX11_many wsX11_many) := gW_V (in_r7 (List.mem_of_getElem? (i := 12) rfl)) (in_r7 (List.mem_of_getElem? (i := 13) rfl)) (in_r7 (List.mem_of_getElem? (i := 14) rfl)) (in_r1 (List.mem_of_getElem? (i := 5) rfl)) (in_r7 (List.mem_of_getElem? (i := 15) rfl))
theorem dX11_feastBy_81 : decode cX11_feastBy 81 = .ok (.invokevirtual 61, 3) := kd_182 (a := 0) (b := 61) (by decide +kernel)
theorem dX11_feastBy_84 : decode cX11_feastBy 84 = .ok (.if_icmp .lt 5, 3) := kd_161 (a := 0) (b := 5) (by decide +kernel)
theorem dX11_feastBy_89 : decode cX11_feastBy 89 = .ok (.iload 6, 2) := kd_21 (a := 6) (by decide +kernel)
theorem dX11_feastBy_91 : decode cX11_feastBy 91 = .ok (.iconst (-1), 1) := kd_2 (by decide +kernel)
theorem dX11_feastBy_92 : decode cX11_feastBy 92 = .ok (.if_icmp .eq 28, 3) := kd_159 (a := 0) (b := 28) (by decide +kernel)
theorem dX11_feastBy_120 : decode cX11_feastBy 120 = .ok (.iinc 5 1, 3) := kd_132 (a := 5) (b := 1) (by decide +kernel)
theorem dX11_feastBy_123 : decode cX11_feastBy 123 = .ok (.goto (-84), 3) := kd_167 (a := 255) (b := 172) (by decide +kernel)
theorem dX11_feastBy_95 : decode cX11_feastBy 95 = .ok (.iload_n 3, 1) := kd_29 (by decide +kernel)
theorem dX11_feastBy_96 : decode cX11_feastBy 96 = .ok (.aload_n 0, 1) := kd_42 (by decide +kernel)
theorem dX11_feastBy_97 : decode cX11_feastBy 97 = .ok (.getfield 27, 3) := kd_180 (a := 0) (b := 27) (by decide +kernel)
theorem dX11_feastBy_100 : decode cX11_feastBy 100 = .ok (.iload 5, 2) := kd_21 (a := 5) (by decide +kernel)
theorem dX11_feastBy_102 : decode cX11_feastBy 102 = .ok (.iload 6, 2) := kd_21 (a := 6) (by decide +kernel)
theorem gX11_feastBy_X11_takesOff : GoodIn wsX11_feastBy (va_wsS RX11 124 yX11_takesOff wsX11_takesOff) := gW_S (in_r21 (List.mem_of_getElem? (i := 20) rfl)) (in_r21 (List.mem_of_getElem? (i := 21) rfl)) (in_r1 (List.mem_of_getElem? (i := 5) rfl)) (in_r21 (List.mem_of_getElem? (i := 22) rfl))
theorem dX11_feastBy_104 : decode cX11_feastBy 104 = .ok (.invokestatic 124, 3) := kd_184 (a := 0) (b := 124) (by decide +kernel)
theorem dX11_feastBy_107 : decode cX11_feastBy 107 = .ok (.iadd, 1) := kd_96 (by decide +kernel)
theorem dX11_feastBy_108 : decode cX11_feastBy 108 = .ok (.istore_n 3, 1) := kd_62 (by decide +kernel)
theorem dX11_feastBy_109 : decode cX11_feastBy 109 = .ok (.aload_n 0, 1) := kd_42 (by decide +kernel)
theorem dX11_feastBy_110 : decode cX11_feastBy 110 = .ok (.getfield 27, 3) := kd_180 (a := 0) (b := 27) (by decide +kernel)
theorem dX11_feastBy_113 : decode cX11_feastBy 113 = .ok (.iload 5, 2) := kd_21 (a := 5) (by decide +kernel)
theorem dX11_feastBy_115 : decode cX11_feastBy 115 = .ok (.iload 6, 2) := kd_21 (a := 6) (by decide +kernel)
theorem gX11_feastBy_X11_goBite : GoodIn wsX11_feastBy (va_wsS RX11 152 yX11_goBite wsX11_goBite) := gW_S (in_r21 (List.mem_of_getElem? (i := 17) rfl)) (in_r21 (List.mem_of_getElem? (i := 18) rfl)) (in_r1 (List.mem_of_getElem? (i := 5) rfl)) (in_r21 (List.mem_of_getElem? (i := 19) rfl))
theorem dX11_feastBy_117 : decode cX11_feastBy 117 = .ok (.invokestatic 152, 3) := kd_184 (a := 0) (b := 152) (by decide +kernel)
theorem dX11_feastBy_87 : decode cX11_feastBy 87 = .ok (.iconst (-1), 1) := kd_2 (by decide +kernel)
theorem dX11_feastBy_88 : decode cX11_feastBy 88 = .ok (.ireturn, 1) := kd_172 (by decide +kernel)
theorem dX11_feastBy_25 : decode cX11_feastBy 25 = .ok (.iload_n 2, 1) := kd_28 (by decide +kernel)
theorem dX11_feastBy_26 : decode cX11_feastBy 26 = .ok (.bipush 8, 2) := kd_16 (a := 8) (by decide +kernel)
theorem dX11_feastBy_28 : decode cX11_feastBy 28 = .ok (.imul, 1) := kd_104 (by decide +kernel)
theorem dX11_feastBy_29 : decode cX11_feastBy 29 = .ok (.istore_n 2, 1) := kd_61 (by decide +kernel)
theorem dX11_feastBy_30 : decode cX11_feastBy 30 = .ok (.iinc 5 1, 3) := kd_132 (a := 5) (b := 1) (by decide +kernel)
theorem dX11_feastBy_33 : decode cX11_feastBy 33 = .ok (.goto (-19), 3) := kd_167 (a := 255) (b := 237) (by decide +kernel)
set_option maxHeartbeats 8000000 in
set_option maxRecDepth 100000 in
theorem c_X11_feastBy (l : Launch) (G : gG) (m0 : Nat) (m_all : Nat) (m_kept : Nat) (m_isKept : Nat) (m_refused : Nat) (m_above : Int) (m_below : Int) (m_hand : Nat) (m_fewest : Nat) (m_whoBites : Nat) (m_leaves : Nat) (m_bestFeast : Nat) (m_tells : Nat) (m_hardOn : Nat) (m_bytes : Nat) (m_bytesLong : Int) (m_tokenAt : Int) (m_tokenLong : Int) (m_token : Int) (m_value : Int) (m_anew : Nat) (m_values : Nat) (mF : Nat → Int) (K0 : Int) (mh : Nat → Int) (a1 : Int) (y0_ : bp (plA K0) mF) (ra1 : -2147483648 ≤ a1 ∧ a1 ≤ 2147483647) (hc : 0 ≤ a1 ∧ a1 ≤ 4096) (hK0 : 1000 ≤ K0 ∧ K0 ≤ 2000000) (sz : Nat) : gI G l yX11_feastBy wsX11_feastBy ({ frames := 4, cells := 0, slots := 0, locals := 93 } : Room) [.ref m0, .int (iI a1)] [(m0, .inr (10, [.ref m_all, .ref m_kept, .ref m_isKept, .ref m_refused, .long (lI m_above), .long (lI m_below), .ref m_hand, .ref m_fewest, .ref m_whoBites, .ref m_leaves, .ref m_bestFeast, .ref m_tells, .ref m_hardOn, .ref m_bytes, .int (iI m_bytesLong), .int (iI m_tokenAt), .int (iI m_tokenLong), .int (iI m_token), .int (iI m_value), .ref m_anew, .ref m_values])), (m_all, .inl (G.2 0, 311, .inl (cI mF))), (m_hand, .inl (G.2 0, 56, .inl (cI mh)))] sz (fun (r : Int32) (u : va_W) => (∃ rr : Int, ∃ N_h : Nat → Int, (-1 ≤ rr ∧ rr ≤ 120) ∧ r = (iI rr) ∧ u = [(m0, .inr (10, [.ref m_all, .ref m_kept, .ref m_isKept, .ref m_refused, .long (lI m_above), .long (lI m_below), .ref m_hand, .ref m_fewest, .ref m_whoBites, .ref m_leaves, .ref m_bestFeast, .ref m_tells, .ref m_hardOn, .ref m_bytes, .int (iI m_bytesLong), .int (iI m_tokenAt), .int (iI m_tokenLong), .int (iI m_token), .int (iI m_value), .ref m_anew, .ref m_values])), (m_all, .inl (G.2 0, 311, .inl (cI mF))), (m_hand, .inl (G.2 0, 56, .inl (cI N_h)))])) := by
  refine Met.ofW (cc := cX11_feastBy) (maxL := 7) (ret := (some .int)) (by decide) rfl ?_
  intro p e s m args below meth c s₁ B hml hv
  obtain ⟨rfl, hsz, hP, hK, hD0, hN, hZ⟩ := hv
  have hx := B.exec
  have hb := B.bytes
  have hr := B.returns
  have hts := atoms_spec (ws := wsX11_feastBy) B.pre
  have hown : s.vm.findClass RX11 = some m.cls := findClass_of_methodNamed B.named
  have hlocks := B.notSynchronized
  subst hsz
  have hD := hD0.self (sz := s.heap.size)
  generalize hAe : va_A [(m0, .inr (10, [.ref m_all, .ref m_kept, .ref m_isKept, .ref m_refused, .long (lI m_above), .long (lI m_below), .ref m_hand, .ref m_fewest, .ref m_whoBites, .ref m_leaves, .ref m_bestFeast, .ref m_tells, .ref m_hardOn, .ref m_bytes, .int (iI m_bytesLong), .int (iI m_tokenAt), .int (iI m_tokenLong), .int (iI m_token), .int (iI m_value), .ref m_anew, .ref m_values])), (m_all, .inl (G.2 0, 311, .inl (cI mF))), (m_hand, .inl (G.2 0, 56, .inl (cI mh)))] s.heap.size = A at hD hZ ⊢
  have hA : ∀ q : Nat, s.heap.size ≤ q → A q := fun q h => by rw [← hAe]; exact Or.inr h
  have hS : va_S A s.heap s.heap [] := va_S.rf
  have hP : va_P G.1 vwCl [(m0, .inr (10, [.ref m_all, .ref m_kept, .ref m_isKept, .ref m_refused, .long (lI m_above), .long (lI m_below), .ref m_hand, .ref m_fewest, .ref m_whoBites, .ref m_leaves, .ref m_bestFeast, .ref m_tells, .ref m_hardOn, .ref m_bytes, .int (iI m_bytesLong), .int (iI m_tokenAt), .int (iI m_tokenLong), .int (iI m_token), .int (iI m_value), .ref m_anew, .ref m_values])), (m_all, .inl (G.2 0, 311, .inl (cI mF))), (m_hand, .inl (G.2 0, 56, .inl (cI mh)))] s.heap := hP
  have hl := lv_entry ([.ref m0, .int (iI a1)]) (n := 7) (Nat.le_of_ble_eq_true rfl)
  rw [lg_entry_eq]
  generalize (lg_sl ([.ref m0, .int (iI a1)]) ++ List.replicate (7 - (lg_sl ([.ref m0, .int (iI a1)])).length) Slot.unset).toArray = ls at hl ⊢
  have hl : lv_has ls 7 [(0, .ref m0), (1, .int (iI a1))] := hl
  refine lv_iconst (v := iI 1) hx hb dX11_feastBy_0 rfl ?_
  refine lv_istore_n (lv' := [(2, .int (iI 1)), (0, .ref m0), (1, .int (iI a1))]) hx hb dX11_feastBy_1 rfl hl (by decide) rfl (fun ls hl => ?_)
  refine lv_iconst (v := iI 0) hx hb dX11_feastBy_2 rfl ?_
  refine lv_istore_n (lv' := [(3, .int (iI 0)), (2, .int (iI 1)), (0, .ref m0), (1, .int (iI a1))]) hx hb dX11_feastBy_3 rfl hl (by decide) rfl (fun ls hl => ?_)
  refine lv_iload_n hx hb dX11_feastBy_4 rfl (lv_at hl 3 rfl) ?_
  refine lv_istore (lv' := [(4, .int (iI a1)), (3, .int (iI 0)), (2, .int (iI 1)), (0, .ref m0), (1, .int (iI a1))]) hx hb dX11_feastBy_5 hl (by decide) rfl (fun ls hl => ?_)
  refine lv_aload_n hx hb dX11_feastBy_7 rfl (lv_at hl 3 rfl) ?_
  refine g_callv (wr := []) (va_runV (As := []) (rest := []) ⟨hx, hb, hml, hown, hts⟩ (c_X11_layHand l G (m0) (m_all) (m_kept) (m_isKept) (m_refused) (m_above) (m_below) (m_hand) (m_fewest) (m_whoBites) (m_leaves) (m_bestFeast) (m_tells) (m_hardOn) (m_bytes) (m_bytesLong) (m_tokenAt) (m_tokenLong) (m_token) (m_value) (m_anew) (m_values) (mF) (K0) (mh) (by first | exact y0_ | exact bpA_mono y0_ (by omega) | assumption) (by first | exact hK0 | assumption | omega) _) (cwV 0 hts gX11_feastBy_X11_layHand rfl rfl rfl (by decide +kernel) ⟨Nat.le_of_ble_eq_true rfl, Nat.le_of_ble_eq_true rfl⟩) (g_preV m0 [] hP hD hK hN hS hA hZ [0, 1, 2] rfl rfl 0 (ci := 10) rfl rfl) rfl rfl hl.1 rfl (lv_room (Nat.le_of_ble_eq_true rfl)) dX11_feastBy_8 ⟨Nat.le_of_ble_eq_true rfl, Nat.le_of_ble_eq_true rfl⟩) hP hD hS hA [0, 1, 2] [] rfl rfl rfl (by decide) (fun u H locs hw hP hD hS => ?_)
  subst hw
  have hPD : PD G A H [(m0, .inr (10, [.ref m_all, .ref m_kept, .ref m_isKept, .ref m_refused, .long (lI m_above), .long (lI m_below), .ref m_hand, .ref m_fewest, .ref m_whoBites, .ref m_leaves, .ref m_bestFeast, .ref m_tells, .ref m_hardOn, .ref m_bytes, .int (iI m_bytesLong), .int (iI m_tokenAt), .int (iI m_tokenLong), .int (iI m_token), .int (iI m_value), .ref m_anew, .ref m_values])), (m_all, .inl (G.2 0, 311, .inl (cI mF))), (m_hand, .inl (G.2 0, 56, .inl (cI mF)))] := ⟨hP, hD⟩
  have hP := hPD.1
  have hD := hPD.2
  clear hPD
  refine lv_iconst (v := iI 1) hx hb dX11_feastBy_11 rfl ?_
  refine lv_istore (lv' := [(5, .int (iI 1)), (4, .int (iI a1)), (3, .int (iI 0)), (2, .int (iI 1)), (0, .ref m0), (1, .int (iI a1))]) hx hb dX11_feastBy_12 hl (by decide) rfl (fun ls hl => ?_)
  refine g_loopN (pc := 14) (fun nn H locs ls => ∃ y0__1 : Int, ∃ b0__2 : Int, ((b0__2 = 1 ∧ y0__1 = 1) ∨ (b0__2 = 2 ∧ y0__1 = 8) ∨ (b0__2 = 3 ∧ y0__1 = 64) ∨ (b0__2 = 4 ∧ y0__1 = 512)) ∧ (4 - b0__2).toNat = nn ∧ va_P G.1 vwCl [(m0, .inr (10, [.ref m_all, .ref m_kept, .ref m_isKept, .ref m_refused, .long (lI m_above), .long (lI m_below), .ref m_hand, .ref m_fewest, .ref m_whoBites, .ref m_leaves, .ref m_bestFeast, .ref m_tells, .ref m_hardOn, .ref m_bytes, .int (iI m_bytesLong), .int (iI m_tokenAt), .int (iI m_tokenLong), .int (iI m_token), .int (iI m_value), .ref m_anew, .ref m_values])), (m_all, .inl (G.2 0, 311, .inl (cI mF))), (m_hand, .inl (G.2 0, 56, .inl (cI mF)))] H ∧ va_D A [(m0, .inr (10, [.ref m_all, .ref m_kept, .ref m_isKept, .ref m_refused, .long (lI m_above), .long (lI m_below), .ref m_hand, .ref m_fewest, .ref m_whoBites, .ref m_leaves, .ref m_bestFeast, .ref m_tells, .ref m_hardOn, .ref m_bytes, .int (iI m_bytesLong), .int (iI m_tokenAt), .int (iI m_tokenLong), .int (iI m_token), .int (iI m_value), .ref m_anew, .ref m_values])), (m_all, .inl (G.2 0, 311, .inl (cI mF))), (m_hand, .inl (G.2 0, 56, .inl (cI mF)))] ∧ va_S A s.heap H locs ∧ lv_has ls 7 [(5, .int (iI b0__2)), (4, .int (iI a1)), (3, .int (iI 0)), (2, .int (iI y0__1)), (0, .ref m0), (1, .int (iI a1))]) ?_ ⟨1, 1, (by first | assumption | omega), rfl, hP, hD, hS, lv_sub hl [0, 1, 2, 3, 4, 5] rfl⟩
  intro nn_5 H locs ls ih_4 hI
  refine ea_2_6 hI (fun y0__1 b0__2 f_3 hnn_6 hP hD hS hl => ?_)
  clear hI
  refine lv_iload hx hb dX11_feastBy_14 (lv_at hl 0 rfl) ?_
  refine lv_aload_n hx hb dX11_feastBy_16 rfl (lv_at hl 4 rfl) ?_
  refine va_get (D := G.1) (ci := 10) (v := .ref m_all) (C := RX11) (T := TX11) (N := 21) hx hb hts (fun _ h => List.mem_cons_of_mem _ (inlX11 _ h)) hown hK hP 0 rfl rfl 0 (by decide) (hts _ (List.mem_cons_of_mem _ (in_r6 (List.mem_of_getElem? (i := 0) rfl)))) (fun _ h9 => h9) rfl dX11_feastBy_17 ?_
  refine lv_iconst (v := iI 1) hx hb dX11_feastBy_20 rfl ?_
  refine g_ild hx hb hK hP 1 rfl (by omega) (by omega) (by first | exact Nat.le_of_ble_eq_true rfl | omega) dX11_feastBy_21 (fun w_7 ew_7 => ?_)
  have ew_7 : mF 1 = w_7 := ew_7
  have bw_7 : 0 ≤ w_7 ∧ w_7 ≤ 4 := by rw [← ew_7]; exact y0_ 1
  refine lv_icmp_ge (tgt := 36) hx hb dX11_feastBy_22 (by decide) (fun c_8 => ?_) (fun c_8 => ?_)
  · have c_8 := (iI_le (a := w_7) (b := b0__2) (by omega) (by omega)).mp c_8
    refine lv_iconst (v := iI 0) hx hb dX11_feastBy_36 rfl ?_
    refine lv_istore (lv' := [(5, .int (iI 0)), (4, .int (iI a1)), (3, .int (iI 0)), (2, .int (iI y0__1)), (0, .ref m0), (1, .int (iI a1))]) hx hb dX11_feastBy_37 hl (by decide) rfl (fun ls hl => ?_)
    refine g_loopN (pc := 39) (fun nn H locs ls => ∃ y0__9 : Int, ∃ s0__10 : Int, ∃ c0__11 : Int, ∃ b0__12 : Int, ∃ Eh_13 : Nat → Int, (y0__9 = 1 ∨ y0__9 = 8 ∨ y0__9 = 64 ∨ y0__9 = 512) ∧ (0 ≤ b0__12 ∧ b0__12 ≤ 4) ∧ (0 ≤ s0__10 ∧ s0__10 ≤ 30 * b0__12) ∧ (0 ≤ c0__11 ∧ c0__11 ≤ 4096) ∧ (bp (plA K0) Eh_13) ∧ (4 - b0__12).toNat = nn ∧ va_P G.1 vwCl [(m0, .inr (10, [.ref m_all, .ref m_kept, .ref m_isKept, .ref m_refused, .long (lI m_above), .long (lI m_below), .ref m_hand, .ref m_fewest, .ref m_whoBites, .ref m_leaves, .ref m_bestFeast, .ref m_tells, .ref m_hardOn, .ref m_bytes, .int (iI m_bytesLong), .int (iI m_tokenAt), .int (iI m_tokenLong), .int (iI m_token), .int (iI m_value), .ref m_anew, .ref m_values])), (m_all, .inl (G.2 0, 311, .inl (cI mF))), (m_hand, .inl (G.2 0, 56, .inl (cI Eh_13)))] H ∧ va_D A [(m0, .inr (10, [.ref m_all, .ref m_kept, .ref m_isKept, .ref m_refused, .long (lI m_above), .long (lI m_below), .ref m_hand, .ref m_fewest, .ref m_whoBites, .ref m_leaves, .ref m_bestFeast, .ref m_tells, .ref m_hardOn, .ref m_bytes, .int (iI m_bytesLong), .int (iI m_tokenAt), .int (iI m_tokenLong), .int (iI m_token), .int (iI m_value), .ref m_anew, .ref m_values])), (m_all, .inl (G.2 0, 311, .inl (cI mF))), (m_hand, .inl (G.2 0, 56, .inl (cI Eh_13)))] ∧ va_S A s.heap H locs ∧ lv_has ls 7 [(5, .int (iI b0__12)), (4, .int (iI c0__11)), (3, .int (iI s0__10)), (2, .int (iI y0__9)), (0, .ref m0), (1, .int (iI a1))]) ?_ ⟨y0__1, 0, a1, 0, mF, (by first | assumption | omega), (by first | assumption | omega), (by first | assumption | omega), (by first | exact hc | assumption | omega), (by first | exact y0_ | exact bpA_mono y0_ (by omega) | assumption), rfl, hP, hD, hS, lv_sub hl [0, 1, 2, 3, 4, 5] rfl⟩
    intro nn_20 H locs ls ih_19 hI
    refine ea_5_10 hI (fun y0__9 s0__10 c0__11 b0__12 Eh_13 f_14 f_15 f_16 f_17 f_18 hnn_21 hP hD hS hl => ?_)
    clear hI
    refine lv_iload hx hb dX11_feastBy_39 (lv_at hl 0 rfl) ?_
    refine lv_aload_n hx hb dX11_feastBy_41 rfl (lv_at hl 4 rfl) ?_
    refine va_get (D := G.1) (ci := 10) (v := .ref m_all) (C := RX11) (T := TX11) (N := 21) hx hb hts (fun _ h => List.mem_cons_of_mem _ (inlX11 _ h)) hown hK hP 0 rfl rfl 0 (by decide) (hts _ (List.mem_cons_of_mem _ (in_r6 (List.mem_of_getElem? (i := 0) rfl)))) (fun _ h9 => h9) rfl dX11_feastBy_42 ?_
    refine lv_iconst (v := iI 1) hx hb dX11_feastBy_45 rfl ?_
    refine g_ild hx hb hK hP 1 rfl (by omega) (by omega) (by first | exact Nat.le_of_ble_eq_true rfl | omega) dX11_feastBy_46 (fun w_22 ew_22 => ?_)
    have ew_22 : mF 1 = w_22 := ew_22
    have bw_22 : 0 ≤ w_22 ∧ w_22 ≤ 4 := by rw [← ew_22]; exact y0_ 1
    refine lv_icmp_ge (tgt := 126) hx hb dX11_feastBy_47 (by decide) (fun c_23 => ?_) (fun c_23 => ?_)
    · have c_23 := (iI_le (a := w_22) (b := b0__12) (by omega) (by omega)).mp c_23
      refine lv_iload_n hx hb dX11_feastBy_126 rfl (lv_at hl 2 rfl) ?_
      exact g_iret (v := (iI s0__10)) hx hb hr hlocks hP hD hS (⟨s0__10, Eh_13, (by first | assumption | omega), rfl, rfl⟩) dX11_feastBy_127
    · have c_23 : ¬ (w_22 ≤ b0__12) := fun h9 => c_23 ((iI_le (a := w_22) (b := b0__12) (by omega) (by omega)).mpr h9)
      refine lv_iload hx hb dX11_feastBy_50 (lv_at hl 1 rfl) ?_
      refine lv_iload_n hx hb dX11_feastBy_52 rfl (lv_at hl 3 rfl) ?_
      have qd_24 := q_div (a := c0__11) (b := y0__9) (by omega) (by omega)
      refine lv_idiv hx hb dX11_feastBy_53 (iI_ne0 (by omega) (by omega)) ?_
      refine g_topi (y := iI (c0__11 / y0__9)) (iI_div (by omega) (by omega) (by omega) (by omega)) ?_
      refine lv_iconst (v := iI 1) hx hb dX11_feastBy_54 rfl ?_
      refine lv_isub hx hb dX11_feastBy_55 ?_
      refine g_topi (y := iI ((c0__11 / y0__9) - 1)) (iI_sub (c0__11 / y0__9) 1) ?_
      refine lv_istore (lv' := [(6, .int (iI ((c0__11 / y0__9) - 1))), (5, .int (iI b0__12)), (4, .int (iI c0__11)), (3, .int (iI s0__10)), (2, .int (iI y0__9)), (0, .ref m0), (1, .int (iI a1))]) hx hb dX11_feastBy_56 hl (by decide) rfl (fun ls hl => ?_)
      refine lv_iload hx hb dX11_feastBy_58 (lv_at hl 2 rfl) ?_
      refine lv_iload_n hx hb dX11_feastBy_60 rfl (lv_at hl 4 rfl) ?_
      have qd_25 := q_mod (a := c0__11) (b := y0__9) (by omega)
      refine lv_irem hx hb dX11_feastBy_61 (iI_ne0 (by omega) (by omega)) ?_
      refine g_topi (y := iI (c0__11 % y0__9)) (iI_rem2 (by omega) (by omega) (by omega) (by omega)) ?_
      refine lv_istore (lv' := [(4, .int (iI (c0__11 % y0__9))), (6, .int (iI ((c0__11 / y0__9) - 1))), (5, .int (iI b0__12)), (3, .int (iI s0__10)), (2, .int (iI y0__9)), (0, .ref m0), (1, .int (iI a1))]) hx hb dX11_feastBy_62 hl (by decide) rfl (fun ls hl => ?_)
      refine lv_iload_n hx hb dX11_feastBy_64 rfl (lv_at hl 4 rfl) ?_
      refine lv_iconst (v := iI 1) hx hb dX11_feastBy_65 rfl ?_
      refine g_join (jn := 77) (rest := []) (fun t_26 ls => ((y0__9 ≤ 1 ∧ t_26 = 1) ∨ (¬ (y0__9 ≤ 1) ∧ t_26 = (y0__9 / 8))) ∧ lv_has ls 7 [(4, .int (iI (c0__11 % y0__9))), (6, .int (iI ((c0__11 / y0__9) - 1))), (5, .int (iI b0__12)), (3, .int (iI s0__10)), (2, .int (iI y0__9)), (0, .ref m0), (1, .int (iI a1))]) (fun t_26 ls hI => ?_) (fun hJ_27 => ?_)
      · obtain ⟨f_28, hl⟩ := hI
        refine lv_istore_n (lv' := [(2, .int (iI t_26)), (4, .int (iI (c0__11 % y0__9))), (6, .int (iI ((c0__11 / y0__9) - 1))), (5, .int (iI b0__12)), (3, .int (iI s0__10)), (0, .ref m0), (1, .int (iI a1))]) hx hb dX11_feastBy_77 rfl hl (by decide) rfl (fun ls hl => ?_)
        refine lv_iload hx hb dX11_feastBy_78 (lv_at hl 2 rfl) ?_
        refine lv_aload_n hx hb dX11_feastBy_80 rfl (lv_at hl 5 rfl) ?_
        refine g_calli (wr := [(m_hand, .inl (G.2 0, 56, .inl (cI Eh_13)))]) (va_runV (As := []) (rest := [.int (iI ((c0__11 / y0__9) - 1))]) ⟨hx, hb, hml, hown, hts⟩ (c_X11_many l G (m0) (m_all) (m_kept) (m_isKept) (m_refused) (m_above) (m_below) (m_hand) (m_fewest) (m_whoBites) (m_leaves) (m_bestFeast) (m_tells) (m_hardOn) (m_bytes) (m_bytesLong) (m_tokenAt) (m_tokenLong) (m_token) (m_value) (m_anew) (m_values) (mF) (K0) (by first | exact y0_ | exact bpA_mono y0_ (by omega) | assumption) (by first | exact hK0 | assumption | omega) _) (cwV 0 hts gX11_feastBy_X11_many rfl rfl rfl (by decide +kernel) ⟨Nat.le_of_ble_eq_true rfl, Nat.le_of_ble_eq_true rfl⟩) (g_preV m0 [] hP hD hK hN hS hA hZ [0, 1] rfl rfl 0 (ci := 10) rfl rfl) rfl rfl hl.1 rfl (lv_room (Nat.le_of_ble_eq_true rfl)) dX11_feastBy_81 ⟨Nat.le_of_ble_eq_true rfl, Nat.le_of_ble_eq_true rfl⟩) hP hD hS hA [0, 1] [2] rfl rfl rfl (by decide) (fun r_29 u H locs hw hP hD hS => ?_)
        refine ea_1_4 hw (fun rr_30 k_31 k_32 e8_0 e8_1 => ?_)
        subst e8_0
        subst e8_1
        clear hw
        have hPD : PD G A H [(m_hand, .inl (G.2 0, 56, .inl (cI Eh_13))), (m0, .inr (10, [.ref m_all, .ref m_kept, .ref m_isKept, .ref m_refused, .long (lI m_above), .long (lI m_below), .ref m_hand, .ref m_fewest, .ref m_whoBites, .ref m_leaves, .ref m_bestFeast, .ref m_tells, .ref m_hardOn, .ref m_bytes, .int (iI m_bytesLong), .int (iI m_tokenAt), .int (iI m_tokenLong), .int (iI m_token), .int (iI m_value), .ref m_anew, .ref m_values])), (m_all, .inl (G.2 0, 311, .inl (cI mF)))] := ⟨hP, hD⟩
        have hP := hPD.1
        have hD := hPD.2
        clear hPD
        refine lv_icmp_lt (tgt := 89) hx hb dX11_feastBy_84 (by decide) (fun c_33 => ?_) (fun c_33 => ?_)
        · have c_33 := (iI_lt (a := ((c0__11 / y0__9) - 1)) (b := rr_30) (by omega) (by omega)).mp c_33
          refine lv_iload hx hb dX11_feastBy_89 (lv_at hl 2 rfl) ?_
          refine lv_iconst (v := iI (-1)) hx hb dX11_feastBy_91 rfl ?_
          refine lv_icmp_eq (tgt := 120) hx hb dX11_feastBy_92 (by decide) (fun c_34 => ?_) (fun c_34 => ?_)
          · have c_34 := (iI_eq (a := ((c0__11 / y0__9) - 1)) (b := (-1)) (by omega) (by first | decide | omega)).mp c_34
            refine lv_iinc (v := iI (b0__12 + 1)) (lv' := [(5, .int (iI (b0__12 + 1))), (2, .int (iI t_26)), (4, .int (iI (c0__11 % y0__9))), (6, .int (iI ((c0__11 / y0__9) - 1))), (3, .int (iI s0__10)), (0, .ref m0), (1, .int (iI a1))]) hx hb dX11_feastBy_120 hl (k := 3) rfl (iI_add b0__12 1) (by decide) rfl (fun ls hl => ?_)
            refine lv_goto (tgt := 39) hx hb dX11_feastBy_123 (by decide) ?_
            have hP := hP.sub (ws' := [(m0, .inr (10, [.ref m_all, .ref m_kept, .ref m_isKept, .ref m_refused, .long (lI m_above), .long (lI m_below), .ref m_hand, .ref m_fewest, .ref m_whoBites, .ref m_leaves, .ref m_bestFeast, .ref m_tells, .ref m_hardOn, .ref m_bytes, .int (iI m_bytesLong), .int (iI m_tokenAt), .int (iI m_tokenLong), .int (iI m_token), .int (iI m_value), .ref m_anew, .ref m_values])), (m_all, .inl (G.2 0, 311, .inl (cI mF))), (m_hand, .inl (G.2 0, 56, .inl (cI Eh_13)))]) [1, 2, 0] rfl
            have hD := hD.sub (ws' := [(m0, .inr (10, [.ref m_all, .ref m_kept, .ref m_isKept, .ref m_refused, .long (lI m_above), .long (lI m_below), .ref m_hand, .ref m_fewest, .ref m_whoBites, .ref m_leaves, .ref m_bestFeast, .ref m_tells, .ref m_hardOn, .ref m_bytes, .int (iI m_bytesLong), .int (iI m_tokenAt), .int (iI m_tokenLong), .int (iI m_token), .int (iI m_value), .ref m_anew, .ref m_values])), (m_all, .inl (G.2 0, 311, .inl (cI mF))), (m_hand, .inl (G.2 0, 56, .inl (cI Eh_13)))]) [1, 2, 0] rfl rfl
            exact ih_19 _ _ _ _ (by omega) ⟨t_26, s0__10, (c0__11 % y0__9), (b0__12 + 1), Eh_13, (by first | assumption | omega), (by first | assumption | omega), (by first | assumption | omega), (by first | assumption | omega), (by first | exact f_18 | exact bpA_mono f_18 (by omega) | assumption), rfl, hP, hD, hS, lv_sub hl [0, 2, 4, 1, 5, 6] rfl⟩
          · have c_34 : ¬ (((c0__11 / y0__9) - 1) = (-1)) := fun h9 => c_34 ((iI_eq (a := ((c0__11 / y0__9) - 1)) (b := (-1)) (by omega) (by first | decide | omega)).mpr h9)
            refine lv_iload_n hx hb dX11_feastBy_95 rfl (lv_at hl 4 rfl) ?_
            refine lv_aload_n hx hb dX11_feastBy_96 rfl (lv_at hl 5 rfl) ?_
            refine va_get (D := G.1) (ci := 10) (v := .ref m_hand) (C := RX11) (T := TX11) (N := 21) hx hb hts (fun _ h => List.mem_cons_of_mem _ (inlX11 _ h)) hown hK hP 1 rfl rfl 6 (by decide) (hts _ (List.mem_cons_of_mem _ (in_r6 (List.mem_of_getElem? (i := 5) rfl)))) (fun _ h9 => h9) rfl dX11_feastBy_97 ?_
            refine lv_iload hx hb dX11_feastBy_100 (lv_at hl 3 rfl) ?_
            refine lv_iload hx hb dX11_feastBy_102 (lv_at hl 2 rfl) ?_
            refine g_calli (wr := [(m0, .inr (10, [.ref m_all, .ref m_kept, .ref m_isKept, .ref m_refused, .long (lI m_above), .long (lI m_below), .ref m_hand, .ref m_fewest, .ref m_whoBites, .ref m_leaves, .ref m_bestFeast, .ref m_tells, .ref m_hardOn, .ref m_bytes, .int (iI m_bytesLong), .int (iI m_tokenAt), .int (iI m_tokenLong), .int (iI m_token), .int (iI m_value), .ref m_anew, .ref m_values])), (m_all, .inl (G.2 0, 311, .inl (cI mF)))]) (va_runS (As := [.ref m_hand, .int (iI b0__12), .int (iI ((c0__11 / y0__9) - 1))]) (rest := [.int (iI s0__10)]) ⟨hx, hb, hml, hown, hts⟩ (c_X11_takesOff_56 l G (m_hand) (Eh_13) (K0) (b0__12) (((c0__11 / y0__9) - 1)) (by first | exact f_18 | exact bpA_mono f_18 (by omega) | assumption) (by first | exact hK0 | assumption | omega) (by first | assumption | omega) (by first | assumption | omega) _) (va_cwS 3 hts gX11_feastBy_X11_takesOff rfl rfl rfl (by decide +kernel) ⟨Nat.le_of_ble_eq_true rfl, Nat.le_of_ble_eq_true rfl⟩) (g_preS [.ref m_hand, .int (iI b0__12), .int (iI ((c0__11 / y0__9) - 1))] hP hD hK hN hS hA hZ [0] rfl rfl) rfl rfl hl.1 rfl (lv_room (Nat.le_of_ble_eq_true rfl)) dX11_feastBy_104 ⟨Nat.le_of_ble_eq_true rfl, Nat.le_of_ble_eq_true rfl⟩) hP hD hS hA [0] [1, 2] rfl rfl rfl (by decide) (fun r_35 u H locs hw hP hD hS => ?_)
            refine ea_1_4 hw (fun rr_36 k_37 k_38 e8_0 e8_1 => ?_)
            subst e8_0
            subst e8_1
            clear hw
            have hPD : PD G A H [(m0, .inr (10, [.ref m_all, .ref m_kept, .ref m_isKept, .ref m_refused, .long (lI m_above), .long (lI m_below), .ref m_hand, .ref m_fewest, .ref m_whoBites, .ref m_leaves, .ref m_bestFeast, .ref m_tells, .ref m_hardOn, .ref m_bytes, .int (iI m_bytesLong), .int (iI m_tokenAt), .int (iI m_tokenLong), .int (iI m_token), .int (iI m_value), .ref m_anew, .ref m_values])), (m_all, .inl (G.2 0, 311, .inl (cI mF))), (m_hand, .inl (G.2 0, 56, .inl (cI Eh_13)))] := ⟨hP, hD⟩
            have hP := hPD.1
            have hD := hPD.2
            clear hPD
            refine lv_iadd hx hb dX11_feastBy_107 ?_
            refine g_topi (y := iI (s0__10 + rr_36)) (iI_add s0__10 rr_36) ?_
            refine lv_istore_n (lv' := [(3, .int (iI (s0__10 + rr_36))), (2, .int (iI t_26)), (4, .int (iI (c0__11 % y0__9))), (6, .int (iI ((c0__11 / y0__9) - 1))), (5, .int (iI b0__12)), (0, .ref m0), (1, .int (iI a1))]) hx hb dX11_feastBy_108 rfl hl (by decide) rfl (fun ls hl => ?_)
            refine lv_aload_n hx hb dX11_feastBy_109 rfl (lv_at hl 5 rfl) ?_
            refine va_get (D := G.1) (ci := 10) (v := .ref m_hand) (C := RX11) (T := TX11) (N := 21) hx hb hts (fun _ h => List.mem_cons_of_mem _ (inlX11 _ h)) hown hK hP 0 rfl rfl 6 (by decide) (hts _ (List.mem_cons_of_mem _ (in_r6 (List.mem_of_getElem? (i := 5) rfl)))) (fun _ h9 => h9) rfl dX11_feastBy_110 ?_
            refine lv_iload hx hb dX11_feastBy_113 (lv_at hl 4 rfl) ?_
            refine lv_iload hx hb dX11_feastBy_115 (lv_at hl 3 rfl) ?_
            refine g_callv (wr := [(m0, .inr (10, [.ref m_all, .ref m_kept, .ref m_isKept, .ref m_refused, .long (lI m_above), .long (lI m_below), .ref m_hand, .ref m_fewest, .ref m_whoBites, .ref m_leaves, .ref m_bestFeast, .ref m_tells, .ref m_hardOn, .ref m_bytes, .int (iI m_bytesLong), .int (iI m_tokenAt), .int (iI m_tokenLong), .int (iI m_token), .int (iI m_value), .ref m_anew, .ref m_values])), (m_all, .inl (G.2 0, 311, .inl (cI mF)))]) (va_runS (As := [.ref m_hand, .int (iI b0__12), .int (iI ((c0__11 / y0__9) - 1))]) (rest := []) ⟨hx, hb, hml, hown, hts⟩ (c_X11_goBite_56 l G (m_hand) (Eh_13) (K0) (b0__12) (((c0__11 / y0__9) - 1)) (by first | exact f_18 | exact bpA_mono f_18 (by omega) | assumption) (by first | exact hK0 | assumption | omega) (by first | assumption | omega) (by first | assumption | omega) _) (va_cwS 3 hts gX11_feastBy_X11_goBite rfl rfl rfl (by decide +kernel) ⟨Nat.le_of_ble_eq_true rfl, Nat.le_of_ble_eq_true rfl⟩) (g_preS [.ref m_hand, .int (iI b0__12), .int (iI ((c0__11 / y0__9) - 1))] hP hD hK hN hS hA hZ [2] rfl rfl) rfl rfl hl.1 rfl (lv_room (Nat.le_of_ble_eq_true rfl)) dX11_feastBy_117 ⟨Nat.le_of_ble_eq_true rfl, Nat.le_of_ble_eq_true rfl⟩) hP hD hS hA [2] [0, 1] rfl rfl rfl (by decide) (fun u H locs hw hP hD hS => ?_)
            obtain ⟨Nq_39, k_40, rfl⟩ := hw
            have hPD : PD G A H [(m0, .inr (10, [.ref m_all, .ref m_kept, .ref m_isKept, .ref m_refused, .long (lI m_above), .long (lI m_below), .ref m_hand, .ref m_fewest, .ref m_whoBites, .ref m_leaves, .ref m_bestFeast, .ref m_tells, .ref m_hardOn, .ref m_bytes, .int (iI m_bytesLong), .int (iI m_tokenAt), .int (iI m_tokenLong), .int (iI m_token), .int (iI m_value), .ref m_anew, .ref m_values])), (m_all, .inl (G.2 0, 311, .inl (cI mF))), (m_hand, .inl (G.2 0, 56, .inl (cI Nq_39)))] := ⟨hP, hD⟩
            have hP := hPD.1
            have hD := hPD.2
            clear hPD
            refine lv_iinc (v := iI (b0__12 + 1)) (lv' := [(5, .int (iI (b0__12 + 1))), (3, .int (iI (s0__10 + rr_36))), (2, .int (iI t_26)), (4, .int (iI (c0__11 % y0__9))), (6, .int (iI ((c0__11 / y0__9) - 1))), (0, .ref m0), (1, .int (iI a1))]) hx hb dX11_feastBy_120 hl (k := 4) rfl (iI_add b0__12 1) (by decide) rfl (fun ls hl => ?_)
            refine lv_goto (tgt := 39) hx hb dX11_feastBy_123 (by decide) ?_
            exact ih_19 _ _ _ _ (by omega) ⟨t_26, (s0__10 + rr_36), (c0__11 % y0__9), (b0__12 + 1), Nq_39, (by first | assumption | omega), (by first | assumption | omega), (by first | assumption | omega), (by first | assumption | omega), (by first | exact k_40 | exact bpA_mono k_40 (by omega) | assumption), rfl, hP, hD, hS, lv_sub hl [0, 3, 1, 2, 5, 6] rfl⟩
        · have c_33 : ¬ (((c0__11 / y0__9) - 1) < rr_30) := fun h9 => c_33 ((iI_lt (a := ((c0__11 / y0__9) - 1)) (b := rr_30) (by omega) (by omega)).mpr h9)
          refine lv_iconst (v := iI (-1)) hx hb dX11_feastBy_87 rfl ?_
          have hP := hP.sub (ws' := [(m0, .inr (10, [.ref m_all, .ref m_kept, .ref m_isKept, .ref m_refused, .long (lI m_above), .long (lI m_below), .ref m_hand, .ref m_fewest, .ref m_whoBites, .ref m_leaves, .ref m_bestFeast, .ref m_tells, .ref m_hardOn, .ref m_bytes, .int (iI m_bytesLong), .int (iI m_tokenAt), .int (iI m_tokenLong), .int (iI m_token), .int (iI m_value), .ref m_anew, .ref m_values])), (m_all, .inl (G.2 0, 311, .inl (cI mF))), (m_hand, .inl (G.2 0, 56, .inl (cI Eh_13)))]) [1, 2, 0] rfl
          have hD := hD.sub (ws' := [(m0, .inr (10, [.ref m_all, .ref m_kept, .ref m_isKept, .ref m_refused, .long (lI m_above), .long (lI m_below), .ref m_hand, .ref m_fewest, .ref m_whoBites, .ref m_leaves, .ref m_bestFeast, .ref m_tells, .ref m_hardOn, .ref m_bytes, .int (iI m_bytesLong), .int (iI m_tokenAt), .int (iI m_tokenLong), .int (iI m_token), .int (iI m_value), .ref m_anew, .ref m_values])), (m_all, .inl (G.2 0, 311, .inl (cI mF))), (m_hand, .inl (G.2 0, 56, .inl (cI Eh_13)))]) [1, 2, 0] rfl rfl
          exact g_iret (v := (iI (-1))) hx hb hr hlocks hP hD hS (⟨(-1), Eh_13, (by first | assumption | omega), rfl, rfl⟩) dX11_feastBy_88
      · refine lv_icmp_le (tgt := 76) hx hb dX11_feastBy_66 (by decide) (fun c_41 => ?_) (fun c_41 => ?_)
        · have c_41 := (iI_le (a := y0__9) (b := 1) (by omega) (by first | decide | omega)).mp c_41
          refine lv_iconst (v := iI 1) hx hb dX11_feastBy_76 rfl ?_
          exact hJ_27 1 ls ⟨by omega, lv_sub hl [0, 1, 2, 3, 4, 5, 6] rfl⟩
        · have c_41 : ¬ (y0__9 ≤ 1) := fun h9 => c_41 ((iI_le (a := y0__9) (b := 1) (by omega) (by first | decide | omega)).mpr h9)
          refine lv_iload_n hx hb dX11_feastBy_69 rfl (lv_at hl 4 rfl) ?_
          refine lv_bipush (v := iI 8) hx hb dX11_feastBy_70 (by decide) ?_
          refine lv_idiv hx hb dX11_feastBy_72 (iI_ne0 (by omega) (by omega)) ?_
          refine g_topi (y := iI (y0__9 / 8)) (iI_div (by omega) (by omega) (by omega) (by omega)) ?_
          refine lv_goto (tgt := 77) hx hb dX11_feastBy_73 (by decide) ?_
          exact hJ_27 (y0__9 / 8) ls ⟨by omega, lv_sub hl [0, 1, 2, 3, 4, 5, 6] rfl⟩
  · have c_8 : ¬ (w_7 ≤ b0__2) := fun h9 => c_8 ((iI_le (a := w_7) (b := b0__2) (by omega) (by omega)).mpr h9)
    refine lv_iload_n hx hb dX11_feastBy_25 rfl (lv_at hl 3 rfl) ?_
    refine lv_bipush (v := iI 8) hx hb dX11_feastBy_26 (by decide) ?_
    refine lv_imul hx hb dX11_feastBy_28 ?_
    refine g_topi (y := iI (y0__1 * 8)) (iI_mul y0__1 8) ?_
    refine lv_istore_n (lv' := [(2, .int (iI (y0__1 * 8))), (5, .int (iI b0__2)), (4, .int (iI a1)), (3, .int (iI 0)), (0, .ref m0), (1, .int (iI a1))]) hx hb dX11_feastBy_29 rfl hl (by decide) rfl (fun ls hl => ?_)
    refine lv_iinc (v := iI (b0__2 + 1)) (lv' := [(5, .int (iI (b0__2 + 1))), (2, .int (iI (y0__1 * 8))), (4, .int (iI a1)), (3, .int (iI 0)), (0, .ref m0), (1, .int (iI a1))]) hx hb dX11_feastBy_30 hl (k := 1) rfl (iI_add b0__2 1) (by decide) rfl (fun ls hl => ?_)
    refine lv_goto (tgt := 14) hx hb dX11_feastBy_33 (by decide) ?_
    exact ih_4 _ _ _ _ (by omega) ⟨(y0__1 * 8), (b0__2 + 1), (by first | assumption | omega), rfl, hP, hD, hS, lv_sub hl [0, 2, 3, 1, 4, 5] rfl⟩
theorem dX11_feast_0 : decode cX11_feast 0 = .ok (.iload_n 1, 1) := kd_27 (by decide +kernel)
theorem dX11_feast_1 : decode cX11_feast 1 = .ok (.iconst (-1), 1) := kd_2 (by decide +kernel)
theorem dX11_feast_2 : decode cX11_feast 2 = .ok (.if_icmp .eq 18, 3) := kd_159 (a := 0) (b := 18) (by decide +kernel)
theorem dX11_feast_20 : decode cX11_feast 20 = .ok (.iconst 1, 1) := kd_4 (by decide +kernel)
theorem dX11_feast_21 : decode cX11_feast 21 = .ok (.istore_n 2, 1) := kd_61 (by decide +kernel)
theorem dX11_feast_22 : decode cX11_feast 22 = .ok (.iconst (-1), 1) := kd_2 (by decide +kernel)
theorem dX11_feast_23 : decode cX11_feast 23 = .ok (.istore_n 3, 1) := kd_62 (by decide +kernel)
theorem dX11_feast_24 : decode cX11_feast 24 = .ok (.iconst 0, 1) := kd_3 (by decide +kernel)
theorem dX11_feast_25 : decode cX11_feast 25 = .ok (.istore 4, 2) := kd_54 (a := 4) (by decide +kernel)
theorem dX11_feast_27 : decode cX11_feast 27 = .ok (.iconst 0, 1) := kd_3 (by decide +kernel)
theorem dX11_feast_28 : decode cX11_feast 28 = .ok (.istore 5, 2) := kd_54 (a := 5) (by decide +kernel)
theorem dX11_feast_30 : decode cX11_feast 30 = .ok (.iload 5, 2) := kd_21 (a := 5) (by decide +kernel)
theorem dX11_feast_32 : decode cX11_feast 32 = .ok (.aload_n 0, 1) := kd_42 (by decide +kernel)
theorem dX11_feast_33 : decode cX11_feast 33 = .ok (.getfield 7, 3) := kd_180 (a := 0) (b := 7) (by decide +kernel)
theorem dX11_feast_36 : decode cX11_feast 36 = .ok (.iconst 1, 1) := kd_4 (by decide +kernel)
theorem dX11_feast_37 : decode cX11_feast 37 = .ok (.iaload, 1) := kd_46 (by decide +kernel)
theorem dX11_feast_38 : decode cX11_feast 38 = .ok (.if_icmp .ge 14, 3) := kd_162 (a := 0) (b := 14) (by decide +kernel)
theorem dX11_feast_52 : decode cX11_feast 52 = .ok (.iconst 0, 1) := kd_3 (by decide +kernel)
theorem dX11_feast_53 : decode cX11_feast 53 = .ok (.istore 5, 2) := kd_54 (a := 5) (by decide +kernel)
theorem dX11_feast_55 : decode cX11_feast 55 = .ok (.iload 5, 2) := kd_21 (a := 5) (by decide +kernel)
theorem dX11_feast_57 : decode cX11_feast 57 = .ok (.iload_n 2, 1) := kd_28 (by decide +kernel)
theorem dX11_feast_58 : decode cX11_feast 58 = .ok (.if_icmp .ge 45, 3) := kd_162 (a := 0) (b := 45) (by decide +kernel)
theorem dX11_feast_103 : decode cX11_feast 103 = .ok (.aload_n 0, 1) := kd_42 (by decide +kernel)
theorem dX11_feast_104 : decode cX11_feast 104 = .ok (.getfield 7, 3) := kd_180 (a := 0) (b := 7) (by decide +kernel)
theorem dX11_feast_107 : decode cX11_feast 107 = .ok (.iconst 1, 1) := kd_4 (by decide +kernel)
theorem dX11_feast_108 : decode cX11_feast 108 = .ok (.iaload, 1) := kd_46 (by decide +kernel)
theorem dX11_feast_109 : decode cX11_feast 109 = .ok (.iconst 1, 1) := kd_4 (by decide +kernel)
theorem dX11_feast_110 : decode cX11_feast 110 = .ok (.isub, 1) := kd_100 (by decide +kernel)
theorem dX11_feast_111 : decode cX11_feast 111 = .ok (.istore 5, 2) := kd_54 (a := 5) (by decide +kernel)
theorem dX11_feast_113 : decode cX11_feast 113 = .ok (.iload 5, 2) := kd_21 (a := 5) (by decide +kernel)
theorem dX11_feast_115 : decode cX11_feast 115 = .ok (.ifCond .lt 30, 3) := kd_155 (a := 0) (b := 30) (by decide +kernel)
theorem dX11_feast_145 : decode cX11_feast 145 = .ok (.iload_n 1, 1) := kd_27 (by decide +kernel)
theorem dX11_feast_146 : decode cX11_feast 146 = .ok (.iconst (-1), 1) := kd_2 (by decide +kernel)
theorem dX11_feast_147 : decode cX11_feast 147 = .ok (.if_icmp .ne 7, 3) := kd_160 (a := 0) (b := 7) (by decide +kernel)
theorem dX11_feast_154 : decode cX11_feast 154 = .ok (.aload_n 0, 1) := kd_42 (by decide +kernel)
theorem dX11_feast_155 : decode cX11_feast 155 = .ok (.getfield 39, 3) := kd_180 (a := 0) (b := 39) (by decide +kernel)
theorem dX11_feast_158 : decode cX11_feast 158 = .ok (.iload_n 1, 1) := kd_27 (by decide +kernel)
theorem dX11_feast_159 : decode cX11_feast 159 = .ok (.iaload, 1) := kd_46 (by decide +kernel)
theorem dX11_feast_160 : decode cX11_feast 160 = .ok (.ireturn, 1) := kd_172 (by decide +kernel)
theorem dX11_feast_150 : decode cX11_feast 150 = .ok (.iload_n 3, 1) := kd_29 (by decide +kernel)
theorem dX11_feast_151 : decode cX11_feast 151 = .ok (.goto 9, 3) := kd_167 (a := 0) (b := 9) (by decide +kernel)
theorem dX11_feast_118 : decode cX11_feast 118 = .ok (.aload_n 0, 1) := kd_42 (by decide +kernel)
theorem dX11_feast_119 : decode cX11_feast 119 = .ok (.getfield 39, 3) := kd_180 (a := 0) (b := 39) (by decide +kernel)
theorem dX11_feast_122 : decode cX11_feast 122 = .ok (.iload 5, 2) := kd_21 (a := 5) (by decide +kernel)
theorem dX11_feast_124 : decode cX11_feast 124 = .ok (.iload 4, 2) := kd_21 (a := 4) (by decide +kernel)
theorem dX11_feast_126 : decode cX11_feast 126 = .ok (.bipush 8, 2) := kd_16 (a := 8) (by decide +kernel)
theorem dX11_feast_128 : decode cX11_feast 128 = .ok (.irem, 1) := kd_112 (by decide +kernel)
theorem dX11_feast_129 : decode cX11_feast 129 = .ok (.iconst 1, 1) := kd_4 (by decide +kernel)
theorem dX11_feast_130 : decode cX11_feast 130 = .ok (.isub, 1) := kd_100 (by decide +kernel)
theorem dX11_feast_131 : decode cX11_feast 131 = .ok (.iastore, 1) := kd_79 (by decide +kernel)
theorem dX11_feast_132 : decode cX11_feast 132 = .ok (.iload 4, 2) := kd_21 (a := 4) (by decide +kernel)
theorem dX11_feast_134 : decode cX11_feast 134 = .ok (.bipush 8, 2) := kd_16 (a := 8) (by decide +kernel)
theorem dX11_feast_136 : decode cX11_feast 136 = .ok (.idiv, 1) := kd_108 (by decide +kernel)
theorem dX11_feast_137 : decode cX11_feast 137 = .ok (.istore 4, 2) := kd_54 (a := 4) (by decide +kernel)
theorem dX11_feast_139 : decode cX11_feast 139 = .ok (.iinc 5 (-1), 3) := kd_132 (a := 5) (b := 255) (by decide +kernel)
theorem dX11_feast_142 : decode cX11_feast 142 = .ok (.goto (-29), 3) := kd_167 (a := 255) (b := 227) (by decide +kernel)
theorem dX11_feast_61 : decode cX11_feast 61 = .ok (.aload_n 0, 1) := kd_42 (by decide +kernel)
theorem dX11_feast_62 : decode cX11_feast 62 = .ok (.iload 5, 2) := kd_21 (a := 5) (by decide +kernel)
theorem gX11_feast_X11_feastBy : GoodIn wsX11_feast (wsV RX11 173 RX11 yX11_feastBy wsX11_feastBy) := gW_V (in_r31 (List.mem_of_getElem? (i := 14) rfl)) (in_r31 (List.mem_of_getElem? (i := 15) rfl)) (in_r31 (List.mem_of_getElem? (i := 16) rfl)) (in_r1 (List.mem_of_getElem? (i := 5) rfl)) (in_r31 (List.mem_of_getElem? (i := 17) rfl))
theorem dX11_feast_64 : decode cX11_feast 64 = .ok (.invokevirtual 173, 3) := kd_182 (a := 0) (b := 173) (by decide +kernel)
theorem dX11_feast_67 : decode cX11_feast 67 = .ok (.istore 6, 2) := kd_54 (a := 6) (by decide +kernel)
theorem dX11_feast_69 : decode cX11_feast 69 = .ok (.iload 6, 2) := kd_21 (a := 6) (by decide +kernel)
theorem dX11_feast_71 : decode cX11_feast 71 = .ok (.iload_n 3, 1) := kd_29 (by decide +kernel)
theorem dX11_feast_72 : decode cX11_feast 72 = .ok (.if_icmp .le 8, 3) := kd_164 (a := 0) (b := 8) (by decide +kernel)
theorem dX11_feast_80 : decode cX11_feast 80 = .ok (.iload 4, 2) := kd_21 (a := 4) (by decide +kernel)
theorem dX11_feast_75 : decode cX11_feast 75 = .ok (.iload 5, 2) := kd_21 (a := 5) (by decide +kernel)
theorem dX11_feast_77 : decode cX11_feast 77 = .ok (.goto 5, 3) := kd_167 (a := 0) (b := 5) (by decide +kernel)
theorem dX11_feast_82 : decode cX11_feast 82 = .ok (.istore 4, 2) := kd_54 (a := 4) (by decide +kernel)
theorem dX11_feast_84 : decode cX11_feast 84 = .ok (.iload 6, 2) := kd_21 (a := 6) (by decide +kernel)
theorem dX11_feast_86 : decode cX11_feast 86 = .ok (.iload_n 3, 1) := kd_29 (by decide +kernel)
theorem dX11_feast_87 : decode cX11_feast 87 = .ok (.if_icmp .le 8, 3) := kd_164 (a := 0) (b := 8) (by decide +kernel)
theorem dX11_feast_95 : decode cX11_feast 95 = .ok (.iload_n 3, 1) := kd_29 (by decide +kernel)
theorem dX11_feast_90 : decode cX11_feast 90 = .ok (.iload 6, 2) := kd_21 (a := 6) (by decide +kernel)
theorem dX11_feast_92 : decode cX11_feast 92 = .ok (.goto 4, 3) := kd_167 (a := 0) (b := 4) (by decide +kernel)
theorem dX11_feast_96 : decode cX11_feast 96 = .ok (.istore_n 3, 1) := kd_62 (by decide +kernel)
theorem dX11_feast_97 : decode cX11_feast 97 = .ok (.iinc 5 1, 3) := kd_132 (a := 5) (b := 1) (by decide +kernel)
theorem dX11_feast_100 : decode cX11_feast 100 = .ok (.goto (-45), 3) := kd_167 (a := 255) (b := 211) (by decide +kernel)
theorem dX11_feast_41 : decode cX11_feast 41 = .ok (.iload_n 2, 1) := kd_28 (by decide +kernel)
theorem dX11_feast_42 : decode cX11_feast 42 = .ok (.bipush 8, 2) := kd_16 (a := 8) (by decide +kernel)
theorem dX11_feast_44 : decode cX11_feast 44 = .ok (.imul, 1) := kd_104 (by decide +kernel)
theorem dX11_feast_45 : decode cX11_feast 45 = .ok (.istore_n 2, 1) := kd_61 (by decide +kernel)
theorem dX11_feast_46 : decode cX11_feast 46 = .ok (.iinc 5 1, 3) := kd_132 (a := 5) (b := 1) (by decide +kernel)
theorem dX11_feast_49 : decode cX11_feast 49 = .ok (.goto (-19), 3) := kd_167 (a := 255) (b := 237) (by decide +kernel)
theorem dX11_feast_5 : decode cX11_feast 5 = .ok (.aload_n 0, 1) := kd_42 (by decide +kernel)
theorem dX11_feast_6 : decode cX11_feast 6 = .ok (.iload_n 1, 1) := kd_27 (by decide +kernel)
theorem gX11_feast_X11_isBiter : GoodIn wsX11_feast (wsV RX11 143 RX11 yX11_isBiter wsX11_isBiter) := gW_V (in_r25 (List.mem_of_getElem? (i := 5) rfl)) (in_r25 (List.mem_of_getElem? (i := 6) rfl)) (in_r25 (List.mem_of_getElem? (i := 7) rfl)) (in_r1 (List.mem_of_getElem? (i := 5) rfl)) (in_r25 (List.mem_of_getElem? (i := 8) rfl))
theorem dX11_feast_7 : decode cX11_feast 7 = .ok (.invokevirtual 143, 3) := kd_182 (a := 0) (b := 143) (by decide +kernel)
theorem dX11_feast_10 : decode cX11_feast 10 = .ok (.ifCond .ne 10, 3) := kd_154 (a := 0) (b := 10) (by decide +kernel)
theorem dX11_feast_13 : decode cX11_feast 13 = .ok (.aload_n 0, 1) := kd_42 (by decide +kernel)
theorem dX11_feast_14 : decode cX11_feast 14 = .ok (.bipush (-10), 2) := kd_16 (a := 246) (by decide +kernel)
theorem gX11_feast_X11_bad : GoodIn wsX11_feast (wsV RX11 79 RX11 yX11_bad wsX11_bad) := gW_V (in_r8 (List.mem_of_getElem? (i := 16) rfl)) (in_r8 (List.mem_of_getElem? (i := 17) rfl)) (in_r8 (List.mem_of_getElem? (i := 18) rfl)) (in_r1 (List.mem_of_getElem? (i := 5) rfl)) (in_r8 (List.mem_of_getElem? (i := 19) rfl))
theorem dX11_feast_16 : decode cX11_feast 16 = .ok (.invokevirtual 79, 3) := kd_182 (a := 0) (b := 79) (by decide +kernel)
theorem dX11_feast_19 : decode cX11_feast 19 = .ok (.ireturn, 1) := kd_172 (by decide +kernel)
set_option maxHeartbeats 8000000 in
set_option maxRecDepth 100000 in
theorem c_X11_feast (l : Launch) (G : gG) (m0 : Nat) (m_all : Nat) (m_kept : Nat) (m_isKept : Nat) (m_refused : Nat) (m_above : Int) (m_below : Int) (m_hand : Nat) (m_fewest : Nat) (m_whoBites : Nat) (m_leaves : Nat) (m_bestFeast : Nat) (m_tells : Nat) (m_hardOn : Nat) (m_bytes : Nat) (m_bytesLong : Int) (m_tokenAt : Int) (m_tokenLong : Int) (m_token : Int) (m_value : Int) (m_anew : Nat) (m_values : Nat) (mF : Nat → Int) (K0 : Int) (mh : Nat → Int) (mr : Nat → Int) (mb : Nat → Int) (a1 : Int) (y0_ : bp (plA K0) mF) (ra1 : -2147483648 ≤ a1 ∧ a1 ≤ 2147483647) (hK0 : 1000 ≤ K0 ∧ K0 ≤ 2000000) (sz : Nat) : gI G l yX11_feast wsX11_feast ({ frames := 5, cells := 0, slots := 0, locals := 119 } : Room) [.ref m0, .int (iI a1)] [(m0, .inr (10, [.ref m_all, .ref m_kept, .ref m_isKept, .ref m_refused, .long (lI m_above), .long (lI m_below), .ref m_hand, .ref m_fewest, .ref m_whoBites, .ref m_leaves, .ref m_bestFeast, .ref m_tells, .ref m_hardOn, .ref m_bytes, .int (iI m_bytesLong), .int (iI m_tokenAt), .int (iI m_tokenLong), .int (iI m_token), .int (iI m_value), .ref m_anew, .ref m_values])), (m_all, .inl (G.2 0, 311, .inl (cI mF))), (m_hand, .inl (G.2 0, 56, .inl (cI mh))), (m_refused, .inl (G.2 0, 3, .inl (cI mr))), (m_bestFeast, .inl (G.2 0, 4, .inl (cI mb)))] sz (fun (r : Int32) (u : va_W) => (∃ rr : Int, ∃ N_h : Nat → Int, ∃ N_r : Nat → Int, ∃ N_b : Nat → Int, r = (iI rr) ∧ u = [(m0, .inr (10, [.ref m_all, .ref m_kept, .ref m_isKept, .ref m_refused, .long (lI m_above), .long (lI m_below), .ref m_hand, .ref m_fewest, .ref m_whoBites, .ref m_leaves, .ref m_bestFeast, .ref m_tells, .ref m_hardOn, .ref m_bytes, .int (iI m_bytesLong), .int (iI m_tokenAt), .int (iI m_tokenLong), .int (iI m_token), .int (iI m_value), .ref m_anew, .ref m_values])), (m_all, .inl (G.2 0, 311, .inl (cI mF))), (m_hand, .inl (G.2 0, 56, .inl (cI N_h))), (m_refused, .inl (G.2 0, 3, .inl (cI N_r))), (m_bestFeast, .inl (G.2 0, 4, .inl (cI N_b)))])) := by
  refine Met.ofW (cc := cX11_feast) (maxL := 7) (ret := (some .int)) (by decide) rfl ?_
  intro p e s m args below meth c s₁ B hml hv
  obtain ⟨rfl, hsz, hP, hK, hD0, hN, hZ⟩ := hv
  have hx := B.exec
  have hb := B.bytes
  have hr := B.returns
  have hts := atoms_spec (ws := wsX11_feast) B.pre
  have hown : s.vm.findClass RX11 = some m.cls := findClass_of_methodNamed B.named
  have hlocks := B.notSynchronized
  subst hsz
  have hD := hD0.self (sz := s.heap.size)
  generalize hAe : va_A [(m0, .inr (10, [.ref m_all, .ref m_kept, .ref m_isKept, .ref m_refused, .long (lI m_above), .long (lI m_below), .ref m_hand, .ref m_fewest, .ref m_whoBites, .ref m_leaves, .ref m_bestFeast, .ref m_tells, .ref m_hardOn, .ref m_bytes, .int (iI m_bytesLong), .int (iI m_tokenAt), .int (iI m_tokenLong), .int (iI m_token), .int (iI m_value), .ref m_anew, .ref m_values])), (m_all, .inl (G.2 0, 311, .inl (cI mF))), (m_hand, .inl (G.2 0, 56, .inl (cI mh))), (m_refused, .inl (G.2 0, 3, .inl (cI mr))), (m_bestFeast, .inl (G.2 0, 4, .inl (cI mb)))] s.heap.size = A at hD hZ ⊢
  have hA : ∀ q : Nat, s.heap.size ≤ q → A q := fun q h => by rw [← hAe]; exact Or.inr h
  have hS : va_S A s.heap s.heap [] := va_S.rf
  have hP : va_P G.1 vwCl [(m0, .inr (10, [.ref m_all, .ref m_kept, .ref m_isKept, .ref m_refused, .long (lI m_above), .long (lI m_below), .ref m_hand, .ref m_fewest, .ref m_whoBites, .ref m_leaves, .ref m_bestFeast, .ref m_tells, .ref m_hardOn, .ref m_bytes, .int (iI m_bytesLong), .int (iI m_tokenAt), .int (iI m_tokenLong), .int (iI m_token), .int (iI m_value), .ref m_anew, .ref m_values])), (m_all, .inl (G.2 0, 311, .inl (cI mF))), (m_hand, .inl (G.2 0, 56, .inl (cI mh))), (m_refused, .inl (G.2 0, 3, .inl (cI mr))), (m_bestFeast, .inl (G.2 0, 4, .inl (cI mb)))] s.heap := hP
  have hl := lv_entry ([.ref m0, .int (iI a1)]) (n := 7) (Nat.le_of_ble_eq_true rfl)
  rw [lg_entry_eq]
  generalize (lg_sl ([.ref m0, .int (iI a1)]) ++ List.replicate (7 - (lg_sl ([.ref m0, .int (iI a1)])).length) Slot.unset).toArray = ls at hl ⊢
  have hl : lv_has ls 7 [(0, .ref m0), (1, .int (iI a1))] := hl
  refine lv_iload_n hx hb dX11_feast_0 rfl (lv_at hl 1 rfl) ?_
  refine lv_iconst (v := iI (-1)) hx hb dX11_feast_1 rfl ?_
  refine lv_icmp_eq (tgt := 20) hx hb dX11_feast_2 (by decide) (fun c_1 => ?_) (fun c_1 => ?_)
  · have c_1 := (iI_eq (a := a1) (b := (-1)) (by omega) (by first | decide | omega)).mp c_1
    refine lv_iconst (v := iI 1) hx hb dX11_feast_20 rfl ?_
    refine lv_istore_n (lv' := [(2, .int (iI 1)), (0, .ref m0), (1, .int (iI a1))]) hx hb dX11_feast_21 rfl hl (by decide) rfl (fun ls hl => ?_)
    refine lv_iconst (v := iI (-1)) hx hb dX11_feast_22 rfl ?_
    refine lv_istore_n (lv' := [(3, .int (iI (-1))), (2, .int (iI 1)), (0, .ref m0), (1, .int (iI a1))]) hx hb dX11_feast_23 rfl hl (by decide) rfl (fun ls hl => ?_)
    refine lv_iconst (v := iI 0) hx hb dX11_feast_24 rfl ?_
    refine lv_istore (lv' := [(4, .int (iI 0)), (3, .int (iI (-1))), (2, .int (iI 1)), (0, .ref m0), (1, .int (iI a1))]) hx hb dX11_feast_25 hl (by decide) rfl (fun ls hl => ?_)
    refine lv_iconst (v := iI 0) hx hb dX11_feast_27 rfl ?_
    refine lv_istore (lv' := [(5, .int (iI 0)), (4, .int (iI 0)), (3, .int (iI (-1))), (2, .int (iI 1)), (0, .ref m0), (1, .int (iI a1))]) hx hb dX11_feast_28 hl (by decide) rfl (fun ls hl => ?_)
    refine g_loopN (pc := 30) (fun nn H locs ls => ∃ c0__2 : Int, ∃ b0__3 : Int, ((b0__3 = 0 ∧ c0__2 = 1) ∨ (b0__3 = 1 ∧ c0__2 = 8) ∨ (b0__3 = 2 ∧ c0__2 = 64) ∨ (b0__3 = 3 ∧ c0__2 = 512) ∨ (b0__3 = 4 ∧ c0__2 = 4096)) ∧ (4 - b0__3).toNat = nn ∧ va_P G.1 vwCl [(m0, .inr (10, [.ref m_all, .ref m_kept, .ref m_isKept, .ref m_refused, .long (lI m_above), .long (lI m_below), .ref m_hand, .ref m_fewest, .ref m_whoBites, .ref m_leaves, .ref m_bestFeast, .ref m_tells, .ref m_hardOn, .ref m_bytes, .int (iI m_bytesLong), .int (iI m_tokenAt), .int (iI m_tokenLong), .int (iI m_token), .int (iI m_value), .ref m_anew, .ref m_values])), (m_all, .inl (G.2 0, 311, .inl (cI mF))), (m_hand, .inl (G.2 0, 56, .inl (cI mh))), (m_refused, .inl (G.2 0, 3, .inl (cI mr))), (m_bestFeast, .inl (G.2 0, 4, .inl (cI mb)))] H ∧ va_D A [(m0, .inr (10, [.ref m_all, .ref m_kept, .ref m_isKept, .ref m_refused, .long (lI m_above), .long (lI m_below), .ref m_hand, .ref m_fewest, .ref m_whoBites, .ref m_leaves, .ref m_bestFeast, .ref m_tells, .ref m_hardOn, .ref m_bytes, .int (iI m_bytesLong), .int (iI m_tokenAt), .int (iI m_tokenLong), .int (iI m_token), .int (iI m_value), .ref m_anew, .ref m_values])), (m_all, .inl (G.2 0, 311, .inl (cI mF))), (m_hand, .inl (G.2 0, 56, .inl (cI mh))), (m_refused, .inl (G.2 0, 3, .inl (cI mr))), (m_bestFeast, .inl (G.2 0, 4, .inl (cI mb)))] ∧ va_S A s.heap H locs ∧ lv_has ls 7 [(5, .int (iI b0__3)), (4, .int (iI 0)), (3, .int (iI (-1))), (2, .int (iI c0__2)), (0, .ref m0), (1, .int (iI a1))]) ?_ ⟨1, 0, (by first | assumption | omega), rfl, hP, hD, hS, lv_sub hl [0, 1, 2, 3, 4, 5] rfl⟩
    intro nn_6 H locs ls ih_5 hI
    refine ea_2_6 hI (fun c0__2 b0__3 f_4 hnn_7 hP hD hS hl => ?_)
    clear hI
    refine lv_iload hx hb dX11_feast_30 (lv_at hl 0 rfl) ?_
    refine lv_aload_n hx hb dX11_feast_32 rfl (lv_at hl 4 rfl) ?_
    refine va_get (D := G.1) (ci := 10) (v := .ref m_all) (C := RX11) (T := TX11) (N := 21) hx hb hts (fun _ h => List.mem_cons_of_mem _ (inlX11 _ h)) hown hK hP 0 rfl rfl 0 (by decide) (hts _ (List.mem_cons_of_mem _ (in_r6 (List.mem_of_getElem? (i := 0) rfl)))) (fun _ h9 => h9) rfl dX11_feast_33 ?_
    refine lv_iconst (v := iI 1) hx hb dX11_feast_36 rfl ?_
    refine g_ild hx hb hK hP 1 rfl (by omega) (by omega) (by first | exact Nat.le_of_ble_eq_true rfl | omega) dX11_feast_37 (fun w_8 ew_8 => ?_)
    have ew_8 : mF 1 = w_8 := ew_8
    have bw_8 : 0 ≤ w_8 ∧ w_8 ≤ 4 := by rw [← ew_8]; exact y0_ 1
    refine lv_icmp_ge (tgt := 52) hx hb dX11_feast_38 (by decide) (fun c_9 => ?_) (fun c_9 => ?_)
    · have c_9 := (iI_le (a := w_8) (b := b0__3) (by omega) (by omega)).mp c_9
      refine lv_iconst (v := iI 0) hx hb dX11_feast_52 rfl ?_
      refine lv_istore (lv' := [(5, .int (iI 0)), (4, .int (iI 0)), (3, .int (iI (-1))), (2, .int (iI c0__2)), (0, .ref m0), (1, .int (iI a1))]) hx hb dX11_feast_53 hl (by decide) rfl (fun ls hl => ?_)
      refine g_loopN (pc := 55) (fun nn H locs ls => ∃ m0__10 : Int, ∃ e0__11 : Int, ∃ i0__12 : Int, ∃ Eh_13 : Nat → Int, (0 ≤ i0__12 ∧ i0__12 ≤ 4096) ∧ (-1 ≤ m0__10 ∧ m0__10 ≤ 120) ∧ (0 ≤ e0__11 ∧ e0__11 ≤ 4096) ∧ (4096 - i0__12).toNat = nn ∧ va_P G.1 vwCl [(m0, .inr (10, [.ref m_all, .ref m_kept, .ref m_isKept, .ref m_refused, .long (lI m_above), .long (lI m_below), .ref m_hand, .ref m_fewest, .ref m_whoBites, .ref m_leaves, .ref m_bestFeast, .ref m_tells, .ref m_hardOn, .ref m_bytes, .int (iI m_bytesLong), .int (iI m_tokenAt), .int (iI m_tokenLong), .int (iI m_token), .int (iI m_value), .ref m_anew, .ref m_values])), (m_all, .inl (G.2 0, 311, .inl (cI mF))), (m_hand, .inl (G.2 0, 56, .inl (cI Eh_13))), (m_refused, .inl (G.2 0, 3, .inl (cI mr))), (m_bestFeast, .inl (G.2 0, 4, .inl (cI mb)))] H ∧ va_D A [(m0, .inr (10, [.ref m_all, .ref m_kept, .ref m_isKept, .ref m_refused, .long (lI m_above), .long (lI m_below), .ref m_hand, .ref m_fewest, .ref m_whoBites, .ref m_leaves, .ref m_bestFeast, .ref m_tells, .ref m_hardOn, .ref m_bytes, .int (iI m_bytesLong), .int (iI m_tokenAt), .int (iI m_tokenLong), .int (iI m_token), .int (iI m_value), .ref m_anew, .ref m_values])), (m_all, .inl (G.2 0, 311, .inl (cI mF))), (m_hand, .inl (G.2 0, 56, .inl (cI Eh_13))), (m_refused, .inl (G.2 0, 3, .inl (cI mr))), (m_bestFeast, .inl (G.2 0, 4, .inl (cI mb)))] ∧ va_S A s.heap H locs ∧ lv_has ls 7 [(5, .int (iI i0__12)), (4, .int (iI e0__11)), (3, .int (iI m0__10)), (2, .int (iI c0__2)), (0, .ref m0), (1, .int (iI a1))]) ?_ ⟨(-1), 0, 0, mh, (by first | assumption | omega), (by first | assumption | omega), (by first | assumption | omega), rfl, hP, hD, hS, lv_sub hl [0, 1, 2, 3, 4, 5] rfl⟩
      intro nn_18 H locs ls ih_17 hI
      refine ea_4_8 hI (fun m0__10 e0__11 i0__12 Eh_13 f_14 f_15 f_16 hnn_19 hP hD hS hl => ?_)
      clear hI
      refine lv_iload hx hb dX11_feast_55 (lv_at hl 0 rfl) ?_
      refine lv_iload_n hx hb dX11_feast_57 rfl (lv_at hl 3 rfl) ?_
      refine lv_icmp_ge (tgt := 103) hx hb dX11_feast_58 (by decide) (fun c_20 => ?_) (fun c_20 => ?_)
      · have c_20 := (iI_le (a := c0__2) (b := i0__12) (by omega) (by omega)).mp c_20
        refine lv_aload_n hx hb dX11_feast_103 rfl (lv_at hl 4 rfl) ?_
        refine va_get (D := G.1) (ci := 10) (v := .ref m_all) (C := RX11) (T := TX11) (N := 21) hx hb hts (fun _ h => List.mem_cons_of_mem _ (inlX11 _ h)) hown hK hP 0 rfl rfl 0 (by decide) (hts _ (List.mem_cons_of_mem _ (in_r6 (List.mem_of_getElem? (i := 0) rfl)))) (fun _ h9 => h9) rfl dX11_feast_104 ?_
        refine lv_iconst (v := iI 1) hx hb dX11_feast_107 rfl ?_
        refine g_ild hx hb hK hP 1 rfl (by omega) (by omega) (by first | exact Nat.le_of_ble_eq_true rfl | omega) dX11_feast_108 (fun w_21 ew_21 => ?_)
        have ew_21 : mF 1 = w_21 := ew_21
        have bw_21 : 0 ≤ w_21 ∧ w_21 ≤ 4 := by rw [← ew_21]; exact y0_ 1
        refine lv_iconst (v := iI 1) hx hb dX11_feast_109 rfl ?_
        refine lv_isub hx hb dX11_feast_110 ?_
        refine g_topi (y := iI (w_21 - 1)) (iI_sub w_21 1) ?_
        refine lv_istore (lv' := [(5, .int (iI (w_21 - 1))), (4, .int (iI e0__11)), (3, .int (iI m0__10)), (2, .int (iI c0__2)), (0, .ref m0), (1, .int (iI a1))]) hx hb dX11_feast_111 hl (by decide) rfl (fun ls hl => ?_)
        refine g_loopN (pc := 113) (fun nn H locs ls => ∃ e0__22 : Int, ∃ i0__23 : Int, ∃ Eb_24 : Nat → Int, (-1 ≤ i0__23 ∧ i0__23 ≤ 3) ∧ (0 ≤ e0__22 ∧ e0__22 ≤ 4096) ∧ (i0__23 + 1).toNat = nn ∧ va_P G.1 vwCl [(m0, .inr (10, [.ref m_all, .ref m_kept, .ref m_isKept, .ref m_refused, .long (lI m_above), .long (lI m_below), .ref m_hand, .ref m_fewest, .ref m_whoBites, .ref m_leaves, .ref m_bestFeast, .ref m_tells, .ref m_hardOn, .ref m_bytes, .int (iI m_bytesLong), .int (iI m_tokenAt), .int (iI m_tokenLong), .int (iI m_token), .int (iI m_value), .ref m_anew, .ref m_values])), (m_all, .inl (G.2 0, 311, .inl (cI mF))), (m_hand, .inl (G.2 0, 56, .inl (cI Eh_13))), (m_refused, .inl (G.2 0, 3, .inl (cI mr))), (m_bestFeast, .inl (G.2 0, 4, .inl (cI Eb_24)))] H ∧ va_D A [(m0, .inr (10, [.ref m_all, .ref m_kept, .ref m_isKept, .ref m_refused, .long (lI m_above), .long (lI m_below), .ref m_hand, .ref m_fewest, .ref m_whoBites, .ref m_leaves, .ref m_bestFeast, .ref m_tells, .ref m_hardOn, .ref m_bytes, .int (iI m_bytesLong), .int (iI m_tokenAt), .int (iI m_tokenLong), .int (iI m_token), .int (iI m_value), .ref m_anew, .ref m_values])), (m_all, .inl (G.2 0, 311, .inl (cI mF))), (m_hand, .inl (G.2 0, 56, .inl (cI Eh_13))), (m_refused, .inl (G.2 0, 3, .inl (cI mr))), (m_bestFeast, .inl (G.2 0, 4, .inl (cI Eb_24)))] ∧ va_S A s.heap H locs ∧ lv_has ls 7 [(5, .int (iI i0__23)), (4, .int (iI e0__22)), (3, .int (iI m0__10)), (2, .int (iI c0__2)), (0, .ref m0), (1, .int (iI a1))]) ?_ ⟨e0__11, (w_21 - 1), mb, (by first | assumption | omega), (by first | exact f_16 | assumption | omega), rfl, hP, hD, hS, lv_sub hl [0, 1, 2, 3, 4, 5] rfl⟩
        intro nn_28 H locs ls ih_27 hI
        refine ea_3_7 hI (fun e0__22 i0__23 Eb_24 f_25 f_26 hnn_29 hP hD hS hl => ?_)
        clear hI
        refine lv_iload hx hb dX11_feast_113 (lv_at hl 0 rfl) ?_
        refine lv_if_lt (tgt := 145) hx hb dX11_feast_115 (by decide) (fun c_30 => ?_) (fun c_30 => ?_)
        · have c_30 := (iI_lt (a := i0__23) (b := 0) (by omega) (by first | decide | omega)).mp c_30
          refine lv_iload_n hx hb dX11_feast_145 rfl (lv_at hl 5 rfl) ?_
          refine lv_iconst (v := iI (-1)) hx hb dX11_feast_146 rfl ?_
          refine lv_icmp_ne (tgt := 154) hx hb dX11_feast_147 (by decide) (fun c_31 => ?_) (fun c_31 => ?_)
          · have c_31 : ¬ (a1 = (-1)) := fun h9 => c_31 ((iI_eq (a := a1) (b := (-1)) (by omega) (by first | decide | omega)).mpr h9)
            refine lv_aload_n hx hb dX11_feast_154 rfl (lv_at hl 4 rfl) ?_
            refine va_get (D := G.1) (ci := 10) (v := .ref m_bestFeast) (C := RX11) (T := TX11) (N := 21) hx hb hts (fun _ h => List.mem_cons_of_mem _ (inlX11 _ h)) hown hK hP 0 rfl rfl 10 (by decide) (hts _ (List.mem_cons_of_mem _ (in_r6 (List.mem_of_getElem? (i := 9) rfl)))) (fun _ h9 => h9) rfl dX11_feast_155 ?_
            refine lv_iload_n hx hb dX11_feast_158 rfl (lv_at hl 5 rfl) ?_
            refine g_ildo hx hb hK hP 4 rfl (by omega) (by omega) (by first | exact Nat.le_of_ble_eq_true rfl | omega) dX11_feast_159 (fun w_32 hw_32 => ?_)
            exact g_iret (v := (iI w_32)) hx hb hr hlocks hP hD hS (⟨w_32, Eh_13, mr, Eb_24, rfl, rfl⟩) dX11_feast_160
          · have c_31 := (iI_eq (a := a1) (b := (-1)) (by omega) (by first | decide | omega)).mp c_31
            refine lv_iload_n hx hb dX11_feast_150 rfl (lv_at hl 2 rfl) ?_
            refine lv_goto (tgt := 160) hx hb dX11_feast_151 (by decide) ?_
            exact g_iret (v := (iI m0__10)) hx hb hr hlocks hP hD hS (⟨m0__10, Eh_13, mr, Eb_24, rfl, rfl⟩) dX11_feast_160
        · have c_30 : ¬ (i0__23 < 0) := fun h9 => c_30 ((iI_lt (a := i0__23) (b := 0) (by omega) (by first | decide | omega)).mpr h9)
          refine lv_aload_n hx hb dX11_feast_118 rfl (lv_at hl 4 rfl) ?_
          refine va_get (D := G.1) (ci := 10) (v := .ref m_bestFeast) (C := RX11) (T := TX11) (N := 21) hx hb hts (fun _ h => List.mem_cons_of_mem _ (inlX11 _ h)) hown hK hP 0 rfl rfl 10 (by decide) (hts _ (List.mem_cons_of_mem _ (in_r6 (List.mem_of_getElem? (i := 9) rfl)))) (fun _ h9 => h9) rfl dX11_feast_119 ?_
          refine lv_iload hx hb dX11_feast_122 (lv_at hl 0 rfl) ?_
          refine lv_iload hx hb dX11_feast_124 (lv_at hl 1 rfl) ?_
          refine lv_bipush (v := iI 8) hx hb dX11_feast_126 (by decide) ?_
          refine lv_irem hx hb dX11_feast_128 (iI_ne0 (by omega) (by omega)) ?_
          refine g_topi (y := iI (e0__22 % 8)) (iI_rem2 (by omega) (by omega) (by omega) (by omega)) ?_
          refine lv_iconst (v := iI 1) hx hb dX11_feast_129 rfl ?_
          refine lv_isub hx hb dX11_feast_130 ?_
          refine g_topi (y := iI ((e0__22 % 8) - 1)) (iI_sub (e0__22 % 8) 1) ?_
          refine g_ist hx hb hK hP hD hS 4 rfl (by omega) (by omega) (by first | exact Nat.le_of_ble_eq_true rfl | omega) dX11_feast_131 (fun H locs hP hD hS => ?_)
          have hPD : PD G A H [(m0, .inr (10, [.ref m_all, .ref m_kept, .ref m_isKept, .ref m_refused, .long (lI m_above), .long (lI m_below), .ref m_hand, .ref m_fewest, .ref m_whoBites, .ref m_leaves, .ref m_bestFeast, .ref m_tells, .ref m_hardOn, .ref m_bytes, .int (iI m_bytesLong), .int (iI m_tokenAt), .int (iI m_tokenLong), .int (iI m_token), .int (iI m_value), .ref m_anew, .ref m_values])), (m_all, .inl (G.2 0, 311, .inl (cI mF))), (m_hand, .inl (G.2 0, 56, .inl (cI Eh_13))), (m_refused, .inl (G.2 0, 3, .inl (cI mr))), (m_bestFeast, .inl (G.2 0, 4, .inl (cI (uI Eb_24 (i0__23.toNat) ((e0__22 % 8) - 1)))))] := ⟨hP, hD⟩
          have hP := hPD.1
          have hD := hPD.2
          clear hPD
          generalize hF_33 : (uI Eb_24 (i0__23.toNat) ((e0__22 % 8) - 1)) = F_33 at hP hD
          refine lv_iload hx hb dX11_feast_132 (lv_at hl 1 rfl) ?_
          refine lv_bipush (v := iI 8) hx hb dX11_feast_134 (by decide) ?_
          refine lv_idiv hx hb dX11_feast_136 (iI_ne0 (by omega) (by omega)) ?_
          refine g_topi (y := iI (e0__22 / 8)) (iI_div (by omega) (by omega) (by omega) (by omega)) ?_
          refine lv_istore (lv' := [(4, .int (iI (e0__22 / 8))), (5, .int (iI i0__23)), (3, .int (iI m0__10)), (2, .int (iI c0__2)), (0, .ref m0), (1, .int (iI a1))]) hx hb dX11_feast_137 hl (by decide) rfl (fun ls hl => ?_)
          refine lv_iinc (v := iI (i0__23 + (-1))) (lv' := [(5, .int (iI (i0__23 + (-1)))), (4, .int (iI (e0__22 / 8))), (3, .int (iI m0__10)), (2, .int (iI c0__2)), (0, .ref m0), (1, .int (iI a1))]) hx hb dX11_feast_139 hl (k := 1) rfl (iI_add i0__23 (-1)) (by decide) rfl (fun ls hl => ?_)
          refine lv_goto (tgt := 113) hx hb dX11_feast_142 (by decide) ?_
          exact ih_27 _ _ _ _ (by omega) ⟨(e0__22 / 8), (i0__23 + (-1)), F_33, (by first | assumption | omega), (by first | assumption | omega), rfl, hP, hD, hS, lv_sub hl [0, 1, 2, 3, 4, 5] rfl⟩
      · have c_20 : ¬ (c0__2 ≤ i0__12) := fun h9 => c_20 ((iI_le (a := c0__2) (b := i0__12) (by omega) (by omega)).mpr h9)
        refine lv_aload_n hx hb dX11_feast_61 rfl (lv_at hl 4 rfl) ?_
        refine lv_iload hx hb dX11_feast_62 (lv_at hl 0 rfl) ?_
        refine g_calli (wr := [(m_refused, .inl (G.2 0, 3, .inl (cI mr))), (m_bestFeast, .inl (G.2 0, 4, .inl (cI mb)))]) (va_runV (As := [.int (iI i0__12)]) (rest := []) ⟨hx, hb, hml, hown, hts⟩ (c_X11_feastBy l G (m0) (m_all) (m_kept) (m_isKept) (m_refused) (m_above) (m_below) (m_hand) (m_fewest) (m_whoBites) (m_leaves) (m_bestFeast) (m_tells) (m_hardOn) (m_bytes) (m_bytesLong) (m_tokenAt) (m_tokenLong) (m_token) (m_value) (m_anew) (m_values) (mF) (K0) (Eh_13) (i0__12) (by first | exact y0_ | exact bpA_mono y0_ (by omega) | assumption) (by first | assumption | omega) (by first | exact f_14 | assumption | omega) (by first | exact hK0 | assumption | omega) _) (cwV 1 hts gX11_feast_X11_feastBy rfl rfl rfl (by decide +kernel) ⟨Nat.le_of_ble_eq_true rfl, Nat.le_of_ble_eq_true rfl⟩) (g_preV m0 [.int (iI i0__12)] hP hD hK hN hS hA hZ [0, 1, 2] rfl rfl 0 (ci := 10) rfl rfl) rfl rfl hl.1 rfl (lv_room (Nat.le_of_ble_eq_true rfl)) dX11_feast_64 ⟨Nat.le_of_ble_eq_true rfl, Nat.le_of_ble_eq_true rfl⟩) hP hD hS hA [0, 1, 2] [3, 4] rfl rfl rfl (by decide) (fun r_34 u H locs hw hP hD hS => ?_)
        refine ea_2_3 hw (fun rr_35 N_h_36 k_37 e8_0 e8_1 => ?_)
        subst e8_0
        subst e8_1
        clear hw
        have hPD : PD G A H [(m_refused, .inl (G.2 0, 3, .inl (cI mr))), (m_bestFeast, .inl (G.2 0, 4, .inl (cI mb))), (m0, .inr (10, [.ref m_all, .ref m_kept, .ref m_isKept, .ref m_refused, .long (lI m_above), .long (lI m_below), .ref m_hand, .ref m_fewest, .ref m_whoBites, .ref m_leaves, .ref m_bestFeast, .ref m_tells, .ref m_hardOn, .ref m_bytes, .int (iI m_bytesLong), .int (iI m_tokenAt), .int (iI m_tokenLong), .int (iI m_token), .int (iI m_value), .ref m_anew, .ref m_values])), (m_all, .inl (G.2 0, 311, .inl (cI mF))), (m_hand, .inl (G.2 0, 56, .inl (cI N_h_36)))] := ⟨hP, hD⟩
        have hP := hPD.1
        have hD := hPD.2
        clear hPD
        refine lv_istore (lv' := [(6, .int (iI rr_35)), (5, .int (iI i0__12)), (4, .int (iI e0__11)), (3, .int (iI m0__10)), (2, .int (iI c0__2)), (0, .ref m0), (1, .int (iI a1))]) hx hb dX11_feast_67 hl (by decide) rfl (fun ls hl => ?_)
        refine lv_iload hx hb dX11_feast_69 (lv_at hl 0 rfl) ?_
        refine lv_iload_n hx hb dX11_feast_71 rfl (lv_at hl 3 rfl) ?_
        refine g_join (jn := 82) (rest := []) (fun t_38 ls => ((rr_35 ≤ m0__10 ∧ t_38 = e0__11) ∨ (¬ (rr_35 ≤ m0__10) ∧ t_38 = i0__12)) ∧ lv_has ls 7 [(6, .int (iI rr_35)), (5, .int (iI i0__12)), (4, .int (iI e0__11)), (3, .int (iI m0__10)), (2, .int (iI c0__2)), (0, .ref m0), (1, .int (iI a1))]) (fun t_38 ls hI => ?_) (fun hJ_39 => ?_)
        · obtain ⟨f_40, hl⟩ := hI
          refine lv_istore (lv' := [(4, .int (iI t_38)), (6, .int (iI rr_35)), (5, .int (iI i0__12)), (3, .int (iI m0__10)), (2, .int (iI c0__2)), (0, .ref m0), (1, .int (iI a1))]) hx hb dX11_feast_82 hl (by decide) rfl (fun ls hl => ?_)
          refine lv_iload hx hb dX11_feast_84 (lv_at hl 1 rfl) ?_
          refine lv_iload_n hx hb dX11_feast_86 rfl (lv_at hl 3 rfl) ?_
          refine g_join (jn := 96) (rest := []) (fun t_41 ls => ((rr_35 ≤ m0__10 ∧ t_41 = m0__10) ∨ (¬ (rr_35 ≤ m0__10) ∧ t_41 = rr_35)) ∧ lv_has ls 7 [(4, .int (iI t_38)), (6, .int (iI rr_35)), (5, .int (iI i0__12)), (3, .int (iI m0__10)), (2, .int (iI c0__2)), (0, .ref m0), (1, .int (iI a1))]) (fun t_41 ls hI => ?_) (fun hJ_42 => ?_)
          · obtain ⟨f_43, hl⟩ := hI
            refine lv_istore_n (lv' := [(3, .int (iI t_41)), (4, .int (iI t_38)), (6, .int (iI rr_35)), (5, .int (iI i0__12)), (2, .int (iI c0__2)), (0, .ref m0), (1, .int (iI a1))]) hx hb dX11_feast_96 rfl hl (by decide) rfl (fun ls hl => ?_)
            refine lv_iinc (v := iI (i0__12 + 1)) (lv' := [(5, .int (iI (i0__12 + 1))), (3, .int (iI t_41)), (4, .int (iI t_38)), (6, .int (iI rr_35)), (2, .int (iI c0__2)), (0, .ref m0), (1, .int (iI a1))]) hx hb dX11_feast_97 hl (k := 3) rfl (iI_add i0__12 1) (by decide) rfl (fun ls hl => ?_)
            refine lv_goto (tgt := 55) hx hb dX11_feast_100 (by decide) ?_
            have hP := hP.sub (ws' := [(m0, .inr (10, [.ref m_all, .ref m_kept, .ref m_isKept, .ref m_refused, .long (lI m_above), .long (lI m_below), .ref m_hand, .ref m_fewest, .ref m_whoBites, .ref m_leaves, .ref m_bestFeast, .ref m_tells, .ref m_hardOn, .ref m_bytes, .int (iI m_bytesLong), .int (iI m_tokenAt), .int (iI m_tokenLong), .int (iI m_token), .int (iI m_value), .ref m_anew, .ref m_values])), (m_all, .inl (G.2 0, 311, .inl (cI mF))), (m_hand, .inl (G.2 0, 56, .inl (cI N_h_36))), (m_refused, .inl (G.2 0, 3, .inl (cI mr))), (m_bestFeast, .inl (G.2 0, 4, .inl (cI mb)))]) [2, 3, 4, 0, 1] rfl
            have hD := hD.sub (ws' := [(m0, .inr (10, [.ref m_all, .ref m_kept, .ref m_isKept, .ref m_refused, .long (lI m_above), .long (lI m_below), .ref m_hand, .ref m_fewest, .ref m_whoBites, .ref m_leaves, .ref m_bestFeast, .ref m_tells, .ref m_hardOn, .ref m_bytes, .int (iI m_bytesLong), .int (iI m_tokenAt), .int (iI m_tokenLong), .int (iI m_token), .int (iI m_value), .ref m_anew, .ref m_values])), (m_all, .inl (G.2 0, 311, .inl (cI mF))), (m_hand, .inl (G.2 0, 56, .inl (cI N_h_36))), (m_refused, .inl (G.2 0, 3, .inl (cI mr))), (m_bestFeast, .inl (G.2 0, 4, .inl (cI mb)))]) [2, 3, 4, 0, 1] rfl rfl
            exact ih_17 _ _ _ _ (by omega) ⟨t_41, t_38, (i0__12 + 1), N_h_36, (by first | assumption | omega), (by first | assumption | omega), (by first | assumption | omega), rfl, hP, hD, hS, lv_sub hl [0, 2, 1, 4, 5, 6] rfl⟩
          · refine lv_icmp_le (tgt := 95) hx hb dX11_feast_87 (by decide) (fun c_44 => ?_) (fun c_44 => ?_)
            · have c_44 := (iI_le (a := rr_35) (b := m0__10) (by omega) (by omega)).mp c_44
              refine lv_iload_n hx hb dX11_feast_95 rfl (lv_at hl 3 rfl) ?_
              exact hJ_42 m0__10 ls ⟨by omega, lv_sub hl [0, 1, 2, 3, 4, 5, 6] rfl⟩
            · have c_44 : ¬ (rr_35 ≤ m0__10) := fun h9 => c_44 ((iI_le (a := rr_35) (b := m0__10) (by omega) (by omega)).mpr h9)
              refine lv_iload hx hb dX11_feast_90 (lv_at hl 1 rfl) ?_
              refine lv_goto (tgt := 96) hx hb dX11_feast_92 (by decide) ?_
              exact hJ_42 rr_35 ls ⟨by omega, lv_sub hl [0, 1, 2, 3, 4, 5, 6] rfl⟩
        · refine lv_icmp_le (tgt := 80) hx hb dX11_feast_72 (by decide) (fun c_45 => ?_) (fun c_45 => ?_)
          · have c_45 := (iI_le (a := rr_35) (b := m0__10) (by omega) (by omega)).mp c_45
            refine lv_iload hx hb dX11_feast_80 (lv_at hl 2 rfl) ?_
            exact hJ_39 e0__11 ls ⟨by omega, lv_sub hl [0, 1, 2, 3, 4, 5, 6] rfl⟩
          · have c_45 : ¬ (rr_35 ≤ m0__10) := fun h9 => c_45 ((iI_le (a := rr_35) (b := m0__10) (by omega) (by omega)).mpr h9)
            refine lv_iload hx hb dX11_feast_75 (lv_at hl 1 rfl) ?_
            refine lv_goto (tgt := 82) hx hb dX11_feast_77 (by decide) ?_
            exact hJ_39 i0__12 ls ⟨by omega, lv_sub hl [0, 1, 2, 3, 4, 5, 6] rfl⟩
    · have c_9 : ¬ (w_8 ≤ b0__3) := fun h9 => c_9 ((iI_le (a := w_8) (b := b0__3) (by omega) (by omega)).mpr h9)
      refine lv_iload_n hx hb dX11_feast_41 rfl (lv_at hl 3 rfl) ?_
      refine lv_bipush (v := iI 8) hx hb dX11_feast_42 (by decide) ?_
      refine lv_imul hx hb dX11_feast_44 ?_
      refine g_topi (y := iI (c0__2 * 8)) (iI_mul c0__2 8) ?_
      refine lv_istore_n (lv' := [(2, .int (iI (c0__2 * 8))), (5, .int (iI b0__3)), (4, .int (iI 0)), (3, .int (iI (-1))), (0, .ref m0), (1, .int (iI a1))]) hx hb dX11_feast_45 rfl hl (by decide) rfl (fun ls hl => ?_)
      refine lv_iinc (v := iI (b0__3 + 1)) (lv' := [(5, .int (iI (b0__3 + 1))), (2, .int (iI (c0__2 * 8))), (4, .int (iI 0)), (3, .int (iI (-1))), (0, .ref m0), (1, .int (iI a1))]) hx hb dX11_feast_46 hl (k := 1) rfl (iI_add b0__3 1) (by decide) rfl (fun ls hl => ?_)
      refine lv_goto (tgt := 30) hx hb dX11_feast_49 (by decide) ?_
      exact ih_5 _ _ _ _ (by omega) ⟨(c0__2 * 8), (b0__3 + 1), (by first | assumption | omega), rfl, hP, hD, hS, lv_sub hl [0, 2, 3, 1, 4, 5] rfl⟩
  · have c_1 : ¬ (a1 = (-1)) := fun h9 => c_1 ((iI_eq (a := a1) (b := (-1)) (by omega) (by first | decide | omega)).mpr h9)
    refine lv_aload_n hx hb dX11_feast_5 rfl (lv_at hl 0 rfl) ?_
    refine lv_iload_n hx hb dX11_feast_6 rfl (lv_at hl 1 rfl) ?_
    refine g_calli (wr := [(m_hand, .inl (G.2 0, 56, .inl (cI mh))), (m_refused, .inl (G.2 0, 3, .inl (cI mr))), (m_bestFeast, .inl (G.2 0, 4, .inl (cI mb)))]) (va_runV (As := [.int (iI a1)]) (rest := []) ⟨hx, hb, hml, hown, hts⟩ (c_X11_isBiter l G (m0) (m_all) (m_kept) (m_isKept) (m_refused) (m_above) (m_below) (m_hand) (m_fewest) (m_whoBites) (m_leaves) (m_bestFeast) (m_tells) (m_hardOn) (m_bytes) (m_bytesLong) (m_tokenAt) (m_tokenLong) (m_token) (m_value) (m_anew) (m_values) (mF) (K0) (a1) (by first | exact y0_ | exact bpA_mono y0_ (by omega) | assumption) (by first | exact hK0 | assumption | omega) (by first | exact ra1 | assumption | omega) _) (cwV 1 hts gX11_feast_X11_isBiter rfl rfl rfl (by decide +kernel) ⟨Nat.le_of_ble_eq_true rfl, Nat.le_of_ble_eq_true rfl⟩) (g_preV m0 [.int (iI a1)] hP hD hK hN hS hA hZ [0, 1] rfl rfl 0 (ci := 10) rfl rfl) rfl rfl hl.1 rfl (lv_room (Nat.le_of_ble_eq_true rfl)) dX11_feast_7 ⟨Nat.le_of_ble_eq_true rfl, Nat.le_of_ble_eq_true rfl⟩) hP hD hS hA [0, 1] [2, 3, 4] rfl rfl rfl (by decide) (fun r_46 u H locs hw hP hD hS => ?_)
    rcases hw with hw | hw
    · refine ea_0_4 hw (fun k_47 k_48 e8_0 e8_1 => ?_)
      subst e8_0
      subst e8_1
      clear hw
      have hPD : PD G A H [(m_hand, .inl (G.2 0, 56, .inl (cI mh))), (m_refused, .inl (G.2 0, 3, .inl (cI mr))), (m_bestFeast, .inl (G.2 0, 4, .inl (cI mb))), (m0, .inr (10, [.ref m_all, .ref m_kept, .ref m_isKept, .ref m_refused, .long (lI m_above), .long (lI m_below), .ref m_hand, .ref m_fewest, .ref m_whoBites, .ref m_leaves, .ref m_bestFeast, .ref m_tells, .ref m_hardOn, .ref m_bytes, .int (iI m_bytesLong), .int (iI m_tokenAt), .int (iI m_tokenLong), .int (iI m_token), .int (iI m_value), .ref m_anew, .ref m_values])), (m_all, .inl (G.2 0, 311, .inl (cI mF)))] := ⟨hP, hD⟩
      have hP := hPD.1
      have hD := hPD.2
      clear hPD
      refine lv_if_ne (tgt := 20) hx hb dX11_feast_10 (by decide) (fun _ => ?_) (fun c_50 => g_no c_50 (by decide))
      refine lv_iconst (v := iI 1) hx hb dX11_feast_20 rfl ?_
      refine lv_istore_n (lv' := [(2, .int (iI 1)), (0, .ref m0), (1, .int (iI a1))]) hx hb dX11_feast_21 rfl hl (by decide) rfl (fun ls hl => ?_)
      refine lv_iconst (v := iI (-1)) hx hb dX11_feast_22 rfl ?_
      refine lv_istore_n (lv' := [(3, .int (iI (-1))), (2, .int (iI 1)), (0, .ref m0), (1, .int (iI a1))]) hx hb dX11_feast_23 rfl hl (by decide) rfl (fun ls hl => ?_)
      refine lv_iconst (v := iI 0) hx hb dX11_feast_24 rfl ?_
      refine lv_istore (lv' := [(4, .int (iI 0)), (3, .int (iI (-1))), (2, .int (iI 1)), (0, .ref m0), (1, .int (iI a1))]) hx hb dX11_feast_25 hl (by decide) rfl (fun ls hl => ?_)
      refine lv_iconst (v := iI 0) hx hb dX11_feast_27 rfl ?_
      refine lv_istore (lv' := [(5, .int (iI 0)), (4, .int (iI 0)), (3, .int (iI (-1))), (2, .int (iI 1)), (0, .ref m0), (1, .int (iI a1))]) hx hb dX11_feast_28 hl (by decide) rfl (fun ls hl => ?_)
      refine g_loopN (pc := 30) (fun nn H locs ls => ∃ c0__51 : Int, ∃ b0__52 : Int, ((b0__52 = 0 ∧ c0__51 = 1) ∨ (b0__52 = 1 ∧ c0__51 = 8) ∨ (b0__52 = 2 ∧ c0__51 = 64) ∨ (b0__52 = 3 ∧ c0__51 = 512) ∨ (b0__52 = 4 ∧ c0__51 = 4096)) ∧ (4 - b0__52).toNat = nn ∧ va_P G.1 vwCl [(m_hand, .inl (G.2 0, 56, .inl (cI mh))), (m_refused, .inl (G.2 0, 3, .inl (cI mr))), (m_bestFeast, .inl (G.2 0, 4, .inl (cI mb))), (m0, .inr (10, [.ref m_all, .ref m_kept, .ref m_isKept, .ref m_refused, .long (lI m_above), .long (lI m_below), .ref m_hand, .ref m_fewest, .ref m_whoBites, .ref m_leaves, .ref m_bestFeast, .ref m_tells, .ref m_hardOn, .ref m_bytes, .int (iI m_bytesLong), .int (iI m_tokenAt), .int (iI m_tokenLong), .int (iI m_token), .int (iI m_value), .ref m_anew, .ref m_values])), (m_all, .inl (G.2 0, 311, .inl (cI mF)))] H ∧ va_D A [(m_hand, .inl (G.2 0, 56, .inl (cI mh))), (m_refused, .inl (G.2 0, 3, .inl (cI mr))), (m_bestFeast, .inl (G.2 0, 4, .inl (cI mb))), (m0, .inr (10, [.ref m_all, .ref m_kept, .ref m_isKept, .ref m_refused, .long (lI m_above), .long (lI m_below), .ref m_hand, .ref m_fewest, .ref m_whoBites, .ref m_leaves, .ref m_bestFeast, .ref m_tells, .ref m_hardOn, .ref m_bytes, .int (iI m_bytesLong), .int (iI m_tokenAt), .int (iI m_tokenLong), .int (iI m_token), .int (iI m_value), .ref m_anew, .ref m_values])), (m_all, .inl (G.2 0, 311, .inl (cI mF)))] ∧ va_S A s.heap H locs ∧ lv_has ls 7 [(5, .int (iI b0__52)), (4, .int (iI 0)), (3, .int (iI (-1))), (2, .int (iI c0__51)), (0, .ref m0), (1, .int (iI a1))]) ?_ ⟨1, 0, (by first | assumption | omega), rfl, hP, hD, hS, lv_sub hl [0, 1, 2, 3, 4, 5] rfl⟩
      intro nn_55 H locs ls ih_54 hI
      refine ea_2_6 hI (fun c0__51 b0__52 f_53 hnn_56 hP hD hS hl => ?_)
      clear hI
      refine lv_iload hx hb dX11_feast_30 (lv_at hl 0 rfl) ?_
      refine lv_aload_n hx hb dX11_feast_32 rfl (lv_at hl 4 rfl) ?_
      refine va_get (D := G.1) (ci := 10) (v := .ref m_all) (C := RX11) (T := TX11) (N := 21) hx hb hts (fun _ h => List.mem_cons_of_mem _ (inlX11 _ h)) hown hK hP 3 rfl rfl 0 (by decide) (hts _ (List.mem_cons_of_mem _ (in_r6 (List.mem_of_getElem? (i := 0) rfl)))) (fun _ h9 => h9) rfl dX11_feast_33 ?_
      refine lv_iconst (v := iI 1) hx hb dX11_feast_36 rfl ?_
      refine g_ild hx hb hK hP 4 rfl (by omega) (by omega) (by first | exact Nat.le_of_ble_eq_true rfl | omega) dX11_feast_37 (fun w_57 ew_57 => ?_)
      have ew_57 : mF 1 = w_57 := ew_57
      have bw_57 : 0 ≤ w_57 ∧ w_57 ≤ 4 := by rw [← ew_57]; exact y0_ 1
      refine lv_icmp_ge (tgt := 52) hx hb dX11_feast_38 (by decide) (fun c_58 => ?_) (fun c_58 => ?_)
      · have c_58 := (iI_le (a := w_57) (b := b0__52) (by omega) (by omega)).mp c_58
        refine lv_iconst (v := iI 0) hx hb dX11_feast_52 rfl ?_
        refine lv_istore (lv' := [(5, .int (iI 0)), (4, .int (iI 0)), (3, .int (iI (-1))), (2, .int (iI c0__51)), (0, .ref m0), (1, .int (iI a1))]) hx hb dX11_feast_53 hl (by decide) rfl (fun ls hl => ?_)
        refine g_loopN (pc := 55) (fun nn H locs ls => ∃ m0__59 : Int, ∃ e0__60 : Int, ∃ i0__61 : Int, ∃ Eh_62 : Nat → Int, (0 ≤ i0__61 ∧ i0__61 ≤ 4096) ∧ (-1 ≤ m0__59 ∧ m0__59 ≤ 120) ∧ (0 ≤ e0__60 ∧ e0__60 ≤ 4096) ∧ (4096 - i0__61).toNat = nn ∧ va_P G.1 vwCl [(m_hand, .inl (G.2 0, 56, .inl (cI Eh_62))), (m_refused, .inl (G.2 0, 3, .inl (cI mr))), (m_bestFeast, .inl (G.2 0, 4, .inl (cI mb))), (m0, .inr (10, [.ref m_all, .ref m_kept, .ref m_isKept, .ref m_refused, .long (lI m_above), .long (lI m_below), .ref m_hand, .ref m_fewest, .ref m_whoBites, .ref m_leaves, .ref m_bestFeast, .ref m_tells, .ref m_hardOn, .ref m_bytes, .int (iI m_bytesLong), .int (iI m_tokenAt), .int (iI m_tokenLong), .int (iI m_token), .int (iI m_value), .ref m_anew, .ref m_values])), (m_all, .inl (G.2 0, 311, .inl (cI mF)))] H ∧ va_D A [(m_hand, .inl (G.2 0, 56, .inl (cI Eh_62))), (m_refused, .inl (G.2 0, 3, .inl (cI mr))), (m_bestFeast, .inl (G.2 0, 4, .inl (cI mb))), (m0, .inr (10, [.ref m_all, .ref m_kept, .ref m_isKept, .ref m_refused, .long (lI m_above), .long (lI m_below), .ref m_hand, .ref m_fewest, .ref m_whoBites, .ref m_leaves, .ref m_bestFeast, .ref m_tells, .ref m_hardOn, .ref m_bytes, .int (iI m_bytesLong), .int (iI m_tokenAt), .int (iI m_tokenLong), .int (iI m_token), .int (iI m_value), .ref m_anew, .ref m_values])), (m_all, .inl (G.2 0, 311, .inl (cI mF)))] ∧ va_S A s.heap H locs ∧ lv_has ls 7 [(5, .int (iI i0__61)), (4, .int (iI e0__60)), (3, .int (iI m0__59)), (2, .int (iI c0__51)), (0, .ref m0), (1, .int (iI a1))]) ?_ ⟨(-1), 0, 0, mh, (by first | assumption | omega), (by first | assumption | omega), (by first | assumption | omega), rfl, hP, hD, hS, lv_sub hl [0, 1, 2, 3, 4, 5] rfl⟩
        intro nn_67 H locs ls ih_66 hI
        refine ea_4_8 hI (fun m0__59 e0__60 i0__61 Eh_62 f_63 f_64 f_65 hnn_68 hP hD hS hl => ?_)
        clear hI
        refine lv_iload hx hb dX11_feast_55 (lv_at hl 0 rfl) ?_
        refine lv_iload_n hx hb dX11_feast_57 rfl (lv_at hl 3 rfl) ?_
        refine lv_icmp_ge (tgt := 103) hx hb dX11_feast_58 (by decide) (fun c_69 => ?_) (fun c_69 => ?_)
        · have c_69 := (iI_le (a := c0__51) (b := i0__61) (by omega) (by omega)).mp c_69
          refine lv_aload_n hx hb dX11_feast_103 rfl (lv_at hl 4 rfl) ?_
          refine va_get (D := G.1) (ci := 10) (v := .ref m_all) (C := RX11) (T := TX11) (N := 21) hx hb hts (fun _ h => List.mem_cons_of_mem _ (inlX11 _ h)) hown hK hP 3 rfl rfl 0 (by decide) (hts _ (List.mem_cons_of_mem _ (in_r6 (List.mem_of_getElem? (i := 0) rfl)))) (fun _ h9 => h9) rfl dX11_feast_104 ?_
          refine lv_iconst (v := iI 1) hx hb dX11_feast_107 rfl ?_
          refine g_ild hx hb hK hP 4 rfl (by omega) (by omega) (by first | exact Nat.le_of_ble_eq_true rfl | omega) dX11_feast_108 (fun w_70 ew_70 => ?_)
          have ew_70 : mF 1 = w_70 := ew_70
          have bw_70 : 0 ≤ w_70 ∧ w_70 ≤ 4 := by rw [← ew_70]; exact y0_ 1
          refine lv_iconst (v := iI 1) hx hb dX11_feast_109 rfl ?_
          refine lv_isub hx hb dX11_feast_110 ?_
          refine g_topi (y := iI (w_70 - 1)) (iI_sub w_70 1) ?_
          refine lv_istore (lv' := [(5, .int (iI (w_70 - 1))), (4, .int (iI e0__60)), (3, .int (iI m0__59)), (2, .int (iI c0__51)), (0, .ref m0), (1, .int (iI a1))]) hx hb dX11_feast_111 hl (by decide) rfl (fun ls hl => ?_)
          refine g_loopN (pc := 113) (fun nn H locs ls => ∃ e0__71 : Int, ∃ i0__72 : Int, ∃ Eb_73 : Nat → Int, (-1 ≤ i0__72 ∧ i0__72 ≤ 3) ∧ (0 ≤ e0__71 ∧ e0__71 ≤ 4096) ∧ (i0__72 + 1).toNat = nn ∧ va_P G.1 vwCl [(m_hand, .inl (G.2 0, 56, .inl (cI Eh_62))), (m_refused, .inl (G.2 0, 3, .inl (cI mr))), (m_bestFeast, .inl (G.2 0, 4, .inl (cI Eb_73))), (m0, .inr (10, [.ref m_all, .ref m_kept, .ref m_isKept, .ref m_refused, .long (lI m_above), .long (lI m_below), .ref m_hand, .ref m_fewest, .ref m_whoBites, .ref m_leaves, .ref m_bestFeast, .ref m_tells, .ref m_hardOn, .ref m_bytes, .int (iI m_bytesLong), .int (iI m_tokenAt), .int (iI m_tokenLong), .int (iI m_token), .int (iI m_value), .ref m_anew, .ref m_values])), (m_all, .inl (G.2 0, 311, .inl (cI mF)))] H ∧ va_D A [(m_hand, .inl (G.2 0, 56, .inl (cI Eh_62))), (m_refused, .inl (G.2 0, 3, .inl (cI mr))), (m_bestFeast, .inl (G.2 0, 4, .inl (cI Eb_73))), (m0, .inr (10, [.ref m_all, .ref m_kept, .ref m_isKept, .ref m_refused, .long (lI m_above), .long (lI m_below), .ref m_hand, .ref m_fewest, .ref m_whoBites, .ref m_leaves, .ref m_bestFeast, .ref m_tells, .ref m_hardOn, .ref m_bytes, .int (iI m_bytesLong), .int (iI m_tokenAt), .int (iI m_tokenLong), .int (iI m_token), .int (iI m_value), .ref m_anew, .ref m_values])), (m_all, .inl (G.2 0, 311, .inl (cI mF)))] ∧ va_S A s.heap H locs ∧ lv_has ls 7 [(5, .int (iI i0__72)), (4, .int (iI e0__71)), (3, .int (iI m0__59)), (2, .int (iI c0__51)), (0, .ref m0), (1, .int (iI a1))]) ?_ ⟨e0__60, (w_70 - 1), mb, (by first | assumption | omega), (by first | exact f_65 | assumption | omega), rfl, hP, hD, hS, lv_sub hl [0, 1, 2, 3, 4, 5] rfl⟩
          intro nn_77 H locs ls ih_76 hI
          refine ea_3_7 hI (fun e0__71 i0__72 Eb_73 f_74 f_75 hnn_78 hP hD hS hl => ?_)
          clear hI
          refine lv_iload hx hb dX11_feast_113 (lv_at hl 0 rfl) ?_
          refine lv_if_lt (tgt := 145) hx hb dX11_feast_115 (by decide) (fun c_79 => ?_) (fun c_79 => ?_)
          · have c_79 := (iI_lt (a := i0__72) (b := 0) (by omega) (by first | decide | omega)).mp c_79
            refine lv_iload_n hx hb dX11_feast_145 rfl (lv_at hl 5 rfl) ?_
            refine lv_iconst (v := iI (-1)) hx hb dX11_feast_146 rfl ?_
            refine lv_icmp_ne (tgt := 154) hx hb dX11_feast_147 (by decide) (fun c_80 => ?_) (fun c_80 => ?_)
            · have c_80 : ¬ (a1 = (-1)) := fun h9 => c_80 ((iI_eq (a := a1) (b := (-1)) (by omega) (by first | decide | omega)).mpr h9)
              refine lv_aload_n hx hb dX11_feast_154 rfl (lv_at hl 4 rfl) ?_
              refine va_get (D := G.1) (ci := 10) (v := .ref m_bestFeast) (C := RX11) (T := TX11) (N := 21) hx hb hts (fun _ h => List.mem_cons_of_mem _ (inlX11 _ h)) hown hK hP 3 rfl rfl 10 (by decide) (hts _ (List.mem_cons_of_mem _ (in_r6 (List.mem_of_getElem? (i := 9) rfl)))) (fun _ h9 => h9) rfl dX11_feast_155 ?_
              refine lv_iload_n hx hb dX11_feast_158 rfl (lv_at hl 5 rfl) ?_
              refine g_ildo hx hb hK hP 2 rfl (by omega) (by omega) (by first | exact Nat.le_of_ble_eq_true rfl | omega) dX11_feast_159 (fun w_81 hw_81 => ?_)
              have hP := hP.sub (ws' := [(m0, .inr (10, [.ref m_all, .ref m_kept, .ref m_isKept, .ref m_refused, .long (lI m_above), .long (lI m_below), .ref m_hand, .ref m_fewest, .ref m_whoBites, .ref m_leaves, .ref m_bestFeast, .ref m_tells, .ref m_hardOn, .ref m_bytes, .int (iI m_bytesLong), .int (iI m_tokenAt), .int (iI m_tokenLong), .int (iI m_token), .int (iI m_value), .ref m_anew, .ref m_values])), (m_all, .inl (G.2 0, 311, .inl (cI mF))), (m_hand, .inl (G.2 0, 56, .inl (cI Eh_62))), (m_refused, .inl (G.2 0, 3, .inl (cI mr))), (m_bestFeast, .inl (G.2 0, 4, .inl (cI Eb_73)))]) [3, 4, 0, 1, 2] rfl
              have hD := hD.sub (ws' := [(m0, .inr (10, [.ref m_all, .ref m_kept, .ref m_isKept, .ref m_refused, .long (lI m_above), .long (lI m_below), .ref m_hand, .ref m_fewest, .ref m_whoBites, .ref m_leaves, .ref m_bestFeast, .ref m_tells, .ref m_hardOn, .ref m_bytes, .int (iI m_bytesLong), .int (iI m_tokenAt), .int (iI m_tokenLong), .int (iI m_token), .int (iI m_value), .ref m_anew, .ref m_values])), (m_all, .inl (G.2 0, 311, .inl (cI mF))), (m_hand, .inl (G.2 0, 56, .inl (cI Eh_62))), (m_refused, .inl (G.2 0, 3, .inl (cI mr))), (m_bestFeast, .inl (G.2 0, 4, .inl (cI Eb_73)))]) [3, 4, 0, 1, 2] rfl rfl
              exact g_iret (v := (iI w_81)) hx hb hr hlocks hP hD hS (⟨w_81, Eh_62, mr, Eb_73, rfl, rfl⟩) dX11_feast_160
            · have c_80 := (iI_eq (a := a1) (b := (-1)) (by omega) (by first | decide | omega)).mp c_80
              refine lv_iload_n hx hb dX11_feast_150 rfl (lv_at hl 2 rfl) ?_
              refine lv_goto (tgt := 160) hx hb dX11_feast_151 (by decide) ?_
              have hP := hP.sub (ws' := [(m0, .inr (10, [.ref m_all, .ref m_kept, .ref m_isKept, .ref m_refused, .long (lI m_above), .long (lI m_below), .ref m_hand, .ref m_fewest, .ref m_whoBites, .ref m_leaves, .ref m_bestFeast, .ref m_tells, .ref m_hardOn, .ref m_bytes, .int (iI m_bytesLong), .int (iI m_tokenAt), .int (iI m_tokenLong), .int (iI m_token), .int (iI m_value), .ref m_anew, .ref m_values])), (m_all, .inl (G.2 0, 311, .inl (cI mF))), (m_hand, .inl (G.2 0, 56, .inl (cI Eh_62))), (m_refused, .inl (G.2 0, 3, .inl (cI mr))), (m_bestFeast, .inl (G.2 0, 4, .inl (cI Eb_73)))]) [3, 4, 0, 1, 2] rfl
              have hD := hD.sub (ws' := [(m0, .inr (10, [.ref m_all, .ref m_kept, .ref m_isKept, .ref m_refused, .long (lI m_above), .long (lI m_below), .ref m_hand, .ref m_fewest, .ref m_whoBites, .ref m_leaves, .ref m_bestFeast, .ref m_tells, .ref m_hardOn, .ref m_bytes, .int (iI m_bytesLong), .int (iI m_tokenAt), .int (iI m_tokenLong), .int (iI m_token), .int (iI m_value), .ref m_anew, .ref m_values])), (m_all, .inl (G.2 0, 311, .inl (cI mF))), (m_hand, .inl (G.2 0, 56, .inl (cI Eh_62))), (m_refused, .inl (G.2 0, 3, .inl (cI mr))), (m_bestFeast, .inl (G.2 0, 4, .inl (cI Eb_73)))]) [3, 4, 0, 1, 2] rfl rfl
              exact g_iret (v := (iI m0__59)) hx hb hr hlocks hP hD hS (⟨m0__59, Eh_62, mr, Eb_73, rfl, rfl⟩) dX11_feast_160
          · have c_79 : ¬ (i0__72 < 0) := fun h9 => c_79 ((iI_lt (a := i0__72) (b := 0) (by omega) (by first | decide | omega)).mpr h9)
            refine lv_aload_n hx hb dX11_feast_118 rfl (lv_at hl 4 rfl) ?_
            refine va_get (D := G.1) (ci := 10) (v := .ref m_bestFeast) (C := RX11) (T := TX11) (N := 21) hx hb hts (fun _ h => List.mem_cons_of_mem _ (inlX11 _ h)) hown hK hP 3 rfl rfl 10 (by decide) (hts _ (List.mem_cons_of_mem _ (in_r6 (List.mem_of_getElem? (i := 9) rfl)))) (fun _ h9 => h9) rfl dX11_feast_119 ?_
            refine lv_iload hx hb dX11_feast_122 (lv_at hl 0 rfl) ?_
            refine lv_iload hx hb dX11_feast_124 (lv_at hl 1 rfl) ?_
            refine lv_bipush (v := iI 8) hx hb dX11_feast_126 (by decide) ?_
            refine lv_irem hx hb dX11_feast_128 (iI_ne0 (by omega) (by omega)) ?_
            refine g_topi (y := iI (e0__71 % 8)) (iI_rem2 (by omega) (by omega) (by omega) (by omega)) ?_
            refine lv_iconst (v := iI 1) hx hb dX11_feast_129 rfl ?_
            refine lv_isub hx hb dX11_feast_130 ?_
            refine g_topi (y := iI ((e0__71 % 8) - 1)) (iI_sub (e0__71 % 8) 1) ?_
            refine g_ist hx hb hK hP hD hS 2 rfl (by omega) (by omega) (by first | exact Nat.le_of_ble_eq_true rfl | omega) dX11_feast_131 (fun H locs hP hD hS => ?_)
            have hPD : PD G A H [(m_hand, .inl (G.2 0, 56, .inl (cI Eh_62))), (m_refused, .inl (G.2 0, 3, .inl (cI mr))), (m_bestFeast, .inl (G.2 0, 4, .inl (cI (uI Eb_73 (i0__72.toNat) ((e0__71 % 8) - 1))))), (m0, .inr (10, [.ref m_all, .ref m_kept, .ref m_isKept, .ref m_refused, .long (lI m_above), .long (lI m_below), .ref m_hand, .ref m_fewest, .ref m_whoBites, .ref m_leaves, .ref m_bestFeast, .ref m_tells, .ref m_hardOn, .ref m_bytes, .int (iI m_bytesLong), .int (iI m_tokenAt), .int (iI m_tokenLong), .int (iI m_token), .int (iI m_value), .ref m_anew, .ref m_values])), (m_all, .inl (G.2 0, 311, .inl (cI mF)))] := ⟨hP, hD⟩
            have hP := hPD.1
            have hD := hPD.2
            clear hPD
            generalize hF_82 : (uI Eb_73 (i0__72.toNat) ((e0__71 % 8) - 1)) = F_82 at hP hD
            refine lv_iload hx hb dX11_feast_132 (lv_at hl 1 rfl) ?_
            refine lv_bipush (v := iI 8) hx hb dX11_feast_134 (by decide) ?_
            refine lv_idiv hx hb dX11_feast_136 (iI_ne0 (by omega) (by omega)) ?_
            refine g_topi (y := iI (e0__71 / 8)) (iI_div (by omega) (by omega) (by omega) (by omega)) ?_
            refine lv_istore (lv' := [(4, .int (iI (e0__71 / 8))), (5, .int (iI i0__72)), (3, .int (iI m0__59)), (2, .int (iI c0__51)), (0, .ref m0), (1, .int (iI a1))]) hx hb dX11_feast_137 hl (by decide) rfl (fun ls hl => ?_)
            refine lv_iinc (v := iI (i0__72 + (-1))) (lv' := [(5, .int (iI (i0__72 + (-1)))), (4, .int (iI (e0__71 / 8))), (3, .int (iI m0__59)), (2, .int (iI c0__51)), (0, .ref m0), (1, .int (iI a1))]) hx hb dX11_feast_139 hl (k := 1) rfl (iI_add i0__72 (-1)) (by decide) rfl (fun ls hl => ?_)
            refine lv_goto (tgt := 113) hx hb dX11_feast_142 (by decide) ?_
            exact ih_76 _ _ _ _ (by omega) ⟨(e0__71 / 8), (i0__72 + (-1)), F_82, (by first | assumption | omega), (by first | assumption | omega), rfl, hP, hD, hS, lv_sub hl [0, 1, 2, 3, 4, 5] rfl⟩
        · have c_69 : ¬ (c0__51 ≤ i0__61) := fun h9 => c_69 ((iI_le (a := c0__51) (b := i0__61) (by omega) (by omega)).mpr h9)
          refine lv_aload_n hx hb dX11_feast_61 rfl (lv_at hl 4 rfl) ?_
          refine lv_iload hx hb dX11_feast_62 (lv_at hl 0 rfl) ?_
          refine g_calli (wr := [(m_refused, .inl (G.2 0, 3, .inl (cI mr))), (m_bestFeast, .inl (G.2 0, 4, .inl (cI mb)))]) (va_runV (As := [.int (iI i0__61)]) (rest := []) ⟨hx, hb, hml, hown, hts⟩ (c_X11_feastBy l G (m0) (m_all) (m_kept) (m_isKept) (m_refused) (m_above) (m_below) (m_hand) (m_fewest) (m_whoBites) (m_leaves) (m_bestFeast) (m_tells) (m_hardOn) (m_bytes) (m_bytesLong) (m_tokenAt) (m_tokenLong) (m_token) (m_value) (m_anew) (m_values) (mF) (K0) (Eh_62) (i0__61) (by first | exact y0_ | exact bpA_mono y0_ (by omega) | assumption) (by first | assumption | omega) (by first | exact f_63 | assumption | omega) (by first | exact hK0 | assumption | omega) _) (cwV 1 hts gX11_feast_X11_feastBy rfl rfl rfl (by decide +kernel) ⟨Nat.le_of_ble_eq_true rfl, Nat.le_of_ble_eq_true rfl⟩) (g_preV m0 [.int (iI i0__61)] hP hD hK hN hS hA hZ [3, 4, 0] rfl rfl 3 (ci := 10) rfl rfl) rfl rfl hl.1 rfl (lv_room (Nat.le_of_ble_eq_true rfl)) dX11_feast_64 ⟨Nat.le_of_ble_eq_true rfl, Nat.le_of_ble_eq_true rfl⟩) hP hD hS hA [3, 4, 0] [1, 2] rfl rfl rfl (by decide) (fun r_83 u H locs hw hP hD hS => ?_)
          refine ea_2_3 hw (fun rr_84 N_h_85 k_86 e8_0 e8_1 => ?_)
          subst e8_0
          subst e8_1
          clear hw
          have hPD : PD G A H [(m_refused, .inl (G.2 0, 3, .inl (cI mr))), (m_bestFeast, .inl (G.2 0, 4, .inl (cI mb))), (m0, .inr (10, [.ref m_all, .ref m_kept, .ref m_isKept, .ref m_refused, .long (lI m_above), .long (lI m_below), .ref m_hand, .ref m_fewest, .ref m_whoBites, .ref m_leaves, .ref m_bestFeast, .ref m_tells, .ref m_hardOn, .ref m_bytes, .int (iI m_bytesLong), .int (iI m_tokenAt), .int (iI m_tokenLong), .int (iI m_token), .int (iI m_value), .ref m_anew, .ref m_values])), (m_all, .inl (G.2 0, 311, .inl (cI mF))), (m_hand, .inl (G.2 0, 56, .inl (cI N_h_85)))] := ⟨hP, hD⟩
          have hP := hPD.1
          have hD := hPD.2
          clear hPD
          refine lv_istore (lv' := [(6, .int (iI rr_84)), (5, .int (iI i0__61)), (4, .int (iI e0__60)), (3, .int (iI m0__59)), (2, .int (iI c0__51)), (0, .ref m0), (1, .int (iI a1))]) hx hb dX11_feast_67 hl (by decide) rfl (fun ls hl => ?_)
          refine lv_iload hx hb dX11_feast_69 (lv_at hl 0 rfl) ?_
          refine lv_iload_n hx hb dX11_feast_71 rfl (lv_at hl 3 rfl) ?_
          refine g_join (jn := 82) (rest := []) (fun t_87 ls => ((rr_84 ≤ m0__59 ∧ t_87 = e0__60) ∨ (¬ (rr_84 ≤ m0__59) ∧ t_87 = i0__61)) ∧ lv_has ls 7 [(6, .int (iI rr_84)), (5, .int (iI i0__61)), (4, .int (iI e0__60)), (3, .int (iI m0__59)), (2, .int (iI c0__51)), (0, .ref m0), (1, .int (iI a1))]) (fun t_87 ls hI => ?_) (fun hJ_88 => ?_)
          · obtain ⟨f_89, hl⟩ := hI
            refine lv_istore (lv' := [(4, .int (iI t_87)), (6, .int (iI rr_84)), (5, .int (iI i0__61)), (3, .int (iI m0__59)), (2, .int (iI c0__51)), (0, .ref m0), (1, .int (iI a1))]) hx hb dX11_feast_82 hl (by decide) rfl (fun ls hl => ?_)
            refine lv_iload hx hb dX11_feast_84 (lv_at hl 1 rfl) ?_
            refine lv_iload_n hx hb dX11_feast_86 rfl (lv_at hl 3 rfl) ?_
            refine g_join (jn := 96) (rest := []) (fun t_90 ls => ((rr_84 ≤ m0__59 ∧ t_90 = m0__59) ∨ (¬ (rr_84 ≤ m0__59) ∧ t_90 = rr_84)) ∧ lv_has ls 7 [(4, .int (iI t_87)), (6, .int (iI rr_84)), (5, .int (iI i0__61)), (3, .int (iI m0__59)), (2, .int (iI c0__51)), (0, .ref m0), (1, .int (iI a1))]) (fun t_90 ls hI => ?_) (fun hJ_91 => ?_)
            · obtain ⟨f_92, hl⟩ := hI
              refine lv_istore_n (lv' := [(3, .int (iI t_90)), (4, .int (iI t_87)), (6, .int (iI rr_84)), (5, .int (iI i0__61)), (2, .int (iI c0__51)), (0, .ref m0), (1, .int (iI a1))]) hx hb dX11_feast_96 rfl hl (by decide) rfl (fun ls hl => ?_)
              refine lv_iinc (v := iI (i0__61 + 1)) (lv' := [(5, .int (iI (i0__61 + 1))), (3, .int (iI t_90)), (4, .int (iI t_87)), (6, .int (iI rr_84)), (2, .int (iI c0__51)), (0, .ref m0), (1, .int (iI a1))]) hx hb dX11_feast_97 hl (k := 3) rfl (iI_add i0__61 1) (by decide) rfl (fun ls hl => ?_)
              refine lv_goto (tgt := 55) hx hb dX11_feast_100 (by decide) ?_
              have hP := hP.sub (ws' := [(m_hand, .inl (G.2 0, 56, .inl (cI N_h_85))), (m_refused, .inl (G.2 0, 3, .inl (cI mr))), (m_bestFeast, .inl (G.2 0, 4, .inl (cI mb))), (m0, .inr (10, [.ref m_all, .ref m_kept, .ref m_isKept, .ref m_refused, .long (lI m_above), .long (lI m_below), .ref m_hand, .ref m_fewest, .ref m_whoBites, .ref m_leaves, .ref m_bestFeast, .ref m_tells, .ref m_hardOn, .ref m_bytes, .int (iI m_bytesLong), .int (iI m_tokenAt), .int (iI m_tokenLong), .int (iI m_token), .int (iI m_value), .ref m_anew, .ref m_values])), (m_all, .inl (G.2 0, 311, .inl (cI mF)))]) [4, 0, 1, 2, 3] rfl
              have hD := hD.sub (ws' := [(m_hand, .inl (G.2 0, 56, .inl (cI N_h_85))), (m_refused, .inl (G.2 0, 3, .inl (cI mr))), (m_bestFeast, .inl (G.2 0, 4, .inl (cI mb))), (m0, .inr (10, [.ref m_all, .ref m_kept, .ref m_isKept, .ref m_refused, .long (lI m_above), .long (lI m_below), .ref m_hand, .ref m_fewest, .ref m_whoBites, .ref m_leaves, .ref m_bestFeast, .ref m_tells, .ref m_hardOn, .ref m_bytes, .int (iI m_bytesLong), .int (iI m_tokenAt), .int (iI m_tokenLong), .int (iI m_token), .int (iI m_value), .ref m_anew, .ref m_values])), (m_all, .inl (G.2 0, 311, .inl (cI mF)))]) [4, 0, 1, 2, 3] rfl rfl
              exact ih_66 _ _ _ _ (by omega) ⟨t_90, t_87, (i0__61 + 1), N_h_85, (by first | assumption | omega), (by first | assumption | omega), (by first | assumption | omega), rfl, hP, hD, hS, lv_sub hl [0, 2, 1, 4, 5, 6] rfl⟩
            · refine lv_icmp_le (tgt := 95) hx hb dX11_feast_87 (by decide) (fun c_93 => ?_) (fun c_93 => ?_)
              · have c_93 := (iI_le (a := rr_84) (b := m0__59) (by omega) (by omega)).mp c_93
                refine lv_iload_n hx hb dX11_feast_95 rfl (lv_at hl 3 rfl) ?_
                exact hJ_91 m0__59 ls ⟨by omega, lv_sub hl [0, 1, 2, 3, 4, 5, 6] rfl⟩
              · have c_93 : ¬ (rr_84 ≤ m0__59) := fun h9 => c_93 ((iI_le (a := rr_84) (b := m0__59) (by omega) (by omega)).mpr h9)
                refine lv_iload hx hb dX11_feast_90 (lv_at hl 1 rfl) ?_
                refine lv_goto (tgt := 96) hx hb dX11_feast_92 (by decide) ?_
                exact hJ_91 rr_84 ls ⟨by omega, lv_sub hl [0, 1, 2, 3, 4, 5, 6] rfl⟩
          · refine lv_icmp_le (tgt := 80) hx hb dX11_feast_72 (by decide) (fun c_94 => ?_) (fun c_94 => ?_)
            · have c_94 := (iI_le (a := rr_84) (b := m0__59) (by omega) (by omega)).mp c_94
              refine lv_iload hx hb dX11_feast_80 (lv_at hl 2 rfl) ?_
              exact hJ_88 e0__60 ls ⟨by omega, lv_sub hl [0, 1, 2, 3, 4, 5, 6] rfl⟩
            · have c_94 : ¬ (rr_84 ≤ m0__59) := fun h9 => c_94 ((iI_le (a := rr_84) (b := m0__59) (by omega) (by omega)).mpr h9)
              refine lv_iload hx hb dX11_feast_75 (lv_at hl 1 rfl) ?_
              refine lv_goto (tgt := 82) hx hb dX11_feast_77 (by decide) ?_
              exact hJ_88 i0__61 ls ⟨by omega, lv_sub hl [0, 1, 2, 3, 4, 5, 6] rfl⟩
      · have c_58 : ¬ (w_57 ≤ b0__52) := fun h9 => c_58 ((iI_le (a := w_57) (b := b0__52) (by omega) (by omega)).mpr h9)
        refine lv_iload_n hx hb dX11_feast_41 rfl (lv_at hl 3 rfl) ?_
        refine lv_bipush (v := iI 8) hx hb dX11_feast_42 (by decide) ?_
        refine lv_imul hx hb dX11_feast_44 ?_
        refine g_topi (y := iI (c0__51 * 8)) (iI_mul c0__51 8) ?_
        refine lv_istore_n (lv' := [(2, .int (iI (c0__51 * 8))), (5, .int (iI b0__52)), (4, .int (iI 0)), (3, .int (iI (-1))), (0, .ref m0), (1, .int (iI a1))]) hx hb dX11_feast_45 rfl hl (by decide) rfl (fun ls hl => ?_)
        refine lv_iinc (v := iI (b0__52 + 1)) (lv' := [(5, .int (iI (b0__52 + 1))), (2, .int (iI (c0__51 * 8))), (4, .int (iI 0)), (3, .int (iI (-1))), (0, .ref m0), (1, .int (iI a1))]) hx hb dX11_feast_46 hl (k := 1) rfl (iI_add b0__52 1) (by decide) rfl (fun ls hl => ?_)
        refine lv_goto (tgt := 30) hx hb dX11_feast_49 (by decide) ?_
        exact ih_54 _ _ _ _ (by omega) ⟨(c0__51 * 8), (b0__52 + 1), (by first | assumption | omega), rfl, hP, hD, hS, lv_sub hl [0, 2, 3, 1, 4, 5] rfl⟩
    · refine ea_0_3 hw (fun k_49 e8_0 e8_1 => ?_)
      subst e8_0
      subst e8_1
      clear hw
      have hPD : PD G A H [(m_hand, .inl (G.2 0, 56, .inl (cI mh))), (m_refused, .inl (G.2 0, 3, .inl (cI mr))), (m_bestFeast, .inl (G.2 0, 4, .inl (cI mb))), (m0, .inr (10, [.ref m_all, .ref m_kept, .ref m_isKept, .ref m_refused, .long (lI m_above), .long (lI m_below), .ref m_hand, .ref m_fewest, .ref m_whoBites, .ref m_leaves, .ref m_bestFeast, .ref m_tells, .ref m_hardOn, .ref m_bytes, .int (iI m_bytesLong), .int (iI m_tokenAt), .int (iI m_tokenLong), .int (iI m_token), .int (iI m_value), .ref m_anew, .ref m_values])), (m_all, .inl (G.2 0, 311, .inl (cI mF)))] := ⟨hP, hD⟩
      have hP := hPD.1
      have hD := hPD.2
      clear hPD
      refine lv_if_ne (tgt := 20) hx hb dX11_feast_10 (by decide) (fun c_95 => g_no (by decide) c_95) (fun _ => ?_)
      refine lv_aload_n hx hb dX11_feast_13 rfl (lv_at hl 0 rfl) ?_
      refine lv_bipush (v := iI (-10)) hx hb dX11_feast_14 (by decide) ?_
      refine g_calli (wr := [(m_hand, .inl (G.2 0, 56, .inl (cI mh))), (m_bestFeast, .inl (G.2 0, 4, .inl (cI mb))), (m_all, .inl (G.2 0, 311, .inl (cI mF)))]) (va_runV (As := [.int (iI (-10))]) (rest := []) ⟨hx, hb, hml, hown, hts⟩ (c_X11_bad l G (m0) (m_all) (m_kept) (m_isKept) (m_refused) (m_above) (m_below) (m_hand) (m_fewest) (m_whoBites) (m_leaves) (m_bestFeast) (m_tells) (m_hardOn) (m_bytes) (m_bytesLong) (m_tokenAt) (m_tokenLong) (m_token) (m_value) (m_anew) (m_values) (mr) ((-10)) (by first | assumption | omega) _) (cwV 1 hts gX11_feast_X11_bad rfl rfl rfl (by decide +kernel) ⟨Nat.le_of_ble_eq_true rfl, Nat.le_of_ble_eq_true rfl⟩) (g_preV m0 [.int (iI (-10))] hP hD hK hN hS hA hZ [3, 1] rfl rfl 3 (ci := 10) rfl rfl) rfl rfl hl.1 rfl (lv_room (Nat.le_of_ble_eq_true rfl)) dX11_feast_16 ⟨Nat.le_of_ble_eq_true rfl, Nat.le_of_ble_eq_true rfl⟩) hP hD hS hA [3, 1] [0, 2, 4] rfl rfl rfl (by decide) (fun r_96 u H locs hw hP hD hS => ?_)
      obtain ⟨Nr_97, rfl, rfl⟩ := hw
      have hPD : PD G A H [(m_hand, .inl (G.2 0, 56, .inl (cI mh))), (m_bestFeast, .inl (G.2 0, 4, .inl (cI mb))), (m_all, .inl (G.2 0, 311, .inl (cI mF))), (m0, .inr (10, [.ref m_all, .ref m_kept, .ref m_isKept, .ref m_refused, .long (lI m_above), .long (lI m_below), .ref m_hand, .ref m_fewest, .ref m_whoBites, .ref m_leaves, .ref m_bestFeast, .ref m_tells, .ref m_hardOn, .ref m_bytes, .int (iI m_bytesLong), .int (iI m_tokenAt), .int (iI m_tokenLong), .int (iI m_token), .int (iI m_value), .ref m_anew, .ref m_values])), (m_refused, .inl (G.2 0, 3, .inl (cI Nr_97)))] := ⟨hP, hD⟩
      have hP := hPD.1
      have hD := hPD.2
      clear hPD
      have hP := hP.sub (ws' := [(m0, .inr (10, [.ref m_all, .ref m_kept, .ref m_isKept, .ref m_refused, .long (lI m_above), .long (lI m_below), .ref m_hand, .ref m_fewest, .ref m_whoBites, .ref m_leaves, .ref m_bestFeast, .ref m_tells, .ref m_hardOn, .ref m_bytes, .int (iI m_bytesLong), .int (iI m_tokenAt), .int (iI m_tokenLong), .int (iI m_token), .int (iI m_value), .ref m_anew, .ref m_values])), (m_all, .inl (G.2 0, 311, .inl (cI mF))), (m_hand, .inl (G.2 0, 56, .inl (cI mh))), (m_refused, .inl (G.2 0, 3, .inl (cI Nr_97))), (m_bestFeast, .inl (G.2 0, 4, .inl (cI mb)))]) [3, 2, 0, 4, 1] rfl
      have hD := hD.sub (ws' := [(m0, .inr (10, [.ref m_all, .ref m_kept, .ref m_isKept, .ref m_refused, .long (lI m_above), .long (lI m_below), .ref m_hand, .ref m_fewest, .ref m_whoBites, .ref m_leaves, .ref m_bestFeast, .ref m_tells, .ref m_hardOn, .ref m_bytes, .int (iI m_bytesLong), .int (iI m_tokenAt), .int (iI m_tokenLong), .int (iI m_token), .int (iI m_value), .ref m_anew, .ref m_values])), (m_all, .inl (G.2 0, 311, .inl (cI mF))), (m_hand, .inl (G.2 0, 56, .inl (cI mh))), (m_refused, .inl (G.2 0, 3, .inl (cI Nr_97))), (m_bestFeast, .inl (G.2 0, 4, .inl (cI mb)))]) [3, 2, 0, 4, 1] rfl rfl
      exact g_iret (v := (iI (-10))) hx hb hr hlocks hP hD hS (⟨(-10), mh, Nr_97, mb, rfl, rfl⟩) dX11_feast_19
