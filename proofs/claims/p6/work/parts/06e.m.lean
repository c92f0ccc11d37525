theorem dX11_counted_0 : decode cX11_counted 0 = .ok (.iconst 0, 1) := kd_3 (by decide +kernel)
theorem dX11_counted_1 : decode cX11_counted 1 = .ok (.istore_n 2, 1) := kd_61 (by decide +kernel)
theorem dX11_counted_2 : decode cX11_counted 2 = .ok (.iconst 0, 1) := kd_3 (by decide +kernel)
theorem dX11_counted_3 : decode cX11_counted 3 = .ok (.istore_n 3, 1) := kd_62 (by decide +kernel)
theorem dX11_counted_4 : decode cX11_counted 4 = .ok (.iload_n 3, 1) := kd_29 (by decide +kernel)
theorem dX11_counted_5 : decode cX11_counted 5 = .ok (.aload_n 0, 1) := kd_42 (by decide +kernel)
theorem gX11_counted_X11_many : GoodIn wsX11_counted (wsV RX11 61 RX11 yX11_many wsX11_many) := gW_V (in_r7 (List.mem_of_getElem? (i := 12) rfl)) (in_r7 (List.mem_of_getElem? (i := 13) rfl)) (in_r7 (List.mem_of_getElem? (i := 14) rfl)) (in_r1 (List.mem_of_getElem? (i := 5) rfl)) (in_r7 (List.mem_of_getElem? (i := 15) rfl))
theorem dX11_counted_6 : decode cX11_counted 6 = .ok (.invokevirtual 61, 3) := kd_182 (a := 0) (b := 61) (by decide +kernel)
theorem dX11_counted_9 : decode cX11_counted 9 = .ok (.if_icmp .ge 21, 3) := kd_162 (a := 0) (b := 21) (by decide +kernel)
theorem dX11_counted_30 : decode cX11_counted 30 = .ok (.iload_n 1, 1) := kd_27 (by decide +kernel)
theorem dX11_counted_31 : decode cX11_counted 31 = .ok (.tableswitch 115 0 11 #[61, 66, 73, 81, 90, 99, 108, 115, 115, 115, 115, 110], 61) := by decide +kernel
theorem dX11_counted_92 : decode cX11_counted 92 = .ok (.aload_n 0, 1) := kd_42 (by decide +kernel)
theorem dX11_counted_93 : decode cX11_counted 93 = .ok (.invokevirtual 61, 3) := kd_182 (a := 0) (b := 61) (by decide +kernel)
theorem dX11_counted_96 : decode cX11_counted 96 = .ok (.ireturn, 1) := kd_172 (by decide +kernel)
theorem dX11_counted_97 : decode cX11_counted 97 = .ok (.aload_n 0, 1) := kd_42 (by decide +kernel)
theorem dX11_counted_98 : decode cX11_counted 98 = .ok (.getfield 7, 3) := kd_180 (a := 0) (b := 7) (by decide +kernel)
theorem dX11_counted_101 : decode cX11_counted 101 = .ok (.iconst 1, 1) := kd_4 (by decide +kernel)
theorem dX11_counted_102 : decode cX11_counted 102 = .ok (.iaload, 1) := kd_46 (by decide +kernel)
theorem dX11_counted_103 : decode cX11_counted 103 = .ok (.ireturn, 1) := kd_172 (by decide +kernel)
theorem dX11_counted_104 : decode cX11_counted 104 = .ok (.aload_n 0, 1) := kd_42 (by decide +kernel)
theorem dX11_counted_105 : decode cX11_counted 105 = .ok (.getfield 7, 3) := kd_180 (a := 0) (b := 7) (by decide +kernel)
theorem dX11_counted_108 : decode cX11_counted 108 = .ok (.bipush 27, 2) := kd_16 (a := 27) (by decide +kernel)
theorem dX11_counted_110 : decode cX11_counted 110 = .ok (.iaload, 1) := kd_46 (by decide +kernel)
theorem dX11_counted_111 : decode cX11_counted 111 = .ok (.ireturn, 1) := kd_172 (by decide +kernel)
theorem dX11_counted_112 : decode cX11_counted 112 = .ok (.aload_n 0, 1) := kd_42 (by decide +kernel)
theorem dX11_counted_113 : decode cX11_counted 113 = .ok (.getfield 7, 3) := kd_180 (a := 0) (b := 7) (by decide +kernel)
theorem dX11_counted_116 : decode cX11_counted 116 = .ok (.iconst 0, 1) := kd_3 (by decide +kernel)
theorem gX11_counted_X11_manyWith : GoodIn wsX11_counted (va_wsS RX11 140 yX11_manyWith wsX11_manyWith) := gW_S (in_r24 (List.mem_of_getElem? (i := 10) rfl)) (in_r24 (List.mem_of_getElem? (i := 11) rfl)) (in_r1 (List.mem_of_getElem? (i := 5) rfl)) (in_r24 (List.mem_of_getElem? (i := 12) rfl))
theorem dX11_counted_117 : decode cX11_counted 117 = .ok (.invokestatic 140, 3) := kd_184 (a := 0) (b := 140) (by decide +kernel)
theorem dX11_counted_120 : decode cX11_counted 120 = .ok (.ireturn, 1) := kd_172 (by decide +kernel)
theorem dX11_counted_121 : decode cX11_counted 121 = .ok (.aload_n 0, 1) := kd_42 (by decide +kernel)
theorem dX11_counted_122 : decode cX11_counted 122 = .ok (.getfield 7, 3) := kd_180 (a := 0) (b := 7) (by decide +kernel)
theorem dX11_counted_125 : decode cX11_counted 125 = .ok (.iconst 1, 1) := kd_4 (by decide +kernel)
theorem dX11_counted_126 : decode cX11_counted 126 = .ok (.invokestatic 140, 3) := kd_184 (a := 0) (b := 140) (by decide +kernel)
theorem dX11_counted_129 : decode cX11_counted 129 = .ok (.ireturn, 1) := kd_172 (by decide +kernel)
theorem dX11_counted_130 : decode cX11_counted 130 = .ok (.aload_n 0, 1) := kd_42 (by decide +kernel)
theorem dX11_counted_131 : decode cX11_counted 131 = .ok (.getfield 7, 3) := kd_180 (a := 0) (b := 7) (by decide +kernel)
theorem dX11_counted_134 : decode cX11_counted 134 = .ok (.iconst 2, 1) := kd_5 (by decide +kernel)
theorem dX11_counted_135 : decode cX11_counted 135 = .ok (.invokestatic 140, 3) := kd_184 (a := 0) (b := 140) (by decide +kernel)
theorem dX11_counted_138 : decode cX11_counted 138 = .ok (.ireturn, 1) := kd_172 (by decide +kernel)
theorem dX11_counted_139 : decode cX11_counted 139 = .ok (.iload_n 2, 1) := kd_28 (by decide +kernel)
theorem dX11_counted_140 : decode cX11_counted 140 = .ok (.ireturn, 1) := kd_172 (by decide +kernel)
theorem dX11_counted_146 : decode cX11_counted 146 = .ok (.aload_n 0, 1) := kd_42 (by decide +kernel)
theorem dX11_counted_147 : decode cX11_counted 147 = .ok (.getfield 7, 3) := kd_180 (a := 0) (b := 7) (by decide +kernel)
theorem dX11_counted_150 : decode cX11_counted 150 = .ok (.iconst 2, 1) := kd_5 (by decide +kernel)
theorem dX11_counted_151 : decode cX11_counted 151 = .ok (.iload_n 1, 1) := kd_27 (by decide +kernel)
theorem dX11_counted_152 : decode cX11_counted 152 = .ok (.iadd, 1) := kd_96 (by decide +kernel)
theorem dX11_counted_153 : decode cX11_counted 153 = .ok (.bipush 7, 2) := kd_16 (a := 7) (by decide +kernel)
theorem dX11_counted_155 : decode cX11_counted 155 = .ok (.isub, 1) := kd_100 (by decide +kernel)
theorem dX11_counted_156 : decode cX11_counted 156 = .ok (.iaload, 1) := kd_46 (by decide +kernel)
theorem dX11_counted_157 : decode cX11_counted 157 = .ok (.ireturn, 1) := kd_172 (by decide +kernel)
theorem dX11_counted_141 : decode cX11_counted 141 = .ok (.aload_n 0, 1) := kd_42 (by decide +kernel)
theorem dX11_counted_142 : decode cX11_counted 142 = .ok (.getfield 232, 3) := kd_180 (a := 0) (b := 232) (by decide +kernel)
theorem dX11_counted_145 : decode cX11_counted 145 = .ok (.ireturn, 1) := kd_172 (by decide +kernel)
theorem dX11_counted_12 : decode cX11_counted 12 = .ok (.iload_n 2, 1) := kd_28 (by decide +kernel)
theorem dX11_counted_13 : decode cX11_counted 13 = .ok (.aload_n 0, 1) := kd_42 (by decide +kernel)
theorem dX11_counted_14 : decode cX11_counted 14 = .ok (.getfield 7, 3) := kd_180 (a := 0) (b := 7) (by decide +kernel)
theorem dX11_counted_17 : decode cX11_counted 17 = .ok (.bipush 6, 2) := kd_16 (a := 6) (by decide +kernel)
theorem dX11_counted_19 : decode cX11_counted 19 = .ok (.iload_n 3, 1) := kd_29 (by decide +kernel)
theorem dX11_counted_20 : decode cX11_counted 20 = .ok (.iadd, 1) := kd_96 (by decide +kernel)
theorem dX11_counted_21 : decode cX11_counted 21 = .ok (.iaload, 1) := kd_46 (by decide +kernel)
theorem dX11_counted_22 : decode cX11_counted 22 = .ok (.iadd, 1) := kd_96 (by decide +kernel)
theorem dX11_counted_23 : decode cX11_counted 23 = .ok (.istore_n 2, 1) := kd_61 (by decide +kernel)
theorem dX11_counted_24 : decode cX11_counted 24 = .ok (.iinc 3 1, 3) := kd_132 (a := 3) (b := 1) (by decide +kernel)
theorem dX11_counted_27 : decode cX11_counted 27 = .ok (.goto (-23), 3) := kd_167 (a := 255) (b := 233) (by decide +kernel)
set_option maxHeartbeats 8000000 in
set_option maxRecDepth 100000 in
theorem c_X11_counted (l : Launch) (G : gG) (m0 : Nat) (m_all : Nat) (m_kept : Nat) (m_isKept : Nat) (m_refused : Nat) (m_above : Int) (m_below : Int) (m_hand : Nat) (m_fewest : Nat) (m_whoBites : Nat) (m_leaves : Nat) (m_bestFeast : Nat) (m_tells : Nat) (m_hardOn : Nat) (m_bytes : Nat) (m_bytesLong : Int) (m_tokenAt : Int) (m_tokenLong : Int) (m_token : Int) (m_value : Int) (m_anew : Nat) (m_values : Nat) (mF : Nat → Int) (K0 : Int) (a1 : Int) (y0_ : bp (plA K0) mF) (ra1 : -2147483648 ≤ a1 ∧ a1 ≤ 2147483647) (hw : 0 ≤ a1 ∧ a1 ≤ 11) (hK0 : 1000 ≤ K0 ∧ K0 ≤ 2000000) (sz : Nat) : gI G l yX11_counted wsX11_counted ({ frames := 1, cells := 0, slots := 0, locals := 23 } : Room) [.ref m0, .int (iI a1)] [(m0, .inr (10, [.ref m_all, .ref m_kept, .ref m_isKept, .ref m_refused, .long (lI m_above), .long (lI m_below), .ref m_hand, .ref m_fewest, .ref m_whoBites, .ref m_leaves, .ref m_bestFeast, .ref m_tells, .ref m_hardOn, .ref m_bytes, .int (iI m_bytesLong), .int (iI m_tokenAt), .int (iI m_tokenLong), .int (iI m_token), .int (iI m_value), .ref m_anew, .ref m_values])), (m_all, .inl (G.2 0, 311, .inl (cI mF)))] sz (fun (r : Int32) (u : va_W) => (∃ rr : Int, r = (iI rr) ∧ u = [(m0, .inr (10, [.ref m_all, .ref m_kept, .ref m_isKept, .ref m_refused, .long (lI m_above), .long (lI m_below), .ref m_hand, .ref m_fewest, .ref m_whoBites, .ref m_leaves, .ref m_bestFeast, .ref m_tells, .ref m_hardOn, .ref m_bytes, .int (iI m_bytesLong), .int (iI m_tokenAt), .int (iI m_tokenLong), .int (iI m_token), .int (iI m_value), .ref m_anew, .ref m_values])), (m_all, .inl (G.2 0, 311, .inl (cI mF)))])) := by
  refine Met.ofW (cc := cX11_counted) (maxL := 4) (ret := (some .int)) (by decide) rfl ?_
  intro p e s m args below meth c s₁ B hml hv
  obtain ⟨rfl, hsz, hP, hK, hD0, hN, hZ⟩ := hv
  have hx := B.exec
  have hb := B.bytes
  have hr := B.returns
  have hts := atoms_spec (ws := wsX11_counted) B.pre
  have hown : s.vm.findClass RX11 = some m.cls := findClass_of_methodNamed B.named
  have hlocks := B.notSynchronized
  subst hsz
  have hD := hD0.self (sz := s.heap.size)
  generalize hAe : va_A [(m0, .inr (10, [.ref m_all, .ref m_kept, .ref m_isKept, .ref m_refused, .long (lI m_above), .long (lI m_below), .ref m_hand, .ref m_fewest, .ref m_whoBites, .ref m_leaves, .ref m_bestFeast, .ref m_tells, .ref m_hardOn, .ref m_bytes, .int (iI m_bytesLong), .int (iI m_tokenAt), .int (iI m_tokenLong), .int (iI m_token), .int (iI m_value), .ref m_anew, .ref m_values])), (m_all, .inl (G.2 0, 311, .inl (cI mF)))] s.heap.size = A at hD hZ ⊢
  have hA : ∀ q : Nat, s.heap.size ≤ q → A q := fun q h => by rw [← hAe]; exact Or.inr h
  have hS : va_S A s.heap s.heap [] := va_S.rf
  have hP : va_P G.1 vwCl [(m0, .inr (10, [.ref m_all, .ref m_kept, .ref m_isKept, .ref m_refused, .long (lI m_above), .long (lI m_below), .ref m_hand, .ref m_fewest, .ref m_whoBites, .ref m_leaves, .ref m_bestFeast, .ref m_tells, .ref m_hardOn, .ref m_bytes, .int (iI m_bytesLong), .int (iI m_tokenAt), .int (iI m_tokenLong), .int (iI m_token), .int (iI m_value), .ref m_anew, .ref m_values])), (m_all, .inl (G.2 0, 311, .inl (cI mF)))] s.heap := hP
  have hl := lv_entry ([.ref m0, .int (iI a1)]) (n := 4) (Nat.le_of_ble_eq_true rfl)
  rw [lg_entry_eq]
  generalize (lg_sl ([.ref m0, .int (iI a1)]) ++ List.replicate (4 - (lg_sl ([.ref m0, .int (iI a1)])).length) Slot.unset).toArray = ls at hl ⊢
  have hl : lv_has ls 4 [(0, .ref m0), (1, .int (iI a1))] := hl
  refine lv_iconst (v := iI 0) hx hb dX11_counted_0 rfl ?_
  refine lv_istore_n (lv' := [(2, .int (iI 0)), (0, .ref m0), (1, .int (iI a1))]) hx hb dX11_counted_1 rfl hl (by decide) rfl (fun ls hl => ?_)
  refine lv_iconst (v := iI 0) hx hb dX11_counted_2 rfl ?_
  refine lv_istore_n (lv' := [(3, .int (iI 0)), (2, .int (iI 0)), (0, .ref m0), (1, .int (iI a1))]) hx hb dX11_counted_3 rfl hl (by decide) rfl (fun ls hl => ?_)
  refine g_loopN (pc := 4) (fun nn H locs ls => ∃ s0__1 : Int, ∃ i0__2 : Int, (0 ≤ i0__2 ∧ i0__2 ≤ 7) ∧ (7 - i0__2).toNat = nn ∧ va_P G.1 vwCl [(m0, .inr (10, [.ref m_all, .ref m_kept, .ref m_isKept, .ref m_refused, .long (lI m_above), .long (lI m_below), .ref m_hand, .ref m_fewest, .ref m_whoBites, .ref m_leaves, .ref m_bestFeast, .ref m_tells, .ref m_hardOn, .ref m_bytes, .int (iI m_bytesLong), .int (iI m_tokenAt), .int (iI m_tokenLong), .int (iI m_token), .int (iI m_value), .ref m_anew, .ref m_values])), (m_all, .inl (G.2 0, 311, .inl (cI mF)))] H ∧ va_D A [(m0, .inr (10, [.ref m_all, .ref m_kept, .ref m_isKept, .ref m_refused, .long (lI m_above), .long (lI m_below), .ref m_hand, .ref m_fewest, .ref m_whoBites, .ref m_leaves, .ref m_bestFeast, .ref m_tells, .ref m_hardOn, .ref m_bytes, .int (iI m_bytesLong), .int (iI m_tokenAt), .int (iI m_tokenLong), .int (iI m_token), .int (iI m_value), .ref m_anew, .ref m_values])), (m_all, .inl (G.2 0, 311, .inl (cI mF)))] ∧ va_S A s.heap H locs ∧ lv_has ls 4 [(3, .int (iI i0__2)), (2, .int (iI s0__1)), (0, .ref m0), (1, .int (iI a1))]) ?_ ⟨0, 0, (by first | assumption | omega), rfl, hP, hD, hS, lv_sub hl [0, 1, 2, 3] rfl⟩
  intro nn_5 H locs ls ih_4 hI
  refine ea_2_6 hI (fun s0__1 i0__2 f_3 hnn_6 hP hD hS hl => ?_)
  clear hI
  refine lv_iload_n hx hb dX11_counted_4 rfl (lv_at hl 0 rfl) ?_
  refine lv_aload_n hx hb dX11_counted_5 rfl (lv_at hl 2 rfl) ?_
  refine g_calli (wr := []) (va_runV (As := []) (rest := [.int (iI i0__2)]) ⟨hx, hb, hml, hown, hts⟩ (c_X11_many l G (m0) (m_all) (m_kept) (m_isKept) (m_refused) (m_above) (m_below) (m_hand) (m_fewest) (m_whoBites) (m_leaves) (m_bestFeast) (m_tells) (m_hardOn) (m_bytes) (m_bytesLong) (m_tokenAt) (m_tokenLong) (m_token) (m_value) (m_anew) (m_values) (mF) (K0) (by first | exact y0_ | exact bpA_mono y0_ (by omega) | assumption) (by first | exact hK0 | assumption | omega) _) (cwV 0 hts gX11_counted_X11_many rfl rfl rfl (by decide +kernel) ⟨Nat.le_of_ble_eq_true rfl, Nat.le_of_ble_eq_true rfl⟩) (g_preV m0 [] hP hD hK hN hS hA hZ [0, 1] rfl rfl 0 (ci := 10) rfl rfl) rfl rfl hl.1 rfl (lv_room (Nat.le_of_ble_eq_true rfl)) dX11_counted_6 ⟨Nat.le_of_ble_eq_true rfl, Nat.le_of_ble_eq_true rfl⟩) hP hD hS hA [0, 1] [] rfl rfl rfl (by decide) (fun r_7 u H locs hw hP hD hS => ?_)
  refine ea_1_4 hw (fun rr_8 k_9 k_10 e8_0 e8_1 => ?_)
  subst e8_0
  subst e8_1
  clear hw
  have hPD : PD G A H [(m0, .inr (10, [.ref m_all, .ref m_kept, .ref m_isKept, .ref m_refused, .long (lI m_above), .long (lI m_below), .ref m_hand, .ref m_fewest, .ref m_whoBites, .ref m_leaves, .ref m_bestFeast, .ref m_tells, .ref m_hardOn, .ref m_bytes, .int (iI m_bytesLong), .int (iI m_tokenAt), .int (iI m_tokenLong), .int (iI m_token), .int (iI m_value), .ref m_anew, .ref m_values])), (m_all, .inl (G.2 0, 311, .inl (cI mF)))] := ⟨hP, hD⟩
  have hP := hPD.1
  have hD := hPD.2
  clear hPD
  refine lv_icmp_ge (tgt := 30) hx hb dX11_counted_9 (by decide) (fun c_11 => ?_) (fun c_11 => ?_)
  · have c_11 := (iI_le (a := rr_8) (b := i0__2) (by omega) (by omega)).mp c_11
    refine lv_iload_n hx hb dX11_counted_30 rfl (lv_at hl 3 rfl) ?_
    rcases (show a1 = 0 ∨ a1 = 1 ∨ a1 = 2 ∨ a1 = 3 ∨ a1 = 4 ∨ a1 = 5 ∨ a1 = 6 ∨ a1 = 7 ∨ a1 = 8 ∨ a1 = 9 ∨ a1 = 10 ∨ a1 = 11 ∨ (a1 < 0 ∨ 11 < a1) by omega) with hv_12 | hv_12 | hv_12 | hv_12 | hv_12 | hv_12 | hv_12 | hv_12 | hv_12 | hv_12 | hv_12 | hv_12 | hv_12
    · refine g_topi (y := iI 0) (congrArg iI hv_12) ?_
      refine lv_tableIn (off := 61) (tgt := 92) hx hb dX11_counted_31 (by decide) (by decide) (by decide) (by decide) ?_
      refine lv_aload_n hx hb dX11_counted_92 rfl (lv_at hl 2 rfl) ?_
      refine g_calli (wr := []) (va_runV (As := []) (rest := []) ⟨hx, hb, hml, hown, hts⟩ (c_X11_many l G (m0) (m_all) (m_kept) (m_isKept) (m_refused) (m_above) (m_below) (m_hand) (m_fewest) (m_whoBites) (m_leaves) (m_bestFeast) (m_tells) (m_hardOn) (m_bytes) (m_bytesLong) (m_tokenAt) (m_tokenLong) (m_token) (m_value) (m_anew) (m_values) (mF) (K0) (by first | exact y0_ | exact bpA_mono y0_ (by omega) | assumption) (by first | exact hK0 | assumption | omega) _) (cwV 0 hts gX11_counted_X11_many rfl rfl rfl (by decide +kernel) ⟨Nat.le_of_ble_eq_true rfl, Nat.le_of_ble_eq_true rfl⟩) (g_preV m0 [] hP hD hK hN hS hA hZ [0, 1] rfl rfl 0 (ci := 10) rfl rfl) rfl rfl hl.1 rfl (lv_room (Nat.le_of_ble_eq_true rfl)) dX11_counted_93 ⟨Nat.le_of_ble_eq_true rfl, Nat.le_of_ble_eq_true rfl⟩) hP hD hS hA [0, 1] [] rfl rfl rfl (by decide) (fun r_13 u H locs hw hP hD hS => ?_)
      refine ea_1_4 hw (fun rr_14 k_15 k_16 e8_0 e8_1 => ?_)
      subst e8_0
      subst e8_1
      clear hw
      have hPD : PD G A H [(m0, .inr (10, [.ref m_all, .ref m_kept, .ref m_isKept, .ref m_refused, .long (lI m_above), .long (lI m_below), .ref m_hand, .ref m_fewest, .ref m_whoBites, .ref m_leaves, .ref m_bestFeast, .ref m_tells, .ref m_hardOn, .ref m_bytes, .int (iI m_bytesLong), .int (iI m_tokenAt), .int (iI m_tokenLong), .int (iI m_token), .int (iI m_value), .ref m_anew, .ref m_values])), (m_all, .inl (G.2 0, 311, .inl (cI mF)))] := ⟨hP, hD⟩
      have hP := hPD.1
      have hD := hPD.2
      clear hPD
      exact g_iret (v := (iI rr_14)) hx hb hr hlocks hP hD hS (⟨rr_14, rfl, rfl⟩) dX11_counted_96
    · refine g_topi (y := iI 1) (congrArg iI hv_12) ?_
      refine lv_tableIn (off := 66) (tgt := 97) hx hb dX11_counted_31 (by decide) (by decide) (by decide) (by decide) ?_
      refine lv_aload_n hx hb dX11_counted_97 rfl (lv_at hl 2 rfl) ?_
      refine va_get (D := G.1) (ci := 10) (v := .ref m_all) (C := RX11) (T := TX11) (N := 21) hx hb hts (fun _ h => List.mem_cons_of_mem _ (inlX11 _ h)) hown hK hP 0 rfl rfl 0 (by decide) (hts _ (List.mem_cons_of_mem _ (in_r6 (List.mem_of_getElem? (i := 0) rfl)))) (fun _ h9 => h9) rfl dX11_counted_98 ?_
      refine lv_iconst (v := iI 1) hx hb dX11_counted_101 rfl ?_
      refine g_ild hx hb hK hP 1 rfl (by omega) (by omega) (by first | exact Nat.le_of_ble_eq_true rfl | omega) dX11_counted_102 (fun w_17 ew_17 => ?_)
      have ew_17 : mF 1 = w_17 := ew_17
      have bw_17 : 0 ≤ w_17 ∧ w_17 ≤ 4 := by rw [← ew_17]; exact y0_ 1
      exact g_iret (v := (iI w_17)) hx hb hr hlocks hP hD hS (⟨w_17, rfl, rfl⟩) dX11_counted_103
    · refine g_topi (y := iI 2) (congrArg iI hv_12) ?_
      refine lv_tableIn (off := 73) (tgt := 104) hx hb dX11_counted_31 (by decide) (by decide) (by decide) (by decide) ?_
      refine lv_aload_n hx hb dX11_counted_104 rfl (lv_at hl 2 rfl) ?_
      refine va_get (D := G.1) (ci := 10) (v := .ref m_all) (C := RX11) (T := TX11) (N := 21) hx hb hts (fun _ h => List.mem_cons_of_mem _ (inlX11 _ h)) hown hK hP 0 rfl rfl 0 (by decide) (hts _ (List.mem_cons_of_mem _ (in_r6 (List.mem_of_getElem? (i := 0) rfl)))) (fun _ h9 => h9) rfl dX11_counted_105 ?_
      refine lv_bipush (v := iI 27) hx hb dX11_counted_108 (by decide) ?_
      refine g_ild hx hb hK hP 1 rfl (by omega) (by omega) (by first | exact Nat.le_of_ble_eq_true rfl | omega) dX11_counted_110 (fun w_18 ew_18 => ?_)
      have ew_18 : mF 27 = w_18 := ew_18
      have bw_18 : 0 ≤ w_18 ∧ w_18 ≤ K0 := by rw [← ew_18]; exact y0_ 27
      exact g_iret (v := (iI w_18)) hx hb hr hlocks hP hD hS (⟨w_18, rfl, rfl⟩) dX11_counted_111
    · refine g_topi (y := iI 3) (congrArg iI hv_12) ?_
      refine lv_tableIn (off := 81) (tgt := 112) hx hb dX11_counted_31 (by decide) (by decide) (by decide) (by decide) ?_
      refine lv_aload_n hx hb dX11_counted_112 rfl (lv_at hl 2 rfl) ?_
      refine va_get (D := G.1) (ci := 10) (v := .ref m_all) (C := RX11) (T := TX11) (N := 21) hx hb hts (fun _ h => List.mem_cons_of_mem _ (inlX11 _ h)) hown hK hP 0 rfl rfl 0 (by decide) (hts _ (List.mem_cons_of_mem _ (in_r6 (List.mem_of_getElem? (i := 0) rfl)))) (fun _ h9 => h9) rfl dX11_counted_113 ?_
      refine lv_iconst (v := iI 0) hx hb dX11_counted_116 rfl ?_
      refine g_calli (wr := [(m0, .inr (10, [.ref m_all, .ref m_kept, .ref m_isKept, .ref m_refused, .long (lI m_above), .long (lI m_below), .ref m_hand, .ref m_fewest, .ref m_whoBites, .ref m_leaves, .ref m_bestFeast, .ref m_tells, .ref m_hardOn, .ref m_bytes, .int (iI m_bytesLong), .int (iI m_tokenAt), .int (iI m_tokenLong), .int (iI m_token), .int (iI m_value), .ref m_anew, .ref m_values]))]) (va_runS (As := [.ref m_all, .int (iI 0)]) (rest := []) ⟨hx, hb, hml, hown, hts⟩ (c_X11_manyWith_311 l G (m_all) (mF) (K0) (0) (by first | exact y0_ | exact bpA_mono y0_ (by omega) | assumption) (by first | exact hK0 | assumption | omega) (by first | assumption | omega) _) (va_cwS 2 hts gX11_counted_X11_manyWith rfl rfl rfl (by decide +kernel) ⟨Nat.le_of_ble_eq_true rfl, Nat.le_of_ble_eq_true rfl⟩) (g_preS [.ref m_all, .int (iI 0)] hP hD hK hN hS hA hZ [1] rfl rfl) rfl rfl hl.1 rfl (lv_room (Nat.le_of_ble_eq_true rfl)) dX11_counted_117 ⟨Nat.le_of_ble_eq_true rfl, Nat.le_of_ble_eq_true rfl⟩) hP hD hS hA [1] [0] rfl rfl rfl (by decide) (fun r_19 u H locs hw hP hD hS => ?_)
      obtain ⟨rr_20, rfl, rfl⟩ := hw
      have hPD : PD G A H [(m0, .inr (10, [.ref m_all, .ref m_kept, .ref m_isKept, .ref m_refused, .long (lI m_above), .long (lI m_below), .ref m_hand, .ref m_fewest, .ref m_whoBites, .ref m_leaves, .ref m_bestFeast, .ref m_tells, .ref m_hardOn, .ref m_bytes, .int (iI m_bytesLong), .int (iI m_tokenAt), .int (iI m_tokenLong), .int (iI m_token), .int (iI m_value), .ref m_anew, .ref m_values])), (m_all, .inl (G.2 0, 311, .inl (cI mF)))] := ⟨hP, hD⟩
      have hP := hPD.1
      have hD := hPD.2
      clear hPD
      exact g_iret (v := (iI rr_20)) hx hb hr hlocks hP hD hS (⟨rr_20, rfl, rfl⟩) dX11_counted_120
    · refine g_topi (y := iI 4) (congrArg iI hv_12) ?_
      refine lv_tableIn (off := 90) (tgt := 121) hx hb dX11_counted_31 (by decide) (by decide) (by decide) (by decide) ?_
      refine lv_aload_n hx hb dX11_counted_121 rfl (lv_at hl 2 rfl) ?_
      refine va_get (D := G.1) (ci := 10) (v := .ref m_all) (C := RX11) (T := TX11) (N := 21) hx hb hts (fun _ h => List.mem_cons_of_mem _ (inlX11 _ h)) hown hK hP 0 rfl rfl 0 (by decide) (hts _ (List.mem_cons_of_mem _ (in_r6 (List.mem_of_getElem? (i := 0) rfl)))) (fun _ h9 => h9) rfl dX11_counted_122 ?_
      refine lv_iconst (v := iI 1) hx hb dX11_counted_125 rfl ?_
      refine g_calli (wr := [(m0, .inr (10, [.ref m_all, .ref m_kept, .ref m_isKept, .ref m_refused, .long (lI m_above), .long (lI m_below), .ref m_hand, .ref m_fewest, .ref m_whoBites, .ref m_leaves, .ref m_bestFeast, .ref m_tells, .ref m_hardOn, .ref m_bytes, .int (iI m_bytesLong), .int (iI m_tokenAt), .int (iI m_tokenLong), .int (iI m_token), .int (iI m_value), .ref m_anew, .ref m_values]))]) (va_runS (As := [.ref m_all, .int (iI 1)]) (rest := []) ⟨hx, hb, hml, hown, hts⟩ (c_X11_manyWith_311 l G (m_all) (mF) (K0) (1) (by first | exact y0_ | exact bpA_mono y0_ (by omega) | assumption) (by first | exact hK0 | assumption | omega) (by first | assumption | omega) _) (va_cwS 2 hts gX11_counted_X11_manyWith rfl rfl rfl (by decide +kernel) ⟨Nat.le_of_ble_eq_true rfl, Nat.le_of_ble_eq_true rfl⟩) (g_preS [.ref m_all, .int (iI 1)] hP hD hK hN hS hA hZ [1] rfl rfl) rfl rfl hl.1 rfl (lv_room (Nat.le_of_ble_eq_true rfl)) dX11_counted_126 ⟨Nat.le_of_ble_eq_true rfl, Nat.le_of_ble_eq_true rfl⟩) hP hD hS hA [1] [0] rfl rfl rfl (by decide) (fun r_21 u H locs hw hP hD hS => ?_)
      obtain ⟨rr_22, rfl, rfl⟩ := hw
      have hPD : PD G A H [(m0, .inr (10, [.ref m_all, .ref m_kept, .ref m_isKept, .ref m_refused, .long (lI m_above), .long (lI m_below), .ref m_hand, .ref m_fewest, .ref m_whoBites, .ref m_leaves, .ref m_bestFeast, .ref m_tells, .ref m_hardOn, .ref m_bytes, .int (iI m_bytesLong), .int (iI m_tokenAt), .int (iI m_tokenLong), .int (iI m_token), .int (iI m_value), .ref m_anew, .ref m_values])), (m_all, .inl (G.2 0, 311, .inl (cI mF)))] := ⟨hP, hD⟩
      have hP := hPD.1
      have hD := hPD.2
      clear hPD
      exact g_iret (v := (iI rr_22)) hx hb hr hlocks hP hD hS (⟨rr_22, rfl, rfl⟩) dX11_counted_129
    · refine g_topi (y := iI 5) (congrArg iI hv_12) ?_
      refine lv_tableIn (off := 99) (tgt := 130) hx hb dX11_counted_31 (by decide) (by decide) (by decide) (by decide) ?_
      refine lv_aload_n hx hb dX11_counted_130 rfl (lv_at hl 2 rfl) ?_
      refine va_get (D := G.1) (ci := 10) (v := .ref m_all) (C := RX11) (T := TX11) (N := 21) hx hb hts (fun _ h => List.mem_cons_of_mem _ (inlX11 _ h)) hown hK hP 0 rfl rfl 0 (by decide) (hts _ (List.mem_cons_of_mem _ (in_r6 (List.mem_of_getElem? (i := 0) rfl)))) (fun _ h9 => h9) rfl dX11_counted_131 ?_
      refine lv_iconst (v := iI 2) hx hb dX11_counted_134 rfl ?_
      refine g_calli (wr := [(m0, .inr (10, [.ref m_all, .ref m_kept, .ref m_isKept, .ref m_refused, .long (lI m_above), .long (lI m_below), .ref m_hand, .ref m_fewest, .ref m_whoBites, .ref m_leaves, .ref m_bestFeast, .ref m_tells, .ref m_hardOn, .ref m_bytes, .int (iI m_bytesLong), .int (iI m_tokenAt), .int (iI m_tokenLong), .int (iI m_token), .int (iI m_value), .ref m_anew, .ref m_values]))]) (va_runS (As := [.ref m_all, .int (iI 2)]) (rest := []) ⟨hx, hb, hml, hown, hts⟩ (c_X11_manyWith_311 l G (m_all) (mF) (K0) (2) (by first | exact y0_ | exact bpA_mono y0_ (by omega) | assumption) (by first | exact hK0 | assumption | omega) (by first | assumption | omega) _) (va_cwS 2 hts gX11_counted_X11_manyWith rfl rfl rfl (by decide +kernel) ⟨Nat.le_of_ble_eq_true rfl, Nat.le_of_ble_eq_true rfl⟩) (g_preS [.ref m_all, .int (iI 2)] hP hD hK hN hS hA hZ [1] rfl rfl) rfl rfl hl.1 rfl (lv_room (Nat.le_of_ble_eq_true rfl)) dX11_counted_135 ⟨Nat.le_of_ble_eq_true rfl, Nat.le_of_ble_eq_true rfl⟩) hP hD hS hA [1] [0] rfl rfl rfl (by decide) (fun r_23 u H locs hw hP hD hS => ?_)
      obtain ⟨rr_24, rfl, rfl⟩ := hw
      have hPD : PD G A H [(m0, .inr (10, [.ref m_all, .ref m_kept, .ref m_isKept, .ref m_refused, .long (lI m_above), .long (lI m_below), .ref m_hand, .ref m_fewest, .ref m_whoBites, .ref m_leaves, .ref m_bestFeast, .ref m_tells, .ref m_hardOn, .ref m_bytes, .int (iI m_bytesLong), .int (iI m_tokenAt), .int (iI m_tokenLong), .int (iI m_token), .int (iI m_value), .ref m_anew, .ref m_values])), (m_all, .inl (G.2 0, 311, .inl (cI mF)))] := ⟨hP, hD⟩
      have hP := hPD.1
      have hD := hPD.2
      clear hPD
      exact g_iret (v := (iI rr_24)) hx hb hr hlocks hP hD hS (⟨rr_24, rfl, rfl⟩) dX11_counted_138
    · refine g_topi (y := iI 6) (congrArg iI hv_12) ?_
      refine lv_tableIn (off := 108) (tgt := 139) hx hb dX11_counted_31 (by decide) (by decide) (by decide) (by decide) ?_
      refine lv_iload_n hx hb dX11_counted_139 rfl (lv_at hl 1 rfl) ?_
      exact g_iret (v := (iI s0__1)) hx hb hr hlocks hP hD hS (⟨s0__1, rfl, rfl⟩) dX11_counted_140
    · refine g_topi (y := iI 7) (congrArg iI hv_12) ?_
      refine lv_tableIn (off := 115) (tgt := 146) hx hb dX11_counted_31 (by decide) (by decide) (by decide) (by decide) ?_
      refine lv_aload_n hx hb dX11_counted_146 rfl (lv_at hl 2 rfl) ?_
      refine va_get (D := G.1) (ci := 10) (v := .ref m_all) (C := RX11) (T := TX11) (N := 21) hx hb hts (fun _ h => List.mem_cons_of_mem _ (inlX11 _ h)) hown hK hP 0 rfl rfl 0 (by decide) (hts _ (List.mem_cons_of_mem _ (in_r6 (List.mem_of_getElem? (i := 0) rfl)))) (fun _ h9 => h9) rfl dX11_counted_147 ?_
      refine lv_iconst (v := iI 2) hx hb dX11_counted_150 rfl ?_
      refine lv_iload_n hx hb dX11_counted_151 rfl (lv_at hl 3 rfl) ?_
      refine lv_iadd hx hb dX11_counted_152 ?_
      refine g_topi (y := iI (2 + a1)) (iI_add 2 a1) ?_
      refine lv_bipush (v := iI 7) hx hb dX11_counted_153 (by decide) ?_
      refine lv_isub hx hb dX11_counted_155 ?_
      refine g_topi (y := iI ((2 + a1) - 7)) (iI_sub (2 + a1) 7) ?_
      refine g_ild hx hb hK hP 1 rfl (by omega) (by omega) (by first | exact Nat.le_of_ble_eq_true rfl | omega) dX11_counted_156 (fun w_25 ew_25 => ?_)
      have bw_25 : 0 ≤ w_25 ∧ w_25 ≤ K0 := by rw [← ew_25]; exact ⟨(y0_ _).1, Int.le_trans (y0_ _).2 (plA_le (by omega) _)⟩
      exact g_iret (v := (iI w_25)) hx hb hr hlocks hP hD hS (⟨w_25, rfl, rfl⟩) dX11_counted_157
    · refine g_topi (y := iI 8) (congrArg iI hv_12) ?_
      refine lv_tableIn (off := 115) (tgt := 146) hx hb dX11_counted_31 (by decide) (by decide) (by decide) (by decide) ?_
      refine lv_aload_n hx hb dX11_counted_146 rfl (lv_at hl 2 rfl) ?_
      refine va_get (D := G.1) (ci := 10) (v := .ref m_all) (C := RX11) (T := TX11) (N := 21) hx hb hts (fun _ h => List.mem_cons_of_mem _ (inlX11 _ h)) hown hK hP 0 rfl rfl 0 (by decide) (hts _ (List.mem_cons_of_mem _ (in_r6 (List.mem_of_getElem? (i := 0) rfl)))) (fun _ h9 => h9) rfl dX11_counted_147 ?_
      refine lv_iconst (v := iI 2) hx hb dX11_counted_150 rfl ?_
      refine lv_iload_n hx hb dX11_counted_151 rfl (lv_at hl 3 rfl) ?_
      refine lv_iadd hx hb dX11_counted_152 ?_
      refine g_topi (y := iI (2 + a1)) (iI_add 2 a1) ?_
      refine lv_bipush (v := iI 7) hx hb dX11_counted_153 (by decide) ?_
      refine lv_isub hx hb dX11_counted_155 ?_
      refine g_topi (y := iI ((2 + a1) - 7)) (iI_sub (2 + a1) 7) ?_
      refine g_ild hx hb hK hP 1 rfl (by omega) (by omega) (by first | exact Nat.le_of_ble_eq_true rfl | omega) dX11_counted_156 (fun w_26 ew_26 => ?_)
      have bw_26 : 0 ≤ w_26 ∧ w_26 ≤ K0 := by rw [← ew_26]; exact ⟨(y0_ _).1, Int.le_trans (y0_ _).2 (plA_le (by omega) _)⟩
      exact g_iret (v := (iI w_26)) hx hb hr hlocks hP hD hS (⟨w_26, rfl, rfl⟩) dX11_counted_157
    · refine g_topi (y := iI 9) (congrArg iI hv_12) ?_
      refine lv_tableIn (off := 115) (tgt := 146) hx hb dX11_counted_31 (by decide) (by decide) (by decide) (by decide) ?_
      refine lv_aload_n hx hb dX11_counted_146 rfl (lv_at hl 2 rfl) ?_
      refine va_get (D := G.1) (ci := 10) (v := .ref m_all) (C := RX11) (T := TX11) (N := 21) hx hb hts (fun _ h => List.mem_cons_of_mem _ (inlX11 _ h)) hown hK hP 0 rfl rfl 0 (by decide) (hts _ (List.mem_cons_of_mem _ (in_r6 (List.mem_of_getElem? (i := 0) rfl)))) (fun _ h9 => h9) rfl dX11_counted_147 ?_
      refine lv_iconst (v := iI 2) hx hb dX11_counted_150 rfl ?_
      refine lv_iload_n hx hb dX11_counted_151 rfl (lv_at hl 3 rfl) ?_
      refine lv_iadd hx hb dX11_counted_152 ?_
      refine g_topi (y := iI (2 + a1)) (iI_add 2 a1) ?_
      refine lv_bipush (v := iI 7) hx hb dX11_counted_153 (by decide) ?_
      refine lv_isub hx hb dX11_counted_155 ?_
      refine g_topi (y := iI ((2 + a1) - 7)) (iI_sub (2 + a1) 7) ?_
      refine g_ild hx hb hK hP 1 rfl (by omega) (by omega) (by first | exact Nat.le_of_ble_eq_true rfl | omega) dX11_counted_156 (fun w_27 ew_27 => ?_)
      have bw_27 : 0 ≤ w_27 ∧ w_27 ≤ K0 := by rw [← ew_27]; exact ⟨(y0_ _).1, Int.le_trans (y0_ _).2 (plA_le (by omega) _)⟩
      exact g_iret (v := (iI w_27)) hx hb hr hlocks hP hD hS (⟨w_27, rfl, rfl⟩) dX11_counted_157
    · refine g_topi (y := iI 10) (congrArg iI hv_12) ?_
      refine lv_tableIn (off := 115) (tgt := 146) hx hb dX11_counted_31 (by decide) (by decide) (by decide) (by decide) ?_
      refine lv_aload_n hx hb dX11_counted_146 rfl (lv_at hl 2 rfl) ?_
      refine va_get (D := G.1) (ci := 10) (v := .ref m_all) (C := RX11) (T := TX11) (N := 21) hx hb hts (fun _ h => List.mem_cons_of_mem _ (inlX11 _ h)) hown hK hP 0 rfl rfl 0 (by decide) (hts _ (List.mem_cons_of_mem _ (in_r6 (List.mem_of_getElem? (i := 0) rfl)))) (fun _ h9 => h9) rfl dX11_counted_147 ?_
      refine lv_iconst (v := iI 2) hx hb dX11_counted_150 rfl ?_
      refine lv_iload_n hx hb dX11_counted_151 rfl (lv_at hl 3 rfl) ?_
      refine lv_iadd hx hb dX11_counted_152 ?_
      refine g_topi (y := iI (2 + a1)) (iI_add 2 a1) ?_
      refine lv_bipush (v := iI 7) hx hb dX11_counted_153 (by decide) ?_
      refine lv_isub hx hb dX11_counted_155 ?_
      refine g_topi (y := iI ((2 + a1) - 7)) (iI_sub (2 + a1) 7) ?_
      refine g_ild hx hb hK hP 1 rfl (by omega) (by omega) (by first | exact Nat.le_of_ble_eq_true rfl | omega) dX11_counted_156 (fun w_28 ew_28 => ?_)
      have bw_28 : 0 ≤ w_28 ∧ w_28 ≤ K0 := by rw [← ew_28]; exact ⟨(y0_ _).1, Int.le_trans (y0_ _).2 (plA_le (by omega) _)⟩
      exact g_iret (v := (iI w_28)) hx hb hr hlocks hP hD hS (⟨w_28, rfl, rfl⟩) dX11_counted_157
    · refine g_topi (y := iI 11) (congrArg iI hv_12) ?_
      refine lv_tableIn (off := 110) (tgt := 141) hx hb dX11_counted_31 (by decide) (by decide) (by decide) (by decide) ?_
      refine lv_aload_n hx hb dX11_counted_141 rfl (lv_at hl 2 rfl) ?_
      refine va_get (D := G.1) (ci := 10) (v := .int (iI m_bytesLong)) (C := RX11) (T := TX11) (N := 21) hx hb hts (fun _ h => List.mem_cons_of_mem _ (inlX11 _ h)) hown hK hP 0 rfl rfl 14 (by decide) (hts _ (List.mem_cons_of_mem _ (in_r11 (List.mem_of_getElem? (i := 7) rfl)))) (fun _ h9 => h9) rfl dX11_counted_142 ?_
      exact g_iret (v := (iI m_bytesLong)) hx hb hr hlocks hP hD hS (⟨m_bytesLong, rfl, rfl⟩) dX11_counted_145
    · refine lv_tableOut (tgt := 146) hx hb dX11_counted_31 (by rw [iI_toInt (by omega)]; omega) (by decide) ?_
      refine lv_aload_n hx hb dX11_counted_146 rfl (lv_at hl 2 rfl) ?_
      refine va_get (D := G.1) (ci := 10) (v := .ref m_all) (C := RX11) (T := TX11) (N := 21) hx hb hts (fun _ h => List.mem_cons_of_mem _ (inlX11 _ h)) hown hK hP 0 rfl rfl 0 (by decide) (hts _ (List.mem_cons_of_mem _ (in_r6 (List.mem_of_getElem? (i := 0) rfl)))) (fun _ h9 => h9) rfl dX11_counted_147 ?_
      refine lv_iconst (v := iI 2) hx hb dX11_counted_150 rfl ?_
      refine lv_iload_n hx hb dX11_counted_151 rfl (lv_at hl 3 rfl) ?_
      refine lv_iadd hx hb dX11_counted_152 ?_
      refine g_topi (y := iI (2 + a1)) (iI_add 2 a1) ?_
      refine lv_bipush (v := iI 7) hx hb dX11_counted_153 (by decide) ?_
      refine lv_isub hx hb dX11_counted_155 ?_
      refine g_topi (y := iI ((2 + a1) - 7)) (iI_sub (2 + a1) 7) ?_
      refine g_ild hx hb hK hP 1 rfl (by omega) (by omega) (by first | exact Nat.le_of_ble_eq_true rfl | omega) dX11_counted_156 (fun w_29 ew_29 => ?_)
      have bw_29 : 0 ≤ w_29 ∧ w_29 ≤ K0 := by rw [← ew_29]; exact ⟨(y0_ _).1, Int.le_trans (y0_ _).2 (plA_le (by omega) _)⟩
      exact g_iret (v := (iI w_29)) hx hb hr hlocks hP hD hS (⟨w_29, rfl, rfl⟩) dX11_counted_157
  · have c_11 : ¬ (rr_8 ≤ i0__2) := fun h9 => c_11 ((iI_le (a := rr_8) (b := i0__2) (by omega) (by omega)).mpr h9)
    refine lv_iload_n hx hb dX11_counted_12 rfl (lv_at hl 1 rfl) ?_
    refine lv_aload_n hx hb dX11_counted_13 rfl (lv_at hl 2 rfl) ?_
    refine va_get (D := G.1) (ci := 10) (v := .ref m_all) (C := RX11) (T := TX11) (N := 21) hx hb hts (fun _ h => List.mem_cons_of_mem _ (inlX11 _ h)) hown hK hP 0 rfl rfl 0 (by decide) (hts _ (List.mem_cons_of_mem _ (in_r6 (List.mem_of_getElem? (i := 0) rfl)))) (fun _ h9 => h9) rfl dX11_counted_14 ?_
    refine lv_bipush (v := iI 6) hx hb dX11_counted_17 (by decide) ?_
    refine lv_iload_n hx hb dX11_counted_19 rfl (lv_at hl 0 rfl) ?_
    refine lv_iadd hx hb dX11_counted_20 ?_
    refine g_topi (y := iI (6 + i0__2)) (iI_add 6 i0__2) ?_
    refine g_ild hx hb hK hP 1 rfl (by omega) (by omega) (by first | exact Nat.le_of_ble_eq_true rfl | omega) dX11_counted_21 (fun w_30 ew_30 => ?_)
    have bw_30 : 0 ≤ w_30 ∧ w_30 ≤ 30 := by rw [← ew_30]; exact ⟨(y0_ _).1, Int.le_trans (y0_ _).2 (plAu_T (by omega) (by omega))⟩
    refine lv_iadd hx hb dX11_counted_22 ?_
    refine g_topi (y := iI (s0__1 + w_30)) (iI_add s0__1 w_30) ?_
    refine lv_istore_n (lv' := [(2, .int (iI (s0__1 + w_30))), (3, .int (iI i0__2)), (0, .ref m0), (1, .int (iI a1))]) hx hb dX11_counted_23 rfl hl (by decide) rfl (fun ls hl => ?_)
    refine lv_iinc (v := iI (i0__2 + 1)) (lv' := [(3, .int (iI (i0__2 + 1))), (2, .int (iI (s0__1 + w_30))), (0, .ref m0), (1, .int (iI a1))]) hx hb dX11_counted_24 hl (k := 1) rfl (iI_add i0__2 1) (by decide) rfl (fun ls hl => ?_)
    refine lv_goto (tgt := 4) hx hb dX11_counted_27 (by decide) ?_
    exact ih_4 _ _ _ _ (by omega) ⟨(s0__1 + w_30), (i0__2 + 1), (by first | assumption | omega), rfl, hP, hD, hS, lv_sub hl [0, 1, 2, 3] rfl⟩
theorem dX11_count_0 : decode cX11_count 0 = .ok (.iload_n 1, 1) := kd_27 (by decide +kernel)
theorem dX11_count_1 : decode cX11_count 1 = .ok (.i2l, 1) := kd_133 (by decide +kernel)
theorem dX11_count_2 : decode cX11_count 2 = .ok (.lconst 0, 1) := kd_9 (by decide +kernel)
theorem dX11_count_3 : decode cX11_count 3 = .ok (.ldc2_w 301, 3) := kd_20 (a := 1) (b := 45) (by decide +kernel)
theorem gX11_count_X11_in : GoodIn wsX11_count (va_wsS RX11 65 yX11_in wsX11_in) := gW_S (in_r8 (List.mem_of_getElem? (i := 9) rfl)) (in_r8 (List.mem_of_getElem? (i := 10) rfl)) (in_r1 (List.mem_of_getElem? (i := 5) rfl)) (in_r8 (List.mem_of_getElem? (i := 11) rfl))
theorem dX11_count_6 : decode cX11_count 6 = .ok (.invokestatic 65, 3) := kd_184 (a := 0) (b := 65) (by decide +kernel)
theorem dX11_count_9 : decode cX11_count 9 = .ok (.ifCond .eq 11, 3) := kd_153 (a := 0) (b := 11) (by decide +kernel)
theorem dX11_count_12 : decode cX11_count 12 = .ok (.aload_n 0, 1) := kd_42 (by decide +kernel)
theorem dX11_count_13 : decode cX11_count 13 = .ok (.iload_n 1, 1) := kd_27 (by decide +kernel)
theorem gX11_count_X11_counted : GoodIn wsX11_count (wsV RX11 303 RX11 yX11_counted wsX11_counted) := gW_V (in_r43 (List.mem_of_getElem? (i := 1) rfl)) (in_r43 (List.mem_of_getElem? (i := 2) rfl)) (in_r43 (List.mem_of_getElem? (i := 3) rfl)) (in_r1 (List.mem_of_getElem? (i := 5) rfl)) (in_r43 (List.mem_of_getElem? (i := 4) rfl))
theorem dX11_count_14 : decode cX11_count 14 = .ok (.invokevirtual 303, 3) := kd_182 (a := 1) (b := 47) (by decide +kernel)
theorem dX11_count_17 : decode cX11_count 17 = .ok (.goto 9, 3) := kd_167 (a := 0) (b := 9) (by decide +kernel)
theorem dX11_count_26 : decode cX11_count 26 = .ok (.ireturn, 1) := kd_172 (by decide +kernel)
theorem dX11_count_20 : decode cX11_count 20 = .ok (.aload_n 0, 1) := kd_42 (by decide +kernel)
theorem dX11_count_21 : decode cX11_count 21 = .ok (.bipush (-2), 2) := kd_16 (a := 254) (by decide +kernel)
theorem gX11_count_X11_bad : GoodIn wsX11_count (wsV RX11 79 RX11 yX11_bad wsX11_bad) := gW_V (in_r8 (List.mem_of_getElem? (i := 16) rfl)) (in_r8 (List.mem_of_getElem? (i := 17) rfl)) (in_r8 (List.mem_of_getElem? (i := 18) rfl)) (in_r1 (List.mem_of_getElem? (i := 5) rfl)) (in_r8 (List.mem_of_getElem? (i := 19) rfl))
theorem dX11_count_23 : decode cX11_count 23 = .ok (.invokevirtual 79, 3) := kd_182 (a := 0) (b := 79) (by decide +kernel)
set_option maxHeartbeats 8000000 in
set_option maxRecDepth 100000 in
theorem c_X11_count (l : Launch) (G : gG) (m0 : Nat) (m_all : Nat) (m_kept : Nat) (m_isKept : Nat) (m_refused : Nat) (m_above : Int) (m_below : Int) (m_hand : Nat) (m_fewest : Nat) (m_whoBites : Nat) (m_leaves : Nat) (m_bestFeast : Nat) (m_tells : Nat) (m_hardOn : Nat) (m_bytes : Nat) (m_bytesLong : Int) (m_tokenAt : Int) (m_tokenLong : Int) (m_token : Int) (m_value : Int) (m_anew : Nat) (m_values : Nat) (mF : Nat → Int) (K0 : Int) (mr : Nat → Int) (a1 : Int) (y0_ : bp (plA K0) mF) (ra1 : -2147483648 ≤ a1 ∧ a1 ≤ 2147483647) (hK0 : 1000 ≤ K0 ∧ K0 ≤ 2000000) (sz : Nat) : gI G l yX11_count wsX11_count ({ frames := 2, cells := 0, slots := 0, locals := 46 } : Room) [.ref m0, .int (iI a1)] [(m0, .inr (10, [.ref m_all, .ref m_kept, .ref m_isKept, .ref m_refused, .long (lI m_above), .long (lI m_below), .ref m_hand, .ref m_fewest, .ref m_whoBites, .ref m_leaves, .ref m_bestFeast, .ref m_tells, .ref m_hardOn, .ref m_bytes, .int (iI m_bytesLong), .int (iI m_tokenAt), .int (iI m_tokenLong), .int (iI m_token), .int (iI m_value), .ref m_anew, .ref m_values])), (m_all, .inl (G.2 0, 311, .inl (cI mF))), (m_refused, .inl (G.2 0, 3, .inl (cI mr)))] sz (fun (r : Int32) (u : va_W) => (∃ rr : Int, ∃ N_r : Nat → Int, r = (iI rr) ∧ u = [(m0, .inr (10, [.ref m_all, .ref m_kept, .ref m_isKept, .ref m_refused, .long (lI m_above), .long (lI m_below), .ref m_hand, .ref m_fewest, .ref m_whoBites, .ref m_leaves, .ref m_bestFeast, .ref m_tells, .ref m_hardOn, .ref m_bytes, .int (iI m_bytesLong), .int (iI m_tokenAt), .int (iI m_tokenLong), .int (iI m_token), .int (iI m_value), .ref m_anew, .ref m_values])), (m_all, .inl (G.2 0, 311, .inl (cI mF))), (m_refused, .inl (G.2 0, 3, .inl (cI N_r)))])) := by
  refine Met.ofW (cc := cX11_count) (maxL := 2) (ret := (some .int)) (by decide) rfl ?_
  intro p e s m args below meth c s₁ B hml hv
  obtain ⟨rfl, hsz, hP, hK, hD0, hN, hZ⟩ := hv
  have hx := B.exec
  have hb := B.bytes
  have hr := B.returns
  have hts := atoms_spec (ws := wsX11_count) B.pre
  have hown : s.vm.findClass RX11 = some m.cls := findClass_of_methodNamed B.named
  have hlocks := B.notSynchronized
  subst hsz
  have hD := hD0.self (sz := s.heap.size)
  generalize hAe : va_A [(m0, .inr (10, [.ref m_all, .ref m_kept, .ref m_isKept, .ref m_refused, .long (lI m_above), .long (lI m_below), .ref m_hand, .ref m_fewest, .ref m_whoBites, .ref m_leaves, .ref m_bestFeast, .ref m_tells, .ref m_hardOn, .ref m_bytes, .int (iI m_bytesLong), .int (iI m_tokenAt), .int (iI m_tokenLong), .int (iI m_token), .int (iI m_value), .ref m_anew, .ref m_values])), (m_all, .inl (G.2 0, 311, .inl (cI mF))), (m_refused, .inl (G.2 0, 3, .inl (cI mr)))] s.heap.size = A at hD hZ ⊢
  have hA : ∀ q : Nat, s.heap.size ≤ q → A q := fun q h => by rw [← hAe]; exact Or.inr h
  have hS : va_S A s.heap s.heap [] := va_S.rf
  have hP : va_P G.1 vwCl [(m0, .inr (10, [.ref m_all, .ref m_kept, .ref m_isKept, .ref m_refused, .long (lI m_above), .long (lI m_below), .ref m_hand, .ref m_fewest, .ref m_whoBites, .ref m_leaves, .ref m_bestFeast, .ref m_tells, .ref m_hardOn, .ref m_bytes, .int (iI m_bytesLong), .int (iI m_tokenAt), .int (iI m_tokenLong), .int (iI m_token), .int (iI m_value), .ref m_anew, .ref m_values])), (m_all, .inl (G.2 0, 311, .inl (cI mF))), (m_refused, .inl (G.2 0, 3, .inl (cI mr)))] s.heap := hP
  have hl := lv_entry ([.ref m0, .int (iI a1)]) (n := 2) (Nat.le_of_ble_eq_true rfl)
  rw [lg_entry_eq]
  generalize (lg_sl ([.ref m0, .int (iI a1)]) ++ List.replicate (2 - (lg_sl ([.ref m0, .int (iI a1)])).length) Slot.unset).toArray = ls at hl ⊢
  have hl : lv_has ls 2 [(0, .ref m0), (1, .int (iI a1))] := hl
  refine lv_iload_n hx hb dX11_count_0 rfl (lv_at hl 1 rfl) ?_
  refine lv_i2l (v := lI a1) hx hb dX11_count_1 (i2l_iI (by omega)) ?_
  refine lv_lconst (v := lI 0) hx hb dX11_count_2 (by decide) ?_
  refine lv_ldc2 (v := 11) hx hb hown (hts _ (List.mem_cons_of_mem _ (in_r43 (List.mem_of_getElem? (i := 0) rfl)))) dX11_count_3 ?_
  refine g_topl (y := lI 11) (by decide) ?_
  refine g_calli (wr := [(m0, .inr (10, [.ref m_all, .ref m_kept, .ref m_isKept, .ref m_refused, .long (lI m_above), .long (lI m_below), .ref m_hand, .ref m_fewest, .ref m_whoBites, .ref m_leaves, .ref m_bestFeast, .ref m_tells, .ref m_hardOn, .ref m_bytes, .int (iI m_bytesLong), .int (iI m_tokenAt), .int (iI m_tokenLong), .int (iI m_token), .int (iI m_value), .ref m_anew, .ref m_values])), (m_all, .inl (G.2 0, 311, .inl (cI mF))), (m_refused, .inl (G.2 0, 3, .inl (cI mr)))]) (va_runS (As := [.long (lI a1), .long (lI 0), .long (lI 11)]) (rest := []) ⟨hx, hb, hml, hown, hts⟩ (c_X11_in l G (a1) (0) (11) (by first | assumption | omega) (by first | assumption | omega) (by first | assumption | omega) _) (va_cwS 3 hts gX11_count_X11_in rfl rfl rfl (by decide +kernel) ⟨Nat.le_of_ble_eq_true rfl, Nat.le_of_ble_eq_true rfl⟩) (g_preS [.long (lI a1), .long (lI 0), .long (lI 11)] hP hD hK hN hS hA hZ [] rfl rfl) rfl rfl hl.1 rfl (lv_room (Nat.le_of_ble_eq_true rfl)) dX11_count_6 ⟨Nat.le_of_ble_eq_true rfl, Nat.le_of_ble_eq_true rfl⟩) hP hD hS hA [] [0, 1, 2] rfl rfl rfl (by decide) (fun r_1 u H locs hw hP hD hS => ?_)
  rcases hw with hw | hw
  · refine ea_0_4 hw (fun k_2 k_3 e8_0 e8_1 => ?_)
    subst e8_0
    subst e8_1
    clear hw
    have hPD : PD G A H [(m0, .inr (10, [.ref m_all, .ref m_kept, .ref m_isKept, .ref m_refused, .long (lI m_above), .long (lI m_below), .ref m_hand, .ref m_fewest, .ref m_whoBites, .ref m_leaves, .ref m_bestFeast, .ref m_tells, .ref m_hardOn, .ref m_bytes, .int (iI m_bytesLong), .int (iI m_tokenAt), .int (iI m_tokenLong), .int (iI m_token), .int (iI m_value), .ref m_anew, .ref m_values])), (m_all, .inl (G.2 0, 311, .inl (cI mF))), (m_refused, .inl (G.2 0, 3, .inl (cI mr)))] := ⟨hP, hD⟩
    have hP := hPD.1
    have hD := hPD.2
    clear hPD
    refine lv_if_eq (tgt := 20) hx hb dX11_count_9 (by decide) (fun c_5 => g_no c_5 (by decide)) (fun _ => ?_)
    refine lv_aload_n hx hb dX11_count_12 rfl (lv_at hl 0 rfl) ?_
    refine lv_iload_n hx hb dX11_count_13 rfl (lv_at hl 1 rfl) ?_
    refine g_calli (wr := [(m_refused, .inl (G.2 0, 3, .inl (cI mr)))]) (va_runV (As := [.int (iI a1)]) (rest := []) ⟨hx, hb, hml, hown, hts⟩ (c_X11_counted l G (m0) (m_all) (m_kept) (m_isKept) (m_refused) (m_above) (m_below) (m_hand) (m_fewest) (m_whoBites) (m_leaves) (m_bestFeast) (m_tells) (m_hardOn) (m_bytes) (m_bytesLong) (m_tokenAt) (m_tokenLong) (m_token) (m_value) (m_anew) (m_values) (mF) (K0) (a1) (by first | exact y0_ | exact bpA_mono y0_ (by omega) | assumption) (by first | exact ra1 | assumption | omega) (by first | assumption | omega) (by first | exact hK0 | assumption | omega) _) (cwV 1 hts gX11_count_X11_counted rfl rfl rfl (by decide +kernel) ⟨Nat.le_of_ble_eq_true rfl, Nat.le_of_ble_eq_true rfl⟩) (g_preV m0 [.int (iI a1)] hP hD hK hN hS hA hZ [0, 1] rfl rfl 0 (ci := 10) rfl rfl) rfl rfl hl.1 rfl (lv_room (Nat.le_of_ble_eq_true rfl)) dX11_count_14 ⟨Nat.le_of_ble_eq_true rfl, Nat.le_of_ble_eq_true rfl⟩) hP hD hS hA [0, 1] [2] rfl rfl rfl (by decide) (fun r_6 u H locs hw hP hD hS => ?_)
    obtain ⟨rr_7, rfl, rfl⟩ := hw
    have hPD : PD G A H [(m_refused, .inl (G.2 0, 3, .inl (cI mr))), (m0, .inr (10, [.ref m_all, .ref m_kept, .ref m_isKept, .ref m_refused, .long (lI m_above), .long (lI m_below), .ref m_hand, .ref m_fewest, .ref m_whoBites, .ref m_leaves, .ref m_bestFeast, .ref m_tells, .ref m_hardOn, .ref m_bytes, .int (iI m_bytesLong), .int (iI m_tokenAt), .int (iI m_tokenLong), .int (iI m_token), .int (iI m_value), .ref m_anew, .ref m_values])), (m_all, .inl (G.2 0, 311, .inl (cI mF)))] := ⟨hP, hD⟩
    have hP := hPD.1
    have hD := hPD.2
    clear hPD
    refine lv_goto (tgt := 26) hx hb dX11_count_17 (by decide) ?_
    have hP := hP.sub (ws' := [(m0, .inr (10, [.ref m_all, .ref m_kept, .ref m_isKept, .ref m_refused, .long (lI m_above), .long (lI m_below), .ref m_hand, .ref m_fewest, .ref m_whoBites, .ref m_leaves, .ref m_bestFeast, .ref m_tells, .ref m_hardOn, .ref m_bytes, .int (iI m_bytesLong), .int (iI m_tokenAt), .int (iI m_tokenLong), .int (iI m_token), .int (iI m_value), .ref m_anew, .ref m_values])), (m_all, .inl (G.2 0, 311, .inl (cI mF))), (m_refused, .inl (G.2 0, 3, .inl (cI mr)))]) [1, 2, 0] rfl
    have hD := hD.sub (ws' := [(m0, .inr (10, [.ref m_all, .ref m_kept, .ref m_isKept, .ref m_refused, .long (lI m_above), .long (lI m_below), .ref m_hand, .ref m_fewest, .ref m_whoBites, .ref m_leaves, .ref m_bestFeast, .ref m_tells, .ref m_hardOn, .ref m_bytes, .int (iI m_bytesLong), .int (iI m_tokenAt), .int (iI m_tokenLong), .int (iI m_token), .int (iI m_value), .ref m_anew, .ref m_values])), (m_all, .inl (G.2 0, 311, .inl (cI mF))), (m_refused, .inl (G.2 0, 3, .inl (cI mr)))]) [1, 2, 0] rfl rfl
    exact g_iret (v := (iI rr_7)) hx hb hr hlocks hP hD hS (⟨rr_7, mr, rfl, rfl⟩) dX11_count_26
  · refine ea_0_3 hw (fun k_4 e8_0 e8_1 => ?_)
    subst e8_0
    subst e8_1
    clear hw
    have hPD : PD G A H [(m0, .inr (10, [.ref m_all, .ref m_kept, .ref m_isKept, .ref m_refused, .long (lI m_above), .long (lI m_below), .ref m_hand, .ref m_fewest, .ref m_whoBites, .ref m_leaves, .ref m_bestFeast, .ref m_tells, .ref m_hardOn, .ref m_bytes, .int (iI m_bytesLong), .int (iI m_tokenAt), .int (iI m_tokenLong), .int (iI m_token), .int (iI m_value), .ref m_anew, .ref m_values])), (m_all, .inl (G.2 0, 311, .inl (cI mF))), (m_refused, .inl (G.2 0, 3, .inl (cI mr)))] := ⟨hP, hD⟩
    have hP := hPD.1
    have hD := hPD.2
    clear hPD
    refine lv_if_eq (tgt := 20) hx hb dX11_count_9 (by decide) (fun _ => ?_) (fun c_8 => g_no (by decide) c_8)
    refine lv_aload_n hx hb dX11_count_20 rfl (lv_at hl 0 rfl) ?_
    refine lv_bipush (v := iI (-2)) hx hb dX11_count_21 (by decide) ?_
    refine g_calli (wr := [(m_all, .inl (G.2 0, 311, .inl (cI mF)))]) (va_runV (As := [.int (iI (-2))]) (rest := []) ⟨hx, hb, hml, hown, hts⟩ (c_X11_bad l G (m0) (m_all) (m_kept) (m_isKept) (m_refused) (m_above) (m_below) (m_hand) (m_fewest) (m_whoBites) (m_leaves) (m_bestFeast) (m_tells) (m_hardOn) (m_bytes) (m_bytesLong) (m_tokenAt) (m_tokenLong) (m_token) (m_value) (m_anew) (m_values) (mr) ((-2)) (by first | assumption | omega) _) (cwV 1 hts gX11_count_X11_bad rfl rfl rfl (by decide +kernel) ⟨Nat.le_of_ble_eq_true rfl, Nat.le_of_ble_eq_true rfl⟩) (g_preV m0 [.int (iI (-2))] hP hD hK hN hS hA hZ [0, 2] rfl rfl 0 (ci := 10) rfl rfl) rfl rfl hl.1 rfl (lv_room (Nat.le_of_ble_eq_true rfl)) dX11_count_23 ⟨Nat.le_of_ble_eq_true rfl, Nat.le_of_ble_eq_true rfl⟩) hP hD hS hA [0, 2] [1] rfl rfl rfl (by decide) (fun r_9 u H locs hw hP hD hS => ?_)
    obtain ⟨Nr_10, rfl, rfl⟩ := hw
    have hPD : PD G A H [(m_all, .inl (G.2 0, 311, .inl (cI mF))), (m0, .inr (10, [.ref m_all, .ref m_kept, .ref m_isKept, .ref m_refused, .long (lI m_above), .long (lI m_below), .ref m_hand, .ref m_fewest, .ref m_whoBites, .ref m_leaves, .ref m_bestFeast, .ref m_tells, .ref m_hardOn, .ref m_bytes, .int (iI m_bytesLong), .int (iI m_tokenAt), .int (iI m_tokenLong), .int (iI m_token), .int (iI m_value), .ref m_anew, .ref m_values])), (m_refused, .inl (G.2 0, 3, .inl (cI Nr_10)))] := ⟨hP, hD⟩
    have hP := hPD.1
    have hD := hPD.2
    clear hPD
    have hP := hP.sub (ws' := [(m0, .inr (10, [.ref m_all, .ref m_kept, .ref m_isKept, .ref m_refused, .long (lI m_above), .long (lI m_below), .ref m_hand, .ref m_fewest, .ref m_whoBites, .ref m_leaves, .ref m_bestFeast, .ref m_tells, .ref m_hardOn, .ref m_bytes, .int (iI m_bytesLong), .int (iI m_tokenAt), .int (iI m_tokenLong), .int (iI m_token), .int (iI m_value), .ref m_anew, .ref m_values])), (m_all, .inl (G.2 0, 311, .inl (cI mF))), (m_refused, .inl (G.2 0, 3, .inl (cI Nr_10)))]) [1, 0, 2] rfl
    have hD := hD.sub (ws' := [(m0, .inr (10, [.ref m_all, .ref m_kept, .ref m_isKept, .ref m_refused, .long (lI m_above), .long (lI m_below), .ref m_hand, .ref m_fewest, .ref m_whoBites, .ref m_leaves, .ref m_bestFeast, .ref m_tells, .ref m_hardOn, .ref m_bytes, .int (iI m_bytesLong), .int (iI m_tokenAt), .int (iI m_tokenLong), .int (iI m_token), .int (iI m_value), .ref m_anew, .ref m_values])), (m_all, .inl (G.2 0, 311, .inl (cI mF))), (m_refused, .inl (G.2 0, 3, .inl (cI Nr_10)))]) [1, 0, 2] rfl rfl
    exact g_iret (v := (iI (-2))) hx hb hr hlocks hP hD hS (⟨(-2), Nr_10, rfl, rfl⟩) dX11_count_26
theorem dX11_sums_0 : decode cX11_sums 0 = .ok (.lload_n 1, 1) := kd_31 (by decide +kernel)
theorem dX11_sums_1 : decode cX11_sums 1 = .ok (.lstore 5, 2) := kd_55 (a := 5) (by decide +kernel)
theorem dX11_sums_3 : decode cX11_sums 3 = .ok (.iconst 0, 1) := kd_3 (by decide +kernel)
theorem dX11_sums_4 : decode cX11_sums 4 = .ok (.istore 7, 2) := kd_54 (a := 7) (by decide +kernel)
theorem dX11_sums_6 : decode cX11_sums 6 = .ok (.iload 7, 2) := kd_21 (a := 7) (by decide +kernel)
theorem dX11_sums_8 : decode cX11_sums 8 = .ok (.iload 4, 2) := kd_21 (a := 4) (by decide +kernel)
theorem dX11_sums_10 : decode cX11_sums 10 = .ok (.if_icmp .ge 28, 3) := kd_162 (a := 0) (b := 28) (by decide +kernel)
theorem dX11_sums_38 : decode cX11_sums 38 = .ok (.lload 5, 2) := kd_22 (a := 5) (by decide +kernel)
theorem dX11_sums_40 : decode cX11_sums 40 = .ok (.lreturn, 1) := kd_173 (by decide +kernel)
theorem dX11_sums_13 : decode cX11_sums 13 = .ok (.ldc2_w 306, 3) := kd_20 (a := 1) (b := 50) (by decide +kernel)
theorem dX11_sums_16 : decode cX11_sums 16 = .ok (.lload 5, 2) := kd_22 (a := 5) (by decide +kernel)
theorem dX11_sums_18 : decode cX11_sums 18 = .ok (.lmul, 1) := kd_105 (by decide +kernel)
theorem dX11_sums_19 : decode cX11_sums 19 = .ok (.aload_n 0, 1) := kd_42 (by decide +kernel)
theorem dX11_sums_20 : decode cX11_sums 20 = .ok (.getfield 7, 3) := kd_180 (a := 0) (b := 7) (by decide +kernel)
theorem dX11_sums_23 : decode cX11_sums 23 = .ok (.iload_n 3, 1) := kd_29 (by decide +kernel)
theorem dX11_sums_24 : decode cX11_sums 24 = .ok (.iload 7, 2) := kd_21 (a := 7) (by decide +kernel)
theorem dX11_sums_26 : decode cX11_sums 26 = .ok (.iadd, 1) := kd_96 (by decide +kernel)
theorem dX11_sums_27 : decode cX11_sums 27 = .ok (.iaload, 1) := kd_46 (by decide +kernel)
theorem dX11_sums_28 : decode cX11_sums 28 = .ok (.i2l, 1) := kd_133 (by decide +kernel)
theorem dX11_sums_29 : decode cX11_sums 29 = .ok (.ladd, 1) := kd_97 (by decide +kernel)
theorem dX11_sums_30 : decode cX11_sums 30 = .ok (.lstore 5, 2) := kd_55 (a := 5) (by decide +kernel)
theorem dX11_sums_32 : decode cX11_sums 32 = .ok (.iinc 7 1, 3) := kd_132 (a := 7) (b := 1) (by decide +kernel)
theorem dX11_sums_35 : decode cX11_sums 35 = .ok (.goto (-29), 3) := kd_167 (a := 255) (b := 227) (by decide +kernel)
set_option maxHeartbeats 8000000 in
set_option maxRecDepth 100000 in
theorem c_X11_sums (l : Launch) (G : gG) (m0 : Nat) (m_all : Nat) (m_kept : Nat) (m_isKept : Nat) (m_refused : Nat) (m_above : Int) (m_below : Int) (m_hand : Nat) (m_fewest : Nat) (m_whoBites : Nat) (m_leaves : Nat) (m_bestFeast : Nat) (m_tells : Nat) (m_hardOn : Nat) (m_bytes : Nat) (m_bytesLong : Int) (m_tokenAt : Int) (m_tokenLong : Int) (m_token : Int) (m_value : Int) (m_anew : Nat) (m_values : Nat) (mF : Nat → Int) (K0 : Int) (s0 : Int) (f0 : Int) (n0 : Int) (y0_ : bp (plA K0) mF) (hK0 : 1000 ≤ K0 ∧ K0 ≤ 2000000) (hf : 0 ≤ f0 ∧ 0 ≤ n0 ∧ f0 + n0 ≤ 311) (sz : Nat) : gL G l yX11_sums wsX11_sums ({ frames := 0, cells := 0, slots := 0, locals := 0 } : Room) [.ref m0, .long (lI s0), .int (iI f0), .int (iI n0)] [(m0, .inr (10, [.ref m_all, .ref m_kept, .ref m_isKept, .ref m_refused, .long (lI m_above), .long (lI m_below), .ref m_hand, .ref m_fewest, .ref m_whoBites, .ref m_leaves, .ref m_bestFeast, .ref m_tells, .ref m_hardOn, .ref m_bytes, .int (iI m_bytesLong), .int (iI m_tokenAt), .int (iI m_tokenLong), .int (iI m_token), .int (iI m_value), .ref m_anew, .ref m_values])), (m_all, .inl (G.2 0, 311, .inl (cI mF)))] sz (fun (r : Int64) (u : va_W) => (∃ rr : Int, r = (lI rr) ∧ u = [(m0, .inr (10, [.ref m_all, .ref m_kept, .ref m_isKept, .ref m_refused, .long (lI m_above), .long (lI m_below), .ref m_hand, .ref m_fewest, .ref m_whoBites, .ref m_leaves, .ref m_bestFeast, .ref m_tells, .ref m_hardOn, .ref m_bytes, .int (iI m_bytesLong), .int (iI m_tokenAt), .int (iI m_tokenLong), .int (iI m_token), .int (iI m_value), .ref m_anew, .ref m_values])), (m_all, .inl (G.2 0, 311, .inl (cI mF)))])) := by
  refine Met.ofW (cc := cX11_sums) (maxL := 8) (ret := (some .long)) (by decide) rfl ?_
  intro p e s m args below meth c s₁ B hml hv
  obtain ⟨rfl, hsz, hP, hK, hD0, hN, hZ⟩ := hv
  have hx := B.exec
  have hb := B.bytes
  have hr := B.returns
  have hts := atoms_spec (ws := wsX11_sums) B.pre
  have hown : s.vm.findClass RX11 = some m.cls := findClass_of_methodNamed B.named
  have hlocks := B.notSynchronized
  subst hsz
  have hD := hD0.self (sz := s.heap.size)
  generalize hAe : va_A [(m0, .inr (10, [.ref m_all, .ref m_kept, .ref m_isKept, .ref m_refused, .long (lI m_above), .long (lI m_below), .ref m_hand, .ref m_fewest, .ref m_whoBites, .ref m_leaves, .ref m_bestFeast, .ref m_tells, .ref m_hardOn, .ref m_bytes, .int (iI m_bytesLong), .int (iI m_tokenAt), .int (iI m_tokenLong), .int (iI m_token), .int (iI m_value), .ref m_anew, .ref m_values])), (m_all, .inl (G.2 0, 311, .inl (cI mF)))] s.heap.size = A at hD hZ ⊢
  have hA : ∀ q : Nat, s.heap.size ≤ q → A q := fun q h => by rw [← hAe]; exact Or.inr h
  have hS : va_S A s.heap s.heap [] := va_S.rf
  have hP : va_P G.1 vwCl [(m0, .inr (10, [.ref m_all, .ref m_kept, .ref m_isKept, .ref m_refused, .long (lI m_above), .long (lI m_below), .ref m_hand, .ref m_fewest, .ref m_whoBites, .ref m_leaves, .ref m_bestFeast, .ref m_tells, .ref m_hardOn, .ref m_bytes, .int (iI m_bytesLong), .int (iI m_tokenAt), .int (iI m_tokenLong), .int (iI m_token), .int (iI m_value), .ref m_anew, .ref m_values])), (m_all, .inl (G.2 0, 311, .inl (cI mF)))] s.heap := hP
  have hl := lv_entry ([.ref m0, .long (lI s0), .int (iI f0), .int (iI n0)]) (n := 8) (Nat.le_of_ble_eq_true rfl)
  rw [lg_entry_eq]
  generalize (lg_sl ([.ref m0, .long (lI s0), .int (iI f0), .int (iI n0)]) ++ List.replicate (8 - (lg_sl ([.ref m0, .long (lI s0), .int (iI f0), .int (iI n0)])).length) Slot.unset).toArray = ls at hl ⊢
  have hl : lv_has ls 8 [(0, .ref m0), (1, .long (lI s0)), (3, .int (iI f0)), (4, .int (iI n0))] := hl
  refine lv_lload_n hx hb dX11_sums_0 rfl (lv_at hl 1 rfl) ?_
  refine lv_lstore (lv' := [(5, .long (lI s0)), (0, .ref m0), (1, .long (lI s0)), (3, .int (iI f0)), (4, .int (iI n0))]) hx hb dX11_sums_1 hl (by decide) rfl (fun ls hl => ?_)
  refine lv_iconst (v := iI 0) hx hb dX11_sums_3 rfl ?_
  refine lv_istore (lv' := [(7, .int (iI 0)), (5, .long (lI s0)), (0, .ref m0), (1, .long (lI s0)), (3, .int (iI f0)), (4, .int (iI n0))]) hx hb dX11_sums_4 hl (by decide) rfl (fun ls hl => ?_)
  refine g_loopN (pc := 6) (fun nn H locs ls => ∃ h0__1 : Int, ∃ i0__2 : Int, (0 ≤ i0__2 ∧ i0__2 ≤ n0) ∧ (n0 - i0__2).toNat = nn ∧ va_P G.1 vwCl [(m0, .inr (10, [.ref m_all, .ref m_kept, .ref m_isKept, .ref m_refused, .long (lI m_above), .long (lI m_below), .ref m_hand, .ref m_fewest, .ref m_whoBites, .ref m_leaves, .ref m_bestFeast, .ref m_tells, .ref m_hardOn, .ref m_bytes, .int (iI m_bytesLong), .int (iI m_tokenAt), .int (iI m_tokenLong), .int (iI m_token), .int (iI m_value), .ref m_anew, .ref m_values])), (m_all, .inl (G.2 0, 311, .inl (cI mF)))] H ∧ va_D A [(m0, .inr (10, [.ref m_all, .ref m_kept, .ref m_isKept, .ref m_refused, .long (lI m_above), .long (lI m_below), .ref m_hand, .ref m_fewest, .ref m_whoBites, .ref m_leaves, .ref m_bestFeast, .ref m_tells, .ref m_hardOn, .ref m_bytes, .int (iI m_bytesLong), .int (iI m_tokenAt), .int (iI m_tokenLong), .int (iI m_token), .int (iI m_value), .ref m_anew, .ref m_values])), (m_all, .inl (G.2 0, 311, .inl (cI mF)))] ∧ va_S A s.heap H locs ∧ lv_has ls 8 [(7, .int (iI i0__2)), (5, .long (lI h0__1)), (0, .ref m0), (1, .long (lI s0)), (3, .int (iI f0)), (4, .int (iI n0))]) ?_ ⟨s0, 0, (by first | assumption | omega), rfl, hP, hD, hS, lv_sub hl [0, 1, 2, 3, 4, 5] rfl⟩
  intro nn_5 H locs ls ih_4 hI
  refine ea_2_6 hI (fun h0__1 i0__2 f_3 hnn_6 hP hD hS hl => ?_)
  clear hI
  refine lv_iload hx hb dX11_sums_6 (lv_at hl 0 rfl) ?_
  refine lv_iload hx hb dX11_sums_8 (lv_at hl 5 rfl) ?_
  refine lv_icmp_ge (tgt := 38) hx hb dX11_sums_10 (by decide) (fun c_7 => ?_) (fun c_7 => ?_)
  · have c_7 := (iI_le (a := n0) (b := i0__2) (by omega) (by omega)).mp c_7
    refine lv_lload hx hb dX11_sums_38 (lv_at hl 1 rfl) ?_
    exact g_lret (v := (lI h0__1)) hx hb hr hlocks hP hD hS (⟨h0__1, rfl, rfl⟩) dX11_sums_40
  · have c_7 : ¬ (n0 ≤ i0__2) := fun h9 => c_7 ((iI_le (a := n0) (b := i0__2) (by omega) (by omega)).mpr h9)
    refine lv_ldc2 (v := 31) hx hb hown (hts _ (List.mem_cons_of_mem _ (in_r44 (List.mem_of_getElem? (i := 2) rfl)))) dX11_sums_13 ?_
    refine g_topl (y := lI 31) (by decide) ?_
    refine lv_lload hx hb dX11_sums_16 (lv_at hl 1 rfl) ?_
    refine lv_lmul hx hb dX11_sums_18 ?_
    refine g_topol (fun z_8 hz_8 => ?_)
    refine lv_aload_n hx hb dX11_sums_19 rfl (lv_at hl 2 rfl) ?_
    refine va_get (D := G.1) (ci := 10) (v := .ref m_all) (C := RX11) (T := TX11) (N := 21) hx hb hts (fun _ h => List.mem_cons_of_mem _ (inlX11 _ h)) hown hK hP 0 rfl rfl 0 (by decide) (hts _ (List.mem_cons_of_mem _ (in_r6 (List.mem_of_getElem? (i := 0) rfl)))) (fun _ h9 => h9) rfl dX11_sums_20 ?_
    refine lv_iload_n hx hb dX11_sums_23 rfl (lv_at hl 4 rfl) ?_
    refine lv_iload hx hb dX11_sums_24 (lv_at hl 0 rfl) ?_
    refine lv_iadd hx hb dX11_sums_26 ?_
    refine g_topi (y := iI (f0 + i0__2)) (iI_add f0 i0__2) ?_
    refine g_ild hx hb hK hP 1 rfl (by omega) (by omega) (by first | exact Nat.le_of_ble_eq_true rfl | omega) dX11_sums_27 (fun w_9 ew_9 => ?_)
    have bw_9 : 0 ≤ w_9 ∧ w_9 ≤ K0 := by rw [← ew_9]; exact ⟨(y0_ _).1, Int.le_trans (y0_ _).2 (plA_le (by omega) _)⟩
    refine lv_i2l hx hb dX11_sums_28 rfl ?_
    refine g_topol (fun z_10 hz_10 => ?_)
    refine lv_ladd hx hb dX11_sums_29 ?_
    refine g_topol (fun z_11 hz_11 => ?_)
    refine lv_lstore (lv' := [(5, .long (lI z_11)), (7, .int (iI i0__2)), (0, .ref m0), (1, .long (lI s0)), (3, .int (iI f0)), (4, .int (iI n0))]) hx hb dX11_sums_30 hl (by decide) rfl (fun ls hl => ?_)
    refine lv_iinc (v := iI (i0__2 + 1)) (lv' := [(7, .int (iI (i0__2 + 1))), (5, .long (lI z_11)), (0, .ref m0), (1, .long (lI s0)), (3, .int (iI f0)), (4, .int (iI n0))]) hx hb dX11_sums_32 hl (k := 1) rfl (iI_add i0__2 1) (by decide) rfl (fun ls hl => ?_)
    refine lv_goto (tgt := 6) hx hb dX11_sums_35 (by decide) ?_
    exact ih_4 _ _ _ _ (by omega) ⟨z_11, (i0__2 + 1), (by first | assumption | omega), rfl, hP, hD, hS, lv_sub hl [0, 1, 2, 3, 4, 5] rfl⟩
theorem dX11_digest_0 : decode cX11_digest 0 = .ok (.ldc2_w 308, 3) := kd_20 (a := 1) (b := 52) (by decide +kernel)
theorem dX11_digest_3 : decode cX11_digest 3 = .ok (.lstore_n 1, 1) := kd_64 (by decide +kernel)
theorem dX11_digest_4 : decode cX11_digest 4 = .ok (.iconst 0, 1) := kd_3 (by decide +kernel)
theorem dX11_digest_5 : decode cX11_digest 5 = .ok (.istore_n 3, 1) := kd_62 (by decide +kernel)
theorem dX11_digest_6 : decode cX11_digest 6 = .ok (.iload_n 3, 1) := kd_29 (by decide +kernel)
theorem dX11_digest_7 : decode cX11_digest 7 = .ok (.bipush 12, 2) := kd_16 (a := 12) (by decide +kernel)
theorem dX11_digest_9 : decode cX11_digest 9 = .ok (.if_icmp .ge 22, 3) := kd_162 (a := 0) (b := 22) (by decide +kernel)
theorem dX11_digest_31 : decode cX11_digest 31 = .ok (.aload_n 0, 1) := kd_42 (by decide +kernel)
theorem dX11_digest_32 : decode cX11_digest 32 = .ok (.lload_n 1, 1) := kd_31 (by decide +kernel)
theorem dX11_digest_33 : decode cX11_digest 33 = .ok (.bipush 28, 2) := kd_16 (a := 28) (by decide +kernel)
theorem dX11_digest_35 : decode cX11_digest 35 = .ok (.bipush 6, 2) := kd_16 (a := 6) (by decide +kernel)
theorem gX11_digest_X11_sums : GoodIn wsX11_digest (wsV RX11 310 RX11 yX11_sums wsX11_sums) := gW_V (in_r44 (List.mem_of_getElem? (i := 3) rfl)) (in_r44 (List.mem_of_getElem? (i := 4) rfl)) (in_r44 (List.mem_of_getElem? (i := 5) rfl)) (in_r1 (List.mem_of_getElem? (i := 5) rfl)) (in_r44 (List.mem_of_getElem? (i := 6) rfl))
theorem dX11_digest_37 : decode cX11_digest 37 = .ok (.invokevirtual 310, 3) := kd_182 (a := 1) (b := 54) (by decide +kernel)
theorem dX11_digest_40 : decode cX11_digest 40 = .ok (.lstore_n 1, 1) := kd_64 (by decide +kernel)
theorem dX11_digest_41 : decode cX11_digest 41 = .ok (.iconst 0, 1) := kd_3 (by decide +kernel)
theorem dX11_digest_42 : decode cX11_digest 42 = .ok (.istore_n 3, 1) := kd_62 (by decide +kernel)
theorem dX11_digest_43 : decode cX11_digest 43 = .ok (.iload_n 3, 1) := kd_29 (by decide +kernel)
theorem dX11_digest_44 : decode cX11_digest 44 = .ok (.aload_n 0, 1) := kd_42 (by decide +kernel)
theorem gX11_digest_X11_many : GoodIn wsX11_digest (wsV RX11 61 RX11 yX11_many wsX11_many) := gW_V (in_r7 (List.mem_of_getElem? (i := 12) rfl)) (in_r7 (List.mem_of_getElem? (i := 13) rfl)) (in_r7 (List.mem_of_getElem? (i := 14) rfl)) (in_r1 (List.mem_of_getElem? (i := 5) rfl)) (in_r7 (List.mem_of_getElem? (i := 15) rfl))
theorem dX11_digest_45 : decode cX11_digest 45 = .ok (.invokevirtual 61, 3) := kd_182 (a := 0) (b := 61) (by decide +kernel)
theorem dX11_digest_48 : decode cX11_digest 48 = .ok (.if_icmp .ge 39, 3) := kd_162 (a := 0) (b := 39) (by decide +kernel)
theorem dX11_digest_87 : decode cX11_digest 87 = .ok (.iconst 0, 1) := kd_3 (by decide +kernel)
theorem dX11_digest_88 : decode cX11_digest 88 = .ok (.istore_n 3, 1) := kd_62 (by decide +kernel)
theorem dX11_digest_89 : decode cX11_digest 89 = .ok (.iload_n 3, 1) := kd_29 (by decide +kernel)
theorem dX11_digest_90 : decode cX11_digest 90 = .ok (.aload_n 0, 1) := kd_42 (by decide +kernel)
theorem dX11_digest_91 : decode cX11_digest 91 = .ok (.getfield 7, 3) := kd_180 (a := 0) (b := 7) (by decide +kernel)
theorem dX11_digest_94 : decode cX11_digest 94 = .ok (.iconst 1, 1) := kd_4 (by decide +kernel)
theorem dX11_digest_95 : decode cX11_digest 95 = .ok (.iaload, 1) := kd_46 (by decide +kernel)
theorem dX11_digest_96 : decode cX11_digest 96 = .ok (.if_icmp .ge 41, 3) := kd_162 (a := 0) (b := 41) (by decide +kernel)
theorem dX11_digest_137 : decode cX11_digest 137 = .ok (.aload_n 0, 1) := kd_42 (by decide +kernel)
theorem dX11_digest_138 : decode cX11_digest 138 = .ok (.lload_n 1, 1) := kd_31 (by decide +kernel)
theorem dX11_digest_139 : decode cX11_digest 139 = .ok (.bipush 56, 2) := kd_16 (a := 56) (by decide +kernel)
theorem dX11_digest_141 : decode cX11_digest 141 = .ok (.iconst 5, 1) := kd_8 (by decide +kernel)
theorem dX11_digest_142 : decode cX11_digest 142 = .ok (.aload_n 0, 1) := kd_42 (by decide +kernel)
theorem dX11_digest_143 : decode cX11_digest 143 = .ok (.getfield 7, 3) := kd_180 (a := 0) (b := 7) (by decide +kernel)
theorem dX11_digest_146 : decode cX11_digest 146 = .ok (.iconst 2, 1) := kd_5 (by decide +kernel)
theorem dX11_digest_147 : decode cX11_digest 147 = .ok (.iaload, 1) := kd_46 (by decide +kernel)
theorem dX11_digest_148 : decode cX11_digest 148 = .ok (.imul, 1) := kd_104 (by decide +kernel)
theorem dX11_digest_149 : decode cX11_digest 149 = .ok (.invokevirtual 310, 3) := kd_182 (a := 1) (b := 54) (by decide +kernel)
theorem dX11_digest_152 : decode cX11_digest 152 = .ok (.lstore_n 1, 1) := kd_64 (by decide +kernel)
theorem dX11_digest_153 : decode cX11_digest 153 = .ok (.aload_n 0, 1) := kd_42 (by decide +kernel)
theorem dX11_digest_154 : decode cX11_digest 154 = .ok (.lload_n 1, 1) := kd_31 (by decide +kernel)
theorem dX11_digest_155 : decode cX11_digest 155 = .ok (.bipush 81, 2) := kd_16 (a := 81) (by decide +kernel)
theorem dX11_digest_157 : decode cX11_digest 157 = .ok (.iconst 5, 1) := kd_8 (by decide +kernel)
theorem dX11_digest_158 : decode cX11_digest 158 = .ok (.aload_n 0, 1) := kd_42 (by decide +kernel)
theorem dX11_digest_159 : decode cX11_digest 159 = .ok (.getfield 7, 3) := kd_180 (a := 0) (b := 7) (by decide +kernel)
theorem dX11_digest_162 : decode cX11_digest 162 = .ok (.iconst 3, 1) := kd_6 (by decide +kernel)
theorem dX11_digest_163 : decode cX11_digest 163 = .ok (.iaload, 1) := kd_46 (by decide +kernel)
theorem dX11_digest_164 : decode cX11_digest 164 = .ok (.imul, 1) := kd_104 (by decide +kernel)
theorem dX11_digest_165 : decode cX11_digest 165 = .ok (.invokevirtual 310, 3) := kd_182 (a := 1) (b := 54) (by decide +kernel)
theorem dX11_digest_168 : decode cX11_digest 168 = .ok (.lstore_n 1, 1) := kd_64 (by decide +kernel)
theorem dX11_digest_169 : decode cX11_digest 169 = .ok (.aload_n 0, 1) := kd_42 (by decide +kernel)
theorem dX11_digest_170 : decode cX11_digest 170 = .ok (.lload_n 1, 1) := kd_31 (by decide +kernel)
theorem dX11_digest_171 : decode cX11_digest 171 = .ok (.bipush 111, 2) := kd_16 (a := 111) (by decide +kernel)
theorem dX11_digest_173 : decode cX11_digest 173 = .ok (.iconst 4, 1) := kd_7 (by decide +kernel)
theorem dX11_digest_174 : decode cX11_digest 174 = .ok (.aload_n 0, 1) := kd_42 (by decide +kernel)
theorem dX11_digest_175 : decode cX11_digest 175 = .ok (.getfield 7, 3) := kd_180 (a := 0) (b := 7) (by decide +kernel)
theorem dX11_digest_178 : decode cX11_digest 178 = .ok (.iconst 4, 1) := kd_7 (by decide +kernel)
theorem dX11_digest_179 : decode cX11_digest 179 = .ok (.iaload, 1) := kd_46 (by decide +kernel)
theorem dX11_digest_180 : decode cX11_digest 180 = .ok (.imul, 1) := kd_104 (by decide +kernel)
theorem dX11_digest_181 : decode cX11_digest 181 = .ok (.invokevirtual 310, 3) := kd_182 (a := 1) (b := 54) (by decide +kernel)
theorem dX11_digest_184 : decode cX11_digest 184 = .ok (.lstore_n 1, 1) := kd_64 (by decide +kernel)
theorem dX11_digest_185 : decode cX11_digest 185 = .ok (.ldc2_w 306, 3) := kd_20 (a := 1) (b := 50) (by decide +kernel)
theorem dX11_digest_188 : decode cX11_digest 188 = .ok (.ldc2_w 306, 3) := kd_20 (a := 1) (b := 50) (by decide +kernel)
theorem dX11_digest_191 : decode cX11_digest 191 = .ok (.lload_n 1, 1) := kd_31 (by decide +kernel)
theorem dX11_digest_192 : decode cX11_digest 192 = .ok (.lmul, 1) := kd_105 (by decide +kernel)
theorem dX11_digest_193 : decode cX11_digest 193 = .ok (.aload_n 0, 1) := kd_42 (by decide +kernel)
theorem dX11_digest_194 : decode cX11_digest 194 = .ok (.getfield 207, 3) := kd_180 (a := 0) (b := 207) (by decide +kernel)
theorem dX11_digest_197 : decode cX11_digest 197 = .ok (.ladd, 1) := kd_97 (by decide +kernel)
theorem dX11_digest_198 : decode cX11_digest 198 = .ok (.lmul, 1) := kd_105 (by decide +kernel)
theorem dX11_digest_199 : decode cX11_digest 199 = .ok (.aload_n 0, 1) := kd_42 (by decide +kernel)
theorem dX11_digest_200 : decode cX11_digest 200 = .ok (.getfield 23, 3) := kd_180 (a := 0) (b := 23) (by decide +kernel)
theorem dX11_digest_203 : decode cX11_digest 203 = .ok (.ladd, 1) := kd_97 (by decide +kernel)
theorem dX11_digest_204 : decode cX11_digest 204 = .ok (.lreturn, 1) := kd_173 (by decide +kernel)
theorem dX11_digest_99 : decode cX11_digest 99 = .ok (.ldc2_w 306, 3) := kd_20 (a := 1) (b := 50) (by decide +kernel)
theorem dX11_digest_102 : decode cX11_digest 102 = .ok (.ldc2_w 306, 3) := kd_20 (a := 1) (b := 50) (by decide +kernel)
theorem dX11_digest_105 : decode cX11_digest 105 = .ok (.lload_n 1, 1) := kd_31 (by decide +kernel)
theorem dX11_digest_106 : decode cX11_digest 106 = .ok (.lmul, 1) := kd_105 (by decide +kernel)
theorem dX11_digest_107 : decode cX11_digest 107 = .ok (.aload_n 0, 1) := kd_42 (by decide +kernel)
theorem dX11_digest_108 : decode cX11_digest 108 = .ok (.getfield 7, 3) := kd_180 (a := 0) (b := 7) (by decide +kernel)
theorem dX11_digest_111 : decode cX11_digest 111 = .ok (.bipush 48, 2) := kd_16 (a := 48) (by decide +kernel)
theorem dX11_digest_113 : decode cX11_digest 113 = .ok (.iload_n 3, 1) := kd_29 (by decide +kernel)
theorem dX11_digest_114 : decode cX11_digest 114 = .ok (.iadd, 1) := kd_96 (by decide +kernel)
theorem dX11_digest_115 : decode cX11_digest 115 = .ok (.iaload, 1) := kd_46 (by decide +kernel)
theorem dX11_digest_116 : decode cX11_digest 116 = .ok (.i2l, 1) := kd_133 (by decide +kernel)
theorem dX11_digest_117 : decode cX11_digest 117 = .ok (.ladd, 1) := kd_97 (by decide +kernel)
theorem dX11_digest_118 : decode cX11_digest 118 = .ok (.lmul, 1) := kd_105 (by decide +kernel)
theorem dX11_digest_119 : decode cX11_digest 119 = .ok (.aload_n 0, 1) := kd_42 (by decide +kernel)
theorem dX11_digest_120 : decode cX11_digest 120 = .ok (.getfield 7, 3) := kd_180 (a := 0) (b := 7) (by decide +kernel)
theorem dX11_digest_123 : decode cX11_digest 123 = .ok (.bipush 52, 2) := kd_16 (a := 52) (by decide +kernel)
theorem dX11_digest_125 : decode cX11_digest 125 = .ok (.iload_n 3, 1) := kd_29 (by decide +kernel)
theorem dX11_digest_126 : decode cX11_digest 126 = .ok (.iadd, 1) := kd_96 (by decide +kernel)
theorem dX11_digest_127 : decode cX11_digest 127 = .ok (.iaload, 1) := kd_46 (by decide +kernel)
theorem dX11_digest_128 : decode cX11_digest 128 = .ok (.i2l, 1) := kd_133 (by decide +kernel)
theorem dX11_digest_129 : decode cX11_digest 129 = .ok (.ladd, 1) := kd_97 (by decide +kernel)
theorem dX11_digest_130 : decode cX11_digest 130 = .ok (.lstore_n 1, 1) := kd_64 (by decide +kernel)
theorem dX11_digest_131 : decode cX11_digest 131 = .ok (.iinc 3 1, 3) := kd_132 (a := 3) (b := 1) (by decide +kernel)
theorem dX11_digest_134 : decode cX11_digest 134 = .ok (.goto (-45), 3) := kd_167 (a := 255) (b := 211) (by decide +kernel)
theorem dX11_digest_51 : decode cX11_digest 51 = .ok (.iconst 0, 1) := kd_3 (by decide +kernel)
theorem dX11_digest_52 : decode cX11_digest 52 = .ok (.istore 4, 2) := kd_54 (a := 4) (by decide +kernel)
theorem dX11_digest_54 : decode cX11_digest 54 = .ok (.iload 4, 2) := kd_21 (a := 4) (by decide +kernel)
theorem dX11_digest_56 : decode cX11_digest 56 = .ok (.iconst 5, 1) := kd_8 (by decide +kernel)
theorem dX11_digest_57 : decode cX11_digest 57 = .ok (.if_icmp .ge 24, 3) := kd_162 (a := 0) (b := 24) (by decide +kernel)
theorem dX11_digest_81 : decode cX11_digest 81 = .ok (.iinc 3 1, 3) := kd_132 (a := 3) (b := 1) (by decide +kernel)
theorem dX11_digest_84 : decode cX11_digest 84 = .ok (.goto (-41), 3) := kd_167 (a := 255) (b := 215) (by decide +kernel)
theorem dX11_digest_60 : decode cX11_digest 60 = .ok (.ldc2_w 306, 3) := kd_20 (a := 1) (b := 50) (by decide +kernel)
theorem dX11_digest_63 : decode cX11_digest 63 = .ok (.lload_n 1, 1) := kd_31 (by decide +kernel)
theorem dX11_digest_64 : decode cX11_digest 64 = .ok (.lmul, 1) := kd_105 (by decide +kernel)
theorem dX11_digest_65 : decode cX11_digest 65 = .ok (.aload_n 0, 1) := kd_42 (by decide +kernel)
theorem dX11_digest_66 : decode cX11_digest 66 = .ok (.iload_n 3, 1) := kd_29 (by decide +kernel)
theorem dX11_digest_67 : decode cX11_digest 67 = .ok (.iload 4, 2) := kd_21 (a := 4) (by decide +kernel)
theorem gX11_digest_X11_toldOf : GoodIn wsX11_digest (wsV RX11 158 RX11 yX11_toldOf wsX11_toldOf) := gW_V (in_r27 (List.mem_of_getElem? (i := 4) rfl)) (in_r27 (List.mem_of_getElem? (i := 5) rfl)) (in_r27 (List.mem_of_getElem? (i := 6) rfl)) (in_r1 (List.mem_of_getElem? (i := 5) rfl)) (in_r27 (List.mem_of_getElem? (i := 7) rfl))
theorem dX11_digest_69 : decode cX11_digest 69 = .ok (.invokevirtual 158, 3) := kd_182 (a := 0) (b := 158) (by decide +kernel)
theorem dX11_digest_72 : decode cX11_digest 72 = .ok (.i2l, 1) := kd_133 (by decide +kernel)
theorem dX11_digest_73 : decode cX11_digest 73 = .ok (.ladd, 1) := kd_97 (by decide +kernel)
theorem dX11_digest_74 : decode cX11_digest 74 = .ok (.lstore_n 1, 1) := kd_64 (by decide +kernel)
theorem dX11_digest_75 : decode cX11_digest 75 = .ok (.iinc 4 1, 3) := kd_132 (a := 4) (b := 1) (by decide +kernel)
theorem dX11_digest_78 : decode cX11_digest 78 = .ok (.goto (-24), 3) := kd_167 (a := 255) (b := 232) (by decide +kernel)
theorem dX11_digest_12 : decode cX11_digest 12 = .ok (.ldc2_w 306, 3) := kd_20 (a := 1) (b := 50) (by decide +kernel)
theorem dX11_digest_15 : decode cX11_digest 15 = .ok (.lload_n 1, 1) := kd_31 (by decide +kernel)
theorem dX11_digest_16 : decode cX11_digest 16 = .ok (.lmul, 1) := kd_105 (by decide +kernel)
theorem dX11_digest_17 : decode cX11_digest 17 = .ok (.aload_n 0, 1) := kd_42 (by decide +kernel)
theorem dX11_digest_18 : decode cX11_digest 18 = .ok (.iload_n 3, 1) := kd_29 (by decide +kernel)
theorem gX11_digest_X11_counted : GoodIn wsX11_digest (wsV RX11 303 RX11 yX11_counted wsX11_counted) := gW_V (in_r43 (List.mem_of_getElem? (i := 1) rfl)) (in_r43 (List.mem_of_getElem? (i := 2) rfl)) (in_r43 (List.mem_of_getElem? (i := 3) rfl)) (in_r1 (List.mem_of_getElem? (i := 5) rfl)) (in_r43 (List.mem_of_getElem? (i := 4) rfl))
theorem dX11_digest_19 : decode cX11_digest 19 = .ok (.invokevirtual 303, 3) := kd_182 (a := 1) (b := 47) (by decide +kernel)
theorem dX11_digest_22 : decode cX11_digest 22 = .ok (.i2l, 1) := kd_133 (by decide +kernel)
theorem dX11_digest_23 : decode cX11_digest 23 = .ok (.ladd, 1) := kd_97 (by decide +kernel)
theorem dX11_digest_24 : decode cX11_digest 24 = .ok (.lstore_n 1, 1) := kd_64 (by decide +kernel)
theorem dX11_digest_25 : decode cX11_digest 25 = .ok (.iinc 3 1, 3) := kd_132 (a := 3) (b := 1) (by decide +kernel)
theorem dX11_digest_28 : decode cX11_digest 28 = .ok (.goto (-22), 3) := kd_167 (a := 255) (b := 234) (by decide +kernel)
set_option maxHeartbeats 8000000 in
set_option maxRecDepth 100000 in
theorem c_X11_digest (l : Launch) (G : gG) (m0 : Nat) (m_all : Nat) (m_kept : Nat) (m_isKept : Nat) (m_refused : Nat) (m_above : Int) (m_below : Int) (m_hand : Nat) (m_fewest : Nat) (m_whoBites : Nat) (m_leaves : Nat) (m_bestFeast : Nat) (m_tells : Nat) (m_hardOn : Nat) (m_bytes : Nat) (m_bytesLong : Int) (m_tokenAt : Int) (m_tokenLong : Int) (m_token : Int) (m_value : Int) (m_anew : Nat) (m_values : Nat) (mF : Nat → Int) (K0 : Int) (y0_ : bp (plA K0) mF) (hK0 : 1000 ≤ K0 ∧ K0 ≤ 2000000) (sz : Nat) : gL G l yX11_digest wsX11_digest ({ frames := 3, cells := 0, slots := 0, locals := 70 } : Room) [.ref m0] [(m0, .inr (10, [.ref m_all, .ref m_kept, .ref m_isKept, .ref m_refused, .long (lI m_above), .long (lI m_below), .ref m_hand, .ref m_fewest, .ref m_whoBites, .ref m_leaves, .ref m_bestFeast, .ref m_tells, .ref m_hardOn, .ref m_bytes, .int (iI m_bytesLong), .int (iI m_tokenAt), .int (iI m_tokenLong), .int (iI m_token), .int (iI m_value), .ref m_anew, .ref m_values])), (m_all, .inl (G.2 0, 311, .inl (cI mF)))] sz (fun (r : Int64) (u : va_W) => (∃ rr : Int, r = (lI rr) ∧ u = [(m0, .inr (10, [.ref m_all, .ref m_kept, .ref m_isKept, .ref m_refused, .long (lI m_above), .long (lI m_below), .ref m_hand, .ref m_fewest, .ref m_whoBites, .ref m_leaves, .ref m_bestFeast, .ref m_tells, .ref m_hardOn, .ref m_bytes, .int (iI m_bytesLong), .int (iI m_tokenAt), .int (iI m_tokenLong), .int (iI m_token), .int (iI m_value), .ref m_anew, .ref m_values])), (m_all, .inl (G.2 0, 311, .inl (cI mF)))])) := by
  refine Met.ofW (cc := cX11_digest) (maxL := 5) (ret := (some .long)) (by decide) rfl ?_
  intro p e s m args below meth c s₁ B hml hv
  obtain ⟨rfl, hsz, hP, hK, hD0, hN, hZ⟩ := hv
  have hx := B.exec
  have hb := B.bytes
  have hr := B.returns
  have hts := atoms_spec (ws := wsX11_digest) B.pre
  have hown : s.vm.findClass RX11 = some m.cls := findClass_of_methodNamed B.named
  have hlocks := B.notSynchronized
  subst hsz
  have hD := hD0.self (sz := s.heap.size)
  generalize hAe : va_A [(m0, .inr (10, [.ref m_all, .ref m_kept, .ref m_isKept, .ref m_refused, .long (lI m_above), .long (lI m_below), .ref m_hand, .ref m_fewest, .ref m_whoBites, .ref m_leaves, .ref m_bestFeast, .ref m_tells, .ref m_hardOn, .ref m_bytes, .int (iI m_bytesLong), .int (iI m_tokenAt), .int (iI m_tokenLong), .int (iI m_token), .int (iI m_value), .ref m_anew, .ref m_values])), (m_all, .inl (G.2 0, 311, .inl (cI mF)))] s.heap.size = A at hD hZ ⊢
  have hA : ∀ q : Nat, s.heap.size ≤ q → A q := fun q h => by rw [← hAe]; exact Or.inr h
  have hS : va_S A s.heap s.heap [] := va_S.rf
  have hP : va_P G.1 vwCl [(m0, .inr (10, [.ref m_all, .ref m_kept, .ref m_isKept, .ref m_refused, .long (lI m_above), .long (lI m_below), .ref m_hand, .ref m_fewest, .ref m_whoBites, .ref m_leaves, .ref m_bestFeast, .ref m_tells, .ref m_hardOn, .ref m_bytes, .int (iI m_bytesLong), .int (iI m_tokenAt), .int (iI m_tokenLong), .int (iI m_token), .int (iI m_value), .ref m_anew, .ref m_values])), (m_all, .inl (G.2 0, 311, .inl (cI mF)))] s.heap := hP
  have hl := lv_entry ([.ref m0]) (n := 5) (Nat.le_of_ble_eq_true rfl)
  rw [lg_entry_eq]
  generalize (lg_sl ([.ref m0]) ++ List.replicate (5 - (lg_sl ([.ref m0])).length) Slot.unset).toArray = ls at hl ⊢
  have hl : lv_has ls 5 [(0, .ref m0)] := hl
  refine lv_ldc2 (v := 1657) hx hb hown (hts _ (List.mem_cons_of_mem _ (in_r44 (List.mem_of_getElem? (i := 1) rfl)))) dX11_digest_0 ?_
  refine g_topl (y := lI 1657) (by decide) ?_
  refine lv_lstore_n (lv' := [(1, .long (lI 1657)), (0, .ref m0)]) hx hb dX11_digest_3 rfl hl (by decide) rfl (fun ls hl => ?_)
  refine lv_iconst (v := iI 0) hx hb dX11_digest_4 rfl ?_
  refine lv_istore_n (lv' := [(3, .int (iI 0)), (1, .long (lI 1657)), (0, .ref m0)]) hx hb dX11_digest_5 rfl hl (by decide) rfl (fun ls hl => ?_)
  refine g_loopN (pc := 6) (fun nn H locs ls => ∃ h0__1 : Int, ∃ i0__2 : Int, (0 ≤ i0__2 ∧ i0__2 ≤ 12) ∧ (12 - i0__2).toNat = nn ∧ va_P G.1 vwCl [(m0, .inr (10, [.ref m_all, .ref m_kept, .ref m_isKept, .ref m_refused, .long (lI m_above), .long (lI m_below), .ref m_hand, .ref m_fewest, .ref m_whoBites, .ref m_leaves, .ref m_bestFeast, .ref m_tells, .ref m_hardOn, .ref m_bytes, .int (iI m_bytesLong), .int (iI m_tokenAt), .int (iI m_tokenLong), .int (iI m_token), .int (iI m_value), .ref m_anew, .ref m_values])), (m_all, .inl (G.2 0, 311, .inl (cI mF)))] H ∧ va_D A [(m0, .inr (10, [.ref m_all, .ref m_kept, .ref m_isKept, .ref m_refused, .long (lI m_above), .long (lI m_below), .ref m_hand, .ref m_fewest, .ref m_whoBites, .ref m_leaves, .ref m_bestFeast, .ref m_tells, .ref m_hardOn, .ref m_bytes, .int (iI m_bytesLong), .int (iI m_tokenAt), .int (iI m_tokenLong), .int (iI m_token), .int (iI m_value), .ref m_anew, .ref m_values])), (m_all, .inl (G.2 0, 311, .inl (cI mF)))] ∧ va_S A s.heap H locs ∧ lv_has ls 5 [(3, .int (iI i0__2)), (1, .long (lI h0__1)), (0, .ref m0)]) ?_ ⟨1657, 0, (by first | assumption | omega), rfl, hP, hD, hS, lv_sub hl [0, 1, 2] rfl⟩
  intro nn_5 H locs ls ih_4 hI
  refine ea_2_6 hI (fun h0__1 i0__2 f_3 hnn_6 hP hD hS hl => ?_)
  clear hI
  refine lv_iload_n hx hb dX11_digest_6 rfl (lv_at hl 0 rfl) ?_
  refine lv_bipush (v := iI 12) hx hb dX11_digest_7 (by decide) ?_
  refine lv_icmp_ge (tgt := 31) hx hb dX11_digest_9 (by decide) (fun c_7 => ?_) (fun c_7 => ?_)
  · have c_7 := (iI_le (a := 12) (b := i0__2) (by first | decide | omega) (by omega)).mp c_7
    refine lv_aload_n hx hb dX11_digest_31 rfl (lv_at hl 2 rfl) ?_
    refine lv_lload_n hx hb dX11_digest_32 rfl (lv_at hl 1 rfl) ?_
    refine lv_bipush (v := iI 28) hx hb dX11_digest_33 (by decide) ?_
    refine lv_bipush (v := iI 6) hx hb dX11_digest_35 (by decide) ?_
    refine g_calll (wr := []) (va_runV (As := [.long (lI h0__1), .int (iI 28), .int (iI 6)]) (rest := []) ⟨hx, hb, hml, hown, hts⟩ (c_X11_sums l G (m0) (m_all) (m_kept) (m_isKept) (m_refused) (m_above) (m_below) (m_hand) (m_fewest) (m_whoBites) (m_leaves) (m_bestFeast) (m_tells) (m_hardOn) (m_bytes) (m_bytesLong) (m_tokenAt) (m_tokenLong) (m_token) (m_value) (m_anew) (m_values) (mF) (K0) (h0__1) (28) (6) (by first | exact y0_ | exact bpA_mono y0_ (by omega) | assumption) (by first | exact hK0 | assumption | omega) (by first | assumption | omega) _) (cwV 3 hts gX11_digest_X11_sums rfl rfl rfl (by decide +kernel) ⟨Nat.le_of_ble_eq_true rfl, Nat.le_of_ble_eq_true rfl⟩) (g_preV m0 [.long (lI h0__1), .int (iI 28), .int (iI 6)] hP hD hK hN hS hA hZ [0, 1] rfl rfl 0 (ci := 10) rfl rfl) rfl rfl hl.1 rfl (lv_room (Nat.le_of_ble_eq_true rfl)) dX11_digest_37 ⟨Nat.le_of_ble_eq_true rfl, Nat.le_of_ble_eq_true rfl⟩) hP hD hS hA [0, 1] [] rfl rfl rfl (by decide) (fun r_8 u H locs hw hP hD hS => ?_)
    obtain ⟨rr_9, rfl, rfl⟩ := hw
    have hPD : PD G A H [(m0, .inr (10, [.ref m_all, .ref m_kept, .ref m_isKept, .ref m_refused, .long (lI m_above), .long (lI m_below), .ref m_hand, .ref m_fewest, .ref m_whoBites, .ref m_leaves, .ref m_bestFeast, .ref m_tells, .ref m_hardOn, .ref m_bytes, .int (iI m_bytesLong), .int (iI m_tokenAt), .int (iI m_tokenLong), .int (iI m_token), .int (iI m_value), .ref m_anew, .ref m_values])), (m_all, .inl (G.2 0, 311, .inl (cI mF)))] := ⟨hP, hD⟩
    have hP := hPD.1
    have hD := hPD.2
    clear hPD
    refine lv_lstore_n (lv' := [(1, .long (lI rr_9)), (3, .int (iI i0__2)), (0, .ref m0)]) hx hb dX11_digest_40 rfl hl (by decide) rfl (fun ls hl => ?_)
    refine lv_iconst (v := iI 0) hx hb dX11_digest_41 rfl ?_
    refine lv_istore_n (lv' := [(3, .int (iI 0)), (1, .long (lI rr_9)), (0, .ref m0)]) hx hb dX11_digest_42 rfl hl (by decide) rfl (fun ls hl => ?_)
    refine g_loopN (pc := 43) (fun nn H locs ls => ∃ h0__10 : Int, ∃ i0__11 : Int, (0 ≤ i0__11 ∧ i0__11 ≤ 7) ∧ (7 - i0__11).toNat = nn ∧ va_P G.1 vwCl [(m0, .inr (10, [.ref m_all, .ref m_kept, .ref m_isKept, .ref m_refused, .long (lI m_above), .long (lI m_below), .ref m_hand, .ref m_fewest, .ref m_whoBites, .ref m_leaves, .ref m_bestFeast, .ref m_tells, .ref m_hardOn, .ref m_bytes, .int (iI m_bytesLong), .int (iI m_tokenAt), .int (iI m_tokenLong), .int (iI m_token), .int (iI m_value), .ref m_anew, .ref m_values])), (m_all, .inl (G.2 0, 311, .inl (cI mF)))] H ∧ va_D A [(m0, .inr (10, [.ref m_all, .ref m_kept, .ref m_isKept, .ref m_refused, .long (lI m_above), .long (lI m_below), .ref m_hand, .ref m_fewest, .ref m_whoBites, .ref m_leaves, .ref m_bestFeast, .ref m_tells, .ref m_hardOn, .ref m_bytes, .int (iI m_bytesLong), .int (iI m_tokenAt), .int (iI m_tokenLong), .int (iI m_token), .int (iI m_value), .ref m_anew, .ref m_values])), (m_all, .inl (G.2 0, 311, .inl (cI mF)))] ∧ va_S A s.heap H locs ∧ lv_has ls 5 [(3, .int (iI i0__11)), (1, .long (lI h0__10)), (0, .ref m0)]) ?_ ⟨rr_9, 0, (by first | assumption | omega), rfl, hP, hD, hS, lv_sub hl [0, 1, 2] rfl⟩
    intro nn_14 H locs ls ih_13 hI
    refine ea_2_6 hI (fun h0__10 i0__11 f_12 hnn_15 hP hD hS hl => ?_)
    clear hI
    refine lv_iload_n hx hb dX11_digest_43 rfl (lv_at hl 0 rfl) ?_
    refine lv_aload_n hx hb dX11_digest_44 rfl (lv_at hl 2 rfl) ?_
    refine g_calli (wr := []) (va_runV (As := []) (rest := [.int (iI i0__11)]) ⟨hx, hb, hml, hown, hts⟩ (c_X11_many l G (m0) (m_all) (m_kept) (m_isKept) (m_refused) (m_above) (m_below) (m_hand) (m_fewest) (m_whoBites) (m_leaves) (m_bestFeast) (m_tells) (m_hardOn) (m_bytes) (m_bytesLong) (m_tokenAt) (m_tokenLong) (m_token) (m_value) (m_anew) (m_values) (mF) (K0) (by first | exact y0_ | exact bpA_mono y0_ (by omega) | assumption) (by first | exact hK0 | assumption | omega) _) (cwV 0 hts gX11_digest_X11_many rfl rfl rfl (by decide +kernel) ⟨Nat.le_of_ble_eq_true rfl, Nat.le_of_ble_eq_true rfl⟩) (g_preV m0 [] hP hD hK hN hS hA hZ [0, 1] rfl rfl 0 (ci := 10) rfl rfl) rfl rfl hl.1 rfl (lv_room (Nat.le_of_ble_eq_true rfl)) dX11_digest_45 ⟨Nat.le_of_ble_eq_true rfl, Nat.le_of_ble_eq_true rfl⟩) hP hD hS hA [0, 1] [] rfl rfl rfl (by decide) (fun r_16 u H locs hw hP hD hS => ?_)
    refine ea_1_4 hw (fun rr_17 k_18 k_19 e8_0 e8_1 => ?_)
    subst e8_0
    subst e8_1
    clear hw
    have hPD : PD G A H [(m0, .inr (10, [.ref m_all, .ref m_kept, .ref m_isKept, .ref m_refused, .long (lI m_above), .long (lI m_below), .ref m_hand, .ref m_fewest, .ref m_whoBites, .ref m_leaves, .ref m_bestFeast, .ref m_tells, .ref m_hardOn, .ref m_bytes, .int (iI m_bytesLong), .int (iI m_tokenAt), .int (iI m_tokenLong), .int (iI m_token), .int (iI m_value), .ref m_anew, .ref m_values])), (m_all, .inl (G.2 0, 311, .inl (cI mF)))] := ⟨hP, hD⟩
    have hP := hPD.1
    have hD := hPD.2
    clear hPD
    refine lv_icmp_ge (tgt := 87) hx hb dX11_digest_48 (by decide) (fun c_20 => ?_) (fun c_20 => ?_)
    · have c_20 := (iI_le (a := rr_17) (b := i0__11) (by omega) (by omega)).mp c_20
      refine lv_iconst (v := iI 0) hx hb dX11_digest_87 rfl ?_
      refine lv_istore_n (lv' := [(3, .int (iI 0)), (1, .long (lI h0__10)), (0, .ref m0)]) hx hb dX11_digest_88 rfl hl (by decide) rfl (fun ls hl => ?_)
      refine g_loopN (pc := 89) (fun nn H locs ls => ∃ h0__21 : Int, ∃ i0__22 : Int, (0 ≤ i0__22 ∧ i0__22 ≤ 4) ∧ (4 - i0__22).toNat = nn ∧ va_P G.1 vwCl [(m0, .inr (10, [.ref m_all, .ref m_kept, .ref m_isKept, .ref m_refused, .long (lI m_above), .long (lI m_below), .ref m_hand, .ref m_fewest, .ref m_whoBites, .ref m_leaves, .ref m_bestFeast, .ref m_tells, .ref m_hardOn, .ref m_bytes, .int (iI m_bytesLong), .int (iI m_tokenAt), .int (iI m_tokenLong), .int (iI m_token), .int (iI m_value), .ref m_anew, .ref m_values])), (m_all, .inl (G.2 0, 311, .inl (cI mF)))] H ∧ va_D A [(m0, .inr (10, [.ref m_all, .ref m_kept, .ref m_isKept, .ref m_refused, .long (lI m_above), .long (lI m_below), .ref m_hand, .ref m_fewest, .ref m_whoBites, .ref m_leaves, .ref m_bestFeast, .ref m_tells, .ref m_hardOn, .ref m_bytes, .int (iI m_bytesLong), .int (iI m_tokenAt), .int (iI m_tokenLong), .int (iI m_token), .int (iI m_value), .ref m_anew, .ref m_values])), (m_all, .inl (G.2 0, 311, .inl (cI mF)))] ∧ va_S A s.heap H locs ∧ lv_has ls 5 [(3, .int (iI i0__22)), (1, .long (lI h0__21)), (0, .ref m0)]) ?_ ⟨h0__10, 0, (by first | assumption | omega), rfl, hP, hD, hS, lv_sub hl [0, 1, 2] rfl⟩
      intro nn_25 H locs ls ih_24 hI
      refine ea_2_6 hI (fun h0__21 i0__22 f_23 hnn_26 hP hD hS hl => ?_)
      clear hI
      refine lv_iload_n hx hb dX11_digest_89 rfl (lv_at hl 0 rfl) ?_
      refine lv_aload_n hx hb dX11_digest_90 rfl (lv_at hl 2 rfl) ?_
      refine va_get (D := G.1) (ci := 10) (v := .ref m_all) (C := RX11) (T := TX11) (N := 21) hx hb hts (fun _ h => List.mem_cons_of_mem _ (inlX11 _ h)) hown hK hP 0 rfl rfl 0 (by decide) (hts _ (List.mem_cons_of_mem _ (in_r6 (List.mem_of_getElem? (i := 0) rfl)))) (fun _ h9 => h9) rfl dX11_digest_91 ?_
      refine lv_iconst (v := iI 1) hx hb dX11_digest_94 rfl ?_
      refine g_ild hx hb hK hP 1 rfl (by omega) (by omega) (by first | exact Nat.le_of_ble_eq_true rfl | omega) dX11_digest_95 (fun w_27 ew_27 => ?_)
      have ew_27 : mF 1 = w_27 := ew_27
      have bw_27 : 0 ≤ w_27 ∧ w_27 ≤ 4 := by rw [← ew_27]; exact y0_ 1
      refine lv_icmp_ge (tgt := 137) hx hb dX11_digest_96 (by decide) (fun c_28 => ?_) (fun c_28 => ?_)
      · have c_28 := (iI_le (a := w_27) (b := i0__22) (by omega) (by omega)).mp c_28
        refine lv_aload_n hx hb dX11_digest_137 rfl (lv_at hl 2 rfl) ?_
        refine lv_lload_n hx hb dX11_digest_138 rfl (lv_at hl 1 rfl) ?_
        refine lv_bipush (v := iI 56) hx hb dX11_digest_139 (by decide) ?_
        refine lv_iconst (v := iI 5) hx hb dX11_digest_141 rfl ?_
        refine lv_aload_n hx hb dX11_digest_142 rfl (lv_at hl 2 rfl) ?_
        refine va_get (D := G.1) (ci := 10) (v := .ref m_all) (C := RX11) (T := TX11) (N := 21) hx hb hts (fun _ h => List.mem_cons_of_mem _ (inlX11 _ h)) hown hK hP 0 rfl rfl 0 (by decide) (hts _ (List.mem_cons_of_mem _ (in_r6 (List.mem_of_getElem? (i := 0) rfl)))) (fun _ h9 => h9) rfl dX11_digest_143 ?_
        refine lv_iconst (v := iI 2) hx hb dX11_digest_146 rfl ?_
        refine g_ild hx hb hK hP 1 rfl (by omega) (by omega) (by first | exact Nat.le_of_ble_eq_true rfl | omega) dX11_digest_147 (fun w_29 ew_29 => ?_)
        have ew_29 : mF 2 = w_29 := ew_29
        have bw_29 : 0 ≤ w_29 ∧ w_29 ≤ 5 := by rw [← ew_29]; exact y0_ 2
        refine lv_imul hx hb dX11_digest_148 ?_
        refine g_topi (y := iI (5 * w_29)) (iI_mul 5 w_29) ?_
        refine g_calll (wr := []) (va_runV (As := [.long (lI h0__21), .int (iI 56), .int (iI (5 * w_29))]) (rest := []) ⟨hx, hb, hml, hown, hts⟩ (c_X11_sums l G (m0) (m_all) (m_kept) (m_isKept) (m_refused) (m_above) (m_below) (m_hand) (m_fewest) (m_whoBites) (m_leaves) (m_bestFeast) (m_tells) (m_hardOn) (m_bytes) (m_bytesLong) (m_tokenAt) (m_tokenLong) (m_token) (m_value) (m_anew) (m_values) (mF) (K0) (h0__21) (56) ((5 * w_29)) (by first | exact y0_ | exact bpA_mono y0_ (by omega) | assumption) (by first | exact hK0 | assumption | omega) (by first | assumption | omega) _) (cwV 3 hts gX11_digest_X11_sums rfl rfl rfl (by decide +kernel) ⟨Nat.le_of_ble_eq_true rfl, Nat.le_of_ble_eq_true rfl⟩) (g_preV m0 [.long (lI h0__21), .int (iI 56), .int (iI (5 * w_29))] hP hD hK hN hS hA hZ [0, 1] rfl rfl 0 (ci := 10) rfl rfl) rfl rfl hl.1 rfl (lv_room (Nat.le_of_ble_eq_true rfl)) dX11_digest_149 ⟨Nat.le_of_ble_eq_true rfl, Nat.le_of_ble_eq_true rfl⟩) hP hD hS hA [0, 1] [] rfl rfl rfl (by decide) (fun r_30 u H locs hw hP hD hS => ?_)
        obtain ⟨rr_31, rfl, rfl⟩ := hw
        have hPD : PD G A H [(m0, .inr (10, [.ref m_all, .ref m_kept, .ref m_isKept, .ref m_refused, .long (lI m_above), .long (lI m_below), .ref m_hand, .ref m_fewest, .ref m_whoBites, .ref m_leaves, .ref m_bestFeast, .ref m_tells, .ref m_hardOn, .ref m_bytes, .int (iI m_bytesLong), .int (iI m_tokenAt), .int (iI m_tokenLong), .int (iI m_token), .int (iI m_value), .ref m_anew, .ref m_values])), (m_all, .inl (G.2 0, 311, .inl (cI mF)))] := ⟨hP, hD⟩
        have hP := hPD.1
        have hD := hPD.2
        clear hPD
        refine lv_lstore_n (lv' := [(1, .long (lI rr_31)), (3, .int (iI i0__22)), (0, .ref m0)]) hx hb dX11_digest_152 rfl hl (by decide) rfl (fun ls hl => ?_)
        refine lv_aload_n hx hb dX11_digest_153 rfl (lv_at hl 2 rfl) ?_
        refine lv_lload_n hx hb dX11_digest_154 rfl (lv_at hl 0 rfl) ?_
        refine lv_bipush (v := iI 81) hx hb dX11_digest_155 (by decide) ?_
        refine lv_iconst (v := iI 5) hx hb dX11_digest_157 rfl ?_
        refine lv_aload_n hx hb dX11_digest_158 rfl (lv_at hl 2 rfl) ?_
        refine va_get (D := G.1) (ci := 10) (v := .ref m_all) (C := RX11) (T := TX11) (N := 21) hx hb hts (fun _ h => List.mem_cons_of_mem _ (inlX11 _ h)) hown hK hP 0 rfl rfl 0 (by decide) (hts _ (List.mem_cons_of_mem _ (in_r6 (List.mem_of_getElem? (i := 0) rfl)))) (fun _ h9 => h9) rfl dX11_digest_159 ?_
        refine lv_iconst (v := iI 3) hx hb dX11_digest_162 rfl ?_
        refine g_ild hx hb hK hP 1 rfl (by omega) (by omega) (by first | exact Nat.le_of_ble_eq_true rfl | omega) dX11_digest_163 (fun w_32 ew_32 => ?_)
        have ew_32 : mF 3 = w_32 := ew_32
        have bw_32 : 0 ≤ w_32 ∧ w_32 ≤ 6 := by rw [← ew_32]; exact y0_ 3
        refine lv_imul hx hb dX11_digest_164 ?_
        refine g_topi (y := iI (5 * w_32)) (iI_mul 5 w_32) ?_
        refine g_calll (wr := []) (va_runV (As := [.long (lI rr_31), .int (iI 81), .int (iI (5 * w_32))]) (rest := []) ⟨hx, hb, hml, hown, hts⟩ (c_X11_sums l G (m0) (m_all) (m_kept) (m_isKept) (m_refused) (m_above) (m_below) (m_hand) (m_fewest) (m_whoBites) (m_leaves) (m_bestFeast) (m_tells) (m_hardOn) (m_bytes) (m_bytesLong) (m_tokenAt) (m_tokenLong) (m_token) (m_value) (m_anew) (m_values) (mF) (K0) (rr_31) (81) ((5 * w_32)) (by first | exact y0_ | exact bpA_mono y0_ (by omega) | assumption) (by first | exact hK0 | assumption | omega) (by first | assumption | omega) _) (cwV 3 hts gX11_digest_X11_sums rfl rfl rfl (by decide +kernel) ⟨Nat.le_of_ble_eq_true rfl, Nat.le_of_ble_eq_true rfl⟩) (g_preV m0 [.long (lI rr_31), .int (iI 81), .int (iI (5 * w_32))] hP hD hK hN hS hA hZ [0, 1] rfl rfl 0 (ci := 10) rfl rfl) rfl rfl hl.1 rfl (lv_room (Nat.le_of_ble_eq_true rfl)) dX11_digest_165 ⟨Nat.le_of_ble_eq_true rfl, Nat.le_of_ble_eq_true rfl⟩) hP hD hS hA [0, 1] [] rfl rfl rfl (by decide) (fun r_33 u H locs hw hP hD hS => ?_)
        obtain ⟨rr_34, rfl, rfl⟩ := hw
        have hPD : PD G A H [(m0, .inr (10, [.ref m_all, .ref m_kept, .ref m_isKept, .ref m_refused, .long (lI m_above), .long (lI m_below), .ref m_hand, .ref m_fewest, .ref m_whoBites, .ref m_leaves, .ref m_bestFeast, .ref m_tells, .ref m_hardOn, .ref m_bytes, .int (iI m_bytesLong), .int (iI m_tokenAt), .int (iI m_tokenLong), .int (iI m_token), .int (iI m_value), .ref m_anew, .ref m_values])), (m_all, .inl (G.2 0, 311, .inl (cI mF)))] := ⟨hP, hD⟩
        have hP := hPD.1
        have hD := hPD.2
        clear hPD
        refine lv_lstore_n (lv' := [(1, .long (lI rr_34)), (3, .int (iI i0__22)), (0, .ref m0)]) hx hb dX11_digest_168 rfl hl (by decide) rfl (fun ls hl => ?_)
        refine lv_aload_n hx hb dX11_digest_169 rfl (lv_at hl 2 rfl) ?_
        refine lv_lload_n hx hb dX11_digest_170 rfl (lv_at hl 0 rfl) ?_
        refine lv_bipush (v := iI 111) hx hb dX11_digest_171 (by decide) ?_
        refine lv_iconst (v := iI 4) hx hb dX11_digest_173 rfl ?_
        refine lv_aload_n hx hb dX11_digest_174 rfl (lv_at hl 2 rfl) ?_
        refine va_get (D := G.1) (ci := 10) (v := .ref m_all) (C := RX11) (T := TX11) (N := 21) hx hb hts (fun _ h => List.mem_cons_of_mem _ (inlX11 _ h)) hown hK hP 0 rfl rfl 0 (by decide) (hts _ (List.mem_cons_of_mem _ (in_r6 (List.mem_of_getElem? (i := 0) rfl)))) (fun _ h9 => h9) rfl dX11_digest_175 ?_
        refine lv_iconst (v := iI 4) hx hb dX11_digest_178 rfl ?_
        refine g_ild hx hb hK hP 1 rfl (by omega) (by omega) (by first | exact Nat.le_of_ble_eq_true rfl | omega) dX11_digest_179 (fun w_35 ew_35 => ?_)
        have ew_35 : mF 4 = w_35 := ew_35
        have bw_35 : 0 ≤ w_35 ∧ w_35 ≤ 6 := by rw [← ew_35]; exact y0_ 4
        refine lv_imul hx hb dX11_digest_180 ?_
        refine g_topi (y := iI (4 * w_35)) (iI_mul 4 w_35) ?_
        refine g_calll (wr := []) (va_runV (As := [.long (lI rr_34), .int (iI 111), .int (iI (4 * w_35))]) (rest := []) ⟨hx, hb, hml, hown, hts⟩ (c_X11_sums l G (m0) (m_all) (m_kept) (m_isKept) (m_refused) (m_above) (m_below) (m_hand) (m_fewest) (m_whoBites) (m_leaves) (m_bestFeast) (m_tells) (m_hardOn) (m_bytes) (m_bytesLong) (m_tokenAt) (m_tokenLong) (m_token) (m_value) (m_anew) (m_values) (mF) (K0) (rr_34) (111) ((4 * w_35)) (by first | exact y0_ | exact bpA_mono y0_ (by omega) | assumption) (by first | exact hK0 | assumption | omega) (by first | assumption | omega) _) (cwV 3 hts gX11_digest_X11_sums rfl rfl rfl (by decide +kernel) ⟨Nat.le_of_ble_eq_true rfl, Nat.le_of_ble_eq_true rfl⟩) (g_preV m0 [.long (lI rr_34), .int (iI 111), .int (iI (4 * w_35))] hP hD hK hN hS hA hZ [0, 1] rfl rfl 0 (ci := 10) rfl rfl) rfl rfl hl.1 rfl (lv_room (Nat.le_of_ble_eq_true rfl)) dX11_digest_181 ⟨Nat.le_of_ble_eq_true rfl, Nat.le_of_ble_eq_true rfl⟩) hP hD hS hA [0, 1] [] rfl rfl rfl (by decide) (fun r_36 u H locs hw hP hD hS => ?_)
        obtain ⟨rr_37, rfl, rfl⟩ := hw
        have hPD : PD G A H [(m0, .inr (10, [.ref m_all, .ref m_kept, .ref m_isKept, .ref m_refused, .long (lI m_above), .long (lI m_below), .ref m_hand, .ref m_fewest, .ref m_whoBites, .ref m_leaves, .ref m_bestFeast, .ref m_tells, .ref m_hardOn, .ref m_bytes, .int (iI m_bytesLong), .int (iI m_tokenAt), .int (iI m_tokenLong), .int (iI m_token), .int (iI m_value), .ref m_anew, .ref m_values])), (m_all, .inl (G.2 0, 311, .inl (cI mF)))] := ⟨hP, hD⟩
        have hP := hPD.1
        have hD := hPD.2
        clear hPD
        refine lv_lstore_n (lv' := [(1, .long (lI rr_37)), (3, .int (iI i0__22)), (0, .ref m0)]) hx hb dX11_digest_184 rfl hl (by decide) rfl (fun ls hl => ?_)
        refine lv_ldc2 (v := 31) hx hb hown (hts _ (List.mem_cons_of_mem _ (in_r44 (List.mem_of_getElem? (i := 2) rfl)))) dX11_digest_185 ?_
        refine g_topl (y := lI 31) (by decide) ?_
        refine lv_ldc2 (v := 31) hx hb hown (hts _ (List.mem_cons_of_mem _ (in_r44 (List.mem_of_getElem? (i := 2) rfl)))) dX11_digest_188 ?_
        refine g_topl (y := lI 31) (by decide) ?_
        refine lv_lload_n hx hb dX11_digest_191 rfl (lv_at hl 0 rfl) ?_
        refine lv_lmul hx hb dX11_digest_192 ?_
        refine g_topol (fun z_38 hz_38 => ?_)
        refine lv_aload_n hx hb dX11_digest_193 rfl (lv_at hl 2 rfl) ?_
        refine va_get (D := G.1) (ci := 10) (v := .long (lI m_above)) (C := RX11) (T := TX11) (N := 21) hx hb hts (fun _ h => List.mem_cons_of_mem _ (inlX11 _ h)) hown hK hP 0 rfl rfl 4 (by decide) (hts _ (List.mem_cons_of_mem _ (in_r39 (List.mem_of_getElem? (i := 18) rfl)))) (fun _ h9 => h9) rfl dX11_digest_194 ?_
        refine lv_ladd hx hb dX11_digest_197 ?_
        refine g_topol (fun z_39 hz_39 => ?_)
        refine lv_lmul hx hb dX11_digest_198 ?_
        refine g_topol (fun z_40 hz_40 => ?_)
        refine lv_aload_n hx hb dX11_digest_199 rfl (lv_at hl 2 rfl) ?_
        refine va_get (D := G.1) (ci := 10) (v := .long (lI m_below)) (C := RX11) (T := TX11) (N := 21) hx hb hts (fun _ h => List.mem_cons_of_mem _ (inlX11 _ h)) hown hK hP 0 rfl rfl 5 (by decide) (hts _ (List.mem_cons_of_mem _ (in_r6 (List.mem_of_getElem? (i := 4) rfl)))) (fun _ h9 => h9) rfl dX11_digest_200 ?_
        refine lv_ladd hx hb dX11_digest_203 ?_
        refine g_topol (fun z_41 hz_41 => ?_)
        exact g_lret (v := (lI z_41)) hx hb hr hlocks hP hD hS (⟨z_41, rfl, rfl⟩) dX11_digest_204
      · have c_28 : ¬ (w_27 ≤ i0__22) := fun h9 => c_28 ((iI_le (a := w_27) (b := i0__22) (by omega) (by omega)).mpr h9)
        refine lv_ldc2 (v := 31) hx hb hown (hts _ (List.mem_cons_of_mem _ (in_r44 (List.mem_of_getElem? (i := 2) rfl)))) dX11_digest_99 ?_
        refine g_topl (y := lI 31) (by decide) ?_
        refine lv_ldc2 (v := 31) hx hb hown (hts _ (List.mem_cons_of_mem _ (in_r44 (List.mem_of_getElem? (i := 2) rfl)))) dX11_digest_102 ?_
        refine g_topl (y := lI 31) (by decide) ?_
        refine lv_lload_n hx hb dX11_digest_105 rfl (lv_at hl 1 rfl) ?_
        refine lv_lmul hx hb dX11_digest_106 ?_
        refine g_topol (fun z_42 hz_42 => ?_)
        refine lv_aload_n hx hb dX11_digest_107 rfl (lv_at hl 2 rfl) ?_
        refine va_get (D := G.1) (ci := 10) (v := .ref m_all) (C := RX11) (T := TX11) (N := 21) hx hb hts (fun _ h => List.mem_cons_of_mem _ (inlX11 _ h)) hown hK hP 0 rfl rfl 0 (by decide) (hts _ (List.mem_cons_of_mem _ (in_r6 (List.mem_of_getElem? (i := 0) rfl)))) (fun _ h9 => h9) rfl dX11_digest_108 ?_
        refine lv_bipush (v := iI 48) hx hb dX11_digest_111 (by decide) ?_
        refine lv_iload_n hx hb dX11_digest_113 rfl (lv_at hl 0 rfl) ?_
        refine lv_iadd hx hb dX11_digest_114 ?_
        refine g_topi (y := iI (48 + i0__22)) (iI_add 48 i0__22) ?_
        refine g_ild hx hb hK hP 1 rfl (by omega) (by omega) (by first | exact Nat.le_of_ble_eq_true rfl | omega) dX11_digest_115 (fun w_43 ew_43 => ?_)
        have bw_43 : 0 ≤ w_43 ∧ w_43 ≤ K0 := by rw [← ew_43]; exact ⟨(y0_ _).1, Int.le_trans (y0_ _).2 (plA_le (by omega) _)⟩
        refine lv_i2l hx hb dX11_digest_116 rfl ?_
        refine g_topol (fun z_44 hz_44 => ?_)
        refine lv_ladd hx hb dX11_digest_117 ?_
        refine g_topol (fun z_45 hz_45 => ?_)
        refine lv_lmul hx hb dX11_digest_118 ?_
        refine g_topol (fun z_46 hz_46 => ?_)
        refine lv_aload_n hx hb dX11_digest_119 rfl (lv_at hl 2 rfl) ?_
        refine va_get (D := G.1) (ci := 10) (v := .ref m_all) (C := RX11) (T := TX11) (N := 21) hx hb hts (fun _ h => List.mem_cons_of_mem _ (inlX11 _ h)) hown hK hP 0 rfl rfl 0 (by decide) (hts _ (List.mem_cons_of_mem _ (in_r6 (List.mem_of_getElem? (i := 0) rfl)))) (fun _ h9 => h9) rfl dX11_digest_120 ?_
        refine lv_bipush (v := iI 52) hx hb dX11_digest_123 (by decide) ?_
        refine lv_iload_n hx hb dX11_digest_125 rfl (lv_at hl 0 rfl) ?_
        refine lv_iadd hx hb dX11_digest_126 ?_
        refine g_topi (y := iI (52 + i0__22)) (iI_add 52 i0__22) ?_
        refine g_ild hx hb hK hP 1 rfl (by omega) (by omega) (by first | exact Nat.le_of_ble_eq_true rfl | omega) dX11_digest_127 (fun w_47 ew_47 => ?_)
        have bw_47 : 0 ≤ w_47 ∧ w_47 ≤ K0 := by rw [← ew_47]; exact ⟨(y0_ _).1, Int.le_trans (y0_ _).2 (plA_le (by omega) _)⟩
        refine lv_i2l hx hb dX11_digest_128 rfl ?_
        refine g_topol (fun z_48 hz_48 => ?_)
        refine lv_ladd hx hb dX11_digest_129 ?_
        refine g_topol (fun z_49 hz_49 => ?_)
        refine lv_lstore_n (lv' := [(1, .long (lI z_49)), (3, .int (iI i0__22)), (0, .ref m0)]) hx hb dX11_digest_130 rfl hl (by decide) rfl (fun ls hl => ?_)
        refine lv_iinc (v := iI (i0__22 + 1)) (lv' := [(3, .int (iI (i0__22 + 1))), (1, .long (lI z_49)), (0, .ref m0)]) hx hb dX11_digest_131 hl (k := 1) rfl (iI_add i0__22 1) (by decide) rfl (fun ls hl => ?_)
        refine lv_goto (tgt := 89) hx hb dX11_digest_134 (by decide) ?_
        exact ih_24 _ _ _ _ (by omega) ⟨z_49, (i0__22 + 1), (by first | assumption | omega), rfl, hP, hD, hS, lv_sub hl [0, 1, 2] rfl⟩
    · have c_20 : ¬ (rr_17 ≤ i0__11) := fun h9 => c_20 ((iI_le (a := rr_17) (b := i0__11) (by omega) (by omega)).mpr h9)
      refine lv_iconst (v := iI 0) hx hb dX11_digest_51 rfl ?_
      refine lv_istore (lv' := [(4, .int (iI 0)), (3, .int (iI i0__11)), (1, .long (lI h0__10)), (0, .ref m0)]) hx hb dX11_digest_52 hl (by decide) rfl (fun ls hl => ?_)
      refine g_loopN (pc := 54) (fun nn H locs ls => ∃ h0__50 : Int, ∃ j0__51 : Int, (0 ≤ j0__51 ∧ j0__51 ≤ 5) ∧ (5 - j0__51).toNat = nn ∧ va_P G.1 vwCl [(m0, .inr (10, [.ref m_all, .ref m_kept, .ref m_isKept, .ref m_refused, .long (lI m_above), .long (lI m_below), .ref m_hand, .ref m_fewest, .ref m_whoBites, .ref m_leaves, .ref m_bestFeast, .ref m_tells, .ref m_hardOn, .ref m_bytes, .int (iI m_bytesLong), .int (iI m_tokenAt), .int (iI m_tokenLong), .int (iI m_token), .int (iI m_value), .ref m_anew, .ref m_values])), (m_all, .inl (G.2 0, 311, .inl (cI mF)))] H ∧ va_D A [(m0, .inr (10, [.ref m_all, .ref m_kept, .ref m_isKept, .ref m_refused, .long (lI m_above), .long (lI m_below), .ref m_hand, .ref m_fewest, .ref m_whoBites, .ref m_leaves, .ref m_bestFeast, .ref m_tells, .ref m_hardOn, .ref m_bytes, .int (iI m_bytesLong), .int (iI m_tokenAt), .int (iI m_tokenLong), .int (iI m_token), .int (iI m_value), .ref m_anew, .ref m_values])), (m_all, .inl (G.2 0, 311, .inl (cI mF)))] ∧ va_S A s.heap H locs ∧ lv_has ls 5 [(4, .int (iI j0__51)), (3, .int (iI i0__11)), (1, .long (lI h0__50)), (0, .ref m0)]) ?_ ⟨h0__10, 0, (by first | assumption | omega), rfl, hP, hD, hS, lv_sub hl [0, 1, 2, 3] rfl⟩
      intro nn_54 H locs ls ih_53 hI
      refine ea_2_6 hI (fun h0__50 j0__51 f_52 hnn_55 hP hD hS hl => ?_)
      clear hI
      refine lv_iload hx hb dX11_digest_54 (lv_at hl 0 rfl) ?_
      refine lv_iconst (v := iI 5) hx hb dX11_digest_56 rfl ?_
      refine lv_icmp_ge (tgt := 81) hx hb dX11_digest_57 (by decide) (fun c_56 => ?_) (fun c_56 => ?_)
      · have c_56 := (iI_le (a := 5) (b := j0__51) (by first | decide | omega) (by omega)).mp c_56
        refine lv_iinc (v := iI (i0__11 + 1)) (lv' := [(3, .int (iI (i0__11 + 1))), (4, .int (iI j0__51)), (1, .long (lI h0__50)), (0, .ref m0)]) hx hb dX11_digest_81 hl (k := 1) rfl (iI_add i0__11 1) (by decide) rfl (fun ls hl => ?_)
        refine lv_goto (tgt := 43) hx hb dX11_digest_84 (by decide) ?_
        exact ih_13 _ _ _ _ (by omega) ⟨h0__50, (i0__11 + 1), (by first | assumption | omega), rfl, hP, hD, hS, lv_sub hl [0, 2, 3] rfl⟩
      · have c_56 : ¬ (5 ≤ j0__51) := fun h9 => c_56 ((iI_le (a := 5) (b := j0__51) (by first | decide | omega) (by omega)).mpr h9)
        refine lv_ldc2 (v := 31) hx hb hown (hts _ (List.mem_cons_of_mem _ (in_r44 (List.mem_of_getElem? (i := 2) rfl)))) dX11_digest_60 ?_
        refine g_topl (y := lI 31) (by decide) ?_
        refine lv_lload_n hx hb dX11_digest_63 rfl (lv_at hl 2 rfl) ?_
        refine lv_lmul hx hb dX11_digest_64 ?_
        refine g_topol (fun z_57 hz_57 => ?_)
        refine lv_aload_n hx hb dX11_digest_65 rfl (lv_at hl 3 rfl) ?_
        refine lv_iload_n hx hb dX11_digest_66 rfl (lv_at hl 1 rfl) ?_
        refine lv_iload hx hb dX11_digest_67 (lv_at hl 0 rfl) ?_
        refine g_calli (wr := []) (va_runV (As := [.int (iI i0__11), .int (iI j0__51)]) (rest := [.long (lI z_57)]) ⟨hx, hb, hml, hown, hts⟩ (c_X11_toldOf l G (m0) (m_all) (m_kept) (m_isKept) (m_refused) (m_above) (m_below) (m_hand) (m_fewest) (m_whoBites) (m_leaves) (m_bestFeast) (m_tells) (m_hardOn) (m_bytes) (m_bytesLong) (m_tokenAt) (m_tokenLong) (m_token) (m_value) (m_anew) (m_values) (mF) (K0) (i0__11) (j0__51) (by first | exact y0_ | exact bpA_mono y0_ (by omega) | assumption) (by first | assumption | omega) (by first | assumption | omega) (by first | assumption | omega) (by first | exact hK0 | assumption | omega) _) (cwV 2 hts gX11_digest_X11_toldOf rfl rfl rfl (by decide +kernel) ⟨Nat.le_of_ble_eq_true rfl, Nat.le_of_ble_eq_true rfl⟩) (g_preV m0 [.int (iI i0__11), .int (iI j0__51)] hP hD hK hN hS hA hZ [0, 1] rfl rfl 0 (ci := 10) rfl rfl) rfl rfl hl.1 rfl (lv_room (Nat.le_of_ble_eq_true rfl)) dX11_digest_69 ⟨Nat.le_of_ble_eq_true rfl, Nat.le_of_ble_eq_true rfl⟩) hP hD hS hA [0, 1] [] rfl rfl rfl (by decide) (fun r_58 u H locs hw hP hD hS => ?_)
        obtain ⟨rr_59, rfl, rfl⟩ := hw
        have hPD : PD G A H [(m0, .inr (10, [.ref m_all, .ref m_kept, .ref m_isKept, .ref m_refused, .long (lI m_above), .long (lI m_below), .ref m_hand, .ref m_fewest, .ref m_whoBites, .ref m_leaves, .ref m_bestFeast, .ref m_tells, .ref m_hardOn, .ref m_bytes, .int (iI m_bytesLong), .int (iI m_tokenAt), .int (iI m_tokenLong), .int (iI m_token), .int (iI m_value), .ref m_anew, .ref m_values])), (m_all, .inl (G.2 0, 311, .inl (cI mF)))] := ⟨hP, hD⟩
        have hP := hPD.1
        have hD := hPD.2
        clear hPD
        refine lv_i2l hx hb dX11_digest_72 rfl ?_
        refine g_topol (fun z_60 hz_60 => ?_)
        refine lv_ladd hx hb dX11_digest_73 ?_
        refine g_topol (fun z_61 hz_61 => ?_)
        refine lv_lstore_n (lv' := [(1, .long (lI z_61)), (4, .int (iI j0__51)), (3, .int (iI i0__11)), (0, .ref m0)]) hx hb dX11_digest_74 rfl hl (by decide) rfl (fun ls hl => ?_)
        refine lv_iinc (v := iI (j0__51 + 1)) (lv' := [(4, .int (iI (j0__51 + 1))), (1, .long (lI z_61)), (3, .int (iI i0__11)), (0, .ref m0)]) hx hb dX11_digest_75 hl (k := 1) rfl (iI_add j0__51 1) (by decide) rfl (fun ls hl => ?_)
        refine lv_goto (tgt := 54) hx hb dX11_digest_78 (by decide) ?_
        exact ih_53 _ _ _ _ (by omega) ⟨z_61, (j0__51 + 1), (by first | assumption | omega), rfl, hP, hD, hS, lv_sub hl [0, 2, 1, 3] rfl⟩
  · have c_7 : ¬ (12 ≤ i0__2) := fun h9 => c_7 ((iI_le (a := 12) (b := i0__2) (by first | decide | omega) (by omega)).mpr h9)
    refine lv_ldc2 (v := 31) hx hb hown (hts _ (List.mem_cons_of_mem _ (in_r44 (List.mem_of_getElem? (i := 2) rfl)))) dX11_digest_12 ?_
    refine g_topl (y := lI 31) (by decide) ?_
    refine lv_lload_n hx hb dX11_digest_15 rfl (lv_at hl 1 rfl) ?_
    refine lv_lmul hx hb dX11_digest_16 ?_
    refine g_topol (fun z_62 hz_62 => ?_)
    refine lv_aload_n hx hb dX11_digest_17 rfl (lv_at hl 2 rfl) ?_
    refine lv_iload_n hx hb dX11_digest_18 rfl (lv_at hl 0 rfl) ?_
    refine g_calli (wr := []) (va_runV (As := [.int (iI i0__2)]) (rest := [.long (lI z_62)]) ⟨hx, hb, hml, hown, hts⟩ (c_X11_counted l G (m0) (m_all) (m_kept) (m_isKept) (m_refused) (m_above) (m_below) (m_hand) (m_fewest) (m_whoBites) (m_leaves) (m_bestFeast) (m_tells) (m_hardOn) (m_bytes) (m_bytesLong) (m_tokenAt) (m_tokenLong) (m_token) (m_value) (m_anew) (m_values) (mF) (K0) (i0__2) (by first | exact y0_ | exact bpA_mono y0_ (by omega) | assumption) (by first | assumption | omega) (by first | assumption | omega) (by first | exact hK0 | assumption | omega) _) (cwV 1 hts gX11_digest_X11_counted rfl rfl rfl (by decide +kernel) ⟨Nat.le_of_ble_eq_true rfl, Nat.le_of_ble_eq_true rfl⟩) (g_preV m0 [.int (iI i0__2)] hP hD hK hN hS hA hZ [0, 1] rfl rfl 0 (ci := 10) rfl rfl) rfl rfl hl.1 rfl (lv_room (Nat.le_of_ble_eq_true rfl)) dX11_digest_19 ⟨Nat.le_of_ble_eq_true rfl, Nat.le_of_ble_eq_true rfl⟩) hP hD hS hA [0, 1] [] rfl rfl rfl (by decide) (fun r_63 u H locs hw hP hD hS => ?_)
    obtain ⟨rr_64, rfl, rfl⟩ := hw
    have hPD : PD G A H [(m0, .inr (10, [.ref m_all, .ref m_kept, .ref m_isKept, .ref m_refused, .long (lI m_above), .long (lI m_below), .ref m_hand, .ref m_fewest, .ref m_whoBites, .ref m_leaves, .ref m_bestFeast, .ref m_tells, .ref m_hardOn, .ref m_bytes, .int (iI m_bytesLong), .int (iI m_tokenAt), .int (iI m_tokenLong), .int (iI m_token), .int (iI m_value), .ref m_anew, .ref m_values])), (m_all, .inl (G.2 0, 311, .inl (cI mF)))] := ⟨hP, hD⟩
    have hP := hPD.1
    have hD := hPD.2
    clear hPD
    refine lv_i2l hx hb dX11_digest_22 rfl ?_
    refine g_topol (fun z_65 hz_65 => ?_)
    refine lv_ladd hx hb dX11_digest_23 ?_
    refine g_topol (fun z_66 hz_66 => ?_)
    refine lv_lstore_n (lv' := [(1, .long (lI z_66)), (3, .int (iI i0__2)), (0, .ref m0)]) hx hb dX11_digest_24 rfl hl (by decide) rfl (fun ls hl => ?_)
    refine lv_iinc (v := iI (i0__2 + 1)) (lv' := [(3, .int (iI (i0__2 + 1))), (1, .long (lI z_66)), (0, .ref m0)]) hx hb dX11_digest_25 hl (k := 1) rfl (iI_add i0__2 1) (by decide) rfl (fun ls hl => ?_)
    refine lv_goto (tgt := 6) hx hb dX11_digest_28 (by decide) ?_
    exact ih_4 _ _ _ _ (by omega) ⟨z_66, (i0__2 + 1), (by first | assumption | omega), rfl, hP, hD, hS, lv_sub hl [0, 1, 2] rfl⟩
