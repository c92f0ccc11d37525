theorem dX11_read_0 : decode cX11_read 0 = .ok (.aload_n 0, 1) := kd_42 (by decide +kernel)
theorem dX11_read_1 : decode cX11_read 1 = .ok (.iconst 0, 1) := kd_3 (by decide +kernel)
theorem gX11_read_X11_lookAt : GoodIn wsX11_read (wsV RX11 262 RX11 yX11_lookAt wsX11_lookAt) := gW_V (in_r19 (List.mem_of_getElem? (i := 10) rfl)) (in_r19 (List.mem_of_getElem? (i := 11) rfl)) (in_r19 (List.mem_of_getElem? (i := 12) rfl)) (in_r1 (List.mem_of_getElem? (i := 5) rfl)) (in_r19 (List.mem_of_getElem? (i := 13) rfl))
theorem dX11_read_2 : decode cX11_read 2 = .ok (.invokevirtual 262, 3) := kd_182 (a := 1) (b := 6) (by decide +kernel)
theorem dX11_read_5 : decode cX11_read 5 = .ok (.aload_n 0, 1) := kd_42 (by decide +kernel)
theorem dX11_read_6 : decode cX11_read 6 = .ok (.bipush 6, 2) := kd_16 (a := 6) (by decide +kernel)
theorem dX11_read_8 : decode cX11_read 8 = .ok (.bipush 118, 2) := kd_16 (a := 118) (by decide +kernel)
theorem dX11_read_10 : decode cX11_read 10 = .ok (.bipush 97, 2) := kd_16 (a := 97) (by decide +kernel)
theorem dX11_read_12 : decode cX11_read 12 = .ok (.bipush 108, 2) := kd_16 (a := 108) (by decide +kernel)
theorem dX11_read_14 : decode cX11_read 14 = .ok (.bipush 108, 2) := kd_16 (a := 108) (by decide +kernel)
theorem dX11_read_16 : decode cX11_read 16 = .ok (.bipush 101, 2) := kd_16 (a := 101) (by decide +kernel)
theorem dX11_read_18 : decode cX11_read 18 = .ok (.bipush 121, 2) := kd_16 (a := 121) (by decide +kernel)
theorem gX11_read_X11_spells : GoodIn wsX11_read (wsV RX11 276 RX11 yX11_spells wsX11_spells) := gW_V (in_r20 (List.mem_of_getElem? (i := 2) rfl)) (in_r20 (List.mem_of_getElem? (i := 3) rfl)) (in_r20 (List.mem_of_getElem? (i := 4) rfl)) (in_r1 (List.mem_of_getElem? (i := 5) rfl)) (in_r20 (List.mem_of_getElem? (i := 5) rfl))
theorem dX11_read_20 : decode cX11_read 20 = .ok (.invokevirtual 276, 3) := kd_182 (a := 1) (b := 20) (by decide +kernel)
theorem dX11_read_23 : decode cX11_read 23 = .ok (.ifCond .ne 11, 3) := kd_154 (a := 0) (b := 11) (by decide +kernel)
theorem dX11_read_34 : decode cX11_read 34 = .ok (.aload_n 0, 1) := kd_42 (by decide +kernel)
theorem gX11_read_X11_goBehind : GoodIn wsX11_read (wsV RX11 265 RX11 yX11_goBehind wsX11_goBehind) := gW_V (in_r20 (List.mem_of_getElem? (i := 6) rfl)) (in_r20 (List.mem_of_getElem? (i := 7) rfl)) (in_r20 (List.mem_of_getElem? (i := 8) rfl)) (in_r1 (List.mem_of_getElem? (i := 5) rfl)) (in_r20 (List.mem_of_getElem? (i := 9) rfl))
theorem dX11_read_35 : decode cX11_read 35 = .ok (.invokevirtual 265, 3) := kd_182 (a := 1) (b := 9) (by decide +kernel)
theorem dX11_read_38 : decode cX11_read 38 = .ok (.aload_n 0, 1) := kd_42 (by decide +kernel)
theorem dX11_read_39 : decode cX11_read 39 = .ok (.getfield 250, 3) := kd_180 (a := 0) (b := 250) (by decide +kernel)
theorem dX11_read_42 : decode cX11_read 42 = .ok (.iconst 3, 1) := kd_6 (by decide +kernel)
theorem dX11_read_43 : decode cX11_read 43 = .ok (.if_icmp .eq 11, 3) := kd_159 (a := 0) (b := 11) (by decide +kernel)
theorem dX11_read_54 : decode cX11_read 54 = .ok (.aload_n 0, 1) := kd_42 (by decide +kernel)
theorem dX11_read_55 : decode cX11_read 55 = .ok (.invokevirtual 265, 3) := kd_182 (a := 1) (b := 9) (by decide +kernel)
theorem dX11_read_58 : decode cX11_read 58 = .ok (.aload_n 0, 1) := kd_42 (by decide +kernel)
theorem dX11_read_59 : decode cX11_read 59 = .ok (.getfield 51, 3) := kd_180 (a := 0) (b := 51) (by decide +kernel)
theorem gX11_read_X11_begin : GoodIn wsX11_read (va_wsS RX11 57 yX11_begin wsX11_begin) := gW_S (in_r6 (List.mem_of_getElem? (i := 15) rfl)) (in_r6 (List.mem_of_getElem? (i := 16) rfl)) (in_r1 (List.mem_of_getElem? (i := 5) rfl)) (in_r6 (List.mem_of_getElem? (i := 17) rfl))
theorem dX11_read_62 : decode cX11_read 62 = .ok (.invokestatic 57, 3) := kd_184 (a := 0) (b := 57) (by decide +kernel)
theorem dX11_read_65 : decode cX11_read 65 = .ok (.iconst 1, 1) := kd_4 (by decide +kernel)
theorem dX11_read_66 : decode cX11_read 66 = .ok (.istore_n 1, 1) := kd_60 (by decide +kernel)
theorem dX11_read_67 : decode cX11_read 67 = .ok (.aload_n 0, 1) := kd_42 (by decide +kernel)
theorem dX11_read_68 : decode cX11_read 68 = .ok (.getfield 250, 3) := kd_180 (a := 0) (b := 250) (by decide +kernel)
theorem dX11_read_71 : decode cX11_read 71 = .ok (.ifCond .eq 36, 3) := kd_153 (a := 0) (b := 36) (by decide +kernel)
theorem dX11_read_107 : decode cX11_read 107 = .ok (.iconst 0, 1) := kd_3 (by decide +kernel)
theorem dX11_read_108 : decode cX11_read 108 = .ok (.istore_n 2, 1) := kd_61 (by decide +kernel)
theorem dX11_read_109 : decode cX11_read 109 = .ok (.iload_n 2, 1) := kd_28 (by decide +kernel)
theorem dX11_read_110 : decode cX11_read 110 = .ok (.sipush 135, 3) := kd_17 (a := 0) (b := 135) (by decide +kernel)
theorem dX11_read_113 : decode cX11_read 113 = .ok (.if_icmp .ge 21, 3) := kd_162 (a := 0) (b := 21) (by decide +kernel)
theorem dX11_read_134 : decode cX11_read 134 = .ok (.iload_n 1, 1) := kd_27 (by decide +kernel)
theorem dX11_read_135 : decode cX11_read 135 = .ok (.ireturn, 1) := kd_172 (by decide +kernel)
theorem dX11_read_116 : decode cX11_read 116 = .ok (.aload_n 0, 1) := kd_42 (by decide +kernel)
theorem dX11_read_117 : decode cX11_read 117 = .ok (.getfield 7, 3) := kd_180 (a := 0) (b := 7) (by decide +kernel)
theorem dX11_read_120 : decode cX11_read 120 = .ok (.iload_n 2, 1) := kd_28 (by decide +kernel)
theorem dX11_read_121 : decode cX11_read 121 = .ok (.aload_n 0, 1) := kd_42 (by decide +kernel)
theorem dX11_read_122 : decode cX11_read 122 = .ok (.getfield 51, 3) := kd_180 (a := 0) (b := 51) (by decide +kernel)
theorem dX11_read_125 : decode cX11_read 125 = .ok (.iload_n 2, 1) := kd_28 (by decide +kernel)
theorem dX11_read_126 : decode cX11_read 126 = .ok (.iaload, 1) := kd_46 (by decide +kernel)
theorem dX11_read_127 : decode cX11_read 127 = .ok (.iastore, 1) := kd_79 (by decide +kernel)
theorem dX11_read_128 : decode cX11_read 128 = .ok (.iinc 2 1, 3) := kd_132 (a := 2) (b := 1) (by decide +kernel)
theorem dX11_read_131 : decode cX11_read 131 = .ok (.goto (-22), 3) := kd_167 (a := 255) (b := 234) (by decide +kernel)
theorem dX11_read_74 : decode cX11_read 74 = .ok (.aload_n 0, 1) := kd_42 (by decide +kernel)
theorem gX11_read_X11_givesItem : GoodIn wsX11_read (wsV RX11 298 RX11 yX11_givesItem wsX11_givesItem) := gW_V (in_r20 (List.mem_of_getElem? (i := 10) rfl)) (in_r20 (List.mem_of_getElem? (i := 11) rfl)) (in_r20 (List.mem_of_getElem? (i := 12) rfl)) (in_r1 (List.mem_of_getElem? (i := 5) rfl)) (in_r20 (List.mem_of_getElem? (i := 13) rfl))
theorem dX11_read_75 : decode cX11_read 75 = .ok (.invokevirtual 298, 3) := kd_182 (a := 1) (b := 42) (by decide +kernel)
theorem dX11_read_78 : decode cX11_read 78 = .ok (.ifCond .eq 11, 3) := kd_153 (a := 0) (b := 11) (by decide +kernel)
theorem dX11_read_81 : decode cX11_read 81 = .ok (.aload_n 0, 1) := kd_42 (by decide +kernel)
theorem dX11_read_82 : decode cX11_read 82 = .ok (.getfield 250, 3) := kd_180 (a := 0) (b := 250) (by decide +kernel)
theorem dX11_read_85 : decode cX11_read 85 = .ok (.iconst 3, 1) := kd_6 (by decide +kernel)
theorem dX11_read_86 : decode cX11_read 86 = .ok (.if_icmp .eq 11, 3) := kd_159 (a := 0) (b := 11) (by decide +kernel)
theorem dX11_read_97 : decode cX11_read 97 = .ok (.aload_n 0, 1) := kd_42 (by decide +kernel)
theorem dX11_read_98 : decode cX11_read 98 = .ok (.invokevirtual 265, 3) := kd_182 (a := 1) (b := 9) (by decide +kernel)
theorem dX11_read_101 : decode cX11_read 101 = .ok (.iinc 1 1, 3) := kd_132 (a := 1) (b := 1) (by decide +kernel)
theorem dX11_read_104 : decode cX11_read 104 = .ok (.goto (-37), 3) := kd_167 (a := 255) (b := 219) (by decide +kernel)
theorem dX11_read_89 : decode cX11_read 89 = .ok (.bipush (-10), 2) := kd_16 (a := 246) (by decide +kernel)
theorem dX11_read_91 : decode cX11_read 91 = .ok (.aload_n 0, 1) := kd_42 (by decide +kernel)
theorem dX11_read_92 : decode cX11_read 92 = .ok (.getfield 244, 3) := kd_180 (a := 0) (b := 244) (by decide +kernel)
theorem dX11_read_95 : decode cX11_read 95 = .ok (.isub, 1) := kd_100 (by decide +kernel)
theorem dX11_read_96 : decode cX11_read 96 = .ok (.ireturn, 1) := kd_172 (by decide +kernel)
theorem dX11_read_46 : decode cX11_read 46 = .ok (.bipush (-10), 2) := kd_16 (a := 246) (by decide +kernel)
theorem dX11_read_48 : decode cX11_read 48 = .ok (.aload_n 0, 1) := kd_42 (by decide +kernel)
theorem dX11_read_49 : decode cX11_read 49 = .ok (.getfield 244, 3) := kd_180 (a := 0) (b := 244) (by decide +kernel)
theorem dX11_read_52 : decode cX11_read 52 = .ok (.isub, 1) := kd_100 (by decide +kernel)
theorem dX11_read_53 : decode cX11_read 53 = .ok (.ireturn, 1) := kd_172 (by decide +kernel)
theorem dX11_read_26 : decode cX11_read 26 = .ok (.bipush (-10), 2) := kd_16 (a := 246) (by decide +kernel)
theorem dX11_read_28 : decode cX11_read 28 = .ok (.aload_n 0, 1) := kd_42 (by decide +kernel)
theorem dX11_read_29 : decode cX11_read 29 = .ok (.getfield 244, 3) := kd_180 (a := 0) (b := 244) (by decide +kernel)
theorem dX11_read_32 : decode cX11_read 32 = .ok (.isub, 1) := kd_100 (by decide +kernel)
theorem dX11_read_33 : decode cX11_read 33 = .ok (.ireturn, 1) := kd_172 (by decide +kernel)
set_option maxHeartbeats 8000000 in
set_option maxRecDepth 100000 in
theorem c_X11_read (l : Launch) (G : gG) (m0 : Nat) (m_all : Nat) (m_kept : Nat) (m_isKept : Nat) (m_refused : Nat) (m_above : Int) (m_below : Int) (m_hand : Nat) (m_fewest : Nat) (m_whoBites : Nat) (m_leaves : Nat) (m_bestFeast : Nat) (m_tells : Nat) (m_hardOn : Nat) (m_bytes : Nat) (m_bytesLong : Int) (m_tokenAt : Int) (m_tokenLong : Int) (m_token : Int) (m_value : Int) (m_anew : Nat) (m_values : Nat) (mF : Nat → Int) (K0 : Int) (my : Nat → Int) (mv : Nat → Int) (mn : Nat → Int) (uS : Nat → Int) (uA : Nat → Int) (uV : Nat → Int) (uE : Nat → Int) (n0 : Int) (y0_ : bp (plA K0) mF) (y1_ : bd 0 127 my) (y2_ : bp (plA K0) mn) (hL : 0 ≤ m_bytesLong ∧ m_bytesLong ≤ 150) (hK0 : 1000 ≤ K0 ∧ K0 ≤ 1800000) (hch : chF my m_bytesLong uS uA uV n0 uE) (sz : Nat) : gI G l yX11_read wsX11_read ({ frames := 7, cells := 0, slots := 0, locals := 153 } : Room) [.ref m0] [(m0, .inr (10, [.ref m_all, .ref m_kept, .ref m_isKept, .ref m_refused, .long (lI m_above), .long (lI m_below), .ref m_hand, .ref m_fewest, .ref m_whoBites, .ref m_leaves, .ref m_bestFeast, .ref m_tells, .ref m_hardOn, .ref m_bytes, .int (iI m_bytesLong), .int (iI m_tokenAt), .int (iI m_tokenLong), .int (iI m_token), .int (iI m_value), .ref m_anew, .ref m_values])), (m_all, .inl (G.2 0, 311, .inl (cI mF))), (m_bytes, .inl (G.2 0, 150, .inl (cI my))), (m_values, .inl (G.2 0, 3, .inl (cI mv))), (m_anew, .inl (G.2 0, 135, .inl (cI mn)))] sz (fun (r : Int32) (u : va_W) => (∃ rr : Int, ∃ NtA : Int, ∃ NtL : Int, ∃ Ntk : Int, ∃ Nva : Int, ∃ N_v : Nat → Int, ∃ N_n : Nat → Int, (rdM uS uA uV rr mF mF) ∧ (rr ≤ 0) ∧ (bp (plA (K0 + 15000)) N_n) ∧ r = (iI rr) ∧ u = [(m0, .inr (10, [.ref m_all, .ref m_kept, .ref m_isKept, .ref m_refused, .long (lI m_above), .long (lI m_below), .ref m_hand, .ref m_fewest, .ref m_whoBites, .ref m_leaves, .ref m_bestFeast, .ref m_tells, .ref m_hardOn, .ref m_bytes, .int (iI m_bytesLong), .int (iI NtA), .int (iI NtL), .int (iI Ntk), .int (iI Nva), .ref m_anew, .ref m_values])), (m_all, .inl (G.2 0, 311, .inl (cI mF))), (m_bytes, .inl (G.2 0, 150, .inl (cI my))), (m_values, .inl (G.2 0, 3, .inl (cI N_v))), (m_anew, .inl (G.2 0, 135, .inl (cI N_n)))]) ∨ (∃ rr : Int, ∃ NtA : Int, ∃ NtL : Int, ∃ Ntk : Int, ∃ Nva : Int, ∃ N_v : Nat → Int, ∃ N_n : Nat → Int, ∃ N_a : Nat → Int, (rdM uS uA uV rr mF N_a) ∧ (0 < rr) ∧ (bp (plA (K0 + 15000)) N_n) ∧ (bp (plA (K0 + 15000)) N_a) ∧ r = (iI rr) ∧ u = [(m0, .inr (10, [.ref m_all, .ref m_kept, .ref m_isKept, .ref m_refused, .long (lI m_above), .long (lI m_below), .ref m_hand, .ref m_fewest, .ref m_whoBites, .ref m_leaves, .ref m_bestFeast, .ref m_tells, .ref m_hardOn, .ref m_bytes, .int (iI m_bytesLong), .int (iI NtA), .int (iI NtL), .int (iI Ntk), .int (iI Nva), .ref m_anew, .ref m_values])), (m_all, .inl (G.2 0, 311, .inl (cI N_a))), (m_bytes, .inl (G.2 0, 150, .inl (cI my))), (m_values, .inl (G.2 0, 3, .inl (cI N_v))), (m_anew, .inl (G.2 0, 135, .inl (cI N_n)))])) := by
  refine Met.ofW (cc := cX11_read) (maxL := 3) (ret := (some .int)) (by decide) rfl ?_
  intro p e s m args below meth c s₁ B hml hv
  obtain ⟨rfl, hsz, hP, hK, hD0, hN, hZ⟩ := hv
  have hx := B.exec
  have hb := B.bytes
  have hr := B.returns
  have hts := atoms_spec (ws := wsX11_read) B.pre
  have hown : s.vm.findClass RX11 = some m.cls := findClass_of_methodNamed B.named
  have hlocks := B.notSynchronized
  subst hsz
  have hD := hD0.self (sz := s.heap.size)
  generalize hAe : va_A [(m0, .inr (10, [.ref m_all, .ref m_kept, .ref m_isKept, .ref m_refused, .long (lI m_above), .long (lI m_below), .ref m_hand, .ref m_fewest, .ref m_whoBites, .ref m_leaves, .ref m_bestFeast, .ref m_tells, .ref m_hardOn, .ref m_bytes, .int (iI m_bytesLong), .int (iI m_tokenAt), .int (iI m_tokenLong), .int (iI m_token), .int (iI m_value), .ref m_anew, .ref m_values])), (m_all, .inl (G.2 0, 311, .inl (cI mF))), (m_bytes, .inl (G.2 0, 150, .inl (cI my))), (m_values, .inl (G.2 0, 3, .inl (cI mv))), (m_anew, .inl (G.2 0, 135, .inl (cI mn)))] s.heap.size = A at hD hZ ⊢
  have hA : ∀ q : Nat, s.heap.size ≤ q → A q := fun q h => by rw [← hAe]; exact Or.inr h
  have hS : va_S A s.heap s.heap [] := va_S.rf
  have hP : va_P G.1 vwCl [(m0, .inr (10, [.ref m_all, .ref m_kept, .ref m_isKept, .ref m_refused, .long (lI m_above), .long (lI m_below), .ref m_hand, .ref m_fewest, .ref m_whoBites, .ref m_leaves, .ref m_bestFeast, .ref m_tells, .ref m_hardOn, .ref m_bytes, .int (iI m_bytesLong), .int (iI m_tokenAt), .int (iI m_tokenLong), .int (iI m_token), .int (iI m_value), .ref m_anew, .ref m_values])), (m_all, .inl (G.2 0, 311, .inl (cI mF))), (m_bytes, .inl (G.2 0, 150, .inl (cI my))), (m_values, .inl (G.2 0, 3, .inl (cI mv))), (m_anew, .inl (G.2 0, 135, .inl (cI mn)))] s.heap := hP
  have hl := lv_entry ([.ref m0]) (n := 3) (Nat.le_of_ble_eq_true rfl)
  rw [lg_entry_eq]
  generalize (lg_sl ([.ref m0]) ++ List.replicate (3 - (lg_sl ([.ref m0])).length) Slot.unset).toArray = ls at hl ⊢
  have hl : lv_has ls 3 [(0, .ref m0)] := hl
  refine lv_aload_n hx hb dX11_read_0 rfl (lv_at hl 0 rfl) ?_
  refine lv_iconst (v := iI 0) hx hb dX11_read_1 rfl ?_
  refine g_callv (wr := [(m_all, .inl (G.2 0, 311, .inl (cI mF))), (m_values, .inl (G.2 0, 3, .inl (cI mv))), (m_anew, .inl (G.2 0, 135, .inl (cI mn)))]) (va_runV (As := [.int (iI 0)]) (rest := []) ⟨hx, hb, hml, hown, hts⟩ (c_X11_lookAt l G (m0) (m_all) (m_kept) (m_isKept) (m_refused) (m_above) (m_below) (m_hand) (m_fewest) (m_whoBites) (m_leaves) (m_bestFeast) (m_tells) (m_hardOn) (m_bytes) (m_bytesLong) (m_tokenAt) (m_tokenLong) (m_token) (m_value) (m_anew) (m_values) (my) (0) (by first | exact y1_ | exact bd_mono y1_ (by omega) (by omega) | assumption) (by first | exact hL | assumption | omega) (by first | assumption | omega) _) (cwV 1 hts gX11_read_X11_lookAt rfl rfl rfl (by decide +kernel) ⟨Nat.le_of_ble_eq_true rfl, Nat.le_of_ble_eq_true rfl⟩) (g_preV m0 [.int (iI 0)] hP hD hK hN hS hA hZ [0, 2] rfl rfl 0 (ci := 10) rfl rfl) rfl rfl hl.1 rfl (lv_room (Nat.le_of_ble_eq_true rfl)) dX11_read_2 ⟨Nat.le_of_ble_eq_true rfl, Nat.le_of_ble_eq_true rfl⟩) hP hD hS hA [0, 2] [1, 3, 4] rfl rfl rfl (by decide) (fun u H locs hw hP hD hS => ?_)
  refine ea_4_7 hw (fun NtA_1 NtL_2 Ntk_3 Nva_4 k_5 k_6 k_7 k_8 k_9 k_10 e8_0 => ?_)
  subst e8_0
  clear hw
  have hPD : PD G A H [(m_all, .inl (G.2 0, 311, .inl (cI mF))), (m_values, .inl (G.2 0, 3, .inl (cI mv))), (m_anew, .inl (G.2 0, 135, .inl (cI mn))), (m0, .inr (10, [.ref m_all, .ref m_kept, .ref m_isKept, .ref m_refused, .long (lI m_above), .long (lI m_below), .ref m_hand, .ref m_fewest, .ref m_whoBites, .ref m_leaves, .ref m_bestFeast, .ref m_tells, .ref m_hardOn, .ref m_bytes, .int (iI m_bytesLong), .int (iI NtA_1), .int (iI NtL_2), .int (iI Ntk_3), .int (iI Nva_4), .ref m_anew, .ref m_values])), (m_bytes, .inl (G.2 0, 150, .inl (cI my)))] := ⟨hP, hD⟩
  have hP := hPD.1
  have hD := hPD.2
  clear hPD
  have hra0 := ra_0 hch (by assumption : rt my m_bytesLong 0 NtA_1 NtL_2 Ntk_3 Nva_4)
  have hn9 := hch.1
  refine lv_aload_n hx hb dX11_read_5 rfl (lv_at hl 0 rfl) ?_
  refine lv_bipush (v := iI 6) hx hb dX11_read_6 (by decide) ?_
  refine lv_bipush (v := iI 118) hx hb dX11_read_8 (by decide) ?_
  refine lv_bipush (v := iI 97) hx hb dX11_read_10 (by decide) ?_
  refine lv_bipush (v := iI 108) hx hb dX11_read_12 (by decide) ?_
  refine lv_bipush (v := iI 108) hx hb dX11_read_14 (by decide) ?_
  refine lv_bipush (v := iI 101) hx hb dX11_read_16 (by decide) ?_
  refine lv_bipush (v := iI 121) hx hb dX11_read_18 (by decide) ?_
  refine g_calli (wr := [(m_all, .inl (G.2 0, 311, .inl (cI mF))), (m_values, .inl (G.2 0, 3, .inl (cI mv))), (m_anew, .inl (G.2 0, 135, .inl (cI mn)))]) (va_runV (As := [.int (iI 6), .int (iI 118), .int (iI 97), .int (iI 108), .int (iI 108), .int (iI 101), .int (iI 121)]) (rest := []) ⟨hx, hb, hml, hown, hts⟩ (c_X11_spells l G (m0) (m_all) (m_kept) (m_isKept) (m_refused) (m_above) (m_below) (m_hand) (m_fewest) (m_whoBites) (m_leaves) (m_bestFeast) (m_tells) (m_hardOn) (m_bytes) (m_bytesLong) (NtA_1) (NtL_2) (Ntk_3) (Nva_4) (m_anew) (m_values) (my) (uS) (uA) (uV) (uE) (n0) (0) (0) (6) (118) (97) (108) (108) (101) (121) (by first | exact y1_ | exact bd_mono y1_ (by omega) (by omega) | assumption) (by first | exact hL | assumption | omega) (by first | exact k_5 | assumption | omega) (by first | exact k_6 | assumption | omega) (by first | exact k_7 | assumption | omega) (by first | exact k_8 | assumption | omega) (by first | exact hch | assumption | omega) (by first | exact hra0 | assumption | omega) (by first | assumption | omega) (by first | assumption | omega) (by unfold cs; decide +kernel) (by first | assumption | omega) (by first | assumption | omega) (by first | assumption | omega) (by first | assumption | omega) (by first | assumption | omega) (by first | assumption | omega) (by first | assumption | omega) _) (cwV 7 hts gX11_read_X11_spells rfl rfl rfl (by decide +kernel) ⟨Nat.le_of_ble_eq_true rfl, Nat.le_of_ble_eq_true rfl⟩) (g_preV m0 [.int (iI 6), .int (iI 118), .int (iI 97), .int (iI 108), .int (iI 108), .int (iI 101), .int (iI 121)] hP hD hK hN hS hA hZ [3, 4] rfl rfl 3 (ci := 10) rfl rfl) rfl rfl hl.1 rfl (lv_room (Nat.le_of_ble_eq_true rfl)) dX11_read_20 ⟨Nat.le_of_ble_eq_true rfl, Nat.le_of_ble_eq_true rfl⟩) hP hD hS hA [3, 4] [0, 1, 2] rfl rfl rfl (by decide) (fun r_11 u H locs hw hP hD hS => ?_)
  refine ea_1_4 hw (fun rr_12 k_13 k_14 e8_0 e8_1 => ?_)
  subst e8_0
  subst e8_1
  clear hw
  have hPD : PD G A H [(m_all, .inl (G.2 0, 311, .inl (cI mF))), (m_values, .inl (G.2 0, 3, .inl (cI mv))), (m_anew, .inl (G.2 0, 135, .inl (cI mn))), (m0, .inr (10, [.ref m_all, .ref m_kept, .ref m_isKept, .ref m_refused, .long (lI m_above), .long (lI m_below), .ref m_hand, .ref m_fewest, .ref m_whoBites, .ref m_leaves, .ref m_bestFeast, .ref m_tells, .ref m_hardOn, .ref m_bytes, .int (iI m_bytesLong), .int (iI NtA_1), .int (iI NtL_2), .int (iI Ntk_3), .int (iI Nva_4), .ref m_anew, .ref m_values])), (m_bytes, .inl (G.2 0, 150, .inl (cI my)))] := ⟨hP, hD⟩
  have hP := hPD.1
  have hD := hPD.2
  clear hPD
  refine lv_if_ne (tgt := 34) hx hb dX11_read_23 (by decide) (fun c_15 => ?_) (fun c_15 => ?_)
  · have c_15 : ¬ (rr_12 = 0) := fun h9 => c_15 ((iI_eq (a := rr_12) (b := 0) (by omega) (by first | decide | omega)).mpr h9)
    refine lv_aload_n hx hb dX11_read_34 rfl (lv_at hl 0 rfl) ?_
    refine g_callv (wr := [(m_all, .inl (G.2 0, 311, .inl (cI mF))), (m_values, .inl (G.2 0, 3, .inl (cI mv))), (m_anew, .inl (G.2 0, 135, .inl (cI mn)))]) (va_runV (As := []) (rest := []) ⟨hx, hb, hml, hown, hts⟩ (c_X11_goBehind l G (m0) (m_all) (m_kept) (m_isKept) (m_refused) (m_above) (m_below) (m_hand) (m_fewest) (m_whoBites) (m_leaves) (m_bestFeast) (m_tells) (m_hardOn) (m_bytes) (m_bytesLong) (NtA_1) (NtL_2) (Ntk_3) (Nva_4) (m_anew) (m_values) (my) (uS) (uA) (uV) (uE) (n0) (0) (by first | exact y1_ | exact bd_mono y1_ (by omega) (by omega) | assumption) (by first | exact hL | assumption | omega) (by first | exact k_5 | assumption | omega) (by first | exact k_6 | assumption | omega) (by first | exact k_7 | assumption | omega) (by first | exact k_8 | assumption | omega) (by first | exact hch | assumption | omega) (by first | exact hra0 | assumption | omega) (by first | assumption | omega) (by first | assumption | omega) _) (cwV 0 hts gX11_read_X11_goBehind rfl rfl rfl (by decide +kernel) ⟨Nat.le_of_ble_eq_true rfl, Nat.le_of_ble_eq_true rfl⟩) (g_preV m0 [] hP hD hK hN hS hA hZ [3, 4] rfl rfl 3 (ci := 10) rfl rfl) rfl rfl hl.1 rfl (lv_room (Nat.le_of_ble_eq_true rfl)) dX11_read_35 ⟨Nat.le_of_ble_eq_true rfl, Nat.le_of_ble_eq_true rfl⟩) hP hD hS hA [3, 4] [0, 1, 2] rfl rfl rfl (by decide) (fun u H locs hw hP hD hS => ?_)
    refine ea_4_8 hw (fun NtA_16 NtL_17 Ntk_18 Nva_19 k_20 k_21 k_22 k_23 k_24 k_25 k_26 e8_0 => ?_)
    subst e8_0
    clear hw
    have hPD : PD G A H [(m_all, .inl (G.2 0, 311, .inl (cI mF))), (m_values, .inl (G.2 0, 3, .inl (cI mv))), (m_anew, .inl (G.2 0, 135, .inl (cI mn))), (m0, .inr (10, [.ref m_all, .ref m_kept, .ref m_isKept, .ref m_refused, .long (lI m_above), .long (lI m_below), .ref m_hand, .ref m_fewest, .ref m_whoBites, .ref m_leaves, .ref m_bestFeast, .ref m_tells, .ref m_hardOn, .ref m_bytes, .int (iI m_bytesLong), .int (iI NtA_16), .int (iI NtL_17), .int (iI Ntk_18), .int (iI Nva_19), .ref m_anew, .ref m_values])), (m_bytes, .inl (G.2 0, 150, .inl (cI my)))] := ⟨hP, hD⟩
    have hP := hPD.1
    have hD := hPD.2
    clear hPD
    refine lv_aload_n hx hb dX11_read_38 rfl (lv_at hl 0 rfl) ?_
    refine va_get (D := G.1) (ci := 10) (v := .int (iI Ntk_18)) (C := RX11) (T := TX11) (N := 21) hx hb hts (fun _ h => List.mem_cons_of_mem _ (inlX11 _ h)) hown hK hP 3 rfl rfl 17 (by decide) (hts _ (List.mem_cons_of_mem _ (in_r19 (List.mem_of_getElem? (i := 9) rfl)))) (fun _ h9 => h9) rfl dX11_read_39 ?_
    refine lv_iconst (v := iI 3) hx hb dX11_read_42 rfl ?_
    refine lv_icmp_eq (tgt := 54) hx hb dX11_read_43 (by decide) (fun c_27 => ?_) (fun c_27 => ?_)
    · have c_27 := (iI_eq (a := Ntk_18) (b := 3) (by omega) (by first | decide | omega)).mp c_27
      have hs1 := ra_s1 k_25 (by omega)
      refine lv_aload_n hx hb dX11_read_54 rfl (lv_at hl 0 rfl) ?_
      refine g_callv (wr := [(m_all, .inl (G.2 0, 311, .inl (cI mF))), (m_values, .inl (G.2 0, 3, .inl (cI mv))), (m_anew, .inl (G.2 0, 135, .inl (cI mn)))]) (va_runV (As := []) (rest := []) ⟨hx, hb, hml, hown, hts⟩ (c_X11_goBehind l G (m0) (m_all) (m_kept) (m_isKept) (m_refused) (m_above) (m_below) (m_hand) (m_fewest) (m_whoBites) (m_leaves) (m_bestFeast) (m_tells) (m_hardOn) (m_bytes) (m_bytesLong) (NtA_16) (NtL_17) (Ntk_18) (Nva_19) (m_anew) (m_values) (my) (uS) (uA) (uV) (uE) (n0) ((0 + 1)) (by first | exact y1_ | exact bd_mono y1_ (by omega) (by omega) | assumption) (by first | exact hL | assumption | omega) (by first | exact k_20 | assumption | omega) (by first | exact k_21 | assumption | omega) (by first | exact k_22 | assumption | omega) (by first | exact k_23 | assumption | omega) (by first | exact hch | assumption | omega) (by first | exact k_25 | assumption | omega) (by first | assumption | omega) (by first | assumption | omega) _) (cwV 0 hts gX11_read_X11_goBehind rfl rfl rfl (by decide +kernel) ⟨Nat.le_of_ble_eq_true rfl, Nat.le_of_ble_eq_true rfl⟩) (g_preV m0 [] hP hD hK hN hS hA hZ [3, 4] rfl rfl 3 (ci := 10) rfl rfl) rfl rfl hl.1 rfl (lv_room (Nat.le_of_ble_eq_true rfl)) dX11_read_55 ⟨Nat.le_of_ble_eq_true rfl, Nat.le_of_ble_eq_true rfl⟩) hP hD hS hA [3, 4] [0, 1, 2] rfl rfl rfl (by decide) (fun u H locs hw hP hD hS => ?_)
      refine ea_4_8 hw (fun NtA_28 NtL_29 Ntk_30 Nva_31 k_32 k_33 k_34 k_35 k_36 k_37 k_38 e8_0 => ?_)
      subst e8_0
      clear hw
      have hPD : PD G A H [(m_all, .inl (G.2 0, 311, .inl (cI mF))), (m_values, .inl (G.2 0, 3, .inl (cI mv))), (m_anew, .inl (G.2 0, 135, .inl (cI mn))), (m0, .inr (10, [.ref m_all, .ref m_kept, .ref m_isKept, .ref m_refused, .long (lI m_above), .long (lI m_below), .ref m_hand, .ref m_fewest, .ref m_whoBites, .ref m_leaves, .ref m_bestFeast, .ref m_tells, .ref m_hardOn, .ref m_bytes, .int (iI m_bytesLong), .int (iI NtA_28), .int (iI NtL_29), .int (iI Ntk_30), .int (iI Nva_31), .ref m_anew, .ref m_values])), (m_bytes, .inl (G.2 0, 150, .inl (cI my)))] := ⟨hP, hD⟩
      have hP := hPD.1
      have hD := hPD.2
      clear hPD
      refine lv_aload_n hx hb dX11_read_58 rfl (lv_at hl 0 rfl) ?_
      refine va_get (D := G.1) (ci := 10) (v := .ref m_anew) (C := RX11) (T := TX11) (N := 21) hx hb hts (fun _ h => List.mem_cons_of_mem _ (inlX11 _ h)) hown hK hP 3 rfl rfl 19 (by decide) (hts _ (List.mem_cons_of_mem _ (in_r6 (List.mem_of_getElem? (i := 13) rfl)))) (fun _ h9 => h9) rfl dX11_read_59 ?_
      refine g_callv (wr := [(m_all, .inl (G.2 0, 311, .inl (cI mF))), (m_values, .inl (G.2 0, 3, .inl (cI mv))), (m0, .inr (10, [.ref m_all, .ref m_kept, .ref m_isKept, .ref m_refused, .long (lI m_above), .long (lI m_below), .ref m_hand, .ref m_fewest, .ref m_whoBites, .ref m_leaves, .ref m_bestFeast, .ref m_tells, .ref m_hardOn, .ref m_bytes, .int (iI m_bytesLong), .int (iI NtA_28), .int (iI NtL_29), .int (iI Ntk_30), .int (iI Nva_31), .ref m_anew, .ref m_values])), (m_bytes, .inl (G.2 0, 150, .inl (cI my)))]) (va_runS (As := [.ref m_anew]) (rest := []) ⟨hx, hb, hml, hown, hts⟩ (c_X11_begin_135 l G (m_anew) (mn) (K0) (by first | exact y2_ | exact bpA_mono y2_ (by omega) | assumption) (by first | assumption | omega) _) (va_cwS 1 hts gX11_read_X11_begin rfl rfl rfl (by decide +kernel) ⟨Nat.le_of_ble_eq_true rfl, Nat.le_of_ble_eq_true rfl⟩) (g_preS [.ref m_anew] hP hD hK hN hS hA hZ [2] rfl rfl) rfl rfl hl.1 rfl (lv_room (Nat.le_of_ble_eq_true rfl)) dX11_read_62 ⟨Nat.le_of_ble_eq_true rfl, Nat.le_of_ble_eq_true rfl⟩) hP hD hS hA [2] [0, 1, 3, 4] rfl rfl rfl (by decide) (fun u H locs hw hP hD hS => ?_)
      refine ea_1_3 hw (fun Nq_39 k_40 k_41 e8_0 => ?_)
      subst e8_0
      clear hw
      have hPD : PD G A H [(m_all, .inl (G.2 0, 311, .inl (cI mF))), (m_values, .inl (G.2 0, 3, .inl (cI mv))), (m0, .inr (10, [.ref m_all, .ref m_kept, .ref m_isKept, .ref m_refused, .long (lI m_above), .long (lI m_below), .ref m_hand, .ref m_fewest, .ref m_whoBites, .ref m_leaves, .ref m_bestFeast, .ref m_tells, .ref m_hardOn, .ref m_bytes, .int (iI m_bytesLong), .int (iI NtA_28), .int (iI NtL_29), .int (iI Ntk_30), .int (iI Nva_31), .ref m_anew, .ref m_values])), (m_bytes, .inl (G.2 0, 150, .inl (cI my))), (m_anew, .inl (G.2 0, 135, .inl (cI Nq_39)))] := ⟨hP, hD⟩
      have hP := hPD.1
      have hD := hPD.2
      clear hPD
      have hE9 : ∀ j : Nat, j < 135 → cI Nq_39 j = cI z0 j := fun j hj => congrArg iI (k_41 j (by omega))
      have hP := hP.eqc (q := 4) (g := cI z0) rfl hE9
      have hD := va_D.setc hD 4 rfl (.inl (G.2 0, 135, .inl (cI z0)))
      have hPD : PD G A H [(m_all, .inl (G.2 0, 311, .inl (cI mF))), (m_values, .inl (G.2 0, 3, .inl (cI mv))), (m0, .inr (10, [.ref m_all, .ref m_kept, .ref m_isKept, .ref m_refused, .long (lI m_above), .long (lI m_below), .ref m_hand, .ref m_fewest, .ref m_whoBites, .ref m_leaves, .ref m_bestFeast, .ref m_tells, .ref m_hardOn, .ref m_bytes, .int (iI m_bytesLong), .int (iI NtA_28), .int (iI NtL_29), .int (iI Ntk_30), .int (iI Nva_31), .ref m_anew, .ref m_values])), (m_bytes, .inl (G.2 0, 150, .inl (cI my))), (m_anew, .inl (G.2 0, 135, .inl (cI z0)))] := ⟨hP, hD⟩
      have hP := hPD.1
      have hD := hPD.2
      clear hPD
      have hq_42 : bp (plA K0) z0 := bp_z (fun z => plA_nn (by omega) z)
      refine lv_iconst (v := iI 1) hx hb dX11_read_65 rfl ?_
      refine lv_istore_n (lv' := [(1, .int (iI 1)), (0, .ref m0)]) hx hb dX11_read_66 rfl hl (by decide) rfl (fun ls hl => ?_)
      refine g_loopN (pc := 67) (fun nn H locs ls => ∃ n0__43 : Int, ∃ Ev_44 : Nat → Int, ∃ En_45 : Nat → Int, ∃ ta_46 : Int, ∃ tl__47 : Int, ∃ tk_48 : Int, ∃ va_49 : Int, (1 ≤ n0__43 ∧ n0__43 ≤ ta_46) ∧ (0 ≤ ta_46 ∧ 0 ≤ tl__47 ∧ ta_46 + tl__47 ≤ m_bytesLong) ∧ (0 ≤ tk_48 ∧ tk_48 ≤ 4) ∧ (tk_48 = 0 ∨ 1 ≤ tl__47) ∧ (-2000 ≤ va_49 ∧ va_49 ≤ 2000) ∧ (bp (plA (K0 + 99 * n0__43)) En_45) ∧ (rdJ uS uA uV n0 n0__43 En_45 my uE ta_46 tl__47 tk_48 va_49) ∧ (151 - ta_46).toNat = nn ∧ va_P G.1 vwCl [(m_all, .inl (G.2 0, 311, .inl (cI mF))), (m_values, .inl (G.2 0, 3, .inl (cI Ev_44))), (m0, .inr (10, [.ref m_all, .ref m_kept, .ref m_isKept, .ref m_refused, .long (lI m_above), .long (lI m_below), .ref m_hand, .ref m_fewest, .ref m_whoBites, .ref m_leaves, .ref m_bestFeast, .ref m_tells, .ref m_hardOn, .ref m_bytes, .int (iI m_bytesLong), .int (iI ta_46), .int (iI tl__47), .int (iI tk_48), .int (iI va_49), .ref m_anew, .ref m_values])), (m_bytes, .inl (G.2 0, 150, .inl (cI my))), (m_anew, .inl (G.2 0, 135, .inl (cI En_45)))] H ∧ va_D A [(m_all, .inl (G.2 0, 311, .inl (cI mF))), (m_values, .inl (G.2 0, 3, .inl (cI Ev_44))), (m0, .inr (10, [.ref m_all, .ref m_kept, .ref m_isKept, .ref m_refused, .long (lI m_above), .long (lI m_below), .ref m_hand, .ref m_fewest, .ref m_whoBites, .ref m_leaves, .ref m_bestFeast, .ref m_tells, .ref m_hardOn, .ref m_bytes, .int (iI m_bytesLong), .int (iI ta_46), .int (iI tl__47), .int (iI tk_48), .int (iI va_49), .ref m_anew, .ref m_values])), (m_bytes, .inl (G.2 0, 150, .inl (cI my))), (m_anew, .inl (G.2 0, 135, .inl (cI En_45)))] ∧ va_S A s.heap H locs ∧ lv_has ls 3 [(1, .int (iI n0__43)), (0, .ref m0)]) ?_ ⟨1, mv, z0, NtA_28, NtL_29, Ntk_30, Nva_31, (by first | assumption | omega), (by first | exact k_32 | assumption | omega), (by first | exact k_33 | assumption | omega), (by first | exact k_34 | assumption | omega), (by first | exact k_35 | assumption | omega), (by first | exact hq_42 | exact bpA_mono hq_42 (by omega) | assumption), ⟨_, rdI_0 (by omega) hs1, by assumption, by omega⟩, rfl, hP, hD, hS, lv_sub hl [0, 1] rfl⟩
      intro nn_58 H locs ls ih_57 hI
      refine ea_7_12 hI (fun n0__43 Ev_44 En_45 ta_46 tl__47 tk_48 va_49 f_50 f_51 f_52 f_53 f_54 f_55 f_56 hnn_59 hP hD hS hl => ?_)
      clear hI
      obtain ⟨b_60, hd_61, hr_62, hb_63⟩ := f_56
      refine lv_aload_n hx hb dX11_read_67 rfl (lv_at hl 1 rfl) ?_
      refine va_get (D := G.1) (ci := 10) (v := .int (iI tk_48)) (C := RX11) (T := TX11) (N := 21) hx hb hts (fun _ h => List.mem_cons_of_mem _ (inlX11 _ h)) hown hK hP 2 rfl rfl 17 (by decide) (hts _ (List.mem_cons_of_mem _ (in_r19 (List.mem_of_getElem? (i := 9) rfl)))) (fun _ h9 => h9) rfl dX11_read_68 ?_
      refine lv_if_eq (tgt := 107) hx hb dX11_read_71 (by decide) (fun c_64 => ?_) (fun c_64 => ?_)
      · have c_64 := (iI_eq (a := tk_48) (b := 0) (by omega) (by first | decide | omega)).mp c_64
        have hq_65 : bp (plA (K0 + 15000)) En_45 := bpA_mono f_55 (by omega)
        have hq_66 : bp (plA (K0 + 15000)) mF := bpA_mono y0_ (by omega)
        refine lv_iconst (v := iI 0) hx hb dX11_read_107 rfl ?_
        refine lv_istore_n (lv' := [(2, .int (iI 0)), (1, .int (iI n0__43)), (0, .ref m0)]) hx hb dX11_read_108 rfl hl (by decide) rfl (fun ls hl => ?_)
        refine g_loopN (pc := 109) (fun nn H locs ls => ∃ k0__67 : Int, ∃ Ea_68 : Nat → Int, (0 ≤ k0__67 ∧ k0__67 ≤ 135) ∧ (bp (plA (K0 + 15000)) Ea_68) ∧ (eqB k0__67 En_45 Ea_68) ∧ (135 - k0__67).toNat = nn ∧ va_P G.1 vwCl [(m_all, .inl (G.2 0, 311, .inl (cI Ea_68))), (m_values, .inl (G.2 0, 3, .inl (cI Ev_44))), (m0, .inr (10, [.ref m_all, .ref m_kept, .ref m_isKept, .ref m_refused, .long (lI m_above), .long (lI m_below), .ref m_hand, .ref m_fewest, .ref m_whoBites, .ref m_leaves, .ref m_bestFeast, .ref m_tells, .ref m_hardOn, .ref m_bytes, .int (iI m_bytesLong), .int (iI ta_46), .int (iI tl__47), .int (iI tk_48), .int (iI va_49), .ref m_anew, .ref m_values])), (m_bytes, .inl (G.2 0, 150, .inl (cI my))), (m_anew, .inl (G.2 0, 135, .inl (cI En_45)))] H ∧ va_D A [(m_all, .inl (G.2 0, 311, .inl (cI Ea_68))), (m_values, .inl (G.2 0, 3, .inl (cI Ev_44))), (m0, .inr (10, [.ref m_all, .ref m_kept, .ref m_isKept, .ref m_refused, .long (lI m_above), .long (lI m_below), .ref m_hand, .ref m_fewest, .ref m_whoBites, .ref m_leaves, .ref m_bestFeast, .ref m_tells, .ref m_hardOn, .ref m_bytes, .int (iI m_bytesLong), .int (iI ta_46), .int (iI tl__47), .int (iI tk_48), .int (iI va_49), .ref m_anew, .ref m_values])), (m_bytes, .inl (G.2 0, 150, .inl (cI my))), (m_anew, .inl (G.2 0, 135, .inl (cI En_45)))] ∧ va_S A s.heap H locs ∧ lv_has ls 3 [(2, .int (iI k0__67)), (1, .int (iI n0__43)), (0, .ref m0)]) ?_ ⟨0, mF, (by first | assumption | omega), (by first | exact hq_66 | exact bpA_mono hq_66 (by omega) | assumption), (by first | assumption | exact eqB_0 _ _), rfl, hP, hD, hS, lv_sub hl [0, 1, 2] rfl⟩
        intro nn_73 H locs ls ih_72 hI
        refine ea_2_8 hI (fun k0__67 Ea_68 f_69 f_70 f_71 hnn_74 hP hD hS hl => ?_)
        clear hI
        refine lv_iload_n hx hb dX11_read_109 rfl (lv_at hl 0 rfl) ?_
        refine lv_sipush (v := iI 135) hx hb dX11_read_110 (by decide) ?_
        refine lv_icmp_ge (tgt := 134) hx hb dX11_read_113 (by decide) (fun c_75 => ?_) (fun c_75 => ?_)
        · have c_75 := (iI_le (a := 135) (b := k0__67) (by first | decide | omega) (by omega)).mp c_75
          refine lv_iload_n hx hb dX11_read_134 rfl (lv_at hl 1 rfl) ?_
          have hP := hP.sub (ws' := [(m0, .inr (10, [.ref m_all, .ref m_kept, .ref m_isKept, .ref m_refused, .long (lI m_above), .long (lI m_below), .ref m_hand, .ref m_fewest, .ref m_whoBites, .ref m_leaves, .ref m_bestFeast, .ref m_tells, .ref m_hardOn, .ref m_bytes, .int (iI m_bytesLong), .int (iI ta_46), .int (iI tl__47), .int (iI tk_48), .int (iI va_49), .ref m_anew, .ref m_values])), (m_all, .inl (G.2 0, 311, .inl (cI Ea_68))), (m_bytes, .inl (G.2 0, 150, .inl (cI my))), (m_values, .inl (G.2 0, 3, .inl (cI Ev_44))), (m_anew, .inl (G.2 0, 135, .inl (cI En_45)))]) [2, 0, 3, 1, 4] rfl
          have hD := hD.sub (ws' := [(m0, .inr (10, [.ref m_all, .ref m_kept, .ref m_isKept, .ref m_refused, .long (lI m_above), .long (lI m_below), .ref m_hand, .ref m_fewest, .ref m_whoBites, .ref m_leaves, .ref m_bestFeast, .ref m_tells, .ref m_hardOn, .ref m_bytes, .int (iI m_bytesLong), .int (iI ta_46), .int (iI tl__47), .int (iI tk_48), .int (iI va_49), .ref m_anew, .ref m_values])), (m_all, .inl (G.2 0, 311, .inl (cI Ea_68))), (m_bytes, .inl (G.2 0, 150, .inl (cI my))), (m_values, .inl (G.2 0, 3, .inl (cI Ev_44))), (m_anew, .inl (G.2 0, 135, .inl (cI En_45)))]) [2, 0, 3, 1, 4] rfl rfl
          exact g_iret (v := (iI n0__43)) hx hb hr hlocks hP hD hS (Or.inr (⟨n0__43, ta_46, tl__47, tk_48, va_49, Ev_44, En_45, Ea_68, (rdM_e hd_61 (by omega) (by omega) hr_62 (by omega) (by assumption) (by omega)), (by first | assumption | omega), (by first | exact hq_65 | exact bpA_mono hq_65 (by omega) | assumption), (by first | exact f_70 | exact bpA_mono f_70 (by omega) | assumption), rfl, rfl⟩)) dX11_read_135
        · have c_75 : ¬ (135 ≤ k0__67) := fun h9 => c_75 ((iI_le (a := 135) (b := k0__67) (by first | decide | omega) (by omega)).mpr h9)
          refine lv_aload_n hx hb dX11_read_116 rfl (lv_at hl 2 rfl) ?_
          refine va_get (D := G.1) (ci := 10) (v := .ref m_all) (C := RX11) (T := TX11) (N := 21) hx hb hts (fun _ h => List.mem_cons_of_mem _ (inlX11 _ h)) hown hK hP 2 rfl rfl 0 (by decide) (hts _ (List.mem_cons_of_mem _ (in_r6 (List.mem_of_getElem? (i := 0) rfl)))) (fun _ h9 => h9) rfl dX11_read_117 ?_
          refine lv_iload_n hx hb dX11_read_120 rfl (lv_at hl 0 rfl) ?_
          refine lv_aload_n hx hb dX11_read_121 rfl (lv_at hl 2 rfl) ?_
          refine va_get (D := G.1) (ci := 10) (v := .ref m_anew) (C := RX11) (T := TX11) (N := 21) hx hb hts (fun _ h => List.mem_cons_of_mem _ (inlX11 _ h)) hown hK hP 2 rfl rfl 19 (by decide) (hts _ (List.mem_cons_of_mem _ (in_r6 (List.mem_of_getElem? (i := 13) rfl)))) (fun _ h9 => h9) rfl dX11_read_122 ?_
          refine lv_iload_n hx hb dX11_read_125 rfl (lv_at hl 0 rfl) ?_
          refine g_ild hx hb hK hP 4 rfl (by omega) (by omega) (by first | exact Nat.le_of_ble_eq_true rfl | omega) dX11_read_126 (fun w_76 ew_76 => ?_)
          have ew_76 : En_45 (k0__67.toNat) = w_76 := ew_76
          subst ew_76
          have bw_76 := hq_65 (k0__67.toNat)
          refine g_ist hx hb hK hP hD hS 0 rfl (by omega) (by omega) (by first | exact Nat.le_of_ble_eq_true rfl | omega) dX11_read_127 (fun H locs hP hD hS => ?_)
          have hk_78 := bp_u (h := plA (K0 + 15000)) (k := (k0__67.toNat)) (v := (En_45 (k0__67.toNat))) f_70 (by omega) bw_76.2
          have hk_79 := eqB_u (i := k0__67) (v := (En_45 (k0__67.toNat))) f_71 rfl (by omega)
          have hPD : PD G A H [(m_all, .inl (G.2 0, 311, .inl (cI (uI Ea_68 (k0__67.toNat) (En_45 (k0__67.toNat)))))), (m_values, .inl (G.2 0, 3, .inl (cI Ev_44))), (m0, .inr (10, [.ref m_all, .ref m_kept, .ref m_isKept, .ref m_refused, .long (lI m_above), .long (lI m_below), .ref m_hand, .ref m_fewest, .ref m_whoBites, .ref m_leaves, .ref m_bestFeast, .ref m_tells, .ref m_hardOn, .ref m_bytes, .int (iI m_bytesLong), .int (iI ta_46), .int (iI tl__47), .int (iI tk_48), .int (iI va_49), .ref m_anew, .ref m_values])), (m_bytes, .inl (G.2 0, 150, .inl (cI my))), (m_anew, .inl (G.2 0, 135, .inl (cI En_45)))] := ⟨hP, hD⟩
          have hP := hPD.1
          have hD := hPD.2
          clear hPD
          refine lv_iinc (v := iI (k0__67 + 1)) (lv' := [(2, .int (iI (k0__67 + 1))), (1, .int (iI n0__43)), (0, .ref m0)]) hx hb dX11_read_128 hl (k := 0) rfl (iI_add k0__67 1) (by decide) rfl (fun ls hl => ?_)
          refine lv_goto (tgt := 109) hx hb dX11_read_131 (by decide) ?_
          exact ih_72 _ _ _ _ (by omega) ⟨(k0__67 + 1), (uI Ea_68 (k0__67.toNat) (En_45 (k0__67.toNat))), (by first | assumption | omega), (by first | exact hk_78 | exact bpA_mono hk_78 (by omega) | assumption), (by first | assumption | exact eqB_0 _ _), rfl, hP, hD, hS, lv_sub hl [0, 1, 2] rfl⟩
      · have c_64 : ¬ (tk_48 = 0) := fun h9 => c_64 ((iI_eq (a := tk_48) (b := 0) (by omega) (by first | decide | omega)).mpr h9)
        have hs_80 := ra_n0 hr_62 (by omega)
        refine lv_aload_n hx hb dX11_read_74 rfl (lv_at hl 1 rfl) ?_
        refine g_calli (wr := [(m_all, .inl (G.2 0, 311, .inl (cI mF)))]) (va_runV (As := []) (rest := []) ⟨hx, hb, hml, hown, hts⟩ (c_X11_givesItem l G (m0) (m_all) (m_kept) (m_isKept) (m_refused) (m_above) (m_below) (m_hand) (m_fewest) (m_whoBites) (m_leaves) (m_bestFeast) (m_tells) (m_hardOn) (m_bytes) (m_bytesLong) (ta_46) (tl__47) (tk_48) (va_49) (m_anew) (m_values) (my) (Ev_44) (En_45) ((K0 + 99 * n0__43)) (uS) (uA) (uV) (uE) (n0) (b_60) (by first | exact y1_ | exact bd_mono y1_ (by omega) (by omega) | assumption) (by first | exact f_55 | exact bpA_mono f_55 (by omega) | assumption) (by first | exact hL | assumption | omega) (by first | exact f_51 | assumption | omega) (by first | exact f_52 | assumption | omega) (by first | exact f_53 | assumption | omega) (by first | exact f_54 | assumption | omega) (by first | exact hch | assumption | omega) (by first | exact hr_62 | assumption | omega) (by first | assumption | omega) (by first | assumption | omega) _) (cwV 0 hts gX11_read_X11_givesItem rfl rfl rfl (by decide +kernel) ⟨Nat.le_of_ble_eq_true rfl, Nat.le_of_ble_eq_true rfl⟩) (g_preV m0 [] hP hD hK hN hS hA hZ [2, 3, 1, 4] rfl rfl 2 (ci := 10) rfl rfl) rfl rfl hl.1 rfl (lv_room (Nat.le_of_ble_eq_true rfl)) dX11_read_75 ⟨Nat.le_of_ble_eq_true rfl, Nat.le_of_ble_eq_true rfl⟩) hP hD hS hA [2, 3, 1, 4] [0] rfl rfl rfl (by decide) (fun r_81 u H locs hw hP hD hS => ?_)
        rcases hw with hw | hw
        · refine ea_7_11 hw (fun NtA_82 NtL_83 Ntk_84 Nva_85 N_v_86 N_n_87 jN_88 k_89 k_90 k_91 k_92 k_93 k_94 k_95 k_96 k_97 e8_0 e8_1 => ?_)
          subst e8_0
          subst e8_1
          clear hw
          have hPD : PD G A H [(m_all, .inl (G.2 0, 311, .inl (cI mF))), (m0, .inr (10, [.ref m_all, .ref m_kept, .ref m_isKept, .ref m_refused, .long (lI m_above), .long (lI m_below), .ref m_hand, .ref m_fewest, .ref m_whoBites, .ref m_leaves, .ref m_bestFeast, .ref m_tells, .ref m_hardOn, .ref m_bytes, .int (iI m_bytesLong), .int (iI NtA_82), .int (iI NtL_83), .int (iI Ntk_84), .int (iI Nva_85), .ref m_anew, .ref m_values])), (m_bytes, .inl (G.2 0, 150, .inl (cI my))), (m_values, .inl (G.2 0, 3, .inl (cI N_v_86))), (m_anew, .inl (G.2 0, 135, .inl (cI N_n_87)))] := ⟨hP, hD⟩
          have hP := hPD.1
          have hD := hPD.2
          clear hPD
          refine lv_if_eq (tgt := 89) hx hb dX11_read_78 (by decide) (fun c_114 => g_no c_114 (by decide)) (fun _ => ?_)
          refine lv_aload_n hx hb dX11_read_81 rfl (lv_at hl 1 rfl) ?_
          refine va_get (D := G.1) (ci := 10) (v := .int (iI Ntk_84)) (C := RX11) (T := TX11) (N := 21) hx hb hts (fun _ h => List.mem_cons_of_mem _ (inlX11 _ h)) hown hK hP 1 rfl rfl 17 (by decide) (hts _ (List.mem_cons_of_mem _ (in_r19 (List.mem_of_getElem? (i := 9) rfl)))) (fun _ h9 => h9) rfl dX11_read_82 ?_
          refine lv_iconst (v := iI 3) hx hb dX11_read_85 rfl ?_
          refine lv_icmp_eq (tgt := 97) hx hb dX11_read_86 (by decide) (fun c_115 => ?_) (fun c_115 => ?_)
          · have c_115 := (iI_eq (a := Ntk_84) (b := 3) (by omega) (by first | decide | omega)).mp c_115
            have hs_116 := ra_s1 k_95 (by omega)
            refine lv_aload_n hx hb dX11_read_97 rfl (lv_at hl 1 rfl) ?_
            refine g_callv (wr := [(m_all, .inl (G.2 0, 311, .inl (cI mF))), (m_values, .inl (G.2 0, 3, .inl (cI N_v_86))), (m_anew, .inl (G.2 0, 135, .inl (cI N_n_87)))]) (va_runV (As := []) (rest := []) ⟨hx, hb, hml, hown, hts⟩ (c_X11_goBehind l G (m0) (m_all) (m_kept) (m_isKept) (m_refused) (m_above) (m_below) (m_hand) (m_fewest) (m_whoBites) (m_leaves) (m_bestFeast) (m_tells) (m_hardOn) (m_bytes) (m_bytesLong) (NtA_82) (NtL_83) (Ntk_84) (Nva_85) (m_anew) (m_values) (my) (uS) (uA) (uV) (uE) (n0) (jN_88) (by first | exact y1_ | exact bd_mono y1_ (by omega) (by omega) | assumption) (by first | exact hL | assumption | omega) (by first | exact k_90 | assumption | omega) (by first | exact k_91 | assumption | omega) (by first | exact k_92 | assumption | omega) (by first | exact k_93 | assumption | omega) (by first | exact hch | assumption | omega) (by first | exact k_95 | assumption | omega) (by first | assumption | omega) (by first | assumption | omega) _) (cwV 0 hts gX11_read_X11_goBehind rfl rfl rfl (by decide +kernel) ⟨Nat.le_of_ble_eq_true rfl, Nat.le_of_ble_eq_true rfl⟩) (g_preV m0 [] hP hD hK hN hS hA hZ [1, 2] rfl rfl 1 (ci := 10) rfl rfl) rfl rfl hl.1 rfl (lv_room (Nat.le_of_ble_eq_true rfl)) dX11_read_98 ⟨Nat.le_of_ble_eq_true rfl, Nat.le_of_ble_eq_true rfl⟩) hP hD hS hA [1, 2] [0, 3, 4] rfl rfl rfl (by decide) (fun u H locs hw hP hD hS => ?_)
            refine ea_4_8 hw (fun NtA_117 NtL_118 Ntk_119 Nva_120 k_121 k_122 k_123 k_124 k_125 k_126 k_127 e8_0 => ?_)
            subst e8_0
            clear hw
            have hPD : PD G A H [(m_all, .inl (G.2 0, 311, .inl (cI mF))), (m_values, .inl (G.2 0, 3, .inl (cI N_v_86))), (m_anew, .inl (G.2 0, 135, .inl (cI N_n_87))), (m0, .inr (10, [.ref m_all, .ref m_kept, .ref m_isKept, .ref m_refused, .long (lI m_above), .long (lI m_below), .ref m_hand, .ref m_fewest, .ref m_whoBites, .ref m_leaves, .ref m_bestFeast, .ref m_tells, .ref m_hardOn, .ref m_bytes, .int (iI m_bytesLong), .int (iI NtA_117), .int (iI NtL_118), .int (iI Ntk_119), .int (iI Nva_120), .ref m_anew, .ref m_values])), (m_bytes, .inl (G.2 0, 150, .inl (cI my)))] := ⟨hP, hD⟩
            have hP := hPD.1
            have hD := hPD.2
            clear hPD
            refine lv_iinc (v := iI (n0__43 + 1)) (lv' := [(1, .int (iI (n0__43 + 1))), (0, .ref m0)]) hx hb dX11_read_101 hl (k := 0) rfl (iI_add n0__43 1) (by decide) rfl (fun ls hl => ?_)
            refine lv_goto (tgt := 67) hx hb dX11_read_104 (by decide) ?_
            have hP := hP.sub (ws' := [(m_all, .inl (G.2 0, 311, .inl (cI mF))), (m_values, .inl (G.2 0, 3, .inl (cI N_v_86))), (m0, .inr (10, [.ref m_all, .ref m_kept, .ref m_isKept, .ref m_refused, .long (lI m_above), .long (lI m_below), .ref m_hand, .ref m_fewest, .ref m_whoBites, .ref m_leaves, .ref m_bestFeast, .ref m_tells, .ref m_hardOn, .ref m_bytes, .int (iI m_bytesLong), .int (iI NtA_117), .int (iI NtL_118), .int (iI Ntk_119), .int (iI Nva_120), .ref m_anew, .ref m_values])), (m_bytes, .inl (G.2 0, 150, .inl (cI my))), (m_anew, .inl (G.2 0, 135, .inl (cI N_n_87)))]) [0, 1, 3, 4, 2] rfl
            have hD := hD.sub (ws' := [(m_all, .inl (G.2 0, 311, .inl (cI mF))), (m_values, .inl (G.2 0, 3, .inl (cI N_v_86))), (m0, .inr (10, [.ref m_all, .ref m_kept, .ref m_isKept, .ref m_refused, .long (lI m_above), .long (lI m_below), .ref m_hand, .ref m_fewest, .ref m_whoBites, .ref m_leaves, .ref m_bestFeast, .ref m_tells, .ref m_hardOn, .ref m_bytes, .int (iI m_bytesLong), .int (iI NtA_117), .int (iI NtL_118), .int (iI Ntk_119), .int (iI Nva_120), .ref m_anew, .ref m_values])), (m_bytes, .inl (G.2 0, 150, .inl (cI my))), (m_anew, .inl (G.2 0, 135, .inl (cI N_n_87)))]) [0, 1, 3, 4, 2] rfl rfl
            exact ih_57 _ _ _ _ (by omega) ⟨(n0__43 + 1), N_v_86, N_n_87, NtA_117, NtL_118, Ntk_119, Nva_120, (by first | assumption | omega), (by first | exact k_121 | assumption | omega), (by first | exact k_122 | assumption | omega), (by first | exact k_123 | assumption | omega), (by first | exact k_124 | assumption | omega), (by first | exact k_97 | exact bpA_mono k_97 (by omega) | assumption), ⟨_, rdI_s hd_61 (by omega) (by omega) hs_80 (IOk.of (by assumption) hs_116), by assumption, by omega⟩, rfl, hP, hD, hS, lv_sub hl [0, 1] rfl⟩
          · have c_115 : ¬ (Ntk_84 = 3) := fun h9 => c_115 ((iI_eq (a := Ntk_84) (b := 3) (by omega) (by first | decide | omega)).mpr h9)
            refine lv_bipush (v := iI (-10)) hx hb dX11_read_89 (by decide) ?_
            refine lv_aload_n hx hb dX11_read_91 rfl (lv_at hl 1 rfl) ?_
            refine va_get (D := G.1) (ci := 10) (v := .int (iI NtA_82)) (C := RX11) (T := TX11) (N := 21) hx hb hts (fun _ h => List.mem_cons_of_mem _ (inlX11 _ h)) hown hK hP 1 rfl rfl 15 (by decide) (hts _ (List.mem_cons_of_mem _ (in_r19 (List.mem_of_getElem? (i := 8) rfl)))) (fun _ h9 => h9) rfl dX11_read_92 ?_
            refine lv_isub hx hb dX11_read_95 ?_
            refine g_topi (y := iI ((-10) - NtA_82)) (iI_sub (-10) NtA_82) ?_
            have hP := hP.sub (ws' := [(m0, .inr (10, [.ref m_all, .ref m_kept, .ref m_isKept, .ref m_refused, .long (lI m_above), .long (lI m_below), .ref m_hand, .ref m_fewest, .ref m_whoBites, .ref m_leaves, .ref m_bestFeast, .ref m_tells, .ref m_hardOn, .ref m_bytes, .int (iI m_bytesLong), .int (iI NtA_82), .int (iI NtL_83), .int (iI Ntk_84), .int (iI Nva_85), .ref m_anew, .ref m_values])), (m_all, .inl (G.2 0, 311, .inl (cI mF))), (m_bytes, .inl (G.2 0, 150, .inl (cI my))), (m_values, .inl (G.2 0, 3, .inl (cI N_v_86))), (m_anew, .inl (G.2 0, 135, .inl (cI N_n_87)))]) [1, 0, 2, 3, 4] rfl
            have hD := hD.sub (ws' := [(m0, .inr (10, [.ref m_all, .ref m_kept, .ref m_isKept, .ref m_refused, .long (lI m_above), .long (lI m_below), .ref m_hand, .ref m_fewest, .ref m_whoBites, .ref m_leaves, .ref m_bestFeast, .ref m_tells, .ref m_hardOn, .ref m_bytes, .int (iI m_bytesLong), .int (iI NtA_82), .int (iI NtL_83), .int (iI Ntk_84), .int (iI Nva_85), .ref m_anew, .ref m_values])), (m_all, .inl (G.2 0, 311, .inl (cI mF))), (m_bytes, .inl (G.2 0, 150, .inl (cI my))), (m_values, .inl (G.2 0, 3, .inl (cI N_v_86))), (m_anew, .inl (G.2 0, 135, .inl (cI N_n_87)))]) [1, 0, 2, 3, 4] rfl rfl
            exact g_iret (v := (iI ((-10) - NtA_82))) hx hb hr hlocks hP hD hS (Or.inl ⟨((-10) - NtA_82), NtA_82, NtL_83, Ntk_84, Nva_85, N_v_86, N_n_87, (rdM_n hd_61 (by omega) (by omega) hs_80 (INo.of (by assumption) (ra_n1 k_95 (by omega))) k_95 (by omega) (by omega)), (by first | assumption | omega), (by first | exact k_97 | exact bpA_mono k_97 (by omega) | assumption), rfl, rfl⟩) dX11_read_96
        · refine ea_7_11 hw (fun NtA_98 NtL_99 Ntk_100 Nva_101 N_v_102 N_n_103 jN_104 k_105 k_106 k_107 k_108 k_109 k_110 k_111 k_112 k_113 e8_0 e8_1 => ?_)
          subst e8_0
          subst e8_1
          clear hw
          have hPD : PD G A H [(m_all, .inl (G.2 0, 311, .inl (cI mF))), (m0, .inr (10, [.ref m_all, .ref m_kept, .ref m_isKept, .ref m_refused, .long (lI m_above), .long (lI m_below), .ref m_hand, .ref m_fewest, .ref m_whoBites, .ref m_leaves, .ref m_bestFeast, .ref m_tells, .ref m_hardOn, .ref m_bytes, .int (iI m_bytesLong), .int (iI NtA_98), .int (iI NtL_99), .int (iI Ntk_100), .int (iI Nva_101), .ref m_anew, .ref m_values])), (m_bytes, .inl (G.2 0, 150, .inl (cI my))), (m_values, .inl (G.2 0, 3, .inl (cI N_v_102))), (m_anew, .inl (G.2 0, 135, .inl (cI N_n_103)))] := ⟨hP, hD⟩
          have hP := hPD.1
          have hD := hPD.2
          clear hPD
          refine lv_if_eq (tgt := 89) hx hb dX11_read_78 (by decide) (fun _ => ?_) (fun c_128 => g_no (by decide) c_128)
          refine lv_bipush (v := iI (-10)) hx hb dX11_read_89 (by decide) ?_
          refine lv_aload_n hx hb dX11_read_91 rfl (lv_at hl 1 rfl) ?_
          refine va_get (D := G.1) (ci := 10) (v := .int (iI NtA_98)) (C := RX11) (T := TX11) (N := 21) hx hb hts (fun _ h => List.mem_cons_of_mem _ (inlX11 _ h)) hown hK hP 1 rfl rfl 15 (by decide) (hts _ (List.mem_cons_of_mem _ (in_r19 (List.mem_of_getElem? (i := 8) rfl)))) (fun _ h9 => h9) rfl dX11_read_92 ?_
          refine lv_isub hx hb dX11_read_95 ?_
          refine g_topi (y := iI ((-10) - NtA_98)) (iI_sub (-10) NtA_98) ?_
          have hP := hP.sub (ws' := [(m0, .inr (10, [.ref m_all, .ref m_kept, .ref m_isKept, .ref m_refused, .long (lI m_above), .long (lI m_below), .ref m_hand, .ref m_fewest, .ref m_whoBites, .ref m_leaves, .ref m_bestFeast, .ref m_tells, .ref m_hardOn, .ref m_bytes, .int (iI m_bytesLong), .int (iI NtA_98), .int (iI NtL_99), .int (iI Ntk_100), .int (iI Nva_101), .ref m_anew, .ref m_values])), (m_all, .inl (G.2 0, 311, .inl (cI mF))), (m_bytes, .inl (G.2 0, 150, .inl (cI my))), (m_values, .inl (G.2 0, 3, .inl (cI N_v_102))), (m_anew, .inl (G.2 0, 135, .inl (cI N_n_103)))]) [1, 0, 2, 3, 4] rfl
          have hD := hD.sub (ws' := [(m0, .inr (10, [.ref m_all, .ref m_kept, .ref m_isKept, .ref m_refused, .long (lI m_above), .long (lI m_below), .ref m_hand, .ref m_fewest, .ref m_whoBites, .ref m_leaves, .ref m_bestFeast, .ref m_tells, .ref m_hardOn, .ref m_bytes, .int (iI m_bytesLong), .int (iI NtA_98), .int (iI NtL_99), .int (iI Ntk_100), .int (iI Nva_101), .ref m_anew, .ref m_values])), (m_all, .inl (G.2 0, 311, .inl (cI mF))), (m_bytes, .inl (G.2 0, 150, .inl (cI my))), (m_values, .inl (G.2 0, 3, .inl (cI N_v_102))), (m_anew, .inl (G.2 0, 135, .inl (cI N_n_103)))]) [1, 0, 2, 3, 4] rfl rfl
          exact g_iret (v := (iI ((-10) - NtA_98))) hx hb hr hlocks hP hD hS (Or.inl ⟨((-10) - NtA_98), NtA_98, NtL_99, Ntk_100, Nva_101, N_v_102, N_n_103, (rdM_n hd_61 (by omega) (by omega) hs_80 (by assumption) k_111 (by omega) (by omega)), (by first | assumption | omega), (by first | exact k_113 | exact bpA_mono k_113 (by omega) | assumption), rfl, rfl⟩) dX11_read_96
    · have c_27 : ¬ (Ntk_18 = 3) := fun h9 => c_27 ((iI_eq (a := Ntk_18) (b := 3) (by omega) (by first | decide | omega)).mpr h9)
      refine lv_bipush (v := iI (-10)) hx hb dX11_read_46 (by decide) ?_
      refine lv_aload_n hx hb dX11_read_48 rfl (lv_at hl 0 rfl) ?_
      refine va_get (D := G.1) (ci := 10) (v := .int (iI NtA_16)) (C := RX11) (T := TX11) (N := 21) hx hb hts (fun _ h => List.mem_cons_of_mem _ (inlX11 _ h)) hown hK hP 3 rfl rfl 15 (by decide) (hts _ (List.mem_cons_of_mem _ (in_r19 (List.mem_of_getElem? (i := 8) rfl)))) (fun _ h9 => h9) rfl dX11_read_49 ?_
      refine lv_isub hx hb dX11_read_52 ?_
      refine g_topi (y := iI ((-10) - NtA_16)) (iI_sub (-10) NtA_16) ?_
      have hP := hP.sub (ws' := [(m0, .inr (10, [.ref m_all, .ref m_kept, .ref m_isKept, .ref m_refused, .long (lI m_above), .long (lI m_below), .ref m_hand, .ref m_fewest, .ref m_whoBites, .ref m_leaves, .ref m_bestFeast, .ref m_tells, .ref m_hardOn, .ref m_bytes, .int (iI m_bytesLong), .int (iI NtA_16), .int (iI NtL_17), .int (iI Ntk_18), .int (iI Nva_19), .ref m_anew, .ref m_values])), (m_all, .inl (G.2 0, 311, .inl (cI mF))), (m_bytes, .inl (G.2 0, 150, .inl (cI my))), (m_values, .inl (G.2 0, 3, .inl (cI mv))), (m_anew, .inl (G.2 0, 135, .inl (cI mn)))]) [3, 0, 4, 1, 2] rfl
      have hD := hD.sub (ws' := [(m0, .inr (10, [.ref m_all, .ref m_kept, .ref m_isKept, .ref m_refused, .long (lI m_above), .long (lI m_below), .ref m_hand, .ref m_fewest, .ref m_whoBites, .ref m_leaves, .ref m_bestFeast, .ref m_tells, .ref m_hardOn, .ref m_bytes, .int (iI m_bytesLong), .int (iI NtA_16), .int (iI NtL_17), .int (iI Ntk_18), .int (iI Nva_19), .ref m_anew, .ref m_values])), (m_all, .inl (G.2 0, 311, .inl (cI mF))), (m_bytes, .inl (G.2 0, 150, .inl (cI my))), (m_values, .inl (G.2 0, 3, .inl (cI mv))), (m_anew, .inl (G.2 0, 135, .inl (cI mn)))]) [3, 0, 4, 1, 2] rfl rfl
      exact g_iret (v := (iI ((-10) - NtA_16))) hx hb hr hlocks hP hD hS (Or.inl ⟨((-10) - NtA_16), NtA_16, NtL_17, Ntk_18, Nva_19, mv, mn, (rdM_1 k_25 (by omega) (by omega) (by omega) (by omega)), (by first | assumption | omega), (by first | exact y2_ | exact bpA_mono y2_ (by omega) | assumption), rfl, rfl⟩) dX11_read_53
  · have c_15 := (iI_eq (a := rr_12) (b := 0) (by omega) (by first | decide | omega)).mp c_15
    refine lv_bipush (v := iI (-10)) hx hb dX11_read_26 (by decide) ?_
    refine lv_aload_n hx hb dX11_read_28 rfl (lv_at hl 0 rfl) ?_
    refine va_get (D := G.1) (ci := 10) (v := .int (iI NtA_1)) (C := RX11) (T := TX11) (N := 21) hx hb hts (fun _ h => List.mem_cons_of_mem _ (inlX11 _ h)) hown hK hP 3 rfl rfl 15 (by decide) (hts _ (List.mem_cons_of_mem _ (in_r19 (List.mem_of_getElem? (i := 8) rfl)))) (fun _ h9 => h9) rfl dX11_read_29 ?_
    refine lv_isub hx hb dX11_read_32 ?_
    refine g_topi (y := iI ((-10) - NtA_1)) (iI_sub (-10) NtA_1) ?_
    have hP := hP.sub (ws' := [(m0, .inr (10, [.ref m_all, .ref m_kept, .ref m_isKept, .ref m_refused, .long (lI m_above), .long (lI m_below), .ref m_hand, .ref m_fewest, .ref m_whoBites, .ref m_leaves, .ref m_bestFeast, .ref m_tells, .ref m_hardOn, .ref m_bytes, .int (iI m_bytesLong), .int (iI NtA_1), .int (iI NtL_2), .int (iI Ntk_3), .int (iI Nva_4), .ref m_anew, .ref m_values])), (m_all, .inl (G.2 0, 311, .inl (cI mF))), (m_bytes, .inl (G.2 0, 150, .inl (cI my))), (m_values, .inl (G.2 0, 3, .inl (cI mv))), (m_anew, .inl (G.2 0, 135, .inl (cI mn)))]) [3, 0, 4, 1, 2] rfl
    have hD := hD.sub (ws' := [(m0, .inr (10, [.ref m_all, .ref m_kept, .ref m_isKept, .ref m_refused, .long (lI m_above), .long (lI m_below), .ref m_hand, .ref m_fewest, .ref m_whoBites, .ref m_leaves, .ref m_bestFeast, .ref m_tells, .ref m_hardOn, .ref m_bytes, .int (iI m_bytesLong), .int (iI NtA_1), .int (iI NtL_2), .int (iI Ntk_3), .int (iI Nva_4), .ref m_anew, .ref m_values])), (m_all, .inl (G.2 0, 311, .inl (cI mF))), (m_bytes, .inl (G.2 0, 150, .inl (cI my))), (m_values, .inl (G.2 0, 3, .inl (cI mv))), (m_anew, .inl (G.2 0, 135, .inl (cI mn)))]) [3, 0, 4, 1, 2] rfl rfl
    exact g_iret (v := (iI ((-10) - NtA_1))) hx hb hr hlocks hP hD hS (Or.inl ⟨((-10) - NtA_1), NtA_1, NtL_2, Ntk_3, Nva_4, mv, mn, (rdM_0 hra0 (by omega) (by omega) (by omega)), (by first | assumption | omega), (by first | exact y2_ | exact bpA_mono y2_ (by omega) | assumption), rfl, rfl⟩) dX11_read_33
