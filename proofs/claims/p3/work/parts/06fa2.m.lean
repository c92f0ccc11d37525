theorem dX11_spells_0 : decode cX11_spells 0 = .ok (.aload_n 0, 1) := by decide +kernel
theorem dX11_spells_1 : decode cX11_spells 1 = .ok (.getfield 250, 3) := by decide +kernel
theorem dX11_spells_4 : decode cX11_spells 4 = .ok (.iconst 1, 1) := by decide +kernel
theorem dX11_spells_5 : decode cX11_spells 5 = .ok (.if_icmp .ne 15, 3) := by decide +kernel
theorem dX11_spells_20 : decode cX11_spells 20 = .ok (.iconst 0, 1) := by decide +kernel
theorem dX11_spells_8 : decode cX11_spells 8 = .ok (.aload_n 0, 1) := by decide +kernel
theorem dX11_spells_9 : decode cX11_spells 9 = .ok (.getfield 247, 3) := by decide +kernel
theorem dX11_spells_12 : decode cX11_spells 12 = .ok (.iload_n 1, 1) := by decide +kernel
theorem dX11_spells_13 : decode cX11_spells 13 = .ok (.if_icmp .ne 7, 3) := by decide +kernel
theorem dX11_spells_16 : decode cX11_spells 16 = .ok (.iconst 1, 1) := by decide +kernel
theorem dX11_spells_17 : decode cX11_spells 17 = .ok (.goto 4, 3) := by decide +kernel
theorem dX11_spells_21 : decode cX11_spells 21 = .ok (.istore 8, 2) := by decide +kernel
theorem dX11_spells_23 : decode cX11_spells 23 = .ok (.iconst 0, 1) := by decide +kernel
theorem dX11_spells_24 : decode cX11_spells 24 = .ok (.istore 9, 2) := by decide +kernel
theorem dX11_spells_26 : decode cX11_spells 26 = .ok (.iload 9, 2) := by decide +kernel
theorem dX11_spells_28 : decode cX11_spells 28 = .ok (.iload_n 1, 1) := by decide +kernel
theorem dX11_spells_29 : decode cX11_spells 29 = .ok (.if_icmp .ge 90, 3) := by decide +kernel
theorem dX11_spells_119 : decode cX11_spells 119 = .ok (.iload 8, 2) := by decide +kernel
theorem dX11_spells_121 : decode cX11_spells 121 = .ok (.ireturn, 1) := by decide +kernel
theorem dX11_spells_32 : decode cX11_spells 32 = .ok (.iload 8, 2) := by decide +kernel
theorem dX11_spells_34 : decode cX11_spells 34 = .ok (.ifCond .eq 85, 3) := by decide +kernel
theorem dX11_spells_37 : decode cX11_spells 37 = .ok (.aload_n 0, 1) := by decide +kernel
theorem dX11_spells_38 : decode cX11_spells 38 = .ok (.getfield 48, 3) := by decide +kernel
theorem dX11_spells_41 : decode cX11_spells 41 = .ok (.aload_n 0, 1) := by decide +kernel
theorem dX11_spells_42 : decode cX11_spells 42 = .ok (.getfield 244, 3) := by decide +kernel
theorem dX11_spells_45 : decode cX11_spells 45 = .ok (.iload 9, 2) := by decide +kernel
theorem dX11_spells_47 : decode cX11_spells 47 = .ok (.iadd, 1) := by decide +kernel
theorem dX11_spells_48 : decode cX11_spells 48 = .ok (.iaload, 1) := by decide +kernel
theorem dX11_spells_49 : decode cX11_spells 49 = .ok (.iload 9, 2) := by decide +kernel
theorem dX11_spells_51 : decode cX11_spells 51 = .ok (.ifCond .ne 7, 3) := by decide +kernel
theorem dX11_spells_58 : decode cX11_spells 58 = .ok (.iload 9, 2) := by decide +kernel
theorem dX11_spells_60 : decode cX11_spells 60 = .ok (.iconst 1, 1) := by decide +kernel
theorem dX11_spells_61 : decode cX11_spells 61 = .ok (.if_icmp .ne 7, 3) := by decide +kernel
theorem dX11_spells_68 : decode cX11_spells 68 = .ok (.iload 9, 2) := by decide +kernel
theorem dX11_spells_70 : decode cX11_spells 70 = .ok (.iconst 2, 1) := by decide +kernel
theorem dX11_spells_71 : decode cX11_spells 71 = .ok (.if_icmp .ne 8, 3) := by decide +kernel
theorem dX11_spells_79 : decode cX11_spells 79 = .ok (.iload 9, 2) := by decide +kernel
theorem dX11_spells_81 : decode cX11_spells 81 = .ok (.iconst 3, 1) := by decide +kernel
theorem dX11_spells_82 : decode cX11_spells 82 = .ok (.if_icmp .ne 8, 3) := by decide +kernel
theorem dX11_spells_90 : decode cX11_spells 90 = .ok (.iload 9, 2) := by decide +kernel
theorem dX11_spells_92 : decode cX11_spells 92 = .ok (.iconst 4, 1) := by decide +kernel
theorem dX11_spells_93 : decode cX11_spells 93 = .ok (.if_icmp .ne 8, 3) := by decide +kernel
theorem dX11_spells_101 : decode cX11_spells 101 = .ok (.iload 7, 2) := by decide +kernel
theorem dX11_spells_96 : decode cX11_spells 96 = .ok (.iload 6, 2) := by decide +kernel
theorem dX11_spells_98 : decode cX11_spells 98 = .ok (.goto 5, 3) := by decide +kernel
theorem dX11_spells_85 : decode cX11_spells 85 = .ok (.iload 5, 2) := by decide +kernel
theorem dX11_spells_87 : decode cX11_spells 87 = .ok (.goto 16, 3) := by decide +kernel
theorem dX11_spells_74 : decode cX11_spells 74 = .ok (.iload 4, 2) := by decide +kernel
theorem dX11_spells_76 : decode cX11_spells 76 = .ok (.goto 27, 3) := by decide +kernel
theorem dX11_spells_64 : decode cX11_spells 64 = .ok (.iload_n 3, 1) := by decide +kernel
theorem dX11_spells_65 : decode cX11_spells 65 = .ok (.goto 38, 3) := by decide +kernel
theorem dX11_spells_54 : decode cX11_spells 54 = .ok (.iload_n 2, 1) := by decide +kernel
theorem dX11_spells_55 : decode cX11_spells 55 = .ok (.goto 48, 3) := by decide +kernel
theorem dX11_spells_103 : decode cX11_spells 103 = .ok (.if_icmp .ne 7, 3) := by decide +kernel
theorem dX11_spells_110 : decode cX11_spells 110 = .ok (.iconst 0, 1) := by decide +kernel
theorem dX11_spells_106 : decode cX11_spells 106 = .ok (.iconst 1, 1) := by decide +kernel
theorem dX11_spells_107 : decode cX11_spells 107 = .ok (.goto 4, 3) := by decide +kernel
theorem dX11_spells_111 : decode cX11_spells 111 = .ok (.istore 8, 2) := by decide +kernel
theorem dX11_spells_113 : decode cX11_spells 113 = .ok (.iinc 9 1, 3) := by decide +kernel
theorem dX11_spells_116 : decode cX11_spells 116 = .ok (.goto (-90), 3) := by decide +kernel
set_option maxHeartbeats 8000000 in
set_option maxRecDepth 100000 in
theorem c_X11_spells (l : Launch) (G : gG) (m0 : Nat) (m_all : Nat) (m_kept : Nat) (m_isKept : Nat) (m_refused : Nat) (m_above : Int) (m_below : Int) (m_hand : Nat) (m_fewest : Nat) (m_whoBites : Nat) (m_leaves : Nat) (m_bestFeast : Nat) (m_tells : Nat) (m_hardOn : Nat) (m_bytes : Nat) (m_bytesLong : Int) (m_tokenAt : Int) (m_tokenLong : Int) (m_token : Int) (m_value : Int) (m_anew : Nat) (m_values : Nat) (my : Nat → Int) (uS : Nat → Int) (uA : Nat → Int) (uV : Nat → Int) (uE : Nat → Int) (n0 : Int) (j0 : Int) (i0 : Nat) (s0 : Int) (a1 : Int) (a2 : Int) (a3 : Int) (a4 : Int) (a5 : Int) (a6 : Int) (y0_ : bd 0 127 my) (hL : 0 ≤ m_bytesLong ∧ m_bytesLong ≤ 150) (i0_ : 0 ≤ m_tokenAt ∧ 0 ≤ m_tokenLong ∧ m_tokenAt + m_tokenLong ≤ m_bytesLong) (i1_ : 0 ≤ m_token ∧ m_token ≤ 4) (i2_ : m_token = 0 ∨ 1 ≤ m_tokenLong) (i3_ : -2000 ≤ m_value ∧ m_value ≤ 2000) (hch : chF my m_bytesLong uS uA uV n0 uE) (hra : ra my uS uA uV uE j0 m_tokenAt m_tokenLong m_token m_value) (hj : 0 ≤ j0 ∧ j0 < n0) (hi7 : i0 < 7) (hcs : cs i0 s0 a1 a2 a3 a4 a5 a6) (hn : 0 ≤ s0 ∧ s0 ≤ 6) (ra1 : -2147483648 ≤ a1 ∧ a1 ≤ 2147483647) (ra2 : -2147483648 ≤ a2 ∧ a2 ≤ 2147483647) (ra3 : -2147483648 ≤ a3 ∧ a3 ≤ 2147483647) (ra4 : -2147483648 ≤ a4 ∧ a4 ≤ 2147483647) (ra5 : -2147483648 ≤ a5 ∧ a5 ≤ 2147483647) (ra6 : -2147483648 ≤ a6 ∧ a6 ≤ 2147483647) (sz : Nat) : gI G l yX11_spells wsX11_spells ({ frames := 0, cells := 0, slots := 0, locals := 0 } : Room) [.ref m0, .int (iI s0), .int (iI a1), .int (iI a2), .int (iI a3), .int (iI a4), .int (iI a5), .int (iI a6)] [(m0, .inr (10, [.ref m_all, .ref m_kept, .ref m_isKept, .ref m_refused, .long (lI m_above), .long (lI m_below), .ref m_hand, .ref m_fewest, .ref m_whoBites, .ref m_leaves, .ref m_bestFeast, .ref m_tells, .ref m_hardOn, .ref m_bytes, .int (iI m_bytesLong), .int (iI m_tokenAt), .int (iI m_tokenLong), .int (iI m_token), .int (iI m_value), .ref m_anew, .ref m_values])), (m_bytes, .inl (G.2 0, 150, .inl (cI my)))] sz (fun (r : Int32) (u : va_W) => (∃ rr : Int, (rr = 0 ∨ rr = 1) ∧ ((rr = 1 ∧ uS (j0 : Int).toNat = 4 + (i0 : Int)) ∨ (rr = 0 ∧ ¬ (uS (j0 : Int).toNat = 4 + (i0 : Int)))) ∧ r = (iI rr) ∧ u = [(m0, .inr (10, [.ref m_all, .ref m_kept, .ref m_isKept, .ref m_refused, .long (lI m_above), .long (lI m_below), .ref m_hand, .ref m_fewest, .ref m_whoBites, .ref m_leaves, .ref m_bestFeast, .ref m_tells, .ref m_hardOn, .ref m_bytes, .int (iI m_bytesLong), .int (iI m_tokenAt), .int (iI m_tokenLong), .int (iI m_token), .int (iI m_value), .ref m_anew, .ref m_values])), (m_bytes, .inl (G.2 0, 150, .inl (cI my)))])) := by
  refine Met.ofW (cc := cX11_spells) (maxL := 10) (ret := (some .boolean)) (by decide) rfl ?_
  intro p e s m args below meth c s₁ B hml hv
  obtain ⟨rfl, hsz, hP, hK, hD0, hN, hZ⟩ := hv
  have hx := B.exec
  have hb := B.bytes
  have hr := B.returns
  have hts := atoms_spec (ws := wsX11_spells) B.pre
  have hown : s.vm.findClass RX11 = some m.cls := findClass_of_methodNamed B.named
  have hlocks := B.notSynchronized
  subst hsz
  have hD := hD0.self (sz := s.heap.size)
  generalize hAe : va_A [(m0, .inr (10, [.ref m_all, .ref m_kept, .ref m_isKept, .ref m_refused, .long (lI m_above), .long (lI m_below), .ref m_hand, .ref m_fewest, .ref m_whoBites, .ref m_leaves, .ref m_bestFeast, .ref m_tells, .ref m_hardOn, .ref m_bytes, .int (iI m_bytesLong), .int (iI m_tokenAt), .int (iI m_tokenLong), .int (iI m_token), .int (iI m_value), .ref m_anew, .ref m_values])), (m_bytes, .inl (G.2 0, 150, .inl (cI my)))] s.heap.size = A at hD hZ ⊢
  have hA : ∀ q : Nat, s.heap.size ≤ q → A q := fun q h => by rw [← hAe]; exact Or.inr h
  have hS : va_S A s.heap s.heap [] := va_S.rf
  have hP : va_P G.1 vwCl [(m0, .inr (10, [.ref m_all, .ref m_kept, .ref m_isKept, .ref m_refused, .long (lI m_above), .long (lI m_below), .ref m_hand, .ref m_fewest, .ref m_whoBites, .ref m_leaves, .ref m_bestFeast, .ref m_tells, .ref m_hardOn, .ref m_bytes, .int (iI m_bytesLong), .int (iI m_tokenAt), .int (iI m_tokenLong), .int (iI m_token), .int (iI m_value), .ref m_anew, .ref m_values])), (m_bytes, .inl (G.2 0, 150, .inl (cI my)))] s.heap := hP
  have hl := lv_entry ([.ref m0, .int (iI s0), .int (iI a1), .int (iI a2), .int (iI a3), .int (iI a4), .int (iI a5), .int (iI a6)]) (n := 10) (Nat.le_of_ble_eq_true rfl)
  rw [lg_entry_eq]
  generalize (lg_sl ([.ref m0, .int (iI s0), .int (iI a1), .int (iI a2), .int (iI a3), .int (iI a4), .int (iI a5), .int (iI a6)]) ++ List.replicate (10 - (lg_sl ([.ref m0, .int (iI s0), .int (iI a1), .int (iI a2), .int (iI a3), .int (iI a4), .int (iI a5), .int (iI a6)])).length) Slot.unset).toArray = ls at hl ⊢
  have hl : lv_has ls 10 [(0, .ref m0), (1, .int (iI s0)), (2, .int (iI a1)), (3, .int (iI a2)), (4, .int (iI a3)), (5, .int (iI a4)), (6, .int (iI a5)), (7, .int (iI a6))] := hl
  refine lv_aload_n hx hb dX11_spells_0 rfl (lv_at hl 0 rfl) ?_
  refine va_get (D := G.1) (ci := 10) (v := .int (iI m_token)) (C := RX11) (T := TX11) (N := 21) hx hb hts (fun _ h => List.mem_cons_of_mem _ (inlX11 _ h)) hown hK hP 0 rfl rfl 17 (by decide) (hts _ (List.mem_cons_of_mem _ (in_r19 (List.mem_of_getElem? (i := 9) rfl)))) (fun _ h9 => h9) rfl dX11_spells_1 ?_
  refine lv_iconst (v := iI 1) hx hb dX11_spells_4 rfl ?_
  refine g_join (jn := 21) (rest := []) (fun t_1 ls => ((t_1 = 0 ∧ ¬ (m_token = 1 ∧ m_tokenLong = s0)) ∨ (t_1 = 1 ∧ m_token = 1 ∧ m_tokenLong = s0)) ∧ lv_has ls 10 [(0, .ref m0), (1, .int (iI s0)), (2, .int (iI a1)), (3, .int (iI a2)), (4, .int (iI a3)), (5, .int (iI a4)), (6, .int (iI a5)), (7, .int (iI a6))]) (fun t_1 ls hI => ?_) (fun hJ_2 => ?_)
  · obtain ⟨f_3, hl⟩ := hI
    refine lv_istore (lv' := [(8, .int (iI t_1)), (0, .ref m0), (1, .int (iI s0)), (2, .int (iI a1)), (3, .int (iI a2)), (4, .int (iI a3)), (5, .int (iI a4)), (6, .int (iI a5)), (7, .int (iI a6))]) hx hb dX11_spells_21 hl (by decide) rfl (fun ls hl => ?_)
    refine lv_iconst (v := iI 0) hx hb dX11_spells_23 rfl ?_
    refine lv_istore (lv' := [(9, .int (iI 0)), (8, .int (iI t_1)), (0, .ref m0), (1, .int (iI s0)), (2, .int (iI a1)), (3, .int (iI a2)), (4, .int (iI a3)), (5, .int (iI a4)), (6, .int (iI a5)), (7, .int (iI a6))]) hx hb dX11_spells_24 hl (by decide) rfl (fun ls hl => ?_)
    refine g_loopN (pc := 26) (fun nn H locs ls => ∃ s0__4 : Int, ∃ k0__5 : Int, (s0__4 = 0 ∨ (s0__4 = 1 ∧ s0 = m_tokenLong)) ∧ (0 ≤ k0__5 ∧ k0__5 ≤ s0) ∧ (spI i0 my m_tokenAt m_tokenLong m_token s0__4 k0__5) ∧ (6 - k0__5).toNat = nn ∧ va_P G.1 vwCl [(m0, .inr (10, [.ref m_all, .ref m_kept, .ref m_isKept, .ref m_refused, .long (lI m_above), .long (lI m_below), .ref m_hand, .ref m_fewest, .ref m_whoBites, .ref m_leaves, .ref m_bestFeast, .ref m_tells, .ref m_hardOn, .ref m_bytes, .int (iI m_bytesLong), .int (iI m_tokenAt), .int (iI m_tokenLong), .int (iI m_token), .int (iI m_value), .ref m_anew, .ref m_values])), (m_bytes, .inl (G.2 0, 150, .inl (cI my)))] H ∧ va_D A [(m0, .inr (10, [.ref m_all, .ref m_kept, .ref m_isKept, .ref m_refused, .long (lI m_above), .long (lI m_below), .ref m_hand, .ref m_fewest, .ref m_whoBites, .ref m_leaves, .ref m_bestFeast, .ref m_tells, .ref m_hardOn, .ref m_bytes, .int (iI m_bytesLong), .int (iI m_tokenAt), .int (iI m_tokenLong), .int (iI m_token), .int (iI m_value), .ref m_anew, .ref m_values])), (m_bytes, .inl (G.2 0, 150, .inl (cI my)))] ∧ va_S A s.heap H locs ∧ lv_has ls 10 [(9, .int (iI k0__5)), (8, .int (iI s0__4)), (0, .ref m0), (1, .int (iI s0)), (2, .int (iI a1)), (3, .int (iI a2)), (4, .int (iI a3)), (5, .int (iI a4)), (6, .int (iI a5)), (7, .int (iI a6))]) ?_ ⟨t_1, 0, (by first | assumption | omega), (by first | assumption | omega), (spI_0 hcs.1 (by omega)), rfl, hP, hD, hS, lv_sub hl [0, 1, 2, 3, 4, 5, 6, 7, 8, 9] rfl⟩
    intro nn_10 H locs ls ih_9 hI
    obtain ⟨s0__4, k0__5, f_6, f_7, f_8, hnn_11, hP, hD, hS, hl⟩ := hI
    refine lv_iload hx hb dX11_spells_26 (lv_at hl 0 rfl) ?_
    refine lv_iload_n hx hb dX11_spells_28 rfl (lv_at hl 3 rfl) ?_
    refine lv_icmp_ge (tgt := 119) hx hb dX11_spells_29 (by decide) (fun c_12 => ?_) (fun c_12 => ?_)
    · have c_12 := (iI_le (a := s0) (b := k0__5) (by omega) (by omega)).mp c_12
      refine lv_iload hx hb dX11_spells_119 (lv_at hl 1 rfl) ?_
      exact g_zret (v := (iI s0__4)) hx hb hr hlocks (narrow_z (by omega)) hP hD hS (⟨s0__4, (by first | assumption | omega), (spI_e hra hi7 (by assumption) (by have h9 : s0 = zL i0 := hcs.1; omega)), rfl, rfl⟩) dX11_spells_121
    · have c_12 : ¬ (s0 ≤ k0__5) := fun h9 => c_12 ((iI_le (a := s0) (b := k0__5) (by omega) (by omega)).mpr h9)
      refine lv_iload hx hb dX11_spells_32 (lv_at hl 1 rfl) ?_
      refine lv_if_eq (tgt := 119) hx hb dX11_spells_34 (by decide) (fun c_13 => ?_) (fun c_13 => ?_)
      · have c_13 := (iI_eq (a := s0__4) (b := 0) (by omega) (by omega)).mp c_13
        refine lv_iload hx hb dX11_spells_119 (lv_at hl 1 rfl) ?_
        exact g_zret (v := (iI s0__4)) hx hb hr hlocks (narrow_z (by omega)) hP hD hS (⟨s0__4, (by first | assumption | omega), (spI_e hra hi7 (by assumption) (by have h9 : s0 = zL i0 := hcs.1; omega)), rfl, rfl⟩) dX11_spells_121
      · have c_13 : ¬ (s0__4 = 0) := fun h9 => c_13 ((iI_eq (a := s0__4) (b := 0) (by omega) (by omega)).mpr h9)
        refine lv_aload_n hx hb dX11_spells_37 rfl (lv_at hl 2 rfl) ?_
        refine va_get (D := G.1) (ci := 10) (v := .ref m_bytes) (C := RX11) (T := TX11) (N := 21) hx hb hts (fun _ h => List.mem_cons_of_mem _ (inlX11 _ h)) hown hK hP 0 rfl rfl 13 (by decide) (hts _ (List.mem_cons_of_mem _ (in_r6 (List.mem_of_getElem? (i := 12) rfl)))) (fun _ h9 => h9) rfl dX11_spells_38 ?_
        refine lv_aload_n hx hb dX11_spells_41 rfl (lv_at hl 2 rfl) ?_
        refine va_get (D := G.1) (ci := 10) (v := .int (iI m_tokenAt)) (C := RX11) (T := TX11) (N := 21) hx hb hts (fun _ h => List.mem_cons_of_mem _ (inlX11 _ h)) hown hK hP 0 rfl rfl 15 (by decide) (hts _ (List.mem_cons_of_mem _ (in_r19 (List.mem_of_getElem? (i := 8) rfl)))) (fun _ h9 => h9) rfl dX11_spells_42 ?_
        refine lv_iload hx hb dX11_spells_45 (lv_at hl 0 rfl) ?_
        refine lv_iadd hx hb dX11_spells_47 ?_
        refine g_topi (y := iI (m_tokenAt + k0__5)) (iI_add m_tokenAt k0__5) ?_
        refine g_ild hx hb hK hP 1 rfl (by omega) (by omega) (by omega) dX11_spells_48 (fun w_14 ew_14 => ?_)
        have ew_14 : my ((m_tokenAt + k0__5).toNat) = w_14 := ew_14
        subst ew_14
        have b0w_14 := y0_ ((m_tokenAt + k0__5).toNat)
        refine lv_iload hx hb dX11_spells_49 (lv_at hl 0 rfl) ?_
        refine g_join (jn := 103) (rest := [.int (iI (my ((m_tokenAt + k0__5).toNat)))]) (fun t_15 ls => ((k0__5 = 0 ∧ t_15 = a1) ∨ (k0__5 = 1 ∧ t_15 = a2) ∨ (k0__5 = 2 ∧ t_15 = a3) ∨ (k0__5 = 3 ∧ t_15 = a4) ∨ (k0__5 = 4 ∧ t_15 = a5) ∨ ((k0__5 < 0 ∨ 4 < k0__5) ∧ t_15 = a6)) ∧ lv_has ls 10 [(9, .int (iI k0__5)), (8, .int (iI s0__4)), (0, .ref m0), (1, .int (iI s0)), (2, .int (iI a1)), (3, .int (iI a2)), (4, .int (iI a3)), (5, .int (iI a4)), (6, .int (iI a5)), (7, .int (iI a6))]) (fun t_15 ls hI => ?_) (fun hJ_16 => ?_)
        · obtain ⟨f_17, hl⟩ := hI
          refine g_join (jn := 111) (rest := []) (fun t_18 ls => ((¬ ((my ((m_tokenAt + k0__5).toNat)) = t_15) ∧ t_18 = 0) ∨ ((my ((m_tokenAt + k0__5).toNat)) = t_15 ∧ t_18 = 1)) ∧ lv_has ls 10 [(9, .int (iI k0__5)), (8, .int (iI s0__4)), (0, .ref m0), (1, .int (iI s0)), (2, .int (iI a1)), (3, .int (iI a2)), (4, .int (iI a3)), (5, .int (iI a4)), (6, .int (iI a5)), (7, .int (iI a6))]) (fun t_18 ls hI => ?_) (fun hJ_19 => ?_)
          · obtain ⟨f_20, hl⟩ := hI
            refine lv_istore (lv' := [(8, .int (iI t_18)), (9, .int (iI k0__5)), (0, .ref m0), (1, .int (iI s0)), (2, .int (iI a1)), (3, .int (iI a2)), (4, .int (iI a3)), (5, .int (iI a4)), (6, .int (iI a5)), (7, .int (iI a6))]) hx hb dX11_spells_111 hl (by decide) rfl (fun ls hl => ?_)
            refine lv_iinc (v := iI (k0__5 + 1)) (lv' := [(9, .int (iI (k0__5 + 1))), (8, .int (iI t_18)), (0, .ref m0), (1, .int (iI s0)), (2, .int (iI a1)), (3, .int (iI a2)), (4, .int (iI a3)), (5, .int (iI a4)), (6, .int (iI a5)), (7, .int (iI a6))]) hx hb dX11_spells_113 hl (k := 1) rfl (iI_add k0__5 1) (by decide) rfl (fun ls hl => ?_)
            refine lv_goto (tgt := 26) hx hb dX11_spells_116 (by decide) ?_
            exact ih_9 _ _ _ _ (by omega) ⟨t_18, (k0__5 + 1), (by first | assumption | omega), (by first | assumption | omega), (spI_s hcs (by assumption) (by omega) (by omega) (by assumption) (by omega)), rfl, hP, hD, hS, lv_sub hl [0, 1, 2, 3, 4, 5, 6, 7, 8, 9] rfl⟩
          · refine lv_icmp_ne (tgt := 110) hx hb dX11_spells_103 (by decide) (fun c_21 => ?_) (fun c_21 => ?_)
            · have c_21 : ¬ ((my ((m_tokenAt + k0__5).toNat)) = t_15) := fun h9 => c_21 ((iI_eq (a := (my ((m_tokenAt + k0__5).toNat))) (b := t_15) (by omega) (by omega)).mpr h9)
              refine lv_iconst (v := iI 0) hx hb dX11_spells_110 rfl ?_
              exact hJ_19 0 ls ⟨by omega, lv_sub hl [0, 1, 2, 3, 4, 5, 6, 7, 8, 9] rfl⟩
            · have c_21 := (iI_eq (a := (my ((m_tokenAt + k0__5).toNat))) (b := t_15) (by omega) (by omega)).mp c_21
              refine lv_iconst (v := iI 1) hx hb dX11_spells_106 rfl ?_
              refine lv_goto (tgt := 111) hx hb dX11_spells_107 (by decide) ?_
              exact hJ_19 1 ls ⟨by omega, lv_sub hl [0, 1, 2, 3, 4, 5, 6, 7, 8, 9] rfl⟩
        · refine lv_if_ne (tgt := 58) hx hb dX11_spells_51 (by decide) (fun c_22 => ?_) (fun c_22 => ?_)
          · have c_22 : ¬ (k0__5 = 0) := fun h9 => c_22 ((iI_eq (a := k0__5) (b := 0) (by omega) (by omega)).mpr h9)
            refine lv_iload hx hb dX11_spells_58 (lv_at hl 0 rfl) ?_
            refine lv_iconst (v := iI 1) hx hb dX11_spells_60 rfl ?_
            refine g_join (jn := 103) (rest := [.int (iI (my ((m_tokenAt + k0__5).toNat)))]) (fun t_23 ls => ((k0__5 = 0 ∧ t_23 = a1) ∨ (k0__5 = 1 ∧ t_23 = a2) ∨ (k0__5 = 2 ∧ t_23 = a3) ∨ (k0__5 = 3 ∧ t_23 = a4) ∨ (k0__5 = 4 ∧ t_23 = a5) ∨ ((k0__5 < 0 ∨ 4 < k0__5) ∧ t_23 = a6)) ∧ lv_has ls 10 [(9, .int (iI k0__5)), (8, .int (iI s0__4)), (0, .ref m0), (1, .int (iI s0)), (2, .int (iI a1)), (3, .int (iI a2)), (4, .int (iI a3)), (5, .int (iI a4)), (6, .int (iI a5)), (7, .int (iI a6))]) (fun t_23 ls hI => ?_) (fun hJ_24 => ?_)
            · obtain ⟨f_25, hl⟩ := hI
              exact hJ_16 t_23 ls ⟨by omega, lv_sub hl [0, 1, 2, 3, 4, 5, 6, 7, 8, 9] rfl⟩
            · refine lv_icmp_ne (tgt := 68) hx hb dX11_spells_61 (by decide) (fun c_26 => ?_) (fun c_26 => ?_)
              · have c_26 : ¬ (k0__5 = 1) := fun h9 => c_26 ((iI_eq (a := k0__5) (b := 1) (by omega) (by omega)).mpr h9)
                refine lv_iload hx hb dX11_spells_68 (lv_at hl 0 rfl) ?_
                refine lv_iconst (v := iI 2) hx hb dX11_spells_70 rfl ?_
                refine g_join (jn := 103) (rest := [.int (iI (my ((m_tokenAt + k0__5).toNat)))]) (fun t_27 ls => ((k0__5 = 0 ∧ t_27 = a1) ∨ (k0__5 = 1 ∧ t_27 = a2) ∨ (k0__5 = 2 ∧ t_27 = a3) ∨ (k0__5 = 3 ∧ t_27 = a4) ∨ (k0__5 = 4 ∧ t_27 = a5) ∨ ((k0__5 < 0 ∨ 4 < k0__5) ∧ t_27 = a6)) ∧ lv_has ls 10 [(9, .int (iI k0__5)), (8, .int (iI s0__4)), (0, .ref m0), (1, .int (iI s0)), (2, .int (iI a1)), (3, .int (iI a2)), (4, .int (iI a3)), (5, .int (iI a4)), (6, .int (iI a5)), (7, .int (iI a6))]) (fun t_27 ls hI => ?_) (fun hJ_28 => ?_)
                · obtain ⟨f_29, hl⟩ := hI
                  exact hJ_24 t_27 ls ⟨by omega, lv_sub hl [0, 1, 2, 3, 4, 5, 6, 7, 8, 9] rfl⟩
                · refine lv_icmp_ne (tgt := 79) hx hb dX11_spells_71 (by decide) (fun c_30 => ?_) (fun c_30 => ?_)
                  · have c_30 : ¬ (k0__5 = 2) := fun h9 => c_30 ((iI_eq (a := k0__5) (b := 2) (by omega) (by omega)).mpr h9)
                    refine lv_iload hx hb dX11_spells_79 (lv_at hl 0 rfl) ?_
                    refine lv_iconst (v := iI 3) hx hb dX11_spells_81 rfl ?_
                    refine g_join (jn := 103) (rest := [.int (iI (my ((m_tokenAt + k0__5).toNat)))]) (fun t_31 ls => ((k0__5 = 0 ∧ t_31 = a1) ∨ (k0__5 = 1 ∧ t_31 = a2) ∨ (k0__5 = 2 ∧ t_31 = a3) ∨ (k0__5 = 3 ∧ t_31 = a4) ∨ (k0__5 = 4 ∧ t_31 = a5) ∨ ((k0__5 < 0 ∨ 4 < k0__5) ∧ t_31 = a6)) ∧ lv_has ls 10 [(9, .int (iI k0__5)), (8, .int (iI s0__4)), (0, .ref m0), (1, .int (iI s0)), (2, .int (iI a1)), (3, .int (iI a2)), (4, .int (iI a3)), (5, .int (iI a4)), (6, .int (iI a5)), (7, .int (iI a6))]) (fun t_31 ls hI => ?_) (fun hJ_32 => ?_)
                    · obtain ⟨f_33, hl⟩ := hI
                      exact hJ_28 t_31 ls ⟨by omega, lv_sub hl [0, 1, 2, 3, 4, 5, 6, 7, 8, 9] rfl⟩
                    · refine lv_icmp_ne (tgt := 90) hx hb dX11_spells_82 (by decide) (fun c_34 => ?_) (fun c_34 => ?_)
                      · have c_34 : ¬ (k0__5 = 3) := fun h9 => c_34 ((iI_eq (a := k0__5) (b := 3) (by omega) (by omega)).mpr h9)
                        refine lv_iload hx hb dX11_spells_90 (lv_at hl 0 rfl) ?_
                        refine lv_iconst (v := iI 4) hx hb dX11_spells_92 rfl ?_
                        refine g_join (jn := 103) (rest := [.int (iI (my ((m_tokenAt + k0__5).toNat)))]) (fun t_35 ls => ((k0__5 = 0 ∧ t_35 = a1) ∨ (k0__5 = 1 ∧ t_35 = a2) ∨ (k0__5 = 2 ∧ t_35 = a3) ∨ (k0__5 = 3 ∧ t_35 = a4) ∨ (k0__5 = 4 ∧ t_35 = a5) ∨ ((k0__5 < 0 ∨ 4 < k0__5) ∧ t_35 = a6)) ∧ lv_has ls 10 [(9, .int (iI k0__5)), (8, .int (iI s0__4)), (0, .ref m0), (1, .int (iI s0)), (2, .int (iI a1)), (3, .int (iI a2)), (4, .int (iI a3)), (5, .int (iI a4)), (6, .int (iI a5)), (7, .int (iI a6))]) (fun t_35 ls hI => ?_) (fun hJ_36 => ?_)
                        · obtain ⟨f_37, hl⟩ := hI
                          exact hJ_32 t_35 ls ⟨by omega, lv_sub hl [0, 1, 2, 3, 4, 5, 6, 7, 8, 9] rfl⟩
                        · refine lv_icmp_ne (tgt := 101) hx hb dX11_spells_93 (by decide) (fun c_38 => ?_) (fun c_38 => ?_)
                          · have c_38 : ¬ (k0__5 = 4) := fun h9 => c_38 ((iI_eq (a := k0__5) (b := 4) (by omega) (by omega)).mpr h9)
                            refine lv_iload hx hb dX11_spells_101 (lv_at hl 9 rfl) ?_
                            exact hJ_36 a6 ls ⟨by omega, lv_sub hl [0, 1, 2, 3, 4, 5, 6, 7, 8, 9] rfl⟩
                          · have c_38 := (iI_eq (a := k0__5) (b := 4) (by omega) (by omega)).mp c_38
                            refine lv_iload hx hb dX11_spells_96 (lv_at hl 8 rfl) ?_
                            refine lv_goto (tgt := 103) hx hb dX11_spells_98 (by decide) ?_
                            exact hJ_36 a5 ls ⟨by omega, lv_sub hl [0, 1, 2, 3, 4, 5, 6, 7, 8, 9] rfl⟩
                      · have c_34 := (iI_eq (a := k0__5) (b := 3) (by omega) (by omega)).mp c_34
                        refine lv_iload hx hb dX11_spells_85 (lv_at hl 7 rfl) ?_
                        refine lv_goto (tgt := 103) hx hb dX11_spells_87 (by decide) ?_
                        exact hJ_32 a4 ls ⟨by omega, lv_sub hl [0, 1, 2, 3, 4, 5, 6, 7, 8, 9] rfl⟩
                  · have c_30 := (iI_eq (a := k0__5) (b := 2) (by omega) (by omega)).mp c_30
                    refine lv_iload hx hb dX11_spells_74 (lv_at hl 6 rfl) ?_
                    refine lv_goto (tgt := 103) hx hb dX11_spells_76 (by decide) ?_
                    exact hJ_28 a3 ls ⟨by omega, lv_sub hl [0, 1, 2, 3, 4, 5, 6, 7, 8, 9] rfl⟩
              · have c_26 := (iI_eq (a := k0__5) (b := 1) (by omega) (by omega)).mp c_26
                refine lv_iload_n hx hb dX11_spells_64 rfl (lv_at hl 5 rfl) ?_
                refine lv_goto (tgt := 103) hx hb dX11_spells_65 (by decide) ?_
                exact hJ_24 a2 ls ⟨by omega, lv_sub hl [0, 1, 2, 3, 4, 5, 6, 7, 8, 9] rfl⟩
          · have c_22 := (iI_eq (a := k0__5) (b := 0) (by omega) (by omega)).mp c_22
            refine lv_iload_n hx hb dX11_spells_54 rfl (lv_at hl 4 rfl) ?_
            refine lv_goto (tgt := 103) hx hb dX11_spells_55 (by decide) ?_
            exact hJ_16 a1 ls ⟨by omega, lv_sub hl [0, 1, 2, 3, 4, 5, 6, 7, 8, 9] rfl⟩
  · refine lv_icmp_ne (tgt := 20) hx hb dX11_spells_5 (by decide) (fun c_39 => ?_) (fun c_39 => ?_)
    · have c_39 : ¬ (m_token = 1) := fun h9 => c_39 ((iI_eq (a := m_token) (b := 1) (by omega) (by omega)).mpr h9)
      refine lv_iconst (v := iI 0) hx hb dX11_spells_20 rfl ?_
      exact hJ_2 0 ls ⟨by omega, lv_sub hl [0, 1, 2, 3, 4, 5, 6, 7] rfl⟩
    · have c_39 := (iI_eq (a := m_token) (b := 1) (by omega) (by omega)).mp c_39
      refine lv_aload_n hx hb dX11_spells_8 rfl (lv_at hl 0 rfl) ?_
      refine va_get (D := G.1) (ci := 10) (v := .int (iI m_tokenLong)) (C := RX11) (T := TX11) (N := 21) hx hb hts (fun _ h => List.mem_cons_of_mem _ (inlX11 _ h)) hown hK hP 0 rfl rfl 16 (by decide) (hts _ (List.mem_cons_of_mem _ (in_r19 (List.mem_of_getElem? (i := 14) rfl)))) (fun _ h9 => h9) rfl dX11_spells_9 ?_
      refine lv_iload_n hx hb dX11_spells_12 rfl (lv_at hl 1 rfl) ?_
      refine g_join (jn := 21) (rest := []) (fun t_40 ls => ((¬ (m_tokenLong = s0) ∧ t_40 = 0) ∨ (m_tokenLong = s0 ∧ t_40 = 1)) ∧ lv_has ls 10 [(0, .ref m0), (1, .int (iI s0)), (2, .int (iI a1)), (3, .int (iI a2)), (4, .int (iI a3)), (5, .int (iI a4)), (6, .int (iI a5)), (7, .int (iI a6))]) (fun t_40 ls hI => ?_) (fun hJ_41 => ?_)
      · obtain ⟨f_42, hl⟩ := hI
        exact hJ_2 t_40 ls ⟨by omega, lv_sub hl [0, 1, 2, 3, 4, 5, 6, 7] rfl⟩
      · refine lv_icmp_ne (tgt := 20) hx hb dX11_spells_13 (by decide) (fun c_43 => ?_) (fun c_43 => ?_)
        · have c_43 : ¬ (m_tokenLong = s0) := fun h9 => c_43 ((iI_eq (a := m_tokenLong) (b := s0) (by omega) (by omega)).mpr h9)
          refine lv_iconst (v := iI 0) hx hb dX11_spells_20 rfl ?_
          exact hJ_41 0 ls ⟨by omega, lv_sub hl [0, 1, 2, 3, 4, 5, 6, 7] rfl⟩
        · have c_43 := (iI_eq (a := m_tokenLong) (b := s0) (by omega) (by omega)).mp c_43
          refine lv_iconst (v := iI 1) hx hb dX11_spells_16 rfl ?_
          refine lv_goto (tgt := 21) hx hb dX11_spells_17 (by decide) ?_
          exact hJ_41 1 ls ⟨by omega, lv_sub hl [0, 1, 2, 3, 4, 5, 6, 7] rfl⟩
