theorem dX11_isApplesNumber_0 : decode cX11_isApplesNumber 0 = .ok (.aload_n 0, 1) := by decide +kernel
theorem dX11_isApplesNumber_1 : decode cX11_isApplesNumber 1 = .ok (.getfield 250, 3) := by decide +kernel
theorem dX11_isApplesNumber_4 : decode cX11_isApplesNumber 4 = .ok (.iconst 2, 1) := by decide +kernel
theorem dX11_isApplesNumber_5 : decode cX11_isApplesNumber 5 = .ok (.if_icmp .ne 42, 3) := by decide +kernel
theorem dX11_isApplesNumber_47 : decode cX11_isApplesNumber 47 = .ok (.iconst 0, 1) := by decide +kernel
theorem dX11_isApplesNumber_48 : decode cX11_isApplesNumber 48 = .ok (.ireturn, 1) := by decide +kernel
theorem dX11_isApplesNumber_8 : decode cX11_isApplesNumber 8 = .ok (.aload_n 0, 1) := by decide +kernel
theorem dX11_isApplesNumber_9 : decode cX11_isApplesNumber 9 = .ok (.getfield 253, 3) := by decide +kernel
theorem dX11_isApplesNumber_12 : decode cX11_isApplesNumber 12 = .ok (.i2l, 1) := by decide +kernel
theorem dX11_isApplesNumber_13 : decode cX11_isApplesNumber 13 = .ok (.lconst 0, 1) := by decide +kernel
theorem dX11_isApplesNumber_14 : decode cX11_isApplesNumber 14 = .ok (.aload_n 0, 1) := by decide +kernel
theorem dX11_isApplesNumber_15 : decode cX11_isApplesNumber 15 = .ok (.getfield 51, 3) := by decide +kernel
theorem dX11_isApplesNumber_18 : decode cX11_isApplesNumber 18 = .ok (.iconst 0, 1) := by decide +kernel
theorem dX11_isApplesNumber_19 : decode cX11_isApplesNumber 19 = .ok (.iaload, 1) := by decide +kernel
theorem dX11_isApplesNumber_20 : decode cX11_isApplesNumber 20 = .ok (.iconst 1, 1) := by decide +kernel
theorem dX11_isApplesNumber_21 : decode cX11_isApplesNumber 21 = .ok (.isub, 1) := by decide +kernel
theorem dX11_isApplesNumber_22 : decode cX11_isApplesNumber 22 = .ok (.i2l, 1) := by decide +kernel
theorem gX11_isApplesNumber_X11_in : GoodIn wsX11_isApplesNumber (va_wsS RX11 65 yX11_in wsX11_in) := gW_S (in_r8 (List.mem_of_getElem? (i := 9) rfl)) (in_r8 (List.mem_of_getElem? (i := 10) rfl)) (in_r1 (List.mem_of_getElem? (i := 5) rfl)) (in_r8 (List.mem_of_getElem? (i := 11) rfl))
theorem dX11_isApplesNumber_23 : decode cX11_isApplesNumber 23 = .ok (.invokestatic 65, 3) := by decide +kernel
theorem dX11_isApplesNumber_26 : decode cX11_isApplesNumber 26 = .ok (.ifCond .eq 21, 3) := by decide +kernel
theorem dX11_isApplesNumber_29 : decode cX11_isApplesNumber 29 = .ok (.aload_n 0, 1) := by decide +kernel
theorem dX11_isApplesNumber_30 : decode cX11_isApplesNumber 30 = .ok (.getfield 51, 3) := by decide +kernel
theorem dX11_isApplesNumber_33 : decode cX11_isApplesNumber 33 = .ok (.aload_n 0, 1) := by decide +kernel
theorem dX11_isApplesNumber_34 : decode cX11_isApplesNumber 34 = .ok (.getfield 253, 3) := by decide +kernel
theorem gX11_isApplesNumber_X11_isOut : GoodIn wsX11_isApplesNumber (va_wsS RX11 120 yX11_isOut wsX11_isOut) := gW_S (in_r21 (List.mem_of_getElem? (i := 14) rfl)) (in_r21 (List.mem_of_getElem? (i := 15) rfl)) (in_r1 (List.mem_of_getElem? (i := 5) rfl)) (in_r21 (List.mem_of_getElem? (i := 16) rfl))
theorem dX11_isApplesNumber_37 : decode cX11_isApplesNumber 37 = .ok (.invokestatic 120, 3) := by decide +kernel
theorem dX11_isApplesNumber_40 : decode cX11_isApplesNumber 40 = .ok (.ifCond .ne 7, 3) := by decide +kernel
theorem dX11_isApplesNumber_43 : decode cX11_isApplesNumber 43 = .ok (.iconst 1, 1) := by decide +kernel
theorem dX11_isApplesNumber_44 : decode cX11_isApplesNumber 44 = .ok (.goto 4, 3) := by decide +kernel
set_option maxHeartbeats 8000000 in
set_option maxRecDepth 100000 in
theorem c_X11_isApplesNumber (l : Launch) (G : gG) (m0 : Nat) (m_all : Nat) (m_kept : Nat) (m_isKept : Nat) (m_refused : Nat) (m_above : Int) (m_below : Int) (m_hand : Nat) (m_fewest : Nat) (m_whoBites : Nat) (m_leaves : Nat) (m_bestFeast : Nat) (m_tells : Nat) (m_hardOn : Nat) (m_bytes : Nat) (m_bytesLong : Int) (m_tokenAt : Int) (m_tokenLong : Int) (m_token : Int) (m_value : Int) (m_anew : Nat) (m_values : Nat) (mn : Nat → Int) (K0 : Int) (y0_ : bp (plA K0) mn) (hva : -2000 ≤ m_value ∧ m_value ≤ 2000) (htk : 0 ≤ m_token ∧ m_token ≤ 4) (hK0 : 1000 ≤ K0 ∧ K0 ≤ 1900000) (sz : Nat) : gI G l yX11_isApplesNumber wsX11_isApplesNumber ({ frames := 1, cells := 0, slots := 0, locals := 25 } : Room) [.ref m0] [(m0, .inr (10, [.ref m_all, .ref m_kept, .ref m_isKept, .ref m_refused, .long (lI m_above), .long (lI m_below), .ref m_hand, .ref m_fewest, .ref m_whoBites, .ref m_leaves, .ref m_bestFeast, .ref m_tells, .ref m_hardOn, .ref m_bytes, .int (iI m_bytesLong), .int (iI m_tokenAt), .int (iI m_tokenLong), .int (iI m_token), .int (iI m_value), .ref m_anew, .ref m_values])), (m_anew, .inl (G.2 0, 135, .inl (cI mn)))] sz (fun (r : Int32) (u : va_W) => (((m_token = 2 ∧ 0 ≤ m_value ∧ m_value ≤ mn 0 - 1) ∧ mn ((20 + m_value).toNat) = 0) ∧ (m_value ≤ 6) ∧ r = (iI 1) ∧ u = [(m0, .inr (10, [.ref m_all, .ref m_kept, .ref m_isKept, .ref m_refused, .long (lI m_above), .long (lI m_below), .ref m_hand, .ref m_fewest, .ref m_whoBites, .ref m_leaves, .ref m_bestFeast, .ref m_tells, .ref m_hardOn, .ref m_bytes, .int (iI m_bytesLong), .int (iI m_tokenAt), .int (iI m_tokenLong), .int (iI m_token), .int (iI m_value), .ref m_anew, .ref m_values])), (m_anew, .inl (G.2 0, 135, .inl (cI mn)))]) ∨ ((¬ ((m_token = 2 ∧ 0 ≤ m_value ∧ m_value ≤ mn 0 - 1) ∧ mn ((20 + m_value).toNat) = 0)) ∧ r = (iI 0) ∧ u = [(m0, .inr (10, [.ref m_all, .ref m_kept, .ref m_isKept, .ref m_refused, .long (lI m_above), .long (lI m_below), .ref m_hand, .ref m_fewest, .ref m_whoBites, .ref m_leaves, .ref m_bestFeast, .ref m_tells, .ref m_hardOn, .ref m_bytes, .int (iI m_bytesLong), .int (iI m_tokenAt), .int (iI m_tokenLong), .int (iI m_token), .int (iI m_value), .ref m_anew, .ref m_values])), (m_anew, .inl (G.2 0, 135, .inl (cI mn)))])) := by
  refine Met.ofW (cc := cX11_isApplesNumber) (maxL := 1) (ret := (some .boolean)) (by decide) rfl ?_
  intro p e s m args below meth c s₁ B hml hv
  obtain ⟨rfl, hsz, hP, hK, hD0, hN, hZ⟩ := hv
  have hx := B.exec
  have hb := B.bytes
  have hr := B.returns
  have hts := atoms_spec (ws := wsX11_isApplesNumber) B.pre
  have hown : s.vm.findClass RX11 = some m.cls := findClass_of_methodNamed B.named
  have hlocks := B.notSynchronized
  subst hsz
  have hD := hD0.self (sz := s.heap.size)
  generalize hAe : va_A [(m0, .inr (10, [.ref m_all, .ref m_kept, .ref m_isKept, .ref m_refused, .long (lI m_above), .long (lI m_below), .ref m_hand, .ref m_fewest, .ref m_whoBites, .ref m_leaves, .ref m_bestFeast, .ref m_tells, .ref m_hardOn, .ref m_bytes, .int (iI m_bytesLong), .int (iI m_tokenAt), .int (iI m_tokenLong), .int (iI m_token), .int (iI m_value), .ref m_anew, .ref m_values])), (m_anew, .inl (G.2 0, 135, .inl (cI mn)))] s.heap.size = A at hD hZ ⊢
  have hA : ∀ q : Nat, s.heap.size ≤ q → A q := fun q h => by rw [← hAe]; exact Or.inr h
  have hS : va_S A s.heap s.heap [] := va_S.rf
  have hP : va_P G.1 vwCl [(m0, .inr (10, [.ref m_all, .ref m_kept, .ref m_isKept, .ref m_refused, .long (lI m_above), .long (lI m_below), .ref m_hand, .ref m_fewest, .ref m_whoBites, .ref m_leaves, .ref m_bestFeast, .ref m_tells, .ref m_hardOn, .ref m_bytes, .int (iI m_bytesLong), .int (iI m_tokenAt), .int (iI m_tokenLong), .int (iI m_token), .int (iI m_value), .ref m_anew, .ref m_values])), (m_anew, .inl (G.2 0, 135, .inl (cI mn)))] s.heap := hP
  have hl := lv_entry ([.ref m0]) (n := 1) (Nat.le_of_ble_eq_true rfl)
  rw [lg_entry_eq]
  generalize (lg_sl ([.ref m0]) ++ List.replicate (1 - (lg_sl ([.ref m0])).length) Slot.unset).toArray = ls at hl ⊢
  have hl : lv_has ls 1 [(0, .ref m0)] := hl
  refine lv_aload_n hx hb dX11_isApplesNumber_0 rfl (lv_at hl 0 rfl) ?_
  refine va_get (D := G.1) (ci := 10) (v := .int (iI m_token)) (C := RX11) (T := TX11) (N := 21) hx hb hts (fun _ h => List.mem_cons_of_mem _ (inlX11 _ h)) hown hK hP 0 rfl rfl 17 (by decide) (hts _ (List.mem_cons_of_mem _ (in_r19 (List.mem_of_getElem? (i := 9) rfl)))) (fun _ h9 => h9) rfl dX11_isApplesNumber_1 ?_
  refine lv_iconst (v := iI 2) hx hb dX11_isApplesNumber_4 rfl ?_
  refine lv_icmp_ne (tgt := 47) hx hb dX11_isApplesNumber_5 (by decide) (fun c_1 => ?_) (fun c_1 => ?_)
  · have c_1 : ¬ (m_token = 2) := fun h9 => c_1 ((iI_eq (a := m_token) (b := 2) (by omega) (by omega)).mpr h9)
    refine lv_iconst (v := iI 0) hx hb dX11_isApplesNumber_47 rfl ?_
    exact g_zret (v := (iI 0)) hx hb hr hlocks rfl hP hD hS (Or.inr (⟨(by first | assumption | omega), rfl, rfl⟩)) dX11_isApplesNumber_48
  · have c_1 := (iI_eq (a := m_token) (b := 2) (by omega) (by omega)).mp c_1
    refine lv_aload_n hx hb dX11_isApplesNumber_8 rfl (lv_at hl 0 rfl) ?_
    refine va_get (D := G.1) (ci := 10) (v := .int (iI m_value)) (C := RX11) (T := TX11) (N := 21) hx hb hts (fun _ h => List.mem_cons_of_mem _ (inlX11 _ h)) hown hK hP 0 rfl rfl 18 (by decide) (hts _ (List.mem_cons_of_mem _ (in_r19 (List.mem_of_getElem? (i := 15) rfl)))) (fun _ h9 => h9) rfl dX11_isApplesNumber_9 ?_
    refine lv_i2l (v := lI m_value) hx hb dX11_isApplesNumber_12 (i2l_iI (by omega)) ?_
    refine lv_lconst (v := lI 0) hx hb dX11_isApplesNumber_13 (by decide) ?_
    refine lv_aload_n hx hb dX11_isApplesNumber_14 rfl (lv_at hl 0 rfl) ?_
    refine va_get (D := G.1) (ci := 10) (v := .ref m_anew) (C := RX11) (T := TX11) (N := 21) hx hb hts (fun _ h => List.mem_cons_of_mem _ (inlX11 _ h)) hown hK hP 0 rfl rfl 19 (by decide) (hts _ (List.mem_cons_of_mem _ (in_r6 (List.mem_of_getElem? (i := 13) rfl)))) (fun _ h9 => h9) rfl dX11_isApplesNumber_15 ?_
    refine lv_iconst (v := iI 0) hx hb dX11_isApplesNumber_18 rfl ?_
    refine g_ild hx hb hK hP 1 rfl (by omega) (by omega) (by omega) dX11_isApplesNumber_19 (fun w_2 ew_2 => ?_)
    have ew_2 : mn 0 = w_2 := ew_2
    subst ew_2
    have bw_2 : 0 ≤ (mn 0) ∧ (mn 0) ≤ 7 := y0_ 0
    refine lv_iconst (v := iI 1) hx hb dX11_isApplesNumber_20 rfl ?_
    refine lv_isub hx hb dX11_isApplesNumber_21 ?_
    refine g_topi (y := iI ((mn 0) - 1)) (iI_sub (mn 0) 1) ?_
    refine lv_i2l (v := lI ((mn 0) - 1)) hx hb dX11_isApplesNumber_22 (i2l_iI (by omega)) ?_
    refine g_calli (wr := [(m0, .inr (10, [.ref m_all, .ref m_kept, .ref m_isKept, .ref m_refused, .long (lI m_above), .long (lI m_below), .ref m_hand, .ref m_fewest, .ref m_whoBites, .ref m_leaves, .ref m_bestFeast, .ref m_tells, .ref m_hardOn, .ref m_bytes, .int (iI m_bytesLong), .int (iI m_tokenAt), .int (iI m_tokenLong), .int (iI m_token), .int (iI m_value), .ref m_anew, .ref m_values])), (m_anew, .inl (G.2 0, 135, .inl (cI mn)))]) (va_runS (As := [.long (lI m_value), .long (lI 0), .long (lI ((mn 0) - 1))]) (rest := []) ⟨hx, hb, hml, hown, hts⟩ (c_X11_in l G (m_value) (0) (((mn 0) - 1)) (by first | assumption | omega) (by first | assumption | omega) (by first | assumption | omega) _) (va_cwS 3 hts gX11_isApplesNumber_X11_in rfl rfl rfl (by decide +kernel) ⟨Nat.le_of_ble_eq_true rfl, Nat.le_of_ble_eq_true rfl⟩) (g_preS [.long (lI m_value), .long (lI 0), .long (lI ((mn 0) - 1))] hP hD hK hN hS hA hZ [] rfl rfl) rfl rfl hl.1 rfl (lv_room (Nat.le_of_ble_eq_true rfl)) dX11_isApplesNumber_23 ⟨Nat.le_of_ble_eq_true rfl, Nat.le_of_ble_eq_true rfl⟩) hP hD hS hA [] [0, 1] rfl rfl rfl (by decide) (fun r_3 u H locs hw hP hD hS => ?_)
    rcases hw with ⟨k_4, k_5, rfl, rfl⟩ | ⟨k_6, rfl, rfl⟩
    · obtain ⟨hP, hD⟩ : PD G A H [(m0, .inr (10, [.ref m_all, .ref m_kept, .ref m_isKept, .ref m_refused, .long (lI m_above), .long (lI m_below), .ref m_hand, .ref m_fewest, .ref m_whoBites, .ref m_leaves, .ref m_bestFeast, .ref m_tells, .ref m_hardOn, .ref m_bytes, .int (iI m_bytesLong), .int (iI m_tokenAt), .int (iI m_tokenLong), .int (iI m_token), .int (iI m_value), .ref m_anew, .ref m_values])), (m_anew, .inl (G.2 0, 135, .inl (cI mn)))] := ⟨hP, hD⟩
      refine lv_if_eq (tgt := 47) hx hb dX11_isApplesNumber_26 (by decide) (fun c_7 => g_no c_7 (by decide)) (fun _ => ?_)
      refine lv_aload_n hx hb dX11_isApplesNumber_29 rfl (lv_at hl 0 rfl) ?_
      refine va_get (D := G.1) (ci := 10) (v := .ref m_anew) (C := RX11) (T := TX11) (N := 21) hx hb hts (fun _ h => List.mem_cons_of_mem _ (inlX11 _ h)) hown hK hP 0 rfl rfl 19 (by decide) (hts _ (List.mem_cons_of_mem _ (in_r6 (List.mem_of_getElem? (i := 13) rfl)))) (fun _ h9 => h9) rfl dX11_isApplesNumber_30 ?_
      refine lv_aload_n hx hb dX11_isApplesNumber_33 rfl (lv_at hl 0 rfl) ?_
      refine va_get (D := G.1) (ci := 10) (v := .int (iI m_value)) (C := RX11) (T := TX11) (N := 21) hx hb hts (fun _ h => List.mem_cons_of_mem _ (inlX11 _ h)) hown hK hP 0 rfl rfl 18 (by decide) (hts _ (List.mem_cons_of_mem _ (in_r19 (List.mem_of_getElem? (i := 15) rfl)))) (fun _ h9 => h9) rfl dX11_isApplesNumber_34 ?_
      refine g_calli (wr := [(m0, .inr (10, [.ref m_all, .ref m_kept, .ref m_isKept, .ref m_refused, .long (lI m_above), .long (lI m_below), .ref m_hand, .ref m_fewest, .ref m_whoBites, .ref m_leaves, .ref m_bestFeast, .ref m_tells, .ref m_hardOn, .ref m_bytes, .int (iI m_bytesLong), .int (iI m_tokenAt), .int (iI m_tokenLong), .int (iI m_token), .int (iI m_value), .ref m_anew, .ref m_values]))]) (va_runS (As := [.ref m_anew, .int (iI m_value)]) (rest := []) ⟨hx, hb, hml, hown, hts⟩ (c_X11_isOut_135 l G (m_anew) (mn) (K0) (m_value) (by first | assumption | exact y0_ | exact bpA_mono y0_ (by omega)) (by first | assumption | omega) (by first | assumption | omega) _) (va_cwS 2 hts gX11_isApplesNumber_X11_isOut rfl rfl rfl (by decide +kernel) ⟨Nat.le_of_ble_eq_true rfl, Nat.le_of_ble_eq_true rfl⟩) (g_preS [.ref m_anew, .int (iI m_value)] hP hD hK hN hS hA hZ [1] rfl rfl) rfl rfl hl.1 rfl (lv_room (Nat.le_of_ble_eq_true rfl)) dX11_isApplesNumber_37 ⟨Nat.le_of_ble_eq_true rfl, Nat.le_of_ble_eq_true rfl⟩) hP hD hS hA [1] [0] rfl rfl rfl (by decide) (fun r_8 u H locs hw hP hD hS => ?_)
      obtain ⟨rr_9, k_10, rfl, rfl⟩ := hw
      obtain ⟨hP, hD⟩ : PD G A H [(m0, .inr (10, [.ref m_all, .ref m_kept, .ref m_isKept, .ref m_refused, .long (lI m_above), .long (lI m_below), .ref m_hand, .ref m_fewest, .ref m_whoBites, .ref m_leaves, .ref m_bestFeast, .ref m_tells, .ref m_hardOn, .ref m_bytes, .int (iI m_bytesLong), .int (iI m_tokenAt), .int (iI m_tokenLong), .int (iI m_token), .int (iI m_value), .ref m_anew, .ref m_values])), (m_anew, .inl (G.2 0, 135, .inl (cI mn)))] := ⟨hP, hD⟩
      refine lv_if_ne (tgt := 47) hx hb dX11_isApplesNumber_40 (by decide) (fun c_11 => ?_) (fun c_11 => ?_)
      · have c_11 : ¬ (rr_9 = 0) := fun h9 => c_11 ((iI_eq (a := rr_9) (b := 0) (by omega) (by omega)).mpr h9)
        refine lv_iconst (v := iI 0) hx hb dX11_isApplesNumber_47 rfl ?_
        exact g_zret (v := (iI 0)) hx hb hr hlocks rfl hP hD hS (Or.inr (⟨(by first | assumption | omega), rfl, rfl⟩)) dX11_isApplesNumber_48
      · have c_11 := (iI_eq (a := rr_9) (b := 0) (by omega) (by omega)).mp c_11
        refine lv_iconst (v := iI 1) hx hb dX11_isApplesNumber_43 rfl ?_
        refine lv_goto (tgt := 48) hx hb dX11_isApplesNumber_44 (by decide) ?_
        exact g_zret (v := (iI 1)) hx hb hr hlocks rfl hP hD hS (Or.inl ⟨(by first | assumption | omega), (by first | assumption | omega), rfl, rfl⟩) dX11_isApplesNumber_48
    · obtain ⟨hP, hD⟩ : PD G A H [(m0, .inr (10, [.ref m_all, .ref m_kept, .ref m_isKept, .ref m_refused, .long (lI m_above), .long (lI m_below), .ref m_hand, .ref m_fewest, .ref m_whoBites, .ref m_leaves, .ref m_bestFeast, .ref m_tells, .ref m_hardOn, .ref m_bytes, .int (iI m_bytesLong), .int (iI m_tokenAt), .int (iI m_tokenLong), .int (iI m_token), .int (iI m_value), .ref m_anew, .ref m_values])), (m_anew, .inl (G.2 0, 135, .inl (cI mn)))] := ⟨hP, hD⟩
      refine lv_if_eq (tgt := 47) hx hb dX11_isApplesNumber_26 (by decide) (fun _ => ?_) (fun c_12 => g_no (by decide) c_12)
      refine lv_iconst (v := iI 0) hx hb dX11_isApplesNumber_47 rfl ?_
      exact g_zret (v := (iI 0)) hx hb hr hlocks rfl hP hD hS (Or.inr (⟨(by first | assumption | omega), rfl, rfl⟩)) dX11_isApplesNumber_48
