theorem dX11_goDays_0 : decode cX11_goDays 0 = .ok (.iconst 0, 1) := kd_3 (by decide +kernel)
theorem dX11_goDays_1 : decode cX11_goDays 1 = .ok (.istore_n 2, 1) := kd_61 (by decide +kernel)
theorem dX11_goDays_2 : decode cX11_goDays 2 = .ok (.iload_n 2, 1) := kd_28 (by decide +kernel)
theorem dX11_goDays_3 : decode cX11_goDays 3 = .ok (.iload_n 1, 1) := kd_27 (by decide +kernel)
theorem dX11_goDays_4 : decode cX11_goDays 4 = .ok (.if_icmp .ge 23, 3) := kd_162 (a := 0) (b := 23) (by decide +kernel)
theorem dX11_goDays_27 : decode cX11_goDays 27 = .ok (.return_, 1) := kd_177 (by decide +kernel)
theorem dX11_goDays_7 : decode cX11_goDays 7 = .ok (.aload_n 0, 1) := kd_42 (by decide +kernel)
theorem dX11_goDays_8 : decode cX11_goDays 8 = .ok (.bipush 27, 2) := kd_16 (a := 27) (by decide +kernel)
theorem dX11_goDays_10 : decode cX11_goDays 10 = .ok (.iaload, 1) := kd_46 (by decide +kernel)
theorem dX11_goDays_11 : decode cX11_goDays 11 = .ok (.sipush 999, 3) := kd_17 (a := 3) (b := 231) (by decide +kernel)
theorem dX11_goDays_14 : decode cX11_goDays 14 = .ok (.if_icmp .ge 13, 3) := kd_162 (a := 0) (b := 13) (by decide +kernel)
theorem dX11_goDays_17 : decode cX11_goDays 17 = .ok (.aload_n 0, 1) := kd_42 (by decide +kernel)
theorem gX11_goDays_X11_goDay : GoodIn wsX11_goDays (va_wsS RX11 128 yX11_goDay wsX11_goDay) := gW_S (in_r23 (List.mem_of_getElem? (i := 1) rfl)) (in_r23 (List.mem_of_getElem? (i := 2) rfl)) (in_r1 (List.mem_of_getElem? (i := 5) rfl)) (in_r23 (List.mem_of_getElem? (i := 3) rfl))
theorem dX11_goDays_18 : decode cX11_goDays 18 = .ok (.invokestatic 128, 3) := kd_184 (a := 0) (b := 128) (by decide +kernel)
theorem dX11_goDays_21 : decode cX11_goDays 21 = .ok (.iinc 2 1, 3) := kd_132 (a := 2) (b := 1) (by decide +kernel)
theorem dX11_goDays_24 : decode cX11_goDays 24 = .ok (.goto (-22), 3) := kd_167 (a := 255) (b := 234) (by decide +kernel)
set_option maxHeartbeats 8000000 in
set_option maxRecDepth 100000 in
theorem c_X11_goDays_311 (l : Launch) (G : gG) (q0 : Nat) (qF : Nat → Int) (K0 : Int) (n0 : Int) (y0_ : bp (plA K0) qF) (hK0 : 1000 ≤ K0 ∧ K0 ≤ 1900000) (hn : 0 ≤ n0 ∧ n0 ≤ 99) (sz : Nat) : gV G l yX11_goDays wsX11_goDays ({ frames := 2, cells := 0, slots := 0, locals := 42 } : Room) [.ref q0, .int (iI n0)] [(q0, .inl (G.2 0, 311, .inl (cI qF)))] sz (fun (u : va_W) => (∃ Nq : Nat → Int, (bp (plA (K0 + 99)) Nq) ∧ (kW qF Nq) ∧ u = [(q0, .inl (G.2 0, 311, .inl (cI Nq)))])) := by
  refine Met.ofW (cc := cX11_goDays) (maxL := 3) (ret := none) (by decide) rfl ?_
  intro p e s m args below meth c s₁ B hml hv
  obtain ⟨rfl, hsz, hP, hK, hD0, hN, hZ⟩ := hv
  have hx := B.exec
  have hb := B.bytes
  have hr := B.returns
  have hts := atoms_spec (ws := wsX11_goDays) B.pre
  have hown : s.vm.findClass RX11 = some m.cls := findClass_of_methodNamed B.named
  have hlocks := B.notSynchronized
  subst hsz
  have hD := hD0.self (sz := s.heap.size)
  generalize hAe : va_A [(q0, .inl (G.2 0, 311, .inl (cI qF)))] s.heap.size = A at hD hZ ⊢
  have hA : ∀ q : Nat, s.heap.size ≤ q → A q := fun q h => by rw [← hAe]; exact Or.inr h
  have hS : va_S A s.heap s.heap [] := va_S.rf
  have hP : va_P G.1 vwCl [(q0, .inl (G.2 0, 311, .inl (cI qF)))] s.heap := hP
  have hl := lv_entry ([.ref q0, .int (iI n0)]) (n := 3) (Nat.le_of_ble_eq_true rfl)
  rw [lg_entry_eq]
  generalize (lg_sl ([.ref q0, .int (iI n0)]) ++ List.replicate (3 - (lg_sl ([.ref q0, .int (iI n0)])).length) Slot.unset).toArray = ls at hl ⊢
  have hl : lv_has ls 3 [(0, .ref q0), (1, .int (iI n0))] := hl
  refine lv_iconst (v := iI 0) hx hb dX11_goDays_0 rfl ?_
  refine lv_istore_n (lv' := [(2, .int (iI 0)), (0, .ref q0), (1, .int (iI n0))]) hx hb dX11_goDays_1 rfl hl (by decide) rfl (fun ls hl => ?_)
  refine g_loopN (pc := 2) (fun nn H locs ls => ∃ i0__1 : Int, ∃ E0_2 : Nat → Int, (0 ≤ i0__1 ∧ i0__1 ≤ n0) ∧ (bp (plA (K0 + i0__1)) E0_2) ∧ (kW qF E0_2) ∧ (n0 - i0__1).toNat = nn ∧ va_P G.1 vwCl [(q0, .inl (G.2 0, 311, .inl (cI E0_2)))] H ∧ va_D A [(q0, .inl (G.2 0, 311, .inl (cI E0_2)))] ∧ va_S A s.heap H locs ∧ lv_has ls 3 [(2, .int (iI i0__1)), (0, .ref q0), (1, .int (iI n0))]) ?_ ⟨0, qF, (by first | assumption | omega), (by first | exact y0_ | exact bpA_mono y0_ (by omega) | assumption), (by first | assumption | exact kW_r _ | exact kW_t (by assumption) (by assumption)), rfl, hP, hD, hS, lv_sub hl [0, 1, 2] rfl⟩
  intro nn_7 H locs ls ih_6 hI
  refine ea_2_8 hI (fun i0__1 E0_2 f_3 f_4 f_5 hnn_8 hP hD hS hl => ?_)
  clear hI
  refine lv_iload_n hx hb dX11_goDays_2 rfl (lv_at hl 0 rfl) ?_
  refine lv_iload_n hx hb dX11_goDays_3 rfl (lv_at hl 2 rfl) ?_
  refine lv_icmp_ge (tgt := 27) hx hb dX11_goDays_4 (by decide) (fun c_9 => ?_) (fun c_9 => ?_)
  · have c_9 := (iI_le (a := n0) (b := i0__1) (by omega) (by omega)).mp c_9
    exact g_vret hx hb hr hlocks hP hD hS (⟨E0_2, (by first | exact f_4 | exact bpA_mono f_4 (by omega) | assumption), (by first | assumption | exact kW_r _ | exact kW_t (by assumption) (by assumption)), rfl⟩) dX11_goDays_27
  · have c_9 : ¬ (n0 ≤ i0__1) := fun h9 => c_9 ((iI_le (a := n0) (b := i0__1) (by omega) (by omega)).mpr h9)
    refine lv_aload_n hx hb dX11_goDays_7 rfl (lv_at hl 1 rfl) ?_
    refine lv_bipush (v := iI 27) hx hb dX11_goDays_8 (by decide) ?_
    refine g_ild hx hb hK hP 0 rfl (by omega) (by omega) (by first | exact Nat.le_of_ble_eq_true rfl | omega) dX11_goDays_10 (fun w_10 ew_10 => ?_)
    have ew_10 : E0_2 27 = w_10 := ew_10
    have bw_10 : 0 ≤ w_10 ∧ w_10 ≤ (K0 + i0__1) := by rw [← ew_10]; exact f_4 27
    refine lv_sipush (v := iI 999) hx hb dX11_goDays_11 (by decide) ?_
    refine lv_icmp_ge (tgt := 27) hx hb dX11_goDays_14 (by decide) (fun c_11 => ?_) (fun c_11 => ?_)
    · have c_11 := (iI_le (a := 999) (b := w_10) (by first | decide | omega) (by omega)).mp c_11
      exact g_vret hx hb hr hlocks hP hD hS (⟨E0_2, (by first | exact f_4 | exact bpA_mono f_4 (by omega) | assumption), (by first | assumption | exact kW_r _ | exact kW_t (by assumption) (by assumption)), rfl⟩) dX11_goDays_27
    · have c_11 : ¬ (999 ≤ w_10) := fun h9 => c_11 ((iI_le (a := 999) (b := w_10) (by first | decide | omega) (by omega)).mpr h9)
      refine lv_aload_n hx hb dX11_goDays_17 rfl (lv_at hl 1 rfl) ?_
      refine g_callv (wr := []) (va_runS (As := [.ref q0]) (rest := []) ⟨hx, hb, hml, hown, hts⟩ (c_X11_goDay_311 l G (q0) (E0_2) ((K0 + i0__1)) (by first | exact f_4 | exact bpA_mono f_4 (by omega) | assumption) (by first | assumption | omega) _) (va_cwS 1 hts gX11_goDays_X11_goDay rfl rfl rfl (by decide +kernel) ⟨Nat.le_of_ble_eq_true rfl, Nat.le_of_ble_eq_true rfl⟩) (g_preS [.ref q0] hP hD hK hN hS hA hZ [0] rfl rfl) rfl rfl hl.1 rfl (lv_room (Nat.le_of_ble_eq_true rfl)) dX11_goDays_18 ⟨Nat.le_of_ble_eq_true rfl, Nat.le_of_ble_eq_true rfl⟩) hP hD hS hA [0] [] rfl rfl rfl (by decide) (fun u H locs hw hP hD hS => ?_)
      refine ea_1_3 hw (fun Nq_12 k_13 k_14 e8_0 => ?_)
      subst e8_0
      clear hw
      have hP : va_P G.1 vwCl [(q0, .inl (G.2 0, 311, .inl (cI Nq_12)))] H := hP
      have hD : va_D A [(q0, .inl (G.2 0, 311, .inl (cI Nq_12)))] := hD
      refine lv_iinc (v := iI (i0__1 + 1)) (lv' := [(2, .int (iI (i0__1 + 1))), (0, .ref q0), (1, .int (iI n0))]) hx hb dX11_goDays_21 hl (k := 0) rfl (iI_add i0__1 1) (by decide) rfl (fun ls hl => ?_)
      refine lv_goto (tgt := 2) hx hb dX11_goDays_24 (by decide) ?_
      exact ih_6 _ _ _ _ (by omega) ⟨(i0__1 + 1), Nq_12, (by first | assumption | omega), (by first | exact k_13 | exact bpA_mono k_13 (by omega) | assumption), (kW_t (by assumption) (by assumption)), rfl, hP, hD, hS, lv_sub hl [0, 1, 2] rfl⟩
theorem dX11_goDip_0 : decode cX11_goDip 0 = .ok (.aload_n 0, 1) := kd_42 (by decide +kernel)
theorem dX11_goDip_1 : decode cX11_goDip 1 = .ok (.bipush 6, 2) := kd_16 (a := 6) (by decide +kernel)
theorem dX11_goDip_3 : decode cX11_goDip 3 = .ok (.iload_n 1, 1) := kd_27 (by decide +kernel)
theorem dX11_goDip_4 : decode cX11_goDip 4 = .ok (.iadd, 1) := kd_96 (by decide +kernel)
theorem dX11_goDip_5 : decode cX11_goDip 5 = .ok (.iaload, 1) := kd_46 (by decide +kernel)
theorem dX11_goDip_6 : decode cX11_goDip 6 = .ok (.iload_n 2, 1) := kd_28 (by decide +kernel)
theorem dX11_goDip_7 : decode cX11_goDip 7 = .ok (.iadd, 1) := kd_96 (by decide +kernel)
theorem dX11_goDip_8 : decode cX11_goDip 8 = .ok (.istore_n 3, 1) := kd_62 (by decide +kernel)
theorem dX11_goDip_9 : decode cX11_goDip 9 = .ok (.aload_n 0, 1) := kd_42 (by decide +kernel)
theorem dX11_goDip_10 : decode cX11_goDip 10 = .ok (.bipush 6, 2) := kd_16 (a := 6) (by decide +kernel)
theorem dX11_goDip_12 : decode cX11_goDip 12 = .ok (.iload_n 1, 1) := kd_27 (by decide +kernel)
theorem dX11_goDip_13 : decode cX11_goDip 13 = .ok (.iadd, 1) := kd_96 (by decide +kernel)
theorem dX11_goDip_14 : decode cX11_goDip 14 = .ok (.iload_n 3, 1) := kd_29 (by decide +kernel)
theorem dX11_goDip_15 : decode cX11_goDip 15 = .ok (.bipush 30, 2) := kd_16 (a := 30) (by decide +kernel)
theorem dX11_goDip_17 : decode cX11_goDip 17 = .ok (.if_icmp .le 8, 3) := kd_164 (a := 0) (b := 8) (by decide +kernel)
theorem dX11_goDip_25 : decode cX11_goDip 25 = .ok (.iload_n 3, 1) := kd_29 (by decide +kernel)
theorem dX11_goDip_20 : decode cX11_goDip 20 = .ok (.bipush 30, 2) := kd_16 (a := 30) (by decide +kernel)
theorem dX11_goDip_22 : decode cX11_goDip 22 = .ok (.goto 4, 3) := kd_167 (a := 0) (b := 4) (by decide +kernel)
theorem dX11_goDip_26 : decode cX11_goDip 26 = .ok (.iastore, 1) := kd_79 (by decide +kernel)
theorem dX11_goDip_27 : decode cX11_goDip 27 = .ok (.return_, 1) := kd_177 (by decide +kernel)
set_option maxHeartbeats 8000000 in
set_option maxRecDepth 100000 in
theorem c_X11_goDip_311 (l : Launch) (G : gG) (q0 : Nat) (qF : Nat → Int) (K0 : Int) (p0 : Int) (n0 : Int) (y0_ : bp (plA K0) qF) (hK0 : 1000 ≤ K0 ∧ K0 ≤ 2000000) (hp : 0 ≤ p0 ∧ p0 ≤ 6) (hn : 0 ≤ n0 ∧ n0 ≤ 99) (sz : Nat) : gV G l yX11_goDip wsX11_goDip ({ frames := 0, cells := 0, slots := 0, locals := 0 } : Room) [.ref q0, .int (iI p0), .int (iI n0)] [(q0, .inl (G.2 0, 311, .inl (cI qF)))] sz (fun (u : va_W) => (∃ Nq : Nat → Int, (bp (plA K0) Nq) ∧ (kW qF Nq) ∧ u = [(q0, .inl (G.2 0, 311, .inl (cI Nq)))])) := by
  refine Met.ofW (cc := cX11_goDip) (maxL := 4) (ret := none) (by decide) rfl ?_
  intro p e s m args below meth c s₁ B hml hv
  obtain ⟨rfl, hsz, hP, hK, hD0, hN, hZ⟩ := hv
  have hx := B.exec
  have hb := B.bytes
  have hr := B.returns
  have hts := atoms_spec (ws := wsX11_goDip) B.pre
  have hown : s.vm.findClass RX11 = some m.cls := findClass_of_methodNamed B.named
  have hlocks := B.notSynchronized
  subst hsz
  have hD := hD0.self (sz := s.heap.size)
  generalize hAe : va_A [(q0, .inl (G.2 0, 311, .inl (cI qF)))] s.heap.size = A at hD hZ ⊢
  have hA : ∀ q : Nat, s.heap.size ≤ q → A q := fun q h => by rw [← hAe]; exact Or.inr h
  have hS : va_S A s.heap s.heap [] := va_S.rf
  have hP : va_P G.1 vwCl [(q0, .inl (G.2 0, 311, .inl (cI qF)))] s.heap := hP
  have hl := lv_entry ([.ref q0, .int (iI p0), .int (iI n0)]) (n := 4) (Nat.le_of_ble_eq_true rfl)
  rw [lg_entry_eq]
  generalize (lg_sl ([.ref q0, .int (iI p0), .int (iI n0)]) ++ List.replicate (4 - (lg_sl ([.ref q0, .int (iI p0), .int (iI n0)])).length) Slot.unset).toArray = ls at hl ⊢
  have hl : lv_has ls 4 [(0, .ref q0), (1, .int (iI p0)), (2, .int (iI n0))] := hl
  refine lv_aload_n hx hb dX11_goDip_0 rfl (lv_at hl 0 rfl) ?_
  refine lv_bipush (v := iI 6) hx hb dX11_goDip_1 (by decide) ?_
  refine lv_iload_n hx hb dX11_goDip_3 rfl (lv_at hl 1 rfl) ?_
  refine lv_iadd hx hb dX11_goDip_4 ?_
  refine g_topi (y := iI (6 + p0)) (iI_add 6 p0) ?_
  refine g_ild hx hb hK hP 0 rfl (by omega) (by omega) (by first | exact Nat.le_of_ble_eq_true rfl | omega) dX11_goDip_5 (fun w_1 ew_1 => ?_)
  have bw_1 : 0 ≤ w_1 ∧ w_1 ≤ 30 := by rw [← ew_1]; exact ⟨(y0_ _).1, Int.le_trans (y0_ _).2 (plAu_T (by omega) (by omega))⟩
  refine lv_iload_n hx hb dX11_goDip_6 rfl (lv_at hl 2 rfl) ?_
  refine lv_iadd hx hb dX11_goDip_7 ?_
  refine g_topi (y := iI (w_1 + n0)) (iI_add w_1 n0) ?_
  refine lv_istore_n (lv' := [(3, .int (iI (w_1 + n0))), (0, .ref q0), (1, .int (iI p0)), (2, .int (iI n0))]) hx hb dX11_goDip_8 rfl hl (by decide) rfl (fun ls hl => ?_)
  refine lv_aload_n hx hb dX11_goDip_9 rfl (lv_at hl 1 rfl) ?_
  refine lv_bipush (v := iI 6) hx hb dX11_goDip_10 (by decide) ?_
  refine lv_iload_n hx hb dX11_goDip_12 rfl (lv_at hl 2 rfl) ?_
  refine lv_iadd hx hb dX11_goDip_13 ?_
  refine g_topi (y := iI (6 + p0)) (iI_add 6 p0) ?_
  refine lv_iload_n hx hb dX11_goDip_14 rfl (lv_at hl 0 rfl) ?_
  refine lv_bipush (v := iI 30) hx hb dX11_goDip_15 (by decide) ?_
  refine g_join (jn := 26) (rest := [.int (iI (6 + p0)), .ref q0]) (fun t_2 ls => (((w_1 + n0) ≤ 30 ∧ t_2 = (w_1 + n0)) ∨ (¬ ((w_1 + n0) ≤ 30) ∧ t_2 = 30)) ∧ lv_has ls 4 [(3, .int (iI (w_1 + n0))), (0, .ref q0), (1, .int (iI p0)), (2, .int (iI n0))]) (fun t_2 ls hI => ?_) (fun hJ_3 => ?_)
  · obtain ⟨f_4, hl⟩ := hI
    refine g_ist hx hb hK hP hD hS 0 rfl (by omega) (by omega) (by first | exact Nat.le_of_ble_eq_true rfl | omega) dX11_goDip_26 (fun H locs hP hD hS => ?_)
    have hk_6 := bp_u (h := plA K0) (k := ((6 + p0).toNat)) (v := t_2) y0_ (by omega) (Int.le_trans (show t_2 ≤ 30 by omega) (plAl_T (by omega) (by omega)))
    have hk_7 := kW_u (k := ((6 + p0).toNat)) (v := t_2) (kW_r qF) (by omega)
    have hPD : PD G A H [(q0, .inl (G.2 0, 311, .inl (cI (uI qF ((6 + p0).toNat) t_2))))] := ⟨hP, hD⟩
    have hP := hPD.1
    have hD := hPD.2
    clear hPD
    generalize hF_5 : (uI qF ((6 + p0).toNat) t_2) = F_5 at hP hD hk_6 hk_7
    exact g_vret hx hb hr hlocks hP hD hS (⟨F_5, (by first | exact hk_6 | exact bpA_mono hk_6 (by omega) | assumption), (by first | assumption | exact kW_r _ | exact kW_t (by assumption) (by assumption)), rfl⟩) dX11_goDip_27
  · refine lv_icmp_le (tgt := 25) hx hb dX11_goDip_17 (by decide) (fun c_8 => ?_) (fun c_8 => ?_)
    · have c_8 := (iI_le (a := (w_1 + n0)) (b := 30) (by omega) (by first | decide | omega)).mp c_8
      refine lv_iload_n hx hb dX11_goDip_25 rfl (lv_at hl 0 rfl) ?_
      exact hJ_3 (w_1 + n0) ls ⟨by omega, lv_sub hl [0, 1, 2, 3] rfl⟩
    · have c_8 : ¬ ((w_1 + n0) ≤ 30) := fun h9 => c_8 ((iI_le (a := (w_1 + n0)) (b := 30) (by omega) (by first | decide | omega)).mpr h9)
      refine lv_bipush (v := iI 30) hx hb dX11_goDip_20 (by decide) ?_
      refine lv_goto (tgt := 26) hx hb dX11_goDip_22 (by decide) ?_
      exact hJ_3 30 ls ⟨by omega, lv_sub hl [0, 1, 2, 3] rfl⟩
set_option maxHeartbeats 8000000 in
set_option maxRecDepth 100000 in
theorem c_X11_goDays_135 (l : Launch) (G : gG) (q0 : Nat) (qF : Nat → Int) (K0 : Int) (n0 : Int) (y0_ : bp (plA K0) qF) (hK0 : 1000 ≤ K0 ∧ K0 ≤ 1900000) (hn : 0 ≤ n0 ∧ n0 ≤ 99) (sz : Nat) : gV G l yX11_goDays wsX11_goDays ({ frames := 2, cells := 0, slots := 0, locals := 42 } : Room) [.ref q0, .int (iI n0)] [(q0, .inl (G.2 0, 135, .inl (cI qF)))] sz (fun (u : va_W) => (∃ Nq : Nat → Int, (Nq = sDays qF n0) ∧ (bp (plA (K0 + 99)) Nq) ∧ u = [(q0, .inl (G.2 0, 135, .inl (cI Nq)))])) := by
  refine Met.ofW (cc := cX11_goDays) (maxL := 3) (ret := none) (by decide) rfl ?_
  intro p e s m args below meth c s₁ B hml hv
  obtain ⟨rfl, hsz, hP, hK, hD0, hN, hZ⟩ := hv
  have hx := B.exec
  have hb := B.bytes
  have hr := B.returns
  have hts := atoms_spec (ws := wsX11_goDays) B.pre
  have hown : s.vm.findClass RX11 = some m.cls := findClass_of_methodNamed B.named
  have hlocks := B.notSynchronized
  subst hsz
  have hD := hD0.self (sz := s.heap.size)
  generalize hAe : va_A [(q0, .inl (G.2 0, 135, .inl (cI qF)))] s.heap.size = A at hD hZ ⊢
  have hA : ∀ q : Nat, s.heap.size ≤ q → A q := fun q h => by rw [← hAe]; exact Or.inr h
  have hS : va_S A s.heap s.heap [] := va_S.rf
  have hP : va_P G.1 vwCl [(q0, .inl (G.2 0, 135, .inl (cI qF)))] s.heap := hP
  have hl := lv_entry ([.ref q0, .int (iI n0)]) (n := 3) (Nat.le_of_ble_eq_true rfl)
  rw [lg_entry_eq]
  generalize (lg_sl ([.ref q0, .int (iI n0)]) ++ List.replicate (3 - (lg_sl ([.ref q0, .int (iI n0)])).length) Slot.unset).toArray = ls at hl ⊢
  have hl : lv_has ls 3 [(0, .ref q0), (1, .int (iI n0))] := hl
  refine lv_iconst (v := iI 0) hx hb dX11_goDays_0 rfl ?_
  refine lv_istore_n (lv' := [(2, .int (iI 0)), (0, .ref q0), (1, .int (iI n0))]) hx hb dX11_goDays_1 rfl hl (by decide) rfl (fun ls hl => ?_)
  refine g_loopN (pc := 2) (fun nn H locs ls => ∃ i0__1 : Int, ∃ E0_2 : Nat → Int, (0 ≤ i0__1 ∧ i0__1 ≤ n0) ∧ (bp (plA (K0 + i0__1)) E0_2) ∧ (E0_2 = sDM qF i0__1) ∧ (E0_2 27 = qF 27 + i0__1) ∧ (i0__1 = 0 ∨ qF 27 + i0__1 ≤ 999) ∧ (0 ≤ E0_2 0 ∧ E0_2 0 ≤ 7 ∧ E0_2 0 = qF 0) ∧ (n0 - i0__1).toNat = nn ∧ va_P G.1 vwCl [(q0, .inl (G.2 0, 135, .inl (cI E0_2)))] H ∧ va_D A [(q0, .inl (G.2 0, 135, .inl (cI E0_2)))] ∧ va_S A s.heap H locs ∧ lv_has ls 3 [(2, .int (iI i0__1)), (0, .ref q0), (1, .int (iI n0))]) ?_ ⟨0, qF, (by first | assumption | omega), (bpA_mono (by assumption) (by omega)), (sDM_0 _).symm, (by omega), (Or.inl rfl), (by have q9 : 0 ≤ qF 0 ∧ qF 0 ≤ 7 := y0_ 0; omega), rfl, hP, hD, hS, lv_sub hl [0, 1, 2] rfl⟩
  intro nn_10 H locs ls ih_9 hI
  refine ea_2_11 hI (fun i0__1 E0_2 f_3 f_4 f_5 f_6 f_7 f_8 hnn_11 hP hD hS hl => ?_)
  clear hI
  refine lv_iload_n hx hb dX11_goDays_2 rfl (lv_at hl 0 rfl) ?_
  refine lv_iload_n hx hb dX11_goDays_3 rfl (lv_at hl 2 rfl) ?_
  refine lv_icmp_ge (tgt := 27) hx hb dX11_goDays_4 (by decide) (fun c_12 => ?_) (fun c_12 => ?_)
  · have c_12 := (iI_le (a := n0) (b := i0__1) (by omega) (by omega)).mp c_12
    exact g_vret hx hb hr hlocks hP hD hS (⟨E0_2, (by unfold sDays; rw [show (max 0 (min n0 (999 - qF 27))) = i0__1 by omega]; assumption), (by first | exact f_4 | exact bpA_mono f_4 (by omega) | assumption), rfl⟩) dX11_goDays_27
  · have c_12 : ¬ (n0 ≤ i0__1) := fun h9 => c_12 ((iI_le (a := n0) (b := i0__1) (by omega) (by omega)).mpr h9)
    refine lv_aload_n hx hb dX11_goDays_7 rfl (lv_at hl 1 rfl) ?_
    refine lv_bipush (v := iI 27) hx hb dX11_goDays_8 (by decide) ?_
    refine g_ild hx hb hK hP 0 rfl (by omega) (by omega) (by first | exact Nat.le_of_ble_eq_true rfl | omega) dX11_goDays_10 (fun w_13 ew_13 => ?_)
    have ew_13 : E0_2 27 = w_13 := ew_13
    subst ew_13
    have bw_13 : 0 ≤ (E0_2 27) ∧ (E0_2 27) ≤ (K0 + i0__1) := f_4 27
    refine lv_sipush (v := iI 999) hx hb dX11_goDays_11 (by decide) ?_
    refine lv_icmp_ge (tgt := 27) hx hb dX11_goDays_14 (by decide) (fun c_14 => ?_) (fun c_14 => ?_)
    · have c_14 := (iI_le (a := 999) (b := (E0_2 27)) (by first | decide | omega) (by omega)).mp c_14
      exact g_vret hx hb hr hlocks hP hD hS (⟨E0_2, (by unfold sDays; rw [show (max 0 (min n0 (999 - qF 27))) = i0__1 by omega]; assumption), (by first | exact f_4 | exact bpA_mono f_4 (by omega) | assumption), rfl⟩) dX11_goDays_27
    · have c_14 : ¬ (999 ≤ (E0_2 27)) := fun h9 => c_14 ((iI_le (a := 999) (b := (E0_2 27)) (by first | decide | omega) (by omega)).mpr h9)
      refine lv_aload_n hx hb dX11_goDays_17 rfl (lv_at hl 1 rfl) ?_
      refine g_callv (wr := []) (va_runS (As := [.ref q0]) (rest := []) ⟨hx, hb, hml, hown, hts⟩ (c_X11_goDay_135 l G (q0) (E0_2) ((K0 + i0__1)) (by first | exact f_4 | exact bpA_mono f_4 (by omega) | assumption) (by first | assumption | omega) _) (va_cwS 1 hts gX11_goDays_X11_goDay rfl rfl rfl (by decide +kernel) ⟨Nat.le_of_ble_eq_true rfl, Nat.le_of_ble_eq_true rfl⟩) (g_preS [.ref q0] hP hD hK hN hS hA hZ [0] rfl rfl) rfl rfl hl.1 rfl (lv_room (Nat.le_of_ble_eq_true rfl)) dX11_goDays_18 ⟨Nat.le_of_ble_eq_true rfl, Nat.le_of_ble_eq_true rfl⟩) hP hD hS hA [0] [] rfl rfl rfl (by decide) (fun u H locs hw hP hD hS => ?_)
      obtain ⟨Nq_15, rfl, k_16, rfl⟩ := hw
      have hP : va_P G.1 vwCl [(q0, .inl (G.2 0, 135, .inl (cI (sDM E0_2 1))))] H := hP
      have hD : va_D A [(q0, .inl (G.2 0, 135, .inl (cI (sDM E0_2 1))))] := hD
      refine lv_iinc (v := iI (i0__1 + 1)) (lv' := [(2, .int (iI (i0__1 + 1))), (0, .ref q0), (1, .int (iI n0))]) hx hb dX11_goDays_21 hl (k := 0) rfl (iI_add i0__1 1) (by decide) rfl (fun ls hl => ?_)
      refine lv_goto (tgt := 2) hx hb dX11_goDays_24 (by decide) ?_
      exact ih_9 _ _ _ _ (by omega) ⟨(i0__1 + 1), (sDM E0_2 1), (by first | assumption | omega), (by first | exact k_16 | exact bpA_mono k_16 (by omega) | assumption), (sDM_ss (by assumption) (by omega)), (sDM_27 (by omega) (by assumption)), (by omega), (sDM_00 (by omega) (by assumption)), rfl, hP, hD, hS, lv_sub hl [0, 1, 2] rfl⟩
set_option maxHeartbeats 8000000 in
set_option maxRecDepth 100000 in
theorem c_X11_goDip_135 (l : Launch) (G : gG) (q0 : Nat) (qF : Nat → Int) (K0 : Int) (p0 : Int) (n0 : Int) (y0_ : bp (plA K0) qF) (hK0 : 1000 ≤ K0 ∧ K0 ≤ 2000000) (hp : 0 ≤ p0 ∧ p0 ≤ 6) (hn : 0 ≤ n0 ∧ n0 ≤ 99) (sz : Nat) : gV G l yX11_goDip wsX11_goDip ({ frames := 0, cells := 0, slots := 0, locals := 0 } : Room) [.ref q0, .int (iI p0), .int (iI n0)] [(q0, .inl (G.2 0, 135, .inl (cI qF)))] sz (fun (u : va_W) => (∃ Nq : Nat → Int, (Nq = sDip qF p0 n0) ∧ (bp (plA K0) Nq) ∧ u = [(q0, .inl (G.2 0, 135, .inl (cI Nq)))])) := by
  refine Met.ofW (cc := cX11_goDip) (maxL := 4) (ret := none) (by decide) rfl ?_
  intro p e s m args below meth c s₁ B hml hv
  obtain ⟨rfl, hsz, hP, hK, hD0, hN, hZ⟩ := hv
  have hx := B.exec
  have hb := B.bytes
  have hr := B.returns
  have hts := atoms_spec (ws := wsX11_goDip) B.pre
  have hown : s.vm.findClass RX11 = some m.cls := findClass_of_methodNamed B.named
  have hlocks := B.notSynchronized
  subst hsz
  have hD := hD0.self (sz := s.heap.size)
  generalize hAe : va_A [(q0, .inl (G.2 0, 135, .inl (cI qF)))] s.heap.size = A at hD hZ ⊢
  have hA : ∀ q : Nat, s.heap.size ≤ q → A q := fun q h => by rw [← hAe]; exact Or.inr h
  have hS : va_S A s.heap s.heap [] := va_S.rf
  have hP : va_P G.1 vwCl [(q0, .inl (G.2 0, 135, .inl (cI qF)))] s.heap := hP
  have hl := lv_entry ([.ref q0, .int (iI p0), .int (iI n0)]) (n := 4) (Nat.le_of_ble_eq_true rfl)
  rw [lg_entry_eq]
  generalize (lg_sl ([.ref q0, .int (iI p0), .int (iI n0)]) ++ List.replicate (4 - (lg_sl ([.ref q0, .int (iI p0), .int (iI n0)])).length) Slot.unset).toArray = ls at hl ⊢
  have hl : lv_has ls 4 [(0, .ref q0), (1, .int (iI p0)), (2, .int (iI n0))] := hl
  refine lv_aload_n hx hb dX11_goDip_0 rfl (lv_at hl 0 rfl) ?_
  refine lv_bipush (v := iI 6) hx hb dX11_goDip_1 (by decide) ?_
  refine lv_iload_n hx hb dX11_goDip_3 rfl (lv_at hl 1 rfl) ?_
  refine lv_iadd hx hb dX11_goDip_4 ?_
  refine g_topi (y := iI (6 + p0)) (iI_add 6 p0) ?_
  refine g_ild hx hb hK hP 0 rfl (by omega) (by omega) (by first | exact Nat.le_of_ble_eq_true rfl | omega) dX11_goDip_5 (fun w_1 ew_1 => ?_)
  have ew_1 : qF ((6 + p0).toNat) = w_1 := ew_1
  subst ew_1
  have bw_1 : 0 ≤ (qF ((6 + p0).toNat)) ∧ (qF ((6 + p0).toNat)) ≤ 30 := ⟨(y0_ _).1, Int.le_trans (y0_ _).2 (plAu_T (by omega) (by omega))⟩
  refine lv_iload_n hx hb dX11_goDip_6 rfl (lv_at hl 2 rfl) ?_
  refine lv_iadd hx hb dX11_goDip_7 ?_
  refine g_topi (y := iI ((qF ((6 + p0).toNat)) + n0)) (iI_add (qF ((6 + p0).toNat)) n0) ?_
  refine lv_istore_n (lv' := [(3, .int (iI ((qF ((6 + p0).toNat)) + n0))), (0, .ref q0), (1, .int (iI p0)), (2, .int (iI n0))]) hx hb dX11_goDip_8 rfl hl (by decide) rfl (fun ls hl => ?_)
  refine lv_aload_n hx hb dX11_goDip_9 rfl (lv_at hl 1 rfl) ?_
  refine lv_bipush (v := iI 6) hx hb dX11_goDip_10 (by decide) ?_
  refine lv_iload_n hx hb dX11_goDip_12 rfl (lv_at hl 2 rfl) ?_
  refine lv_iadd hx hb dX11_goDip_13 ?_
  refine g_topi (y := iI (6 + p0)) (iI_add 6 p0) ?_
  refine lv_iload_n hx hb dX11_goDip_14 rfl (lv_at hl 0 rfl) ?_
  refine lv_bipush (v := iI 30) hx hb dX11_goDip_15 (by decide) ?_
  refine g_join (jn := 26) (rest := [.int (iI (6 + p0)), .ref q0]) (fun t_2 ls => ((((qF ((6 + p0).toNat)) + n0) ≤ 30 ∧ t_2 = ((qF ((6 + p0).toNat)) + n0)) ∨ (¬ (((qF ((6 + p0).toNat)) + n0) ≤ 30) ∧ t_2 = 30)) ∧ lv_has ls 4 [(3, .int (iI ((qF ((6 + p0).toNat)) + n0))), (0, .ref q0), (1, .int (iI p0)), (2, .int (iI n0))]) (fun t_2 ls hI => ?_) (fun hJ_3 => ?_)
  · obtain ⟨f_4, hl⟩ := hI
    refine g_ist hx hb hK hP hD hS 0 rfl (by omega) (by omega) (by first | exact Nat.le_of_ble_eq_true rfl | omega) dX11_goDip_26 (fun H locs hP hD hS => ?_)
    have hk_6 := bp_u (h := plA K0) (k := ((6 + p0).toNat)) (v := t_2) y0_ (by omega) (Int.le_trans (show t_2 ≤ 30 by omega) (plAl_T (by omega) (by omega)))
    have hPD : PD G A H [(q0, .inl (G.2 0, 135, .inl (cI (uI qF ((6 + p0).toNat) t_2))))] := ⟨hP, hD⟩
    have hP := hPD.1
    have hD := hPD.2
    clear hPD
    exact g_vret hx hb hr hlocks hP hD hS (⟨(uI qF ((6 + p0).toNat) t_2), (sDip_e (by omega)), (by first | exact hk_6 | exact bpA_mono hk_6 (by omega) | assumption), rfl⟩) dX11_goDip_27
  · refine lv_icmp_le (tgt := 25) hx hb dX11_goDip_17 (by decide) (fun c_7 => ?_) (fun c_7 => ?_)
    · have c_7 := (iI_le (a := ((qF ((6 + p0).toNat)) + n0)) (b := 30) (by omega) (by first | decide | omega)).mp c_7
      refine lv_iload_n hx hb dX11_goDip_25 rfl (lv_at hl 0 rfl) ?_
      exact hJ_3 ((qF ((6 + p0).toNat)) + n0) ls ⟨by omega, lv_sub hl [0, 1, 2, 3] rfl⟩
    · have c_7 : ¬ (((qF ((6 + p0).toNat)) + n0) ≤ 30) := fun h9 => c_7 ((iI_le (a := ((qF ((6 + p0).toNat)) + n0)) (b := 30) (by omega) (by first | decide | omega)).mpr h9)
      refine lv_bipush (v := iI 30) hx hb dX11_goDip_20 (by decide) ?_
      refine lv_goto (tgt := 26) hx hb dX11_goDip_22 (by decide) ?_
      exact hJ_3 30 ls ⟨by omega, lv_sub hl [0, 1, 2, 3] rfl⟩
theorem dX11_manyWith_0 : decode cX11_manyWith 0 = .ok (.iconst 0, 1) := kd_3 (by decide +kernel)
theorem dX11_manyWith_1 : decode cX11_manyWith 1 = .ok (.istore_n 2, 1) := kd_61 (by decide +kernel)
theorem dX11_manyWith_2 : decode cX11_manyWith 2 = .ok (.iconst 0, 1) := kd_3 (by decide +kernel)
theorem dX11_manyWith_3 : decode cX11_manyWith 3 = .ok (.istore_n 3, 1) := kd_62 (by decide +kernel)
theorem dX11_manyWith_4 : decode cX11_manyWith 4 = .ok (.iload_n 3, 1) := kd_29 (by decide +kernel)
theorem dX11_manyWith_5 : decode cX11_manyWith 5 = .ok (.aload_n 0, 1) := kd_42 (by decide +kernel)
theorem dX11_manyWith_6 : decode cX11_manyWith 6 = .ok (.iconst 0, 1) := kd_3 (by decide +kernel)
theorem dX11_manyWith_7 : decode cX11_manyWith 7 = .ok (.iaload, 1) := kd_46 (by decide +kernel)
theorem dX11_manyWith_8 : decode cX11_manyWith 8 = .ok (.if_icmp .ge 27, 3) := kd_162 (a := 0) (b := 27) (by decide +kernel)
theorem dX11_manyWith_35 : decode cX11_manyWith 35 = .ok (.iload_n 2, 1) := kd_28 (by decide +kernel)
theorem dX11_manyWith_36 : decode cX11_manyWith 36 = .ok (.ireturn, 1) := kd_172 (by decide +kernel)
theorem dX11_manyWith_11 : decode cX11_manyWith 11 = .ok (.iload_n 2, 1) := kd_28 (by decide +kernel)
theorem dX11_manyWith_12 : decode cX11_manyWith 12 = .ok (.aload_n 0, 1) := kd_42 (by decide +kernel)
theorem dX11_manyWith_13 : decode cX11_manyWith 13 = .ok (.bipush 20, 2) := kd_16 (a := 20) (by decide +kernel)
theorem dX11_manyWith_15 : decode cX11_manyWith 15 = .ok (.iload_n 3, 1) := kd_29 (by decide +kernel)
theorem dX11_manyWith_16 : decode cX11_manyWith 16 = .ok (.iadd, 1) := kd_96 (by decide +kernel)
theorem dX11_manyWith_17 : decode cX11_manyWith 17 = .ok (.iaload, 1) := kd_46 (by decide +kernel)
theorem dX11_manyWith_18 : decode cX11_manyWith 18 = .ok (.iload_n 1, 1) := kd_27 (by decide +kernel)
theorem dX11_manyWith_19 : decode cX11_manyWith 19 = .ok (.if_icmp .ne 7, 3) := kd_160 (a := 0) (b := 7) (by decide +kernel)
theorem dX11_manyWith_26 : decode cX11_manyWith 26 = .ok (.iconst 0, 1) := kd_3 (by decide +kernel)
theorem dX11_manyWith_22 : decode cX11_manyWith 22 = .ok (.iconst 1, 1) := kd_4 (by decide +kernel)
theorem dX11_manyWith_23 : decode cX11_manyWith 23 = .ok (.goto 4, 3) := kd_167 (a := 0) (b := 4) (by decide +kernel)
theorem dX11_manyWith_27 : decode cX11_manyWith 27 = .ok (.iadd, 1) := kd_96 (by decide +kernel)
theorem dX11_manyWith_28 : decode cX11_manyWith 28 = .ok (.istore_n 2, 1) := kd_61 (by decide +kernel)
theorem dX11_manyWith_29 : decode cX11_manyWith 29 = .ok (.iinc 3 1, 3) := kd_132 (a := 3) (b := 1) (by decide +kernel)
theorem dX11_manyWith_32 : decode cX11_manyWith 32 = .ok (.goto (-28), 3) := kd_167 (a := 255) (b := 228) (by decide +kernel)
set_option maxHeartbeats 8000000 in
set_option maxRecDepth 100000 in
theorem c_X11_manyWith_311 (l : Launch) (G : gG) (q0 : Nat) (qF : Nat → Int) (K0 : Int) (a1 : Int) (y0_ : bp (plA K0) qF) (hK0 : 1000 ≤ K0 ∧ K0 ≤ 2000000) (ra1 : -2147483648 ≤ a1 ∧ a1 ≤ 2147483647) (sz : Nat) : gI G l yX11_manyWith wsX11_manyWith ({ frames := 0, cells := 0, slots := 0, locals := 0 } : Room) [.ref q0, .int (iI a1)] [(q0, .inl (G.2 0, 311, .inl (cI qF)))] sz (fun (r : Int32) (u : va_W) => (∃ rr : Int, r = (iI rr) ∧ u = [(q0, .inl (G.2 0, 311, .inl (cI qF)))])) := by
  refine Met.ofW (cc := cX11_manyWith) (maxL := 4) (ret := (some .int)) (by decide) rfl ?_
  intro p e s m args below meth c s₁ B hml hv
  obtain ⟨rfl, hsz, hP, hK, hD0, hN, hZ⟩ := hv
  have hx := B.exec
  have hb := B.bytes
  have hr := B.returns
  have hts := atoms_spec (ws := wsX11_manyWith) B.pre
  have hown : s.vm.findClass RX11 = some m.cls := findClass_of_methodNamed B.named
  have hlocks := B.notSynchronized
  subst hsz
  have hD := hD0.self (sz := s.heap.size)
  generalize hAe : va_A [(q0, .inl (G.2 0, 311, .inl (cI qF)))] s.heap.size = A at hD hZ ⊢
  have hA : ∀ q : Nat, s.heap.size ≤ q → A q := fun q h => by rw [← hAe]; exact Or.inr h
  have hS : va_S A s.heap s.heap [] := va_S.rf
  have hP : va_P G.1 vwCl [(q0, .inl (G.2 0, 311, .inl (cI qF)))] s.heap := hP
  have hl := lv_entry ([.ref q0, .int (iI a1)]) (n := 4) (Nat.le_of_ble_eq_true rfl)
  rw [lg_entry_eq]
  generalize (lg_sl ([.ref q0, .int (iI a1)]) ++ List.replicate (4 - (lg_sl ([.ref q0, .int (iI a1)])).length) Slot.unset).toArray = ls at hl ⊢
  have hl : lv_has ls 4 [(0, .ref q0), (1, .int (iI a1))] := hl
  refine lv_iconst (v := iI 0) hx hb dX11_manyWith_0 rfl ?_
  refine lv_istore_n (lv' := [(2, .int (iI 0)), (0, .ref q0), (1, .int (iI a1))]) hx hb dX11_manyWith_1 rfl hl (by decide) rfl (fun ls hl => ?_)
  refine lv_iconst (v := iI 0) hx hb dX11_manyWith_2 rfl ?_
  refine lv_istore_n (lv' := [(3, .int (iI 0)), (2, .int (iI 0)), (0, .ref q0), (1, .int (iI a1))]) hx hb dX11_manyWith_3 rfl hl (by decide) rfl (fun ls hl => ?_)
  refine g_loopN (pc := 4) (fun nn H locs ls => ∃ s0__1 : Int, ∃ i0__2 : Int, (0 ≤ i0__2 ∧ i0__2 ≤ 7) ∧ (7 - i0__2).toNat = nn ∧ va_P G.1 vwCl [(q0, .inl (G.2 0, 311, .inl (cI qF)))] H ∧ va_D A [(q0, .inl (G.2 0, 311, .inl (cI qF)))] ∧ va_S A s.heap H locs ∧ lv_has ls 4 [(3, .int (iI i0__2)), (2, .int (iI s0__1)), (0, .ref q0), (1, .int (iI a1))]) ?_ ⟨0, 0, (by first | assumption | omega), rfl, hP, hD, hS, lv_sub hl [0, 1, 2, 3] rfl⟩
  intro nn_5 H locs ls ih_4 hI
  refine ea_2_6 hI (fun s0__1 i0__2 f_3 hnn_6 hP hD hS hl => ?_)
  clear hI
  refine lv_iload_n hx hb dX11_manyWith_4 rfl (lv_at hl 0 rfl) ?_
  refine lv_aload_n hx hb dX11_manyWith_5 rfl (lv_at hl 2 rfl) ?_
  refine lv_iconst (v := iI 0) hx hb dX11_manyWith_6 rfl ?_
  refine g_ild hx hb hK hP 0 rfl (by omega) (by omega) (by first | exact Nat.le_of_ble_eq_true rfl | omega) dX11_manyWith_7 (fun w_7 ew_7 => ?_)
  have ew_7 : qF 0 = w_7 := ew_7
  have bw_7 : 0 ≤ w_7 ∧ w_7 ≤ 7 := by rw [← ew_7]; exact y0_ 0
  refine lv_icmp_ge (tgt := 35) hx hb dX11_manyWith_8 (by decide) (fun c_8 => ?_) (fun c_8 => ?_)
  · have c_8 := (iI_le (a := w_7) (b := i0__2) (by omega) (by omega)).mp c_8
    refine lv_iload_n hx hb dX11_manyWith_35 rfl (lv_at hl 1 rfl) ?_
    exact g_iret (v := (iI s0__1)) hx hb hr hlocks hP hD hS (⟨s0__1, rfl, rfl⟩) dX11_manyWith_36
  · have c_8 : ¬ (w_7 ≤ i0__2) := fun h9 => c_8 ((iI_le (a := w_7) (b := i0__2) (by omega) (by omega)).mpr h9)
    refine lv_iload_n hx hb dX11_manyWith_11 rfl (lv_at hl 1 rfl) ?_
    refine lv_aload_n hx hb dX11_manyWith_12 rfl (lv_at hl 2 rfl) ?_
    refine lv_bipush (v := iI 20) hx hb dX11_manyWith_13 (by decide) ?_
    refine lv_iload_n hx hb dX11_manyWith_15 rfl (lv_at hl 0 rfl) ?_
    refine lv_iadd hx hb dX11_manyWith_16 ?_
    refine g_topi (y := iI (20 + i0__2)) (iI_add 20 i0__2) ?_
    refine g_ild hx hb hK hP 0 rfl (by omega) (by omega) (by first | exact Nat.le_of_ble_eq_true rfl | omega) dX11_manyWith_17 (fun w_9 ew_9 => ?_)
    have bw_9 : 0 ≤ w_9 ∧ w_9 ≤ K0 := by rw [← ew_9]; exact ⟨(y0_ _).1, Int.le_trans (y0_ _).2 (plA_le (by omega) _)⟩
    refine lv_iload_n hx hb dX11_manyWith_18 rfl (lv_at hl 3 rfl) ?_
    refine g_join (jn := 27) (rest := [.int (iI s0__1)]) (fun t_10 ls => ((¬ (w_9 = a1) ∧ t_10 = 0) ∨ (w_9 = a1 ∧ t_10 = 1)) ∧ lv_has ls 4 [(3, .int (iI i0__2)), (2, .int (iI s0__1)), (0, .ref q0), (1, .int (iI a1))]) (fun t_10 ls hI => ?_) (fun hJ_11 => ?_)
    · obtain ⟨f_12, hl⟩ := hI
      refine lv_iadd hx hb dX11_manyWith_27 ?_
      refine g_topi (y := iI (s0__1 + t_10)) (iI_add s0__1 t_10) ?_
      refine lv_istore_n (lv' := [(2, .int (iI (s0__1 + t_10))), (3, .int (iI i0__2)), (0, .ref q0), (1, .int (iI a1))]) hx hb dX11_manyWith_28 rfl hl (by decide) rfl (fun ls hl => ?_)
      refine lv_iinc (v := iI (i0__2 + 1)) (lv' := [(3, .int (iI (i0__2 + 1))), (2, .int (iI (s0__1 + t_10))), (0, .ref q0), (1, .int (iI a1))]) hx hb dX11_manyWith_29 hl (k := 1) rfl (iI_add i0__2 1) (by decide) rfl (fun ls hl => ?_)
      refine lv_goto (tgt := 4) hx hb dX11_manyWith_32 (by decide) ?_
      exact ih_4 _ _ _ _ (by omega) ⟨(s0__1 + t_10), (i0__2 + 1), (by first | assumption | omega), rfl, hP, hD, hS, lv_sub hl [0, 1, 2, 3] rfl⟩
    · refine lv_icmp_ne (tgt := 26) hx hb dX11_manyWith_19 (by decide) (fun c_13 => ?_) (fun c_13 => ?_)
      · have c_13 : ¬ (w_9 = a1) := fun h9 => c_13 ((iI_eq (a := w_9) (b := a1) (by omega) (by omega)).mpr h9)
        refine lv_iconst (v := iI 0) hx hb dX11_manyWith_26 rfl ?_
        exact hJ_11 0 ls ⟨by omega, lv_sub hl [0, 1, 2, 3] rfl⟩
      · have c_13 := (iI_eq (a := w_9) (b := a1) (by omega) (by omega)).mp c_13
        refine lv_iconst (v := iI 1) hx hb dX11_manyWith_22 rfl ?_
        refine lv_goto (tgt := 27) hx hb dX11_manyWith_23 (by decide) ?_
        exact hJ_11 1 ls ⟨by omega, lv_sub hl [0, 1, 2, 3] rfl⟩
set_option maxHeartbeats 8000000 in
set_option maxRecDepth 100000 in
theorem c_X11_manyWith_56 (l : Launch) (G : gG) (q0 : Nat) (qF : Nat → Int) (K0 : Int) (a1 : Int) (y0_ : bp (plA K0) qF) (hK0 : 1000 ≤ K0 ∧ K0 ≤ 2000000) (ra1 : -2147483648 ≤ a1 ∧ a1 ≤ 2147483647) (sz : Nat) : gI G l yX11_manyWith wsX11_manyWith ({ frames := 0, cells := 0, slots := 0, locals := 0 } : Room) [.ref q0, .int (iI a1)] [(q0, .inl (G.2 0, 56, .inl (cI qF)))] sz (fun (r : Int32) (u : va_W) => (∃ rr : Int, r = (iI rr) ∧ u = [(q0, .inl (G.2 0, 56, .inl (cI qF)))])) := by
  refine Met.ofW (cc := cX11_manyWith) (maxL := 4) (ret := (some .int)) (by decide) rfl ?_
  intro p e s m args below meth c s₁ B hml hv
  obtain ⟨rfl, hsz, hP, hK, hD0, hN, hZ⟩ := hv
  have hx := B.exec
  have hb := B.bytes
  have hr := B.returns
  have hts := atoms_spec (ws := wsX11_manyWith) B.pre
  have hown : s.vm.findClass RX11 = some m.cls := findClass_of_methodNamed B.named
  have hlocks := B.notSynchronized
  subst hsz
  have hD := hD0.self (sz := s.heap.size)
  generalize hAe : va_A [(q0, .inl (G.2 0, 56, .inl (cI qF)))] s.heap.size = A at hD hZ ⊢
  have hA : ∀ q : Nat, s.heap.size ≤ q → A q := fun q h => by rw [← hAe]; exact Or.inr h
  have hS : va_S A s.heap s.heap [] := va_S.rf
  have hP : va_P G.1 vwCl [(q0, .inl (G.2 0, 56, .inl (cI qF)))] s.heap := hP
  have hl := lv_entry ([.ref q0, .int (iI a1)]) (n := 4) (Nat.le_of_ble_eq_true rfl)
  rw [lg_entry_eq]
  generalize (lg_sl ([.ref q0, .int (iI a1)]) ++ List.replicate (4 - (lg_sl ([.ref q0, .int (iI a1)])).length) Slot.unset).toArray = ls at hl ⊢
  have hl : lv_has ls 4 [(0, .ref q0), (1, .int (iI a1))] := hl
  refine lv_iconst (v := iI 0) hx hb dX11_manyWith_0 rfl ?_
  refine lv_istore_n (lv' := [(2, .int (iI 0)), (0, .ref q0), (1, .int (iI a1))]) hx hb dX11_manyWith_1 rfl hl (by decide) rfl (fun ls hl => ?_)
  refine lv_iconst (v := iI 0) hx hb dX11_manyWith_2 rfl ?_
  refine lv_istore_n (lv' := [(3, .int (iI 0)), (2, .int (iI 0)), (0, .ref q0), (1, .int (iI a1))]) hx hb dX11_manyWith_3 rfl hl (by decide) rfl (fun ls hl => ?_)
  refine g_loopN (pc := 4) (fun nn H locs ls => ∃ s0__1 : Int, ∃ i0__2 : Int, (0 ≤ i0__2 ∧ i0__2 ≤ 7) ∧ (7 - i0__2).toNat = nn ∧ va_P G.1 vwCl [(q0, .inl (G.2 0, 56, .inl (cI qF)))] H ∧ va_D A [(q0, .inl (G.2 0, 56, .inl (cI qF)))] ∧ va_S A s.heap H locs ∧ lv_has ls 4 [(3, .int (iI i0__2)), (2, .int (iI s0__1)), (0, .ref q0), (1, .int (iI a1))]) ?_ ⟨0, 0, (by first | assumption | omega), rfl, hP, hD, hS, lv_sub hl [0, 1, 2, 3] rfl⟩
  intro nn_5 H locs ls ih_4 hI
  refine ea_2_6 hI (fun s0__1 i0__2 f_3 hnn_6 hP hD hS hl => ?_)
  clear hI
  refine lv_iload_n hx hb dX11_manyWith_4 rfl (lv_at hl 0 rfl) ?_
  refine lv_aload_n hx hb dX11_manyWith_5 rfl (lv_at hl 2 rfl) ?_
  refine lv_iconst (v := iI 0) hx hb dX11_manyWith_6 rfl ?_
  refine g_ild hx hb hK hP 0 rfl (by omega) (by omega) (by first | exact Nat.le_of_ble_eq_true rfl | omega) dX11_manyWith_7 (fun w_7 ew_7 => ?_)
  have ew_7 : qF 0 = w_7 := ew_7
  have bw_7 : 0 ≤ w_7 ∧ w_7 ≤ 7 := by rw [← ew_7]; exact y0_ 0
  refine lv_icmp_ge (tgt := 35) hx hb dX11_manyWith_8 (by decide) (fun c_8 => ?_) (fun c_8 => ?_)
  · have c_8 := (iI_le (a := w_7) (b := i0__2) (by omega) (by omega)).mp c_8
    refine lv_iload_n hx hb dX11_manyWith_35 rfl (lv_at hl 1 rfl) ?_
    exact g_iret (v := (iI s0__1)) hx hb hr hlocks hP hD hS (⟨s0__1, rfl, rfl⟩) dX11_manyWith_36
  · have c_8 : ¬ (w_7 ≤ i0__2) := fun h9 => c_8 ((iI_le (a := w_7) (b := i0__2) (by omega) (by omega)).mpr h9)
    refine lv_iload_n hx hb dX11_manyWith_11 rfl (lv_at hl 1 rfl) ?_
    refine lv_aload_n hx hb dX11_manyWith_12 rfl (lv_at hl 2 rfl) ?_
    refine lv_bipush (v := iI 20) hx hb dX11_manyWith_13 (by decide) ?_
    refine lv_iload_n hx hb dX11_manyWith_15 rfl (lv_at hl 0 rfl) ?_
    refine lv_iadd hx hb dX11_manyWith_16 ?_
    refine g_topi (y := iI (20 + i0__2)) (iI_add 20 i0__2) ?_
    refine g_ild hx hb hK hP 0 rfl (by omega) (by omega) (by first | exact Nat.le_of_ble_eq_true rfl | omega) dX11_manyWith_17 (fun w_9 ew_9 => ?_)
    have bw_9 : 0 ≤ w_9 ∧ w_9 ≤ K0 := by rw [← ew_9]; exact ⟨(y0_ _).1, Int.le_trans (y0_ _).2 (plA_le (by omega) _)⟩
    refine lv_iload_n hx hb dX11_manyWith_18 rfl (lv_at hl 3 rfl) ?_
    refine g_join (jn := 27) (rest := [.int (iI s0__1)]) (fun t_10 ls => ((¬ (w_9 = a1) ∧ t_10 = 0) ∨ (w_9 = a1 ∧ t_10 = 1)) ∧ lv_has ls 4 [(3, .int (iI i0__2)), (2, .int (iI s0__1)), (0, .ref q0), (1, .int (iI a1))]) (fun t_10 ls hI => ?_) (fun hJ_11 => ?_)
    · obtain ⟨f_12, hl⟩ := hI
      refine lv_iadd hx hb dX11_manyWith_27 ?_
      refine g_topi (y := iI (s0__1 + t_10)) (iI_add s0__1 t_10) ?_
      refine lv_istore_n (lv' := [(2, .int (iI (s0__1 + t_10))), (3, .int (iI i0__2)), (0, .ref q0), (1, .int (iI a1))]) hx hb dX11_manyWith_28 rfl hl (by decide) rfl (fun ls hl => ?_)
      refine lv_iinc (v := iI (i0__2 + 1)) (lv' := [(3, .int (iI (i0__2 + 1))), (2, .int (iI (s0__1 + t_10))), (0, .ref q0), (1, .int (iI a1))]) hx hb dX11_manyWith_29 hl (k := 1) rfl (iI_add i0__2 1) (by decide) rfl (fun ls hl => ?_)
      refine lv_goto (tgt := 4) hx hb dX11_manyWith_32 (by decide) ?_
      exact ih_4 _ _ _ _ (by omega) ⟨(s0__1 + t_10), (i0__2 + 1), (by first | assumption | omega), rfl, hP, hD, hS, lv_sub hl [0, 1, 2, 3] rfl⟩
    · refine lv_icmp_ne (tgt := 26) hx hb dX11_manyWith_19 (by decide) (fun c_13 => ?_) (fun c_13 => ?_)
      · have c_13 : ¬ (w_9 = a1) := fun h9 => c_13 ((iI_eq (a := w_9) (b := a1) (by omega) (by omega)).mpr h9)
        refine lv_iconst (v := iI 0) hx hb dX11_manyWith_26 rfl ?_
        exact hJ_11 0 ls ⟨by omega, lv_sub hl [0, 1, 2, 3] rfl⟩
      · have c_13 := (iI_eq (a := w_9) (b := a1) (by omega) (by omega)).mp c_13
        refine lv_iconst (v := iI 1) hx hb dX11_manyWith_22 rfl ?_
        refine lv_goto (tgt := 27) hx hb dX11_manyWith_23 (by decide) ?_
        exact hJ_11 1 ls ⟨by omega, lv_sub hl [0, 1, 2, 3] rfl⟩
theorem dX11_save_0 : decode cX11_save 0 = .ok (.aload_n 0, 1) := kd_42 (by decide +kernel)
theorem dX11_save_1 : decode cX11_save 1 = .ok (.getfield 7, 3) := kd_180 (a := 0) (b := 7) (by decide +kernel)
theorem dX11_save_4 : decode cX11_save 4 = .ok (.iconst 5, 1) := kd_8 (by decide +kernel)
theorem dX11_save_5 : decode cX11_save 5 = .ok (.iaload, 1) := kd_46 (by decide +kernel)
theorem dX11_save_6 : decode cX11_save 6 = .ok (.bipush 8, 2) := kd_16 (a := 8) (by decide +kernel)
theorem dX11_save_8 : decode cX11_save 8 = .ok (.if_icmp .ne 46, 3) := kd_160 (a := 0) (b := 46) (by decide +kernel)
theorem dX11_save_54 : decode cX11_save 54 = .ok (.iconst 0, 1) := kd_3 (by decide +kernel)
theorem dX11_save_55 : decode cX11_save 55 = .ok (.istore_n 1, 1) := kd_60 (by decide +kernel)
theorem dX11_save_56 : decode cX11_save 56 = .ok (.iload_n 1, 1) := kd_27 (by decide +kernel)
theorem dX11_save_57 : decode cX11_save 57 = .ok (.bipush 22, 2) := kd_16 (a := 22) (by decide +kernel)
theorem dX11_save_59 : decode cX11_save 59 = .ok (.if_icmp .ge 38, 3) := kd_162 (a := 0) (b := 38) (by decide +kernel)
theorem dX11_save_97 : decode cX11_save 97 = .ok (.aload_n 0, 1) := kd_42 (by decide +kernel)
theorem dX11_save_98 : decode cX11_save 98 = .ok (.getfield 7, 3) := kd_180 (a := 0) (b := 7) (by decide +kernel)
theorem dX11_save_101 : decode cX11_save 101 = .ok (.iconst 5, 1) := kd_8 (by decide +kernel)
theorem dX11_save_102 : decode cX11_save 102 = .ok (.dup2, 1) := kd_92 (by decide +kernel)
theorem dX11_save_103 : decode cX11_save 103 = .ok (.iaload, 1) := kd_46 (by decide +kernel)
theorem dX11_save_104 : decode cX11_save 104 = .ok (.iconst 1, 1) := kd_4 (by decide +kernel)
theorem dX11_save_105 : decode cX11_save 105 = .ok (.iadd, 1) := kd_96 (by decide +kernel)
theorem dX11_save_106 : decode cX11_save 106 = .ok (.iastore, 1) := kd_79 (by decide +kernel)
theorem dX11_save_107 : decode cX11_save 107 = .ok (.return_, 1) := kd_177 (by decide +kernel)
theorem dX11_save_62 : decode cX11_save 62 = .ok (.aload_n 0, 1) := kd_42 (by decide +kernel)
theorem dX11_save_63 : decode cX11_save 63 = .ok (.getfield 7, 3) := kd_180 (a := 0) (b := 7) (by decide +kernel)
theorem dX11_save_66 : decode cX11_save 66 = .ok (.sipush 135, 3) := kd_17 (a := 0) (b := 135) (by decide +kernel)
theorem dX11_save_69 : decode cX11_save 69 = .ok (.bipush 22, 2) := kd_16 (a := 22) (by decide +kernel)
theorem dX11_save_71 : decode cX11_save 71 = .ok (.aload_n 0, 1) := kd_42 (by decide +kernel)
theorem dX11_save_72 : decode cX11_save 72 = .ok (.getfield 7, 3) := kd_180 (a := 0) (b := 7) (by decide +kernel)
theorem dX11_save_75 : decode cX11_save 75 = .ok (.iconst 5, 1) := kd_8 (by decide +kernel)
theorem dX11_save_76 : decode cX11_save 76 = .ok (.iaload, 1) := kd_46 (by decide +kernel)
theorem dX11_save_77 : decode cX11_save 77 = .ok (.imul, 1) := kd_104 (by decide +kernel)
theorem dX11_save_78 : decode cX11_save 78 = .ok (.iadd, 1) := kd_96 (by decide +kernel)
theorem dX11_save_79 : decode cX11_save 79 = .ok (.iload_n 1, 1) := kd_27 (by decide +kernel)
theorem dX11_save_80 : decode cX11_save 80 = .ok (.iadd, 1) := kd_96 (by decide +kernel)
theorem dX11_save_81 : decode cX11_save 81 = .ok (.aload_n 0, 1) := kd_42 (by decide +kernel)
theorem dX11_save_82 : decode cX11_save 82 = .ok (.getfield 7, 3) := kd_180 (a := 0) (b := 7) (by decide +kernel)
theorem dX11_save_85 : decode cX11_save 85 = .ok (.bipush 6, 2) := kd_16 (a := 6) (by decide +kernel)
theorem dX11_save_87 : decode cX11_save 87 = .ok (.iload_n 1, 1) := kd_27 (by decide +kernel)
theorem dX11_save_88 : decode cX11_save 88 = .ok (.iadd, 1) := kd_96 (by decide +kernel)
theorem dX11_save_89 : decode cX11_save 89 = .ok (.iaload, 1) := kd_46 (by decide +kernel)
theorem dX11_save_90 : decode cX11_save 90 = .ok (.iastore, 1) := kd_79 (by decide +kernel)
theorem dX11_save_91 : decode cX11_save 91 = .ok (.iinc 1 1, 3) := kd_132 (a := 1) (b := 1) (by decide +kernel)
theorem dX11_save_94 : decode cX11_save 94 = .ok (.goto (-38), 3) := kd_167 (a := 255) (b := 218) (by decide +kernel)
theorem dX11_save_11 : decode cX11_save 11 = .ok (.iconst 0, 1) := kd_3 (by decide +kernel)
theorem dX11_save_12 : decode cX11_save 12 = .ok (.istore_n 1, 1) := kd_60 (by decide +kernel)
theorem dX11_save_13 : decode cX11_save 13 = .ok (.iload_n 1, 1) := kd_27 (by decide +kernel)
theorem dX11_save_14 : decode cX11_save 14 = .ok (.sipush 154, 3) := kd_17 (a := 0) (b := 154) (by decide +kernel)
theorem dX11_save_17 : decode cX11_save 17 = .ok (.if_icmp .ge 29, 3) := kd_162 (a := 0) (b := 29) (by decide +kernel)
theorem dX11_save_46 : decode cX11_save 46 = .ok (.aload_n 0, 1) := kd_42 (by decide +kernel)
theorem dX11_save_47 : decode cX11_save 47 = .ok (.getfield 7, 3) := kd_180 (a := 0) (b := 7) (by decide +kernel)
theorem dX11_save_50 : decode cX11_save 50 = .ok (.iconst 5, 1) := kd_8 (by decide +kernel)
theorem dX11_save_51 : decode cX11_save 51 = .ok (.bipush 7, 2) := kd_16 (a := 7) (by decide +kernel)
theorem dX11_save_53 : decode cX11_save 53 = .ok (.iastore, 1) := kd_79 (by decide +kernel)
theorem dX11_save_20 : decode cX11_save 20 = .ok (.aload_n 0, 1) := kd_42 (by decide +kernel)
theorem dX11_save_21 : decode cX11_save 21 = .ok (.getfield 7, 3) := kd_180 (a := 0) (b := 7) (by decide +kernel)
theorem dX11_save_24 : decode cX11_save 24 = .ok (.sipush 135, 3) := kd_17 (a := 0) (b := 135) (by decide +kernel)
theorem dX11_save_27 : decode cX11_save 27 = .ok (.iload_n 1, 1) := kd_27 (by decide +kernel)
theorem dX11_save_28 : decode cX11_save 28 = .ok (.iadd, 1) := kd_96 (by decide +kernel)
theorem dX11_save_29 : decode cX11_save 29 = .ok (.aload_n 0, 1) := kd_42 (by decide +kernel)
theorem dX11_save_30 : decode cX11_save 30 = .ok (.getfield 7, 3) := kd_180 (a := 0) (b := 7) (by decide +kernel)
theorem dX11_save_33 : decode cX11_save 33 = .ok (.sipush 157, 3) := kd_17 (a := 0) (b := 157) (by decide +kernel)
theorem dX11_save_36 : decode cX11_save 36 = .ok (.iload_n 1, 1) := kd_27 (by decide +kernel)
theorem dX11_save_37 : decode cX11_save 37 = .ok (.iadd, 1) := kd_96 (by decide +kernel)
theorem dX11_save_38 : decode cX11_save 38 = .ok (.iaload, 1) := kd_46 (by decide +kernel)
theorem dX11_save_39 : decode cX11_save 39 = .ok (.iastore, 1) := kd_79 (by decide +kernel)
theorem dX11_save_40 : decode cX11_save 40 = .ok (.iinc 1 1, 3) := kd_132 (a := 1) (b := 1) (by decide +kernel)
theorem dX11_save_43 : decode cX11_save 43 = .ok (.goto (-30), 3) := kd_167 (a := 255) (b := 226) (by decide +kernel)
set_option maxHeartbeats 8000000 in
set_option maxRecDepth 100000 in
theorem c_X11_save (l : Launch) (G : gG) (m0 : Nat) (m_all : Nat) (m_kept : Nat) (m_isKept : Nat) (m_refused : Nat) (m_above : Int) (m_below : Int) (m_hand : Nat) (m_fewest : Nat) (m_whoBites : Nat) (m_leaves : Nat) (m_bestFeast : Nat) (m_tells : Nat) (m_hardOn : Nat) (m_bytes : Nat) (m_bytesLong : Int) (m_tokenAt : Int) (m_tokenLong : Int) (m_token : Int) (m_value : Int) (m_anew : Nat) (m_values : Nat) (mF : Nat → Int) (K0 : Int) (y0_ : bp (plA K0) mF) (hK0 : 1000 ≤ K0 ∧ K0 ≤ 2000000) (sz : Nat) : gV G l yX11_save wsX11_save ({ frames := 0, cells := 0, slots := 0, locals := 0 } : Room) [.ref m0] [(m0, .inr (10, [.ref m_all, .ref m_kept, .ref m_isKept, .ref m_refused, .long (lI m_above), .long (lI m_below), .ref m_hand, .ref m_fewest, .ref m_whoBites, .ref m_leaves, .ref m_bestFeast, .ref m_tells, .ref m_hardOn, .ref m_bytes, .int (iI m_bytesLong), .int (iI m_tokenAt), .int (iI m_tokenLong), .int (iI m_token), .int (iI m_value), .ref m_anew, .ref m_values])), (m_all, .inl (G.2 0, 311, .inl (cI mF)))] sz (fun (u : va_W) => (∃ Nq : Nat → Int, (bp (plA K0) Nq) ∧ (kW mF Nq) ∧ u = [(m0, .inr (10, [.ref m_all, .ref m_kept, .ref m_isKept, .ref m_refused, .long (lI m_above), .long (lI m_below), .ref m_hand, .ref m_fewest, .ref m_whoBites, .ref m_leaves, .ref m_bestFeast, .ref m_tells, .ref m_hardOn, .ref m_bytes, .int (iI m_bytesLong), .int (iI m_tokenAt), .int (iI m_tokenLong), .int (iI m_token), .int (iI m_value), .ref m_anew, .ref m_values])), (m_all, .inl (G.2 0, 311, .inl (cI Nq)))])) := by
  refine Met.ofW (cc := cX11_save) (maxL := 2) (ret := none) (by decide) rfl ?_
  intro p e s m args below meth c s₁ B hml hv
  obtain ⟨rfl, hsz, hP, hK, hD0, hN, hZ⟩ := hv
  have hx := B.exec
  have hb := B.bytes
  have hr := B.returns
  have hts := atoms_spec (ws := wsX11_save) B.pre
  have hown : s.vm.findClass RX11 = some m.cls := findClass_of_methodNamed B.named
  have hlocks := B.notSynchronized
  subst hsz
  have hD := hD0.self (sz := s.heap.size)
  generalize hAe : va_A [(m0, .inr (10, [.ref m_all, .ref m_kept, .ref m_isKept, .ref m_refused, .long (lI m_above), .long (lI m_below), .ref m_hand, .ref m_fewest, .ref m_whoBites, .ref m_leaves, .ref m_bestFeast, .ref m_tells, .ref m_hardOn, .ref m_bytes, .int (iI m_bytesLong), .int (iI m_tokenAt), .int (iI m_tokenLong), .int (iI m_token), .int (iI m_value), .ref m_anew, .ref m_values])), (m_all, .inl (G.2 0, 311, .inl (cI mF)))] s.heap.size = A at hD hZ ⊢
  have hA : ∀ q : Nat, s.heap.size ≤ q → A q := fun q h => by rw [← hAe]; exact Or.inr h
  have hS : va_S A s.heap s.heap [] := va_S.rf
  have hP : va_P G.1 vwCl [(m0, .inr (10, [.ref m_all, .ref m_kept, .ref m_isKept, .ref m_refused, .long (lI m_above), .long (lI m_below), .ref m_hand, .ref m_fewest, .ref m_whoBites, .ref m_leaves, .ref m_bestFeast, .ref m_tells, .ref m_hardOn, .ref m_bytes, .int (iI m_bytesLong), .int (iI m_tokenAt), .int (iI m_tokenLong), .int (iI m_token), .int (iI m_value), .ref m_anew, .ref m_values])), (m_all, .inl (G.2 0, 311, .inl (cI mF)))] s.heap := hP
  have hl := lv_entry ([.ref m0]) (n := 2) (Nat.le_of_ble_eq_true rfl)
  rw [lg_entry_eq]
  generalize (lg_sl ([.ref m0]) ++ List.replicate (2 - (lg_sl ([.ref m0])).length) Slot.unset).toArray = ls at hl ⊢
  have hl : lv_has ls 2 [(0, .ref m0)] := hl
  refine lv_aload_n hx hb dX11_save_0 rfl (lv_at hl 0 rfl) ?_
  refine va_get (D := G.1) (ci := 10) (v := .ref m_all) (C := RX11) (T := TX11) (N := 21) hx hb hts (fun _ h => List.mem_cons_of_mem _ (inlX11 _ h)) hown hK hP 0 rfl rfl 0 (by decide) (hts _ (List.mem_cons_of_mem _ (in_r6 (List.mem_of_getElem? (i := 0) rfl)))) (fun _ h9 => h9) rfl dX11_save_1 ?_
  refine lv_iconst (v := iI 5) hx hb dX11_save_4 rfl ?_
  refine g_ild hx hb hK hP 1 rfl (by omega) (by omega) (by first | exact Nat.le_of_ble_eq_true rfl | omega) dX11_save_5 (fun w_1 ew_1 => ?_)
  have ew_1 : mF 5 = w_1 := ew_1
  have bw_1 : 0 ≤ w_1 ∧ w_1 ≤ 8 := by rw [← ew_1]; exact y0_ 5
  refine lv_bipush (v := iI 8) hx hb dX11_save_6 (by decide) ?_
  refine lv_icmp_ne (tgt := 54) hx hb dX11_save_8 (by decide) (fun c_2 => ?_) (fun c_2 => ?_)
  · have c_2 : ¬ (w_1 = 8) := fun h9 => c_2 ((iI_eq (a := w_1) (b := 8) (by omega) (by first | decide | omega)).mpr h9)
    refine lv_iconst (v := iI 0) hx hb dX11_save_54 rfl ?_
    refine lv_istore_n (lv' := [(1, .int (iI 0)), (0, .ref m0)]) hx hb dX11_save_55 rfl hl (by decide) rfl (fun ls hl => ?_)
    refine g_loopN (pc := 56) (fun nn H locs ls => ∃ i0__3 : Int, ∃ E0_4 : Nat → Int, (0 ≤ i0__3 ∧ i0__3 ≤ 22) ∧ (bp (plA K0) E0_4) ∧ (kW mF E0_4) ∧ (0 ≤ E0_4 5 ∧ E0_4 5 ≤ 7) ∧ (22 - i0__3).toNat = nn ∧ va_P G.1 vwCl [(m0, .inr (10, [.ref m_all, .ref m_kept, .ref m_isKept, .ref m_refused, .long (lI m_above), .long (lI m_below), .ref m_hand, .ref m_fewest, .ref m_whoBites, .ref m_leaves, .ref m_bestFeast, .ref m_tells, .ref m_hardOn, .ref m_bytes, .int (iI m_bytesLong), .int (iI m_tokenAt), .int (iI m_tokenLong), .int (iI m_token), .int (iI m_value), .ref m_anew, .ref m_values])), (m_all, .inl (G.2 0, 311, .inl (cI E0_4)))] H ∧ va_D A [(m0, .inr (10, [.ref m_all, .ref m_kept, .ref m_isKept, .ref m_refused, .long (lI m_above), .long (lI m_below), .ref m_hand, .ref m_fewest, .ref m_whoBites, .ref m_leaves, .ref m_bestFeast, .ref m_tells, .ref m_hardOn, .ref m_bytes, .int (iI m_bytesLong), .int (iI m_tokenAt), .int (iI m_tokenLong), .int (iI m_token), .int (iI m_value), .ref m_anew, .ref m_values])), (m_all, .inl (G.2 0, 311, .inl (cI E0_4)))] ∧ va_S A s.heap H locs ∧ lv_has ls 2 [(1, .int (iI i0__3)), (0, .ref m0)]) ?_ ⟨0, mF, (by first | assumption | omega), (by first | exact y0_ | exact bpA_mono y0_ (by omega) | assumption), (by first | assumption | exact kW_r _ | exact kW_t (by assumption) (by assumption)), (by omega), rfl, hP, hD, hS, lv_sub hl [0, 1] rfl⟩
    intro nn_10 H locs ls ih_9 hI
    refine ea_2_9 hI (fun i0__3 E0_4 f_5 f_6 f_7 f_8 hnn_11 hP hD hS hl => ?_)
    clear hI
    refine lv_iload_n hx hb dX11_save_56 rfl (lv_at hl 0 rfl) ?_
    refine lv_bipush (v := iI 22) hx hb dX11_save_57 (by decide) ?_
    refine lv_icmp_ge (tgt := 97) hx hb dX11_save_59 (by decide) (fun c_12 => ?_) (fun c_12 => ?_)
    · have c_12 := (iI_le (a := 22) (b := i0__3) (by first | decide | omega) (by omega)).mp c_12
      refine lv_aload_n hx hb dX11_save_97 rfl (lv_at hl 1 rfl) ?_
      refine va_get (D := G.1) (ci := 10) (v := .ref m_all) (C := RX11) (T := TX11) (N := 21) hx hb hts (fun _ h => List.mem_cons_of_mem _ (inlX11 _ h)) hown hK hP 0 rfl rfl 0 (by decide) (hts _ (List.mem_cons_of_mem _ (in_r6 (List.mem_of_getElem? (i := 0) rfl)))) (fun _ h9 => h9) rfl dX11_save_98 ?_
      refine lv_iconst (v := iI 5) hx hb dX11_save_101 rfl ?_
      refine lv_dup2_11 hx hb dX11_save_102 rfl rfl ?_
      refine g_ild hx hb hK hP 1 rfl (by omega) (by omega) (by first | exact Nat.le_of_ble_eq_true rfl | omega) dX11_save_103 (fun w_13 ew_13 => ?_)
      have ew_13 : E0_4 5 = w_13 := ew_13
      have bw_13 : 0 ≤ w_13 ∧ w_13 ≤ 8 := by rw [← ew_13]; exact f_6 5
      refine lv_iconst (v := iI 1) hx hb dX11_save_104 rfl ?_
      refine lv_iadd hx hb dX11_save_105 ?_
      refine g_topi (y := iI (w_13 + 1)) (iI_add w_13 1) ?_
      refine g_ist hx hb hK hP hD hS 1 rfl (by omega) (by omega) (by first | exact Nat.le_of_ble_eq_true rfl | omega) dX11_save_106 (fun H locs hP hD hS => ?_)
      have hk_15 := bp_u (h := plA K0) (k := 5) (v := (w_13 + 1)) f_6 (by omega) (show (w_13 + 1) ≤ 8 by omega)
      have hk_16 := kW_u (k := 5) (v := (w_13 + 1)) f_7 (by omega)
      have hPD : PD G A H [(m0, .inr (10, [.ref m_all, .ref m_kept, .ref m_isKept, .ref m_refused, .long (lI m_above), .long (lI m_below), .ref m_hand, .ref m_fewest, .ref m_whoBites, .ref m_leaves, .ref m_bestFeast, .ref m_tells, .ref m_hardOn, .ref m_bytes, .int (iI m_bytesLong), .int (iI m_tokenAt), .int (iI m_tokenLong), .int (iI m_token), .int (iI m_value), .ref m_anew, .ref m_values])), (m_all, .inl (G.2 0, 311, .inl (cI (uI E0_4 5 (w_13 + 1)))))] := ⟨hP, hD⟩
      have hP := hPD.1
      have hD := hPD.2
      clear hPD
      generalize hF_14 : (uI E0_4 5 (w_13 + 1)) = F_14 at hP hD hk_15 hk_16
      exact g_vret hx hb hr hlocks hP hD hS (⟨F_14, (by first | exact hk_15 | exact bpA_mono hk_15 (by omega) | assumption), (by first | assumption | exact kW_r _ | exact kW_t (by assumption) (by assumption)), rfl⟩) dX11_save_107
    · have c_12 : ¬ (22 ≤ i0__3) := fun h9 => c_12 ((iI_le (a := 22) (b := i0__3) (by first | decide | omega) (by omega)).mpr h9)
      refine lv_aload_n hx hb dX11_save_62 rfl (lv_at hl 1 rfl) ?_
      refine va_get (D := G.1) (ci := 10) (v := .ref m_all) (C := RX11) (T := TX11) (N := 21) hx hb hts (fun _ h => List.mem_cons_of_mem _ (inlX11 _ h)) hown hK hP 0 rfl rfl 0 (by decide) (hts _ (List.mem_cons_of_mem _ (in_r6 (List.mem_of_getElem? (i := 0) rfl)))) (fun _ h9 => h9) rfl dX11_save_63 ?_
      refine lv_sipush (v := iI 135) hx hb dX11_save_66 (by decide) ?_
      refine lv_bipush (v := iI 22) hx hb dX11_save_69 (by decide) ?_
      refine lv_aload_n hx hb dX11_save_71 rfl (lv_at hl 1 rfl) ?_
      refine va_get (D := G.1) (ci := 10) (v := .ref m_all) (C := RX11) (T := TX11) (N := 21) hx hb hts (fun _ h => List.mem_cons_of_mem _ (inlX11 _ h)) hown hK hP 0 rfl rfl 0 (by decide) (hts _ (List.mem_cons_of_mem _ (in_r6 (List.mem_of_getElem? (i := 0) rfl)))) (fun _ h9 => h9) rfl dX11_save_72 ?_
      refine lv_iconst (v := iI 5) hx hb dX11_save_75 rfl ?_
      refine g_ild hx hb hK hP 1 rfl (by omega) (by omega) (by first | exact Nat.le_of_ble_eq_true rfl | omega) dX11_save_76 (fun w_17 ew_17 => ?_)
      have ew_17 : E0_4 5 = w_17 := ew_17
      have bw_17 : 0 ≤ w_17 ∧ w_17 ≤ 8 := by rw [← ew_17]; exact f_6 5
      refine lv_imul hx hb dX11_save_77 ?_
      refine g_topi (y := iI (22 * w_17)) (iI_mul 22 w_17) ?_
      refine lv_iadd hx hb dX11_save_78 ?_
      refine g_topi (y := iI (135 + (22 * w_17))) (iI_add 135 (22 * w_17)) ?_
      refine lv_iload_n hx hb dX11_save_79 rfl (lv_at hl 0 rfl) ?_
      refine lv_iadd hx hb dX11_save_80 ?_
      refine g_topi (y := iI ((135 + (22 * w_17)) + i0__3)) (iI_add (135 + (22 * w_17)) i0__3) ?_
      refine lv_aload_n hx hb dX11_save_81 rfl (lv_at hl 1 rfl) ?_
      refine va_get (D := G.1) (ci := 10) (v := .ref m_all) (C := RX11) (T := TX11) (N := 21) hx hb hts (fun _ h => List.mem_cons_of_mem _ (inlX11 _ h)) hown hK hP 0 rfl rfl 0 (by decide) (hts _ (List.mem_cons_of_mem _ (in_r6 (List.mem_of_getElem? (i := 0) rfl)))) (fun _ h9 => h9) rfl dX11_save_82 ?_
      refine lv_bipush (v := iI 6) hx hb dX11_save_85 (by decide) ?_
      refine lv_iload_n hx hb dX11_save_87 rfl (lv_at hl 0 rfl) ?_
      refine lv_iadd hx hb dX11_save_88 ?_
      refine g_topi (y := iI (6 + i0__3)) (iI_add 6 i0__3) ?_
      refine g_ild hx hb hK hP 1 rfl (by omega) (by omega) (by first | exact Nat.le_of_ble_eq_true rfl | omega) dX11_save_89 (fun w_18 ew_18 => ?_)
      have bw_18 := f_6 ((6 + i0__3).toNat)
      rw [ew_18] at bw_18
      refine g_ist hx hb hK hP hD hS 1 rfl (by omega) (by omega) (by first | exact Nat.le_of_ble_eq_true rfl | omega) dX11_save_90 (fun H locs hP hD hS => ?_)
      have hk_20 := bp_u (h := plA K0) (k := (((135 + (22 * w_17)) + i0__3).toNat)) (v := w_18) f_6 (by omega) (Int.le_trans bw_18.2 (plA_sv (by omega) (by omega) (by omega) (by omega)))
      have hk_21 := kW_u (k := (((135 + (22 * w_17)) + i0__3).toNat)) (v := w_18) f_7 (by omega)
      have hPD : PD G A H [(m0, .inr (10, [.ref m_all, .ref m_kept, .ref m_isKept, .ref m_refused, .long (lI m_above), .long (lI m_below), .ref m_hand, .ref m_fewest, .ref m_whoBites, .ref m_leaves, .ref m_bestFeast, .ref m_tells, .ref m_hardOn, .ref m_bytes, .int (iI m_bytesLong), .int (iI m_tokenAt), .int (iI m_tokenLong), .int (iI m_token), .int (iI m_value), .ref m_anew, .ref m_values])), (m_all, .inl (G.2 0, 311, .inl (cI (uI E0_4 (((135 + (22 * w_17)) + i0__3).toNat) w_18))))] := ⟨hP, hD⟩
      have hP := hPD.1
      have hD := hPD.2
      clear hPD
      generalize hF_19 : (uI E0_4 (((135 + (22 * w_17)) + i0__3).toNat) w_18) = F_19 at hP hD hk_20 hk_21
      refine lv_iinc (v := iI (i0__3 + 1)) (lv' := [(1, .int (iI (i0__3 + 1))), (0, .ref m0)]) hx hb dX11_save_91 hl (k := 0) rfl (iI_add i0__3 1) (by decide) rfl (fun ls hl => ?_)
      refine lv_goto (tgt := 56) hx hb dX11_save_94 (by decide) ?_
      exact ih_9 _ _ _ _ (by omega) ⟨(i0__3 + 1), F_19, (by first | assumption | omega), (by first | exact hk_20 | exact bpA_mono hk_20 (by omega) | assumption), (by first | assumption | exact kW_r _ | exact kW_t (by assumption) (by assumption)), (by have q9 := congrFun hF_19 5; rw [uI_ne (by omega)] at q9; omega), rfl, hP, hD, hS, lv_sub hl [0, 1] rfl⟩
  · have c_2 := (iI_eq (a := w_1) (b := 8) (by omega) (by first | decide | omega)).mp c_2
    refine lv_iconst (v := iI 0) hx hb dX11_save_11 rfl ?_
    refine lv_istore_n (lv' := [(1, .int (iI 0)), (0, .ref m0)]) hx hb dX11_save_12 rfl hl (by decide) rfl (fun ls hl => ?_)
    refine g_loopN (pc := 13) (fun nn H locs ls => ∃ i0__22 : Int, ∃ E0_23 : Nat → Int, (0 ≤ i0__22 ∧ i0__22 ≤ 154) ∧ (bp (plA K0) E0_23) ∧ (kW mF E0_23) ∧ (154 - i0__22).toNat = nn ∧ va_P G.1 vwCl [(m0, .inr (10, [.ref m_all, .ref m_kept, .ref m_isKept, .ref m_refused, .long (lI m_above), .long (lI m_below), .ref m_hand, .ref m_fewest, .ref m_whoBites, .ref m_leaves, .ref m_bestFeast, .ref m_tells, .ref m_hardOn, .ref m_bytes, .int (iI m_bytesLong), .int (iI m_tokenAt), .int (iI m_tokenLong), .int (iI m_token), .int (iI m_value), .ref m_anew, .ref m_values])), (m_all, .inl (G.2 0, 311, .inl (cI E0_23)))] H ∧ va_D A [(m0, .inr (10, [.ref m_all, .ref m_kept, .ref m_isKept, .ref m_refused, .long (lI m_above), .long (lI m_below), .ref m_hand, .ref m_fewest, .ref m_whoBites, .ref m_leaves, .ref m_bestFeast, .ref m_tells, .ref m_hardOn, .ref m_bytes, .int (iI m_bytesLong), .int (iI m_tokenAt), .int (iI m_tokenLong), .int (iI m_token), .int (iI m_value), .ref m_anew, .ref m_values])), (m_all, .inl (G.2 0, 311, .inl (cI E0_23)))] ∧ va_S A s.heap H locs ∧ lv_has ls 2 [(1, .int (iI i0__22)), (0, .ref m0)]) ?_ ⟨0, mF, (by first | assumption | omega), (by first | exact y0_ | exact bpA_mono y0_ (by omega) | assumption), (by first | assumption | exact kW_r _ | exact kW_t (by assumption) (by assumption)), rfl, hP, hD, hS, lv_sub hl [0, 1] rfl⟩
    intro nn_28 H locs ls ih_27 hI
    refine ea_2_8 hI (fun i0__22 E0_23 f_24 f_25 f_26 hnn_29 hP hD hS hl => ?_)
    clear hI
    refine lv_iload_n hx hb dX11_save_13 rfl (lv_at hl 0 rfl) ?_
    refine lv_sipush (v := iI 154) hx hb dX11_save_14 (by decide) ?_
    refine lv_icmp_ge (tgt := 46) hx hb dX11_save_17 (by decide) (fun c_30 => ?_) (fun c_30 => ?_)
    · have c_30 := (iI_le (a := 154) (b := i0__22) (by first | decide | omega) (by omega)).mp c_30
      refine lv_aload_n hx hb dX11_save_46 rfl (lv_at hl 1 rfl) ?_
      refine va_get (D := G.1) (ci := 10) (v := .ref m_all) (C := RX11) (T := TX11) (N := 21) hx hb hts (fun _ h => List.mem_cons_of_mem _ (inlX11 _ h)) hown hK hP 0 rfl rfl 0 (by decide) (hts _ (List.mem_cons_of_mem _ (in_r6 (List.mem_of_getElem? (i := 0) rfl)))) (fun _ h9 => h9) rfl dX11_save_47 ?_
      refine lv_iconst (v := iI 5) hx hb dX11_save_50 rfl ?_
      refine lv_bipush (v := iI 7) hx hb dX11_save_51 (by decide) ?_
      refine g_ist hx hb hK hP hD hS 1 rfl (by omega) (by omega) (by first | exact Nat.le_of_ble_eq_true rfl | omega) dX11_save_53 (fun H locs hP hD hS => ?_)
      have hk_32 := bp_u (h := plA K0) (k := 5) (v := 7) f_25 (by omega) (show 7 ≤ 8 by omega)
      have hk_33 := kW_u (k := 5) (v := 7) f_26 (by omega)
      have hPD : PD G A H [(m0, .inr (10, [.ref m_all, .ref m_kept, .ref m_isKept, .ref m_refused, .long (lI m_above), .long (lI m_below), .ref m_hand, .ref m_fewest, .ref m_whoBites, .ref m_leaves, .ref m_bestFeast, .ref m_tells, .ref m_hardOn, .ref m_bytes, .int (iI m_bytesLong), .int (iI m_tokenAt), .int (iI m_tokenLong), .int (iI m_token), .int (iI m_value), .ref m_anew, .ref m_values])), (m_all, .inl (G.2 0, 311, .inl (cI (uI E0_23 5 7))))] := ⟨hP, hD⟩
      have hP := hPD.1
      have hD := hPD.2
      clear hPD
      generalize hF_31 : (uI E0_23 5 7) = F_31 at hP hD hk_32 hk_33
      refine lv_iconst (v := iI 0) hx hb dX11_save_54 rfl ?_
      refine lv_istore_n (lv' := [(1, .int (iI 0)), (0, .ref m0)]) hx hb dX11_save_55 rfl hl (by decide) rfl (fun ls hl => ?_)
      refine g_loopN (pc := 56) (fun nn H locs ls => ∃ i0__34 : Int, ∃ E0_35 : Nat → Int, (0 ≤ i0__34 ∧ i0__34 ≤ 22) ∧ (bp (plA K0) E0_35) ∧ (kW mF E0_35) ∧ (0 ≤ E0_35 5 ∧ E0_35 5 ≤ 7) ∧ (22 - i0__34).toNat = nn ∧ va_P G.1 vwCl [(m0, .inr (10, [.ref m_all, .ref m_kept, .ref m_isKept, .ref m_refused, .long (lI m_above), .long (lI m_below), .ref m_hand, .ref m_fewest, .ref m_whoBites, .ref m_leaves, .ref m_bestFeast, .ref m_tells, .ref m_hardOn, .ref m_bytes, .int (iI m_bytesLong), .int (iI m_tokenAt), .int (iI m_tokenLong), .int (iI m_token), .int (iI m_value), .ref m_anew, .ref m_values])), (m_all, .inl (G.2 0, 311, .inl (cI E0_35)))] H ∧ va_D A [(m0, .inr (10, [.ref m_all, .ref m_kept, .ref m_isKept, .ref m_refused, .long (lI m_above), .long (lI m_below), .ref m_hand, .ref m_fewest, .ref m_whoBites, .ref m_leaves, .ref m_bestFeast, .ref m_tells, .ref m_hardOn, .ref m_bytes, .int (iI m_bytesLong), .int (iI m_tokenAt), .int (iI m_tokenLong), .int (iI m_token), .int (iI m_value), .ref m_anew, .ref m_values])), (m_all, .inl (G.2 0, 311, .inl (cI E0_35)))] ∧ va_S A s.heap H locs ∧ lv_has ls 2 [(1, .int (iI i0__34)), (0, .ref m0)]) ?_ ⟨0, F_31, (by first | assumption | omega), (by first | exact hk_32 | exact bpA_mono hk_32 (by omega) | assumption), (by first | assumption | exact kW_r _ | exact kW_t (by assumption) (by assumption)), (by have q9 := congrFun hF_31 5; rw [uI_eq] at q9; omega), rfl, hP, hD, hS, lv_sub hl [0, 1] rfl⟩
      intro nn_41 H locs ls ih_40 hI
      refine ea_2_9 hI (fun i0__34 E0_35 f_36 f_37 f_38 f_39 hnn_42 hP hD hS hl => ?_)
      clear hI
      refine lv_iload_n hx hb dX11_save_56 rfl (lv_at hl 0 rfl) ?_
      refine lv_bipush (v := iI 22) hx hb dX11_save_57 (by decide) ?_
      refine lv_icmp_ge (tgt := 97) hx hb dX11_save_59 (by decide) (fun c_43 => ?_) (fun c_43 => ?_)
      · have c_43 := (iI_le (a := 22) (b := i0__34) (by first | decide | omega) (by omega)).mp c_43
        refine lv_aload_n hx hb dX11_save_97 rfl (lv_at hl 1 rfl) ?_
        refine va_get (D := G.1) (ci := 10) (v := .ref m_all) (C := RX11) (T := TX11) (N := 21) hx hb hts (fun _ h => List.mem_cons_of_mem _ (inlX11 _ h)) hown hK hP 0 rfl rfl 0 (by decide) (hts _ (List.mem_cons_of_mem _ (in_r6 (List.mem_of_getElem? (i := 0) rfl)))) (fun _ h9 => h9) rfl dX11_save_98 ?_
        refine lv_iconst (v := iI 5) hx hb dX11_save_101 rfl ?_
        refine lv_dup2_11 hx hb dX11_save_102 rfl rfl ?_
        refine g_ild hx hb hK hP 1 rfl (by omega) (by omega) (by first | exact Nat.le_of_ble_eq_true rfl | omega) dX11_save_103 (fun w_44 ew_44 => ?_)
        have ew_44 : E0_35 5 = w_44 := ew_44
        have bw_44 : 0 ≤ w_44 ∧ w_44 ≤ 8 := by rw [← ew_44]; exact f_37 5
        refine lv_iconst (v := iI 1) hx hb dX11_save_104 rfl ?_
        refine lv_iadd hx hb dX11_save_105 ?_
        refine g_topi (y := iI (w_44 + 1)) (iI_add w_44 1) ?_
        refine g_ist hx hb hK hP hD hS 1 rfl (by omega) (by omega) (by first | exact Nat.le_of_ble_eq_true rfl | omega) dX11_save_106 (fun H locs hP hD hS => ?_)
        have hk_46 := bp_u (h := plA K0) (k := 5) (v := (w_44 + 1)) f_37 (by omega) (show (w_44 + 1) ≤ 8 by omega)
        have hk_47 := kW_u (k := 5) (v := (w_44 + 1)) f_38 (by omega)
        have hPD : PD G A H [(m0, .inr (10, [.ref m_all, .ref m_kept, .ref m_isKept, .ref m_refused, .long (lI m_above), .long (lI m_below), .ref m_hand, .ref m_fewest, .ref m_whoBites, .ref m_leaves, .ref m_bestFeast, .ref m_tells, .ref m_hardOn, .ref m_bytes, .int (iI m_bytesLong), .int (iI m_tokenAt), .int (iI m_tokenLong), .int (iI m_token), .int (iI m_value), .ref m_anew, .ref m_values])), (m_all, .inl (G.2 0, 311, .inl (cI (uI E0_35 5 (w_44 + 1)))))] := ⟨hP, hD⟩
        have hP := hPD.1
        have hD := hPD.2
        clear hPD
        generalize hF_45 : (uI E0_35 5 (w_44 + 1)) = F_45 at hP hD hk_46 hk_47
        exact g_vret hx hb hr hlocks hP hD hS (⟨F_45, (by first | exact hk_46 | exact bpA_mono hk_46 (by omega) | assumption), (by first | assumption | exact kW_r _ | exact kW_t (by assumption) (by assumption)), rfl⟩) dX11_save_107
      · have c_43 : ¬ (22 ≤ i0__34) := fun h9 => c_43 ((iI_le (a := 22) (b := i0__34) (by first | decide | omega) (by omega)).mpr h9)
        refine lv_aload_n hx hb dX11_save_62 rfl (lv_at hl 1 rfl) ?_
        refine va_get (D := G.1) (ci := 10) (v := .ref m_all) (C := RX11) (T := TX11) (N := 21) hx hb hts (fun _ h => List.mem_cons_of_mem _ (inlX11 _ h)) hown hK hP 0 rfl rfl 0 (by decide) (hts _ (List.mem_cons_of_mem _ (in_r6 (List.mem_of_getElem? (i := 0) rfl)))) (fun _ h9 => h9) rfl dX11_save_63 ?_
        refine lv_sipush (v := iI 135) hx hb dX11_save_66 (by decide) ?_
        refine lv_bipush (v := iI 22) hx hb dX11_save_69 (by decide) ?_
        refine lv_aload_n hx hb dX11_save_71 rfl (lv_at hl 1 rfl) ?_
        refine va_get (D := G.1) (ci := 10) (v := .ref m_all) (C := RX11) (T := TX11) (N := 21) hx hb hts (fun _ h => List.mem_cons_of_mem _ (inlX11 _ h)) hown hK hP 0 rfl rfl 0 (by decide) (hts _ (List.mem_cons_of_mem _ (in_r6 (List.mem_of_getElem? (i := 0) rfl)))) (fun _ h9 => h9) rfl dX11_save_72 ?_
        refine lv_iconst (v := iI 5) hx hb dX11_save_75 rfl ?_
        refine g_ild hx hb hK hP 1 rfl (by omega) (by omega) (by first | exact Nat.le_of_ble_eq_true rfl | omega) dX11_save_76 (fun w_48 ew_48 => ?_)
        have ew_48 : E0_35 5 = w_48 := ew_48
        have bw_48 : 0 ≤ w_48 ∧ w_48 ≤ 8 := by rw [← ew_48]; exact f_37 5
        refine lv_imul hx hb dX11_save_77 ?_
        refine g_topi (y := iI (22 * w_48)) (iI_mul 22 w_48) ?_
        refine lv_iadd hx hb dX11_save_78 ?_
        refine g_topi (y := iI (135 + (22 * w_48))) (iI_add 135 (22 * w_48)) ?_
        refine lv_iload_n hx hb dX11_save_79 rfl (lv_at hl 0 rfl) ?_
        refine lv_iadd hx hb dX11_save_80 ?_
        refine g_topi (y := iI ((135 + (22 * w_48)) + i0__34)) (iI_add (135 + (22 * w_48)) i0__34) ?_
        refine lv_aload_n hx hb dX11_save_81 rfl (lv_at hl 1 rfl) ?_
        refine va_get (D := G.1) (ci := 10) (v := .ref m_all) (C := RX11) (T := TX11) (N := 21) hx hb hts (fun _ h => List.mem_cons_of_mem _ (inlX11 _ h)) hown hK hP 0 rfl rfl 0 (by decide) (hts _ (List.mem_cons_of_mem _ (in_r6 (List.mem_of_getElem? (i := 0) rfl)))) (fun _ h9 => h9) rfl dX11_save_82 ?_
        refine lv_bipush (v := iI 6) hx hb dX11_save_85 (by decide) ?_
        refine lv_iload_n hx hb dX11_save_87 rfl (lv_at hl 0 rfl) ?_
        refine lv_iadd hx hb dX11_save_88 ?_
        refine g_topi (y := iI (6 + i0__34)) (iI_add 6 i0__34) ?_
        refine g_ild hx hb hK hP 1 rfl (by omega) (by omega) (by first | exact Nat.le_of_ble_eq_true rfl | omega) dX11_save_89 (fun w_49 ew_49 => ?_)
        have bw_49 := f_37 ((6 + i0__34).toNat)
        rw [ew_49] at bw_49
        refine g_ist hx hb hK hP hD hS 1 rfl (by omega) (by omega) (by first | exact Nat.le_of_ble_eq_true rfl | omega) dX11_save_90 (fun H locs hP hD hS => ?_)
        have hk_51 := bp_u (h := plA K0) (k := (((135 + (22 * w_48)) + i0__34).toNat)) (v := w_49) f_37 (by omega) (Int.le_trans bw_49.2 (plA_sv (by omega) (by omega) (by omega) (by omega)))
        have hk_52 := kW_u (k := (((135 + (22 * w_48)) + i0__34).toNat)) (v := w_49) f_38 (by omega)
        have hPD : PD G A H [(m0, .inr (10, [.ref m_all, .ref m_kept, .ref m_isKept, .ref m_refused, .long (lI m_above), .long (lI m_below), .ref m_hand, .ref m_fewest, .ref m_whoBites, .ref m_leaves, .ref m_bestFeast, .ref m_tells, .ref m_hardOn, .ref m_bytes, .int (iI m_bytesLong), .int (iI m_tokenAt), .int (iI m_tokenLong), .int (iI m_token), .int (iI m_value), .ref m_anew, .ref m_values])), (m_all, .inl (G.2 0, 311, .inl (cI (uI E0_35 (((135 + (22 * w_48)) + i0__34).toNat) w_49))))] := ⟨hP, hD⟩
        have hP := hPD.1
        have hD := hPD.2
        clear hPD
        generalize hF_50 : (uI E0_35 (((135 + (22 * w_48)) + i0__34).toNat) w_49) = F_50 at hP hD hk_51 hk_52
        refine lv_iinc (v := iI (i0__34 + 1)) (lv' := [(1, .int (iI (i0__34 + 1))), (0, .ref m0)]) hx hb dX11_save_91 hl (k := 0) rfl (iI_add i0__34 1) (by decide) rfl (fun ls hl => ?_)
        refine lv_goto (tgt := 56) hx hb dX11_save_94 (by decide) ?_
        exact ih_40 _ _ _ _ (by omega) ⟨(i0__34 + 1), F_50, (by first | assumption | omega), (by first | exact hk_51 | exact bpA_mono hk_51 (by omega) | assumption), (by first | assumption | exact kW_r _ | exact kW_t (by assumption) (by assumption)), (by have q9 := congrFun hF_50 5; rw [uI_ne (by omega)] at q9; omega), rfl, hP, hD, hS, lv_sub hl [0, 1] rfl⟩
    · have c_30 : ¬ (154 ≤ i0__22) := fun h9 => c_30 ((iI_le (a := 154) (b := i0__22) (by first | decide | omega) (by omega)).mpr h9)
      refine lv_aload_n hx hb dX11_save_20 rfl (lv_at hl 1 rfl) ?_
      refine va_get (D := G.1) (ci := 10) (v := .ref m_all) (C := RX11) (T := TX11) (N := 21) hx hb hts (fun _ h => List.mem_cons_of_mem _ (inlX11 _ h)) hown hK hP 0 rfl rfl 0 (by decide) (hts _ (List.mem_cons_of_mem _ (in_r6 (List.mem_of_getElem? (i := 0) rfl)))) (fun _ h9 => h9) rfl dX11_save_21 ?_
      refine lv_sipush (v := iI 135) hx hb dX11_save_24 (by decide) ?_
      refine lv_iload_n hx hb dX11_save_27 rfl (lv_at hl 0 rfl) ?_
      refine lv_iadd hx hb dX11_save_28 ?_
      refine g_topi (y := iI (135 + i0__22)) (iI_add 135 i0__22) ?_
      refine lv_aload_n hx hb dX11_save_29 rfl (lv_at hl 1 rfl) ?_
      refine va_get (D := G.1) (ci := 10) (v := .ref m_all) (C := RX11) (T := TX11) (N := 21) hx hb hts (fun _ h => List.mem_cons_of_mem _ (inlX11 _ h)) hown hK hP 0 rfl rfl 0 (by decide) (hts _ (List.mem_cons_of_mem _ (in_r6 (List.mem_of_getElem? (i := 0) rfl)))) (fun _ h9 => h9) rfl dX11_save_30 ?_
      refine lv_sipush (v := iI 157) hx hb dX11_save_33 (by decide) ?_
      refine lv_iload_n hx hb dX11_save_36 rfl (lv_at hl 0 rfl) ?_
      refine lv_iadd hx hb dX11_save_37 ?_
      refine g_topi (y := iI (157 + i0__22)) (iI_add 157 i0__22) ?_
      refine g_ild hx hb hK hP 1 rfl (by omega) (by omega) (by first | exact Nat.le_of_ble_eq_true rfl | omega) dX11_save_38 (fun w_53 ew_53 => ?_)
      have bw_53 := f_25 ((157 + i0__22).toNat)
      rw [ew_53] at bw_53
      refine g_ist hx hb hK hP hD hS 1 rfl (by omega) (by omega) (by first | exact Nat.le_of_ble_eq_true rfl | omega) dX11_save_39 (fun H locs hP hD hS => ?_)
      have hk_55 := bp_u (h := plA K0) (k := ((135 + i0__22).toNat)) (v := w_53) f_25 (by omega) (Int.le_trans bw_53.2 (plA_sh (by omega) (by omega)))
      have hk_56 := kW_u (k := ((135 + i0__22).toNat)) (v := w_53) f_26 (by omega)
      have hPD : PD G A H [(m0, .inr (10, [.ref m_all, .ref m_kept, .ref m_isKept, .ref m_refused, .long (lI m_above), .long (lI m_below), .ref m_hand, .ref m_fewest, .ref m_whoBites, .ref m_leaves, .ref m_bestFeast, .ref m_tells, .ref m_hardOn, .ref m_bytes, .int (iI m_bytesLong), .int (iI m_tokenAt), .int (iI m_tokenLong), .int (iI m_token), .int (iI m_value), .ref m_anew, .ref m_values])), (m_all, .inl (G.2 0, 311, .inl (cI (uI E0_23 ((135 + i0__22).toNat) w_53))))] := ⟨hP, hD⟩
      have hP := hPD.1
      have hD := hPD.2
      clear hPD
      generalize hF_54 : (uI E0_23 ((135 + i0__22).toNat) w_53) = F_54 at hP hD hk_55 hk_56
      refine lv_iinc (v := iI (i0__22 + 1)) (lv' := [(1, .int (iI (i0__22 + 1))), (0, .ref m0)]) hx hb dX11_save_40 hl (k := 0) rfl (iI_add i0__22 1) (by decide) rfl (fun ls hl => ?_)
      refine lv_goto (tgt := 13) hx hb dX11_save_43 (by decide) ?_
      exact ih_27 _ _ _ _ (by omega) ⟨(i0__22 + 1), F_54, (by first | assumption | omega), (by first | exact hk_55 | exact bpA_mono hk_55 (by omega) | assumption), (by first | assumption | exact kW_r _ | exact kW_t (by assumption) (by assumption)), rfl, hP, hD, hS, lv_sub hl [0, 1] rfl⟩
theorem dX11_layHand_0 : decode cX11_layHand 0 = .ok (.iconst 0, 1) := kd_3 (by decide +kernel)
theorem dX11_layHand_1 : decode cX11_layHand 1 = .ok (.istore_n 1, 1) := kd_60 (by decide +kernel)
theorem dX11_layHand_2 : decode cX11_layHand 2 = .ok (.iload_n 1, 1) := kd_27 (by decide +kernel)
theorem dX11_layHand_3 : decode cX11_layHand 3 = .ok (.bipush 56, 2) := kd_16 (a := 56) (by decide +kernel)
theorem dX11_layHand_5 : decode cX11_layHand 5 = .ok (.if_icmp .ge 21, 3) := kd_162 (a := 0) (b := 21) (by decide +kernel)
theorem dX11_layHand_26 : decode cX11_layHand 26 = .ok (.return_, 1) := kd_177 (by decide +kernel)
theorem dX11_layHand_8 : decode cX11_layHand 8 = .ok (.aload_n 0, 1) := kd_42 (by decide +kernel)
theorem dX11_layHand_9 : decode cX11_layHand 9 = .ok (.getfield 27, 3) := kd_180 (a := 0) (b := 27) (by decide +kernel)
theorem dX11_layHand_12 : decode cX11_layHand 12 = .ok (.iload_n 1, 1) := kd_27 (by decide +kernel)
theorem dX11_layHand_13 : decode cX11_layHand 13 = .ok (.aload_n 0, 1) := kd_42 (by decide +kernel)
theorem dX11_layHand_14 : decode cX11_layHand 14 = .ok (.getfield 7, 3) := kd_180 (a := 0) (b := 7) (by decide +kernel)
theorem dX11_layHand_17 : decode cX11_layHand 17 = .ok (.iload_n 1, 1) := kd_27 (by decide +kernel)
theorem dX11_layHand_18 : decode cX11_layHand 18 = .ok (.iaload, 1) := kd_46 (by decide +kernel)
theorem dX11_layHand_19 : decode cX11_layHand 19 = .ok (.iastore, 1) := kd_79 (by decide +kernel)
theorem dX11_layHand_20 : decode cX11_layHand 20 = .ok (.iinc 1 1, 3) := kd_132 (a := 1) (b := 1) (by decide +kernel)
theorem dX11_layHand_23 : decode cX11_layHand 23 = .ok (.goto (-21), 3) := kd_167 (a := 255) (b := 235) (by decide +kernel)
set_option maxHeartbeats 8000000 in
set_option maxRecDepth 100000 in
theorem c_X11_layHand (l : Launch) (G : gG) (m0 : Nat) (m_all : Nat) (m_kept : Nat) (m_isKept : Nat) (m_refused : Nat) (m_above : Int) (m_below : Int) (m_hand : Nat) (m_fewest : Nat) (m_whoBites : Nat) (m_leaves : Nat) (m_bestFeast : Nat) (m_tells : Nat) (m_hardOn : Nat) (m_bytes : Nat) (m_bytesLong : Int) (m_tokenAt : Int) (m_tokenLong : Int) (m_token : Int) (m_value : Int) (m_anew : Nat) (m_values : Nat) (mF : Nat → Int) (K0 : Int) (mh : Nat → Int) (y0_ : bp (plA K0) mF) (hK0 : 1000 ≤ K0 ∧ K0 ≤ 2000000) (sz : Nat) : gV G l yX11_layHand wsX11_layHand ({ frames := 0, cells := 0, slots := 0, locals := 0 } : Room) [.ref m0] [(m0, .inr (10, [.ref m_all, .ref m_kept, .ref m_isKept, .ref m_refused, .long (lI m_above), .long (lI m_below), .ref m_hand, .ref m_fewest, .ref m_whoBites, .ref m_leaves, .ref m_bestFeast, .ref m_tells, .ref m_hardOn, .ref m_bytes, .int (iI m_bytesLong), .int (iI m_tokenAt), .int (iI m_tokenLong), .int (iI m_token), .int (iI m_value), .ref m_anew, .ref m_values])), (m_all, .inl (G.2 0, 311, .inl (cI mF))), (m_hand, .inl (G.2 0, 56, .inl (cI mh)))] sz (fun (u : va_W) => (u = [(m0, .inr (10, [.ref m_all, .ref m_kept, .ref m_isKept, .ref m_refused, .long (lI m_above), .long (lI m_below), .ref m_hand, .ref m_fewest, .ref m_whoBites, .ref m_leaves, .ref m_bestFeast, .ref m_tells, .ref m_hardOn, .ref m_bytes, .int (iI m_bytesLong), .int (iI m_tokenAt), .int (iI m_tokenLong), .int (iI m_token), .int (iI m_value), .ref m_anew, .ref m_values])), (m_all, .inl (G.2 0, 311, .inl (cI mF))), (m_hand, .inl (G.2 0, 56, .inl (cI mF)))])) := by
  refine Met.ofW (cc := cX11_layHand) (maxL := 2) (ret := none) (by decide) rfl ?_
  intro p e s m args below meth c s₁ B hml hv
  obtain ⟨rfl, hsz, hP, hK, hD0, hN, hZ⟩ := hv
  have hx := B.exec
  have hb := B.bytes
  have hr := B.returns
  have hts := atoms_spec (ws := wsX11_layHand) B.pre
  have hown : s.vm.findClass RX11 = some m.cls := findClass_of_methodNamed B.named
  have hlocks := B.notSynchronized
  subst hsz
  have hD := hD0.self (sz := s.heap.size)
  generalize hAe : va_A [(m0, .inr (10, [.ref m_all, .ref m_kept, .ref m_isKept, .ref m_refused, .long (lI m_above), .long (lI m_below), .ref m_hand, .ref m_fewest, .ref m_whoBites, .ref m_leaves, .ref m_bestFeast, .ref m_tells, .ref m_hardOn, .ref m_bytes, .int (iI m_bytesLong), .int (iI m_tokenAt), .int (iI m_tokenLong), .int (iI m_token), .int (iI m_value), .ref m_anew, .ref m_values])), (m_all, .inl (G.2 0, 311, .inl (cI mF))), (m_hand, .inl (G.2 0, 56, .inl (cI mh)))] s.heap.size = A at hD hZ ⊢
  have hA : ∀ q : Nat, s.heap.size ≤ q → A q := fun q h => by rw [← hAe]; exact Or.inr h
  have hS : va_S A s.heap s.heap [] := va_S.rf
  have hP : va_P G.1 vwCl [(m0, .inr (10, [.ref m_all, .ref m_kept, .ref m_isKept, .ref m_refused, .long (lI m_above), .long (lI m_below), .ref m_hand, .ref m_fewest, .ref m_whoBites, .ref m_leaves, .ref m_bestFeast, .ref m_tells, .ref m_hardOn, .ref m_bytes, .int (iI m_bytesLong), .int (iI m_tokenAt), .int (iI m_tokenLong), .int (iI m_token), .int (iI m_value), .ref m_anew, .ref m_values])), (m_all, .inl (G.2 0, 311, .inl (cI mF))), (m_hand, .inl (G.2 0, 56, .inl (cI mh)))] s.heap := hP
  have hl := lv_entry ([.ref m0]) (n := 2) (Nat.le_of_ble_eq_true rfl)
  rw [lg_entry_eq]
  generalize (lg_sl ([.ref m0]) ++ List.replicate (2 - (lg_sl ([.ref m0])).length) Slot.unset).toArray = ls at hl ⊢
  have hl : lv_has ls 2 [(0, .ref m0)] := hl
  refine lv_iconst (v := iI 0) hx hb dX11_layHand_0 rfl ?_
  refine lv_istore_n (lv' := [(1, .int (iI 0)), (0, .ref m0)]) hx hb dX11_layHand_1 rfl hl (by decide) rfl (fun ls hl => ?_)
  refine g_loopN (pc := 2) (fun nn H locs ls => ∃ i0__1 : Int, ∃ E0_2 : Nat → Int, (0 ≤ i0__1 ∧ i0__1 ≤ 56) ∧ (eqB i0__1 mF E0_2) ∧ (56 - i0__1).toNat = nn ∧ va_P G.1 vwCl [(m0, .inr (10, [.ref m_all, .ref m_kept, .ref m_isKept, .ref m_refused, .long (lI m_above), .long (lI m_below), .ref m_hand, .ref m_fewest, .ref m_whoBites, .ref m_leaves, .ref m_bestFeast, .ref m_tells, .ref m_hardOn, .ref m_bytes, .int (iI m_bytesLong), .int (iI m_tokenAt), .int (iI m_tokenLong), .int (iI m_token), .int (iI m_value), .ref m_anew, .ref m_values])), (m_all, .inl (G.2 0, 311, .inl (cI mF))), (m_hand, .inl (G.2 0, 56, .inl (cI E0_2)))] H ∧ va_D A [(m0, .inr (10, [.ref m_all, .ref m_kept, .ref m_isKept, .ref m_refused, .long (lI m_above), .long (lI m_below), .ref m_hand, .ref m_fewest, .ref m_whoBites, .ref m_leaves, .ref m_bestFeast, .ref m_tells, .ref m_hardOn, .ref m_bytes, .int (iI m_bytesLong), .int (iI m_tokenAt), .int (iI m_tokenLong), .int (iI m_token), .int (iI m_value), .ref m_anew, .ref m_values])), (m_all, .inl (G.2 0, 311, .inl (cI mF))), (m_hand, .inl (G.2 0, 56, .inl (cI E0_2)))] ∧ va_S A s.heap H locs ∧ lv_has ls 2 [(1, .int (iI i0__1)), (0, .ref m0)]) ?_ ⟨0, mh, (by first | assumption | omega), (by first | assumption | exact eqB_0 _ _), rfl, hP, hD, hS, lv_sub hl [0, 1] rfl⟩
  intro nn_6 H locs ls ih_5 hI
  refine ea_2_7 hI (fun i0__1 E0_2 f_3 f_4 hnn_7 hP hD hS hl => ?_)
  clear hI
  refine lv_iload_n hx hb dX11_layHand_2 rfl (lv_at hl 0 rfl) ?_
  refine lv_bipush (v := iI 56) hx hb dX11_layHand_3 (by decide) ?_
  refine lv_icmp_ge (tgt := 26) hx hb dX11_layHand_5 (by decide) (fun c_8 => ?_) (fun c_8 => ?_)
  · have c_8 := (iI_le (a := 56) (b := i0__1) (by first | decide | omega) (by omega)).mp c_8
    have hE9 : ∀ j : Nat, j < 56 → cI E0_2 j = cI mF j := fun j hj => congrArg iI (f_4 j (by omega))
    have hP := hP.eqc (q := 2) (g := cI mF) rfl hE9
    have hD := va_D.setc hD 2 rfl (.inl (G.2 0, 56, .inl (cI mF)))
    have hPD : PD G A H [(m0, .inr (10, [.ref m_all, .ref m_kept, .ref m_isKept, .ref m_refused, .long (lI m_above), .long (lI m_below), .ref m_hand, .ref m_fewest, .ref m_whoBites, .ref m_leaves, .ref m_bestFeast, .ref m_tells, .ref m_hardOn, .ref m_bytes, .int (iI m_bytesLong), .int (iI m_tokenAt), .int (iI m_tokenLong), .int (iI m_token), .int (iI m_value), .ref m_anew, .ref m_values])), (m_all, .inl (G.2 0, 311, .inl (cI mF))), (m_hand, .inl (G.2 0, 56, .inl (cI mF)))] := ⟨hP, hD⟩
    have hP := hPD.1
    have hD := hPD.2
    clear hPD
    exact g_vret hx hb hr hlocks hP hD hS (rfl) dX11_layHand_26
  · have c_8 : ¬ (56 ≤ i0__1) := fun h9 => c_8 ((iI_le (a := 56) (b := i0__1) (by first | decide | omega) (by omega)).mpr h9)
    refine lv_aload_n hx hb dX11_layHand_8 rfl (lv_at hl 1 rfl) ?_
    refine va_get (D := G.1) (ci := 10) (v := .ref m_hand) (C := RX11) (T := TX11) (N := 21) hx hb hts (fun _ h => List.mem_cons_of_mem _ (inlX11 _ h)) hown hK hP 0 rfl rfl 6 (by decide) (hts _ (List.mem_cons_of_mem _ (in_r6 (List.mem_of_getElem? (i := 5) rfl)))) (fun _ h9 => h9) rfl dX11_layHand_9 ?_
    refine lv_iload_n hx hb dX11_layHand_12 rfl (lv_at hl 0 rfl) ?_
    refine lv_aload_n hx hb dX11_layHand_13 rfl (lv_at hl 1 rfl) ?_
    refine va_get (D := G.1) (ci := 10) (v := .ref m_all) (C := RX11) (T := TX11) (N := 21) hx hb hts (fun _ h => List.mem_cons_of_mem _ (inlX11 _ h)) hown hK hP 0 rfl rfl 0 (by decide) (hts _ (List.mem_cons_of_mem _ (in_r6 (List.mem_of_getElem? (i := 0) rfl)))) (fun _ h9 => h9) rfl dX11_layHand_14 ?_
    refine lv_iload_n hx hb dX11_layHand_17 rfl (lv_at hl 0 rfl) ?_
    refine g_ild hx hb hK hP 1 rfl (by omega) (by omega) (by first | exact Nat.le_of_ble_eq_true rfl | omega) dX11_layHand_18 (fun w_9 ew_9 => ?_)
    have bw_9 : 0 ≤ w_9 ∧ w_9 ≤ K0 := by rw [← ew_9]; exact ⟨(y0_ _).1, Int.le_trans (y0_ _).2 (plA_le (by omega) _)⟩
    refine g_ist hx hb hK hP hD hS 2 rfl (by omega) (by omega) (by first | exact Nat.le_of_ble_eq_true rfl | omega) dX11_layHand_19 (fun H locs hP hD hS => ?_)
    have hk_11 := eqB_u (i := i0__1) (v := w_9) f_4 ew_9 (by omega)
    have hPD : PD G A H [(m0, .inr (10, [.ref m_all, .ref m_kept, .ref m_isKept, .ref m_refused, .long (lI m_above), .long (lI m_below), .ref m_hand, .ref m_fewest, .ref m_whoBites, .ref m_leaves, .ref m_bestFeast, .ref m_tells, .ref m_hardOn, .ref m_bytes, .int (iI m_bytesLong), .int (iI m_tokenAt), .int (iI m_tokenLong), .int (iI m_token), .int (iI m_value), .ref m_anew, .ref m_values])), (m_all, .inl (G.2 0, 311, .inl (cI mF))), (m_hand, .inl (G.2 0, 56, .inl (cI (uI E0_2 (i0__1.toNat) w_9))))] := ⟨hP, hD⟩
    have hP := hPD.1
    have hD := hPD.2
    clear hPD
    generalize hF_10 : (uI E0_2 (i0__1.toNat) w_9) = F_10 at hP hD hk_11
    refine lv_iinc (v := iI (i0__1 + 1)) (lv' := [(1, .int (iI (i0__1 + 1))), (0, .ref m0)]) hx hb dX11_layHand_20 hl (k := 0) rfl (iI_add i0__1 1) (by decide) rfl (fun ls hl => ?_)
    refine lv_goto (tgt := 2) hx hb dX11_layHand_23 (by decide) ?_
    exact ih_5 _ _ _ _ (by omega) ⟨(i0__1 + 1), F_10, (by first | assumption | omega), (by first | assumption | exact eqB_0 _ _), rfl, hP, hD, hS, lv_sub hl [0, 1] rfl⟩
theorem dX11_hardBehind_0 : decode cX11_hardBehind 0 = .ok (.aload_n 0, 1) := kd_42 (by decide +kernel)
theorem gX11_hardBehind_X11_layHand : GoodIn wsX11_hardBehind (wsV RX11 162 RX11 yX11_layHand wsX11_layHand) := gW_V (in_r28 (List.mem_of_getElem? (i := 4) rfl)) (in_r28 (List.mem_of_getElem? (i := 5) rfl)) (in_r28 (List.mem_of_getElem? (i := 6) rfl)) (in_r1 (List.mem_of_getElem? (i := 5) rfl)) (in_r28 (List.mem_of_getElem? (i := 7) rfl))
theorem dX11_hardBehind_1 : decode cX11_hardBehind 1 = .ok (.invokevirtual 162, 3) := kd_182 (a := 0) (b := 162) (by decide +kernel)
theorem dX11_hardBehind_4 : decode cX11_hardBehind 4 = .ok (.iconst 0, 1) := kd_3 (by decide +kernel)
theorem dX11_hardBehind_5 : decode cX11_hardBehind 5 = .ok (.istore_n 3, 1) := kd_62 (by decide +kernel)
theorem dX11_hardBehind_6 : decode cX11_hardBehind 6 = .ok (.iload_n 3, 1) := kd_29 (by decide +kernel)
theorem dX11_hardBehind_7 : decode cX11_hardBehind 7 = .ok (.iload_n 2, 1) := kd_28 (by decide +kernel)
theorem dX11_hardBehind_8 : decode cX11_hardBehind 8 = .ok (.if_icmp .ge 16, 3) := kd_162 (a := 0) (b := 16) (by decide +kernel)
theorem dX11_hardBehind_24 : decode cX11_hardBehind 24 = .ok (.aload_n 0, 1) := kd_42 (by decide +kernel)
theorem dX11_hardBehind_25 : decode cX11_hardBehind 25 = .ok (.getfield 27, 3) := kd_180 (a := 0) (b := 27) (by decide +kernel)
theorem dX11_hardBehind_28 : decode cX11_hardBehind 28 = .ok (.iload_n 1, 1) := kd_27 (by decide +kernel)
theorem gX11_hardBehind_X11_hardOf : GoodIn wsX11_hardBehind (va_wsS RX11 112 yX11_hardOf wsX11_hardOf) := gW_S (in_r21 (List.mem_of_getElem? (i := 23) rfl)) (in_r22 (List.mem_of_getElem? (i := 0) rfl)) (in_r1 (List.mem_of_getElem? (i := 5) rfl)) (in_r22 (List.mem_of_getElem? (i := 1) rfl))
theorem dX11_hardBehind_29 : decode cX11_hardBehind 29 = .ok (.invokestatic 112, 3) := kd_184 (a := 0) (b := 112) (by decide +kernel)
theorem dX11_hardBehind_32 : decode cX11_hardBehind 32 = .ok (.ireturn, 1) := kd_172 (by decide +kernel)
theorem dX11_hardBehind_11 : decode cX11_hardBehind 11 = .ok (.aload_n 0, 1) := kd_42 (by decide +kernel)
theorem dX11_hardBehind_12 : decode cX11_hardBehind 12 = .ok (.getfield 27, 3) := kd_180 (a := 0) (b := 27) (by decide +kernel)
theorem gX11_hardBehind_X11_goDay : GoodIn wsX11_hardBehind (va_wsS RX11 128 yX11_goDay wsX11_goDay) := gW_S (in_r23 (List.mem_of_getElem? (i := 1) rfl)) (in_r23 (List.mem_of_getElem? (i := 2) rfl)) (in_r1 (List.mem_of_getElem? (i := 5) rfl)) (in_r23 (List.mem_of_getElem? (i := 3) rfl))
theorem dX11_hardBehind_15 : decode cX11_hardBehind 15 = .ok (.invokestatic 128, 3) := kd_184 (a := 0) (b := 128) (by decide +kernel)
theorem dX11_hardBehind_18 : decode cX11_hardBehind 18 = .ok (.iinc 3 1, 3) := kd_132 (a := 3) (b := 1) (by decide +kernel)
theorem dX11_hardBehind_21 : decode cX11_hardBehind 21 = .ok (.goto (-15), 3) := kd_167 (a := 255) (b := 241) (by decide +kernel)
set_option maxHeartbeats 8000000 in
set_option maxRecDepth 100000 in
theorem c_X11_hardBehind (l : Launch) (G : gG) (m0 : Nat) (m_all : Nat) (m_kept : Nat) (m_isKept : Nat) (m_refused : Nat) (m_above : Int) (m_below : Int) (m_hand : Nat) (m_fewest : Nat) (m_whoBites : Nat) (m_leaves : Nat) (m_bestFeast : Nat) (m_tells : Nat) (m_hardOn : Nat) (m_bytes : Nat) (m_bytesLong : Int) (m_tokenAt : Int) (m_tokenLong : Int) (m_token : Int) (m_value : Int) (m_anew : Nat) (m_values : Nat) (mF : Nat → Int) (K0 : Int) (mh : Nat → Int) (p0 : Int) (n0 : Int) (y0_ : bp (plA K0) mF) (hK0 : 1000 ≤ K0 ∧ K0 ≤ 1900000) (hp : 0 ≤ p0 ∧ p0 ≤ 6) (hn : 0 ≤ n0 ∧ n0 ≤ 60) (sz : Nat) : gI G l yX11_hardBehind wsX11_hardBehind ({ frames := 2, cells := 0, slots := 0, locals := 48 } : Room) [.ref m0, .int (iI p0), .int (iI n0)] [(m0, .inr (10, [.ref m_all, .ref m_kept, .ref m_isKept, .ref m_refused, .long (lI m_above), .long (lI m_below), .ref m_hand, .ref m_fewest, .ref m_whoBites, .ref m_leaves, .ref m_bestFeast, .ref m_tells, .ref m_hardOn, .ref m_bytes, .int (iI m_bytesLong), .int (iI m_tokenAt), .int (iI m_tokenLong), .int (iI m_token), .int (iI m_value), .ref m_anew, .ref m_values])), (m_all, .inl (G.2 0, 311, .inl (cI mF))), (m_hand, .inl (G.2 0, 56, .inl (cI mh)))] sz (fun (r : Int32) (u : va_W) => (∃ rr : Int, ∃ Nh : Nat → Int, (0 ≤ rr ∧ rr ≤ 20) ∧ r = (iI rr) ∧ u = [(m0, .inr (10, [.ref m_all, .ref m_kept, .ref m_isKept, .ref m_refused, .long (lI m_above), .long (lI m_below), .ref m_hand, .ref m_fewest, .ref m_whoBites, .ref m_leaves, .ref m_bestFeast, .ref m_tells, .ref m_hardOn, .ref m_bytes, .int (iI m_bytesLong), .int (iI m_tokenAt), .int (iI m_tokenLong), .int (iI m_token), .int (iI m_value), .ref m_anew, .ref m_values])), (m_all, .inl (G.2 0, 311, .inl (cI mF))), (m_hand, .inl (G.2 0, 56, .inl (cI Nh)))])) := by
  refine Met.ofW (cc := cX11_hardBehind) (maxL := 4) (ret := (some .int)) (by decide) rfl ?_
  intro p e s m args below meth c s₁ B hml hv
  obtain ⟨rfl, hsz, hP, hK, hD0, hN, hZ⟩ := hv
  have hx := B.exec
  have hb := B.bytes
  have hr := B.returns
  have hts := atoms_spec (ws := wsX11_hardBehind) B.pre
  have hown : s.vm.findClass RX11 = some m.cls := findClass_of_methodNamed B.named
  have hlocks := B.notSynchronized
  subst hsz
  have hD := hD0.self (sz := s.heap.size)
  generalize hAe : va_A [(m0, .inr (10, [.ref m_all, .ref m_kept, .ref m_isKept, .ref m_refused, .long (lI m_above), .long (lI m_below), .ref m_hand, .ref m_fewest, .ref m_whoBites, .ref m_leaves, .ref m_bestFeast, .ref m_tells, .ref m_hardOn, .ref m_bytes, .int (iI m_bytesLong), .int (iI m_tokenAt), .int (iI m_tokenLong), .int (iI m_token), .int (iI m_value), .ref m_anew, .ref m_values])), (m_all, .inl (G.2 0, 311, .inl (cI mF))), (m_hand, .inl (G.2 0, 56, .inl (cI mh)))] s.heap.size = A at hD hZ ⊢
  have hA : ∀ q : Nat, s.heap.size ≤ q → A q := fun q h => by rw [← hAe]; exact Or.inr h
  have hS : va_S A s.heap s.heap [] := va_S.rf
  have hP : va_P G.1 vwCl [(m0, .inr (10, [.ref m_all, .ref m_kept, .ref m_isKept, .ref m_refused, .long (lI m_above), .long (lI m_below), .ref m_hand, .ref m_fewest, .ref m_whoBites, .ref m_leaves, .ref m_bestFeast, .ref m_tells, .ref m_hardOn, .ref m_bytes, .int (iI m_bytesLong), .int (iI m_tokenAt), .int (iI m_tokenLong), .int (iI m_token), .int (iI m_value), .ref m_anew, .ref m_values])), (m_all, .inl (G.2 0, 311, .inl (cI mF))), (m_hand, .inl (G.2 0, 56, .inl (cI mh)))] s.heap := hP
  have hl := lv_entry ([.ref m0, .int (iI p0), .int (iI n0)]) (n := 4) (Nat.le_of_ble_eq_true rfl)
  rw [lg_entry_eq]
  generalize (lg_sl ([.ref m0, .int (iI p0), .int (iI n0)]) ++ List.replicate (4 - (lg_sl ([.ref m0, .int (iI p0), .int (iI n0)])).length) Slot.unset).toArray = ls at hl ⊢
  have hl : lv_has ls 4 [(0, .ref m0), (1, .int (iI p0)), (2, .int (iI n0))] := hl
  refine lv_aload_n hx hb dX11_hardBehind_0 rfl (lv_at hl 0 rfl) ?_
  refine g_callv (wr := []) (va_runV (As := []) (rest := []) ⟨hx, hb, hml, hown, hts⟩ (c_X11_layHand l G (m0) (m_all) (m_kept) (m_isKept) (m_refused) (m_above) (m_below) (m_hand) (m_fewest) (m_whoBites) (m_leaves) (m_bestFeast) (m_tells) (m_hardOn) (m_bytes) (m_bytesLong) (m_tokenAt) (m_tokenLong) (m_token) (m_value) (m_anew) (m_values) (mF) (K0) (mh) (by first | exact y0_ | exact bpA_mono y0_ (by omega) | assumption) (by first | assumption | omega) _) (cwV 0 hts gX11_hardBehind_X11_layHand rfl rfl rfl (by decide +kernel) ⟨Nat.le_of_ble_eq_true rfl, Nat.le_of_ble_eq_true rfl⟩) (g_preV m0 [] hP hD hK hN hS hA hZ [0, 1, 2] rfl rfl 0 (ci := 10) rfl rfl) rfl rfl hl.1 rfl (lv_room (Nat.le_of_ble_eq_true rfl)) dX11_hardBehind_1 ⟨Nat.le_of_ble_eq_true rfl, Nat.le_of_ble_eq_true rfl⟩) hP hD hS hA [0, 1, 2] [] rfl rfl rfl (by decide) (fun u H locs hw hP hD hS => ?_)
  subst hw
  have hPD : PD G A H [(m0, .inr (10, [.ref m_all, .ref m_kept, .ref m_isKept, .ref m_refused, .long (lI m_above), .long (lI m_below), .ref m_hand, .ref m_fewest, .ref m_whoBites, .ref m_leaves, .ref m_bestFeast, .ref m_tells, .ref m_hardOn, .ref m_bytes, .int (iI m_bytesLong), .int (iI m_tokenAt), .int (iI m_tokenLong), .int (iI m_token), .int (iI m_value), .ref m_anew, .ref m_values])), (m_all, .inl (G.2 0, 311, .inl (cI mF))), (m_hand, .inl (G.2 0, 56, .inl (cI mF)))] := ⟨hP, hD⟩
  have hP := hPD.1
  have hD := hPD.2
  clear hPD
  refine lv_iconst (v := iI 0) hx hb dX11_hardBehind_4 rfl ?_
  refine lv_istore_n (lv' := [(3, .int (iI 0)), (0, .ref m0), (1, .int (iI p0)), (2, .int (iI n0))]) hx hb dX11_hardBehind_5 rfl hl (by decide) rfl (fun ls hl => ?_)
  refine g_loopN (pc := 6) (fun nn H locs ls => ∃ i0__1 : Int, ∃ E0_2 : Nat → Int, (0 ≤ i0__1 ∧ i0__1 ≤ n0) ∧ (bp (plA (K0 + i0__1)) E0_2) ∧ (n0 - i0__1).toNat = nn ∧ va_P G.1 vwCl [(m0, .inr (10, [.ref m_all, .ref m_kept, .ref m_isKept, .ref m_refused, .long (lI m_above), .long (lI m_below), .ref m_hand, .ref m_fewest, .ref m_whoBites, .ref m_leaves, .ref m_bestFeast, .ref m_tells, .ref m_hardOn, .ref m_bytes, .int (iI m_bytesLong), .int (iI m_tokenAt), .int (iI m_tokenLong), .int (iI m_token), .int (iI m_value), .ref m_anew, .ref m_values])), (m_all, .inl (G.2 0, 311, .inl (cI mF))), (m_hand, .inl (G.2 0, 56, .inl (cI E0_2)))] H ∧ va_D A [(m0, .inr (10, [.ref m_all, .ref m_kept, .ref m_isKept, .ref m_refused, .long (lI m_above), .long (lI m_below), .ref m_hand, .ref m_fewest, .ref m_whoBites, .ref m_leaves, .ref m_bestFeast, .ref m_tells, .ref m_hardOn, .ref m_bytes, .int (iI m_bytesLong), .int (iI m_tokenAt), .int (iI m_tokenLong), .int (iI m_token), .int (iI m_value), .ref m_anew, .ref m_values])), (m_all, .inl (G.2 0, 311, .inl (cI mF))), (m_hand, .inl (G.2 0, 56, .inl (cI E0_2)))] ∧ va_S A s.heap H locs ∧ lv_has ls 4 [(3, .int (iI i0__1)), (0, .ref m0), (1, .int (iI p0)), (2, .int (iI n0))]) ?_ ⟨0, mF, (by first | assumption | omega), (by first | exact y0_ | exact bpA_mono y0_ (by omega) | assumption), rfl, hP, hD, hS, lv_sub hl [0, 1, 2, 3] rfl⟩
  intro nn_6 H locs ls ih_5 hI
  refine ea_2_7 hI (fun i0__1 E0_2 f_3 f_4 hnn_7 hP hD hS hl => ?_)
  clear hI
  refine lv_iload_n hx hb dX11_hardBehind_6 rfl (lv_at hl 0 rfl) ?_
  refine lv_iload_n hx hb dX11_hardBehind_7 rfl (lv_at hl 3 rfl) ?_
  refine lv_icmp_ge (tgt := 24) hx hb dX11_hardBehind_8 (by decide) (fun c_8 => ?_) (fun c_8 => ?_)
  · have c_8 := (iI_le (a := n0) (b := i0__1) (by omega) (by omega)).mp c_8
    refine lv_aload_n hx hb dX11_hardBehind_24 rfl (lv_at hl 1 rfl) ?_
    refine va_get (D := G.1) (ci := 10) (v := .ref m_hand) (C := RX11) (T := TX11) (N := 21) hx hb hts (fun _ h => List.mem_cons_of_mem _ (inlX11 _ h)) hown hK hP 0 rfl rfl 6 (by decide) (hts _ (List.mem_cons_of_mem _ (in_r6 (List.mem_of_getElem? (i := 5) rfl)))) (fun _ h9 => h9) rfl dX11_hardBehind_25 ?_
    refine lv_iload_n hx hb dX11_hardBehind_28 rfl (lv_at hl 2 rfl) ?_
    refine g_calli (wr := [(m0, .inr (10, [.ref m_all, .ref m_kept, .ref m_isKept, .ref m_refused, .long (lI m_above), .long (lI m_below), .ref m_hand, .ref m_fewest, .ref m_whoBites, .ref m_leaves, .ref m_bestFeast, .ref m_tells, .ref m_hardOn, .ref m_bytes, .int (iI m_bytesLong), .int (iI m_tokenAt), .int (iI m_tokenLong), .int (iI m_token), .int (iI m_value), .ref m_anew, .ref m_values])), (m_all, .inl (G.2 0, 311, .inl (cI mF)))]) (va_runS (As := [.ref m_hand, .int (iI p0)]) (rest := []) ⟨hx, hb, hml, hown, hts⟩ (c_X11_hardOf_56 l G (m_hand) (E0_2) ((K0 + i0__1)) (p0) (by first | exact f_4 | exact bpA_mono f_4 (by omega) | assumption) (by first | assumption | omega) (by first | exact hp | assumption | omega) _) (va_cwS 2 hts gX11_hardBehind_X11_hardOf rfl rfl rfl (by decide +kernel) ⟨Nat.le_of_ble_eq_true rfl, Nat.le_of_ble_eq_true rfl⟩) (g_preS [.ref m_hand, .int (iI p0)] hP hD hK hN hS hA hZ [2] rfl rfl) rfl rfl hl.1 rfl (lv_room (Nat.le_of_ble_eq_true rfl)) dX11_hardBehind_29 ⟨Nat.le_of_ble_eq_true rfl, Nat.le_of_ble_eq_true rfl⟩) hP hD hS hA [2] [0, 1] rfl rfl rfl (by decide) (fun r_9 u H locs hw hP hD hS => ?_)
    refine ea_1_4 hw (fun rr_10 k_11 k_12 e8_0 e8_1 => ?_)
    subst e8_0
    subst e8_1
    clear hw
    have hPD : PD G A H [(m0, .inr (10, [.ref m_all, .ref m_kept, .ref m_isKept, .ref m_refused, .long (lI m_above), .long (lI m_below), .ref m_hand, .ref m_fewest, .ref m_whoBites, .ref m_leaves, .ref m_bestFeast, .ref m_tells, .ref m_hardOn, .ref m_bytes, .int (iI m_bytesLong), .int (iI m_tokenAt), .int (iI m_tokenLong), .int (iI m_token), .int (iI m_value), .ref m_anew, .ref m_values])), (m_all, .inl (G.2 0, 311, .inl (cI mF))), (m_hand, .inl (G.2 0, 56, .inl (cI E0_2)))] := ⟨hP, hD⟩
    have hP := hPD.1
    have hD := hPD.2
    clear hPD
    exact g_iret (v := (iI rr_10)) hx hb hr hlocks hP hD hS (⟨rr_10, E0_2, (by first | exact k_12 | assumption | omega), rfl, rfl⟩) dX11_hardBehind_32
  · have c_8 : ¬ (n0 ≤ i0__1) := fun h9 => c_8 ((iI_le (a := n0) (b := i0__1) (by omega) (by omega)).mpr h9)
    refine lv_aload_n hx hb dX11_hardBehind_11 rfl (lv_at hl 1 rfl) ?_
    refine va_get (D := G.1) (ci := 10) (v := .ref m_hand) (C := RX11) (T := TX11) (N := 21) hx hb hts (fun _ h => List.mem_cons_of_mem _ (inlX11 _ h)) hown hK hP 0 rfl rfl 6 (by decide) (hts _ (List.mem_cons_of_mem _ (in_r6 (List.mem_of_getElem? (i := 5) rfl)))) (fun _ h9 => h9) rfl dX11_hardBehind_12 ?_
    refine g_callv (wr := [(m0, .inr (10, [.ref m_all, .ref m_kept, .ref m_isKept, .ref m_refused, .long (lI m_above), .long (lI m_below), .ref m_hand, .ref m_fewest, .ref m_whoBites, .ref m_leaves, .ref m_bestFeast, .ref m_tells, .ref m_hardOn, .ref m_bytes, .int (iI m_bytesLong), .int (iI m_tokenAt), .int (iI m_tokenLong), .int (iI m_token), .int (iI m_value), .ref m_anew, .ref m_values])), (m_all, .inl (G.2 0, 311, .inl (cI mF)))]) (va_runS (As := [.ref m_hand]) (rest := []) ⟨hx, hb, hml, hown, hts⟩ (c_X11_goDay_56 l G (m_hand) (E0_2) ((K0 + i0__1)) (by first | exact f_4 | exact bpA_mono f_4 (by omega) | assumption) (by first | assumption | omega) _) (va_cwS 1 hts gX11_hardBehind_X11_goDay rfl rfl rfl (by decide +kernel) ⟨Nat.le_of_ble_eq_true rfl, Nat.le_of_ble_eq_true rfl⟩) (g_preS [.ref m_hand] hP hD hK hN hS hA hZ [2] rfl rfl) rfl rfl hl.1 rfl (lv_room (Nat.le_of_ble_eq_true rfl)) dX11_hardBehind_15 ⟨Nat.le_of_ble_eq_true rfl, Nat.le_of_ble_eq_true rfl⟩) hP hD hS hA [2] [0, 1] rfl rfl rfl (by decide) (fun u H locs hw hP hD hS => ?_)
    obtain ⟨Nq_13, k_14, rfl⟩ := hw
    have hPD : PD G A H [(m0, .inr (10, [.ref m_all, .ref m_kept, .ref m_isKept, .ref m_refused, .long (lI m_above), .long (lI m_below), .ref m_hand, .ref m_fewest, .ref m_whoBites, .ref m_leaves, .ref m_bestFeast, .ref m_tells, .ref m_hardOn, .ref m_bytes, .int (iI m_bytesLong), .int (iI m_tokenAt), .int (iI m_tokenLong), .int (iI m_token), .int (iI m_value), .ref m_anew, .ref m_values])), (m_all, .inl (G.2 0, 311, .inl (cI mF))), (m_hand, .inl (G.2 0, 56, .inl (cI Nq_13)))] := ⟨hP, hD⟩
    have hP := hPD.1
    have hD := hPD.2
    clear hPD
    refine lv_iinc (v := iI (i0__1 + 1)) (lv' := [(3, .int (iI (i0__1 + 1))), (0, .ref m0), (1, .int (iI p0)), (2, .int (iI n0))]) hx hb dX11_hardBehind_18 hl (k := 0) rfl (iI_add i0__1 1) (by decide) rfl (fun ls hl => ?_)
    refine lv_goto (tgt := 6) hx hb dX11_hardBehind_21 (by decide) ?_
    exact ih_5 _ _ _ _ (by omega) ⟨(i0__1 + 1), Nq_13, (by first | assumption | omega), (by first | exact k_14 | exact bpA_mono k_14 (by omega) | assumption), rfl, hP, hD, hS, lv_sub hl [0, 1, 2, 3] rfl⟩
