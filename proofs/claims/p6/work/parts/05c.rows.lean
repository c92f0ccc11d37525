theorem dX11_layApple_0 : decode cX11_layApple 0 = .ok (.aload_n 0, 1) := kd_42 (by decide +kernel)
theorem dX11_layApple_1 : decode cX11_layApple 1 = .ok (.iconst 0, 1) := kd_3 (by decide +kernel)
theorem dX11_layApple_2 : decode cX11_layApple 2 = .ok (.iaload, 1) := kd_46 (by decide +kernel)
theorem dX11_layApple_3 : decode cX11_layApple 3 = .ok (.istore 4, 2) := kd_54 (a := 4) (by decide +kernel)
theorem dX11_layApple_5 : decode cX11_layApple 5 = .ok (.aload_n 0, 1) := kd_42 (by decide +kernel)
theorem dX11_layApple_6 : decode cX11_layApple 6 = .ok (.bipush 34, 2) := kd_16 (a := 34) (by decide +kernel)
theorem dX11_layApple_8 : decode cX11_layApple 8 = .ok (.iload 4, 2) := kd_21 (a := 4) (by decide +kernel)
theorem dX11_layApple_10 : decode cX11_layApple 10 = .ok (.iadd, 1) := kd_96 (by decide +kernel)
theorem dX11_layApple_11 : decode cX11_layApple 11 = .ok (.iload_n 1, 1) := kd_27 (by decide +kernel)
theorem dX11_layApple_12 : decode cX11_layApple 12 = .ok (.iastore, 1) := kd_79 (by decide +kernel)
theorem dX11_layApple_13 : decode cX11_layApple 13 = .ok (.aload_n 0, 1) := kd_42 (by decide +kernel)
theorem dX11_layApple_14 : decode cX11_layApple 14 = .ok (.bipush 6, 2) := kd_16 (a := 6) (by decide +kernel)
theorem dX11_layApple_16 : decode cX11_layApple 16 = .ok (.iload 4, 2) := kd_21 (a := 4) (by decide +kernel)
theorem dX11_layApple_18 : decode cX11_layApple 18 = .ok (.iadd, 1) := kd_96 (by decide +kernel)
theorem dX11_layApple_19 : decode cX11_layApple 19 = .ok (.iload_n 2, 1) := kd_28 (by decide +kernel)
theorem dX11_layApple_20 : decode cX11_layApple 20 = .ok (.iastore, 1) := kd_79 (by decide +kernel)
theorem dX11_layApple_21 : decode cX11_layApple 21 = .ok (.aload_n 0, 1) := kd_42 (by decide +kernel)
theorem dX11_layApple_22 : decode cX11_layApple 22 = .ok (.bipush 41, 2) := kd_16 (a := 41) (by decide +kernel)
theorem dX11_layApple_24 : decode cX11_layApple 24 = .ok (.iload 4, 2) := kd_21 (a := 4) (by decide +kernel)
theorem dX11_layApple_26 : decode cX11_layApple 26 = .ok (.iadd, 1) := kd_96 (by decide +kernel)
theorem dX11_layApple_27 : decode cX11_layApple 27 = .ok (.iload_n 3, 1) := kd_29 (by decide +kernel)
theorem dX11_layApple_28 : decode cX11_layApple 28 = .ok (.iastore, 1) := kd_79 (by decide +kernel)
theorem dX11_layApple_29 : decode cX11_layApple 29 = .ok (.aload_n 0, 1) := kd_42 (by decide +kernel)
theorem dX11_layApple_30 : decode cX11_layApple 30 = .ok (.bipush 13, 2) := kd_16 (a := 13) (by decide +kernel)
theorem dX11_layApple_32 : decode cX11_layApple 32 = .ok (.iload 4, 2) := kd_21 (a := 4) (by decide +kernel)
theorem dX11_layApple_34 : decode cX11_layApple 34 = .ok (.iadd, 1) := kd_96 (by decide +kernel)
theorem dX11_layApple_35 : decode cX11_layApple 35 = .ok (.iconst 0, 1) := kd_3 (by decide +kernel)
theorem dX11_layApple_36 : decode cX11_layApple 36 = .ok (.iastore, 1) := kd_79 (by decide +kernel)
theorem dX11_layApple_37 : decode cX11_layApple 37 = .ok (.aload_n 0, 1) := kd_42 (by decide +kernel)
theorem dX11_layApple_38 : decode cX11_layApple 38 = .ok (.bipush 20, 2) := kd_16 (a := 20) (by decide +kernel)
theorem dX11_layApple_40 : decode cX11_layApple 40 = .ok (.iload 4, 2) := kd_21 (a := 4) (by decide +kernel)
theorem dX11_layApple_42 : decode cX11_layApple 42 = .ok (.iadd, 1) := kd_96 (by decide +kernel)
theorem dX11_layApple_43 : decode cX11_layApple 43 = .ok (.iconst 0, 1) := kd_3 (by decide +kernel)
theorem dX11_layApple_44 : decode cX11_layApple 44 = .ok (.iastore, 1) := kd_79 (by decide +kernel)
theorem dX11_layApple_45 : decode cX11_layApple 45 = .ok (.aload_n 0, 1) := kd_42 (by decide +kernel)
theorem dX11_layApple_46 : decode cX11_layApple 46 = .ok (.iconst 0, 1) := kd_3 (by decide +kernel)
theorem dX11_layApple_47 : decode cX11_layApple 47 = .ok (.dup2, 1) := kd_92 (by decide +kernel)
theorem dX11_layApple_48 : decode cX11_layApple 48 = .ok (.iaload, 1) := kd_46 (by decide +kernel)
theorem dX11_layApple_49 : decode cX11_layApple 49 = .ok (.iconst 1, 1) := kd_4 (by decide +kernel)
theorem dX11_layApple_50 : decode cX11_layApple 50 = .ok (.iadd, 1) := kd_96 (by decide +kernel)
theorem dX11_layApple_51 : decode cX11_layApple 51 = .ok (.iastore, 1) := kd_79 (by decide +kernel)
theorem dX11_layApple_52 : decode cX11_layApple 52 = .ok (.return_, 1) := kd_177 (by decide +kernel)
set_option maxHeartbeats 8000000 in
set_option maxRecDepth 100000 in
theorem c_X11_layApple_311 (l : Launch) (G : gG) (q0 : Nat) (qF : Nat → Int) (K0 : Int) (a1 : Int) (a2 : Int) (a3 : Int) (y0_ : bp (plA K0) qF) (hK0 : 1000 ≤ K0 ∧ K0 ≤ 2000000) (ha : qF 0 ≤ 6) (h1 : 0 ≤ a1 ∧ a1 ≤ 99) (h2 : 0 ≤ a2 ∧ a2 ≤ 30) (h3 : 0 ≤ a3 ∧ a3 ≤ 99) (sz : Nat) : gV G l yX11_layApple wsX11_layApple ({ frames := 0, cells := 0, slots := 0, locals := 0 } : Room) [.ref q0, .int (iI a1), .int (iI a2), .int (iI a3)] [(q0, .inl (G.2 0, 311, .inl (cI qF)))] sz (fun (u : va_W) => (∃ Nq : Nat → Int, (Nq = sApple qF a1 a2 a3) ∧ (bp (plA K0) Nq) ∧ u = [(q0, .inl (G.2 0, 311, .inl (cI Nq)))])) := by
  refine Met.ofW (cc := cX11_layApple) (maxL := 5) (ret := none) (by decide) rfl ?_
  intro p e s m args below meth c s₁ B hml hv
  obtain ⟨rfl, hsz, hP, hK, hD0, hN, hZ⟩ := hv
  have hx := B.exec
  have hb := B.bytes
  have hr := B.returns
  have hts := atoms_spec (ws := wsX11_layApple) B.pre
  have hown : s.vm.findClass RX11 = some m.cls := findClass_of_methodNamed B.named
  have hlocks := B.notSynchronized
  subst hsz
  have hD := hD0.self (sz := s.heap.size)
  generalize hAe : va_A [(q0, .inl (G.2 0, 311, .inl (cI qF)))] s.heap.size = A at hD hZ ⊢
  have hA : ∀ q : Nat, s.heap.size ≤ q → A q := fun q h => by rw [← hAe]; exact Or.inr h
  have hS : va_S A s.heap s.heap [] := va_S.rf
  have hP : va_P G.1 vwCl [(q0, .inl (G.2 0, 311, .inl (cI qF)))] s.heap := hP
  have hl := lv_entry ([.ref q0, .int (iI a1), .int (iI a2), .int (iI a3)]) (n := 5) (Nat.le_of_ble_eq_true rfl)
  rw [lg_entry_eq]
  generalize (lg_sl ([.ref q0, .int (iI a1), .int (iI a2), .int (iI a3)]) ++ List.replicate (5 - (lg_sl ([.ref q0, .int (iI a1), .int (iI a2), .int (iI a3)])).length) Slot.unset).toArray = ls at hl ⊢
  have hl : lv_has ls 5 [(0, .ref q0), (1, .int (iI a1)), (2, .int (iI a2)), (3, .int (iI a3))] := hl
  refine lv_aload_n hx hb dX11_layApple_0 rfl (lv_at hl 0 rfl) ?_
  refine lv_iconst (v := iI 0) hx hb dX11_layApple_1 rfl ?_
  refine g_ild hx hb hK hP 0 rfl (by omega) (by omega) (by first | exact Nat.le_of_ble_eq_true rfl | omega) dX11_layApple_2 (fun w_1 ew_1 => ?_)
  have ew_1 : qF 0 = w_1 := ew_1
  subst ew_1
  have bw_1 : 0 ≤ (qF 0) ∧ (qF 0) ≤ 7 := y0_ 0
  refine lv_istore (lv' := [(4, .int (iI (qF 0))), (0, .ref q0), (1, .int (iI a1)), (2, .int (iI a2)), (3, .int (iI a3))]) hx hb dX11_layApple_3 hl (by decide) rfl (fun ls hl => ?_)
  refine lv_aload_n hx hb dX11_layApple_5 rfl (lv_at hl 1 rfl) ?_
  refine lv_bipush (v := iI 34) hx hb dX11_layApple_6 (by decide) ?_
  refine lv_iload hx hb dX11_layApple_8 (lv_at hl 0 rfl) ?_
  refine lv_iadd hx hb dX11_layApple_10 ?_
  refine g_topi (y := iI (34 + (qF 0))) (iI_add 34 (qF 0)) ?_
  refine lv_iload_n hx hb dX11_layApple_11 rfl (lv_at hl 2 rfl) ?_
  refine g_ist hx hb hK hP hD hS 0 rfl (by omega) (by omega) (by first | exact Nat.le_of_ble_eq_true rfl | omega) dX11_layApple_12 (fun H locs hP hD hS => ?_)
  have hk_3 := bp_u (h := plA K0) (k := ((34 + (qF 0)).toNat)) (v := a1) y0_ (by omega) (Int.le_trans (show a1 ≤ K0 by omega) (plAl_K (by omega) (by omega)))
  have hPD : PD G A H [(q0, .inl (G.2 0, 311, .inl (cI (uI qF ((34 + (qF 0)).toNat) a1))))] := ⟨hP, hD⟩
  have hP := hPD.1
  have hD := hPD.2
  clear hPD
  refine lv_aload_n hx hb dX11_layApple_13 rfl (lv_at hl 1 rfl) ?_
  refine lv_bipush (v := iI 6) hx hb dX11_layApple_14 (by decide) ?_
  refine lv_iload hx hb dX11_layApple_16 (lv_at hl 0 rfl) ?_
  refine lv_iadd hx hb dX11_layApple_18 ?_
  refine g_topi (y := iI (6 + (qF 0))) (iI_add 6 (qF 0)) ?_
  refine lv_iload_n hx hb dX11_layApple_19 rfl (lv_at hl 3 rfl) ?_
  refine g_ist hx hb hK hP hD hS 0 rfl (by omega) (by omega) (by first | exact Nat.le_of_ble_eq_true rfl | omega) dX11_layApple_20 (fun H locs hP hD hS => ?_)
  have hk_5 := bp_u (h := plA K0) (k := ((6 + (qF 0)).toNat)) (v := a2) hk_3 (by omega) (Int.le_trans (show a2 ≤ 30 by omega) (plAl_T (by omega) (by omega)))
  have hPD : PD G A H [(q0, .inl (G.2 0, 311, .inl (cI (uI (uI qF ((34 + (qF 0)).toNat) a1) ((6 + (qF 0)).toNat) a2))))] := ⟨hP, hD⟩
  have hP := hPD.1
  have hD := hPD.2
  clear hPD
  refine lv_aload_n hx hb dX11_layApple_21 rfl (lv_at hl 1 rfl) ?_
  refine lv_bipush (v := iI 41) hx hb dX11_layApple_22 (by decide) ?_
  refine lv_iload hx hb dX11_layApple_24 (lv_at hl 0 rfl) ?_
  refine lv_iadd hx hb dX11_layApple_26 ?_
  refine g_topi (y := iI (41 + (qF 0))) (iI_add 41 (qF 0)) ?_
  refine lv_iload_n hx hb dX11_layApple_27 rfl (lv_at hl 4 rfl) ?_
  refine g_ist hx hb hK hP hD hS 0 rfl (by omega) (by omega) (by first | exact Nat.le_of_ble_eq_true rfl | omega) dX11_layApple_28 (fun H locs hP hD hS => ?_)
  have hk_7 := bp_u (h := plA K0) (k := ((41 + (qF 0)).toNat)) (v := a3) hk_5 (by omega) (Int.le_trans (show a3 ≤ K0 by omega) (plAl_K (by omega) (by omega)))
  have hPD : PD G A H [(q0, .inl (G.2 0, 311, .inl (cI (uI (uI (uI qF ((34 + (qF 0)).toNat) a1) ((6 + (qF 0)).toNat) a2) ((41 + (qF 0)).toNat) a3))))] := ⟨hP, hD⟩
  have hP := hPD.1
  have hD := hPD.2
  clear hPD
  refine lv_aload_n hx hb dX11_layApple_29 rfl (lv_at hl 1 rfl) ?_
  refine lv_bipush (v := iI 13) hx hb dX11_layApple_30 (by decide) ?_
  refine lv_iload hx hb dX11_layApple_32 (lv_at hl 0 rfl) ?_
  refine lv_iadd hx hb dX11_layApple_34 ?_
  refine g_topi (y := iI (13 + (qF 0))) (iI_add 13 (qF 0)) ?_
  refine lv_iconst (v := iI 0) hx hb dX11_layApple_35 rfl ?_
  refine g_ist hx hb hK hP hD hS 0 rfl (by omega) (by omega) (by first | exact Nat.le_of_ble_eq_true rfl | omega) dX11_layApple_36 (fun H locs hP hD hS => ?_)
  have hk_9 := bp_u (h := plA K0) (k := ((13 + (qF 0)).toNat)) (v := 0) hk_7 (by omega) (Int.le_trans (show 0 ≤ K0 by omega) (plAl_K (by omega) (by omega)))
  have hPD : PD G A H [(q0, .inl (G.2 0, 311, .inl (cI (uI (uI (uI (uI qF ((34 + (qF 0)).toNat) a1) ((6 + (qF 0)).toNat) a2) ((41 + (qF 0)).toNat) a3) ((13 + (qF 0)).toNat) 0))))] := ⟨hP, hD⟩
  have hP := hPD.1
  have hD := hPD.2
  clear hPD
  refine lv_aload_n hx hb dX11_layApple_37 rfl (lv_at hl 1 rfl) ?_
  refine lv_bipush (v := iI 20) hx hb dX11_layApple_38 (by decide) ?_
  refine lv_iload hx hb dX11_layApple_40 (lv_at hl 0 rfl) ?_
  refine lv_iadd hx hb dX11_layApple_42 ?_
  refine g_topi (y := iI (20 + (qF 0))) (iI_add 20 (qF 0)) ?_
  refine lv_iconst (v := iI 0) hx hb dX11_layApple_43 rfl ?_
  refine g_ist hx hb hK hP hD hS 0 rfl (by omega) (by omega) (by first | exact Nat.le_of_ble_eq_true rfl | omega) dX11_layApple_44 (fun H locs hP hD hS => ?_)
  have hk_11 := bp_u (h := plA K0) (k := ((20 + (qF 0)).toNat)) (v := 0) hk_9 (by omega) (Int.le_trans (show 0 ≤ K0 by omega) (plAl_K (by omega) (by omega)))
  have hPD : PD G A H [(q0, .inl (G.2 0, 311, .inl (cI (uI (uI (uI (uI (uI qF ((34 + (qF 0)).toNat) a1) ((6 + (qF 0)).toNat) a2) ((41 + (qF 0)).toNat) a3) ((13 + (qF 0)).toNat) 0) ((20 + (qF 0)).toNat) 0))))] := ⟨hP, hD⟩
  have hP := hPD.1
  have hD := hPD.2
  clear hPD
  refine lv_aload_n hx hb dX11_layApple_45 rfl (lv_at hl 1 rfl) ?_
  refine lv_iconst (v := iI 0) hx hb dX11_layApple_46 rfl ?_
  refine lv_dup2_11 hx hb dX11_layApple_47 rfl rfl ?_
  refine g_ild hx hb hK hP 0 rfl (by omega) (by omega) (by first | exact Nat.le_of_ble_eq_true rfl | omega) dX11_layApple_48 (fun w_12 ew_12 => ?_)
  have ew_12 : (uI (uI (uI (uI (uI qF ((34 + (qF 0)).toNat) a1) ((6 + (qF 0)).toNat) a2) ((41 + (qF 0)).toNat) a3) ((13 + (qF 0)).toNat) 0) ((20 + (qF 0)).toNat) 0) 0 = w_12 := ew_12
  rw [uI_ne (by omega), uI_ne (by omega), uI_ne (by omega), uI_ne (by omega), uI_ne (by omega)] at ew_12
  subst ew_12
  have bw_12 : 0 ≤ (qF 0) ∧ (qF 0) ≤ 7 := y0_ 0
  refine lv_iconst (v := iI 1) hx hb dX11_layApple_49 rfl ?_
  refine lv_iadd hx hb dX11_layApple_50 ?_
  refine g_topi (y := iI ((qF 0) + 1)) (iI_add (qF 0) 1) ?_
  refine g_ist hx hb hK hP hD hS 0 rfl (by omega) (by omega) (by first | exact Nat.le_of_ble_eq_true rfl | omega) dX11_layApple_51 (fun H locs hP hD hS => ?_)
  have hk_14 := bp_u (h := plA K0) (k := 0) (v := ((qF 0) + 1)) hk_11 (by omega) (show ((qF 0) + 1) ≤ 7 by omega)
  have hPD : PD G A H [(q0, .inl (G.2 0, 311, .inl (cI (uI (uI (uI (uI (uI (uI qF ((34 + (qF 0)).toNat) a1) ((6 + (qF 0)).toNat) a2) ((41 + (qF 0)).toNat) a3) ((13 + (qF 0)).toNat) 0) ((20 + (qF 0)).toNat) 0) 0 ((qF 0) + 1)))))] := ⟨hP, hD⟩
  have hP := hPD.1
  have hD := hPD.2
  clear hPD
  exact g_vret hx hb hr hlocks hP hD hS (⟨(uI (uI (uI (uI (uI (uI qF ((34 + (qF 0)).toNat) a1) ((6 + (qF 0)).toNat) a2) ((41 + (qF 0)).toNat) a3) ((13 + (qF 0)).toNat) 0) ((20 + (qF 0)).toNat) 0) 0 ((qF 0) + 1)), rfl, (by first | exact hk_14 | exact bpA_mono hk_14 (by omega) | assumption), rfl⟩) dX11_layApple_52
theorem dX11_layBiter_0 : decode cX11_layBiter 0 = .ok (.aload_n 0, 1) := kd_42 (by decide +kernel)
theorem dX11_layBiter_1 : decode cX11_layBiter 1 = .ok (.iconst 1, 1) := kd_4 (by decide +kernel)
theorem dX11_layBiter_2 : decode cX11_layBiter 2 = .ok (.iaload, 1) := kd_46 (by decide +kernel)
theorem dX11_layBiter_3 : decode cX11_layBiter 3 = .ok (.istore_n 3, 1) := kd_62 (by decide +kernel)
theorem dX11_layBiter_4 : decode cX11_layBiter 4 = .ok (.aload_n 0, 1) := kd_42 (by decide +kernel)
theorem dX11_layBiter_5 : decode cX11_layBiter 5 = .ok (.bipush 48, 2) := kd_16 (a := 48) (by decide +kernel)
theorem dX11_layBiter_7 : decode cX11_layBiter 7 = .ok (.iload_n 3, 1) := kd_29 (by decide +kernel)
theorem dX11_layBiter_8 : decode cX11_layBiter 8 = .ok (.iadd, 1) := kd_96 (by decide +kernel)
theorem dX11_layBiter_9 : decode cX11_layBiter 9 = .ok (.iload_n 1, 1) := kd_27 (by decide +kernel)
theorem dX11_layBiter_10 : decode cX11_layBiter 10 = .ok (.iastore, 1) := kd_79 (by decide +kernel)
theorem dX11_layBiter_11 : decode cX11_layBiter 11 = .ok (.aload_n 0, 1) := kd_42 (by decide +kernel)
theorem dX11_layBiter_12 : decode cX11_layBiter 12 = .ok (.bipush 52, 2) := kd_16 (a := 52) (by decide +kernel)
theorem dX11_layBiter_14 : decode cX11_layBiter 14 = .ok (.iload_n 3, 1) := kd_29 (by decide +kernel)
theorem dX11_layBiter_15 : decode cX11_layBiter 15 = .ok (.iadd, 1) := kd_96 (by decide +kernel)
theorem dX11_layBiter_16 : decode cX11_layBiter 16 = .ok (.iload_n 2, 1) := kd_28 (by decide +kernel)
theorem dX11_layBiter_17 : decode cX11_layBiter 17 = .ok (.iastore, 1) := kd_79 (by decide +kernel)
theorem dX11_layBiter_18 : decode cX11_layBiter 18 = .ok (.aload_n 0, 1) := kd_42 (by decide +kernel)
theorem dX11_layBiter_19 : decode cX11_layBiter 19 = .ok (.iconst 1, 1) := kd_4 (by decide +kernel)
theorem dX11_layBiter_20 : decode cX11_layBiter 20 = .ok (.dup2, 1) := kd_92 (by decide +kernel)
theorem dX11_layBiter_21 : decode cX11_layBiter 21 = .ok (.iaload, 1) := kd_46 (by decide +kernel)
theorem dX11_layBiter_22 : decode cX11_layBiter 22 = .ok (.iconst 1, 1) := kd_4 (by decide +kernel)
theorem dX11_layBiter_23 : decode cX11_layBiter 23 = .ok (.iadd, 1) := kd_96 (by decide +kernel)
theorem dX11_layBiter_24 : decode cX11_layBiter 24 = .ok (.iastore, 1) := kd_79 (by decide +kernel)
theorem dX11_layBiter_25 : decode cX11_layBiter 25 = .ok (.return_, 1) := kd_177 (by decide +kernel)
set_option maxHeartbeats 8000000 in
set_option maxRecDepth 100000 in
theorem c_X11_layBiter_311 (l : Launch) (G : gG) (q0 : Nat) (qF : Nat → Int) (K0 : Int) (a1 : Int) (a2 : Int) (y0_ : bp (plA K0) qF) (hK0 : 1000 ≤ K0 ∧ K0 ≤ 2000000) (ha : qF 1 ≤ 3) (h1 : 0 ≤ a1 ∧ a1 ≤ 99) (h2 : 0 ≤ a2 ∧ a2 ≤ 99) (sz : Nat) : gV G l yX11_layBiter wsX11_layBiter ({ frames := 0, cells := 0, slots := 0, locals := 0 } : Room) [.ref q0, .int (iI a1), .int (iI a2)] [(q0, .inl (G.2 0, 311, .inl (cI qF)))] sz (fun (u : va_W) => (∃ Nq : Nat → Int, (Nq = sBiter qF a1 a2) ∧ (bp (plA K0) Nq) ∧ u = [(q0, .inl (G.2 0, 311, .inl (cI Nq)))])) := by
  refine Met.ofW (cc := cX11_layBiter) (maxL := 4) (ret := none) (by decide) rfl ?_
  intro p e s m args below meth c s₁ B hml hv
  obtain ⟨rfl, hsz, hP, hK, hD0, hN, hZ⟩ := hv
  have hx := B.exec
  have hb := B.bytes
  have hr := B.returns
  have hts := atoms_spec (ws := wsX11_layBiter) B.pre
  have hown : s.vm.findClass RX11 = some m.cls := findClass_of_methodNamed B.named
  have hlocks := B.notSynchronized
  subst hsz
  have hD := hD0.self (sz := s.heap.size)
  generalize hAe : va_A [(q0, .inl (G.2 0, 311, .inl (cI qF)))] s.heap.size = A at hD hZ ⊢
  have hA : ∀ q : Nat, s.heap.size ≤ q → A q := fun q h => by rw [← hAe]; exact Or.inr h
  have hS : va_S A s.heap s.heap [] := va_S.rf
  have hP : va_P G.1 vwCl [(q0, .inl (G.2 0, 311, .inl (cI qF)))] s.heap := hP
  have hl := lv_entry ([.ref q0, .int (iI a1), .int (iI a2)]) (n := 4) (Nat.le_of_ble_eq_true rfl)
  rw [lg_entry_eq]
  generalize (lg_sl ([.ref q0, .int (iI a1), .int (iI a2)]) ++ List.replicate (4 - (lg_sl ([.ref q0, .int (iI a1), .int (iI a2)])).length) Slot.unset).toArray = ls at hl ⊢
  have hl : lv_has ls 4 [(0, .ref q0), (1, .int (iI a1)), (2, .int (iI a2))] := hl
  refine lv_aload_n hx hb dX11_layBiter_0 rfl (lv_at hl 0 rfl) ?_
  refine lv_iconst (v := iI 1) hx hb dX11_layBiter_1 rfl ?_
  refine g_ild hx hb hK hP 0 rfl (by omega) (by omega) (by first | exact Nat.le_of_ble_eq_true rfl | omega) dX11_layBiter_2 (fun w_1 ew_1 => ?_)
  have ew_1 : qF 1 = w_1 := ew_1
  subst ew_1
  have bw_1 : 0 ≤ (qF 1) ∧ (qF 1) ≤ 4 := y0_ 1
  refine lv_istore_n (lv' := [(3, .int (iI (qF 1))), (0, .ref q0), (1, .int (iI a1)), (2, .int (iI a2))]) hx hb dX11_layBiter_3 rfl hl (by decide) rfl (fun ls hl => ?_)
  refine lv_aload_n hx hb dX11_layBiter_4 rfl (lv_at hl 1 rfl) ?_
  refine lv_bipush (v := iI 48) hx hb dX11_layBiter_5 (by decide) ?_
  refine lv_iload_n hx hb dX11_layBiter_7 rfl (lv_at hl 0 rfl) ?_
  refine lv_iadd hx hb dX11_layBiter_8 ?_
  refine g_topi (y := iI (48 + (qF 1))) (iI_add 48 (qF 1)) ?_
  refine lv_iload_n hx hb dX11_layBiter_9 rfl (lv_at hl 2 rfl) ?_
  refine g_ist hx hb hK hP hD hS 0 rfl (by omega) (by omega) (by first | exact Nat.le_of_ble_eq_true rfl | omega) dX11_layBiter_10 (fun H locs hP hD hS => ?_)
  have hk_3 := bp_u (h := plA K0) (k := ((48 + (qF 1)).toNat)) (v := a1) y0_ (by omega) (Int.le_trans (show a1 ≤ K0 by omega) (plAl_K (by omega) (by omega)))
  have hPD : PD G A H [(q0, .inl (G.2 0, 311, .inl (cI (uI qF ((48 + (qF 1)).toNat) a1))))] := ⟨hP, hD⟩
  have hP := hPD.1
  have hD := hPD.2
  clear hPD
  refine lv_aload_n hx hb dX11_layBiter_11 rfl (lv_at hl 1 rfl) ?_
  refine lv_bipush (v := iI 52) hx hb dX11_layBiter_12 (by decide) ?_
  refine lv_iload_n hx hb dX11_layBiter_14 rfl (lv_at hl 0 rfl) ?_
  refine lv_iadd hx hb dX11_layBiter_15 ?_
  refine g_topi (y := iI (52 + (qF 1))) (iI_add 52 (qF 1)) ?_
  refine lv_iload_n hx hb dX11_layBiter_16 rfl (lv_at hl 3 rfl) ?_
  refine g_ist hx hb hK hP hD hS 0 rfl (by omega) (by omega) (by first | exact Nat.le_of_ble_eq_true rfl | omega) dX11_layBiter_17 (fun H locs hP hD hS => ?_)
  have hk_5 := bp_u (h := plA K0) (k := ((52 + (qF 1)).toNat)) (v := a2) hk_3 (by omega) (Int.le_trans (show a2 ≤ K0 by omega) (plAl_K (by omega) (by omega)))
  have hPD : PD G A H [(q0, .inl (G.2 0, 311, .inl (cI (uI (uI qF ((48 + (qF 1)).toNat) a1) ((52 + (qF 1)).toNat) a2))))] := ⟨hP, hD⟩
  have hP := hPD.1
  have hD := hPD.2
  clear hPD
  refine lv_aload_n hx hb dX11_layBiter_18 rfl (lv_at hl 1 rfl) ?_
  refine lv_iconst (v := iI 1) hx hb dX11_layBiter_19 rfl ?_
  refine lv_dup2_11 hx hb dX11_layBiter_20 rfl rfl ?_
  refine g_ild hx hb hK hP 0 rfl (by omega) (by omega) (by first | exact Nat.le_of_ble_eq_true rfl | omega) dX11_layBiter_21 (fun w_6 ew_6 => ?_)
  have ew_6 : (uI (uI qF ((48 + (qF 1)).toNat) a1) ((52 + (qF 1)).toNat) a2) 1 = w_6 := ew_6
  rw [uI_ne (by omega), uI_ne (by omega)] at ew_6
  subst ew_6
  have bw_6 : 0 ≤ (qF 1) ∧ (qF 1) ≤ 4 := y0_ 1
  refine lv_iconst (v := iI 1) hx hb dX11_layBiter_22 rfl ?_
  refine lv_iadd hx hb dX11_layBiter_23 ?_
  refine g_topi (y := iI ((qF 1) + 1)) (iI_add (qF 1) 1) ?_
  refine g_ist hx hb hK hP hD hS 0 rfl (by omega) (by omega) (by first | exact Nat.le_of_ble_eq_true rfl | omega) dX11_layBiter_24 (fun H locs hP hD hS => ?_)
  have hk_8 := bp_u (h := plA K0) (k := 1) (v := ((qF 1) + 1)) hk_5 (by omega) (show ((qF 1) + 1) ≤ 4 by omega)
  have hPD : PD G A H [(q0, .inl (G.2 0, 311, .inl (cI (uI (uI (uI qF ((48 + (qF 1)).toNat) a1) ((52 + (qF 1)).toNat) a2) 1 ((qF 1) + 1)))))] := ⟨hP, hD⟩
  have hP := hPD.1
  have hD := hPD.2
  clear hPD
  exact g_vret hx hb hr hlocks hP hD hS (⟨(uI (uI (uI qF ((48 + (qF 1)).toNat) a1) ((52 + (qF 1)).toNat) a2) 1 ((qF 1) + 1)), rfl, (by first | exact hk_8 | exact bpA_mono hk_8 (by omega) | assumption), rfl⟩) dX11_layBiter_25
set_option maxHeartbeats 8000000 in
set_option maxRecDepth 100000 in
theorem c_X11_layApple_135 (l : Launch) (G : gG) (q0 : Nat) (qF : Nat → Int) (K0 : Int) (a1 : Int) (a2 : Int) (a3 : Int) (y0_ : bp (plA K0) qF) (hK0 : 1000 ≤ K0 ∧ K0 ≤ 2000000) (ha : qF 0 ≤ 6) (h1 : 0 ≤ a1 ∧ a1 ≤ 99) (h2 : 0 ≤ a2 ∧ a2 ≤ 30) (h3 : 0 ≤ a3 ∧ a3 ≤ 99) (sz : Nat) : gV G l yX11_layApple wsX11_layApple ({ frames := 0, cells := 0, slots := 0, locals := 0 } : Room) [.ref q0, .int (iI a1), .int (iI a2), .int (iI a3)] [(q0, .inl (G.2 0, 135, .inl (cI qF)))] sz (fun (u : va_W) => (∃ Nq : Nat → Int, (Nq = sApple qF a1 a2 a3) ∧ (bp (plA K0) Nq) ∧ u = [(q0, .inl (G.2 0, 135, .inl (cI Nq)))])) := by
  refine Met.ofW (cc := cX11_layApple) (maxL := 5) (ret := none) (by decide) rfl ?_
  intro p e s m args below meth c s₁ B hml hv
  obtain ⟨rfl, hsz, hP, hK, hD0, hN, hZ⟩ := hv
  have hx := B.exec
  have hb := B.bytes
  have hr := B.returns
  have hts := atoms_spec (ws := wsX11_layApple) B.pre
  have hown : s.vm.findClass RX11 = some m.cls := findClass_of_methodNamed B.named
  have hlocks := B.notSynchronized
  subst hsz
  have hD := hD0.self (sz := s.heap.size)
  generalize hAe : va_A [(q0, .inl (G.2 0, 135, .inl (cI qF)))] s.heap.size = A at hD hZ ⊢
  have hA : ∀ q : Nat, s.heap.size ≤ q → A q := fun q h => by rw [← hAe]; exact Or.inr h
  have hS : va_S A s.heap s.heap [] := va_S.rf
  have hP : va_P G.1 vwCl [(q0, .inl (G.2 0, 135, .inl (cI qF)))] s.heap := hP
  have hl := lv_entry ([.ref q0, .int (iI a1), .int (iI a2), .int (iI a3)]) (n := 5) (Nat.le_of_ble_eq_true rfl)
  rw [lg_entry_eq]
  generalize (lg_sl ([.ref q0, .int (iI a1), .int (iI a2), .int (iI a3)]) ++ List.replicate (5 - (lg_sl ([.ref q0, .int (iI a1), .int (iI a2), .int (iI a3)])).length) Slot.unset).toArray = ls at hl ⊢
  have hl : lv_has ls 5 [(0, .ref q0), (1, .int (iI a1)), (2, .int (iI a2)), (3, .int (iI a3))] := hl
  refine lv_aload_n hx hb dX11_layApple_0 rfl (lv_at hl 0 rfl) ?_
  refine lv_iconst (v := iI 0) hx hb dX11_layApple_1 rfl ?_
  refine g_ild hx hb hK hP 0 rfl (by omega) (by omega) (by first | exact Nat.le_of_ble_eq_true rfl | omega) dX11_layApple_2 (fun w_1 ew_1 => ?_)
  have ew_1 : qF 0 = w_1 := ew_1
  subst ew_1
  have bw_1 : 0 ≤ (qF 0) ∧ (qF 0) ≤ 7 := y0_ 0
  refine lv_istore (lv' := [(4, .int (iI (qF 0))), (0, .ref q0), (1, .int (iI a1)), (2, .int (iI a2)), (3, .int (iI a3))]) hx hb dX11_layApple_3 hl (by decide) rfl (fun ls hl => ?_)
  refine lv_aload_n hx hb dX11_layApple_5 rfl (lv_at hl 1 rfl) ?_
  refine lv_bipush (v := iI 34) hx hb dX11_layApple_6 (by decide) ?_
  refine lv_iload hx hb dX11_layApple_8 (lv_at hl 0 rfl) ?_
  refine lv_iadd hx hb dX11_layApple_10 ?_
  refine g_topi (y := iI (34 + (qF 0))) (iI_add 34 (qF 0)) ?_
  refine lv_iload_n hx hb dX11_layApple_11 rfl (lv_at hl 2 rfl) ?_
  refine g_ist hx hb hK hP hD hS 0 rfl (by omega) (by omega) (by first | exact Nat.le_of_ble_eq_true rfl | omega) dX11_layApple_12 (fun H locs hP hD hS => ?_)
  have hk_3 := bp_u (h := plA K0) (k := ((34 + (qF 0)).toNat)) (v := a1) y0_ (by omega) (Int.le_trans (show a1 ≤ K0 by omega) (plAl_K (by omega) (by omega)))
  have hPD : PD G A H [(q0, .inl (G.2 0, 135, .inl (cI (uI qF ((34 + (qF 0)).toNat) a1))))] := ⟨hP, hD⟩
  have hP := hPD.1
  have hD := hPD.2
  clear hPD
  refine lv_aload_n hx hb dX11_layApple_13 rfl (lv_at hl 1 rfl) ?_
  refine lv_bipush (v := iI 6) hx hb dX11_layApple_14 (by decide) ?_
  refine lv_iload hx hb dX11_layApple_16 (lv_at hl 0 rfl) ?_
  refine lv_iadd hx hb dX11_layApple_18 ?_
  refine g_topi (y := iI (6 + (qF 0))) (iI_add 6 (qF 0)) ?_
  refine lv_iload_n hx hb dX11_layApple_19 rfl (lv_at hl 3 rfl) ?_
  refine g_ist hx hb hK hP hD hS 0 rfl (by omega) (by omega) (by first | exact Nat.le_of_ble_eq_true rfl | omega) dX11_layApple_20 (fun H locs hP hD hS => ?_)
  have hk_5 := bp_u (h := plA K0) (k := ((6 + (qF 0)).toNat)) (v := a2) hk_3 (by omega) (Int.le_trans (show a2 ≤ 30 by omega) (plAl_T (by omega) (by omega)))
  have hPD : PD G A H [(q0, .inl (G.2 0, 135, .inl (cI (uI (uI qF ((34 + (qF 0)).toNat) a1) ((6 + (qF 0)).toNat) a2))))] := ⟨hP, hD⟩
  have hP := hPD.1
  have hD := hPD.2
  clear hPD
  refine lv_aload_n hx hb dX11_layApple_21 rfl (lv_at hl 1 rfl) ?_
  refine lv_bipush (v := iI 41) hx hb dX11_layApple_22 (by decide) ?_
  refine lv_iload hx hb dX11_layApple_24 (lv_at hl 0 rfl) ?_
  refine lv_iadd hx hb dX11_layApple_26 ?_
  refine g_topi (y := iI (41 + (qF 0))) (iI_add 41 (qF 0)) ?_
  refine lv_iload_n hx hb dX11_layApple_27 rfl (lv_at hl 4 rfl) ?_
  refine g_ist hx hb hK hP hD hS 0 rfl (by omega) (by omega) (by first | exact Nat.le_of_ble_eq_true rfl | omega) dX11_layApple_28 (fun H locs hP hD hS => ?_)
  have hk_7 := bp_u (h := plA K0) (k := ((41 + (qF 0)).toNat)) (v := a3) hk_5 (by omega) (Int.le_trans (show a3 ≤ K0 by omega) (plAl_K (by omega) (by omega)))
  have hPD : PD G A H [(q0, .inl (G.2 0, 135, .inl (cI (uI (uI (uI qF ((34 + (qF 0)).toNat) a1) ((6 + (qF 0)).toNat) a2) ((41 + (qF 0)).toNat) a3))))] := ⟨hP, hD⟩
  have hP := hPD.1
  have hD := hPD.2
  clear hPD
  refine lv_aload_n hx hb dX11_layApple_29 rfl (lv_at hl 1 rfl) ?_
  refine lv_bipush (v := iI 13) hx hb dX11_layApple_30 (by decide) ?_
  refine lv_iload hx hb dX11_layApple_32 (lv_at hl 0 rfl) ?_
  refine lv_iadd hx hb dX11_layApple_34 ?_
  refine g_topi (y := iI (13 + (qF 0))) (iI_add 13 (qF 0)) ?_
  refine lv_iconst (v := iI 0) hx hb dX11_layApple_35 rfl ?_
  refine g_ist hx hb hK hP hD hS 0 rfl (by omega) (by omega) (by first | exact Nat.le_of_ble_eq_true rfl | omega) dX11_layApple_36 (fun H locs hP hD hS => ?_)
  have hk_9 := bp_u (h := plA K0) (k := ((13 + (qF 0)).toNat)) (v := 0) hk_7 (by omega) (Int.le_trans (show 0 ≤ K0 by omega) (plAl_K (by omega) (by omega)))
  have hPD : PD G A H [(q0, .inl (G.2 0, 135, .inl (cI (uI (uI (uI (uI qF ((34 + (qF 0)).toNat) a1) ((6 + (qF 0)).toNat) a2) ((41 + (qF 0)).toNat) a3) ((13 + (qF 0)).toNat) 0))))] := ⟨hP, hD⟩
  have hP := hPD.1
  have hD := hPD.2
  clear hPD
  refine lv_aload_n hx hb dX11_layApple_37 rfl (lv_at hl 1 rfl) ?_
  refine lv_bipush (v := iI 20) hx hb dX11_layApple_38 (by decide) ?_
  refine lv_iload hx hb dX11_layApple_40 (lv_at hl 0 rfl) ?_
  refine lv_iadd hx hb dX11_layApple_42 ?_
  refine g_topi (y := iI (20 + (qF 0))) (iI_add 20 (qF 0)) ?_
  refine lv_iconst (v := iI 0) hx hb dX11_layApple_43 rfl ?_
  refine g_ist hx hb hK hP hD hS 0 rfl (by omega) (by omega) (by first | exact Nat.le_of_ble_eq_true rfl | omega) dX11_layApple_44 (fun H locs hP hD hS => ?_)
  have hk_11 := bp_u (h := plA K0) (k := ((20 + (qF 0)).toNat)) (v := 0) hk_9 (by omega) (Int.le_trans (show 0 ≤ K0 by omega) (plAl_K (by omega) (by omega)))
  have hPD : PD G A H [(q0, .inl (G.2 0, 135, .inl (cI (uI (uI (uI (uI (uI qF ((34 + (qF 0)).toNat) a1) ((6 + (qF 0)).toNat) a2) ((41 + (qF 0)).toNat) a3) ((13 + (qF 0)).toNat) 0) ((20 + (qF 0)).toNat) 0))))] := ⟨hP, hD⟩
  have hP := hPD.1
  have hD := hPD.2
  clear hPD
  refine lv_aload_n hx hb dX11_layApple_45 rfl (lv_at hl 1 rfl) ?_
  refine lv_iconst (v := iI 0) hx hb dX11_layApple_46 rfl ?_
  refine lv_dup2_11 hx hb dX11_layApple_47 rfl rfl ?_
  refine g_ild hx hb hK hP 0 rfl (by omega) (by omega) (by first | exact Nat.le_of_ble_eq_true rfl | omega) dX11_layApple_48 (fun w_12 ew_12 => ?_)
  have ew_12 : (uI (uI (uI (uI (uI qF ((34 + (qF 0)).toNat) a1) ((6 + (qF 0)).toNat) a2) ((41 + (qF 0)).toNat) a3) ((13 + (qF 0)).toNat) 0) ((20 + (qF 0)).toNat) 0) 0 = w_12 := ew_12
  rw [uI_ne (by omega), uI_ne (by omega), uI_ne (by omega), uI_ne (by omega), uI_ne (by omega)] at ew_12
  subst ew_12
  have bw_12 : 0 ≤ (qF 0) ∧ (qF 0) ≤ 7 := y0_ 0
  refine lv_iconst (v := iI 1) hx hb dX11_layApple_49 rfl ?_
  refine lv_iadd hx hb dX11_layApple_50 ?_
  refine g_topi (y := iI ((qF 0) + 1)) (iI_add (qF 0) 1) ?_
  refine g_ist hx hb hK hP hD hS 0 rfl (by omega) (by omega) (by first | exact Nat.le_of_ble_eq_true rfl | omega) dX11_layApple_51 (fun H locs hP hD hS => ?_)
  have hk_14 := bp_u (h := plA K0) (k := 0) (v := ((qF 0) + 1)) hk_11 (by omega) (show ((qF 0) + 1) ≤ 7 by omega)
  have hPD : PD G A H [(q0, .inl (G.2 0, 135, .inl (cI (uI (uI (uI (uI (uI (uI qF ((34 + (qF 0)).toNat) a1) ((6 + (qF 0)).toNat) a2) ((41 + (qF 0)).toNat) a3) ((13 + (qF 0)).toNat) 0) ((20 + (qF 0)).toNat) 0) 0 ((qF 0) + 1)))))] := ⟨hP, hD⟩
  have hP := hPD.1
  have hD := hPD.2
  clear hPD
  exact g_vret hx hb hr hlocks hP hD hS (⟨(uI (uI (uI (uI (uI (uI qF ((34 + (qF 0)).toNat) a1) ((6 + (qF 0)).toNat) a2) ((41 + (qF 0)).toNat) a3) ((13 + (qF 0)).toNat) 0) ((20 + (qF 0)).toNat) 0) 0 ((qF 0) + 1)), rfl, (by first | exact hk_14 | exact bpA_mono hk_14 (by omega) | assumption), rfl⟩) dX11_layApple_52
set_option maxHeartbeats 8000000 in
set_option maxRecDepth 100000 in
theorem c_X11_layBiter_135 (l : Launch) (G : gG) (q0 : Nat) (qF : Nat → Int) (K0 : Int) (a1 : Int) (a2 : Int) (y0_ : bp (plA K0) qF) (hK0 : 1000 ≤ K0 ∧ K0 ≤ 2000000) (ha : qF 1 ≤ 3) (h1 : 0 ≤ a1 ∧ a1 ≤ 99) (h2 : 0 ≤ a2 ∧ a2 ≤ 99) (sz : Nat) : gV G l yX11_layBiter wsX11_layBiter ({ frames := 0, cells := 0, slots := 0, locals := 0 } : Room) [.ref q0, .int (iI a1), .int (iI a2)] [(q0, .inl (G.2 0, 135, .inl (cI qF)))] sz (fun (u : va_W) => (∃ Nq : Nat → Int, (Nq = sBiter qF a1 a2) ∧ (bp (plA K0) Nq) ∧ u = [(q0, .inl (G.2 0, 135, .inl (cI Nq)))])) := by
  refine Met.ofW (cc := cX11_layBiter) (maxL := 4) (ret := none) (by decide) rfl ?_
  intro p e s m args below meth c s₁ B hml hv
  obtain ⟨rfl, hsz, hP, hK, hD0, hN, hZ⟩ := hv
  have hx := B.exec
  have hb := B.bytes
  have hr := B.returns
  have hts := atoms_spec (ws := wsX11_layBiter) B.pre
  have hown : s.vm.findClass RX11 = some m.cls := findClass_of_methodNamed B.named
  have hlocks := B.notSynchronized
  subst hsz
  have hD := hD0.self (sz := s.heap.size)
  generalize hAe : va_A [(q0, .inl (G.2 0, 135, .inl (cI qF)))] s.heap.size = A at hD hZ ⊢
  have hA : ∀ q : Nat, s.heap.size ≤ q → A q := fun q h => by rw [← hAe]; exact Or.inr h
  have hS : va_S A s.heap s.heap [] := va_S.rf
  have hP : va_P G.1 vwCl [(q0, .inl (G.2 0, 135, .inl (cI qF)))] s.heap := hP
  have hl := lv_entry ([.ref q0, .int (iI a1), .int (iI a2)]) (n := 4) (Nat.le_of_ble_eq_true rfl)
  rw [lg_entry_eq]
  generalize (lg_sl ([.ref q0, .int (iI a1), .int (iI a2)]) ++ List.replicate (4 - (lg_sl ([.ref q0, .int (iI a1), .int (iI a2)])).length) Slot.unset).toArray = ls at hl ⊢
  have hl : lv_has ls 4 [(0, .ref q0), (1, .int (iI a1)), (2, .int (iI a2))] := hl
  refine lv_aload_n hx hb dX11_layBiter_0 rfl (lv_at hl 0 rfl) ?_
  refine lv_iconst (v := iI 1) hx hb dX11_layBiter_1 rfl ?_
  refine g_ild hx hb hK hP 0 rfl (by omega) (by omega) (by first | exact Nat.le_of_ble_eq_true rfl | omega) dX11_layBiter_2 (fun w_1 ew_1 => ?_)
  have ew_1 : qF 1 = w_1 := ew_1
  subst ew_1
  have bw_1 : 0 ≤ (qF 1) ∧ (qF 1) ≤ 4 := y0_ 1
  refine lv_istore_n (lv' := [(3, .int (iI (qF 1))), (0, .ref q0), (1, .int (iI a1)), (2, .int (iI a2))]) hx hb dX11_layBiter_3 rfl hl (by decide) rfl (fun ls hl => ?_)
  refine lv_aload_n hx hb dX11_layBiter_4 rfl (lv_at hl 1 rfl) ?_
  refine lv_bipush (v := iI 48) hx hb dX11_layBiter_5 (by decide) ?_
  refine lv_iload_n hx hb dX11_layBiter_7 rfl (lv_at hl 0 rfl) ?_
  refine lv_iadd hx hb dX11_layBiter_8 ?_
  refine g_topi (y := iI (48 + (qF 1))) (iI_add 48 (qF 1)) ?_
  refine lv_iload_n hx hb dX11_layBiter_9 rfl (lv_at hl 2 rfl) ?_
  refine g_ist hx hb hK hP hD hS 0 rfl (by omega) (by omega) (by first | exact Nat.le_of_ble_eq_true rfl | omega) dX11_layBiter_10 (fun H locs hP hD hS => ?_)
  have hk_3 := bp_u (h := plA K0) (k := ((48 + (qF 1)).toNat)) (v := a1) y0_ (by omega) (Int.le_trans (show a1 ≤ K0 by omega) (plAl_K (by omega) (by omega)))
  have hPD : PD G A H [(q0, .inl (G.2 0, 135, .inl (cI (uI qF ((48 + (qF 1)).toNat) a1))))] := ⟨hP, hD⟩
  have hP := hPD.1
  have hD := hPD.2
  clear hPD
  refine lv_aload_n hx hb dX11_layBiter_11 rfl (lv_at hl 1 rfl) ?_
  refine lv_bipush (v := iI 52) hx hb dX11_layBiter_12 (by decide) ?_
  refine lv_iload_n hx hb dX11_layBiter_14 rfl (lv_at hl 0 rfl) ?_
  refine lv_iadd hx hb dX11_layBiter_15 ?_
  refine g_topi (y := iI (52 + (qF 1))) (iI_add 52 (qF 1)) ?_
  refine lv_iload_n hx hb dX11_layBiter_16 rfl (lv_at hl 3 rfl) ?_
  refine g_ist hx hb hK hP hD hS 0 rfl (by omega) (by omega) (by first | exact Nat.le_of_ble_eq_true rfl | omega) dX11_layBiter_17 (fun H locs hP hD hS => ?_)
  have hk_5 := bp_u (h := plA K0) (k := ((52 + (qF 1)).toNat)) (v := a2) hk_3 (by omega) (Int.le_trans (show a2 ≤ K0 by omega) (plAl_K (by omega) (by omega)))
  have hPD : PD G A H [(q0, .inl (G.2 0, 135, .inl (cI (uI (uI qF ((48 + (qF 1)).toNat) a1) ((52 + (qF 1)).toNat) a2))))] := ⟨hP, hD⟩
  have hP := hPD.1
  have hD := hPD.2
  clear hPD
  refine lv_aload_n hx hb dX11_layBiter_18 rfl (lv_at hl 1 rfl) ?_
  refine lv_iconst (v := iI 1) hx hb dX11_layBiter_19 rfl ?_
  refine lv_dup2_11 hx hb dX11_layBiter_20 rfl rfl ?_
  refine g_ild hx hb hK hP 0 rfl (by omega) (by omega) (by first | exact Nat.le_of_ble_eq_true rfl | omega) dX11_layBiter_21 (fun w_6 ew_6 => ?_)
  have ew_6 : (uI (uI qF ((48 + (qF 1)).toNat) a1) ((52 + (qF 1)).toNat) a2) 1 = w_6 := ew_6
  rw [uI_ne (by omega), uI_ne (by omega)] at ew_6
  subst ew_6
  have bw_6 : 0 ≤ (qF 1) ∧ (qF 1) ≤ 4 := y0_ 1
  refine lv_iconst (v := iI 1) hx hb dX11_layBiter_22 rfl ?_
  refine lv_iadd hx hb dX11_layBiter_23 ?_
  refine g_topi (y := iI ((qF 1) + 1)) (iI_add (qF 1) 1) ?_
  refine g_ist hx hb hK hP hD hS 0 rfl (by omega) (by omega) (by first | exact Nat.le_of_ble_eq_true rfl | omega) dX11_layBiter_24 (fun H locs hP hD hS => ?_)
  have hk_8 := bp_u (h := plA K0) (k := 1) (v := ((qF 1) + 1)) hk_5 (by omega) (show ((qF 1) + 1) ≤ 4 by omega)
  have hPD : PD G A H [(q0, .inl (G.2 0, 135, .inl (cI (uI (uI (uI qF ((48 + (qF 1)).toNat) a1) ((52 + (qF 1)).toNat) a2) 1 ((qF 1) + 1)))))] := ⟨hP, hD⟩
  have hP := hPD.1
  have hD := hPD.2
  clear hPD
  exact g_vret hx hb hr hlocks hP hD hS (⟨(uI (uI (uI qF ((48 + (qF 1)).toNat) a1) ((52 + (qF 1)).toNat) a2) 1 ((qF 1) + 1)), rfl, (by first | exact hk_8 | exact bpA_mono hk_8 (by omega) | assumption), rfl⟩) dX11_layBiter_25
theorem dX11_dampOf_0 : decode cX11_dampOf 0 = .ok (.aload_n 0, 1) := kd_42 (by decide +kernel)
theorem dX11_dampOf_1 : decode cX11_dampOf 1 = .ok (.bipush 28, 2) := kd_16 (a := 28) (by decide +kernel)
theorem dX11_dampOf_3 : decode cX11_dampOf 3 = .ok (.aload_n 0, 1) := kd_42 (by decide +kernel)
theorem dX11_dampOf_4 : decode cX11_dampOf 4 = .ok (.bipush 27, 2) := kd_16 (a := 27) (by decide +kernel)
theorem dX11_dampOf_6 : decode cX11_dampOf 6 = .ok (.iaload, 1) := kd_46 (by decide +kernel)
theorem dX11_dampOf_7 : decode cX11_dampOf 7 = .ok (.bipush 6, 2) := kd_16 (a := 6) (by decide +kernel)
theorem dX11_dampOf_9 : decode cX11_dampOf 9 = .ok (.irem, 1) := kd_112 (by decide +kernel)
theorem dX11_dampOf_10 : decode cX11_dampOf 10 = .ok (.iadd, 1) := kd_96 (by decide +kernel)
theorem dX11_dampOf_11 : decode cX11_dampOf 11 = .ok (.iaload, 1) := kd_46 (by decide +kernel)
theorem dX11_dampOf_12 : decode cX11_dampOf 12 = .ok (.ireturn, 1) := kd_172 (by decide +kernel)
set_option maxHeartbeats 8000000 in
set_option maxRecDepth 100000 in
theorem c_X11_dampOf_311 (l : Launch) (G : gG) (q0 : Nat) (qF : Nat → Int) (K0 : Int) (y0_ : bp (plA K0) qF) (hK0 : 1000 ≤ K0 ∧ K0 ≤ 2000000) (sz : Nat) : gI G l yX11_dampOf wsX11_dampOf ({ frames := 0, cells := 0, slots := 0, locals := 0 } : Room) [.ref q0] [(q0, .inl (G.2 0, 311, .inl (cI qF)))] sz (fun (r : Int32) (u : va_W) => (∃ rr : Int, (rr = qF ((28 + (qF 27 % 6)).toNat)) ∧ (0 ≤ rr ∧ rr ≤ K0) ∧ r = (iI rr) ∧ u = [(q0, .inl (G.2 0, 311, .inl (cI qF)))])) := by
  refine Met.ofW (cc := cX11_dampOf) (maxL := 1) (ret := (some .int)) (by decide) rfl ?_
  intro p e s m args below meth c s₁ B hml hv
  obtain ⟨rfl, hsz, hP, hK, hD0, hN, hZ⟩ := hv
  have hx := B.exec
  have hb := B.bytes
  have hr := B.returns
  have hts := atoms_spec (ws := wsX11_dampOf) B.pre
  have hown : s.vm.findClass RX11 = some m.cls := findClass_of_methodNamed B.named
  have hlocks := B.notSynchronized
  subst hsz
  have hD := hD0.self (sz := s.heap.size)
  generalize hAe : va_A [(q0, .inl (G.2 0, 311, .inl (cI qF)))] s.heap.size = A at hD hZ ⊢
  have hA : ∀ q : Nat, s.heap.size ≤ q → A q := fun q h => by rw [← hAe]; exact Or.inr h
  have hS : va_S A s.heap s.heap [] := va_S.rf
  have hP : va_P G.1 vwCl [(q0, .inl (G.2 0, 311, .inl (cI qF)))] s.heap := hP
  have hl := lv_entry ([.ref q0]) (n := 1) (Nat.le_of_ble_eq_true rfl)
  rw [lg_entry_eq]
  generalize (lg_sl ([.ref q0]) ++ List.replicate (1 - (lg_sl ([.ref q0])).length) Slot.unset).toArray = ls at hl ⊢
  have hl : lv_has ls 1 [(0, .ref q0)] := hl
  refine lv_aload_n hx hb dX11_dampOf_0 rfl (lv_at hl 0 rfl) ?_
  refine lv_bipush (v := iI 28) hx hb dX11_dampOf_1 (by decide) ?_
  refine lv_aload_n hx hb dX11_dampOf_3 rfl (lv_at hl 0 rfl) ?_
  refine lv_bipush (v := iI 27) hx hb dX11_dampOf_4 (by decide) ?_
  refine g_ild hx hb hK hP 0 rfl (by omega) (by omega) (by first | exact Nat.le_of_ble_eq_true rfl | omega) dX11_dampOf_6 (fun w_1 ew_1 => ?_)
  have ew_1 : qF 27 = w_1 := ew_1
  subst ew_1
  have bw_1 : 0 ≤ (qF 27) ∧ (qF 27) ≤ K0 := y0_ 27
  refine lv_bipush (v := iI 6) hx hb dX11_dampOf_7 (by decide) ?_
  refine lv_irem hx hb dX11_dampOf_9 (iI_ne0 (by omega) (by omega)) ?_
  refine g_topi (y := iI ((qF 27) % 6)) (iI_rem2 (by omega) (by omega) (by omega) (by omega)) ?_
  refine lv_iadd hx hb dX11_dampOf_10 ?_
  refine g_topi (y := iI (28 + ((qF 27) % 6))) (iI_add 28 ((qF 27) % 6)) ?_
  refine g_ild hx hb hK hP 0 rfl (by omega) (by omega) (by first | exact Nat.le_of_ble_eq_true rfl | omega) dX11_dampOf_11 (fun w_2 ew_2 => ?_)
  have ew_2 : qF ((28 + ((qF 27) % 6)).toNat) = w_2 := ew_2
  subst ew_2
  have bw_2 : 0 ≤ (qF ((28 + ((qF 27) % 6)).toNat)) ∧ (qF ((28 + ((qF 27) % 6)).toNat)) ≤ K0 := ⟨(y0_ _).1, Int.le_trans (y0_ _).2 (plA_le (by omega) _)⟩
  exact g_iret (v := (iI (qF ((28 + ((qF 27) % 6)).toNat)))) hx hb hr hlocks hP hD hS (⟨(qF ((28 + ((qF 27) % 6)).toNat)), (by first | assumption | omega), (by first | assumption | omega), rfl, rfl⟩) dX11_dampOf_12
theorem dX11_hardOf_0 : decode cX11_hardOf 0 = .ok (.aload_n 0, 1) := kd_42 (by decide +kernel)
theorem dX11_hardOf_1 : decode cX11_hardOf 1 = .ok (.bipush 34, 2) := kd_16 (a := 34) (by decide +kernel)
theorem dX11_hardOf_3 : decode cX11_hardOf 3 = .ok (.iload_n 1, 1) := kd_27 (by decide +kernel)
theorem dX11_hardOf_4 : decode cX11_hardOf 4 = .ok (.iadd, 1) := kd_96 (by decide +kernel)
theorem dX11_hardOf_5 : decode cX11_hardOf 5 = .ok (.iaload, 1) := kd_46 (by decide +kernel)
theorem dX11_hardOf_6 : decode cX11_hardOf 6 = .ok (.aload_n 0, 1) := kd_42 (by decide +kernel)
theorem dX11_hardOf_7 : decode cX11_hardOf 7 = .ok (.bipush 6, 2) := kd_16 (a := 6) (by decide +kernel)
theorem dX11_hardOf_9 : decode cX11_hardOf 9 = .ok (.iload_n 1, 1) := kd_27 (by decide +kernel)
theorem dX11_hardOf_10 : decode cX11_hardOf 10 = .ok (.iadd, 1) := kd_96 (by decide +kernel)
theorem dX11_hardOf_11 : decode cX11_hardOf 11 = .ok (.iaload, 1) := kd_46 (by decide +kernel)
theorem dX11_hardOf_12 : decode cX11_hardOf 12 = .ok (.aload_n 0, 1) := kd_42 (by decide +kernel)
theorem dX11_hardOf_13 : decode cX11_hardOf 13 = .ok (.bipush 13, 2) := kd_16 (a := 13) (by decide +kernel)
theorem dX11_hardOf_15 : decode cX11_hardOf 15 = .ok (.iload_n 1, 1) := kd_27 (by decide +kernel)
theorem dX11_hardOf_16 : decode cX11_hardOf 16 = .ok (.iadd, 1) := kd_96 (by decide +kernel)
theorem dX11_hardOf_17 : decode cX11_hardOf 17 = .ok (.iaload, 1) := kd_46 (by decide +kernel)
theorem dX11_hardOf_18 : decode cX11_hardOf 18 = .ok (.aload_n 0, 1) := kd_42 (by decide +kernel)
theorem gX11_hardOf_X11_dampOf : GoodIn wsX11_hardOf (va_wsS RX11 104 yX11_dampOf wsX11_dampOf) := gW_S (in_r22 (List.mem_of_getElem? (i := 2) rfl)) (in_r22 (List.mem_of_getElem? (i := 3) rfl)) (in_r1 (List.mem_of_getElem? (i := 5) rfl)) (in_r22 (List.mem_of_getElem? (i := 4) rfl))
theorem dX11_hardOf_19 : decode cX11_hardOf 19 = .ok (.invokestatic 104, 3) := kd_184 (a := 0) (b := 104) (by decide +kernel)
theorem gX11_hardOf_X11_hardAs : GoodIn wsX11_hardOf (va_wsS RX11 108 yX11_hardAs wsX11_hardAs) := gW_S (in_r22 (List.mem_of_getElem? (i := 5) rfl)) (in_r22 (List.mem_of_getElem? (i := 6) rfl)) (in_r1 (List.mem_of_getElem? (i := 5) rfl)) (in_r22 (List.mem_of_getElem? (i := 7) rfl))
theorem dX11_hardOf_22 : decode cX11_hardOf 22 = .ok (.invokestatic 108, 3) := kd_184 (a := 0) (b := 108) (by decide +kernel)
theorem dX11_hardOf_25 : decode cX11_hardOf 25 = .ok (.ireturn, 1) := kd_172 (by decide +kernel)
set_option maxHeartbeats 8000000 in
set_option maxRecDepth 100000 in
theorem c_X11_hardOf_311 (l : Launch) (G : gG) (q0 : Nat) (qF : Nat → Int) (K0 : Int) (p0 : Int) (y0_ : bp (plA K0) qF) (hK0 : 1000 ≤ K0 ∧ K0 ≤ 2000000) (hp : 0 ≤ p0 ∧ p0 ≤ 6) (sz : Nat) : gI G l yX11_hardOf wsX11_hardOf ({ frames := 1, cells := 0, slots := 0, locals := 27 } : Room) [.ref q0, .int (iI p0)] [(q0, .inl (G.2 0, 311, .inl (cI qF)))] sz (fun (r : Int32) (u : va_W) => (∃ rr : Int, (rr = mHard (qF ((34 + p0).toNat)) (qF ((6 + p0).toNat)) (qF ((13 + p0).toNat)) (qF ((28 + (qF 27 % 6)).toNat))) ∧ (0 ≤ rr ∧ rr ≤ 20) ∧ r = (iI rr) ∧ u = [(q0, .inl (G.2 0, 311, .inl (cI qF)))])) := by
  refine Met.ofW (cc := cX11_hardOf) (maxL := 2) (ret := (some .int)) (by decide) rfl ?_
  intro p e s m args below meth c s₁ B hml hv
  obtain ⟨rfl, hsz, hP, hK, hD0, hN, hZ⟩ := hv
  have hx := B.exec
  have hb := B.bytes
  have hr := B.returns
  have hts := atoms_spec (ws := wsX11_hardOf) B.pre
  have hown : s.vm.findClass RX11 = some m.cls := findClass_of_methodNamed B.named
  have hlocks := B.notSynchronized
  subst hsz
  have hD := hD0.self (sz := s.heap.size)
  generalize hAe : va_A [(q0, .inl (G.2 0, 311, .inl (cI qF)))] s.heap.size = A at hD hZ ⊢
  have hA : ∀ q : Nat, s.heap.size ≤ q → A q := fun q h => by rw [← hAe]; exact Or.inr h
  have hS : va_S A s.heap s.heap [] := va_S.rf
  have hP : va_P G.1 vwCl [(q0, .inl (G.2 0, 311, .inl (cI qF)))] s.heap := hP
  have hl := lv_entry ([.ref q0, .int (iI p0)]) (n := 2) (Nat.le_of_ble_eq_true rfl)
  rw [lg_entry_eq]
  generalize (lg_sl ([.ref q0, .int (iI p0)]) ++ List.replicate (2 - (lg_sl ([.ref q0, .int (iI p0)])).length) Slot.unset).toArray = ls at hl ⊢
  have hl : lv_has ls 2 [(0, .ref q0), (1, .int (iI p0))] := hl
  refine lv_aload_n hx hb dX11_hardOf_0 rfl (lv_at hl 0 rfl) ?_
  refine lv_bipush (v := iI 34) hx hb dX11_hardOf_1 (by decide) ?_
  refine lv_iload_n hx hb dX11_hardOf_3 rfl (lv_at hl 1 rfl) ?_
  refine lv_iadd hx hb dX11_hardOf_4 ?_
  refine g_topi (y := iI (34 + p0)) (iI_add 34 p0) ?_
  refine g_ild hx hb hK hP 0 rfl (by omega) (by omega) (by first | exact Nat.le_of_ble_eq_true rfl | omega) dX11_hardOf_5 (fun w_1 ew_1 => ?_)
  have ew_1 : qF ((34 + p0).toNat) = w_1 := ew_1
  subst ew_1
  have bw_1 : 0 ≤ (qF ((34 + p0).toNat)) ∧ (qF ((34 + p0).toNat)) ≤ K0 := ⟨(y0_ _).1, Int.le_trans (y0_ _).2 (plA_le (by omega) _)⟩
  refine lv_aload_n hx hb dX11_hardOf_6 rfl (lv_at hl 0 rfl) ?_
  refine lv_bipush (v := iI 6) hx hb dX11_hardOf_7 (by decide) ?_
  refine lv_iload_n hx hb dX11_hardOf_9 rfl (lv_at hl 1 rfl) ?_
  refine lv_iadd hx hb dX11_hardOf_10 ?_
  refine g_topi (y := iI (6 + p0)) (iI_add 6 p0) ?_
  refine g_ild hx hb hK hP 0 rfl (by omega) (by omega) (by first | exact Nat.le_of_ble_eq_true rfl | omega) dX11_hardOf_11 (fun w_2 ew_2 => ?_)
  have ew_2 : qF ((6 + p0).toNat) = w_2 := ew_2
  subst ew_2
  have bw_2 : 0 ≤ (qF ((6 + p0).toNat)) ∧ (qF ((6 + p0).toNat)) ≤ 30 := ⟨(y0_ _).1, Int.le_trans (y0_ _).2 (plAu_T (by omega) (by omega))⟩
  refine lv_aload_n hx hb dX11_hardOf_12 rfl (lv_at hl 0 rfl) ?_
  refine lv_bipush (v := iI 13) hx hb dX11_hardOf_13 (by decide) ?_
  refine lv_iload_n hx hb dX11_hardOf_15 rfl (lv_at hl 1 rfl) ?_
  refine lv_iadd hx hb dX11_hardOf_16 ?_
  refine g_topi (y := iI (13 + p0)) (iI_add 13 p0) ?_
  refine g_ild hx hb hK hP 0 rfl (by omega) (by omega) (by first | exact Nat.le_of_ble_eq_true rfl | omega) dX11_hardOf_17 (fun w_3 ew_3 => ?_)
  have ew_3 : qF ((13 + p0).toNat) = w_3 := ew_3
  subst ew_3
  have bw_3 : 0 ≤ (qF ((13 + p0).toNat)) ∧ (qF ((13 + p0).toNat)) ≤ K0 := ⟨(y0_ _).1, Int.le_trans (y0_ _).2 (plA_le (by omega) _)⟩
  refine lv_aload_n hx hb dX11_hardOf_18 rfl (lv_at hl 0 rfl) ?_
  refine g_calli (wr := []) (va_runS (As := [.ref q0]) (rest := [.int (iI (qF ((13 + p0).toNat))), .int (iI (qF ((6 + p0).toNat))), .int (iI (qF ((34 + p0).toNat)))]) ⟨hx, hb, hml, hown, hts⟩ (c_X11_dampOf_311 l G (q0) (qF) (K0) (by first | exact y0_ | exact bpA_mono y0_ (by omega) | assumption) (by first | exact hK0 | assumption | omega) _) (va_cwS 1 hts gX11_hardOf_X11_dampOf rfl rfl rfl (by decide +kernel) ⟨Nat.le_of_ble_eq_true rfl, Nat.le_of_ble_eq_true rfl⟩) (g_preS [.ref q0] hP hD hK hN hS hA hZ [0] rfl rfl) rfl rfl hl.1 rfl (lv_room (Nat.le_of_ble_eq_true rfl)) dX11_hardOf_19 ⟨Nat.le_of_ble_eq_true rfl, Nat.le_of_ble_eq_true rfl⟩) hP hD hS hA [0] [] rfl rfl rfl (by decide) (fun r_4 u H locs hw hP hD hS => ?_)
  obtain ⟨rr_5, rfl, k_6, rfl, rfl⟩ := hw
  have hP : va_P G.1 vwCl [(q0, .inl (G.2 0, 311, .inl (cI qF)))] H := hP
  have hD : va_D A [(q0, .inl (G.2 0, 311, .inl (cI qF)))] := hD
  refine g_calli (wr := [(q0, .inl (G.2 0, 311, .inl (cI qF)))]) (va_runS (As := [.int (iI (qF ((34 + p0).toNat))), .int (iI (qF ((6 + p0).toNat))), .int (iI (qF ((13 + p0).toNat))), .int (iI (qF ((28 + (qF 27 % 6)).toNat)))]) (rest := []) ⟨hx, hb, hml, hown, hts⟩ (c_X11_hardAs l G ((qF ((34 + p0).toNat))) ((qF ((6 + p0).toNat))) ((qF ((13 + p0).toNat))) ((qF ((28 + (qF 27 % 6)).toNat))) (by first | assumption | omega) (by first | assumption | omega) (by first | assumption | omega) (by first | assumption | omega) _) (va_cwS 4 hts gX11_hardOf_X11_hardAs rfl rfl rfl (by decide +kernel) ⟨Nat.le_of_ble_eq_true rfl, Nat.le_of_ble_eq_true rfl⟩) (g_preS [.int (iI (qF ((34 + p0).toNat))), .int (iI (qF ((6 + p0).toNat))), .int (iI (qF ((13 + p0).toNat))), .int (iI (qF ((28 + (qF 27 % 6)).toNat)))] hP hD hK hN hS hA hZ [] rfl rfl) rfl rfl hl.1 rfl (lv_room (Nat.le_of_ble_eq_true rfl)) dX11_hardOf_22 ⟨Nat.le_of_ble_eq_true rfl, Nat.le_of_ble_eq_true rfl⟩) hP hD hS hA [] [0] rfl rfl rfl (by decide) (fun r_7 u H locs hw hP hD hS => ?_)
  obtain ⟨rr_8, rfl, k_9, rfl, rfl⟩ := hw
  have hP : va_P G.1 vwCl [(q0, .inl (G.2 0, 311, .inl (cI qF)))] H := hP
  have hD : va_D A [(q0, .inl (G.2 0, 311, .inl (cI qF)))] := hD
  exact g_iret (v := (iI (mHard (qF ((34 + p0).toNat)) (qF ((6 + p0).toNat)) (qF ((13 + p0).toNat)) (qF ((28 + (qF 27 % 6)).toNat))))) hx hb hr hlocks hP hD hS (⟨(mHard (qF ((34 + p0).toNat)) (qF ((6 + p0).toNat)) (qF ((13 + p0).toNat)) (qF ((28 + (qF 27 % 6)).toNat))), (by first | assumption | omega), (by first | exact k_9 | assumption | omega), rfl, rfl⟩) dX11_hardOf_25
theorem dX11_isOut_0 : decode cX11_isOut 0 = .ok (.aload_n 0, 1) := kd_42 (by decide +kernel)
theorem dX11_isOut_1 : decode cX11_isOut 1 = .ok (.bipush 20, 2) := kd_16 (a := 20) (by decide +kernel)
theorem dX11_isOut_3 : decode cX11_isOut 3 = .ok (.iload_n 1, 1) := kd_27 (by decide +kernel)
theorem dX11_isOut_4 : decode cX11_isOut 4 = .ok (.iadd, 1) := kd_96 (by decide +kernel)
theorem dX11_isOut_5 : decode cX11_isOut 5 = .ok (.iaload, 1) := kd_46 (by decide +kernel)
theorem dX11_isOut_6 : decode cX11_isOut 6 = .ok (.ifCond .eq 7, 3) := kd_153 (a := 0) (b := 7) (by decide +kernel)
theorem dX11_isOut_13 : decode cX11_isOut 13 = .ok (.iconst 0, 1) := kd_3 (by decide +kernel)
theorem dX11_isOut_14 : decode cX11_isOut 14 = .ok (.ireturn, 1) := kd_172 (by decide +kernel)
theorem dX11_isOut_9 : decode cX11_isOut 9 = .ok (.iconst 1, 1) := kd_4 (by decide +kernel)
theorem dX11_isOut_10 : decode cX11_isOut 10 = .ok (.goto 4, 3) := kd_167 (a := 0) (b := 4) (by decide +kernel)
set_option maxHeartbeats 8000000 in
set_option maxRecDepth 100000 in
theorem c_X11_isOut_311 (l : Launch) (G : gG) (q0 : Nat) (qF : Nat → Int) (K0 : Int) (p0 : Int) (y0_ : bp (plA K0) qF) (hK0 : 1000 ≤ K0 ∧ K0 ≤ 2000000) (hp : 0 ≤ p0 ∧ p0 ≤ 6) (sz : Nat) : gI G l yX11_isOut wsX11_isOut ({ frames := 0, cells := 0, slots := 0, locals := 0 } : Room) [.ref q0, .int (iI p0)] [(q0, .inl (G.2 0, 311, .inl (cI qF)))] sz (fun (r : Int32) (u : va_W) => (∃ rr : Int, ((rr = 0 ∧ qF ((20 + p0).toNat) = 0) ∨ (rr = 1 ∧ ¬ (qF ((20 + p0).toNat) = 0))) ∧ r = (iI rr) ∧ u = [(q0, .inl (G.2 0, 311, .inl (cI qF)))])) := by
  refine Met.ofW (cc := cX11_isOut) (maxL := 2) (ret := (some .boolean)) (by decide) rfl ?_
  intro p e s m args below meth c s₁ B hml hv
  obtain ⟨rfl, hsz, hP, hK, hD0, hN, hZ⟩ := hv
  have hx := B.exec
  have hb := B.bytes
  have hr := B.returns
  have hts := atoms_spec (ws := wsX11_isOut) B.pre
  have hown : s.vm.findClass RX11 = some m.cls := findClass_of_methodNamed B.named
  have hlocks := B.notSynchronized
  subst hsz
  have hD := hD0.self (sz := s.heap.size)
  generalize hAe : va_A [(q0, .inl (G.2 0, 311, .inl (cI qF)))] s.heap.size = A at hD hZ ⊢
  have hA : ∀ q : Nat, s.heap.size ≤ q → A q := fun q h => by rw [← hAe]; exact Or.inr h
  have hS : va_S A s.heap s.heap [] := va_S.rf
  have hP : va_P G.1 vwCl [(q0, .inl (G.2 0, 311, .inl (cI qF)))] s.heap := hP
  have hl := lv_entry ([.ref q0, .int (iI p0)]) (n := 2) (Nat.le_of_ble_eq_true rfl)
  rw [lg_entry_eq]
  generalize (lg_sl ([.ref q0, .int (iI p0)]) ++ List.replicate (2 - (lg_sl ([.ref q0, .int (iI p0)])).length) Slot.unset).toArray = ls at hl ⊢
  have hl : lv_has ls 2 [(0, .ref q0), (1, .int (iI p0))] := hl
  refine lv_aload_n hx hb dX11_isOut_0 rfl (lv_at hl 0 rfl) ?_
  refine lv_bipush (v := iI 20) hx hb dX11_isOut_1 (by decide) ?_
  refine lv_iload_n hx hb dX11_isOut_3 rfl (lv_at hl 1 rfl) ?_
  refine lv_iadd hx hb dX11_isOut_4 ?_
  refine g_topi (y := iI (20 + p0)) (iI_add 20 p0) ?_
  refine g_ild hx hb hK hP 0 rfl (by omega) (by omega) (by first | exact Nat.le_of_ble_eq_true rfl | omega) dX11_isOut_5 (fun w_1 ew_1 => ?_)
  have ew_1 : qF ((20 + p0).toNat) = w_1 := ew_1
  subst ew_1
  have bw_1 : 0 ≤ (qF ((20 + p0).toNat)) ∧ (qF ((20 + p0).toNat)) ≤ K0 := ⟨(y0_ _).1, Int.le_trans (y0_ _).2 (plA_le (by omega) _)⟩
  refine lv_if_eq (tgt := 13) hx hb dX11_isOut_6 (by decide) (fun c_2 => ?_) (fun c_2 => ?_)
  · have c_2 := (iI_eq (a := (qF ((20 + p0).toNat))) (b := 0) (by omega) (by first | decide | omega)).mp c_2
    refine lv_iconst (v := iI 0) hx hb dX11_isOut_13 rfl ?_
    exact g_zret (v := (iI 0)) hx hb hr hlocks rfl hP hD hS (⟨0, (by first | assumption | omega), rfl, rfl⟩) dX11_isOut_14
  · have c_2 : ¬ ((qF ((20 + p0).toNat)) = 0) := fun h9 => c_2 ((iI_eq (a := (qF ((20 + p0).toNat))) (b := 0) (by omega) (by first | decide | omega)).mpr h9)
    refine lv_iconst (v := iI 1) hx hb dX11_isOut_9 rfl ?_
    refine lv_goto (tgt := 14) hx hb dX11_isOut_10 (by decide) ?_
    exact g_zret (v := (iI 1)) hx hb hr hlocks rfl hP hD hS (⟨1, (by first | assumption | omega), rfl, rfl⟩) dX11_isOut_14
theorem dX11_takesOff_0 : decode cX11_takesOff 0 = .ok (.aload_n 0, 1) := kd_42 (by decide +kernel)
theorem dX11_takesOff_1 : decode cX11_takesOff 1 = .ok (.bipush 48, 2) := kd_16 (a := 48) (by decide +kernel)
theorem dX11_takesOff_3 : decode cX11_takesOff 3 = .ok (.iload_n 1, 1) := kd_27 (by decide +kernel)
theorem dX11_takesOff_4 : decode cX11_takesOff 4 = .ok (.iadd, 1) := kd_96 (by decide +kernel)
theorem dX11_takesOff_5 : decode cX11_takesOff 5 = .ok (.iaload, 1) := kd_46 (by decide +kernel)
theorem dX11_takesOff_6 : decode cX11_takesOff 6 = .ok (.aload_n 0, 1) := kd_42 (by decide +kernel)
theorem dX11_takesOff_7 : decode cX11_takesOff 7 = .ok (.bipush 52, 2) := kd_16 (a := 52) (by decide +kernel)
theorem dX11_takesOff_9 : decode cX11_takesOff 9 = .ok (.iload_n 1, 1) := kd_27 (by decide +kernel)
theorem dX11_takesOff_10 : decode cX11_takesOff 10 = .ok (.iadd, 1) := kd_96 (by decide +kernel)
theorem dX11_takesOff_11 : decode cX11_takesOff 11 = .ok (.iaload, 1) := kd_46 (by decide +kernel)
theorem dX11_takesOff_12 : decode cX11_takesOff 12 = .ok (.aload_n 0, 1) := kd_42 (by decide +kernel)
theorem dX11_takesOff_13 : decode cX11_takesOff 13 = .ok (.iload_n 2, 1) := kd_28 (by decide +kernel)
theorem gX11_takesOff_X11_hardOf : GoodIn wsX11_takesOff (va_wsS RX11 112 yX11_hardOf wsX11_hardOf) := gW_S (in_r21 (List.mem_of_getElem? (i := 23) rfl)) (in_r22 (List.mem_of_getElem? (i := 0) rfl)) (in_r1 (List.mem_of_getElem? (i := 5) rfl)) (in_r22 (List.mem_of_getElem? (i := 1) rfl))
theorem dX11_takesOff_14 : decode cX11_takesOff 14 = .ok (.invokestatic 112, 3) := kd_184 (a := 0) (b := 112) (by decide +kernel)
theorem gX11_takesOff_X11_takesAs : GoodIn wsX11_takesOff (va_wsS RX11 116 yX11_takesAs wsX11_takesAs) := gW_S (in_r22 (List.mem_of_getElem? (i := 8) rfl)) (in_r22 (List.mem_of_getElem? (i := 9) rfl)) (in_r1 (List.mem_of_getElem? (i := 5) rfl)) (in_r22 (List.mem_of_getElem? (i := 10) rfl))
theorem dX11_takesOff_17 : decode cX11_takesOff 17 = .ok (.invokestatic 116, 3) := kd_184 (a := 0) (b := 116) (by decide +kernel)
theorem dX11_takesOff_20 : decode cX11_takesOff 20 = .ok (.istore_n 3, 1) := kd_62 (by decide +kernel)
theorem dX11_takesOff_21 : decode cX11_takesOff 21 = .ok (.aload_n 0, 1) := kd_42 (by decide +kernel)
theorem dX11_takesOff_22 : decode cX11_takesOff 22 = .ok (.iload_n 2, 1) := kd_28 (by decide +kernel)
theorem gX11_takesOff_X11_isOut : GoodIn wsX11_takesOff (va_wsS RX11 120 yX11_isOut wsX11_isOut) := gW_S (in_r21 (List.mem_of_getElem? (i := 14) rfl)) (in_r21 (List.mem_of_getElem? (i := 15) rfl)) (in_r1 (List.mem_of_getElem? (i := 5) rfl)) (in_r21 (List.mem_of_getElem? (i := 16) rfl))
theorem dX11_takesOff_23 : decode cX11_takesOff 23 = .ok (.invokestatic 120, 3) := kd_184 (a := 0) (b := 120) (by decide +kernel)
theorem dX11_takesOff_26 : decode cX11_takesOff 26 = .ok (.ifCond .eq 7, 3) := kd_153 (a := 0) (b := 7) (by decide +kernel)
theorem dX11_takesOff_33 : decode cX11_takesOff 33 = .ok (.iload_n 3, 1) := kd_29 (by decide +kernel)
theorem dX11_takesOff_34 : decode cX11_takesOff 34 = .ok (.aload_n 0, 1) := kd_42 (by decide +kernel)
theorem dX11_takesOff_35 : decode cX11_takesOff 35 = .ok (.bipush 6, 2) := kd_16 (a := 6) (by decide +kernel)
theorem dX11_takesOff_37 : decode cX11_takesOff 37 = .ok (.iload_n 2, 1) := kd_28 (by decide +kernel)
theorem dX11_takesOff_38 : decode cX11_takesOff 38 = .ok (.iadd, 1) := kd_96 (by decide +kernel)
theorem dX11_takesOff_39 : decode cX11_takesOff 39 = .ok (.iaload, 1) := kd_46 (by decide +kernel)
theorem dX11_takesOff_40 : decode cX11_takesOff 40 = .ok (.if_icmp .ge 7, 3) := kd_162 (a := 0) (b := 7) (by decide +kernel)
theorem dX11_takesOff_47 : decode cX11_takesOff 47 = .ok (.aload_n 0, 1) := kd_42 (by decide +kernel)
theorem dX11_takesOff_48 : decode cX11_takesOff 48 = .ok (.bipush 6, 2) := kd_16 (a := 6) (by decide +kernel)
theorem dX11_takesOff_50 : decode cX11_takesOff 50 = .ok (.iload_n 2, 1) := kd_28 (by decide +kernel)
theorem dX11_takesOff_51 : decode cX11_takesOff 51 = .ok (.iadd, 1) := kd_96 (by decide +kernel)
theorem dX11_takesOff_52 : decode cX11_takesOff 52 = .ok (.iaload, 1) := kd_46 (by decide +kernel)
theorem dX11_takesOff_53 : decode cX11_takesOff 53 = .ok (.ireturn, 1) := kd_172 (by decide +kernel)
theorem dX11_takesOff_43 : decode cX11_takesOff 43 = .ok (.iload_n 3, 1) := kd_29 (by decide +kernel)
theorem dX11_takesOff_44 : decode cX11_takesOff 44 = .ok (.goto 9, 3) := kd_167 (a := 0) (b := 9) (by decide +kernel)
theorem dX11_takesOff_29 : decode cX11_takesOff 29 = .ok (.iconst 0, 1) := kd_3 (by decide +kernel)
theorem dX11_takesOff_30 : decode cX11_takesOff 30 = .ok (.goto 23, 3) := kd_167 (a := 0) (b := 23) (by decide +kernel)
set_option maxHeartbeats 8000000 in
set_option maxRecDepth 100000 in
theorem c_X11_takesOff_311 (l : Launch) (G : gG) (q0 : Nat) (qF : Nat → Int) (K0 : Int) (bb0 : Int) (p0 : Int) (y0_ : bp (plA K0) qF) (hK0 : 1000 ≤ K0 ∧ K0 ≤ 2000000) (hp : 0 ≤ p0 ∧ p0 ≤ 6) (hb0 : 0 ≤ bb0 ∧ bb0 ≤ 3) (sz : Nat) : gI G l yX11_takesOff wsX11_takesOff ({ frames := 2, cells := 0, slots := 0, locals := 48 } : Room) [.ref q0, .int (iI bb0), .int (iI p0)] [(q0, .inl (G.2 0, 311, .inl (cI qF)))] sz (fun (r : Int32) (u : va_W) => (∃ rr : Int, (0 ≤ rr ∧ rr ≤ 30) ∧ (rr ≤ qF (6 + p0).toNat) ∧ r = (iI rr) ∧ u = [(q0, .inl (G.2 0, 311, .inl (cI qF)))])) := by
  refine Met.ofW (cc := cX11_takesOff) (maxL := 4) (ret := (some .int)) (by decide) rfl ?_
  intro p e s m args below meth c s₁ B hml hv
  obtain ⟨rfl, hsz, hP, hK, hD0, hN, hZ⟩ := hv
  have hx := B.exec
  have hb := B.bytes
  have hr := B.returns
  have hts := atoms_spec (ws := wsX11_takesOff) B.pre
  have hown : s.vm.findClass RX11 = some m.cls := findClass_of_methodNamed B.named
  have hlocks := B.notSynchronized
  subst hsz
  have hD := hD0.self (sz := s.heap.size)
  generalize hAe : va_A [(q0, .inl (G.2 0, 311, .inl (cI qF)))] s.heap.size = A at hD hZ ⊢
  have hA : ∀ q : Nat, s.heap.size ≤ q → A q := fun q h => by rw [← hAe]; exact Or.inr h
  have hS : va_S A s.heap s.heap [] := va_S.rf
  have hP : va_P G.1 vwCl [(q0, .inl (G.2 0, 311, .inl (cI qF)))] s.heap := hP
  have hl := lv_entry ([.ref q0, .int (iI bb0), .int (iI p0)]) (n := 4) (Nat.le_of_ble_eq_true rfl)
  rw [lg_entry_eq]
  generalize (lg_sl ([.ref q0, .int (iI bb0), .int (iI p0)]) ++ List.replicate (4 - (lg_sl ([.ref q0, .int (iI bb0), .int (iI p0)])).length) Slot.unset).toArray = ls at hl ⊢
  have hl : lv_has ls 4 [(0, .ref q0), (1, .int (iI bb0)), (2, .int (iI p0))] := hl
  refine lv_aload_n hx hb dX11_takesOff_0 rfl (lv_at hl 0 rfl) ?_
  refine lv_bipush (v := iI 48) hx hb dX11_takesOff_1 (by decide) ?_
  refine lv_iload_n hx hb dX11_takesOff_3 rfl (lv_at hl 1 rfl) ?_
  refine lv_iadd hx hb dX11_takesOff_4 ?_
  refine g_topi (y := iI (48 + bb0)) (iI_add 48 bb0) ?_
  refine g_ild hx hb hK hP 0 rfl (by omega) (by omega) (by first | exact Nat.le_of_ble_eq_true rfl | omega) dX11_takesOff_5 (fun w_1 ew_1 => ?_)
  have bw_1 : 0 ≤ w_1 ∧ w_1 ≤ K0 := by rw [← ew_1]; exact ⟨(y0_ _).1, Int.le_trans (y0_ _).2 (plA_le (by omega) _)⟩
  refine lv_aload_n hx hb dX11_takesOff_6 rfl (lv_at hl 0 rfl) ?_
  refine lv_bipush (v := iI 52) hx hb dX11_takesOff_7 (by decide) ?_
  refine lv_iload_n hx hb dX11_takesOff_9 rfl (lv_at hl 1 rfl) ?_
  refine lv_iadd hx hb dX11_takesOff_10 ?_
  refine g_topi (y := iI (52 + bb0)) (iI_add 52 bb0) ?_
  refine g_ild hx hb hK hP 0 rfl (by omega) (by omega) (by first | exact Nat.le_of_ble_eq_true rfl | omega) dX11_takesOff_11 (fun w_2 ew_2 => ?_)
  have bw_2 : 0 ≤ w_2 ∧ w_2 ≤ K0 := by rw [← ew_2]; exact ⟨(y0_ _).1, Int.le_trans (y0_ _).2 (plA_le (by omega) _)⟩
  refine lv_aload_n hx hb dX11_takesOff_12 rfl (lv_at hl 0 rfl) ?_
  refine lv_iload_n hx hb dX11_takesOff_13 rfl (lv_at hl 2 rfl) ?_
  refine g_calli (wr := []) (va_runS (As := [.ref q0, .int (iI p0)]) (rest := [.int (iI w_2), .int (iI w_1)]) ⟨hx, hb, hml, hown, hts⟩ (c_X11_hardOf_311 l G (q0) (qF) (K0) (p0) (by first | exact y0_ | exact bpA_mono y0_ (by omega) | assumption) (by first | exact hK0 | assumption | omega) (by first | exact hp | assumption | omega) _) (va_cwS 2 hts gX11_takesOff_X11_hardOf rfl rfl rfl (by decide +kernel) ⟨Nat.le_of_ble_eq_true rfl, Nat.le_of_ble_eq_true rfl⟩) (g_preS [.ref q0, .int (iI p0)] hP hD hK hN hS hA hZ [0] rfl rfl) rfl rfl hl.1 rfl (lv_room (Nat.le_of_ble_eq_true rfl)) dX11_takesOff_14 ⟨Nat.le_of_ble_eq_true rfl, Nat.le_of_ble_eq_true rfl⟩) hP hD hS hA [0] [] rfl rfl rfl (by decide) (fun r_3 u H locs hw hP hD hS => ?_)
  refine ea_1_4 hw (fun rr_4 k_5 k_6 e8_0 e8_1 => ?_)
  subst e8_0
  subst e8_1
  clear hw
  have hP : va_P G.1 vwCl [(q0, .inl (G.2 0, 311, .inl (cI qF)))] H := hP
  have hD : va_D A [(q0, .inl (G.2 0, 311, .inl (cI qF)))] := hD
  refine g_calli (wr := [(q0, .inl (G.2 0, 311, .inl (cI qF)))]) (va_runS (As := [.int (iI w_1), .int (iI w_2), .int (iI rr_4)]) (rest := []) ⟨hx, hb, hml, hown, hts⟩ (c_X11_takesAs l G (w_1) (w_2) (rr_4) (by first | assumption | omega) (by first | assumption | omega) (by first | assumption | omega) _) (va_cwS 3 hts gX11_takesOff_X11_takesAs rfl rfl rfl (by decide +kernel) ⟨Nat.le_of_ble_eq_true rfl, Nat.le_of_ble_eq_true rfl⟩) (g_preS [.int (iI w_1), .int (iI w_2), .int (iI rr_4)] hP hD hK hN hS hA hZ [] rfl rfl) rfl rfl hl.1 rfl (lv_room (Nat.le_of_ble_eq_true rfl)) dX11_takesOff_17 ⟨Nat.le_of_ble_eq_true rfl, Nat.le_of_ble_eq_true rfl⟩) hP hD hS hA [] [0] rfl rfl rfl (by decide) (fun r_7 u H locs hw hP hD hS => ?_)
  refine ea_1_4 hw (fun rr_8 k_9 k_10 e8_0 e8_1 => ?_)
  subst e8_0
  subst e8_1
  clear hw
  have hP : va_P G.1 vwCl [(q0, .inl (G.2 0, 311, .inl (cI qF)))] H := hP
  have hD : va_D A [(q0, .inl (G.2 0, 311, .inl (cI qF)))] := hD
  refine lv_istore_n (lv' := [(3, .int (iI rr_8)), (0, .ref q0), (1, .int (iI bb0)), (2, .int (iI p0))]) hx hb dX11_takesOff_20 rfl hl (by decide) rfl (fun ls hl => ?_)
  refine lv_aload_n hx hb dX11_takesOff_21 rfl (lv_at hl 1 rfl) ?_
  refine lv_iload_n hx hb dX11_takesOff_22 rfl (lv_at hl 3 rfl) ?_
  refine g_calli (wr := []) (va_runS (As := [.ref q0, .int (iI p0)]) (rest := []) ⟨hx, hb, hml, hown, hts⟩ (c_X11_isOut_311 l G (q0) (qF) (K0) (p0) (by first | exact y0_ | exact bpA_mono y0_ (by omega) | assumption) (by first | exact hK0 | assumption | omega) (by first | exact hp | assumption | omega) _) (va_cwS 2 hts gX11_takesOff_X11_isOut rfl rfl rfl (by decide +kernel) ⟨Nat.le_of_ble_eq_true rfl, Nat.le_of_ble_eq_true rfl⟩) (g_preS [.ref q0, .int (iI p0)] hP hD hK hN hS hA hZ [0] rfl rfl) rfl rfl hl.1 rfl (lv_room (Nat.le_of_ble_eq_true rfl)) dX11_takesOff_23 ⟨Nat.le_of_ble_eq_true rfl, Nat.le_of_ble_eq_true rfl⟩) hP hD hS hA [0] [] rfl rfl rfl (by decide) (fun r_11 u H locs hw hP hD hS => ?_)
  refine ea_1_3 hw (fun rr_12 k_13 e8_0 e8_1 => ?_)
  subst e8_0
  subst e8_1
  clear hw
  have hP : va_P G.1 vwCl [(q0, .inl (G.2 0, 311, .inl (cI qF)))] H := hP
  have hD : va_D A [(q0, .inl (G.2 0, 311, .inl (cI qF)))] := hD
  refine lv_if_eq (tgt := 33) hx hb dX11_takesOff_26 (by decide) (fun c_14 => ?_) (fun c_14 => ?_)
  · have c_14 := (iI_eq (a := rr_12) (b := 0) (by omega) (by first | decide | omega)).mp c_14
    refine lv_iload_n hx hb dX11_takesOff_33 rfl (lv_at hl 0 rfl) ?_
    refine lv_aload_n hx hb dX11_takesOff_34 rfl (lv_at hl 1 rfl) ?_
    refine lv_bipush (v := iI 6) hx hb dX11_takesOff_35 (by decide) ?_
    refine lv_iload_n hx hb dX11_takesOff_37 rfl (lv_at hl 3 rfl) ?_
    refine lv_iadd hx hb dX11_takesOff_38 ?_
    refine g_topi (y := iI (6 + p0)) (iI_add 6 p0) ?_
    refine g_ild hx hb hK hP 0 rfl (by omega) (by omega) (by first | exact Nat.le_of_ble_eq_true rfl | omega) dX11_takesOff_39 (fun w_15 ew_15 => ?_)
    have bw_15 : 0 ≤ w_15 ∧ w_15 ≤ 30 := by rw [← ew_15]; exact ⟨(y0_ _).1, Int.le_trans (y0_ _).2 (plAu_T (by omega) (by omega))⟩
    refine lv_icmp_ge (tgt := 47) hx hb dX11_takesOff_40 (by decide) (fun c_16 => ?_) (fun c_16 => ?_)
    · have c_16 := (iI_le (a := w_15) (b := rr_8) (by omega) (by omega)).mp c_16
      refine lv_aload_n hx hb dX11_takesOff_47 rfl (lv_at hl 1 rfl) ?_
      refine lv_bipush (v := iI 6) hx hb dX11_takesOff_48 (by decide) ?_
      refine lv_iload_n hx hb dX11_takesOff_50 rfl (lv_at hl 3 rfl) ?_
      refine lv_iadd hx hb dX11_takesOff_51 ?_
      refine g_topi (y := iI (6 + p0)) (iI_add 6 p0) ?_
      refine g_ild hx hb hK hP 0 rfl (by omega) (by omega) (by first | exact Nat.le_of_ble_eq_true rfl | omega) dX11_takesOff_52 (fun w_17 ew_17 => ?_)
      have bw_17 : 0 ≤ w_17 ∧ w_17 ≤ 30 := by rw [← ew_17]; exact ⟨(y0_ _).1, Int.le_trans (y0_ _).2 (plAu_T (by omega) (by omega))⟩
      exact g_iret (v := (iI w_17)) hx hb hr hlocks hP hD hS (⟨w_17, (by first | assumption | omega), (by first | omega | (have q9 := y0_ (6 + p0).toNat; omega)), rfl, rfl⟩) dX11_takesOff_53
    · have c_16 : ¬ (w_15 ≤ rr_8) := fun h9 => c_16 ((iI_le (a := w_15) (b := rr_8) (by omega) (by omega)).mpr h9)
      refine lv_iload_n hx hb dX11_takesOff_43 rfl (lv_at hl 0 rfl) ?_
      refine lv_goto (tgt := 53) hx hb dX11_takesOff_44 (by decide) ?_
      exact g_iret (v := (iI rr_8)) hx hb hr hlocks hP hD hS (⟨rr_8, (by first | assumption | omega), (by first | omega | (have q9 := y0_ (6 + p0).toNat; omega)), rfl, rfl⟩) dX11_takesOff_53
  · have c_14 : ¬ (rr_12 = 0) := fun h9 => c_14 ((iI_eq (a := rr_12) (b := 0) (by omega) (by first | decide | omega)).mpr h9)
    refine lv_iconst (v := iI 0) hx hb dX11_takesOff_29 rfl ?_
    refine lv_goto (tgt := 53) hx hb dX11_takesOff_30 (by decide) ?_
    exact g_iret (v := (iI 0)) hx hb hr hlocks hP hD hS (⟨0, (by first | assumption | omega), (by first | omega | (have q9 := y0_ (6 + p0).toNat; omega)), rfl, rfl⟩) dX11_takesOff_53
theorem dX11_goBite_0 : decode cX11_goBite 0 = .ok (.aload_n 0, 1) := kd_42 (by decide +kernel)
theorem dX11_goBite_1 : decode cX11_goBite 1 = .ok (.bipush 6, 2) := kd_16 (a := 6) (by decide +kernel)
theorem dX11_goBite_3 : decode cX11_goBite 3 = .ok (.iload_n 2, 1) := kd_28 (by decide +kernel)
theorem dX11_goBite_4 : decode cX11_goBite 4 = .ok (.iadd, 1) := kd_96 (by decide +kernel)
theorem dX11_goBite_5 : decode cX11_goBite 5 = .ok (.dup2, 1) := kd_92 (by decide +kernel)
theorem dX11_goBite_6 : decode cX11_goBite 6 = .ok (.iaload, 1) := kd_46 (by decide +kernel)
theorem dX11_goBite_7 : decode cX11_goBite 7 = .ok (.aload_n 0, 1) := kd_42 (by decide +kernel)
theorem dX11_goBite_8 : decode cX11_goBite 8 = .ok (.iload_n 1, 1) := kd_27 (by decide +kernel)
theorem dX11_goBite_9 : decode cX11_goBite 9 = .ok (.iload_n 2, 1) := kd_28 (by decide +kernel)
theorem gX11_goBite_X11_takesOff : GoodIn wsX11_goBite (va_wsS RX11 124 yX11_takesOff wsX11_takesOff) := gW_S (in_r21 (List.mem_of_getElem? (i := 20) rfl)) (in_r21 (List.mem_of_getElem? (i := 21) rfl)) (in_r1 (List.mem_of_getElem? (i := 5) rfl)) (in_r21 (List.mem_of_getElem? (i := 22) rfl))
theorem dX11_goBite_10 : decode cX11_goBite 10 = .ok (.invokestatic 124, 3) := kd_184 (a := 0) (b := 124) (by decide +kernel)
theorem dX11_goBite_13 : decode cX11_goBite 13 = .ok (.isub, 1) := kd_100 (by decide +kernel)
theorem dX11_goBite_14 : decode cX11_goBite 14 = .ok (.iastore, 1) := kd_79 (by decide +kernel)
theorem dX11_goBite_15 : decode cX11_goBite 15 = .ok (.aload_n 0, 1) := kd_42 (by decide +kernel)
theorem dX11_goBite_16 : decode cX11_goBite 16 = .ok (.bipush 6, 2) := kd_16 (a := 6) (by decide +kernel)
theorem dX11_goBite_18 : decode cX11_goBite 18 = .ok (.iload_n 2, 1) := kd_28 (by decide +kernel)
theorem dX11_goBite_19 : decode cX11_goBite 19 = .ok (.iadd, 1) := kd_96 (by decide +kernel)
theorem dX11_goBite_20 : decode cX11_goBite 20 = .ok (.iaload, 1) := kd_46 (by decide +kernel)
theorem dX11_goBite_21 : decode cX11_goBite 21 = .ok (.ifCond .ne 37, 3) := kd_154 (a := 0) (b := 37) (by decide +kernel)
theorem dX11_goBite_58 : decode cX11_goBite 58 = .ok (.return_, 1) := kd_177 (by decide +kernel)
theorem dX11_goBite_24 : decode cX11_goBite 24 = .ok (.aload_n 0, 1) := kd_42 (by decide +kernel)
theorem dX11_goBite_25 : decode cX11_goBite 25 = .ok (.iload_n 2, 1) := kd_28 (by decide +kernel)
theorem gX11_goBite_X11_isOut : GoodIn wsX11_goBite (va_wsS RX11 120 yX11_isOut wsX11_isOut) := gW_S (in_r21 (List.mem_of_getElem? (i := 14) rfl)) (in_r21 (List.mem_of_getElem? (i := 15) rfl)) (in_r1 (List.mem_of_getElem? (i := 5) rfl)) (in_r21 (List.mem_of_getElem? (i := 16) rfl))
theorem dX11_goBite_26 : decode cX11_goBite 26 = .ok (.invokestatic 120, 3) := kd_184 (a := 0) (b := 120) (by decide +kernel)
theorem dX11_goBite_29 : decode cX11_goBite 29 = .ok (.ifCond .ne 29, 3) := kd_154 (a := 0) (b := 29) (by decide +kernel)
theorem dX11_goBite_32 : decode cX11_goBite 32 = .ok (.aload_n 0, 1) := kd_42 (by decide +kernel)
theorem dX11_goBite_33 : decode cX11_goBite 33 = .ok (.bipush 20, 2) := kd_16 (a := 20) (by decide +kernel)
theorem dX11_goBite_35 : decode cX11_goBite 35 = .ok (.iload_n 2, 1) := kd_28 (by decide +kernel)
theorem dX11_goBite_36 : decode cX11_goBite 36 = .ok (.iadd, 1) := kd_96 (by decide +kernel)
theorem dX11_goBite_37 : decode cX11_goBite 37 = .ok (.aload_n 0, 1) := kd_42 (by decide +kernel)
theorem dX11_goBite_38 : decode cX11_goBite 38 = .ok (.bipush 13, 2) := kd_16 (a := 13) (by decide +kernel)
theorem dX11_goBite_40 : decode cX11_goBite 40 = .ok (.iload_n 2, 1) := kd_28 (by decide +kernel)
theorem dX11_goBite_41 : decode cX11_goBite 41 = .ok (.iadd, 1) := kd_96 (by decide +kernel)
theorem dX11_goBite_42 : decode cX11_goBite 42 = .ok (.iaload, 1) := kd_46 (by decide +kernel)
theorem dX11_goBite_43 : decode cX11_goBite 43 = .ok (.aload_n 0, 1) := kd_42 (by decide +kernel)
theorem dX11_goBite_44 : decode cX11_goBite 44 = .ok (.bipush 41, 2) := kd_16 (a := 41) (by decide +kernel)
theorem dX11_goBite_46 : decode cX11_goBite 46 = .ok (.iload_n 2, 1) := kd_28 (by decide +kernel)
theorem dX11_goBite_47 : decode cX11_goBite 47 = .ok (.iadd, 1) := kd_96 (by decide +kernel)
theorem dX11_goBite_48 : decode cX11_goBite 48 = .ok (.iaload, 1) := kd_46 (by decide +kernel)
theorem dX11_goBite_49 : decode cX11_goBite 49 = .ok (.if_icmp .lt 7, 3) := kd_161 (a := 0) (b := 7) (by decide +kernel)
theorem dX11_goBite_56 : decode cX11_goBite 56 = .ok (.iconst 2, 1) := kd_5 (by decide +kernel)
theorem dX11_goBite_52 : decode cX11_goBite 52 = .ok (.iconst 1, 1) := kd_4 (by decide +kernel)
theorem dX11_goBite_53 : decode cX11_goBite 53 = .ok (.goto 4, 3) := kd_167 (a := 0) (b := 4) (by decide +kernel)
theorem dX11_goBite_57 : decode cX11_goBite 57 = .ok (.iastore, 1) := kd_79 (by decide +kernel)
set_option maxHeartbeats 8000000 in
set_option maxRecDepth 100000 in
theorem c_X11_goBite_311 (l : Launch) (G : gG) (q0 : Nat) (qF : Nat → Int) (K0 : Int) (bb0 : Int) (p0 : Int) (y0_ : bp (plA K0) qF) (hK0 : 1000 ≤ K0 ∧ K0 ≤ 2000000) (hp : 0 ≤ p0 ∧ p0 ≤ 6) (hb0 : 0 ≤ bb0 ∧ bb0 ≤ 3) (sz : Nat) : gV G l yX11_goBite wsX11_goBite ({ frames := 3, cells := 0, slots := 0, locals := 71 } : Room) [.ref q0, .int (iI bb0), .int (iI p0)] [(q0, .inl (G.2 0, 311, .inl (cI qF)))] sz (fun (u : va_W) => (∃ Nq : Nat → Int, (bp (plA K0) Nq) ∧ (kW qF Nq) ∧ u = [(q0, .inl (G.2 0, 311, .inl (cI Nq)))])) := by
  refine Met.ofW (cc := cX11_goBite) (maxL := 3) (ret := none) (by decide) rfl ?_
  intro p e s m args below meth c s₁ B hml hv
  obtain ⟨rfl, hsz, hP, hK, hD0, hN, hZ⟩ := hv
  have hx := B.exec
  have hb := B.bytes
  have hr := B.returns
  have hts := atoms_spec (ws := wsX11_goBite) B.pre
  have hown : s.vm.findClass RX11 = some m.cls := findClass_of_methodNamed B.named
  have hlocks := B.notSynchronized
  subst hsz
  have hD := hD0.self (sz := s.heap.size)
  generalize hAe : va_A [(q0, .inl (G.2 0, 311, .inl (cI qF)))] s.heap.size = A at hD hZ ⊢
  have hA : ∀ q : Nat, s.heap.size ≤ q → A q := fun q h => by rw [← hAe]; exact Or.inr h
  have hS : va_S A s.heap s.heap [] := va_S.rf
  have hP : va_P G.1 vwCl [(q0, .inl (G.2 0, 311, .inl (cI qF)))] s.heap := hP
  have hl := lv_entry ([.ref q0, .int (iI bb0), .int (iI p0)]) (n := 3) (Nat.le_of_ble_eq_true rfl)
  rw [lg_entry_eq]
  generalize (lg_sl ([.ref q0, .int (iI bb0), .int (iI p0)]) ++ List.replicate (3 - (lg_sl ([.ref q0, .int (iI bb0), .int (iI p0)])).length) Slot.unset).toArray = ls at hl ⊢
  have hl : lv_has ls 3 [(0, .ref q0), (1, .int (iI bb0)), (2, .int (iI p0))] := hl
  refine lv_aload_n hx hb dX11_goBite_0 rfl (lv_at hl 0 rfl) ?_
  refine lv_bipush (v := iI 6) hx hb dX11_goBite_1 (by decide) ?_
  refine lv_iload_n hx hb dX11_goBite_3 rfl (lv_at hl 2 rfl) ?_
  refine lv_iadd hx hb dX11_goBite_4 ?_
  refine g_topi (y := iI (6 + p0)) (iI_add 6 p0) ?_
  refine lv_dup2_11 hx hb dX11_goBite_5 rfl rfl ?_
  refine g_ild hx hb hK hP 0 rfl (by omega) (by omega) (by first | exact Nat.le_of_ble_eq_true rfl | omega) dX11_goBite_6 (fun w_1 ew_1 => ?_)
  have bw_1 : 0 ≤ w_1 ∧ w_1 ≤ 30 := by rw [← ew_1]; exact ⟨(y0_ _).1, Int.le_trans (y0_ _).2 (plAu_T (by omega) (by omega))⟩
  refine lv_aload_n hx hb dX11_goBite_7 rfl (lv_at hl 0 rfl) ?_
  refine lv_iload_n hx hb dX11_goBite_8 rfl (lv_at hl 1 rfl) ?_
  refine lv_iload_n hx hb dX11_goBite_9 rfl (lv_at hl 2 rfl) ?_
  refine g_calli (wr := []) (va_runS (As := [.ref q0, .int (iI bb0), .int (iI p0)]) (rest := [.int (iI w_1), .int (iI (6 + p0)), .ref q0]) ⟨hx, hb, hml, hown, hts⟩ (c_X11_takesOff_311 l G (q0) (qF) (K0) (bb0) (p0) (by first | exact y0_ | exact bpA_mono y0_ (by omega) | assumption) (by first | exact hK0 | assumption | omega) (by first | exact hp | assumption | omega) (by first | exact hb0 | assumption | omega) _) (va_cwS 3 hts gX11_goBite_X11_takesOff rfl rfl rfl (by decide +kernel) ⟨Nat.le_of_ble_eq_true rfl, Nat.le_of_ble_eq_true rfl⟩) (g_preS [.ref q0, .int (iI bb0), .int (iI p0)] hP hD hK hN hS hA hZ [0] rfl rfl) rfl rfl hl.1 rfl (lv_room (Nat.le_of_ble_eq_true rfl)) dX11_goBite_10 ⟨Nat.le_of_ble_eq_true rfl, Nat.le_of_ble_eq_true rfl⟩) hP hD hS hA [0] [] rfl rfl rfl (by decide) (fun r_2 u H locs hw hP hD hS => ?_)
  refine ea_1_4 hw (fun rr_3 k_4 k_5 e8_0 e8_1 => ?_)
  subst e8_0
  subst e8_1
  clear hw
  have hP : va_P G.1 vwCl [(q0, .inl (G.2 0, 311, .inl (cI qF)))] H := hP
  have hD : va_D A [(q0, .inl (G.2 0, 311, .inl (cI qF)))] := hD
  refine lv_isub hx hb dX11_goBite_13 ?_
  refine g_topi (y := iI (w_1 - rr_3)) (iI_sub w_1 rr_3) ?_
  refine g_ist hx hb hK hP hD hS 0 rfl (by omega) (by omega) (by first | exact Nat.le_of_ble_eq_true rfl | omega) dX11_goBite_14 (fun H locs hP hD hS => ?_)
  have hk_7 := bp_u (h := plA K0) (k := ((6 + p0).toNat)) (v := (w_1 - rr_3)) y0_ (by omega) (Int.le_trans (show (w_1 - rr_3) ≤ 30 by omega) (plAl_T (by omega) (by omega)))
  have hk_8 := kW_u (k := ((6 + p0).toNat)) (v := (w_1 - rr_3)) (kW_r qF) (by omega)
  have hPD : PD G A H [(q0, .inl (G.2 0, 311, .inl (cI (uI qF ((6 + p0).toNat) (w_1 - rr_3)))))] := ⟨hP, hD⟩
  have hP := hPD.1
  have hD := hPD.2
  clear hPD
  generalize hF_6 : (uI qF ((6 + p0).toNat) (w_1 - rr_3)) = F_6 at hP hD hk_7 hk_8
  refine lv_aload_n hx hb dX11_goBite_15 rfl (lv_at hl 0 rfl) ?_
  refine lv_bipush (v := iI 6) hx hb dX11_goBite_16 (by decide) ?_
  refine lv_iload_n hx hb dX11_goBite_18 rfl (lv_at hl 2 rfl) ?_
  refine lv_iadd hx hb dX11_goBite_19 ?_
  refine g_topi (y := iI (6 + p0)) (iI_add 6 p0) ?_
  refine g_ild hx hb hK hP 0 rfl (by omega) (by omega) (by first | exact Nat.le_of_ble_eq_true rfl | omega) dX11_goBite_20 (fun w_9 ew_9 => ?_)
  have bw_9 : 0 ≤ w_9 ∧ w_9 ≤ 30 := by rw [← ew_9]; exact ⟨(hk_7 _).1, Int.le_trans (hk_7 _).2 (plAu_T (by omega) (by omega))⟩
  refine lv_if_ne (tgt := 58) hx hb dX11_goBite_21 (by decide) (fun c_10 => ?_) (fun c_10 => ?_)
  · have c_10 : ¬ (w_9 = 0) := fun h9 => c_10 ((iI_eq (a := w_9) (b := 0) (by omega) (by first | decide | omega)).mpr h9)
    exact g_vret hx hb hr hlocks hP hD hS (⟨F_6, (by first | exact hk_7 | exact bpA_mono hk_7 (by omega) | assumption), (by first | assumption | exact kW_r _ | exact kW_t (by assumption) (by assumption)), rfl⟩) dX11_goBite_58
  · have c_10 := (iI_eq (a := w_9) (b := 0) (by omega) (by first | decide | omega)).mp c_10
    refine lv_aload_n hx hb dX11_goBite_24 rfl (lv_at hl 0 rfl) ?_
    refine lv_iload_n hx hb dX11_goBite_25 rfl (lv_at hl 2 rfl) ?_
    refine g_calli (wr := []) (va_runS (As := [.ref q0, .int (iI p0)]) (rest := []) ⟨hx, hb, hml, hown, hts⟩ (c_X11_isOut_311 l G (q0) (F_6) (K0) (p0) (by first | exact hk_7 | exact bpA_mono hk_7 (by omega) | assumption) (by first | exact hK0 | assumption | omega) (by first | exact hp | assumption | omega) _) (va_cwS 2 hts gX11_goBite_X11_isOut rfl rfl rfl (by decide +kernel) ⟨Nat.le_of_ble_eq_true rfl, Nat.le_of_ble_eq_true rfl⟩) (g_preS [.ref q0, .int (iI p0)] hP hD hK hN hS hA hZ [0] rfl rfl) rfl rfl hl.1 rfl (lv_room (Nat.le_of_ble_eq_true rfl)) dX11_goBite_26 ⟨Nat.le_of_ble_eq_true rfl, Nat.le_of_ble_eq_true rfl⟩) hP hD hS hA [0] [] rfl rfl rfl (by decide) (fun r_11 u H locs hw hP hD hS => ?_)
    refine ea_1_3 hw (fun rr_12 k_13 e8_0 e8_1 => ?_)
    subst e8_0
    subst e8_1
    clear hw
    have hP : va_P G.1 vwCl [(q0, .inl (G.2 0, 311, .inl (cI F_6)))] H := hP
    have hD : va_D A [(q0, .inl (G.2 0, 311, .inl (cI F_6)))] := hD
    refine lv_if_ne (tgt := 58) hx hb dX11_goBite_29 (by decide) (fun c_14 => ?_) (fun c_14 => ?_)
    · have c_14 : ¬ (rr_12 = 0) := fun h9 => c_14 ((iI_eq (a := rr_12) (b := 0) (by omega) (by first | decide | omega)).mpr h9)
      exact g_vret hx hb hr hlocks hP hD hS (⟨F_6, (by first | exact hk_7 | exact bpA_mono hk_7 (by omega) | assumption), (by first | assumption | exact kW_r _ | exact kW_t (by assumption) (by assumption)), rfl⟩) dX11_goBite_58
    · have c_14 := (iI_eq (a := rr_12) (b := 0) (by omega) (by first | decide | omega)).mp c_14
      refine lv_aload_n hx hb dX11_goBite_32 rfl (lv_at hl 0 rfl) ?_
      refine lv_bipush (v := iI 20) hx hb dX11_goBite_33 (by decide) ?_
      refine lv_iload_n hx hb dX11_goBite_35 rfl (lv_at hl 2 rfl) ?_
      refine lv_iadd hx hb dX11_goBite_36 ?_
      refine g_topi (y := iI (20 + p0)) (iI_add 20 p0) ?_
      refine lv_aload_n hx hb dX11_goBite_37 rfl (lv_at hl 0 rfl) ?_
      refine lv_bipush (v := iI 13) hx hb dX11_goBite_38 (by decide) ?_
      refine lv_iload_n hx hb dX11_goBite_40 rfl (lv_at hl 2 rfl) ?_
      refine lv_iadd hx hb dX11_goBite_41 ?_
      refine g_topi (y := iI (13 + p0)) (iI_add 13 p0) ?_
      refine g_ild hx hb hK hP 0 rfl (by omega) (by omega) (by first | exact Nat.le_of_ble_eq_true rfl | omega) dX11_goBite_42 (fun w_15 ew_15 => ?_)
      have bw_15 : 0 ≤ w_15 ∧ w_15 ≤ K0 := by rw [← ew_15]; exact ⟨(hk_7 _).1, Int.le_trans (hk_7 _).2 (plA_le (by omega) _)⟩
      refine lv_aload_n hx hb dX11_goBite_43 rfl (lv_at hl 0 rfl) ?_
      refine lv_bipush (v := iI 41) hx hb dX11_goBite_44 (by decide) ?_
      refine lv_iload_n hx hb dX11_goBite_46 rfl (lv_at hl 2 rfl) ?_
      refine lv_iadd hx hb dX11_goBite_47 ?_
      refine g_topi (y := iI (41 + p0)) (iI_add 41 p0) ?_
      refine g_ild hx hb hK hP 0 rfl (by omega) (by omega) (by first | exact Nat.le_of_ble_eq_true rfl | omega) dX11_goBite_48 (fun w_16 ew_16 => ?_)
      have bw_16 : 0 ≤ w_16 ∧ w_16 ≤ K0 := by rw [← ew_16]; exact ⟨(hk_7 _).1, Int.le_trans (hk_7 _).2 (plA_le (by omega) _)⟩
      refine g_join (jn := 57) (rest := [.int (iI (20 + p0)), .ref q0]) (fun t_17 ls => ((w_15 < w_16 ∧ t_17 = 2) ∨ (¬ (w_15 < w_16) ∧ t_17 = 1)) ∧ lv_has ls 3 [(0, .ref q0), (1, .int (iI bb0)), (2, .int (iI p0))]) (fun t_17 ls hI => ?_) (fun hJ_18 => ?_)
      · obtain ⟨f_19, hl⟩ := hI
        refine g_ist hx hb hK hP hD hS 0 rfl (by omega) (by omega) (by first | exact Nat.le_of_ble_eq_true rfl | omega) dX11_goBite_57 (fun H locs hP hD hS => ?_)
        have hk_21 := bp_u (h := plA K0) (k := ((20 + p0).toNat)) (v := t_17) hk_7 (by omega) (Int.le_trans (show t_17 ≤ K0 by omega) (plAl_K (by omega) (by omega)))
        have hk_22 := kW_u (k := ((20 + p0).toNat)) (v := t_17) hk_8 (by omega)
        have hPD : PD G A H [(q0, .inl (G.2 0, 311, .inl (cI (uI F_6 ((20 + p0).toNat) t_17))))] := ⟨hP, hD⟩
        have hP := hPD.1
        have hD := hPD.2
        clear hPD
        generalize hF_20 : (uI F_6 ((20 + p0).toNat) t_17) = F_20 at hP hD hk_21 hk_22
        exact g_vret hx hb hr hlocks hP hD hS (⟨F_20, (by first | exact hk_21 | exact bpA_mono hk_21 (by omega) | assumption), (by first | assumption | exact kW_r _ | exact kW_t (by assumption) (by assumption)), rfl⟩) dX11_goBite_58
      · refine lv_icmp_lt (tgt := 56) hx hb dX11_goBite_49 (by decide) (fun c_23 => ?_) (fun c_23 => ?_)
        · have c_23 := (iI_lt (a := w_15) (b := w_16) (by omega) (by omega)).mp c_23
          refine lv_iconst (v := iI 2) hx hb dX11_goBite_56 rfl ?_
          exact hJ_18 2 ls ⟨by omega, lv_sub hl [0, 1, 2] rfl⟩
        · have c_23 : ¬ (w_15 < w_16) := fun h9 => c_23 ((iI_lt (a := w_15) (b := w_16) (by omega) (by omega)).mpr h9)
          refine lv_iconst (v := iI 1) hx hb dX11_goBite_52 rfl ?_
          refine lv_goto (tgt := 57) hx hb dX11_goBite_53 (by decide) ?_
          exact hJ_18 1 ls ⟨by omega, lv_sub hl [0, 1, 2] rfl⟩
theorem dX11_goDay_0 : decode cX11_goDay 0 = .ok (.iconst 0, 1) := kd_3 (by decide +kernel)
theorem dX11_goDay_1 : decode cX11_goDay 1 = .ok (.istore_n 1, 1) := kd_60 (by decide +kernel)
theorem dX11_goDay_2 : decode cX11_goDay 2 = .ok (.iload_n 1, 1) := kd_27 (by decide +kernel)
theorem dX11_goDay_3 : decode cX11_goDay 3 = .ok (.aload_n 0, 1) := kd_42 (by decide +kernel)
theorem dX11_goDay_4 : decode cX11_goDay 4 = .ok (.iconst 0, 1) := kd_3 (by decide +kernel)
theorem dX11_goDay_5 : decode cX11_goDay 5 = .ok (.iaload, 1) := kd_46 (by decide +kernel)
theorem dX11_goDay_6 : decode cX11_goDay 6 = .ok (.if_icmp .ge 31, 3) := kd_162 (a := 0) (b := 31) (by decide +kernel)
theorem dX11_goDay_37 : decode cX11_goDay 37 = .ok (.aload_n 0, 1) := kd_42 (by decide +kernel)
theorem dX11_goDay_38 : decode cX11_goDay 38 = .ok (.bipush 27, 2) := kd_16 (a := 27) (by decide +kernel)
theorem dX11_goDay_40 : decode cX11_goDay 40 = .ok (.dup2, 1) := kd_92 (by decide +kernel)
theorem dX11_goDay_41 : decode cX11_goDay 41 = .ok (.iaload, 1) := kd_46 (by decide +kernel)
theorem dX11_goDay_42 : decode cX11_goDay 42 = .ok (.iconst 1, 1) := kd_4 (by decide +kernel)
theorem dX11_goDay_43 : decode cX11_goDay 43 = .ok (.iadd, 1) := kd_96 (by decide +kernel)
theorem dX11_goDay_44 : decode cX11_goDay 44 = .ok (.iastore, 1) := kd_79 (by decide +kernel)
theorem dX11_goDay_45 : decode cX11_goDay 45 = .ok (.return_, 1) := kd_177 (by decide +kernel)
theorem dX11_goDay_9 : decode cX11_goDay 9 = .ok (.aload_n 0, 1) := kd_42 (by decide +kernel)
theorem dX11_goDay_10 : decode cX11_goDay 10 = .ok (.bipush 13, 2) := kd_16 (a := 13) (by decide +kernel)
theorem dX11_goDay_12 : decode cX11_goDay 12 = .ok (.iload_n 1, 1) := kd_27 (by decide +kernel)
theorem dX11_goDay_13 : decode cX11_goDay 13 = .ok (.iadd, 1) := kd_96 (by decide +kernel)
theorem dX11_goDay_14 : decode cX11_goDay 14 = .ok (.dup2, 1) := kd_92 (by decide +kernel)
theorem dX11_goDay_15 : decode cX11_goDay 15 = .ok (.iaload, 1) := kd_46 (by decide +kernel)
theorem dX11_goDay_16 : decode cX11_goDay 16 = .ok (.aload_n 0, 1) := kd_42 (by decide +kernel)
theorem dX11_goDay_17 : decode cX11_goDay 17 = .ok (.iload_n 1, 1) := kd_27 (by decide +kernel)
theorem gX11_goDay_X11_isOut : GoodIn wsX11_goDay (va_wsS RX11 120 yX11_isOut wsX11_isOut) := gW_S (in_r21 (List.mem_of_getElem? (i := 14) rfl)) (in_r21 (List.mem_of_getElem? (i := 15) rfl)) (in_r1 (List.mem_of_getElem? (i := 5) rfl)) (in_r21 (List.mem_of_getElem? (i := 16) rfl))
theorem dX11_goDay_18 : decode cX11_goDay 18 = .ok (.invokestatic 120, 3) := kd_184 (a := 0) (b := 120) (by decide +kernel)
theorem dX11_goDay_21 : decode cX11_goDay 21 = .ok (.ifCond .eq 7, 3) := kd_153 (a := 0) (b := 7) (by decide +kernel)
theorem dX11_goDay_28 : decode cX11_goDay 28 = .ok (.iconst 1, 1) := kd_4 (by decide +kernel)
theorem dX11_goDay_24 : decode cX11_goDay 24 = .ok (.iconst 0, 1) := kd_3 (by decide +kernel)
theorem dX11_goDay_25 : decode cX11_goDay 25 = .ok (.goto 4, 3) := kd_167 (a := 0) (b := 4) (by decide +kernel)
theorem dX11_goDay_29 : decode cX11_goDay 29 = .ok (.iadd, 1) := kd_96 (by decide +kernel)
theorem dX11_goDay_30 : decode cX11_goDay 30 = .ok (.iastore, 1) := kd_79 (by decide +kernel)
theorem dX11_goDay_31 : decode cX11_goDay 31 = .ok (.iinc 1 1, 3) := kd_132 (a := 1) (b := 1) (by decide +kernel)
theorem dX11_goDay_34 : decode cX11_goDay 34 = .ok (.goto (-32), 3) := kd_167 (a := 255) (b := 224) (by decide +kernel)
set_option maxHeartbeats 8000000 in
set_option maxRecDepth 100000 in
theorem c_X11_goDay_311 (l : Launch) (G : gG) (q0 : Nat) (qF : Nat → Int) (K0 : Int) (y0_ : bp (plA K0) qF) (hK0 : 1000 ≤ K0 ∧ K0 ≤ 1990000) (sz : Nat) : gV G l yX11_goDay wsX11_goDay ({ frames := 1, cells := 0, slots := 0, locals := 21 } : Room) [.ref q0] [(q0, .inl (G.2 0, 311, .inl (cI qF)))] sz (fun (u : va_W) => (∃ Nq : Nat → Int, (bp (plA (K0 + 1)) Nq) ∧ (kW qF Nq) ∧ u = [(q0, .inl (G.2 0, 311, .inl (cI Nq)))])) := by
  refine Met.ofW (cc := cX11_goDay) (maxL := 2) (ret := none) (by decide) rfl ?_
  intro p e s m args below meth c s₁ B hml hv
  obtain ⟨rfl, hsz, hP, hK, hD0, hN, hZ⟩ := hv
  have hx := B.exec
  have hb := B.bytes
  have hr := B.returns
  have hts := atoms_spec (ws := wsX11_goDay) B.pre
  have hown : s.vm.findClass RX11 = some m.cls := findClass_of_methodNamed B.named
  have hlocks := B.notSynchronized
  subst hsz
  have hD := hD0.self (sz := s.heap.size)
  generalize hAe : va_A [(q0, .inl (G.2 0, 311, .inl (cI qF)))] s.heap.size = A at hD hZ ⊢
  have hA : ∀ q : Nat, s.heap.size ≤ q → A q := fun q h => by rw [← hAe]; exact Or.inr h
  have hS : va_S A s.heap s.heap [] := va_S.rf
  have hP : va_P G.1 vwCl [(q0, .inl (G.2 0, 311, .inl (cI qF)))] s.heap := hP
  have hl := lv_entry ([.ref q0]) (n := 2) (Nat.le_of_ble_eq_true rfl)
  rw [lg_entry_eq]
  generalize (lg_sl ([.ref q0]) ++ List.replicate (2 - (lg_sl ([.ref q0])).length) Slot.unset).toArray = ls at hl ⊢
  have hl : lv_has ls 2 [(0, .ref q0)] := hl
  refine lv_iconst (v := iI 0) hx hb dX11_goDay_0 rfl ?_
  refine lv_istore_n (lv' := [(1, .int (iI 0)), (0, .ref q0)]) hx hb dX11_goDay_1 rfl hl (by decide) rfl (fun ls hl => ?_)
  refine g_loopN (pc := 2) (fun nn H locs ls => ∃ i0__1 : Int, ∃ E0_2 : Nat → Int, (0 ≤ i0__1 ∧ i0__1 ≤ 7) ∧ (bp (plA (K0 + 1)) E0_2) ∧ (tl (13 + i0__1) K0 E0_2) ∧ (kW qF E0_2) ∧ (7 - i0__1).toNat = nn ∧ va_P G.1 vwCl [(q0, .inl (G.2 0, 311, .inl (cI E0_2)))] H ∧ va_D A [(q0, .inl (G.2 0, 311, .inl (cI E0_2)))] ∧ va_S A s.heap H locs ∧ lv_has ls 2 [(1, .int (iI i0__1)), (0, .ref q0)]) ?_ ⟨0, qF, (by first | assumption | omega), (by first | exact y0_ | exact bpA_mono y0_ (by omega) | assumption), (by first | assumption | exact tl_0 (by assumption) | exact tl_s (by assumption) | exact tl_bp (by omega) (by assumption) | exact tl_cast (by assumption) (by omega)), (by first | assumption | exact kW_r _ | exact kW_t (by assumption) (by assumption)), rfl, hP, hD, hS, lv_sub hl [0, 1] rfl⟩
  intro nn_8 H locs ls ih_7 hI
  refine ea_2_9 hI (fun i0__1 E0_2 f_3 f_4 f_5 f_6 hnn_9 hP hD hS hl => ?_)
  clear hI
  refine lv_iload_n hx hb dX11_goDay_2 rfl (lv_at hl 0 rfl) ?_
  refine lv_aload_n hx hb dX11_goDay_3 rfl (lv_at hl 1 rfl) ?_
  refine lv_iconst (v := iI 0) hx hb dX11_goDay_4 rfl ?_
  refine g_ild hx hb hK hP 0 rfl (by omega) (by omega) (by first | exact Nat.le_of_ble_eq_true rfl | omega) dX11_goDay_5 (fun w_10 ew_10 => ?_)
  have ew_10 : E0_2 0 = w_10 := ew_10
  have bw_10 : 0 ≤ w_10 ∧ w_10 ≤ 7 := by rw [← ew_10]; exact f_4 0
  refine lv_icmp_ge (tgt := 37) hx hb dX11_goDay_6 (by decide) (fun c_11 => ?_) (fun c_11 => ?_)
  · have c_11 := (iI_le (a := w_10) (b := i0__1) (by omega) (by omega)).mp c_11
    refine lv_aload_n hx hb dX11_goDay_37 rfl (lv_at hl 1 rfl) ?_
    refine lv_bipush (v := iI 27) hx hb dX11_goDay_38 (by decide) ?_
    refine lv_dup2_11 hx hb dX11_goDay_40 rfl rfl ?_
    refine g_ild hx hb hK hP 0 rfl (by omega) (by omega) (by first | exact Nat.le_of_ble_eq_true rfl | omega) dX11_goDay_41 (fun w_12 ew_12 => ?_)
    have ew_12 : E0_2 27 = w_12 := ew_12
    have bw_12 : 0 ≤ w_12 ∧ w_12 ≤ (K0 + 1) := by rw [← ew_12]; exact f_4 27
    have tw_12 : w_12 ≤ K0 := by rw [← ew_12]; exact tl_at f_5 (k := 27) (by omega) (by omega)
    refine lv_iconst (v := iI 1) hx hb dX11_goDay_42 rfl ?_
    refine lv_iadd hx hb dX11_goDay_43 ?_
    refine g_topi (y := iI (w_12 + 1)) (iI_add w_12 1) ?_
    refine g_ist hx hb hK hP hD hS 0 rfl (by omega) (by omega) (by first | exact Nat.le_of_ble_eq_true rfl | omega) dX11_goDay_44 (fun H locs hP hD hS => ?_)
    have hk_14 := bp_u (h := plA (K0 + 1)) (k := 27) (v := (w_12 + 1)) f_4 (by omega) (show (w_12 + 1) ≤ (K0 + 1) by omega)
    have hk_15 := tl_u (k := 27) (v := (w_12 + 1)) f_5 (by omega) (by omega)
    have hk_16 := kW_u (k := 27) (v := (w_12 + 1)) f_6 (by omega)
    have hP : va_P G.1 vwCl [(q0, .inl (G.2 0, 311, .inl (cI (uI E0_2 27 (w_12 + 1)))))] H := hP
    have hD : va_D A [(q0, .inl (G.2 0, 311, .inl (cI (uI E0_2 27 (w_12 + 1)))))] := hD
    generalize hF_13 : (uI E0_2 27 (w_12 + 1)) = F_13 at hP hD hk_14 hk_15 hk_16
    exact g_vret hx hb hr hlocks hP hD hS (⟨F_13, (by first | exact hk_14 | exact bpA_mono hk_14 (by omega) | assumption), (by first | assumption | exact kW_r _ | exact kW_t (by assumption) (by assumption)), rfl⟩) dX11_goDay_45
  · have c_11 : ¬ (w_10 ≤ i0__1) := fun h9 => c_11 ((iI_le (a := w_10) (b := i0__1) (by omega) (by omega)).mpr h9)
    refine lv_aload_n hx hb dX11_goDay_9 rfl (lv_at hl 1 rfl) ?_
    refine lv_bipush (v := iI 13) hx hb dX11_goDay_10 (by decide) ?_
    refine lv_iload_n hx hb dX11_goDay_12 rfl (lv_at hl 0 rfl) ?_
    refine lv_iadd hx hb dX11_goDay_13 ?_
    refine g_topi (y := iI (13 + i0__1)) (iI_add 13 i0__1) ?_
    refine lv_dup2_11 hx hb dX11_goDay_14 rfl rfl ?_
    refine g_ild hx hb hK hP 0 rfl (by omega) (by omega) (by first | exact Nat.le_of_ble_eq_true rfl | omega) dX11_goDay_15 (fun w_17 ew_17 => ?_)
    have bw_17 : 0 ≤ w_17 ∧ w_17 ≤ (K0 + 1) := by rw [← ew_17]; exact ⟨(f_4 _).1, Int.le_trans (f_4 _).2 (plA_le (by omega) _)⟩
    have tw_17 := tl_at f_5 (k := (13 + i0__1)) (by omega) (by omega)
    rw [ew_17] at tw_17
    refine lv_aload_n hx hb dX11_goDay_16 rfl (lv_at hl 1 rfl) ?_
    refine lv_iload_n hx hb dX11_goDay_17 rfl (lv_at hl 0 rfl) ?_
    refine g_calli (wr := []) (va_runS (As := [.ref q0, .int (iI i0__1)]) (rest := [.int (iI w_17), .int (iI (13 + i0__1)), .ref q0]) ⟨hx, hb, hml, hown, hts⟩ (c_X11_isOut_311 l G (q0) (E0_2) ((K0 + 1)) (i0__1) (by first | exact f_4 | exact bpA_mono f_4 (by omega) | assumption) (by first | assumption | omega) (by first | assumption | omega) _) (va_cwS 2 hts gX11_goDay_X11_isOut rfl rfl rfl (by decide +kernel) ⟨Nat.le_of_ble_eq_true rfl, Nat.le_of_ble_eq_true rfl⟩) (g_preS [.ref q0, .int (iI i0__1)] hP hD hK hN hS hA hZ [0] rfl rfl) rfl rfl hl.1 rfl (lv_room (Nat.le_of_ble_eq_true rfl)) dX11_goDay_18 ⟨Nat.le_of_ble_eq_true rfl, Nat.le_of_ble_eq_true rfl⟩) hP hD hS hA [0] [] rfl rfl rfl (by decide) (fun r_18 u H locs hw hP hD hS => ?_)
    refine ea_1_3 hw (fun rr_19 k_20 e8_0 e8_1 => ?_)
    subst e8_0
    subst e8_1
    clear hw
    have hP : va_P G.1 vwCl [(q0, .inl (G.2 0, 311, .inl (cI E0_2)))] H := hP
    have hD : va_D A [(q0, .inl (G.2 0, 311, .inl (cI E0_2)))] := hD
    refine g_join (jn := 29) (rest := [.int (iI w_17), .int (iI (13 + i0__1)), .ref q0]) (fun t_21 ls => ((rr_19 = 0 ∧ t_21 = 1) ∨ (¬ (rr_19 = 0) ∧ t_21 = 0)) ∧ lv_has ls 2 [(1, .int (iI i0__1)), (0, .ref q0)]) (fun t_21 ls hI => ?_) (fun hJ_22 => ?_)
    · obtain ⟨f_23, hl⟩ := hI
      refine lv_iadd hx hb dX11_goDay_29 ?_
      refine g_topi (y := iI (w_17 + t_21)) (iI_add w_17 t_21) ?_
      refine g_ist hx hb hK hP hD hS 0 rfl (by omega) (by omega) (by first | exact Nat.le_of_ble_eq_true rfl | omega) dX11_goDay_30 (fun H locs hP hD hS => ?_)
      have hk_25 := bp_u (h := plA (K0 + 1)) (k := ((13 + i0__1).toNat)) (v := (w_17 + t_21)) f_4 (by omega) (Int.le_trans (show (w_17 + t_21) ≤ (K0 + 1) by omega) (plAl_K (by omega) (by omega)))
      have hk_26 := tl_u (k := (13 + i0__1)) (v := (w_17 + t_21)) f_5 (by omega) (by omega)
      have hk_27 := kW_u (k := ((13 + i0__1).toNat)) (v := (w_17 + t_21)) f_6 (by omega)
      have hPD : PD G A H [(q0, .inl (G.2 0, 311, .inl (cI (uI E0_2 ((13 + i0__1).toNat) (w_17 + t_21)))))] := ⟨hP, hD⟩
      have hP := hPD.1
      have hD := hPD.2
      clear hPD
      generalize hF_24 : (uI E0_2 ((13 + i0__1).toNat) (w_17 + t_21)) = F_24 at hP hD hk_25 hk_26 hk_27
      refine lv_iinc (v := iI (i0__1 + 1)) (lv' := [(1, .int (iI (i0__1 + 1))), (0, .ref q0)]) hx hb dX11_goDay_31 hl (k := 0) rfl (iI_add i0__1 1) (by decide) rfl (fun ls hl => ?_)
      refine lv_goto (tgt := 2) hx hb dX11_goDay_34 (by decide) ?_
      exact ih_7 _ _ _ _ (by omega) ⟨(i0__1 + 1), F_24, (by first | assumption | omega), (by first | exact hk_25 | exact bpA_mono hk_25 (by omega) | assumption), (by first | assumption | exact tl_0 (by assumption) | exact tl_s (by assumption) | exact tl_bp (by omega) (by assumption) | exact tl_cast (by assumption) (by omega)), (by first | assumption | exact kW_r _ | exact kW_t (by assumption) (by assumption)), rfl, hP, hD, hS, lv_sub hl [0, 1] rfl⟩
    · refine lv_if_eq (tgt := 28) hx hb dX11_goDay_21 (by decide) (fun c_28 => ?_) (fun c_28 => ?_)
      · have c_28 := (iI_eq (a := rr_19) (b := 0) (by omega) (by first | decide | omega)).mp c_28
        refine lv_iconst (v := iI 1) hx hb dX11_goDay_28 rfl ?_
        exact hJ_22 1 ls ⟨by omega, lv_sub hl [0, 1] rfl⟩
      · have c_28 : ¬ (rr_19 = 0) := fun h9 => c_28 ((iI_eq (a := rr_19) (b := 0) (by omega) (by first | decide | omega)).mpr h9)
        refine lv_iconst (v := iI 0) hx hb dX11_goDay_24 rfl ?_
        refine lv_goto (tgt := 29) hx hb dX11_goDay_25 (by decide) ?_
        exact hJ_22 0 ls ⟨by omega, lv_sub hl [0, 1] rfl⟩
set_option maxHeartbeats 8000000 in
set_option maxRecDepth 100000 in
theorem c_X11_dampOf_56 (l : Launch) (G : gG) (q0 : Nat) (qF : Nat → Int) (K0 : Int) (y0_ : bp (plA K0) qF) (hK0 : 1000 ≤ K0 ∧ K0 ≤ 2000000) (sz : Nat) : gI G l yX11_dampOf wsX11_dampOf ({ frames := 0, cells := 0, slots := 0, locals := 0 } : Room) [.ref q0] [(q0, .inl (G.2 0, 56, .inl (cI qF)))] sz (fun (r : Int32) (u : va_W) => (∃ rr : Int, (rr = qF ((28 + (qF 27 % 6)).toNat)) ∧ (0 ≤ rr ∧ rr ≤ K0) ∧ r = (iI rr) ∧ u = [(q0, .inl (G.2 0, 56, .inl (cI qF)))])) := by
  refine Met.ofW (cc := cX11_dampOf) (maxL := 1) (ret := (some .int)) (by decide) rfl ?_
  intro p e s m args below meth c s₁ B hml hv
  obtain ⟨rfl, hsz, hP, hK, hD0, hN, hZ⟩ := hv
  have hx := B.exec
  have hb := B.bytes
  have hr := B.returns
  have hts := atoms_spec (ws := wsX11_dampOf) B.pre
  have hown : s.vm.findClass RX11 = some m.cls := findClass_of_methodNamed B.named
  have hlocks := B.notSynchronized
  subst hsz
  have hD := hD0.self (sz := s.heap.size)
  generalize hAe : va_A [(q0, .inl (G.2 0, 56, .inl (cI qF)))] s.heap.size = A at hD hZ ⊢
  have hA : ∀ q : Nat, s.heap.size ≤ q → A q := fun q h => by rw [← hAe]; exact Or.inr h
  have hS : va_S A s.heap s.heap [] := va_S.rf
  have hP : va_P G.1 vwCl [(q0, .inl (G.2 0, 56, .inl (cI qF)))] s.heap := hP
  have hl := lv_entry ([.ref q0]) (n := 1) (Nat.le_of_ble_eq_true rfl)
  rw [lg_entry_eq]
  generalize (lg_sl ([.ref q0]) ++ List.replicate (1 - (lg_sl ([.ref q0])).length) Slot.unset).toArray = ls at hl ⊢
  have hl : lv_has ls 1 [(0, .ref q0)] := hl
  refine lv_aload_n hx hb dX11_dampOf_0 rfl (lv_at hl 0 rfl) ?_
  refine lv_bipush (v := iI 28) hx hb dX11_dampOf_1 (by decide) ?_
  refine lv_aload_n hx hb dX11_dampOf_3 rfl (lv_at hl 0 rfl) ?_
  refine lv_bipush (v := iI 27) hx hb dX11_dampOf_4 (by decide) ?_
  refine g_ild hx hb hK hP 0 rfl (by omega) (by omega) (by first | exact Nat.le_of_ble_eq_true rfl | omega) dX11_dampOf_6 (fun w_1 ew_1 => ?_)
  have ew_1 : qF 27 = w_1 := ew_1
  subst ew_1
  have bw_1 : 0 ≤ (qF 27) ∧ (qF 27) ≤ K0 := y0_ 27
  refine lv_bipush (v := iI 6) hx hb dX11_dampOf_7 (by decide) ?_
  refine lv_irem hx hb dX11_dampOf_9 (iI_ne0 (by omega) (by omega)) ?_
  refine g_topi (y := iI ((qF 27) % 6)) (iI_rem2 (by omega) (by omega) (by omega) (by omega)) ?_
  refine lv_iadd hx hb dX11_dampOf_10 ?_
  refine g_topi (y := iI (28 + ((qF 27) % 6))) (iI_add 28 ((qF 27) % 6)) ?_
  refine g_ild hx hb hK hP 0 rfl (by omega) (by omega) (by first | exact Nat.le_of_ble_eq_true rfl | omega) dX11_dampOf_11 (fun w_2 ew_2 => ?_)
  have ew_2 : qF ((28 + ((qF 27) % 6)).toNat) = w_2 := ew_2
  subst ew_2
  have bw_2 : 0 ≤ (qF ((28 + ((qF 27) % 6)).toNat)) ∧ (qF ((28 + ((qF 27) % 6)).toNat)) ≤ K0 := ⟨(y0_ _).1, Int.le_trans (y0_ _).2 (plA_le (by omega) _)⟩
  exact g_iret (v := (iI (qF ((28 + ((qF 27) % 6)).toNat)))) hx hb hr hlocks hP hD hS (⟨(qF ((28 + ((qF 27) % 6)).toNat)), (by first | assumption | omega), (by first | assumption | omega), rfl, rfl⟩) dX11_dampOf_12
set_option maxHeartbeats 8000000 in
set_option maxRecDepth 100000 in
theorem c_X11_hardOf_56 (l : Launch) (G : gG) (q0 : Nat) (qF : Nat → Int) (K0 : Int) (p0 : Int) (y0_ : bp (plA K0) qF) (hK0 : 1000 ≤ K0 ∧ K0 ≤ 2000000) (hp : 0 ≤ p0 ∧ p0 ≤ 6) (sz : Nat) : gI G l yX11_hardOf wsX11_hardOf ({ frames := 1, cells := 0, slots := 0, locals := 27 } : Room) [.ref q0, .int (iI p0)] [(q0, .inl (G.2 0, 56, .inl (cI qF)))] sz (fun (r : Int32) (u : va_W) => (∃ rr : Int, (rr = mHard (qF ((34 + p0).toNat)) (qF ((6 + p0).toNat)) (qF ((13 + p0).toNat)) (qF ((28 + (qF 27 % 6)).toNat))) ∧ (0 ≤ rr ∧ rr ≤ 20) ∧ r = (iI rr) ∧ u = [(q0, .inl (G.2 0, 56, .inl (cI qF)))])) := by
  refine Met.ofW (cc := cX11_hardOf) (maxL := 2) (ret := (some .int)) (by decide) rfl ?_
  intro p e s m args below meth c s₁ B hml hv
  obtain ⟨rfl, hsz, hP, hK, hD0, hN, hZ⟩ := hv
  have hx := B.exec
  have hb := B.bytes
  have hr := B.returns
  have hts := atoms_spec (ws := wsX11_hardOf) B.pre
  have hown : s.vm.findClass RX11 = some m.cls := findClass_of_methodNamed B.named
  have hlocks := B.notSynchronized
  subst hsz
  have hD := hD0.self (sz := s.heap.size)
  generalize hAe : va_A [(q0, .inl (G.2 0, 56, .inl (cI qF)))] s.heap.size = A at hD hZ ⊢
  have hA : ∀ q : Nat, s.heap.size ≤ q → A q := fun q h => by rw [← hAe]; exact Or.inr h
  have hS : va_S A s.heap s.heap [] := va_S.rf
  have hP : va_P G.1 vwCl [(q0, .inl (G.2 0, 56, .inl (cI qF)))] s.heap := hP
  have hl := lv_entry ([.ref q0, .int (iI p0)]) (n := 2) (Nat.le_of_ble_eq_true rfl)
  rw [lg_entry_eq]
  generalize (lg_sl ([.ref q0, .int (iI p0)]) ++ List.replicate (2 - (lg_sl ([.ref q0, .int (iI p0)])).length) Slot.unset).toArray = ls at hl ⊢
  have hl : lv_has ls 2 [(0, .ref q0), (1, .int (iI p0))] := hl
  refine lv_aload_n hx hb dX11_hardOf_0 rfl (lv_at hl 0 rfl) ?_
  refine lv_bipush (v := iI 34) hx hb dX11_hardOf_1 (by decide) ?_
  refine lv_iload_n hx hb dX11_hardOf_3 rfl (lv_at hl 1 rfl) ?_
  refine lv_iadd hx hb dX11_hardOf_4 ?_
  refine g_topi (y := iI (34 + p0)) (iI_add 34 p0) ?_
  refine g_ild hx hb hK hP 0 rfl (by omega) (by omega) (by first | exact Nat.le_of_ble_eq_true rfl | omega) dX11_hardOf_5 (fun w_1 ew_1 => ?_)
  have ew_1 : qF ((34 + p0).toNat) = w_1 := ew_1
  subst ew_1
  have bw_1 : 0 ≤ (qF ((34 + p0).toNat)) ∧ (qF ((34 + p0).toNat)) ≤ K0 := ⟨(y0_ _).1, Int.le_trans (y0_ _).2 (plA_le (by omega) _)⟩
  refine lv_aload_n hx hb dX11_hardOf_6 rfl (lv_at hl 0 rfl) ?_
  refine lv_bipush (v := iI 6) hx hb dX11_hardOf_7 (by decide) ?_
  refine lv_iload_n hx hb dX11_hardOf_9 rfl (lv_at hl 1 rfl) ?_
  refine lv_iadd hx hb dX11_hardOf_10 ?_
  refine g_topi (y := iI (6 + p0)) (iI_add 6 p0) ?_
  refine g_ild hx hb hK hP 0 rfl (by omega) (by omega) (by first | exact Nat.le_of_ble_eq_true rfl | omega) dX11_hardOf_11 (fun w_2 ew_2 => ?_)
  have ew_2 : qF ((6 + p0).toNat) = w_2 := ew_2
  subst ew_2
  have bw_2 : 0 ≤ (qF ((6 + p0).toNat)) ∧ (qF ((6 + p0).toNat)) ≤ 30 := ⟨(y0_ _).1, Int.le_trans (y0_ _).2 (plAu_T (by omega) (by omega))⟩
  refine lv_aload_n hx hb dX11_hardOf_12 rfl (lv_at hl 0 rfl) ?_
  refine lv_bipush (v := iI 13) hx hb dX11_hardOf_13 (by decide) ?_
  refine lv_iload_n hx hb dX11_hardOf_15 rfl (lv_at hl 1 rfl) ?_
  refine lv_iadd hx hb dX11_hardOf_16 ?_
  refine g_topi (y := iI (13 + p0)) (iI_add 13 p0) ?_
  refine g_ild hx hb hK hP 0 rfl (by omega) (by omega) (by first | exact Nat.le_of_ble_eq_true rfl | omega) dX11_hardOf_17 (fun w_3 ew_3 => ?_)
  have ew_3 : qF ((13 + p0).toNat) = w_3 := ew_3
  subst ew_3
  have bw_3 : 0 ≤ (qF ((13 + p0).toNat)) ∧ (qF ((13 + p0).toNat)) ≤ K0 := ⟨(y0_ _).1, Int.le_trans (y0_ _).2 (plA_le (by omega) _)⟩
  refine lv_aload_n hx hb dX11_hardOf_18 rfl (lv_at hl 0 rfl) ?_
  refine g_calli (wr := []) (va_runS (As := [.ref q0]) (rest := [.int (iI (qF ((13 + p0).toNat))), .int (iI (qF ((6 + p0).toNat))), .int (iI (qF ((34 + p0).toNat)))]) ⟨hx, hb, hml, hown, hts⟩ (c_X11_dampOf_56 l G (q0) (qF) (K0) (by first | exact y0_ | exact bpA_mono y0_ (by omega) | assumption) (by first | exact hK0 | assumption | omega) _) (va_cwS 1 hts gX11_hardOf_X11_dampOf rfl rfl rfl (by decide +kernel) ⟨Nat.le_of_ble_eq_true rfl, Nat.le_of_ble_eq_true rfl⟩) (g_preS [.ref q0] hP hD hK hN hS hA hZ [0] rfl rfl) rfl rfl hl.1 rfl (lv_room (Nat.le_of_ble_eq_true rfl)) dX11_hardOf_19 ⟨Nat.le_of_ble_eq_true rfl, Nat.le_of_ble_eq_true rfl⟩) hP hD hS hA [0] [] rfl rfl rfl (by decide) (fun r_4 u H locs hw hP hD hS => ?_)
  obtain ⟨rr_5, rfl, k_6, rfl, rfl⟩ := hw
  have hP : va_P G.1 vwCl [(q0, .inl (G.2 0, 56, .inl (cI qF)))] H := hP
  have hD : va_D A [(q0, .inl (G.2 0, 56, .inl (cI qF)))] := hD
  refine g_calli (wr := [(q0, .inl (G.2 0, 56, .inl (cI qF)))]) (va_runS (As := [.int (iI (qF ((34 + p0).toNat))), .int (iI (qF ((6 + p0).toNat))), .int (iI (qF ((13 + p0).toNat))), .int (iI (qF ((28 + (qF 27 % 6)).toNat)))]) (rest := []) ⟨hx, hb, hml, hown, hts⟩ (c_X11_hardAs l G ((qF ((34 + p0).toNat))) ((qF ((6 + p0).toNat))) ((qF ((13 + p0).toNat))) ((qF ((28 + (qF 27 % 6)).toNat))) (by first | assumption | omega) (by first | assumption | omega) (by first | assumption | omega) (by first | assumption | omega) _) (va_cwS 4 hts gX11_hardOf_X11_hardAs rfl rfl rfl (by decide +kernel) ⟨Nat.le_of_ble_eq_true rfl, Nat.le_of_ble_eq_true rfl⟩) (g_preS [.int (iI (qF ((34 + p0).toNat))), .int (iI (qF ((6 + p0).toNat))), .int (iI (qF ((13 + p0).toNat))), .int (iI (qF ((28 + (qF 27 % 6)).toNat)))] hP hD hK hN hS hA hZ [] rfl rfl) rfl rfl hl.1 rfl (lv_room (Nat.le_of_ble_eq_true rfl)) dX11_hardOf_22 ⟨Nat.le_of_ble_eq_true rfl, Nat.le_of_ble_eq_true rfl⟩) hP hD hS hA [] [0] rfl rfl rfl (by decide) (fun r_7 u H locs hw hP hD hS => ?_)
  obtain ⟨rr_8, rfl, k_9, rfl, rfl⟩ := hw
  have hP : va_P G.1 vwCl [(q0, .inl (G.2 0, 56, .inl (cI qF)))] H := hP
  have hD : va_D A [(q0, .inl (G.2 0, 56, .inl (cI qF)))] := hD
  exact g_iret (v := (iI (mHard (qF ((34 + p0).toNat)) (qF ((6 + p0).toNat)) (qF ((13 + p0).toNat)) (qF ((28 + (qF 27 % 6)).toNat))))) hx hb hr hlocks hP hD hS (⟨(mHard (qF ((34 + p0).toNat)) (qF ((6 + p0).toNat)) (qF ((13 + p0).toNat)) (qF ((28 + (qF 27 % 6)).toNat))), (by first | assumption | omega), (by first | exact k_9 | assumption | omega), rfl, rfl⟩) dX11_hardOf_25
set_option maxHeartbeats 8000000 in
set_option maxRecDepth 100000 in
theorem c_X11_isOut_56 (l : Launch) (G : gG) (q0 : Nat) (qF : Nat → Int) (K0 : Int) (p0 : Int) (y0_ : bp (plA K0) qF) (hK0 : 1000 ≤ K0 ∧ K0 ≤ 2000000) (hp : 0 ≤ p0 ∧ p0 ≤ 6) (sz : Nat) : gI G l yX11_isOut wsX11_isOut ({ frames := 0, cells := 0, slots := 0, locals := 0 } : Room) [.ref q0, .int (iI p0)] [(q0, .inl (G.2 0, 56, .inl (cI qF)))] sz (fun (r : Int32) (u : va_W) => (∃ rr : Int, ((rr = 0 ∧ qF ((20 + p0).toNat) = 0) ∨ (rr = 1 ∧ ¬ (qF ((20 + p0).toNat) = 0))) ∧ r = (iI rr) ∧ u = [(q0, .inl (G.2 0, 56, .inl (cI qF)))])) := by
  refine Met.ofW (cc := cX11_isOut) (maxL := 2) (ret := (some .boolean)) (by decide) rfl ?_
  intro p e s m args below meth c s₁ B hml hv
  obtain ⟨rfl, hsz, hP, hK, hD0, hN, hZ⟩ := hv
  have hx := B.exec
  have hb := B.bytes
  have hr := B.returns
  have hts := atoms_spec (ws := wsX11_isOut) B.pre
  have hown : s.vm.findClass RX11 = some m.cls := findClass_of_methodNamed B.named
  have hlocks := B.notSynchronized
  subst hsz
  have hD := hD0.self (sz := s.heap.size)
  generalize hAe : va_A [(q0, .inl (G.2 0, 56, .inl (cI qF)))] s.heap.size = A at hD hZ ⊢
  have hA : ∀ q : Nat, s.heap.size ≤ q → A q := fun q h => by rw [← hAe]; exact Or.inr h
  have hS : va_S A s.heap s.heap [] := va_S.rf
  have hP : va_P G.1 vwCl [(q0, .inl (G.2 0, 56, .inl (cI qF)))] s.heap := hP
  have hl := lv_entry ([.ref q0, .int (iI p0)]) (n := 2) (Nat.le_of_ble_eq_true rfl)
  rw [lg_entry_eq]
  generalize (lg_sl ([.ref q0, .int (iI p0)]) ++ List.replicate (2 - (lg_sl ([.ref q0, .int (iI p0)])).length) Slot.unset).toArray = ls at hl ⊢
  have hl : lv_has ls 2 [(0, .ref q0), (1, .int (iI p0))] := hl
  refine lv_aload_n hx hb dX11_isOut_0 rfl (lv_at hl 0 rfl) ?_
  refine lv_bipush (v := iI 20) hx hb dX11_isOut_1 (by decide) ?_
  refine lv_iload_n hx hb dX11_isOut_3 rfl (lv_at hl 1 rfl) ?_
  refine lv_iadd hx hb dX11_isOut_4 ?_
  refine g_topi (y := iI (20 + p0)) (iI_add 20 p0) ?_
  refine g_ild hx hb hK hP 0 rfl (by omega) (by omega) (by first | exact Nat.le_of_ble_eq_true rfl | omega) dX11_isOut_5 (fun w_1 ew_1 => ?_)
  have ew_1 : qF ((20 + p0).toNat) = w_1 := ew_1
  subst ew_1
  have bw_1 : 0 ≤ (qF ((20 + p0).toNat)) ∧ (qF ((20 + p0).toNat)) ≤ K0 := ⟨(y0_ _).1, Int.le_trans (y0_ _).2 (plA_le (by omega) _)⟩
  refine lv_if_eq (tgt := 13) hx hb dX11_isOut_6 (by decide) (fun c_2 => ?_) (fun c_2 => ?_)
  · have c_2 := (iI_eq (a := (qF ((20 + p0).toNat))) (b := 0) (by omega) (by first | decide | omega)).mp c_2
    refine lv_iconst (v := iI 0) hx hb dX11_isOut_13 rfl ?_
    exact g_zret (v := (iI 0)) hx hb hr hlocks rfl hP hD hS (⟨0, (by first | assumption | omega), rfl, rfl⟩) dX11_isOut_14
  · have c_2 : ¬ ((qF ((20 + p0).toNat)) = 0) := fun h9 => c_2 ((iI_eq (a := (qF ((20 + p0).toNat))) (b := 0) (by omega) (by first | decide | omega)).mpr h9)
    refine lv_iconst (v := iI 1) hx hb dX11_isOut_9 rfl ?_
    refine lv_goto (tgt := 14) hx hb dX11_isOut_10 (by decide) ?_
    exact g_zret (v := (iI 1)) hx hb hr hlocks rfl hP hD hS (⟨1, (by first | assumption | omega), rfl, rfl⟩) dX11_isOut_14
set_option maxHeartbeats 8000000 in
set_option maxRecDepth 100000 in
theorem c_X11_takesOff_56 (l : Launch) (G : gG) (q0 : Nat) (qF : Nat → Int) (K0 : Int) (bb0 : Int) (p0 : Int) (y0_ : bp (plA K0) qF) (hK0 : 1000 ≤ K0 ∧ K0 ≤ 2000000) (hp : 0 ≤ p0 ∧ p0 ≤ 6) (hb0 : 0 ≤ bb0 ∧ bb0 ≤ 3) (sz : Nat) : gI G l yX11_takesOff wsX11_takesOff ({ frames := 2, cells := 0, slots := 0, locals := 48 } : Room) [.ref q0, .int (iI bb0), .int (iI p0)] [(q0, .inl (G.2 0, 56, .inl (cI qF)))] sz (fun (r : Int32) (u : va_W) => (∃ rr : Int, (0 ≤ rr ∧ rr ≤ 30) ∧ (rr ≤ qF (6 + p0).toNat) ∧ r = (iI rr) ∧ u = [(q0, .inl (G.2 0, 56, .inl (cI qF)))])) := by
  refine Met.ofW (cc := cX11_takesOff) (maxL := 4) (ret := (some .int)) (by decide) rfl ?_
  intro p e s m args below meth c s₁ B hml hv
  obtain ⟨rfl, hsz, hP, hK, hD0, hN, hZ⟩ := hv
  have hx := B.exec
  have hb := B.bytes
  have hr := B.returns
  have hts := atoms_spec (ws := wsX11_takesOff) B.pre
  have hown : s.vm.findClass RX11 = some m.cls := findClass_of_methodNamed B.named
  have hlocks := B.notSynchronized
  subst hsz
  have hD := hD0.self (sz := s.heap.size)
  generalize hAe : va_A [(q0, .inl (G.2 0, 56, .inl (cI qF)))] s.heap.size = A at hD hZ ⊢
  have hA : ∀ q : Nat, s.heap.size ≤ q → A q := fun q h => by rw [← hAe]; exact Or.inr h
  have hS : va_S A s.heap s.heap [] := va_S.rf
  have hP : va_P G.1 vwCl [(q0, .inl (G.2 0, 56, .inl (cI qF)))] s.heap := hP
  have hl := lv_entry ([.ref q0, .int (iI bb0), .int (iI p0)]) (n := 4) (Nat.le_of_ble_eq_true rfl)
  rw [lg_entry_eq]
  generalize (lg_sl ([.ref q0, .int (iI bb0), .int (iI p0)]) ++ List.replicate (4 - (lg_sl ([.ref q0, .int (iI bb0), .int (iI p0)])).length) Slot.unset).toArray = ls at hl ⊢
  have hl : lv_has ls 4 [(0, .ref q0), (1, .int (iI bb0)), (2, .int (iI p0))] := hl
  refine lv_aload_n hx hb dX11_takesOff_0 rfl (lv_at hl 0 rfl) ?_
  refine lv_bipush (v := iI 48) hx hb dX11_takesOff_1 (by decide) ?_
  refine lv_iload_n hx hb dX11_takesOff_3 rfl (lv_at hl 1 rfl) ?_
  refine lv_iadd hx hb dX11_takesOff_4 ?_
  refine g_topi (y := iI (48 + bb0)) (iI_add 48 bb0) ?_
  refine g_ild hx hb hK hP 0 rfl (by omega) (by omega) (by first | exact Nat.le_of_ble_eq_true rfl | omega) dX11_takesOff_5 (fun w_1 ew_1 => ?_)
  have bw_1 : 0 ≤ w_1 ∧ w_1 ≤ K0 := by rw [← ew_1]; exact ⟨(y0_ _).1, Int.le_trans (y0_ _).2 (plA_le (by omega) _)⟩
  refine lv_aload_n hx hb dX11_takesOff_6 rfl (lv_at hl 0 rfl) ?_
  refine lv_bipush (v := iI 52) hx hb dX11_takesOff_7 (by decide) ?_
  refine lv_iload_n hx hb dX11_takesOff_9 rfl (lv_at hl 1 rfl) ?_
  refine lv_iadd hx hb dX11_takesOff_10 ?_
  refine g_topi (y := iI (52 + bb0)) (iI_add 52 bb0) ?_
  refine g_ild hx hb hK hP 0 rfl (by omega) (by omega) (by first | exact Nat.le_of_ble_eq_true rfl | omega) dX11_takesOff_11 (fun w_2 ew_2 => ?_)
  have bw_2 : 0 ≤ w_2 ∧ w_2 ≤ K0 := by rw [← ew_2]; exact ⟨(y0_ _).1, Int.le_trans (y0_ _).2 (plA_le (by omega) _)⟩
  refine lv_aload_n hx hb dX11_takesOff_12 rfl (lv_at hl 0 rfl) ?_
  refine lv_iload_n hx hb dX11_takesOff_13 rfl (lv_at hl 2 rfl) ?_
  refine g_calli (wr := []) (va_runS (As := [.ref q0, .int (iI p0)]) (rest := [.int (iI w_2), .int (iI w_1)]) ⟨hx, hb, hml, hown, hts⟩ (c_X11_hardOf_56 l G (q0) (qF) (K0) (p0) (by first | exact y0_ | exact bpA_mono y0_ (by omega) | assumption) (by first | exact hK0 | assumption | omega) (by first | exact hp | assumption | omega) _) (va_cwS 2 hts gX11_takesOff_X11_hardOf rfl rfl rfl (by decide +kernel) ⟨Nat.le_of_ble_eq_true rfl, Nat.le_of_ble_eq_true rfl⟩) (g_preS [.ref q0, .int (iI p0)] hP hD hK hN hS hA hZ [0] rfl rfl) rfl rfl hl.1 rfl (lv_room (Nat.le_of_ble_eq_true rfl)) dX11_takesOff_14 ⟨Nat.le_of_ble_eq_true rfl, Nat.le_of_ble_eq_true rfl⟩) hP hD hS hA [0] [] rfl rfl rfl (by decide) (fun r_3 u H locs hw hP hD hS => ?_)
  refine ea_1_4 hw (fun rr_4 k_5 k_6 e8_0 e8_1 => ?_)
  subst e8_0
  subst e8_1
  clear hw
  have hP : va_P G.1 vwCl [(q0, .inl (G.2 0, 56, .inl (cI qF)))] H := hP
  have hD : va_D A [(q0, .inl (G.2 0, 56, .inl (cI qF)))] := hD
  refine g_calli (wr := [(q0, .inl (G.2 0, 56, .inl (cI qF)))]) (va_runS (As := [.int (iI w_1), .int (iI w_2), .int (iI rr_4)]) (rest := []) ⟨hx, hb, hml, hown, hts⟩ (c_X11_takesAs l G (w_1) (w_2) (rr_4) (by first | assumption | omega) (by first | assumption | omega) (by first | assumption | omega) _) (va_cwS 3 hts gX11_takesOff_X11_takesAs rfl rfl rfl (by decide +kernel) ⟨Nat.le_of_ble_eq_true rfl, Nat.le_of_ble_eq_true rfl⟩) (g_preS [.int (iI w_1), .int (iI w_2), .int (iI rr_4)] hP hD hK hN hS hA hZ [] rfl rfl) rfl rfl hl.1 rfl (lv_room (Nat.le_of_ble_eq_true rfl)) dX11_takesOff_17 ⟨Nat.le_of_ble_eq_true rfl, Nat.le_of_ble_eq_true rfl⟩) hP hD hS hA [] [0] rfl rfl rfl (by decide) (fun r_7 u H locs hw hP hD hS => ?_)
  refine ea_1_4 hw (fun rr_8 k_9 k_10 e8_0 e8_1 => ?_)
  subst e8_0
  subst e8_1
  clear hw
  have hP : va_P G.1 vwCl [(q0, .inl (G.2 0, 56, .inl (cI qF)))] H := hP
  have hD : va_D A [(q0, .inl (G.2 0, 56, .inl (cI qF)))] := hD
  refine lv_istore_n (lv' := [(3, .int (iI rr_8)), (0, .ref q0), (1, .int (iI bb0)), (2, .int (iI p0))]) hx hb dX11_takesOff_20 rfl hl (by decide) rfl (fun ls hl => ?_)
  refine lv_aload_n hx hb dX11_takesOff_21 rfl (lv_at hl 1 rfl) ?_
  refine lv_iload_n hx hb dX11_takesOff_22 rfl (lv_at hl 3 rfl) ?_
  refine g_calli (wr := []) (va_runS (As := [.ref q0, .int (iI p0)]) (rest := []) ⟨hx, hb, hml, hown, hts⟩ (c_X11_isOut_56 l G (q0) (qF) (K0) (p0) (by first | exact y0_ | exact bpA_mono y0_ (by omega) | assumption) (by first | exact hK0 | assumption | omega) (by first | exact hp | assumption | omega) _) (va_cwS 2 hts gX11_takesOff_X11_isOut rfl rfl rfl (by decide +kernel) ⟨Nat.le_of_ble_eq_true rfl, Nat.le_of_ble_eq_true rfl⟩) (g_preS [.ref q0, .int (iI p0)] hP hD hK hN hS hA hZ [0] rfl rfl) rfl rfl hl.1 rfl (lv_room (Nat.le_of_ble_eq_true rfl)) dX11_takesOff_23 ⟨Nat.le_of_ble_eq_true rfl, Nat.le_of_ble_eq_true rfl⟩) hP hD hS hA [0] [] rfl rfl rfl (by decide) (fun r_11 u H locs hw hP hD hS => ?_)
  refine ea_1_3 hw (fun rr_12 k_13 e8_0 e8_1 => ?_)
  subst e8_0
  subst e8_1
  clear hw
  have hP : va_P G.1 vwCl [(q0, .inl (G.2 0, 56, .inl (cI qF)))] H := hP
  have hD : va_D A [(q0, .inl (G.2 0, 56, .inl (cI qF)))] := hD
  refine lv_if_eq (tgt := 33) hx hb dX11_takesOff_26 (by decide) (fun c_14 => ?_) (fun c_14 => ?_)
  · have c_14 := (iI_eq (a := rr_12) (b := 0) (by omega) (by first | decide | omega)).mp c_14
    refine lv_iload_n hx hb dX11_takesOff_33 rfl (lv_at hl 0 rfl) ?_
    refine lv_aload_n hx hb dX11_takesOff_34 rfl (lv_at hl 1 rfl) ?_
    refine lv_bipush (v := iI 6) hx hb dX11_takesOff_35 (by decide) ?_
    refine lv_iload_n hx hb dX11_takesOff_37 rfl (lv_at hl 3 rfl) ?_
    refine lv_iadd hx hb dX11_takesOff_38 ?_
    refine g_topi (y := iI (6 + p0)) (iI_add 6 p0) ?_
    refine g_ild hx hb hK hP 0 rfl (by omega) (by omega) (by first | exact Nat.le_of_ble_eq_true rfl | omega) dX11_takesOff_39 (fun w_15 ew_15 => ?_)
    have bw_15 : 0 ≤ w_15 ∧ w_15 ≤ 30 := by rw [← ew_15]; exact ⟨(y0_ _).1, Int.le_trans (y0_ _).2 (plAu_T (by omega) (by omega))⟩
    refine lv_icmp_ge (tgt := 47) hx hb dX11_takesOff_40 (by decide) (fun c_16 => ?_) (fun c_16 => ?_)
    · have c_16 := (iI_le (a := w_15) (b := rr_8) (by omega) (by omega)).mp c_16
      refine lv_aload_n hx hb dX11_takesOff_47 rfl (lv_at hl 1 rfl) ?_
      refine lv_bipush (v := iI 6) hx hb dX11_takesOff_48 (by decide) ?_
      refine lv_iload_n hx hb dX11_takesOff_50 rfl (lv_at hl 3 rfl) ?_
      refine lv_iadd hx hb dX11_takesOff_51 ?_
      refine g_topi (y := iI (6 + p0)) (iI_add 6 p0) ?_
      refine g_ild hx hb hK hP 0 rfl (by omega) (by omega) (by first | exact Nat.le_of_ble_eq_true rfl | omega) dX11_takesOff_52 (fun w_17 ew_17 => ?_)
      have bw_17 : 0 ≤ w_17 ∧ w_17 ≤ 30 := by rw [← ew_17]; exact ⟨(y0_ _).1, Int.le_trans (y0_ _).2 (plAu_T (by omega) (by omega))⟩
      exact g_iret (v := (iI w_17)) hx hb hr hlocks hP hD hS (⟨w_17, (by first | assumption | omega), (by first | omega | (have q9 := y0_ (6 + p0).toNat; omega)), rfl, rfl⟩) dX11_takesOff_53
    · have c_16 : ¬ (w_15 ≤ rr_8) := fun h9 => c_16 ((iI_le (a := w_15) (b := rr_8) (by omega) (by omega)).mpr h9)
      refine lv_iload_n hx hb dX11_takesOff_43 rfl (lv_at hl 0 rfl) ?_
      refine lv_goto (tgt := 53) hx hb dX11_takesOff_44 (by decide) ?_
      exact g_iret (v := (iI rr_8)) hx hb hr hlocks hP hD hS (⟨rr_8, (by first | assumption | omega), (by first | omega | (have q9 := y0_ (6 + p0).toNat; omega)), rfl, rfl⟩) dX11_takesOff_53
  · have c_14 : ¬ (rr_12 = 0) := fun h9 => c_14 ((iI_eq (a := rr_12) (b := 0) (by omega) (by first | decide | omega)).mpr h9)
    refine lv_iconst (v := iI 0) hx hb dX11_takesOff_29 rfl ?_
    refine lv_goto (tgt := 53) hx hb dX11_takesOff_30 (by decide) ?_
    exact g_iret (v := (iI 0)) hx hb hr hlocks hP hD hS (⟨0, (by first | assumption | omega), (by first | omega | (have q9 := y0_ (6 + p0).toNat; omega)), rfl, rfl⟩) dX11_takesOff_53
set_option maxHeartbeats 8000000 in
set_option maxRecDepth 100000 in
theorem c_X11_goBite_56 (l : Launch) (G : gG) (q0 : Nat) (qF : Nat → Int) (K0 : Int) (bb0 : Int) (p0 : Int) (y0_ : bp (plA K0) qF) (hK0 : 1000 ≤ K0 ∧ K0 ≤ 2000000) (hp : 0 ≤ p0 ∧ p0 ≤ 6) (hb0 : 0 ≤ bb0 ∧ bb0 ≤ 3) (sz : Nat) : gV G l yX11_goBite wsX11_goBite ({ frames := 3, cells := 0, slots := 0, locals := 71 } : Room) [.ref q0, .int (iI bb0), .int (iI p0)] [(q0, .inl (G.2 0, 56, .inl (cI qF)))] sz (fun (u : va_W) => (∃ Nq : Nat → Int, (bp (plA K0) Nq) ∧ u = [(q0, .inl (G.2 0, 56, .inl (cI Nq)))])) := by
  refine Met.ofW (cc := cX11_goBite) (maxL := 3) (ret := none) (by decide) rfl ?_
  intro p e s m args below meth c s₁ B hml hv
  obtain ⟨rfl, hsz, hP, hK, hD0, hN, hZ⟩ := hv
  have hx := B.exec
  have hb := B.bytes
  have hr := B.returns
  have hts := atoms_spec (ws := wsX11_goBite) B.pre
  have hown : s.vm.findClass RX11 = some m.cls := findClass_of_methodNamed B.named
  have hlocks := B.notSynchronized
  subst hsz
  have hD := hD0.self (sz := s.heap.size)
  generalize hAe : va_A [(q0, .inl (G.2 0, 56, .inl (cI qF)))] s.heap.size = A at hD hZ ⊢
  have hA : ∀ q : Nat, s.heap.size ≤ q → A q := fun q h => by rw [← hAe]; exact Or.inr h
  have hS : va_S A s.heap s.heap [] := va_S.rf
  have hP : va_P G.1 vwCl [(q0, .inl (G.2 0, 56, .inl (cI qF)))] s.heap := hP
  have hl := lv_entry ([.ref q0, .int (iI bb0), .int (iI p0)]) (n := 3) (Nat.le_of_ble_eq_true rfl)
  rw [lg_entry_eq]
  generalize (lg_sl ([.ref q0, .int (iI bb0), .int (iI p0)]) ++ List.replicate (3 - (lg_sl ([.ref q0, .int (iI bb0), .int (iI p0)])).length) Slot.unset).toArray = ls at hl ⊢
  have hl : lv_has ls 3 [(0, .ref q0), (1, .int (iI bb0)), (2, .int (iI p0))] := hl
  refine lv_aload_n hx hb dX11_goBite_0 rfl (lv_at hl 0 rfl) ?_
  refine lv_bipush (v := iI 6) hx hb dX11_goBite_1 (by decide) ?_
  refine lv_iload_n hx hb dX11_goBite_3 rfl (lv_at hl 2 rfl) ?_
  refine lv_iadd hx hb dX11_goBite_4 ?_
  refine g_topi (y := iI (6 + p0)) (iI_add 6 p0) ?_
  refine lv_dup2_11 hx hb dX11_goBite_5 rfl rfl ?_
  refine g_ild hx hb hK hP 0 rfl (by omega) (by omega) (by first | exact Nat.le_of_ble_eq_true rfl | omega) dX11_goBite_6 (fun w_1 ew_1 => ?_)
  have bw_1 : 0 ≤ w_1 ∧ w_1 ≤ 30 := by rw [← ew_1]; exact ⟨(y0_ _).1, Int.le_trans (y0_ _).2 (plAu_T (by omega) (by omega))⟩
  refine lv_aload_n hx hb dX11_goBite_7 rfl (lv_at hl 0 rfl) ?_
  refine lv_iload_n hx hb dX11_goBite_8 rfl (lv_at hl 1 rfl) ?_
  refine lv_iload_n hx hb dX11_goBite_9 rfl (lv_at hl 2 rfl) ?_
  refine g_calli (wr := []) (va_runS (As := [.ref q0, .int (iI bb0), .int (iI p0)]) (rest := [.int (iI w_1), .int (iI (6 + p0)), .ref q0]) ⟨hx, hb, hml, hown, hts⟩ (c_X11_takesOff_56 l G (q0) (qF) (K0) (bb0) (p0) (by first | exact y0_ | exact bpA_mono y0_ (by omega) | assumption) (by first | exact hK0 | assumption | omega) (by first | exact hp | assumption | omega) (by first | exact hb0 | assumption | omega) _) (va_cwS 3 hts gX11_goBite_X11_takesOff rfl rfl rfl (by decide +kernel) ⟨Nat.le_of_ble_eq_true rfl, Nat.le_of_ble_eq_true rfl⟩) (g_preS [.ref q0, .int (iI bb0), .int (iI p0)] hP hD hK hN hS hA hZ [0] rfl rfl) rfl rfl hl.1 rfl (lv_room (Nat.le_of_ble_eq_true rfl)) dX11_goBite_10 ⟨Nat.le_of_ble_eq_true rfl, Nat.le_of_ble_eq_true rfl⟩) hP hD hS hA [0] [] rfl rfl rfl (by decide) (fun r_2 u H locs hw hP hD hS => ?_)
  refine ea_1_4 hw (fun rr_3 k_4 k_5 e8_0 e8_1 => ?_)
  subst e8_0
  subst e8_1
  clear hw
  have hP : va_P G.1 vwCl [(q0, .inl (G.2 0, 56, .inl (cI qF)))] H := hP
  have hD : va_D A [(q0, .inl (G.2 0, 56, .inl (cI qF)))] := hD
  refine lv_isub hx hb dX11_goBite_13 ?_
  refine g_topi (y := iI (w_1 - rr_3)) (iI_sub w_1 rr_3) ?_
  refine g_ist hx hb hK hP hD hS 0 rfl (by omega) (by omega) (by first | exact Nat.le_of_ble_eq_true rfl | omega) dX11_goBite_14 (fun H locs hP hD hS => ?_)
  have hk_7 := bp_u (h := plA K0) (k := ((6 + p0).toNat)) (v := (w_1 - rr_3)) y0_ (by omega) (Int.le_trans (show (w_1 - rr_3) ≤ 30 by omega) (plAl_T (by omega) (by omega)))
  have hPD : PD G A H [(q0, .inl (G.2 0, 56, .inl (cI (uI qF ((6 + p0).toNat) (w_1 - rr_3)))))] := ⟨hP, hD⟩
  have hP := hPD.1
  have hD := hPD.2
  clear hPD
  generalize hF_6 : (uI qF ((6 + p0).toNat) (w_1 - rr_3)) = F_6 at hP hD hk_7
  refine lv_aload_n hx hb dX11_goBite_15 rfl (lv_at hl 0 rfl) ?_
  refine lv_bipush (v := iI 6) hx hb dX11_goBite_16 (by decide) ?_
  refine lv_iload_n hx hb dX11_goBite_18 rfl (lv_at hl 2 rfl) ?_
  refine lv_iadd hx hb dX11_goBite_19 ?_
  refine g_topi (y := iI (6 + p0)) (iI_add 6 p0) ?_
  refine g_ild hx hb hK hP 0 rfl (by omega) (by omega) (by first | exact Nat.le_of_ble_eq_true rfl | omega) dX11_goBite_20 (fun w_8 ew_8 => ?_)
  have bw_8 : 0 ≤ w_8 ∧ w_8 ≤ 30 := by rw [← ew_8]; exact ⟨(hk_7 _).1, Int.le_trans (hk_7 _).2 (plAu_T (by omega) (by omega))⟩
  refine lv_if_ne (tgt := 58) hx hb dX11_goBite_21 (by decide) (fun c_9 => ?_) (fun c_9 => ?_)
  · have c_9 : ¬ (w_8 = 0) := fun h9 => c_9 ((iI_eq (a := w_8) (b := 0) (by omega) (by first | decide | omega)).mpr h9)
    exact g_vret hx hb hr hlocks hP hD hS (⟨F_6, (by first | exact hk_7 | exact bpA_mono hk_7 (by omega) | assumption), rfl⟩) dX11_goBite_58
  · have c_9 := (iI_eq (a := w_8) (b := 0) (by omega) (by first | decide | omega)).mp c_9
    refine lv_aload_n hx hb dX11_goBite_24 rfl (lv_at hl 0 rfl) ?_
    refine lv_iload_n hx hb dX11_goBite_25 rfl (lv_at hl 2 rfl) ?_
    refine g_calli (wr := []) (va_runS (As := [.ref q0, .int (iI p0)]) (rest := []) ⟨hx, hb, hml, hown, hts⟩ (c_X11_isOut_56 l G (q0) (F_6) (K0) (p0) (by first | exact hk_7 | exact bpA_mono hk_7 (by omega) | assumption) (by first | exact hK0 | assumption | omega) (by first | exact hp | assumption | omega) _) (va_cwS 2 hts gX11_goBite_X11_isOut rfl rfl rfl (by decide +kernel) ⟨Nat.le_of_ble_eq_true rfl, Nat.le_of_ble_eq_true rfl⟩) (g_preS [.ref q0, .int (iI p0)] hP hD hK hN hS hA hZ [0] rfl rfl) rfl rfl hl.1 rfl (lv_room (Nat.le_of_ble_eq_true rfl)) dX11_goBite_26 ⟨Nat.le_of_ble_eq_true rfl, Nat.le_of_ble_eq_true rfl⟩) hP hD hS hA [0] [] rfl rfl rfl (by decide) (fun r_10 u H locs hw hP hD hS => ?_)
    refine ea_1_3 hw (fun rr_11 k_12 e8_0 e8_1 => ?_)
    subst e8_0
    subst e8_1
    clear hw
    have hP : va_P G.1 vwCl [(q0, .inl (G.2 0, 56, .inl (cI F_6)))] H := hP
    have hD : va_D A [(q0, .inl (G.2 0, 56, .inl (cI F_6)))] := hD
    refine lv_if_ne (tgt := 58) hx hb dX11_goBite_29 (by decide) (fun c_13 => ?_) (fun c_13 => ?_)
    · have c_13 : ¬ (rr_11 = 0) := fun h9 => c_13 ((iI_eq (a := rr_11) (b := 0) (by omega) (by first | decide | omega)).mpr h9)
      exact g_vret hx hb hr hlocks hP hD hS (⟨F_6, (by first | exact hk_7 | exact bpA_mono hk_7 (by omega) | assumption), rfl⟩) dX11_goBite_58
    · have c_13 := (iI_eq (a := rr_11) (b := 0) (by omega) (by first | decide | omega)).mp c_13
      refine lv_aload_n hx hb dX11_goBite_32 rfl (lv_at hl 0 rfl) ?_
      refine lv_bipush (v := iI 20) hx hb dX11_goBite_33 (by decide) ?_
      refine lv_iload_n hx hb dX11_goBite_35 rfl (lv_at hl 2 rfl) ?_
      refine lv_iadd hx hb dX11_goBite_36 ?_
      refine g_topi (y := iI (20 + p0)) (iI_add 20 p0) ?_
      refine lv_aload_n hx hb dX11_goBite_37 rfl (lv_at hl 0 rfl) ?_
      refine lv_bipush (v := iI 13) hx hb dX11_goBite_38 (by decide) ?_
      refine lv_iload_n hx hb dX11_goBite_40 rfl (lv_at hl 2 rfl) ?_
      refine lv_iadd hx hb dX11_goBite_41 ?_
      refine g_topi (y := iI (13 + p0)) (iI_add 13 p0) ?_
      refine g_ild hx hb hK hP 0 rfl (by omega) (by omega) (by first | exact Nat.le_of_ble_eq_true rfl | omega) dX11_goBite_42 (fun w_14 ew_14 => ?_)
      have bw_14 : 0 ≤ w_14 ∧ w_14 ≤ K0 := by rw [← ew_14]; exact ⟨(hk_7 _).1, Int.le_trans (hk_7 _).2 (plA_le (by omega) _)⟩
      refine lv_aload_n hx hb dX11_goBite_43 rfl (lv_at hl 0 rfl) ?_
      refine lv_bipush (v := iI 41) hx hb dX11_goBite_44 (by decide) ?_
      refine lv_iload_n hx hb dX11_goBite_46 rfl (lv_at hl 2 rfl) ?_
      refine lv_iadd hx hb dX11_goBite_47 ?_
      refine g_topi (y := iI (41 + p0)) (iI_add 41 p0) ?_
      refine g_ild hx hb hK hP 0 rfl (by omega) (by omega) (by first | exact Nat.le_of_ble_eq_true rfl | omega) dX11_goBite_48 (fun w_15 ew_15 => ?_)
      have bw_15 : 0 ≤ w_15 ∧ w_15 ≤ K0 := by rw [← ew_15]; exact ⟨(hk_7 _).1, Int.le_trans (hk_7 _).2 (plA_le (by omega) _)⟩
      refine g_join (jn := 57) (rest := [.int (iI (20 + p0)), .ref q0]) (fun t_16 ls => ((w_14 < w_15 ∧ t_16 = 2) ∨ (¬ (w_14 < w_15) ∧ t_16 = 1)) ∧ lv_has ls 3 [(0, .ref q0), (1, .int (iI bb0)), (2, .int (iI p0))]) (fun t_16 ls hI => ?_) (fun hJ_17 => ?_)
      · obtain ⟨f_18, hl⟩ := hI
        refine g_ist hx hb hK hP hD hS 0 rfl (by omega) (by omega) (by first | exact Nat.le_of_ble_eq_true rfl | omega) dX11_goBite_57 (fun H locs hP hD hS => ?_)
        have hk_20 := bp_u (h := plA K0) (k := ((20 + p0).toNat)) (v := t_16) hk_7 (by omega) (Int.le_trans (show t_16 ≤ K0 by omega) (plAl_K (by omega) (by omega)))
        have hPD : PD G A H [(q0, .inl (G.2 0, 56, .inl (cI (uI F_6 ((20 + p0).toNat) t_16))))] := ⟨hP, hD⟩
        have hP := hPD.1
        have hD := hPD.2
        clear hPD
        generalize hF_19 : (uI F_6 ((20 + p0).toNat) t_16) = F_19 at hP hD hk_20
        exact g_vret hx hb hr hlocks hP hD hS (⟨F_19, (by first | exact hk_20 | exact bpA_mono hk_20 (by omega) | assumption), rfl⟩) dX11_goBite_58
      · refine lv_icmp_lt (tgt := 56) hx hb dX11_goBite_49 (by decide) (fun c_21 => ?_) (fun c_21 => ?_)
        · have c_21 := (iI_lt (a := w_14) (b := w_15) (by omega) (by omega)).mp c_21
          refine lv_iconst (v := iI 2) hx hb dX11_goBite_56 rfl ?_
          exact hJ_17 2 ls ⟨by omega, lv_sub hl [0, 1, 2] rfl⟩
        · have c_21 : ¬ (w_14 < w_15) := fun h9 => c_21 ((iI_lt (a := w_14) (b := w_15) (by omega) (by omega)).mpr h9)
          refine lv_iconst (v := iI 1) hx hb dX11_goBite_52 rfl ?_
          refine lv_goto (tgt := 57) hx hb dX11_goBite_53 (by decide) ?_
          exact hJ_17 1 ls ⟨by omega, lv_sub hl [0, 1, 2] rfl⟩
set_option maxHeartbeats 8000000 in
set_option maxRecDepth 100000 in
theorem c_X11_goDay_56 (l : Launch) (G : gG) (q0 : Nat) (qF : Nat → Int) (K0 : Int) (y0_ : bp (plA K0) qF) (hK0 : 1000 ≤ K0 ∧ K0 ≤ 1990000) (sz : Nat) : gV G l yX11_goDay wsX11_goDay ({ frames := 1, cells := 0, slots := 0, locals := 21 } : Room) [.ref q0] [(q0, .inl (G.2 0, 56, .inl (cI qF)))] sz (fun (u : va_W) => (∃ Nq : Nat → Int, (bp (plA (K0 + 1)) Nq) ∧ u = [(q0, .inl (G.2 0, 56, .inl (cI Nq)))])) := by
  refine Met.ofW (cc := cX11_goDay) (maxL := 2) (ret := none) (by decide) rfl ?_
  intro p e s m args below meth c s₁ B hml hv
  obtain ⟨rfl, hsz, hP, hK, hD0, hN, hZ⟩ := hv
  have hx := B.exec
  have hb := B.bytes
  have hr := B.returns
  have hts := atoms_spec (ws := wsX11_goDay) B.pre
  have hown : s.vm.findClass RX11 = some m.cls := findClass_of_methodNamed B.named
  have hlocks := B.notSynchronized
  subst hsz
  have hD := hD0.self (sz := s.heap.size)
  generalize hAe : va_A [(q0, .inl (G.2 0, 56, .inl (cI qF)))] s.heap.size = A at hD hZ ⊢
  have hA : ∀ q : Nat, s.heap.size ≤ q → A q := fun q h => by rw [← hAe]; exact Or.inr h
  have hS : va_S A s.heap s.heap [] := va_S.rf
  have hP : va_P G.1 vwCl [(q0, .inl (G.2 0, 56, .inl (cI qF)))] s.heap := hP
  have hl := lv_entry ([.ref q0]) (n := 2) (Nat.le_of_ble_eq_true rfl)
  rw [lg_entry_eq]
  generalize (lg_sl ([.ref q0]) ++ List.replicate (2 - (lg_sl ([.ref q0])).length) Slot.unset).toArray = ls at hl ⊢
  have hl : lv_has ls 2 [(0, .ref q0)] := hl
  refine lv_iconst (v := iI 0) hx hb dX11_goDay_0 rfl ?_
  refine lv_istore_n (lv' := [(1, .int (iI 0)), (0, .ref q0)]) hx hb dX11_goDay_1 rfl hl (by decide) rfl (fun ls hl => ?_)
  refine g_loopN (pc := 2) (fun nn H locs ls => ∃ i0__1 : Int, ∃ E0_2 : Nat → Int, (0 ≤ i0__1 ∧ i0__1 ≤ 7) ∧ (bp (plA (K0 + 1)) E0_2) ∧ (tl (13 + i0__1) K0 E0_2) ∧ (7 - i0__1).toNat = nn ∧ va_P G.1 vwCl [(q0, .inl (G.2 0, 56, .inl (cI E0_2)))] H ∧ va_D A [(q0, .inl (G.2 0, 56, .inl (cI E0_2)))] ∧ va_S A s.heap H locs ∧ lv_has ls 2 [(1, .int (iI i0__1)), (0, .ref q0)]) ?_ ⟨0, qF, (by first | assumption | omega), (by first | exact y0_ | exact bpA_mono y0_ (by omega) | assumption), (by first | assumption | exact tl_0 (by assumption) | exact tl_s (by assumption) | exact tl_bp (by omega) (by assumption) | exact tl_cast (by assumption) (by omega)), rfl, hP, hD, hS, lv_sub hl [0, 1] rfl⟩
  intro nn_7 H locs ls ih_6 hI
  refine ea_2_8 hI (fun i0__1 E0_2 f_3 f_4 f_5 hnn_8 hP hD hS hl => ?_)
  clear hI
  refine lv_iload_n hx hb dX11_goDay_2 rfl (lv_at hl 0 rfl) ?_
  refine lv_aload_n hx hb dX11_goDay_3 rfl (lv_at hl 1 rfl) ?_
  refine lv_iconst (v := iI 0) hx hb dX11_goDay_4 rfl ?_
  refine g_ild hx hb hK hP 0 rfl (by omega) (by omega) (by first | exact Nat.le_of_ble_eq_true rfl | omega) dX11_goDay_5 (fun w_9 ew_9 => ?_)
  have ew_9 : E0_2 0 = w_9 := ew_9
  have bw_9 : 0 ≤ w_9 ∧ w_9 ≤ 7 := by rw [← ew_9]; exact f_4 0
  refine lv_icmp_ge (tgt := 37) hx hb dX11_goDay_6 (by decide) (fun c_10 => ?_) (fun c_10 => ?_)
  · have c_10 := (iI_le (a := w_9) (b := i0__1) (by omega) (by omega)).mp c_10
    refine lv_aload_n hx hb dX11_goDay_37 rfl (lv_at hl 1 rfl) ?_
    refine lv_bipush (v := iI 27) hx hb dX11_goDay_38 (by decide) ?_
    refine lv_dup2_11 hx hb dX11_goDay_40 rfl rfl ?_
    refine g_ild hx hb hK hP 0 rfl (by omega) (by omega) (by first | exact Nat.le_of_ble_eq_true rfl | omega) dX11_goDay_41 (fun w_11 ew_11 => ?_)
    have ew_11 : E0_2 27 = w_11 := ew_11
    have bw_11 : 0 ≤ w_11 ∧ w_11 ≤ (K0 + 1) := by rw [← ew_11]; exact f_4 27
    have tw_11 : w_11 ≤ K0 := by rw [← ew_11]; exact tl_at f_5 (k := 27) (by omega) (by omega)
    refine lv_iconst (v := iI 1) hx hb dX11_goDay_42 rfl ?_
    refine lv_iadd hx hb dX11_goDay_43 ?_
    refine g_topi (y := iI (w_11 + 1)) (iI_add w_11 1) ?_
    refine g_ist hx hb hK hP hD hS 0 rfl (by omega) (by omega) (by first | exact Nat.le_of_ble_eq_true rfl | omega) dX11_goDay_44 (fun H locs hP hD hS => ?_)
    have hk_13 := bp_u (h := plA (K0 + 1)) (k := 27) (v := (w_11 + 1)) f_4 (by omega) (show (w_11 + 1) ≤ (K0 + 1) by omega)
    have hk_14 := tl_u (k := 27) (v := (w_11 + 1)) f_5 (by omega) (by omega)
    have hP : va_P G.1 vwCl [(q0, .inl (G.2 0, 56, .inl (cI (uI E0_2 27 (w_11 + 1)))))] H := hP
    have hD : va_D A [(q0, .inl (G.2 0, 56, .inl (cI (uI E0_2 27 (w_11 + 1)))))] := hD
    generalize hF_12 : (uI E0_2 27 (w_11 + 1)) = F_12 at hP hD hk_13 hk_14
    exact g_vret hx hb hr hlocks hP hD hS (⟨F_12, (by first | exact hk_13 | exact bpA_mono hk_13 (by omega) | assumption), rfl⟩) dX11_goDay_45
  · have c_10 : ¬ (w_9 ≤ i0__1) := fun h9 => c_10 ((iI_le (a := w_9) (b := i0__1) (by omega) (by omega)).mpr h9)
    refine lv_aload_n hx hb dX11_goDay_9 rfl (lv_at hl 1 rfl) ?_
    refine lv_bipush (v := iI 13) hx hb dX11_goDay_10 (by decide) ?_
    refine lv_iload_n hx hb dX11_goDay_12 rfl (lv_at hl 0 rfl) ?_
    refine lv_iadd hx hb dX11_goDay_13 ?_
    refine g_topi (y := iI (13 + i0__1)) (iI_add 13 i0__1) ?_
    refine lv_dup2_11 hx hb dX11_goDay_14 rfl rfl ?_
    refine g_ild hx hb hK hP 0 rfl (by omega) (by omega) (by first | exact Nat.le_of_ble_eq_true rfl | omega) dX11_goDay_15 (fun w_15 ew_15 => ?_)
    have bw_15 : 0 ≤ w_15 ∧ w_15 ≤ (K0 + 1) := by rw [← ew_15]; exact ⟨(f_4 _).1, Int.le_trans (f_4 _).2 (plA_le (by omega) _)⟩
    have tw_15 := tl_at f_5 (k := (13 + i0__1)) (by omega) (by omega)
    rw [ew_15] at tw_15
    refine lv_aload_n hx hb dX11_goDay_16 rfl (lv_at hl 1 rfl) ?_
    refine lv_iload_n hx hb dX11_goDay_17 rfl (lv_at hl 0 rfl) ?_
    refine g_calli (wr := []) (va_runS (As := [.ref q0, .int (iI i0__1)]) (rest := [.int (iI w_15), .int (iI (13 + i0__1)), .ref q0]) ⟨hx, hb, hml, hown, hts⟩ (c_X11_isOut_56 l G (q0) (E0_2) ((K0 + 1)) (i0__1) (by first | exact f_4 | exact bpA_mono f_4 (by omega) | assumption) (by first | assumption | omega) (by first | assumption | omega) _) (va_cwS 2 hts gX11_goDay_X11_isOut rfl rfl rfl (by decide +kernel) ⟨Nat.le_of_ble_eq_true rfl, Nat.le_of_ble_eq_true rfl⟩) (g_preS [.ref q0, .int (iI i0__1)] hP hD hK hN hS hA hZ [0] rfl rfl) rfl rfl hl.1 rfl (lv_room (Nat.le_of_ble_eq_true rfl)) dX11_goDay_18 ⟨Nat.le_of_ble_eq_true rfl, Nat.le_of_ble_eq_true rfl⟩) hP hD hS hA [0] [] rfl rfl rfl (by decide) (fun r_16 u H locs hw hP hD hS => ?_)
    refine ea_1_3 hw (fun rr_17 k_18 e8_0 e8_1 => ?_)
    subst e8_0
    subst e8_1
    clear hw
    have hP : va_P G.1 vwCl [(q0, .inl (G.2 0, 56, .inl (cI E0_2)))] H := hP
    have hD : va_D A [(q0, .inl (G.2 0, 56, .inl (cI E0_2)))] := hD
    refine g_join (jn := 29) (rest := [.int (iI w_15), .int (iI (13 + i0__1)), .ref q0]) (fun t_19 ls => ((rr_17 = 0 ∧ t_19 = 1) ∨ (¬ (rr_17 = 0) ∧ t_19 = 0)) ∧ lv_has ls 2 [(1, .int (iI i0__1)), (0, .ref q0)]) (fun t_19 ls hI => ?_) (fun hJ_20 => ?_)
    · obtain ⟨f_21, hl⟩ := hI
      refine lv_iadd hx hb dX11_goDay_29 ?_
      refine g_topi (y := iI (w_15 + t_19)) (iI_add w_15 t_19) ?_
      refine g_ist hx hb hK hP hD hS 0 rfl (by omega) (by omega) (by first | exact Nat.le_of_ble_eq_true rfl | omega) dX11_goDay_30 (fun H locs hP hD hS => ?_)
      have hk_23 := bp_u (h := plA (K0 + 1)) (k := ((13 + i0__1).toNat)) (v := (w_15 + t_19)) f_4 (by omega) (Int.le_trans (show (w_15 + t_19) ≤ (K0 + 1) by omega) (plAl_K (by omega) (by omega)))
      have hk_24 := tl_u (k := (13 + i0__1)) (v := (w_15 + t_19)) f_5 (by omega) (by omega)
      have hPD : PD G A H [(q0, .inl (G.2 0, 56, .inl (cI (uI E0_2 ((13 + i0__1).toNat) (w_15 + t_19)))))] := ⟨hP, hD⟩
      have hP := hPD.1
      have hD := hPD.2
      clear hPD
      generalize hF_22 : (uI E0_2 ((13 + i0__1).toNat) (w_15 + t_19)) = F_22 at hP hD hk_23 hk_24
      refine lv_iinc (v := iI (i0__1 + 1)) (lv' := [(1, .int (iI (i0__1 + 1))), (0, .ref q0)]) hx hb dX11_goDay_31 hl (k := 0) rfl (iI_add i0__1 1) (by decide) rfl (fun ls hl => ?_)
      refine lv_goto (tgt := 2) hx hb dX11_goDay_34 (by decide) ?_
      exact ih_6 _ _ _ _ (by omega) ⟨(i0__1 + 1), F_22, (by first | assumption | omega), (by first | exact hk_23 | exact bpA_mono hk_23 (by omega) | assumption), (by first | assumption | exact tl_0 (by assumption) | exact tl_s (by assumption) | exact tl_bp (by omega) (by assumption) | exact tl_cast (by assumption) (by omega)), rfl, hP, hD, hS, lv_sub hl [0, 1] rfl⟩
    · refine lv_if_eq (tgt := 28) hx hb dX11_goDay_21 (by decide) (fun c_25 => ?_) (fun c_25 => ?_)
      · have c_25 := (iI_eq (a := rr_17) (b := 0) (by omega) (by first | decide | omega)).mp c_25
        refine lv_iconst (v := iI 1) hx hb dX11_goDay_28 rfl ?_
        exact hJ_20 1 ls ⟨by omega, lv_sub hl [0, 1] rfl⟩
      · have c_25 : ¬ (rr_17 = 0) := fun h9 => c_25 ((iI_eq (a := rr_17) (b := 0) (by omega) (by first | decide | omega)).mpr h9)
        refine lv_iconst (v := iI 0) hx hb dX11_goDay_24 rfl ?_
        refine lv_goto (tgt := 29) hx hb dX11_goDay_25 (by decide) ?_
        exact hJ_20 0 ls ⟨by omega, lv_sub hl [0, 1] rfl⟩
set_option maxHeartbeats 8000000 in
set_option maxRecDepth 100000 in
theorem c_X11_dampOf_135 (l : Launch) (G : gG) (q0 : Nat) (qF : Nat → Int) (K0 : Int) (y0_ : bp (plA K0) qF) (hK0 : 1000 ≤ K0 ∧ K0 ≤ 2000000) (sz : Nat) : gI G l yX11_dampOf wsX11_dampOf ({ frames := 0, cells := 0, slots := 0, locals := 0 } : Room) [.ref q0] [(q0, .inl (G.2 0, 135, .inl (cI qF)))] sz (fun (r : Int32) (u : va_W) => (∃ rr : Int, (rr = qF ((28 + (qF 27 % 6)).toNat)) ∧ (0 ≤ rr ∧ rr ≤ K0) ∧ r = (iI rr) ∧ u = [(q0, .inl (G.2 0, 135, .inl (cI qF)))])) := by
  refine Met.ofW (cc := cX11_dampOf) (maxL := 1) (ret := (some .int)) (by decide) rfl ?_
  intro p e s m args below meth c s₁ B hml hv
  obtain ⟨rfl, hsz, hP, hK, hD0, hN, hZ⟩ := hv
  have hx := B.exec
  have hb := B.bytes
  have hr := B.returns
  have hts := atoms_spec (ws := wsX11_dampOf) B.pre
  have hown : s.vm.findClass RX11 = some m.cls := findClass_of_methodNamed B.named
  have hlocks := B.notSynchronized
  subst hsz
  have hD := hD0.self (sz := s.heap.size)
  generalize hAe : va_A [(q0, .inl (G.2 0, 135, .inl (cI qF)))] s.heap.size = A at hD hZ ⊢
  have hA : ∀ q : Nat, s.heap.size ≤ q → A q := fun q h => by rw [← hAe]; exact Or.inr h
  have hS : va_S A s.heap s.heap [] := va_S.rf
  have hP : va_P G.1 vwCl [(q0, .inl (G.2 0, 135, .inl (cI qF)))] s.heap := hP
  have hl := lv_entry ([.ref q0]) (n := 1) (Nat.le_of_ble_eq_true rfl)
  rw [lg_entry_eq]
  generalize (lg_sl ([.ref q0]) ++ List.replicate (1 - (lg_sl ([.ref q0])).length) Slot.unset).toArray = ls at hl ⊢
  have hl : lv_has ls 1 [(0, .ref q0)] := hl
  refine lv_aload_n hx hb dX11_dampOf_0 rfl (lv_at hl 0 rfl) ?_
  refine lv_bipush (v := iI 28) hx hb dX11_dampOf_1 (by decide) ?_
  refine lv_aload_n hx hb dX11_dampOf_3 rfl (lv_at hl 0 rfl) ?_
  refine lv_bipush (v := iI 27) hx hb dX11_dampOf_4 (by decide) ?_
  refine g_ild hx hb hK hP 0 rfl (by omega) (by omega) (by first | exact Nat.le_of_ble_eq_true rfl | omega) dX11_dampOf_6 (fun w_1 ew_1 => ?_)
  have ew_1 : qF 27 = w_1 := ew_1
  subst ew_1
  have bw_1 : 0 ≤ (qF 27) ∧ (qF 27) ≤ K0 := y0_ 27
  refine lv_bipush (v := iI 6) hx hb dX11_dampOf_7 (by decide) ?_
  refine lv_irem hx hb dX11_dampOf_9 (iI_ne0 (by omega) (by omega)) ?_
  refine g_topi (y := iI ((qF 27) % 6)) (iI_rem2 (by omega) (by omega) (by omega) (by omega)) ?_
  refine lv_iadd hx hb dX11_dampOf_10 ?_
  refine g_topi (y := iI (28 + ((qF 27) % 6))) (iI_add 28 ((qF 27) % 6)) ?_
  refine g_ild hx hb hK hP 0 rfl (by omega) (by omega) (by first | exact Nat.le_of_ble_eq_true rfl | omega) dX11_dampOf_11 (fun w_2 ew_2 => ?_)
  have ew_2 : qF ((28 + ((qF 27) % 6)).toNat) = w_2 := ew_2
  subst ew_2
  have bw_2 : 0 ≤ (qF ((28 + ((qF 27) % 6)).toNat)) ∧ (qF ((28 + ((qF 27) % 6)).toNat)) ≤ K0 := ⟨(y0_ _).1, Int.le_trans (y0_ _).2 (plA_le (by omega) _)⟩
  exact g_iret (v := (iI (qF ((28 + ((qF 27) % 6)).toNat)))) hx hb hr hlocks hP hD hS (⟨(qF ((28 + ((qF 27) % 6)).toNat)), (by first | assumption | omega), (by first | assumption | omega), rfl, rfl⟩) dX11_dampOf_12
set_option maxHeartbeats 8000000 in
set_option maxRecDepth 100000 in
theorem c_X11_hardOf_135 (l : Launch) (G : gG) (q0 : Nat) (qF : Nat → Int) (K0 : Int) (p0 : Int) (y0_ : bp (plA K0) qF) (hK0 : 1000 ≤ K0 ∧ K0 ≤ 2000000) (hp : 0 ≤ p0 ∧ p0 ≤ 6) (sz : Nat) : gI G l yX11_hardOf wsX11_hardOf ({ frames := 1, cells := 0, slots := 0, locals := 27 } : Room) [.ref q0, .int (iI p0)] [(q0, .inl (G.2 0, 135, .inl (cI qF)))] sz (fun (r : Int32) (u : va_W) => (∃ rr : Int, (rr = mHard (qF ((34 + p0).toNat)) (qF ((6 + p0).toNat)) (qF ((13 + p0).toNat)) (qF ((28 + (qF 27 % 6)).toNat))) ∧ (0 ≤ rr ∧ rr ≤ 20) ∧ r = (iI rr) ∧ u = [(q0, .inl (G.2 0, 135, .inl (cI qF)))])) := by
  refine Met.ofW (cc := cX11_hardOf) (maxL := 2) (ret := (some .int)) (by decide) rfl ?_
  intro p e s m args below meth c s₁ B hml hv
  obtain ⟨rfl, hsz, hP, hK, hD0, hN, hZ⟩ := hv
  have hx := B.exec
  have hb := B.bytes
  have hr := B.returns
  have hts := atoms_spec (ws := wsX11_hardOf) B.pre
  have hown : s.vm.findClass RX11 = some m.cls := findClass_of_methodNamed B.named
  have hlocks := B.notSynchronized
  subst hsz
  have hD := hD0.self (sz := s.heap.size)
  generalize hAe : va_A [(q0, .inl (G.2 0, 135, .inl (cI qF)))] s.heap.size = A at hD hZ ⊢
  have hA : ∀ q : Nat, s.heap.size ≤ q → A q := fun q h => by rw [← hAe]; exact Or.inr h
  have hS : va_S A s.heap s.heap [] := va_S.rf
  have hP : va_P G.1 vwCl [(q0, .inl (G.2 0, 135, .inl (cI qF)))] s.heap := hP
  have hl := lv_entry ([.ref q0, .int (iI p0)]) (n := 2) (Nat.le_of_ble_eq_true rfl)
  rw [lg_entry_eq]
  generalize (lg_sl ([.ref q0, .int (iI p0)]) ++ List.replicate (2 - (lg_sl ([.ref q0, .int (iI p0)])).length) Slot.unset).toArray = ls at hl ⊢
  have hl : lv_has ls 2 [(0, .ref q0), (1, .int (iI p0))] := hl
  refine lv_aload_n hx hb dX11_hardOf_0 rfl (lv_at hl 0 rfl) ?_
  refine lv_bipush (v := iI 34) hx hb dX11_hardOf_1 (by decide) ?_
  refine lv_iload_n hx hb dX11_hardOf_3 rfl (lv_at hl 1 rfl) ?_
  refine lv_iadd hx hb dX11_hardOf_4 ?_
  refine g_topi (y := iI (34 + p0)) (iI_add 34 p0) ?_
  refine g_ild hx hb hK hP 0 rfl (by omega) (by omega) (by first | exact Nat.le_of_ble_eq_true rfl | omega) dX11_hardOf_5 (fun w_1 ew_1 => ?_)
  have ew_1 : qF ((34 + p0).toNat) = w_1 := ew_1
  subst ew_1
  have bw_1 : 0 ≤ (qF ((34 + p0).toNat)) ∧ (qF ((34 + p0).toNat)) ≤ K0 := ⟨(y0_ _).1, Int.le_trans (y0_ _).2 (plA_le (by omega) _)⟩
  refine lv_aload_n hx hb dX11_hardOf_6 rfl (lv_at hl 0 rfl) ?_
  refine lv_bipush (v := iI 6) hx hb dX11_hardOf_7 (by decide) ?_
  refine lv_iload_n hx hb dX11_hardOf_9 rfl (lv_at hl 1 rfl) ?_
  refine lv_iadd hx hb dX11_hardOf_10 ?_
  refine g_topi (y := iI (6 + p0)) (iI_add 6 p0) ?_
  refine g_ild hx hb hK hP 0 rfl (by omega) (by omega) (by first | exact Nat.le_of_ble_eq_true rfl | omega) dX11_hardOf_11 (fun w_2 ew_2 => ?_)
  have ew_2 : qF ((6 + p0).toNat) = w_2 := ew_2
  subst ew_2
  have bw_2 : 0 ≤ (qF ((6 + p0).toNat)) ∧ (qF ((6 + p0).toNat)) ≤ 30 := ⟨(y0_ _).1, Int.le_trans (y0_ _).2 (plAu_T (by omega) (by omega))⟩
  refine lv_aload_n hx hb dX11_hardOf_12 rfl (lv_at hl 0 rfl) ?_
  refine lv_bipush (v := iI 13) hx hb dX11_hardOf_13 (by decide) ?_
  refine lv_iload_n hx hb dX11_hardOf_15 rfl (lv_at hl 1 rfl) ?_
  refine lv_iadd hx hb dX11_hardOf_16 ?_
  refine g_topi (y := iI (13 + p0)) (iI_add 13 p0) ?_
  refine g_ild hx hb hK hP 0 rfl (by omega) (by omega) (by first | exact Nat.le_of_ble_eq_true rfl | omega) dX11_hardOf_17 (fun w_3 ew_3 => ?_)
  have ew_3 : qF ((13 + p0).toNat) = w_3 := ew_3
  subst ew_3
  have bw_3 : 0 ≤ (qF ((13 + p0).toNat)) ∧ (qF ((13 + p0).toNat)) ≤ K0 := ⟨(y0_ _).1, Int.le_trans (y0_ _).2 (plA_le (by omega) _)⟩
  refine lv_aload_n hx hb dX11_hardOf_18 rfl (lv_at hl 0 rfl) ?_
  refine g_calli (wr := []) (va_runS (As := [.ref q0]) (rest := [.int (iI (qF ((13 + p0).toNat))), .int (iI (qF ((6 + p0).toNat))), .int (iI (qF ((34 + p0).toNat)))]) ⟨hx, hb, hml, hown, hts⟩ (c_X11_dampOf_135 l G (q0) (qF) (K0) (by first | exact y0_ | exact bpA_mono y0_ (by omega) | assumption) (by first | exact hK0 | assumption | omega) _) (va_cwS 1 hts gX11_hardOf_X11_dampOf rfl rfl rfl (by decide +kernel) ⟨Nat.le_of_ble_eq_true rfl, Nat.le_of_ble_eq_true rfl⟩) (g_preS [.ref q0] hP hD hK hN hS hA hZ [0] rfl rfl) rfl rfl hl.1 rfl (lv_room (Nat.le_of_ble_eq_true rfl)) dX11_hardOf_19 ⟨Nat.le_of_ble_eq_true rfl, Nat.le_of_ble_eq_true rfl⟩) hP hD hS hA [0] [] rfl rfl rfl (by decide) (fun r_4 u H locs hw hP hD hS => ?_)
  obtain ⟨rr_5, rfl, k_6, rfl, rfl⟩ := hw
  have hP : va_P G.1 vwCl [(q0, .inl (G.2 0, 135, .inl (cI qF)))] H := hP
  have hD : va_D A [(q0, .inl (G.2 0, 135, .inl (cI qF)))] := hD
  refine g_calli (wr := [(q0, .inl (G.2 0, 135, .inl (cI qF)))]) (va_runS (As := [.int (iI (qF ((34 + p0).toNat))), .int (iI (qF ((6 + p0).toNat))), .int (iI (qF ((13 + p0).toNat))), .int (iI (qF ((28 + (qF 27 % 6)).toNat)))]) (rest := []) ⟨hx, hb, hml, hown, hts⟩ (c_X11_hardAs l G ((qF ((34 + p0).toNat))) ((qF ((6 + p0).toNat))) ((qF ((13 + p0).toNat))) ((qF ((28 + (qF 27 % 6)).toNat))) (by first | assumption | omega) (by first | assumption | omega) (by first | assumption | omega) (by first | assumption | omega) _) (va_cwS 4 hts gX11_hardOf_X11_hardAs rfl rfl rfl (by decide +kernel) ⟨Nat.le_of_ble_eq_true rfl, Nat.le_of_ble_eq_true rfl⟩) (g_preS [.int (iI (qF ((34 + p0).toNat))), .int (iI (qF ((6 + p0).toNat))), .int (iI (qF ((13 + p0).toNat))), .int (iI (qF ((28 + (qF 27 % 6)).toNat)))] hP hD hK hN hS hA hZ [] rfl rfl) rfl rfl hl.1 rfl (lv_room (Nat.le_of_ble_eq_true rfl)) dX11_hardOf_22 ⟨Nat.le_of_ble_eq_true rfl, Nat.le_of_ble_eq_true rfl⟩) hP hD hS hA [] [0] rfl rfl rfl (by decide) (fun r_7 u H locs hw hP hD hS => ?_)
  obtain ⟨rr_8, rfl, k_9, rfl, rfl⟩ := hw
  have hP : va_P G.1 vwCl [(q0, .inl (G.2 0, 135, .inl (cI qF)))] H := hP
  have hD : va_D A [(q0, .inl (G.2 0, 135, .inl (cI qF)))] := hD
  exact g_iret (v := (iI (mHard (qF ((34 + p0).toNat)) (qF ((6 + p0).toNat)) (qF ((13 + p0).toNat)) (qF ((28 + (qF 27 % 6)).toNat))))) hx hb hr hlocks hP hD hS (⟨(mHard (qF ((34 + p0).toNat)) (qF ((6 + p0).toNat)) (qF ((13 + p0).toNat)) (qF ((28 + (qF 27 % 6)).toNat))), (by first | assumption | omega), (by first | exact k_9 | assumption | omega), rfl, rfl⟩) dX11_hardOf_25
set_option maxHeartbeats 8000000 in
set_option maxRecDepth 100000 in
theorem c_X11_isOut_135 (l : Launch) (G : gG) (q0 : Nat) (qF : Nat → Int) (K0 : Int) (p0 : Int) (y0_ : bp (plA K0) qF) (hK0 : 1000 ≤ K0 ∧ K0 ≤ 2000000) (hp : 0 ≤ p0 ∧ p0 ≤ 6) (sz : Nat) : gI G l yX11_isOut wsX11_isOut ({ frames := 0, cells := 0, slots := 0, locals := 0 } : Room) [.ref q0, .int (iI p0)] [(q0, .inl (G.2 0, 135, .inl (cI qF)))] sz (fun (r : Int32) (u : va_W) => (∃ rr : Int, ((rr = 0 ∧ qF ((20 + p0).toNat) = 0) ∨ (rr = 1 ∧ ¬ (qF ((20 + p0).toNat) = 0))) ∧ r = (iI rr) ∧ u = [(q0, .inl (G.2 0, 135, .inl (cI qF)))])) := by
  refine Met.ofW (cc := cX11_isOut) (maxL := 2) (ret := (some .boolean)) (by decide) rfl ?_
  intro p e s m args below meth c s₁ B hml hv
  obtain ⟨rfl, hsz, hP, hK, hD0, hN, hZ⟩ := hv
  have hx := B.exec
  have hb := B.bytes
  have hr := B.returns
  have hts := atoms_spec (ws := wsX11_isOut) B.pre
  have hown : s.vm.findClass RX11 = some m.cls := findClass_of_methodNamed B.named
  have hlocks := B.notSynchronized
  subst hsz
  have hD := hD0.self (sz := s.heap.size)
  generalize hAe : va_A [(q0, .inl (G.2 0, 135, .inl (cI qF)))] s.heap.size = A at hD hZ ⊢
  have hA : ∀ q : Nat, s.heap.size ≤ q → A q := fun q h => by rw [← hAe]; exact Or.inr h
  have hS : va_S A s.heap s.heap [] := va_S.rf
  have hP : va_P G.1 vwCl [(q0, .inl (G.2 0, 135, .inl (cI qF)))] s.heap := hP
  have hl := lv_entry ([.ref q0, .int (iI p0)]) (n := 2) (Nat.le_of_ble_eq_true rfl)
  rw [lg_entry_eq]
  generalize (lg_sl ([.ref q0, .int (iI p0)]) ++ List.replicate (2 - (lg_sl ([.ref q0, .int (iI p0)])).length) Slot.unset).toArray = ls at hl ⊢
  have hl : lv_has ls 2 [(0, .ref q0), (1, .int (iI p0))] := hl
  refine lv_aload_n hx hb dX11_isOut_0 rfl (lv_at hl 0 rfl) ?_
  refine lv_bipush (v := iI 20) hx hb dX11_isOut_1 (by decide) ?_
  refine lv_iload_n hx hb dX11_isOut_3 rfl (lv_at hl 1 rfl) ?_
  refine lv_iadd hx hb dX11_isOut_4 ?_
  refine g_topi (y := iI (20 + p0)) (iI_add 20 p0) ?_
  refine g_ild hx hb hK hP 0 rfl (by omega) (by omega) (by first | exact Nat.le_of_ble_eq_true rfl | omega) dX11_isOut_5 (fun w_1 ew_1 => ?_)
  have ew_1 : qF ((20 + p0).toNat) = w_1 := ew_1
  subst ew_1
  have bw_1 : 0 ≤ (qF ((20 + p0).toNat)) ∧ (qF ((20 + p0).toNat)) ≤ K0 := ⟨(y0_ _).1, Int.le_trans (y0_ _).2 (plA_le (by omega) _)⟩
  refine lv_if_eq (tgt := 13) hx hb dX11_isOut_6 (by decide) (fun c_2 => ?_) (fun c_2 => ?_)
  · have c_2 := (iI_eq (a := (qF ((20 + p0).toNat))) (b := 0) (by omega) (by first | decide | omega)).mp c_2
    refine lv_iconst (v := iI 0) hx hb dX11_isOut_13 rfl ?_
    exact g_zret (v := (iI 0)) hx hb hr hlocks rfl hP hD hS (⟨0, (by first | assumption | omega), rfl, rfl⟩) dX11_isOut_14
  · have c_2 : ¬ ((qF ((20 + p0).toNat)) = 0) := fun h9 => c_2 ((iI_eq (a := (qF ((20 + p0).toNat))) (b := 0) (by omega) (by first | decide | omega)).mpr h9)
    refine lv_iconst (v := iI 1) hx hb dX11_isOut_9 rfl ?_
    refine lv_goto (tgt := 14) hx hb dX11_isOut_10 (by decide) ?_
    exact g_zret (v := (iI 1)) hx hb hr hlocks rfl hP hD hS (⟨1, (by first | assumption | omega), rfl, rfl⟩) dX11_isOut_14
set_option maxHeartbeats 8000000 in
set_option maxRecDepth 100000 in
theorem c_X11_takesOff_135 (l : Launch) (G : gG) (q0 : Nat) (qF : Nat → Int) (K0 : Int) (bb0 : Int) (p0 : Int) (y0_ : bp (plA K0) qF) (hK0 : 1000 ≤ K0 ∧ K0 ≤ 2000000) (hp : 0 ≤ p0 ∧ p0 ≤ 6) (hb0 : 0 ≤ bb0 ∧ bb0 ≤ 3) (hft : qF ((20 + p0).toNat) = 0) (sz : Nat) : gI G l yX11_takesOff wsX11_takesOff ({ frames := 2, cells := 0, slots := 0, locals := 48 } : Room) [.ref q0, .int (iI bb0), .int (iI p0)] [(q0, .inl (G.2 0, 135, .inl (cI qF)))] sz (fun (r : Int32) (u : va_W) => (∃ rr : Int, (rr = sOff qF bb0 p0) ∧ (0 ≤ rr ∧ rr ≤ 30) ∧ (rr ≤ qF (6 + p0).toNat) ∧ r = (iI rr) ∧ u = [(q0, .inl (G.2 0, 135, .inl (cI qF)))])) := by
  refine Met.ofW (cc := cX11_takesOff) (maxL := 4) (ret := (some .int)) (by decide) rfl ?_
  intro p e s m args below meth c s₁ B hml hv
  obtain ⟨rfl, hsz, hP, hK, hD0, hN, hZ⟩ := hv
  have hx := B.exec
  have hb := B.bytes
  have hr := B.returns
  have hts := atoms_spec (ws := wsX11_takesOff) B.pre
  have hown : s.vm.findClass RX11 = some m.cls := findClass_of_methodNamed B.named
  have hlocks := B.notSynchronized
  subst hsz
  have hD := hD0.self (sz := s.heap.size)
  generalize hAe : va_A [(q0, .inl (G.2 0, 135, .inl (cI qF)))] s.heap.size = A at hD hZ ⊢
  have hA : ∀ q : Nat, s.heap.size ≤ q → A q := fun q h => by rw [← hAe]; exact Or.inr h
  have hS : va_S A s.heap s.heap [] := va_S.rf
  have hP : va_P G.1 vwCl [(q0, .inl (G.2 0, 135, .inl (cI qF)))] s.heap := hP
  have hl := lv_entry ([.ref q0, .int (iI bb0), .int (iI p0)]) (n := 4) (Nat.le_of_ble_eq_true rfl)
  rw [lg_entry_eq]
  generalize (lg_sl ([.ref q0, .int (iI bb0), .int (iI p0)]) ++ List.replicate (4 - (lg_sl ([.ref q0, .int (iI bb0), .int (iI p0)])).length) Slot.unset).toArray = ls at hl ⊢
  have hl : lv_has ls 4 [(0, .ref q0), (1, .int (iI bb0)), (2, .int (iI p0))] := hl
  refine lv_aload_n hx hb dX11_takesOff_0 rfl (lv_at hl 0 rfl) ?_
  refine lv_bipush (v := iI 48) hx hb dX11_takesOff_1 (by decide) ?_
  refine lv_iload_n hx hb dX11_takesOff_3 rfl (lv_at hl 1 rfl) ?_
  refine lv_iadd hx hb dX11_takesOff_4 ?_
  refine g_topi (y := iI (48 + bb0)) (iI_add 48 bb0) ?_
  refine g_ild hx hb hK hP 0 rfl (by omega) (by omega) (by first | exact Nat.le_of_ble_eq_true rfl | omega) dX11_takesOff_5 (fun w_1 ew_1 => ?_)
  have ew_1 : qF ((48 + bb0).toNat) = w_1 := ew_1
  subst ew_1
  have bw_1 : 0 ≤ (qF ((48 + bb0).toNat)) ∧ (qF ((48 + bb0).toNat)) ≤ K0 := ⟨(y0_ _).1, Int.le_trans (y0_ _).2 (plA_le (by omega) _)⟩
  refine lv_aload_n hx hb dX11_takesOff_6 rfl (lv_at hl 0 rfl) ?_
  refine lv_bipush (v := iI 52) hx hb dX11_takesOff_7 (by decide) ?_
  refine lv_iload_n hx hb dX11_takesOff_9 rfl (lv_at hl 1 rfl) ?_
  refine lv_iadd hx hb dX11_takesOff_10 ?_
  refine g_topi (y := iI (52 + bb0)) (iI_add 52 bb0) ?_
  refine g_ild hx hb hK hP 0 rfl (by omega) (by omega) (by first | exact Nat.le_of_ble_eq_true rfl | omega) dX11_takesOff_11 (fun w_2 ew_2 => ?_)
  have ew_2 : qF ((52 + bb0).toNat) = w_2 := ew_2
  subst ew_2
  have bw_2 : 0 ≤ (qF ((52 + bb0).toNat)) ∧ (qF ((52 + bb0).toNat)) ≤ K0 := ⟨(y0_ _).1, Int.le_trans (y0_ _).2 (plA_le (by omega) _)⟩
  refine lv_aload_n hx hb dX11_takesOff_12 rfl (lv_at hl 0 rfl) ?_
  refine lv_iload_n hx hb dX11_takesOff_13 rfl (lv_at hl 2 rfl) ?_
  refine g_calli (wr := []) (va_runS (As := [.ref q0, .int (iI p0)]) (rest := [.int (iI (qF ((52 + bb0).toNat))), .int (iI (qF ((48 + bb0).toNat)))]) ⟨hx, hb, hml, hown, hts⟩ (c_X11_hardOf_135 l G (q0) (qF) (K0) (p0) (by first | exact y0_ | exact bpA_mono y0_ (by omega) | assumption) (by first | exact hK0 | assumption | omega) (by first | exact hp | assumption | omega) _) (va_cwS 2 hts gX11_takesOff_X11_hardOf rfl rfl rfl (by decide +kernel) ⟨Nat.le_of_ble_eq_true rfl, Nat.le_of_ble_eq_true rfl⟩) (g_preS [.ref q0, .int (iI p0)] hP hD hK hN hS hA hZ [0] rfl rfl) rfl rfl hl.1 rfl (lv_room (Nat.le_of_ble_eq_true rfl)) dX11_takesOff_14 ⟨Nat.le_of_ble_eq_true rfl, Nat.le_of_ble_eq_true rfl⟩) hP hD hS hA [0] [] rfl rfl rfl (by decide) (fun r_3 u H locs hw hP hD hS => ?_)
  obtain ⟨rr_4, rfl, k_5, rfl, rfl⟩ := hw
  have hP : va_P G.1 vwCl [(q0, .inl (G.2 0, 135, .inl (cI qF)))] H := hP
  have hD : va_D A [(q0, .inl (G.2 0, 135, .inl (cI qF)))] := hD
  refine g_calli (wr := [(q0, .inl (G.2 0, 135, .inl (cI qF)))]) (va_runS (As := [.int (iI (qF ((48 + bb0).toNat))), .int (iI (qF ((52 + bb0).toNat))), .int (iI (mHard (qF ((34 + p0).toNat)) (qF ((6 + p0).toNat)) (qF ((13 + p0).toNat)) (qF ((28 + (qF 27 % 6)).toNat))))]) (rest := []) ⟨hx, hb, hml, hown, hts⟩ (c_X11_takesAs l G ((qF ((48 + bb0).toNat))) ((qF ((52 + bb0).toNat))) ((mHard (qF ((34 + p0).toNat)) (qF ((6 + p0).toNat)) (qF ((13 + p0).toNat)) (qF ((28 + (qF 27 % 6)).toNat)))) (by first | assumption | omega) (by first | assumption | omega) (by first | assumption | omega) _) (va_cwS 3 hts gX11_takesOff_X11_takesAs rfl rfl rfl (by decide +kernel) ⟨Nat.le_of_ble_eq_true rfl, Nat.le_of_ble_eq_true rfl⟩) (g_preS [.int (iI (qF ((48 + bb0).toNat))), .int (iI (qF ((52 + bb0).toNat))), .int (iI (mHard (qF ((34 + p0).toNat)) (qF ((6 + p0).toNat)) (qF ((13 + p0).toNat)) (qF ((28 + (qF 27 % 6)).toNat))))] hP hD hK hN hS hA hZ [] rfl rfl) rfl rfl hl.1 rfl (lv_room (Nat.le_of_ble_eq_true rfl)) dX11_takesOff_17 ⟨Nat.le_of_ble_eq_true rfl, Nat.le_of_ble_eq_true rfl⟩) hP hD hS hA [] [0] rfl rfl rfl (by decide) (fun r_6 u H locs hw hP hD hS => ?_)
  obtain ⟨rr_7, rfl, k_8, rfl, rfl⟩ := hw
  have hP : va_P G.1 vwCl [(q0, .inl (G.2 0, 135, .inl (cI qF)))] H := hP
  have hD : va_D A [(q0, .inl (G.2 0, 135, .inl (cI qF)))] := hD
  refine lv_istore_n (lv' := [(3, .int (iI (mTake (qF ((48 + bb0).toNat)) (qF ((52 + bb0).toNat)) (mHard (qF ((34 + p0).toNat)) (qF ((6 + p0).toNat)) (qF ((13 + p0).toNat)) (qF ((28 + (qF 27 % 6)).toNat)))))), (0, .ref q0), (1, .int (iI bb0)), (2, .int (iI p0))]) hx hb dX11_takesOff_20 rfl hl (by decide) rfl (fun ls hl => ?_)
  refine lv_aload_n hx hb dX11_takesOff_21 rfl (lv_at hl 1 rfl) ?_
  refine lv_iload_n hx hb dX11_takesOff_22 rfl (lv_at hl 3 rfl) ?_
  refine g_calli (wr := []) (va_runS (As := [.ref q0, .int (iI p0)]) (rest := []) ⟨hx, hb, hml, hown, hts⟩ (c_X11_isOut_135 l G (q0) (qF) (K0) (p0) (by first | exact y0_ | exact bpA_mono y0_ (by omega) | assumption) (by first | exact hK0 | assumption | omega) (by first | exact hp | assumption | omega) _) (va_cwS 2 hts gX11_takesOff_X11_isOut rfl rfl rfl (by decide +kernel) ⟨Nat.le_of_ble_eq_true rfl, Nat.le_of_ble_eq_true rfl⟩) (g_preS [.ref q0, .int (iI p0)] hP hD hK hN hS hA hZ [0] rfl rfl) rfl rfl hl.1 rfl (lv_room (Nat.le_of_ble_eq_true rfl)) dX11_takesOff_23 ⟨Nat.le_of_ble_eq_true rfl, Nat.le_of_ble_eq_true rfl⟩) hP hD hS hA [0] [] rfl rfl rfl (by decide) (fun r_9 u H locs hw hP hD hS => ?_)
  refine ea_1_3 hw (fun rr_10 k_11 e8_0 e8_1 => ?_)
  subst e8_0
  subst e8_1
  clear hw
  have hP : va_P G.1 vwCl [(q0, .inl (G.2 0, 135, .inl (cI qF)))] H := hP
  have hD : va_D A [(q0, .inl (G.2 0, 135, .inl (cI qF)))] := hD
  refine lv_if_eq (tgt := 33) hx hb dX11_takesOff_26 (by decide) (fun c_12 => ?_) (fun c_12 => ?_)
  · have c_12 := (iI_eq (a := rr_10) (b := 0) (by omega) (by first | decide | omega)).mp c_12
    refine lv_iload_n hx hb dX11_takesOff_33 rfl (lv_at hl 0 rfl) ?_
    refine lv_aload_n hx hb dX11_takesOff_34 rfl (lv_at hl 1 rfl) ?_
    refine lv_bipush (v := iI 6) hx hb dX11_takesOff_35 (by decide) ?_
    refine lv_iload_n hx hb dX11_takesOff_37 rfl (lv_at hl 3 rfl) ?_
    refine lv_iadd hx hb dX11_takesOff_38 ?_
    refine g_topi (y := iI (6 + p0)) (iI_add 6 p0) ?_
    refine g_ild hx hb hK hP 0 rfl (by omega) (by omega) (by first | exact Nat.le_of_ble_eq_true rfl | omega) dX11_takesOff_39 (fun w_13 ew_13 => ?_)
    have ew_13 : qF ((6 + p0).toNat) = w_13 := ew_13
    subst ew_13
    have bw_13 : 0 ≤ (qF ((6 + p0).toNat)) ∧ (qF ((6 + p0).toNat)) ≤ 30 := ⟨(y0_ _).1, Int.le_trans (y0_ _).2 (plAu_T (by omega) (by omega))⟩
    refine lv_icmp_ge (tgt := 47) hx hb dX11_takesOff_40 (by decide) (fun c_14 => ?_) (fun c_14 => ?_)
    · have c_14 := (iI_le (a := (qF ((6 + p0).toNat))) (b := (mTake (qF ((48 + bb0).toNat)) (qF ((52 + bb0).toNat)) (mHard (qF ((34 + p0).toNat)) (qF ((6 + p0).toNat)) (qF ((13 + p0).toNat)) (qF ((28 + (qF 27 % 6)).toNat))))) (by omega) (by omega)).mp c_14
      refine lv_aload_n hx hb dX11_takesOff_47 rfl (lv_at hl 1 rfl) ?_
      refine lv_bipush (v := iI 6) hx hb dX11_takesOff_48 (by decide) ?_
      refine lv_iload_n hx hb dX11_takesOff_50 rfl (lv_at hl 3 rfl) ?_
      refine lv_iadd hx hb dX11_takesOff_51 ?_
      refine g_topi (y := iI (6 + p0)) (iI_add 6 p0) ?_
      refine g_ild hx hb hK hP 0 rfl (by omega) (by omega) (by first | exact Nat.le_of_ble_eq_true rfl | omega) dX11_takesOff_52 (fun w_15 ew_15 => ?_)
      have ew_15 : qF ((6 + p0).toNat) = w_15 := ew_15
      subst ew_15
      have bw_15 : 0 ≤ (qF ((6 + p0).toNat)) ∧ (qF ((6 + p0).toNat)) ≤ 30 := ⟨(y0_ _).1, Int.le_trans (y0_ _).2 (plAu_T (by omega) (by omega))⟩
      exact g_iret (v := (iI (qF ((6 + p0).toNat)))) hx hb hr hlocks hP hD hS (⟨(qF ((6 + p0).toNat)), (by unfold sOff mOff; omega), (by first | assumption | omega), (by first | assumption | omega), rfl, rfl⟩) dX11_takesOff_53
    · have c_14 : ¬ ((qF ((6 + p0).toNat)) ≤ (mTake (qF ((48 + bb0).toNat)) (qF ((52 + bb0).toNat)) (mHard (qF ((34 + p0).toNat)) (qF ((6 + p0).toNat)) (qF ((13 + p0).toNat)) (qF ((28 + (qF 27 % 6)).toNat))))) := fun h9 => c_14 ((iI_le (a := (qF ((6 + p0).toNat))) (b := (mTake (qF ((48 + bb0).toNat)) (qF ((52 + bb0).toNat)) (mHard (qF ((34 + p0).toNat)) (qF ((6 + p0).toNat)) (qF ((13 + p0).toNat)) (qF ((28 + (qF 27 % 6)).toNat))))) (by omega) (by omega)).mpr h9)
      refine lv_iload_n hx hb dX11_takesOff_43 rfl (lv_at hl 0 rfl) ?_
      refine lv_goto (tgt := 53) hx hb dX11_takesOff_44 (by decide) ?_
      exact g_iret (v := (iI (mTake (qF ((48 + bb0).toNat)) (qF ((52 + bb0).toNat)) (mHard (qF ((34 + p0).toNat)) (qF ((6 + p0).toNat)) (qF ((13 + p0).toNat)) (qF ((28 + (qF 27 % 6)).toNat)))))) hx hb hr hlocks hP hD hS (⟨(mTake (qF ((48 + bb0).toNat)) (qF ((52 + bb0).toNat)) (mHard (qF ((34 + p0).toNat)) (qF ((6 + p0).toNat)) (qF ((13 + p0).toNat)) (qF ((28 + (qF 27 % 6)).toNat)))), (by unfold sOff mOff; omega), (by first | assumption | omega), (by first | assumption | omega), rfl, rfl⟩) dX11_takesOff_53
  · have c_12 : ¬ (rr_10 = 0) := fun h9 => c_12 ((iI_eq (a := rr_10) (b := 0) (by omega) (by first | decide | omega)).mpr h9)
    exfalso
    omega
set_option maxHeartbeats 8000000 in
set_option maxRecDepth 100000 in
theorem c_X11_goBite_135 (l : Launch) (G : gG) (q0 : Nat) (qF : Nat → Int) (K0 : Int) (bb0 : Int) (p0 : Int) (y0_ : bp (plA K0) qF) (hK0 : 1000 ≤ K0 ∧ K0 ≤ 2000000) (hp : 0 ≤ p0 ∧ p0 ≤ 6) (hb0 : 0 ≤ bb0 ∧ bb0 ≤ 3) (hft : qF ((20 + p0).toNat) = 0) (sz : Nat) : gV G l yX11_goBite wsX11_goBite ({ frames := 3, cells := 0, slots := 0, locals := 71 } : Room) [.ref q0, .int (iI bb0), .int (iI p0)] [(q0, .inl (G.2 0, 135, .inl (cI qF)))] sz (fun (u : va_W) => (∃ Nq : Nat → Int, (Nq = sBite qF bb0 p0) ∧ (bp (plA K0) Nq) ∧ u = [(q0, .inl (G.2 0, 135, .inl (cI Nq)))])) := by
  refine Met.ofW (cc := cX11_goBite) (maxL := 3) (ret := none) (by decide) rfl ?_
  intro p e s m args below meth c s₁ B hml hv
  obtain ⟨rfl, hsz, hP, hK, hD0, hN, hZ⟩ := hv
  have hx := B.exec
  have hb := B.bytes
  have hr := B.returns
  have hts := atoms_spec (ws := wsX11_goBite) B.pre
  have hown : s.vm.findClass RX11 = some m.cls := findClass_of_methodNamed B.named
  have hlocks := B.notSynchronized
  subst hsz
  have hD := hD0.self (sz := s.heap.size)
  generalize hAe : va_A [(q0, .inl (G.2 0, 135, .inl (cI qF)))] s.heap.size = A at hD hZ ⊢
  have hA : ∀ q : Nat, s.heap.size ≤ q → A q := fun q h => by rw [← hAe]; exact Or.inr h
  have hS : va_S A s.heap s.heap [] := va_S.rf
  have hP : va_P G.1 vwCl [(q0, .inl (G.2 0, 135, .inl (cI qF)))] s.heap := hP
  have hl := lv_entry ([.ref q0, .int (iI bb0), .int (iI p0)]) (n := 3) (Nat.le_of_ble_eq_true rfl)
  rw [lg_entry_eq]
  generalize (lg_sl ([.ref q0, .int (iI bb0), .int (iI p0)]) ++ List.replicate (3 - (lg_sl ([.ref q0, .int (iI bb0), .int (iI p0)])).length) Slot.unset).toArray = ls at hl ⊢
  have hl : lv_has ls 3 [(0, .ref q0), (1, .int (iI bb0)), (2, .int (iI p0))] := hl
  refine lv_aload_n hx hb dX11_goBite_0 rfl (lv_at hl 0 rfl) ?_
  refine lv_bipush (v := iI 6) hx hb dX11_goBite_1 (by decide) ?_
  refine lv_iload_n hx hb dX11_goBite_3 rfl (lv_at hl 2 rfl) ?_
  refine lv_iadd hx hb dX11_goBite_4 ?_
  refine g_topi (y := iI (6 + p0)) (iI_add 6 p0) ?_
  refine lv_dup2_11 hx hb dX11_goBite_5 rfl rfl ?_
  refine g_ild hx hb hK hP 0 rfl (by omega) (by omega) (by first | exact Nat.le_of_ble_eq_true rfl | omega) dX11_goBite_6 (fun w_1 ew_1 => ?_)
  have ew_1 : qF ((6 + p0).toNat) = w_1 := ew_1
  subst ew_1
  have bw_1 : 0 ≤ (qF ((6 + p0).toNat)) ∧ (qF ((6 + p0).toNat)) ≤ 30 := ⟨(y0_ _).1, Int.le_trans (y0_ _).2 (plAu_T (by omega) (by omega))⟩
  refine lv_aload_n hx hb dX11_goBite_7 rfl (lv_at hl 0 rfl) ?_
  refine lv_iload_n hx hb dX11_goBite_8 rfl (lv_at hl 1 rfl) ?_
  refine lv_iload_n hx hb dX11_goBite_9 rfl (lv_at hl 2 rfl) ?_
  refine g_calli (wr := []) (va_runS (As := [.ref q0, .int (iI bb0), .int (iI p0)]) (rest := [.int (iI (qF ((6 + p0).toNat))), .int (iI (6 + p0)), .ref q0]) ⟨hx, hb, hml, hown, hts⟩ (c_X11_takesOff_135 l G (q0) (qF) (K0) (bb0) (p0) (by first | exact y0_ | exact bpA_mono y0_ (by omega) | assumption) (by first | exact hK0 | assumption | omega) (by first | exact hp | assumption | omega) (by first | exact hb0 | assumption | omega) (by first | exact hft | assumption | omega) _) (va_cwS 3 hts gX11_goBite_X11_takesOff rfl rfl rfl (by decide +kernel) ⟨Nat.le_of_ble_eq_true rfl, Nat.le_of_ble_eq_true rfl⟩) (g_preS [.ref q0, .int (iI bb0), .int (iI p0)] hP hD hK hN hS hA hZ [0] rfl rfl) rfl rfl hl.1 rfl (lv_room (Nat.le_of_ble_eq_true rfl)) dX11_goBite_10 ⟨Nat.le_of_ble_eq_true rfl, Nat.le_of_ble_eq_true rfl⟩) hP hD hS hA [0] [] rfl rfl rfl (by decide) (fun r_2 u H locs hw hP hD hS => ?_)
  obtain ⟨rr_3, rfl, k_4, k_5, rfl, rfl⟩ := hw
  have hP : va_P G.1 vwCl [(q0, .inl (G.2 0, 135, .inl (cI qF)))] H := hP
  have hD : va_D A [(q0, .inl (G.2 0, 135, .inl (cI qF)))] := hD
  refine lv_isub hx hb dX11_goBite_13 ?_
  refine g_topi (y := iI ((qF ((6 + p0).toNat)) - (sOff qF bb0 p0))) (iI_sub (qF ((6 + p0).toNat)) (sOff qF bb0 p0)) ?_
  refine g_ist hx hb hK hP hD hS 0 rfl (by omega) (by omega) (by first | exact Nat.le_of_ble_eq_true rfl | omega) dX11_goBite_14 (fun H locs hP hD hS => ?_)
  have hk_7 := bp_u (h := plA K0) (k := ((6 + p0).toNat)) (v := ((qF ((6 + p0).toNat)) - (sOff qF bb0 p0))) y0_ (by omega) (Int.le_trans (show ((qF ((6 + p0).toNat)) - (sOff qF bb0 p0)) ≤ 30 by omega) (plAl_T (by omega) (by omega)))
  have hPD : PD G A H [(q0, .inl (G.2 0, 135, .inl (cI (uI qF ((6 + p0).toNat) ((qF ((6 + p0).toNat)) - (sOff qF bb0 p0))))))] := ⟨hP, hD⟩
  have hP := hPD.1
  have hD := hPD.2
  clear hPD
  refine lv_aload_n hx hb dX11_goBite_15 rfl (lv_at hl 0 rfl) ?_
  refine lv_bipush (v := iI 6) hx hb dX11_goBite_16 (by decide) ?_
  refine lv_iload_n hx hb dX11_goBite_18 rfl (lv_at hl 2 rfl) ?_
  refine lv_iadd hx hb dX11_goBite_19 ?_
  refine g_topi (y := iI (6 + p0)) (iI_add 6 p0) ?_
  refine g_ild hx hb hK hP 0 rfl (by omega) (by omega) (by first | exact Nat.le_of_ble_eq_true rfl | omega) dX11_goBite_20 (fun w_8 ew_8 => ?_)
  have ew_8 : (uI qF ((6 + p0).toNat) ((qF ((6 + p0).toNat)) - (sOff qF bb0 p0))) ((6 + p0).toNat) = w_8 := ew_8
  rw [uI_eq] at ew_8
  subst ew_8
  refine lv_if_ne (tgt := 58) hx hb dX11_goBite_21 (by decide) (fun c_9 => ?_) (fun c_9 => ?_)
  · have c_9 : ¬ (((qF ((6 + p0).toNat)) - (sOff qF bb0 p0)) = 0) := fun h9 => c_9 ((iI_eq (a := ((qF ((6 + p0).toNat)) - (sOff qF bb0 p0))) (b := 0) (by omega) (by first | decide | omega)).mpr h9)
    exact g_vret hx hb hr hlocks hP hD hS (⟨(uI qF ((6 + p0).toNat) ((qF ((6 + p0).toNat)) - (sOff qF bb0 p0))), (sBite_a (by omega) (by omega) (by omega) rfl), (by first | exact hk_7 | exact bpA_mono hk_7 (by omega) | assumption), rfl⟩) dX11_goBite_58
  · have c_9 := (iI_eq (a := ((qF ((6 + p0).toNat)) - (sOff qF bb0 p0))) (b := 0) (by omega) (by first | decide | omega)).mp c_9
    have hz9 : (uI qF ((6 + p0).toNat) ((qF ((6 + p0).toNat)) - (sOff qF bb0 p0))) ((20 + p0).toNat) = 0 := by rw [uI_ne (by omega)]; exact hft
    refine lv_aload_n hx hb dX11_goBite_24 rfl (lv_at hl 0 rfl) ?_
    refine lv_iload_n hx hb dX11_goBite_25 rfl (lv_at hl 2 rfl) ?_
    refine g_calli (wr := []) (va_runS (As := [.ref q0, .int (iI p0)]) (rest := []) ⟨hx, hb, hml, hown, hts⟩ (c_X11_isOut_135 l G (q0) ((uI qF ((6 + p0).toNat) ((qF ((6 + p0).toNat)) - (sOff qF bb0 p0)))) (K0) (p0) (by first | exact hk_7 | exact bpA_mono hk_7 (by omega) | assumption) (by first | exact hK0 | assumption | omega) (by first | exact hp | assumption | omega) _) (va_cwS 2 hts gX11_goBite_X11_isOut rfl rfl rfl (by decide +kernel) ⟨Nat.le_of_ble_eq_true rfl, Nat.le_of_ble_eq_true rfl⟩) (g_preS [.ref q0, .int (iI p0)] hP hD hK hN hS hA hZ [0] rfl rfl) rfl rfl hl.1 rfl (lv_room (Nat.le_of_ble_eq_true rfl)) dX11_goBite_26 ⟨Nat.le_of_ble_eq_true rfl, Nat.le_of_ble_eq_true rfl⟩) hP hD hS hA [0] [] rfl rfl rfl (by decide) (fun r_10 u H locs hw hP hD hS => ?_)
    refine ea_1_3 hw (fun rr_11 k_12 e8_0 e8_1 => ?_)
    subst e8_0
    subst e8_1
    clear hw
    have hPD : PD G A H [(q0, .inl (G.2 0, 135, .inl (cI (uI qF ((6 + p0).toNat) ((qF ((6 + p0).toNat)) - (sOff qF bb0 p0))))))] := ⟨hP, hD⟩
    have hP := hPD.1
    have hD := hPD.2
    clear hPD
    refine lv_if_ne (tgt := 58) hx hb dX11_goBite_29 (by decide) (fun c_13 => ?_) (fun c_13 => ?_)
    · have c_13 : ¬ (rr_11 = 0) := fun h9 => c_13 ((iI_eq (a := rr_11) (b := 0) (by omega) (by first | decide | omega)).mpr h9)
      exfalso
      omega
    · have c_13 := (iI_eq (a := rr_11) (b := 0) (by omega) (by first | decide | omega)).mp c_13
      refine lv_aload_n hx hb dX11_goBite_32 rfl (lv_at hl 0 rfl) ?_
      refine lv_bipush (v := iI 20) hx hb dX11_goBite_33 (by decide) ?_
      refine lv_iload_n hx hb dX11_goBite_35 rfl (lv_at hl 2 rfl) ?_
      refine lv_iadd hx hb dX11_goBite_36 ?_
      refine g_topi (y := iI (20 + p0)) (iI_add 20 p0) ?_
      refine lv_aload_n hx hb dX11_goBite_37 rfl (lv_at hl 0 rfl) ?_
      refine lv_bipush (v := iI 13) hx hb dX11_goBite_38 (by decide) ?_
      refine lv_iload_n hx hb dX11_goBite_40 rfl (lv_at hl 2 rfl) ?_
      refine lv_iadd hx hb dX11_goBite_41 ?_
      refine g_topi (y := iI (13 + p0)) (iI_add 13 p0) ?_
      refine g_ild hx hb hK hP 0 rfl (by omega) (by omega) (by first | exact Nat.le_of_ble_eq_true rfl | omega) dX11_goBite_42 (fun w_14 ew_14 => ?_)
      have ew_14 : (uI qF ((6 + p0).toNat) ((qF ((6 + p0).toNat)) - (sOff qF bb0 p0))) ((13 + p0).toNat) = w_14 := ew_14
      rw [uI_ne (by omega)] at ew_14
      subst ew_14
      have bw_14 : 0 ≤ (qF ((13 + p0).toNat)) ∧ (qF ((13 + p0).toNat)) ≤ K0 := ⟨(y0_ _).1, Int.le_trans (y0_ _).2 (plA_le (by omega) _)⟩
      refine lv_aload_n hx hb dX11_goBite_43 rfl (lv_at hl 0 rfl) ?_
      refine lv_bipush (v := iI 41) hx hb dX11_goBite_44 (by decide) ?_
      refine lv_iload_n hx hb dX11_goBite_46 rfl (lv_at hl 2 rfl) ?_
      refine lv_iadd hx hb dX11_goBite_47 ?_
      refine g_topi (y := iI (41 + p0)) (iI_add 41 p0) ?_
      refine g_ild hx hb hK hP 0 rfl (by omega) (by omega) (by first | exact Nat.le_of_ble_eq_true rfl | omega) dX11_goBite_48 (fun w_15 ew_15 => ?_)
      have ew_15 : (uI qF ((6 + p0).toNat) ((qF ((6 + p0).toNat)) - (sOff qF bb0 p0))) ((41 + p0).toNat) = w_15 := ew_15
      rw [uI_ne (by omega)] at ew_15
      subst ew_15
      have bw_15 : 0 ≤ (qF ((41 + p0).toNat)) ∧ (qF ((41 + p0).toNat)) ≤ K0 := ⟨(y0_ _).1, Int.le_trans (y0_ _).2 (plA_le (by omega) _)⟩
      refine g_join (jn := 57) (rest := [.int (iI (20 + p0)), .ref q0]) (fun t_16 ls => (((qF ((13 + p0).toNat)) < (qF ((41 + p0).toNat)) ∧ t_16 = 2) ∨ (¬ ((qF ((13 + p0).toNat)) < (qF ((41 + p0).toNat))) ∧ t_16 = 1)) ∧ lv_has ls 3 [(0, .ref q0), (1, .int (iI bb0)), (2, .int (iI p0))]) (fun t_16 ls hI => ?_) (fun hJ_17 => ?_)
      · obtain ⟨f_18, hl⟩ := hI
        refine g_ist hx hb hK hP hD hS 0 rfl (by omega) (by omega) (by first | exact Nat.le_of_ble_eq_true rfl | omega) dX11_goBite_57 (fun H locs hP hD hS => ?_)
        have hk_20 := bp_u (h := plA K0) (k := ((20 + p0).toNat)) (v := t_16) hk_7 (by omega) (Int.le_trans (show t_16 ≤ K0 by omega) (plAl_K (by omega) (by omega)))
        have hPD : PD G A H [(q0, .inl (G.2 0, 135, .inl (cI (uI (uI qF ((6 + p0).toNat) ((qF ((6 + p0).toNat)) - (sOff qF bb0 p0))) ((20 + p0).toNat) t_16))))] := ⟨hP, hD⟩
        have hP := hPD.1
        have hD := hPD.2
        clear hPD
        exact g_vret hx hb hr hlocks hP hD hS (⟨(uI (uI qF ((6 + p0).toNat) ((qF ((6 + p0).toNat)) - (sOff qF bb0 p0))) ((20 + p0).toNat) t_16), (sBite_b (by omega) (by omega) rfl), (by first | exact hk_20 | exact bpA_mono hk_20 (by omega) | assumption), rfl⟩) dX11_goBite_58
      · refine lv_icmp_lt (tgt := 56) hx hb dX11_goBite_49 (by decide) (fun c_21 => ?_) (fun c_21 => ?_)
        · have c_21 := (iI_lt (a := (qF ((13 + p0).toNat))) (b := (qF ((41 + p0).toNat))) (by omega) (by omega)).mp c_21
          refine lv_iconst (v := iI 2) hx hb dX11_goBite_56 rfl ?_
          exact hJ_17 2 ls ⟨by omega, lv_sub hl [0, 1, 2] rfl⟩
        · have c_21 : ¬ ((qF ((13 + p0).toNat)) < (qF ((41 + p0).toNat))) := fun h9 => c_21 ((iI_lt (a := (qF ((13 + p0).toNat))) (b := (qF ((41 + p0).toNat))) (by omega) (by omega)).mpr h9)
          refine lv_iconst (v := iI 1) hx hb dX11_goBite_52 rfl ?_
          refine lv_goto (tgt := 57) hx hb dX11_goBite_53 (by decide) ?_
          exact hJ_17 1 ls ⟨by omega, lv_sub hl [0, 1, 2] rfl⟩
set_option maxHeartbeats 8000000 in
set_option maxRecDepth 100000 in
theorem c_X11_goDay_135 (l : Launch) (G : gG) (q0 : Nat) (qF : Nat → Int) (K0 : Int) (y0_ : bp (plA K0) qF) (hK0 : 1000 ≤ K0 ∧ K0 ≤ 1990000) (sz : Nat) : gV G l yX11_goDay wsX11_goDay ({ frames := 1, cells := 0, slots := 0, locals := 21 } : Room) [.ref q0] [(q0, .inl (G.2 0, 135, .inl (cI qF)))] sz (fun (u : va_W) => (∃ Nq : Nat → Int, (Nq = sDM qF 1) ∧ (bp (plA (K0 + 1)) Nq) ∧ u = [(q0, .inl (G.2 0, 135, .inl (cI Nq)))])) := by
  refine Met.ofW (cc := cX11_goDay) (maxL := 2) (ret := none) (by decide) rfl ?_
  intro p e s m args below meth c s₁ B hml hv
  obtain ⟨rfl, hsz, hP, hK, hD0, hN, hZ⟩ := hv
  have hx := B.exec
  have hb := B.bytes
  have hr := B.returns
  have hts := atoms_spec (ws := wsX11_goDay) B.pre
  have hown : s.vm.findClass RX11 = some m.cls := findClass_of_methodNamed B.named
  have hlocks := B.notSynchronized
  subst hsz
  have hD := hD0.self (sz := s.heap.size)
  generalize hAe : va_A [(q0, .inl (G.2 0, 135, .inl (cI qF)))] s.heap.size = A at hD hZ ⊢
  have hA : ∀ q : Nat, s.heap.size ≤ q → A q := fun q h => by rw [← hAe]; exact Or.inr h
  have hS : va_S A s.heap s.heap [] := va_S.rf
  have hP : va_P G.1 vwCl [(q0, .inl (G.2 0, 135, .inl (cI qF)))] s.heap := hP
  have hl := lv_entry ([.ref q0]) (n := 2) (Nat.le_of_ble_eq_true rfl)
  rw [lg_entry_eq]
  generalize (lg_sl ([.ref q0]) ++ List.replicate (2 - (lg_sl ([.ref q0])).length) Slot.unset).toArray = ls at hl ⊢
  have hl : lv_has ls 2 [(0, .ref q0)] := hl
  have hq9 : 0 ≤ qF 0 ∧ qF 0 ≤ 7 := y0_ 0
  refine lv_iconst (v := iI 0) hx hb dX11_goDay_0 rfl ?_
  refine lv_istore_n (lv' := [(1, .int (iI 0)), (0, .ref q0)]) hx hb dX11_goDay_1 rfl hl (by decide) rfl (fun ls hl => ?_)
  refine g_loopN (pc := 2) (fun nn H locs ls => ∃ i0__1 : Int, ∃ E0_2 : Nat → Int, (0 ≤ i0__1 ∧ i0__1 ≤ 7) ∧ (i0__1 ≤ qF 0 ∧ qF 0 ≤ 7) ∧ (bp (plA (K0 + 1)) E0_2) ∧ (tl (13 + i0__1) K0 E0_2) ∧ (E0_2 = dP qF i0__1) ∧ (E0_2 0 = qF 0) ∧ (7 - i0__1).toNat = nn ∧ va_P G.1 vwCl [(q0, .inl (G.2 0, 135, .inl (cI E0_2)))] H ∧ va_D A [(q0, .inl (G.2 0, 135, .inl (cI E0_2)))] ∧ va_S A s.heap H locs ∧ lv_has ls 2 [(1, .int (iI i0__1)), (0, .ref q0)]) ?_ ⟨0, qF, (by first | assumption | omega), (by first | assumption | omega), (by first | exact y0_ | exact bpA_mono y0_ (by omega) | assumption), (by first | assumption | exact tl_0 (by assumption) | exact tl_s (by assumption) | exact tl_bp (by omega) (by assumption) | exact tl_cast (by assumption) (by omega)), (dP_0 _), rfl, rfl, hP, hD, hS, lv_sub hl [0, 1] rfl⟩
  intro nn_10 H locs ls ih_9 hI
  refine ea_2_11 hI (fun i0__1 E0_2 f_3 f_4 f_5 f_6 f_7 f_8 hnn_11 hP hD hS hl => ?_)
  clear hI
  refine lv_iload_n hx hb dX11_goDay_2 rfl (lv_at hl 0 rfl) ?_
  refine lv_aload_n hx hb dX11_goDay_3 rfl (lv_at hl 1 rfl) ?_
  refine lv_iconst (v := iI 0) hx hb dX11_goDay_4 rfl ?_
  refine g_ild hx hb hK hP 0 rfl (by omega) (by omega) (by first | exact Nat.le_of_ble_eq_true rfl | omega) dX11_goDay_5 (fun w_12 ew_12 => ?_)
  have ew_12 : E0_2 0 = w_12 := ew_12
  subst ew_12
  have bw_12 : 0 ≤ (E0_2 0) ∧ (E0_2 0) ≤ 7 := f_5 0
  refine lv_icmp_ge (tgt := 37) hx hb dX11_goDay_6 (by decide) (fun c_13 => ?_) (fun c_13 => ?_)
  · have c_13 := (iI_le (a := (E0_2 0)) (b := i0__1) (by omega) (by omega)).mp c_13
    refine lv_aload_n hx hb dX11_goDay_37 rfl (lv_at hl 1 rfl) ?_
    refine lv_bipush (v := iI 27) hx hb dX11_goDay_38 (by decide) ?_
    refine lv_dup2_11 hx hb dX11_goDay_40 rfl rfl ?_
    refine g_ild hx hb hK hP 0 rfl (by omega) (by omega) (by first | exact Nat.le_of_ble_eq_true rfl | omega) dX11_goDay_41 (fun w_14 ew_14 => ?_)
    have ew_14 : E0_2 27 = w_14 := ew_14
    subst ew_14
    have bw_14 : 0 ≤ (E0_2 27) ∧ (E0_2 27) ≤ (K0 + 1) := f_5 27
    have tw_14 : (E0_2 27) ≤ K0 := tl_at f_6 (k := 27) (by omega) (by omega)
    refine lv_iconst (v := iI 1) hx hb dX11_goDay_42 rfl ?_
    refine lv_iadd hx hb dX11_goDay_43 ?_
    refine g_topi (y := iI ((E0_2 27) + 1)) (iI_add (E0_2 27) 1) ?_
    refine g_ist hx hb hK hP hD hS 0 rfl (by omega) (by omega) (by first | exact Nat.le_of_ble_eq_true rfl | omega) dX11_goDay_44 (fun H locs hP hD hS => ?_)
    have hk_16 := bp_u (h := plA (K0 + 1)) (k := 27) (v := ((E0_2 27) + 1)) f_5 (by omega) (show ((E0_2 27) + 1) ≤ (K0 + 1) by omega)
    have hk_17 := tl_u (k := 27) (v := ((E0_2 27) + 1)) f_6 (by omega) (by omega)
    have hPD : PD G A H [(q0, .inl (G.2 0, 135, .inl (cI (uI E0_2 27 ((E0_2 27) + 1)))))] := ⟨hP, hD⟩
    have hP := hPD.1
    have hD := hPD.2
    clear hPD
    exact g_vret hx hb hr hlocks hP hD hS (⟨(uI E0_2 27 ((E0_2 27) + 1)), (dP_e (by assumption) (by omega) (by omega) rfl), (by first | exact hk_16 | exact bpA_mono hk_16 (by omega) | assumption), rfl⟩) dX11_goDay_45
  · have c_13 : ¬ ((E0_2 0) ≤ i0__1) := fun h9 => c_13 ((iI_le (a := (E0_2 0)) (b := i0__1) (by omega) (by omega)).mpr h9)
    refine lv_aload_n hx hb dX11_goDay_9 rfl (lv_at hl 1 rfl) ?_
    refine lv_bipush (v := iI 13) hx hb dX11_goDay_10 (by decide) ?_
    refine lv_iload_n hx hb dX11_goDay_12 rfl (lv_at hl 0 rfl) ?_
    refine lv_iadd hx hb dX11_goDay_13 ?_
    refine g_topi (y := iI (13 + i0__1)) (iI_add 13 i0__1) ?_
    refine lv_dup2_11 hx hb dX11_goDay_14 rfl rfl ?_
    refine g_ild hx hb hK hP 0 rfl (by omega) (by omega) (by first | exact Nat.le_of_ble_eq_true rfl | omega) dX11_goDay_15 (fun w_18 ew_18 => ?_)
    have ew_18 : E0_2 ((13 + i0__1).toNat) = w_18 := ew_18
    subst ew_18
    have bw_18 : 0 ≤ (E0_2 ((13 + i0__1).toNat)) ∧ (E0_2 ((13 + i0__1).toNat)) ≤ (K0 + 1) := ⟨(f_5 _).1, Int.le_trans (f_5 _).2 (plA_le (by omega) _)⟩
    have tw_18 := tl_at f_6 (k := (13 + i0__1)) (by omega) (by omega)
    refine lv_aload_n hx hb dX11_goDay_16 rfl (lv_at hl 1 rfl) ?_
    refine lv_iload_n hx hb dX11_goDay_17 rfl (lv_at hl 0 rfl) ?_
    refine g_calli (wr := []) (va_runS (As := [.ref q0, .int (iI i0__1)]) (rest := [.int (iI (E0_2 ((13 + i0__1).toNat))), .int (iI (13 + i0__1)), .ref q0]) ⟨hx, hb, hml, hown, hts⟩ (c_X11_isOut_135 l G (q0) (E0_2) ((K0 + 1)) (i0__1) (by first | exact f_5 | exact bpA_mono f_5 (by omega) | assumption) (by first | assumption | omega) (by first | assumption | omega) _) (va_cwS 2 hts gX11_goDay_X11_isOut rfl rfl rfl (by decide +kernel) ⟨Nat.le_of_ble_eq_true rfl, Nat.le_of_ble_eq_true rfl⟩) (g_preS [.ref q0, .int (iI i0__1)] hP hD hK hN hS hA hZ [0] rfl rfl) rfl rfl hl.1 rfl (lv_room (Nat.le_of_ble_eq_true rfl)) dX11_goDay_18 ⟨Nat.le_of_ble_eq_true rfl, Nat.le_of_ble_eq_true rfl⟩) hP hD hS hA [0] [] rfl rfl rfl (by decide) (fun r_19 u H locs hw hP hD hS => ?_)
    refine ea_1_3 hw (fun rr_20 k_21 e8_0 e8_1 => ?_)
    subst e8_0
    subst e8_1
    clear hw
    have hP : va_P G.1 vwCl [(q0, .inl (G.2 0, 135, .inl (cI E0_2)))] H := hP
    have hD : va_D A [(q0, .inl (G.2 0, 135, .inl (cI E0_2)))] := hD
    refine lv_if_eq (tgt := 28) hx hb dX11_goDay_21 (by decide) (fun c_22 => ?_) (fun c_22 => ?_)
    · have c_22 := (iI_eq (a := rr_20) (b := 0) (by omega) (by first | decide | omega)).mp c_22
      refine lv_iconst (v := iI 1) hx hb dX11_goDay_28 rfl ?_
      refine lv_iadd hx hb dX11_goDay_29 ?_
      refine g_topi (y := iI ((E0_2 ((13 + i0__1).toNat)) + 1)) (iI_add (E0_2 ((13 + i0__1).toNat)) 1) ?_
      refine g_ist hx hb hK hP hD hS 0 rfl (by omega) (by omega) (by first | exact Nat.le_of_ble_eq_true rfl | omega) dX11_goDay_30 (fun H locs hP hD hS => ?_)
      have hk_24 := bp_u (h := plA (K0 + 1)) (k := ((13 + i0__1).toNat)) (v := ((E0_2 ((13 + i0__1).toNat)) + 1)) f_5 (by omega) (Int.le_trans (show ((E0_2 ((13 + i0__1).toNat)) + 1) ≤ (K0 + 1) by omega) (plAl_K (by omega) (by omega)))
      have hk_25 := tl_u (k := (13 + i0__1)) (v := ((E0_2 ((13 + i0__1).toNat)) + 1)) f_6 (by omega) (by omega)
      have hPD : PD G A H [(q0, .inl (G.2 0, 135, .inl (cI (uI E0_2 ((13 + i0__1).toNat) ((E0_2 ((13 + i0__1).toNat)) + 1)))))] := ⟨hP, hD⟩
      have hP := hPD.1
      have hD := hPD.2
      clear hPD
      refine lv_iinc (v := iI (i0__1 + 1)) (lv' := [(1, .int (iI (i0__1 + 1))), (0, .ref q0)]) hx hb dX11_goDay_31 hl (k := 0) rfl (iI_add i0__1 1) (by decide) rfl (fun ls hl => ?_)
      refine lv_goto (tgt := 2) hx hb dX11_goDay_34 (by decide) ?_
      exact ih_9 _ _ _ _ (by omega) ⟨(i0__1 + 1), (uI E0_2 ((13 + i0__1).toNat) ((E0_2 ((13 + i0__1).toNat)) + 1)), (by first | assumption | omega), (by first | assumption | omega), (by first | exact hk_24 | exact bpA_mono hk_24 (by omega) | assumption), (by first | assumption | exact tl_0 (by assumption) | exact tl_s (by assumption) | exact tl_bp (by omega) (by assumption) | exact tl_cast (by assumption) (by omega)), (dP_s1 (by assumption) (by omega) (by omega) rfl), (by rw [uI_ne (by omega)]; assumption), rfl, hP, hD, hS, lv_sub hl [0, 1] rfl⟩
    · have c_22 : ¬ (rr_20 = 0) := fun h9 => c_22 ((iI_eq (a := rr_20) (b := 0) (by omega) (by first | decide | omega)).mpr h9)
      refine lv_iconst (v := iI 0) hx hb dX11_goDay_24 rfl ?_
      refine lv_goto (tgt := 29) hx hb dX11_goDay_25 (by decide) ?_
      refine lv_iadd hx hb dX11_goDay_29 ?_
      refine g_topi (y := iI ((E0_2 ((13 + i0__1).toNat)) + 0)) (iI_add (E0_2 ((13 + i0__1).toNat)) 0) ?_
      refine g_ist hx hb hK hP hD hS 0 rfl (by omega) (by omega) (by first | exact Nat.le_of_ble_eq_true rfl | omega) dX11_goDay_30 (fun H locs hP hD hS => ?_)
      have hk_27 := bp_u (h := plA (K0 + 1)) (k := ((13 + i0__1).toNat)) (v := ((E0_2 ((13 + i0__1).toNat)) + 0)) f_5 (by omega) (Int.le_trans (show ((E0_2 ((13 + i0__1).toNat)) + 0) ≤ (K0 + 1) by omega) (plAl_K (by omega) (by omega)))
      have hk_28 := tl_u (k := (13 + i0__1)) (v := ((E0_2 ((13 + i0__1).toNat)) + 0)) f_6 (by omega) (by omega)
      have hPD : PD G A H [(q0, .inl (G.2 0, 135, .inl (cI (uI E0_2 ((13 + i0__1).toNat) ((E0_2 ((13 + i0__1).toNat)) + 0)))))] := ⟨hP, hD⟩
      have hP := hPD.1
      have hD := hPD.2
      clear hPD
      refine lv_iinc (v := iI (i0__1 + 1)) (lv' := [(1, .int (iI (i0__1 + 1))), (0, .ref q0)]) hx hb dX11_goDay_31 hl (k := 0) rfl (iI_add i0__1 1) (by decide) rfl (fun ls hl => ?_)
      refine lv_goto (tgt := 2) hx hb dX11_goDay_34 (by decide) ?_
      exact ih_9 _ _ _ _ (by omega) ⟨(i0__1 + 1), (uI E0_2 ((13 + i0__1).toNat) ((E0_2 ((13 + i0__1).toNat)) + 0)), (by first | assumption | omega), (by first | assumption | omega), (by first | exact hk_27 | exact bpA_mono hk_27 (by omega) | assumption), (by first | assumption | exact tl_0 (by assumption) | exact tl_s (by assumption) | exact tl_bp (by omega) (by assumption) | exact tl_cast (by assumption) (by omega)), (dP_s2 (by assumption) (by omega) (by omega) rfl), (by rw [uI_ne (by omega)]; assumption), rfl, hP, hD, hS, lv_sub hl [0, 1] rfl⟩
