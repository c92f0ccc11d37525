theorem dX9_forgetFirstStep_0 : decode cX9_forgetFirstStep 0 = .ok (.aload_n 0, 1) := kd_42 (by decide +kernel)
theorem dX9_forgetFirstStep_1 : decode cX9_forgetFirstStep 1 = .ok (.getfield 34, 3) := kd_180 (a := 0) (b := 34) (by decide +kernel)
theorem dX9_forgetFirstStep_4 : decode cX9_forgetFirstStep 4 = .ok (.iconst 0, 1) := kd_3 (by decide +kernel)
theorem dX9_forgetFirstStep_5 : decode cX9_forgetFirstStep 5 = .ok (.aaload, 1) := kd_50 (by decide +kernel)
theorem dX9_forgetFirstStep_6 : decode cX9_forgetFirstStep 6 = .ok (.astore_n 1, 1) := kd_76 (by decide +kernel)
theorem dX9_forgetFirstStep_7 : decode cX9_forgetFirstStep 7 = .ok (.iconst 1, 1) := kd_4 (by decide +kernel)
theorem dX9_forgetFirstStep_8 : decode cX9_forgetFirstStep 8 = .ok (.istore_n 2, 1) := kd_61 (by decide +kernel)
theorem dX9_forgetFirstStep_9 : decode cX9_forgetFirstStep 9 = .ok (.iload_n 2, 1) := kd_28 (by decide +kernel)
theorem dX9_forgetFirstStep_10 : decode cX9_forgetFirstStep 10 = .ok (.bipush 8, 2) := kd_16 (a := 8) (by decide +kernel)
theorem dX9_forgetFirstStep_12 : decode cX9_forgetFirstStep 12 = .ok (.if_icmp .ge 23, 3) := kd_162 (a := 0) (b := 23) (by decide +kernel)
theorem dX9_forgetFirstStep_15 : decode cX9_forgetFirstStep 15 = .ok (.aload_n 0, 1) := kd_42 (by decide +kernel)
theorem dX9_forgetFirstStep_16 : decode cX9_forgetFirstStep 16 = .ok (.getfield 34, 3) := kd_180 (a := 0) (b := 34) (by decide +kernel)
theorem dX9_forgetFirstStep_19 : decode cX9_forgetFirstStep 19 = .ok (.iload_n 2, 1) := kd_28 (by decide +kernel)
theorem dX9_forgetFirstStep_20 : decode cX9_forgetFirstStep 20 = .ok (.iconst 1, 1) := kd_4 (by decide +kernel)
theorem dX9_forgetFirstStep_21 : decode cX9_forgetFirstStep 21 = .ok (.isub, 1) := kd_100 (by decide +kernel)
theorem dX9_forgetFirstStep_22 : decode cX9_forgetFirstStep 22 = .ok (.aload_n 0, 1) := kd_42 (by decide +kernel)
theorem dX9_forgetFirstStep_23 : decode cX9_forgetFirstStep 23 = .ok (.getfield 34, 3) := kd_180 (a := 0) (b := 34) (by decide +kernel)
theorem dX9_forgetFirstStep_26 : decode cX9_forgetFirstStep 26 = .ok (.iload_n 2, 1) := kd_28 (by decide +kernel)
theorem dX9_forgetFirstStep_27 : decode cX9_forgetFirstStep 27 = .ok (.aaload, 1) := kd_50 (by decide +kernel)
theorem dX9_forgetFirstStep_28 : decode cX9_forgetFirstStep 28 = .ok (.aastore, 1) := kd_83 (by decide +kernel)
theorem dX9_forgetFirstStep_29 : decode cX9_forgetFirstStep 29 = .ok (.iinc 2 1, 3) := kd_132 (a := 2) (b := 1) (by decide +kernel)
theorem dX9_forgetFirstStep_32 : decode cX9_forgetFirstStep 32 = .ok (.goto (-23), 3) := kd_167 (a := 255) (b := 233) (by decide +kernel)
theorem dX9_forgetFirstStep_35 : decode cX9_forgetFirstStep 35 = .ok (.aload_n 0, 1) := kd_42 (by decide +kernel)
theorem dX9_forgetFirstStep_36 : decode cX9_forgetFirstStep 36 = .ok (.getfield 34, 3) := kd_180 (a := 0) (b := 34) (by decide +kernel)
theorem dX9_forgetFirstStep_39 : decode cX9_forgetFirstStep 39 = .ok (.bipush 7, 2) := kd_16 (a := 7) (by decide +kernel)
theorem dX9_forgetFirstStep_41 : decode cX9_forgetFirstStep 41 = .ok (.aload_n 1, 1) := kd_43 (by decide +kernel)
theorem dX9_forgetFirstStep_42 : decode cX9_forgetFirstStep 42 = .ok (.aastore, 1) := kd_83 (by decide +kernel)
theorem dX9_forgetFirstStep_43 : decode cX9_forgetFirstStep 43 = .ok (.aload_n 0, 1) := kd_42 (by decide +kernel)
theorem dX9_forgetFirstStep_44 : decode cX9_forgetFirstStep 44 = .ok (.bipush 7, 2) := kd_16 (a := 7) (by decide +kernel)
theorem dX9_forgetFirstStep_46 : decode cX9_forgetFirstStep 46 = .ok (.putfield 60, 3) := kd_181 (a := 0) (b := 60) (by decide +kernel)
theorem dX9_forgetFirstStep_49 : decode cX9_forgetFirstStep 49 = .ok (.return_, 1) := kd_177 (by decide +kernel)
set_option maxHeartbeats 8000000 in
set_option maxRecDepth 100000 in
theorem c_X9_forgetFirstStep (l : Launch) (G : gG) (h0 : Nat) (v_damps : Nat) (v_kind : Nat) (v_term : Nat) (v_nature : Nat) (v_teeth : Nat) (v_today : Nat) (v_past : Nat) (v_lefts : Nat) (v_notes : Nat) (v_marks : Nat) (v_apples : Int) (v_biters : Int) (v_steps : Int) (vpa : Nat → Nat) (vpt : Nat → Nat) (vpg : Nat → Nat) (vpf : Nat → Nat) (vzd : Nat → Int) (sz : Nat) : gV G l yX9_forgetFirstStep wsX9_forgetFirstStep ({ frames := 0, cells := 0, slots := 0, locals := 0 } : Room) [.ref h0] [oB8 h0 v_damps v_kind v_term v_nature v_teeth v_today v_past v_lefts v_notes v_marks v_apples v_biters v_steps, (v_past, .inl (G.2 2, 8, .inr (.inr (.inr (.inr (cR vpa)))))), oB3 (vpa 0) (vzd 0) (vpt 0) (vpg 0) (vpf 0), oB3 (vpa 1) (vzd 1) (vpt 1) (vpg 1) (vpf 1), oB3 (vpa 2) (vzd 2) (vpt 2) (vpg 2) (vpf 2), oB3 (vpa 3) (vzd 3) (vpt 3) (vpg 3) (vpf 3), oB3 (vpa 4) (vzd 4) (vpt 4) (vpg 4) (vpf 4), oB3 (vpa 5) (vzd 5) (vpt 5) (vpg 5) (vpf 5), oB3 (vpa 6) (vzd 6) (vpt 6) (vpg 6) (vpf 6), oB3 (vpa 7) (vzd 7) (vpt 7) (vpg 7) (vpf 7)] sz (fun (u : va_W) => (u = [oB8 h0 v_damps v_kind v_term v_nature v_teeth v_today v_past v_lefts v_notes v_marks v_apples v_biters 7, (v_past, .inl (G.2 2, 8, .inr (.inr (.inr (.inr (cR (s8 (vpa 1) (vpa 2) (vpa 3) (vpa 4) (vpa 5) (vpa 6) (vpa 7) (vpa 0)))))))), oB3 (vpa 0) (vzd 0) (vpt 0) (vpg 0) (vpf 0), oB3 (vpa 1) (vzd 1) (vpt 1) (vpg 1) (vpf 1), oB3 (vpa 2) (vzd 2) (vpt 2) (vpg 2) (vpf 2), oB3 (vpa 3) (vzd 3) (vpt 3) (vpg 3) (vpf 3), oB3 (vpa 4) (vzd 4) (vpt 4) (vpg 4) (vpf 4), oB3 (vpa 5) (vzd 5) (vpt 5) (vpg 5) (vpf 5), oB3 (vpa 6) (vzd 6) (vpt 6) (vpg 6) (vpf 6), oB3 (vpa 7) (vzd 7) (vpt 7) (vpg 7) (vpf 7)])) := by
  refine Met.ofW (cc := cX9_forgetFirstStep) (maxL := 3) (ret := none) (by decide) rfl ?_
  intro p e s m args below meth c s₁ B hml hv
  obtain ⟨rfl, hsz, hP, hK, hD0, hN, hZ⟩ := hv
  have hx := B.exec
  have hb := B.bytes
  have hr := B.returns
  have hts := atoms_spec (ws := wsX9_forgetFirstStep) B.pre
  have hown : s.vm.findClass RX9 = some m.cls := findClass_of_methodNamed B.named
  have hlocks := B.notSynchronized
  subst hsz
  have hD := hD0.self (sz := s.heap.size)
  generalize hAe : va_A [oB8 h0 v_damps v_kind v_term v_nature v_teeth v_today v_past v_lefts v_notes v_marks v_apples v_biters v_steps, (v_past, .inl (G.2 2, 8, .inr (.inr (.inr (.inr (cR vpa)))))), oB3 (vpa 0) (vzd 0) (vpt 0) (vpg 0) (vpf 0), oB3 (vpa 1) (vzd 1) (vpt 1) (vpg 1) (vpf 1), oB3 (vpa 2) (vzd 2) (vpt 2) (vpg 2) (vpf 2), oB3 (vpa 3) (vzd 3) (vpt 3) (vpg 3) (vpf 3), oB3 (vpa 4) (vzd 4) (vpt 4) (vpg 4) (vpf 4), oB3 (vpa 5) (vzd 5) (vpt 5) (vpg 5) (vpf 5), oB3 (vpa 6) (vzd 6) (vpt 6) (vpg 6) (vpf 6), oB3 (vpa 7) (vzd 7) (vpt 7) (vpg 7) (vpf 7)] s.heap.size = A at hD hZ ⊢
  have hA : ∀ q : Nat, s.heap.size ≤ q → A q := fun q h => by rw [← hAe]; exact Or.inr h
  have hS : va_S A s.heap s.heap [] := va_S.rf
  have hP : va_P G.1 vwCl [oB8 h0 v_damps v_kind v_term v_nature v_teeth v_today v_past v_lefts v_notes v_marks v_apples v_biters v_steps, (v_past, .inl (G.2 2, 8, .inr (.inr (.inr (.inr (cR vpa)))))), oB3 (vpa 0) (vzd 0) (vpt 0) (vpg 0) (vpf 0), oB3 (vpa 1) (vzd 1) (vpt 1) (vpg 1) (vpf 1), oB3 (vpa 2) (vzd 2) (vpt 2) (vpg 2) (vpf 2), oB3 (vpa 3) (vzd 3) (vpt 3) (vpg 3) (vpf 3), oB3 (vpa 4) (vzd 4) (vpt 4) (vpg 4) (vpf 4), oB3 (vpa 5) (vzd 5) (vpt 5) (vpg 5) (vpf 5), oB3 (vpa 6) (vzd 6) (vpt 6) (vpg 6) (vpf 6), oB3 (vpa 7) (vzd 7) (vpt 7) (vpg 7) (vpf 7)] s.heap := hP
  have hl := lv_entry ([.ref h0]) (n := 3) (Nat.le_of_ble_eq_true rfl)
  rw [lg_entry_eq]
  generalize (lg_sl ([.ref h0]) ++ List.replicate (3 - (lg_sl ([.ref h0])).length) Slot.unset).toArray = ls at hl ⊢
  have hl : lv_has ls 3 [(0, .ref h0)] := hl
  refine lv_aload_n hx hb dX9_forgetFirstStep_0 rfl (lv_at hl 0 rfl) ?_
  refine va_get (D := G.1) (ci := 8) (v := .ref v_past) (C := RX9) (T := TX9) (N := 13) hx hb hts (fun _ h => List.mem_cons_of_mem _ (inlX9 _ h)) hown hK hP 0 rfl rfl 6 (by decide) (hts _ (List.mem_cons_of_mem _ (in_r3 (List.mem_of_getElem? (i := 10) rfl)))) (fun _ h9 => h9) rfl dX9_forgetFirstStep_1 ?_
  refine lv_iconst (v := iI 0) hx hb dX9_forgetFirstStep_4 rfl ?_
  refine va_aldq (C := RX4) hx hb hK hP 1 2 rfl rfl (by unfold vp_in; decide) dX9_forgetFirstStep_5 ?_
  refine W.eq (g2 := F0 m 6 ls [.ref (vpa 0)]) rfl ?_
  refine lv_astore_n (lv' := [(1, .ref (vpa 0)), (0, .ref h0)]) hx hb dX9_forgetFirstStep_6 rfl hl (by decide) rfl (fun ls hl => ?_)
  refine lv_iconst (v := iI 1) hx hb dX9_forgetFirstStep_7 rfl ?_
  refine lv_istore_n (lv' := [(2, .int (iI 1)), (1, .ref (vpa 0)), (0, .ref h0)]) hx hb dX9_forgetFirstStep_8 rfl hl (by decide) rfl (fun ls hl => ?_)
  refine lv_iload_n hx hb dX9_forgetFirstStep_9 rfl (lv_at hl 0 rfl) ?_
  refine lv_bipush (v := iI 8) hx hb dX9_forgetFirstStep_10 (by decide) ?_
  refine lv_icmp_ge (tgt := 35) hx hb dX9_forgetFirstStep_12 (by decide) (fun c_1 => g_no c_1 (by decide)) (fun _ => ?_)
  refine lv_aload_n hx hb dX9_forgetFirstStep_15 rfl (lv_at hl 2 rfl) ?_
  refine va_get (D := G.1) (ci := 8) (v := .ref v_past) (C := RX9) (T := TX9) (N := 13) hx hb hts (fun _ h => List.mem_cons_of_mem _ (inlX9 _ h)) hown hK hP 0 rfl rfl 6 (by decide) (hts _ (List.mem_cons_of_mem _ (in_r3 (List.mem_of_getElem? (i := 10) rfl)))) (fun _ h9 => h9) rfl dX9_forgetFirstStep_16 ?_
  refine lv_iload_n hx hb dX9_forgetFirstStep_19 rfl (lv_at hl 0 rfl) ?_
  refine lv_iconst (v := iI 1) hx hb dX9_forgetFirstStep_20 rfl ?_
  refine lv_isub hx hb dX9_forgetFirstStep_21 ?_
  refine g_topi (y := iI 0) (iI_sub 1 1) ?_
  refine lv_aload_n hx hb dX9_forgetFirstStep_22 rfl (lv_at hl 2 rfl) ?_
  refine va_get (D := G.1) (ci := 8) (v := .ref v_past) (C := RX9) (T := TX9) (N := 13) hx hb hts (fun _ h => List.mem_cons_of_mem _ (inlX9 _ h)) hown hK hP 0 rfl rfl 6 (by decide) (hts _ (List.mem_cons_of_mem _ (in_r3 (List.mem_of_getElem? (i := 10) rfl)))) (fun _ h9 => h9) rfl dX9_forgetFirstStep_23 ?_
  refine lv_iload_n hx hb dX9_forgetFirstStep_26 rfl (lv_at hl 0 rfl) ?_
  refine va_aldq (C := RX4) hx hb hK hP 1 2 rfl rfl (by unfold vp_in; decide) dX9_forgetFirstStep_27 ?_
  refine W.eq (g2 := F0 m 28 ls [.ref (vpa 1), .int (iI 0), .ref v_past]) rfl ?_
  refine g_astR (k := 0) (f' := (s8 (vpa 1) (vpa 1) (vpa 2) (vpa 3) (vpa 4) (vpa 5) (vpa 6) (vpa 7))) hx hb hK hP hD hS 1 2 3 3 rfl rfl rfl rfl (by unfold vp_in; decide) (by decide) (fun j hj => by rcases (show j = 0 ∨ j = 1 ∨ j = 2 ∨ j = 3 ∨ j = 4 ∨ j = 5 ∨ j = 6 ∨ j = 7 by omega) with rfl | rfl | rfl | rfl | rfl | rfl | rfl | rfl <;> rfl) dX9_forgetFirstStep_28 (fun H locs hP hD hS => ?_)
  have hPD : PD G A H [oB8 h0 v_damps v_kind v_term v_nature v_teeth v_today v_past v_lefts v_notes v_marks v_apples v_biters v_steps, (v_past, .inl (G.2 2, 8, .inr (.inr (.inr (.inr (cR (s8 (vpa 1) (vpa 1) (vpa 2) (vpa 3) (vpa 4) (vpa 5) (vpa 6) (vpa 7)))))))), oB3 (vpa 0) (vzd 0) (vpt 0) (vpg 0) (vpf 0), oB3 (vpa 1) (vzd 1) (vpt 1) (vpg 1) (vpf 1), oB3 (vpa 2) (vzd 2) (vpt 2) (vpg 2) (vpf 2), oB3 (vpa 3) (vzd 3) (vpt 3) (vpg 3) (vpf 3), oB3 (vpa 4) (vzd 4) (vpt 4) (vpg 4) (vpf 4), oB3 (vpa 5) (vzd 5) (vpt 5) (vpg 5) (vpf 5), oB3 (vpa 6) (vzd 6) (vpt 6) (vpg 6) (vpf 6), oB3 (vpa 7) (vzd 7) (vpt 7) (vpg 7) (vpf 7)] := ⟨hP, hD⟩
  have hP := hPD.1
  have hD := hPD.2
  clear hPD
  refine lv_iinc (v := iI 2) (lv' := [(2, .int (iI 2)), (1, .ref (vpa 0)), (0, .ref h0)]) hx hb dX9_forgetFirstStep_29 hl (k := 0) rfl (iI_add 1 1) (by decide) rfl (fun ls hl => ?_)
  refine lv_goto (tgt := 9) hx hb dX9_forgetFirstStep_32 (by decide) ?_
  refine lv_iload_n hx hb dX9_forgetFirstStep_9 rfl (lv_at hl 0 rfl) ?_
  refine lv_bipush (v := iI 8) hx hb dX9_forgetFirstStep_10 (by decide) ?_
  refine lv_icmp_ge (tgt := 35) hx hb dX9_forgetFirstStep_12 (by decide) (fun c_2 => g_no c_2 (by decide)) (fun _ => ?_)
  refine lv_aload_n hx hb dX9_forgetFirstStep_15 rfl (lv_at hl 2 rfl) ?_
  refine va_get (D := G.1) (ci := 8) (v := .ref v_past) (C := RX9) (T := TX9) (N := 13) hx hb hts (fun _ h => List.mem_cons_of_mem _ (inlX9 _ h)) hown hK hP 0 rfl rfl 6 (by decide) (hts _ (List.mem_cons_of_mem _ (in_r3 (List.mem_of_getElem? (i := 10) rfl)))) (fun _ h9 => h9) rfl dX9_forgetFirstStep_16 ?_
  refine lv_iload_n hx hb dX9_forgetFirstStep_19 rfl (lv_at hl 0 rfl) ?_
  refine lv_iconst (v := iI 1) hx hb dX9_forgetFirstStep_20 rfl ?_
  refine lv_isub hx hb dX9_forgetFirstStep_21 ?_
  refine g_topi (y := iI 1) (iI_sub 2 1) ?_
  refine lv_aload_n hx hb dX9_forgetFirstStep_22 rfl (lv_at hl 2 rfl) ?_
  refine va_get (D := G.1) (ci := 8) (v := .ref v_past) (C := RX9) (T := TX9) (N := 13) hx hb hts (fun _ h => List.mem_cons_of_mem _ (inlX9 _ h)) hown hK hP 0 rfl rfl 6 (by decide) (hts _ (List.mem_cons_of_mem _ (in_r3 (List.mem_of_getElem? (i := 10) rfl)))) (fun _ h9 => h9) rfl dX9_forgetFirstStep_23 ?_
  refine lv_iload_n hx hb dX9_forgetFirstStep_26 rfl (lv_at hl 0 rfl) ?_
  refine va_aldq (C := RX4) hx hb hK hP 1 2 rfl rfl (by unfold vp_in; decide) dX9_forgetFirstStep_27 ?_
  refine W.eq (g2 := F0 m 28 ls [.ref (vpa 2), .int (iI 1), .ref v_past]) rfl ?_
  refine g_astR (k := 1) (f' := (s8 (vpa 1) (vpa 2) (vpa 2) (vpa 3) (vpa 4) (vpa 5) (vpa 6) (vpa 7))) hx hb hK hP hD hS 1 2 4 3 rfl rfl rfl rfl (by unfold vp_in; decide) (by decide) (fun j hj => by rcases (show j = 0 ∨ j = 1 ∨ j = 2 ∨ j = 3 ∨ j = 4 ∨ j = 5 ∨ j = 6 ∨ j = 7 by omega) with rfl | rfl | rfl | rfl | rfl | rfl | rfl | rfl <;> rfl) dX9_forgetFirstStep_28 (fun H locs hP hD hS => ?_)
  have hPD : PD G A H [oB8 h0 v_damps v_kind v_term v_nature v_teeth v_today v_past v_lefts v_notes v_marks v_apples v_biters v_steps, (v_past, .inl (G.2 2, 8, .inr (.inr (.inr (.inr (cR (s8 (vpa 1) (vpa 2) (vpa 2) (vpa 3) (vpa 4) (vpa 5) (vpa 6) (vpa 7)))))))), oB3 (vpa 0) (vzd 0) (vpt 0) (vpg 0) (vpf 0), oB3 (vpa 1) (vzd 1) (vpt 1) (vpg 1) (vpf 1), oB3 (vpa 2) (vzd 2) (vpt 2) (vpg 2) (vpf 2), oB3 (vpa 3) (vzd 3) (vpt 3) (vpg 3) (vpf 3), oB3 (vpa 4) (vzd 4) (vpt 4) (vpg 4) (vpf 4), oB3 (vpa 5) (vzd 5) (vpt 5) (vpg 5) (vpf 5), oB3 (vpa 6) (vzd 6) (vpt 6) (vpg 6) (vpf 6), oB3 (vpa 7) (vzd 7) (vpt 7) (vpg 7) (vpf 7)] := ⟨hP, hD⟩
  have hP := hPD.1
  have hD := hPD.2
  clear hPD
  refine lv_iinc (v := iI 3) (lv' := [(2, .int (iI 3)), (1, .ref (vpa 0)), (0, .ref h0)]) hx hb dX9_forgetFirstStep_29 hl (k := 0) rfl (iI_add 2 1) (by decide) rfl (fun ls hl => ?_)
  refine lv_goto (tgt := 9) hx hb dX9_forgetFirstStep_32 (by decide) ?_
  refine lv_iload_n hx hb dX9_forgetFirstStep_9 rfl (lv_at hl 0 rfl) ?_
  refine lv_bipush (v := iI 8) hx hb dX9_forgetFirstStep_10 (by decide) ?_
  refine lv_icmp_ge (tgt := 35) hx hb dX9_forgetFirstStep_12 (by decide) (fun c_3 => g_no c_3 (by decide)) (fun _ => ?_)
  refine lv_aload_n hx hb dX9_forgetFirstStep_15 rfl (lv_at hl 2 rfl) ?_
  refine va_get (D := G.1) (ci := 8) (v := .ref v_past) (C := RX9) (T := TX9) (N := 13) hx hb hts (fun _ h => List.mem_cons_of_mem _ (inlX9 _ h)) hown hK hP 0 rfl rfl 6 (by decide) (hts _ (List.mem_cons_of_mem _ (in_r3 (List.mem_of_getElem? (i := 10) rfl)))) (fun _ h9 => h9) rfl dX9_forgetFirstStep_16 ?_
  refine lv_iload_n hx hb dX9_forgetFirstStep_19 rfl (lv_at hl 0 rfl) ?_
  refine lv_iconst (v := iI 1) hx hb dX9_forgetFirstStep_20 rfl ?_
  refine lv_isub hx hb dX9_forgetFirstStep_21 ?_
  refine g_topi (y := iI 2) (iI_sub 3 1) ?_
  refine lv_aload_n hx hb dX9_forgetFirstStep_22 rfl (lv_at hl 2 rfl) ?_
  refine va_get (D := G.1) (ci := 8) (v := .ref v_past) (C := RX9) (T := TX9) (N := 13) hx hb hts (fun _ h => List.mem_cons_of_mem _ (inlX9 _ h)) hown hK hP 0 rfl rfl 6 (by decide) (hts _ (List.mem_cons_of_mem _ (in_r3 (List.mem_of_getElem? (i := 10) rfl)))) (fun _ h9 => h9) rfl dX9_forgetFirstStep_23 ?_
  refine lv_iload_n hx hb dX9_forgetFirstStep_26 rfl (lv_at hl 0 rfl) ?_
  refine va_aldq (C := RX4) hx hb hK hP 1 2 rfl rfl (by unfold vp_in; decide) dX9_forgetFirstStep_27 ?_
  refine W.eq (g2 := F0 m 28 ls [.ref (vpa 3), .int (iI 2), .ref v_past]) rfl ?_
  refine g_astR (k := 2) (f' := (s8 (vpa 1) (vpa 2) (vpa 3) (vpa 3) (vpa 4) (vpa 5) (vpa 6) (vpa 7))) hx hb hK hP hD hS 1 2 5 3 rfl rfl rfl rfl (by unfold vp_in; decide) (by decide) (fun j hj => by rcases (show j = 0 ∨ j = 1 ∨ j = 2 ∨ j = 3 ∨ j = 4 ∨ j = 5 ∨ j = 6 ∨ j = 7 by omega) with rfl | rfl | rfl | rfl | rfl | rfl | rfl | rfl <;> rfl) dX9_forgetFirstStep_28 (fun H locs hP hD hS => ?_)
  have hPD : PD G A H [oB8 h0 v_damps v_kind v_term v_nature v_teeth v_today v_past v_lefts v_notes v_marks v_apples v_biters v_steps, (v_past, .inl (G.2 2, 8, .inr (.inr (.inr (.inr (cR (s8 (vpa 1) (vpa 2) (vpa 3) (vpa 3) (vpa 4) (vpa 5) (vpa 6) (vpa 7)))))))), oB3 (vpa 0) (vzd 0) (vpt 0) (vpg 0) (vpf 0), oB3 (vpa 1) (vzd 1) (vpt 1) (vpg 1) (vpf 1), oB3 (vpa 2) (vzd 2) (vpt 2) (vpg 2) (vpf 2), oB3 (vpa 3) (vzd 3) (vpt 3) (vpg 3) (vpf 3), oB3 (vpa 4) (vzd 4) (vpt 4) (vpg 4) (vpf 4), oB3 (vpa 5) (vzd 5) (vpt 5) (vpg 5) (vpf 5), oB3 (vpa 6) (vzd 6) (vpt 6) (vpg 6) (vpf 6), oB3 (vpa 7) (vzd 7) (vpt 7) (vpg 7) (vpf 7)] := ⟨hP, hD⟩
  have hP := hPD.1
  have hD := hPD.2
  clear hPD
  refine lv_iinc (v := iI 4) (lv' := [(2, .int (iI 4)), (1, .ref (vpa 0)), (0, .ref h0)]) hx hb dX9_forgetFirstStep_29 hl (k := 0) rfl (iI_add 3 1) (by decide) rfl (fun ls hl => ?_)
  refine lv_goto (tgt := 9) hx hb dX9_forgetFirstStep_32 (by decide) ?_
  refine lv_iload_n hx hb dX9_forgetFirstStep_9 rfl (lv_at hl 0 rfl) ?_
  refine lv_bipush (v := iI 8) hx hb dX9_forgetFirstStep_10 (by decide) ?_
  refine lv_icmp_ge (tgt := 35) hx hb dX9_forgetFirstStep_12 (by decide) (fun c_4 => g_no c_4 (by decide)) (fun _ => ?_)
  refine lv_aload_n hx hb dX9_forgetFirstStep_15 rfl (lv_at hl 2 rfl) ?_
  refine va_get (D := G.1) (ci := 8) (v := .ref v_past) (C := RX9) (T := TX9) (N := 13) hx hb hts (fun _ h => List.mem_cons_of_mem _ (inlX9 _ h)) hown hK hP 0 rfl rfl 6 (by decide) (hts _ (List.mem_cons_of_mem _ (in_r3 (List.mem_of_getElem? (i := 10) rfl)))) (fun _ h9 => h9) rfl dX9_forgetFirstStep_16 ?_
  refine lv_iload_n hx hb dX9_forgetFirstStep_19 rfl (lv_at hl 0 rfl) ?_
  refine lv_iconst (v := iI 1) hx hb dX9_forgetFirstStep_20 rfl ?_
  refine lv_isub hx hb dX9_forgetFirstStep_21 ?_
  refine g_topi (y := iI 3) (iI_sub 4 1) ?_
  refine lv_aload_n hx hb dX9_forgetFirstStep_22 rfl (lv_at hl 2 rfl) ?_
  refine va_get (D := G.1) (ci := 8) (v := .ref v_past) (C := RX9) (T := TX9) (N := 13) hx hb hts (fun _ h => List.mem_cons_of_mem _ (inlX9 _ h)) hown hK hP 0 rfl rfl 6 (by decide) (hts _ (List.mem_cons_of_mem _ (in_r3 (List.mem_of_getElem? (i := 10) rfl)))) (fun _ h9 => h9) rfl dX9_forgetFirstStep_23 ?_
  refine lv_iload_n hx hb dX9_forgetFirstStep_26 rfl (lv_at hl 0 rfl) ?_
  refine va_aldq (C := RX4) hx hb hK hP 1 2 rfl rfl (by unfold vp_in; decide) dX9_forgetFirstStep_27 ?_
  refine W.eq (g2 := F0 m 28 ls [.ref (vpa 4), .int (iI 3), .ref v_past]) rfl ?_
  refine g_astR (k := 3) (f' := (s8 (vpa 1) (vpa 2) (vpa 3) (vpa 4) (vpa 4) (vpa 5) (vpa 6) (vpa 7))) hx hb hK hP hD hS 1 2 6 3 rfl rfl rfl rfl (by unfold vp_in; decide) (by decide) (fun j hj => by rcases (show j = 0 ∨ j = 1 ∨ j = 2 ∨ j = 3 ∨ j = 4 ∨ j = 5 ∨ j = 6 ∨ j = 7 by omega) with rfl | rfl | rfl | rfl | rfl | rfl | rfl | rfl <;> rfl) dX9_forgetFirstStep_28 (fun H locs hP hD hS => ?_)
  have hPD : PD G A H [oB8 h0 v_damps v_kind v_term v_nature v_teeth v_today v_past v_lefts v_notes v_marks v_apples v_biters v_steps, (v_past, .inl (G.2 2, 8, .inr (.inr (.inr (.inr (cR (s8 (vpa 1) (vpa 2) (vpa 3) (vpa 4) (vpa 4) (vpa 5) (vpa 6) (vpa 7)))))))), oB3 (vpa 0) (vzd 0) (vpt 0) (vpg 0) (vpf 0), oB3 (vpa 1) (vzd 1) (vpt 1) (vpg 1) (vpf 1), oB3 (vpa 2) (vzd 2) (vpt 2) (vpg 2) (vpf 2), oB3 (vpa 3) (vzd 3) (vpt 3) (vpg 3) (vpf 3), oB3 (vpa 4) (vzd 4) (vpt 4) (vpg 4) (vpf 4), oB3 (vpa 5) (vzd 5) (vpt 5) (vpg 5) (vpf 5), oB3 (vpa 6) (vzd 6) (vpt 6) (vpg 6) (vpf 6), oB3 (vpa 7) (vzd 7) (vpt 7) (vpg 7) (vpf 7)] := ⟨hP, hD⟩
  have hP := hPD.1
  have hD := hPD.2
  clear hPD
  refine lv_iinc (v := iI 5) (lv' := [(2, .int (iI 5)), (1, .ref (vpa 0)), (0, .ref h0)]) hx hb dX9_forgetFirstStep_29 hl (k := 0) rfl (iI_add 4 1) (by decide) rfl (fun ls hl => ?_)
  refine lv_goto (tgt := 9) hx hb dX9_forgetFirstStep_32 (by decide) ?_
  refine lv_iload_n hx hb dX9_forgetFirstStep_9 rfl (lv_at hl 0 rfl) ?_
  refine lv_bipush (v := iI 8) hx hb dX9_forgetFirstStep_10 (by decide) ?_
  refine lv_icmp_ge (tgt := 35) hx hb dX9_forgetFirstStep_12 (by decide) (fun c_5 => g_no c_5 (by decide)) (fun _ => ?_)
  refine lv_aload_n hx hb dX9_forgetFirstStep_15 rfl (lv_at hl 2 rfl) ?_
  refine va_get (D := G.1) (ci := 8) (v := .ref v_past) (C := RX9) (T := TX9) (N := 13) hx hb hts (fun _ h => List.mem_cons_of_mem _ (inlX9 _ h)) hown hK hP 0 rfl rfl 6 (by decide) (hts _ (List.mem_cons_of_mem _ (in_r3 (List.mem_of_getElem? (i := 10) rfl)))) (fun _ h9 => h9) rfl dX9_forgetFirstStep_16 ?_
  refine lv_iload_n hx hb dX9_forgetFirstStep_19 rfl (lv_at hl 0 rfl) ?_
  refine lv_iconst (v := iI 1) hx hb dX9_forgetFirstStep_20 rfl ?_
  refine lv_isub hx hb dX9_forgetFirstStep_21 ?_
  refine g_topi (y := iI 4) (iI_sub 5 1) ?_
  refine lv_aload_n hx hb dX9_forgetFirstStep_22 rfl (lv_at hl 2 rfl) ?_
  refine va_get (D := G.1) (ci := 8) (v := .ref v_past) (C := RX9) (T := TX9) (N := 13) hx hb hts (fun _ h => List.mem_cons_of_mem _ (inlX9 _ h)) hown hK hP 0 rfl rfl 6 (by decide) (hts _ (List.mem_cons_of_mem _ (in_r3 (List.mem_of_getElem? (i := 10) rfl)))) (fun _ h9 => h9) rfl dX9_forgetFirstStep_23 ?_
  refine lv_iload_n hx hb dX9_forgetFirstStep_26 rfl (lv_at hl 0 rfl) ?_
  refine va_aldq (C := RX4) hx hb hK hP 1 2 rfl rfl (by unfold vp_in; decide) dX9_forgetFirstStep_27 ?_
  refine W.eq (g2 := F0 m 28 ls [.ref (vpa 5), .int (iI 4), .ref v_past]) rfl ?_
  refine g_astR (k := 4) (f' := (s8 (vpa 1) (vpa 2) (vpa 3) (vpa 4) (vpa 5) (vpa 5) (vpa 6) (vpa 7))) hx hb hK hP hD hS 1 2 7 3 rfl rfl rfl rfl (by unfold vp_in; decide) (by decide) (fun j hj => by rcases (show j = 0 ∨ j = 1 ∨ j = 2 ∨ j = 3 ∨ j = 4 ∨ j = 5 ∨ j = 6 ∨ j = 7 by omega) with rfl | rfl | rfl | rfl | rfl | rfl | rfl | rfl <;> rfl) dX9_forgetFirstStep_28 (fun H locs hP hD hS => ?_)
  have hPD : PD G A H [oB8 h0 v_damps v_kind v_term v_nature v_teeth v_today v_past v_lefts v_notes v_marks v_apples v_biters v_steps, (v_past, .inl (G.2 2, 8, .inr (.inr (.inr (.inr (cR (s8 (vpa 1) (vpa 2) (vpa 3) (vpa 4) (vpa 5) (vpa 5) (vpa 6) (vpa 7)))))))), oB3 (vpa 0) (vzd 0) (vpt 0) (vpg 0) (vpf 0), oB3 (vpa 1) (vzd 1) (vpt 1) (vpg 1) (vpf 1), oB3 (vpa 2) (vzd 2) (vpt 2) (vpg 2) (vpf 2), oB3 (vpa 3) (vzd 3) (vpt 3) (vpg 3) (vpf 3), oB3 (vpa 4) (vzd 4) (vpt 4) (vpg 4) (vpf 4), oB3 (vpa 5) (vzd 5) (vpt 5) (vpg 5) (vpf 5), oB3 (vpa 6) (vzd 6) (vpt 6) (vpg 6) (vpf 6), oB3 (vpa 7) (vzd 7) (vpt 7) (vpg 7) (vpf 7)] := ⟨hP, hD⟩
  have hP := hPD.1
  have hD := hPD.2
  clear hPD
  refine lv_iinc (v := iI 6) (lv' := [(2, .int (iI 6)), (1, .ref (vpa 0)), (0, .ref h0)]) hx hb dX9_forgetFirstStep_29 hl (k := 0) rfl (iI_add 5 1) (by decide) rfl (fun ls hl => ?_)
  refine lv_goto (tgt := 9) hx hb dX9_forgetFirstStep_32 (by decide) ?_
  refine lv_iload_n hx hb dX9_forgetFirstStep_9 rfl (lv_at hl 0 rfl) ?_
  refine lv_bipush (v := iI 8) hx hb dX9_forgetFirstStep_10 (by decide) ?_
  refine lv_icmp_ge (tgt := 35) hx hb dX9_forgetFirstStep_12 (by decide) (fun c_6 => g_no c_6 (by decide)) (fun _ => ?_)
  refine lv_aload_n hx hb dX9_forgetFirstStep_15 rfl (lv_at hl 2 rfl) ?_
  refine va_get (D := G.1) (ci := 8) (v := .ref v_past) (C := RX9) (T := TX9) (N := 13) hx hb hts (fun _ h => List.mem_cons_of_mem _ (inlX9 _ h)) hown hK hP 0 rfl rfl 6 (by decide) (hts _ (List.mem_cons_of_mem _ (in_r3 (List.mem_of_getElem? (i := 10) rfl)))) (fun _ h9 => h9) rfl dX9_forgetFirstStep_16 ?_
  refine lv_iload_n hx hb dX9_forgetFirstStep_19 rfl (lv_at hl 0 rfl) ?_
  refine lv_iconst (v := iI 1) hx hb dX9_forgetFirstStep_20 rfl ?_
  refine lv_isub hx hb dX9_forgetFirstStep_21 ?_
  refine g_topi (y := iI 5) (iI_sub 6 1) ?_
  refine lv_aload_n hx hb dX9_forgetFirstStep_22 rfl (lv_at hl 2 rfl) ?_
  refine va_get (D := G.1) (ci := 8) (v := .ref v_past) (C := RX9) (T := TX9) (N := 13) hx hb hts (fun _ h => List.mem_cons_of_mem _ (inlX9 _ h)) hown hK hP 0 rfl rfl 6 (by decide) (hts _ (List.mem_cons_of_mem _ (in_r3 (List.mem_of_getElem? (i := 10) rfl)))) (fun _ h9 => h9) rfl dX9_forgetFirstStep_23 ?_
  refine lv_iload_n hx hb dX9_forgetFirstStep_26 rfl (lv_at hl 0 rfl) ?_
  refine va_aldq (C := RX4) hx hb hK hP 1 2 rfl rfl (by unfold vp_in; decide) dX9_forgetFirstStep_27 ?_
  refine W.eq (g2 := F0 m 28 ls [.ref (vpa 6), .int (iI 5), .ref v_past]) rfl ?_
  refine g_astR (k := 5) (f' := (s8 (vpa 1) (vpa 2) (vpa 3) (vpa 4) (vpa 5) (vpa 6) (vpa 6) (vpa 7))) hx hb hK hP hD hS 1 2 8 3 rfl rfl rfl rfl (by unfold vp_in; decide) (by decide) (fun j hj => by rcases (show j = 0 ∨ j = 1 ∨ j = 2 ∨ j = 3 ∨ j = 4 ∨ j = 5 ∨ j = 6 ∨ j = 7 by omega) with rfl | rfl | rfl | rfl | rfl | rfl | rfl | rfl <;> rfl) dX9_forgetFirstStep_28 (fun H locs hP hD hS => ?_)
  have hPD : PD G A H [oB8 h0 v_damps v_kind v_term v_nature v_teeth v_today v_past v_lefts v_notes v_marks v_apples v_biters v_steps, (v_past, .inl (G.2 2, 8, .inr (.inr (.inr (.inr (cR (s8 (vpa 1) (vpa 2) (vpa 3) (vpa 4) (vpa 5) (vpa 6) (vpa 6) (vpa 7)))))))), oB3 (vpa 0) (vzd 0) (vpt 0) (vpg 0) (vpf 0), oB3 (vpa 1) (vzd 1) (vpt 1) (vpg 1) (vpf 1), oB3 (vpa 2) (vzd 2) (vpt 2) (vpg 2) (vpf 2), oB3 (vpa 3) (vzd 3) (vpt 3) (vpg 3) (vpf 3), oB3 (vpa 4) (vzd 4) (vpt 4) (vpg 4) (vpf 4), oB3 (vpa 5) (vzd 5) (vpt 5) (vpg 5) (vpf 5), oB3 (vpa 6) (vzd 6) (vpt 6) (vpg 6) (vpf 6), oB3 (vpa 7) (vzd 7) (vpt 7) (vpg 7) (vpf 7)] := ⟨hP, hD⟩
  have hP := hPD.1
  have hD := hPD.2
  clear hPD
  refine lv_iinc (v := iI 7) (lv' := [(2, .int (iI 7)), (1, .ref (vpa 0)), (0, .ref h0)]) hx hb dX9_forgetFirstStep_29 hl (k := 0) rfl (iI_add 6 1) (by decide) rfl (fun ls hl => ?_)
  refine lv_goto (tgt := 9) hx hb dX9_forgetFirstStep_32 (by decide) ?_
  refine lv_iload_n hx hb dX9_forgetFirstStep_9 rfl (lv_at hl 0 rfl) ?_
  refine lv_bipush (v := iI 8) hx hb dX9_forgetFirstStep_10 (by decide) ?_
  refine lv_icmp_ge (tgt := 35) hx hb dX9_forgetFirstStep_12 (by decide) (fun c_7 => g_no c_7 (by decide)) (fun _ => ?_)
  refine lv_aload_n hx hb dX9_forgetFirstStep_15 rfl (lv_at hl 2 rfl) ?_
  refine va_get (D := G.1) (ci := 8) (v := .ref v_past) (C := RX9) (T := TX9) (N := 13) hx hb hts (fun _ h => List.mem_cons_of_mem _ (inlX9 _ h)) hown hK hP 0 rfl rfl 6 (by decide) (hts _ (List.mem_cons_of_mem _ (in_r3 (List.mem_of_getElem? (i := 10) rfl)))) (fun _ h9 => h9) rfl dX9_forgetFirstStep_16 ?_
  refine lv_iload_n hx hb dX9_forgetFirstStep_19 rfl (lv_at hl 0 rfl) ?_
  refine lv_iconst (v := iI 1) hx hb dX9_forgetFirstStep_20 rfl ?_
  refine lv_isub hx hb dX9_forgetFirstStep_21 ?_
  refine g_topi (y := iI 6) (iI_sub 7 1) ?_
  refine lv_aload_n hx hb dX9_forgetFirstStep_22 rfl (lv_at hl 2 rfl) ?_
  refine va_get (D := G.1) (ci := 8) (v := .ref v_past) (C := RX9) (T := TX9) (N := 13) hx hb hts (fun _ h => List.mem_cons_of_mem _ (inlX9 _ h)) hown hK hP 0 rfl rfl 6 (by decide) (hts _ (List.mem_cons_of_mem _ (in_r3 (List.mem_of_getElem? (i := 10) rfl)))) (fun _ h9 => h9) rfl dX9_forgetFirstStep_23 ?_
  refine lv_iload_n hx hb dX9_forgetFirstStep_26 rfl (lv_at hl 0 rfl) ?_
  refine va_aldq (C := RX4) hx hb hK hP 1 2 rfl rfl (by unfold vp_in; decide) dX9_forgetFirstStep_27 ?_
  refine W.eq (g2 := F0 m 28 ls [.ref (vpa 7), .int (iI 6), .ref v_past]) rfl ?_
  refine g_astR (k := 6) (f' := (s8 (vpa 1) (vpa 2) (vpa 3) (vpa 4) (vpa 5) (vpa 6) (vpa 7) (vpa 7))) hx hb hK hP hD hS 1 2 9 3 rfl rfl rfl rfl (by unfold vp_in; decide) (by decide) (fun j hj => by rcases (show j = 0 ∨ j = 1 ∨ j = 2 ∨ j = 3 ∨ j = 4 ∨ j = 5 ∨ j = 6 ∨ j = 7 by omega) with rfl | rfl | rfl | rfl | rfl | rfl | rfl | rfl <;> rfl) dX9_forgetFirstStep_28 (fun H locs hP hD hS => ?_)
  have hPD : PD G A H [oB8 h0 v_damps v_kind v_term v_nature v_teeth v_today v_past v_lefts v_notes v_marks v_apples v_biters v_steps, (v_past, .inl (G.2 2, 8, .inr (.inr (.inr (.inr (cR (s8 (vpa 1) (vpa 2) (vpa 3) (vpa 4) (vpa 5) (vpa 6) (vpa 7) (vpa 7)))))))), oB3 (vpa 0) (vzd 0) (vpt 0) (vpg 0) (vpf 0), oB3 (vpa 1) (vzd 1) (vpt 1) (vpg 1) (vpf 1), oB3 (vpa 2) (vzd 2) (vpt 2) (vpg 2) (vpf 2), oB3 (vpa 3) (vzd 3) (vpt 3) (vpg 3) (vpf 3), oB3 (vpa 4) (vzd 4) (vpt 4) (vpg 4) (vpf 4), oB3 (vpa 5) (vzd 5) (vpt 5) (vpg 5) (vpf 5), oB3 (vpa 6) (vzd 6) (vpt 6) (vpg 6) (vpf 6), oB3 (vpa 7) (vzd 7) (vpt 7) (vpg 7) (vpf 7)] := ⟨hP, hD⟩
  have hP := hPD.1
  have hD := hPD.2
  clear hPD
  refine lv_iinc (v := iI 8) (lv' := [(2, .int (iI 8)), (1, .ref (vpa 0)), (0, .ref h0)]) hx hb dX9_forgetFirstStep_29 hl (k := 0) rfl (iI_add 7 1) (by decide) rfl (fun ls hl => ?_)
  refine lv_goto (tgt := 9) hx hb dX9_forgetFirstStep_32 (by decide) ?_
  refine lv_iload_n hx hb dX9_forgetFirstStep_9 rfl (lv_at hl 0 rfl) ?_
  refine lv_bipush (v := iI 8) hx hb dX9_forgetFirstStep_10 (by decide) ?_
  refine lv_icmp_ge (tgt := 35) hx hb dX9_forgetFirstStep_12 (by decide) (fun _ => ?_) (fun c_8 => g_no (by decide) c_8)
  refine lv_aload_n hx hb dX9_forgetFirstStep_35 rfl (lv_at hl 2 rfl) ?_
  refine va_get (D := G.1) (ci := 8) (v := .ref v_past) (C := RX9) (T := TX9) (N := 13) hx hb hts (fun _ h => List.mem_cons_of_mem _ (inlX9 _ h)) hown hK hP 0 rfl rfl 6 (by decide) (hts _ (List.mem_cons_of_mem _ (in_r3 (List.mem_of_getElem? (i := 10) rfl)))) (fun _ h9 => h9) rfl dX9_forgetFirstStep_36 ?_
  refine lv_bipush (v := iI 7) hx hb dX9_forgetFirstStep_39 (by decide) ?_
  refine lv_aload_n hx hb dX9_forgetFirstStep_41 rfl (lv_at hl 1 rfl) ?_
  refine g_astR (k := 7) (f' := (s8 (vpa 1) (vpa 2) (vpa 3) (vpa 4) (vpa 5) (vpa 6) (vpa 7) (vpa 0))) hx hb hK hP hD hS 1 2 2 3 rfl rfl rfl rfl (by unfold vp_in; decide) (by decide) (fun j hj => by rcases (show j = 0 ∨ j = 1 ∨ j = 2 ∨ j = 3 ∨ j = 4 ∨ j = 5 ∨ j = 6 ∨ j = 7 by omega) with rfl | rfl | rfl | rfl | rfl | rfl | rfl | rfl <;> rfl) dX9_forgetFirstStep_42 (fun H locs hP hD hS => ?_)
  have hPD : PD G A H [oB8 h0 v_damps v_kind v_term v_nature v_teeth v_today v_past v_lefts v_notes v_marks v_apples v_biters v_steps, (v_past, .inl (G.2 2, 8, .inr (.inr (.inr (.inr (cR (s8 (vpa 1) (vpa 2) (vpa 3) (vpa 4) (vpa 5) (vpa 6) (vpa 7) (vpa 0)))))))), oB3 (vpa 0) (vzd 0) (vpt 0) (vpg 0) (vpf 0), oB3 (vpa 1) (vzd 1) (vpt 1) (vpg 1) (vpf 1), oB3 (vpa 2) (vzd 2) (vpt 2) (vpg 2) (vpf 2), oB3 (vpa 3) (vzd 3) (vpt 3) (vpg 3) (vpf 3), oB3 (vpa 4) (vzd 4) (vpt 4) (vpg 4) (vpf 4), oB3 (vpa 5) (vzd 5) (vpt 5) (vpg 5) (vpf 5), oB3 (vpa 6) (vzd 6) (vpt 6) (vpg 6) (vpf 6), oB3 (vpa 7) (vzd 7) (vpt 7) (vpg 7) (vpf 7)] := ⟨hP, hD⟩
  have hP := hPD.1
  have hD := hPD.2
  clear hPD
  refine lv_aload_n hx hb dX9_forgetFirstStep_43 rfl (lv_at hl 2 rfl) ?_
  refine lv_bipush (v := iI 7) hx hb dX9_forgetFirstStep_44 (by decide) ?_
  refine va_put (D := G.1) (ci := 8) (v := .int (iI 7)) (ty := .int) (C := RX9) (T := TX9) (N := 13) hx hb hts (fun _ h => List.mem_cons_of_mem _ (inlX9 _ h)) tyX9 tyX9_ok nmX9 hown hK hP hD hS 0 rfl rfl 12 (by decide) (hts _ (List.mem_cons_of_mem _ (in_r7 (List.mem_of_getElem? (i := 3) rfl)))) (fun _ h9 => h9) rfl (by decide +kernel) rfl rfl (Nat.le_of_ble_eq_true rfl) dX9_forgetFirstStep_46 (fun H locs hP hD hS => ?_)
  have hPD : PD G A H [oB8 h0 v_damps v_kind v_term v_nature v_teeth v_today v_past v_lefts v_notes v_marks v_apples v_biters 7, (v_past, .inl (G.2 2, 8, .inr (.inr (.inr (.inr (cR (s8 (vpa 1) (vpa 2) (vpa 3) (vpa 4) (vpa 5) (vpa 6) (vpa 7) (vpa 0)))))))), oB3 (vpa 0) (vzd 0) (vpt 0) (vpg 0) (vpf 0), oB3 (vpa 1) (vzd 1) (vpt 1) (vpg 1) (vpf 1), oB3 (vpa 2) (vzd 2) (vpt 2) (vpg 2) (vpf 2), oB3 (vpa 3) (vzd 3) (vpt 3) (vpg 3) (vpf 3), oB3 (vpa 4) (vzd 4) (vpt 4) (vpg 4) (vpf 4), oB3 (vpa 5) (vzd 5) (vpt 5) (vpg 5) (vpf 5), oB3 (vpa 6) (vzd 6) (vpt 6) (vpg 6) (vpf 6), oB3 (vpa 7) (vzd 7) (vpt 7) (vpg 7) (vpf 7)] := ⟨hP, hD⟩
  have hP := hPD.1
  have hD := hPD.2
  clear hPD
  exact g_vret hx hb hr hlocks hP hD hS (rfl) dX9_forgetFirstStep_49
