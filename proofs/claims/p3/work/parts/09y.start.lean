theorem gV_app {G : gG} {l : Launch} {y : MethodName} {wl : List Cond} {rm : Room} {as : List Value} {sz : Nat} {P : va_W} (R : va_W) {post : va_W → Prop} (c : gV G l y wl rm as P sz post) : gV G l y wl rm as (P ++ R) sz (fun w => ∃ u, post u ∧ w = u ++ R) :=
  Met.cons c (fun a s h => ⟨h.1, pre_app h.2⟩) (fun a s o t h hq => by
    obtain ⟨⟨u, h1, h2, h3⟩, h4⟩ := hq
    exact ⟨⟨u ++ R, h1, ⟨u, h2, rfl⟩, post_app h.2 h4 h3⟩, h4.mono (fun q hq => va_A.app hq)⟩) (fun q hq => va_A.app hq)
theorem gV_appL {G : gG} {l : Launch} {y : MethodName} {wl : List Cond} {rm : Room} {as : List Value} {sz : Nat} {Q : va_W} (P : va_W) {post : va_W → Prop} (c : gV G l y wl rm as Q sz post) : gV G l y wl rm as (P ++ Q) sz (fun w => ∃ v, post v ∧ w = P ++ v) :=
  Met.cons (gV_app P c) (fun a s h => ⟨h.1, pre_perm List.perm_append_comm h.2⟩) (fun a s o t h hq => by
    obtain ⟨⟨u, h1, ⟨v, hv, rfl⟩, h3⟩, h4⟩ := hq
    exact ⟨⟨P ++ v, h1, ⟨v, hv, rfl⟩, post_perm List.perm_append_comm List.perm_append_comm h3⟩, h4.mono (fun q hq => va_A.perm List.perm_append_comm hq)⟩) (fun q hq => va_A.perm List.perm_append_comm hq)
section GW2
variable {p : Program} {l : Launch} {e : Env} {R : Room} {s : State} {m : MethodId} {args : Array Value} {below : List Frame} {meth : Method} {c : Code} {H : Heap} {locs : List Loc} {cells slots : Nat} {Q : State → Prop} {G : gG}
theorem g_preSW {A : Nat → Prop} {w : va_W} (as : List Value) (hP : va_P G.1 vwCl w H) (hD : va_D A w) (hK : va_K G.1 vwCl (gt G) s) (hN : nW s) (hS : va_S A s.heap H locs) (hA : ∀ q, s.heap.size ≤ q → A q) (hZ : zK G A s s.heap) : PreS s H (va_Pc as (gPre G w H.size)) as :=
  ⟨gPre_blind G as w H.size, fun U hU hW => ⟨rfl, by rw [hU], by rw [hU]; exact hP, va_K.moved hW.alike hK, hD.weaken (fun _ _ _ _ => trivial), hN.warm hW, by rw [hU]; exact hZ.next hS hW (w_free hD hS hA)⟩⟩
theorem g_callvW {post : va_W → Prop} {a : Array Value} {A : Nat → Prop} {H0 : Heap} {w : va_W} {mc ms pc : Nat} {ls : Array Slot} {st0 rest : List Value} (hr : va_Run p l e R s m args below meth c H locs cells slots mc ms (F0 m pc ls st0) rest (va_Qv post (gPost G (va_A w H.size)) (va_A w H.size) a) (va_A w H.size)) (hD : va_D A w) (hS : va_S A H0 H locs) (hA : ∀ q, H0.size ≤ q → A q)
    (kk : ∀ (u : va_W) (H1 : Heap) (locs1 : List Loc), post u → va_P G.1 vwCl u H1 → va_D A u → va_S A H0 H1 locs1 → W p l e R s m args below meth c H1 locs1 (cells + mc) (slots + ms) Q (F0 m (pc + 3) ls rest)) : W p l e R s m args below meth c H locs cells slots Q (F0 m pc ls st0) := by
  have hF := w_free hD hS hA
  refine va_callv hr hS (fun q _ h => hF q h) hF (fun u t H1 locs1 ht hvm hw hB hz1 hk1 hS1 => ?_)
  exact kk u H1 locs1 hw (by rw [← ht]; exact hB.1) (hB.2.weaken (fun k q _ hq => hF _ hq)) hS1
end GW2
theorem dL_law_0 : decode cL_law 0 = .ok (.new 7, 3) := kd_187 (a := 0) (b := 7) (by decide +kernel)
theorem dL_law_3 : decode cL_law 3 = .ok (.dup, 1) := kd_89 (by decide +kernel)
theorem gL_law_X10_init : GoodIn wsL_law (wsX10_init) := gL_0 (in_r1 (List.mem_of_getElem? (i := 8) rfl))
theorem dL_law_4 : decode cL_law 4 = .ok (.invokespecial 9, 3) := kd_183 (a := 0) (b := 9) (by decide +kernel)
theorem dL_law_7 : decode cL_law 7 = .ok (.astore_n 1, 1) := kd_76 (by decide +kernel)
theorem dL_law_8 : decode cL_law 8 = .ok (.new 10, 3) := kd_187 (a := 0) (b := 10) (by decide +kernel)
theorem dL_law_11 : decode cL_law 11 = .ok (.dup, 1) := kd_89 (by decide +kernel)
theorem gL_law_X11_init : GoodIn wsL_law (wsX11_init) := gL_0 (in_r5 (List.mem_of_getElem? (i := 22) rfl))
theorem dL_law_12 : decode cL_law 12 = .ok (.invokespecial 12, 3) := kd_183 (a := 0) (b := 12) (by decide +kernel)
theorem dL_law_15 : decode cL_law 15 = .ok (.astore_n 2, 1) := kd_77 (by decide +kernel)
theorem dL_law_16 : decode cL_law 16 = .ok (.iconst 0, 1) := kd_3 (by decide +kernel)
theorem dL_law_17 : decode cL_law 17 = .ok (.istore_n 3, 1) := kd_62 (by decide +kernel)
set_option maxHeartbeats 8000000 in
set_option maxRecDepth 100000 in
theorem whole_start {p : Program} {e : Env} {s : State} {m : MethodId} {below : List Frame} {meth : Method} {c : Code} (l : Launch) {b L : Nat} {xs : Nat → Int32} (hL : L ≤ 384) (C0 : lw_At p s m meth c b L xs) : W p l e room_1 s m #[Value.ref b] below meth c s.heap [] 0 0 (lw_Z below #[Value.ref b] s) (entryFrame m ([Value.ref b] : List Value).toArray 4) := by
  obtain ⟨hx, hb, hr, hml, hown, hts0, hX, hbl, hlocks, hgv⟩ := id C0
  have hts := fun w h => hts0 w (wsL_law_in w h)
  obtain ⟨A, hAe⟩ : ∃ A : Nat → Prop, A = fun q : Nat => s.heap.size ≤ q := ⟨_, rfl⟩
  obtain ⟨G, hK, hZ⟩ := g_start (A := A) hts0 hgv (fun a h => by rw [hAe]; exact Nat.not_le.mpr h)
  have hN := g_nest hts0
  have hA : ∀ q : Nat, s.heap.size ≤ q → A q := fun q h => by rw [hAe]; exact h
  have hS : va_S A s.heap s.heap [] := va_S.rf
  have hP : va_P G.1 vwCl [] s.heap := fun k q h => by simp at h
  have hD : va_D A [] := ⟨fun i j p q h => by simp at h, fun k q h => by simp at h⟩
  have hl := lv_entry ([.ref b]) (n := 4) (Nat.le_of_ble_eq_true rfl)
  rw [lg_entry_eq]
  generalize (lg_sl ([.ref b]) ++ List.replicate (4 - (lg_sl ([.ref b])).length) Slot.unset).toArray = ls at hl ⊢
  have hl : lv_has ls 4 [(0, .ref b)] := hl
  refine va_new (ci := 9) (fs := [.null, .null, .null, .null, .null, .null, .null, .null, .null, .null, .null, .long 0, .long 0, .int 0, .int 0, .int 0]) (C := RX10) (T := TX10) (N := 16) hx hb hts (fun _ h => inlX10 _ h) tyX10 tyX10_ok hown (hts _ (in_r1 (List.mem_of_getElem? (i := 0) rfl))) (hts _ (in_r1 (List.mem_of_getElem? (i := 1) rfl))) (hts _ (in_r1 (List.mem_of_getElem? (i := 2) rfl))) hK hP hD hS hA rfl (fun j hj => by rcases (show j = 0 ∨ j = 1 ∨ j = 2 ∨ j = 3 ∨ j = 4 ∨ j = 5 ∨ j = 6 ∨ j = 7 ∨ j = 8 ∨ j = 9 ∨ j = 10 ∨ j = 11 ∨ j = 12 ∨ j = 13 ∨ j = 14 ∨ j = 15 by omega) with rfl | rfl | rfl | rfl | rfl | rfl | rfl | rfl | rfl | rfl | rfl | rfl | rfl | rfl | rfl | rfl <;> rfl) (Nat.le_of_ble_eq_true rfl) (Nat.le_of_ble_eq_true rfl) dL_law_0 (fun q_1 H hP hD hS => ?_)
  obtain ⟨hP, hD⟩ : PD G A H [(q_1, .inr (9, [.null, .null, .null, .null, .null, .null, .null, .null, .null, .null, .null, .long 0, .long 0, .int 0, .int 0, .int 0]))] := ⟨hP, hD⟩
  refine W.widen (k := 1) (n := 16) (Nat.le_of_ble_eq_true rfl) (Nat.le_of_ble_eq_true rfl) ?_
  refine lv_dup hx hb dL_law_3 rfl ?_
  refine g_callv (wr := []) (va_runI (As := []) (rest := [.ref q_1]) ⟨hx, hb, hml, hown, hts⟩ (c2_X10_init l G q_1 _) (cwI 0 hts gL_law_X10_init rfl rfl rfl (hts _ (in_r1 (List.mem_of_getElem? (i := 2) rfl))) (hts _ (in_r1 (List.mem_of_getElem? (i := 6) rfl))) (hts _ (in_r1 (List.mem_of_getElem? (i := 7) rfl))) rfl (by decide +kernel) ⟨Nat.le_of_ble_eq_true rfl, Nat.le_of_ble_eq_true rfl⟩) (g_preS [.ref q_1] hP hD hK hN hS hA hZ [0] rfl rfl) rfl rfl hl.1 rfl (lv_room (Nat.le_of_ble_eq_true rfl)) dL_law_4 ⟨Nat.le_of_ble_eq_true rfl, Nat.le_of_ble_eq_true rfl⟩) hP hD hS hA [0] [] rfl rfl rfl (by decide) (fun u H locs hw hP hD hS => ?_)
  obtain ⟨fH, fS, fU, fW, r, rfl⟩ := hw
  have hP : va_P G.1 vwCl (wX G q_1 fH fS fU fW r) H := hP
  have hD : va_D A (wX G q_1 fH fS fU fW r) := hD
  have hXI := wX_XI (G := G) (K := 20000) (by omega) q_1 fH fS fU fW r
  generalize wX G q_1 fH fS fU fW r = P at hP hD hXI
  refine W.widen (k := 222) (n := 2346) (Nat.le_of_ble_eq_true rfl) (Nat.le_of_ble_eq_true rfl) ?_
  refine lv_astore_n (lv' := [(1, .ref q_1), (0, .ref b)]) hx hb dL_law_7 rfl hl (by decide) rfl (fun ls hl => ?_)
  refine va_new (ci := 10) (fs := [.null, .null, .null, .null, .long 0, .long 0, .null, .null, .null, .null, .null, .null, .null, .null, .int 0, .int 0, .int 0, .int 0, .int 0, .null, .null]) (C := RX11) (T := TX11) (N := 21) hx hb hts (fun _ h => inlX11 _ h) tyX11 tyX11_ok hown (hts _ (in_r1 (List.mem_of_getElem? (i := 3) rfl))) (hts _ (in_r1 (List.mem_of_getElem? (i := 4) rfl))) (hts _ (in_r1 (List.mem_of_getElem? (i := 5) rfl))) hK hP hD hS hA rfl (fun j hj => by rcases (show j = 0 ∨ j = 1 ∨ j = 2 ∨ j = 3 ∨ j = 4 ∨ j = 5 ∨ j = 6 ∨ j = 7 ∨ j = 8 ∨ j = 9 ∨ j = 10 ∨ j = 11 ∨ j = 12 ∨ j = 13 ∨ j = 14 ∨ j = 15 ∨ j = 16 ∨ j = 17 ∨ j = 18 ∨ j = 19 ∨ j = 20 by omega) with rfl | rfl | rfl | rfl | rfl | rfl | rfl | rfl | rfl | rfl | rfl | rfl | rfl | rfl | rfl | rfl | rfl | rfl | rfl | rfl | rfl <;> rfl) (Nat.le_of_ble_eq_true rfl) (Nat.le_of_ble_eq_true rfl) dL_law_8 (fun q_9 H hP hD hS => ?_)
  obtain ⟨hP, hD⟩ : PD G A H (P ++ [(q_9, .inr (10, [.null, .null, .null, .null, .long 0, .long 0, .null, .null, .null, .null, .null, .null, .null, .null, .int 0, .int 0, .int 0, .int 0, .int 0, .null, .null]))]) := ⟨hP, hD⟩
  refine W.widen (k := 223) (n := 2367) (Nat.le_of_ble_eq_true rfl) (Nat.le_of_ble_eq_true rfl) ?_
  refine lv_dup hx hb dL_law_11 rfl ?_
  refine g_callvW (va_runI (As := []) (rest := [.ref q_9]) ⟨hx, hb, hml, hown, hts⟩ (gV_appL P (c_X11_init l G q_9 _)) (cwI 0 hts gL_law_X11_init rfl rfl rfl (hts _ (in_r1 (List.mem_of_getElem? (i := 5) rfl))) (hts _ (in_r5 (List.mem_of_getElem? (i := 20) rfl))) (hts _ (in_r5 (List.mem_of_getElem? (i := 21) rfl))) rfl (by decide +kernel) ⟨Nat.le_of_ble_eq_true rfl, Nat.le_of_ble_eq_true rfl⟩) (g_preSW [.ref q_9] hP hD hK hN hS hA hZ) rfl rfl hl.1 rfl (lv_room (Nat.le_of_ble_eq_true rfl)) dL_law_12 ⟨Nat.le_of_ble_eq_true rfl, Nat.le_of_ble_eq_true rfl⟩) hD hS hA (fun u H locs hw hP hD hS => ?_)
  obtain ⟨Q, hQ, rfl⟩ := hw
  obtain ⟨d, rfl⟩ := m_pack hQ
  have hMI := wM_MBI (G := G) (K := 20000) (by omega) q_9 d
  refine W.widen (k := 237) (n := 3762) (Nat.le_of_ble_eq_true rfl) (Nat.le_of_ble_eq_true rfl) ?_
  refine lv_astore_n (lv' := [(2, .ref q_9), (1, .ref q_1), (0, .ref b)]) hx hb dL_law_15 rfl hl (by decide) rfl (fun ls hl => ?_)
  refine lv_iconst (v := iI 0) hx hb dL_law_16 rfl ?_
  refine lv_istore_n (lv' := [(3, .int (iI 0)), (2, .ref q_9), (1, .ref q_1), (0, .ref b)]) hx hb dL_law_17 rfl hl (by decide) rfl (fun ls hl => ?_)
  exact lw_loop l hL C0 hAe hK hN hZ hXI hMI hP hD hS hl
