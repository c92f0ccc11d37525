def nestL : List Cond := [.methodLinkNest RX10 9 yX9_init "ToffeeWords",
  .methodLinkNest RX9 29 yX4_init "ToffeeWords",
  .fieldLinkNest RX9 63 RX4 "day" "I" "ToffeeWords",
  .fieldLinkNest RX10 133 RX4 "day" "I" "ToffeeWords",
  .fieldLinkNest RX0 27 RX4 "toffee" "[I" "ToffeeWords",
  .fieldLinkNest RX1 21 RX4 "toffee" "[I" "ToffeeWords",
  .fieldLinkNest RX2 71 RX4 "toffee" "[I" "ToffeeWords",
  .fieldLinkNest RX9 86 RX4 "toffee" "[I" "ToffeeWords",
  .fieldLinkNest RX9 89 RX4 "age" "[I" "ToffeeWords",
  .fieldLinkNest RX9 83 RX4 "fate" "[I" "ToffeeWords",
  .methodLinkNest RX9 40 yX6_init "ToffeeWords",
  .fieldLinkNest RX2 25 RX6 "count" "I" "ToffeeWords",
  .fieldLinkNest RX9 142 RX6 "count" "I" "ToffeeWords",
  .fieldLinkNest RX10 96 RX9 "damps" "[I" "ToffeeWords",
  .fieldLinkNest RX7 80 RX9 "damps" "[I" "ToffeeWords",
  .fieldLinkNest RX2 35 RX9 "kind" "[I" "ToffeeWords",
  .fieldLinkNest RX10 172 RX9 "nature" "[I" "ToffeeWords",
  .fieldLinkNest RX2 96 RX9 "teeth" "[I" "ToffeeWords",
  .fieldLinkNest RX10 175 RX9 "teeth" "[I" "ToffeeWords",
  .fieldLinkNest RX0 21 RX9 "today" "LToffeeWords$Moment;" "ToffeeWords",
  .fieldLinkNest RX1 15 RX9 "today" "LToffeeWords$Moment;" "ToffeeWords",
  .fieldLinkNest RX2 67 RX9 "today" "LToffeeWords$Moment;" "ToffeeWords",
  .fieldLinkNest RX7 95 RX9 "today" "LToffeeWords$Moment;" "ToffeeWords",
  .fieldLinkNest RX10 130 RX9 "today" "LToffeeWords$Moment;" "ToffeeWords",
  .fieldLinkNest RX2 19 RX9 "lefts" "LToffeeWords$Rows;" "ToffeeWords",
  .fieldLinkNest RX10 208 RX9 "lefts" "LToffeeWords$Rows;" "ToffeeWords",
  .fieldLinkNest RX2 56 RX9 "notes" "LToffeeWords$Rows;" "ToffeeWords",
  .fieldLinkNest RX10 225 RX9 "notes" "LToffeeWords$Rows;" "ToffeeWords",
  .fieldLinkNest RX2 83 RX9 "marks" "LToffeeWords$Rows;" "ToffeeWords",
  .fieldLinkNest RX10 228 RX9 "marks" "LToffeeWords$Rows;" "ToffeeWords",
  .fieldLinkNest RX10 81 RX9 "apples" "I" "ToffeeWords",
  .fieldLinkNest RX0 53 RX9 "apples" "I" "ToffeeWords",
  .fieldLinkNest RX7 55 RX9 "apples" "I" "ToffeeWords",
  .fieldLinkNest RX1 32 RX9 "biters" "I" "ToffeeWords",
  .fieldLinkNest RX0 46 RX9 "biters" "I" "ToffeeWords",
  .fieldLinkNest RX7 61 RX9 "biters" "I" "ToffeeWords",
  .fieldLinkNest RX10 110 RX9 "biters" "I" "ToffeeWords",
  .fieldLinkNest RX10 100 RX9 "steps" "I" "ToffeeWords",
  .methodLinkNest RX10 29 yX7_init "ToffeeWords",
  .methodLinkNest RX7 11 yX8_init "ToffeeWords",
  .fieldLinkNest RX7 123 RX8 "sorts" "[I" "ToffeeWords",
  .fieldLinkNest RX7 129 RX8 "starts" "[I" "ToffeeWords",
  .fieldLinkNest RX7 126 RX8 "values" "[I" "ToffeeWords",
  .fieldLinkNest RX10 117 RX8 "length" "I" "ToffeeWords",
  .fieldLinkNest RX7 132 RX8 "tokens" "I" "ToffeeWords",
  .fieldLinkNest RX10 34 RX7 "text" "LToffeeWords$Text;" "ToffeeWords",
  .methodLinkNest RX10 41 yX4_init "ToffeeWords",
  .methodLinkNest RX10 48 yX1_init "ToffeeWords",
  .methodLinkNest RX10 55 yX0_init "ToffeeWords",
  .fieldLinkNest RX10 205 RX0 "best" "[I" "ToffeeWords",
  .fieldLinkNest RX10 202 RX0 "most" "I" "ToffeeWords",
  .methodLinkNest RX10 62 yX5_init "ToffeeWords",
  .fieldLinkNest RX10 253 RX5 "resting" "[I" "ToffeeWords",
  .fieldLinkNest RX10 250 RX5 "count" "I" "ToffeeWords",
  .methodLinkNest RX10 69 yX2_init "ToffeeWords",
  .methodLinkNest RX10 85 yX9_startAnew "ToffeeWords",
  .methodLinkNest RX9 66 yX6_empty "ToffeeWords",
  .methodLinkNest RX10 106 yX9_addApple "ToffeeWords",
  .methodLinkNest RX10 113 yX9_addBiter "ToffeeWords",
  .methodLinkNest RX10 122 yX8_addByte "ToffeeWords",
  .methodLinkNest RX10 126 yX7_tell "ToffeeWords",
  .methodLinkNest RX7 22 yX8_scan "ToffeeWords",
  .methodLinkNest RX7 25 yX9_startAnew "ToffeeWords",
  .methodLinkNest RX7 113 yX10_within "ToffeeWords",
  .methodLinkNest RX7 83 yX9_addApple "ToffeeWords",
  .methodLinkNest RX7 87 yX9_addBiter "ToffeeWords",
  .methodLinkNest RX7 116 yX9_hasApple "ToffeeWords",
  .methodLinkNest RX7 120 yX9_isOut "ToffeeWords",
  .methodLinkNest RX7 99 yX9_bite "ToffeeWords",
  .methodLinkNest RX9 109 yX3_hardness "ToffeeWords",
  .methodLinkNest RX9 119 yX3_strength "ToffeeWords",
  .methodLinkNest RX7 103 yX9_dip "ToffeeWords",
  .methodLinkNest RX7 106 yX9_passDays "ToffeeWords",
  .methodLinkNest RX9 95 yX4_passDay "ToffeeWords",
  .methodLinkNest RX10 136 yX9_remember "ToffeeWords",
  .methodLinkNest RX9 76 yX4_takeOver "ToffeeWords",
  .methodLinkNest RX10 139 yX9_passDays "ToffeeWords",
  .methodLinkNest RX10 143 yX4_fates "ToffeeWords",
  .methodLinkNest RX10 146 yX9_hasBiter "ToffeeWords",
  .methodLinkNest RX10 150 yX9_hasApple "ToffeeWords",
  .methodLinkNest RX10 153 yX9_isOut "ToffeeWords",
  .methodLinkNest RX10 159 yX9_bite "ToffeeWords",
  .methodLinkNest RX10 163 yX9_dip "ToffeeWords",
  .methodLinkNest RX10 166 yX9_stepBack "ToffeeWords",
  .methodLinkNest RX10 169 yX9_tellApple "ToffeeWords",
  .methodLinkNest RX10 178 yX9_hardBehind "ToffeeWords",
  .methodLinkNest RX10 181 yX9_comesOffNow "ToffeeWords",
  .methodLinkNest RX10 184 yX9_takesOff "ToffeeWords",
  .methodLinkNest RX10 190 yX1_bitesFor "ToffeeWords",
  .methodLinkNest RX1 36 yX9_comesOff "ToffeeWords",
  .methodLinkNest RX10 194 yX1_biterAt "ToffeeWords",
  .methodLinkNest RX10 198 yX0_lay "ToffeeWords",
  .methodLinkNest RX0 56 yX9_comesOff "ToffeeWords",
  .methodLinkNest RX10 212 yX6_isFull "ToffeeWords",
  .methodLinkNest RX10 218 yX6_add "ToffeeWords",
  .methodLinkNest RX10 222 yX2_toffeeAhead "ToffeeWords",
  .methodLinkNest RX2 31 yX6_cell "ToffeeWords",
  .methodLinkNest RX6 33 yX10_within "ToffeeWords",
  .methodLinkNest RX2 38 yX3_hardness "ToffeeWords",
  .methodLinkNest RX2 44 yX9_hasBiter "ToffeeWords",
  .methodLinkNest RX2 48 yX9_takesOff "ToffeeWords",
  .methodLinkNest RX10 231 yX6_empty "ToffeeWords",
  .methodLinkNest RX10 234 yX2_appleKinds "ToffeeWords",
  .methodLinkNest RX10 237 yX2_bestLook "ToffeeWords",
  .methodLinkNest RX10 240 yX2_biterKinds "ToffeeWords",
  .methodLinkNest RX2 89 yX3_strength "ToffeeWords",
  .methodLinkNest RX10 243 yX2_bestBite "ToffeeWords",
  .methodLinkNest RX10 246 yX5_weigh "ToffeeWords",
  .methodLinkNest RX5 19 yX9_hardBehind "ToffeeWords",
  .methodLinkNest RX5 25 yX9_takesOff "ToffeeWords",
  .methodLinkNest RX10 256 yX9_robbedTenths "ToffeeWords",
  .methodLinkNest RX10 266 yX4_takeOver "ToffeeWords",
  .methodLinkNest RX10 284 yX4_passDay "ToffeeWords",
  .methodLinkNest RX10 287 yX9_takeOver "ToffeeWords",
  .methodLinkNest RX9 80 yX6_takeOver "ToffeeWords",
  .methodLinkNest RX10 298 yX9_howMany "ToffeeWords",
  .methodLinkNest RX9 136 yX4_fates "ToffeeWords",
  .methodLinkNest RX9 139 yX4_toffeeOnAll "ToffeeWords",
  .methodLinkNest RX10 305 yX9_mixInto "ToffeeWords",
  .methodLinkNest RX9 150 yX6_mixRows "ToffeeWords"]
/-- what the tables say of nest mates and of arrays of references: no word of a list carries it, so each contract does -/
def nW (U : State) : Prop := (∀ w ∈ nestL, va_Nw w U) ∧ va_AO RX4 U ∧ va_AO RX9 U
def nestOk (w : Cond) : Bool := match w with
  | .fieldLinkNest _ _ _ _ _ _ => true
  | .methodLinkNest _ _ _ _ => true
  | _ => false
theorem nestL_ok : ∀ w ∈ nestL, nestOk w = true := by decide +kernel
theorem nest_warm {w : Cond} (h : nestOk w = true) {s U : State} (hW : s.WarmedH U.vm) (hZ : va_Nw w s) : va_Nw w U := by
  unfold nestOk at h
  split at h
  · exact va_Nw.warmF hW hZ
  · exact va_Nw.warmM hW hZ
  · cases h
theorem nest_tab {w : Cond} (h : nestOk w = true) : w.onTables = true := by
  unfold nestOk at h
  split at h
  · rfl
  · rfl
  · cases h
theorem nW.warm {s U : State} (h : nW s) (hW : s.WarmedH U.vm) : nW U := ⟨fun w hw => nest_warm (nestL_ok w hw) hW (h.1 w hw), h.2.1.moved hW.alike, h.2.2.moved hW.alike⟩
theorem nW.same {s U : State} (h : nW s) (e : s.vm = U.vm) : nW U := ⟨fun w hw => va_Nw.same (nest_tab (nestL_ok w hw)) e (h.1 w hw), h.2.1.moved (by rw [e]; exact Vm.Alike.refl _), h.2.2.moved (by rw [e]; exact Vm.Alike.refl _)⟩
abbrev gG : Type := va_G × (Nat → ClassId)
abbrev gt (G : gG) : List (ClassId × FieldType) := [(G.2 0, .int), (G.2 1, .boolean), (G.2 2, .object RX4), (G.2 3, .object RX9)]
def zLen : List Nat := [6, 4, 5, 5, 4, 3, 4]
def zByt : List (List Int32) := [[118, 97, 108, 108, 101, 121], [100, 97, 109, 112], [97, 112, 112, 108, 101], [98, 105, 116, 101, 114], [98, 105, 116, 101], [100, 105, 112], [100, 97, 121, 115]]
def zIdx : List Nat := [50, 56, 58, 60, 62, 64, 66]
def zTx : List String := ["valley", "damp", "apple", "biter", "bite", "dip", "days"]
/-- the constants' texts and the two statics: their addresses are G.2 (10 + i), G.2 (20 + i); of the second static only that it is null or an address -/
def zK (G : gG) (A : Nat → Prop) (U : State) (H : Heap) : Prop := vk_S 7 zLen zByt (fun i => G.2 (10 + i)) (fun i => G.2 (20 + i)) A U H ∧ (∀ i : Nat, i < 7 → vk_R RX8 (zIdx.getD i 0) (zTx.getD i "") (G.2 (10 + i)) U) ∧ va_Z "java/lang/String" "COMPACT_STRINGS" "Z" (.int 1) A U H ∧ va_Zq "jdk/internal/util/Preconditions" "SIOOBE_FORMATTER" "Ljava/util/function/BiFunction;" A U H
theorem zK.next {G : gG} {A B : Nat → Prop} {s U : State} {H : Heap} {locs : List Loc} (h : zK G A s s.heap) (hS : va_S A s.heap H locs) (hW : s.WarmedH U.vm) (hAB : ∀ q, B q → A q) : zK G B U H := ⟨((h.1.kept hS.2.1).narrow hAB).moved hW.alike, fun i hi => (h.2.1 i hi).warm hW, ((h.2.2.1.kept hS.2.1).narrow hAB).moved hW.alike, ((h.2.2.2.kept hS.2.1).narrow hAB).moved hW.alike⟩
theorem zK.same {G : gG} {A : Nat → Prop} {s U : State} {H : Heap} (h : zK G A s H) (e : U.vm = s.vm) : zK G A U H := ⟨h.1.moved (by rw [e]; exact Vm.Alike.refl _), fun i hi => (h.2.1 i hi).same e, h.2.2.1.moved (by rw [e]; exact Vm.Alike.refl _), h.2.2.2.moved (by rw [e]; exact Vm.Alike.refl _)⟩
def gPre (G : gG) (ws : va_W) (sz : Nat) (U : State) : Prop := U.heap.size = sz ∧ va_P G.1 vwCl ws U.heap ∧ va_K G.1 vwCl (gt G) U ∧ va_D (fun _ => True) ws ∧ nW U ∧ zK G (va_A ws sz) U U.heap
def gPost (G : gG) (A : Nat → Prop) (ws : va_W) (t : State) : Prop := va_P G.1 vwCl ws t.heap ∧ va_D A ws
abbrev gI (G : gG) (l : Launch) (y : MethodName) (wl : List Cond) (rm : Room) (as : List Value) (ws0 : va_W) (sz : Nat) (post : Int32 → va_W → Prop) : Prop := Met l y wl rm (va_Pc as (gPre G ws0 sz)) (va_Qi post (gPost G (va_A ws0 sz)) (va_A ws0 sz)) rm.cells rm.slots (va_A ws0 sz)
abbrev gL (G : gG) (l : Launch) (y : MethodName) (wl : List Cond) (rm : Room) (as : List Value) (ws0 : va_W) (sz : Nat) (post : Int64 → va_W → Prop) : Prop := Met l y wl rm (va_Pc as (gPre G ws0 sz)) (va_Ql post (gPost G (va_A ws0 sz)) (va_A ws0 sz)) rm.cells rm.slots (va_A ws0 sz)
abbrev gV (G : gG) (l : Launch) (y : MethodName) (wl : List Cond) (rm : Room) (as : List Value) (ws0 : va_W) (sz : Nat) (post : va_W → Prop) : Prop := Met l y wl rm (va_Pc as (gPre G ws0 sz)) (va_Qv post (gPost G (va_A ws0 sz)) (va_A ws0 sz)) rm.cells rm.slots (va_A ws0 sz)
theorem gPre_blind (G : gG) (as : List Value) (ws : va_W) (sz : Nat) : FrameBlind (va_Pc as (gPre G ws sz)) := fun a U g mk q => by
  obtain ⟨q0, q1, qP, qK, qD, qN, qZ⟩ := q
  exact ⟨q0, q1, qP, va_K.moved (u := U) (U := U.calling g mk a) (Vm.Alike.refl U.vm) qK, qD, qN.same rfl, qZ.same rfl⟩
theorem g_preS {G : gG} {s : State} {H : Heap} {A : Nat → Prop} {ws wc : va_W} (as : List Value) (hP : va_P G.1 vwCl ws H) (hD : va_D A ws) (hK : va_K G.1 vwCl (gt G) s) (hN : nW s) {locs : List Loc} (hS : va_S A s.heap H locs) (hA : ∀ q, s.heap.size ≤ q → A q) (hZ : zK G A s s.heap) (isC : List Nat) (hnd : va_nd isC = true) (hC : isC.map (fun i => ws[i]?) = wc.map some) : PreS s H (va_Pc as (gPre G wc H.size)) as := by
  refine ⟨gPre_blind G as wc H.size, fun U hU hW => ⟨rfl, by rw [hU], ?_, va_K.moved hW.alike hK, (hD.sub isC hnd hC).weaken (fun _ _ _ _ => trivial), hN.warm hW, by rw [hU]; exact hZ.next hS hW (va_free (wc := wc) hD hS hA isC hC)⟩⟩
  rw [hU]
  intro k q hk
  have h1 : (isC.map (fun i => ws[i]?))[k]? = some (some q) := by rw [hC, List.getElem?_map, hk]; rfl
  rw [List.getElem?_map] at h1
  cases hi : isC[k]? with
  | none => rw [hi] at h1; cases h1
  | some i => rw [hi] at h1; exact hP i q (Option.some.inj h1)
theorem g_preV {G : gG} {s : State} {H : Heap} {A : Nat → Prop} {ws wc : va_W} (b : Nat) (as : List Value) (hP : va_P G.1 vwCl ws H) (hD : va_D A ws) (hK : va_K G.1 vwCl (gt G) s) (hN : nW s) {locs : List Loc} (hS : va_S A s.heap H locs) (hA : ∀ q, s.heap.size ≤ q → A q) (hZ : zK G A s s.heap) (isC : List Nat) (hnd : va_nd isC = true) (hC : isC.map (fun i => ws[i]?) = wc.map some) (q0 : Nat) {ci : Nat} {q : vw_C} {fs : List Value} (he : ws[q0]? = some (b, .inr (ci, fs))) (hc : vwCl[ci]? = some q) : PreV s H q.1 b (va_Pc (.ref b :: as) (gPre G wc H.size)) as :=
  ⟨gPre_blind G _ wc H.size, va_recv hK hP hc he, (g_preS (.ref b :: as) hP hD hK hN hS hA hZ isC hnd hC).2⟩
theorem g_preZ {G : gG} {s : State} {H : Heap} {A : Nat → Prop} {ws wc : va_W} (i : Nat) (hi : i < 7) (as : List Value) (hP : va_P G.1 vwCl ws H) (hD : va_D A ws) (hK : va_K G.1 vwCl (gt G) s) (hN : nW s) {locs : List Loc} (hS : va_S A s.heap H locs) (hA : ∀ q, s.heap.size ≤ q → A q) (hZ : zK G A s s.heap) (isC : List Nat) (hnd : va_nd isC = true) (hC : isC.map (fun i => ws[i]?) = wc.map some) : PreV s H RJ0 (G.2 (10 + i)) (va_Pc (.ref (G.2 (10 + i)) :: as) (gPre G wc H.size)) as :=
  ⟨gPre_blind G _ wc H.size, vk_recv (i := i) (adK := fun i => G.2 (10 + i)) hZ.1 hi hS, (g_preS (.ref (G.2 (10 + i)) :: as) hP hD hK hN hS hA hZ isC hnd hC).2⟩
section GC
variable {p : Program} {l : Launch} {e : Env} {R : Room} {s : State} {m : MethodId} {args : Array Value} {below : List Frame} {meth : Method} {c : Code} {H : Heap} {locs : List Loc} {cells slots : Nat} {Q : State → Prop} {G : gG}
theorem g_calli {post : Int32 → va_W → Prop} {a : Array Value} {A : Nat → Prop} {H0 : Heap} {ws wc wr : va_W} {mc ms pc : Nat} {ls : Array Slot} {st0 rest : List Value} (hr : va_Run p l e R s m args below meth c H locs cells slots mc ms (F0 m pc ls st0) rest (va_Qi post (gPost G (va_A wc H.size)) (va_A wc H.size) a) (va_A wc H.size)) (hP : va_P G.1 vwCl ws H) (hD : va_D A ws) (hS : va_S A H0 H locs) (hA : ∀ q, H0.size ≤ q → A q) (isC isR : List Nat) (hC : isC.map (fun i => ws[i]?) = wc.map some) (hR : isR.map (fun i => ws[i]?) = wr.map some) (hn : va_nd isR = true) (hdis : ∀ i ∈ isR, i ∉ isC)
    (kk : ∀ (r : Int32) (u : va_W) (H1 : Heap) (locs1 : List Loc), post r u → va_P G.1 vwCl (wr ++ u) H1 → va_D A (wr ++ u) → va_S A H0 H1 locs1 → W p l e R s m args below meth c H1 locs1 (cells + mc) (slots + ms) Q (F0 m (pc + 3) ls (.int r :: rest))) : W p l e R s m args below meth c H locs cells slots Q (F0 m pc ls st0) := by
  have hFc := va_free (wc := wc) hD hS hA isC hC
  refine va_calli hr hS (fun q _ h => hFc q h) hFc (fun r u t H1 locs1 ht hvm hw hB hz1 hk1 hS1 => ?_)
  obtain ⟨hP1, hD1⟩ := hB
  rw [ht] at hP1
  obtain ⟨hP2, hD2⟩ := va_join (wr := wr) (w1 := u) hP hD isC isR hC hR hn hdis hk1 hFc hP1 hD1
  exact kk r u H1 locs1 hw hP2 hD2 hS1
theorem g_calll {post : Int64 → va_W → Prop} {a : Array Value} {A : Nat → Prop} {H0 : Heap} {ws wc wr : va_W} {mc ms pc : Nat} {ls : Array Slot} {st0 rest : List Value} (hr : va_Run p l e R s m args below meth c H locs cells slots mc ms (F0 m pc ls st0) rest (va_Ql post (gPost G (va_A wc H.size)) (va_A wc H.size) a) (va_A wc H.size)) (hP : va_P G.1 vwCl ws H) (hD : va_D A ws) (hS : va_S A H0 H locs) (hA : ∀ q, H0.size ≤ q → A q) (isC isR : List Nat) (hC : isC.map (fun i => ws[i]?) = wc.map some) (hR : isR.map (fun i => ws[i]?) = wr.map some) (hn : va_nd isR = true) (hdis : ∀ i ∈ isR, i ∉ isC)
    (kk : ∀ (r : Int64) (u : va_W) (H1 : Heap) (locs1 : List Loc), post r u → va_P G.1 vwCl (wr ++ u) H1 → va_D A (wr ++ u) → va_S A H0 H1 locs1 → W p l e R s m args below meth c H1 locs1 (cells + mc) (slots + ms) Q (F0 m (pc + 3) ls (.long r :: rest))) : W p l e R s m args below meth c H locs cells slots Q (F0 m pc ls st0) := by
  have hFc := va_free (wc := wc) hD hS hA isC hC
  refine va_calll hr hS (fun q _ h => hFc q h) hFc (fun r u t H1 locs1 ht hvm hw hB hz1 hk1 hS1 => ?_)
  obtain ⟨hP1, hD1⟩ := hB
  rw [ht] at hP1
  obtain ⟨hP2, hD2⟩ := va_join (wr := wr) (w1 := u) hP hD isC isR hC hR hn hdis hk1 hFc hP1 hD1
  exact kk r u H1 locs1 hw hP2 hD2 hS1
theorem g_callv {post : va_W → Prop} {a : Array Value} {A : Nat → Prop} {H0 : Heap} {ws wc wr : va_W} {mc ms pc : Nat} {ls : Array Slot} {st0 rest : List Value} (hr : va_Run p l e R s m args below meth c H locs cells slots mc ms (F0 m pc ls st0) rest (va_Qv post (gPost G (va_A wc H.size)) (va_A wc H.size) a) (va_A wc H.size)) (hP : va_P G.1 vwCl ws H) (hD : va_D A ws) (hS : va_S A H0 H locs) (hA : ∀ q, H0.size ≤ q → A q) (isC isR : List Nat) (hC : isC.map (fun i => ws[i]?) = wc.map some) (hR : isR.map (fun i => ws[i]?) = wr.map some) (hn : va_nd isR = true) (hdis : ∀ i ∈ isR, i ∉ isC)
    (kk : ∀ (u : va_W) (H1 : Heap) (locs1 : List Loc), post u → va_P G.1 vwCl (wr ++ u) H1 → va_D A (wr ++ u) → va_S A H0 H1 locs1 → W p l e R s m args below meth c H1 locs1 (cells + mc) (slots + ms) Q (F0 m (pc + 3) ls rest)) : W p l e R s m args below meth c H locs cells slots Q (F0 m pc ls st0) := by
  have hFc := va_free (wc := wc) hD hS hA isC hC
  refine va_callv hr hS (fun q _ h => hFc q h) hFc (fun u t H1 locs1 ht hvm hw hB hz1 hk1 hS1 => ?_)
  obtain ⟨hP1, hD1⟩ := hB
  rw [ht] at hP1
  obtain ⟨hP2, hD2⟩ := va_join (wr := wr) (w1 := u) hP hD isC isR hC hR hn hdis hk1 hFc hP1 hD1
  exact kk u H1 locs1 hw hP2 hD2 hS1
theorem g_iret {cc : ByteArray} {post : Int32 → va_W → Prop} {A : Nat → Prop} {ws : va_W} {v : Int32} {pc : Nat} {ls : Array Slot} (hx : p.tables.exec = Jvm.exec) (hb : c.code = cc) (hr : meth.sig.returnType = some .int) (hlocks : meth.locks = false) (hP : va_P G.1 vwCl ws H) (hD : va_D A ws) (hS : va_S A s.heap H locs) (hq : post v ws) (hdg : decode cc pc = .ok (.ireturn, 1)) : W p l e R s m args below meth c H locs cells slots (MQ below (va_Qi post (gPost G A) A) args s cells slots A) (F0 m pc ls [.int v]) :=
  W.iret (v := v) hx hb hr (fun t ht hW => ⟨⟨v, ws, rfl, hq, by rw [ht]; exact hP, hD⟩, hS.F ht⟩) hS.2.2 hdg
theorem g_zret {cc : ByteArray} {post : Int32 → va_W → Prop} {A : Nat → Prop} {ws : va_W} {v : Int32} {pc : Nat} {ls : Array Slot} (hx : p.tables.exec = Jvm.exec) (hb : c.code = cc) (hr : meth.sig.returnType = some .boolean) (hlocks : meth.locks = false) (hn : narrow .boolean (.int v) = .int v) (hP : va_P G.1 vwCl ws H) (hD : va_D A ws) (hS : va_S A s.heap H locs) (hq : post v ws) (hdg : decode cc pc = .ok (.ireturn, 1)) : W p l e R s m args below meth c H locs cells slots (MQ below (va_Qi post (gPost G A) A) args s cells slots A) (F0 m pc ls [.int v]) :=
  W.zret (v := v) hx hb hr hn (fun t ht hW => ⟨⟨v, ws, rfl, hq, by rw [ht]; exact hP, hD⟩, hS.F ht⟩) hS.2.2 hdg
theorem g_lret {cc : ByteArray} {post : Int64 → va_W → Prop} {A : Nat → Prop} {ws : va_W} {v : Int64} {pc : Nat} {ls : Array Slot} (hx : p.tables.exec = Jvm.exec) (hb : c.code = cc) (hr : meth.sig.returnType = some .long) (hlocks : meth.locks = false) (hP : va_P G.1 vwCl ws H) (hD : va_D A ws) (hS : va_S A s.heap H locs) (hq : post v ws) (hdg : decode cc pc = .ok (.lreturn, 1)) : W p l e R s m args below meth c H locs cells slots (MQ below (va_Ql post (gPost G A) A) args s cells slots A) (F0 m pc ls [.long v]) :=
  W.lret (v := v) hx hb hr (fun t ht hW => ⟨⟨v, ws, rfl, hq, by rw [ht]; exact hP, hD⟩, hS.F ht⟩) hS.2.2 hdg
theorem g_vret {cc : ByteArray} {post : va_W → Prop} {A : Nat → Prop} {ws : va_W} {pc : Nat} {ls : Array Slot} (hx : p.tables.exec = Jvm.exec) (hb : c.code = cc) (hr : meth.sig.returnType = none) (hlocks : meth.locks = false) (hP : va_P G.1 vwCl ws H) (hD : va_D A ws) (hS : va_S A s.heap H locs) (hq : post ws) (hdg : decode cc pc = .ok (.return_, 1)) : W p l e R s m args below meth c H locs cells slots (MQ below (va_Qv post (gPost G A) A) args s cells slots A) (F0 m pc ls []) :=
  W.vret hx hb hr (fun t ht hW => ⟨⟨ws, rfl, hq, by rw [ht]; exact hP, hD⟩, hS.F ht⟩) hS.2.2 hdg
/-- an int array made anew: its class is the one that the tables know -/
theorem g_newi {cc : ByteArray} {A : Nat → Prop} {H0 : Heap} {ws : va_W} {pc : Nat} {ls : Array Slot} {rest : List Value} (hexec : p.tables.exec = Jvm.exec) (hb : c.code = cc) (harr : (Cond.arrayClass .int).before args s = true) (hK : va_K G.1 vwCl (gt G) s) (hP : va_P G.1 vwCl ws H) (hD : va_D A ws) (hS : va_S A H0 H locs) (hA : ∀ q, H0.size ≤ q → A q) {n : Int32} {N' : Nat} (hn : ¬ n < 0) (hN : n.toNatClampNeg = N') (hbytes : N' * 4 ≤ 536870912) (hcells : cells + 1 ≤ R.cells) (hslots : slots + N' ≤ R.slots) (hdg : decode cc pc = .ok (.newarray .int, 2))
    (kk : ∀ (q : Nat) (H1 : Heap), va_P G.1 vwCl (ws ++ [(q, .inl (G.2 0, N', .inl (fun _ => 0)))]) H1 → va_D A (ws ++ [(q, .inl (G.2 0, N', .inl (fun _ => 0)))]) → va_S A H0 H1 locs → W p l e R s m args below meth c H1 locs (cells + 1) (slots + N') Q (F0 m (pc + 2) ls (.ref q :: rest))) : W p l e R s m args below meth c H locs cells slots Q (F0 m pc ls (.int n :: rest)) := by
  refine va_newa (atype := .int) hexec hb (ty := .int) harr rfl hK hP hD hS hA (a0 := (N', .inl (fun _ => 0))) (fun cA => rfl) hn hN hbytes hcells hslots hdg (fun q cA H1 hK1 hP1 hD1 hS1 => ?_)
  have e : cA = G.2 0 := by
    have h1 := (hK1.2 0 (G.2 0, .int) rfl).2
    have h2 := (hK1.2 4 (cA, .int) rfl).2
    exact Option.some.inj (h2.symm.trans h1)
  subst e
  exact kk q H1 hP1 hD1 hS1
theorem g_newz {cc : ByteArray} {A : Nat → Prop} {H0 : Heap} {ws : va_W} {pc : Nat} {ls : Array Slot} {rest : List Value} (hexec : p.tables.exec = Jvm.exec) (hb : c.code = cc) (harr : (Cond.arrayClass .boolean).before args s = true) (hK : va_K G.1 vwCl (gt G) s) (hP : va_P G.1 vwCl ws H) (hD : va_D A ws) (hS : va_S A H0 H locs) (hA : ∀ q, H0.size ≤ q → A q) {n : Int32} {N' : Nat} (hn : ¬ n < 0) (hN : n.toNatClampNeg = N') (hbytes : N' * 1 ≤ 536870912) (hcells : cells + 1 ≤ R.cells) (hslots : slots + N' ≤ R.slots) (hdg : decode cc pc = .ok (.newarray .boolean, 2))
    (kk : ∀ (q : Nat) (H1 : Heap), va_P G.1 vwCl (ws ++ [(q, .inl (G.2 1, N', .inl (fun _ => 0)))]) H1 → va_D A (ws ++ [(q, .inl (G.2 1, N', .inl (fun _ => 0)))]) → va_S A H0 H1 locs → W p l e R s m args below meth c H1 locs (cells + 1) (slots + N') Q (F0 m (pc + 2) ls (.ref q :: rest))) : W p l e R s m args below meth c H locs cells slots Q (F0 m pc ls (.int n :: rest)) := by
  refine va_newa (atype := .boolean) hexec hb (ty := .boolean) harr rfl hK hP hD hS hA (a0 := (N', .inl (fun _ => 0))) (fun cA => rfl) hn hN hbytes hcells hslots hdg (fun q cA H1 hK1 hP1 hD1 hS1 => ?_)
  have e : cA = G.2 1 := by
    have h1 := (hK1.2 1 (G.2 1, .boolean) rfl).2
    have h2 := (hK1.2 4 (cA, .boolean) rfl).2
    exact Option.some.inj (h2.symm.trans h1)
  subst e
  exact kk q H1 hP1 hD1 hS1
theorem g_newr2 {cc : ByteArray} {A : Nat → Prop} {H0 : Heap} {ws : va_W} {pc : Nat} {ls : Array Slot} {rest : List Value} {own : String} {index : Nat} (hexec : p.tables.exec = Jvm.exec) (hb : c.code = cc) (hown : s.vm.findClass own = some m.cls) (hcl : (Cond.classLink own index RX4).before args s = true) (hN : nW s) (hK : va_K G.1 vwCl (gt G) s) (hP : va_P G.1 vwCl ws H) (hD : va_D A ws) (hS : va_S A H0 H locs) (hA : ∀ q, H0.size ≤ q → A q) {n : Int32} {N' : Nat} (hn : ¬ n < 0) (hN' : n.toNatClampNeg = N') (hbytes : N' * 4 ≤ 536870912) (hcells : cells + 1 ≤ R.cells) (hslots : slots + N' ≤ R.slots) (hdg : decode cc pc = .ok (.anewarray index, 3))
    (kk : ∀ (q : Nat) (H1 : Heap), va_P G.1 vwCl (ws ++ [(q, .inl (G.2 2, N', .inr (.inr (.inr (.inr (fun _ => none))))))]) H1 → va_D A (ws ++ [(q, .inl (G.2 2, N', .inr (.inr (.inr (.inr (fun _ => none))))))]) → va_S A H0 H1 locs → W p l e R s m args below meth c H1 locs (cells + 1) (slots + N') Q (F0 m (pc + 3) ls (.ref q :: rest))) : W p l e R s m args below meth c H locs cells slots Q (F0 m pc ls (.int n :: rest)) := by
  refine va_newq (C := RX4) hexec hb hown hcl hN.2.1 hK hP hD hS hA hn hN' hbytes hcells hslots hdg (fun q cA H1 hK1 hP1 hD1 hS1 => ?_)
  have e : cA = G.2 2 := by
    obtain ⟨k1, c1, -, -, -, h1⟩ := (hK1.2 2 (G.2 2, .object RX4) rfl).2
    obtain ⟨k2, c2, -, -, -, h2⟩ := (hK1.2 4 (cA, .object RX4) rfl).2
    exact Option.some.inj (h2.symm.trans h1)
  subst e
  exact kk q H1 hP1 hD1 hS1
theorem g_newr3 {cc : ByteArray} {A : Nat → Prop} {H0 : Heap} {ws : va_W} {pc : Nat} {ls : Array Slot} {rest : List Value} {own : String} {index : Nat} (hexec : p.tables.exec = Jvm.exec) (hb : c.code = cc) (hown : s.vm.findClass own = some m.cls) (hcl : (Cond.classLink own index RX9).before args s = true) (hN : nW s) (hK : va_K G.1 vwCl (gt G) s) (hP : va_P G.1 vwCl ws H) (hD : va_D A ws) (hS : va_S A H0 H locs) (hA : ∀ q, H0.size ≤ q → A q) {n : Int32} {N' : Nat} (hn : ¬ n < 0) (hN' : n.toNatClampNeg = N') (hbytes : N' * 4 ≤ 536870912) (hcells : cells + 1 ≤ R.cells) (hslots : slots + N' ≤ R.slots) (hdg : decode cc pc = .ok (.anewarray index, 3))
    (kk : ∀ (q : Nat) (H1 : Heap), va_P G.1 vwCl (ws ++ [(q, .inl (G.2 3, N', .inr (.inr (.inr (.inr (fun _ => none))))))]) H1 → va_D A (ws ++ [(q, .inl (G.2 3, N', .inr (.inr (.inr (.inr (fun _ => none))))))]) → va_S A H0 H1 locs → W p l e R s m args below meth c H1 locs (cells + 1) (slots + N') Q (F0 m (pc + 3) ls (.ref q :: rest))) : W p l e R s m args below meth c H locs cells slots Q (F0 m pc ls (.int n :: rest)) := by
  refine va_newq (C := RX9) hexec hb hown hcl hN.2.2 hK hP hD hS hA hn hN' hbytes hcells hslots hdg (fun q cA H1 hK1 hP1 hD1 hS1 => ?_)
  have e : cA = G.2 3 := by
    obtain ⟨k1, c1, -, -, -, h1⟩ := (hK1.2 3 (G.2 3, .object RX9) rfl).2
    obtain ⟨k2, c2, -, -, -, h2⟩ := (hK1.2 4 (cA, .object RX9) rfl).2
    exact Option.some.inj (h2.symm.trans h1)
  subst e
  exact kk q H1 hP1 hD1 hS1
theorem g_topi {pc : Nat} {ls : Array Slot} {rest : List Value} {x y : Int32} (h : x = y) (k : W p l e R s m args below meth c H locs cells slots Q (F0 m pc ls (.int y :: rest))) : W p l e R s m args below meth c H locs cells slots Q (F0 m pc ls (.int x :: rest)) := h ▸ k
theorem g_topl {pc : Nat} {ls : Array Slot} {rest : List Value} {x y : Int64} (h : x = y) (k : W p l e R s m args below meth c H locs cells slots Q (F0 m pc ls (.long y :: rest))) : W p l e R s m args below meth c H locs cells slots Q (F0 m pc ls (.long x :: rest)) := h ▸ k
theorem g_pc {pc pc' : Nat} {ls : Array Slot} {st : List Value} (h : pc = pc') (k : W p l e R s m args below meth c H locs cells slots Q (F0 m pc' ls st)) : W p l e R s m args below meth c H locs cells slots Q (F0 m pc ls st) := h ▸ k
end GC
/-- a number in a range, as a Bool -/
def inB (lo n hi : Int32) : Bool := decide (lo ≤ n) && decide (n ≤ hi)
def inL (lo n hi : Int64) : Bool := decide (lo ≤ n) && decide (n ≤ hi)
theorem inB_t {lo n hi : Int32} (h1 : lo ≤ n) (h2 : n ≤ hi) : inB lo n hi = true := by simp [inB, h1, h2]
theorem inB_f1 {lo n hi : Int32} (h1 : ¬ lo ≤ n) : inB lo n hi = false := by simp only [inB, decide_eq_false h1, Bool.false_and]
theorem inB_f2 {lo n hi : Int32} (h1 : ¬ n ≤ hi) : inB lo n hi = false := by simp only [inB, decide_eq_false h1, Bool.and_false]
theorem inL_t {lo n hi : Int64} (h1 : lo ≤ n) (h2 : n ≤ hi) : inL lo n hi = true := by simp [inL, h1, h2]
theorem inL_f1 {lo n hi : Int64} (h1 : ¬ lo ≤ n) : inL lo n hi = false := by simp only [inL, decide_eq_false h1, Bool.false_and]
theorem inL_f2 {lo n hi : Int64} (h1 : ¬ n ≤ hi) : inL lo n hi = false := by simp only [inL, decide_eq_false h1, Bool.and_false]
theorem i64_le (a b : Int32) : (a.toInt64 ≤ b.toInt64) ↔ a ≤ b := by
  rw [Int64.le_iff_toInt_le, Int32.le_iff_toInt_le, Int32.toInt_toInt64, Int32.toInt_toInt64]
theorem inL_i {lo n hi : Int32} {lo' hi' : Int64} (h1 : lo.toInt64 = lo') (h2 : hi.toInt64 = hi') : inL lo' n.toInt64 hi' = inB lo n hi := by
  subst h1; subst h2
  simp only [inL, inB, i64_le]
def b01 (b : Bool) : Int32 := if b then 1 else 0
theorem b01_t : b01 true = 1 := rfl
theorem b01_f : b01 false = 0 := rfl

/-- a branch that isn't taken -/
theorem g_no {a : Prop} {b : Prop} (h : a) (n : ¬ a) : b := absurd h n
theorem upd_zz (k : Nat) : upd (fun _ => 0) k 0 = (fun _ => 0) := by
  funext j
  simp [upd]
theorem cpy_zz (a b n : Nat) : va_cpy (fun _ => (0 : Int32)) (fun _ => 0) a b n = (fun _ => 0) := by
  funext j
  simp [va_cpy]
theorem inB_lt {lo n hi : Int32} (h : n < lo) : inB lo n hi = false := inB_f1 (Int32.not_le.mpr h)
theorem inB_gt {lo n hi : Int32} (h : hi < n) : inB lo n hi = false := inB_f2 (Int32.not_le.mpr h)
theorem inB_nn {lo n hi : Int32} (h1 : ¬ n < lo) (h2 : ¬ hi < n) : inB lo n hi = true := inB_t (Int32.not_lt.mp h1) (Int32.not_lt.mp h2)
theorem inB_neg (n : Int32) : inB 0 n (-1) = false := by
  by_cases h : n < 0
  · exact inB_lt h
  · refine inB_gt ?_
    rw [Int32.lt_iff_toInt_lt] at h ⊢
    have e : (-1 : Int32).toInt = -1 := by decide
    have e0 : (0 : Int32).toInt = 0 := by decide
    omega
theorem g_tab3 (x : Int32) : x = 0 ∨ x = 1 ∨ x = 2 ∨ (x.toInt < 0 ∨ 2 < x.toInt) := by
  by_cases h : x.toInt < 0 ∨ 2 < x.toInt
  · exact Or.inr (Or.inr (Or.inr (h)))
  · have h1 : x.toInt = 0 ∨ x.toInt = 1 ∨ x.toInt = 2 := by omega
    rcases h1 with h1 | h1 | h1
    · exact Or.inl (Int32.toInt_inj.mp (h1.trans (by decide)))
    · exact Or.inr (Or.inl (Int32.toInt_inj.mp (h1.trans (by decide))))
    · exact Or.inr (Or.inr (Or.inl (Int32.toInt_inj.mp (h1.trans (by decide)))))
theorem narrow_b01 (b : Bool) : narrow .boolean (.int (b01 b)) = .int (b01 b) := by cases b <;> rfl

theorem nw0 {U : State} (h : nW U) : va_Nw (.methodLinkNest RX10 9 yX9_init "ToffeeWords") U := h.1 _ (List.mem_of_getElem? (i := 0) rfl)
theorem nw1 {U : State} (h : nW U) : va_Nw (.methodLinkNest RX9 29 yX4_init "ToffeeWords") U := h.1 _ (List.mem_of_getElem? (i := 1) rfl)
theorem nw2 {U : State} (h : nW U) : va_Nw (.fieldLinkNest RX9 63 RX4 "day" "I" "ToffeeWords") U := h.1 _ (List.mem_of_getElem? (i := 2) rfl)
theorem nw3 {U : State} (h : nW U) : va_Nw (.fieldLinkNest RX10 133 RX4 "day" "I" "ToffeeWords") U := h.1 _ (List.mem_of_getElem? (i := 3) rfl)
theorem nw4 {U : State} (h : nW U) : va_Nw (.fieldLinkNest RX0 27 RX4 "toffee" "[I" "ToffeeWords") U := h.1 _ (List.mem_of_getElem? (i := 4) rfl)
theorem nw5 {U : State} (h : nW U) : va_Nw (.fieldLinkNest RX1 21 RX4 "toffee" "[I" "ToffeeWords") U := h.1 _ (List.mem_of_getElem? (i := 5) rfl)
theorem nw6 {U : State} (h : nW U) : va_Nw (.fieldLinkNest RX2 71 RX4 "toffee" "[I" "ToffeeWords") U := h.1 _ (List.mem_of_getElem? (i := 6) rfl)
theorem nw7 {U : State} (h : nW U) : va_Nw (.fieldLinkNest RX9 86 RX4 "toffee" "[I" "ToffeeWords") U := h.1 _ (List.mem_of_getElem? (i := 7) rfl)
theorem nw8 {U : State} (h : nW U) : va_Nw (.fieldLinkNest RX9 89 RX4 "age" "[I" "ToffeeWords") U := h.1 _ (List.mem_of_getElem? (i := 8) rfl)
theorem nw9 {U : State} (h : nW U) : va_Nw (.fieldLinkNest RX9 83 RX4 "fate" "[I" "ToffeeWords") U := h.1 _ (List.mem_of_getElem? (i := 9) rfl)
theorem nw10 {U : State} (h : nW U) : va_Nw (.methodLinkNest RX9 40 yX6_init "ToffeeWords") U := h.1 _ (List.mem_of_getElem? (i := 10) rfl)
theorem nw11 {U : State} (h : nW U) : va_Nw (.fieldLinkNest RX2 25 RX6 "count" "I" "ToffeeWords") U := h.1 _ (List.mem_of_getElem? (i := 11) rfl)
theorem nw12 {U : State} (h : nW U) : va_Nw (.fieldLinkNest RX9 142 RX6 "count" "I" "ToffeeWords") U := h.1 _ (List.mem_of_getElem? (i := 12) rfl)
theorem nw13 {U : State} (h : nW U) : va_Nw (.fieldLinkNest RX10 96 RX9 "damps" "[I" "ToffeeWords") U := h.1 _ (List.mem_of_getElem? (i := 13) rfl)
theorem nw14 {U : State} (h : nW U) : va_Nw (.fieldLinkNest RX7 80 RX9 "damps" "[I" "ToffeeWords") U := h.1 _ (List.mem_of_getElem? (i := 14) rfl)
theorem nw15 {U : State} (h : nW U) : va_Nw (.fieldLinkNest RX2 35 RX9 "kind" "[I" "ToffeeWords") U := h.1 _ (List.mem_of_getElem? (i := 15) rfl)
theorem nw16 {U : State} (h : nW U) : va_Nw (.fieldLinkNest RX10 172 RX9 "nature" "[I" "ToffeeWords") U := h.1 _ (List.mem_of_getElem? (i := 16) rfl)
theorem nw17 {U : State} (h : nW U) : va_Nw (.fieldLinkNest RX2 96 RX9 "teeth" "[I" "ToffeeWords") U := h.1 _ (List.mem_of_getElem? (i := 17) rfl)
theorem nw18 {U : State} (h : nW U) : va_Nw (.fieldLinkNest RX10 175 RX9 "teeth" "[I" "ToffeeWords") U := h.1 _ (List.mem_of_getElem? (i := 18) rfl)
theorem nw19 {U : State} (h : nW U) : va_Nw (.fieldLinkNest RX0 21 RX9 "today" "LToffeeWords$Moment;" "ToffeeWords") U := h.1 _ (List.mem_of_getElem? (i := 19) rfl)
theorem nw20 {U : State} (h : nW U) : va_Nw (.fieldLinkNest RX1 15 RX9 "today" "LToffeeWords$Moment;" "ToffeeWords") U := h.1 _ (List.mem_of_getElem? (i := 20) rfl)
theorem nw21 {U : State} (h : nW U) : va_Nw (.fieldLinkNest RX2 67 RX9 "today" "LToffeeWords$Moment;" "ToffeeWords") U := h.1 _ (List.mem_of_getElem? (i := 21) rfl)
theorem nw22 {U : State} (h : nW U) : va_Nw (.fieldLinkNest RX7 95 RX9 "today" "LToffeeWords$Moment;" "ToffeeWords") U := h.1 _ (List.mem_of_getElem? (i := 22) rfl)
theorem nw23 {U : State} (h : nW U) : va_Nw (.fieldLinkNest RX10 130 RX9 "today" "LToffeeWords$Moment;" "ToffeeWords") U := h.1 _ (List.mem_of_getElem? (i := 23) rfl)
theorem nw24 {U : State} (h : nW U) : va_Nw (.fieldLinkNest RX2 19 RX9 "lefts" "LToffeeWords$Rows;" "ToffeeWords") U := h.1 _ (List.mem_of_getElem? (i := 24) rfl)
theorem nw25 {U : State} (h : nW U) : va_Nw (.fieldLinkNest RX10 208 RX9 "lefts" "LToffeeWords$Rows;" "ToffeeWords") U := h.1 _ (List.mem_of_getElem? (i := 25) rfl)
theorem nw26 {U : State} (h : nW U) : va_Nw (.fieldLinkNest RX2 56 RX9 "notes" "LToffeeWords$Rows;" "ToffeeWords") U := h.1 _ (List.mem_of_getElem? (i := 26) rfl)
theorem nw27 {U : State} (h : nW U) : va_Nw (.fieldLinkNest RX10 225 RX9 "notes" "LToffeeWords$Rows;" "ToffeeWords") U := h.1 _ (List.mem_of_getElem? (i := 27) rfl)
theorem nw28 {U : State} (h : nW U) : va_Nw (.fieldLinkNest RX2 83 RX9 "marks" "LToffeeWords$Rows;" "ToffeeWords") U := h.1 _ (List.mem_of_getElem? (i := 28) rfl)
theorem nw29 {U : State} (h : nW U) : va_Nw (.fieldLinkNest RX10 228 RX9 "marks" "LToffeeWords$Rows;" "ToffeeWords") U := h.1 _ (List.mem_of_getElem? (i := 29) rfl)
theorem nw30 {U : State} (h : nW U) : va_Nw (.fieldLinkNest RX10 81 RX9 "apples" "I" "ToffeeWords") U := h.1 _ (List.mem_of_getElem? (i := 30) rfl)
theorem nw31 {U : State} (h : nW U) : va_Nw (.fieldLinkNest RX0 53 RX9 "apples" "I" "ToffeeWords") U := h.1 _ (List.mem_of_getElem? (i := 31) rfl)
theorem nw32 {U : State} (h : nW U) : va_Nw (.fieldLinkNest RX7 55 RX9 "apples" "I" "ToffeeWords") U := h.1 _ (List.mem_of_getElem? (i := 32) rfl)
theorem nw33 {U : State} (h : nW U) : va_Nw (.fieldLinkNest RX1 32 RX9 "biters" "I" "ToffeeWords") U := h.1 _ (List.mem_of_getElem? (i := 33) rfl)
theorem nw34 {U : State} (h : nW U) : va_Nw (.fieldLinkNest RX0 46 RX9 "biters" "I" "ToffeeWords") U := h.1 _ (List.mem_of_getElem? (i := 34) rfl)
theorem nw35 {U : State} (h : nW U) : va_Nw (.fieldLinkNest RX7 61 RX9 "biters" "I" "ToffeeWords") U := h.1 _ (List.mem_of_getElem? (i := 35) rfl)
theorem nw36 {U : State} (h : nW U) : va_Nw (.fieldLinkNest RX10 110 RX9 "biters" "I" "ToffeeWords") U := h.1 _ (List.mem_of_getElem? (i := 36) rfl)
theorem nw37 {U : State} (h : nW U) : va_Nw (.fieldLinkNest RX10 100 RX9 "steps" "I" "ToffeeWords") U := h.1 _ (List.mem_of_getElem? (i := 37) rfl)
theorem nw38 {U : State} (h : nW U) : va_Nw (.methodLinkNest RX10 29 yX7_init "ToffeeWords") U := h.1 _ (List.mem_of_getElem? (i := 38) rfl)
theorem nw39 {U : State} (h : nW U) : va_Nw (.methodLinkNest RX7 11 yX8_init "ToffeeWords") U := h.1 _ (List.mem_of_getElem? (i := 39) rfl)
theorem nw40 {U : State} (h : nW U) : va_Nw (.fieldLinkNest RX7 123 RX8 "sorts" "[I" "ToffeeWords") U := h.1 _ (List.mem_of_getElem? (i := 40) rfl)
theorem nw41 {U : State} (h : nW U) : va_Nw (.fieldLinkNest RX7 129 RX8 "starts" "[I" "ToffeeWords") U := h.1 _ (List.mem_of_getElem? (i := 41) rfl)
theorem nw42 {U : State} (h : nW U) : va_Nw (.fieldLinkNest RX7 126 RX8 "values" "[I" "ToffeeWords") U := h.1 _ (List.mem_of_getElem? (i := 42) rfl)
theorem nw43 {U : State} (h : nW U) : va_Nw (.fieldLinkNest RX10 117 RX8 "length" "I" "ToffeeWords") U := h.1 _ (List.mem_of_getElem? (i := 43) rfl)
theorem nw44 {U : State} (h : nW U) : va_Nw (.fieldLinkNest RX7 132 RX8 "tokens" "I" "ToffeeWords") U := h.1 _ (List.mem_of_getElem? (i := 44) rfl)
theorem nw45 {U : State} (h : nW U) : va_Nw (.fieldLinkNest RX10 34 RX7 "text" "LToffeeWords$Text;" "ToffeeWords") U := h.1 _ (List.mem_of_getElem? (i := 45) rfl)
theorem nw46 {U : State} (h : nW U) : va_Nw (.methodLinkNest RX10 41 yX4_init "ToffeeWords") U := h.1 _ (List.mem_of_getElem? (i := 46) rfl)
theorem nw47 {U : State} (h : nW U) : va_Nw (.methodLinkNest RX10 48 yX1_init "ToffeeWords") U := h.1 _ (List.mem_of_getElem? (i := 47) rfl)
theorem nw48 {U : State} (h : nW U) : va_Nw (.methodLinkNest RX10 55 yX0_init "ToffeeWords") U := h.1 _ (List.mem_of_getElem? (i := 48) rfl)
theorem nw49 {U : State} (h : nW U) : va_Nw (.fieldLinkNest RX10 205 RX0 "best" "[I" "ToffeeWords") U := h.1 _ (List.mem_of_getElem? (i := 49) rfl)
theorem nw50 {U : State} (h : nW U) : va_Nw (.fieldLinkNest RX10 202 RX0 "most" "I" "ToffeeWords") U := h.1 _ (List.mem_of_getElem? (i := 50) rfl)
theorem nw51 {U : State} (h : nW U) : va_Nw (.methodLinkNest RX10 62 yX5_init "ToffeeWords") U := h.1 _ (List.mem_of_getElem? (i := 51) rfl)
theorem nw52 {U : State} (h : nW U) : va_Nw (.fieldLinkNest RX10 253 RX5 "resting" "[I" "ToffeeWords") U := h.1 _ (List.mem_of_getElem? (i := 52) rfl)
theorem nw53 {U : State} (h : nW U) : va_Nw (.fieldLinkNest RX10 250 RX5 "count" "I" "ToffeeWords") U := h.1 _ (List.mem_of_getElem? (i := 53) rfl)
theorem nw54 {U : State} (h : nW U) : va_Nw (.methodLinkNest RX10 69 yX2_init "ToffeeWords") U := h.1 _ (List.mem_of_getElem? (i := 54) rfl)
theorem nw55 {U : State} (h : nW U) : va_Nw (.methodLinkNest RX10 85 yX9_startAnew "ToffeeWords") U := h.1 _ (List.mem_of_getElem? (i := 55) rfl)
theorem nw56 {U : State} (h : nW U) : va_Nw (.methodLinkNest RX9 66 yX6_empty "ToffeeWords") U := h.1 _ (List.mem_of_getElem? (i := 56) rfl)
theorem nw57 {U : State} (h : nW U) : va_Nw (.methodLinkNest RX10 106 yX9_addApple "ToffeeWords") U := h.1 _ (List.mem_of_getElem? (i := 57) rfl)
theorem nw58 {U : State} (h : nW U) : va_Nw (.methodLinkNest RX10 113 yX9_addBiter "ToffeeWords") U := h.1 _ (List.mem_of_getElem? (i := 58) rfl)
theorem nw59 {U : State} (h : nW U) : va_Nw (.methodLinkNest RX10 122 yX8_addByte "ToffeeWords") U := h.1 _ (List.mem_of_getElem? (i := 59) rfl)
theorem nw60 {U : State} (h : nW U) : va_Nw (.methodLinkNest RX10 126 yX7_tell "ToffeeWords") U := h.1 _ (List.mem_of_getElem? (i := 60) rfl)
theorem nw61 {U : State} (h : nW U) : va_Nw (.methodLinkNest RX7 22 yX8_scan "ToffeeWords") U := h.1 _ (List.mem_of_getElem? (i := 61) rfl)
theorem nw62 {U : State} (h : nW U) : va_Nw (.methodLinkNest RX7 25 yX9_startAnew "ToffeeWords") U := h.1 _ (List.mem_of_getElem? (i := 62) rfl)
theorem nw63 {U : State} (h : nW U) : va_Nw (.methodLinkNest RX7 113 yX10_within "ToffeeWords") U := h.1 _ (List.mem_of_getElem? (i := 63) rfl)
theorem nw64 {U : State} (h : nW U) : va_Nw (.methodLinkNest RX7 83 yX9_addApple "ToffeeWords") U := h.1 _ (List.mem_of_getElem? (i := 64) rfl)
theorem nw65 {U : State} (h : nW U) : va_Nw (.methodLinkNest RX7 87 yX9_addBiter "ToffeeWords") U := h.1 _ (List.mem_of_getElem? (i := 65) rfl)
theorem nw66 {U : State} (h : nW U) : va_Nw (.methodLinkNest RX7 116 yX9_hasApple "ToffeeWords") U := h.1 _ (List.mem_of_getElem? (i := 66) rfl)
theorem nw67 {U : State} (h : nW U) : va_Nw (.methodLinkNest RX7 120 yX9_isOut "ToffeeWords") U := h.1 _ (List.mem_of_getElem? (i := 67) rfl)
theorem nw68 {U : State} (h : nW U) : va_Nw (.methodLinkNest RX7 99 yX9_bite "ToffeeWords") U := h.1 _ (List.mem_of_getElem? (i := 68) rfl)
theorem nw69 {U : State} (h : nW U) : va_Nw (.methodLinkNest RX9 109 yX3_hardness "ToffeeWords") U := h.1 _ (List.mem_of_getElem? (i := 69) rfl)
theorem nw70 {U : State} (h : nW U) : va_Nw (.methodLinkNest RX9 119 yX3_strength "ToffeeWords") U := h.1 _ (List.mem_of_getElem? (i := 70) rfl)
theorem nw71 {U : State} (h : nW U) : va_Nw (.methodLinkNest RX7 103 yX9_dip "ToffeeWords") U := h.1 _ (List.mem_of_getElem? (i := 71) rfl)
theorem nw72 {U : State} (h : nW U) : va_Nw (.methodLinkNest RX7 106 yX9_passDays "ToffeeWords") U := h.1 _ (List.mem_of_getElem? (i := 72) rfl)
theorem nw73 {U : State} (h : nW U) : va_Nw (.methodLinkNest RX9 95 yX4_passDay "ToffeeWords") U := h.1 _ (List.mem_of_getElem? (i := 73) rfl)
theorem nw74 {U : State} (h : nW U) : va_Nw (.methodLinkNest RX10 136 yX9_remember "ToffeeWords") U := h.1 _ (List.mem_of_getElem? (i := 74) rfl)
theorem nw75 {U : State} (h : nW U) : va_Nw (.methodLinkNest RX9 76 yX4_takeOver "ToffeeWords") U := h.1 _ (List.mem_of_getElem? (i := 75) rfl)
theorem nw76 {U : State} (h : nW U) : va_Nw (.methodLinkNest RX10 139 yX9_passDays "ToffeeWords") U := h.1 _ (List.mem_of_getElem? (i := 76) rfl)
theorem nw77 {U : State} (h : nW U) : va_Nw (.methodLinkNest RX10 143 yX4_fates "ToffeeWords") U := h.1 _ (List.mem_of_getElem? (i := 77) rfl)
theorem nw78 {U : State} (h : nW U) : va_Nw (.methodLinkNest RX10 146 yX9_hasBiter "ToffeeWords") U := h.1 _ (List.mem_of_getElem? (i := 78) rfl)
theorem nw79 {U : State} (h : nW U) : va_Nw (.methodLinkNest RX10 150 yX9_hasApple "ToffeeWords") U := h.1 _ (List.mem_of_getElem? (i := 79) rfl)
theorem nw80 {U : State} (h : nW U) : va_Nw (.methodLinkNest RX10 153 yX9_isOut "ToffeeWords") U := h.1 _ (List.mem_of_getElem? (i := 80) rfl)
theorem nw81 {U : State} (h : nW U) : va_Nw (.methodLinkNest RX10 159 yX9_bite "ToffeeWords") U := h.1 _ (List.mem_of_getElem? (i := 81) rfl)
theorem nw82 {U : State} (h : nW U) : va_Nw (.methodLinkNest RX10 163 yX9_dip "ToffeeWords") U := h.1 _ (List.mem_of_getElem? (i := 82) rfl)
theorem nw83 {U : State} (h : nW U) : va_Nw (.methodLinkNest RX10 166 yX9_stepBack "ToffeeWords") U := h.1 _ (List.mem_of_getElem? (i := 83) rfl)
theorem nw84 {U : State} (h : nW U) : va_Nw (.methodLinkNest RX10 169 yX9_tellApple "ToffeeWords") U := h.1 _ (List.mem_of_getElem? (i := 84) rfl)
theorem nw85 {U : State} (h : nW U) : va_Nw (.methodLinkNest RX10 178 yX9_hardBehind "ToffeeWords") U := h.1 _ (List.mem_of_getElem? (i := 85) rfl)
theorem nw86 {U : State} (h : nW U) : va_Nw (.methodLinkNest RX10 181 yX9_comesOffNow "ToffeeWords") U := h.1 _ (List.mem_of_getElem? (i := 86) rfl)
theorem nw87 {U : State} (h : nW U) : va_Nw (.methodLinkNest RX10 184 yX9_takesOff "ToffeeWords") U := h.1 _ (List.mem_of_getElem? (i := 87) rfl)
theorem nw88 {U : State} (h : nW U) : va_Nw (.methodLinkNest RX10 190 yX1_bitesFor "ToffeeWords") U := h.1 _ (List.mem_of_getElem? (i := 88) rfl)
theorem nw89 {U : State} (h : nW U) : va_Nw (.methodLinkNest RX1 36 yX9_comesOff "ToffeeWords") U := h.1 _ (List.mem_of_getElem? (i := 89) rfl)
theorem nw90 {U : State} (h : nW U) : va_Nw (.methodLinkNest RX10 194 yX1_biterAt "ToffeeWords") U := h.1 _ (List.mem_of_getElem? (i := 90) rfl)
theorem nw91 {U : State} (h : nW U) : va_Nw (.methodLinkNest RX10 198 yX0_lay "ToffeeWords") U := h.1 _ (List.mem_of_getElem? (i := 91) rfl)
theorem nw92 {U : State} (h : nW U) : va_Nw (.methodLinkNest RX0 56 yX9_comesOff "ToffeeWords") U := h.1 _ (List.mem_of_getElem? (i := 92) rfl)
theorem nw93 {U : State} (h : nW U) : va_Nw (.methodLinkNest RX10 212 yX6_isFull "ToffeeWords") U := h.1 _ (List.mem_of_getElem? (i := 93) rfl)
theorem nw94 {U : State} (h : nW U) : va_Nw (.methodLinkNest RX10 218 yX6_add "ToffeeWords") U := h.1 _ (List.mem_of_getElem? (i := 94) rfl)
theorem nw95 {U : State} (h : nW U) : va_Nw (.methodLinkNest RX10 222 yX2_toffeeAhead "ToffeeWords") U := h.1 _ (List.mem_of_getElem? (i := 95) rfl)
theorem nw96 {U : State} (h : nW U) : va_Nw (.methodLinkNest RX2 31 yX6_cell "ToffeeWords") U := h.1 _ (List.mem_of_getElem? (i := 96) rfl)
theorem nw97 {U : State} (h : nW U) : va_Nw (.methodLinkNest RX6 33 yX10_within "ToffeeWords") U := h.1 _ (List.mem_of_getElem? (i := 97) rfl)
theorem nw98 {U : State} (h : nW U) : va_Nw (.methodLinkNest RX2 38 yX3_hardness "ToffeeWords") U := h.1 _ (List.mem_of_getElem? (i := 98) rfl)
theorem nw99 {U : State} (h : nW U) : va_Nw (.methodLinkNest RX2 44 yX9_hasBiter "ToffeeWords") U := h.1 _ (List.mem_of_getElem? (i := 99) rfl)
theorem nw100 {U : State} (h : nW U) : va_Nw (.methodLinkNest RX2 48 yX9_takesOff "ToffeeWords") U := h.1 _ (List.mem_of_getElem? (i := 100) rfl)
theorem nw101 {U : State} (h : nW U) : va_Nw (.methodLinkNest RX10 231 yX6_empty "ToffeeWords") U := h.1 _ (List.mem_of_getElem? (i := 101) rfl)
theorem nw102 {U : State} (h : nW U) : va_Nw (.methodLinkNest RX10 234 yX2_appleKinds "ToffeeWords") U := h.1 _ (List.mem_of_getElem? (i := 102) rfl)
theorem nw103 {U : State} (h : nW U) : va_Nw (.methodLinkNest RX10 237 yX2_bestLook "ToffeeWords") U := h.1 _ (List.mem_of_getElem? (i := 103) rfl)
theorem nw104 {U : State} (h : nW U) : va_Nw (.methodLinkNest RX10 240 yX2_biterKinds "ToffeeWords") U := h.1 _ (List.mem_of_getElem? (i := 104) rfl)
theorem nw105 {U : State} (h : nW U) : va_Nw (.methodLinkNest RX2 89 yX3_strength "ToffeeWords") U := h.1 _ (List.mem_of_getElem? (i := 105) rfl)
theorem nw106 {U : State} (h : nW U) : va_Nw (.methodLinkNest RX10 243 yX2_bestBite "ToffeeWords") U := h.1 _ (List.mem_of_getElem? (i := 106) rfl)
theorem nw107 {U : State} (h : nW U) : va_Nw (.methodLinkNest RX10 246 yX5_weigh "ToffeeWords") U := h.1 _ (List.mem_of_getElem? (i := 107) rfl)
theorem nw108 {U : State} (h : nW U) : va_Nw (.methodLinkNest RX5 19 yX9_hardBehind "ToffeeWords") U := h.1 _ (List.mem_of_getElem? (i := 108) rfl)
theorem nw109 {U : State} (h : nW U) : va_Nw (.methodLinkNest RX5 25 yX9_takesOff "ToffeeWords") U := h.1 _ (List.mem_of_getElem? (i := 109) rfl)
theorem nw110 {U : State} (h : nW U) : va_Nw (.methodLinkNest RX10 256 yX9_robbedTenths "ToffeeWords") U := h.1 _ (List.mem_of_getElem? (i := 110) rfl)
theorem nw111 {U : State} (h : nW U) : va_Nw (.methodLinkNest RX10 266 yX4_takeOver "ToffeeWords") U := h.1 _ (List.mem_of_getElem? (i := 111) rfl)
theorem nw112 {U : State} (h : nW U) : va_Nw (.methodLinkNest RX10 284 yX4_passDay "ToffeeWords") U := h.1 _ (List.mem_of_getElem? (i := 112) rfl)
theorem nw113 {U : State} (h : nW U) : va_Nw (.methodLinkNest RX10 287 yX9_takeOver "ToffeeWords") U := h.1 _ (List.mem_of_getElem? (i := 113) rfl)
theorem nw114 {U : State} (h : nW U) : va_Nw (.methodLinkNest RX9 80 yX6_takeOver "ToffeeWords") U := h.1 _ (List.mem_of_getElem? (i := 114) rfl)
theorem nw115 {U : State} (h : nW U) : va_Nw (.methodLinkNest RX10 298 yX9_howMany "ToffeeWords") U := h.1 _ (List.mem_of_getElem? (i := 115) rfl)
theorem nw116 {U : State} (h : nW U) : va_Nw (.methodLinkNest RX9 136 yX4_fates "ToffeeWords") U := h.1 _ (List.mem_of_getElem? (i := 116) rfl)
theorem nw117 {U : State} (h : nW U) : va_Nw (.methodLinkNest RX9 139 yX4_toffeeOnAll "ToffeeWords") U := h.1 _ (List.mem_of_getElem? (i := 117) rfl)
theorem nw118 {U : State} (h : nW U) : va_Nw (.methodLinkNest RX10 305 yX9_mixInto "ToffeeWords") U := h.1 _ (List.mem_of_getElem? (i := 118) rfl)
theorem nw119 {U : State} (h : nW U) : va_Nw (.methodLinkNest RX9 150 yX6_mixRows "ToffeeWords") U := h.1 _ (List.mem_of_getElem? (i := 119) rfl)
