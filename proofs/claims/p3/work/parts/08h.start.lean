/-! THE CLAIM OUT OF ONE WALK OF THE LAW'S BODY. Your part is whole_start (and what it stands on); all else here is the same for every law, but numbers. -/
def R_law : String := "ToffeeWordsLaw"
def lw_P (b : Addr) (xs : List Int32) (args : Array Value) (s : State) : Prop := args = #[.ref b] ∧ s.IntsAt b xs ∧ xs.length ≤ 384 ∧ (Jvm.Cond.and given_1 narrow_1).before args s = true
def lw_Q (_ : Array Value) (s : State) (o : Outcome) (t : State) : Prop := o = .returned (some (.int 1)) ∧ Framed s o t [] 600000 7302250
def lw_Z (below : List Frame) (a : Array Value) (s : State) : State → Prop := fun t => ∃ o, t.status = .running ∧ Ended t below o ∧ lw_Q a s o t
/-- the law's own end, with 1 on the stack, nothing written that was there before, its room as the claim has it -/
theorem lw_ret {p : Program} {l : Launch} {e : Env} {s : State} {m : MethodId} {below : List Frame} {meth : Method} {c : Code} {b : Nat} (hx : p.tables.exec = Jvm.exec) (hb : c.code = code) (hr : meth.sig.returnType = ret) (hlocks : meth.locks = false) {pc : Nat} {H : Heap} {ls : Array Slot} (hdg : decode code pc = .ok (.ireturn, 1)) : W p l e room_1 s m #[Value.ref b] below meth c H [] 600000 7302250 (lw_Z below #[Value.ref b] s) (F0 m pc ls [.int 1]) := by
  intro T hT X
  obtain ⟨fs, hret, hrun, hended, hW, hframe⟩ := X.leave (v := some (.int 1)) (hlocks := hlocks) (fun h => by rw [hr] at h; cases h)
  have hmeth' : T.vm.method? m = some meth := X.method'
  refine ⟨T.setFrames fs, ?_, .returned (some (.int 1)), hrun, hended, rfl, ⟨_, rfl⟩, hW, hframe⟩
  jvm_step X.here [X.here.top, hx, hb, hdg, hmeth', hr, ret, narrow_b1]
  (try refine ⟨rfl, ?_⟩); (try refine ⟨rfl, ?_⟩)
  first | (intro acts; rw [hret _ acts rfl rfl rfl]) | rw [hret _ _ rfl rfl rfl]
  exact Steps.refl _
/-- what holds at the law's entry: the machine, the code, the tables' words (any of lw_tbl by 'hts w (by decide +kernel)'), the script of L ints xs at the cell b, what the Statement gives of the start (any of its parts by flat_of_before) -/
def lw_At (p : Program) (s : State) (m : MethodId) (meth : Method) (c : Code) (b L : Nat) (xs : Nat → Int32) : Prop :=
  p.tables.exec = Jvm.exec ∧ c.code = code ∧ meth.sig.returnType = ret ∧ c.maxLocals = 4 ∧ s.vm.findClass R_law = some m.cls ∧ (∀ w ∈ lw_tbl, w.before #[Value.ref b] s = true) ∧ va_X b L xs s s.heap ∧ b < s.heap.size ∧ meth.locks = false ∧ (Jvm.Cond.and given_1 narrow_1).before #[Value.ref b] s = true
set_option maxRecDepth 100000 in
set_option maxHeartbeats 4000000 in
theorem nest_in : ∀ w ∈ nestL, w ∈ lw_tbl := List.forall_mem_cons.mpr ⟨in_t1 (List.mem_of_getElem? (i := 29) rfl), List.forall_mem_cons.mpr ⟨in_t1 (List.mem_of_getElem? (i := 35) rfl), List.forall_mem_cons.mpr ⟨in_t1 (List.mem_of_getElem? (i := 40) rfl), List.forall_mem_cons.mpr ⟨in_t1 (List.mem_of_getElem? (i := 41) rfl), List.forall_mem_cons.mpr ⟨in_t1 (List.mem_of_getElem? (i := 43) rfl), List.forall_mem_cons.mpr ⟨in_t1 (List.mem_of_getElem? (i := 44) rfl), List.forall_mem_cons.mpr ⟨in_t1 (List.mem_of_getElem? (i := 45) rfl), List.forall_mem_cons.mpr ⟨in_t1 (List.mem_of_getElem? (i := 46) rfl), List.forall_mem_cons.mpr ⟨in_t1 (List.mem_of_getElem? (i := 48) rfl), List.forall_mem_cons.mpr ⟨in_t1 (List.mem_of_getElem? (i := 50) rfl), List.forall_mem_cons.mpr ⟨in_t1 (List.mem_of_getElem? (i := 64) rfl), List.forall_mem_cons.mpr ⟨in_t1 (List.mem_of_getElem? (i := 75) rfl), List.forall_mem_cons.mpr ⟨in_t1 (List.mem_of_getElem? (i := 76) rfl), List.forall_mem_cons.mpr ⟨in_t1 (List.mem_of_getElem? (i := 87) rfl), List.forall_mem_cons.mpr ⟨in_t1 (List.mem_of_getElem? (i := 88) rfl), List.forall_mem_cons.mpr ⟨in_t1 (List.mem_of_getElem? (i := 90) rfl), List.forall_mem_cons.mpr ⟨in_t1 (List.mem_of_getElem? (i := 93) rfl), List.forall_mem_cons.mpr ⟨in_t1 (List.mem_of_getElem? (i := 95) rfl), List.forall_mem_cons.mpr ⟨in_t1 (List.mem_of_getElem? (i := 96) rfl), List.forall_mem_cons.mpr ⟨in_t1 (List.mem_of_getElem? (i := 98) rfl), List.forall_mem_cons.mpr ⟨in_t1 (List.mem_of_getElem? (i := 99) rfl), List.forall_mem_cons.mpr ⟨in_t1 (List.mem_of_getElem? (i := 100) rfl), List.forall_mem_cons.mpr ⟨in_t1 (List.mem_of_getElem? (i := 101) rfl), List.forall_mem_cons.mpr ⟨in_t1 (List.mem_of_getElem? (i := 102) rfl), List.forall_mem_cons.mpr ⟨in_t1 (List.mem_of_getElem? (i := 105) rfl), List.forall_mem_cons.mpr ⟨in_t1 (List.mem_of_getElem? (i := 106) rfl), List.forall_mem_cons.mpr ⟨in_t1 (List.mem_of_getElem? (i := 108) rfl), List.forall_mem_cons.mpr ⟨in_t1 (List.mem_of_getElem? (i := 109) rfl), List.forall_mem_cons.mpr ⟨in_t1 (List.mem_of_getElem? (i := 111) rfl), List.forall_mem_cons.mpr ⟨in_t1 (List.mem_of_getElem? (i := 112) rfl), List.forall_mem_cons.mpr ⟨in_t1 (List.mem_of_getElem? (i := 113) rfl), List.forall_mem_cons.mpr ⟨in_t1 (List.mem_of_getElem? (i := 115) rfl), List.forall_mem_cons.mpr ⟨in_t1 (List.mem_of_getElem? (i := 116) rfl), List.forall_mem_cons.mpr ⟨in_t1 (List.mem_of_getElem? (i := 118) rfl), List.forall_mem_cons.mpr ⟨in_t1 (List.mem_of_getElem? (i := 119) rfl), List.forall_mem_cons.mpr ⟨in_t1 (List.mem_of_getElem? (i := 120) rfl), List.forall_mem_cons.mpr ⟨in_t1 (List.mem_of_getElem? (i := 121) rfl), List.forall_mem_cons.mpr ⟨in_t1 (List.mem_of_getElem? (i := 123) rfl), List.forall_mem_cons.mpr ⟨in_t1 (List.mem_of_getElem? (i := 154) rfl), List.forall_mem_cons.mpr ⟨in_t1 (List.mem_of_getElem? (i := 160) rfl), List.forall_mem_cons.mpr ⟨in_t1 (List.mem_of_getElem? (i := 166) rfl), List.forall_mem_cons.mpr ⟨in_t1 (List.mem_of_getElem? (i := 168) rfl), List.forall_mem_cons.mpr ⟨in_t1 (List.mem_of_getElem? (i := 170) rfl), List.forall_mem_cons.mpr ⟨in_t1 (List.mem_of_getElem? (i := 172) rfl), List.forall_mem_cons.mpr ⟨in_t1 (List.mem_of_getElem? (i := 174) rfl), List.forall_mem_cons.mpr ⟨in_t1 (List.mem_of_getElem? (i := 190) rfl), List.forall_mem_cons.mpr ⟨in_t1 (List.mem_of_getElem? (i := 201) rfl), List.forall_mem_cons.mpr ⟨in_t1 (List.mem_of_getElem? (i := 204) rfl), List.forall_mem_cons.mpr ⟨in_t1 (List.mem_of_getElem? (i := 214) rfl), List.forall_mem_cons.mpr ⟨in_t1 (List.mem_of_getElem? (i := 221) rfl), List.forall_mem_cons.mpr ⟨in_t1 (List.mem_of_getElem? (i := 223) rfl), List.forall_mem_cons.mpr ⟨in_t1 (List.mem_of_getElem? (i := 235) rfl), List.forall_mem_cons.mpr ⟨in_t2 (List.mem_of_getElem? (i := 2) rfl), List.forall_mem_cons.mpr ⟨in_t2 (List.mem_of_getElem? (i := 4) rfl), List.forall_mem_cons.mpr ⟨in_t2 (List.mem_of_getElem? (i := 16) rfl), List.forall_mem_cons.mpr ⟨in_t2 (List.mem_of_getElem? (i := 77) rfl), List.forall_mem_cons.mpr ⟨in_t2 (List.mem_of_getElem? (i := 81) rfl), List.forall_mem_cons.mpr ⟨in_t2 (List.mem_of_getElem? (i := 104) rfl), List.forall_mem_cons.mpr ⟨in_t2 (List.mem_of_getElem? (i := 112) rfl), List.forall_mem_cons.mpr ⟨in_t2 (List.mem_of_getElem? (i := 120) rfl), List.forall_mem_cons.mpr ⟨in_t2 (List.mem_of_getElem? (i := 132) rfl), List.forall_mem_cons.mpr ⟨in_t2 (List.mem_of_getElem? (i := 136) rfl), List.forall_mem_cons.mpr ⟨in_t2 (List.mem_of_getElem? (i := 217) rfl), List.forall_mem_cons.mpr ⟨in_t3 (List.mem_of_getElem? (i := 10) rfl), List.forall_mem_cons.mpr ⟨in_t3 (List.mem_of_getElem? (i := 15) rfl), List.forall_mem_cons.mpr ⟨in_t3 (List.mem_of_getElem? (i := 20) rfl), List.forall_mem_cons.mpr ⟨in_t3 (List.mem_of_getElem? (i := 29) rfl), List.forall_mem_cons.mpr ⟨in_t3 (List.mem_of_getElem? (i := 33) rfl), List.forall_mem_cons.mpr ⟨in_t3 (List.mem_of_getElem? (i := 37) rfl), List.forall_mem_cons.mpr ⟨in_t3 (List.mem_of_getElem? (i := 52) rfl), List.forall_mem_cons.mpr ⟨in_t3 (List.mem_of_getElem? (i := 59) rfl), List.forall_mem_cons.mpr ⟨in_t3 (List.mem_of_getElem? (i := 67) rfl), List.forall_mem_cons.mpr ⟨in_t3 (List.mem_of_getElem? (i := 75) rfl), List.forall_mem_cons.mpr ⟨in_t3 (List.mem_of_getElem? (i := 79) rfl), List.forall_mem_cons.mpr ⟨in_t3 (List.mem_of_getElem? (i := 88) rfl), List.forall_mem_cons.mpr ⟨in_t3 (List.mem_of_getElem? (i := 96) rfl), List.forall_mem_cons.mpr ⟨in_t3 (List.mem_of_getElem? (i := 103) rfl), List.forall_mem_cons.mpr ⟨in_t3 (List.mem_of_getElem? (i := 104) rfl), List.forall_mem_cons.mpr ⟨in_t3 (List.mem_of_getElem? (i := 112) rfl), List.forall_mem_cons.mpr ⟨in_t3 (List.mem_of_getElem? (i := 116) rfl), List.forall_mem_cons.mpr ⟨in_t3 (List.mem_of_getElem? (i := 117) rfl), List.forall_mem_cons.mpr ⟨in_t3 (List.mem_of_getElem? (i := 122) rfl), List.forall_mem_cons.mpr ⟨in_t3 (List.mem_of_getElem? (i := 127) rfl), List.forall_mem_cons.mpr ⟨in_t3 (List.mem_of_getElem? (i := 132) rfl), List.forall_mem_cons.mpr ⟨in_t3 (List.mem_of_getElem? (i := 140) rfl), List.forall_mem_cons.mpr ⟨in_t3 (List.mem_of_getElem? (i := 157) rfl), List.forall_mem_cons.mpr ⟨in_t3 (List.mem_of_getElem? (i := 162) rfl), List.forall_mem_cons.mpr ⟨in_t3 (List.mem_of_getElem? (i := 174) rfl), List.forall_mem_cons.mpr ⟨in_t3 (List.mem_of_getElem? (i := 186) rfl), List.forall_mem_cons.mpr ⟨in_t3 (List.mem_of_getElem? (i := 191) rfl), List.forall_mem_cons.mpr ⟨in_t3 (List.mem_of_getElem? (i := 192) rfl), List.forall_mem_cons.mpr ⟨in_t3 (List.mem_of_getElem? (i := 204) rfl), List.forall_mem_cons.mpr ⟨in_t3 (List.mem_of_getElem? (i := 216) rfl), List.forall_mem_cons.mpr ⟨in_t3 (List.mem_of_getElem? (i := 221) rfl), List.forall_mem_cons.mpr ⟨in_t3 (List.mem_of_getElem? (i := 225) rfl), List.forall_mem_cons.mpr ⟨in_t3 (List.mem_of_getElem? (i := 234) rfl), List.forall_mem_cons.mpr ⟨in_t4 (List.mem_of_getElem? (i := 1) rfl), List.forall_mem_cons.mpr ⟨in_t4 (List.mem_of_getElem? (i := 5) rfl), List.forall_mem_cons.mpr ⟨in_t4 (List.mem_of_getElem? (i := 6) rfl), List.forall_mem_cons.mpr ⟨in_t4 (List.mem_of_getElem? (i := 7) rfl), List.forall_mem_cons.mpr ⟨in_t4 (List.mem_of_getElem? (i := 8) rfl), List.forall_mem_cons.mpr ⟨in_t4 (List.mem_of_getElem? (i := 22) rfl), List.forall_mem_cons.mpr ⟨in_t4 (List.mem_of_getElem? (i := 27) rfl), List.forall_mem_cons.mpr ⟨in_t4 (List.mem_of_getElem? (i := 38) rfl), List.forall_mem_cons.mpr ⟨in_t4 (List.mem_of_getElem? (i := 52) rfl), List.forall_mem_cons.mpr ⟨in_t4 (List.mem_of_getElem? (i := 59) rfl), List.forall_mem_cons.mpr ⟨in_t4 (List.mem_of_getElem? (i := 64) rfl), List.forall_mem_cons.mpr ⟨in_t4 (List.mem_of_getElem? (i := 73) rfl), List.forall_mem_cons.mpr ⟨in_t4 (List.mem_of_getElem? (i := 77) rfl), List.forall_mem_cons.mpr ⟨in_t4 (List.mem_of_getElem? (i := 78) rfl), List.forall_mem_cons.mpr ⟨in_t4 (List.mem_of_getElem? (i := 89) rfl), List.forall_mem_cons.mpr ⟨in_t4 (List.mem_of_getElem? (i := 109) rfl), List.forall_mem_cons.mpr ⟨in_t4 (List.mem_of_getElem? (i := 117) rfl), List.forall_mem_cons.mpr ⟨in_t4 (List.mem_of_getElem? (i := 126) rfl), List.forall_mem_cons.mpr ⟨in_t4 (List.mem_of_getElem? (i := 131) rfl), List.forall_mem_cons.mpr ⟨in_t4 (List.mem_of_getElem? (i := 148) rfl), List.forall_mem_cons.mpr ⟨in_t4 (List.mem_of_getElem? (i := 152) rfl), List.forall_mem_cons.mpr ⟨in_t4 (List.mem_of_getElem? (i := 153) rfl), List.forall_mem_cons.mpr ⟨in_t4 (List.mem_of_getElem? (i := 163) rfl), List.forall_mem_cons.mpr ⟨in_t4 (List.mem_of_getElem? (i := 169) rfl), fun _ h => absurd h List.not_mem_nil⟩⟩⟩⟩⟩⟩⟩⟩⟩⟩⟩⟩⟩⟩⟩⟩⟩⟩⟩⟩⟩⟩⟩⟩⟩⟩⟩⟩⟩⟩⟩⟩⟩⟩⟩⟩⟩⟩⟩⟩⟩⟩⟩⟩⟩⟩⟩⟩⟩⟩⟩⟩⟩⟩⟩⟩⟩⟩⟩⟩⟩⟩⟩⟩⟩⟩⟩⟩⟩⟩⟩⟩⟩⟩⟩⟩⟩⟩⟩⟩⟩⟩⟩⟩⟩⟩⟩⟩⟩⟩⟩⟩⟩⟩⟩⟩⟩⟩⟩⟩⟩⟩⟩⟩⟩⟩⟩⟩⟩⟩⟩⟩⟩⟩⟩⟩⟩⟩⟩⟩
set_option maxRecDepth 100000 in
theorem g_nest {args : Array Value} {s : State} (hts : ∀ w ∈ lw_tbl, w.before args s = true) : nW s := ⟨fun w h => va_Nw.of (nest_tab (nestL_ok w h)) (hts w (nest_in w h)), va_AO.of (hts (.arrayOver (.object RX4)) (in_t1 (List.mem_of_getElem? (i := 61) rfl))), va_AO.of (hts (.arrayOver (.object RX9)) (in_t1 (List.mem_of_getElem? (i := 151) rfl)))⟩
theorem vk_S.congr {n : Nat} {len : List Nat} {byt : List (List Int32)} {k1 v1 k2 v2 : Nat → Nat} {A : Nat → Prop} {U : State} {H : Heap} (h : vk_S n len byt k1 v1 A U H) (hk : ∀ i : Nat, i < n → k2 i = k1 i) (hv : ∀ i : Nat, i < n → v2 i = v1 i) : vk_S n len byt k2 v2 A U H :=
  ⟨fun i hi => by rw [hk i hi, hv i hi]; exact h.1 i hi, fun i j hi hj e => h.2 i j hi hj (by rw [← hk i hi, ← hk j hj]; exact e)⟩
def zTm (i : Nat) : Term := .string RX8 (zIdx.getD i 0)
set_option maxRecDepth 100000 in
set_option maxHeartbeats 4000000 in
theorem z_ex {args : Array Value} {s : State} (hs : (Jvm.Cond.and given_1 narrow_1).before args s = true) : ∀ i : Nat, i < 7 → (Cond.exactly (zTm i) "java/lang/String").before args s = true := fun i hi => by
  have hf := flat_of_before _ hs
  rcases (show i = 0 ∨ i = 1 ∨ i = 2 ∨ i = 3 ∨ i = 4 ∨ i = 5 ∨ i = 6 by omega) with rfl | rfl | rfl | rfl | rfl | rfl | rfl <;> exact hf _ (by decide +kernel)
set_option maxRecDepth 100000 in
set_option maxHeartbeats 4000000 in
theorem z_co {args : Array Value} {s : State} (hs : (Jvm.Cond.and given_1 narrow_1).before args s = true) : ∀ i : Nat, i < 7 → (Cond.eq (.field (zTm i) "java/lang/String" "coder" "B") (.int 0)).before args s = true := fun i hi => by
  have hf := flat_of_before _ hs
  rcases (show i = 0 ∨ i = 1 ∨ i = 2 ∨ i = 3 ∨ i = 4 ∨ i = 5 ∨ i = 6 by omega) with rfl | rfl | rfl | rfl | rfl | rfl | rfl <;> exact hf _ (by decide +kernel)
set_option maxRecDepth 100000 in
set_option maxHeartbeats 4000000 in
theorem z_ar {args : Array Value} {s : State} (hs : (Jvm.Cond.and given_1 narrow_1).before args s = true) : ∀ i : Nat, i < 7 → (Cond.arrayOf (.field (zTm i) "java/lang/String" "value" "[B") .byte).before args s = true := fun i hi => by
  have hf := flat_of_before _ hs
  rcases (show i = 0 ∨ i = 1 ∨ i = 2 ∨ i = 3 ∨ i = 4 ∨ i = 5 ∨ i = 6 by omega) with rfl | rfl | rfl | rfl | rfl | rfl | rfl <;> exact hf _ (by decide +kernel)
set_option maxRecDepth 100000 in
set_option maxHeartbeats 4000000 in
theorem z_le {args : Array Value} {s : State} (hs : (Jvm.Cond.and given_1 narrow_1).before args s = true) : ∀ i : Nat, i < 7 → (Cond.eq (.length (.field (zTm i) "java/lang/String" "value" "[B")) (.int (Int32.ofNat (zLen.getD i 0)))).before args s = true := fun i hi => by
  have hf := flat_of_before _ hs
  rcases (show i = 0 ∨ i = 1 ∨ i = 2 ∨ i = 3 ∨ i = 4 ∨ i = 5 ∨ i = 6 by omega) with rfl | rfl | rfl | rfl | rfl | rfl | rfl <;> exact hf _ (by decide +kernel)
set_option maxRecDepth 100000 in
set_option maxHeartbeats 4000000 in
theorem z_el {args : Array Value} {s : State} (hs : (Jvm.Cond.and given_1 narrow_1).before args s = true) : ∀ i : Nat, i < 7 → ∀ j : Nat, j < zLen.getD i 0 → (Cond.eq (.elem (.field (zTm i) "java/lang/String" "value" "[B") (.int (Int32.ofNat j))) (.int ((zByt.getD i []).getD j 0))).before args s = true := fun i hi j hj => by
  have hf := flat_of_before _ hs
  have hj6 := (zLen_le hi).2
  rcases (show i = 0 ∨ i = 1 ∨ i = 2 ∨ i = 3 ∨ i = 4 ∨ i = 5 ∨ i = 6 by omega) with rfl | rfl | rfl | rfl | rfl | rfl | rfl <;> rcases (show j = 0 ∨ j = 1 ∨ j = 2 ∨ j = 3 ∨ j = 4 ∨ j = 5 by omega) with rfl | rfl | rfl | rfl | rfl | rfl <;> first | exact absurd hj (by decide) | exact hf _ (by decide +kernel)
set_option maxRecDepth 100000 in
set_option maxHeartbeats 4000000 in
theorem z_ne {args : Array Value} {s : State} (hs : (Jvm.Cond.and given_1 narrow_1).before args s = true) : ∀ i j : Nat, i < 7 → j < 7 → i ≠ j → (Cond.not (Cond.eq (zTm i) (zTm j))).before args s = true ∨ (Cond.not (Cond.eq (zTm j) (zTm i))).before args s = true := fun i j hi hj hn => by
  have hf := flat_of_before _ hs
  rcases (show i = 0 ∨ i = 1 ∨ i = 2 ∨ i = 3 ∨ i = 4 ∨ i = 5 ∨ i = 6 by omega) with rfl | rfl | rfl | rfl | rfl | rfl | rfl <;> rcases (show j = 0 ∨ j = 1 ∨ j = 2 ∨ j = 3 ∨ j = 4 ∨ j = 5 ∨ j = 6 by omega) with rfl | rfl | rfl | rfl | rfl | rfl | rfl <;> first | exact absurd rfl hn | exact Or.inl (hf _ (by decide +kernel)) | exact Or.inr (hf _ (by decide +kernel))
set_option maxRecDepth 100000 in
set_option maxHeartbeats 4000000 in
theorem z_ref {args : Array Value} {s : State} (hts : ∀ w ∈ lw_tbl, w.before args s = true) : ∀ i : Nat, i < 7 → (Cond.stringRef RX8 (zIdx.getD i 0) (zTx.getD i "")).before args s = true := fun i hi => by
  rcases (show i = 0 ∨ i = 1 ∨ i = 2 ∨ i = 3 ∨ i = 4 ∨ i = 5 ∨ i = 6 by omega) with rfl | rfl | rfl | rfl | rfl | rfl | rfl <;> exact hts _ (by decide +kernel)
set_option maxRecDepth 100000 in
set_option maxHeartbeats 4000000 in
theorem g_start {args : Array Value} {s : State} {A : Nat → Prop} (hts : ∀ w ∈ lw_tbl, w.before args s = true) (hs : (Jvm.Cond.and given_1 narrow_1).before args s = true) (hA : ∀ a : Nat, a < s.heap.size → ¬ A a) : ∃ G : gG, va_K G.1 vwCl (gt G) s ∧ zK G A s s.heap := by
  obtain ⟨adK, adV, hS1, hS2⟩ := vk_Sof (N := 7) (tm := zTm) (len := zLen) (byt := zByt) (A := A) (fun i hi => by have := (zLen_le hi).2; omega) (z_ex hs) (z_co hs) (z_ar hs) (z_le hs) (z_el hs) (z_ne hs) hA
  obtain ⟨c0, i0, k0⟩ := u_known (C := RX0) (T := TX0) (N := 4) (n := 4) hts inX0 (hts (.instantiable RX0 4) (in_t1 (List.mem_of_getElem? (i := 213) rfl)))
  obtain ⟨c1, i1, k1⟩ := u_known (C := RX1) (T := TX1) (N := 1) (n := 1) hts inX1 (hts (.instantiable RX1 1) (in_t1 (List.mem_of_getElem? (i := 203) rfl)))
  obtain ⟨c2, i2, k2⟩ := u_known (C := RX2) (T := TX2) (N := 1) (n := 1) hts inX2 (hts (.instantiable RX2 1) (in_t2 (List.mem_of_getElem? (i := 15) rfl)))
  obtain ⟨c3, i3, k3⟩ := u_known (C := RX4) (T := TX4) (N := 4) (n := 4) hts inX4 (hts (.instantiable RX4 4) (in_t1 (List.mem_of_getElem? (i := 34) rfl)))
  obtain ⟨c4, i4, k4⟩ := u_known (C := RX5) (T := TX5) (N := 4) (n := 4) hts inX5 (hts (.instantiable RX5 4) (in_t1 (List.mem_of_getElem? (i := 234) rfl)))
  obtain ⟨c5, i5, k5⟩ := u_known (C := RX6) (T := TX6) (N := 4) (n := 4) hts inX6 (hts (.instantiable RX6 4) (in_t1 (List.mem_of_getElem? (i := 63) rfl)))
  obtain ⟨c6, i6, k6⟩ := u_known (C := RX7) (T := TX7) (N := 3) (n := 3) hts inX7 (hts (.instantiable RX7 3) (in_t1 (List.mem_of_getElem? (i := 153) rfl)))
  obtain ⟨c7, i7, k7⟩ := u_known (C := RX8) (T := TX8) (N := 6) (n := 6) hts inX8 (hts (.instantiable RX8 6) (in_t1 (List.mem_of_getElem? (i := 159) rfl)))
  obtain ⟨c8, i8, k8⟩ := u_known (C := RX9) (T := TX9) (N := 13) (n := 13) hts inX9 (hts (.instantiable RX9 13) (in_t1 (List.mem_of_getElem? (i := 28) rfl)))
  obtain ⟨c9, i9, k9⟩ := u_known (C := RX10) (T := TX10) (N := 16) (n := 16) hts inX10 (hts (.instantiable RX10 16) (in_t1 (List.mem_of_getElem? (i := 20) rfl)))
  obtain ⟨c10, i10, k10⟩ := u_known (C := RX11) (T := TX11) (N := 21) (n := 21) hts inX11 (hts (.instantiable RX11 21) (in_t4 (List.mem_of_getElem? (i := 176) rfl)))
  obtain ⟨a0, ka0, co0, fa0, ga0, ha0⟩ := Cond.arrayClass_spec (hts (.arrayClass .int) (in_t1 (List.mem_of_getElem? (i := 60) rfl)))
  obtain ⟨a1, ka1, co1, fa1, ga1, ha1⟩ := Cond.arrayClass_spec (hts (.arrayClass .boolean) (in_t1 (List.mem_of_getElem? (i := 188) rfl)))
  obtain ⟨co2, a2, ka2, fa2, -, ga2, ha2, na2⟩ := Cond.arrayOver_spec (hts (.arrayOver (.object RX4)) (in_t1 (List.mem_of_getElem? (i := 61) rfl)))
  obtain ⟨co3, a3, ka3, fa3, -, ga3, ha3, na3⟩ := Cond.arrayOver_spec (hts (.arrayOver (.object RX9)) (in_t1 (List.mem_of_getElem? (i := 151) rfl)))
  refine ⟨((fun k => match k with | 0 => c0 | 1 => c1 | 2 => c2 | 3 => c3 | 4 => c4 | 5 => c5 | 6 => c6 | 7 => c7 | 8 => c8 | 9 => c9 | _ => c10, fun k => match k with | 0 => i0 | 1 => i1 | 2 => i2 | 3 => i3 | 4 => i4 | 5 => i5 | 6 => i6 | 7 => i7 | 8 => i8 | 9 => i9 | _ => i10), fun k => if k = 0 then a0 else if k = 1 then a1 else if k = 2 then a2 else if k = 3 then a3 else if k < 20 then adK (k - 10) else adV (k - 20)), ⟨fun k q hq => ?_, fun k q hq => ?_⟩, ?_, ?_, ?_, ?_⟩
  · match k, hq with
    | 0, hq => cases hq; exact k0
    | 1, hq => cases hq; exact k1
    | 2, hq => cases hq; exact k2
    | 3, hq => cases hq; exact k3
    | 4, hq => cases hq; exact k4
    | 5, hq => cases hq; exact k5
    | 6, hq => cases hq; exact k6
    | 7, hq => cases hq; exact k7
    | 8, hq => cases hq; exact k8
    | 9, hq => cases hq; exact k9
    | 10, hq => cases hq; exact k10
    | k + 11, hq => simp [vwCl] at hq
  · match k, hq with
    | 0, hq => cases hq; exact ⟨fun n z => ⟨fun k h => (by cases h), ka0, ga0, co0, ha0⟩, fa0⟩
    | 1, hq => cases hq; exact ⟨fun n z => ⟨fun k h => (by cases h), ka1, ga1, co1, ha1⟩, fa1⟩
    | 2, hq => cases hq; exact ⟨fun n z => ⟨fun k h => (by cases h), ka2, ga2, co2, ha2⟩, ka2, co2, ga2, ha2, fa2, na2⟩
    | 3, hq => cases hq; exact ⟨fun n z => ⟨fun k h => (by cases h), ka3, ga3, co3, ha3⟩, ka3, co3, ga3, ha3, fa3, na3⟩
    | k + 4, hq => simp [gt] at hq
  · refine hS1.congr (fun i hi => ?_) (fun i hi => ?_)
    · show (if 10 + i = 0 then a0 else if 10 + i = 1 then a1 else if 10 + i = 2 then a2 else if 10 + i = 3 then a3 else if 10 + i < 20 then adK (10 + i - 10) else adV (10 + i - 20)) = adK i
      rw [if_neg (by omega), if_neg (by omega), if_neg (by omega), if_neg (by omega), if_pos (by omega)]
      congr 1
      omega
    · show (if 20 + i = 0 then a0 else if 20 + i = 1 then a1 else if 20 + i = 2 then a2 else if 20 + i = 3 then a3 else if 20 + i < 20 then adK (20 + i - 10) else adV (20 + i - 20)) = adV i
      rw [if_neg (by omega), if_neg (by omega), if_neg (by omega), if_neg (by omega), if_neg (by omega)]
      congr 1
      omega
  · intro i hi
    show vk_R RX8 _ _ (if 10 + i = 0 then a0 else if 10 + i = 1 then a1 else if 10 + i = 2 then a2 else if 10 + i = 3 then a3 else if 10 + i < 20 then adK (10 + i - 10) else adV (10 + i - 20)) s
    rw [if_neg (by omega), if_neg (by omega), if_neg (by omega), if_neg (by omega), if_pos (by omega)]
    rw [show 10 + i - 10 = i by omega]
    exact vk_R.of (A := args) (z_ref hts i hi) (hS2 i hi)
  · exact va_Zof (hts (.laysStatic "java/lang/String" "COMPACT_STRINGS" "Z") (in_t2 (List.mem_of_getElem? (i := 165) rfl))) (hts (.initialized "java/lang/String") (in_t1 (List.mem_of_getElem? (i := 13) rfl))) (va_eqt (flat_of_before _ hs (.eq (.static "java/lang/String" "COMPACT_STRINGS" "Z") (.int 1)) (by decide +kernel))) hA
  · exact va_Zqof (hts (.laysStatic "jdk/internal/util/Preconditions" "SIOOBE_FORMATTER" "Ljava/util/function/BiFunction;") (in_t2 (List.mem_of_getElem? (i := 181) rfl))) (hts (.initialized "jdk/internal/util/Preconditions") (in_t1 (List.mem_of_getElem? (i := 15) rfl))) (flat_of_before _ hs (.isRef (.static "jdk/internal/util/Preconditions" "SIOOBE_FORMATTER" "Ljava/util/function/BiFunction;")) (by decide +kernel)) hA
