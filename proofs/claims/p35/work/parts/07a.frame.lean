theorem Met.cons {l : Launch} {y : MethodName} {ws : List Cond} {rm : Room} {Pc Pd : Array Value → State → Prop} {Qc Qd : Array Value → State → Outcome → State → Prop} {mc ms : Nat} {free free2 : Addr → Prop} (h : Met l y ws rm Pc Qc mc ms free) (hp : ∀ a s, Pd a s → Pc a s) (hq : ∀ a s o t, Pd a s → Qc a s o t → Qd a s o t) (hf : ∀ q, free q → free2 q) : Met l y ws rm Pd Qd mc ms free2 := by
  intro p e h1 h2 h3 s m args below h4 h5 h6 h7
  obtain ⟨n, o, a1, a2, a3, a4, L, a5, a6⟩ := h p e h1 h2 h3 s m args below h4 h5 (hp _ _ h6) trivial
  exact ⟨n, o, a1, a2, a3, hq _ _ _ _ h6 a4, L, a5, fun q hq => hf _ (a6 q hq)⟩
theorem zK.narrow {G : gG} {A B : Nat → Prop} {U : State} {H : Heap} (h : zK G A U H) (hAB : ∀ q, B q → A q) : zK G B U H := ⟨h.1.narrow hAB, h.2.1, h.2.2.1.narrow hAB, h.2.2.2.narrow hAB⟩
theorem va_P_mem {D : va_G} {cl : List vw_C} {ws : va_W} {H : Heap} : va_P D cl ws H ↔ ∀ q ∈ ws, va_at D cl q H :=
  ⟨fun h q hq => by obtain ⟨k, hk⟩ := List.getElem?_of_mem hq; exact h k q hk, fun h k q hk => h q (List.mem_of_getElem? hk)⟩
theorem va_A_mem {ws : va_W} {sz q : Nat} : va_A ws sz q ↔ (∃ e : va_E, (q, e) ∈ ws) ∨ sz ≤ q :=
  ⟨fun h => h.imp (fun ⟨k, e, hk⟩ => ⟨e, List.mem_of_getElem? hk⟩) id, fun h => h.imp (fun ⟨e, he⟩ => by obtain ⟨k, hk⟩ := List.getElem?_of_mem he; exact ⟨k, e, hk⟩) id⟩
theorem va_D_nd {A : Nat → Prop} {ws : va_W} : va_D A ws ↔ ws.Pairwise (fun a b => a.1 ≠ b.1) ∧ ∀ q ∈ ws, A q.1 := by
  constructor
  · intro h
    refine ⟨?_, fun q hq => by obtain ⟨k, hk⟩ := List.getElem?_of_mem hq; exact h.2 k q hk⟩
    rw [List.pairwise_iff_getElem]
    intro i j hi hj hij he
    have := h.1 i j ws[i] ws[j] (List.getElem?_eq_getElem hi) (List.getElem?_eq_getElem hj) he
    omega
  · intro h
    refine ⟨fun i j p q hi hj he => ?_, fun k q hk => h.2 q (List.mem_of_getElem? hk)⟩
    have h1 := List.pairwise_iff_getElem.mp h.1
    obtain ⟨li, ei⟩ := List.getElem?_eq_some_iff.mp hi
    obtain ⟨lj, ej⟩ := List.getElem?_eq_some_iff.mp hj
    rcases Nat.lt_trichotomy i j with hlt | heq | hgt
    · exact absurd (by rw [ei, ej]; exact he) (h1 i j li lj hlt)
    · exact heq
    · exact absurd (by rw [ei, ej]; exact he.symm) (h1 j i lj li hgt)
theorem va_P.perm {D : va_G} {cl : List vw_C} {ws wt : va_W} {H : Heap} (h : va_P D cl ws H) (hp : ws.Perm wt) : va_P D cl wt H := va_P_mem.mpr (fun q hq => va_P_mem.mp h q (hp.mem_iff.mpr hq))
theorem va_D.perm {A : Nat → Prop} {ws wt : va_W} (h : va_D A ws) (hp : ws.Perm wt) : va_D A wt := by
  obtain ⟨h1, h2⟩ := va_D_nd.mp h
  exact va_D_nd.mpr ⟨hp.pairwise h1 (fun h => Ne.symm h), fun q hq => h2 q (hp.mem_iff.mpr hq)⟩
theorem va_A.perm {ws wt : va_W} {sz q : Nat} (hp : ws.Perm wt) (h : va_A ws sz q) : va_A wt sz q := va_A_mem.mpr ((va_A_mem.mp h).imp (fun ⟨e, he⟩ => ⟨e, hp.mem_iff.mp he⟩) id)
theorem va_A.app {P R : va_W} {sz q : Nat} (h : va_A P sz q) : va_A (P ++ R) sz q := va_A_mem.mpr ((va_A_mem.mp h).imp (fun ⟨e, he⟩ => ⟨e, List.mem_append_left _ he⟩) id)
theorem va_F.mono {A B : Nat → Prop} {s t : State} (h : va_F A s t) (hAB : ∀ q, A q → B q) : va_F B s t := ⟨h.1, fun q h1 h2 => h.2 q h1 (fun z => h2 (hAB q z))⟩
theorem pre_app {G : gG} {P R : va_W} {sz : Nat} {U : State} (h : gPre G (P ++ R) sz U) : gPre G P sz U := by
  obtain ⟨h1, h2, h3, h4, h5, h6⟩ := h
  refine ⟨h1, va_P_mem.mpr (fun q hq => va_P_mem.mp h2 q (List.mem_append_left _ hq)), h3, ?_, h5, h6.narrow (fun q hq => va_A.app hq)⟩
  obtain ⟨g1, g2⟩ := va_D_nd.mp h4
  exact va_D_nd.mpr ⟨(List.pairwise_append.mp g1).1, fun _ _ => trivial⟩
theorem post_app {G : gG} {P R u : va_W} {sz : Nat} {st t : State} (h : gPre G (P ++ R) sz st) (hF : va_F (va_A P sz) st t) (hB : gPost G (va_A P sz) u t) : gPost G (va_A (P ++ R) sz) (u ++ R) t := by
  obtain ⟨h1, h2, h3, h4, h5, h6⟩ := h
  obtain ⟨g1, g2⟩ := va_D_nd.mp h4
  obtain ⟨p1, p2, p3⟩ := List.pairwise_append.mp g1
  have out : ∀ q ∈ R, q.1 < st.heap.size ∧ ¬ va_A P sz q.1 := fun q hq => by
    have hl := (va_P_mem.mp h2 q (List.mem_append_right _ hq)).lt
    refine ⟨hl, fun hz => ?_⟩
    rcases va_A_mem.mp hz with ⟨e, he⟩ | hz
    · exact p3 _ he _ hq rfl
    · omega
  refine ⟨va_P.app hB.1 (va_P_mem.mpr (fun q hq => (va_P_mem.mp h2 q (List.mem_append_right _ hq)).kept (hF.2 q.1 (out q hq).1 (out q hq).2))), ?_⟩
  obtain ⟨b1, b2⟩ := va_D_nd.mp hB.2
  refine va_D_nd.mpr ⟨List.pairwise_append.mpr ⟨b1, p2, fun a ha b hb he => ?_⟩, fun q hq => ?_⟩
  · exact (out b hb).2 (by rw [← he]; exact b2 a ha)
  · rcases List.mem_append.mp hq with hq | hq
    · exact va_A.app (b2 q hq)
    · exact va_A_mem.mpr (Or.inl ⟨q.2, List.mem_append_right _ hq⟩)
theorem pre_perm {G : gG} {P Q : va_W} {sz : Nat} {U : State} (hp : P.Perm Q) (h : gPre G P sz U) : gPre G Q sz U := by
  obtain ⟨h1, h2, h3, h4, h5, h6⟩ := h
  exact ⟨h1, h2.perm hp, h3, h4.perm hp, h5, h6.narrow (fun q hq => va_A.perm hp.symm hq)⟩
theorem post_perm {G : gG} {P Q u w : va_W} {sz : Nat} {t : State} (hp : P.Perm Q) (hu : u.Perm w) (h : gPost G (va_A Q sz) u t) : gPost G (va_A P sz) w t := ⟨h.1.perm hu, (h.2.perm hu).weaken (fun k q _ hq => va_A.perm hp.symm hq)⟩
section FR
variable {G : gG} {l : Launch} {y : MethodName} {wl : List Cond} {rm : Room} {as : List Value} {sz : Nat}
theorem gI_app {P : va_W} (R : va_W) {post : Int32 → va_W → Prop} (c : gI G l y wl rm as P sz post) : gI G l y wl rm as (P ++ R) sz (fun r w => ∃ u, post r u ∧ w = u ++ R) :=
  Met.cons c (fun a s h => ⟨h.1, pre_app h.2⟩) (fun a s o t h hq => by
    obtain ⟨⟨r, u, h1, h2, h3⟩, h4⟩ := hq
    exact ⟨⟨r, u ++ R, h1, ⟨u, h2, rfl⟩, post_app h.2 h4 h3⟩, h4.mono (fun q hq => va_A.app hq)⟩) (fun q hq => va_A.app hq)
theorem gL_app {P : va_W} (R : va_W) {post : Int64 → va_W → Prop} (c : gL G l y wl rm as P sz post) : gL G l y wl rm as (P ++ R) sz (fun r w => ∃ u, post r u ∧ w = u ++ R) :=
  Met.cons c (fun a s h => ⟨h.1, pre_app h.2⟩) (fun a s o t h hq => by
    obtain ⟨⟨r, u, h1, h2, h3⟩, h4⟩ := hq
    exact ⟨⟨r, u ++ R, h1, ⟨u, h2, rfl⟩, post_app h.2 h4 h3⟩, h4.mono (fun q hq => va_A.app hq)⟩) (fun q hq => va_A.app hq)
theorem gI_perm {P Q : va_W} {post post2 : Int32 → va_W → Prop} (c : gI G l y wl rm as Q sz post) (hp : P.Perm Q) (hw : ∀ r u, post r u → ∃ w, u.Perm w ∧ post2 r w) : gI G l y wl rm as P sz post2 :=
  Met.cons c (fun a s h => ⟨h.1, pre_perm hp h.2⟩) (fun a s o t h hq => by
    obtain ⟨⟨r, u, h1, h2, h3⟩, h4⟩ := hq
    obtain ⟨w, w1, w2⟩ := hw r u h2
    exact ⟨⟨r, w, h1, w2, post_perm hp w1 h3⟩, h4.mono (fun q hq => va_A.perm hp.symm hq)⟩) (fun q hq => va_A.perm hp.symm hq)
theorem gL_perm {P Q : va_W} {post post2 : Int64 → va_W → Prop} (c : gL G l y wl rm as Q sz post) (hp : P.Perm Q) (hw : ∀ r u, post r u → ∃ w, u.Perm w ∧ post2 r w) : gL G l y wl rm as P sz post2 :=
  Met.cons c (fun a s h => ⟨h.1, pre_perm hp h.2⟩) (fun a s o t h hq => by
    obtain ⟨⟨r, u, h1, h2, h3⟩, h4⟩ := hq
    obtain ⟨w, w1, w2⟩ := hw r u h2
    exact ⟨⟨r, w, h1, w2, post_perm hp w1 h3⟩, h4.mono (fun q hq => va_A.perm hp.symm hq)⟩) (fun q hq => va_A.perm hp.symm hq)
theorem fr_A {P wc : va_W} {q : Nat} (isC : List Nat) (hC : isC.map (fun i => P[i]?) = wc.map some) (h : va_A wc sz q) : va_A P sz q := by
  rcases h with ⟨k, e, h⟩ | h
  · have h1 : (isC.map (fun i => P[i]?))[k]? = some (some (q, e)) := by rw [hC, List.getElem?_map, h]; rfl
    rw [List.getElem?_map] at h1
    cases hi : isC[k]? with
    | none => rw [hi] at h1; cases h1
    | some i => rw [hi] at h1; exact Or.inl ⟨i, e, Option.some.inj h1⟩
  · exact Or.inr h
theorem fr_pre {P wc : va_W} {U : State} (isC : List Nat) (hndC : va_nd isC = true) (hC : isC.map (fun i => P[i]?) = wc.map some) (h : gPre G P sz U) : gPre G wc sz U := by
  obtain ⟨h1, h2, h3, h4, h5, h6⟩ := h
  refine ⟨h1, fun k q hk => ?_, h3, h4.sub isC hndC hC, h5, h6.narrow (fun q hq => fr_A isC hC hq)⟩
  have g1 : (isC.map (fun i => P[i]?))[k]? = some (some q) := by rw [hC, List.getElem?_map, hk]; rfl
  rw [List.getElem?_map] at g1
  cases hi : isC[k]? with
  | none => rw [hi] at g1; cases g1
  | some i => rw [hi] at g1; exact h2 i q (Option.some.inj g1)
theorem fr_post {P wc wr u w : va_W} {st t : State} (isC isR is : List Nat) (hC : isC.map (fun i => P[i]?) = wc.map some) (hR : isR.map (fun i => P[i]?) = wr.map some) (hn : va_nd isR = true) (hdis : ∀ i ∈ isR, i ∉ isC) (hni : va_nd is = true) (hw : is.map (fun i => (wr ++ u)[i]?) = w.map some) (h : gPre G P sz st) (hF : va_F (va_A wc sz) st t) (hB : gPost G (va_A wc sz) u t) : gPost G (va_A P sz) w t := by
  obtain ⟨h1, h2, h3, h4, h5, h6⟩ := h
  subst h1
  obtain ⟨j1, j2⟩ := va_join (A0 := va_A P st.heap.size) (wr := wr) (w1 := u) h2 (h4.self) isC isR hC hR hn hdis hF.2 (fun q hq => fr_A isC hC hq) hB.1 hB.2
  refine ⟨?_, j2.sub is hni hw⟩
  intro k q hk
  have g1 : (is.map (fun i => (wr ++ u)[i]?))[k]? = some (some q) := by rw [hw, List.getElem?_map, hk]; rfl
  rw [List.getElem?_map] at g1
  cases hi : is[k]? with
  | none => rw [hi] at g1; cases g1
  | some i => rw [hi] at g1; exact j1 i q (Option.some.inj g1)
theorem gI_fr {P wc : va_W} (wr : va_W) {post post2 : Int32 → va_W → Prop} (c : gI G l y wl rm as wc sz post) (isC isR : List Nat) (hndC : va_nd isC = true) (hC : isC.map (fun i => P[i]?) = wc.map some) (hR : isR.map (fun i => P[i]?) = wr.map some) (hn : va_nd isR = true) (hdis : ∀ i ∈ isR, i ∉ isC) (hw : ∀ r u, post r u → ∃ (w : va_W) (is : List Nat), va_nd is = true ∧ is.map (fun i => (wr ++ u)[i]?) = w.map some ∧ post2 r w) : gI G l y wl rm as P sz post2 :=
  Met.cons c (fun a s h => ⟨h.1, fr_pre isC hndC hC h.2⟩) (fun a s o t h hq => by
    obtain ⟨⟨r, u, h1, h2, h3⟩, h4⟩ := hq
    obtain ⟨w, is, w1, w2, w3⟩ := hw r u h2
    exact ⟨⟨r, w, h1, w3, fr_post isC isR is hC hR hn hdis w1 w2 h.2 h4 h3⟩, h4.mono (fun q hq => fr_A isC hC hq)⟩) (fun q hq => fr_A isC hC hq)
theorem gL_fr {P wc : va_W} (wr : va_W) {post post2 : Int64 → va_W → Prop} (c : gL G l y wl rm as wc sz post) (isC isR : List Nat) (hndC : va_nd isC = true) (hC : isC.map (fun i => P[i]?) = wc.map some) (hR : isR.map (fun i => P[i]?) = wr.map some) (hn : va_nd isR = true) (hdis : ∀ i ∈ isR, i ∉ isC) (hw : ∀ r u, post r u → ∃ (w : va_W) (is : List Nat), va_nd is = true ∧ is.map (fun i => (wr ++ u)[i]?) = w.map some ∧ post2 r w) : gL G l y wl rm as P sz post2 :=
  Met.cons c (fun a s h => ⟨h.1, fr_pre isC hndC hC h.2⟩) (fun a s o t h hq => by
    obtain ⟨⟨r, u, h1, h2, h3⟩, h4⟩ := hq
    obtain ⟨w, is, w1, w2, w3⟩ := hw r u h2
    exact ⟨⟨r, w, h1, w3, fr_post isC isR is hC hR hn hdis w1 w2 h.2 h4 h3⟩, h4.mono (fun q hq => fr_A isC hC hq)⟩) (fun q hq => fr_A isC hC hq)
theorem gI_post {P : va_W} {post post2 : Int32 → va_W → Prop} (c : gI G l y wl rm as P sz post) (h : ∀ r u, post r u → post2 r u) : gI G l y wl rm as P sz post2 := gI_perm c (List.Perm.refl P) (fun r u hu => ⟨u, List.Perm.refl u, h r u hu⟩)
theorem gL_post {P : va_W} {post post2 : Int64 → va_W → Prop} (c : gL G l y wl rm as P sz post) (h : ∀ r u, post r u → post2 r u) : gL G l y wl rm as P sz post2 := gL_perm c (List.Perm.refl P) (fun r u hu => ⟨u, List.Perm.refl u, h r u hu⟩)
end FR
section GW
variable {p : Program} {l : Launch} {e : Env} {R : Room} {s : State} {m : MethodId} {args : Array Value} {below : List Frame} {meth : Method} {c : Code} {H : Heap} {locs : List Loc} {cells slots : Nat} {Q : State → Prop} {G : gG}
theorem g_preW {A : Nat → Prop} {w : va_W} {cls : String} (b : Nat) (as : List Value) (hP : va_P G.1 vwCl w H) (hD : va_D A w) (hK : va_K G.1 vwCl (gt G) s) (hN : nW s) (hS : va_S A s.heap H locs) (hA : ∀ q, s.heap.size ≤ q → A q) (hZ : zK G A s s.heap) (ci : Nat) (q : vw_C) (hc : vwCl[ci]? = some q) (hr : ∃ fs : List Value, ((b, .inr (ci, fs)) : Nat × va_E) ∈ w) (hq : q.1 = cls) : PreV s H cls b (va_Pc (.ref b :: as) (gPre G w H.size)) as := by
  subst hq
  obtain ⟨fs, hf⟩ := hr
  obtain ⟨k, hk⟩ := List.getElem?_of_mem hf
  refine ⟨gPre_blind G _ w H.size, va_recv hK hP hc hk, fun U hU hW => ⟨rfl, by rw [hU], by rw [hU]; exact hP, va_K.moved hW.alike hK, hD.weaken (fun _ _ _ _ => trivial), hN.warm hW, ?_⟩⟩
  rw [hU]
  refine hZ.next hS hW (fun q hq => ?_)
  rcases va_A_mem.mp hq with ⟨e, he⟩ | h
  · exact (va_D_nd.mp hD).2 _ he
  · exact hA q (Nat.le_trans hS.1 h)
theorem w_free {A : Nat → Prop} {w : va_W} {H0 : Heap} (hD : va_D A w) (hS : va_S A H0 H locs) (hA : ∀ q, H0.size ≤ q → A q) : ∀ q, va_A w H.size q → A q := fun q hq => by
  rcases va_A_mem.mp hq with ⟨e, he⟩ | h
  · exact (va_D_nd.mp hD).2 _ he
  · exact hA q (Nat.le_trans hS.1 h)
theorem g_calliW {post : Int32 → va_W → Prop} {a : Array Value} {A : Nat → Prop} {H0 : Heap} {w : va_W} {mc ms pc : Nat} {ls : Array Slot} {st0 rest : List Value} (hr : va_Run p l e R s m args below meth c H locs cells slots mc ms (F0 m pc ls st0) rest (va_Qi post (gPost G (va_A w H.size)) (va_A w H.size) a) (va_A w H.size)) (hD : va_D A w) (hS : va_S A H0 H locs) (hA : ∀ q, H0.size ≤ q → A q)
    (kk : ∀ (r : Int32) (u : va_W) (H1 : Heap) (locs1 : List Loc), post r u → va_P G.1 vwCl u H1 → va_D A u → va_S A H0 H1 locs1 → W p l e R s m args below meth c H1 locs1 (cells + mc) (slots + ms) Q (F0 m (pc + 3) ls (.int r :: rest))) : W p l e R s m args below meth c H locs cells slots Q (F0 m pc ls st0) := by
  have hF := w_free hD hS hA
  refine va_calli hr hS (fun q _ h => hF q h) hF (fun r u t H1 locs1 ht hvm hw hB hz1 hk1 hS1 => ?_)
  exact kk r u H1 locs1 hw (by rw [← ht]; exact hB.1) (hB.2.weaken (fun k q _ hq => hF _ hq)) hS1
theorem g_calllW {post : Int64 → va_W → Prop} {a : Array Value} {A : Nat → Prop} {H0 : Heap} {w : va_W} {mc ms pc : Nat} {ls : Array Slot} {st0 rest : List Value} (hr : va_Run p l e R s m args below meth c H locs cells slots mc ms (F0 m pc ls st0) rest (va_Ql post (gPost G (va_A w H.size)) (va_A w H.size) a) (va_A w H.size)) (hD : va_D A w) (hS : va_S A H0 H locs) (hA : ∀ q, H0.size ≤ q → A q)
    (kk : ∀ (r : Int64) (u : va_W) (H1 : Heap) (locs1 : List Loc), post r u → va_P G.1 vwCl u H1 → va_D A u → va_S A H0 H1 locs1 → W p l e R s m args below meth c H1 locs1 (cells + mc) (slots + ms) Q (F0 m (pc + 3) ls (.long r :: rest))) : W p l e R s m args below meth c H locs cells slots Q (F0 m pc ls st0) := by
  have hF := w_free hD hS hA
  refine va_calll hr hS (fun q _ h => hF q h) hF (fun r u t H1 locs1 ht hvm hw hB hz1 hk1 hS1 => ?_)
  exact kk r u H1 locs1 hw (by rw [← ht]; exact hB.1) (hB.2.weaken (fun k q _ hq => hF _ hq)) hS1
end GW
