theorem arrV_lt {cA n : Nat} {f g : Nat → Value} (h : ∀ j : Nat, j < n → f j = g j) : arrV cA n f = arrV cA n g := by
  unfold arrV
  congr 1
  congr 1
  exact funext (fun j => h j.val j.isLt)
theorem va_P.eqc {D : va_G} {cl : List vw_C} {ws : va_W} {H : Heap} {q a n : Nat} {cA : ClassId} {f g : Nat → Int32} (hP : va_P D cl ws H) (h0 : ws[q]? = some (a, .inl (cA, n, .inl f))) (h : ∀ j : Nat, j < n → f j = g j) : va_P D cl (ws.set q (a, .inl (cA, n, .inl g))) H := by
  intro k x hk
  by_cases e : q = k
  · subst e
    have hl : q < ws.length := (List.getElem?_eq_some_iff.mp h0).1
    rw [List.getElem?_set_self hl] at hk
    cases hk
    show H[a]? = some (vp_cell cA (n, .inl g))
    have h1 : H[a]? = some (vp_cell cA (n, .inl f)) := hP q _ h0
    rw [h1, vp_cell_i, vp_cell_i, arrV_lt (g := fun j => .int (g j)) (fun j hj => by rw [h j hj])]
  · rw [List.getElem?_set_ne e] at hk
    exact hP k x hk
theorem set_set_w {α : Type} (ws : List α) (q : Nat) (x y : α) : (ws.set q x).set q y = ws.set q y := by simp
def s8 {α : Type} (x0 x1 x2 x3 x4 x5 x6 x7 : α) : Nat → α := fun i => match i with
  | 0 => x0
  | 1 => x1
  | 2 => x2
  | 3 => x3
  | 4 => x4
  | 5 => x5
  | 6 => x6
  | _ => x7
theorem s8_all {α : Type} {P : α → Prop} {x0 x1 x2 x3 x4 x5 x6 x7 : α} (h0 : P x0) (h1 : P x1) (h2 : P x2) (h3 : P x3) (h4 : P x4) (h5 : P x5) (h6 : P x6) (h7 : P x7) : ∀ i : Nat, P (s8 x0 x1 x2 x3 x4 x5 x6 x7 i) := by
  intro i
  unfold s8
  split <;> assumption
def tl (i K : Int) (E : Nat → Int) : Prop := ∀ j : Nat, i ≤ j → E j ≤ K
theorem tl_0 {lo K : Int} {i : Int} {E : Nat → Int} (h : bd lo K E) : tl i K E := fun j _ => (h j).2
theorem tl_s {i K : Int} {E : Nat → Int} (h : tl i K E) : tl (i + 1) K E := fun j hj => h j (by omega)
theorem tl_at {i K : Int} {E : Nat → Int} (h : tl i K E) {k : Int} (h1 : i ≤ k) (h0 : 0 ≤ k) : E k.toNat ≤ K := h _ (by omega)
theorem tl_u {i K k v : Int} {E : Nat → Int} (h : tl i K E) (h1 : i ≤ k + 1) (h0 : 0 ≤ k) : tl (k + 1) K (uI E k.toNat v) := fun j hj => by
  rw [uI_ne (by omega)]
  exact h j (by omega)
def cR (f : Nat → Nat) : Nat → Option Nat := fun j => some (f j)
def s2 {α : Type} (x0 x1 : α) : Nat → α := fun i => match i with
  | 0 => x0
  | _ => x1
theorem va_P.eqr {D : va_G} {cl : List vw_C} {ws : va_W} {H : Heap} {q a n : Nat} {cA : ClassId} {f g : Nat → Option Nat} (hP : va_P D cl ws H) (h0 : ws[q]? = some (a, .inl (cA, n, .inr (.inr (.inr (.inr f)))))) (h : ∀ j : Nat, j < n → f j = g j) : va_P D cl (ws.set q (a, .inl (cA, n, .inr (.inr (.inr (.inr g)))))) H := by
  intro k x hk
  by_cases e : q = k
  · subst e
    have hl : q < ws.length := (List.getElem?_eq_some_iff.mp h0).1
    rw [List.getElem?_set_self hl] at hk
    cases hk
    show H[a]? = some (vp_cell cA (n, .inr (.inr (.inr (.inr g)))))
    have h1 : H[a]? = some (vp_cell cA (n, .inr (.inr (.inr (.inr f))))) := hP q _ h0
    rw [h1, vp_cell_q, vp_cell_q, arrV_lt (g := fun j => va_rf (g j)) (fun j hj => by rw [h j hj])]
  · rw [List.getElem?_set_ne e] at hk
    exact hP k x hk
theorem ev_back {B E0 F2 F3 F4 : Nat → Int} {k : Nat} {a b : Int} (h0 : ∀ j : Nat, E0 j = B j) (h2 : uI E0 k a = F2) (h3 : ∀ j : Nat, F3 j = F2 j) (h4 : uI F3 k b = F4) (hb : b = E0 k) : ∀ j : Nat, F4 j = B j := by
  intro j
  rw [← h4]
  unfold uI
  split
  · next e => rw [hb, e]; exact h0 k
  · next e =>
    rw [h3 j, ← h2, uI_ne e]
    exact h0 j
theorem ev_bd {lo hi : Int} {B F : Nat → Int} (h : ∀ j : Nat, F j = B j) (hb : bd lo hi B) : bd lo hi F := fun j => by rw [h j]; exact hb j
section GY
variable {p : Program} {l : Launch} {e : Env} {R : Room} {s : State} {m : MethodId} {args : Array Value} {below : List Frame} {meth : Method} {c : Code} {H : Heap} {locs : List Loc} {cells slots : Nat} {Q : State → Prop} {G : gG}
theorem g_copyF {cc : ByteArray} {ws : va_W} {A : Nat → Prop} {H0 : Heap} {a a0 pc n : Nat} {F E : Nat → Int} {z : Int} {ls : Array Slot} {rest : List Value} (hx : p.tables.exec = Jvm.exec) (hb : c.code = cc) (hml : c.maxLocals = ls.size) {own : String} {index : Nat} (hown : s.vm.findClass own = some m.cls) (hlink : (Cond.methodLink own index arraycopyName).before args s = true) (hnat : (Cond.native arraycopyName).before args s = true) (hstat : (Cond.static arraycopyName).before args s = true) (hini : (Cond.initialized "java/lang/System").before args s = true)
    (hK : va_K G.1 vwCl (gt G) s) (hP : va_P G.1 vwCl ws H) (hD : va_D A ws) (hS : va_S A H0 H locs) (q0 q1 : Nat) (ha0 : ws[q0]? = some (a0, .inl (G.2 0, n, .inl (cI F)))) (ha1 : ws[q1]? = some (a, .inl (G.2 0, n, .inl (cI E)))) (hz : ¬ iI z < 0) (hz2 : (iI z).toNatClampNeg = n)
    (hframes : 1 ≤ R.frames) (hlocals : (rest.map fun v => v.category).sum + (nativeFrameWords "java/lang/System" "arraycopy" 5 + 11) ≤ R.locals) (hdg : decode cc pc = .ok (.invokestatic index, 3))
    (kk : ∀ (H1 : Heap) (locs1 : List Loc), va_P G.1 vwCl (ws.set q1 (a, .inl (G.2 0, n, .inl (cI F)))) H1 → va_D A (ws.set q1 (a, .inl (G.2 0, n, .inl (cI F)))) → va_S A H0 H1 locs1 → W p l e R s m args below meth c H1 locs1 cells slots Q (F0 m (pc + 3) ls rest)) : W p l e R s m args below meth c H locs cells slots Q (F0 m pc ls (.int (iI z) :: .int (iI 0) :: .ref a :: .int (iI 0) :: .ref a0 :: rest)) := by
  refine va_copyi hx hb hml hown hlink hnat hstat hini hK hP hD hS q0 q1 0 0 ha0 ha1 rfl rfl rfl (by decide) (by decide) hz (by rw [hz2]; show 0 + n ≤ n; omega) (by rw [hz2]; show 0 + n ≤ n; omega) (fun _ _ => rfl) hframes hlocals hdg (fun H1 locs1 h1 h2 h3 => ?_)
  rw [hz2] at h1 h2
  have hl : q1 < ws.length := (List.getElem?_eq_some_iff.mp ha1).1
  have h4 := h1.eqc (q := q1) (g := cI F) (List.getElem?_set_self hl) (fun j hj => by
    show va_cpy (cI F) (cI E) 0 0 n j = cI F j
    unfold va_cpy
    rw [if_pos ⟨Nat.zero_le _, by omega⟩]
    congr 1
    omega)
  rw [set_set_w] at h4
  refine kk H1 locs1 h4 ?_ h3
  exact hD.set ha1
theorem g_astR {cc : ByteArray} {ws : va_W} {A : Nat → Prop} {H0 : Heap} {a v pc n : Nat} {f f' : Nat → Nat} {fs : List Value} {r : vw_C} {z : Int} {ls : Array Slot} {rest : List Value} {k : Nat} (hx : p.tables.exec = Jvm.exec) (hb : c.code = cc) (hK : va_K G.1 vwCl (gt G) s) (hP : va_P G.1 vwCl ws H) (hD : va_D A ws) (hS : va_S A H0 H locs) (q0 t0 k0 ci : Nat) (ha : ws[q0]? = some (a, .inl (G.2 t0, n, .inr (.inr (.inr (.inr (cR f))))))) (ht : (gt G)[t0]? = some (G.2 t0, .object r.1)) (he : ws[k0]? = some (v, .inr (ci, fs))) (hc : vwCl[ci]? = some r) (hin : vp_in (iI z) n) (hk : (iI z).toNatClampNeg = k) (hf : ∀ j : Nat, j < n → va_up (cR f) k (some v) j = cR f' j) (hdg : decode cc pc = .ok (.aastore, 1))
    (kk : ∀ (H1 : Heap) (locs1 : List Loc), va_P G.1 vwCl (ws.set q0 (a, .inl (G.2 t0, n, .inr (.inr (.inr (.inr (cR f'))))))) H1 → va_D A (ws.set q0 (a, .inl (G.2 t0, n, .inr (.inr (.inr (.inr (cR f'))))))) → va_S A H0 H1 locs1 → W p l e R s m args below meth c H1 locs1 cells slots Q (F0 m (pc + 1) ls rest)) : W p l e R s m args below meth c H locs cells slots Q (F0 m pc ls (.ref v :: .int (iI z) :: .ref a :: rest)) := by
  refine va_astq hx hb hK hP hD hS q0 t0 k0 ci ha ht he hc hin hdg (fun H1 locs1 h1 h2 h3 => ?_)
  rw [hk] at h1 h2
  have hl : q0 < ws.length := (List.getElem?_eq_some_iff.mp ha).1
  have h4 := h1.eqr (q := q0) (g := cR f') (List.getElem?_set_self hl) hf
  rw [set_set_w] at h4
  exact kk H1 locs1 h4 (hD.set ha) h3
theorem g_join {pc jn : Nat} {ls : Array Slot} {st rest : List Value} (I : Int → Array Slot → Prop) (hc : ∀ (r : Int) (ls : Array Slot), I r ls → W p l e R s m args below meth c H locs cells slots Q (F0 m jn ls (.int (iI r) :: rest))) (k : (∀ (r : Int) (ls : Array Slot), I r ls → W p l e R s m args below meth c H locs cells slots Q (F0 m jn ls (.int (iI r) :: rest))) → W p l e R s m args below meth c H locs cells slots Q (F0 m pc ls st)) : W p l e R s m args below meth c H locs cells slots Q (F0 m pc ls st) := k hc
end GY
