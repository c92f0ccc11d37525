def iI (z : Int) : Int32 := Int32.ofInt z
def lI (z : Int) : Int64 := Int64.ofInt z
theorem iI_toInt {z : Int} (h : (-2147483648 ≤ z ∧ z ≤ 2147483647)) : (iI z).toInt = z := Int32.toInt_ofInt_of_le (by omega) (by omega)
theorem iI_of (x : Int32) : ∃ z : Int, (-2147483648 ≤ z ∧ z ≤ 2147483647) ∧ x = iI z := ⟨x.toInt, ⟨by have := x.le_toInt; omega, by have := x.toInt_lt; omega⟩, (Int32.ofInt_toInt x).symm⟩
theorem iI_add (a b : Int) : iI a + iI b = iI (a + b) := (Int32.ofInt_add a b).symm
theorem iI_sub (a b : Int) : iI a - iI b = iI (a - b) := (Int32.ofInt_sub a b).symm
theorem iI_mul (a b : Int) : iI a * iI b = iI (a * b) := (Int32.ofInt_mul a b).symm
theorem iI_lt {a b : Int} (ha : (-2147483648 ≤ a ∧ a ≤ 2147483647)) (hb : (-2147483648 ≤ b ∧ b ≤ 2147483647)) : iI a < iI b ↔ a < b := by rw [Int32.lt_iff_toInt_lt, iI_toInt ha, iI_toInt hb]
theorem iI_le {a b : Int} (ha : (-2147483648 ≤ a ∧ a ≤ 2147483647)) (hb : (-2147483648 ≤ b ∧ b ≤ 2147483647)) : iI a ≤ iI b ↔ a ≤ b := by rw [Int32.le_iff_toInt_le, iI_toInt ha, iI_toInt hb]
theorem iI_eq {a b : Int} (ha : (-2147483648 ≤ a ∧ a ≤ 2147483647)) (hb : (-2147483648 ≤ b ∧ b ≤ 2147483647)) : iI a = iI b ↔ a = b := ⟨fun h => by rw [← iI_toInt ha, ← iI_toInt hb, h], fun h => by rw [h]⟩
theorem iI_cl {z : Int} (h0 : 0 ≤ z) (h1 : z ≤ 2147483647) : (iI z).toNatClampNeg = z.toNat := Int32.toNatClampNeg_ofInt_of_le (by omega) (by omega)
theorem vp_iI {z : Int} {n : Nat} (h0 : 0 ≤ z) (h1 : z < n) (hn : n ≤ 2147483647) : vp_in (iI z) n := by
  rw [vp_in_iff, iI_toInt ⟨by omega, by omega⟩]
  exact ⟨h0, h1⟩
theorem iI_div {a b : Int} (ha : 0 ≤ a) (ha2 : a ≤ 2147483647) (hb : 0 < b) (hb2 : b ≤ 2147483647) : iI a / iI b = iI (a / b) := by
  have h := Int32.toInt_div (iI a) (iI b)
  rw [iI_toInt ⟨by omega, by omega⟩, iI_toInt ⟨by omega, by omega⟩, Int.tdiv_eq_ediv_of_nonneg ha] at h
  have h1 : 0 ≤ a / b := Int.ediv_nonneg ha (by omega)
  have h2 : a / b ≤ a := Int.ediv_le_self b ha
  rw [Int.bmod_eq_of_le (by omega) (by omega)] at h
  rw [← Int32.ofInt_toInt (iI a / iI b), h]
  rfl
theorem iI_rem {a b : Int} (ha : 0 ≤ a) (ha2 : a ≤ 2147483647) (hb : 0 < b) (hb2 : b ≤ 2147483647) : iI a % iI b = iI (a % b) := by
  have h := Int32.toInt_mod (iI a) (iI b)
  rw [iI_toInt ⟨by omega, by omega⟩, iI_toInt ⟨by omega, by omega⟩, Int.tmod_eq_emod_of_nonneg ha] at h
  rw [← Int32.ofInt_toInt (iI a % iI b), h]
  rfl
theorem iI_rem2 {a b : Int} (ha : 0 ≤ a) (ha2 : a ≤ 2147483647) (hb : 0 < b) (hb2 : b ≤ 2147483647) : iI a - iI a / iI b * iI b = iI (a % b) := by
  rw [iI_div ha ha2 hb hb2, iI_mul, iI_sub]
  congr 1
  have := Int.emod_add_ediv_mul a b
  omega
theorem iI_ne0 {b : Int} (h : b ≠ 0) (hb : (-2147483648 ≤ b ∧ b ≤ 2147483647)) : ¬ iI b = 0 := fun e => h ((iI_eq hb (b := 0) (by omega)).mp e)
def cI (F : Nat → Int) : Nat → Int32 := fun j => iI (F j)
def uI (F : Nat → Int) (k : Nat) (v : Int) : Nat → Int := fun j => if j = k then v else F j
theorem uI_eq (F : Nat → Int) (k : Nat) (v : Int) : uI F k v k = v := if_pos rfl
theorem uI_ne {F : Nat → Int} {k j : Nat} {v : Int} (h : j ≠ k) : uI F k v j = F j := if_neg h
theorem upd_cI (F : Nat → Int) (k : Nat) (v : Int) : upd (cI F) k (iI v) = cI (uI F k v) := by
  funext j
  simp only [upd, cI, uI]
  split <;> rfl
def cpI (F E : Nat → Int) (a b n : Nat) : Nat → Int := fun k => if b ≤ k ∧ k < b + n then F (a + (k - b)) else E k
theorem cpy_cI (F E : Nat → Int) (a b n : Nat) : va_cpy (cI F) (cI E) a b n = cI (cpI F E a b n) := by
  funext j
  simp only [va_cpy, cI, cpI]
  split <;> rfl
def bd (lo hi : Int) (F : Nat → Int) : Prop := ∀ j, lo ≤ F j ∧ F j ≤ hi
theorem bd_z {lo hi : Int} (h1 : lo ≤ 0) (h2 : 0 ≤ hi) : bd lo hi (fun _ => 0) := fun _ => ⟨h1, h2⟩
theorem bd_u {lo hi : Int} {F : Nat → Int} {k : Nat} {v : Int} (h : bd lo hi F) (h1 : lo ≤ v) (h2 : v ≤ hi) : bd lo hi (uI F k v) := fun j => by
  unfold uI
  split
  · exact ⟨h1, h2⟩
  · exact h j
theorem bd_mono {lo hi lo2 hi2 : Int} {F : Nat → Int} (h : bd lo hi F) (h1 : lo2 ≤ lo) (h2 : hi ≤ hi2) : bd lo2 hi2 F := fun j => ⟨by have := (h j).1; omega, by have := (h j).2; omega⟩
theorem bd_cp {lo hi : Int} {F E : Nat → Int} {a b n : Nat} (h : bd lo hi F) (h2 : bd lo hi E) : bd lo hi (cpI F E a b n) := fun j => by
  unfold cpI
  split
  · exact h _
  · exact h2 j
section GI
variable {p : Program} {l : Launch} {e : Env} {R : Room} {s : State} {m : MethodId} {args : Array Value} {below : List Frame} {meth : Method} {c : Code} {H : Heap} {locs : List Loc} {cells slots : Nat} {Q : State → Prop} {G : gG}
theorem g_topo {pc : Nat} {ls : Array Slot} {rest : List Value} {x : Int32} (k : ∀ z : Int, (-2147483648 ≤ z ∧ z ≤ 2147483647) → x = iI z → W p l e R s m args below meth c H locs cells slots Q (F0 m pc ls (.int (iI z) :: rest))) : W p l e R s m args below meth c H locs cells slots Q (F0 m pc ls (.int x :: rest)) := by
  obtain ⟨z, hz, rfl⟩ := iI_of x
  exact k z hz rfl
theorem g_ild {cc : ByteArray} {ws : va_W} {a pc n : Nat} {F : Nat → Int} {z : Int} {ls : Array Slot} {rest : List Value} (hx : p.tables.exec = Jvm.exec) (hb : c.code = cc) (hK : va_K G.1 vwCl (gt G) s) (hP : va_P G.1 vwCl ws H) (q0 : Nat) (ha : ws[q0]? = some (a, .inl (G.2 0, n, .inl (cI F)))) (h0 : 0 ≤ z) (h1 : z < n) (hn : n ≤ 2147483647) (hdg : decode cc pc = .ok (.iaload, 1)) (kk : ∀ v : Int, F z.toNat = v → W p l e R s m args below meth c H locs cells slots Q (F0 m (pc + 1) ls (.int (iI v) :: rest))) : W p l e R s m args below meth c H locs cells slots Q (F0 m pc ls (.int (iI z) :: .ref a :: rest)) := by
  refine va_iald hx hb hK hP q0 0 ha rfl (vp_iI h0 h1 hn) hdg ?_
  rw [iI_cl h0 (by omega)]
  exact kk _ rfl
theorem g_ist {cc : ByteArray} {ws : va_W} {A : Nat → Prop} {H0 : Heap} {a pc n : Nat} {F : Nat → Int} {z v : Int} {ls : Array Slot} {rest : List Value} (hx : p.tables.exec = Jvm.exec) (hb : c.code = cc) (hK : va_K G.1 vwCl (gt G) s) (hP : va_P G.1 vwCl ws H) (hD : va_D A ws) (hS : va_S A H0 H locs) (q0 : Nat) (ha : ws[q0]? = some (a, .inl (G.2 0, n, .inl (cI F)))) (h0 : 0 ≤ z) (h1 : z < n) (hn : n ≤ 2147483647) (hdg : decode cc pc = .ok (.iastore, 1)) (kk : ∀ (H1 : Heap) (locs1 : List Loc), va_P G.1 vwCl (ws.set q0 (a, .inl (G.2 0, n, .inl (cI (uI F z.toNat v))))) H1 → va_D A (ws.set q0 (a, .inl (G.2 0, n, .inl (cI (uI F z.toNat v))))) → va_S A H0 H1 locs1 → W p l e R s m args below meth c H1 locs1 cells slots Q (F0 m (pc + 1) ls rest)) : W p l e R s m args below meth c H locs cells slots Q (F0 m pc ls (.int (iI v) :: .int (iI z) :: .ref a :: rest)) := by
  refine va_iast hx hb hK hP hD hS q0 0 ha rfl (vp_iI h0 h1 hn) hdg (fun H1 locs1 h2 h3 h4 => ?_)
  rw [iI_cl h0 (by omega), upd_cI] at h2 h3
  exact kk H1 locs1 h2 h3 h4
theorem g_ifmin {pc : Nat} {ls : Array Slot} {rest : List Value} {a b : Int} (ha : -2147483648 ≤ a ∧ a ≤ 2147483647) (hb : -2147483648 ≤ b ∧ b ≤ 2147483647) (kk : ∀ r : Int, r ≤ a → r ≤ b → (r = a ∨ r = b) → W p l e R s m args below meth c H locs cells slots Q (F0 m pc ls (.int (iI r) :: rest))) : W p l e R s m args below meth c H locs cells slots Q (F0 m pc ls (.int (if iI b < iI a then iI b else iI a) :: rest)) := by
  by_cases h : b < a
  · rw [if_pos ((iI_lt hb ha).mpr h)]
    exact kk b (by omega) (by omega) (Or.inr rfl)
  · rw [if_neg (fun q => h ((iI_lt hb ha).mp q))]
    exact kk a (by omega) (by omega) (Or.inl rfl)
theorem g_ifmax {pc : Nat} {ls : Array Slot} {rest : List Value} {a b : Int} (ha : -2147483648 ≤ a ∧ a ≤ 2147483647) (hb : -2147483648 ≤ b ∧ b ≤ 2147483647) (kk : ∀ r : Int, a ≤ r → b ≤ r → (r = a ∨ r = b) → W p l e R s m args below meth c H locs cells slots Q (F0 m pc ls (.int (iI r) :: rest))) : W p l e R s m args below meth c H locs cells slots Q (F0 m pc ls (.int (if iI a < iI b then iI b else iI a) :: rest)) := by
  by_cases h : a < b
  · rw [if_pos ((iI_lt ha hb).mpr h)]
    exact kk b (by omega) (by omega) (Or.inr rfl)
  · rw [if_neg (fun q => h ((iI_lt ha hb).mp q))]
    exact kk a (by omega) (by omega) (Or.inl rfl)
/-- a loop with a measure -/
theorem g_loopN {pc : Nat} {st : List Value} (I : Nat → Heap → List Loc → Array Slot → Prop) (hs : ∀ (n : Nat) (H : Heap) (locs : List Loc) (ls : Array Slot), (∀ (n' : Nat) (H' : Heap) (locs' : List Loc) (ls' : Array Slot), n' < n → I n' H' locs' ls' → W p l e R s m args below meth c H' locs' cells slots Q (F0 m pc ls' st)) → I n H locs ls → W p l e R s m args below meth c H locs cells slots Q (F0 m pc ls st)) {H : Heap} {locs : List Loc} {ls : Array Slot} {n : Nat} (h0 : I n H locs ls) : W p l e R s m args below meth c H locs cells slots Q (F0 m pc ls st) := by
  induction n using Nat.strongRecOn generalizing H locs ls with
  | ind n ih => exact hs n H locs ls (fun n' H' locs' ls' h hI => ih n' h hI) h0
end GI
