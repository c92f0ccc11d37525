theorem lI_toInt {z : Int} (h : -9223372036854775808 ≤ z ∧ z ≤ 9223372036854775807) : (lI z).toInt = z := Int64.toInt_ofInt_of_le (by omega) (by omega)
theorem lI_of (x : Int64) : ∃ z : Int, (-9223372036854775808 ≤ z ∧ z ≤ 9223372036854775807) ∧ x = lI z := ⟨x.toInt, ⟨by have := x.le_toInt; omega, by have := x.toInt_lt; omega⟩, (Int64.ofInt_toInt x).symm⟩
theorem lI_lt {a b : Int} (ha : -9223372036854775808 ≤ a ∧ a ≤ 9223372036854775807) (hb : -9223372036854775808 ≤ b ∧ b ≤ 9223372036854775807) : lI a < lI b ↔ a < b := by rw [Int64.lt_iff_toInt_lt, lI_toInt ha, lI_toInt hb]
theorem lI_eq {a b : Int} (ha : -9223372036854775808 ≤ a ∧ a ≤ 9223372036854775807) (hb : -9223372036854775808 ≤ b ∧ b ≤ 9223372036854775807) : lI a = lI b ↔ a = b := ⟨fun h => by rw [← lI_toInt ha, ← lI_toInt hb, h], fun h => by rw [h]⟩
theorem lI_ne0 {b : Int} (h : b ≠ 0) (hb : -9223372036854775808 ≤ b ∧ b ≤ 9223372036854775807) : ¬ lI b = 0 := fun e => h ((lI_eq hb (b := 0) (by omega)).mp e)
theorem i2l_iI {z : Int} (h : -2147483648 ≤ z ∧ z ≤ 2147483647) : (iI z).toInt64 = lI z := by
  rw [← Int64.ofInt_toInt ((iI z).toInt64), Int32.toInt_toInt64, iI_toInt h]
  rfl
theorem lI_rem2 {a b : Int} (ha : -9223372036854775808 ≤ a ∧ a ≤ 9223372036854775807) (hb : -9223372036854775808 ≤ b ∧ b ≤ 9223372036854775807) : lI a - lI a / lI b * lI b = lI a % lI b := by
  have h1 : lI a / lI b = lI (a.tdiv b) := by
    apply Int64.toInt_inj.mp
    rw [Int64.toInt_div, lI_toInt ha, lI_toInt hb]
    exact (Int64.toInt_ofInt).symm
  have h2 : lI a % lI b = lI (a.tmod b) := by
    rw [← Int64.ofInt_toInt (lI a % lI b), Int64.toInt_mod, lI_toInt ha, lI_toInt hb]
    rfl
  rw [h1, h2]
  have h3 : lI (a.tdiv b) * lI b = lI (a.tdiv b * b) := (Int64.ofInt_mul _ _).symm
  have h4 : lI a - lI (a.tdiv b * b) = lI (a - a.tdiv b * b) := (Int64.ofInt_sub _ _).symm
  rw [h3, h4]
  congr 1
  have := Int.tmod_add_tdiv_mul a b
  omega
theorem narrow_z {z : Int} (h : z = 0 ∨ z = 1) : narrow .boolean (.int (iI z)) = .int (iI z) := by
  rcases h with rfl | rfl <;> rfl
theorem iI_xor {x y : Int} (hx : 0 ≤ x ∧ x ≤ 2147483647) (hy : 0 ≤ y ∧ y ≤ 2147483647) : ¬ iI x ^^^ iI y < 0 := by
  have h0 : ∀ z : Int, 0 ≤ z ∧ z ≤ 2147483647 → (iI z).toBitVec.msb = false := fun z hz => by
    cases h : (iI z).toBitVec.msb with
    | false => rfl
    | true =>
      have h1 : (iI z).toInt < 0 := by
        show (iI z).toBitVec.toInt < 0
        rw [BitVec.toInt_neg_iff]
        rw [BitVec.msb_eq_decide] at h
        have := of_decide_eq_true h
        omega
      rw [iI_toInt (by omega)] at h1
      omega
  intro h
  rw [Int32.lt_iff_toInt_lt] at h
  have h2 : (iI x ^^^ iI y).toBitVec.msb = true := by
    rw [BitVec.msb_eq_decide]
    have h3 : (iI x ^^^ iI y).toBitVec.toInt < 0 := h
    rw [BitVec.toInt_neg_iff] at h3
    exact decide_eq_true (by omega)
  rw [Int32.toBitVec_xor, BitVec.msb_xor, h0 x hx, h0 y hy] at h2
  cases h2
theorem iI_shr0 (z : Int) : iI z >>> iI 0 = iI z := by
  have h : ∀ x : Int32, x >>> (0 : Int32) = x := fun x => by simp
  exact h (iI z)
section GL
variable {p : Program} {l : Launch} {e : Env} {R : Room} {s : State} {m : MethodId} {args : Array Value} {below : List Frame} {meth : Method} {c : Code} {H : Heap} {locs : List Loc} {cells slots : Nat} {Q : State → Prop} {G : gG}
theorem g_topol {pc : Nat} {ls : Array Slot} {rest : List Value} {x : Int64} (k : ∀ z : Int, (-9223372036854775808 ≤ z ∧ z ≤ 9223372036854775807) → W p l e R s m args below meth c H locs cells slots Q (F0 m pc ls (.long (lI z) :: rest))) : W p l e R s m args below meth c H locs cells slots Q (F0 m pc ls (.long x :: rest)) := by
  obtain ⟨z, hz, rfl⟩ := lI_of x
  exact k z hz
theorem g_topoi {pc : Nat} {ls : Array Slot} {rest : List Value} {x : Int32} (k : ∀ z : Int, (-2147483648 ≤ z ∧ z ≤ 2147483647) → W p l e R s m args below meth c H locs cells slots Q (F0 m pc ls (.int (iI z) :: rest))) : W p l e R s m args below meth c H locs cells slots Q (F0 m pc ls (.int x :: rest)) := by
  obtain ⟨z, hz, rfl⟩ := iI_of x
  exact k z hz
theorem g_lcmpo {pc : Nat} {ls : Array Slot} {rest : List Value} {a b : Int} (ha : -9223372036854775808 ≤ a ∧ a ≤ 9223372036854775807) (hb : -9223372036854775808 ≤ b ∧ b ≤ 9223372036854775807) (k : ∀ z : Int, ((z = -1 ∧ a < b) ∨ (z = 0 ∧ a = b) ∨ (z = 1 ∧ b < a)) → W p l e R s m args below meth c H locs cells slots Q (F0 m pc ls (.int (iI z) :: rest))) : W p l e R s m args below meth c H locs cells slots Q (F0 m pc ls (.int (lg_cmp (lI a) (lI b)) :: rest)) := by
  unfold lg_cmp
  by_cases h1 : b < a
  · rw [if_pos ((lI_lt hb ha).mpr h1)]
    exact k 1 (by omega)
  · rw [if_neg (fun q => h1 ((lI_lt hb ha).mp q))]
    by_cases h2 : a = b
    · rw [if_pos ((lI_eq ha hb).mpr h2)]
      exact k 0 (by omega)
    · rw [if_neg (fun q => h2 ((lI_eq ha hb).mp q))]
      exact k (-1) (by omega)
theorem g_lremo {pc : Nat} {ls : Array Slot} {rest : List Value} {a b : Int} (ha : -9223372036854775808 ≤ a ∧ a ≤ 9223372036854775807) (hb : -9223372036854775808 ≤ b ∧ b ≤ 9223372036854775807) (h0 : b ≠ 0) (k : ∀ z : Int, (-9223372036854775808 ≤ z ∧ z ≤ 9223372036854775807) → (b ≤ 0 ∨ (-b < z ∧ z < b)) → (0 ≤ b ∨ (b < z ∧ z < -b)) → W p l e R s m args below meth c H locs cells slots Q (F0 m pc ls (.long (lI z) :: rest))) : W p l e R s m args below meth c H locs cells slots Q (F0 m pc ls (.long (lI a - lI a / lI b * lI b) :: rest)) := by
  rw [lI_rem2 ha hb]
  obtain ⟨z, hz, e⟩ := lI_of (lI a % lI b)
  have h1 : z = a.tmod b := by rw [← lI_toInt hz, ← e, Int64.toInt_mod, lI_toInt ha, lI_toInt hb]
  have h2 : z.natAbs < b.natAbs := by
    rw [h1, Int.natAbs_tmod]
    exact Nat.mod_lt _ (by omega)
  rw [e]
  exact k z hz (by omega) (by omega)
theorem g_ifmaxl {pc : Nat} {ls : Array Slot} {rest : List Value} {a b : Int} (ha : -9223372036854775808 ≤ a ∧ a ≤ 9223372036854775807) (hb : -9223372036854775808 ≤ b ∧ b ≤ 9223372036854775807) (kk : ∀ r : Int, a ≤ r → b ≤ r → (r = a ∨ r = b) → W p l e R s m args below meth c H locs cells slots Q (F0 m pc ls (.long (lI r) :: rest))) : W p l e R s m args below meth c H locs cells slots Q (F0 m pc ls (.long (if lI b < lI a then lI a else lI b) :: rest)) := by
  by_cases h : b < a
  · rw [if_pos ((lI_lt hb ha).mpr h)]
    exact kk a (by omega) (by omega) (Or.inl rfl)
  · rw [if_neg (fun q => h ((lI_lt hb ha).mp q))]
    exact kk b (by omega) (by omega) (Or.inr rfl)
theorem g_ildo {cc : ByteArray} {ws : va_W} {a pc n : Nat} {F : Nat → Int} {z : Int} {ls : Array Slot} {rest : List Value} (hx : p.tables.exec = Jvm.exec) (hb : c.code = cc) (hK : va_K G.1 vwCl (gt G) s) (hP : va_P G.1 vwCl ws H) (q0 : Nat) (ha : ws[q0]? = some (a, .inl (G.2 0, n, .inl (cI F)))) (h0 : 0 ≤ z) (h1 : z < n) (hn : n ≤ 2147483647) (hdg : decode cc pc = .ok (.iaload, 1)) (kk : ∀ v : Int, (-2147483648 ≤ v ∧ v ≤ 2147483647) → W p l e R s m args below meth c H locs cells slots Q (F0 m (pc + 1) ls (.int (iI v) :: rest))) : W p l e R s m args below meth c H locs cells slots Q (F0 m pc ls (.int (iI z) :: .ref a :: rest)) := by
  refine va_iald hx hb hK hP q0 0 ha rfl (vp_iI h0 h1 hn) hdg ?_
  exact g_topoi kk
theorem g_bldo {cc : ByteArray} {ws : va_W} {a pc n : Nat} {f : Nat → Int32} {z : Int} {ls : Array Slot} {rest : List Value} (hx : p.tables.exec = Jvm.exec) (hb : c.code = cc) (hK : va_K G.1 vwCl (gt G) s) (hP : va_P G.1 vwCl ws H) (q0 : Nat) (ha : ws[q0]? = some (a, .inl (G.2 1, n, .inl f))) (h0 : 0 ≤ z) (h1 : z < n) (hn : n ≤ 2147483647) (hdg : decode cc pc = .ok (.baload, 1)) (kk : ∀ v : Int, (-2147483648 ≤ v ∧ v ≤ 2147483647) → f z.toNat = iI v → W p l e R s m args below meth c H locs cells slots Q (F0 m (pc + 1) ls (.int (iI v) :: rest))) : W p l e R s m args below meth c H locs cells slots Q (F0 m pc ls (.int (iI z) :: .ref a :: rest)) := by
  refine va_zald hx hb hK hP q0 1 ha rfl (vp_iI h0 h1 hn) hdg ?_
  rw [iI_cl h0 (by omega)]
  exact g_topo (fun z hz e => kk z hz e)
theorem g_bst {cc : ByteArray} {ws : va_W} {A : Nat → Prop} {H0 : Heap} {a pc n : Nat} {f : Nat → Int32} {z v : Int} {ls : Array Slot} {rest : List Value} (hx : p.tables.exec = Jvm.exec) (hb : c.code = cc) (hK : va_K G.1 vwCl (gt G) s) (hP : va_P G.1 vwCl ws H) (hD : va_D A ws) (hS : va_S A H0 H locs) (q0 : Nat) (ha : ws[q0]? = some (a, .inl (G.2 1, n, .inl f))) (h0 : 0 ≤ z) (h1 : z < n) (hn : n ≤ 2147483647) (hdg : decode cc pc = .ok (.bastore, 1)) (kk : ∀ (H1 : Heap) (locs1 : List Loc), va_P G.1 vwCl (ws.set q0 (a, .inl (G.2 1, n, .inl (upd f z.toNat (vp_nar .boolean (iI v)))))) H1 → va_D A (ws.set q0 (a, .inl (G.2 1, n, .inl (upd f z.toNat (vp_nar .boolean (iI v)))))) → va_S A H0 H1 locs1 → W p l e R s m args below meth c H1 locs1 cells slots Q (F0 m (pc + 1) ls rest)) : W p l e R s m args below meth c H locs cells slots Q (F0 m pc ls (.int (iI v) :: .int (iI z) :: .ref a :: rest)) := by
  refine va_zast hx hb hK hP hD hS q0 1 ha rfl (vp_iI h0 h1 hn) hdg (fun H1 locs1 h2 h3 h4 => ?_)
  rw [iI_cl h0 (by omega)] at h2 h3
  exact kk H1 locs1 h2 h3 h4
theorem g_xret {cc : ByteArray} {post : Int32 → va_W → Prop} {A : Nat → Prop} {ws : va_W} {v : Int32} {pc : Nat} {ls : Array Slot} {ty : FieldType} (hx : p.tables.exec = Jvm.exec) (hb : c.code = cc) (hr : meth.sig.returnType = some ty) (hlocks : meth.locks = false) (hn : narrow ty (.int v) = .int v) (hP : va_P G.1 vwCl ws H) (hD : va_D A ws) (hS : va_S A s.heap H locs) (hq : post v ws) (hdg : decode cc pc = .ok (.ireturn, 1)) : W p l e R s m args below meth c H locs cells slots (MQ below (va_Qi post (gPost G A) A) args s cells slots A) (F0 m pc ls [.int v]) :=
  W.zret (v := v) hx hb hr hn (fun t ht hW => ⟨⟨v, ws, rfl, hq, by rw [ht]; exact hP, hD⟩, hS.F ht⟩) hS.2.2 hdg
end GL
/-- the letters of the constants -/
def zC (i : Nat) (k : Int) : Int := ((zByt.getD i []).getD k.toNat 0).toInt
theorem zC_eq (i : Nat) (k : Int) : (zByt.getD i []).getD k.toNat 0 = iI (zC i k) := (Int32.ofInt_toInt _).symm
theorem zLen_le {i : Nat} (h : i < 7) : 3 ≤ zLen.getD i 0 ∧ zLen.getD i 0 ≤ 6 := by
  have h1 : ∀ j : Fin 7, 3 ≤ zLen.getD j.val 0 ∧ zLen.getD j.val 0 ≤ 6 := by decide
  exact h1 ⟨i, h⟩
theorem zByt_ch : ∀ i : Fin 7, ∀ k : Fin 6, (((zByt.getD i.val []).getD k.val 0 &&& 255).toUInt32 % 65536).toInt32 = (zByt.getD i.val []).getD k.val 0 ∧ narrow .char (.int ((zByt.getD i.val []).getD k.val 0)) = .int ((zByt.getD i.val []).getD k.val 0) ∧ 0 ≤ ((zByt.getD i.val []).getD k.val 0).toInt ∧ ((zByt.getD i.val []).getD k.val 0).toInt ≤ 127 := by decide +kernel
theorem zC_ch {i : Nat} {k : Int} (hi : i < 7) (h0 : 0 ≤ k) (h1 : k < (zLen.getD i 0 : Nat)) : ((iI (zC i k) &&& 255).toUInt32 % 65536).toInt32 = iI (zC i k) ∧ narrow .char (.int (iI (zC i k))) = .int (iI (zC i k)) ∧ 0 ≤ zC i k ∧ zC i k ≤ 127 := by
  have h2 := (zLen_le hi).2
  rw [← zC_eq]
  exact zByt_ch ⟨i, hi⟩ ⟨k.toNat, by omega⟩
