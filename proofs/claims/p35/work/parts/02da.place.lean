def bp (h : Nat → Int) (F : Nat → Int) : Prop := ∀ z : Nat, 0 ≤ F z ∧ F z ≤ h z
/-- how much may stand at a place of the reference's row: counts, TOFFEE, LEFT ones; K elsewhere -/
def plA (K : Int) (z : Nat) : Int := if z = 0 then 7 else if z = 1 then 4 else if z = 2 then 5 else if z ≤ 4 then 6 else if z = 5 then 8 else if z ≤ 12 then 30 else if 56 ≤ z ∧ z ≤ 80 then 99 else if 135 ≤ z ∧ (z - 135) % 22 < 7 then 30 else K
def plB (K : Int) (z : Nat) : Int := plA K (z % 311)
theorem bp_u {h F : Nat → Int} {k : Nat} {v : Int} (hF : bp h F) (h1 : 0 ≤ v) (h2 : v ≤ h k) : bp h (uI F k v) := fun j => by
  unfold uI
  split
  · next e => subst e; exact ⟨h1, h2⟩
  · exact hF j
theorem ite_le {c : Prop} [Decidable c] {a b a2 b2 : Int} (h1 : a ≤ a2) (h2 : b ≤ b2) : (if c then a else b) ≤ (if c then a2 else b2) := by
  split <;> assumption
theorem ite_lt {c : Prop} [Decidable c] {a b k : Int} (h1 : a ≤ k) (h2 : b ≤ k) : (if c then a else b) ≤ k := by
  split <;> assumption
theorem ite_gt {c : Prop} [Decidable c] {a b k : Int} (h1 : k ≤ a) (h2 : k ≤ b) : k ≤ (if c then a else b) := by
  split <;> assumption
theorem plA_le {K : Int} (hK : 99 ≤ K) (z : Nat) : plA K z ≤ K := ite_lt (by omega) (ite_lt (by omega) (ite_lt (by omega) (ite_lt (by omega) (ite_lt (by omega) (ite_lt (by omega) (ite_lt (by omega) (ite_lt (by omega) (by omega))))))))
theorem plA_nn {K : Int} (hK : 0 ≤ K) (z : Nat) : 0 ≤ plA K z := ite_gt (by omega) (ite_gt (by omega) (ite_gt (by omega) (ite_gt (by omega) (ite_gt (by omega) (ite_gt (by omega) (ite_gt (by omega) (ite_gt (by omega) (by omega))))))))
theorem plA_mono {K K2 : Int} (h : K ≤ K2) (z : Nat) : plA K z ≤ plA K2 z := ite_le (Int.le_refl _) (ite_le (Int.le_refl _) (ite_le (Int.le_refl _) (ite_le (Int.le_refl _) (ite_le (Int.le_refl _) (ite_le (Int.le_refl _) (ite_le (Int.le_refl _) (ite_le (Int.le_refl _) h)))))))
theorem plA_eqT {K : Int} {z : Nat} (h1 : 6 ≤ z) (h2 : z ≤ 12) : plA K z = 30 := by
  unfold plA
  rw [if_neg (by omega), if_neg (by omega), if_neg (by omega), if_neg (by omega), if_neg (by omega), if_pos h2]
theorem plA_eqK {K : Int} {z : Nat} (h1 : 13 ≤ z) (h2 : z ≤ 55) : plA K z = K := by
  unfold plA
  rw [if_neg (by omega), if_neg (by omega), if_neg (by omega), if_neg (by omega), if_neg (by omega), if_neg (by omega), if_neg (by omega), if_neg (by omega)]
theorem plA_eqL {K : Int} {z : Nat} (h1 : 56 ≤ z) (h2 : z ≤ 80) : plA K z = 99 := by
  unfold plA
  rw [if_neg (by omega), if_neg (by omega), if_neg (by omega), if_neg (by omega), if_neg (by omega), if_neg (by omega), if_pos ⟨h1, h2⟩]
theorem plA_eqN {K : Int} {z : Nat} (h1 : 81 ≤ z) (h2 : z ≤ 134) : plA K z = K := by
  unfold plA
  rw [if_neg (by omega), if_neg (by omega), if_neg (by omega), if_neg (by omega), if_neg (by omega), if_neg (by omega), if_neg (by omega), if_neg (by omega)]
theorem plA_eq1 {K : Int} {z : Nat} (h1 : 135 ≤ z) (h2 : (z - 135) % 22 < 7) : plA K z = 30 := by
  unfold plA
  rw [if_neg (by omega), if_neg (by omega), if_neg (by omega), if_neg (by omega), if_neg (by omega), if_neg (by omega), if_neg (by omega), if_pos ⟨h1, h2⟩]
theorem plA_eq2 {K : Int} {z : Nat} (h1 : 135 ≤ z) (h2 : ¬ (z - 135) % 22 < 7) : plA K z = K := by
  unfold plA
  rw [if_neg (by omega), if_neg (by omega), if_neg (by omega), if_neg (by omega), if_neg (by omega), if_neg (by omega), if_neg (by omega), if_neg (fun h => h2 h.2)]
theorem bpA_mono {K K2 : Int} {F : Nat → Int} (h : bp (plA K) F) (hk : K ≤ K2) : bp (plA K2) F := fun z => ⟨(h z).1, Int.le_trans (h z).2 (plA_mono hk z)⟩
theorem bpB_mono {K K2 : Int} {F : Nat → Int} (h : bp (plB K) F) (hk : K ≤ K2) : bp (plB K2) F := fun z => ⟨(h z).1, Int.le_trans (h z).2 (plA_mono hk _)⟩
theorem bp_z {h : Nat → Int} (hh : ∀ z : Nat, 0 ≤ h z) : bp h (fun _ => 0) := fun z => ⟨Int.le_refl 0, hh z⟩
theorem plAu_T {K : Int} {z : Nat} (h1 : 6 ≤ z) (h2 : z ≤ 12) : plA K z ≤ 30 := Int.le_of_eq (plA_eqT h1 h2)
theorem plAl_T {K : Int} {z : Nat} (h1 : 6 ≤ z) (h2 : z ≤ 12) : 30 ≤ plA K z := Int.le_of_eq (plA_eqT h1 h2).symm
theorem plAu_L {K : Int} {z : Nat} (h1 : 56 ≤ z) (h2 : z ≤ 80) : plA K z ≤ 99 := Int.le_of_eq (plA_eqL h1 h2)
theorem plAl_L {K : Int} {z : Nat} (hK : 99 ≤ K) (h1 : 56 ≤ z) (h2 : z ≤ 134) : 99 ≤ plA K z := by
  rcases Nat.lt_or_ge z 81 with h | h
  · rw [plA_eqL h1 (by omega)]
    omega
  · rw [plA_eqN h h2]
    exact hK
theorem plAl_K {K : Int} {z : Nat} (h1 : 13 ≤ z) (h2 : z ≤ 55) : K ≤ plA K z := Int.le_of_eq (plA_eqK h1 h2).symm
theorem plAl_N {K : Int} {z : Nat} (h1 : 81 ≤ z) (h2 : z ≤ 134) : K ≤ plA K z := Int.le_of_eq (plA_eqN h1 h2).symm
theorem plA_svE {K k u : Int} (h0 : 0 ≤ k) (h1 : k < 22) (h2 : 0 ≤ u) (h3 : u ≤ 7) : plA K (6 + k).toNat = plA K ((135 + (22 * u)) + k).toNat := by
  rcases (show k < 7 ∨ 7 ≤ k by omega) with h | h
  · rw [plA_eqT (by omega) (by omega), plA_eq1 (by omega) (by omega)]
  · rw [plA_eqK (by omega) (by omega), plA_eq2 (by omega) (by omega)]
theorem plA_sv {K k u : Int} (h0 : 0 ≤ k) (h1 : k < 22) (h2 : 0 ≤ u) (h3 : u ≤ 7) : plA K (6 + k).toNat ≤ plA K ((135 + (22 * u)) + k).toNat := Int.le_of_eq (plA_svE h0 h1 h2 h3)
theorem plA_un {K k u : Int} (h0 : 0 ≤ k) (h1 : k < 22) (h2 : 0 ≤ u) (h3 : u ≤ 7) : plA K ((135 + (22 * u)) + k).toNat ≤ plA K (6 + k).toNat := Int.le_of_eq (plA_svE h0 h1 h2 h3).symm
theorem plA_sh {K k : Int} (h0 : 0 ≤ k) (h1 : k < 154) : plA K (157 + k).toNat ≤ plA K (135 + k).toNat := by
  by_cases h : ((157 + k).toNat - 135) % 22 < 7
  · rw [plA_eq1 (by omega) h, plA_eq1 (by omega) (by omega)]
    exact Int.le_refl _
  · rw [plA_eq2 (by omega) h, plA_eq2 (by omega) (by omega)]
    exact Int.le_refl _
theorem plB_0 {K k : Int} (h0 : 0 ≤ k) (h1 : k < 311) : plB K (0 + k).toNat = plA K k.toNat := by
  unfold plB
  congr 1
  omega
theorem plB_1 {K k : Int} (h0 : 0 ≤ k) (h1 : k < 311) : plB K (311 + k).toNat = plA K k.toNat := by
  unfold plB
  congr 1
  omega
theorem tl_bp {i K : Int} {E : Nat → Int} (hK : 99 ≤ K) (h : bp (plA K) E) : tl i K E := fun j _ => Int.le_trans (h j).2 (plA_le hK j)
theorem tl_cast {i j K : Int} {E : Nat → Int} (h : tl i K E) (e : i = j) : tl j K E := e ▸ h
def eqB (i : Int) (F E : Nat → Int) : Prop := ∀ j : Nat, (j : Int) < i → E j = F j
theorem eqB_0 (F E : Nat → Int) : eqB 0 F E := fun j h => absurd h (by omega)
theorem eqB_u {i v : Int} {F E : Nat → Int} (h : eqB i F E) (hv : F i.toNat = v) (h0 : 0 ≤ i) : eqB (i + 1) F (uI E i.toNat v) := fun j hj => by
  unfold uI
  split
  · next e => subst e; exact hv.symm
  · exact h j (by omega)
theorem va_D.setc {A : Nat → Prop} {ws : va_W} {a : Nat} {e0 : va_E} (hD : va_D A ws) (q : Nat) (h0 : ws[q]? = some (a, e0)) (e : va_E) : va_D A (ws.set q (a, e)) := hD.set h0
theorem q_div {a b : Int} (h : 0 ≤ a) (hb : 0 < b) : 0 ≤ a / b ∧ a / b ≤ a := ⟨Int.ediv_nonneg h (by omega), Int.ediv_le_self b h⟩
theorem q_mod {a b : Int} (hb : 0 < b) : 0 ≤ a % b ∧ a % b < b := ⟨Int.emod_nonneg a (by omega), Int.emod_lt_of_pos a hb⟩
