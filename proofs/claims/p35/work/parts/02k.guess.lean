def orI (x y : Int) : Int := (iI x ||| iI y).toInt
theorem orI_eq (x y : Int) : iI x ||| iI y = iI (orI x y) := (Int32.ofInt_toInt _).symm
theorem orI_r (x y : Int) : -2147483648 ≤ orI x y ∧ orI x y ≤ 2147483647 := ⟨by have := (iI x ||| iI y).le_toInt; unfold orI; omega, by have := (iI x ||| iI y).toInt_lt; unfold orI; omega⟩
def slI (x y : Int) : Int := (iI x <<< (iI y &&& 31)).toInt
theorem slI_eq (x y : Int) : iI x <<< (iI y &&& 31) = iI (slI x y) := (Int32.ofInt_toInt _).symm
theorem slI_r (x y : Int) : -2147483648 ≤ slI x y ∧ slI x y ≤ 2147483647 := ⟨by have := (iI x <<< (iI y &&& 31)).le_toInt; unfold slI; omega, by have := (iI x <<< (iI y &&& 31)).toInt_lt; unfold slI; omega⟩
def srI (x y : Int) : Int := (iI x >>> (iI y &&& 31)).toInt
theorem srI_eq (x y : Int) : iI x >>> (iI y &&& 31) = iI (srI x y) := (Int32.ofInt_toInt _).symm
theorem srI_r (x y : Int) : -2147483648 ≤ srI x y ∧ srI x y ≤ 2147483647 := ⟨by have := (iI x >>> (iI y &&& 31)).le_toInt; unfold srI; omega, by have := (iI x >>> (iI y &&& 31)).toInt_lt; unfold srI; omega⟩
def anI (x y : Int) : Int := (iI x &&& iI y).toInt
theorem anI_eq (x y : Int) : iI x &&& iI y = iI (anI x y) := (Int32.ofInt_toInt _).symm
theorem anI_r (x y : Int) : -2147483648 ≤ anI x y ∧ anI x y ≤ 2147483647 := ⟨by have := (iI x &&& iI y).le_toInt; unfold anI; omega, by have := (iI x &&& iI y).toInt_lt; unfold anI; omega⟩
theorem orI_0 {x : Int} (h : -2147483648 ≤ x ∧ x ≤ 2147483647) : orI x 0 = x := by
  unfold orI
  rw [show iI x ||| iI 0 = iI x from Int32.or_zero]
  exact iI_toInt h
noncomputable def kbS (P : Int → Prop) : Nat → Int
  | 0 => 0
  | n + 1 => @ite Int (P (n : Int)) (Classical.propDecidable _) (orI (kbS P n) (slI 1 (n : Int))) (kbS P n)
theorem kbS_sy {P : Int → Prop} {b k : Int} (e : b = kbS P k.toNat) (h0 : 0 ≤ k) (h : P k) : orI b (slI 1 k) = kbS P (k + 1).toNat := by
  rw [show (k + 1).toNat = k.toNat + 1 by omega]
  unfold kbS
  rw [show ((k.toNat : Nat) : Int) = k by omega, if_pos h, e]
theorem kbS_sn {P : Int → Prop} {b k : Int} (e : b = kbS P k.toNat) (h0 : 0 ≤ k) (h : ¬ P k) : b = kbS P (k + 1).toNat := by
  rw [show (k + 1).toNat = k.toNat + 1 by omega]
  unfold kbS
  rw [show ((k.toNat : Nat) : Int) = k by omega, if_neg h, e]
theorem kbS_at {P : Int → Prop} {b k : Int} (e : b = kbS P k.toNat) (h : k = 6) : b = kbS P 6 := by
  subst h
  exact e
theorem kbS_c {P Q : Int → Prop} (h : ∀ k : Int, P k ↔ Q k) (n : Nat) : kbS P n = kbS Q n := by
  rw [show P = Q from funext (fun k => propext (h k))]
def fnC (F : Nat → Int) (n p k : Int) : Prop := ∀ r : Int, 0 ≤ r → r < n → F (r * 5 + 0).toNat = p → mHard k (F (r * 5 + 1).toNat) (F (r * 5 + 2).toNat) (F (r * 5 + 3).toNat) = F (r * 5 + 4).toNat
def fnR (f : Nat → Int) (n p k : Int) : Prop := ∀ r : Int, 0 ≤ r → r < n → f (81 + 5 * r).toNat = p → mHard k (f (81 + 5 * r + 1).toNat) (f (81 + 5 * r + 2).toNat) (f (81 + 5 * r + 3).toNat) = f (81 + 5 * r + 4).toNat
theorem fnC_0 (F : Nat → Int) (p k : Int) : fnC F 0 p k := fun r a b => absurd a (by omega)
theorem fnC_s {F : Nat → Int} {i p k : Int} (h : fnC F i p k) (h1 : F (i * 5 + 0).toNat = p → mHard k (F (i * 5 + 1).toNat) (F (i * 5 + 2).toNat) (F (i * 5 + 3).toNat) = F (i * 5 + 4).toNat) : fnC F (i + 1) p k := fun r a b => by
  by_cases c : r = i
  · subst c
    exact h1
  · exact h r a (by omega)
theorem fnC_at {F : Nat → Int} {i n p k : Int} (h : fnC F i p k) (e : i = n) : fnC F n p k := e ▸ h
theorem fnC_x {F : Nat → Int} {i n p k : Int} (h0 : 0 ≤ i) (h1 : i < n) (h2 : F (i * 5 + 0).toNat = p) (h3 : ¬ (mHard k (F (i * 5 + 1).toNat) (F (i * 5 + 2).toNat) (F (i * 5 + 3).toNat) = F (i * 5 + 4).toNat)) : ¬ fnC F n p k := fun q => h3 (q i h0 h1 h2)
/-- so far: o tells it -/
def fnT (f : Nat → Int) (p k o i : Int) : Prop := (o = 1 ∧ fnR f i p k) ∨ (o = 0 ∧ ¬ fnR f (f 3) p k)
theorem fnT_0 (f : Nat → Int) (p k : Int) : fnT f p k 1 0 := Or.inl ⟨rfl, fun r a b => absurd a (by omega)⟩
theorem fnT_s {f : Nat → Int} {p k o o2 i a : Int} (h : fnT f p k o i) (h0 : 0 ≤ i) (h1 : i < f 3) (ea : a = 81 + 5 * i) (hj : (o = 1 ∧ (¬ (f a.toNat = p) ∨ mHard k (f (a + 1).toNat) (f (a + 2).toNat) (f (a + 3).toNat) = f (a + 4).toNat) ∧ o2 = 1) ∨ (¬ (o = 1 ∧ (¬ (f a.toNat = p) ∨ mHard k (f (a + 1).toNat) (f (a + 2).toNat) (f (a + 3).toNat) = f (a + 4).toNat)) ∧ o2 = 0)) : fnT f p k o2 (i + 1) := by
  subst ea
  rcases h with ⟨e, h⟩ | ⟨e, h⟩
  · rcases hj with ⟨_, c, e2⟩ | ⟨c, e2⟩
    · refine Or.inl ⟨e2, fun r a b => ?_⟩
      by_cases q : r = i
      · subst q
        intro w
        rcases c with c | c
        · exact absurd w c
        · exact c
      · exact h r a (by omega)
    · exact Or.inr ⟨e2, fun q => c ⟨e, by
        by_cases w : f (81 + 5 * i).toNat = p
        · exact Or.inr (q i h0 h1 w)
        · exact Or.inl w⟩⟩
  · rcases hj with ⟨c, _⟩ | ⟨c, e2⟩
    · exact absurd c (by omega)
    · exact Or.inr ⟨e2, h⟩
theorem kbS_fn {f : Nat → Int} {p k o i s t : Int} (e : s = kbS (fnR f (f 3) p) k.toNat) (h0 : 0 ≤ k) (hs : -2147483648 ≤ s ∧ s ≤ 2147483647) (hT : fnT f p k o i) (hi : i = f 3) (hj : (o = 0 ∧ t = 0) ∨ (¬ (o = 0) ∧ t = slI 1 k)) : orI s t = kbS (fnR f (f 3) p) (k + 1).toNat := by
  subst hi
  rcases hT with ⟨e1, h⟩ | ⟨e1, h⟩
  · rcases hj with ⟨c, _⟩ | ⟨c, rfl⟩
    · exact absurd c (by omega)
    · exact kbS_sy e h0 h
  · rcases hj with ⟨_, rfl⟩ | ⟨c, _⟩
    · rw [orI_0 hs]
      exact kbS_sn e h0 h
    · exact absurd e1 c
def fmC (F : Nat → Int) (n p k : Int) : Prop := ∀ r : Int, 0 ≤ r → r < n → F (r * 5 + 0).toNat = p → mTake k (F (r * 5 + 1).toNat) (F (r * 5 + 2).toNat) = F (r * 5 + 3).toNat
def fmR (f : Nat → Int) (n p k : Int) : Prop := ∀ r : Int, 0 ≤ r → r < n → f (111 + 4 * r).toNat = p → mTake k (f (111 + 4 * r + 1).toNat) (f (111 + 4 * r + 2).toNat) = f (111 + 4 * r + 3).toNat
theorem fmC_0 (F : Nat → Int) (p k : Int) : fmC F 0 p k := fun r a b => absurd a (by omega)
theorem fmC_s {F : Nat → Int} {i p k : Int} (h : fmC F i p k) (h1 : F (i * 5 + 0).toNat = p → mTake k (F (i * 5 + 1).toNat) (F (i * 5 + 2).toNat) = F (i * 5 + 3).toNat) : fmC F (i + 1) p k := fun r a b => by
  by_cases c : r = i
  · subst c
    exact h1
  · exact h r a (by omega)
theorem fmC_at {F : Nat → Int} {i n p k : Int} (h : fmC F i p k) (e : i = n) : fmC F n p k := e ▸ h
theorem fmC_x {F : Nat → Int} {i n p k : Int} (h0 : 0 ≤ i) (h1 : i < n) (h2 : F (i * 5 + 0).toNat = p) (h3 : ¬ (mTake k (F (i * 5 + 1).toNat) (F (i * 5 + 2).toNat) = F (i * 5 + 3).toNat)) : ¬ fmC F n p k := fun q => h3 (q i h0 h1 h2)
/-- so far: o tells it -/
def fmT (f : Nat → Int) (p k o i : Int) : Prop := (o = 1 ∧ fmR f i p k) ∨ (o = 0 ∧ ¬ fmR f (f 4) p k)
theorem fmT_0 (f : Nat → Int) (p k : Int) : fmT f p k 1 0 := Or.inl ⟨rfl, fun r a b => absurd a (by omega)⟩
theorem fmT_s {f : Nat → Int} {p k o o2 i a : Int} (h : fmT f p k o i) (h0 : 0 ≤ i) (h1 : i < f 4) (ea : a = 111 + 4 * i) (hj : (o = 1 ∧ (¬ (f a.toNat = p) ∨ mTake k (f (a + 1).toNat) (f (a + 2).toNat) = f (a + 3).toNat) ∧ o2 = 1) ∨ (¬ (o = 1 ∧ (¬ (f a.toNat = p) ∨ mTake k (f (a + 1).toNat) (f (a + 2).toNat) = f (a + 3).toNat)) ∧ o2 = 0)) : fmT f p k o2 (i + 1) := by
  subst ea
  rcases h with ⟨e, h⟩ | ⟨e, h⟩
  · rcases hj with ⟨_, c, e2⟩ | ⟨c, e2⟩
    · refine Or.inl ⟨e2, fun r a b => ?_⟩
      by_cases q : r = i
      · subst q
        intro w
        rcases c with c | c
        · exact absurd w c
        · exact c
      · exact h r a (by omega)
    · exact Or.inr ⟨e2, fun q => c ⟨e, by
        by_cases w : f (111 + 4 * i).toNat = p
        · exact Or.inr (q i h0 h1 w)
        · exact Or.inl w⟩⟩
  · rcases hj with ⟨c, _⟩ | ⟨c, e2⟩
    · exact absurd c (by omega)
    · exact Or.inr ⟨e2, h⟩
theorem kbS_fm {f : Nat → Int} {p k o i s t : Int} (e : s = kbS (fmR f (f 4) p) k.toNat) (h0 : 0 ≤ k) (hs : -2147483648 ≤ s ∧ s ≤ 2147483647) (hT : fmT f p k o i) (hi : i = f 4) (hj : (o = 0 ∧ t = 0) ∨ (¬ (o = 0) ∧ t = slI 1 k)) : orI s t = kbS (fmR f (f 4) p) (k + 1).toNat := by
  subst hi
  rcases hT with ⟨e1, h⟩ | ⟨e1, h⟩
  · rcases hj with ⟨c, _⟩ | ⟨c, rfl⟩
    · exact absurd c (by omega)
    · exact kbS_sy e h0 h
  · rcases hj with ⟨_, rfl⟩ | ⟨c, _⟩
    · rw [orI_0 hs]
      exact kbS_sn e h0 h
    · exact absurd e1 c
theorem fn_iff {f F : Nat → Int} {n : Int} (h : cr n 81 F f) (p k : Int) : fnC F n p k ↔ fnR f n p k := by
  constructor
  · intro q r a b w
    have c0 := h r 0 a b (by omega) (by omega)
    have c1 := h r 1 a b (by omega) (by omega)
    have c2 := h r 2 a b (by omega) (by omega)
    have c3 := h r 3 a b (by omega) (by omega)
    have c4 := h r 4 a b (by omega) (by omega)
    rw [show 81 + 5 * r + 0 = 81 + 5 * r by omega] at c0
    rw [← c1, ← c2, ← c3, ← c4]
    exact q r a b (by rw [c0]; exact w)
  · intro q r a b w
    have c0 := h r 0 a b (by omega) (by omega)
    have c1 := h r 1 a b (by omega) (by omega)
    have c2 := h r 2 a b (by omega) (by omega)
    have c3 := h r 3 a b (by omega) (by omega)
    have c4 := h r 4 a b (by omega) (by omega)
    rw [show 81 + 5 * r + 0 = 81 + 5 * r by omega] at c0
    rw [c1, c2, c3, c4]
    exact q r a b (by rw [← c0]; exact w)
theorem fm_iff {f F : Nat → Int} {n : Int} (h : cm n F f) (p k : Int) : fmC F n p k ↔ fmR f n p k := by
  constructor
  · intro q r a b w
    have c0 := h r 0 a b (by omega) (by omega)
    have c1 := h r 1 a b (by omega) (by omega)
    have c2 := h r 2 a b (by omega) (by omega)
    have c3 := h r 3 a b (by omega) (by omega)
    rw [show 111 + 4 * r + 0 = 111 + 4 * r by omega] at c0
    rw [← c1, ← c2, ← c3]
    exact q r a b (by rw [c0]; exact w)
  · intro q r a b w
    have c0 := h r 0 a b (by omega) (by omega)
    have c1 := h r 1 a b (by omega) (by omega)
    have c2 := h r 2 a b (by omega) (by omega)
    have c3 := h r 3 a b (by omega) (by omega)
    rw [show 111 + 4 * r + 0 = 111 + 4 * r by omega] at c0
    rw [c1, c2, c3]
    exact q r a b (by rw [← c0]; exact w)
theorem fnR_kW {f F : Nat → Int} (h : kW f F) {n : Int} (hn : n ≤ 6) (p k : Int) : fnR F n p k ↔ fnR f n p k := by
  constructor
  · intro q r a b w
    have z := q r a b
    rw [h _ (by omega), h _ (by omega), h _ (by omega), h _ (by omega), h _ (by omega)] at z
    exact z w
  · intro q r a b w
    have z := q r a b
    rw [h _ (by omega)] at w
    rw [h _ (by omega), h _ (by omega), h _ (by omega), h _ (by omega)]
    exact z w
theorem fmR_kW {f F : Nat → Int} (h : kW f F) {n : Int} (hn : n ≤ 6) (p k : Int) : fmR F n p k ↔ fmR f n p k := by
  constructor
  · intro q r a b w
    have z := q r a b
    rw [h _ (by omega), h _ (by omega), h _ (by omega), h _ (by omega)] at z
    exact z w
  · intro q r a b w
    have z := q r a b
    rw [h _ (by omega)] at w
    rw [h _ (by omega), h _ (by omega), h _ (by omega)]
    exact z w
def al (b : Int) (A : Nat → Int) (k : Int) : Nat → Int
  | 0 => 0
  | n + 1 => al b A k n + (if anI (srI b k) 1 = 1 ∧ anI (srI b (n : Int)) 1 = 1 ∧ A k.toNat = A n then 1 else 0)
def ma (b : Int) (A : Nat → Int) : Nat → Int
  | 0 => 0
  | n + 1 => max (ma b A n) (al b A (n : Int) 6)
theorem al_sj {b k l t j : Int} {A : Nat → Int} (e : l = al b A k j.toNat) (h0 : 0 ≤ j) (hj : ((anI (srI b k) 1 = 1 ∧ anI (srI b j) 1 = 1 ∧ A k.toNat = A j.toNat) ∧ t = 1) ∨ (¬ (anI (srI b k) 1 = 1 ∧ anI (srI b j) 1 = 1 ∧ A k.toNat = A j.toNat) ∧ t = 0)) : l + t = al b A k (j + 1).toNat := by
  rw [show (j + 1).toNat = j.toNat + 1 by omega]
  unfold al
  rw [show ((j.toNat : Nat) : Int) = j by omega, ← e]
  rcases hj with ⟨c, rfl⟩ | ⟨c, rfl⟩
  · rw [if_pos c]
  · rw [if_neg c]
theorem al_s0 {b k l j : Int} {A : Nat → Int} (e : l = al b A k j.toNat) (h0 : 0 ≤ j) (h : ¬ (anI (srI b k) 1 = 1 ∧ anI (srI b j) 1 = 1 ∧ A k.toNat = A j.toNat)) : l = al b A k (j + 1).toNat := by
  have := al_sj e h0 (Or.inr ⟨h, rfl⟩)
  omega
theorem al_at {b k l j : Int} {A : Nat → Int} (e : l = al b A k j.toNat) (h : j = 6) : l = al b A k 6 := by
  subst h
  exact e
theorem al_z {b k : Int} {A : Nat → Int} (h : ¬ (anI (srI b k) 1 = 1)) : ∀ n : Nat, al b A k n = 0
  | 0 => rfl
  | n + 1 => by
    have e1 := al_z (A := A) h n
    unfold al
    rw [if_neg (fun q => h q.1)]
    omega
theorem al_no {b k l j : Int} {A : Nat → Int} (e : l = al b A k j.toNat) (h : ¬ (anI (srI b k) 1 = 1)) : l = al b A k 6 := by
  rw [e, al_z h, al_z h]
theorem ma_s {b m a k m2 : Int} {A : Nat → Int} (e : m = ma b A k.toNat) (h0 : 0 ≤ k) (ea : a = al b A k 6) (hm : m2 = max m a) : m2 = ma b A (k + 1).toNat := by
  rw [show (k + 1).toNat = k.toNat + 1 by omega]
  unfold ma
  rw [show ((k.toNat : Nat) : Int) = k by omega, ← e, ← ea]
  exact hm
theorem ma_at {b m k : Int} {A : Nat → Int} (e : m = ma b A k.toNat) (h : k = 6) : m = ma b A 6 := by
  subst h
  exact e
theorem al_c {b k : Int} {A D : Nat → Int} (hk : k.toNat < 6) (h : ∀ j : Nat, j < 6 → A j = D j) : ∀ n : Nat, n ≤ 6 → al b A k n = al b D k n
  | 0, _ => rfl
  | n + 1, hn => by
    unfold al
    rw [al_c hk h n (by omega), h _ hk, h n (by omega)]
theorem ma_c {b : Int} {A D : Nat → Int} (h : ∀ j : Nat, j < 6 → A j = D j) : ∀ n : Nat, n ≤ 6 → ma b A n = ma b D n
  | 0, _ => rfl
  | n + 1, hn => by
    unfold ma
    rw [ma_c h n (by omega), al_c (by omega) h 6 (by omega)]
/-- the first n KINDS of BITERS, TEETH tt, at what is h HARD -/
def aq (n : Int) (E : Nat → Int) (tt h : Int) : Prop := ∀ k : Int, 0 ≤ k → k < n → E k.toNat = mTake k tt h
theorem aq_0 (E : Nat → Int) (tt h : Int) : aq 0 E tt h := fun k a b => absurd a (by omega)
theorem aq_s {i tt h : Int} {E : Nat → Int} (q : aq i E tt h) (h0 : 0 ≤ i) : aq (i + 1) (uI E i.toNat (mTake i tt h)) tt h := fun k a b => by
  by_cases c : k = i
  · subst c
    rw [uI_eq]
  · rw [uI_ne (by omega)]
    exact q k a (by omega)
theorem aq_at {i n tt h : Int} {E : Nat → Int} (q : aq i E tt h) (e : i = n) : aq n E tt h := e ▸ q
def tq (tt h : Int) : Nat → Int := fun k => mTake (k : Int) tt h
theorem ma_q {b tt h : Int} {E : Nat → Int} (q : aq 6 E tt h) : ma b E 6 = ma b (tq tt h) 6 := ma_c (fun j hj => by
  have := q (j : Int) (by omega) (by omega)
  rw [show ((j : Int)).toNat = j by omega] at this
  exact this) 6 (by omega)
def af (b tt : Int) : Nat → Int × Int
  | 0 => (7, -1)
  | n + 1 => if ma b (tq tt (n : Int)) 6 < (af b tt n).1 then (ma b (tq tt (n : Int)) 6, (n : Int)) else af b tt n
def asT (b tt h f e : Int) : Prop := f = (af b tt h.toNat).1 ∧ e = (af b tt h.toNat).2
theorem asT_0 (b tt : Int) : asT b tt 0 7 (-1) := ⟨rfl, rfl⟩
theorem asT_s {b tt h f e f2 e2 : Int} {E : Nat → Int} (q : asT b tt h f e) (h0 : 0 ≤ h) (ha : aq 6 E tt h) (hj : (ma b E 6 < f ∧ f2 = ma b E 6 ∧ e2 = h) ∨ (¬ (ma b E 6 < f) ∧ f2 = f ∧ e2 = e)) : asT b tt (h + 1) f2 e2 := by
  rw [ma_q ha] at hj
  unfold asT at q ⊢
  rw [show (h + 1).toNat = h.toNat + 1 by omega]
  unfold af
  rw [show ((h.toNat : Nat) : Int) = h by omega, ← q.1]
  rcases hj with ⟨c, c1, c2⟩ | ⟨c, c1, c2⟩
  · rw [if_pos c]
    exact ⟨c1, c2⟩
  · rw [if_neg c]
    exact ⟨c1.trans q.1, c2.trans q.2⟩
/-- the reference begins with another number of fewest -/
def asU (b tt h f e : Int) : Prop := (h = 0 ∧ f = 1000000 ∧ e = -1) ∨ (1 ≤ h ∧ asT b tt h f e)
theorem asU_s {b tt h f e f2 e2 : Int} {E : Nat → Int} (q : asU b tt h f e) (h0 : 0 ≤ h) (ha : aq 6 E tt h) (hm : ma b E 6 ≤ 6) (hj : (ma b E 6 < f ∧ f2 = ma b E 6 ∧ e2 = h) ∨ (¬ (ma b E 6 < f) ∧ f2 = f ∧ e2 = e)) : asU b tt (h + 1) f2 e2 := by
  refine Or.inr ⟨by omega, ?_⟩
  rcases q with ⟨c, c1, c2⟩ | ⟨c, c1⟩
  · subst c
    exact asT_s (asT_0 b tt) (by omega) ha (Or.inl (by omega))
  · exact asT_s c1 h0 ha hj
def asS (b tt : Int) : Int := if b = 0 then -1 else (af b tt 21).2
theorem asS_z {b tt h f e : Int} (q : asT b tt h f e) (hz : b = 0) (h0 : h = 0) : e = asS b tt := by
  subst h0
  unfold asS
  rw [if_pos hz]
  exact q.2
theorem asS_t {b tt h f e : Int} (q : asT b tt h f e) (hz : ¬ (b = 0)) (h0 : h = 21) : e = asS b tt := by
  subst h0
  unfold asS
  rw [if_neg hz]
  exact q.2
theorem asS_u {b tt h f e : Int} (q : asU b tt h f e) (hz : (b = 0 ∧ h = 0) ∨ (¬ (b = 0) ∧ h = 21)) : e = asS b tt := by
  rcases q with ⟨c, c1, c2⟩ | ⟨c, c1⟩
  · unfold asS
    rw [if_pos (by omega)]
    exact c2
  · exact asS_t c1 (by omega) (by omega)
set_option maxRecDepth 100000 in
theorem or_kb : ∀ k : Nat, k < 6 → ∀ b : Nat, b < 2 ^ k → orI (b : Int) (slI 1 (k : Int)) = ((b + 2 ^ k : Nat) : Int) := by decide +kernel
theorem kbS_b (P : Int → Prop) : ∀ n : Nat, n ≤ 6 → ∃ b : Nat, b < 2 ^ n ∧ kbS P n = (b : Int)
  | 0, _ => ⟨0, by decide, rfl⟩
  | n + 1, hn => by
    obtain ⟨b, hb, e⟩ := kbS_b P n (by omega)
    unfold kbS
    have h2 : 2 ^ (n + 1) = 2 ^ n + 2 ^ n := by rw [Nat.pow_succ]; omega
    split
    · exact ⟨b + 2 ^ n, by omega, by rw [e]; exact or_kb n (by omega) b hb⟩
    · exact ⟨b, by omega, e⟩
theorem kbS_nn (P : Int → Prop) : 0 ≤ kbS P 6 := by
  obtain ⟨b, _, e⟩ := kbS_b P 6 (by omega)
  omega
def fl1 (k n b t a d : Int) : Int := t - min t (mTake n b (mHard k t a d))
def flC (Fl Fk Fn Fb : Nat → Int) (n p t : Int) : Prop := ∀ r : Int, 0 ≤ r → r < n → Fl (r * 5 + 0).toNat = p → fl1 (Fk p.toNat) (Fn (Fl (r * 5 + 1).toNat).toNat) (Fb (Fl (r * 5 + 1).toNat).toNat) t (Fl (r * 5 + 3).toNat) (Fl (r * 5 + 2).toNat) = Fl (r * 5 + 4).toNat
def flR (f : Nat → Int) (n p t : Int) : Prop := ∀ r : Int, 0 ≤ r → r < n → f (56 + 5 * r).toNat = p → fl1 (f (34 + p).toNat) (f (48 + f (56 + 5 * r + 1).toNat).toNat) (f (52 + f (56 + 5 * r + 1).toNat).toNat) t (f (56 + 5 * r + 3).toNat) (f (56 + 5 * r + 2).toNat) = f (56 + 5 * r + 4).toNat
theorem flC_0 (Fl Fk Fn Fb : Nat → Int) (p t : Int) : flC Fl Fk Fn Fb 0 p t := fun r a b => absurd a (by omega)
theorem flC_s {Fl Fk Fn Fb : Nat → Int} {i p t : Int} (h : flC Fl Fk Fn Fb i p t) (h1 : Fl (i * 5 + 0).toNat = p → fl1 (Fk p.toNat) (Fn (Fl (i * 5 + 1).toNat).toNat) (Fb (Fl (i * 5 + 1).toNat).toNat) t (Fl (i * 5 + 3).toNat) (Fl (i * 5 + 2).toNat) = Fl (i * 5 + 4).toNat) : flC Fl Fk Fn Fb (i + 1) p t := fun r a b => by
  by_cases c : r = i
  · subst c
    exact h1
  · exact h r a (by omega)
theorem flC_at {Fl Fk Fn Fb : Nat → Int} {i n p t : Int} (h : flC Fl Fk Fn Fb i p t) (e : i = n) : flC Fl Fk Fn Fb n p t := e ▸ h
theorem flC_x {Fl Fk Fn Fb : Nat → Int} {i n p t : Int} (h0 : 0 ≤ i) (h1 : i < n) (h2 : Fl (i * 5 + 0).toNat = p) (h3 : ¬ (fl1 (Fk p.toNat) (Fn (Fl (i * 5 + 1).toNat).toNat) (Fb (Fl (i * 5 + 1).toNat).toNat) t (Fl (i * 5 + 3).toNat) (Fl (i * 5 + 2).toNat) = Fl (i * 5 + 4).toNat)) : ¬ flC Fl Fk Fn Fb n p t := fun q => h3 (q i h0 h1 h2)
def flT (f : Nat → Int) (p t o i : Int) : Prop := (o = 1 ∧ flR f i p t) ∨ (o = 0 ∧ ¬ flR f (f 2) p t)
theorem flT_0 (f : Nat → Int) (p t : Int) : flT f p t 1 0 := Or.inl ⟨rfl, fun r a b => absurd a (by omega)⟩
theorem flT_n {f : Nat → Int} {p t o i a : Int} (h : flT f p t o i) (ea : a = 56 + 5 * i) (h1 : ¬ (f a.toNat = p)) : flT f p t o (i + 1) := by
  subst ea
  rcases h with ⟨e, h⟩ | ⟨e, h⟩
  · refine Or.inl ⟨e, fun r a b w => ?_⟩
    by_cases q : r = i
    · subst q
      exact absurd w h1
    · exact h r a (by omega) w
  · exact Or.inr ⟨e, h⟩
theorem flT_s {f : Nat → Int} {p t o o2 i a : Int} (h : flT f p t o i) (h0 : 0 ≤ i) (h1 : i < f 2) (ea : a = 56 + 5 * i) (hp : f a.toNat = p) (hj : ((o = 1 ∧ fl1 (f (34 + p).toNat) (f (48 + f (a + 1).toNat).toNat) (f (52 + f (a + 1).toNat).toNat) t (f (a + 3).toNat) (f (a + 2).toNat) = f (a + 4).toNat) ∧ o2 = 1) ∨ (¬ (o = 1 ∧ fl1 (f (34 + p).toNat) (f (48 + f (a + 1).toNat).toNat) (f (52 + f (a + 1).toNat).toNat) t (f (a + 3).toNat) (f (a + 2).toNat) = f (a + 4).toNat) ∧ o2 = 0)) : flT f p t o2 (i + 1) := by
  subst ea
  rcases h with ⟨e, h⟩ | ⟨e, h⟩
  · rcases hj with ⟨c, e2⟩ | ⟨c, e2⟩
    · refine Or.inl ⟨e2, fun r a b w => ?_⟩
      by_cases q : r = i
      · subst q
        exact c.2
      · exact h r a (by omega) w
    · exact Or.inr ⟨e2, fun q => c ⟨e, q i h0 h1 hp⟩⟩
  · rcases hj with ⟨c, _⟩ | ⟨c, e2⟩
    · exact absurd c.1 (by omega)
    · exact Or.inr ⟨e2, h⟩
theorem flT_y {f : Nat → Int} {p t o i : Int} (h : flT f p t o i) (hi : i = f 2) : (o = 1 ∧ flR f (f 2) p t) ∨ (o = 0 ∧ ¬ flR f (f 2) p t) := by
  subst hi
  exact h
noncomputable def on3 (P : Int → Prop) : Nat → Int × Int × Int
  | 0 => (0, -1, -1)
  | n + 1 => @ite (Int × Int × Int) (P ((n : Int) + 1)) (Classical.propDecidable _) ((on3 P n).1 + 1, (if (on3 P n).1 = 0 then (n : Int) + 1 else (on3 P n).2.1), (n : Int) + 1) (on3 P n)
def onT (P : Int → Prop) (t n l g : Int) : Prop := (n = (on3 P (t - 1).toNat).1 ∧ l = (on3 P (t - 1).toNat).2.1 ∧ g = (on3 P (t - 1).toNat).2.2) ∧ 0 ≤ n ∧ ((n = 0 ∧ l = -1) ∨ (1 ≤ n ∧ 1 ≤ l))
theorem onT_0 (P : Int → Prop) : onT P 1 0 (-1) (-1) := ⟨⟨rfl, rfl, rfl⟩, by omega, Or.inl ⟨rfl, rfl⟩⟩
theorem onT_y {P : Int → Prop} {t n l g l2 : Int} (q : onT P t n l g) (h1 : 1 ≤ t) (h : P t) (hl : (l = -1 ∧ l2 = t) ∨ (¬ (l = -1) ∧ l2 = l)) : onT P (t + 1) (n + 1) l2 t := by
  obtain ⟨⟨e1, e2, e3⟩, q1, q2⟩ := q
  refine ⟨?_, by omega, Or.inr (by omega)⟩
  rw [show (t + 1 - 1).toNat = (t - 1).toNat + 1 by omega]
  unfold on3
  rw [show (((t - 1).toNat : Nat) : Int) + 1 = t by omega, if_pos h, ← e1, ← e2]
  refine ⟨rfl, ?_, rfl⟩
  show l2 = if n = 0 then t else l
  rcases hl with ⟨c, d⟩ | ⟨c, d⟩
  · rw [if_pos (by omega)]
    exact d
  · rw [if_neg (by omega)]
    exact d
theorem onT_z {P : Int → Prop} {t n l g l2 : Int} (q : onT P t n l g) (h1 : 1 ≤ t) (h : P t) (hl : (n = 0 ∧ l2 = t) ∨ (¬ (n = 0) ∧ l2 = l)) : onT P (t + 1) (n + 1) l2 t := onT_y q h1 h (by have := q.2.2; omega)
theorem onT_n {P : Int → Prop} {t n l g : Int} (q : onT P t n l g) (h1 : 1 ≤ t) (h : ¬ P t) : onT P (t + 1) n l g := by
  obtain ⟨⟨e1, e2, e3⟩, q1, q2⟩ := q
  refine ⟨?_, q1, q2⟩
  rw [show (t + 1 - 1).toNat = (t - 1).toNat + 1 by omega]
  unfold on3
  rw [show (((t - 1).toNat : Nat) : Int) + 1 = t by omega, if_neg h]
  exact ⟨e1, e2, e3⟩
noncomputable def onS (P : Int → Prop) (w : Int) : Int := if w = 0 then (on3 P 30).1 else if w = 1 then (on3 P 30).2.1 else (on3 P 30).2.2
theorem onS_e {P : Int → Prop} {t n l g w r : Int} (q : onT P t n l g) (ht : t = 31) (hr : (w = 0 ∧ r = n) ∨ (¬ (w = 0) ∧ w = 1 ∧ r = l) ∨ (¬ (w = 0) ∧ ¬ (w = 1) ∧ r = g)) : r = onS P w := by
  subst ht
  obtain ⟨⟨e1, e2, e3⟩, _⟩ := q
  unfold onS
  rcases hr with ⟨c, d⟩ | ⟨c, c2, d⟩ | ⟨c, c2, d⟩
  · rw [if_pos c, d]
    exact e1
  · rw [if_neg c, if_pos c2, d]
    exact e2
  · rw [if_neg c, if_neg c2, d]
    exact e3
theorem onS_c {P Q : Int → Prop} (h : ∀ t : Int, P t ↔ Q t) (w : Int) : onS P w = onS Q w := by
  rw [show P = Q from funext (fun t => propext (h t))]
theorem fl_iff {f Fl Fk Fn Fb : Nat → Int} {n bi ap p : Int} (h : cr n 56 Fl f) (hk : cq ap 34 Fk f) (hn : cq bi 48 Fn f) (hb : cq bi 52 Fb f) (hL : lb n bi Fl) (hp : 0 ≤ p ∧ p < ap) (t : Int) : flC Fl Fk Fn Fb n p t ↔ flR f n p t := by
  have kp := hk p hp.1 hp.2
  constructor
  · intro q r a b w
    have c0 := h r 0 a b (by omega) (by omega)
    have c1 := h r 1 a b (by omega) (by omega)
    have c2 := h r 2 a b (by omega) (by omega)
    have c3 := h r 3 a b (by omega) (by omega)
    have c4 := h r 4 a b (by omega) (by omega)
    have l1 := hL r a b
    have n1 := hn _ l1.1 l1.2
    have b1 := hb _ l1.1 l1.2
    rw [show 56 + 5 * r + 0 = 56 + 5 * r by omega] at c0
    rw [c1] at n1 b1
    have z := q r a b (by rw [c0]; exact w)
    rw [c1, c2, c3, c4, kp, n1, b1] at z
    exact z
  · intro q r a b w
    have c0 := h r 0 a b (by omega) (by omega)
    have c1 := h r 1 a b (by omega) (by omega)
    have c2 := h r 2 a b (by omega) (by omega)
    have c3 := h r 3 a b (by omega) (by omega)
    have c4 := h r 4 a b (by omega) (by omega)
    have l1 := hL r a b
    have n1 := hn _ l1.1 l1.2
    have b1 := hb _ l1.1 l1.2
    rw [show 56 + 5 * r + 0 = 56 + 5 * r by omega] at c0
    rw [c1] at n1 b1
    have z := q r a b (by rw [← c0]; exact w)
    rw [c1, c2, c3, c4, kp, n1, b1]
    exact z
def lgP (f : Nat → Int) : Prop := ∀ r : Int, 0 ≤ r → r < f 2 → 0 ≤ f (56 + 5 * r + 1).toNat ∧ f (56 + 5 * r + 1).toNat < 4
theorem VW.lg {f : Nat → Int} {ap bi lc oc mc : Int} {Fd Fk Fn Fb Fl Fo Fm : Nat → Int} (h : VW f ap bi lc oc mc Fd Fk Fn Fb Fl Fo Fm) : lgP f := fun r a b => by
  obtain ⟨⟨e0, e1, e2, e3, e4⟩, ⟨g0, g1, g2, g3, g4⟩, hd, hk, hn, hb, hl, ho, hm, hL⟩ := h
  have q := hL r a (by omega)
  have c := hl r 1 a (by omega) (by omega) (by omega)
  rw [c] at q
  omega
theorem flR_kW {f F : Nat → Int} (h : kW f F) (hl : lgP f) {n p : Int} (e : n = f 2) (hn : n ≤ 5) (hp : 0 ≤ p ∧ p ≤ 6) (t : Int) : flR F n p t ↔ flR f n p t := by
  have kp := h (34 + p).toNat (by omega)
  constructor
  · intro q r a b w
    have l1 := hl r a (by omega)
    have c0 := h (56 + 5 * r).toNat (by omega)
    have c1 := h (56 + 5 * r + 1).toNat (by omega)
    have c2 := h (56 + 5 * r + 2).toNat (by omega)
    have c3 := h (56 + 5 * r + 3).toNat (by omega)
    have c4 := h (56 + 5 * r + 4).toNat (by omega)
    have n1 := h (48 + f (56 + 5 * r + 1).toNat).toNat (by omega)
    have b1 := h (52 + f (56 + 5 * r + 1).toNat).toNat (by omega)
    have z := q r a b (by rw [c0]; exact w)
    rw [c1, c2, c3, c4, kp, n1, b1] at z
    exact z
  · intro q r a b w
    have l1 := hl r a (by omega)
    have c0 := h (56 + 5 * r).toNat (by omega)
    have c1 := h (56 + 5 * r + 1).toNat (by omega)
    have c2 := h (56 + 5 * r + 2).toNat (by omega)
    have c3 := h (56 + 5 * r + 3).toNat (by omega)
    have c4 := h (56 + 5 * r + 4).toNat (by omega)
    have n1 := h (48 + f (56 + 5 * r + 1).toNat).toNat (by omega)
    have b1 := h (52 + f (56 + 5 * r + 1).toNat).toNat (by omega)
    have z := q r a b (by rw [← c0]; exact w)
    rw [c1, c2, c3, c4, kp, n1, b1]
    exact z
theorem yl_y {r : Int} {P : Prop} (h : (r = 1 ∧ P) ∨ (r = 0 ∧ ¬ P)) (c : ¬ (r = 0)) : P := by
  rcases h with ⟨_, q⟩ | ⟨e, _⟩
  · exact q
  · exact absurd e c
theorem yl_n {r : Int} {P : Prop} (h : (r = 1 ∧ P) ∨ (r = 0 ∧ ¬ P)) (c : r = 0) : ¬ P := by
  rcases h with ⟨e, _⟩ | ⟨_, q⟩
  · exact absurd e (by omega)
  · exact q
