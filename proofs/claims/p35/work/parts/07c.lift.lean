def dfD (len : Int) (ik : Nat → Int32) (gs : Nat → Nat → Int) (len2 : Int) (ik2 : Nat → Int32) (gs2 : Nat → Nat → Int) : Prop := len2 = len ∧ ik2 = ik ∧ gs2 = gs
def valleyD (len : Int) (ik : Nat → Int32) (gs : Nat → Nat → Int) (r : Int32) (len2 : Int) (ik2 : Nat → Int32) (gs2 : Nat → Nat → Int) : Prop := len2 = len ∧ ik2 = ik ∧ (((True) ∧ r = iI (gs 0 0) ∧ gs2 = us gs 0 (z0)))
theorem valleyD.det {len l1 l2 : Int} {ik k1 k2 : Nat → Int32} {gs g1 g2 : Nat → Nat → Int} {r1 r2 : Int32} (h1 : valleyD len ik gs r1 l1 k1 g1) (h2 : valleyD len ik gs r2 l2 k2 g2) : r1 = r2 ∧ l1 = l2 ∧ k1 = k2 ∧ g1 = g2 := by
  obtain ⟨rfl, rfl, _, rfl, rfl⟩ := h1
  obtain ⟨rfl, rfl, _, rfl, rfl⟩ := h2
  exact ⟨rfl, rfl, rfl, rfl⟩
def dampD (len : Int) (ik : Nat → Int32) (gs : Nat → Nat → Int) (a1 : Int) (a2 : Int) (r : Int32) (len2 : Int) (ik2 : Nat → Int32) (gs2 : Nat → Nat → Int) : Prop := len2 = len ∧ ik2 = ik ∧ (((¬ ((0 ≤ a1 ∧ a1 ≤ 5) ∧ (0 ≤ a2 ∧ a2 ≤ 4))) ∧ r = iI (-2) ∧ gs2 = gs) ∨ (((0 ≤ a1 ∧ a1 ≤ 5) ∧ (0 ≤ a2 ∧ a2 ≤ 4)) ∧ r = iI (gs 0 ((28 + a1).toNat)) ∧ gs2 = us gs 0 (sDamp (gs 0) a1 a2)))
theorem dampD.det {len l1 l2 a1 a2 : Int} {ik k1 k2 : Nat → Int32} {gs g1 g2 : Nat → Nat → Int} {r1 r2 : Int32} (h1 : dampD len ik gs a1 a2 r1 l1 k1 g1) (h2 : dampD len ik gs a1 a2 r2 l2 k2 g2) : r1 = r2 ∧ l1 = l2 ∧ k1 = k2 ∧ g1 = g2 := by
  obtain ⟨rfl, rfl, h1⟩ := h1
  obtain ⟨rfl, rfl, h2⟩ := h2
  rcases h1 with ⟨c1, rfl, rfl⟩ | ⟨c1, rfl, rfl⟩ <;> rcases h2 with ⟨c2, rfl, rfl⟩ | ⟨c2, rfl, rfl⟩ <;> first | exact ⟨rfl, rfl, rfl, rfl⟩ | (exfalso; omega)
def appleD (len : Int) (ik : Nat → Int32) (gs : Nat → Nat → Int) (a1 : Int) (a2 : Int) (a3 : Int) (r : Int32) (len2 : Int) (ik2 : Nat → Int32) (gs2 : Nat → Nat → Int) : Prop := len2 = len ∧ ik2 = ik ∧ (((¬ ((0 ≤ a1 ∧ a1 ≤ 5) ∧ (1 ≤ a2 ∧ a2 ≤ 30) ∧ (0 ≤ a3 ∧ a3 ≤ 99))) ∧ r = iI (-2) ∧ gs2 = gs) ∨ ((((0 ≤ a1 ∧ a1 ≤ 5) ∧ (1 ≤ a2 ∧ a2 ≤ 30) ∧ (0 ≤ a3 ∧ a3 ≤ 99)) ∧ gs 0 0 = 7) ∧ r = iI (-4) ∧ gs2 = gs) ∨ ((((0 ≤ a1 ∧ a1 ≤ 5) ∧ (1 ≤ a2 ∧ a2 ≤ 30) ∧ (0 ≤ a3 ∧ a3 ≤ 99)) ∧ gs 0 0 < 7) ∧ r = iI (gs 0 0) ∧ gs2 = us gs 0 (sApple (gs 0) a1 a2 a3)))
theorem appleD.det {len l1 l2 a1 a2 a3 : Int} {ik k1 k2 : Nat → Int32} {gs g1 g2 : Nat → Nat → Int} {r1 r2 : Int32} (h1 : appleD len ik gs a1 a2 a3 r1 l1 k1 g1) (h2 : appleD len ik gs a1 a2 a3 r2 l2 k2 g2) : r1 = r2 ∧ l1 = l2 ∧ k1 = k2 ∧ g1 = g2 := by
  obtain ⟨rfl, rfl, h1⟩ := h1
  obtain ⟨rfl, rfl, h2⟩ := h2
  rcases h1 with ⟨c1, rfl, rfl⟩ | ⟨c1, rfl, rfl⟩ | ⟨c1, rfl, rfl⟩ <;> rcases h2 with ⟨c2, rfl, rfl⟩ | ⟨c2, rfl, rfl⟩ | ⟨c2, rfl, rfl⟩ <;> first | exact ⟨rfl, rfl, rfl, rfl⟩ | (exfalso; omega)
def biterD (len : Int) (ik : Nat → Int32) (gs : Nat → Nat → Int) (a1 : Int) (a2 : Int) (r : Int32) (len2 : Int) (ik2 : Nat → Int32) (gs2 : Nat → Nat → Int) : Prop := len2 = len ∧ ik2 = ik ∧ (((¬ ((0 ≤ a1 ∧ a1 ≤ 5) ∧ (1 ≤ a2 ∧ a2 ≤ 9))) ∧ r = iI (-2) ∧ gs2 = gs) ∨ ((((0 ≤ a1 ∧ a1 ≤ 5) ∧ (1 ≤ a2 ∧ a2 ≤ 9)) ∧ gs 0 1 = 4) ∧ r = iI (-4) ∧ gs2 = gs) ∨ ((((0 ≤ a1 ∧ a1 ≤ 5) ∧ (1 ≤ a2 ∧ a2 ≤ 9)) ∧ gs 0 1 < 4) ∧ r = iI (gs 0 1) ∧ gs2 = us gs 0 (sBiter (gs 0) a1 a2)))
theorem biterD.det {len l1 l2 a1 a2 : Int} {ik k1 k2 : Nat → Int32} {gs g1 g2 : Nat → Nat → Int} {r1 r2 : Int32} (h1 : biterD len ik gs a1 a2 r1 l1 k1 g1) (h2 : biterD len ik gs a1 a2 r2 l2 k2 g2) : r1 = r2 ∧ l1 = l2 ∧ k1 = k2 ∧ g1 = g2 := by
  obtain ⟨rfl, rfl, h1⟩ := h1
  obtain ⟨rfl, rfl, h2⟩ := h2
  rcases h1 with ⟨c1, rfl, rfl⟩ | ⟨c1, rfl, rfl⟩ | ⟨c1, rfl, rfl⟩ <;> rcases h2 with ⟨c2, rfl, rfl⟩ | ⟨c2, rfl, rfl⟩ | ⟨c2, rfl, rfl⟩ <;> first | exact ⟨rfl, rfl, rfl, rfl⟩ | (exfalso; omega)
def aboutD (len : Int) (ik : Nat → Int32) (gs : Nat → Nat → Int) (a1 : Int) (a2 : Int) (r : Int32) (len2 : Int) (ik2 : Nat → Int32) (gs2 : Nat → Nat → Int) : Prop := len2 = len ∧ ik2 = ik ∧ (((¬ ((0 ≤ a1 ∧ a1 < gs 0 1) ∧ (0 ≤ a2 ∧ a2 ≤ 1))) ∧ r = iI (-2) ∧ gs2 = gs) ∨ ((((0 ≤ a1 ∧ a1 < gs 0 1) ∧ (0 ≤ a2 ∧ a2 ≤ 1)) ∧ a2 = 0) ∧ r = iI (gs 0 ((48 + a1).toNat)) ∧ gs2 = gs) ∨ ((((0 ≤ a1 ∧ a1 < gs 0 1) ∧ (0 ≤ a2 ∧ a2 ≤ 1)) ∧ a2 = 1) ∧ r = iI (gs 0 ((52 + a1).toNat)) ∧ gs2 = gs))
theorem aboutD.det {len l1 l2 a1 a2 : Int} {ik k1 k2 : Nat → Int32} {gs g1 g2 : Nat → Nat → Int} {r1 r2 : Int32} (h1 : aboutD len ik gs a1 a2 r1 l1 k1 g1) (h2 : aboutD len ik gs a1 a2 r2 l2 k2 g2) : r1 = r2 ∧ l1 = l2 ∧ k1 = k2 ∧ g1 = g2 := by
  obtain ⟨rfl, rfl, h1⟩ := h1
  obtain ⟨rfl, rfl, h2⟩ := h2
  rcases h1 with ⟨c1, rfl, rfl⟩ | ⟨c1, rfl, rfl⟩ | ⟨c1, rfl, rfl⟩ <;> rcases h2 with ⟨c2, rfl, rfl⟩ | ⟨c2, rfl, rfl⟩ | ⟨c2, rfl, rfl⟩ <;> first | exact ⟨rfl, rfl, rfl, rfl⟩ | (exfalso; omega)
def leftD (len : Int) (ik : Nat → Int32) (gs : Nat → Nat → Int) (a1 : Int) (a2 : Int) (a3 : Int) (a4 : Int) (a5 : Int) (r : Int32) (len2 : Int) (ik2 : Nat → Int32) (gs2 : Nat → Nat → Int) : Prop := len2 = len ∧ ik2 = ik ∧ (((¬ ((0 ≤ a1 ∧ a1 < gs 0 0) ∧ (0 ≤ a2 ∧ a2 < gs 0 1) ∧ (0 ≤ a3 ∧ a3 ≤ 4) ∧ (0 ≤ a4 ∧ a4 ≤ 99) ∧ (0 ≤ a5 ∧ a5 ≤ 30))) ∧ r = iI (-2) ∧ gs2 = gs) ∨ ((((0 ≤ a1 ∧ a1 < gs 0 0) ∧ (0 ≤ a2 ∧ a2 < gs 0 1) ∧ (0 ≤ a3 ∧ a3 ≤ 4) ∧ (0 ≤ a4 ∧ a4 ≤ 99) ∧ (0 ≤ a5 ∧ a5 ≤ 30)) ∧ gs 0 2 = 5) ∧ r = iI (-4) ∧ gs2 = gs) ∨ ((((0 ≤ a1 ∧ a1 < gs 0 0) ∧ (0 ≤ a2 ∧ a2 < gs 0 1) ∧ (0 ≤ a3 ∧ a3 ≤ 4) ∧ (0 ≤ a4 ∧ a4 ≤ 99) ∧ (0 ≤ a5 ∧ a5 ≤ 30)) ∧ gs 0 2 < 5) ∧ r = iI (gs 0 2 + 1) ∧ gs2 = us gs 0 (uI (l5 (gs 0) (56 + 5 * gs 0 2) a1 a2 a3 a4 a5) 2 (gs 0 2 + 1))))
theorem leftD.det {len l1 l2 a1 a2 a3 a4 a5 : Int} {ik k1 k2 : Nat → Int32} {gs g1 g2 : Nat → Nat → Int} {r1 r2 : Int32} (h1 : leftD len ik gs a1 a2 a3 a4 a5 r1 l1 k1 g1) (h2 : leftD len ik gs a1 a2 a3 a4 a5 r2 l2 k2 g2) : r1 = r2 ∧ l1 = l2 ∧ k1 = k2 ∧ g1 = g2 := by
  obtain ⟨rfl, rfl, h1⟩ := h1
  obtain ⟨rfl, rfl, h2⟩ := h2
  rcases h1 with ⟨c1, rfl, rfl⟩ | ⟨c1, rfl, rfl⟩ | ⟨c1, rfl, rfl⟩ <;> rcases h2 with ⟨c2, rfl, rfl⟩ | ⟨c2, rfl, rfl⟩ | ⟨c2, rfl, rfl⟩ <;> first | exact ⟨rfl, rfl, rfl, rfl⟩ | (exfalso; omega)
def noteD (len : Int) (ik : Nat → Int32) (gs : Nat → Nat → Int) (a1 : Int) (a2 : Int) (a3 : Int) (a4 : Int) (a5 : Int) (r : Int32) (len2 : Int) (ik2 : Nat → Int32) (gs2 : Nat → Nat → Int) : Prop := len2 = len ∧ ik2 = ik ∧ (((¬ ((0 ≤ a1 ∧ a1 < gs 0 0) ∧ (1 ≤ a2 ∧ a2 ≤ 30) ∧ (0 ≤ a3 ∧ a3 ≤ 99) ∧ (0 ≤ a4 ∧ a4 ≤ 4) ∧ (0 ≤ a5 ∧ a5 ≤ 30))) ∧ r = iI (-2) ∧ gs2 = gs) ∨ ((((0 ≤ a1 ∧ a1 < gs 0 0) ∧ (1 ≤ a2 ∧ a2 ≤ 30) ∧ (0 ≤ a3 ∧ a3 ≤ 99) ∧ (0 ≤ a4 ∧ a4 ≤ 4) ∧ (0 ≤ a5 ∧ a5 ≤ 30)) ∧ gs 0 3 = 6) ∧ r = iI (-4) ∧ gs2 = gs) ∨ ((((0 ≤ a1 ∧ a1 < gs 0 0) ∧ (1 ≤ a2 ∧ a2 ≤ 30) ∧ (0 ≤ a3 ∧ a3 ≤ 99) ∧ (0 ≤ a4 ∧ a4 ≤ 4) ∧ (0 ≤ a5 ∧ a5 ≤ 30)) ∧ gs 0 3 < 6) ∧ r = iI (gs 0 3 + 1) ∧ gs2 = us gs 0 (uI (l5 (gs 0) (81 + 5 * gs 0 3) a1 a2 a3 a4 a5) 3 (gs 0 3 + 1))))
theorem noteD.det {len l1 l2 a1 a2 a3 a4 a5 : Int} {ik k1 k2 : Nat → Int32} {gs g1 g2 : Nat → Nat → Int} {r1 r2 : Int32} (h1 : noteD len ik gs a1 a2 a3 a4 a5 r1 l1 k1 g1) (h2 : noteD len ik gs a1 a2 a3 a4 a5 r2 l2 k2 g2) : r1 = r2 ∧ l1 = l2 ∧ k1 = k2 ∧ g1 = g2 := by
  obtain ⟨rfl, rfl, h1⟩ := h1
  obtain ⟨rfl, rfl, h2⟩ := h2
  rcases h1 with ⟨c1, rfl, rfl⟩ | ⟨c1, rfl, rfl⟩ | ⟨c1, rfl, rfl⟩ <;> rcases h2 with ⟨c2, rfl, rfl⟩ | ⟨c2, rfl, rfl⟩ | ⟨c2, rfl, rfl⟩ <;> first | exact ⟨rfl, rfl, rfl, rfl⟩ | (exfalso; omega)
def markD (len : Int) (ik : Nat → Int32) (gs : Nat → Nat → Int) (a1 : Int) (a2 : Int) (a3 : Int) (a4 : Int) (r : Int32) (len2 : Int) (ik2 : Nat → Int32) (gs2 : Nat → Nat → Int) : Prop := len2 = len ∧ ik2 = ik ∧ (((¬ ((0 ≤ a1 ∧ a1 < gs 0 1) ∧ (1 ≤ a2 ∧ a2 ≤ 9) ∧ (0 ≤ a3 ∧ a3 ≤ 30) ∧ (0 ≤ a4 ∧ a4 ≤ 40))) ∧ r = iI (-2) ∧ gs2 = gs) ∨ ((((0 ≤ a1 ∧ a1 < gs 0 1) ∧ (1 ≤ a2 ∧ a2 ≤ 9) ∧ (0 ≤ a3 ∧ a3 ≤ 30) ∧ (0 ≤ a4 ∧ a4 ≤ 40)) ∧ gs 0 4 = 6) ∧ r = iI (-4) ∧ gs2 = gs) ∨ ((((0 ≤ a1 ∧ a1 < gs 0 1) ∧ (1 ≤ a2 ∧ a2 ≤ 9) ∧ (0 ≤ a3 ∧ a3 ≤ 30) ∧ (0 ≤ a4 ∧ a4 ≤ 40)) ∧ gs 0 4 < 6) ∧ r = iI (gs 0 4 + 1) ∧ gs2 = us gs 0 (uI (k4 (gs 0) (111 + 4 * gs 0 4) a1 a2 a3 a4) 4 (gs 0 4 + 1))))
theorem markD.det {len l1 l2 a1 a2 a3 a4 : Int} {ik k1 k2 : Nat → Int32} {gs g1 g2 : Nat → Nat → Int} {r1 r2 : Int32} (h1 : markD len ik gs a1 a2 a3 a4 r1 l1 k1 g1) (h2 : markD len ik gs a1 a2 a3 a4 r2 l2 k2 g2) : r1 = r2 ∧ l1 = l2 ∧ k1 = k2 ∧ g1 = g2 := by
  obtain ⟨rfl, rfl, h1⟩ := h1
  obtain ⟨rfl, rfl, h2⟩ := h2
  rcases h1 with ⟨c1, rfl, rfl⟩ | ⟨c1, rfl, rfl⟩ | ⟨c1, rfl, rfl⟩ <;> rcases h2 with ⟨c2, rfl, rfl⟩ | ⟨c2, rfl, rfl⟩ | ⟨c2, rfl, rfl⟩ <;> first | exact ⟨rfl, rfl, rfl, rfl⟩ | (exfalso; omega)
def forgetD (len : Int) (ik : Nat → Int32) (gs : Nat → Nat → Int) (a1 : Int) (r : Int32) (len2 : Int) (ik2 : Nat → Int32) (gs2 : Nat → Nat → Int) : Prop := len2 = len ∧ ik2 = ik ∧ (((¬ (0 ≤ a1 ∧ a1 ≤ 2)) ∧ r = iI (-2) ∧ gs2 = gs) ∨ ((0 ≤ a1 ∧ a1 ≤ 2) ∧ r = iI (gs 0 ((2 + a1).toNat)) ∧ gs2 = us gs 0 (uI (gs 0) ((2 + a1).toNat) 0)))
theorem forgetD.det {len l1 l2 a1 : Int} {ik k1 k2 : Nat → Int32} {gs g1 g2 : Nat → Nat → Int} {r1 r2 : Int32} (h1 : forgetD len ik gs a1 r1 l1 k1 g1) (h2 : forgetD len ik gs a1 r2 l2 k2 g2) : r1 = r2 ∧ l1 = l2 ∧ k1 = k2 ∧ g1 = g2 := by
  obtain ⟨rfl, rfl, h1⟩ := h1
  obtain ⟨rfl, rfl, h2⟩ := h2
  rcases h1 with ⟨c1, rfl, rfl⟩ | ⟨c1, rfl, rfl⟩ <;> rcases h2 with ⟨c2, rfl, rfl⟩ | ⟨c2, rfl, rfl⟩ <;> first | exact ⟨rfl, rfl, rfl, rfl⟩ | (exfalso; omega)
def isD (len : Int) (ik : Nat → Int32) (gs : Nat → Nat → Int) (a1 : Int) (r : Int32) (len2 : Int) (ik2 : Nat → Int32) (gs2 : Nat → Nat → Int) : Prop := len2 = len ∧ ik2 = ik ∧ (((¬ (0 ≤ a1 ∧ a1 < gs 0 0)) ∧ r = iI (-2) ∧ gs2 = gs) ∨ ((0 ≤ a1 ∧ a1 < gs 0 0) ∧ r = iI (kbS (fnR (gs 0) (gs 0 3) a1) 6) ∧ gs2 = gs))
theorem isD.det {len l1 l2 a1 : Int} {ik k1 k2 : Nat → Int32} {gs g1 g2 : Nat → Nat → Int} {r1 r2 : Int32} (h1 : isD len ik gs a1 r1 l1 k1 g1) (h2 : isD len ik gs a1 r2 l2 k2 g2) : r1 = r2 ∧ l1 = l2 ∧ k1 = k2 ∧ g1 = g2 := by
  obtain ⟨rfl, rfl, h1⟩ := h1
  obtain ⟨rfl, rfl, h2⟩ := h2
  rcases h1 with ⟨c1, rfl, rfl⟩ | ⟨c1, rfl, rfl⟩ <;> rcases h2 with ⟨c2, rfl, rfl⟩ | ⟨c2, rfl, rfl⟩ <;> first | exact ⟨rfl, rfl, rfl, rfl⟩ | (exfalso; omega)
def kindsD (len : Int) (ik : Nat → Int32) (gs : Nat → Nat → Int) (a1 : Int) (r : Int32) (len2 : Int) (ik2 : Nat → Int32) (gs2 : Nat → Nat → Int) : Prop := len2 = len ∧ ik2 = ik ∧ (((¬ (0 ≤ a1 ∧ a1 < gs 0 1)) ∧ r = iI (-2) ∧ gs2 = gs) ∨ ((0 ≤ a1 ∧ a1 < gs 0 1) ∧ r = iI (kbS (fmR (gs 0) (gs 0 4) a1) 6) ∧ gs2 = gs))
theorem kindsD.det {len l1 l2 a1 : Int} {ik k1 k2 : Nat → Int32} {gs g1 g2 : Nat → Nat → Int} {r1 r2 : Int32} (h1 : kindsD len ik gs a1 r1 l1 k1 g1) (h2 : kindsD len ik gs a1 r2 l2 k2 g2) : r1 = r2 ∧ l1 = l2 ∧ k1 = k2 ∧ g1 = g2 := by
  obtain ⟨rfl, rfl, h1⟩ := h1
  obtain ⟨rfl, rfl, h2⟩ := h2
  rcases h1 with ⟨c1, rfl, rfl⟩ | ⟨c1, rfl, rfl⟩ <;> rcases h2 with ⟨c2, rfl, rfl⟩ | ⟨c2, rfl, rfl⟩ <;> first | exact ⟨rfl, rfl, rfl, rfl⟩ | (exfalso; omega)
def askD (len : Int) (ik : Nat → Int32) (gs : Nat → Nat → Int) (a1 : Int) (r : Int32) (len2 : Int) (ik2 : Nat → Int32) (gs2 : Nat → Nat → Int) : Prop := len2 = len ∧ ik2 = ik ∧ (((¬ (0 ≤ a1 ∧ a1 < gs 0 1)) ∧ r = iI (-2) ∧ gs2 = gs) ∨ ((0 ≤ a1 ∧ a1 < gs 0 1) ∧ r = iI (asS (kbS (fmR (gs 0) (gs 0 4) a1) 6) (gs 0 ((52 + a1).toNat))) ∧ gs2 = gs))
theorem askD.det {len l1 l2 a1 : Int} {ik k1 k2 : Nat → Int32} {gs g1 g2 : Nat → Nat → Int} {r1 r2 : Int32} (h1 : askD len ik gs a1 r1 l1 k1 g1) (h2 : askD len ik gs a1 r2 l2 k2 g2) : r1 = r2 ∧ l1 = l2 ∧ k1 = k2 ∧ g1 = g2 := by
  obtain ⟨rfl, rfl, h1⟩ := h1
  obtain ⟨rfl, rfl, h2⟩ := h2
  rcases h1 with ⟨c1, rfl, rfl⟩ | ⟨c1, rfl, rfl⟩ <;> rcases h2 with ⟨c2, rfl, rfl⟩ | ⟨c2, rfl, rfl⟩ <;> first | exact ⟨rfl, rfl, rfl, rfl⟩ | (exfalso; omega)
def onD (len : Int) (ik : Nat → Int32) (gs : Nat → Nat → Int) (a1 : Int) (a2 : Int) (r : Int32) (len2 : Int) (ik2 : Nat → Int32) (gs2 : Nat → Nat → Int) : Prop := len2 = len ∧ ik2 = ik ∧ (((¬ ((0 ≤ a1 ∧ a1 < gs 0 0) ∧ (0 ≤ a2 ∧ a2 ≤ 2))) ∧ r = iI (-2) ∧ gs2 = gs) ∨ (((0 ≤ a1 ∧ a1 < gs 0 0) ∧ (0 ≤ a2 ∧ a2 ≤ 2)) ∧ r = iI (onS (flR (gs 0) (gs 0 2) a1) a2) ∧ gs2 = gs))
theorem onD.det {len l1 l2 a1 a2 : Int} {ik k1 k2 : Nat → Int32} {gs g1 g2 : Nat → Nat → Int} {r1 r2 : Int32} (h1 : onD len ik gs a1 a2 r1 l1 k1 g1) (h2 : onD len ik gs a1 a2 r2 l2 k2 g2) : r1 = r2 ∧ l1 = l2 ∧ k1 = k2 ∧ g1 = g2 := by
  obtain ⟨rfl, rfl, h1⟩ := h1
  obtain ⟨rfl, rfl, h2⟩ := h2
  rcases h1 with ⟨c1, rfl, rfl⟩ | ⟨c1, rfl, rfl⟩ <;> rcases h2 with ⟨c2, rfl, rfl⟩ | ⟨c2, rfl, rfl⟩ <;> first | exact ⟨rfl, rfl, rfl, rfl⟩ | (exfalso; omega)
def tyD (len : Int) (ik : Nat → Int32) (gs : Nat → Nat → Int) (a1 : Int) (r : Int32) (len2 : Int) (ik2 : Nat → Int32) (gs2 : Nat → Nat → Int) : Prop := ik2 = ik ∧ ((¬ (0 ≤ a1 ∧ a1 ≤ 127) ∧ r = iI (-2) ∧ len2 = len ∧ gs2 = gs) ∨ (((0 ≤ a1 ∧ a1 ≤ 127) ∧ len = 150) ∧ r = iI (-4) ∧ len2 = len ∧ gs2 = gs) ∨ (((0 ≤ a1 ∧ a1 ≤ 127) ∧ len < 150) ∧ r = iI (len + 1) ∧ len2 = len + 1 ∧ gs2 = us gs 3 (uI (gs 3) len.toNat a1)))
theorem tyD.det {len l1 l2 a1 : Int} {ik k1 k2 : Nat → Int32} {gs g1 g2 : Nat → Nat → Int} {r1 r2 : Int32} (h1 : tyD len ik gs a1 r1 l1 k1 g1) (h2 : tyD len ik gs a1 r2 l2 k2 g2) : r1 = r2 ∧ l1 = l2 ∧ k1 = k2 ∧ g1 = g2 := by
  obtain ⟨rfl, h1⟩ := h1
  obtain ⟨rfl, h2⟩ := h2
  rcases h1 with ⟨c1, rfl, rfl, rfl⟩ | ⟨c1, rfl, rfl, rfl⟩ | ⟨c1, rfl, rfl, rfl⟩ <;> rcases h2 with ⟨c2, rfl, rfl, rfl⟩ | ⟨c2, rfl, rfl, rfl⟩ | ⟨c2, rfl, rfl, rfl⟩ <;> first | exact ⟨rfl, rfl, rfl, rfl⟩ | (exfalso; omega)
def clD (len : Int) (ik : Nat → Int32) (gs : Nat → Nat → Int) (r : Int32) (len2 : Int) (ik2 : Nat → Int32) (gs2 : Nat → Nat → Int) : Prop := (ik2 = ik ∧ gs2 = gs) ∧ r = iI len ∧ len2 = 0
theorem clD.det {len l1 l2 : Int} {ik k1 k2 : Nat → Int32} {gs g1 g2 : Nat → Nat → Int} {r1 r2 : Int32} (h1 : clD len ik gs r1 l1 k1 g1) (h2 : clD len ik gs r2 l2 k2 g2) : r1 = r2 ∧ l1 = l2 ∧ k1 = k2 ∧ g1 = g2 := by
  obtain ⟨⟨rfl, rfl⟩, rfl, rfl⟩ := h1
  obtain ⟨⟨rfl, rfl⟩, rfl, rfl⟩ := h2
  exact ⟨rfl, rfl, rfl, rfl⟩
def waD (len : Int) (ik : Nat → Int32) (gs : Nat → Nat → Int) (a1 : Int) (r : Int32) (len2 : Int) (ik2 : Nat → Int32) (gs2 : Nat → Nat → Int) : Prop := (len2 = len ∧ ik2 = ik ∧ gs2 = gs) ∧ ((¬ (0 ≤ a1 ∧ a1 ≤ 10) ∧ r = iI (-2)) ∨ ((0 ≤ a1 ∧ a1 ≤ 10) ∧ r = iI 1))
theorem waD.det {len l1 l2 a1 : Int} {ik k1 k2 : Nat → Int32} {gs g1 g2 : Nat → Nat → Int} {r1 r2 : Int32} (h1 : waD len ik gs a1 r1 l1 k1 g1) (h2 : waD len ik gs a1 r2 l2 k2 g2) : r1 = r2 ∧ l1 = l2 ∧ k1 = k2 ∧ g1 = g2 := by
  obtain ⟨⟨rfl, rfl, rfl⟩, h1⟩ := h1
  obtain ⟨⟨rfl, rfl, rfl⟩, h2⟩ := h2
  rcases h1 with ⟨c1, rfl⟩ | ⟨c1, rfl⟩ <;> rcases h2 with ⟨c2, rfl⟩ | ⟨c2, rfl⟩ <;> first | exact ⟨rfl, rfl, rfl, rfl⟩ | (exfalso; omega)
def imU (ik : Nat → Int32) (k : Nat) : Nat → Int32 := upd ik k (vp_nar .boolean (iI 1))
def imD (len : Int) (ik : Nat → Int32) (gs : Nat → Nat → Int) (a1 : Int) (r : Int32) (len2 : Int) (ik2 : Nat → Int32) (gs2 : Nat → Nat → Int) : Prop := len2 = len ∧ ((¬ (0 ≤ a1 ∧ a1 ≤ 1) ∧ r = iI (-2) ∧ ik2 = ik ∧ gs2 = gs) ∨ (a1 = 0 ∧ r = iI 1 ∧ ik2 = imU ik 0 ∧ gs2 = us gs 1 (gs 0)) ∨ (a1 = 1 ∧ r = iI 1 ∧ ik2 = imU ik 1 ∧ gs2 = us gs 2 (gs 0)))
theorem imD.det {len l1 l2 a1 : Int} {ik k1 k2 : Nat → Int32} {gs g1 g2 : Nat → Nat → Int} {r1 r2 : Int32} (h1 : imD len ik gs a1 r1 l1 k1 g1) (h2 : imD len ik gs a1 r2 l2 k2 g2) : r1 = r2 ∧ l1 = l2 ∧ k1 = k2 ∧ g1 = g2 := by
  obtain ⟨rfl, h1⟩ := h1
  obtain ⟨rfl, h2⟩ := h2
  rcases h1 with ⟨c1, rfl, rfl, rfl⟩ | ⟨c1, rfl, rfl, rfl⟩ | ⟨c1, rfl, rfl, rfl⟩ <;> rcases h2 with ⟨c2, rfl, rfl, rfl⟩ | ⟨c2, rfl, rfl, rfl⟩ | ⟨c2, rfl, rfl, rfl⟩ <;> first | exact ⟨rfl, rfl, rfl, rfl⟩ | (exfalso; omega)
def frD (len : Int) (ik : Nat → Int32) (gs : Nat → Nat → Int) (a1 : Int) (r : Int32) (len2 : Int) (ik2 : Nat → Int32) (gs2 : Nat → Nat → Int) : Prop := (len2 = len ∧ ik2 = ik) ∧ ((¬ (0 ≤ a1 ∧ a1 ≤ 1) ∧ r = iI (-2) ∧ gs2 = gs) ∨ (a1 = 0 ∧ ik 0 = 0 ∧ r = iI (-3) ∧ gs2 = gs) ∨ (a1 = 0 ∧ ¬ ik 0 = 0 ∧ r = iI 1 ∧ gs2 = us gs 0 (gs 1)) ∨ (a1 = 1 ∧ ik 1 = 0 ∧ r = iI (-3) ∧ gs2 = gs) ∨ (a1 = 1 ∧ ¬ ik 1 = 0 ∧ r = iI 1 ∧ gs2 = us gs 0 (gs 2)))
theorem frD.det {len l1 l2 a1 : Int} {ik k1 k2 : Nat → Int32} {gs g1 g2 : Nat → Nat → Int} {r1 r2 : Int32} (h1 : frD len ik gs a1 r1 l1 k1 g1) (h2 : frD len ik gs a1 r2 l2 k2 g2) : r1 = r2 ∧ l1 = l2 ∧ k1 = k2 ∧ g1 = g2 := by
  obtain ⟨⟨rfl, rfl⟩, h1⟩ := h1
  obtain ⟨⟨rfl, rfl⟩, h2⟩ := h2
  rcases h1 with ⟨c1, rfl, rfl⟩ | ⟨c1, e1, rfl, rfl⟩ | ⟨c1, e1, rfl, rfl⟩ | ⟨c1, e1, rfl, rfl⟩ | ⟨c1, e1, rfl, rfl⟩ <;> rcases h2 with ⟨c2, rfl, rfl⟩ | ⟨c2, e2, rfl, rfl⟩ | ⟨c2, e2, rfl, rfl⟩ | ⟨c2, e2, rfl, rfl⟩ | ⟨c2, e2, rfl, rfl⟩ <;> first | exact ⟨rfl, rfl, rfl, rfl⟩ | (exfalso; omega) | exact absurd e1 e2 | exact absurd e2 e1
def rdE (S A V : Nat → Int) (len : Int) (ik : Nat → Int32) (gs : Nat → Nat → Int) (r : Int32) (len2 : Int) (ik2 : Nat → Int32) (gs2 : Nat → Nat → Int) : Prop := len2 = len ∧ ik2 = ik ∧ r = iI (rdT S A V).1 ∧ gs2 = (if 0 < (rdT S A V).1 then us gs 0 (rdT S A V).2 else gs)
def rdD (len : Int) (ik : Nat → Int32) (gs : Nat → Nat → Int) (r : Int32) (len2 : Int) (ik2 : Nat → Int32) (gs2 : Nat → Nat → Int) : Prop := ∃ (S A V : Nat → Int) (n : Int) (E : Nat → Int), chF (gs 3) len S A V n E ∧ rdE S A V len ik gs r len2 ik2 gs2
theorem rdE.det {S A V : Nat → Int} {len l1 l2 : Int} {ik k1 k2 : Nat → Int32} {gs g1 g2 : Nat → Nat → Int} {r1 r2 : Int32} (h1 : rdE S A V len ik gs r1 l1 k1 g1) (h2 : rdE S A V len ik gs r2 l2 k2 g2) : r1 = r2 ∧ l1 = l2 ∧ k1 = k2 ∧ g1 = g2 := by
  obtain ⟨rfl, rfl, rfl, rfl⟩ := h1
  obtain ⟨rfl, rfl, rfl, rfl⟩ := h2
  exact ⟨rfl, rfl, rfl, rfl⟩
theorem xi_liftI {G : gG} {l : Launch} {y : MethodName} {wl : List Cond} {rm : Room} {as : List Value} {sz : Nat} {K len : Int} {ik : Nat → Int32} {gs : Nat → Nat → Int} {x0 : Nat} {P : va_W} {REL : Int32 → Int → (Nat → Int32) → (Nat → Nat → Int) → Prop} (c : ∀ (h s i0 i1 : Nat) (BX BH BA : va_W), XBI G len ik gs x0 h s i0 i1 BA BX → VJ G K (gs 0) h BH → gI G l y wl rm as (BX ++ (BH ++ BA)) sz (fun r w => ∃ (BX2 BH2 BA2 : va_W) (len2 : Int) (ik2 : Nat → Int32) (gs2 : Nat → Nat → Int), w = BX2 ++ (BH2 ++ BA2) ∧ XBI G len2 ik2 gs2 x0 h s i0 i1 BA2 BX2 ∧ VJ G (K + 15000) (gs2 0) h BH2 ∧ (gs2 1 = gs 1 ∧ gs2 2 = gs 2) ∧ REL r len2 ik2 gs2)) (hI : XI G K len ik gs x0 P) : gI G l y wl rm as P sz (fun r w => ∃ (len2 : Int) (ik2 : Nat → Int32) (gs2 : Nat → Nat → Int), XI G (K + 15000) len2 ik2 gs2 x0 w ∧ REL r len2 ik2 gs2) := by
  obtain ⟨h, s, i0, i1, BA, BX, BH, BS, B0, B1, rfl, hX, hH, hS, h0, h1⟩ := hI
  refine gI_perm (gI_app (BS ++ (B0 ++ B1)) (c h s i0 i1 BX BH BA hX hH)) (by rw [List.append_assoc, List.append_assoc]) (fun r w hw => ?_)
  obtain ⟨u, ⟨BX2, BH2, BA2, len2, ik2, gs2, rfl, a1, a2, ⟨q1, q2⟩, a3⟩, rfl⟩ := hw
  exact ⟨_, List.Perm.refl _, len2, ik2, gs2, ⟨h, s, i0, i1, BA2, BX2, BH2, BS, B0, B1, by rw [List.append_assoc, List.append_assoc], a1, a2, hS.mono (by omega), by rw [q1]; exact h0.mono (by omega), by rw [q2]; exact h1.mono (by omega)⟩, a3⟩
theorem xi_liftL {G : gG} {l : Launch} {y : MethodName} {wl : List Cond} {rm : Room} {as : List Value} {sz : Nat} {K len : Int} {ik : Nat → Int32} {gs : Nat → Nat → Int} {x0 : Nat} {P : va_W} {REL : Int64 → Int → (Nat → Int32) → (Nat → Nat → Int) → Prop} (c : ∀ (h s i0 i1 : Nat) (BX BH BA : va_W), XBI G len ik gs x0 h s i0 i1 BA BX → VJ G K (gs 0) h BH → gL G l y wl rm as (BX ++ (BH ++ BA)) sz (fun r w => ∃ (BX2 BH2 BA2 : va_W) (len2 : Int) (ik2 : Nat → Int32) (gs2 : Nat → Nat → Int), w = BX2 ++ (BH2 ++ BA2) ∧ XBI G len2 ik2 gs2 x0 h s i0 i1 BA2 BX2 ∧ VJ G (K + 15000) (gs2 0) h BH2 ∧ (gs2 1 = gs 1 ∧ gs2 2 = gs 2) ∧ REL r len2 ik2 gs2)) (hI : XI G K len ik gs x0 P) : gL G l y wl rm as P sz (fun r w => ∃ (len2 : Int) (ik2 : Nat → Int32) (gs2 : Nat → Nat → Int), XI G (K + 15000) len2 ik2 gs2 x0 w ∧ REL r len2 ik2 gs2) := by
  obtain ⟨h, s, i0, i1, BA, BX, BH, BS, B0, B1, rfl, hX, hH, hS, h0, h1⟩ := hI
  refine gL_perm (gL_app (BS ++ (B0 ++ B1)) (c h s i0 i1 BX BH BA hX hH)) (by rw [List.append_assoc, List.append_assoc]) (fun r w hw => ?_)
  obtain ⟨u, ⟨BX2, BH2, BA2, len2, ik2, gs2, rfl, a1, a2, ⟨q1, q2⟩, a3⟩, rfl⟩ := hw
  exact ⟨_, List.Perm.refl _, len2, ik2, gs2, ⟨h, s, i0, i1, BA2, BX2, BH2, BS, B0, B1, by rw [List.append_assoc, List.append_assoc], a1, a2, hS.mono (by omega), by rw [q1]; exact h0.mono (by omega), by rw [q2]; exact h1.mono (by omega)⟩, a3⟩
