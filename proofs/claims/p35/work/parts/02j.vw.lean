def cr (n o : Int) (F f : Nat → Int) : Prop := ∀ r c : Int, 0 ≤ r → r < n → 0 ≤ c → c < 5 → F (r * 5 + c).toNat = f (o + 5 * r + c).toNat
def cm (n : Int) (F f : Nat → Int) : Prop := ∀ r c : Int, 0 ≤ r → r < n → 0 ≤ c → c < 4 → F (r * 5 + c).toNat = f (111 + 4 * r + c).toNat
def lb (n bi : Int) (F : Nat → Int) : Prop := ∀ r : Int, 0 ≤ r → r < n → 0 ≤ F (r * 5 + 1).toNat ∧ F (r * 5 + 1).toNat < bi
theorem cr_o {n o v : Int} {F f : Nat → Int} {k : Nat} (h : cr n o F f) (hk : ∀ r c : Int, 0 ≤ r → r < n → 0 ≤ c → c < 5 → (o + 5 * r + c).toNat ≠ k) : cr n o F (uI f k v) := fun r c a b x y => by
  rw [uI_ne (hk r c a b x y)]
  exact h r c a b x y
theorem cm_o {n v : Int} {F f : Nat → Int} {k : Nat} (h : cm n F f) (hk : ∀ r c : Int, 0 ≤ r → r < n → 0 ≤ c → c < 4 → (111 + 4 * r + c).toNat ≠ k) : cm n F (uI f k v) := fun r c a b x y => by
  rw [uI_ne (hk r c a b x y)]
  exact h r c a b x y
theorem cr_s {n o b0 b1 b2 b3 b4 : Int} {F f : Nat → Int} (h : cr n o F f) (h0 : 0 ≤ n) (ho : 0 ≤ o) : cr (n + 1) o (r5 F n b0 b1 b2 b3 b4) (l5 f (o + 5 * n) b0 b1 b2 b3 b4) := fun r c a b x y => by
  unfold r5 l5
  by_cases e : r = n
  · subst e
    rcases (show c = 0 ∨ c = 1 ∨ c = 2 ∨ c = 3 ∨ c = 4 by omega) with rfl | rfl | rfl | rfl | rfl
    · rw [show r * 5 + 0 = r * 5 by omega, show o + 5 * r + 0 = o + 5 * r by omega, uI_ne (by omega), uI_ne (by omega), uI_ne (by omega), uI_ne (by omega), uI_eq, uI_ne (by omega), uI_ne (by omega), uI_ne (by omega), uI_ne (by omega), uI_eq]
    · rw [uI_ne (by omega), uI_ne (by omega), uI_ne (by omega), uI_eq, uI_ne (by omega), uI_ne (by omega), uI_ne (by omega), uI_eq]
    · rw [uI_ne (by omega), uI_ne (by omega), uI_eq, uI_ne (by omega), uI_ne (by omega), uI_eq]
    · rw [uI_ne (by omega), uI_eq, uI_ne (by omega), uI_eq]
    · rw [uI_eq, uI_eq]
  · rw [uI_ne (by omega), uI_ne (by omega), uI_ne (by omega), uI_ne (by omega), uI_ne (by omega), uI_ne (by omega), uI_ne (by omega), uI_ne (by omega), uI_ne (by omega), uI_ne (by omega)]
    exact h r c a (by omega) x y
theorem cm_s {n b0 b1 b2 b3 b4 : Int} {F f : Nat → Int} (h : cm n F f) (h0 : 0 ≤ n) : cm (n + 1) (r5 F n b0 b1 b2 b3 b4) (k4 f (111 + 4 * n) b0 b1 b2 b3) := fun r c a b x y => by
  unfold r5 k4
  by_cases e : r = n
  · subst e
    rcases (show c = 0 ∨ c = 1 ∨ c = 2 ∨ c = 3 by omega) with rfl | rfl | rfl | rfl
    · rw [show r * 5 + 0 = r * 5 by omega, show 111 + 4 * r + 0 = 111 + 4 * r by omega, uI_ne (by omega), uI_ne (by omega), uI_ne (by omega), uI_ne (by omega), uI_eq, uI_ne (by omega), uI_ne (by omega), uI_ne (by omega), uI_eq]
    · rw [uI_ne (by omega), uI_ne (by omega), uI_ne (by omega), uI_eq, uI_ne (by omega), uI_ne (by omega), uI_eq]
    · rw [uI_ne (by omega), uI_ne (by omega), uI_eq, uI_ne (by omega), uI_eq]
    · rw [uI_ne (by omega), uI_eq, uI_eq]
  · rw [uI_ne (by omega), uI_ne (by omega), uI_ne (by omega), uI_ne (by omega), uI_ne (by omega), uI_ne (by omega), uI_ne (by omega), uI_ne (by omega), uI_ne (by omega)]
    exact h r c a (by omega) x y
theorem lb_s {n bi b0 b1 b2 b3 b4 : Int} {F : Nat → Int} (h : lb n bi F) (h0 : 0 ≤ n) (hb : 0 ≤ b1 ∧ b1 < bi) : lb (n + 1) bi (r5 F n b0 b1 b2 b3 b4) := fun r a b => by
  unfold r5
  by_cases e : r = n
  · subst e
    rw [uI_ne (by omega), uI_ne (by omega), uI_ne (by omega), uI_eq]
    exact hb
  · rw [uI_ne (by omega), uI_ne (by omega), uI_ne (by omega), uI_ne (by omega), uI_ne (by omega)]
    exact h r a (by omega)
def VW (f : Nat → Int) (ap bi lc oc mc : Int) (Fd Fk Fn Fb Fl Fo Fm : Nat → Int) : Prop := (ap = f 0 ∧ bi = f 1 ∧ lc = f 2 ∧ oc = f 3 ∧ mc = f 4) ∧ ((0 ≤ ap ∧ ap ≤ 7) ∧ (0 ≤ bi ∧ bi ≤ 4) ∧ (0 ≤ lc ∧ lc ≤ 5) ∧ (0 ≤ oc ∧ oc ≤ 6) ∧ (0 ≤ mc ∧ mc ≤ 6)) ∧ cq 6 28 Fd f ∧ cq ap 34 Fk f ∧ cq bi 48 Fn f ∧ cq bi 52 Fb f ∧ cr lc 56 Fl f ∧ cr oc 81 Fo f ∧ cm mc Fm f ∧ lb lc bi Fl
theorem VW.damp {f : Nat → Int} {ap bi lc oc mc : Int} {Fd Fk Fn Fb Fl Fo Fm : Nat → Int} (h : VW f ap bi lc oc mc Fd Fk Fn Fb Fl Fo Fm) {d w : Int} (h0 : 0 ≤ d ∧ d ≤ 5) : VW (sDamp f d w) ap bi lc oc mc (uI Fd d.toNat w) Fk Fn Fb Fl Fo Fm := by
  obtain ⟨⟨e0, e1, e2, e3, e4⟩, ⟨g0, g1, g2, g3, g4⟩, hd, hk, hn, hb, hl, ho, hm, hL⟩ := h
  unfold sDamp
  exact ⟨⟨by rw [uI_ne (by omega)]; exact e0, by rw [uI_ne (by omega)]; exact e1, by rw [uI_ne (by omega)]; exact e2, by rw [uI_ne (by omega)]; exact e3, by rw [uI_ne (by omega)]; exact e4⟩, ⟨g0, g1, g2, g3, g4⟩, cq_u hd h0.1 (by omega), cq_o (hk) (fun p a b => by omega), cq_o (hn) (fun p a b => by omega), cq_o (hb) (fun p a b => by omega), cr_o (hl) (fun r c a b x y => by omega), cr_o (ho) (fun r c a b x y => by omega), cm_o (hm) (fun r c a b x y => by omega), hL⟩
theorem VW.apple {f : Nat → Int} {ap bi lc oc mc : Int} {Fd Fk Fn Fb Fl Fo Fm : Nat → Int} (h : VW f ap bi lc oc mc Fd Fk Fn Fb Fl Fo Fm) {k t r : Int} (h0 : ap < 7) : VW (sApple f k t r) (ap + 1) bi lc oc mc Fd (uI Fk ap.toNat k) Fn Fb Fl Fo Fm := by
  obtain ⟨⟨e0, e1, e2, e3, e4⟩, ⟨g0, g1, g2, g3, g4⟩, hd, hk, hn, hb, hl, ho, hm, hL⟩ := h
  subst e0
  unfold sApple
  exact ⟨⟨(uI_eq _ _ _).symm, by rw [uI_ne (by omega), uI_ne (by omega), uI_ne (by omega), uI_ne (by omega), uI_ne (by omega), uI_ne (by omega)]; exact e1, by rw [uI_ne (by omega), uI_ne (by omega), uI_ne (by omega), uI_ne (by omega), uI_ne (by omega), uI_ne (by omega)]; exact e2, by rw [uI_ne (by omega), uI_ne (by omega), uI_ne (by omega), uI_ne (by omega), uI_ne (by omega), uI_ne (by omega)]; exact e3, by rw [uI_ne (by omega), uI_ne (by omega), uI_ne (by omega), uI_ne (by omega), uI_ne (by omega), uI_ne (by omega)]; exact e4⟩, ⟨by omega, g1, g2, g3, g4⟩, cq_o (cq_o (cq_o (cq_o (cq_o (cq_o (hd) (fun p a b => by omega)) (fun p a b => by omega)) (fun p a b => by omega)) (fun p a b => by omega)) (fun p a b => by omega)) (fun p a b => by omega), cq_o (cq_o (cq_o (cq_o (cq_o (cq_s hk (by omega) (by omega)) (fun p a b => by omega)) (fun p a b => by omega)) (fun p a b => by omega)) (fun p a b => by omega)) (fun p a b => by omega), cq_o (cq_o (cq_o (cq_o (cq_o (cq_o (hn) (fun p a b => by omega)) (fun p a b => by omega)) (fun p a b => by omega)) (fun p a b => by omega)) (fun p a b => by omega)) (fun p a b => by omega), cq_o (cq_o (cq_o (cq_o (cq_o (cq_o (hb) (fun p a b => by omega)) (fun p a b => by omega)) (fun p a b => by omega)) (fun p a b => by omega)) (fun p a b => by omega)) (fun p a b => by omega), cr_o (cr_o (cr_o (cr_o (cr_o (cr_o (hl) (fun r c a b x y => by omega)) (fun r c a b x y => by omega)) (fun r c a b x y => by omega)) (fun r c a b x y => by omega)) (fun r c a b x y => by omega)) (fun r c a b x y => by omega), cr_o (cr_o (cr_o (cr_o (cr_o (cr_o (ho) (fun r c a b x y => by omega)) (fun r c a b x y => by omega)) (fun r c a b x y => by omega)) (fun r c a b x y => by omega)) (fun r c a b x y => by omega)) (fun r c a b x y => by omega), cm_o (cm_o (cm_o (cm_o (cm_o (cm_o (hm) (fun r c a b x y => by omega)) (fun r c a b x y => by omega)) (fun r c a b x y => by omega)) (fun r c a b x y => by omega)) (fun r c a b x y => by omega)) (fun r c a b x y => by omega), hL⟩
theorem VW.biter {f : Nat → Int} {ap bi lc oc mc : Int} {Fd Fk Fn Fb Fl Fo Fm : Nat → Int} (h : VW f ap bi lc oc mc Fd Fk Fn Fb Fl Fo Fm) {k b : Int} (h0 : bi < 4) : VW (sBiter f k b) ap (bi + 1) lc oc mc Fd Fk (uI Fn bi.toNat k) (uI Fb bi.toNat b) Fl Fo Fm := by
  obtain ⟨⟨e0, e1, e2, e3, e4⟩, ⟨g0, g1, g2, g3, g4⟩, hd, hk, hn, hb, hl, ho, hm, hL⟩ := h
  subst e1
  unfold sBiter
  exact ⟨⟨by rw [uI_ne (by omega), uI_ne (by omega), uI_ne (by omega)]; exact e0, (uI_eq _ _ _).symm, by rw [uI_ne (by omega), uI_ne (by omega), uI_ne (by omega)]; exact e2, by rw [uI_ne (by omega), uI_ne (by omega), uI_ne (by omega)]; exact e3, by rw [uI_ne (by omega), uI_ne (by omega), uI_ne (by omega)]; exact e4⟩, ⟨g0, by omega, g2, g3, g4⟩, cq_o (cq_o (cq_o (hd) (fun p a b => by omega)) (fun p a b => by omega)) (fun p a b => by omega), cq_o (cq_o (cq_o (hk) (fun p a b => by omega)) (fun p a b => by omega)) (fun p a b => by omega), cq_o (cq_o (cq_s hn (by omega) (by omega)) (fun p a b => by omega)) (fun p a b => by omega), cq_o (cq_s (cq_o (hb) (fun p a b => by omega)) (by omega) (by omega)) (fun p a b => by omega), cr_o (cr_o (cr_o (hl) (fun r c a b x y => by omega)) (fun r c a b x y => by omega)) (fun r c a b x y => by omega), cr_o (cr_o (cr_o (ho) (fun r c a b x y => by omega)) (fun r c a b x y => by omega)) (fun r c a b x y => by omega), cm_o (cm_o (cm_o (hm) (fun r c a b x y => by omega)) (fun r c a b x y => by omega)) (fun r c a b x y => by omega), (fun r a b => ⟨(hL r a b).1, by have := (hL r a b).2; omega⟩)⟩
theorem cq_l5 {n o t a b c d e : Int} {F f : Nat → Int} (h : cq n o F f) (ho : 0 ≤ o) (hk : o + n ≤ t ∨ t + 5 ≤ o) (ht : 0 ≤ t) : cq n o F (l5 f t a b c d e) := by
  unfold l5
  exact cq_o (cq_o (cq_o (cq_o (cq_o h (fun p a b => by omega)) (fun p a b => by omega)) (fun p a b => by omega)) (fun p a b => by omega)) (fun p a b => by omega)
theorem cr_l5 {n o t a b c d e : Int} {F f : Nat → Int} (h : cr n o F f) (ho : 0 ≤ o) (hk : o + 5 * n ≤ t ∨ t + 5 ≤ o) (ht : 0 ≤ t) : cr n o F (l5 f t a b c d e) := by
  unfold l5
  exact cr_o (cr_o (cr_o (cr_o (cr_o h (fun r c a b x y => by omega)) (fun r c a b x y => by omega)) (fun r c a b x y => by omega)) (fun r c a b x y => by omega)) (fun r c a b x y => by omega)
theorem cm_l5 {n t a b c d e : Int} {F f : Nat → Int} (h : cm n F f) (hk : t + 5 ≤ 111) (ht : 0 ≤ t) : cm n F (l5 f t a b c d e) := by
  unfold l5
  exact cm_o (cm_o (cm_o (cm_o (cm_o h (fun r c a b x y => by omega)) (fun r c a b x y => by omega)) (fun r c a b x y => by omega)) (fun r c a b x y => by omega)) (fun r c a b x y => by omega)
theorem cq_k4 {n o t a b c d : Int} {F f : Nat → Int} (h : cq n o F f) (ho : 0 ≤ o) (hk : o + n ≤ t) (ht : 0 ≤ t) : cq n o F (k4 f t a b c d) := by
  unfold k4
  exact cq_o (cq_o (cq_o (cq_o h (fun p a b => by omega)) (fun p a b => by omega)) (fun p a b => by omega)) (fun p a b => by omega)
theorem cr_k4 {n o t a b c d : Int} {F f : Nat → Int} (h : cr n o F f) (ho : 0 ≤ o) (hk : o + 5 * n ≤ t) (ht : 0 ≤ t) : cr n o F (k4 f t a b c d) := by
  unfold k4
  exact cr_o (cr_o (cr_o (cr_o h (fun r c a b x y => by omega)) (fun r c a b x y => by omega)) (fun r c a b x y => by omega)) (fun r c a b x y => by omega)
theorem k4_o {F : Nat → Int} {t a b c d : Int} {j : Nat} (h : 56 ≤ t) (hj : j < 56) : k4 F t a b c d j = F j := by
  unfold k4
  rw [uI_ne (by omega), uI_ne (by omega), uI_ne (by omega), uI_ne (by omega)]
theorem VW.left {f : Nat → Int} {ap bi lc oc mc : Int} {Fd Fk Fn Fb Fl Fo Fm : Nat → Int} (h : VW f ap bi lc oc mc Fd Fk Fn Fb Fl Fo Fm) {a1 a2 a3 a4 a5 : Int} (h0 : lc < 5) (h2 : 0 ≤ a2 ∧ a2 < bi) : VW (uI (l5 f (56 + 5 * f 2) a1 a2 a3 a4 a5) 2 (f 2 + 1)) ap bi (lc + 1) oc mc Fd Fk Fn Fb (r5 Fl lc a1 a2 a3 a4 a5) Fo Fm := by
  obtain ⟨⟨e0, e1, e2, e3, e4⟩, ⟨g0, g1, g2, g3, g4⟩, hd, hk, hn, hb, hl, ho, hm, hL⟩ := h
  subst e2
  exact ⟨⟨by rw [uI_ne (by omega), l5_o (by omega) (by omega)]; exact e0, by rw [uI_ne (by omega), l5_o (by omega) (by omega)]; exact e1, (uI_eq _ _ _).symm, by rw [uI_ne (by omega), l5_o (by omega) (by omega)]; exact e3, by rw [uI_ne (by omega), l5_o (by omega) (by omega)]; exact e4⟩, ⟨g0, g1, by omega, g3, g4⟩, cq_o (cq_l5 hd (by omega) (by omega) (by omega)) (fun p a b => by omega), cq_o (cq_l5 hk (by omega) (by omega) (by omega)) (fun p a b => by omega), cq_o (cq_l5 hn (by omega) (by omega) (by omega)) (fun p a b => by omega), cq_o (cq_l5 hb (by omega) (by omega) (by omega)) (fun p a b => by omega), cr_o (cr_s hl (by omega) (by omega)) (fun r c a b x y => by omega), cr_o (cr_l5 ho (by omega) (by omega) (by omega)) (fun r c a b x y => by omega), cm_o (cm_l5 hm (by omega) (by omega)) (fun r c a b x y => by omega), lb_s hL (by omega) h2⟩
theorem VW.note {f : Nat → Int} {ap bi lc oc mc : Int} {Fd Fk Fn Fb Fl Fo Fm : Nat → Int} (h : VW f ap bi lc oc mc Fd Fk Fn Fb Fl Fo Fm) {a1 a2 a3 a4 a5 : Int} (h0 : oc < 6) : VW (uI (l5 f (81 + 5 * f 3) a1 a2 a3 a4 a5) 3 (f 3 + 1)) ap bi lc (oc + 1) mc Fd Fk Fn Fb Fl (r5 Fo oc a1 a2 a3 a4 a5) Fm := by
  obtain ⟨⟨e0, e1, e2, e3, e4⟩, ⟨g0, g1, g2, g3, g4⟩, hd, hk, hn, hb, hl, ho, hm, hL⟩ := h
  subst e3
  exact ⟨⟨by rw [uI_ne (by omega), l5_o (by omega) (by omega)]; exact e0, by rw [uI_ne (by omega), l5_o (by omega) (by omega)]; exact e1, by rw [uI_ne (by omega), l5_o (by omega) (by omega)]; exact e2, (uI_eq _ _ _).symm, by rw [uI_ne (by omega), l5_o (by omega) (by omega)]; exact e4⟩, ⟨g0, g1, g2, by omega, g4⟩, cq_o (cq_l5 hd (by omega) (by omega) (by omega)) (fun p a b => by omega), cq_o (cq_l5 hk (by omega) (by omega) (by omega)) (fun p a b => by omega), cq_o (cq_l5 hn (by omega) (by omega) (by omega)) (fun p a b => by omega), cq_o (cq_l5 hb (by omega) (by omega) (by omega)) (fun p a b => by omega), cr_o (cr_l5 hl (by omega) (by omega) (by omega)) (fun r c a b x y => by omega), cr_o (cr_s ho (by omega) (by omega)) (fun r c a b x y => by omega), cm_o (cm_l5 hm (by omega) (by omega)) (fun r c a b x y => by omega), hL⟩
theorem VW.mark {f : Nat → Int} {ap bi lc oc mc : Int} {Fd Fk Fn Fb Fl Fo Fm : Nat → Int} (h : VW f ap bi lc oc mc Fd Fk Fn Fb Fl Fo Fm) {a1 a2 a3 a4 : Int} (h0 : mc < 6) : VW (uI (k4 f (111 + 4 * f 4) a1 a2 a3 a4) 4 (f 4 + 1)) ap bi lc oc (mc + 1) Fd Fk Fn Fb Fl Fo (r5 Fm mc a1 a2 a3 a4 0) := by
  obtain ⟨⟨e0, e1, e2, e3, e4⟩, ⟨g0, g1, g2, g3, g4⟩, hd, hk, hn, hb, hl, ho, hm, hL⟩ := h
  subst e4
  exact ⟨⟨by rw [uI_ne (by omega), k4_o (by omega) (by omega)]; exact e0, by rw [uI_ne (by omega), k4_o (by omega) (by omega)]; exact e1, by rw [uI_ne (by omega), k4_o (by omega) (by omega)]; exact e2, by rw [uI_ne (by omega), k4_o (by omega) (by omega)]; exact e3, (uI_eq _ _ _).symm⟩, ⟨g0, g1, g2, g3, by omega⟩, cq_o (cq_k4 hd (by omega) (by omega) (by omega)) (fun p a b => by omega), cq_o (cq_k4 hk (by omega) (by omega) (by omega)) (fun p a b => by omega), cq_o (cq_k4 hn (by omega) (by omega) (by omega)) (fun p a b => by omega), cq_o (cq_k4 hb (by omega) (by omega) (by omega)) (fun p a b => by omega), cr_o (cr_k4 hl (by omega) (by omega) (by omega)) (fun r c a b x y => by omega), cr_o (cr_k4 ho (by omega) (by omega) (by omega)) (fun r c a b x y => by omega), cm_o (cm_s hm (by omega)) (fun r c a b x y => by omega), hL⟩
theorem VW.forget0 {f : Nat → Int} {ap bi lc oc mc : Int} {Fd Fk Fn Fb Fl Fo Fm : Nat → Int} (h : VW f ap bi lc oc mc Fd Fk Fn Fb Fl Fo Fm)  : VW (uI f 2 0) ap bi 0 oc mc Fd Fk Fn Fb Fl Fo Fm := by
  obtain ⟨⟨e0, e1, e2, e3, e4⟩, ⟨g0, g1, g2, g3, g4⟩, hd, hk, hn, hb, hl, ho, hm, hL⟩ := h
  exact ⟨⟨by rw [uI_ne (by omega)]; exact e0, by rw [uI_ne (by omega)]; exact e1, (uI_eq _ _ _).symm, by rw [uI_ne (by omega)]; exact e3, by rw [uI_ne (by omega)]; exact e4⟩, ⟨g0, g1, by omega, g3, g4⟩, cq_o (hd) (fun p a b => by omega), cq_o (hk) (fun p a b => by omega), cq_o (hn) (fun p a b => by omega), cq_o (hb) (fun p a b => by omega), (fun r c a b => absurd a (by omega)), cr_o (ho) (fun r c a b x y => by omega), cm_o (hm) (fun r c a b x y => by omega), (fun r a b => absurd a (by omega))⟩
theorem VW.forget1 {f : Nat → Int} {ap bi lc oc mc : Int} {Fd Fk Fn Fb Fl Fo Fm : Nat → Int} (h : VW f ap bi lc oc mc Fd Fk Fn Fb Fl Fo Fm)  : VW (uI f 3 0) ap bi lc 0 mc Fd Fk Fn Fb Fl Fo Fm := by
  obtain ⟨⟨e0, e1, e2, e3, e4⟩, ⟨g0, g1, g2, g3, g4⟩, hd, hk, hn, hb, hl, ho, hm, hL⟩ := h
  exact ⟨⟨by rw [uI_ne (by omega)]; exact e0, by rw [uI_ne (by omega)]; exact e1, by rw [uI_ne (by omega)]; exact e2, (uI_eq _ _ _).symm, by rw [uI_ne (by omega)]; exact e4⟩, ⟨g0, g1, g2, by omega, g4⟩, cq_o (hd) (fun p a b => by omega), cq_o (hk) (fun p a b => by omega), cq_o (hn) (fun p a b => by omega), cq_o (hb) (fun p a b => by omega), cr_o (hl) (fun r c a b x y => by omega), (fun r c a b => absurd a (by omega)), cm_o (hm) (fun r c a b x y => by omega), hL⟩
theorem VW.forget2 {f : Nat → Int} {ap bi lc oc mc : Int} {Fd Fk Fn Fb Fl Fo Fm : Nat → Int} (h : VW f ap bi lc oc mc Fd Fk Fn Fb Fl Fo Fm)  : VW (uI f 4 0) ap bi lc oc 0 Fd Fk Fn Fb Fl Fo Fm := by
  obtain ⟨⟨e0, e1, e2, e3, e4⟩, ⟨g0, g1, g2, g3, g4⟩, hd, hk, hn, hb, hl, ho, hm, hL⟩ := h
  exact ⟨⟨by rw [uI_ne (by omega)]; exact e0, by rw [uI_ne (by omega)]; exact e1, by rw [uI_ne (by omega)]; exact e2, by rw [uI_ne (by omega)]; exact e3, (uI_eq _ _ _).symm⟩, ⟨g0, g1, g2, g3, by omega⟩, cq_o (hd) (fun p a b => by omega), cq_o (hk) (fun p a b => by omega), cq_o (hn) (fun p a b => by omega), cq_o (hb) (fun p a b => by omega), cr_o (hl) (fun r c a b x y => by omega), cr_o (ho) (fun r c a b x y => by omega), (fun r c a b => absurd a (by omega)), hL⟩
theorem VW.zero {Fd Fk Fn Fb Fl Fo Fm : Nat → Int} (h : zq 6 Fd) : VW z0 0 0 0 0 0 Fd Fk Fn Fb Fl Fo Fm := ⟨⟨rfl, rfl, rfl, rfl, rfl⟩, ⟨by omega, by omega, by omega, by omega, by omega⟩, fun p a b => h p a b, (fun p a b => absurd a (by omega)), (fun p a b => absurd a (by omega)), (fun p a b => absurd a (by omega)), (fun r c a b => absurd a (by omega)), (fun r c a b => absurd a (by omega)), (fun r c a b => absurd a (by omega)), (fun r a b => absurd a (by omega))⟩
theorem VW.read {f : Nat → Int} {ap bi dy : Int} {Fd Fk Fr Fn Fb FT FG FF Fl Fo Fm : Nat → Int} (h : VR f ap bi dy Fd Fk Fr Fn Fb FT FG FF) : VW f ap bi 0 0 0 Fd Fk Fn Fb Fl Fo Fm := by
  obtain ⟨⟨e0, e1, e2, q0, q1, q2, q3, q4⟩, hd, hk, hr, hn, hb, hT, hG, hF⟩ := h
  exact ⟨⟨e0, e1, q2.symm, q3.symm, q4.symm⟩, ⟨q0, q1, by omega, by omega, by omega⟩, hd, hk, hn, hb, (fun r c a b => absurd a (by omega)), (fun r c a b => absurd a (by omega)), (fun r c a b => absurd a (by omega)), (fun r a b => absurd a (by omega))⟩
