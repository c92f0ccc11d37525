def mRed (t w : Int) : Int := max 0 (min 9 t - w)
def mBr (t a w : Int) : Int := mRed t w + min 6 (a / 4)
def mGr (t a w : Int) : Int := max 0 (mRed t w - a / 3)
def mHard (k t a w : Int) : Int := if k = 1 then mBr t a w else if k = 2 then mGr t a w else if k = 3 then mGr t a w / 2 else if k = 4 then mBr t a w + 5 else if k = 5 then min 20 (2 * mBr t a w) else mRed t w
def mPl (b h : Int) : Int := max 0 (b - h)
def mTake (k b h : Int) : Int := if k = 1 then mPl b h / 2 else if k = 2 then max 1 (mPl b h) else if k = 3 then (if h ≤ 2 then max 1 (mPl b h) + 2 else max 1 (mPl b h)) else if k = 4 then (if 1 ≤ mPl b h then mPl b h + 1 else 0) else if k = 5 then 2 * (if 1 ≤ mPl b h then mPl b h + 1 else 0) else mPl b h
def mOff (k n b t a d : Int) : Int := min t (mTake n b (mHard k t a d))
def sApple (f : Nat → Int) (k t r : Int) : Nat → Int := uI (uI (uI (uI (uI (uI f (34 + f 0).toNat k) (6 + f 0).toNat t) (41 + f 0).toNat r) (13 + f 0).toNat 0) (20 + f 0).toNat 0) 0 (f 0 + 1)
def sBiter (f : Nat → Int) (k b : Int) : Nat → Int := uI (uI (uI f (48 + f 1).toNat k) (52 + f 1).toNat b) 1 (f 1 + 1)
def sOff (f : Nat → Int) (b p : Int) : Int := mOff (f (34 + p).toNat) (f (48 + b).toNat) (f (52 + b).toNat) (f (6 + p).toNat) (f (13 + p).toNat) (f (28 + f 27 % 6).toNat)
def sBite (f : Nat → Int) (b p : Int) : Nat → Int := uI (uI f (6 + p).toNat (f (6 + p).toNat - sOff f b p)) (20 + p).toNat (if f (6 + p).toNat - sOff f b p = 0 then (if f (41 + p).toNat ≤ f (13 + p).toNat then 1 else 2) else 0)
def sDip (f : Nat → Int) (p n : Int) : Nat → Int := uI f (6 + p).toNat (min 30 (f (6 + p).toNat + n))
def sDM (f : Nat → Int) (m : Int) : Nat → Int := fun j => if 13 ≤ j ∧ (j : Int) < 13 + f 0 ∧ f (j + 7) = 0 then f j + m else if j = 27 then f j + m else f j
def sDays (f : Nat → Int) (n : Int) : Nat → Int := sDM f (max 0 (min n (999 - f 27)))
def sDamp (f : Nat → Int) (d w : Int) : Nat → Int := uI f (28 + d).toNat w
/-- so many places of F are those of f from o on -/
def cq (n o : Int) (F f : Nat → Int) : Prop := ∀ p : Int, 0 ≤ p → p < n → F p.toNat = f (o + p).toNat
theorem cq_o {n o v : Int} {F f : Nat → Int} {k : Nat} (h : cq n o F f) (hk : ∀ p : Int, 0 ≤ p → p < n → (o + p).toNat ≠ k) : cq n o F (uI f k v) := fun p h0 h1 => by
  rw [uI_ne (hk p h0 h1)]
  exact h p h0 h1
theorem cq_s {n o v : Int} {F f : Nat → Int} (h : cq n o F f) (h0 : 0 ≤ n) (ho : 0 ≤ o) : cq (n + 1) o (uI F n.toNat v) (uI f (o + n).toNat v) := fun p h1 h2 => by
  by_cases e : p = n
  · subst e
    rw [uI_eq, uI_eq]
  · rw [uI_ne (by omega), uI_ne (by omega)]
    exact h p h1 (by omega)
theorem cq_u {n o q v : Int} {F f : Nat → Int} (h : cq n o F f) (h0 : 0 ≤ q) (ho : 0 ≤ o) : cq n o (uI F q.toNat v) (uI f (o + q).toNat v) := fun p h1 h2 => by
  by_cases e : p = q
  · subst e
    rw [uI_eq, uI_eq]
  · rw [uI_ne (by omega), uI_ne (by omega)]
    exact h p h1 h2
theorem cq_v {n o q v : Int} {F f : Nat → Int} (h : cq n o F f) (h0 : 0 ≤ q) (hq : q < n) (ho : 0 ≤ o) (hv : v = F q.toNat) : cq n o F (uI f (o + q).toNat v) := fun p h1 h2 => by
  by_cases e : p = q
  · subst e
    rw [uI_eq, hv]
  · rw [uI_ne (by omega)]
    exact h p h1 h2
def z0 : Nat → Int := fun _ => 0
def VR (f : Nat → Int) (ap bi dy : Int) (Fd Fk Fr Fn Fb FT FG FF : Nat → Int) : Prop := (ap = f 0 ∧ bi = f 1 ∧ dy = f 27 ∧ (0 ≤ ap ∧ ap ≤ 7) ∧ (0 ≤ bi ∧ bi ≤ 4) ∧ f 2 = 0 ∧ f 3 = 0 ∧ f 4 = 0) ∧ cq 6 28 Fd f ∧ cq ap 34 Fk f ∧ cq ap 41 Fr f ∧ cq bi 48 Fn f ∧ cq bi 52 Fb f ∧ cq ap 6 FT f ∧ cq ap 13 FG f ∧ cq ap 20 FF f
theorem VR.apple {f : Nat → Int} {ap bi dy : Int} {Fd Fk Fr Fn Fb FT FG FF : Nat → Int} (h : VR f ap bi dy Fd Fk Fr Fn Fb FT FG FF) (ha : ap < 7) (k t r : Int) : VR (sApple f k t r) (ap + 1) bi dy Fd (uI Fk ap.toNat k) (uI Fr ap.toNat r) Fn Fb (uI FT ap.toNat t) (uI FG ap.toNat 0) (uI FF ap.toNat 0) := by
  obtain ⟨⟨e0, e1, e2, h0, h1, z2, z3, z4⟩, hd, hk, hr, hn, hb, hT, hG, hF⟩ := h
  subst e0
  unfold sApple
  refine ⟨⟨(uI_eq _ _ _).symm, ?_, ?_, by omega, h1, by rw [uI_ne (by omega), uI_ne (by omega), uI_ne (by omega), uI_ne (by omega), uI_ne (by omega), uI_ne (by omega)]; exact z2, by rw [uI_ne (by omega), uI_ne (by omega), uI_ne (by omega), uI_ne (by omega), uI_ne (by omega), uI_ne (by omega)]; exact z3, by rw [uI_ne (by omega), uI_ne (by omega), uI_ne (by omega), uI_ne (by omega), uI_ne (by omega), uI_ne (by omega)]; exact z4⟩, ?_, ?_, ?_, ?_, ?_, ?_, ?_, ?_⟩
  · rw [uI_ne (by omega), uI_ne (by omega), uI_ne (by omega), uI_ne (by omega), uI_ne (by omega), uI_ne (by omega)]
    exact e1
  · rw [uI_ne (by omega), uI_ne (by omega), uI_ne (by omega), uI_ne (by omega), uI_ne (by omega), uI_ne (by omega)]
    exact e2
  · exact cq_o (cq_o (cq_o (cq_o (cq_o (cq_o hd (fun p a b => by omega)) (fun p a b => by omega)) (fun p a b => by omega)) (fun p a b => by omega)) (fun p a b => by omega)) (fun p a b => by omega)
  · exact cq_o (cq_o (cq_o (cq_o (cq_o (cq_s hk (by omega) (by omega)) (fun p a b => by omega)) (fun p a b => by omega)) (fun p a b => by omega)) (fun p a b => by omega)) (fun p a b => by omega)
  · exact cq_o (cq_o (cq_o (cq_s (cq_o (cq_o hr (fun p a b => by omega)) (fun p a b => by omega)) (by omega) (by omega)) (fun p a b => by omega)) (fun p a b => by omega)) (fun p a b => by omega)
  · exact cq_o (cq_o (cq_o (cq_o (cq_o (cq_o hn (fun p a b => by omega)) (fun p a b => by omega)) (fun p a b => by omega)) (fun p a b => by omega)) (fun p a b => by omega)) (fun p a b => by omega)
  · exact cq_o (cq_o (cq_o (cq_o (cq_o (cq_o hb (fun p a b => by omega)) (fun p a b => by omega)) (fun p a b => by omega)) (fun p a b => by omega)) (fun p a b => by omega)) (fun p a b => by omega)
  · exact cq_o (cq_o (cq_o (cq_o (cq_s (cq_o hT (fun p a b => by omega)) (by omega) (by omega)) (fun p a b => by omega)) (fun p a b => by omega)) (fun p a b => by omega)) (fun p a b => by omega)
  · exact cq_o (cq_o (cq_s (cq_o (cq_o (cq_o hG (fun p a b => by omega)) (fun p a b => by omega)) (fun p a b => by omega)) (by omega) (by omega)) (fun p a b => by omega)) (fun p a b => by omega)
  · exact cq_o (cq_s (cq_o (cq_o (cq_o (cq_o hF (fun p a b => by omega)) (fun p a b => by omega)) (fun p a b => by omega)) (fun p a b => by omega)) (by omega) (by omega)) (fun p a b => by omega)
theorem VR.biter {f : Nat → Int} {ap bi dy : Int} {Fd Fk Fr Fn Fb FT FG FF : Nat → Int} (h : VR f ap bi dy Fd Fk Fr Fn Fb FT FG FF) (ha : bi < 4) (k b : Int) : VR (sBiter f k b) ap (bi + 1) dy Fd Fk Fr (uI Fn bi.toNat k) (uI Fb bi.toNat b) FT FG FF := by
  obtain ⟨⟨e0, e1, e2, h0, h1, z2, z3, z4⟩, hd, hk, hr, hn, hb, hT, hG, hF⟩ := h
  subst e1
  unfold sBiter
  refine ⟨⟨?_, (uI_eq _ _ _).symm, ?_, h0, by omega, by rw [uI_ne (by omega), uI_ne (by omega), uI_ne (by omega)]; exact z2, by rw [uI_ne (by omega), uI_ne (by omega), uI_ne (by omega)]; exact z3, by rw [uI_ne (by omega), uI_ne (by omega), uI_ne (by omega)]; exact z4⟩, ?_, ?_, ?_, ?_, ?_, ?_, ?_, ?_⟩
  · rw [uI_ne (by omega), uI_ne (by omega), uI_ne (by omega)]
    exact e0
  · rw [uI_ne (by omega), uI_ne (by omega), uI_ne (by omega)]
    exact e2
  · exact cq_o (cq_o (cq_o hd (fun p a b => by omega)) (fun p a b => by omega)) (fun p a b => by omega)
  · exact cq_o (cq_o (cq_o hk (fun p a b => by omega)) (fun p a b => by omega)) (fun p a b => by omega)
  · exact cq_o (cq_o (cq_o hr (fun p a b => by omega)) (fun p a b => by omega)) (fun p a b => by omega)
  · exact cq_o (cq_o (cq_s hn (by omega) (by omega)) (fun p a b => by omega)) (fun p a b => by omega)
  · exact cq_o (cq_s (cq_o hb (fun p a b => by omega)) (by omega) (by omega)) (fun p a b => by omega)
  · exact cq_o (cq_o (cq_o hT (fun p a b => by omega)) (fun p a b => by omega)) (fun p a b => by omega)
  · exact cq_o (cq_o (cq_o hG (fun p a b => by omega)) (fun p a b => by omega)) (fun p a b => by omega)
  · exact cq_o (cq_o (cq_o hF (fun p a b => by omega)) (fun p a b => by omega)) (fun p a b => by omega)
theorem VR.damp {f : Nat → Int} {ap bi dy : Int} {Fd Fk Fr Fn Fb FT FG FF : Nat → Int} (h : VR f ap bi dy Fd Fk Fr Fn Fb FT FG FF) {d : Int} (h0 : 0 ≤ d) (h1 : d < 6) (w : Int) : VR (sDamp f d w) ap bi dy (uI Fd d.toNat w) Fk Fr Fn Fb FT FG FF := by
  obtain ⟨⟨e0, e1, e2, q0, q1, z2, z3, z4⟩, hd, hk, hr, hn, hb, hT, hG, hF⟩ := h
  unfold sDamp
  refine ⟨⟨?_, ?_, ?_, q0, q1, by rw [uI_ne (by omega)]; exact z2, by rw [uI_ne (by omega)]; exact z3, by rw [uI_ne (by omega)]; exact z4⟩, cq_u hd h0 (by omega), cq_o hk (fun p a b => by omega), cq_o hr (fun p a b => by omega), cq_o hn (fun p a b => by omega), cq_o hb (fun p a b => by omega), cq_o hT (fun p a b => by omega), cq_o hG (fun p a b => by omega), cq_o hF (fun p a b => by omega)⟩
  · rw [uI_ne (by omega)]
    exact e0
  · rw [uI_ne (by omega)]
    exact e1
  · rw [uI_ne (by omega)]
    exact e2
theorem VR.dip {f : Nat → Int} {ap bi dy : Int} {Fd Fk Fr Fn Fb FT FG FF : Nat → Int} (h : VR f ap bi dy Fd Fk Fr Fn Fb FT FG FF) {p n : Int} (h0 : 0 ≤ p) (h1 : p < ap) {v : Int} (hv : v = min 30 (FT p.toNat + n)) : VR (sDip f p n) ap bi dy Fd Fk Fr Fn Fb (uI FT p.toNat v) FG FF := by
  obtain ⟨⟨e0, e1, e2, q0, q1, z2, z3, z4⟩, hd, hk, hr, hn, hb, hT, hG, hF⟩ := h
  rw [hT p h0 h1] at hv
  subst hv
  unfold sDip
  refine ⟨⟨?_, ?_, ?_, q0, q1, by rw [uI_ne (by omega)]; exact z2, by rw [uI_ne (by omega)]; exact z3, by rw [uI_ne (by omega)]; exact z4⟩, cq_o hd (fun p a b => by omega), cq_o hk (fun p a b => by omega), cq_o hr (fun p a b => by omega), cq_o hn (fun p a b => by omega), cq_o hb (fun p a b => by omega), cq_u hT h0 (by omega), cq_o hG (fun p a b => by omega), cq_o hF (fun p a b => by omega)⟩
  · rw [uI_ne (by omega)]
    exact e0
  · rw [uI_ne (by omega)]
    exact e1
  · rw [uI_ne (by omega)]
    exact e2
theorem VR.off {f : Nat → Int} {ap bi dy : Int} {Fd Fk Fr Fn Fb FT FG FF : Nat → Int} (h : VR f ap bi dy Fd Fk Fr Fn Fb FT FG FF) {p b : Int} (h0 : 0 ≤ p) (h1 : p < ap) (h2 : 0 ≤ b) (h3 : b < bi) : mOff (Fk p.toNat) (Fn b.toNat) (Fb b.toNat) (FT p.toNat) (FG p.toNat) (Fd (dy % 6).toNat) = sOff f b p := by
  obtain ⟨⟨e0, e1, e2, q0, q1, z2, z3, z4⟩, hd, hk, hr, hn, hb, hT, hG, hF⟩ := h
  unfold sOff
  rw [hk p h0 h1, hn b h2 h3, hb b h2 h3, hT p h0 h1, hG p h0 h1, hd (dy % 6) (by omega) (by omega), e2]
def btR (Fd Fk Fr Fn Fb T G F : Nat → Int) (dy b p rr : Int) (NT NF : Nat → Int) : Prop := (¬ (F p.toNat = 0) ∧ rr = 0 ∧ NT = T ∧ NF = F) ∨ (F p.toNat = 0 ∧ rr = mOff (Fk p.toNat) (Fn b.toNat) (Fb b.toNat) (T p.toNat) (G p.toNat) (Fd (dy % 6).toNat) ∧ NT = uI T p.toNat (T p.toNat - rr) ∧ ((¬ (T p.toNat - rr = 0) ∧ NF = F) ∨ (T p.toNat - rr = 0 ∧ ∃ z : Int, NF = uI F p.toNat z ∧ ((Fr p.toNat ≤ G p.toNat ∧ z = 1) ∨ (G p.toNat < Fr p.toNat ∧ z = 2)))))
theorem VR.bite {f : Nat → Int} {ap bi dy : Int} {Fd Fk Fr Fn Fb FT FG FF : Nat → Int} (h : VR f ap bi dy Fd Fk Fr Fn Fb FT FG FF) {p b rr : Int} (h0 : 0 ≤ p) (h1 : p < ap) (h2 : 0 ≤ b) (h3 : b < bi) {NT NF : Nat → Int} (hR : btR Fd Fk Fr Fn Fb FT FG FF dy b p rr NT NF) (hF0 : FF p.toNat = 0) : VR (sBite f b p) ap bi dy Fd Fk Fr Fn Fb NT FG NF := by
  unfold btR at hR
  rw [h.off h0 h1 h2 h3] at hR
  obtain ⟨⟨e0, e1, e2, q0, q1, z2, z3, z4⟩, hd, hk, hr, hn, hb, hT, hG, hF⟩ := h
  rcases hR with ⟨a0, _⟩ | ⟨_, rfl, rfl, hN⟩
  · exact absurd hF0 a0
  rw [hT p h0 h1, hr p h0 h1, hG p h0 h1] at hN
  rw [hT p h0 h1]
  unfold sBite
  generalize hv : f (6 + p).toNat - sOff f b p = v at hN ⊢
  have hT2 := cq_u (v := v) hT h0 (show (0 : Int) ≤ 6 by omega)
  have hF2 := cq_o (v := v) (k := (6 + p).toNat) hF (fun p a b => by omega)
  refine ⟨⟨?_, ?_, ?_, q0, q1, by rw [uI_ne (by omega), uI_ne (by omega)]; exact z2, by rw [uI_ne (by omega), uI_ne (by omega)]; exact z3, by rw [uI_ne (by omega), uI_ne (by omega)]; exact z4⟩, cq_o (cq_o hd (fun p a b => by omega)) (fun p a b => by omega), cq_o (cq_o hk (fun p a b => by omega)) (fun p a b => by omega), cq_o (cq_o hr (fun p a b => by omega)) (fun p a b => by omega), cq_o (cq_o hn (fun p a b => by omega)) (fun p a b => by omega), cq_o (cq_o hb (fun p a b => by omega)) (fun p a b => by omega), cq_o hT2 (fun p a b => by omega), cq_o (cq_o hG (fun p a b => by omega)) (fun p a b => by omega), ?_⟩
  · rw [uI_ne (by omega), uI_ne (by omega)]
    exact e0
  · rw [uI_ne (by omega), uI_ne (by omega)]
    exact e1
  · rw [uI_ne (by omega), uI_ne (by omega)]
    exact e2
  · rcases hN with ⟨a1, rfl⟩ | ⟨a1, z, rfl, a3⟩
    · rw [if_neg a1]
      exact cq_v hF2 h0 h1 (by omega) hF0.symm
    · rw [if_pos a1]
      rcases a3 with ⟨a4, rfl⟩ | ⟨a4, rfl⟩
      · rw [if_pos a4]
        exact cq_u hF2 h0 (by omega)
      · rw [if_neg (by omega)]
        exact cq_u hF2 h0 (by omega)
/-- AGES behind m DAYS -/
def pdN (FF : Nat → Int) (ap m : Int) (FG : Nat → Int) : Nat → Int := fun j => if (j : Int) < ap ∧ FF j = 0 then FG j + m else FG j
theorem pdN_0 (FF : Nat → Int) (ap : Int) (FG : Nat → Int) : pdN FF ap 0 FG = FG := funext (fun j => by
  unfold pdN
  split
  · omega
  · rfl)
theorem pdN_add (FF : Nat → Int) (ap m n : Int) (FG : Nat → Int) : pdN FF ap n (pdN FF ap m FG) = pdN FF ap (m + n) FG := funext (fun j => by
  unfold pdN
  by_cases c : (j : Int) < ap ∧ FF j = 0
  · rw [if_pos c, if_pos c, if_pos c]
    omega
  · rw [if_neg c, if_neg c, if_neg c])
theorem sDM_o {f : Nat → Int} {m : Int} {j : Nat} (h0 : f 0 ≤ 7) (h1 : j < 13 ∨ 20 ≤ j) (h2 : j ≠ 27) : sDM f m j = f j := by
  unfold sDM
  rw [if_neg (by omega), if_neg h2]
theorem VR.days {f : Nat → Int} {ap bi dy : Int} {Fd Fk Fr Fn Fb FT FG FF : Nat → Int} (h : VR f ap bi dy Fd Fk Fr Fn Fb FT FG FF) (m : Int) : VR (sDM f m) ap bi (dy + m) Fd Fk Fr Fn Fb FT (pdN FF ap m FG) FF := by
  obtain ⟨⟨e0, e1, e2, q0, q1, z2, z3, z4⟩, hd, hk, hr, hn, hb, hT, hG, hF⟩ := h
  have h7 : f 0 ≤ 7 := by omega
  refine ⟨⟨?_, ?_, ?_, q0, q1, by rw [sDM_o h7 (by omega) (by omega)]; exact z2, by rw [sDM_o h7 (by omega) (by omega)]; exact z3, by rw [sDM_o h7 (by omega) (by omega)]; exact z4⟩, ?_, ?_, ?_, ?_, ?_, ?_, ?_, ?_⟩
  · rw [sDM_o h7 (by omega) (by omega)]; exact e0
  · rw [sDM_o h7 (by omega) (by omega)]; exact e1
  · unfold sDM
    rw [if_neg (by omega), if_pos rfl, e2]
  · intro p a b; rw [sDM_o h7 (by omega) (by omega)]; exact hd p a b
  · intro p a b; rw [sDM_o h7 (by omega) (by omega)]; exact hk p a b
  · intro p a b; rw [sDM_o h7 (by omega) (by omega)]; exact hr p a b
  · intro p a b; rw [sDM_o h7 (by omega) (by omega)]; exact hn p a b
  · intro p a b; rw [sDM_o h7 (by omega) (by omega)]; exact hb p a b
  · intro p a b; rw [sDM_o h7 (by omega) (by omega)]; exact hT p a b
  · intro p a b
    have q2 := hG p a b
    have q3 := hF p a b
    have q4 : (13 + p).toNat + 7 = (20 + p).toNat := by omega
    unfold sDM pdN
    rw [q4, ← q3, ← q2]
    by_cases c : FF p.toNat = 0
    · rw [if_pos ⟨by omega, c⟩, if_pos ⟨by omega, by omega, c⟩]
    · rw [if_neg (fun q => c q.2), if_neg (fun q => c q.2.2), if_neg (by omega)]
  · intro p a b; rw [sDM_o h7 (by omega) (by omega)]; exact hF p a b
theorem sDM_0 (f : Nat → Int) : sDM f 0 = f := funext (fun j => by
  unfold sDM
  split
  · omega
  · split
    · omega
    · rfl)
theorem sDM_add {f : Nat → Int} (h7 : f 0 ≤ 7) (m n : Int) : sDM (sDM f m) n = sDM f (m + n) := funext (fun j => by
  have e0 : sDM f m 0 = f 0 := sDM_o h7 (by omega) (by omega)
  by_cases hj : 13 ≤ j ∧ (j : Int) < 13 + f 0
  · have e7 : sDM f m (j + 7) = f (j + 7) := sDM_o h7 (by omega) (by omega)
    by_cases c : f (j + 7) = 0
    · have e1 : sDM f m j = f j + m := if_pos ⟨hj.1, hj.2, c⟩
      have e2 : sDM (sDM f m) n j = sDM f m j + n := if_pos ⟨hj.1, by rw [e0]; exact hj.2, by rw [e7]; exact c⟩
      have e3 : sDM f (m + n) j = f j + (m + n) := if_pos ⟨hj.1, hj.2, c⟩
      omega
    · have e1 : sDM f m j = f j := by unfold sDM; rw [if_neg (fun q => c q.2.2), if_neg (by omega)]
      have e2 : sDM (sDM f m) n j = sDM f m j := by
        show (if 13 ≤ j ∧ (j : Int) < 13 + sDM f m 0 ∧ sDM f m (j + 7) = 0 then sDM f m j + n else if j = 27 then sDM f m j + n else sDM f m j) = _
        rw [if_neg (fun q => c (e7 ▸ q.2.2)), if_neg (by omega)]
      have e3 : sDM f (m + n) j = f j := by unfold sDM; rw [if_neg (fun q => c q.2.2), if_neg (by omega)]
      omega
  · by_cases h27 : j = 27
    · have e1 : sDM f m j = f j + m := by unfold sDM; rw [if_neg (fun q => hj ⟨q.1, q.2.1⟩), if_pos h27]
      have e2 : sDM (sDM f m) n j = sDM f m j + n := by
        show (if 13 ≤ j ∧ (j : Int) < 13 + sDM f m 0 ∧ sDM f m (j + 7) = 0 then sDM f m j + n else if j = 27 then sDM f m j + n else sDM f m j) = _
        rw [if_neg (fun q => hj ⟨q.1, e0 ▸ q.2.1⟩), if_pos h27]
      have e3 : sDM f (m + n) j = f j + (m + n) := by unfold sDM; rw [if_neg (fun q => hj ⟨q.1, q.2.1⟩), if_pos h27]
      omega
    · have e1 : sDM f m j = f j := by unfold sDM; rw [if_neg (fun q => hj ⟨q.1, q.2.1⟩), if_neg h27]
      have e2 : sDM (sDM f m) n j = sDM f m j := by
        show (if 13 ≤ j ∧ (j : Int) < 13 + sDM f m 0 ∧ sDM f m (j + 7) = 0 then sDM f m j + n else if j = 27 then sDM f m j + n else sDM f m j) = _
        rw [if_neg (fun q => hj ⟨q.1, e0 ▸ q.2.1⟩), if_neg h27]
      have e3 : sDM f (m + n) j = f j := by unfold sDM; rw [if_neg (fun q => hj ⟨q.1, q.2.1⟩), if_neg h27]
      omega)
theorem pd_z {FF FG : Nat → Int} {n m : Int} (h : n ≤ 0) : FG = pdN FF n m FG := funext (fun j => by
  unfold pdN
  rw [if_neg (by omega)])
theorem pd_s1 {FF E FG : Nat → Int} {i v : Int} (h : E = pdN FF i 1 FG) (h0 : 0 ≤ i) (h1 : FF i.toNat = 0) (hv : v = E i.toNat + 1) : uI E i.toNat v = pdN FF (i + 1) 1 FG := funext (fun j => by
  subst h
  subst hv
  by_cases c : j = i.toNat
  · subst c
    rw [uI_eq]
    unfold pdN
    rw [if_neg (by omega), if_pos ⟨by omega, h1⟩]
  · rw [uI_ne c]
    unfold pdN
    by_cases d : (j : Int) < i ∧ FF j = 0
    · rw [if_pos d, if_pos ⟨by omega, d.2⟩]
    · rw [if_neg d, if_neg (fun q => d ⟨by omega, q.2⟩)])
theorem pd_s2 {FF E FG : Nat → Int} {i : Int} (h : E = pdN FF i 1 FG) (h0 : 0 ≤ i) (h1 : ¬ FF i.toNat = 0) : E = pdN FF (i + 1) 1 FG := h.trans (funext (fun j => by
  unfold pdN
  by_cases d : (j : Int) < i ∧ FF j = 0
  · rw [if_pos d, if_pos ⟨by omega, d.2⟩]
  · rw [if_neg d, if_neg (fun q => h1 (by
      have hn : ¬ ((j : Int) < i) := fun q2 => d ⟨q2, q.2⟩
      have e : j = i.toNat := by omega
      rw [← e]
      exact q.2))]))
theorem pd_ss {FF E FG : Nat → Int} {ap i : Int} (h : E = pdN FF ap i FG) : pdN FF ap 1 E = pdN FF ap (i + 1) FG := by
  rw [h]
  exact pdN_add FF ap i 1 FG
def zq (n : Int) (F : Nat → Int) : Prop := ∀ p : Int, 0 ≤ p → p < n → F p.toNat = 0
theorem VR.zero {Fd Fk Fr Fn Fb FT FG FF : Nat → Int} (h : zq 6 Fd) : VR z0 0 0 0 Fd Fk Fr Fn Fb FT FG FF := ⟨⟨rfl, rfl, rfl, by omega, by omega, rfl, rfl, rfl⟩, fun p a b => h p a b, fun p a b => absurd a (by omega), fun p a b => absurd a (by omega), fun p a b => absurd a (by omega), fun p a b => absurd a (by omega), fun p a b => absurd a (by omega), fun p a b => absurd a (by omega), fun p a b => absurd a (by omega)⟩
/-- a row of five numbers behind n others -/
def r5 (F : Nat → Int) (n b0 b1 b2 b3 b4 : Int) : Nat → Int := uI (uI (uI (uI (uI F (n * 5).toNat b0) (n * 5 + 1).toNat b1) (n * 5 + 2).toNat b2) (n * 5 + 3).toNat b3) (n * 5 + 4).toNat b4
