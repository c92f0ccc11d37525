def IOk (S : Nat → Int) (c : Int × Int × (Nat → Int)) (a : Int) (f : Nat → Int) : Prop := c.1 = 1 ∧ S c.2.1.toNat = 1 ∧ a = c.2.1 + 1 ∧ f = c.2.2
def INo (S : Nat → Int) (c : Int × Int × (Nat → Int)) (a : Int) : Prop := ¬ (c.1 = 1 ∧ S c.2.1.toNat = 1) ∧ a = c.2.1
def MOk (c : Int × Int × (Nat → Int)) (a : Int) (f : Nat → Int) : Prop := c.1 = 1 ∧ a = c.2.1 ∧ f = c.2.2
theorem IOk.of {S : Nat → Int} {c : Int × Int × (Nat → Int)} {a : Int} {f : Nat → Int} (h : MOk c a f) (h1 : S a.toNat = 1) : IOk S c (a + 1) f := ⟨h.1, by rw [← h.2.1]; exact h1, by rw [← h.2.1], h.2.2⟩
theorem INo.of {S : Nat → Int} {c : Int × Int × (Nat → Int)} {a : Int} {f : Nat → Int} (h : MOk c a f) (h1 : ¬ S a.toNat = 1) : INo S c a := ⟨fun q => h1 (by rw [h.2.1]; exact q.2), h.2.1⟩
theorem INo.z {S : Nat → Int} {c : Int × Int × (Nat → Int)} {a : Int} {f : Nat → Int} (h : c = (0, a, f)) : INo S c a := by
  subst h
  exact ⟨fun q => absurd (show (0 : Int) = 1 from q.1) (by decide), rfl⟩
theorem MOk.z {c : Int × Int × (Nat → Int)} {a : Int} {f : Nat → Int} (h : c = (1, a, f)) : MOk c a f := by
  subst h
  exact ⟨rfl, rfl, rfl⟩
def cApple (S V f : Nat → Int) (a : Int) : Int × Int × (Nat → Int) := if ¬ (S (a + 1).toNat = 2 ∧ 0 ≤ V (a + 1).toNat ∧ V (a + 1).toNat ≤ 5) then (0, a + 1, f) else if ¬ (S (a + 1 + 1).toNat = 2 ∧ 1 ≤ V (a + 1 + 1).toNat ∧ V (a + 1 + 1).toNat ≤ 30) then (0, a + 1 + 1, f) else if ¬ (S (a + 1 + 1 + 1).toNat = 2 ∧ 0 ≤ V (a + 1 + 1 + 1).toNat ∧ V (a + 1 + 1 + 1).toNat ≤ 99) then (0, a + 1 + 1 + 1, f) else (1, a + 1 + 1 + 1 + 1, sApple f (V (a + 1).toNat) (V (a + 1 + 1).toNat) (V (a + 1 + 1 + 1).toNat))
theorem cApple_f0 {S V f : Nat → Int} {a : Int}  (h0 : ¬ (S (a + 1).toNat = 2 ∧ 0 ≤ V (a + 1).toNat ∧ V (a + 1).toNat ≤ 5)) : INo S (cApple S V f a) (a + 1) := INo.z (f := f) (by
  unfold cApple
  rw [if_pos h0])
theorem cApple_f1 {S V f : Nat → Int} {a : Int} (h0 : S (a + 1).toNat = 2 ∧ 0 ≤ V (a + 1).toNat ∧ V (a + 1).toNat ≤ 5) (h1 : ¬ (S (a + 1 + 1).toNat = 2 ∧ 1 ≤ V (a + 1 + 1).toNat ∧ V (a + 1 + 1).toNat ≤ 30)) : INo S (cApple S V f a) (a + 1 + 1) := INo.z (f := f) (by
  unfold cApple
  rw [if_neg (fun q => q h0), if_pos h1])
theorem cApple_f2 {S V f : Nat → Int} {a : Int} (h0 : S (a + 1).toNat = 2 ∧ 0 ≤ V (a + 1).toNat ∧ V (a + 1).toNat ≤ 5) (h1 : S (a + 1 + 1).toNat = 2 ∧ 1 ≤ V (a + 1 + 1).toNat ∧ V (a + 1 + 1).toNat ≤ 30) (h2 : ¬ (S (a + 1 + 1 + 1).toNat = 2 ∧ 0 ≤ V (a + 1 + 1 + 1).toNat ∧ V (a + 1 + 1 + 1).toNat ≤ 99)) : INo S (cApple S V f a) (a + 1 + 1 + 1) := INo.z (f := f) (by
  unfold cApple
  rw [if_neg (fun q => q h0), if_neg (fun q => q h1), if_pos h2])
theorem cApple_ok {S V f : Nat → Int} {a : Int} (h0 : S (a + 1).toNat = 2 ∧ 0 ≤ V (a + 1).toNat ∧ V (a + 1).toNat ≤ 5) (h1 : S (a + 1 + 1).toNat = 2 ∧ 1 ≤ V (a + 1 + 1).toNat ∧ V (a + 1 + 1).toNat ≤ 30) (h2 : S (a + 1 + 1 + 1).toNat = 2 ∧ 0 ≤ V (a + 1 + 1 + 1).toNat ∧ V (a + 1 + 1 + 1).toNat ≤ 99) : MOk (cApple S V f a) (a + 1 + 1 + 1 + 1) (sApple f (V (a + 1).toNat) (V (a + 1 + 1).toNat) (V (a + 1 + 1 + 1).toNat)) := MOk.z (by
  unfold cApple
  rw [if_neg (fun q => q h0), if_neg (fun q => q h1), if_neg (fun q => q h2)])
def cBiter (S V f : Nat → Int) (a : Int) : Int × Int × (Nat → Int) := if ¬ (S (a + 1).toNat = 2 ∧ 0 ≤ V (a + 1).toNat ∧ V (a + 1).toNat ≤ 5) then (0, a + 1, f) else if ¬ (S (a + 1 + 1).toNat = 2 ∧ 1 ≤ V (a + 1 + 1).toNat ∧ V (a + 1 + 1).toNat ≤ 9) then (0, a + 1 + 1, f) else (1, a + 1 + 1 + 1, sBiter f (V (a + 1).toNat) (V (a + 1 + 1).toNat))
theorem cBiter_f0 {S V f : Nat → Int} {a : Int}  (h0 : ¬ (S (a + 1).toNat = 2 ∧ 0 ≤ V (a + 1).toNat ∧ V (a + 1).toNat ≤ 5)) : INo S (cBiter S V f a) (a + 1) := INo.z (f := f) (by
  unfold cBiter
  rw [if_pos h0])
theorem cBiter_f1 {S V f : Nat → Int} {a : Int} (h0 : S (a + 1).toNat = 2 ∧ 0 ≤ V (a + 1).toNat ∧ V (a + 1).toNat ≤ 5) (h1 : ¬ (S (a + 1 + 1).toNat = 2 ∧ 1 ≤ V (a + 1 + 1).toNat ∧ V (a + 1 + 1).toNat ≤ 9)) : INo S (cBiter S V f a) (a + 1 + 1) := INo.z (f := f) (by
  unfold cBiter
  rw [if_neg (fun q => q h0), if_pos h1])
theorem cBiter_ok {S V f : Nat → Int} {a : Int} (h0 : S (a + 1).toNat = 2 ∧ 0 ≤ V (a + 1).toNat ∧ V (a + 1).toNat ≤ 5) (h1 : S (a + 1 + 1).toNat = 2 ∧ 1 ≤ V (a + 1 + 1).toNat ∧ V (a + 1 + 1).toNat ≤ 9) : MOk (cBiter S V f a) (a + 1 + 1 + 1) (sBiter f (V (a + 1).toNat) (V (a + 1 + 1).toNat)) := MOk.z (by
  unfold cBiter
  rw [if_neg (fun q => q h0), if_neg (fun q => q h1)])
def cBite (S V f : Nat → Int) (a : Int) : Int × Int × (Nat → Int) := if ¬ (S (a + 1).toNat = 2 ∧ 0 ≤ V (a + 1).toNat ∧ V (a + 1).toNat ≤ f 1 - 1) then (0, a + 1, f) else if ¬ ((S (a + 1 + 1).toNat = 2 ∧ 0 ≤ V (a + 1 + 1).toNat ∧ V (a + 1 + 1).toNat ≤ f 0 - 1) ∧ f (20 + V (a + 1 + 1).toNat).toNat = 0) then (0, a + 1 + 1, f) else (1, a + 1 + 1 + 1, sBite f (V (a + 1).toNat) (V (a + 1 + 1).toNat))
theorem cBite_f0 {S V f : Nat → Int} {a : Int}  (h0 : ¬ (S (a + 1).toNat = 2 ∧ 0 ≤ V (a + 1).toNat ∧ V (a + 1).toNat ≤ f 1 - 1)) : INo S (cBite S V f a) (a + 1) := INo.z (f := f) (by
  unfold cBite
  rw [if_pos h0])
theorem cBite_f1 {S V f : Nat → Int} {a : Int} (h0 : S (a + 1).toNat = 2 ∧ 0 ≤ V (a + 1).toNat ∧ V (a + 1).toNat ≤ f 1 - 1) (h1 : ¬ ((S (a + 1 + 1).toNat = 2 ∧ 0 ≤ V (a + 1 + 1).toNat ∧ V (a + 1 + 1).toNat ≤ f 0 - 1) ∧ f (20 + V (a + 1 + 1).toNat).toNat = 0)) : INo S (cBite S V f a) (a + 1 + 1) := INo.z (f := f) (by
  unfold cBite
  rw [if_neg (fun q => q h0), if_pos h1])
theorem cBite_ok {S V f : Nat → Int} {a : Int} (h0 : S (a + 1).toNat = 2 ∧ 0 ≤ V (a + 1).toNat ∧ V (a + 1).toNat ≤ f 1 - 1) (h1 : (S (a + 1 + 1).toNat = 2 ∧ 0 ≤ V (a + 1 + 1).toNat ∧ V (a + 1 + 1).toNat ≤ f 0 - 1) ∧ f (20 + V (a + 1 + 1).toNat).toNat = 0) : MOk (cBite S V f a) (a + 1 + 1 + 1) (sBite f (V (a + 1).toNat) (V (a + 1 + 1).toNat)) := MOk.z (by
  unfold cBite
  rw [if_neg (fun q => q h0), if_neg (fun q => q h1)])
def cDip (S V f : Nat → Int) (a : Int) : Int × Int × (Nat → Int) := if ¬ ((S (a + 1).toNat = 2 ∧ 0 ≤ V (a + 1).toNat ∧ V (a + 1).toNat ≤ f 0 - 1) ∧ f (20 + V (a + 1).toNat).toNat = 0) then (0, a + 1, f) else if ¬ (S (a + 1 + 1).toNat = 2 ∧ 1 ≤ V (a + 1 + 1).toNat ∧ V (a + 1 + 1).toNat ≤ 9) then (0, a + 1 + 1, f) else (1, a + 1 + 1 + 1, sDip f (V (a + 1).toNat) (V (a + 1 + 1).toNat))
theorem cDip_f0 {S V f : Nat → Int} {a : Int}  (h0 : ¬ ((S (a + 1).toNat = 2 ∧ 0 ≤ V (a + 1).toNat ∧ V (a + 1).toNat ≤ f 0 - 1) ∧ f (20 + V (a + 1).toNat).toNat = 0)) : INo S (cDip S V f a) (a + 1) := INo.z (f := f) (by
  unfold cDip
  rw [if_pos h0])
theorem cDip_f1 {S V f : Nat → Int} {a : Int} (h0 : (S (a + 1).toNat = 2 ∧ 0 ≤ V (a + 1).toNat ∧ V (a + 1).toNat ≤ f 0 - 1) ∧ f (20 + V (a + 1).toNat).toNat = 0) (h1 : ¬ (S (a + 1 + 1).toNat = 2 ∧ 1 ≤ V (a + 1 + 1).toNat ∧ V (a + 1 + 1).toNat ≤ 9)) : INo S (cDip S V f a) (a + 1 + 1) := INo.z (f := f) (by
  unfold cDip
  rw [if_neg (fun q => q h0), if_pos h1])
theorem cDip_ok {S V f : Nat → Int} {a : Int} (h0 : (S (a + 1).toNat = 2 ∧ 0 ≤ V (a + 1).toNat ∧ V (a + 1).toNat ≤ f 0 - 1) ∧ f (20 + V (a + 1).toNat).toNat = 0) (h1 : S (a + 1 + 1).toNat = 2 ∧ 1 ≤ V (a + 1 + 1).toNat ∧ V (a + 1 + 1).toNat ≤ 9) : MOk (cDip S V f a) (a + 1 + 1 + 1) (sDip f (V (a + 1).toNat) (V (a + 1 + 1).toNat)) := MOk.z (by
  unfold cDip
  rw [if_neg (fun q => q h0), if_neg (fun q => q h1)])
def cDays (S V f : Nat → Int) (a : Int) : Int × Int × (Nat → Int) := if ¬ (S (a + 1).toNat = 2 ∧ 1 ≤ V (a + 1).toNat ∧ V (a + 1).toNat ≤ 99) then (0, a + 1, f) else (1, a + 1 + 1, sDays f (V (a + 1).toNat))
theorem cDays_f0 {S V f : Nat → Int} {a : Int}  (h0 : ¬ (S (a + 1).toNat = 2 ∧ 1 ≤ V (a + 1).toNat ∧ V (a + 1).toNat ≤ 99)) : INo S (cDays S V f a) (a + 1) := INo.z (f := f) (by
  unfold cDays
  rw [if_pos h0])
theorem cDays_ok {S V f : Nat → Int} {a : Int} (h0 : S (a + 1).toNat = 2 ∧ 1 ≤ V (a + 1).toNat ∧ V (a + 1).toNat ≤ 99) : MOk (cDays S V f a) (a + 1 + 1) (sDays f (V (a + 1).toNat)) := MOk.z (by
  unfold cDays
  rw [if_neg (fun q => q h0)])
def dmF (S V : Nat → Int) : Nat → (Nat → Int) → Int → Int → Int × Int × (Nat → Int)
  | 0, f, a, _ => (1, a, f)
  | k + 1, f, a, d => if d ≠ 0 ∧ S a.toNat ≠ 2 then (1, a, f) else if S a.toNat = 2 ∧ 0 ≤ V a.toNat ∧ V a.toNat ≤ 4 then dmF S V k (sDamp f d (V a.toNat)) (a + 1) (d + 1) else (0, a, f)
def cDamp (S V f : Nat → Int) (a : Int) : Int × Int × (Nat → Int) := dmF S V 6 f (a + 1) 0
/-- behind d numbers -/
def dmI (S V f : Nat → Int) (a d : Int) (g : Nat → Int) (b : Int) : Prop := cDamp S V f a = dmF S V (6 - d).toNat g b d
theorem dmI_0 (S V f : Nat → Int) (a : Int) : dmI S V f a 0 f (a + 1) := rfl
theorem dmI_s {S V f g : Nat → Int} {a b d : Int} (h : dmI S V f a d g b) (h0 : 0 ≤ d) (h1 : d < 6) (h2 : S b.toNat = 2 ∧ 0 ≤ V b.toNat ∧ V b.toNat ≤ 4) : dmI S V f a (d + 1) (sDamp g d (V b.toNat)) (b + 1) := by
  unfold dmI at h ⊢
  rw [h, show (6 - d).toNat = (6 - (d + 1)).toNat + 1 by omega]
  show (if d ≠ 0 ∧ S b.toNat ≠ 2 then _ else _) = _
  rw [if_neg (fun q => q.2 h2.1), if_pos h2]
theorem dmI_n {S V f g : Nat → Int} {a b d : Int} (h : dmI S V f a d g b) (h0 : 0 ≤ d) (h1 : d < 6) (h3 : ¬ (d ≠ 0 ∧ S b.toNat ≠ 2)) (h2 : ¬ (S b.toNat = 2 ∧ 0 ≤ V b.toNat ∧ V b.toNat ≤ 4)) : INo S (cDamp S V f a) b := INo.z (f := g) (by
  unfold dmI at h
  rw [h, show (6 - d).toNat = (6 - (d + 1)).toNat + 1 by omega]
  show (if d ≠ 0 ∧ S b.toNat ≠ 2 then _ else _) = _
  rw [if_neg h3, if_neg h2])
theorem dmI_e {S V f g : Nat → Int} {a b d : Int} (h : dmI S V f a d g b) (h0 : 0 ≤ d) (h1 : d ≤ 6) (h3 : d = 6 ∨ (d ≠ 0 ∧ S b.toNat ≠ 2)) : MOk (cDamp S V f a) b g := MOk.z (by
  unfold dmI at h
  rw [h]
  have z6 : ((6 : Int) - 6).toNat = 0 := by decide
  rcases h3 with e | h3
  · rw [e, z6]
    rfl
  · by_cases e : d = 6
    · rw [e, z6]
      rfl
    · rw [show (6 - d).toNat = (6 - (d + 1)).toNat + 1 by omega]
      show (if d ≠ 0 ∧ S b.toNat ≠ 2 then _ else _) = _
      rw [if_pos h3])
/-- a number out of its bounds, or no number, and no stop -/
theorem dmI_r {S V f g : Nat → Int} {a b d : Int} (h : dmI S V f a d g b) (h0 : 0 ≤ d) (h1 : d ≤ 6) (h4 : d = 6 ∨ ¬ (S b.toNat = 2 ∧ 0 ≤ V b.toNat ∧ V b.toNat ≤ 4)) (h3 : d = 0 ∨ ¬ S b.toNat = 1) : INo S (cDamp S V f a) b := by
  by_cases e : d = 6 ∨ (d ≠ 0 ∧ S b.toNat ≠ 2)
  · exact INo.of (dmI_e h h0 h1 e) (by rcases h3 with h3 | h3 <;> omega)
  · exact dmI_n h h0 (by omega) (fun q => e (Or.inr q)) (by rcases h4 with h4 | h4; exact absurd (Or.inl h4) e; exact h4)
def cIt (S V f : Nat → Int) (a : Int) : Int × Int × (Nat → Int) := if S a.toNat = 5 then cDamp S V f a else if S a.toNat = 6 ∧ f 0 < 7 then cApple S V f a else if S a.toNat = 7 ∧ f 1 < 4 then cBiter S V f a else if S a.toNat = 8 then cBite S V f a else if S a.toNat = 9 then cDip S V f a else if S a.toNat = 10 then cDays S V f a else (0, a, f)
theorem cIt_5 {S V f : Nat → Int} {a : Int} (h : S a.toNat = 5) : cIt S V f a = cDamp S V f a := by
  unfold cIt
  rw [if_pos h]
theorem cIt_6 {S V f : Nat → Int} {a : Int} (h : S a.toNat = 6) (h2 : f 0 < 7) : cIt S V f a = cApple S V f a := by
  unfold cIt
  rw [if_neg (by omega), if_pos ⟨h, h2⟩]
theorem cIt_7 {S V f : Nat → Int} {a : Int} (h : S a.toNat = 7) (h2 : f 1 < 4) : cIt S V f a = cBiter S V f a := by
  unfold cIt
  rw [if_neg (by omega), if_neg (by omega), if_pos ⟨h, h2⟩]
theorem cIt_8 {S V f : Nat → Int} {a : Int} (h : S a.toNat = 8) : cIt S V f a = cBite S V f a := by
  unfold cIt
  rw [if_neg (by omega), if_neg (by omega), if_neg (by omega), if_pos h]
theorem cIt_9 {S V f : Nat → Int} {a : Int} (h : S a.toNat = 9) : cIt S V f a = cDip S V f a := by
  unfold cIt
  rw [if_neg (by omega), if_neg (by omega), if_neg (by omega), if_neg (by omega), if_pos h]
theorem cIt_10 {S V f : Nat → Int} {a : Int} (h : S a.toNat = 10) : cIt S V f a = cDays S V f a := by
  unfold cIt
  rw [if_neg (by omega), if_neg (by omega), if_neg (by omega), if_neg (by omega), if_neg (by omega), if_pos h]
theorem cIt_n {S V f : Nat → Int} {a : Int} (h : ¬ S a.toNat = 5 ∧ ¬ (S a.toNat = 6 ∧ f 0 < 7) ∧ ¬ (S a.toNat = 7 ∧ f 1 < 4) ∧ ¬ S a.toNat = 8 ∧ ¬ S a.toNat = 9 ∧ ¬ S a.toNat = 10) : INo S (cIt S V f a) a := INo.z (f := f) (by
  unfold cIt
  rw [if_neg h.1, if_neg h.2.1, if_neg h.2.2.1, if_neg h.2.2.2.1, if_neg h.2.2.2.2.1, if_neg h.2.2.2.2.2])
def rdF (S A V : Nat → Int) : Nat → (Nat → Int) → Int → Int → Int × (Nat → Int)
  | 0, f, _, _ => (0, f)
  | k + 1, f, a, m => if S a.toNat = 0 then (m, f) else if (cIt S V f a).1 = 1 ∧ S (cIt S V f a).2.1.toNat = 1 then rdF S A V k (cIt S V f a).2.2 ((cIt S V f a).2.1 + 1) (m + 1) else (-10 - A (cIt S V f a).2.1.toNat, f)
def rdT (S A V : Nat → Int) : Int × (Nat → Int) := if S (0 : Int).toNat = 4 then (if S (0 + 1 : Int).toNat = 1 then rdF S A V 200 z0 (0 + 1 + 1) 1 else (-10 - A (0 + 1 : Int).toNat, z0)) else (-10 - A (0 : Int).toNat, z0)
/-- behind m ITEMS: the row g, the TOKEN a -/
def rdI (S A V : Nat → Int) (m : Int) (g : Nat → Int) (a : Int) : Prop := rdT S A V = rdF S A V (201 - m).toNat g a m
theorem rdI_0 {S A V : Nat → Int} (h : S (0 : Int).toNat = 4) (h1 : S (0 + 1 : Int).toNat = 1) : rdI S A V 1 z0 (0 + 1 + 1) := by
  have e : ((201 : Int) - 1).toNat = 200 := by decide
  unfold rdI rdT
  rw [if_pos h, if_pos h1, e]
theorem rdI_s {S A V g g2 : Nat → Int} {m a b : Int} (h : rdI S A V m g a) (h0 : 1 ≤ m) (h1 : m ≤ 199) (h2 : ¬ S a.toNat = 0) (h3 : IOk S (cIt S V g a) b g2) : rdI S A V (m + 1) g2 b := by
  unfold rdI at h ⊢
  rw [h, show (201 - m).toNat = (201 - (m + 1)).toNat + 1 by omega]
  show (if S a.toNat = 0 then _ else _) = _
  rw [if_neg h2, if_pos ⟨h3.1, h3.2.1⟩, ← h3.2.2.1, ← h3.2.2.2]
theorem rdI_e {S A V g : Nat → Int} {m a : Int} (h : rdI S A V m g a) (h0 : 1 ≤ m) (h1 : m ≤ 199) (h2 : S a.toNat = 0) : rdT S A V = (m, g) := by
  unfold rdI at h
  rw [h, show (201 - m).toNat = (201 - (m + 1)).toNat + 1 by omega]
  show (if S a.toNat = 0 then _ else _) = _
  rw [if_pos h2]
theorem rdI_n {S A V g : Nat → Int} {m a b : Int} (h : rdI S A V m g a) (h0 : 1 ≤ m) (h1 : m ≤ 199) (h2 : ¬ S a.toNat = 0) (h3 : INo S (cIt S V g a) b) : rdT S A V = (-10 - A b.toNat, g) := by
  unfold rdI at h
  rw [h, show (201 - m).toNat = (201 - (m + 1)).toNat + 1 by omega]
  show (if S a.toNat = 0 then _ else _) = _
  rw [if_neg h2, if_neg h3.1, ← h3.2]
theorem rdT_0 {S A V : Nat → Int} (h : ¬ S (0 : Int).toNat = 4) : rdT S A V = (-10 - A (0 : Int).toNat, z0) := by
  unfold rdT
  rw [if_neg h]
theorem rdT_1 {S A V : Nat → Int} (h : S (0 : Int).toNat = 4) (h1 : ¬ S (0 + 1 : Int).toNat = 1) : rdT S A V = (-10 - A (0 + 1 : Int).toNat, z0) := by
  unfold rdT
  rw [if_pos h, if_neg h1]
def dmV (S V f : Nat → Int) (a d b ap bi dy : Int) (Fd Fk Fr Fn Fb FT FG FF : Nat → Int) : Prop := ∃ g : Nat → Int, dmI S V f a d g b ∧ VR g ap bi dy Fd Fk Fr Fn Fb FT FG FF
theorem dmV_0 {S V f : Nat → Int} {a ap bi dy : Int} {Fd Fk Fr Fn Fb FT FG FF : Nat → Int} (h : VR f ap bi dy Fd Fk Fr Fn Fb FT FG FF) : dmV S V f a 0 (a + 1) ap bi dy Fd Fk Fr Fn Fb FT FG FF := ⟨f, dmI_0 S V f a, h⟩
theorem dmV_s {S V f : Nat → Int} {a d b ap bi dy : Int} {Fd Fk Fr Fn Fb FT FG FF : Nat → Int} (h : dmV S V f a d b ap bi dy Fd Fk Fr Fn Fb FT FG FF) (h0 : 0 ≤ d) (h1 : d < 6) (h2 : S b.toNat = 2 ∧ 0 ≤ V b.toNat ∧ V b.toNat ≤ 4) : dmV S V f a (d + 1) (b + 1) ap bi dy (uI Fd d.toNat (V b.toNat)) Fk Fr Fn Fb FT FG FF := by
  obtain ⟨g, hg, hv⟩ := h
  exact ⟨_, dmI_s hg h0 h1 h2, hv.damp h0 h1 _⟩
theorem dmV_n {S V f : Nat → Int} {a d b ap bi dy : Int} {Fd Fk Fr Fn Fb FT FG FF : Nat → Int} (h : dmV S V f a d b ap bi dy Fd Fk Fr Fn Fb FT FG FF) (h0 : 0 ≤ d) (h1 : d < 6) (h3 : ¬ (d ≠ 0 ∧ S b.toNat ≠ 2)) (h2 : ¬ (S b.toNat = 2 ∧ 0 ≤ V b.toNat ∧ V b.toNat ≤ 4)) : INo S (cDamp S V f a) b := by
  obtain ⟨g, hg, hv⟩ := h
  exact dmI_n hg h0 h1 h3 h2
theorem dmV_e {S V f : Nat → Int} {a d b ap bi dy : Int} {Fd Fk Fr Fn Fb FT FG FF : Nat → Int} (h : dmV S V f a d b ap bi dy Fd Fk Fr Fn Fb FT FG FF) (h0 : 0 ≤ d) (h1 : d ≤ 6) (h3 : d = 6 ∨ (d ≠ 0 ∧ S b.toNat ≠ 2)) : ∃ g : Nat → Int, MOk (cDamp S V f a) b g ∧ VR g ap bi dy Fd Fk Fr Fn Fb FT FG FF := by
  obtain ⟨g, hg, hv⟩ := h
  exact ⟨g, dmI_e hg h0 h1 h3, hv⟩
theorem VR.who {f : Nat → Int} {ap bi dy : Int} {Fd Fk Fr Fn Fb FT FG FF : Nat → Int} (hV : VR f ap bi dy Fd Fk Fr Fn Fb FT FG FF) {s v : Int} (h : (s = 2 ∧ 0 ≤ v ∧ v ≤ ap - 1) ∧ FF v.toNat = 0) : (s = 2 ∧ 0 ≤ v ∧ v ≤ f 0 - 1) ∧ f (20 + v).toNat = 0 := by
  obtain ⟨⟨e0, _⟩, _, _, _, _, _, _, _, hF⟩ := hV
  refine ⟨by omega, ?_⟩
  rw [← hF v (by omega) (by omega)]
  exact h.2
theorem VR.whn {f : Nat → Int} {ap bi dy : Int} {Fd Fk Fr Fn Fb FT FG FF : Nat → Int} (hV : VR f ap bi dy Fd Fk Fr Fn Fb FT FG FF) {s v : Int} (h : ¬ ((s = 2 ∧ 0 ≤ v ∧ v ≤ ap - 1) ∧ FF v.toNat = 0)) : ¬ ((s = 2 ∧ 0 ≤ v ∧ v ≤ f 0 - 1) ∧ f (20 + v).toNat = 0) := fun q => by
  obtain ⟨⟨e0, _⟩, _, _, _, _, _, _, _, hF⟩ := hV
  refine h ⟨by omega, ?_⟩
  rw [hF v (by omega) (by omega)]
  exact q.2
theorem VR.dip2 {f : Nat → Int} {ap bi dy : Int} {Fd Fk Fr Fn Fb FT FG FF : Nat → Int} (h : VR f ap bi dy Fd Fk Fr Fn Fb FT FG FF) {p n v : Int} (h0 : 0 ≤ p) (h1 : p < ap) {NT : Nat → Int} (hN : NT = uI FT p.toNat v) (hv : v = min 30 (FT p.toNat + n)) : VR (sDip f p n) ap bi dy Fd Fk Fr Fn Fb NT FG FF := by
  subst hN
  exact h.dip h0 h1 hv
theorem VR.days2 {f : Nat → Int} {ap bi dy : Int} {Fd Fk Fr Fn Fb FT FG FF : Nat → Int} (h : VR f ap bi dy Fd Fk Fr Fn Fb FT FG FF) {n nd : Int} {NG : Nat → Int} (hn : 0 ≤ n) (hd : dy ≤ 999) (h1 : nd = dy + min n (999 - dy)) (h2 : NG = pdN FF ap (min n (999 - dy)) FG) : VR (sDays f n) ap bi nd Fd Fk Fr Fn Fb FT NG FF := by
  have e : dy = f 27 := h.1.2.2.1
  subst h1 h2
  unfold sDays
  rw [← e, show max 0 (min n (999 - dy)) = min n (999 - dy) by omega]
  exact h.days _
def rdV (S A V : Nat → Int) (m a ap bi dy : Int) (Fd Fk Fr Fn Fb FT FG FF : Nat → Int) : Prop := ∃ g : Nat → Int, rdI S A V m g a ∧ VR g ap bi dy Fd Fk Fr Fn Fb FT FG FF
def rdO (S A V : Nat → Int) (r ap bi dy : Int) (Fd Fk Fr Fn Fb FT FG FF : Nat → Int) : Prop := r = (rdT S A V).1 ∧ (0 < r → VR (rdT S A V).2 ap bi dy Fd Fk Fr Fn Fb FT FG FF)
theorem rdO_e {S A V : Nat → Int} {m a ap bi dy : Int} {Fd Fk Fr Fn Fb FT FG FF : Nat → Int} (h : rdV S A V m a ap bi dy Fd Fk Fr Fn Fb FT FG FF) (h0 : 1 ≤ m) (h1 : m ≤ 199) (h2 : S a.toNat = 0) : rdO S A V m ap bi dy Fd Fk Fr Fn Fb FT FG FF := by
  obtain ⟨g, hg, hv⟩ := h
  have e := rdI_e hg h0 h1 h2
  exact ⟨by rw [e], fun _ => by rw [e]; exact hv⟩
theorem rdO_n {S A V g : Nat → Int} {m a b r ap bi dy : Int} {Fd Fk Fr Fn Fb FT FG FF : Nat → Int} (hg : rdI S A V m g a) (h0 : 1 ≤ m) (h1 : m ≤ 199) (h2 : ¬ S a.toNat = 0) (h3 : INo S (cIt S V g a) b) (e : r = -10 - A b.toNat) (e2 : r ≤ 0) : rdO S A V r ap bi dy Fd Fk Fr Fn Fb FT FG FF := ⟨by rw [rdI_n hg h0 h1 h2 h3]; exact e, fun q => absurd q (by omega)⟩
theorem rdO_0 {S A V : Nat → Int} {r ap bi dy : Int} {Fd Fk Fr Fn Fb FT FG FF : Nat → Int} (h : ¬ S (0 : Int).toNat = 4) (e : r = -10 - A (0 : Int).toNat) (e2 : r ≤ 0) : rdO S A V r ap bi dy Fd Fk Fr Fn Fb FT FG FF := ⟨by rw [rdT_0 h]; exact e, fun q => absurd q (by omega)⟩
theorem rdO_1 {S A V : Nat → Int} {r ap bi dy : Int} {Fd Fk Fr Fn Fb FT FG FF : Nat → Int} (h : S (0 : Int).toNat = 4) (h1 : ¬ S (0 + 1 : Int).toNat = 1) (e : r = -10 - A (0 + 1 : Int).toNat) (e2 : r ≤ 0) : rdO S A V r ap bi dy Fd Fk Fr Fn Fb FT FG FF := ⟨by rw [rdT_1 h h1]; exact e, fun q => absurd q (by omega)⟩
