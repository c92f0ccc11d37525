theorem fr_0 {B : Nat → Int} {lo hi st k : Int} (h : k ≤ st) : fr B lo hi st k := fun q a b => absurd a (by omega)
theorem sk_of {B : Nat → Int} {L i a : Int} (h : fr B 32 32 i a) (h1 : i ≤ a ∧ a ≤ L) (h2 : a < L → ¬ (B a.toNat = 32)) : sk B L i a := ⟨h1.1, h1.2, fun k x y => by have := h k x y; omega, h2⟩
theorem rt_0 {B : Nat → Int} {L i a v : Int} (h : sk B L i a) (e : a = L) : rt B L i a 0 0 v := ⟨h, Or.inl ⟨e, rfl, rfl⟩⟩
/-- a run under way: its TOKEN is t, l bytes are in it; g: it goes on -/
def lkI (B : Nat → Int) (L t a l g : Int) : Prop := (t = 1 → fr B 97 122 a (a + l) ∧ (g = 0 → ¬ (97 ≤ B (a + l).toNat ∧ B (a + l).toNat ≤ 122))) ∧ (t = 2 → fr B 48 57 a (a + l) ∧ (g = 0 → ¬ (48 ≤ B (a + l).toNat ∧ B (a + l).toNat ≤ 57))) ∧ (2 < t → l = 1 ∧ g = 0)
theorem lkI_0 {B : Nat → Int} {L t a g : Int} (h : ((97 ≤ B a.toNat ∧ B a.toNat ≤ 122) ∧ t = 1) ∨ (¬ (97 ≤ B a.toNat ∧ B a.toNat ≤ 122) ∧ (48 ≤ B a.toNat ∧ B a.toNat ≤ 57) ∧ t = 2) ∨ (¬ (97 ≤ B a.toNat ∧ B a.toNat ≤ 122) ∧ ¬ (48 ≤ B a.toNat ∧ B a.toNat ≤ 57) ∧ B a.toNat = 59 ∧ t = 3) ∨ (¬ (97 ≤ B a.toNat ∧ B a.toNat ≤ 122) ∧ ¬ (48 ≤ B a.toNat ∧ B a.toNat ≤ 57) ∧ ¬ (B a.toNat = 59) ∧ t = 4)) (hg : (t < 3 ∧ g = 1) ∨ (¬ (t < 3) ∧ g = 0)) : lkI B L t a 1 g := ⟨fun e => ⟨fr_1 (by omega), fun q => absurd q (by omega)⟩, fun e => ⟨fr_1 (by omega), fun q => absurd q (by omega)⟩, fun e => ⟨rfl, by omega⟩⟩
theorem lkI_s {B : Nat → Int} {L t a l l2 g g2 : Int} (h : lkI B L t a l g) (hg : g = 1) (hj : (t = 1 ∧ (((97 ≤ B (a + l).toNat ∧ B (a + l).toNat ≤ 122) ∧ g2 = 1) ∨ (¬ (97 ≤ B (a + l).toNat ∧ B (a + l).toNat ≤ 122) ∧ g2 = 0))) ∨ (¬ (t = 1) ∧ (((48 ≤ B (a + l).toNat ∧ B (a + l).toNat ≤ 57) ∧ g2 = 1) ∨ (¬ (48 ≤ B (a + l).toNat ∧ B (a + l).toNat ≤ 57) ∧ g2 = 0)))) (hl : (g2 = 1 ∧ l2 = l + 1) ∨ (g2 = 0 ∧ l2 = l)) : lkI B L t a l2 g2 := by
  refine ⟨fun e => ?_, fun e => ?_, fun e => absurd (h.2.2 e).2 (by omega)⟩
  · rcases hl with ⟨h1, rfl⟩ | ⟨h1, rfl⟩
    · rw [show a + (l + 1) = a + l + 1 by omega]
      exact ⟨fr_s (h.1 e).1 (by omega), fun q => absurd q (by omega)⟩
    · exact ⟨(h.1 e).1, fun _ => by omega⟩
  · rcases hl with ⟨h1, rfl⟩ | ⟨h1, rfl⟩
    · rw [show a + (l + 1) = a + l + 1 by omega]
      exact ⟨fr_s (h.2.1 e).1 (by omega), fun q => absurd q (by omega)⟩
    · exact ⟨(h.2.1 e).1, fun _ => by omega⟩
theorem rt_i {B : Nat → Int} {L i a l t k v g : Int} (hs : sk B L i a) (ha : a < L) (ht : ((97 ≤ B a.toNat ∧ B a.toNat ≤ 122) ∧ t = 1) ∨ (¬ (97 ≤ B a.toNat ∧ B a.toNat ≤ 122) ∧ (48 ≤ B a.toNat ∧ B a.toNat ≤ 57) ∧ t = 2) ∨ (¬ (97 ≤ B a.toNat ∧ B a.toNat ≤ 122) ∧ ¬ (48 ≤ B a.toNat ∧ B a.toNat ≤ 57) ∧ B a.toNat = 59 ∧ t = 3) ∨ (¬ (97 ≤ B a.toNat ∧ B a.toNat ≤ 122) ∧ ¬ (48 ≤ B a.toNat ∧ B a.toNat ≤ 57) ∧ ¬ (B a.toNat = 59) ∧ t = 4)) (hI : lkI B L t a l g) (hl : 1 ≤ l ∧ a + l ≤ L) (hx : g = 0 ∨ ¬ (a + l < L)) (hv : ¬ (t = 2) ∨ (l = 1 ∧ v = B (a + 0).toNat - 48) ∨ (2 ≤ l ∧ v = 10 * (B (a + 0).toNat - 48) + B (a + 1).toNat - 48)) (hk : (t = 2 ∧ 2 < l ∧ k = 4) ∨ (¬ (t = 2 ∧ 2 < l) ∧ k = t)) : rt B L i a l k v := by
  rw [Int.add_zero] at hv
  refine ⟨hs, Or.inr ⟨ha, ?_⟩⟩
  rcases ht with ⟨h1, e⟩ | ⟨h1, h2, e⟩ | ⟨h1, h2, h3, e⟩ | ⟨h1, h2, h3, e⟩
  · have q := hI.1 e
    exact Or.inl ⟨h1, ⟨by omega, hl.2, q.1, fun c => q.2 (by omega)⟩, by omega⟩
  · have q := hI.2.1 e
    exact Or.inr (Or.inl ⟨h2, ⟨by omega, hl.2, q.1, fun c => q.2 (by omega)⟩, by omega⟩)
  · have q := hI.2.2 (by omega)
    exact Or.inr (Or.inr ⟨⟨h1, h2⟩, q.1, Or.inl ⟨h3, by omega⟩⟩)
  · have q := hI.2.2 (by omega)
    exact Or.inr (Or.inr ⟨⟨h1, h2⟩, q.1, Or.inr ⟨h3, by omega⟩⟩)
theorem rt_o {B : Nat → Int} {L i a k v : Int} (hs : sk B L i a) (ha : a < L) (ht : (¬ (97 ≤ B a.toNat ∧ B a.toNat ≤ 122) ∧ ¬ (48 ≤ B a.toNat ∧ B a.toNat ≤ 57)) ∧ ((B a.toNat = 59 ∧ k = 3) ∨ (¬ (B a.toNat = 59) ∧ k = 4))) : rt B L i a 1 k v := ⟨hs, Or.inr ⟨ha, Or.inr (Or.inr ⟨ht.1, rfl, ht.2⟩)⟩⟩
theorem ra_0 {B S A V E : Nat → Int} {L n a l k v : Int} (hc : chF B L S A V n E) (h : rt B L 0 a l k v) : ra B S A V E 0 a l k v := ra_of hc (by omega) (by have := hc.1; omega) (by
  have e : E (0 : Int).toNat = 0 := hc.2.1
  rw [e]
  exact h)
theorem ra_nx {B S A V E : Nat → Int} {L n j a l k v a2 l2 k2 v2 : Int} (hc : chF B L S A V n E) (hr : ra B S A V E j a l k v) (h0 : 0 ≤ j) (h1 : j + 1 < n) (h : rt B L (a + l) a2 l2 k2 v2) : ra B S A V E (j + 1) a2 l2 k2 v2 := ra_of hc (by omega) h1 (by
  rw [← hr.1.2]
  exact h)
theorem ra_num {B S A V E : Nat → Int} {j a l k v lo hi : Int} (hr : ra B S A V E j a l k v) (h : k = 2 ∧ lo ≤ v ∧ v ≤ hi) : S j.toNat = 2 ∧ lo ≤ V j.toNat ∧ V j.toNat ≤ hi := by
  have e := hr.2.2.1 h.1
  exact ⟨hr.2.1.2.2.mp h.1, by omega, by omega⟩
theorem ra_non {B S A V E : Nat → Int} {j a l k v lo hi : Int} (hr : ra B S A V E j a l k v) (h : ¬ (k = 2 ∧ lo ≤ v ∧ v ≤ hi)) : ¬ (S j.toNat = 2 ∧ lo ≤ V j.toNat ∧ V j.toNat ≤ hi) := fun q => by
  have e1 := hr.2.1.2.2.mpr q.1
  have e := hr.2.2.1 e1
  omega
theorem ra_who {B S A V E f : Nat → Int} {j a l k v : Int} (hr : ra B S A V E j a l k v) (h : (k = 2 ∧ 0 ≤ v ∧ v ≤ f 0 - 1) ∧ f (20 + v).toNat = 0) : (S j.toNat = 2 ∧ 0 ≤ V j.toNat ∧ V j.toNat ≤ f 0 - 1) ∧ f (20 + V j.toNat).toNat = 0 := by
  have e := hr.2.2.1 h.1.1
  rw [← e]
  exact ⟨⟨hr.2.1.2.2.mp h.1.1, h.1.2⟩, h.2⟩
theorem ra_whn {B S A V E f : Nat → Int} {j a l k v : Int} (hr : ra B S A V E j a l k v) (h : ¬ ((k = 2 ∧ 0 ≤ v ∧ v ≤ f 0 - 1) ∧ f (20 + v).toNat = 0)) : ¬ ((S j.toNat = 2 ∧ 0 ≤ V j.toNat ∧ V j.toNat ≤ f 0 - 1) ∧ f (20 + V j.toNat).toNat = 0) := fun q => by
  have e1 := hr.2.1.2.2.mpr q.1.1
  have e := hr.2.2.1 e1
  rw [← e] at q
  exact h ⟨⟨e1, q.1.2⟩, q.2⟩
theorem ra_s1 {B S A V E : Nat → Int} {j a l k v : Int} (hr : ra B S A V E j a l k v) (h : k = 3) : S j.toNat = 1 := hr.2.1.2.1.mp h
theorem ra_n1 {B S A V E : Nat → Int} {j a l k v : Int} (hr : ra B S A V E j a l k v) (h : ¬ (k = 3)) : ¬ (S j.toNat = 1) := fun q => h (hr.2.1.2.1.mpr q)
theorem ra_n0 {B S A V E : Nat → Int} {j a l k v : Int} (hr : ra B S A V E j a l k v) (h : ¬ (k = 0)) : ¬ (S j.toNat = 0) := fun q => h (hr.2.1.1.mpr q)
theorem ra_ns {B S A V E : Nat → Int} {j a l k v d : Int} (hr : ra B S A V E j a l k v) (h : d = 0 ∨ ¬ (k = 3)) : d = 0 ∨ ¬ (S j.toNat = 1) := by
  rcases h with h | h
  · exact Or.inl h
  · exact Or.inr (ra_n1 hr h)
theorem dmI_x {B S A V E f g : Nat → Int} {a b d x l k v : Int} (h : dmI S V f a d g b) (h0 : 0 ≤ d) (h1 : d ≤ 6) (hd : ¬ (d = 0)) (hr : ra B S A V E b x l k v) (hk : k = 3) : MOk (cDamp S V f a) b g := by
  have e := ra_s1 hr hk
  exact dmI_e h h0 h1 (Or.inr ⟨hd, by omega⟩)
/-- the letters of a word -/
def cs (i : Nat) (n a1 a2 a3 a4 a5 a6 : Int) : Prop := n = zL i ∧ a1 = zC i 0 ∧ a2 = zC i 1 ∧ a3 = zC i 2 ∧ (3 < zL i → a4 = zC i 3) ∧ (4 < zL i → a5 = zC i 4) ∧ (5 < zL i → a6 = zC i 5)
theorem cs_at {i : Nat} {n a1 a2 a3 a4 a5 a6 k r : Int} (h : cs i n a1 a2 a3 a4 a5 a6) (h0 : 0 ≤ k ∧ k < n) (hn : n ≤ 6) (hj : (k = 0 ∧ r = a1) ∨ (k = 1 ∧ r = a2) ∨ (k = 2 ∧ r = a3) ∨ (k = 3 ∧ r = a4) ∨ (k = 4 ∧ r = a5) ∨ ((k < 0 ∨ 4 < k) ∧ r = a6)) : r = zC i k := by
  obtain ⟨e, e1, e2, e3, e4, e5, e6⟩ := h
  rcases hj with ⟨rfl, rfl⟩ | ⟨rfl, rfl⟩ | ⟨rfl, rfl⟩ | ⟨rfl, rfl⟩ | ⟨rfl, rfl⟩ | ⟨c, rfl⟩
  · exact e1
  · exact e2
  · exact e3
  · exact e4 (by omega)
  · exact e5 (by omega)
  · rw [show k = 5 by omega]
    exact e6 (by omega)
def spI (i : Nat) (B : Nat → Int) (a l t s k : Int) : Prop := (s = 1 ∧ t = 1 ∧ l = zL i ∧ iw i B a k) ∨ (s = 0 ∧ ¬ (t = 1 ∧ isW i B a (a + l)))
theorem spI_0 {i : Nat} {B : Nat → Int} {a l t s n : Int} (hn : n = zL i) (h : (s = 0 ∧ ¬ (t = 1 ∧ l = n)) ∨ (s = 1 ∧ t = 1 ∧ l = n)) : spI i B a l t s 0 := by
  rcases h with ⟨h1, h2⟩ | ⟨h1, h2, h3⟩
  · exact Or.inr ⟨h1, fun q => h2 ⟨q.1, by have := q.2.1; omega⟩⟩
  · exact Or.inl ⟨h1, h2, by omega, iw_0⟩
theorem spI_s {i : Nat} {B : Nat → Int} {a l t s s2 k n a1 a2 a3 a4 a5 a6 r : Int} (hc : cs i n a1 a2 a3 a4 a5 a6) (h : spI i B a l t s k) (hs : s = 1) (h0 : (0 ≤ k ∧ k < n) ∧ n ≤ 6) (hj : (k = 0 ∧ r = a1) ∨ (k = 1 ∧ r = a2) ∨ (k = 2 ∧ r = a3) ∨ (k = 3 ∧ r = a4) ∨ (k = 4 ∧ r = a5) ∨ ((k < 0 ∨ 4 < k) ∧ r = a6)) (hx : (¬ (B (a + k).toNat = r) ∧ s2 = 0) ∨ (B (a + k).toNat = r ∧ s2 = 1)) : spI i B a l t s2 (k + 1) := by
  have e := cs_at hc h0.1 h0.2 hj
  have en := hc.1
  rcases h with ⟨h1, h2, h3, h4⟩ | ⟨h1, h2⟩
  · rcases hx with ⟨c1, c2⟩ | ⟨c1, c2⟩
    · exact Or.inr ⟨c2, fun q => c1 (by rw [e]; exact q.2.2 k h0.1.1 (by omega))⟩
    · exact Or.inl ⟨c2, h2, h3, iw_s h4 (by rw [c1]; exact e)⟩
  · exact absurd h1 (by omega)
theorem spI_e {B S A V E : Nat → Int} {i : Nat} {j a l t s k v : Int} (hr : ra B S A V E j a l t v) (hi : i < 7) (h : spI i B a l t s k) (hk : ¬ (k < zL i) ∨ s = 0) : (s = 1 ∧ S j.toNat = 4 + (i : Int)) ∨ (s = 0 ∧ ¬ (S j.toNat = 4 + (i : Int))) := by
  rcases h with ⟨h1, h2, h3, h4⟩ | ⟨h1, h2⟩
  · exact Or.inl ⟨h1, (hr.2.2.2 i hi).mp ⟨h2, by omega, fun q x y => h4 q x (by omega)⟩⟩
  · exact Or.inr ⟨h1, fun q => h2 ((hr.2.2.2 i hi).mpr q)⟩
def dmJ (S V f : Nat → Int) (a n d : Int) (g B A E : Nat → Int) (x l k v : Int) : Prop := ∃ b : Int, dmI S V f a d g b ∧ ra B S A V E b x l k v ∧ a < b ∧ b < n
def rdJ (S A V : Nat → Int) (n m : Int) (g B E : Nat → Int) (x l k v : Int) : Prop := ∃ b : Int, rdI S A V m g b ∧ ra B S A V E b x l k v ∧ 0 ≤ b ∧ b < n
def rdM (S A V : Nat → Int) (r : Int) (F N : Nat → Int) : Prop := r = (rdT S A V).1 ∧ ((0 < r ∧ eqB 135 (rdT S A V).2 N) ∨ (r ≤ 0 ∧ N = F))
theorem rdM_0 {B S A V E F : Nat → Int} {r x l k v : Int} (hr : ra B S A V E 0 x l k v) (h : ¬ (S (0 : Int).toNat = 4)) (e : r = -10 - x) (h0 : 0 ≤ x) : rdM S A V r F F := by
  have q := hr.1.1
  exact ⟨by rw [rdT_0 h]; show r = -10 - A (0 : Int).toNat; omega, Or.inr ⟨by omega, rfl⟩⟩
theorem rdM_1 {B S A V E F : Nat → Int} {r x l k v : Int} (hr : ra B S A V E (0 + 1) x l k v) (h : S (0 : Int).toNat = 4) (hk : ¬ (k = 3)) (e : r = -10 - x) (h0 : 0 ≤ x) : rdM S A V r F F := by
  have q := hr.1.1
  exact ⟨by rw [rdT_1 h (ra_n1 hr hk)]; show r = -10 - A (0 + 1 : Int).toNat; omega, Or.inr ⟨by omega, rfl⟩⟩
theorem rdM_n {B S A V E F g : Nat → Int} {r m a b x l k v : Int} (hg : rdI S A V m g a) (h0 : 1 ≤ m) (h1 : m ≤ 199) (h2 : ¬ S a.toNat = 0) (h3 : INo S (cIt S V g a) b) (hr : ra B S A V E b x l k v) (e : r = -10 - x) (hx : 0 ≤ x) : rdM S A V r F F := by
  have q := hr.1.1
  exact ⟨by rw [rdI_n hg h0 h1 h2 h3]; show r = -10 - A b.toNat; omega, Or.inr ⟨by omega, rfl⟩⟩
theorem rdM_e {B S A V E F g N : Nat → Int} {m a x l k v i : Int} (hg : rdI S A V m g a) (h0 : 1 ≤ m) (h1 : m ≤ 199) (hr : ra B S A V E a x l k v) (hk : k = 0) (hN : eqB i g N) (hi : i = 135) : rdM S A V m F N := by
  have e := rdI_e hg h0 h1 (hr.2.1.1.mp hk)
  subst hi
  exact ⟨by rw [e], Or.inl ⟨by omega, by rw [e]; exact hN⟩⟩
theorem rdM_q {S A V F N : Nat → Int} {r : Int} (h : rdM S A V r F N) (h0 : 0 < r) : eqB 135 (rdT S A V).2 N := by
  rcases h.2 with ⟨_, q⟩ | ⟨q, _⟩
  · exact q
  · exact absurd h0 (by omega)
