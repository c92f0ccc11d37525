def zL (i : Nat) : Int := ((zLen.getD i 0 : Nat) : Int)
/-- a run of bytes of one sort, from st to en -/
def rn (B : Nat → Int) (L lo hi st en : Int) : Prop := st < en ∧ en ≤ L ∧ (∀ k : Int, st ≤ k → k < en → lo ≤ B k.toNat ∧ B k.toNat ≤ hi) ∧ (en < L → ¬ (lo ≤ B en.toNat ∧ B en.toNat ≤ hi))
/-- behind the blanks from i on -/
def sk (B : Nat → Int) (L i st : Int) : Prop := i ≤ st ∧ st ≤ L ∧ (∀ k : Int, i ≤ k → k < st → B k.toNat = 32) ∧ (st < L → ¬ B st.toNat = 32)
def isW (i : Nat) (B : Nat → Int) (st en : Int) : Prop := en - st = zL i ∧ ∀ k : Int, 0 ≤ k → k < zL i → B (st + k).toNat = zC i k
def wd (B : Nat → Int) (st en s : Int) : Prop := (∃ i : Nat, i < 7 ∧ isW i B st en ∧ s = 4 + (i : Int)) ∨ ((∀ i : Nat, i < 7 → ¬ isW i B st en) ∧ s = 3)
/-- a TOKEN that begins at st -/
def tkb (B : Nat → Int) (L st s en v : Int) : Prop :=
  ((97 ≤ B st.toNat ∧ B st.toNat ≤ 122) ∧ rn B L 97 122 st en ∧ wd B st en s) ∨
  ((48 ≤ B st.toNat ∧ B st.toNat ≤ 57) ∧ rn B L 48 57 st en ∧ ((en - st = 1 ∧ s = 2 ∧ v = B st.toNat - 48) ∨ (en - st = 2 ∧ s = 2 ∧ v = 10 * (B st.toNat - 48) + B (st + 1).toNat - 48) ∨ (2 < en - st ∧ s = 3))) ∨
  ((¬ (97 ≤ B st.toNat ∧ B st.toNat ≤ 122) ∧ ¬ (48 ≤ B st.toNat ∧ B st.toNat ≤ 57)) ∧ en = st + 1 ∧ ((B st.toNat = 59 ∧ s = 1) ∨ (¬ B st.toNat = 59 ∧ s = 3)))
def tk (B : Nat → Int) (L i s st en v : Int) : Prop := sk B L i st ∧ ((st = L ∧ s = 0 ∧ en = L) ∨ (st < L ∧ tkb B L st s en v))
theorem tkb.s0 {B : Nat → Int} {L st s en v : Int} (h : tkb B L st s en v) (hL : st < L) : 1 ≤ s ∧ s ≤ 10 ∧ st < en ∧ en ≤ L := by
  rcases h with ⟨_, h1, ⟨i, hi, _, h2⟩ | ⟨_, h2⟩⟩ | ⟨_, h1, h2⟩ | ⟨h1, h2, h3⟩
  · exact ⟨by omega, by omega, h1.1, h1.2.1⟩
  · exact ⟨by omega, by omega, h1.1, h1.2.1⟩
  · exact ⟨by omega, by omega, h1.1, h1.2.1⟩
  · exact ⟨by omega, by omega, by omega, by omega⟩
/-- the first n TOKENS, and blanks from there to where it stands -/
def chn (B : Nat → Int) (L : Int) (S A V : Nat → Int) (n z : Int) : Prop := ∃ E : Nat → Int, E 0 = 0 ∧ 0 ≤ n ∧ n ≤ E n.toNat ∧ E n.toNat ≤ z ∧ z ≤ L ∧ (∀ k : Int, E n.toNat ≤ k → k < z → B k.toNat = 32) ∧ (∀ j : Nat, (j : Int) < n → tk B L (E j) (S j) (A j) (E (j + 1)) (V j) ∧ ¬ S j = 0)
def chF (B : Nat → Int) (L : Int) (S A V : Nat → Int) (n : Int) (E : Nat → Int) : Prop := (1 ≤ n ∧ n ≤ L + 1) ∧ E 0 = 0 ∧ (∀ j : Int, 0 ≤ j → j < n → tk B L (E j.toNat) (S j.toNat) (A j.toNat) (E (j + 1).toNat) (V j.toNat)) ∧ (∀ j : Int, 0 ≤ j → j + 1 < n → ¬ S j.toNat = 0) ∧ S (n - 1).toNat = 0
theorem chn_0 {B : Nat → Int} {L : Int} (S A V : Nat → Int) (h : 0 ≤ L) : chn B L S A V 0 0 := ⟨fun _ => 0, rfl, by omega, by show (0 : Int) ≤ 0; omega, by show (0 : Int) ≤ 0; omega, h, fun k h1 h2 => absurd (show (0 : Int) ≤ k from h1) (by omega), fun j hj => absurd hj (by omega)⟩
theorem chn.le {B : Nat → Int} {L n z : Int} {S A V : Nat → Int} (h : chn B L S A V n z) : 0 ≤ n ∧ n ≤ z ∧ z ≤ L := by
  obtain ⟨E, h0, h1, h2, h3, h4, _⟩ := h
  omega
theorem chn_b {B : Nat → Int} {L n z : Int} {S A V : Nat → Int} (h : chn B L S A V n z) (h1 : z < L) (h2 : B z.toNat = 32) : chn B L S A V n (z + 1) := by
  obtain ⟨E, e0, e1, e2, e3, e4, e5, e6⟩ := h
  refine ⟨E, e0, e1, e2, by omega, by omega, fun k a b => ?_, e6⟩
  by_cases c : k = z
  · subst c
    exact h2
  · exact e5 k a (by omega)
theorem chn_t {B : Nat → Int} {L n z s en v : Int} {S A V : Nat → Int} (h : chn B L S A V n z) (h1 : z < L) (h2 : ¬ B z.toNat = 32) (h3 : tkb B L z s en v) : chn B L (uI S n.toNat s) (uI A n.toNat z) (uI V n.toNat v) (n + 1) en := by
  obtain ⟨E, e0, e1, e2, e3, e4, e5, e6⟩ := h
  have q := h3.s0 h1
  have en' : uI E (n + 1).toNat en (n + 1).toNat = en := uI_eq _ _ _
  refine ⟨uI E (n + 1).toNat en, by rw [uI_ne (by omega)]; exact e0, by omega, by rw [en']; omega, by rw [en']; omega, by omega, fun k a b => absurd a (by rw [en']; omega), fun j hj => ?_⟩
  by_cases c : (j : Int) = n
  · have cj : j = n.toNat := by omega
    subst cj
    rw [uI_eq, uI_eq, uI_eq, uI_ne (F := E) (show n.toNat ≠ (n + 1).toNat by omega), show n.toNat + 1 = (n + 1).toNat by omega, uI_eq]
    exact ⟨⟨⟨e3, by omega, e5, fun _ => h2⟩, Or.inr ⟨h1, h3⟩⟩, by omega⟩
  · rw [uI_ne (F := S) (by omega), uI_ne (F := A) (by omega), uI_ne (F := V) (by omega), uI_ne (F := E) (show j ≠ (n + 1).toNat by omega), uI_ne (F := E) (show j + 1 ≠ (n + 1).toNat by omega)]
    exact e6 j (by omega)
theorem chn_e {B : Nat → Int} {L n : Int} {S A V : Nat → Int} (v : Int) (h : chn B L S A V n L) : ∃ E : Nat → Int, chF B L (uI S n.toNat 0) (uI A n.toNat L) (uI V n.toNat v) (n + 1) E := by
  obtain ⟨E, e0, e1, e2, e3, e4, e5, e6⟩ := h
  refine ⟨uI E (n + 1).toNat L, by omega, by rw [uI_ne (by omega)]; exact e0, fun j h0 h1 => ?_, fun j h0 h1 => ?_, by rw [show (n + 1 - 1).toNat = n.toNat by omega]; exact uI_eq _ _ _⟩
  · by_cases c : j = n
    · rw [c, uI_eq, uI_eq, uI_eq, uI_eq, uI_ne (F := E) (show n.toNat ≠ (n + 1).toNat by omega)]
      exact ⟨⟨e3, by omega, e5, fun q => absurd q (by omega)⟩, Or.inl ⟨rfl, rfl, rfl⟩⟩
    · rw [uI_ne (F := S) (by omega), uI_ne (F := A) (by omega), uI_ne (F := V) (by omega), uI_ne (F := E) (show j.toNat ≠ (n + 1).toNat by omega), uI_ne (F := E) (show (j + 1).toNat ≠ (n + 1).toNat by omega), show (j + 1).toNat = j.toNat + 1 by omega]
      exact (e6 j.toNat (by omega)).1
  · rw [uI_ne (by omega)]
    exact (e6 j.toNat (by omega)).2
theorem chF.ts {B : Nat → Int} {L n j : Int} {S A V E : Nat → Int} (h : chF B L S A V n E) (h0 : 0 ≤ j) (h1 : j < n) (h2 : ¬ S j.toNat = 0) : j + 1 < n := by
  obtain ⟨_, _, _, _, h5⟩ := h
  rcases (show j + 1 < n ∨ j = n - 1 by omega) with c | c
  · exact c
  · rw [← c] at h5
    exact absurd h5 h2
theorem sk_u {B : Nat → Int} {L i a b : Int} (h1 : sk B L i a) (h2 : sk B L i b) : a = b := by
  rcases (show a < b ∨ b < a ∨ a = b by omega) with c | c | c
  · exact absurd (h2.2.2.1 a h1.1 c) (h1.2.2.2 (by have := h2.2.1; omega))
  · exact absurd (h1.2.2.1 b h2.1 c) (h2.2.2.2 (by have := h1.2.1; omega))
  · exact c
theorem rn_u {B : Nat → Int} {L lo hi st a b : Int} (h1 : rn B L lo hi st a) (h2 : rn B L lo hi st b) : a = b := by
  rcases (show a < b ∨ b < a ∨ a = b by omega) with c | c | c
  · exact absurd (h2.2.2.1 a (by have := h1.1; omega) c) (h1.2.2.2 (by have := h2.2.1; omega))
  · exact absurd (h1.2.2.1 b (by have := h2.1; omega) c) (h2.2.2.2 (by have := h1.2.1; omega))
  · exact c
set_option maxRecDepth 100000 in
theorem isW_ex {B : Nat → Int} {st en : Int} {i j : Nat} (hi : i < 7) (hj : j < 7) (h1 : isW i B st en) (h2 : isW j B st en) : i = j := by
  have l0 : zL 0 = 6 := rfl
  have l1 : zL 1 = 4 := rfl
  have l2 : zL 2 = 5 := rfl
  have l3 : zL 3 = 5 := rfl
  have l4 : zL 4 = 4 := rfl
  have l5 : zL 5 = 3 := rfl
  have l6 : zL 6 = 4 := rfl
  have c10 : zC 1 0 = 100 := by decide +kernel
  have c40 : zC 4 0 = 98 := by decide +kernel
  have c60 : zC 6 0 = 100 := by decide +kernel
  have c20 : zC 2 0 = 97 := by decide +kernel
  have c30 : zC 3 0 = 98 := by decide +kernel
  have c12 : zC 1 2 = 109 := by decide +kernel
  have c62 : zC 6 2 = 121 := by decide +kernel
  have e1 := h1.1
  have e2 := h2.1
  rcases (show i = 0 ∨ i = 1 ∨ i = 2 ∨ i = 3 ∨ i = 4 ∨ i = 5 ∨ i = 6 by omega) with rfl | rfl | rfl | rfl | rfl | rfl | rfl <;> rcases (show j = 0 ∨ j = 1 ∨ j = 2 ∨ j = 3 ∨ j = 4 ∨ j = 5 ∨ j = 6 by omega) with rfl | rfl | rfl | rfl | rfl | rfl | rfl <;> first | rfl | (exfalso; omega) | (exfalso; have a0 := h1.2 0 (by omega) (by omega); have b0 := h2.2 0 (by omega) (by omega); omega) | (exfalso; have a0 := h1.2 2 (by omega) (by omega); have b0 := h2.2 2 (by omega) (by omega); omega)
/-- what the reference looks at, from i on -/
def rt (B : Nat → Int) (L i a l k v : Int) : Prop := sk B L i a ∧ ((a = L ∧ l = 0 ∧ k = 0) ∨ (a < L ∧ (
  ((97 ≤ B a.toNat ∧ B a.toNat ≤ 122) ∧ rn B L 97 122 a (a + l) ∧ k = 1) ∨
  ((48 ≤ B a.toNat ∧ B a.toNat ≤ 57) ∧ rn B L 48 57 a (a + l) ∧ ((l = 1 ∧ k = 2 ∧ v = B a.toNat - 48) ∨ (l = 2 ∧ k = 2 ∧ v = 10 * (B a.toNat - 48) + B (a + 1).toNat - 48) ∨ (2 < l ∧ k = 4))) ∨
  ((¬ (97 ≤ B a.toNat ∧ B a.toNat ≤ 122) ∧ ¬ (48 ≤ B a.toNat ∧ B a.toNat ≤ 57)) ∧ l = 1 ∧ ((B a.toNat = 59 ∧ k = 3) ∨ (¬ B a.toNat = 59 ∧ k = 4))))))
/-- it looks at the TOKEN j -/
def ra (B S A V E : Nat → Int) (j a l k v : Int) : Prop := (a = A j.toNat ∧ a + l = E (j + 1).toNat) ∧ ((k = 0 ↔ S j.toNat = 0) ∧ (k = 3 ↔ S j.toNat = 1) ∧ (k = 2 ↔ S j.toNat = 2)) ∧ (k = 2 → v = V j.toNat) ∧ (∀ i : Nat, i < 7 → ((k = 1 ∧ isW i B a (a + l)) ↔ S j.toNat = 4 + (i : Int)))
theorem ra_of {B S A V E : Nat → Int} {L n j a l k w : Int} (hc : chF B L S A V n E) (h0 : 0 ≤ j) (h1 : j < n) (h : rt B L (E j.toNat) a l k w) : ra B S A V E j a l k w := by
  have ht := hc.2.2.1 j h0 h1
  have e : a = A j.toNat := sk_u h.1 ht.1
  unfold ra
  rw [← e] at ht ⊢
  generalize S j.toNat = s at ht ⊢
  generalize E (j + 1).toNat = en at ht ⊢
  generalize V j.toNat = v at ht ⊢
  rcases h.2 with ⟨a1, a2, a3⟩ | ⟨a1, a2⟩
  · rcases ht.2 with ⟨b1, b2, b3⟩ | ⟨b1, b2⟩
    · exact ⟨⟨rfl, by omega⟩, ⟨⟨fun _ => by omega, fun _ => by omega⟩, ⟨fun _ => by omega, fun _ => by omega⟩, ⟨fun _ => by omega, fun _ => by omega⟩⟩, fun _ => by omega, fun i hi => ⟨fun q => absurd q.1 (by omega), fun q => absurd q (by omega)⟩⟩
    · exact absurd b1 (by omega)
  · rcases ht.2 with ⟨b1, b2, b3⟩ | ⟨b1, b2⟩
    · exact absurd a1 (by omega)
    · rcases a2 with ⟨c1, c2, c3⟩ | ⟨c1, c2, c3⟩ | ⟨c1, c2, c3⟩
      · rcases b2 with ⟨d1, d2, d3⟩ | ⟨d1, d2, d3⟩ | ⟨d1, d2, d3⟩
        · have e2 := rn_u c2 d2
          subst e2
          rcases d3 with ⟨i, hi, g1, g2⟩ | ⟨g1, g2⟩
          · refine ⟨⟨rfl, rfl⟩, ⟨⟨fun _ => by omega, fun _ => by omega⟩, ⟨fun _ => by omega, fun _ => by omega⟩, ⟨fun _ => by omega, fun _ => by omega⟩⟩, fun _ => by omega, fun i2 hi2 => ⟨fun q => ?_, fun q => ⟨c3, ?_⟩⟩⟩
            · rw [isW_ex hi2 hi q.2 g1]
              exact g2
            · rw [show i2 = i by omega]
              exact g1
          · exact ⟨⟨rfl, rfl⟩, ⟨⟨fun _ => by omega, fun _ => by omega⟩, ⟨fun _ => by omega, fun _ => by omega⟩, ⟨fun _ => by omega, fun _ => by omega⟩⟩, fun _ => by omega, fun i hi => ⟨fun q => absurd q.2 (g1 i hi), fun q => absurd q (by omega)⟩⟩
        · exact absurd c1 (by omega)
        · exact absurd c1 d1.1
      · rcases b2 with ⟨d1, d2, d3⟩ | ⟨d1, d2, d3⟩ | ⟨d1, d2, d3⟩
        · exact absurd c1 (by omega)
        · have e2 := rn_u c2 d2
          subst e2
          exact ⟨⟨rfl, rfl⟩, ⟨⟨fun _ => by omega, fun _ => by omega⟩, ⟨fun _ => by omega, fun _ => by omega⟩, ⟨fun _ => by omega, fun _ => by omega⟩⟩, fun _ => by omega, fun i hi => ⟨fun q => absurd q.1 (by omega), fun q => absurd q (by omega)⟩⟩
        · exact absurd c1 d1.2
      · rcases b2 with ⟨d1, d2, d3⟩ | ⟨d1, d2, d3⟩ | ⟨d1, d2, d3⟩
        · exact absurd d1 c1.1
        · exact absurd d1 c1.2
        · exact ⟨⟨rfl, by omega⟩, ⟨⟨fun _ => by omega, fun _ => by omega⟩, ⟨fun _ => by omega, fun _ => by omega⟩, ⟨fun _ => by omega, fun _ => by omega⟩⟩, fun _ => by omega, fun i hi => ⟨fun q => absurd q.1 (by omega), fun q => absurd q (by omega)⟩⟩
theorem wd_ok {B : Nat → Int} {st en s : Int} (i : Nat) (hi : i < 7) (h : isW i B st en) (e : s = 4 + (i : Int)) : wd B st en s := Or.inl ⟨i, hi, h, e⟩
theorem wd_no {B : Nat → Int} {st en : Int} (h0 : ¬ isW 0 B st en) (h1 : ¬ isW 1 B st en) (h2 : ¬ isW 2 B st en) (h3 : ¬ isW 3 B st en) (h4 : ¬ isW 4 B st en) (h5 : ¬ isW 5 B st en) (h6 : ¬ isW 6 B st en) : wd B st en 3 := Or.inr ⟨fun i hi => by
  rcases (show i = 0 ∨ i = 1 ∨ i = 2 ∨ i = 3 ∨ i = 4 ∨ i = 5 ∨ i = 6 by omega) with rfl | rfl | rfl | rfl | rfl | rfl | rfl <;> assumption, rfl⟩
/-- so far all bytes are between lo and hi -/
def fr (B : Nat → Int) (lo hi st k : Int) : Prop := ∀ q : Int, st ≤ q → q < k → lo ≤ B q.toNat ∧ B q.toNat ≤ hi
theorem fr_1 {B : Nat → Int} {lo hi st : Int} (h : lo ≤ B st.toNat ∧ B st.toNat ≤ hi) : fr B lo hi st (st + 1) := fun q a b => by
  rw [show q = st by omega]
  exact h
theorem fr_s {B : Nat → Int} {lo hi st k : Int} (h : fr B lo hi st k) (h1 : lo ≤ B k.toNat ∧ B k.toNat ≤ hi) : fr B lo hi st (k + 1) := fun q a b => by
  by_cases c : q = k
  · subst c
    exact h1
  · exact h q a (by omega)
theorem tkb_w {B : Nat → Int} {L st s en v : Int} (hc : 97 ≤ B st.toNat ∧ B st.toNat ≤ 122) (h : fr B 97 122 st en) (h0 : st < en ∧ en ≤ L) (he : en < L → ¬ (97 ≤ B en.toNat ∧ B en.toNat ≤ 122)) (hw : wd B st en s) : tkb B L st s en v := Or.inl ⟨hc, ⟨h0.1, h0.2, h, he⟩, hw⟩
theorem tkb_n {B : Nat → Int} {L st s en v : Int} (hc : 48 ≤ B st.toNat ∧ B st.toNat ≤ 57) (h : fr B 48 57 st en) (h0 : st < en ∧ en ≤ L) (hs0 : 0 ≤ st) (he : en < L → ¬ (48 ≤ B en.toNat ∧ B en.toNat ≤ 57)) (hv : (en - st = 1 ∧ v = B st.toNat - 48) ∨ (¬ (en - st = 1) ∧ v = 10 * (B st.toNat - 48) + B (en - 1).toNat - 48)) (hs : (en - st ≤ 2 ∧ s = 2) ∨ (¬ (en - st ≤ 2) ∧ s = 3)) : tkb B L st s en v := Or.inr (Or.inl ⟨hc, ⟨h0.1, h0.2, h, he⟩, by
  rcases (show en - st = 1 ∨ en - st = 2 ∨ 2 < en - st by omega) with e | e | e
  · exact Or.inl (by omega)
  · rw [show en - 1 = st + 1 by omega] at hv
    exact Or.inr (Or.inl (by omega))
  · exact Or.inr (Or.inr (by omega))⟩)
theorem tkb_o {B : Nat → Int} {L st s v : Int} (h1 : ¬ (97 ≤ B st.toNat ∧ B st.toNat ≤ 122)) (h2 : ¬ (48 ≤ B st.toNat ∧ B st.toNat ≤ 57)) (h3 : (B st.toNat = 59 ∧ s = 1) ∨ (¬ B st.toNat = 59 ∧ s = 3)) : tkb B L st s (st + 1) v := Or.inr (Or.inr ⟨⟨h1, h2⟩, rfl, h3⟩)
/-- the first k letters of a word -/
def iw (i : Nat) (B : Nat → Int) (st k : Int) : Prop := ∀ q : Int, 0 ≤ q → q < k → B (st + q).toNat = zC i q
theorem iw_0 {i : Nat} {B : Nat → Int} {st : Int} : iw i B st 0 := fun q a b => absurd a (by omega)
theorem iw_s {i : Nat} {B : Nat → Int} {st k : Int} (h : iw i B st k) (h1 : B (st + k).toNat = zC i k) : iw i B st (k + 1) := fun q a b => by
  by_cases c : q = k
  · subst c
    exact h1
  · exact h q a (by omega)
theorem isW_y {i : Nat} {B : Nat → Int} {st en k : Int} (h : iw i B st k) (h1 : en - st = ((zLen.getD i 0 : Nat) : Int)) (h2 : ¬ (k < ((zLen.getD i 0 : Nat) : Int))) : isW i B st en := ⟨h1, fun q a b => h q a (by unfold zL at b; omega)⟩
theorem isW_l {i : Nat} {B : Nat → Int} {st en : Int} (h1 : ¬ (en - st = ((zLen.getD i 0 : Nat) : Int))) : ¬ isW i B st en := fun q => h1 q.1
theorem isW_n {i : Nat} {B : Nat → Int} {st en k : Int} (h0 : 0 ≤ k) (h1 : k < ((zLen.getD i 0 : Nat) : Int)) (h2 : ¬ (B (st + k).toNat = zC i k)) : ¬ isW i B st en := fun q => h2 (q.2 k h0 h1)
def tsN (S : Nat → Int) (n : Int) : Prop := ∀ j : Int, 0 ≤ j → j < n → ¬ S j.toNat = 0 → j + 1 < n
theorem chF.ts' {B : Nat → Int} {L n : Int} {S A V E : Nat → Int} (h : chF B L S A V n E) : tsN S n := fun _ h0 h1 h2 => h.ts h0 h1 h2
theorem chn_at {B : Nat → Int} {L n z y : Int} {S A V : Nat → Int} (h : chn B L S A V n z) (e : z = y) : chn B L S A V n y := e ▸ h
