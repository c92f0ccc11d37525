def kW (F E : Nat → Int) : Prop := ∀ k : Nat, (k < 5 ∨ (28 ≤ k ∧ k < 135)) → E k = F k
theorem kW_r (F : Nat → Int) : kW F F := fun _ _ => rfl
theorem kW_t {F E D : Nat → Int} (h : kW F E) (h2 : kW E D) : kW F D := fun k hk => (h2 k hk).trans (h k hk)
theorem kW_u {F E : Nat → Int} {k : Nat} {v : Int} (h : kW F E) (hk : (5 ≤ k ∧ k ≤ 27) ∨ 135 ≤ k) : kW F (uI E k v) := fun j hj => by
  rw [uI_ne (by omega)]
  exact h j hj
theorem eqB_at {i j : Int} {F E : Nat → Int} (h : eqB i F E) (e : j ≤ i) : eqB j F E := fun k hk => h k (by omega)
theorem sBite_a {f : Nat → Int} {b p v : Int} (h0 : f (20 + p).toNat = 0) (h1 : ¬ (v = 0)) (hp : 0 ≤ p ∧ p ≤ 6) (hv : v = f (6 + p).toNat - sOff f b p) : uI f (6 + p).toNat v = sBite f b p := funext (fun j => by
  unfold sBite
  rw [← hv, if_neg h1]
  by_cases c : j = (20 + p).toNat
  · subst c
    rw [uI_eq, uI_ne (by omega)]
    exact h0
  · rw [uI_ne (F := uI f (6 + p).toNat v) c])
theorem sBite_b {f : Nat → Int} {b p v z : Int} (h1 : v = 0) (hz : (f (41 + p).toNat ≤ f (13 + p).toNat ∧ z = 1) ∨ (f (13 + p).toNat < f (41 + p).toNat ∧ z = 2)) (hv : v = f (6 + p).toNat - sOff f b p) : uI (uI f (6 + p).toNat v) (20 + p).toNat z = sBite f b p := by
  unfold sBite
  rw [← hv, if_pos h1]
  rcases hz with ⟨a, rfl⟩ | ⟨a, rfl⟩
  · rw [if_pos a]
  · rw [if_neg (by omega)]
/-- a DAY, of the first i APPLES -/
def dP (f : Nat → Int) (i : Int) : Nat → Int := fun j => if 13 ≤ j ∧ (j : Int) < 13 + i ∧ f (j + 7) = 0 then f j + 1 else f j
theorem dP_0 (f : Nat → Int) : f = dP f 0 := funext (fun j => by
  unfold dP
  rw [if_neg (by omega)])
theorem dP_20 {f : Nat → Int} {i : Int} (h : i ≤ 7) {j : Nat} (hj : j < 13 ∨ 20 ≤ j) : dP f i j = f j := by
  unfold dP
  rw [if_neg (by omega)]
theorem dP_s1 {f E : Nat → Int} {i v : Int} (h : E = dP f i) (h0 : 0 ≤ i ∧ i < 7) (h1 : E (20 + i).toNat = 0) (hv : v = E (13 + i).toNat + 1) : uI E (13 + i).toNat v = dP f (i + 1) := funext (fun j => by
  subst h
  subst hv
  rw [dP_20 (by omega) (by omega)] at h1
  by_cases c : j = (13 + i).toNat
  · have e : (13 + i).toNat + 7 = (20 + i).toNat := by omega
    subst c
    rw [uI_eq]
    unfold dP
    rw [e, if_neg (by omega), if_pos ⟨by omega, by omega, h1⟩]
  · rw [uI_ne c]
    unfold dP
    by_cases d : 13 ≤ j ∧ (j : Int) < 13 + i ∧ f (j + 7) = 0
    · rw [if_pos d, if_pos ⟨d.1, by omega, d.2.2⟩]
    · rw [if_neg d, if_neg (fun q => d ⟨q.1, by omega, q.2.2⟩)])
theorem dP_s2 {f E : Nat → Int} {i v : Int} (h : E = dP f i) (h0 : 0 ≤ i ∧ i < 7) (h1 : ¬ (E (20 + i).toNat = 0)) (hv : v = E (13 + i).toNat + 0) : uI E (13 + i).toNat v = dP f (i + 1) := funext (fun j => by
  subst h
  subst hv
  rw [dP_20 (by omega) (by omega)] at h1
  by_cases c : j = (13 + i).toNat
  · have e : (13 + i).toNat + 7 = (20 + i).toNat := by omega
    subst c
    rw [uI_eq]
    unfold dP
    rw [e, if_neg (by omega), if_neg (fun q => h1 q.2.2)]
    omega
  · rw [uI_ne c]
    unfold dP
    by_cases d : 13 ≤ j ∧ (j : Int) < 13 + i ∧ f (j + 7) = 0
    · rw [if_pos d, if_pos ⟨d.1, by omega, d.2.2⟩]
    · rw [if_neg d, if_neg (fun q => d ⟨q.1, by omega, q.2.2⟩)])
theorem dP_e {f E : Nat → Int} {i v : Int} (h : E = dP f i) (h0 : f 0 = i) (h7 : f 0 ≤ 7) (hv : v = E 27 + 1) : uI E 27 v = sDM f 1 := funext (fun j => by
  subst h
  subst hv
  subst h0
  rw [dP_20 h7 (by omega)]
  by_cases c : j = 27
  · subst c
    rw [uI_eq]
    unfold sDM
    rw [if_neg (by omega), if_pos rfl]
  · rw [uI_ne c]
    unfold sDM dP
    by_cases d : 13 ≤ j ∧ (j : Int) < 13 + f 0 ∧ f (j + 7) = 0
    · rw [if_pos d, if_pos d]
    · rw [if_neg d, if_neg d, if_neg c])
theorem sDM_ss {f E : Nat → Int} {i : Int} (h : E = sDM f i) (h7 : f 0 ≤ 7) : sDM E 1 = sDM f (i + 1) := by
  rw [h]
  exact sDM_add h7 i 1
theorem sDM_27 {f E : Nat → Int} {i : Int} (h7 : E 0 ≤ 7) (h : E 27 = f 27 + i) : sDM E 1 27 = f 27 + (i + 1) := by
  have e : sDM E 1 27 = E 27 + 1 := by
    unfold sDM
    rw [if_neg (by omega), if_pos rfl]
  omega
theorem sDM_00 {f E : Nat → Int} (h7 : E 0 ≤ 7) (h : 0 ≤ E 0 ∧ E 0 ≤ 7 ∧ E 0 = f 0) : 0 ≤ sDM E 1 0 ∧ sDM E 1 0 ≤ 7 ∧ sDM E 1 0 = f 0 := by
  rw [sDM_o h7 (by omega) (by omega)]
  exact h
theorem sDip_e {f : Nat → Int} {p n v : Int} (h : v = min 30 (f (6 + p).toNat + n)) : uI f (6 + p).toNat v = sDip f p n := by
  rw [h]
  rfl
theorem sApple_0 (f : Nat → Int) (k t r : Int) : sApple f k t r 0 = f 0 + 1 := uI_eq _ _ _
theorem sBiter_1 (f : Nat → Int) (k b : Int) : sBiter f k b 1 = f 1 + 1 := uI_eq _ _ _
def l5 (F : Nat → Int) (t a b c d e : Int) : Nat → Int := uI (uI (uI (uI (uI F t.toNat a) (t + 1).toNat b) (t + 2).toNat c) (t + 3).toNat d) (t + 4).toNat e
theorem l5_o {F : Nat → Int} {t a b c d e : Int} {j : Nat} (h : 56 ≤ t) (hj : j < 56) : l5 F t a b c d e j = F j := by
  unfold l5
  rw [uI_ne (by omega), uI_ne (by omega), uI_ne (by omega), uI_ne (by omega), uI_ne (by omega)]
def k4 (F : Nat → Int) (t a b c d : Int) : Nat → Int := uI (uI (uI (uI F t.toNat a) (t + 1).toNat b) (t + 2).toNat c) (t + 3).toNat d
/-- i places of F stand in E from o on, the others are those of D -/
def cp (o i : Int) (F D E : Nat → Int) : Prop := (∀ j : Int, 0 ≤ j → j < i → E (o + j).toNat = F j.toNat) ∧ (∀ j : Nat, (j : Int) < o ∨ o + i ≤ (j : Int) → E j = D j)
theorem cp_0 {o : Int} (F D : Nat → Int) (_u : Unit) : cp o 0 F D D := ⟨fun j a b => absurd a (by omega), fun _ _ => rfl⟩
theorem cp_u {o i v : Int} {F D E : Nat → Int} (h : cp o i F D E) (hv : F i.toNat = v) (h0 : 0 ≤ i) (ho : 0 ≤ o) : cp o (i + 1) F D (uI E (o + i).toNat v) := ⟨fun j a b => by
  by_cases c : j = i
  · subst c
    rw [uI_eq]
    exact hv.symm
  · rw [uI_ne (by omega)]
    exact h.1 j a (by omega), fun j hj => by
  rw [uI_ne (by omega)]
  exact h.2 j (by omega)⟩
theorem cp_at {o i n : Int} {F D E : Nat → Int} (h : cp o i F D E) (e : i = n) : cp o n F D E := e ▸ h
/-- i places of E are those of D from o on -/
def cf (o i : Int) (D E : Nat → Int) : Prop := ∀ j : Int, 0 ≤ j → j < i → E j.toNat = D (o + j).toNat
theorem cf_0 {o : Int} (D E : Nat → Int) (_u : Unit) : cf o 0 D E := fun j a b => absurd a (by omega)
theorem cf_u {o i v : Int} {D E : Nat → Int} (h : cf o i D E) (hv : D (o + i).toNat = v) (h0 : 0 ≤ i) (ho : 0 ≤ o) : cf o (i + 1) D (uI E i.toNat v) := fun j a b => by
  by_cases c : j = i
  · subst c
    rw [uI_eq]
    exact hv.symm
  · rw [uI_ne (by omega)]
    exact h j a (by omega)
theorem cf_at {o i n : Int} {D E : Nat → Int} (h : cf o i D E) (e : i = n) : cf o n D E := e ▸ h
theorem kW_uu {F E : Nat → Int} {k : Nat} {v : Int} (h : kW F E) : kW (uI F k v) (uI E k v) := fun j hj => by
  unfold uI
  split
  · rfl
  · exact h j hj
theorem kW_damp {F E : Nat → Int} {d w : Int} (h : kW F E) : kW (sDamp F d w) (sDamp E d w) := kW_uu h
theorem kW_apple {F E : Nat → Int} {k t r : Int} (h : kW F E) : kW (sApple F k t r) (sApple E k t r) := by
  unfold sApple
  rw [h 0 (by omega)]
  exact kW_uu (kW_uu (kW_uu (kW_uu (kW_uu (kW_uu h)))))
theorem kW_biter {F E : Nat → Int} {k b : Int} (h : kW F E) : kW (sBiter F k b) (sBiter E k b) := by
  unfold sBiter
  rw [h 1 (by omega)]
  exact kW_uu (kW_uu (kW_uu h))
theorem kW_l5 {F E : Nat → Int} {t a b c d e : Int} (h : kW F E) : kW (l5 F t a b c d e) (l5 E t a b c d e) := kW_uu (kW_uu (kW_uu (kW_uu (kW_uu h))))
theorem kW_k4 {F E : Nat → Int} {t a b c d : Int} (h : kW F E) : kW (k4 F t a b c d) (k4 E t a b c d) := kW_uu (kW_uu (kW_uu (kW_uu h)))
theorem kW_left {F E : Nat → Int} {a b c d e : Int} (h : kW F E) : kW (uI (l5 F (56 + 5 * F 2) a b c d e) 2 (F 2 + 1)) (uI (l5 E (56 + 5 * E 2) a b c d e) 2 (E 2 + 1)) := by
  rw [h 2 (by omega)]
  exact kW_uu (kW_l5 h)
theorem kW_note {F E : Nat → Int} {a b c d e : Int} (h : kW F E) : kW (uI (l5 F (81 + 5 * F 3) a b c d e) 3 (F 3 + 1)) (uI (l5 E (81 + 5 * E 3) a b c d e) 3 (E 3 + 1)) := by
  rw [h 3 (by omega)]
  exact kW_uu (kW_l5 h)
theorem kW_mark {F E : Nat → Int} {a b c d : Int} (h : kW F E) : kW (uI (k4 F (111 + 4 * F 4) a b c d) 4 (F 4 + 1)) (uI (k4 E (111 + 4 * E 4) a b c d) 4 (E 4 + 1)) := by
  rw [h 4 (by omega)]
  exact kW_uu (kW_k4 h)
theorem kW_z {F N : Nat → Int} (h : eqB 135 F N) : kW F N := fun k hk => h k (by omega)
theorem kW_cp0 {f F D N : Nat → Int} (h : kW f F) (hc : cp 0 311 F D N) : kW f N := fun k hk => by
  have q := hc.1 (k : Int) (by omega) (by omega)
  rw [show (0 + (k : Int)).toNat = k by omega, show (k : Int).toNat = k by omega] at q
  rw [q]
  exact h k hk
theorem kW_cp1 {f F D N : Nat → Int} (h : kW f F) (hc : cp 311 311 F D N) : kW f (fun k => N (311 + k)) := fun k hk => by
  have q := hc.1 (k : Int) (by omega) (by omega)
  rw [show (311 + (k : Int)).toNat = 311 + k by omega, show (k : Int).toNat = k by omega] at q
  show N (311 + k) = f k
  rw [q]
  exact h k hk
theorem kW_cp0o {f F D N : Nat → Int} (h : kW f (fun k => D (311 + k))) (hc : cp 0 311 F D N) : kW f (fun k => N (311 + k)) := fun k hk => by
  show N (311 + k) = f k
  rw [hc.2 (311 + k) (by omega)]
  exact h k hk
theorem kW_cp1o {f F D N : Nat → Int} (h : kW f D) (hc : cp 311 311 F D N) : kW f N := fun k hk => by
  rw [hc.2 k (by omega)]
  exact h k hk
theorem kW_cf0 {f D N : Nat → Int} (h : kW f D) (hc : cf 0 311 D N) : kW f N := fun k hk => by
  have q := hc (k : Int) (by omega) (by omega)
  rw [show (0 + (k : Int)).toNat = k by omega, show (k : Int).toNat = k by omega] at q
  rw [q]
  exact h k hk
theorem kW_cf1 {f D N : Nat → Int} (h : kW f (fun k => D (311 + k))) (hc : cf 311 311 D N) : kW f N := fun k hk => by
  have q := hc (k : Int) (by omega) (by omega)
  rw [show (311 + (k : Int)).toNat = 311 + k by omega, show (k : Int).toNat = k by omega] at q
  rw [q]
  exact h k hk
