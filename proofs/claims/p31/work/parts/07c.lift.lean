def dfD (len : Int) (ik : Nat → Int32) (len2 : Int) (ik2 : Nat → Int32) : Prop := len2 = len ∧ ik2 = ik
def tyD (len : Int) (ik : Nat → Int32) (a : Int) (r : Int32) (len2 : Int) (ik2 : Nat → Int32) : Prop := ik2 = ik ∧ ((¬ (0 ≤ a ∧ a ≤ 127) ∧ r = iI (-2) ∧ len2 = len) ∨ ((0 ≤ a ∧ a ≤ 127) ∧ len = 150 ∧ r = iI (-4) ∧ len2 = len) ∨ ((0 ≤ a ∧ a ≤ 127) ∧ len < 150 ∧ r = iI (len + 1) ∧ len2 = len + 1))
def clD (len : Int) (ik : Nat → Int32) (r : Int32) (len2 : Int) (ik2 : Nat → Int32) : Prop := ik2 = ik ∧ r = iI len ∧ len2 = 0
def waD (len : Int) (ik : Nat → Int32) (a : Int) (r : Int32) (len2 : Int) (ik2 : Nat → Int32) : Prop := len2 = len ∧ ik2 = ik ∧ ((¬ (0 ≤ a ∧ a ≤ 10) ∧ r = iI (-2)) ∨ ((0 ≤ a ∧ a ≤ 10) ∧ r = iI 1))
def imU (ik : Nat → Int32) (k : Nat) : Nat → Int32 := upd ik k (vp_nar .boolean (iI 1))
def imD (len : Int) (ik : Nat → Int32) (a : Int) (r : Int32) (len2 : Int) (ik2 : Nat → Int32) : Prop := len2 = len ∧ ((¬ (0 ≤ a ∧ a ≤ 1) ∧ r = iI (-2) ∧ ik2 = ik) ∨ (a = 0 ∧ r = iI 1 ∧ ik2 = imU ik 0) ∨ (a = 1 ∧ r = iI 1 ∧ ik2 = imU ik 1))
def frD (len : Int) (ik : Nat → Int32) (a : Int) (r : Int32) (len2 : Int) (ik2 : Nat → Int32) : Prop := len2 = len ∧ ik2 = ik ∧ ((¬ (0 ≤ a ∧ a ≤ 1) ∧ r = iI (-2)) ∨ (a = 0 ∧ ik 0 = 0 ∧ r = iI (-3)) ∨ (a = 0 ∧ ¬ ik 0 = 0 ∧ r = iI 1) ∨ (a = 1 ∧ ik 1 = 0 ∧ r = iI (-3)) ∨ (a = 1 ∧ ¬ ik 1 = 0 ∧ r = iI 1))
theorem tyD.det {len a l1 l2 : Int} {ik k1 k2 : Nat → Int32} {r1 r2 : Int32} (h1 : tyD len ik a r1 l1 k1) (h2 : tyD len ik a r2 l2 k2) : r1 = r2 ∧ l1 = l2 ∧ k1 = k2 := by
  obtain ⟨rfl, h1⟩ := h1
  obtain ⟨rfl, h2⟩ := h2
  rcases h1 with ⟨c1, rfl, rfl⟩ | ⟨c1, c2, rfl, rfl⟩ | ⟨c1, c2, rfl, rfl⟩ <;> rcases h2 with ⟨d1, rfl, rfl⟩ | ⟨d1, d2, rfl, rfl⟩ | ⟨d1, d2, rfl, rfl⟩ <;> first | exact ⟨rfl, rfl, rfl⟩ | (exfalso; omega)
theorem clD.det {len l1 l2 : Int} {ik k1 k2 : Nat → Int32} {r1 r2 : Int32} (h1 : clD len ik r1 l1 k1) (h2 : clD len ik r2 l2 k2) : r1 = r2 ∧ l1 = l2 ∧ k1 = k2 := by
  obtain ⟨rfl, rfl, rfl⟩ := h1
  obtain ⟨rfl, rfl, rfl⟩ := h2
  exact ⟨rfl, rfl, rfl⟩
theorem waD.det {len a l1 l2 : Int} {ik k1 k2 : Nat → Int32} {r1 r2 : Int32} (h1 : waD len ik a r1 l1 k1) (h2 : waD len ik a r2 l2 k2) : r1 = r2 ∧ l1 = l2 ∧ k1 = k2 := by
  obtain ⟨rfl, rfl, h1⟩ := h1
  obtain ⟨rfl, rfl, h2⟩ := h2
  rcases h1 with ⟨c1, rfl⟩ | ⟨c1, rfl⟩ <;> rcases h2 with ⟨d1, rfl⟩ | ⟨d1, rfl⟩ <;> first | exact ⟨rfl, rfl, rfl⟩ | (exfalso; omega)
theorem imD.det {len a l1 l2 : Int} {ik k1 k2 : Nat → Int32} {r1 r2 : Int32} (h1 : imD len ik a r1 l1 k1) (h2 : imD len ik a r2 l2 k2) : r1 = r2 ∧ l1 = l2 ∧ k1 = k2 := by
  obtain ⟨rfl, h1⟩ := h1
  obtain ⟨rfl, h2⟩ := h2
  rcases h1 with ⟨c1, rfl, rfl⟩ | ⟨c1, rfl, rfl⟩ | ⟨c1, rfl, rfl⟩ <;> rcases h2 with ⟨d1, rfl, rfl⟩ | ⟨d1, rfl, rfl⟩ | ⟨d1, rfl, rfl⟩ <;> first | exact ⟨rfl, rfl, rfl⟩ | (exfalso; omega)
theorem frD.det {len a l1 l2 : Int} {ik k1 k2 : Nat → Int32} {r1 r2 : Int32} (h1 : frD len ik a r1 l1 k1) (h2 : frD len ik a r2 l2 k2) : r1 = r2 ∧ l1 = l2 ∧ k1 = k2 := by
  obtain ⟨rfl, rfl, h1⟩ := h1
  obtain ⟨rfl, rfl, h2⟩ := h2
  rcases h1 with ⟨c1, rfl⟩ | ⟨c1, e1, rfl⟩ | ⟨c1, e1, rfl⟩ | ⟨c1, e1, rfl⟩ | ⟨c1, e1, rfl⟩ <;> rcases h2 with ⟨d1, rfl⟩ | ⟨d1, e2, rfl⟩ | ⟨d1, e2, rfl⟩ | ⟨d1, e2, rfl⟩ | ⟨d1, e2, rfl⟩ <;> first | exact ⟨rfl, rfl, rfl⟩ | (exfalso; omega) | exact absurd e1 e2 | exact absurd e2 e1
theorem xi_liftI {G : gG} {l : Launch} {y : MethodName} {wl : List Cond} {rm : Room} {as : List Value} {sz : Nat} {K len : Int} {ik : Nat → Int32} {x0 : Nat} {P : va_W} {REL : Int32 → Int → (Nat → Int32) → Prop} (c : ∀ (h s i0 i1 : Nat) (BX BH BA : va_W), XBI G len ik x0 h s i0 i1 BA BX → VI G K h BH → gI G l y wl rm as (BX ++ (BH ++ BA)) sz (fun r w => ∃ (BX2 BH2 BA2 : va_W) (len2 : Int) (ik2 : Nat → Int32), w = BX2 ++ (BH2 ++ BA2) ∧ XBI G len2 ik2 x0 h s i0 i1 BA2 BX2 ∧ VI G (K + 15000) h BH2 ∧ REL r len2 ik2)) (hI : XI G K len ik x0 P) : gI G l y wl rm as P sz (fun r w => ∃ (len2 : Int) (ik2 : Nat → Int32), XI G (K + 15000) len2 ik2 x0 w ∧ REL r len2 ik2) := by
  obtain ⟨h, s, i0, i1, BA, BX, BH, BS, B0, B1, rfl, hX, hH, hS, h0, h1⟩ := hI
  refine gI_perm (gI_app (BS ++ (B0 ++ B1)) (c h s i0 i1 BX BH BA hX hH)) (by rw [List.append_assoc, List.append_assoc]) (fun r w hw => ?_)
  obtain ⟨u, ⟨BX2, BH2, BA2, len2, ik2, rfl, a1, a2, a3⟩, rfl⟩ := hw
  exact ⟨_, List.Perm.refl _, len2, ik2, ⟨h, s, i0, i1, BA2, BX2, BH2, BS, B0, B1, by rw [List.append_assoc, List.append_assoc], a1, a2, hS.mono (by omega), h0.mono (by omega), h1.mono (by omega)⟩, a3⟩
theorem xi_liftL {G : gG} {l : Launch} {y : MethodName} {wl : List Cond} {rm : Room} {as : List Value} {sz : Nat} {K len : Int} {ik : Nat → Int32} {x0 : Nat} {P : va_W} {REL : Int64 → Int → (Nat → Int32) → Prop} (c : ∀ (h s i0 i1 : Nat) (BX BH BA : va_W), XBI G len ik x0 h s i0 i1 BA BX → VI G K h BH → gL G l y wl rm as (BX ++ (BH ++ BA)) sz (fun r w => ∃ (BX2 BH2 BA2 : va_W) (len2 : Int) (ik2 : Nat → Int32), w = BX2 ++ (BH2 ++ BA2) ∧ XBI G len2 ik2 x0 h s i0 i1 BA2 BX2 ∧ VI G (K + 15000) h BH2 ∧ REL r len2 ik2)) (hI : XI G K len ik x0 P) : gL G l y wl rm as P sz (fun r w => ∃ (len2 : Int) (ik2 : Nat → Int32), XI G (K + 15000) len2 ik2 x0 w ∧ REL r len2 ik2) := by
  obtain ⟨h, s, i0, i1, BA, BX, BH, BS, B0, B1, rfl, hX, hH, hS, h0, h1⟩ := hI
  refine gL_perm (gL_app (BS ++ (B0 ++ B1)) (c h s i0 i1 BX BH BA hX hH)) (by rw [List.append_assoc, List.append_assoc]) (fun r w hw => ?_)
  obtain ⟨u, ⟨BX2, BH2, BA2, len2, ik2, rfl, a1, a2, a3⟩, rfl⟩ := hw
  exact ⟨_, List.Perm.refl _, len2, ik2, ⟨h, s, i0, i1, BA2, BX2, BH2, BS, B0, B1, by rw [List.append_assoc, List.append_assoc], a1, a2, hS.mono (by omega), h0.mono (by omega), h1.mono (by omega)⟩, a3⟩
