set_option maxHeartbeats 8000000 in
set_option maxRecDepth 100000 in
theorem wV_VI {G : gG} {K : Int} (hK : 1000 ≤ K) (v0 : Nat) (f : Nat → Nat) : VI G K v0 (wV G v0 f) :=
  ⟨(fun k => [f 0, f 1, f 2, f 3, f 4, f 5, f 9, f 42, f 44, f 46, f 6, f 7, f 8, f 43, f 45, f 47].getD k 0), (s8 (f 10) (f 14) (f 18) (f 22) (f 26) (f 30) (f 34) (f 38)), (s8 (f 11) (f 15) (f 19) (f 23) (f 27) (f 31) (f 35) (f 39)), (s8 (f 12) (f 16) (f 20) (f 24) (f 28) (f 32) (f 36) (f 40)), (s8 (f 13) (f 17) (f 21) (f 25) (f 29) (f 33) (f 37) (f 41)), (fun _ => 0), (fun _ _ => 0), (fun _ _ => 0), (fun _ _ => 0), 0, 0, 0, (fun _ => 0), (fun _ => 0), (fun _ => 0), (fun _ => 0), (fun _ => 0), 0, (fun _ => 0), (fun _ => 0), (fun _ => 0), 0, (fun _ => 0), 0, (fun _ => 0), 0, (fun _ => 0), rfl, (by omega), (by omega), (by omega), (zz_bd (by omega) (by omega)), (zz_bd (by omega) (by omega)), (zz_bd (by omega) (by omega)), (zz_bd (by omega) (by omega)), (zz_bd (by omega) (by omega)), (by omega), (zz_bd (by omega) (by omega)), (zz_bd (by omega) (by omega)), (zz_bd (by omega) (by omega)), (fun _ => zz_bd (by omega) (by omega)), (fun _ => zz_bd (by omega) (by omega)), (fun _ => zz_bd (by omega) (by omega)), (fun _ => ⟨(show (0 : Int) ≤ 0 by omega), (show (0 : Int) ≤ 999 by omega)⟩), (by omega), (zz_bd (by omega) (by omega)), (by omega), (zz_bd (by omega) (by omega)), (by omega), (zz_bd (by omega) (by omega))⟩
set_option maxHeartbeats 8000000 in
set_option maxRecDepth 100000 in
theorem wV_VJ {G : gG} {K : Int} (hK : 1000 ≤ K) (v0 : Nat) (f : Nat → Nat) : VJ G K z0 v0 (wV G v0 f) :=
  ⟨(fun k => [f 0, f 1, f 2, f 3, f 4, f 5, f 9, f 42, f 44, f 46, f 6, f 7, f 8, f 43, f 45, f 47].getD k 0), (s8 (f 10) (f 14) (f 18) (f 22) (f 26) (f 30) (f 34) (f 38)), (s8 (f 11) (f 15) (f 19) (f 23) (f 27) (f 31) (f 35) (f 39)), (s8 (f 12) (f 16) (f 20) (f 24) (f 28) (f 32) (f 36) (f 40)), (s8 (f 13) (f 17) (f 21) (f 25) (f 29) (f 33) (f 37) (f 41)), (fun _ => 0), (fun _ _ => 0), (fun _ _ => 0), (fun _ _ => 0), 0, 0, 0, (fun _ => 0), (fun _ => 0), (fun _ => 0), (fun _ => 0), (fun _ => 0), 0, (fun _ => 0), (fun _ => 0), (fun _ => 0), 0, (fun _ => 0), 0, (fun _ => 0), 0, (fun _ => 0), rfl, (by omega), (by omega), (by omega), (zz_bd (by omega) (by omega)), (zz_bd (by omega) (by omega)), (zz_bd (by omega) (by omega)), (zz_bd (by omega) (by omega)), (zz_bd (by omega) (by omega)), (by omega), (zz_bd (by omega) (by omega)), (zz_bd (by omega) (by omega)), (zz_bd (by omega) (by omega)), (fun _ => zz_bd (by omega) (by omega)), (fun _ => zz_bd (by omega) (by omega)), (fun _ => zz_bd (by omega) (by omega)), (fun _ => ⟨(show (0 : Int) ≤ 0 by omega), (show (0 : Int) ≤ 999 by omega)⟩), (by omega), (zz_bd (by omega) (by omega)), (by omega), (zz_bd (by omega) (by omega)), (by omega), (zz_bd (by omega) (by omega)), (VW.zero (fun _ _ _ => rfl))⟩
set_option maxHeartbeats 8000000 in
set_option maxRecDepth 100000 in
theorem wXB_XBI {G : gG} (x0 : Nat) (r : Nat → Nat) : XBI G 0 (fun _ => 0) (fun _ => z0) x0 (r 25) (r 26) (r 27) (r 28) (wXA G r) (wXO G x0 r) :=
  ⟨r, 0, 1, 0, 0, 0, 0, 0, (fun _ => 0), (fun _ => 0), (fun _ => 0), (fun _ => 0), 0, (fun _ => 0), (fun _ => 0), (fun _ => 0), (fun _ => 0), 0, (fun _ => 0), (fun _ => 0), (fun _ => 0), 0, (fun _ => 0), (fun _ => 0), (fun _ => 0), (fun _ => 0), rfl, rfl, (by omega), (by omega), (by omega), (zz_bd (by omega) (by omega)), (zz_bd (by omega) (by omega)), (zz_bd (by omega) (by omega)), (zz_bd (by omega) (by omega)), (zz_bd (by omega) (by omega)), (zz_bd (by omega) (by omega)), (zz_bd (by omega) (by omega)), (zz_bd (by omega) (by omega))⟩
theorem wX_XI {G : gG} {K : Int} (hK : 1000 ≤ K) (x0 : Nat) (fH fS fU fW r : Nat → Nat) : XI G K 0 (fun _ => 0) (fun _ => z0) x0 (wX G x0 fH fS fU fW r) := ⟨r 25, r 26, r 27, r 28, _, _, _, _, _, _, rfl, wXB_XBI x0 r, wV_VJ hK _ _, wV_VI hK _ _, wV_VJ hK _ _, wV_VJ hK _ _⟩
set_option maxHeartbeats 8000000 in
set_option maxRecDepth 100000 in
theorem wM_MBI {G : gG} {K : Int} (hK : 1000 ≤ K) (m0 : Nat) (d : Nat → Nat) : MBI G K 0 (fun _ => 0) (fun _ => z0) m0 (wM G m0 d) :=
  ⟨d, 0, 1, 0, 0, 0, 0, (fun _ => 0), (fun _ => 0), (fun _ => 0), (fun _ => 0), (fun _ => 0), (fun _ => 0), (fun _ => 0), (fun _ => 0), (fun _ => 0), (fun _ => 0), (fun _ => 0), (fun _ => 0), rfl, (by omega), (bp_z (fun z => plA_nn (by omega) z)), (bp_z (fun z => plA_nn (by omega) _)), (zz_bd (by omega) (by omega)), (zz_bd (by omega) (by omega)), (zz_bd (by omega) (by omega)), (zz_bd (by omega) (by omega)), (zz_bd (by omega) (by omega)), (bp_z (fun z => plA_nn (by omega) z)), (kW_r _), ⟨kW_r _, kW_r _⟩⟩
theorem XI.recv {G : gG} {K len : Int} {ik : Nat → Int32} {gs : Nat → Nat → Int} {x0 : Nat} {P : va_W} (h : XI G K len ik gs x0 P) : ∃ fs : List Value, ((x0, .inr (9, fs)) : Nat × va_E) ∈ P := by
  obtain ⟨h, s, i0, i1, BA, BX, BH, BS, B0, B1, rfl, hX, -⟩ := h
  obtain ⟨z0, z1, z2, z3, z4, z5, z6, z7, z8, z9, z10, z11, z12, z13, z14, z15, z16, z17, z18, z19, z20, z21, z22, z23, z24, z25, rfl, -⟩ := hX
  exact ⟨_, List.mem_append_left _ List.mem_cons_self⟩
theorem XI.lg {G : gG} {K len : Int} {ik : Nat → Int32} {gs : Nat → Nat → Int} {x0 : Nat} {P : va_W} (h : XI G K len ik gs x0 P) : lgP (gs 0) := by
  obtain ⟨h, s, i0, i1, BA, BX, BH, BS, B0, B1, rfl, hX, hH, -⟩ := h
  obtain ⟨vb, vpa, vpt, vpg, vpf, vzd, vfT, vfG, vfF, v_apples, v_biters, v_steps, vFd, vFk, vFr, vFn, vFb, vt_day, vFT, vFG, vFF, vl_count, vFl, vo_count, vFo, vm_count, vFm, rfl, fv0, fv1, fv2, fv3, fv4, fv5, fv6, fv7, fv8, fv9, fv10, fv11, fv12, fv13, fv14, fv15, fv16, fv17, fv18, fv19, fv20, fv21, fv22⟩ := hH
  exact fv22.lg
theorem MBI.recv {G : gG} {K len : Int} {ik : Nat → Int32} {gs : Nat → Nat → Int} {m0 : Nat} {Q : va_W} (h : MBI G K len ik gs m0 Q) : ∃ fs : List Value, ((m0, .inr (10, fs)) : Nat × va_E) ∈ Q := by
  obtain ⟨z0, z1, z2, z3, z4, z5, z6, z7, z8, z9, z10, z11, z12, z13, z14, z15, z16, z17, z18, rfl, -⟩ := h
  exact ⟨_, List.mem_cons_self⟩
theorem gI_appL {G : gG} {l : Launch} {y : MethodName} {wl : List Cond} {rm : Room} {as : List Value} {sz : Nat} {Q : va_W} (P : va_W) {post : Int32 → va_W → Prop} (c : gI G l y wl rm as Q sz post) : gI G l y wl rm as (P ++ Q) sz (fun r w => ∃ v, post r v ∧ w = P ++ v) := gI_perm (gI_app P c) List.perm_append_comm (fun r u hu => by
  obtain ⟨v, hv, rfl⟩ := hu
  exact ⟨P ++ v, List.perm_append_comm, v, hv, rfl⟩)
theorem gL_appL {G : gG} {l : Launch} {y : MethodName} {wl : List Cond} {rm : Room} {as : List Value} {sz : Nat} {Q : va_W} (P : va_W) {post : Int64 → va_W → Prop} (c : gL G l y wl rm as Q sz post) : gL G l y wl rm as (P ++ Q) sz (fun r w => ∃ v, post r v ∧ w = P ++ v) := gL_perm (gL_app P c) List.perm_append_comm (fun r u hu => by
  obtain ⟨v, hv, rfl⟩ := hu
  exact ⟨P ++ v, List.perm_append_comm, v, hv, rfl⟩)
def sI (xs : Nat → Int32) (j : Int) : Int := (xs j.toNat).toInt
theorem sI_r (xs : Nat → Int32) (j : Int) : -2147483648 ≤ sI xs j ∧ sI xs j ≤ 2147483647 := ⟨by have := (xs j.toNat).le_toInt; unfold sI; omega, by have := (xs j.toNat).toInt_lt; unfold sI; omega⟩
theorem sI_eq (xs : Nat → Int32) {j : Int} (h0 : 0 ≤ j) (h1 : j ≤ 2147483647) : xs (iI j).toNatClampNeg = iI (sI xs j) := by
  rw [iI_cl h0 h1]
  exact (Int32.ofInt_toInt _).symm
theorem nI_iI (n : Nat) (h : n ≤ 2147483647) : Int32.ofNat n = iI (n : Int) := by
  apply Int32.toInt_inj.mp
  rw [iI_toInt (by omega)]
  exact nI_toInt (by omega)
