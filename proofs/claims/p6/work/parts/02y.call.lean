def q_up : Nat → Nat → List Nat
  | 0, _ => []
  | n + 1, k => k :: q_up n (k + 1)
def q_ix : List Bool → Nat → Nat → List Nat
  | [], n, k => q_up n k
  | b :: m, n, k => match n with
    | 0 => []
    | n + 1 => match b with
      | true => q_ix m n (k + 1)
      | false => k :: q_ix m n (k + 1)
def q_mk {α : Type} : List Bool → List α → List α
  | [], l => l
  | b :: m, l => match l with
    | [] => []
    | a :: l => match b with
      | true => q_mk m l
      | false => a :: q_mk m l
def q_mb : List Bool → Nat → Bool
  | [], _ => false
  | b :: m, i => match i with
    | 0 => b
    | i + 1 => q_mb m i
theorem q_up_map {α : Type} (f : Nat → Option α) : ∀ (l : List α) (k : Nat), (∀ j, f (k + j) = l[j]?) → (q_up l.length k).map f = l.map some := by
  intro l
  induction l with
  | nil => intro k _; rfl
  | cons a l ih =>
    intro k hf
    have h0 : f k = some a := hf 0
    have h1 : ∀ j, f (k + 1 + j) = l[j]? := fun j => by
      have h2 : f (k + (j + 1)) = l[j]? := hf (j + 1)
      rw [← h2, show k + 1 + j = k + (j + 1) by omega]
    show f k :: (q_up l.length (k + 1)).map f = some a :: l.map some
    rw [h0, ih (k + 1) h1]
theorem q_ix_map {α : Type} (f : Nat → Option α) : ∀ (m : List Bool) (l : List α) (k : Nat), (∀ j, f (k + j) = l[j]?) → (q_ix m l.length k).map f = (q_mk m l).map some := by
  intro m
  induction m with
  | nil => intro l k hf; exact q_up_map f l k hf
  | cons b m ih =>
    intro l k hf
    cases l with
    | nil => rfl
    | cons a l =>
      have h0 : f k = some a := hf 0
      have h1 : ∀ j, f (k + 1 + j) = l[j]? := fun j => by
        have h2 : f (k + (j + 1)) = l[j]? := hf (j + 1)
        rw [← h2, show k + 1 + j = k + (j + 1) by omega]
      cases b with
      | true => exact ih l (k + 1) h1
      | false =>
        show f k :: (q_ix m l.length (k + 1)).map f = some a :: (q_mk m l).map some
        rw [h0, ih l (k + 1) h1]
theorem q_up_ge : ∀ (n k i : Nat), i ∈ q_up n k → k ≤ i := by
  intro n
  induction n with
  | zero => intro k i h; exact absurd h List.not_mem_nil
  | succ n ih =>
    intro k i h
    have h : i ∈ k :: q_up n (k + 1) := h
    rcases List.mem_cons.mp h with h | h
    · exact Nat.le_of_eq h.symm
    · exact Nat.le_of_succ_le (ih (k + 1) i h)
theorem q_ix_ge : ∀ (m : List Bool) (n k i : Nat), i ∈ q_ix m n k → k ≤ i := by
  intro m
  induction m with
  | nil => intro n k i h; exact q_up_ge n k i h
  | cons b m ih =>
    intro n k i h
    cases n with
    | zero => exact absurd h List.not_mem_nil
    | succ n =>
      cases b with
      | true => exact Nat.le_of_succ_le (ih n (k + 1) i h)
      | false =>
        have h : i ∈ k :: q_ix m n (k + 1) := h
        rcases List.mem_cons.mp h with h | h
        · exact Nat.le_of_eq h.symm
        · exact Nat.le_of_succ_le (ih n (k + 1) i h)
theorem q_ndc {k : Nat} {l : List Nat} (h : ∀ i ∈ l, k + 1 ≤ i) (hl : va_nd l = true) : va_nd (k :: l) = true := by
  simp only [va_nd, Bool.and_eq_true, decide_eq_true_eq]
  exact ⟨fun hk => absurd (h k hk) (Nat.not_succ_le_self k), hl⟩
theorem q_up_nd : ∀ (n k : Nat), va_nd (q_up n k) = true := by
  intro n
  induction n with
  | zero => intro k; rfl
  | succ n ih => intro k; exact q_ndc (fun i h => q_up_ge n (k + 1) i h) (ih (k + 1))
theorem q_ix_nd : ∀ (m : List Bool) (n k : Nat), va_nd (q_ix m n k) = true := by
  intro m
  induction m with
  | nil => intro n k; exact q_up_nd n k
  | cons b m ih =>
    intro n k
    cases n with
    | zero => rfl
    | succ n =>
      cases b with
      | true => exact ih n (k + 1)
      | false => exact q_ndc (fun i h => q_ix_ge m n (k + 1) i h) (ih n (k + 1))
theorem q_ix_out : ∀ (m : List Bool) (n k i : Nat), i ∈ q_ix m n k → ∀ j : Nat, i = k + j → q_mb m j = false := by
  intro m
  induction m with
  | nil => intro n k i _ j _; rfl
  | cons b m ih =>
    intro n k i h j e
    cases n with
    | zero => exact absurd h List.not_mem_nil
    | succ n =>
      cases j with
      | zero =>
        cases b with
        | false => rfl
        | true =>
          have h3 := q_ix_ge m n (k + 1) i h
          exfalso; omega
      | succ j =>
        have h2 : i ∈ q_ix m n (k + 1) := by
          cases b with
          | true => exact h
          | false =>
            have h : i ∈ k :: q_ix m n (k + 1) := h
            rcases List.mem_cons.mp h with h | h
            · exfalso; omega
            · exact h
        exact ih n (k + 1) i h2 j (by omega)
theorem q_dis {m : List Bool} {n : Nat} {isC : List Nat} (hM : isC.all (q_mb m) = true) : ∀ i ∈ q_ix m n 0, i ∉ isC := fun i hi hc => by
  have h1 := q_ix_out m n 0 i hi i (by omega)
  have h2 := List.all_eq_true.mp hM i hc
  rw [h1] at h2
  exact absurd h2 Bool.false_ne_true
section GC
variable {p : Program} {l : Launch} {e : Env} {R : Room} {s : State} {m : MethodId} {args : Array Value} {below : List Frame} {meth : Method} {c : Code} {H : Heap} {locs : List Loc} {cells slots : Nat} {Q : State → Prop} {G : gG}
theorem g_calliM {post : Int32 → va_W → Prop} {a : Array Value} {A : Nat → Prop} {H0 : Heap} {ws wc wr : va_W} {mc ms pc : Nat} {ls : Array Slot} {st0 rest : List Value} (hr : va_Run p l e R s m args below meth c H locs cells slots mc ms (F0 m pc ls st0) rest (va_Qi post (gPost G (va_A wc H.size)) (va_A wc H.size) a) (va_A wc H.size)) (hP : va_P G.1 vwCl ws H) (hD : va_D A ws) (hS : va_S A H0 H locs) (hA : ∀ q, H0.size ≤ q → A q) (isC : List Nat) (mk : List Bool) (hC : isC.map (fun i => ws[i]?) = wc.map some) (hM : isC.all (q_mb mk) = true) (hR : q_mk mk ws = wr)
    (kk : ∀ (r : Int32) (u : va_W) (H1 : Heap) (locs1 : List Loc), post r u → va_P G.1 vwCl (wr ++ u) H1 → va_D A (wr ++ u) → va_S A H0 H1 locs1 → W p l e R s m args below meth c H1 locs1 (cells + mc) (slots + ms) Q (F0 m (pc + 3) ls (.int r :: rest))) : W p l e R s m args below meth c H locs cells slots Q (F0 m pc ls st0) := by
  subst hR
  exact g_calli hr hP hD hS hA isC (q_ix mk ws.length 0) hC (q_ix_map (fun i => ws[i]?) mk ws 0 (fun j => congrArg (fun i => ws[i]?) (Nat.zero_add j))) (q_ix_nd mk ws.length 0) (q_dis hM) kk
theorem g_calllM {post : Int64 → va_W → Prop} {a : Array Value} {A : Nat → Prop} {H0 : Heap} {ws wc wr : va_W} {mc ms pc : Nat} {ls : Array Slot} {st0 rest : List Value} (hr : va_Run p l e R s m args below meth c H locs cells slots mc ms (F0 m pc ls st0) rest (va_Ql post (gPost G (va_A wc H.size)) (va_A wc H.size) a) (va_A wc H.size)) (hP : va_P G.1 vwCl ws H) (hD : va_D A ws) (hS : va_S A H0 H locs) (hA : ∀ q, H0.size ≤ q → A q) (isC : List Nat) (mk : List Bool) (hC : isC.map (fun i => ws[i]?) = wc.map some) (hM : isC.all (q_mb mk) = true) (hR : q_mk mk ws = wr)
    (kk : ∀ (r : Int64) (u : va_W) (H1 : Heap) (locs1 : List Loc), post r u → va_P G.1 vwCl (wr ++ u) H1 → va_D A (wr ++ u) → va_S A H0 H1 locs1 → W p l e R s m args below meth c H1 locs1 (cells + mc) (slots + ms) Q (F0 m (pc + 3) ls (.long r :: rest))) : W p l e R s m args below meth c H locs cells slots Q (F0 m pc ls st0) := by
  subst hR
  exact g_calll hr hP hD hS hA isC (q_ix mk ws.length 0) hC (q_ix_map (fun i => ws[i]?) mk ws 0 (fun j => congrArg (fun i => ws[i]?) (Nat.zero_add j))) (q_ix_nd mk ws.length 0) (q_dis hM) kk
theorem g_callvM {post : va_W → Prop} {a : Array Value} {A : Nat → Prop} {H0 : Heap} {ws wc wr : va_W} {mc ms pc : Nat} {ls : Array Slot} {st0 rest : List Value} (hr : va_Run p l e R s m args below meth c H locs cells slots mc ms (F0 m pc ls st0) rest (va_Qv post (gPost G (va_A wc H.size)) (va_A wc H.size) a) (va_A wc H.size)) (hP : va_P G.1 vwCl ws H) (hD : va_D A ws) (hS : va_S A H0 H locs) (hA : ∀ q, H0.size ≤ q → A q) (isC : List Nat) (mk : List Bool) (hC : isC.map (fun i => ws[i]?) = wc.map some) (hM : isC.all (q_mb mk) = true) (hR : q_mk mk ws = wr)
    (kk : ∀ (u : va_W) (H1 : Heap) (locs1 : List Loc), post u → va_P G.1 vwCl (wr ++ u) H1 → va_D A (wr ++ u) → va_S A H0 H1 locs1 → W p l e R s m args below meth c H1 locs1 (cells + mc) (slots + ms) Q (F0 m (pc + 3) ls rest)) : W p l e R s m args below meth c H locs cells slots Q (F0 m pc ls st0) := by
  subst hR
  exact g_callv hr hP hD hS hA isC (q_ix mk ws.length 0) hC (q_ix_map (fun i => ws[i]?) mk ws 0 (fun j => congrArg (fun i => ws[i]?) (Nat.zero_add j))) (q_ix_nd mk ws.length 0) (q_dis hM) kk
end GC
