noncomputable def nd (L : List Cond) (k : Nat) : List Cond := @Nat.rec (fun _ => List Cond) L (fun _ r => List.drop 16 r) k
theorem nd_in (L : List Cond) : ∀ (k : Nat) (w : Cond), w ∈ nd L k → w ∈ L := by
  intro k
  induction k with
  | zero => intro w h; exact h
  | succ k ih =>
    intro w h
    have h2 : w ∈ List.drop 16 (nd L k) := h
    exact ih w (List.mem_of_mem_drop h2)
theorem mem_n {big : List Cond} (ws : List Cond) (ps : List (Nat × Nat)) (hp : ws = ps.filterMap (fun q => (nd big q.1)[q.2]?)) : ∀ w ∈ ws, w ∈ big := by
  intro w hw
  rw [hp] at hw
  obtain ⟨i, -, hi⟩ := List.mem_filterMap.mp hw
  exact nd_in big i.1 w (List.mem_of_getElem? hi)
theorem goodIn_n {big : List Cond} (ws : List Cond) (ps : List (Nat × Nat)) (hp : ws = ps.filterMap (fun q => (nd big q.1)[q.2]?)) (h : ws.all goodWord = true) : GoodIn big ws :=
  fun w hw => ⟨mem_n ws ps hp w hw, good_of_word (List.all_eq_true.mp h w hw)⟩
