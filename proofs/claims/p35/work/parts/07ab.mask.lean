def pickT {α : Type} : List Bool → List α → List α
  | [], _ => []
  | b :: m, l => match l with
    | [] => []
    | a :: l => match b with
      | true => a :: pickT m l
      | false => pickT m l
def pickF {α : Type} : List Bool → List α → List α
  | [], l => l
  | b :: m, l => match l with
    | [] => []
    | a :: l => match b with
      | true => pickF m l
      | false => a :: pickF m l
def mergeB {α : Type} : List Bool → List α → List α → List α
  | [], u, w => u ++ w
  | b :: m, u, w => match b with
    | true => match u with
      | [] => w
      | a :: u => a :: mergeB m u w
    | false => match w with
      | [] => u
      | c :: w => c :: mergeB m u w
theorem pick_perm {α : Type} (m : List Bool) : ∀ l : List α, l.Perm (pickT m l ++ pickF m l) := by
  induction m with
  | nil => intro l; exact List.Perm.refl _
  | cons b m ih =>
    intro l
    cases l with
    | nil => exact List.Perm.refl _
    | cons a l =>
      cases b with
      | true => exact (ih l).cons a
      | false => exact ((ih l).cons a).trans List.perm_middle.symm
theorem merge_perm {α : Type} (m : List Bool) : ∀ u w : List α, (mergeB m u w).Perm (u ++ w) := by
  induction m with
  | nil => intro u w; exact List.Perm.refl _
  | cons b m ih =>
    intro u w
    cases b with
    | true =>
      cases u with
      | nil => exact List.Perm.refl _
      | cons a u => exact (ih u w).cons a
    | false =>
      cases w with
      | nil => rw [List.append_nil]; exact List.Perm.refl _
      | cons c w => exact ((ih u w).cons c).trans List.perm_middle.symm
theorem gI_mask {G : gG} {l : Launch} {y : MethodName} {wl : List Cond} {rm : Room} {as : List Value} {sz : Nat} {P wc : va_W} {post post2 : Int32 → va_W → Prop} (m : List Bool) (hc : pickT m P = wc) (c : gI G l y wl rm as wc sz post) (hw : ∀ r u, post r u → post2 r (mergeB m u (pickF m P))) : gI G l y wl rm as P sz post2 := by
  subst hc
  refine gI_perm (gI_app (pickF m P) c) (pick_perm m P) (fun r u hu => ?_)
  obtain ⟨v, hv, rfl⟩ := hu
  exact ⟨_, (merge_perm m v (pickF m P)).symm, hw r v hv⟩
theorem gL_mask {G : gG} {l : Launch} {y : MethodName} {wl : List Cond} {rm : Room} {as : List Value} {sz : Nat} {P wc : va_W} {post post2 : Int64 → va_W → Prop} (m : List Bool) (hc : pickT m P = wc) (c : gL G l y wl rm as wc sz post) (hw : ∀ r u, post r u → post2 r (mergeB m u (pickF m P))) : gL G l y wl rm as P sz post2 := by
  subst hc
  refine gL_perm (gL_app (pickF m P) c) (pick_perm m P) (fun r u hu => ?_)
  obtain ⟨v, hv, rfl⟩ := hu
  exact ⟨_, (merge_perm m v (pickF m P)).symm, hw r v hv⟩
theorem pm_read {α : Type} (a b c d r : List α) : (a ++ (b ++ (c ++ (d ++ r)))).Perm ((a ++ (c ++ d)) ++ (b ++ r)) := by
  rw [List.append_assoc, List.append_assoc]
  exact List.Perm.append_left a ((List.perm_append_comm_assoc b c (d ++ r)).trans (List.Perm.append_left c (List.perm_append_comm_assoc b d r)))
theorem pm_im0 {α : Type} (a b c d e f : List α) : (a ++ (b ++ (c ++ (d ++ (e ++ f))))).Perm ((a ++ (c ++ (e ++ b))) ++ (d ++ f)) := by
  rw [List.append_assoc, List.append_assoc, List.append_assoc]
  exact List.Perm.append_left a ((List.perm_append_comm_assoc b c _).trans (List.Perm.append_left c ((List.Perm.append_left b (List.perm_append_comm_assoc d e f)).trans (List.perm_append_comm_assoc b e (d ++ f)))))
theorem pm_im1 {α : Type} (a b c d e f : List α) : (a ++ (b ++ (c ++ (d ++ (e ++ f))))).Perm ((a ++ (c ++ (f ++ b))) ++ (d ++ e)) := (List.Perm.append_left a (List.Perm.append_left b (List.Perm.append_left c (List.Perm.append_left d List.perm_append_comm)))).trans (pm_im0 a b c d f e)
