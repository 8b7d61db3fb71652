/-- the model's beat leaves the balls from j on -/
theorem mb_ge {m p : Int} {hs cs xs : Nat → Int} {nw : Int} {B : List (Int × Int)} {L R : Int} : ∀ j i : Nat, j ≤ i → (mb m p hs cs xs nw B L R j).1.getD i (0, 0) = B.getD i (0, 0)
  | 0, i, _ => rfl
  | j + 1, i, h => by
    have ih := mb_ge (m := m) (p := p) (hs := hs) (cs := cs) (xs := xs) (nw := nw) (B := B) (L := L) (R := R) j i (by omega)
    show (mbS m p hs cs xs nw j (mb m p hs cs xs nw B L R j)).1.getD i (0, 0) = _
    unfold mbS
    split
    · rw [← ih]
      simp [List.getD, List.getElem?_set, show ¬ j = i by omega]
    · exact ih
/-- the floor beat by beat, and how its balls may be -/
theorem gos_bI {m p : Int} {hs cs xs : Nat → Int} (ok : jOk m p hs cs xs) (hi : dIn m p cs) (hv : sp_ev m p hs cs xs) {nw : Int} {B : List (Int × Int)} {MD : Nat → Int} (h : bI m p hs cs xs nw B) : ∀ t : Nat, bI m p hs cs xs (nw + (t : Int)) (gos m p hs cs xs nw (B, MD, 0) t).1
  | 0 => by
    rw [show nw + ((0 : Nat) : Int) = nw by omega]
    exact h
  | t + 1 => by
    have ih := gos_bI (MD := MD) ok hi hv h t
    have e := (bI_step ok hi hv (MD := (gos m p hs cs xs nw (B, MD, 0) t).2.1) (n0 := (gos m p hs cs xs nw (B, MD, 0) t).2.2) ih).1
    rw [show nw + ((t + 1 : Nat) : Int) = nw + (t : Int) + 1 by omega]
    exact e
theorem gos_len {m p : Int} {hs cs xs : Nat → Int} {nw : Int} {B : List (Int × Int)} {MD : Nat → Int} : ∀ t : Nat, (gos m p hs cs xs nw (B, MD, 0) t).1.length = B.length
  | 0 => rfl
  | t + 1 => by
    have ih := gos_len (m := m) (p := p) (hs := hs) (cs := cs) (xs := xs) (nw := nw) (B := B) (MD := MD) t
    have key : ∀ k q, (hb1 m p hs cs xs (nw + (t : Int)) k q).1.length = q.1.length := fun k q => by
      unfold hb1
      split
      · rfl
      · exact tf_len m hs cs xs _ _ _ _ _
    show (hb1 m p hs cs xs (nw + (t : Int)) 1 (hb1 m p hs cs xs (nw + (t : Int)) 0 (gos m p hs cs xs nw (B, MD, 0) t))).1.length = _
    rw [key, key, ih]
/-- one more beat, as the model does it -/
theorem gos_mb {m p : Int} {hs cs xs : Nat → Int} (ok : jOk m p hs cs xs) (hi : dIn m p cs) (hv : sp_ev m p hs cs xs) {nw : Int} {B : List (Int × Int)} {MD : Nat → Int} (h : bI m p hs cs xs nw B) (t : Nat) {L R : Int} (hL : L = (gos m p hs cs xs nw (B, MD, 0) t).2.1 0) (hR : R = (gos m p hs cs xs nw (B, MD, 0) t).2.1 1) :
    (mb m p hs cs xs (nw + (t : Int)) (gos m p hs cs xs nw (B, MD, 0) t).1 L R (gos m p hs cs xs nw (B, MD, 0) t).1.length).1 = (gos m p hs cs xs nw (B, MD, 0) (t + 1)).1 ∧ (gos m p hs cs xs nw (B, MD, 0) t).2.2 + (mb m p hs cs xs (nw + (t : Int)) (gos m p hs cs xs nw (B, MD, 0) t).1 L R (gos m p hs cs xs nw (B, MD, 0) t).1.length).2.2.1 = (gos m p hs cs xs nw (B, MD, 0) (t + 1)).2.2 ∧ (mb m p hs cs xs (nw + (t : Int)) (gos m p hs cs xs nw (B, MD, 0) t).1 L R (gos m p hs cs xs nw (B, MD, 0) t).1.length).2.2.2.1 = (gos m p hs cs xs nw (B, MD, 0) (t + 1)).2.1 0 ∧ (mb m p hs cs xs (nw + (t : Int)) (gos m p hs cs xs nw (B, MD, 0) t).1 L R (gos m p hs cs xs nw (B, MD, 0) t).1.length).2.2.2.2 = (gos m p hs cs xs nw (B, MD, 0) (t + 1)).2.1 1 ∧ ∀ j, j < (gos m p hs cs xs nw (B, MD, 0) t).1.length → mbG m p hs cs (nw + (t : Int)) j (mb m p hs cs xs (nw + (t : Int)) (gos m p hs cs xs nw (B, MD, 0) t).1 L R j) := by
  have hI := gos_bI (MD := MD) ok hi hv h t
  have e : gos m p hs cs xs nw (B, MD, 0) (t + 1) = hbs m p hs cs xs (nw + (t : Int)) (gos m p hs cs xs nw (B, MD, 0) t) 2 := rfl
  rw [e]
  generalize gos m p hs cs xs nw (B, MD, 0) t = q at hI hL hR ⊢
  obtain ⟨b1, b2, b3, b4⟩ := bI_step ok hi hv (MD := q.2.1) (n0 := q.2.2) hI
  obtain ⟨c1, c2, c3, c4, c5⟩ := mb_eq ok hi hv (MD := q.2.1) (n0 := q.2.2) (L := L) (R := R) hI
  have eq : (q.1, q.2.1, q.2.2) = q := rfl
  rw [eq] at b2 b3 b4 c1
  refine ⟨c1, ?_, ?_, ?_, c5⟩
  · rw [c2, b4]; omega
  · rw [c3, b2, hL]
  · rw [c4, b3, hR]
