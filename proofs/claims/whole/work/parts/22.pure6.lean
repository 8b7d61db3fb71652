/-! a hand's throws at a beat -/
/-- one ball looked at: the balls, the site's latest throw, how many were thrown, whether no throw was left -/
def tfs (m : Int) (hs cs xs : Nat → Int) (nw s k : Int) (j : Nat) (q : List (Int × Int) × Int × Int × Bool) : List (Int × Int) × Int × Int × Bool :=
  if q.2.2.2 = true then q
  else if ((q.1.getD j (0, 0)).1 = nw ∧ (q.1.getD j (0, 0)).2 = k) then
    (if nx hs s (cs s.toNat - (q.2.1 + 1)).toNat (q.2.1 + 1) = -1 then (q.1, -1, q.2.2.1, true)
     else (q.1.set j (nw + hs (s * 3 + nx hs s (cs s.toNat - (q.2.1 + 1)).toNat (q.2.1 + 1)).toNat, sp_land m xs s k (nw + hs (s * 3 + nx hs s (cs s.toNat - (q.2.1 + 1)).toNat (q.2.1 + 1)).toNat)), nx hs s (cs s.toNat - (q.2.1 + 1)).toNat (q.2.1 + 1), q.2.2.1 + 1, false))
  else q
def tf (m : Int) (hs cs xs : Nat → Int) (nw s k : Int) (B : List (Int × Int)) : Nat → List (Int × Int) × Int × Int × Bool
  | 0 => (B, -1, 0, false)
  | j + 1 => tfs m hs cs xs nw s k j (tf m hs cs xs nw s k B j)
theorem tfs_len (m : Int) (hs cs xs : Nat → Int) (nw s k : Int) (j : Nat) (q : List (Int × Int) × Int × Int × Bool) : (tfs m hs cs xs nw s k j q).1.length = q.1.length := by
  unfold tfs
  split
  · rfl
  · split
    · split
      · rfl
      · exact List.length_set
    · rfl
theorem tf_len (m : Int) (hs cs xs : Nat → Int) (nw s k : Int) (B : List (Int × Int)) : ∀ j, (tf m hs cs xs nw s k B j).1.length = B.length
  | 0 => rfl
  | j + 1 => (tfs_len m hs cs xs nw s k j _).trans (tf_len m hs cs xs nw s k B j)
theorem tf_stop (m : Int) (hs cs xs : Nat → Int) (nw s k : Int) (B : List (Int × Int)) {j : Nat} (hj : (tf m hs cs xs nw s k B j).2.2.2 = true) : ∀ e, tf m hs cs xs nw s k B (j + e) = tf m hs cs xs nw s k B j
  | 0 => rfl
  | e + 1 => by
    have h := tf_stop m hs cs xs nw s k B hj e
    show tfs m hs cs xs nw s k (j + e) (tf m hs cs xs nw s k B (j + e)) = _
    rw [h]
    unfold tfs
    rw [if_pos hj]
theorem nx_rg (hs : Nat → Int) (s : Int) : ∀ (k : Nat) (f : Int), nx hs s k f = -1 ∨ (f ≤ nx hs s k f ∧ nx hs s k f < f + k)
  | 0, f => Or.inl rfl
  | k + 1, f => by
    unfold nx
    split
    · exact Or.inr ⟨by omega, by omega⟩
    · rcases nx_rg hs s k (f + 1) with h | h
      · exact Or.inl h
      · exact Or.inr ⟨by omega, by omega⟩
def tfr (c : Int) (j : Nat) (q : List (Int × Int) × Int × Int × Bool) : Prop := -1 ≤ q.2.1 ∧ (q.2.1 = -1 ∨ q.2.1 < c) ∧ 0 ≤ q.2.2.1 ∧ q.2.2.1 ≤ j
theorem tfs_rg {m : Int} {hs cs xs : Nat → Int} (hc : ∀ j, 0 ≤ cs j ∧ cs j ≤ 3) {nw s k : Int} {j : Nat} {q : List (Int × Int) × Int × Int × Bool} (h : tfr (cs s.toNat) j q) : tfr (cs s.toNat) (j + 1) (tfs m hs cs xs nw s k j q) := by
  obtain ⟨h1, h2, h3, h4⟩ := h
  have h5 := hc s.toNat
  unfold tfs
  split
  · exact ⟨h1, h2, h3, by omega⟩
  · split
    · have h6 := nx_rg hs s (cs s.toNat - (q.2.1 + 1)).toNat (q.2.1 + 1)
      split
      · exact ⟨Int.le_refl _, Or.inl rfl, h3, by show q.2.2.1 ≤ _; omega⟩
      · rename_i h7
        rcases h6 with h6 | h6
        · exact absurd h6 h7
        · refine ⟨?_, Or.inr ?_, ?_, ?_⟩ <;> dsimp only <;> omega
    · exact ⟨h1, h2, h3, by omega⟩
theorem tf_rg (m : Int) {hs cs xs : Nat → Int} (hc : ∀ j, 0 ≤ cs j ∧ cs j ≤ 3) (nw s k : Int) (B : List (Int × Int)) : ∀ j, tfr (cs s.toNat) j (tf m hs cs xs nw s k B j)
  | 0 => by unfold tf; exact ⟨Int.le_refl _, Or.inl rfl, Int.le_refl _, Int.le_refl _⟩
  | j + 1 => tfs_rg hc (tf_rg m hc nw s k B j)
