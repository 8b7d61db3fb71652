theorem isD_ex {Gl : Int → Prop} {v : Int} : ∀ n : Nat, rch Gl n v → ∃ j : Nat, j ≤ n ∧ isD Gl v (j : Int) := by
  intro n
  induction n using Nat.strongRecOn with
  | ind n ih =>
    intro h
    by_cases q : ∃ j, j < n ∧ rch Gl j v
    · obtain ⟨j, j1, j2⟩ := q
      obtain ⟨i, i1, i2⟩ := ih j j1 j2
      exact ⟨i, by omega, i2⟩
    · exact ⟨n, Nat.le_refl _, by omega, by rw [Int.toNat_natCast]; exact h, fun j hj hr => q ⟨j, by omega, hr⟩⟩
theorem fD_rch {Gl : Int → Prop} {fa : Nat → Int} (h : fD Gl fa) {v : Int} (hv : 0 ≤ v ∧ v < 512) {n : Nat} (hn : n < 1000) (hr : rch Gl n v) : isD Gl v (fa v.toNat) ∧ fa v.toNat ≤ n := by
  obtain ⟨j, j1, j2⟩ := isD_ex n hr
  have e := ((h v hv.1 hv.2).2 (j : Int) (by omega) (by omega)).mpr j2
  rw [e]
  exact ⟨j2, by omega⟩
theorem sp_balls_z {p : Int} {hs cs : Nat → Int} (hh : ∀ j, 0 ≤ hs j ∧ hs j ≤ 9) (hc : ∀ j, 0 ≤ cs j ∧ cs j ≤ 3) (hp : 1 ≤ p ∧ p ≤ 16) : 0 ≤ sp_balls p hs cs ∧ sp_balls p hs cs ≤ 432 := by
  have h := bc_s_rg hh hc p.toNat
  unfold sp_balls
  rw [Int.tdiv_eq_ediv_of_nonneg h.1]
  have h1 := Int.ediv_nonneg h.1 (show 0 ≤ p by omega)
  have h2 := Int.ediv_le_self p h.1
  omega
theorem wlp_len0 {Gl : Int → Prop} {t : Nat} {v : Int} : wlp Gl t [] v v := rfl
theorem getD_app1 {r : List Int} {h : Int} {wy : Nat → Int} (hw : ∀ j, j < r.length → wy j = r.getD j 0) : ∀ j, j < (r ++ [h]).length → va_up wy ((r.length : Int)).toNat h j = (r ++ [h]).getD j 0 := by
  intro j hj
  rw [List.length_append, List.length_singleton] at hj
  rw [Int.toNat_natCast]
  by_cases e : j = r.length
  · subst e
    rw [va_up_self]
    simp [List.getD]
  · rw [va_up_ne _ _ e]
    have hj2 : j < r.length := by omega
    have h2 := hw j hj2
    simp [List.getD, List.getElem?_append, hj2] at h2 ⊢
    exact h2
