/-! the floor: its balls as a list of (beat, hand) -/
def jFl (h : Nat → va_E) (g : Nat) (op nw : Int) (B : List (Int × Int)) (MD : Nat → Int) : Prop := ∃ LA LI : Nat → Int, h g = jO 4 [.ref (g + 1), .ref (g + 6), .ref (g + 7), .ref (g + 8), .int (zI op), .int (zI nw), .int (zI (B.length : Int))] ∧ h (g + 6) = jI 27 (fun j => zI (LA j)) ∧ h (g + 7) = jI 27 (fun j => zI (LI j)) ∧ h (g + 8) = jI 2 (fun j => zI (MD j)) ∧ B.length ≤ 27 ∧ ∀ j, j < B.length → LA j = (B.getD j (0, 0)).1 ∧ LI j = (B.getD j (0, 0)).2
/-- only the floor's own numbers have changed -/
def jfg (h h' : Nat → va_E) (g : Nat) : Prop := ∀ y, y ≠ g → y ≠ g + 6 → y ≠ g + 7 → y ≠ g + 8 → h' y = h y
theorem jfg_rf (h : Nat → va_E) (g : Nat) : jfg h h g := fun _ _ _ _ _ => rfl
theorem jfg_D {h h' : Nat → va_E} {g : Nat} {m p : Int} {hs cs xs sc : Nat → Int} (hf : jfg h h' g) (hD : jD h (g + 1) m p hs cs xs sc) : jD h' (g + 1) m p hs cs xs sc := by
  obtain ⟨h0, h1, h2, h3, h4⟩ := hD
  exact ⟨by rw [hf _ (by omega) (by omega) (by omega) (by omega)]; exact h0, by rw [hf _ (by omega) (by omega) (by omega) (by omega)]; exact h1, by rw [hf _ (by omega) (by omega) (by omega) (by omega)]; exact h2, by rw [hf _ (by omega) (by omega) (by omega) (by omega)]; exact h3, by rw [hf _ (by omega) (by omega) (by omega) (by omega)]; exact h4⟩
theorem jB_app {B : List (Int × Int)} {LA LI : Nat → Int} {a b : Int} (h : ∀ j, j < B.length → LA j = (B.getD j (0, 0)).1 ∧ LI j = (B.getD j (0, 0)).2) : ∀ j, j < (B ++ [(a, b)]).length → va_up LA B.length a j = ((B ++ [(a, b)]).getD j (0, 0)).1 ∧ va_up LI B.length b j = ((B ++ [(a, b)]).getD j (0, 0)).2 := by
  intro j hj
  rw [List.length_append, List.length_singleton] at hj
  by_cases e : j = B.length
  · subst e
    rw [va_up_self, va_up_self]
    simp [List.getD]
  · rw [va_up_ne _ _ e, va_up_ne _ _ e]
    have hj2 : j < B.length := by omega
    have h2 := h j hj2
    simp [List.getD, List.getElem?_append, hj2] at h2 ⊢
    exact h2
theorem jB_set {B : List (Int × Int)} {LA LI : Nat → Int} {k : Nat} {a b : Int} (hk : k < B.length) (h : ∀ j, j < B.length → LA j = (B.getD j (0, 0)).1 ∧ LI j = (B.getD j (0, 0)).2) : ∀ j, j < (B.set k (a, b)).length → va_up LA k a j = ((B.set k (a, b)).getD j (0, 0)).1 ∧ va_up LI k b j = ((B.set k (a, b)).getD j (0, 0)).2 := by
  intro j hj
  rw [List.length_set] at hj
  by_cases e : j = k
  · subst e
    rw [va_up_self, va_up_self]
    simp [List.getD, hk]
  · rw [va_up_ne _ _ e, va_up_ne _ _ e]
    have h2 := h j hj
    simp [List.getD, List.getElem?_set, Ne.symm e] at h2 ⊢
    exact h2
/-- a site's throws of one height, put behind the others -/
def nbo (hs : Nat → Int) (s ht : Int) (x : Int × Int) (B : List (Int × Int)) : Nat → List (Int × Int)
  | 0 => B
  | w + 1 => if hs (s * 3 + w).toNat = ht ∧ (nbo hs s ht x B w).length < 27 then nbo hs s ht x B w ++ [x] else nbo hs s ht x B w
/-- the balls that land at a beat in a hand, of one hand's throw so many beats ago -/
def nbt (m p : Int) (hs cs xs : Nat → Int) (g k ago th : Int) (B : List (Int × Int)) : List (Int × Int) :=
  if ¬ sp_thr m p (-ago) th = -1 ∧ sp_land m xs (sp_thr m p (-ago) th) th g = k then nbo hs (sp_thr m p (-ago) th) (g + ago) (g, k) B (cs (sp_thr m p (-ago) th).toNat).toNat else B
def nbl (m p : Int) (hs cs xs : Nat → Int) (g k : Int) (B : List (Int × Int)) : Nat → List (Int × Int)
  | 0 => B
  | a + 1 => nbt m p hs cs xs g k ((a : Int) + 1) 1 (nbt m p hs cs xs g k ((a : Int) + 1) 0 (nbl m p hs cs xs g k B a))
def nba (m p : Int) (hs cs xs : Nat → Int) : Nat → List (Int × Int)
  | 0 => []
  | g + 1 => nbl m p hs cs xs (g : Int) 1 (nbl m p hs cs xs (g : Int) 0 (nba m p hs cs xs g) (9 - (g : Int)).toNat) (9 - (g : Int)).toNat
/-- the first throw above 0 of a site from f on -/
def nx (hs : Nat → Int) (s : Int) : Nat → Int → Int
  | 0, _ => -1
  | k + 1, f => if 0 < hs (s * 3 + f).toNat then f else nx hs s k (f + 1)
theorem sp_thr_rg {m p : Int} {hs cs xs : Nat → Int} (ok : jOk m p hs cs xs) {b k : Int} (hk : 0 ≤ k ∧ k ≤ 1) (hn : ¬ sp_thr m p b k = -1) : 0 ≤ sp_thr m p b k ∧ sp_thr m p b k < p := by
  have hp := ok.2.1
  have h1 := Int.emod_nonneg b (show p ≠ 0 by omega)
  have h2 := Int.emod_lt_of_pos b (show 0 < p by omega)
  unfold sp_thr at hn ⊢
  by_cases hm : m = 2
  · rw [if_pos hm] at hn ⊢
    by_cases hb : b % 2 = 1
    · rw [if_pos hb] at hn
      exact absurd rfl hn
    · rw [if_neg hb]
      have h3 := (ok.2.2.2.2.2 hm).1
      have h4 : b % p % 2 = b % 2 := Int.emod_emod_of_dvd _ (Int.dvd_of_emod_eq_zero h3)
      omega
  · rw [if_neg hm] at hn ⊢
    by_cases hb : k = b % 2
    · rw [if_pos hb]
      omega
    · rw [if_neg hb] at hn
      exact absurd rfl hn
