/-! what a draft must be, and its clashes -/
def jOk (m p : Int) (hs cs xs : Nat → Int) : Prop := (0 ≤ m ∧ m ≤ 2) ∧ (1 ≤ p ∧ p ≤ 16) ∧ (∀ j, 0 ≤ hs j ∧ hs j ≤ 9) ∧ (∀ j, 0 ≤ cs j ∧ cs j ≤ 3) ∧ (∀ j, xs j = 0 ∨ xs j = 16) ∧ (m = 2 → p % 2 = 0 ∧ ∀ j, hs (3 * j) % 2 = 0)
theorem jOk_x {m p : Int} {hs cs xs : Nat → Int} (ok : jOk m p hs cs xs) (j : Nat) : zR (xs j) := by
  rcases ok.2.2.2.2.1 j with h | h <;> rw [h] <;> exact ⟨by decide, by decide⟩
theorem sp_land_rg {m : Int} {xs : Nat → Int} {b k g : Int} (hk : 0 ≤ k ∧ k ≤ 1) : 0 ≤ sp_land m xs b k g ∧ sp_land m xs b k g ≤ 1 := by
  unfold sp_land
  split
  · split <;> omega
  · omega
theorem sp_tgt_rg {m p : Int} {hs cs xs : Nat → Int} (ok : jOk m p hs cs xs) {s k : Int} (hk : m = 2 → k % 2 = 0) : 0 ≤ sp_tgt m p xs s k ∧ sp_tgt m p xs s k < p := by
  have hp := ok.2.1
  unfold sp_tgt
  split
  · rename_i hm
    have h1 := Int.emod_nonneg (s - s % 2 + k) (show p ≠ 0 by omega)
    have h2 := Int.emod_lt_of_pos (s - s % 2 + k) (show 0 < p by omega)
    have h3 := (ok.2.2.2.2.2 hm).1
    have h4 : (s - s % 2 + k) % p % 2 = (s - s % 2 + k) % 2 := Int.emod_emod_of_dvd _ (Int.dvd_of_emod_eq_zero h3)
    have h5 := hk hm
    have h6 := sp_land_rg (m := m) (xs := xs) (b := s) (k := s % 2) (g := s - s % 2 + k) (by omega)
    omega
  · exact ⟨Int.emod_nonneg _ (by omega), Int.emod_lt_of_pos _ (by omega)⟩
/-- the throw of site s meets that of a lower one -/
def sp_A (m p : Int) (hs xs : Nat → Int) (s : Int) : Prop := 0 < hs (s * 3).toNat ∧ ∃ r : Int, 0 ≤ r ∧ r < s ∧ 0 < hs (r * 3).toNat ∧ sp_tgt m p xs r (hs (r * 3).toNat) = sp_tgt m p xs s (hs (s * 3).toNat)
/-- a ball lands at site s, which throws none -/
def sp_B (m p : Int) (hs xs : Nat → Int) (s : Int) : Prop := hs (s * 3).toNat = 0 ∧ ∃ r : Int, 0 ≤ r ∧ r < p ∧ 0 < hs (r * 3).toNat ∧ sp_tgt m p xs r (hs (r * 3).toNat) = s
def sp_least (p : Int) (P : Int → Prop) (s : Int) : Prop := 0 ≤ s ∧ s < p ∧ P s ∧ ∀ t, 0 ≤ t → t < s → ¬ P t
def sp_first (p : Int) (A B : Int → Prop) (r : Int) : Prop := sp_least p A r ∨ ((∀ s, 0 ≤ s → s < p → ¬ A s) ∧ (sp_least p B r ∨ ((∀ s, 0 ≤ s → s < p → ¬ B s) ∧ r = -1)))
theorem sp_least_u {p : Int} {P : Int → Prop} {a b : Int} (ha : sp_least p P a) (hb : sp_least p P b) : a = b := by
  rcases Int.lt_trichotomy a b with h | h | h
  · exact absurd ha.2.2.1 (hb.2.2.2 a ha.1 h)
  · exact h
  · exact absurd hb.2.2.1 (ha.2.2.2 b hb.1 h)
theorem sp_first_u {p : Int} {A B : Int → Prop} {a b : Int} (ha : sp_first p A B a) (hb : sp_first p A B b) : a = b := by
  rcases ha with ha | ⟨ha, ha2⟩
  · rcases hb with hb | ⟨hb, -⟩
    · exact sp_least_u ha hb
    · exact absurd ha.2.2.1 (hb a ha.1 ha.2.1)
  · rcases hb with hb | ⟨hb, hb2⟩
    · exact absurd hb.2.2.1 (ha b hb.1 hb.2.1)
    · rcases ha2 with ha2 | ⟨ha2, ha3⟩
      · rcases hb2 with hb2 | ⟨hb2, -⟩
        · exact sp_least_u ha2 hb2
        · exact absurd ha2.2.2.1 (hb2 a ha2.1 ha2.2.1)
      · rcases hb2 with hb2 | ⟨-, hb3⟩
        · exact absurd hb2.2.2.1 (ha2 b hb2.1 hb2.2.1)
        · rw [ha3, hb3]
def pm_I (m p : Int) (hs xs : Nat → Int) (s : Int) (g : Nat → Int) : Prop :=
  (∀ j : Int, 0 ≤ j → j < 16 → (¬ g j.toNat = 0 ↔ ∃ r : Int, 0 ≤ r ∧ r < s ∧ 0 < hs (r * 3).toNat ∧ sp_tgt m p xs r (hs (r * 3).toNat) = j)) ∧ (∀ j, j < 16 → 0 ≤ g j ∧ g j ≤ 1) ∧ ∀ t : Int, 0 ≤ t → t < s → ¬ sp_A m p hs xs t
theorem pm_0 {m p : Int} {hs xs g : Nat → Int} (hg : ∀ j, j < 16 → g j = 0) : pm_I m p hs xs 0 g := by
  refine ⟨fun j h0 h1 => ⟨fun h => absurd (hg _ (by omega)) h, ?_⟩, fun j hj => by rw [hg j hj]; exact ⟨by decide, by decide⟩, fun t h0 h1 => by omega⟩
  rintro ⟨r, h2, h3, -⟩
  omega
theorem pm_skip {m p : Int} {hs xs g : Nat → Int} {s : Int} (hI : pm_I m p hs xs s g) (hz : ¬ 0 < hs (s * 3).toNat) : pm_I m p hs xs (s + 1) g := by
  obtain ⟨h1, h2, h3⟩ := hI
  refine ⟨fun j h0 hj => ?_, h2, fun t ht hts => ?_⟩
  · rw [h1 j h0 hj]
    constructor
    · rintro ⟨r, a, b, c⟩
      exact ⟨r, a, by omega, c⟩
    · rintro ⟨r, a, b, c, e⟩
      by_cases hr : r = s
      · subst hr
        exact absurd c hz
      · exact ⟨r, a, by omega, c, e⟩
  · by_cases hr : t = s
    · subst hr
      exact fun q => hz q.1
    · exact h3 t ht (by omega)
theorem pm_put {m p : Int} {hs cs xs g : Nat → Int} {s : Int} (ok : jOk m p hs cs xs) (hI : pm_I m p hs xs s g) (h0 : 0 ≤ s) (hr : 0 ≤ sp_tgt m p xs s (hs (s * 3).toNat) ∧ sp_tgt m p xs s (hs (s * 3).toNat) < p) (hz : 0 < hs (s * 3).toNat) (hg : g (sp_tgt m p xs s (hs (s * 3).toNat)).toNat = 0) : pm_I m p hs xs (s + 1) (va_up g (sp_tgt m p xs s (hs (s * 3).toNat)).toNat 1) := by
  obtain ⟨h1, h2, h3⟩ := hI
  have hp := ok.2.1
  refine ⟨fun j hj0 hj => ?_, fun j hj9 => ?_, fun t ht hts => ?_⟩
  · by_cases hjt : j = sp_tgt m p xs s (hs (s * 3).toNat)
    · rw [hjt, va_up_self]
      exact ⟨fun _ => ⟨s, h0, by omega, hz, rfl⟩, fun _ => by decide⟩
    · rw [va_up_ne _ _ (by omega), h1 j hj0 hj]
      constructor
      · rintro ⟨r, a, b, c⟩
        exact ⟨r, a, by omega, c⟩
      · rintro ⟨r, a, b, c, e⟩
        by_cases hrs : r = s
        · subst hrs
          exact absurd e.symm hjt
        · exact ⟨r, a, by omega, c, e⟩
  · by_cases hj : j = (sp_tgt m p xs s (hs (s * 3).toNat)).toNat
    · rw [hj, va_up_self]
      exact ⟨by decide, by decide⟩
    · rw [va_up_ne _ _ hj]
      exact h2 j hj9
  · by_cases hts2 : t = s
    · subst hts2
      rintro ⟨-, r, a, b, c, e⟩
      exact ((h1 _ hr.1 (by omega)).mpr ⟨r, a, b, c, e⟩) hg
    · exact h3 t ht (by omega)
theorem pm_hit {m p : Int} {hs cs xs g : Nat → Int} {s : Int} (ok : jOk m p hs cs xs) (hI : pm_I m p hs xs s g) (h0 : 0 ≤ s ∧ s < p) (hr : 0 ≤ sp_tgt m p xs s (hs (s * 3).toNat) ∧ sp_tgt m p xs s (hs (s * 3).toNat) < p) (hz : 0 < hs (s * 3).toNat) (hg : ¬ g (sp_tgt m p xs s (hs (s * 3).toNat)).toNat = 0) : sp_least p (sp_A m p hs xs) s := by
  have hp := ok.2.1
  obtain ⟨r, a, b, c, e⟩ := (hI.1 _ hr.1 (by omega)).mp hg
  exact ⟨h0.1, h0.2, ⟨hz, r, a, b, c, e⟩, hI.2.2⟩
/-! multiplex drafts: landings less throws, a site -/
def un_w (m p : Int) (hs xs : Nat → Int) (s j : Int) : Nat → Int
  | 0 => 0
  | w + 1 => un_w m p hs xs s j w + (if 0 < hs (s * 3 + w).toNat then (if sp_tgt m p xs s (hs (s * 3 + w).toNat) = j then 1 else 0) - (if s = j then 1 else 0) else 0)
def un_s (m p : Int) (hs cs xs : Nat → Int) (j : Int) : Nat → Int
  | 0 => 0
  | s + 1 => un_s m p hs cs xs j s + un_w m p hs xs (s : Int) j (cs s).toNat
theorem un_w_rg (m p : Int) (hs xs : Nat → Int) (s j : Int) : ∀ w : Nat, -(w : Int) ≤ un_w m p hs xs s j w ∧ un_w m p hs xs s j w ≤ w
  | 0 => by unfold un_w; omega
  | w + 1 => by
    have h := un_w_rg m p hs xs s j w
    unfold un_w
    split <;> (try split) <;> (try split) <;> omega
theorem un_s_rg {m p : Int} {hs cs xs : Nat → Int} (hc : ∀ j, 0 ≤ cs j ∧ cs j ≤ 3) (j : Int) : ∀ s : Nat, -(3 * s : Int) ≤ un_s m p hs cs xs j s ∧ un_s m p hs cs xs j s ≤ 3 * s
  | 0 => by unfold un_s; omega
  | s + 1 => by
    have h := un_s_rg (m := m) (p := p) (hs := hs) (xs := xs) hc j s
    have h1 := un_w_rg m p hs xs (s : Int) j (cs s).toNat
    have h2 := hc s
    unfold un_s
    omega
theorem un_put {g : Nat → Int} {E : Int → Int} {s t : Int} (hg : ∀ j : Int, 0 ≤ j → j < 16 → g j.toNat = E j) (h0 : 0 ≤ s ∧ s < 16) (h1 : 0 ≤ t ∧ t < 16) (j : Int) (hj0 : 0 ≤ j) (hj : j < 16) :
    va_up (va_up g s.toNat (g s.toNat - 1)) t.toNat (va_up g s.toNat (g s.toNat - 1) t.toNat + 1) j.toNat = E j + ((if t = j then 1 else 0) - (if s = j then 1 else 0)) := by
  by_cases e1 : t = j
  · subst e1
    rw [va_up_self]
    by_cases e2 : s = t
    · subst e2
      rw [va_up_self, hg _ hj0 hj]
      simp
    · rw [va_up_ne _ _ (by omega), hg _ hj0 hj]
      simp [e2]
  · rw [va_up_ne _ _ (by omega)]
    by_cases e2 : s = j
    · subst e2
      rw [va_up_self, hg _ hj0 hj]
      simp [e1]
      omega
    · rw [va_up_ne _ _ (by omega), hg _ hj0 hj]
      simp [e1, e2]
/-- the clash that is told: of a multiplex draft, of another one -/
def sp_clash (m p : Int) (hs cs xs : Nat → Int) (r : Int) : Prop := if m = 1 then sp_first p (fun s => ¬ un_s m p hs cs xs s p.toNat = 0) (fun _ => False) r else sp_first p (sp_A m p hs xs) (sp_B m p hs xs) r
theorem sp_clash_u {m p : Int} {hs cs xs : Nat → Int} {a b : Int} (ha : sp_clash m p hs cs xs a) (hb : sp_clash m p hs cs xs b) : a = b := by
  unfold sp_clash at ha hb
  split at ha
  · rename_i hm
    rw [if_pos hm] at hb
    exact sp_first_u ha hb
  · rename_i hm
    rw [if_neg hm] at hb
    exact sp_first_u ha hb
theorem sp_first_rg {p : Int} {A B : Int → Prop} {r : Int} (hp : 0 ≤ p) (h : sp_first p A B r) : -1 ≤ r ∧ r ≤ p := by
  rcases h with h | ⟨-, h | ⟨-, h⟩⟩
  · exact ⟨by have := h.1; omega, by have := h.2.1; omega⟩
  · exact ⟨by have := h.1; omega, by have := h.2.1; omega⟩
  · omega
theorem sp_clash_rg {m p : Int} {hs cs xs : Nat → Int} {r : Int} (hp : 0 ≤ p) (h : sp_clash m p hs cs xs r) : -1 ≤ r ∧ r ≤ p := by
  unfold sp_clash at h
  split at h <;> exact sp_first_rg hp h
