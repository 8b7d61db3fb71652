/-! cycles as the model finds them -/
def tkN (t : Nat → Nat) : Nat → Nat
  | 0 => 0
  | s + 1 => tkN t s ||| 2 ^ t s
theorem tk_4b : ∀ a, a < 4 → ∀ b, b < 4 → ∀ c, c < 4 → ∀ d, d < 4 → (((((0 ||| 2 ^ a) ||| 2 ^ b) ||| 2 ^ c) ||| 2 ^ d) == 15) = (!(b == a) && !(c == a) && !(c == b) && !(d == a) && !(d == b) && !(d == c)) := by decide +kernel
theorem tk_4 {a b c d : Nat} (ha : a < 4) (hb : b < 4) (hc : c < 4) (hd : d < 4) : ((((0 ||| 2 ^ a) ||| 2 ^ b) ||| 2 ^ c) ||| 2 ^ d) = 15 ↔ (b ≠ a ∧ c ≠ a ∧ c ≠ b ∧ d ≠ a ∧ d ≠ b ∧ d ≠ c) := by
  have h := tk_4b a ha b hb c hc d hd
  rw [← beq_iff_eq, h]
  simp only [Bool.and_eq_true, Bool.not_eq_true', beq_eq_false_iff_ne, ne_eq, and_assoc]
theorem tk_3 : ∀ a, a < 3 → ∀ b, b < 3 → ∀ c, c < 3 → (((0 ||| 2 ^ a) ||| 2 ^ b) ||| 2 ^ c = 7 ↔ (b ≠ a ∧ c ≠ a ∧ c ≠ b)) := by decide +kernel
theorem tk_2 : ∀ a, a < 2 → ∀ b, b < 2 → ((0 ||| 2 ^ a) ||| 2 ^ b = 3 ↔ b ≠ a) := by decide +kernel
theorem tk_1 : ∀ a, a < 1 → (0 ||| 2 ^ a) = 1 := by decide +kernel
theorem tk_iff {t : Nat → Nat} {n : Nat} (hn : 1 ≤ n ∧ n ≤ 4) (ht : ∀ s, s < n → t s < n) : tkN t n = 2 ^ n - 1 ↔ ∀ s r, r < s → s < n → ¬ t s = t r := by
  have c : n = 1 ∨ n = 2 ∨ n = 3 ∨ n = 4 := by omega
  rcases c with e | e | e | e <;> subst e
  · show (0 ||| 2 ^ t 0) = 1 ↔ _
    exact ⟨fun _ s r h1 h2 => by omega, fun _ => tk_1 _ (ht 0 (by omega))⟩
  · show ((0 ||| 2 ^ t 0) ||| 2 ^ t 1) = 3 ↔ _
    rw [tk_2 _ (ht 0 (by omega)) _ (ht 1 (by omega))]
    constructor
    · intro h s r h1 h2
      have e1 : s = 1 := by omega
      have e2 : r = 0 := by omega
      subst e1 e2
      exact h
    · intro h
      exact h 1 0 (by omega) (by omega)
  · show (((0 ||| 2 ^ t 0) ||| 2 ^ t 1) ||| 2 ^ t 2) = 7 ↔ _
    rw [tk_3 _ (ht 0 (by omega)) _ (ht 1 (by omega)) _ (ht 2 (by omega))]
    constructor
    · rintro ⟨h1, h2, h3⟩ s r q1 q2
      have e1 : (s = 1 ∧ r = 0) ∨ (s = 2 ∧ r = 0) ∨ (s = 2 ∧ r = 1) := by omega
      rcases e1 with ⟨e1, e2⟩ | ⟨e1, e2⟩ | ⟨e1, e2⟩ <;> subst e1 e2 <;> assumption
    · intro h
      exact ⟨h 1 0 (by omega) (by omega), h 2 0 (by omega) (by omega), h 2 1 (by omega) (by omega)⟩
  · show ((((0 ||| 2 ^ t 0) ||| 2 ^ t 1) ||| 2 ^ t 2) ||| 2 ^ t 3) = 15 ↔ _
    rw [tk_4 (ht 0 (by omega)) (ht 1 (by omega)) (ht 2 (by omega)) (ht 3 (by omega))]
    constructor
    · rintro ⟨h1, h2, h3, h4, h5, h6⟩ s r q1 q2
      have e1 : (s = 1 ∧ r = 0) ∨ (s = 2 ∧ r = 0) ∨ (s = 2 ∧ r = 1) ∨ (s = 3 ∧ r = 0) ∨ (s = 3 ∧ r = 1) ∨ (s = 3 ∧ r = 2) := by omega
      rcases e1 with ⟨e1, e2⟩ | ⟨e1, e2⟩ | ⟨e1, e2⟩ | ⟨e1, e2⟩ | ⟨e1, e2⟩ | ⟨e1, e2⟩ <;> subst e1 e2 <;> assumption
    · intro h
      exact ⟨h 1 0 (by omega) (by omega), h 2 0 (by omega) (by omega), h 2 1 (by omega) (by omega), h 3 0 (by omega) (by omega), h 3 1 (by omega) (by omega), h 3 2 (by omega) (by omega)⟩
theorem sp_lr_0 {p : Int} {hs : Nat → Int} : ∀ k : Nat, (∀ s : Int, 1 ≤ s → s ≤ k → ¬ sp_rl p hs s 0) → sp_lr p hs k = 0
  | 0, _ => rfl
  | k + 1, h => by
    unfold sp_lr
    rw [sp_lr_0 k (fun s a b => h s a (by omega)), sp_ite_f (h ((k : Int) + 1) (by omega) (by omega))]
theorem sp_rl_self {p : Int} {hs : Nat → Int} (a : Int) : ¬ sp_rl p hs a a := sp_rl_eq (fun _ _ _ => rfl)
/-- the site on which a row's throw lands -/
def tkT (n : Int) (hs : Nat → Int) : Nat → Nat := fun s => (((s : Int) + hs ((s : Int) * 3).toNat) % n).toNat
theorem cyP_iff {n : Int} {hs : Nat → Int} (hn : 1 ≤ n ∧ n ≤ 4) : cyP n hs ↔ tkN (tkT n hs) n.toNat = 2 ^ n.toNat - 1 ∧ ∀ s : Int, 0 ≤ s → s < n → (∀ r : Int, 0 ≤ r → r < s → ¬ sp_st n hs s = sp_st n hs r) ∧ ¬ sp_rl n hs s 0 := by
  have hm : ∀ x : Int, 0 ≤ x % n ∧ x % n < n := fun x => emod_p hn.1
  rw [tk_iff (n := n.toNat) (by omega) (fun s _ => by unfold tkT; have := hm ((s : Int) + hs ((s : Int) * 3).toNat); omega)]
  constructor
  · rintro ⟨h1, h2, h3⟩
    refine ⟨fun s r a b => ?_, fun s a b => ⟨fun r c e => fun q => h3 s r c e b q.symm, ?_⟩⟩
    · have := h1 (s : Int) (r : Int) (by omega) (by omega) (by omega)
      have m1 := hm ((s : Int) + hs ((s : Int) * 3).toNat)
      have m2 := hm ((r : Int) + hs ((r : Int) * 3).toNat)
      unfold tkT
      omega
    · by_cases e : s = 0
      · rw [e]; exact sp_rl_self 0
      · exact sp_lr_z (n - 1).toNat h2 s (by omega) (by omega)
  · rintro ⟨h1, h2⟩
    refine ⟨fun s r a b c => ?_, sp_lr_0 _ (fun s a b => (h2 s (by omega) (by omega)).2), fun s r a b c q => (h2 s (by omega) c).1 r a b q.symm⟩
    have := h1 s.toNat r.toNat (by omega) (by omega)
    have m1 := hm (s + hs (s * 3).toNat)
    have m2 := hm (r + hs (r * 3).toNat)
    unfold tkT at this
    rw [show ((s.toNat : Nat) : Int) = s by omega, show ((r.toNat : Nat) : Int) = r by omega] at this
    omega
/-- a row's throws as heights -/
def rwH (rw9 : Nat → Int) : Nat → Int := fun j => rw9 (j / 3)
theorem rwH_at {rw9 : Nat → Int} {s : Int} : rwH rw9 (s * 3).toNat = rw9 s.toNat := by
  unfold rwH
  congr 1
  omega
/-- one rotation looked at -/
def cyA (n : Int) (hs : Nat → Int) (s : Int) : Prop := ∀ s' : Int, 0 ≤ s' → s' < s → (∀ r : Int, 0 ≤ r → r < s' → ¬ sp_st n hs s' = sp_st n hs r) ∧ ¬ sp_rl n hs s' 0
theorem cyA_s {n : Int} {hs : Nat → Int} {s : Int} (h : cyA n hs s) (h1 : ∀ r : Int, 0 ≤ r → r < s → ¬ sp_st n hs s = sp_st n hs r) (h2 : ¬ sp_rl n hs s 0) : cyA n hs (s + 1) := by
  intro s' a b
  by_cases e : s' = s
  · rw [e]; exact ⟨h1, h2⟩
  · exact h s' a (by omega)
/-- the comparison of a rotation with the row: what is known of it behind k places -/
def cmI (n : Int) (hs : Nat → Int) (s k sm gd : Int) : Prop := (sm = 1 ∧ gd = 1 ∧ ∀ j, 0 ≤ j → j < k → hs ((s + j) % n * 3).toNat = hs ((0 + j) % n * 3).toNat) ∨ (sm = 0 ∧ gd = 1 ∧ ¬ sp_rl n hs s 0) ∨ (sm = 0 ∧ gd = 0 ∧ sp_rl n hs s 0)
theorem cmI_s {n : Int} {hs : Nat → Int} {s k : Int} (hk : 0 ≤ k ∧ k < n) (h : ∀ j, 0 ≤ j → j < k → hs ((s + j) % n * 3).toNat = hs ((0 + j) % n * 3).toNat) : cmI n hs s (k + 1) (if hs ((s + k) % n * 3).toNat = hs (k * 3).toNat then 1 else 0) (if hs (k * 3).toNat ≤ hs ((s + k) % n * 3).toNat then 1 else 0) := by
  have e0 : (0 + k) % n = k := by rw [Int.zero_add]; exact Int.emod_eq_of_lt hk.1 hk.2
  by_cases e : hs ((s + k) % n * 3).toNat = hs (k * 3).toNat
  · rw [if_pos e, if_pos (by omega)]
    refine Or.inl ⟨rfl, rfl, fun j a b => ?_⟩
    by_cases q : j = k
    · rw [q, e0]; exact e
    · exact h j a (by omega)
  · rw [if_neg e]
    by_cases q : hs (k * 3).toNat ≤ hs ((s + k) % n * 3).toNat
    · rw [if_pos q]
      refine Or.inr (Or.inl ⟨rfl, rfl, sp_rl_no hk h ?_⟩)
      rw [e0]; omega
    · rw [if_neg q]
      refine Or.inr (Or.inr ⟨rfl, rfl, k, hk.1, hk.2, h, ?_⟩)
      rw [e0]; omega
/-- the digits laid into the row, from the last on -/
theorem dg_step {n v : Int} {s : Int} (hs : 0 ≤ s ∧ s < n) : dgt n v (s * 3).toNat = v / 10 ^ (n - 1 - s).toNat % 10 := by
  unfold dgt
  rw [show (((s * 3).toNat / 3 : Nat) : Int) = s by omega]
theorem dg_rest {v : Int} {k : Nat} : v / 10 ^ (k + 1) = v / 10 ^ k / 10 := by
  rw [Int.pow_succ, Int.ediv_ediv_of_nonneg (Int.pow_nonneg (by decide))]
