/-! a draft's balls, states and rotations -/
def sp_val (m p : Int) (hs cs xs : Nat → Int) : Prop := sp_clash m p hs cs xs (-1)
def sp_is (P : Prop) (b : Int) : Prop := (b = 1 ∧ P) ∨ (b = 0 ∧ ¬ P)
theorem sp_is_rg {P : Prop} {b : Int} (h : sp_is P b) : 0 ≤ b ∧ b ≤ 1 := by
  rcases h with h | h <;> omega
def bc_w (hs : Nat → Int) (s : Int) : Nat → Int
  | 0 => 0
  | w + 1 => bc_w hs s w + hs (s * 3 + w).toNat
def bc_s (hs cs : Nat → Int) : Nat → Int
  | 0 => 0
  | s + 1 => bc_s hs cs s + bc_w hs (s : Int) (cs s).toNat
theorem bc_w_rg {hs : Nat → Int} (hh : ∀ j, 0 ≤ hs j ∧ hs j ≤ 9) (s : Int) : ∀ w : Nat, 0 ≤ bc_w hs s w ∧ bc_w hs s w ≤ 9 * w
  | 0 => by unfold bc_w; omega
  | w + 1 => by
    have h := bc_w_rg hh s w
    have h1 := hh (s * 3 + w).toNat
    unfold bc_w
    omega
theorem bc_s_rg {hs cs : Nat → Int} (hh : ∀ j, 0 ≤ hs j ∧ hs j ≤ 9) (hc : ∀ j, 0 ≤ cs j ∧ cs j ≤ 3) : ∀ s : Nat, 0 ≤ bc_s hs cs s ∧ bc_s hs cs s ≤ 27 * s
  | 0 => by unfold bc_s; omega
  | s + 1 => by
    have h := bc_s_rg hh hc s
    have h1 := bc_w_rg hh (s : Int) (cs s).toNat
    have h2 := hc s
    unfold bc_s
    omega
def sp_balls (p : Int) (hs cs : Nat → Int) : Int := (bc_s hs cs p.toNat).tdiv p
/-- the state before site s, of the throws made up to a beats ago -/
def st_v (p : Int) (hs : Nat → Int) (s : Int) : Nat → Nat
  | 0 => 0
  | a + 1 => if 0 ≤ hs ((s - (a + 1)) % p * 3).toNat - (a + 1) then st_v p hs s a ||| 2 ^ (hs ((s - (a + 1)) % p * 3).toNat - (a + 1)).toNat else st_v p hs s a
def sp_st (p : Int) (hs : Nat → Int) (s : Int) : Int := (st_v p hs s 9 : Nat)
theorem st_v_lt {p : Int} {hs : Nat → Int} (hh : ∀ j, 0 ≤ hs j ∧ hs j ≤ 9) (s : Int) : ∀ a : Nat, st_v p hs s a < 512
  | 0 => by unfold st_v; omega
  | a + 1 => by
    have h := st_v_lt (p := p) hh s a
    have h1 := hh ((s - (a + 1)) % p * 3).toNat
    unfold st_v
    split
    · exact Nat.or_lt_two_pow (n := 9) h (Nat.pow_lt_pow_right (by decide) (by omega))
    · exact h
theorem sp_st_rg {p : Int} {hs : Nat → Int} (hh : ∀ j, 0 ≤ hs j ∧ hs j ≤ 9) (s : Int) : 0 ≤ sp_st p hs s ∧ sp_st p hs s < 512 := by
  have h := st_v_lt (p := p) hh s 9
  unfold sp_st
  omega
theorem bt_or0 : ∀ v, v < 512 → ∀ k, k < 9 → zI ((v : Nat) : Int) ||| (zI 1 <<< (zI ((k : Nat) : Int) &&& 31)) = zI ((v ||| 2 ^ k : Nat) : Int) := by decide +kernel
theorem bt_or {v : Nat} {k : Int} (hv : v < 512) (hk : 0 ≤ k ∧ k < 9) : zI (v : Int) ||| (zI 1 <<< (zI k &&& 31)) = zI ((v ||| 2 ^ k.toNat : Nat) : Int) := by
  have h := bt_or0 v hv k.toNat (by omega)
  rw [show ((k.toNat : Nat) : Int) = k by omega] at h
  exact h
/-- the rotation that begins at a is lower than that at b -/
def sp_rl (p : Int) (hs : Nat → Int) (a b : Int) : Prop := ∃ k : Int, 0 ≤ k ∧ k < p ∧ (∀ j, 0 ≤ j → j < k → hs ((a + j) % p * 3).toNat = hs ((b + j) % p * 3).toNat) ∧ hs ((a + k) % p * 3).toNat < hs ((b + k) % p * 3).toNat
theorem sp_rl_no {p : Int} {hs : Nat → Int} {a b k : Int} (hk : 0 ≤ k ∧ k < p) (he : ∀ j, 0 ≤ j → j < k → hs ((a + j) % p * 3).toNat = hs ((b + j) % p * 3).toNat) (hn : hs ((b + k) % p * 3).toNat < hs ((a + k) % p * 3).toNat) : ¬ sp_rl p hs a b := by
  rintro ⟨q, h0, h1, h2, h3⟩
  rcases Int.lt_trichotomy q k with h | h | h
  · have := he q h0 h; omega
  · subst h; omega
  · have := h2 k hk.1 h; omega
theorem sp_rl_eq {p : Int} {hs : Nat → Int} {a b : Int} (he : ∀ j, 0 ≤ j → j < p → hs ((a + j) % p * 3).toNat = hs ((b + j) % p * 3).toNat) : ¬ sp_rl p hs a b := by
  rintro ⟨q, h0, h1, h2, h3⟩
  have := he q h0 h1
  omega
noncomputable def sp_ite (P : Prop) (a b : Int) : Int := (Classical.propDecidable P).casesOn (fun _ => b) (fun _ => a)
theorem sp_ite_t {P : Prop} {a b : Int} (h : P) : sp_ite P a b = a := by
  unfold sp_ite
  cases Classical.propDecidable P with
  | isTrue _ => rfl
  | isFalse q => exact absurd h q
theorem sp_ite_f {P : Prop} {a b : Int} (h : ¬ P) : sp_ite P a b = b := by
  unfold sp_ite
  cases Classical.propDecidable P with
  | isTrue q => exact absurd q h
  | isFalse _ => rfl
/-- the site at which the least rotation begins, of the first k + 1 -/
noncomputable def sp_lr (p : Int) (hs : Nat → Int) : Nat → Int
  | 0 => 0
  | k + 1 => sp_ite (sp_rl p hs ((k : Int) + 1) (sp_lr p hs k)) ((k : Int) + 1) (sp_lr p hs k)
theorem sp_lr_rg (p : Int) (hs : Nat → Int) : ∀ k : Nat, 0 ≤ sp_lr p hs k ∧ sp_lr p hs k ≤ k
  | 0 => by unfold sp_lr; omega
  | k + 1 => by
    have h := sp_lr_rg p hs k
    unfold sp_lr
    by_cases q : sp_rl p hs ((k : Int) + 1) (sp_lr p hs k)
    · rw [sp_ite_t q]; omega
    · rw [sp_ite_f q]; omega
/-- a cycle: the least of its rotations, its states all different -/
def sp_cyc (p : Int) (hs : Nat → Int) : Prop := sp_lr p hs (p - 1).toNat = 0 ∧ ∀ s r : Int, 0 ≤ r → r < s → s < p → ¬ sp_st p hs r = sp_st p hs s
