section JLW
theorem jl_ldcw {l : Launch} {G : jl_G} {F : List Frame → Array Value → State → Nat → Nat → (Nat → Nat) → Nat → State → Prop} {M : jl_M} {d pc : Nat} {L : List (Option Value)} {st : List Value} {n : Nat} {h : Nat → va_E} {ck sk : Nat} {ix : Nat} {v : Int32} (hd : decode M.2.1 pc = .ok (.ldc_w ix, 3)) (hw : Cond.constant M.1.cls ix v ∈ jl_T) (k : jl_AW l G F M d (pc + 3) L (.int v :: st) n h ck sk) : jl_AW l G F M d pc L st n h ck sk := by
  intro p e R s m args below meth c al0 n0 mc ms al H locs ls cells slots C hR hE hl hs h1 h2
  exact lv_ldcw C.1.1 C.1.2.1 C.1.2.2.2.1 (C.1.2.2.2.2 _ hw) hd (k p e R s m args below meth c al0 n0 mc ms al H locs ls cells slots C hR hE hl ⟨trivial, hs⟩ h1 h2)
end JLW
theorem kc_265 : Cond.constant "java/lang/Integer" 265 (1431655765 : Int32) ∈ jl_T := jl_in (by decide +kernel) (by decide +kernel)
theorem kc_266 : Cond.constant "java/lang/Integer" 266 (858993459 : Int32) ∈ jl_T := jl_in (by decide +kernel) (by decide +kernel)
theorem kc_267 : Cond.constant "java/lang/Integer" 267 (252645135 : Int32) ∈ jl_T := jl_in (by decide +kernel) (by decide +kernel)
def ush (x k : Int32) : Int32 := (x.toUInt32 >>> (k.toUInt32 &&& Int32.toUInt32 31)).toInt32
def bc1 (x : Int32) : Int32 := x - (ush x (zI 1) &&& 1431655765)
def bc2 (x : Int32) : Int32 := (x &&& 858993459) + (ush x (zI 2) &&& 858993459)
def bc3 (x : Int32) : Int32 := (x + ush x (zI 4)) &&& 252645135
def bc4 (x : Int32) : Int32 := x + ush x (zI 8)
def bc5 (x : Int32) : Int32 := x + ush x (zI 16)
def popN (m : Nat) : Nat := m % 2 + m / 2 % 2 + m / 4 % 2 + m / 8 % 2 + m / 16 % 2 + m / 32 % 2
theorem bc_pop : ∀ v, v < 64 → bc5 (bc4 (bc3 (bc2 (bc1 (zI ((v : Nat) : Int)))))) &&& zI 63 = zI ((popN v : Nat) : Int) := by decide +kernel
theorem pop_le : ∀ v, v < 64 → popN v ≤ 6 := by decide +kernel
theorem or_add : ∀ v, v < 64 → ∀ k, k < 6 → (v &&& 2 ^ k) = 0 → (v ||| 2 ^ k) = v + 2 ^ k := by decide +kernel
/-- one row of counts added to another -/
def adr (fr to ht : Int) (R : Nat → Int) (s : Int) : Nat → Int := fun j => if to * 55 + ht ≤ (j : Int) ∧ (j : Int) < to * 55 + s then R j + R ((j : Int) - to * 55 - ht + fr * 55).toNat else R j
theorem adr_0 (fr to ht : Int) (R : Nat → Int) : adr fr to ht R ht = R := by
  funext j
  unfold adr
  rw [if_neg (by omega)]
theorem adr_s {fr to ht : Int} (R : Nat → Int) {s : Int} (h0 : 0 ≤ fr) (h1 : fr < to) (h2 : 0 ≤ ht) (h3 : ht ≤ s) (h4 : s < 55) : va_up (adr fr to ht R s) (to * 55 + s).toNat (adr fr to ht R s (to * 55 + s).toNat + adr fr to ht R s (fr * 55 + s - ht).toNat) = adr fr to ht R (s + 1) := by
  have e1 : adr fr to ht R s (fr * 55 + s - ht).toNat = R (fr * 55 + s - ht).toNat := by
    unfold adr
    rw [if_neg (by omega)]
  have e2 : adr fr to ht R s (to * 55 + s).toNat = R (to * 55 + s).toNat := by
    unfold adr
    rw [if_neg (by omega)]
  funext j
  by_cases hj : j = (to * 55 + s).toNat
  · subst hj
    rw [va_up_self, e1, e2]
    unfold adr
    rw [if_pos (by omega)]
    congr 2
    omega
  · rw [va_up_ne _ _ hj]
    unfold adr
    by_cases h : to * 55 + ht ≤ (j : Int) ∧ (j : Int) < to * 55 + s
    · rw [if_pos h, if_pos (by omega)]
    · rw [if_neg h, if_neg (by omega)]
def tnx (P ld : Nat) (R : Nat → Int) : Nat → (Nat → Int)
  | 0 => R
  | ht + 1 => if (ld &&& 2 ^ ((popN ld + ht) % P)) = 0 then adr (ld : Int) ((ld ||| 2 ^ ((popN ld + ht) % P) : Nat) : Int) (ht : Int) (tnx P ld R ht) 55 else tnx P ld R ht
def cdr (P : Nat) (R0 : Nat → Int) : Nat → (Nat → Int)
  | 0 => va_up (jfill 3520 0 R0) (0 : Int).toNat 1
  | ld + 1 => tnx P ld (cdr P R0 ld) 10
/-! cycles by their numbers -/
noncomputable def pIf {α : Type} (P : Prop) (a b : α) : α := (Classical.propDecidable P).casesOn (fun _ => b) (fun _ => a)
theorem pIf_t {α : Type} {P : Prop} {a b : α} (h : P) : pIf P a b = a := by
  unfold pIf
  cases Classical.propDecidable P with
  | isTrue _ => rfl
  | isFalse q => exact absurd h q
theorem pIf_f {α : Type} {P : Prop} {a b : α} (h : ¬ P) : pIf P a b = b := by
  unfold pIf
  cases Classical.propDecidable P with
  | isTrue q => exact absurd q h
  | isFalse _ => rfl
/-- a row of throws that is valid and a cycle -/
def cyP (n : Int) (hs : Nat → Int) : Prop := (∀ s r : Int, 0 ≤ r → r < s → s < n → ¬ (s + hs (s * 3).toNat) % n = (r + hs (r * 3).toNat) % n) ∧ sp_cyc n hs
/-- the digits of v, n of them, as heights -/
def dgt (n : Int) (v : Int) : Nat → Int := fun j => v / 10 ^ (n - 1 - ((j / 3 : Nat) : Int)).toNat % 10
/-- the cycle that comes when tp others have come, among L numbers from lo on -/
noncomputable def scn (n : Int) : Int → Nat → Int → Int × Int
  | _, 0, tp => (-1, tp)
  | lo, L + 1, tp => pIf (cyP n (dgt n lo)) (if tp - 1 < 0 then (lo, tp - 1) else scn n (lo + 1) L (tp - 1)) (scn n (lo + 1) L tp)
theorem scn_none {n : Int} : ∀ (L : Nat) (lo tp : Int), (∀ v, lo ≤ v → v < lo + L → ¬ cyP n (dgt n v)) → scn n lo L tp = (-1, tp)
  | 0, lo, tp, _ => rfl
  | L + 1, lo, tp, h => by
    unfold scn
    rw [pIf_f (h lo (by omega) (by omega))]
    exact scn_none L (lo + 1) tp (fun v h1 h2 => h v (by omega) (by omega))
theorem scn_0 (n lo tp : Int) : scn n lo 0 tp = (-1, tp) := rfl
theorem scn_1 (n lo : Int) (L : Nat) (tp : Int) : scn n lo (L + 1) tp = pIf (cyP n (dgt n lo)) (if tp - 1 < 0 then (lo, tp - 1) else scn n (lo + 1) L (tp - 1)) (scn n (lo + 1) L tp) := rfl
theorem scn_app {n : Int} : ∀ (A B : Nat) (lo tp : Int), 0 ≤ lo → scn n lo (A + B) tp = if (scn n lo A tp).1 = -1 then scn n (lo + A) B (scn n lo A tp).2 else scn n lo A tp
  | 0, B, lo, tp, _ => by
    rw [Nat.zero_add, scn_0, if_pos rfl, show lo + ((0 : Nat) : Int) = lo by omega]
  | A + 1, B, lo, tp, h => by
    rw [show A + 1 + B = (A + B) + 1 by omega, scn_1, scn_1, show lo + ((A + 1 : Nat) : Int) = lo + 1 + (A : Int) by omega]
    by_cases hc : cyP n (dgt n lo)
    · rw [pIf_t hc, pIf_t hc]
      by_cases ht : tp - 1 < 0
      · rw [if_pos ht, if_pos ht, if_neg (show ¬ (lo, tp - 1).1 = -1 by show ¬ lo = -1; omega)]
      · rw [if_neg ht, if_neg ht, scn_app A B (lo + 1) (tp - 1) (by omega)]
    · rw [pIf_f hc, pIf_f hc, scn_app A B (lo + 1) tp (by omega)]
theorem scn_rg {n : Int} : ∀ (L : Nat) (lo tp : Int), 0 ≤ lo → (scn n lo L tp).1 = -1 ∨ (lo ≤ (scn n lo L tp).1 ∧ (scn n lo L tp).1 < lo + L)
  | 0, lo, tp, _ => Or.inl rfl
  | L + 1, lo, tp, h => by
    unfold scn
    by_cases hc : cyP n (dgt n lo)
    · rw [pIf_t hc]
      split
      · exact Or.inr ⟨Int.le_refl _, by show lo < _; omega⟩
      · rcases scn_rg L (lo + 1) (tp - 1) (by omega) with q | q
        · exact Or.inl q
        · exact Or.inr (by omega)
    · rw [pIf_f hc]
      rcases scn_rg L (lo + 1) tp (by omega) with q | q
      · exact Or.inl q
      · exact Or.inr (by omega)
theorem scn_tp {n : Int} : ∀ (L : Nat) (lo tp : Int), 0 ≤ tp → 0 ≤ lo → (scn n lo L tp).1 = -1 → 0 ≤ (scn n lo L tp).2 ∧ (scn n lo L tp).2 ≤ tp
  | 0, lo, tp, h, _, _ => ⟨h, Int.le_refl _⟩
  | L + 1, lo, tp, h, hl, h1 => by
    unfold scn at h1 ⊢
    by_cases hc : cyP n (dgt n lo)
    · rw [pIf_t hc] at h1 ⊢
      split at h1
      · have : lo = -1 := h1
        omega
      · rename_i h2
        rw [if_neg h2]
        have := scn_tp L (lo + 1) (tp - 1) (by omega) (by omega) h1
        omega
    · rw [pIf_f hc] at h1 ⊢
      exact scn_tp L (lo + 1) tp h (by omega) h1
theorem st_v_cg {p : Int} {hs hs' : Nat → Int} (hp : 1 ≤ p) (h : ∀ s : Int, 0 ≤ s → s < p → hs (s * 3).toNat = hs' (s * 3).toNat) (s : Int) : ∀ a : Nat, st_v p hs s a = st_v p hs' s a
  | 0 => rfl
  | a + 1 => by
    unfold st_v
    rw [h _ (Int.emod_nonneg _ (by omega)) (Int.emod_lt_of_pos _ (by omega)), st_v_cg hp h s a]
theorem sp_st_cg {p : Int} {hs hs' : Nat → Int} (hp : 1 ≤ p) (h : ∀ s : Int, 0 ≤ s → s < p → hs (s * 3).toNat = hs' (s * 3).toNat) (s : Int) : sp_st p hs s = sp_st p hs' s := by
  unfold sp_st
  rw [st_v_cg hp h s 9]
theorem sp_rl_cg {p : Int} {hs hs' : Nat → Int} (hp : 1 ≤ p) (h : ∀ s : Int, 0 ≤ s → s < p → hs (s * 3).toNat = hs' (s * 3).toNat) (a b : Int) : sp_rl p hs a b ↔ sp_rl p hs' a b := by
  have e : ∀ x : Int, hs (x % p * 3).toNat = hs' (x % p * 3).toNat := fun x => h _ (Int.emod_nonneg _ (by omega)) (Int.emod_lt_of_pos _ (by omega))
  unfold sp_rl
  simp only [e]
theorem sp_lr_cg {p : Int} {hs hs' : Nat → Int} (hp : 1 ≤ p) (h : ∀ s : Int, 0 ≤ s → s < p → hs (s * 3).toNat = hs' (s * 3).toNat) : ∀ k, sp_lr p hs k = sp_lr p hs' k
  | 0 => rfl
  | k + 1 => by
    unfold sp_lr
    rw [sp_lr_cg hp h k]
    by_cases q : sp_rl p hs ((k : Int) + 1) (sp_lr p hs' k)
    · rw [sp_ite_t q, sp_ite_t ((sp_rl_cg hp h _ _).mp q)]
    · rw [sp_ite_f q, sp_ite_f (fun q2 => q ((sp_rl_cg hp h _ _).mpr q2))]
theorem cyP_cg {p : Int} {hs hs' : Nat → Int} (hp : 1 ≤ p) (h : ∀ s : Int, 0 ≤ s → s < p → hs (s * 3).toNat = hs' (s * 3).toNat) : cyP p hs → cyP p hs' := by
  rintro ⟨h1, h2, h3⟩
  refine ⟨fun s r a b c => ?_, by rw [← sp_lr_cg hp h]; exact h2, fun s r a b c => ?_⟩
  · rw [← h s (by omega) c, ← h r a (by omega)]
    exact h1 s r a b c
  · rw [← sp_st_cg hp h, ← sp_st_cg hp h]
    exact h3 s r a b c
theorem sp_lr_z {p : Int} {hs : Nat → Int} : ∀ k : Nat, sp_lr p hs k = 0 → ∀ s : Int, 1 ≤ s → s ≤ k → ¬ sp_rl p hs s 0
  | 0, _, s, h1, h2 => by omega
  | k + 1, h, s, h1, h2 => by
    unfold sp_lr at h
    by_cases q : sp_rl p hs ((k : Int) + 1) (sp_lr p hs k)
    · rw [sp_ite_t q] at h
      omega
    · rw [sp_ite_f q] at h
      rw [h] at q
      by_cases e : s = (k : Int) + 1
      · rw [e]; exact q
      · exact sp_lr_z k h s h1 (by omega)
/-- no throw of a cycle is below its first -/
theorem cyP_first {n : Int} {hs : Nat → Int} (hn : 1 ≤ n) (h : cyP n hs) {s : Int} (h0 : 0 ≤ s) (h1 : s < n) : hs (0 : Nat) ≤ hs (s * 3).toNat := by
  by_cases e : s = 0
  · subst e; exact Int.le_refl _
  · have h2 := sp_lr_z (p := n) (hs := hs) (n - 1).toNat h.2.1 s (by omega) (by omega)
    rcases Int.lt_or_le (hs (s * 3).toNat) (hs 0) with q | q
    · exfalso
      refine h2 ⟨0, Int.le_refl _, by omega, fun j a b => by omega, ?_⟩
      rw [show (s + 0) % n = s by rw [show s + 0 = s by omega]; exact Int.emod_eq_of_lt h0 h1, show ((0 : Int) + 0) % n = 0 by rw [show (0 : Int) + 0 = 0 from rfl]; exact Int.zero_emod n]
      exact q
    · exact q
theorem lm_1 : ∀ v, v < 16 → ∀ k, k < 4 → ((v &&& 2 ^ k) = 0 ↔ v.testBit k = false) := by decide +kernel
theorem lm_2 : ∀ v, v < 16 → ∀ k, k < 4 → (v ||| 2 ^ k) < 16 ∧ ∀ i, i < 4 → (v ||| 2 ^ k).testBit i = (v.testBit i || decide (k = i)) := by decide +kernel
/-- the digits that are there when s of them are chosen -/
def dgo (n s dv : Int) (hs : Nat → Int) : Prop := 0 ≤ dv ∧ dv < 10 ^ s.toNat ∧ ∀ j : Int, 0 ≤ j → j < s → hs (j * 3).toNat = dv / 10 ^ (s - 1 - j).toNat % 10
def lmo (n s : Int) (LD : Nat) (hs : Nat → Int) : Prop := LD < 16 ∧ (∀ k : Int, 0 ≤ k → k < n → (LD.testBit k.toNat = true ↔ ∃ j : Int, 0 ≤ j ∧ j < s ∧ (j + hs (j * 3).toNat) % n = k)) ∧ ∀ a b : Int, 0 ≤ b → b < a → a < s → ¬ (a + hs (a * 3).toNat) % n = (b + hs (b * 3).toNat) % n
/-- a number whose first digits are dv -/
theorem dgt_pre {n s f dv v : Int} {hs : Nat → Int} (hd : dgo n s dv hs) (hf : s + f = n) (hf0 : 0 ≤ f) (hs0 : 0 ≤ s) (h1 : dv * 10 ^ f.toNat ≤ v) (h2 : v < dv * 10 ^ f.toNat + 10 ^ f.toNat) {j : Int} (hj : 0 ≤ j ∧ j < s) : dgt n v (j * 3).toNat = hs (j * 3).toNat := by
  rw [hd.2.2 j hj.1 hj.2]
  unfold dgt
  rw [show (((j * 3).toNat / 3 : Nat) : Int) = j by omega]
  have e1 : (n - 1 - j).toNat = f.toNat + (s - 1 - j).toNat := by omega
  have hp : (0 : Int) < 10 ^ f.toNat := Int.pow_pos (by decide)
  have e2 : v / 10 ^ f.toNat = dv := by
    have h3 : dv ≤ v / 10 ^ f.toNat := (Int.le_ediv_iff_mul_le hp).mpr h1
    have h4 : v / 10 ^ f.toNat < dv + 1 := (Int.ediv_lt_iff_lt_mul hp).mpr (by rw [Int.add_mul, Int.one_mul]; exact h2)
    omega
  rw [e1, Int.pow_add, ← Int.ediv_ediv_of_nonneg (Int.le_of_lt hp), e2]
