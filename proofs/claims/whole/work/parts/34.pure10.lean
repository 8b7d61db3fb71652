theorem scn_step {n lo tp0 tp r tp' : Int} {A B : Nat} (hlo : 0 ≤ lo) (h1 : scn n lo A tp0 = (-1, tp)) (h2 : scn n (lo + A) B tp = (r, tp')) : scn n lo (A + B) tp0 = (r, tp') := by
  rw [scn_app A B lo tp0 hlo, h1, if_pos rfl]
  exact h2
theorem scn_done {n lo tp0 r tp' : Int} {A B : Nat} (hlo : 0 ≤ lo) (h1 : scn n lo A tp0 = (r, tp')) (hr : ¬ r = -1) : scn n lo (A + B) tp0 = (r, tp') := by
  rw [scn_app A B lo tp0 hlo, h1, if_neg hr]
theorem dgo_cg {n s dv : Int} {hs hs' : Nat → Int} (hd : dgo n s dv hs) (h : ∀ j : Int, 0 ≤ j → j < s → hs' (j * 3).toNat = hs (j * 3).toNat) : dgo n s dv hs' := ⟨hd.1, hd.2.1, fun j a b => by rw [h j a b]; exact hd.2.2 j a b⟩
theorem lmo_cg {n s : Int} {LD : Nat} {hs hs' : Nat → Int} (hd : lmo n s LD hs) (h : ∀ j : Int, 0 ≤ j → j < s → hs' (j * 3).toNat = hs (j * 3).toNat) : lmo n s LD hs' := by
  obtain ⟨h1, h2, h3⟩ := hd
  refine ⟨h1, fun k a b => ?_, fun a b x y z => ?_⟩
  · rw [h2 k a b]
    constructor
    · rintro ⟨j, u, v, w⟩
      exact ⟨j, u, v, by rw [h j u v]; exact w⟩
    · rintro ⟨j, u, v, w⟩
      exact ⟨j, u, v, by rw [← h j u v]; exact w⟩
  · rw [h a (by omega) z, h b x (by omega)]
    exact h3 a b x y z
theorem dgo_next {n s dv ht : Int} {hs : Nat → Int} (hd : dgo n s dv hs) (hs0 : 0 ≤ s) (hh : 0 ≤ ht ∧ ht ≤ 9) : dgo n (s + 1) (dv * 10 + ht) (va_up hs (s * 3).toNat ht) := by
  obtain ⟨h1, h2, h3⟩ := hd
  have e : (s + 1).toNat = s.toNat + 1 := by omega
  refine ⟨by omega, by rw [e, Int.pow_succ]; omega, fun j a b => ?_⟩
  by_cases ej : j = s
  · subst ej
    rw [va_up_self, show (j + 1 - 1 - j).toNat = 0 by omega, Int.pow_zero, Int.ediv_one]
    omega
  · rw [va_up_ne _ _ (by omega), h3 j a (by omega), show (s + 1 - 1 - j).toNat = (s - 1 - j).toNat + 1 by omega, Int.pow_succ, Int.mul_comm (10 ^ (s - 1 - j).toNat) 10, ← Int.ediv_ediv_of_nonneg (by decide : (0 : Int) ≤ 10), show (dv * 10 + ht) / 10 = dv by omega]
theorem lmo_next {n s ht : Int} {LD K : Nat} {hs : Nat → Int} (hd : lmo n s LD hs) (hn : 1 ≤ n ∧ n ≤ 4) (hs0 : 0 ≤ s) (hK : ((s + ht) % n) = (K : Int)) (hf : (LD &&& 2 ^ K) = 0) : lmo n (s + 1) (LD ||| 2 ^ K) (va_up hs (s * 3).toNat ht) := by
  obtain ⟨h1, h2, h3⟩ := hd
  have hk1 := Int.emod_nonneg (s + ht) (show n ≠ 0 by omega)
  have hk2 := Int.emod_lt_of_pos (s + ht) (show 0 < n by omega)
  have hK4 : K < 4 := by omega
  have hfree := (lm_1 LD h1 K hK4).mp hf
  obtain ⟨g1, g2⟩ := lm_2 LD h1 K hK4
  have old : ∀ j : Int, 0 ≤ j → j < s → va_up hs (s * 3).toNat ht (j * 3).toNat = hs (j * 3).toNat := fun j a b => va_up_ne _ _ (by omega)
  have hnot : ∀ j : Int, 0 ≤ j → j < s → ¬ (j + hs (j * 3).toNat) % n = (K : Int) := by
    intro j a b q
    have := (h2 (K : Int) (by omega) (by omega)).mpr ⟨j, a, b, q⟩
    rw [Int.toNat_natCast, hfree] at this
    cases this
  refine ⟨g1, fun k a b => ?_, fun a b x y z => ?_⟩
  · rw [g2 k.toNat (by omega), Bool.or_eq_true, h2 k a b, decide_eq_true_eq]
    constructor
    · rintro (⟨j, u, v, w⟩ | q)
      · exact ⟨j, u, by omega, by rw [old j u v]; exact w⟩
      · exact ⟨s, hs0, by omega, by rw [va_up_self]; omega⟩
    · rintro ⟨j, u, v, w⟩
      by_cases ej : j = s
      · subst ej
        rw [va_up_self] at w
        exact Or.inr (by omega)
      · rw [old j u (by omega)] at w
        exact Or.inl ⟨j, u, by omega, w⟩
  · by_cases ea : a = s
    · subst ea
      rw [va_up_self, old b x y, hK]
      exact fun q => hnot b x y q.symm
    · rw [old a (by omega) (by omega), old b x (by omega)]
      exact h3 a b x y (by omega)
theorem jOk_set0 {p ht : Int} {hs cs xs : Nat → Int} {i j : Nat} (ok : jOk 0 p hs cs xs) (hh : 0 ≤ ht ∧ ht ≤ 9) : jOk 0 p (va_up hs i ht) cs (va_up xs j 0) := by
  obtain ⟨h1, h2, h3, h4, h5, h6⟩ := ok
  refine ⟨h1, h2, fun k => ?_, h4, fun k => ?_, fun q => absurd q (by decide)⟩
  · by_cases e : k = i
    · rw [e, va_up_self]; exact hh
    · rw [va_up_ne _ _ e]; exact h3 k
  · by_cases e : k = j
    · rw [e, va_up_self]; exact Or.inl rfl
    · rw [va_up_ne _ _ e]; exact h5 k
/-- the numbers whose digit at s is taken, or below the first: none of them is a cycle -/
theorem scn_bad {n s dv ht tp lo : Int} {hs : Nat → Int} {f : Nat} (hd : dgo n s dv hs) (hn : 1 ≤ n) (hf : s + (f + 1 : Nat) = n) (hs0 : 0 ≤ s) (hh : 0 ≤ ht ∧ ht ≤ 9) (hlo : lo = (dv * 10 + ht) * ((10 ^ f : Nat) : Int))
    (hb : (∃ j : Int, 0 ≤ j ∧ j < s ∧ (j + hs (j * 3).toNat) % n = (s + ht) % n) ∨ (1 ≤ s ∧ ht < hs 0)) : scn n lo (10 ^ f) tp = (-1, tp) := by
  refine scn_none _ _ _ (fun v h1 h2 hc => ?_)
  have hd2 := dgo_next (n := n) hd hs0 hh
  have ec : (((10 : Nat) ^ f : Nat) : Int) = (10 : Int) ^ ((f : Int)).toNat := by rw [Int.toNat_natCast]; push_cast; rfl
  rw [hlo, ec] at h1 h2
  have key : ∀ j : Int, 0 ≤ j → j < s + 1 → dgt n v (j * 3).toNat = va_up hs (s * 3).toNat ht (j * 3).toNat := fun j a b => dgt_pre (f := (f : Int)) hd2 (by omega) (by omega) (by omega) h1 h2 ⟨a, b⟩
  have ks : dgt n v (s * 3).toNat = ht := by rw [key s hs0 (by omega), va_up_self]
  have kj : ∀ j : Int, 0 ≤ j → j < s → dgt n v (j * 3).toNat = hs (j * 3).toNat := fun j a b => by rw [key j a (by omega), va_up_ne _ _ (by omega)]
  rcases hb with ⟨j, j0, j1, j2⟩ | ⟨j1, j2⟩
  · refine hc.1 s j j0 j1 (by omega) ?_
    rw [ks, kj j j0 j1]
    exact j2.symm
  · have h3 := cyP_first hn hc hs0 (show s < n by omega)
    have h4 := kj 0 (by omega) (by omega)
    rw [show ((0 : Int) * 3).toNat = 0 from rfl] at h4
    rw [ks, h4] at h3
    omega
theorem scn_low {n s dv tp : Int} {hs : Nat → Int} {f : Nat} (hd : dgo n s dv hs) (hn : 1 ≤ n) (hf : s + (f + 1 : Nat) = n) (hs0 : 1 ≤ s) (hh : hs 0 ≤ 9) : ∀ k : Nat, (k : Int) ≤ hs 0 → scn n (dv * ((10 ^ (f + 1) : Nat) : Int)) (k * 10 ^ f) tp = (-1, tp)
  | 0, _ => by rw [Nat.zero_mul]; rfl
  | k + 1, hk => by
    have h0 := hd.1
    have e1 : dv * ((10 ^ (f + 1) : Nat) : Int) = dv * 10 * ((10 ^ f : Nat) : Int) := by rw [Nat.pow_succ, Int.natCast_mul, Int.mul_assoc]; congr 1; exact Int.mul_comm _ _
    rw [Nat.succ_mul]
    refine scn_step (Int.mul_nonneg h0 (Int.natCast_nonneg _)) (scn_low hd hn hf hs0 hh k (by omega)) (scn_bad (ht := (k : Int)) hd hn hf (by omega) (by omega) ?_ (Or.inr ⟨hs0, by omega⟩))
    rw [e1, Int.natCast_mul, ← Int.add_mul]
