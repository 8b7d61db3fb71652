/-! counts of rows of throws: by their landings and sums -/
theorem ct_1 : ∀ v, v < 64 → ∀ k, k < 6 → (v &&& 2 ^ k) = 0 → (v ||| 2 ^ k) = v + 2 ^ k ∧ (v + 2 ^ k).testBit k = true ∧ popN (v + 2 ^ k) = popN v + 1 ∧ v + 2 ^ k < 64 := by decide +kernel
theorem ct_2 : ∀ v, v < 64 → ∀ k, k < 6 → v.testBit k = true → 2 ^ k ≤ v ∧ ((v - 2 ^ k) &&& 2 ^ k) = 0 := by decide +kernel
theorem ct_3 : ∀ v, v < 64 → (popN v = 0 ↔ v = 0) := by decide +kernel
theorem ct_4 : ∀ P, P < 7 → popN (2 ^ P - 1) = P ∧ 2 ^ P - 1 < 64 := by decide +kernel
/-- a throw h at site s can bring k' about -/
abbrev cOk (P s k h : Nat) : Prop := (k / 64).testBit ((s + h) % P) = true ∧ h ≤ k % 64
def cSr (P s k h : Nat) : Nat := k - 64 * 2 ^ ((s + h) % P) - h
def nxW (P s : Nat) (W : Nat → Int) (k : Nat) : Int := smI (fun h => if cOk P s k h then W (cSr P s k h) else 0) 10
def wyS (P : Nat) : Nat → Nat → Int
  | 0, k => if k = 0 then 1 else 0
  | s + 1, k => nxW P s (wyS P s) k
theorem smI_bd {f : Nat → Int} {c : Int} : ∀ n : Nat, (∀ k, k < n → 0 ≤ f k ∧ f k ≤ c) → 0 ≤ smI f n ∧ smI f n ≤ n * c
  | 0, _ => by unfold smI; omega
  | n + 1, h => by
    have h1 := smI_bd n (fun k hk => h k (by omega))
    have h2 := h n (by omega)
    unfold smI
    rw [show ((n + 1 : Nat) : Int) * c = n * c + c by rw [show ((n + 1 : Nat) : Int) = (n : Int) + 1 by omega, Int.add_mul, Int.one_mul]]
    omega
theorem nxW_bd {P s : Nat} {W : Nat → Int} {c : Int} (hc : 0 ≤ c) (hW : ∀ k, 0 ≤ W k ∧ W k ≤ c) (k : Nat) : 0 ≤ nxW P s W k ∧ nxW P s W k ≤ 10 * c := by
  refine smI_bd (c := c) 10 (fun h _ => ?_)
  split
  · exact hW _
  · exact ⟨Int.le_refl _, hc⟩
theorem wyS_bd (P : Nat) : ∀ s k, 0 ≤ wyS P s k ∧ wyS P s k ≤ 10 ^ s
  | 0, k => by unfold wyS; split <;> simp
  | s + 1, k => by
    unfold wyS
    have h := nxW_bd (P := P) (s := s) (c := 10 ^ s) (Int.pow_nonneg (by decide)) (wyS_bd P s) k
    rw [Int.pow_succ]
    omega
/-- the same, when the sets below L have been looked at -/
def cD (P L mk9 sm : Nat) : Int := if mk9 = 0 then (if sm = 0 then 1 else 0) else smI (fun h => if cOk P (popN mk9 - 1) (64 * mk9 + sm) h ∧ mk9 - 2 ^ ((popN mk9 - 1 + h) % P) < L then wyS P (popN mk9 - 1) (cSr P (popN mk9 - 1) (64 * mk9 + sm) h) else 0) 10
theorem cD_done {P L mk9 sm : Nat} (hm : mk9 < 64) (hs : sm < 64) (hL : mk9 ≤ L) : cD P L mk9 sm = wyS P (popN mk9) (64 * mk9 + sm) := by
  unfold cD
  by_cases h0 : mk9 = 0
  · subst h0
    rw [if_pos rfl]
    show _ = wyS P 0 _
    unfold wyS
    rw [show 64 * 0 + sm = sm by omega]
  · rw [if_neg h0]
    have h1 : ¬ popN mk9 = 0 := fun q => h0 ((ct_3 mk9 hm).mp q)
    obtain ⟨n, hn⟩ : ∃ n, popN mk9 = n + 1 := ⟨popN mk9 - 1, by omega⟩
    rw [hn, show n + 1 - 1 = n by omega]
    show _ = nxW P n (wyS P n) _
    unfold nxW
    refine smI_cg 10 (fun h _ => ?_)
    by_cases c : cOk P n (64 * mk9 + sm) h
    · have := Nat.two_pow_pos ((n + h) % P)
      rw [if_pos c, if_pos ⟨c, by omega⟩]
    · rw [if_neg c, if_neg (fun q => c q.1)]
def cEx (P L mk9 sm : Nat) (h : Nat) : Int := if (L &&& 2 ^ ((popN L + h) % P)) = 0 ∧ mk9 = L + 2 ^ ((popN L + h) % P) ∧ h ≤ sm then wyS P (popN L) (64 * L + (sm - h)) else 0
theorem cEx_self {P L sm : Nat} : ∀ n, smI (cEx P L L sm) n = 0
  | 0 => rfl
  | n + 1 => by
    unfold smI
    rw [cEx_self n]
    unfold cEx
    have := Nat.two_pow_pos ((popN L + n) % P)
    rw [if_neg (by omega)]
    rfl
theorem tnx_at {P L : Nat} {R : Nat → Int} (hP : 1 ≤ P ∧ P ≤ 6) (hL : L < 64) (hR : ∀ mk9, mk9 < 64 → ∀ sm, sm < 55 → R (mk9 * 55 + sm) = cD P L mk9 sm) : ∀ ht, ∀ mk9, mk9 < 64 → ∀ sm, sm < 55 → tnx P L R ht (mk9 * 55 + sm) = cD P L mk9 sm + smI (cEx P L mk9 sm) ht
  | 0, mk9, hm, sm, hs => by
    unfold tnx smI
    rw [hR mk9 hm sm hs]
    omega
  | ht + 1, mk9, hm, sm, hs => by
    have ih := tnx_at hP hL hR ht
    have hk : (popN L + ht) % P < 6 := Nat.lt_of_lt_of_le (Nat.mod_lt _ (by omega)) hP.2
    unfold tnx
    show _ = _ + (smI (cEx P L mk9 sm) ht + cEx P L mk9 sm ht)
    by_cases hf : (L &&& 2 ^ ((popN L + ht) % P)) = 0
    · rw [if_pos hf]
      obtain ⟨c1, c2, c3, c4⟩ := ct_1 L hL _ hk hf
      rw [c1]
      unfold adr
      by_cases hin : mk9 = L + 2 ^ ((popN L + ht) % P) ∧ ht ≤ sm
      · rw [if_pos (by omega), ih mk9 hm sm hs]
        have e : (((mk9 * 55 + sm : Nat) : Int) - ((L + 2 ^ ((popN L + ht) % P) : Nat) : Int) * 55 - (ht : Int) + (L : Int) * 55).toNat = L * 55 + (sm - ht) := by omega
        rw [e, ih L hL (sm - ht) (by omega), cEx_self, cD_done hL (by omega) (Nat.le_refl L)]
        unfold cEx
        rw [if_pos ⟨hf, hin.1, hin.2⟩]
        omega
      · rw [if_neg (by omega), ih mk9 hm sm hs]
        have : cEx P L mk9 sm ht = 0 := by unfold cEx; rw [if_neg (fun q => hin q.2)]
        omega
    · rw [if_neg hf, ih mk9 hm sm hs]
      have : cEx P L mk9 sm ht = 0 := by unfold cEx; rw [if_neg (fun q => hf q.1)]
      omega
theorem cD_step {P L mk9 sm : Nat} (hP : 1 ≤ P ∧ P ≤ 6) (hL : L < 64) (hm : mk9 < 64) (hs : sm < 55) : cD P L mk9 sm + smI (cEx P L mk9 sm) 10 = cD P (L + 1) mk9 sm := by
  unfold cD
  by_cases h0 : mk9 = 0
  · rw [if_pos h0, if_pos h0]
    have : smI (cEx P L mk9 sm) 10 = 0 := by
      refine (smI_cg 10 (fun h _ => ?_)).trans (smI_0 10)
      unfold cEx
      have := Nat.two_pow_pos ((popN L + h) % P)
      rw [if_neg (by omega)]
    omega
  · rw [if_neg h0, if_neg h0, ← smI_add]
    refine smI_cg 10 (fun h hh => ?_)
    have hpm : ¬ popN mk9 = 0 := fun q => h0 ((ct_3 mk9 hm).mp q)
    have hk : ∀ a, (a + h) % P < 6 := fun a => Nat.lt_of_lt_of_le (Nat.mod_lt _ (by omega)) hP.2
    have e64 : (64 * mk9 + sm) / 64 = mk9 := by omega
    have e65 : (64 * mk9 + sm) % 64 = sm := by omega
    by_cases c : cOk P (popN mk9 - 1) (64 * mk9 + sm) h
    · have c1 := c.1
      have c2 := c.2
      rw [e64] at c1
      rw [e65] at c2
      obtain ⟨d1, d2⟩ := ct_2 mk9 hm _ (hk _) c1
      rcases Nat.lt_trichotomy (mk9 - 2 ^ ((popN mk9 - 1 + h) % P)) L with q | q | q
      · rw [if_pos ⟨c, q⟩, if_pos ⟨c, by omega⟩]
        have : cEx P L mk9 sm h = 0 := by
          unfold cEx
          rw [if_neg]
          rintro ⟨a, b, -⟩
          obtain ⟨-, -, f3, -⟩ := ct_1 L hL _ (hk _) a
          rw [← b] at f3
          rw [show popN mk9 - 1 = popN L by omega] at q
          omega
        omega
      · have e1 : popN mk9 = popN L + 1 := by
          obtain ⟨-, -, f3, -⟩ := ct_1 (mk9 - 2 ^ ((popN mk9 - 1 + h) % P)) (by omega) _ (hk _) d2
          rw [← q]
          rw [← f3]
          congr 1
          omega
        have e2 : popN mk9 - 1 = popN L := by omega
        rw [e2] at c q d1 d2 ⊢
        rw [if_neg (by omega), if_pos ⟨c, by omega⟩]
        unfold cEx
        rw [q] at d2
        rw [if_pos ⟨d2, by omega, c2⟩]
        unfold cSr
        rw [show 64 * mk9 + sm - 64 * 2 ^ ((popN L + h) % P) - h = 64 * L + (sm - h) by omega]
        omega
      · rw [if_neg (by omega), if_neg (by omega)]
        have : cEx P L mk9 sm h = 0 := by
          unfold cEx
          rw [if_neg]
          rintro ⟨a, b, -⟩
          obtain ⟨-, -, f3, -⟩ := ct_1 L hL _ (hk _) a
          rw [← b] at f3
          rw [show popN mk9 - 1 = popN L by omega] at q
          omega
        omega
    · rw [if_neg (fun q => c q.1), if_neg (fun q => c q.1)]
      have : cEx P L mk9 sm h = 0 := by
        unfold cEx
        rw [if_neg]
        rintro ⟨a, b, b2⟩
        obtain ⟨-, f2, f3, -⟩ := ct_1 L hL _ (hk _) a
        rw [← b] at f2 f3
        refine c ⟨?_, by rw [e65]; exact b2⟩
        rw [e64, show popN mk9 - 1 = popN L by omega]
        exact f2
      omega
theorem cdr_at {P : Nat} {R : Nat → Int} (hP : 1 ≤ P ∧ P ≤ 6) : ∀ L, L ≤ 64 → ∀ mk9, mk9 < 64 → ∀ sm, sm < 55 → cdr P R L (mk9 * 55 + sm) = cD P L mk9 sm
  | 0, _, mk9, hm, sm, hs => by
    unfold cdr cD
    by_cases h0 : mk9 = 0
    · subst h0
      rw [if_pos rfl]
      by_cases h1 : sm = 0
      · subst h1
        exact va_up_self _ _ _
      · rw [if_neg h1, va_up_ne _ _ (by omega)]
        unfold jfill
        rw [if_pos (by omega)]
    · rw [if_neg h0, va_up_ne _ _ (by show ¬ mk9 * 55 + sm = 0; omega)]
      unfold jfill
      rw [if_pos (by omega)]
      symm
      refine (smI_cg 10 (fun h _ => ?_)).trans (smI_0 10)
      rw [if_neg (by omega)]
  | L + 1, hL, mk9, hm, sm, hs => by
    unfold cdr
    rw [tnx_at hP (by omega) (cdr_at hP L (by omega)) 10 mk9 hm sm hs, cD_step hP (by omega) hm hs]
/-- what the class counts -/
theorem cdr_wy {P : Nat} {R : Nat → Int} {b : Int} (hP : 1 ≤ P ∧ P ≤ 6) (hb : 0 ≤ b ∧ b ≤ 9) : cdr P R (2 ^ P - 1) (((2 ^ P - 1 : Nat) : Int) * 55 + P * b).toNat = wyS P P (64 * (2 ^ P - 1) + b.toNat * P) := by
  obtain ⟨h1, h2⟩ := ct_4 P (by omega)
  have h3 : b.toNat * P ≤ 9 * 6 := Nat.mul_le_mul (by omega) hP.2
  have e : (((2 ^ P - 1 : Nat) : Int) * 55 + P * b).toNat = (2 ^ P - 1) * 55 + b.toNat * P := by
    have : (P : Int) * b = ((b.toNat * P : Nat) : Int) := by
      rw [Int.natCast_mul, show ((b.toNat : Nat) : Int) = b by omega, Int.mul_comm]
    rw [this]
    omega
  rw [e, cdr_at hP _ (by omega) _ h2 _ (by omega), cD_done h2 (by omega) (Nat.le_refl _), h1]
/-- the model's step: what has come of the numbers below k, and of k's throws below hh -/
def mrE (P s : Nat) (W : Nat → Int) (k hh k' : Nat) : Int := smI (fun h => if cOk P s k' h ∧ (cSr P s k' h < k ∨ (cSr P s k' h = k ∧ h < hh)) then W (cSr P s k' h) else 0) 10
theorem mrE_0 {P s : Nat} {W : Nat → Int} (k' : Nat) : mrE P s W 0 0 k' = 0 := by
  refine (smI_cg 10 (fun h _ => ?_)).trans (smI_0 10)
  rw [if_neg (by omega)]
theorem mrE_next {P s : Nat} {W : Nat → Int} (k k' : Nat) : mrE P s W k 10 k' = mrE P s W (k + 1) 0 k' := by
  refine smI_cg 10 (fun h hh => ?_)
  by_cases c : cOk P s k' h ∧ cSr P s k' h < k + 1
  · rw [if_pos ⟨c.1, by omega⟩, if_pos ⟨c.1, by omega⟩]
  · rw [if_neg (fun q => c ⟨q.1, by omega⟩), if_neg (fun q => c ⟨q.1, by omega⟩)]
theorem mrE_end {P s : Nat} {W : Nat → Int} {k' : Nat} (h' : k' < 4096) : mrE P s W 4096 0 k' = nxW P s W k' := by
  refine smI_cg 10 (fun h hh => ?_)
  by_cases c : cOk P s k' h
  · rw [if_pos c, if_pos ⟨c, Or.inl (by unfold cSr; omega)⟩]
  · rw [if_neg c, if_neg (fun q => c q.1)]
theorem mrE_skip {P s : Nat} {W : Nat → Int} {k : Nat} (h0 : W k = 0) (hh k' : Nat) : mrE P s W k hh k' = mrE P s W k 10 k' := by
  refine smI_cg 10 (fun h h9 => ?_)
  by_cases c : cOk P s k' h ∧ cSr P s k' h = k
  · rw [c.2, h0]
    split <;> split <;> rfl
  · by_cases c2 : cOk P s k' h ∧ cSr P s k' h < k
    · rw [if_pos ⟨c2.1, Or.inl c2.2⟩, if_pos ⟨c2.1, Or.inl c2.2⟩]
    · rw [if_neg (fun q => by rcases q.2 with w | w; exact c2 ⟨q.1, w⟩; exact c ⟨q.1, w.1⟩), if_neg (fun q => by rcases q.2 with w | w; exact c2 ⟨q.1, w⟩; exact c ⟨q.1, w.1⟩)]
theorem smI_upd {f g : Nat → Int} {c : Int} {a : Nat} : ∀ n, a < n → (∀ k, k < n → k ≠ a → g k = f k) → g a = f a + c → smI g n = smI f n + c
  | 0, h, _, _ => by omega
  | n + 1, h, h1, h2 => by
    unfold smI
    by_cases e : a = n
    · subst e
      rw [smI_cg a (fun k hk => h1 k (by omega) (by omega)), h2]
      omega
    · rw [smI_upd n (by omega) (fun k hk => h1 k (by omega)) h2, h1 n (by omega) (fun q => e q.symm)]
      omega
/-- k's throw hh reaches k + 64 * bit + hh, and no other -/
theorem mrE_hit {P s : Nat} {W : Nat → Int} {k hh : Nat} (hP : 1 ≤ P ∧ P ≤ 6) (hk : k < 4096) (h9 : hh < 10) (hf : (k / 64 &&& 2 ^ ((s + hh) % P)) = 0) (hs : k % 64 + hh < 64) (k' : Nat) (hk' : k' < 4096) :
    k + 64 * 2 ^ ((s + hh) % P) + hh < 4096 ∧ mrE P s W k (hh + 1) k' = (if k' = k + 64 * 2 ^ ((s + hh) % P) + hh then mrE P s W k hh k' + W k else mrE P s W k hh k') := by
  have hb : ∀ a, (s + a) % P < 6 := fun a => Nat.lt_of_lt_of_le (Nat.mod_lt _ (by omega)) hP.2
  obtain ⟨c1, c2, c3, c4⟩ := ct_1 (k / 64) (by omega) _ (hb hh) hf
  refine ⟨by omega, ?_⟩
  have other : ∀ h, h ≠ hh → (if cOk P s k' h ∧ (cSr P s k' h < k ∨ (cSr P s k' h = k ∧ h < hh + 1)) then W (cSr P s k' h) else 0) = (if cOk P s k' h ∧ (cSr P s k' h < k ∨ (cSr P s k' h = k ∧ h < hh)) then W (cSr P s k' h) else 0) := fun h hn => by
    by_cases c : cOk P s k' h ∧ (cSr P s k' h < k ∨ (cSr P s k' h = k ∧ h < hh))
    · rw [if_pos c, if_pos ⟨c.1, by omega⟩]
    · rw [if_neg c, if_neg (fun q => c ⟨q.1, by omega⟩)]
  by_cases e : k' = k + 64 * 2 ^ ((s + hh) % P) + hh
  · rw [if_pos e]
    have ok : cOk P s k' hh := by
      refine ⟨?_, by omega⟩
      rw [show k' / 64 = k / 64 + 2 ^ ((s + hh) % P) by omega]
      exact c2
    have sr : cSr P s k' hh = k := by unfold cSr; omega
    refine smI_upd (a := hh) 10 h9 (fun h _ hn => other h hn) ?_
    rw [sr, if_pos ⟨ok, Or.inr ⟨rfl, by omega⟩⟩, if_neg (by omega)]
    omega
  · rw [if_neg e]
    refine smI_cg 10 (fun h _ => ?_)
    by_cases hn : h = hh
    · subst hn
      have : ¬ (cOk P s k' h ∧ cSr P s k' h = k) := by
        rintro ⟨⟨a, b⟩, c⟩
        have := (ct_2 (k' / 64) (by omega) _ (hb h) a).1
        unfold cSr at c
        omega
      by_cases c : cOk P s k' h ∧ cSr P s k' h < k
      · rw [if_pos ⟨c.1, Or.inl c.2⟩, if_pos ⟨c.1, Or.inl c.2⟩]
      · rw [if_neg (fun q => by rcases q.2 with w | w; exact c ⟨q.1, w⟩; exact this ⟨q.1, w.1⟩), if_neg (fun q => by rcases q.2 with w | w; exact c ⟨q.1, w⟩; exact this ⟨q.1, w.1⟩)]
    · exact other h hn
/-- a throw that is barred changes nothing -/
theorem mrE_bar {P s : Nat} {W : Nat → Int} {k hh : Nat} (hP : 1 ≤ P ∧ P ≤ 6) (hf : ¬ ((k / 64 &&& 2 ^ ((s + hh) % P)) = 0 ∧ k % 64 + hh < 64)) (k' : Nat) (hk' : k' < 4096) : mrE P s W k (hh + 1) k' = mrE P s W k hh k' := by
  have hb : ∀ a, (s + a) % P < 6 := fun a => Nat.lt_of_lt_of_le (Nat.mod_lt _ (by omega)) hP.2
  refine smI_cg 10 (fun h _ => ?_)
  by_cases hn : h = hh
  · subst hn
    have : ¬ (cOk P s k' h ∧ cSr P s k' h = k) := by
      rintro ⟨⟨a, b⟩, c⟩
      obtain ⟨d1, d2⟩ := ct_2 (k' / 64) (by omega) _ (hb h) a
      unfold cSr at c
      have e : k / 64 = k' / 64 - 2 ^ ((s + h) % P) := by omega
      rw [← e] at d2
      exact hf ⟨d2, by omega⟩
    by_cases c : cOk P s k' h ∧ cSr P s k' h < k
    · rw [if_pos ⟨c.1, Or.inl c.2⟩, if_pos ⟨c.1, Or.inl c.2⟩]
    · rw [if_neg (fun q => by rcases q.2 with w | w; exact c ⟨q.1, w⟩; exact this ⟨q.1, w.1⟩), if_neg (fun q => by rcases q.2 with w | w; exact c ⟨q.1, w⟩; exact this ⟨q.1, w.1⟩)]
  · by_cases c : cOk P s k' h ∧ (cSr P s k' h < k ∨ (cSr P s k' h = k ∧ h < hh))
    · rw [if_pos c, if_pos ⟨c.1, by omega⟩]
    · rw [if_neg c, if_neg (fun q => c ⟨q.1, by omega⟩)]
