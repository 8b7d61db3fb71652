/-! states: their balls, and ways between those of as many balls -/
def pop9 (v : Nat) : Nat := v % 2 + v / 2 % 2 + v / 4 % 2 + v / 8 % 2 + v / 16 % 2 + v / 32 % 2 + v / 64 % 2 + v / 128 % 2 + v / 256 % 2
def wt9 (v : Nat) : Nat := v / 2 % 2 + 2 * (v / 4 % 2) + 3 * (v / 8 % 2) + 4 * (v / 16 % 2) + 5 * (v / 32 % 2) + 6 * (v / 64 % 2) + 7 * (v / 128 % 2) + 8 * (v / 256 % 2)
theorem sa_pop0 : ∀ v, v < 512 → ∀ h, h < 10 → saN v h = -1 ∨ (pop9 (saN v h).toNat = pop9 v ∧ wt9 (saN v h).toNat + pop9 v = wt9 v + h) := by decide +kernel
/-- the lowest throw that is free, and the throw that brought the highest ball -/
def lfr (v : Nat) : Nat → Nat → Nat
  | 0, _ => 9
  | k + 1, i => if v / 2 ^ i % 2 = 0 then i else lfr v k (i + 1)
def gdy (v : Nat) : Nat := if v % 2 = 0 then 0 else lfr (v / 2) 9 0 + 1
def tpb (v : Nat) : Nat → Nat
  | 0 => 0
  | k + 1 => if v / 2 ^ k % 2 = 1 then k + 1 else tpb v k
def gdI (v : Nat) : Nat → Nat
  | 0 => v
  | k + 1 => (saN (gdI v k) (gdy (gdI v k))).toNat
def bkI (v : Nat) : Nat → Nat
  | 0 => v
  | k + 1 => (sfN (bkI v k) (tpb (bkI v k) 9)).toNat
theorem gd_1 : ∀ v, v < 512 → gdy v < 10 ∧ ¬ saN v (gdy v) = -1 := by decide +kernel
theorem gd_2 : ∀ v, v < 512 → gdI v (9 - pop9 v) = 2 ^ pop9 v - 1 := by decide +kernel
theorem bk_1 : ∀ v, v < 512 → (0 < v → tpb v 9 < 10 ∧ ¬ sfN v (tpb v 9) = -1 ∧ 0 < (sfN v (tpb v 9)).toNat) := by decide +kernel
theorem bk_2 : ∀ v, v < 512 → bkI v (pop9 v) = 2 ^ pop9 v - 1 := by decide +kernel
theorem pop_le9 : ∀ v, v < 512 → pop9 v ≤ 9 := by decide +kernel
theorem pop_z : ∀ v, v < 512 → (v = 0 → pop9 v = 0) := by decide +kernel
theorem gdI_lt {v : Nat} (hv : v < 512) : ∀ k, gdI v k < 512
  | 0 => hv
  | k + 1 => by
    have h := gdI_lt hv k
    have h1 := gd_1 _ h
    have h2 := sa_rg0 _ h _ h1.1
    show (saN (gdI v k) (gdy (gdI v k))).toNat < 512
    rcases h2 with h2 | h2
    · exact absurd h2 h1.2
    · omega
theorem bkI_lt {v : Nat} (hv : v < 512) (h0 : 0 < v) : ∀ k, bkI v k < 512 ∧ 0 < bkI v k
  | 0 => ⟨hv, h0⟩
  | k + 1 => by
    have h := bkI_lt hv h0 k
    have h1 := bk_1 _ h.1 h.2
    have h2 := sf_rg0 _ h.1 _ h1.1
    show (sfN (bkI v k) (tpb (bkI v k) 9)).toNat < 512 ∧ _
    rcases h2 with h2 | h2
    · exact absurd h2 h1.2.1
    · exact ⟨by omega, h1.2.2⟩
theorem rch_mono {A B : Int → Prop} (h : ∀ v, A v → B v) : ∀ n v, rch A n v → rch B n v
  | 0, v, q => h v q
  | n + 1, _, ⟨t, a, b, c, e⟩ => ⟨t, a, b, c, rch_mono h n _ e⟩
theorem rch_gd {A : Int → Prop} {v : Nat} (hv : v < 512) {j : Nat} : ∀ k, rch A j (gdI v k : Nat) → rch A (k + j) (v : Int)
  | 0, q => by rw [Nat.zero_add]; exact q
  | k + 1, q => by
    have h := gdI_lt hv k
    have h1 := gd_1 _ h
    have h2 := sa_rg0 _ h _ h1.1
    rcases h2 with h2 | h2
    · exact absurd h2 h1.2
    · rw [show k + 1 + j = k + (j + 1) by omega]
      refine rch_gd hv k ⟨(gdy (gdI v k) : Nat), by omega, by omega, ?_, ?_⟩
      · unfold sa
        rw [Int.toNat_natCast, Int.toNat_natCast]
        exact h1.2
      · unfold sa
        rw [Int.toNat_natCast, Int.toNat_natCast]
        have e : ((gdI v (k + 1) : Nat) : Int) = saN (gdI v k) (gdy (gdI v k)) := by
          show (((saN (gdI v k) (gdy (gdI v k))).toNat : Nat) : Int) = _
          omega
        rw [← e]
        exact q
theorem rch_bk {w : Nat} (hw : w < 512) (h0 : 0 < w) : ∀ k, rch (fun u => u = (w : Int)) k (bkI w k : Nat)
  | 0 => rfl
  | k + 1 => by
    have h := bkI_lt hw h0 k
    have h1 := bk_1 _ h.1 h.2
    have h2 := sf_rg0 _ h.1 _ h1.1
    rcases h2 with h2 | h2
    · exact absurd h2 h1.2.1
    · have e : sa ((bkI w (k + 1) : Nat) : Int) ((tpb (bkI w k) 9 : Nat) : Int) = (bkI w k : Nat) := by
        unfold sa
        rw [Int.toNat_natCast, Int.toNat_natCast]
        exact h2.2.2
      refine ⟨(tpb (bkI w k) 9 : Nat), by omega, by omega, ?_, ?_⟩
      · rw [e]; omega
      · rw [e]; exact rch_bk hw h0 k
/-- from each state to each other with as many balls there is a way of nine throws -/
theorem rch_9 {v w : Nat} (hv : v < 512) (hw : w < 512) (hp : pop9 v = pop9 w) : rch (fun u => u = (w : Int)) 9 (v : Int) := by
  have h9 := pop_le9 v hv
  have e : 9 = (9 - pop9 v) + pop9 w := by omega
  rw [e]
  refine rch_gd hv _ ?_
  rw [gd_2 v hv, hp, ← bk_2 w hw]
  by_cases h0 : 0 < w
  · exact rch_bk hw h0 _
  · have e0 : w = 0 := by omega
    subst e0
    exact rfl
/-- the bits of a state -/
theorem st_bit {p : Int} {hs : Nat → Int} (s : Int) (i : Nat) : ∀ a : Nat, (st_v p hs s a).testBit i = true ↔ ∃ b : Nat, b < a ∧ hs ((s - ((b : Int) + 1)) % p * 3).toNat = (b : Int) + 1 + i
  | 0 => by
    unfold st_v
    simp
  | a + 1 => by
    have ih := st_bit (p := p) (hs := hs) s i a
    unfold st_v
    split
    · rename_i h
      rw [Nat.testBit_or, Bool.or_eq_true, ih, Nat.testBit_two_pow, decide_eq_true_eq]
      constructor
      · rintro (⟨b, h1, h2⟩ | h1)
        · exact ⟨b, by omega, h2⟩
        · exact ⟨a, by omega, by omega⟩
      · rintro ⟨b, h1, h2⟩
        by_cases q : b = a
        · subst q
          exact Or.inr (by omega)
        · exact Or.inl ⟨b, by omega, h2⟩
    · rename_i h
      rw [ih]
      constructor
      · rintro ⟨b, h1, h2⟩
        exact ⟨b, by omega, h2⟩
      · rintro ⟨b, h1, h2⟩
        by_cases q : b = a
        · subst q
          omega
        · exact ⟨b, by omega, h2⟩
/-- the ball thrown at site r lands where none other does: a plain draft's throws -/
def plv (p : Int) (hs : Nat → Int) : Prop := (∀ s r : Int, 0 ≤ s → s < p → 0 ≤ r → r < p → 0 < hs (s * 3).toNat → 0 < hs (r * 3).toNat → (s + hs (s * 3).toNat) % p = (r + hs (r * 3).toNat) % p → s = r) ∧ (∀ s : Int, 0 ≤ s → s < p → (0 < hs (s * 3).toNat ↔ ∃ r : Int, 0 ≤ r ∧ r < p ∧ 0 < hs (r * 3).toNat ∧ (r + hs (r * 3).toNat) % p = s))
theorem plv_of {p : Int} {hs cs xs : Nat → Int} (ok : jOk 0 p hs cs xs) (hi : dIn 0 p cs) (hv : sp_val 0 p hs cs xs) : plv p hs := by
  have hev := (sp_val_ev ok hi).mp hv
  have hp := ok.2.1
  have hc : ∀ s, s < p.toNat → cs s = 1 := fun s h => (hi s (by omega)).2.2 (by decide)
  have et : ∀ s k : Int, sp_tgt 0 p xs s k = (s + k) % p := fun s k => by unfold sp_tgt; rw [if_neg (by decide)]
  unfold sp_val sp_clash at hv
  rw [if_neg (by decide), sp_first_m1] at hv
  refine ⟨fun s r s0 s1 r0 r1 h1 h2 h3 => ?_, fun s s0 s1 => ?_⟩
  · rcases Int.lt_trichotomy s r with q | q | q
    · exact absurd ⟨h2, s, s0, q, h1, by rw [et, et]; exact h3⟩ (hv.1 r r0 r1)
    · exact q
    · exact absurd ⟨h1, r, r0, q, h2, by rw [et, et]; exact h3.symm⟩ (hv.1 s s0 s1)
  · have h1 := hev s s0 s1
    rw [th_w_1 (hc s.toNat (by omega))] at h1
    have h2 := ld_s_pos (m := 0) (p := p) (hs := hs) (cs := cs) (xs := xs) (t := s) p.toNat hc
    rw [h1] at h2
    constructor
    · intro q
      rw [if_pos q] at h2
      obtain ⟨r, a, b, c, e⟩ := h2.mp (by omega)
      rw [et] at e
      exact ⟨r, a, by omega, c, e⟩
    · rintro ⟨r, a, b, c, e⟩
      have h3 := h2.mpr ⟨r, a, by omega, c, by rw [et]; exact e⟩
      by_cases q : 0 < hs (s * 3).toNat
      · exact q
      · rw [if_neg q] at h3; omega
theorem emod_p {p x : Int} (hp : 1 ≤ p) : 0 ≤ x % p ∧ x % p < p := ⟨Int.emod_nonneg _ (by omega), Int.emod_lt_of_pos _ (by omega)⟩
theorem add_emod_l {p x y : Int} : (x % p + y) % p = (x + y) % p := by rw [Int.emod_add_emod]
/-- the next state is the one behind the site's throw -/
theorem st_next {p : Int} {hs : Nat → Int} (hp : 1 ≤ p) (hh : ∀ j, 0 ≤ hs j ∧ hs j ≤ 9) (hv : plv p hs) (s : Int) : sa (sp_st p hs s) (hs (s % p * 3).toNat) = sp_st p hs (s + 1) := by
  have hrg := hh (s % p * 3).toNat
  have hsm := emod_p (x := s) hp
  -- the lowest bit
  have hodd : (st_v p hs s 9).testBit 0 = true ↔ 0 < hs (s % p * 3).toNat := by
    rw [st_bit s 0 9, hv.2 _ hsm.1 hsm.2]
    constructor
    · rintro ⟨b, h1, h2⟩
      have hm := emod_p (x := s - ((b : Int) + 1)) hp
      refine ⟨_, hm.1, hm.2, by omega, ?_⟩
      rw [h2, add_emod_l, show s - ((b : Int) + 1) + ((b : Int) + 1 + ((0 : Nat) : Int)) = s by omega]
    · rintro ⟨r, h1, h2, h3, h4⟩
      have h5 := hh (r * 3).toNat
      refine ⟨(hs (r * 3).toNat - 1).toNat, by omega, ?_⟩
      have e : (s - ((((hs (r * 3).toNat - 1).toNat : Nat) : Int) + 1)) % p = r := by
        rw [show (((hs (r * 3).toNat - 1).toNat : Nat) : Int) + 1 = hs (r * 3).toNat by omega, Int.sub_emod, ← h4, ← Int.sub_emod, show r + hs (r * 3).toNat - hs (r * 3).toNat = r by omega]
        exact Int.emod_eq_of_lt h1 h2
      rw [e]
      omega
  -- the other bits
  have hbit : ∀ i : Nat, (st_v p hs (s + 1) 9).testBit i = true ↔ ((st_v p hs s 9).testBit (i + 1) = true ∨ hs (s % p * 3).toNat = (i : Int) + 1) := by
    intro i
    rw [st_bit (s + 1) i 9, st_bit s (i + 1) 9]
    constructor
    · rintro ⟨b, h1, h2⟩
      cases b with
      | zero =>
        right
        rw [show s + 1 - (((0 : Nat) : Int) + 1) = s by omega] at h2
        omega
      | succ b =>
        left
        refine ⟨b, by omega, ?_⟩
        rw [show s + 1 - (((b + 1 : Nat) : Int) + 1) = s - ((b : Int) + 1) by omega] at h2
        omega
    · rintro (⟨b, h1, h2⟩ | h1)
      · have h3 := hh ((s - ((b : Int) + 1)) % p * 3).toNat
        refine ⟨b + 1, by omega, ?_⟩
        rw [show s + 1 - (((b + 1 : Nat) : Int) + 1) = s - ((b : Int) + 1) by omega]
        omega
      · refine ⟨0, by omega, ?_⟩
        rw [show s + 1 - (((0 : Nat) : Int) + 1) = s by omega]
        omega
  have hmod : (st_v p hs s 9).testBit 0 = decide ((st_v p hs s 9) % 2 = 1) := Nat.testBit_zero _
  unfold sa sp_st saN
  rw [Int.toNat_natCast]
  by_cases h0 : hs (s % p * 3).toNat = 0
  · have e0 : (st_v p hs s 9) % 2 = 0 := by
      have : ¬ (st_v p hs s 9) % 2 = 1 := fun q => by
        have := hodd.mp (by rw [hmod]; exact decide_eq_true q)
        omega
      omega
    rw [if_pos e0, if_pos (by omega)]
    congr 1
    refine Nat.eq_of_testBit_eq (fun i => ?_)
    rw [Nat.testBit_div_two, Bool.eq_iff_iff, hbit i]
    constructor
    · exact fun q => Or.inl q
    · rintro (q | q)
      · exact q
      · omega
  · have e0 : ¬ (st_v p hs s 9) % 2 = 0 := by
      have := hodd.mpr (by omega)
      rw [hmod] at this
      have := of_decide_eq_true this
      omega
    have ek : (((hs (s % p * 3).toNat).toNat - 1 : Nat) : Int) + 1 = hs (s % p * 3).toNat := by omega
    have efree : ((st_v p hs s 9) / 2 &&& 2 ^ ((hs (s % p * 3).toNat).toNat - 1)) = 0 := by
      have : ((st_v p hs s 9) / 2).testBit ((hs (s % p * 3).toNat).toNat - 1) = false := by
        rw [Nat.testBit_div_two]
        cases hq : (st_v p hs s 9).testBit ((hs (s % p * 3).toNat).toNat - 1 + 1) with
        | false => rfl
        | true =>
          exfalso
          obtain ⟨b, h1, h2⟩ := (st_bit s _ 9).mp hq
          have hm := emod_p (x := s - ((b : Int) + 1)) hp
          have h3 := hv.1 _ _ hsm.1 hsm.2 hm.1 hm.2 (by omega) (by omega) ?_
          · rw [← h3] at h2
            omega
          · rw [h2, add_emod_l, add_emod_l]
            congr 1
            omega
      refine Nat.eq_of_testBit_eq (fun i => ?_)
      rw [Nat.testBit_and, Nat.testBit_two_pow, Nat.zero_testBit]
      by_cases q : (hs (s % p * 3).toNat).toNat - 1 = i
      · rw [← q, this]; rfl
      · rw [decide_eq_false q, Bool.and_false]
    rw [if_neg e0, if_neg (by omega), if_pos efree]
    congr 1
    refine Nat.eq_of_testBit_eq (fun i => ?_)
    rw [Nat.testBit_or, Nat.testBit_div_two, Nat.testBit_two_pow, Bool.eq_iff_iff, Bool.or_eq_true, hbit i, decide_eq_true_eq]
    constructor
    · rintro (q | q)
      · exact Or.inl q
      · exact Or.inr (by omega)
    · rintro (q | q)
      · exact Or.inl q
      · exact Or.inr (by omega)
theorem st_per {p : Int} {hs : Nat → Int} (s : Int) : ∀ a, st_v p hs (s + p) a = st_v p hs s a
  | 0 => rfl
  | a + 1 => by
    unfold st_v
    rw [st_per s a, show s + p - ((a : Int) + 1) = s - ((a : Int) + 1) + p by omega, Int.add_emod_right]
/-- all states of a draft have as many balls; their sum is that of the heights -/
theorem st_pop {p : Int} {hs : Nat → Int} (hp : 1 ≤ p) (hh : ∀ j, 0 ≤ hs j ∧ hs j ≤ 9) (hv : plv p hs) : ∀ n : Nat, pop9 (st_v p hs n 9) = pop9 (st_v p hs 0 9) ∧ (wt9 (st_v p hs n 9) : Int) + n * pop9 (st_v p hs 0 9) = wt9 (st_v p hs 0 9) + smI (fun k => hs ((k : Int) % p * 3).toNat) n
  | 0 => by
    unfold smI
    refine ⟨rfl, ?_⟩
    show (wt9 (st_v p hs 0 9) : Int) + 0 * _ = _
    omega
  | n + 1 => by
    obtain ⟨h1, h2⟩ := st_pop hp hh hv n
    have h3 := st_next hp hh hv (n : Int)
    have h4 := st_v_lt (p := p) hh (n : Int) 9
    have h5 := hh ((n : Int) % p * 3).toNat
    have h6 := sa_pop0 _ h4 (hs ((n : Int) % p * 3).toNat).toNat (by omega)
    unfold sa sp_st at h3
    rw [Int.toNat_natCast] at h3
    rw [h3] at h6
    rw [Int.toNat_natCast] at h6
    rcases h6 with h6 | ⟨h6, h7⟩
    · omega
    · rw [show ((n + 1 : Nat) : Int) = (n : Int) + 1 by omega]
      unfold smI
      refine ⟨by rw [h6, h1], ?_⟩
      rw [Int.add_mul, Int.one_mul]
      omega
theorem st_bc {hs cs : Nat → Int} {p : Int} : ∀ n : Nat, (n : Int) ≤ p → (∀ s, s < n → cs s = 1) → bc_s hs cs n = smI (fun k => hs ((k : Int) % p * 3).toNat) n
  | 0, _, _ => rfl
  | n + 1, hn, h => by
    rw [bc_s, st_bc (p := p) n (by omega) (fun s q => h s (by omega)), h n (by omega)]
    show smI _ n + bc_w hs (n : Int) 1 = smI _ n + _
    rw [bc_w, bc_w]
    dsimp only
    rw [Int.emod_eq_of_lt (by omega) (by omega), show (n : Int) * 3 + ((0 : Nat) : Int) = (n : Int) * 3 by omega]
    omega
theorem balls_pop {p : Int} {hs cs xs : Nat → Int} (ok : jOk 0 p hs cs xs) (hi : dIn 0 p cs) (hv : sp_val 0 p hs cs xs) (s : Int) (h0 : 0 ≤ s) : sp_balls p hs cs = (pop9 (st_v p hs s 9) : Nat) := by
  have hp := ok.2.1
  have h1 := plv_of ok hi hv
  have h2 := (st_pop hp.1 ok.2.2.1 h1 p.toNat).2
  have h3 := (st_pop hp.1 ok.2.2.1 h1 s.toNat).1
  rw [show ((p.toNat : Nat) : Int) = 0 + p by omega, st_per 0 9, show (0 : Int) + p = p by omega] at h2
  rw [show ((s.toNat : Nat) : Int) = s by omega] at h3
  unfold sp_balls
  rw [st_bc (p := p) p.toNat (by omega) (fun s q => (hi s (by omega)).2.2 (by decide)), h3, ← Int.add_left_cancel h2]
  exact Int.mul_tdiv_cancel_left _ (by omega)
/-- plain valid drafts of as many balls: from each state of one the other's are reached -/
theorem rch_dr {p p' : Int} {hs cs xs hs' cs' xs' : Nat → Int} (ok : jOk 0 p hs cs xs) (hi : dIn 0 p cs) (hv : sp_val 0 p hs cs xs) (ok' : jOk 0 p' hs' cs' xs') (hi' : dIn 0 p' cs') (hv' : sp_val 0 p' hs' cs' xs') (hb : sp_balls p hs cs = sp_balls p' hs' cs') (s : Int) (h0 : 0 ≤ s) : rch (glS p' hs') 9 (sp_st p hs s) := by
  rw [balls_pop ok hi hv s h0, balls_pop ok' hi' hv' 0 (Int.le_refl _)] at hb
  refine rch_mono (fun v q => ?_) 9 _ (rch_9 (st_v_lt (p := p) ok.2.2.1 s 9) (st_v_lt (p := p') ok'.2.2.1 0 9) (by omega))
  have := ok'.2.1
  exact ⟨0, Int.le_refl _, by omega, q.symm⟩
