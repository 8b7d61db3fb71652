/-! a draft whose two clash tests agree -/
/-- what else holds of a draft: its sites have throws, one alone where it isn't multiplex -/
def dIn (m p : Int) (cs : Nat → Int) : Prop := ∀ s : Nat, (s : Int) < p → 1 ≤ cs s ∧ cs s ≤ 3 ∧ (¬ m = 1 → cs s = 1)
def smI (f : Nat → Int) : Nat → Int
  | 0 => 0
  | n + 1 => smI f n + f n
theorem smI_add (f g : Nat → Int) : ∀ n, smI (fun k => f k + g k) n = smI f n + smI g n
  | 0 => rfl
  | n + 1 => by
    unfold smI
    rw [smI_add f g n]
    omega
theorem smI_le {f g : Nat → Int} : ∀ n, (∀ k, k < n → f k ≤ g k) → smI f n ≤ smI g n
  | 0, _ => Int.le_refl _
  | n + 1, h => by
    have h1 := smI_le n (fun k hk => h k (by omega))
    have h2 := h n (by omega)
    unfold smI
    omega
theorem smI_eq {f g : Nat → Int} : ∀ n, (∀ k, k < n → f k ≤ g k) → smI f n = smI g n → ∀ k, k < n → f k = g k
  | 0, _, _, k, hk => by omega
  | n + 1, h, e, k, hk => by
    have h1 := smI_le n (fun k hk => h k (by omega))
    have h2 := h n (by omega)
    unfold smI at e
    by_cases q : k = n
    · subst q; omega
    · exact smI_eq n (fun k hk => h k (by omega)) (by omega) k (by omega)
theorem smI_cg {f g : Nat → Int} : ∀ n, (∀ k, k < n → f k = g k) → smI f n = smI g n
  | 0, _ => rfl
  | n + 1, h => by
    unfold smI
    rw [smI_cg n (fun k hk => h k (by omega)), h n (by omega)]
theorem smI_0 : ∀ n, smI (fun _ => 0) n = 0
  | 0 => rfl
  | n + 1 => by unfold smI; rw [smI_0 n]; rfl
theorem smI_one (c : Int) : ∀ n (T : Nat), smI (fun k => if T = k then c else 0) n = if T < n then c else 0
  | 0, T => by unfold smI; rw [if_neg (by omega)]
  | n + 1, T => by
    unfold smI
    rw [smI_one c n T]
    by_cases h : T = n
    · rw [if_neg (by omega), if_pos h, if_pos (by omega)]; omega
    · by_cases h2 : T < n
      · rw [if_pos h2, if_neg h, if_pos (by omega)]; omega
      · rw [if_neg h2, if_neg h, if_neg (by omega)]; omega
/-- the landings of one throw -/
theorem ld_s_1 {m p : Int} {hs cs xs : Nat → Int} {t : Int} {s : Nat} (hc : cs s = 1) : ld_s m p hs cs xs t (s + 1) = ld_s m p hs cs xs t s + (if 0 < hs ((s : Int) * 3).toNat ∧ sp_tgt m p xs s (hs ((s : Int) * 3).toNat) = t then 1 else 0) := by
  rw [ld_s, hc]
  show _ + ld_w m p hs xs t (s : Int) 1 = _
  rw [ld_w, ld_w, show (s : Int) * 3 + ((0 : Nat) : Int) = (s : Int) * 3 by omega]
  omega
theorem th_w_1 {hs : Nat → Int} {s : Int} {c : Int} (hc : c = 1) : th_w hs s c.toNat = if 0 < hs (s * 3).toNat then 1 else 0 := by
  subst hc
  show th_w hs s 1 = _
  rw [th_w, th_w, show s * 3 + ((0 : Nat) : Int) = s * 3 by omega]
  omega
theorem ld_s_ge {m p : Int} {hs cs xs : Nat → Int} {t : Int} : ∀ n : Nat, (∀ s, s < n → cs s = 1) → 0 ≤ ld_s m p hs cs xs t n
  | 0, _ => Int.le_refl _
  | n + 1, h => by
    rw [ld_s_1 (h n (by omega))]
    have := ld_s_ge (m := m) (p := p) (hs := hs) (xs := xs) (t := t) n (fun s hs => h s (by omega))
    split <;> omega
theorem ld_s_pos {m p : Int} {hs cs xs : Nat → Int} {t : Int} : ∀ n : Nat, (∀ s, s < n → cs s = 1) → (0 < ld_s m p hs cs xs t n ↔ ∃ r : Int, 0 ≤ r ∧ r < n ∧ 0 < hs (r * 3).toNat ∧ sp_tgt m p xs r (hs (r * 3).toNat) = t)
  | 0, _ => ⟨fun h => absurd h (by unfold ld_s; omega), fun ⟨r, h0, h1, _⟩ => by omega⟩
  | n + 1, h => by
    have ih := ld_s_pos (m := m) (p := p) (hs := hs) (xs := xs) (t := t) n (fun s hs => h s (by omega))
    have h0 := ld_s_ge (m := m) (p := p) (hs := hs) (xs := xs) (t := t) n (fun s hs => h s (by omega))
    rw [ld_s_1 (h n (by omega))]
    constructor
    · intro q
      by_cases c : 0 < hs ((n : Int) * 3).toNat ∧ sp_tgt m p xs n (hs ((n : Int) * 3).toNat) = t
      · exact ⟨n, by omega, by omega, c.1, c.2⟩
      · rw [if_neg c] at q
        obtain ⟨r, a, b, c⟩ := ih.mp (by omega)
        exact ⟨r, a, by omega, c⟩
    · rintro ⟨r, a, b, c, e⟩
      by_cases q : r = n
      · subst q
        rw [if_pos ⟨c, e⟩]
        omega
      · have := ih.mpr ⟨r, a, by omega, c, e⟩
        split <;> omega
/-- no more than one, where no two throws meet -/
theorem ld_s_le1 {m p : Int} {hs cs xs : Nat → Int} {t : Int} : ∀ n : Nat, (∀ s, s < n → cs s = 1) → (∀ s : Int, 0 ≤ s → s < n → ¬ sp_A m p hs xs s) → ld_s m p hs cs xs t n ≤ 1
  | 0, _, _ => by unfold ld_s; omega
  | n + 1, h, hA => by
    have h1 := ld_s_le1 (m := m) (p := p) (hs := hs) (xs := xs) (t := t) n (fun s hs => h s (by omega)) (fun s a b => hA s a (by omega))
    have h0 := ld_s_ge (m := m) (p := p) (hs := hs) (xs := xs) (t := t) n (fun s hs => h s (by omega))
    rw [ld_s_1 (h n (by omega))]
    by_cases c : 0 < hs ((n : Int) * 3).toNat ∧ sp_tgt m p xs n (hs ((n : Int) * 3).toNat) = t
    · rw [if_pos c]
      by_cases q : 0 < ld_s m p hs cs xs t n
      · exfalso
        obtain ⟨r, a, b, c', e⟩ := (ld_s_pos n (fun s hs => h s (by omega))).mp q
        exact hA n (by omega) (by omega) ⟨c.1, r, a, b, c', e.trans c.2.symm⟩
      · omega
    · rw [if_neg c]; omega
theorem ld_s_sum {m p : Int} {hs cs xs : Nat → Int} (P : Nat) : ∀ n : Nat, (∀ s, s < n → cs s = 1) → (∀ s : Nat, s < n → 0 < hs ((s : Int) * 3).toNat → 0 ≤ sp_tgt m p xs s (hs ((s : Int) * 3).toNat) ∧ sp_tgt m p xs s (hs ((s : Int) * 3).toNat) < P) → smI (fun t => ld_s m p hs cs xs (t : Int) n) P = smI (fun s => if 0 < hs ((s : Int) * 3).toNat then 1 else 0) n
  | 0, _, _ => by
    show smI (fun t => 0) P = 0
    exact smI_0 P
  | n + 1, h, hr => by
    have ih := ld_s_sum (m := m) (p := p) (hs := hs) (xs := xs) P n (fun s hs => h s (by omega)) (fun s hs => hr s (by omega))
    have e : smI (fun t => ld_s m p hs cs xs (t : Int) (n + 1)) P = smI (fun t => ld_s m p hs cs xs (t : Int) n + (if 0 < hs ((n : Int) * 3).toNat ∧ sp_tgt m p xs n (hs ((n : Int) * 3).toNat) = (t : Int) then 1 else 0)) P := smI_cg P (fun t _ => ld_s_1 (h n (by omega)))
    rw [e, smI_add, ih]
    show _ = smI _ n + _
    congr 1
    dsimp only
    by_cases c : 0 < hs ((n : Int) * 3).toNat
    · have hr1 := hr n (by omega) c
      rw [if_pos c]
      have e2 := smI_one 1 P (sp_tgt m p xs n (hs ((n : Int) * 3).toNat)).toNat
      rw [if_pos (by omega)] at e2
      refine (smI_cg P (fun t _ => ?_)).trans e2
      by_cases q : sp_tgt m p xs n (hs ((n : Int) * 3).toNat) = (t : Int)
      · rw [if_pos ⟨c, q⟩, if_pos (by omega)]
      · rw [if_neg (fun w => q w.2), if_neg (by omega)]
    · rw [if_neg c]
      exact (smI_cg P (fun t _ => if_neg (fun w => c w.1))).trans (smI_0 P)
theorem un_w_ld (m p : Int) (hs xs : Nat → Int) (s j : Int) : ∀ w : Nat, un_w m p hs xs s j w = ld_w m p hs xs j s w - (if s = j then th_w hs s w else 0)
  | 0 => by unfold un_w ld_w th_w; split <;> rfl
  | w + 1 => by
    rw [un_w, ld_w, th_w, un_w_ld m p hs xs s j w]
    by_cases a : 0 < hs (s * 3 + w).toNat <;> by_cases b : sp_tgt m p xs s (hs (s * 3 + w).toNat) = j <;> by_cases c : s = j <;> simp [a, b, c] <;> omega
theorem un_s_ld (m p : Int) (hs cs xs : Nat → Int) (j : Int) (hj : 0 ≤ j) : ∀ n : Nat, un_s m p hs cs xs j n = ld_s m p hs cs xs j n - (if j < n then th_w hs j (cs j.toNat).toNat else 0)
  | 0 => by unfold un_s ld_s; rw [if_neg (by omega)]; rfl
  | n + 1 => by
    rw [un_s, ld_s, un_s_ld m p hs cs xs j hj n, un_w_ld]
    by_cases c : (n : Int) = j
    · subst c
      rw [if_neg (by omega), if_pos rfl, if_pos (by omega), Int.toNat_natCast]
      omega
    · rw [if_neg c]
      by_cases d : j < n
      · rw [if_pos d, if_pos (by omega)]; omega
      · rw [if_neg d, if_neg (by omega)]; omega
theorem sp_first_m1 {p : Int} {A B : Int → Prop} : sp_first p A B (-1) ↔ (∀ s, 0 ≤ s → s < p → ¬ A s) ∧ (∀ s, 0 ≤ s → s < p → ¬ B s) := by
  constructor
  · rintro (h | ⟨h1, h | ⟨h2, -⟩⟩)
    · exact absurd h.1 (by decide)
    · exact absurd h.1 (by decide)
    · exact ⟨h1, h2⟩
  · rintro ⟨h1, h2⟩
    exact Or.inr ⟨h1, Or.inr ⟨h2, rfl⟩⟩
/-- a draft has no clash just where every site throws what lands there -/
theorem sp_val_ev {m p : Int} {hs cs xs : Nat → Int} (ok : jOk m p hs cs xs) (hi : dIn m p cs) : sp_val m p hs cs xs ↔ sp_ev m p hs cs xs := by
  have hp := ok.2.1
  unfold sp_val sp_clash sp_ev
  by_cases hm : m = 1
  · rw [if_pos hm, sp_first_m1]
    constructor
    · rintro ⟨h1, -⟩ s h0 hs1
      have h2 := Classical.not_not.mp (h1 s h0 hs1)
      rw [un_s_ld m p hs cs xs s h0, if_pos (by omega)] at h2
      omega
    · intro h
      refine ⟨fun s h0 hs1 q => q ?_, fun _ _ _ q => q⟩
      rw [un_s_ld m p hs cs xs s h0, if_pos (by omega), h s h0 hs1]
      omega
  · rw [if_neg hm, sp_first_m1]
    have hc : ∀ s, s < p.toNat → cs s = 1 := fun s h => (hi s (by omega)).2.2 hm
    have hev : ∀ s : Int, 0 ≤ s → m = 2 → hs (s * 3).toNat % 2 = 0 := fun s h0 q => by
      have := (ok.2.2.2.2.2 q).2 s.toNat
      rwa [show 3 * s.toNat = (s * 3).toNat by omega] at this
    have htg : ∀ s : Nat, s < p.toNat → 0 < hs ((s : Int) * 3).toNat → 0 ≤ sp_tgt m p xs s (hs ((s : Int) * 3).toNat) ∧ sp_tgt m p xs s (hs ((s : Int) * 3).toNat) < p.toNat := fun s h _ => by
      have := sp_tgt_rg ok (s := s) (k := hs ((s : Int) * 3).toNat) (hev s (by omega))
      omega
    have hsum := ld_s_sum (m := m) (p := p) (hs := hs) (cs := cs) (xs := xs) p.toNat p.toNat hc htg
    constructor
    · rintro ⟨hA, hB⟩ s h0 hs1
      have hle : ∀ t, t < p.toNat → ld_s m p hs cs xs (t : Int) p.toNat ≤ (if 0 < hs ((t : Int) * 3).toNat then 1 else 0) := fun t ht => by
        have h1 := ld_s_le1 (m := m) (p := p) (hs := hs) (cs := cs) (xs := xs) (t := (t : Int)) p.toNat hc (fun s a b => hA s a (by omega))
        by_cases q : 0 < hs ((t : Int) * 3).toNat
        · rw [if_pos q]; exact h1
        · rw [if_neg q]
          rcases Int.lt_or_le 0 (ld_s m p hs cs xs (t : Int) p.toNat) with w | w
          · exfalso
            obtain ⟨r, a, b, c, e⟩ := (ld_s_pos p.toNat hc).mp w
            have := (ok.2.2.1 ((t : Int) * 3).toNat).1
            exact hB t (by omega) (by omega) ⟨by omega, r, a, by omega, c, e⟩
          · exact w
      have := smI_eq p.toNat hle hsum s.toNat (by omega)
      rw [show ((s.toNat : Nat) : Int) = s by omega] at this
      rw [this, th_w_1 (hc s.toNat (by omega))]
    · intro h
      have h' : ∀ s : Int, 0 ≤ s → s < p → ld_s m p hs cs xs s p.toNat = if 0 < hs (s * 3).toNat then 1 else 0 := fun s a b => by
        rw [h s a b, th_w_1 (hc s.toNat (by omega))]
      refine ⟨fun s h0 h1 q => ?_, fun s h0 h1 q => ?_⟩
      · obtain ⟨q1, r, a, b, c, e⟩ := q
        have hr := htg s.toNat (by omega) (by rw [show ((s.toNat : Nat) : Int) = s by omega]; exact q1)
        rw [show ((s.toNat : Nat) : Int) = s by omega] at hr
        -- two land there
        have two : ∀ n : Nat, s < n → n ≤ p.toNat → 2 ≤ ld_s m p hs cs xs (sp_tgt m p xs s (hs (s * 3).toNat)) n := by
          intro n
          induction n with
          | zero => intro w; omega
          | succ n ih =>
            intro w w2
            rw [ld_s_1 (hc n (by omega))]
            by_cases q : s = n
            · rw [if_pos (by rw [← q]; exact ⟨q1, rfl⟩)]
              have := (ld_s_pos (m := m) (p := p) (hs := hs) (cs := cs) (xs := xs) (t := sp_tgt m p xs s (hs (s * 3).toNat)) n (fun s hs => hc s (by omega))).mpr ⟨r, a, by omega, c, e⟩
              omega
            · have := ih (by omega) (by omega)
              split <;> omega
        have h2 := two p.toNat (by omega) (Nat.le_refl _)
        have h3 := h' _ hr.1 (by omega)
        rw [h3] at h2
        split at h2 <;> omega
      · obtain ⟨q1, r, a, b, c, e⟩ := q
        have h2 := (ld_s_pos (m := m) (p := p) (hs := hs) (cs := cs) (xs := xs) (t := s) p.toNat hc).mpr ⟨r, a, by omega, c, e⟩
        rw [h' s h0 h1, if_neg (by omega)] at h2
        omega
/-! drafts that are the same where it counts -/
def dRl (m p : Int) (hs cs xs : Nat → Int) (m' p' : Int) (hs' cs' xs' : Nat → Int) : Prop := m' = m ∧ p' = p ∧ ∀ s : Nat, (s : Int) < p → cs' s = cs s ∧ xs' s = xs s ∧ ∀ k : Nat, (k : Int) < cs s → hs' (s * 3 + k) = hs (s * 3 + k)
theorem dRl_h0 {m p m' p' : Int} {hs cs xs hs' cs' xs' : Nat → Int} (h : dRl m p hs cs xs m' p' hs' cs' xs') (hi : dIn m p cs) (s : Int) (h0 : 0 ≤ s) (h1 : s < p) : hs' (s * 3).toNat = hs (s * 3).toNat := by
  have h2 := (h.2.2 s.toNat (by omega)).2.2 0 (by have := (hi s.toNat (by omega)).1; omega)
  rwa [show s.toNat * 3 + 0 = (s * 3).toNat by omega] at h2
theorem ld_w_cg {m p : Int} {hs xs hs' xs' : Nat → Int} {t : Int} {s : Nat} (hx : xs' s = xs s) : ∀ w : Nat, (∀ k, k < w → hs' (s * 3 + k) = hs (s * 3 + k)) → ld_w m p hs' xs' t s w = ld_w m p hs xs t s w
  | 0, _ => rfl
  | w + 1, h => by
    rw [ld_w, ld_w, ld_w_cg hx w (fun k hk => h k (by omega)), show ((s : Int) * 3 + (w : Int)).toNat = s * 3 + w by omega, h w (by omega)]
    unfold sp_tgt sp_land
    rw [Int.toNat_natCast, hx]
theorem th_w_cg {hs hs' : Nat → Int} {s : Nat} : ∀ w : Nat, (∀ k, k < w → hs' (s * 3 + k) = hs (s * 3 + k)) → th_w hs' s w = th_w hs s w
  | 0, _ => rfl
  | w + 1, h => by
    rw [th_w, th_w, th_w_cg w (fun k hk => h k (by omega)), show ((s : Int) * 3 + (w : Int)).toNat = s * 3 + w by omega, h w (by omega)]
theorem bc_w_cg {hs hs' : Nat → Int} {s : Nat} : ∀ w : Nat, (∀ k, k < w → hs' (s * 3 + k) = hs (s * 3 + k)) → bc_w hs' s w = bc_w hs s w
  | 0, _ => rfl
  | w + 1, h => by
    rw [bc_w, bc_w, bc_w_cg w (fun k hk => h k (by omega)), show ((s : Int) * 3 + (w : Int)).toNat = s * 3 + w by omega, h w (by omega)]
theorem ld_s_cg {m p m' p' : Int} {hs cs xs hs' cs' xs' : Nat → Int} (h : dRl m p hs cs xs m' p' hs' cs' xs') (t : Int) : ∀ n : Nat, (n : Int) ≤ p → ld_s m p hs' cs' xs' t n = ld_s m p hs cs xs t n
  | 0, _ => rfl
  | n + 1, hn => by
    have h1 := h.2.2 n (by omega)
    rw [ld_s, ld_s, ld_s_cg h t n (by omega), h1.1, ld_w_cg h1.2.1 _ (fun k hk => h1.2.2 k (by omega))]
theorem bc_s_cg {m p m' p' : Int} {hs cs xs hs' cs' xs' : Nat → Int} (h : dRl m p hs cs xs m' p' hs' cs' xs') : ∀ n : Nat, (n : Int) ≤ p → bc_s hs' cs' n = bc_s hs cs n
  | 0, _ => rfl
  | n + 1, hn => by
    have h1 := h.2.2 n (by omega)
    rw [bc_s, bc_s, bc_s_cg h n (by omega), h1.1, bc_w_cg _ (fun k hk => h1.2.2 k (by omega))]
theorem sp_ev_cg {m p m' p' : Int} {hs cs xs hs' cs' xs' : Nat → Int} (h : dRl m p hs cs xs m' p' hs' cs' xs') : sp_ev m' p' hs' cs' xs' ↔ sp_ev m p hs cs xs := by
  have e1 := h.1
  have e2 := h.2.1
  subst e1 e2
  have key : ∀ s : Int, 0 ≤ s → s < p' → (ld_s m' p' hs' cs' xs' s p'.toNat = th_w hs' s (cs' s.toNat).toNat ↔ ld_s m' p' hs cs xs s p'.toNat = th_w hs s (cs s.toNat).toNat) := fun s h0 h1 => by
    have h2 := h.2.2 s.toNat (by omega)
    rw [ld_s_cg h s _ (by omega), h2.1]
    have h3 := th_w_cg (hs := hs) (hs' := hs') (s := s.toNat) (cs s.toNat).toNat (fun k hk => h2.2.2 k (by omega))
    rw [show ((s.toNat : Nat) : Int) = s by omega] at h3
    rw [h3]
  unfold sp_ev
  exact ⟨fun q s a b => (key s a b).mp (q s a b), fun q s a b => (key s a b).mpr (q s a b)⟩
theorem sp_balls_cg {m p m' p' : Int} {hs cs xs hs' cs' xs' : Nat → Int} (h : dRl m p hs cs xs m' p' hs' cs' xs') (hp : 1 ≤ p) : sp_balls p' hs' cs' = sp_balls p hs cs := by
  have e2 := h.2.1
  subst e2
  unfold sp_balls
  rw [bc_s_cg h _ (by omega)]
theorem sp_st_rl {m p m' p' : Int} {hs cs xs hs' cs' xs' : Nat → Int} (h : dRl m p hs cs xs m' p' hs' cs' xs') (hi : dIn m p cs) (hp : 1 ≤ p) (s : Int) : sp_st p' hs' s = sp_st p hs s := by
  have e2 := h.2.1
  subst e2
  exact sp_st_cg hp (dRl_h0 h hi) s
/-- the clash of the model's draft, as the model finds it -/
def mo_clash (m p : Int) (hs cs xs : Nat → Int) (r : Int) : Prop := if m = 1 then sp_first p (fun s => ¬ ld_s m p hs cs xs s p.toNat = th_w hs s (cs s.toNat).toNat) (fun _ => False) r else sp_first p (sp_A m p hs xs) (fun s => hs (s * 3).toNat = 0 ∧ 0 < ld_s m p hs cs xs s p.toNat) r
theorem sp_least_cg {p : Int} {P Q : Int → Prop} (h : ∀ s, 0 ≤ s → s < p → (P s ↔ Q s)) {r : Int} (hr : sp_least p P r) : sp_least p Q r := ⟨hr.1, hr.2.1, (h r hr.1 hr.2.1).mp hr.2.2.1, fun t a b => fun q => hr.2.2.2 t a b ((h t a (by have := hr.2.1; omega)).mpr q)⟩
theorem sp_first_cg {p : Int} {A B A' B' : Int → Prop} (hA : ∀ s, 0 ≤ s → s < p → (A s ↔ A' s)) (hB : ∀ s, 0 ≤ s → s < p → (B s ↔ B' s)) {r : Int} (h : sp_first p A B r) : sp_first p A' B' r := by
  rcases h with h | ⟨h1, h2 | ⟨h2, h3⟩⟩
  · exact Or.inl (sp_least_cg hA h)
  · exact Or.inr ⟨fun s a b q => h1 s a b ((hA s a b).mpr q), Or.inl (sp_least_cg hB h2)⟩
  · exact Or.inr ⟨fun s a b q => h1 s a b ((hA s a b).mpr q), Or.inr ⟨fun s a b q => h2 s a b ((hB s a b).mpr q), h3⟩⟩
theorem mo_clash_sp {m p m' p' : Int} {hs cs xs hs' cs' xs' : Nat → Int} (h : dRl m p hs cs xs m' p' hs' cs' xs') (hi : dIn m p cs) (hp : 1 ≤ p) {r : Int} (hr : mo_clash m' p' hs' cs' xs' r) : sp_clash m p hs cs xs r := by
  have e1 := h.1
  have e2 := h.2.1
  subst e1 e2
  unfold mo_clash at hr
  unfold sp_clash
  by_cases hm : m' = 1
  · rw [if_pos hm] at hr ⊢
    refine sp_first_cg (fun s h0 h1 => ?_) (fun _ _ _ => Iff.rfl) hr
    have h2 := h.2.2 s.toNat (by omega)
    rw [un_s_ld m' p' hs cs xs s h0, if_pos (by omega), ld_s_cg h s _ (by omega), h2.1]
    have h3 := th_w_cg (hs := hs) (hs' := hs') (s := s.toNat) (cs s.toNat).toNat (fun k hk => h2.2.2 k (by omega))
    rw [show ((s.toNat : Nat) : Int) = s by omega] at h3
    rw [h3]
    constructor <;> intro q w <;> omega
  · rw [if_neg hm] at hr ⊢
    have hh := dRl_h0 h hi
    have ht : ∀ s : Int, 0 ≤ s → s < p' → ∀ k, sp_tgt m' p' xs' s k = sp_tgt m' p' xs s k := fun s h0 h1 k => by
      unfold sp_tgt sp_land
      rw [(h.2.2 s.toNat (by omega)).2.1]
    refine sp_first_cg (fun s h0 h1 => ?_) (fun s h0 h1 => ?_) hr
    · unfold sp_A
      rw [hh s h0 h1, ht s h0 h1]
      constructor
      · rintro ⟨a, r, b, c, e, f⟩
        rw [hh r b (by omega)] at e f
        rw [ht r b (by omega)] at f
        exact ⟨a, r, b, c, e, f⟩
      · rintro ⟨a, r, b, c, e, f⟩
        refine ⟨a, r, b, c, ?_, ?_⟩
        · rw [hh r b (by omega)]; exact e
        · rw [hh r b (by omega), ht r b (by omega)]; exact f
    · unfold sp_B
      rw [hh s h0 h1, ld_s_cg h s _ (by omega), ld_s_pos p'.toNat (fun s hs => (hi s (by omega)).2.2 hm)]
      constructor
      · rintro ⟨a, r, b, c, e⟩
        exact ⟨a, r, b, by omega, e⟩
      · rintro ⟨a, r, b, c, e⟩
        exact ⟨a, r, b, by omega, e⟩
