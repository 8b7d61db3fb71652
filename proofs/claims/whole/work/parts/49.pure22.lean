/-! the model's graph of states -/
theorem bh_1 : ∀ v, v < 256 → ∀ k, k < 9 → (zI ((v : Nat) : Int) >>> (zI ((k : Nat) : Int) &&& 31)) &&& zI 1 = zI ((v / 2 ^ k % 2 : Nat) : Int) := by decide +kernel
theorem bh_2 : ∀ v, v < 256 → ∀ k, k < 9 → ((v &&& 2 ^ k) = 0 ↔ v / 2 ^ k % 2 = 0) := by decide +kernel
theorem sa_b {v h : Int} (hv : 0 ≤ v ∧ v < 512) (hh : 0 ≤ h ∧ h ≤ 9) : sa v h = if v % 2 = 0 then (if h = 0 then v / 2 else -1) else if h = 0 then -1 else if (v / 2).toNat / 2 ^ (h - 1).toNat % 2 = 1 then -1 else (((v / 2).toNat ||| 2 ^ (h - 1).toNat : Nat) : Int) := by
  unfold sa saN
  by_cases e : v % 2 = 0
  · rw [if_pos (show v.toNat % 2 = 0 by omega), if_pos e]
    by_cases z : h = 0
    · rw [if_pos (by omega), if_pos z]; omega
    · rw [if_neg (by omega), if_neg z]
  · rw [if_neg (show ¬ v.toNat % 2 = 0 by omega), if_neg e]
    by_cases z : h = 0
    · rw [if_pos (by omega), if_pos z]
    · rw [if_neg (by omega), if_neg z]
      have h1 := bh_2 (v.toNat / 2) (by omega) (h.toNat - 1) (by omega)
      rw [show (v / 2).toNat = v.toNat / 2 by omega, show (h - 1).toNat = h.toNat - 1 by omega]
      by_cases q : v.toNat / 2 / 2 ^ (h.toNat - 1) % 2 = 0
      · rw [if_pos (h1.mpr q), if_neg (by omega)]
      · rw [if_neg (fun w => q (h1.mp w)), if_pos (by omega)]
/-- distances as the model finds them, while it looks -/
def fI (Gl : Int → Prop) (fa : Nat → Int) : Prop := (∀ v : Int, 0 ≤ v → v < 512 → fa v.toNat = 1000 ∨ (0 ≤ fa v.toNat ∧ fa v.toNat < 1000 ∧ rch Gl (fa v.toNat).toNat v)) ∧ ∀ v : Int, 0 ≤ v → v < 512 → Gl v → fa v.toNat = 0
/-- nothing nearer was found of the states below v, and of v's throws below h -/
def fP (fa : Nat → Int) (v h : Int) : Prop := ∀ v' h' : Int, 0 ≤ v' → v' < 512 → 0 ≤ h' → h' ≤ 9 → (v' < v ∨ (v' = v ∧ h' < h)) → ¬ sa v' h' = -1 → fa v'.toNat ≤ fa (sa v' h').toNat + 1
theorem fI_rg {Gl : Int → Prop} {fa : Nat → Int} (h : fI Gl fa) {v : Int} (h0 : 0 ≤ v) (h1 : v < 512) : 0 ≤ fa v.toNat ∧ fa v.toNat ≤ 1000 := by
  rcases h.1 v h0 h1 with q | q <;> omega
theorem smI_up {f : Nat → Int} {v : Nat} {c : Int} {n : Nat} (hv : v < n) : smI (va_up f v c) n = smI f n + (c - f v) :=
  smI_upd (a := v) n hv (fun k _ hk => va_up_ne _ _ hk) (by rw [va_up_self]; omega)
theorem smI_nn {f : Nat → Int} : ∀ n : Nat, (∀ k, k < n → 0 ≤ f k) → 0 ≤ smI f n
  | 0, _ => Int.le_refl _
  | n + 1, h => by
    have h1 := smI_nn n (fun k hk => h k (by omega))
    have h2 := h n (by omega)
    unfold smI
    omega
theorem fI_nn {Gl : Int → Prop} {fa : Nat → Int} (h : fI Gl fa) : 0 ≤ smI fa 512 := smI_nn 512 (fun k hk => by
  have := (fI_rg h (v := (k : Int)) (by omega) (by omega)).1
  rwa [Int.toNat_natCast] at this)
theorem fI_le {Gl : Int → Prop} {fa : Nat → Int} (h : fI Gl fa) : smI fa 512 ≤ 512000 := by
  have h1 : smI fa 512 ≤ smI (fun _ => 1000) 512 := smI_le 512 (fun k hk => by
    have := (fI_rg h (v := (k : Int)) (by omega) (by omega)).2
    rwa [Int.toNat_natCast] at this)
  have h2 := (smI_bd (f := fun _ => (1000 : Int)) (c := 1000) 512 (fun _ _ => ⟨by decide, Int.le_refl _⟩)).2
  exact Int.le_trans h1 h2
/-- a nearer way is found -/
theorem fI_put {Gl : Int → Prop} {fa : Nat → Int} (h : fI Gl fa) {v t : Int} (h0 : 0 ≤ v ∧ v < 512) (ht : 0 ≤ t ∧ t ≤ 9) (hs : ¬ sa v t = -1) (hl : fa (sa v t).toNat + 1 < fa v.toNat) : fI Gl (va_up fa v.toNat (fa (sa v t).toNat + 1)) ∧ smI (va_up fa v.toNat (fa (sa v t).toNat + 1)) 512 + 1 ≤ smI fa 512 := by
  rcases sa_rg h0 ht with q | ⟨q1, q2, -⟩
  · exact absurd q hs
  · have hr := fI_rg h h0.1 h0.2
    have hw := h.1 _ q1 q2
    refine ⟨⟨fun u a b => ?_, fun u a b g => ?_⟩, by rw [smI_up (by omega)]; omega⟩
    · by_cases e : u = v
      · subst e
        rw [va_up_self]
        rcases hw with w | ⟨w1, w2, w3⟩
        · omega
        · refine Or.inr ⟨by omega, by omega, ?_⟩
          rw [show (fa (sa u t).toNat + 1).toNat = (fa (sa u t).toNat).toNat + 1 by omega]
          exact ⟨t, ht.1, ht.2, hs, w3⟩
      · rw [va_up_ne _ _ (by omega)]
        exact h.1 u a b
    · by_cases e : u = v
      · subst e
        have := h.2 u a b g
        have := fI_rg h q1 q2
        omega
      · rw [va_up_ne _ _ (by omega)]
        exact h.2 u a b g
/-- the distances at the end -/
def fD (Gl : Int → Prop) (fa : Nat → Int) : Prop := ∀ v : Int, 0 ≤ v → v < 512 → (0 ≤ fa v.toNat ∧ fa v.toNat ≤ 1000) ∧ ∀ j : Int, 0 ≤ j → j < 1000 → (fa v.toNat = j ↔ isD Gl v j)
theorem fI_end {Gl : Int → Prop} {fa : Nat → Int} (h : fI Gl fa) (hp : fP fa 512 0) : fD Gl fa := by
  have key : ∀ (n : Nat) (v : Int), 0 ≤ v → v < 512 → rch Gl n v → fa v.toNat ≤ n := by
    intro n
    induction n with
    | zero =>
      intro v a b q
      have := h.2 v a b q
      omega
    | succ n ih =>
      intro v a b q
      obtain ⟨t, t0, t1, t2, t3⟩ := q
      rcases sa_rg ⟨a, b⟩ ⟨t0, t1⟩ with w | ⟨w1, w2, -⟩
      · exact absurd w t2
      · have k1 := ih _ w1 w2 t3
        have k2 := hp v t a b t0 t1 (Or.inl b) t2
        omega
  intro v a b
  refine ⟨fI_rg h a b, fun j j0 j1 => ⟨fun e => ?_, fun e => ?_⟩⟩
  · rcases h.1 v a b with q | ⟨q1, q2, q3⟩
    · omega
    · rw [e] at q3
      refine ⟨j0, q3, fun i hi hr => ?_⟩
      have := key i v a b hr
      omega
  · obtain ⟨e0, e1, e2⟩ := e
    have k1 := key _ v a b e1
    rcases h.1 v a b with q | ⟨q1, q2, q3⟩
    · omega
    · rcases Int.lt_trichotomy (fa v.toNat) j with w | w | w
      · exact absurd q3 (e2 _ (by omega))
      · exact w
      · omega
/-- the start: the goals have 0 -/
def fS (p : Int) (hs : Nat → Int) (s : Int) (fa : Nat → Int) : Prop := (∀ v : Int, 0 ≤ v → v < 512 → fa v.toNat = 1000 ∨ (fa v.toNat = 0 ∧ ∃ t : Int, 0 ≤ t ∧ t < s ∧ sp_st p hs t = v)) ∧ ∀ t : Int, 0 ≤ t → t < s → fa (sp_st p hs t).toNat = 0
theorem fS_s {p : Int} {hs : Nat → Int} {s : Int} {fa : Nat → Int} (hh : ∀ j, 0 ≤ hs j ∧ hs j ≤ 9) (h : fS p hs s fa) (h0 : 0 ≤ s) : fS p hs (s + 1) (va_up fa (sp_st p hs s).toNat 0) := by
  refine ⟨fun v a b => ?_, fun t a b => ?_⟩
  · by_cases e : v.toNat = (sp_st p hs s).toNat
    · rw [e, va_up_self]
      have := sp_st_rg (p := p) hh s
      exact Or.inr ⟨rfl, s, h0, by omega, by omega⟩
    · rw [va_up_ne _ _ e]
      rcases h.1 v a b with q | ⟨q, t, t0, t1, t2⟩
      · exact Or.inl q
      · exact Or.inr ⟨q, t, t0, by omega, t2⟩
  · by_cases e : (sp_st p hs t).toNat = (sp_st p hs s).toNat
    · rw [e, va_up_self]
    · rw [va_up_ne _ _ e]
      by_cases w : t = s
      · subst w; exact absurd rfl e
      · exact h.2 t a (by omega)
theorem fS_I {p : Int} {hs : Nat → Int} {fa : Nat → Int} (h : fS p hs p fa) : fI (glS p hs) fa := by
  refine ⟨fun v a b => ?_, fun v a b g => ?_⟩
  · rcases h.1 v a b with q | ⟨q, t, t0, t1, t2⟩
    · exact Or.inl q
    · refine Or.inr ⟨by omega, by omega, ?_⟩
      rw [q]
      exact ⟨t, t0, t1, t2⟩
  · obtain ⟨t, t0, t1, t2⟩ := g
    rw [← t2]
    exact h.2 t t0 t1
theorem fP_s {fa : Nat → Int} {v h : Int} (hp : fP fa v h) (hn : ¬ sa v h = -1 → fa v.toNat ≤ fa (sa v h).toNat + 1) : fP fa v (h + 1) := by
  intro v' h' a b c d e f
  by_cases q : v' = v ∧ h' = h
  · rw [q.1, q.2] at f ⊢
    exact hn f
  · exact hp v' h' a b c d (by omega) f
theorem fP_v {fa : Nat → Int} {v : Int} (hp : fP fa v 10) : fP fa (v + 1) 0 := by
  intro v' h' a b c d e f
  exact hp v' h' a b c d (by omega) f
theorem fP_0 (fa : Nat → Int) : fP fa 0 0 := by
  intro v' h' a b c d e f
  omega
/-- the rows of the model's rotation -/
def tuN (p f : Int) (hs : Nat → Int) (k : Nat) (g : Nat → Int) : Nat → Int := fun j => if j < k then hs ((f + (j : Int)) % p * 3).toNat else g j
theorem tuN_0 (p f : Int) (hs g : Nat → Int) : tuN p f hs 0 g = g := by
  funext j
  unfold tuN
  rw [if_neg (by omega)]
theorem tuN_s (p f : Int) (hs : Nat → Int) (k : Nat) (g : Nat → Int) : va_up (tuN p f hs k g) ((k : Int)).toNat (hs ((f + (k : Int)) % p * 3).toNat) = tuN p f hs (k + 1) g := by
  funext j
  rw [Int.toNat_natCast]
  by_cases e : j = k
  · rw [e, va_up_self]
    unfold tuN
    rw [if_pos (by omega)]
  · rw [va_up_ne _ _ e]
    unfold tuN
    by_cases q : j < k
    · rw [if_pos q, if_pos (by omega)]
    · rw [if_neg q, if_neg (by omega)]
theorem hM_0 (M : MS) : hM M 0 = M.he := by
  funext j
  unfold hM
  rw [show (48 * 0 + (j : Int)).toNat = j by omega]
theorem cM_0 (M : MS) : cM M 0 = M.co := by
  funext j
  unfold cM
  rw [show (16 * 0 + (j : Int)).toNat = j by omega]
theorem jcpy_s (k : Nat) (f g : Nat → Int) : va_up (jcpy k f g) k (f k) = jcpy (k + 1) f g := by
  funext j
  by_cases e : j = k
  · rw [e, va_up_self]
    unfold jcpy
    rw [if_pos (by omega)]
  · rw [va_up_ne _ _ e]
    unfold jcpy
    by_cases q : j < k
    · rw [if_pos q, if_pos (by omega)]
    · rw [if_neg q, if_neg (by omega)]
theorem jcpy_0 (f g : Nat → Int) : jcpy 0 f g = g := by
  funext j
  unfold jcpy
  rw [if_neg (by omega)]
theorem rs12 {n x : Int} (hn : 1 ≤ n ∧ n ≤ 4) : (x + 12) % n = x % n := by
  have c : n = 1 ∨ n = 2 ∨ n = 3 ∨ n = 4 := by omega
  rcases c with e | e | e | e <;> subst e <;> omega
theorem tkN_lt {t : Nat → Nat} : ∀ n : Nat, (∀ s, s < n → t s < 4) → tkN t n < 16
  | 0, _ => by unfold tkN; omega
  | n + 1, h => by
    unfold tkN
    exact Nat.or_lt_two_pow (n := 4) (tkN_lt n (fun s hs => h s (by omega))) (Nat.pow_lt_pow_right (by decide) (h n (by omega)))
