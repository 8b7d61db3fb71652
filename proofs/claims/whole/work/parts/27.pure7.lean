/-! the graph of states -/
def saN (v h : Nat) : Int := if v % 2 = 0 then (if h = 0 then ((v / 2 : Nat) : Int) else -1) else if h = 0 then -1 else if (v / 2 &&& 2 ^ (h - 1)) = 0 then ((v / 2 ||| 2 ^ (h - 1) : Nat) : Int) else -1
def sfN (w h : Nat) : Int := if h = 0 then (if w * 2 < 512 then ((w * 2 : Nat) : Int) else -1) else if (w &&& 2 ^ (h - 1)) = 2 ^ (h - 1) then (if (w &&& (511 ^^^ 2 ^ (h - 1))) * 2 + 1 < 512 then (((w &&& (511 ^^^ 2 ^ (h - 1))) * 2 + 1 : Nat) : Int) else -1) else -1
/-- the state behind a throw, or -1 -/
def sa (v h : Int) : Int := saN v.toNat h.toNat
/-- the state before a throw, or -1 -/
def sf (v h : Int) : Int := sfN v.toNat h.toNat
theorem bg_1 : ∀ v, v < 512 → zI ((v : Nat) : Int) >>> (zI 1 &&& 31) = zI ((v / 2 : Nat) : Int) := by decide +kernel
theorem bg_2 : ∀ k, k < 9 → zI 1 <<< (zI ((k : Nat) : Int) &&& 31) = zI ((2 ^ k : Nat) : Int) := by decide +kernel
theorem bg_3 : ∀ v, v < 512 → ∀ k, k < 9 → zI ((v : Nat) : Int) &&& zI ((2 ^ k : Nat) : Int) = zI ((v &&& 2 ^ k : Nat) : Int) := by decide +kernel
theorem bg_4 : ∀ v, v < 512 → ∀ k, k < 9 → zI ((v : Nat) : Int) ||| zI ((2 ^ k : Nat) : Int) = zI ((v ||| 2 ^ k : Nat) : Int) := by decide +kernel
theorem bg_5 : ∀ w, w < 512 → ∀ k, k < 9 → ((zI ((w : Nat) : Int) &&& (zI ((2 ^ k : Nat) : Int) ^^^ zI (-1))) <<< (zI 1 &&& 31)) ||| zI 1 = zI (((w &&& (511 ^^^ 2 ^ k)) * 2 + 1 : Nat) : Int) := by decide +kernel
theorem bg_6 : ∀ w, w < 512 → ((zI ((w : Nat) : Int) &&& (zI 0 ^^^ zI (-1))) <<< (zI 1 &&& 31)) ||| zI 0 = zI ((w * 2 : Nat) : Int) := by decide +kernel
theorem bg_7 : ∀ w, w < 512 → zI ((w : Nat) : Int) &&& zI 0 = zI 0 := by decide +kernel
theorem sa_rg0 : ∀ v, v < 512 → ∀ h, h < 10 → saN v h = -1 ∨ (0 ≤ saN v h ∧ saN v h < 512 ∧ sfN (saN v h).toNat h = (v : Int)) := by decide +kernel
theorem sf_rg0 : ∀ w, w < 512 → ∀ h, h < 10 → sfN w h = -1 ∨ (0 ≤ sfN w h ∧ sfN w h < 512 ∧ saN (sfN w h).toNat h = (w : Int)) := by decide +kernel
theorem sa_rg {v h : Int} (hv : 0 ≤ v ∧ v < 512) (hh : 0 ≤ h ∧ h ≤ 9) : sa v h = -1 ∨ (0 ≤ sa v h ∧ sa v h < 512 ∧ sf (sa v h) h = v) := by
  have h1 := sa_rg0 v.toNat (by omega) h.toNat (by omega)
  rw [show ((v.toNat : Nat) : Int) = v by omega] at h1
  exact h1
theorem sf_rg {v h : Int} (hv : 0 ≤ v ∧ v < 512) (hh : 0 ≤ h ∧ h ≤ 9) : sf v h = -1 ∨ (0 ≤ sf v h ∧ sf v h < 512 ∧ sa (sf v h) h = v) := by
  have h1 := sf_rg0 v.toNat (by omega) h.toNat (by omega)
  rw [show ((v.toNat : Nat) : Int) = v by omega] at h1
  exact h1
/-- the goal is reached in n throws -/
def rch (Gl : Int → Prop) : Nat → Int → Prop
  | 0, v => Gl v
  | n + 1, v => ∃ h : Int, 0 ≤ h ∧ h ≤ 9 ∧ ¬ sa v h = -1 ∧ rch Gl n (sa v h)
def isD (Gl : Int → Prop) (v k : Int) : Prop := 0 ≤ k ∧ rch Gl k.toNat v ∧ ∀ j, j < k.toNat → ¬ rch Gl j v
theorem isD_u {Gl : Int → Prop} {v a b : Int} (ha : isD Gl v a) (hb : isD Gl v b) : a = b := by
  obtain ⟨a0, a1, a2⟩ := ha
  obtain ⟨b0, b1, b2⟩ := hb
  rcases Nat.lt_trichotomy a.toNat b.toNat with h | h | h
  · exact absurd a1 (b2 _ h)
  · omega
  · exact absurd b1 (a2 _ h)
def dOk (Gl : Int → Prop) (ds : Nat → Int) : Prop := ∀ v : Int, 0 ≤ v → v < 512 → isD Gl v (ds v.toNat) ∨ (ds v.toNat = -1 ∧ ∀ j, ¬ rch Gl j v)
def cntD (ds : Nat → Int) : Nat → Int
  | 0 => 0
  | k + 1 => cntD ds k + (if ds k = -1 then 0 else 1)
theorem cntD_le (ds : Nat → Int) : ∀ k, 0 ≤ cntD ds k ∧ cntD ds k ≤ k
  | 0 => by unfold cntD; omega
  | k + 1 => by
    have h := cntD_le ds k
    unfold cntD
    split <;> omega
theorem cntD_lt (ds : Nat → Int) {v : Nat} (hv : ds v = -1) : ∀ k, v < k → cntD ds k < k
  | 0, h => by omega
  | k + 1, h => by
    have h1 := cntD_le ds k
    unfold cntD
    by_cases e : v = k
    · subst e
      rw [if_pos hv]
      omega
    · have h2 := cntD_lt ds hv k (by omega)
      split <;> omega
theorem cntD_ne (ds : Nat → Int) {v : Nat} {c : Int} : ∀ k, k ≤ v → cntD (va_up ds v c) k = cntD ds k
  | 0, _ => rfl
  | k + 1, h => by
    unfold cntD
    rw [cntD_ne ds k (by omega), va_up_ne _ _ (by omega)]
theorem cntD_up (ds : Nat → Int) {v : Nat} {c : Int} (hv : ds v = -1) (hc : 0 ≤ c) : ∀ k, v < k → cntD (va_up ds v c) k = cntD ds k + 1
  | 0, h => by omega
  | k + 1, h => by
    unfold cntD
    by_cases e : v = k
    · subst e
      rw [cntD_ne ds v (Nat.le_refl v), va_up_self, if_neg (by omega), if_pos hv]
      omega
    · rw [cntD_up ds hv hc k (by omega), va_up_ne _ _ (Ne.symm e)]
      omega
theorem cntD_no (N : Nat) (ds : Nat → Int) (h : ∀ j, j < N → ds j = -1) : cntD ds N = 0 := by
  induction N with
  | zero => rfl
  | succ k ih =>
    unfold cntD
    rw [ih (fun j hj => h j (by omega)), if_pos (h k (by omega))]
    rfl
/-- what holds of the queue and the distances while they grow; c is the distance that is told now -/
def bfI (Gl : Int → Prop) (ds q : Nat → Int) (qd c : Int) : Prop :=
  qd = cntD ds 512 ∧ (∀ j : Int, 0 ≤ j → j < qd → (0 ≤ q j.toNat ∧ q j.toNat < 512) ∧ 0 ≤ ds (q j.toNat).toNat ∧ ds (q j.toNat).toNat ≤ c) ∧
  (∀ i j : Int, 0 ≤ i → i ≤ j → j < qd → ds (q i.toNat).toNat ≤ ds (q j.toNat).toNat) ∧
  (∀ v : Int, 0 ≤ v → v < 512 → ds v.toNat = -1 ∨ (0 ≤ ds v.toNat ∧ rch Gl (ds v.toNat).toNat v ∧ ∃ j : Int, 0 ≤ j ∧ j < qd ∧ q j.toNat = v))
theorem bfI_rg {Gl : Int → Prop} {ds q : Nat → Int} {qd c : Int} (h : bfI Gl ds q qd c) : 0 ≤ qd ∧ qd ≤ 512 := by
  have h1 := cntD_le ds 512
  rw [h.1]
  exact ⟨h1.1, by have := h1.2; omega⟩
theorem bfI_up {Gl : Int → Prop} {ds q : Nat → Int} {qd c c' : Int} (h : bfI Gl ds q qd c) (hc : c ≤ c') : bfI Gl ds q qd c' := by
  obtain ⟨h1, h2, h3, h4⟩ := h
  refine ⟨h1, fun j a b => ?_, h3, h4⟩
  obtain ⟨x, y, z⟩ := h2 j a b
  exact ⟨x, y, by omega⟩
def bgr (ds q : Nat → Int) (qd : Int) (ds' q' : Nat → Int) (qd' : Int) : Prop := (∀ u, 0 ≤ ds u → ds' u = ds u) ∧ (∀ j : Int, 0 ≤ j → j < qd → q' j.toNat = q j.toNat) ∧ qd ≤ qd'
theorem bgr_rf (ds q : Nat → Int) (qd : Int) : bgr ds q qd ds q qd := ⟨fun _ _ => rfl, fun _ _ _ => rfl, Int.le_refl _⟩
theorem bgr_tr {ds q ds' q' ds'' q'' : Nat → Int} {qd qd' qd'' : Int} (a : bgr ds q qd ds' q' qd') (b : bgr ds' q' qd' ds'' q'' qd'') : bgr ds q qd ds'' q'' qd'' := by
  obtain ⟨a1, a2, a3⟩ := a
  obtain ⟨b1, b2, b3⟩ := b
  refine ⟨fun u h => ?_, fun j h1 h2 => ?_, by omega⟩
  · have e := a1 u h
    rw [b1 u (by omega), e]
  · rw [b2 j h1 (by omega), a2 j h1 h2]
theorem bf_put {Gl : Int → Prop} {ds q : Nat → Int} {qd c v : Int} (h : bfI Gl ds q qd c) (hv : 0 ≤ v ∧ v < 512) (hd : ds v.toNat = -1) (hc : 0 ≤ c) (hr : rch Gl c.toNat v) :
    (qd < 512 ∧ bfI Gl (va_up ds v.toNat c) (va_up q qd.toNat v) (qd + 1) c) ∧ bgr ds q qd (va_up ds v.toNat c) (va_up q qd.toNat v) (qd + 1) := by
  have hq := bfI_rg h
  obtain ⟨h1, h2, h3, h4⟩ := h
  have hlt : qd < 512 := by rw [h1]; exact cntD_lt ds hd 512 (by omega)
  have key : ∀ j : Int, 0 ≤ j → j < qd → va_up q qd.toNat v j.toNat = q j.toNat := fun j a b => va_up_ne _ _ (by omega)
  have keyd : ∀ u : Nat, 0 ≤ ds u → va_up ds v.toNat c u = ds u := fun u hu => by
    refine va_up_ne _ _ (fun e => ?_)
    rw [e, hd] at hu
    omega
  have kd : ∀ j : Int, 0 ≤ j → j < qd → va_up ds v.toNat c (q j.toNat).toNat = ds (q j.toNat).toNat := fun j a b => keyd _ (h2 j a b).2.1
  refine ⟨⟨hlt, by rw [cntD_up ds hd hc 512 (by omega), h1], fun j a b => ?_, fun i j a b e => ?_, fun u a b => ?_⟩, keyd, key, by omega⟩
  · by_cases e : j = qd
    · subst e
      rw [va_up_self, va_up_self]
      exact ⟨hv, hc, Int.le_refl _⟩
    · rw [key j a (by omega), kd j a (by omega)]
      exact h2 j a (by omega)
  · by_cases e1 : j = qd
    · subst e1
      rw [va_up_self, va_up_self]
      by_cases e2 : i = j
      · subst e2
        rw [va_up_self, va_up_self]
        exact Int.le_refl _
      · rw [key i a (by omega), kd i a (by omega)]
        exact (h2 i a (by omega)).2.2
    · rw [key i a (by omega), key j (by omega) (by omega), kd i a (by omega), kd j (by omega) (by omega)]
      exact h3 i j a b (by omega)
  · by_cases e : u = v
    · subst e
      rw [va_up_self]
      exact Or.inr ⟨hc, hr, qd, hq.1, by omega, va_up_self _ _ _⟩
    · rw [va_up_ne _ _ (by omega)]
      rcases h4 u a b with h5 | ⟨h5, h6, j, h7, h8, h9⟩
      · exact Or.inl h5
      · exact Or.inr ⟨h5, h6, j, h7, by omega, by rw [key j h7 h8]; exact h9⟩
/-- the first nx states of the queue have been looked at; of the next one the throws below hh -/
def bpr (ds q : Nat → Int) (nx hh : Int) : Prop := ∀ j : Int, 0 ≤ j → j ≤ nx → ∀ v h : Int, 0 ≤ v → v < 512 → 0 ≤ h → h ≤ 9 → (j < nx ∨ h < hh) → sa v h = q j.toNat → 0 ≤ ds v.toNat ∧ ds v.toNat ≤ ds (q j.toNat).toNat + 1
theorem bpr_gr {Gl : Int → Prop} {ds q ds' q' : Nat → Int} {qd qd' c nx hh : Int} (hI : bfI Gl ds q qd c) (hg : bgr ds q qd ds' q' qd') (hn : nx < qd) (h : bpr ds q nx hh) : bpr ds' q' nx hh := by
  intro j a b v t h1 h2 h3 h4 h5 h6
  obtain ⟨g1, g2, g3⟩ := hg
  rw [g2 j a (by omega)] at h6 ⊢
  obtain ⟨y1, y2⟩ := h j a b v t h1 h2 h3 h4 h5 h6
  rw [g1 _ y1, g1 _ (hI.2.1 j a (by omega)).2.1]
  exact ⟨y1, y2⟩
theorem bf_end {Gl : Int → Prop} {ds q : Nat → Int} {qd c nx : Int} (hI : bfI Gl ds q qd c) (hn : qd ≤ nx) (hp : bpr ds q nx 0) (hG : ∀ v, Gl v → (0 ≤ v ∧ v < 512) ∧ ds v.toNat = 0) : dOk Gl ds := by
  have key : ∀ n v, 0 ≤ v → v < 512 → rch Gl n v → 0 ≤ ds v.toNat ∧ ds v.toNat ≤ n := by
    intro n
    induction n with
    | zero =>
      intro v a b h
      have := (hG v h).2
      omega
    | succ n ih =>
      intro v a b h
      obtain ⟨t, t0, t1, t2, t3⟩ := h
      rcases sa_rg ⟨a, b⟩ ⟨t0, t1⟩ with h1 | ⟨h1, h2, -⟩
      · exact absurd h1 t2
      · obtain ⟨k1, k2⟩ := ih _ h1 h2 t3
        rcases hI.2.2.2 _ h1 h2 with h3 | ⟨-, -, j, j0, j1, j2⟩
        · omega
        · have h5 := hp j j0 (by omega) v t a b t0 t1 (Or.inl (by omega)) j2.symm
          rw [j2] at h5
          omega
  intro v a b
  rcases hI.2.2.2 v a b with h1 | ⟨h1, h2, -⟩
  · refine Or.inr ⟨h1, fun j hj => ?_⟩
    have := (key j v a b hj).1
    omega
  · refine Or.inl ⟨h1, h2, fun j hj hr => ?_⟩
    have := (key j v a b hr).2
    omega
/-- the throw that leads nearer: the least -/
def lws (Gl : Int → Prop) (v k h : Int) : Prop := 0 ≤ h ∧ h ≤ 9 ∧ (¬ sa v h = -1 ∧ isD Gl (sa v h) k) ∧ ∀ t, 0 ≤ t → t < h → ¬ (¬ sa v t = -1 ∧ isD Gl (sa v t) k)
theorem lws_u {Gl : Int → Prop} {v k a b : Int} (ha : lws Gl v k a) (hb : lws Gl v k b) : a = b := by
  rcases Int.lt_trichotomy a b with h | h | h
  · exact absurd ha.2.2.1 (hb.2.2.2 a ha.1 h)
  · exact h
  · exact absurd hb.2.2.1 (ha.2.2.2 b hb.1 h)
/-- the way of n throws -/
def wlk (Gl : Int → Prop) : Nat → Int → List Int → Int → Prop
  | 0, v, W, z => W = [] ∧ z = v
  | n + 1, v, W, z => ∃ h r, W = h :: r ∧ lws Gl v (n : Int) h ∧ wlk Gl n (sa v h) r z
theorem wlk_u {Gl : Int → Prop} : ∀ n v W z W' z', wlk Gl n v W z → wlk Gl n v W' z' → W = W' ∧ z = z'
  | 0, v, W, z, W', z', a, b => ⟨a.1.trans b.1.symm, a.2.trans b.2.symm⟩
  | n + 1, v, W, z, W', z', ⟨h, r, e1, e2, e3⟩, ⟨h', r', f1, f2, f3⟩ => by
    have e := lws_u e2 f2
    subst e
    have e4 := wlk_u n _ _ _ _ _ e3 f3
    rw [e1, f1, e4.1]
    exact ⟨rfl, e4.2⟩
theorem wlk_len {Gl : Int → Prop} : ∀ n v W z, wlk Gl n v W z → W.length = n
  | 0, v, W, z, a => by rw [a.1]; rfl
  | n + 1, v, W, z, ⟨h, r, e1, e2, e3⟩ => by
    rw [e1, List.length_cons, wlk_len n _ _ _ e3]
/-- a step nearer is there -/
theorem isD_step {Gl : Int → Prop} {v : Int} {k : Int} (hv : 0 ≤ v ∧ v < 512) (hk : 0 ≤ k) (h : isD Gl v (k + 1)) : ∃ t : Int, 0 ≤ t ∧ t ≤ 9 ∧ ¬ sa v t = -1 ∧ isD Gl (sa v t) k := by
  obtain ⟨h0, h1, h2⟩ := h
  rw [show (k + 1).toNat = k.toNat + 1 by omega] at h1 h2
  obtain ⟨t, t0, t1, t2, t3⟩ := h1
  refine ⟨t, t0, t1, t2, hk, t3, fun j hj hr => ?_⟩
  exact h2 (j + 1) (by omega) ⟨t, t0, t1, t2, hr⟩
/-- the site whose state is nearest: the least -/
def nst (Gl : Int → Prop) (p : Int) (hs : Nat → Int) (a : Int) : Prop := 0 ≤ a ∧ a < p ∧ ∃ k, isD Gl (sp_st p hs a) k ∧ ∀ s, 0 ≤ s → s < p → ∃ k', isD Gl (sp_st p hs s) k' ∧ k ≤ k' ∧ (s < a → k < k')
theorem nst_u {Gl : Int → Prop} {p : Int} {hs : Nat → Int} {a b : Int} (ha : nst Gl p hs a) (hb : nst Gl p hs b) : a = b := by
  obtain ⟨a0, a1, k, a2, a3⟩ := ha
  obtain ⟨b0, b1, l9, b2, b3⟩ := hb
  obtain ⟨k', c1, c2, c3⟩ := a3 b b0 b1
  obtain ⟨k'', d1, d2, d3⟩ := b3 a a0 a1
  have e1 := isD_u c1 b2
  have e2 := isD_u d1 a2
  subst e1 e2
  rcases Int.lt_trichotomy a b with h | h | h
  · have := d3 h; omega
  · exact h
  · have := c3 h; omega
def jJt (h : Nat → va_E) (jo : Nat) (DS QU WA : Nat → Int) (qd ln md fs ts : Int) : Prop := h jo = jO 3 [.ref (jo + 1), .ref (jo + 2), .ref (jo + 3), .int (zI qd), .int (zI ln), .int (zI md), .int (zI fs), .int (zI ts)] ∧ h (jo + 1) = jI 512 (fun j => zI (DS j)) ∧ h (jo + 2) = jI 512 (fun j => zI (QU j)) ∧ h (jo + 3) = jI 512 (fun j => zI (WA j))
def glS (p : Int) (hs : Nat → Int) : Int → Prop := fun v => ∃ s, 0 ≤ s ∧ s < p ∧ sp_st p hs s = v
