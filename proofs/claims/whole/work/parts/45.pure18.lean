/-! a hand's throws at a beat: none is wanting -/
theorem nx_ok {hs : Nat → Int} {s : Int} : ∀ (k f : Nat), th_w hs s f < th_w hs s (f + k) → ∃ w : Nat, nx hs s k (f : Int) = (w : Int) ∧ f ≤ w ∧ w < f + k ∧ 0 < hs (s * 3 + (w : Int)).toNat ∧ ∀ i : Nat, f ≤ i → i < w → ¬ 0 < hs (s * 3 + (i : Int)).toNat
  | 0, f, h => absurd h (Int.lt_irrefl _)
  | k + 1, f, h => by
    unfold nx
    by_cases q : 0 < hs (s * 3 + (f : Int)).toNat
    · rw [if_pos q]
      exact ⟨f, rfl, Nat.le_refl _, by omega, q, fun i a b => by omega⟩
    · rw [if_neg q]
      have e : th_w hs s (f + 1) = th_w hs s f := by
        rw [th_w, if_neg q]
        omega
      obtain ⟨w, h1, h2, h3, h4, h5⟩ := nx_ok k (f + 1) (by rw [e, show f + 1 + k = f + (k + 1) by omega]; exact h)
      refine ⟨w, h1, by omega, by omega, h4, fun i a b => ?_⟩
      by_cases z : i = f
      · rw [z]; exact q
      · exact h5 i (by omega) b
theorem th_flat {hs : Nat → Int} {s : Int} {f : Nat} : ∀ e : Nat, (∀ i : Nat, f ≤ i → i < f + e → ¬ 0 < hs (s * 3 + (i : Int)).toNat) → th_w hs s (f + e) = th_w hs s f
  | 0, _ => rfl
  | e + 1, h => by
    rw [show th_w hs s (f + (e + 1)) = th_w hs s (f + e) + (if 0 < hs (s * 3 + ((f + e : Nat) : Int)).toNat then 1 else 0) from rfl, if_neg (h (f + e) (by omega) (by omega)), th_flat e (fun i a b => h i a (by omega))]
    omega
theorem th_mono {hs : Nat → Int} {s : Int} {f : Nat} : ∀ e : Nat, th_w hs s f ≤ th_w hs s (f + e)
  | 0 => Int.le_refl _
  | e + 1 => by
    have := th_mono (hs := hs) (s := s) (f := f) e
    show _ ≤ th_w hs s (f + e) + _
    split <;> omega
theorem th_rest {hs : Nat → Int} {s : Int} {f : Nat} : ∀ e : Nat, th_w hs s (f + e) = th_w hs s f → ∀ i : Nat, f ≤ i → i < f + e → ¬ 0 < hs (s * 3 + (i : Int)).toNat
  | 0, _, i, a, b => by omega
  | e + 1, h, i, a, b => by
    have h1 := th_mono (hs := hs) (s := s) (f := f) e
    have h2 : th_w hs s (f + e) + (if 0 < hs (s * 3 + ((f + e : Nat) : Int)).toNat then 1 else 0) = th_w hs s f := h
    by_cases q : i = f + e
    · rw [q]
      intro w
      rw [if_pos w] at h2
      omega
    · exact th_rest e (by split at h2 <;> omega) i a (by omega)
/-- the throws above 0 of a site, by where and in which hand they land -/
def pw (m : Int) (hs xs : Nat → Int) (nw s x : Int) (y : Int × Int) : Nat → Int
  | 0 => 0
  | w + 1 => pw m hs xs nw s x y w + (if 0 < hs (s * 3 + (w : Int)).toNat ∧ (nw + hs (s * 3 + (w : Int)).toNat, sp_land m xs s x (nw + hs (s * 3 + (w : Int)).toNat)) = y then 1 else 0)
theorem pw_flat {m : Int} {hs xs : Nat → Int} {nw s x : Int} {y : Int × Int} {f : Nat} : ∀ e : Nat, (∀ i : Nat, f ≤ i → i < f + e → ¬ 0 < hs (s * 3 + (i : Int)).toNat) → pw m hs xs nw s x y (f + e) = pw m hs xs nw s x y f
  | 0, _ => rfl
  | e + 1, h => by
    show pw m hs xs nw s x y (f + e) + _ = _
    rw [if_neg (fun q => h (f + e) (by omega) (by omega) q.1), pw_flat e (fun i a b => h i a (by omega))]
    omega
theorem pw_wc {m : Int} {hs xs : Nat → Int} {nw s x T z : Int} (hT : nw < T) : ∀ c, pw m hs xs nw s x (T, z) c = if sp_land m xs s x T = z then wc hs s (T - nw) c else 0
  | 0 => by unfold pw wc; split <;> rfl
  | c + 1 => by
    unfold pw wc
    rw [pw_wc hT c]
    by_cases q : hs (s * 3 + (c : Int)).toNat = T - nw
    · rw [show nw + hs (s * 3 + (c : Int)).toNat = T by omega, if_pos q]
      by_cases w : sp_land m xs s x T = z
      · rw [if_pos w, if_pos w, if_pos ⟨by omega, by rw [w]⟩]
      · rw [if_neg w, if_neg w, if_neg (fun v => w (Prod.mk.inj v.2).2)]
        rfl
    · have z1 : ¬ (0 < hs (s * 3 + (c : Int)).toNat ∧ (nw + hs (s * 3 + (c : Int)).toNat, sp_land m xs s x (nw + hs (s * 3 + (c : Int)).toNat)) = (T, z)) := fun v => q (by have := (Prod.mk.inj v.2).1; omega)
      rw [if_neg q, if_neg z1, Int.add_zero, Int.add_zero]
theorem pw_now {m : Int} {hs xs : Nat → Int} {nw s x z : Int} : ∀ c, pw m hs xs nw s x (nw, z) c = 0
  | 0 => rfl
  | c + 1 => by
    unfold pw
    rw [pw_now c, if_neg (fun v => by have := (Prod.mk.inj v.2).1; have := v.1; omega)]
    rfl
theorem ctL_take_s (y : Int × Int) : ∀ (B : List (Int × Int)) (j : Nat), j < B.length → ctL y (B.take (j + 1)) = ctL y (B.take j) + (if B.getD j (0, 0) = y then 1 else 0)
  | [], j, h => by cases h
  | b :: B, 0, h => by
    show (if b = y then 1 else 0) + 0 = 0 + (if b = y then 1 else 0)
    omega
  | b :: B, j + 1, h => by
    have := ctL_take_s y B j (by simpa using h)
    show (if b = y then 1 else 0) + ctL y (B.take (j + 1)) = (if b = y then 1 else 0) + ctL y (B.take j) + (if B.getD j (0, 0) = y then 1 else 0)
    omega
theorem ctL_take_le (y : Int × Int) : ∀ (B : List (Int × Int)) (j : Nat), ctL y (B.take j) ≤ ctL y B
  | [], j => by rw [List.take_nil]; exact Int.le_refl _
  | b :: B, 0 => by show 0 ≤ _; exact ctL_ge y _
  | b :: B, j + 1 => by
    have := ctL_take_le y B j
    show (if b = y then 1 else 0) + ctL y (B.take j) ≤ (if b = y then 1 else 0) + ctL y B
    omega
/-- what holds while a hand's balls are thrown -/
def tfI (m : Int) (hs cs xs : Nat → Int) (nw s x : Int) (B : List (Int × Int)) (j : Nat) (q : List (Int × Int) × Int × Int × Bool) : Prop :=
  q.2.2.2 = false ∧ q.1.length = B.length ∧ (∀ i, j ≤ i → q.1.getD i (0, 0) = B.getD i (0, 0)) ∧ (∃ f : Nat, q.2.1 + 1 = (f : Int) ∧ f ≤ (cs s.toNat).toNat ∧ q.2.2.1 = th_w hs s f ∧ ∀ y, ctL y q.1 = ctL y B - (if (nw, x) = y then q.2.2.1 else 0) + pw m hs xs nw s x y f) ∧ q.2.2.1 = ctL (nw, x) (B.take j)
/-- at a ball that lands there is a throw for it -/
theorem tfI_nx {m : Int} {hs cs xs : Nat → Int} {nw s x : Int} {B : List (Int × Int)} {j : Nat} {q : List (Int × Int) × Int × Int × Bool} (hT : ctL (nw, x) B = th_w hs s (cs s.toNat).toNat) (h : tfI m hs cs xs nw s x B j q) (hj : j < B.length) (hb : B.getD j (0, 0) = (nw, x)) : ∃ f w : Nat, q.2.1 + 1 = (f : Int) ∧ q.2.2.1 = th_w hs s f ∧ nx hs s (cs s.toNat - (q.2.1 + 1)).toNat (q.2.1 + 1) = (w : Int) ∧ f ≤ w ∧ w < (cs s.toNat).toNat ∧ 0 < hs (s * 3 + (w : Int)).toNat ∧ ∀ i : Nat, f ≤ i → i < w → ¬ 0 < hs (s * 3 + (i : Int)).toNat := by
  obtain ⟨h1, h2, h3, ⟨f, f1, f2, f3, f4⟩, h5⟩ := h
  have a1 := ctL_take_s (nw, x) B j hj
  have a2 := ctL_take_le (nw, x) B (j + 1)
  rw [if_pos hb] at a1
  have e : f + ((cs s.toNat).toNat - f) = (cs s.toNat).toNat := by omega
  obtain ⟨w, w1, w2, w3, w4, w5⟩ := nx_ok (hs := hs) (s := s) ((cs s.toNat).toNat - f) f (by rw [e]; omega)
  refine ⟨f, w, f1, f3, ?_, w2, by omega, w4, w5⟩
  rw [f1, show (cs s.toNat - (f : Int)).toNat = (cs s.toNat).toNat - f by omega]
  exact w1
theorem tfI_s {m : Int} {hs cs xs : Nat → Int} {nw s x : Int} {B : List (Int × Int)} {j : Nat} {q : List (Int × Int) × Int × Int × Bool} (hT : ctL (nw, x) B = th_w hs s (cs s.toNat).toNat) (h : tfI m hs cs xs nw s x B j q) (hj : j < B.length) : tfI m hs cs xs nw s x B (j + 1) (tfs m hs cs xs nw s x j q) := by
  have h0 := h
  obtain ⟨h1, h2, h3, ⟨f, f1, f2, f3, f4⟩, h5⟩ := h
  have a1 := ctL_take_s (nw, x) B j hj
  unfold tfs
  rw [if_neg (by rw [h1]; decide), h3 j (Nat.le_refl j)]
  by_cases hb : B.getD j (0, 0) = (nw, x)
  · obtain ⟨f', w, g1, g2, g3, g4, g5, g6, g7⟩ := tfI_nx hT h0 hj hb
    have ef : f' = f := by omega
    subst ef
    rw [if_pos (by rw [hb]; exact ⟨rfl, rfl⟩), g3, if_neg (by omega)]
    have e1 : th_w hs s (w + 1) = th_w hs s f' + 1 := by
      rw [th_w, if_pos g6, show w = f' + (w - f') by omega, th_flat (w - f') (fun i a b => g7 i a (by omega))]
    refine ⟨rfl, by rw [List.length_set]; exact h2, fun i hi => ?_, ⟨w + 1, rfl, by omega, ?_, fun y => ?_⟩, ?_⟩
    · show (q.1.set j _).getD i (0, 0) = _
      rw [← h3 i (by omega)]
      simp [List.getD, List.getElem?_set, show ¬ j = i by omega]
    · show q.2.2.1 + 1 = _
      omega
    · show ctL y (q.1.set j _) = _ - (if (nw, x) = y then q.2.2.1 + 1 else 0) + _
      have e2 : pw m hs xs nw s x y (w + 1) = pw m hs xs nw s x y f' + (if (nw + hs (s * 3 + (w : Int)).toNat, sp_land m xs s x (nw + hs (s * 3 + (w : Int)).toNat)) = y then 1 else 0) := by
        rw [pw, show pw m hs xs nw s x y w = pw m hs xs nw s x y f' by rw [show w = f' + (w - f') by omega, pw_flat (w - f') (fun i a b => g7 i a (by omega))]]
        congr 1
        by_cases z : (nw + hs (s * 3 + (w : Int)).toNat, sp_land m xs s x (nw + hs (s * 3 + (w : Int)).toNat)) = y
        · rw [if_pos z, if_pos ⟨g6, z⟩]
        · rw [if_neg z, if_neg (fun v => z v.2)]
      rw [ctL_set _ _ _ _ (by omega), f4 y, e2, h3 j (Nat.le_refl j), hb]
      by_cases z : (nw, x) = y
      · rw [if_pos z, if_pos z, if_pos z]; omega
      · rw [if_neg z, if_neg z, if_neg z]; omega
    · show q.2.2.1 + 1 = _
      rw [a1, if_pos hb, h5]
  · rw [if_neg (fun z => hb (by rw [← z.1, ← z.2]))]
    refine ⟨h1, h2, fun i hi => h3 i (by omega), ⟨f, f1, f2, f3, f4⟩, ?_⟩
    rw [a1, if_neg hb, h5]
    omega
theorem tfI_0 {m : Int} {hs cs xs : Nat → Int} {nw s x : Int} (B : List (Int × Int)) : tfI m hs cs xs nw s x B 0 (tf m hs cs xs nw s x B 0) := by
  unfold tf
  refine ⟨rfl, rfl, fun _ _ => rfl, ⟨0, rfl, Nat.zero_le _, rfl, fun y => ?_⟩, rfl⟩
  show ctL y B = ctL y B - (if (nw, x) = y then 0 else 0) + 0
  split <;> omega
theorem tfI_j {m : Int} {hs cs xs : Nat → Int} {nw s x : Int} {B : List (Int × Int)} (hT : ctL (nw, x) B = th_w hs s (cs s.toNat).toNat) : ∀ j, j ≤ B.length → tfI m hs cs xs nw s x B j (tf m hs cs xs nw s x B j)
  | 0, _ => tfI_0 B
  | j + 1, h => tfI_s hT (tfI_j hT j (by omega)) (by omega)
theorem tf_end {m : Int} {hs cs xs : Nat → Int} {nw s x : Int} {B : List (Int × Int)} (hT : ctL (nw, x) B = th_w hs s (cs s.toNat).toNat) : (tf m hs cs xs nw s x B B.length).2.2.1 = ctL (nw, x) B ∧ ∀ y, ctL y (tf m hs cs xs nw s x B B.length).1 = ctL y B - (if (nw, x) = y then ctL (nw, x) B else 0) + pw m hs xs nw s x y (cs s.toNat).toNat := by
  obtain ⟨h1, h2, h3, ⟨f, f1, f2, f3, f4⟩, h5⟩ := tfI_j (m := m) (xs := xs) hT B.length (Nat.le_refl _)
  rw [List.take_length] at h5
  have e : f + ((cs s.toNat).toNat - f) = (cs s.toNat).toNat := by omega
  refine ⟨h5, fun y => ?_⟩
  have h6 := th_rest (hs := hs) (s := s) (f := f) ((cs s.toNat).toNat - f) (by rw [e]; omega)
  have h7 := pw_flat (m := m) (hs := hs) (xs := xs) (nw := nw) (s := s) (x := x) (y := y) (f := f) ((cs s.toNat).toNat - f) h6
  rw [e] at h7
  rw [f4 y, h7, h5]
/-- the members of what a hand has thrown -/
theorem tf_mem {m : Int} {hs cs xs : Nat → Int} {nw s x : Int} {B : List (Int × Int)} {P : Int × Int → Prop} (hT : ctL (nw, x) B = th_w hs s (cs s.toNat).toNat) (hB : ∀ b ∈ B, P b) (hN : ∀ w : Nat, w < (cs s.toNat).toNat → 0 < hs (s * 3 + (w : Int)).toNat → P (nw + hs (s * 3 + (w : Int)).toNat, sp_land m xs s x (nw + hs (s * 3 + (w : Int)).toNat))) : ∀ j, j ≤ B.length → ∀ b ∈ (tf m hs cs xs nw s x B j).1, P b
  | 0, _, b, hb => hB b hb
  | j + 1, hj, b, hb => by
    have ih := tf_mem hT hB hN j (by omega)
    have h0 := tfI_j (m := m) (xs := xs) hT j (by omega)
    have h1 := h0.1
    have h3 := h0.2.2.1 j (Nat.le_refl j)
    have hb2 : b ∈ (tfs m hs cs xs nw s x j (tf m hs cs xs nw s x B j)).1 := hb
    unfold tfs at hb2
    rw [if_neg (by rw [h1]; decide), h3] at hb2
    by_cases hc : B.getD j (0, 0) = (nw, x)
    · obtain ⟨f', w, g1, g2, g3, g4, g5, g6, g7⟩ := tfI_nx hT h0 (by omega) hc
      rw [if_pos (by rw [hc]; exact ⟨rfl, rfl⟩), g3, if_neg (by omega)] at hb2
      rcases List.mem_or_eq_of_mem_set hb2 with z | z
      · exact ih b z
      · rw [z]; exact hN w g5 g6
    · rw [if_neg (fun z => hc (by rw [← z.1, ← z.2]))] at hb2
      exact ih b hb2
/-! the floor from beat to beat -/
theorem smI_sh (f : Nat → Int) : ∀ n, smI f (n + 1) = f 0 + smI (fun a => f (a + 1)) n
  | 0 => by show 0 + f 0 = f 0 + 0; omega
  | n + 1 => by
    show smI f (n + 1) + f (n + 1) = f 0 + (smI (fun a => f (a + 1)) n + f (n + 1))
    rw [smI_sh f n]
    omega
def nwT (m p : Int) (hs cs xs : Nat → Int) (nw T x th : Int) : Int := if ¬ sp_thr m p nw th = -1 ∧ sp_land m xs (sp_thr m p nw th) th T = x then wc hs (sp_thr m p nw th) (T - nw) (cs (sp_thr m p nw th).toNat).toNat else 0
theorem fc_next {m p : Int} {hs cs xs : Nat → Int} (hh : ∀ j, 0 ≤ hs j ∧ hs j ≤ 9) {nw T x : Int} (hT : nw < T) : fc m p hs cs xs (nw + 1) T x 9 = fc m p hs cs xs nw T x 9 + nwT m p hs cs xs nw T x 0 + nwT m p hs cs xs nw T x 1 := by
  have e1 : ∀ th (a : Nat), ft m p hs cs xs (nw + 1) T x th (a + 1) = ft m p hs cs xs nw T x th a := fun th a => by
    unfold ft
    rw [show nw + 1 - (((a + 1 : Nat) : Int) + 1) = nw - ((a : Int) + 1) by omega, show T - (nw + 1) + (((a + 1 : Nat) : Int) + 1) = T - nw + ((a : Int) + 1) by omega]
  have e0 : ∀ th, ft m p hs cs xs (nw + 1) T x th 0 = nwT m p hs cs xs nw T x th := fun th => by
    unfold ft nwT
    rw [show nw + 1 - (((0 : Nat) : Int) + 1) = nw by omega, show T - (nw + 1) + (((0 : Nat) : Int) + 1) = T - nw by omega]
  unfold fc
  rw [smI_sh _ 8, e0, e0, smI_cg 8 (fun a _ => by rw [e1, e1] : ∀ a, a < 8 → ft m p hs cs xs (nw + 1) T x 0 (a + 1) + ft m p hs cs xs (nw + 1) T x 1 (a + 1) = ft m p hs cs xs nw T x 0 a + ft m p hs cs xs nw T x 1 a)]
  show _ = smI _ 8 + (ft m p hs cs xs nw T x 0 8 + ft m p hs cs xs nw T x 1 8) + _ + _
  rw [ft_0 hh (by omega), ft_0 hh (by omega)]
  omega
/-- a ball as it may be at a beat -/
def bOk (m nw : Int) (b : Int × Int) : Prop := nw ≤ b.1 ∧ b.1 ≤ nw + 9 ∧ (b.2 = 0 ∨ b.2 = 1) ∧ (¬ m = 2 → b.2 = b.1 % 2) ∧ (m = 2 → b.1 % 2 = 0)
def bI (m p : Int) (hs cs xs : Nat → Int) (nw : Int) (B : List (Int × Int)) : Prop := (∀ T x, nw ≤ T → (x = 0 ∨ x = 1) → ctL (T, x) B = fc m p hs cs xs nw T x 9) ∧ ∀ b ∈ B, bOk m nw b
/-- one hand's throws, whether it throws or not -/
theorem hb1_ct {m p : Int} {hs cs xs : Nat → Int} {nw x : Int} {q : List (Int × Int) × (Nat → Int) × Int} (hT : ¬ sp_thr m p nw x = -1 → ctL (nw, x) q.1 = th_w hs (sp_thr m p nw x) (cs (sp_thr m p nw x).toNat).toNat) (hZ : sp_thr m p nw x = -1 → ctL (nw, x) q.1 = 0) :
    (hb1 m p hs cs xs nw x q).2.1 = va_up q.2.1 x.toNat (q.2.1 x.toNat + ctL (nw, x) q.1) ∧ (hb1 m p hs cs xs nw x q).2.2 = q.2.2 + ctL (nw, x) q.1 ∧ (∀ T z, nw < T → ctL (T, z) (hb1 m p hs cs xs nw x q).1 = ctL (T, z) q.1 + nwT m p hs cs xs nw T z x) ∧ (∀ z, ctL (nw, z) (hb1 m p hs cs xs nw x q).1 = if x = z then 0 else ctL (nw, z) q.1) := by
  unfold hb1 nwT
  by_cases h : sp_thr m p nw x = -1
  · rw [if_pos h, hZ h]
    refine ⟨?_, by omega, fun T z _ => ?_, fun z => ?_⟩
    · funext j
      by_cases e : j = x.toNat
      · rw [e, va_up_self]; omega
      · rw [va_up_ne _ _ e]
    · rw [if_neg (fun w => w.1 h)]; omega
    · split
      · rename_i e; rw [← e]; exact hZ h
      · rfl
  · rw [if_neg h]
    obtain ⟨t1, t2⟩ := tf_end (m := m) (xs := xs) (hT h)
    refine ⟨by rw [t1], by rw [t1], fun T z hT2 => ?_, fun z => ?_⟩
    · show ctL (T, z) (tf m hs cs xs nw (sp_thr m p nw x) x q.1 q.1.length).1 = _
      rw [t2, if_neg (fun w => by have := (Prod.mk.inj w).1; omega), pw_wc hT2]
      by_cases w : sp_land m xs (sp_thr m p nw x) x T = z
      · rw [if_pos w, if_pos ⟨h, w⟩]; omega
      · rw [if_neg w, if_neg (fun v => w v.2)]; omega
    · show ctL (nw, z) (tf m hs cs xs nw (sp_thr m p nw x) x q.1 q.1.length).1 = _
      rw [t2, pw_now]
      by_cases e : x = z
      · rw [if_pos e, if_pos (by rw [e]), e]; omega
      · rw [if_neg e, if_neg (fun w => e (Prod.mk.inj w).2)]; omega
theorem thr_2 {p nw x : Int} (h : ¬ sp_thr 2 p nw x = -1) : nw % 2 = 0 ∧ sp_thr 2 p nw x = nw % p + x := by
  unfold sp_thr at h ⊢
  rw [if_pos rfl] at h ⊢
  by_cases q : nw % 2 = 1
  · rw [if_pos q] at h; exact absurd rfl h
  · rw [if_neg q]; exact ⟨by omega, rfl⟩
/-- the balls after a hand's throws are as they may be -/
theorem hb1_mem {m p : Int} {hs cs xs : Nat → Int} (ok : jOk m p hs cs xs) (hi : dIn m p cs) {nw x : Int} (hx : x = 0 ∨ x = 1) {q : List (Int × Int) × (Nat → Int) × Int} (hT : ¬ sp_thr m p nw x = -1 → ctL (nw, x) q.1 = th_w hs (sp_thr m p nw x) (cs (sp_thr m p nw x).toNat).toNat) (hB : ∀ b ∈ q.1, bOk m nw b ∨ bOk m (nw + 1) b) : ∀ b ∈ (hb1 m p hs cs xs nw x q).1, bOk m nw b ∨ bOk m (nw + 1) b := by
  unfold hb1
  by_cases h : sp_thr m p nw x = -1
  · rw [if_pos h]; exact hB
  · rw [if_neg h]
    refine tf_mem (P := fun b => bOk m nw b ∨ bOk m (nw + 1) b) (hT h) hB (fun w hw h0 => Or.inr ?_) _ (Nat.le_refl _)
    have h9 := ok.2.2.1 (sp_thr m p nw x * 3 + (w : Int)).toNat
    have hl := sp_land_rg (m := m) (xs := xs) (b := sp_thr m p nw x) (k := x) (g := nw + hs (sp_thr m p nw x * 3 + (w : Int)).toNat) (by omega)
    refine ⟨by show nw + 1 ≤ nw + _; omega, by show nw + _ ≤ nw + 1 + 9; omega, by show sp_land _ _ _ _ _ = 0 ∨ sp_land _ _ _ _ _ = 1; omega, fun hm => ?_, fun hm => ?_⟩
    · show sp_land _ _ _ _ _ = _ % 2
      unfold sp_land
      rw [if_neg hm]
    · subst hm
      obtain ⟨e1, e2⟩ := thr_2 h
      have hr := sp_thr_rg ok (b := nw) (k := x) (by omega) h
      have hc := (hi (sp_thr 2 p nw x).toNat (by omega)).2.2 (by decide)
      have hw0 : w = 0 := by omega
      subst hw0
      have hev := (ok.2.2.2.2.2 rfl).2 (sp_thr 2 p nw x).toNat
      rw [show 3 * (sp_thr 2 p nw x).toNat = (sp_thr 2 p nw x * 3 + ((0 : Nat) : Int)).toNat by omega] at hev
      show (nw + _) % 2 = 0
      omega
theorem bI_hT {m p : Int} {hs cs xs : Nat → Int} (ok : jOk m p hs cs xs) (hi : dIn m p cs) (hv : sp_ev m p hs cs xs) {nw x : Int} (hx : x = 0 ∨ x = 1) {B : List (Int × Int)} (h : bI m p hs cs xs nw B) : (¬ sp_thr m p nw x = -1 → ctL (nw, x) B = th_w hs (sp_thr m p nw x) (cs (sp_thr m p nw x).toNat).toNat) ∧ (sp_thr m p nw x = -1 → ctL (nw, x) B = 0) := by
  have h1 := h.1 nw x (Int.le_refl _) hx
  rw [fc_ev ok hi hv hx] at h1
  exact ⟨fun q => by rw [h1, if_neg q], fun q => by rw [h1, if_pos q]⟩
/-- one beat -/
theorem bI_step {m p : Int} {hs cs xs : Nat → Int} (ok : jOk m p hs cs xs) (hi : dIn m p cs) (hv : sp_ev m p hs cs xs) {nw : Int} {B : List (Int × Int)} {MD : Nat → Int} {n0 : Int} (h : bI m p hs cs xs nw B) :
    bI m p hs cs xs (nw + 1) (hbs m p hs cs xs nw (B, MD, n0) 2).1 ∧ (hbs m p hs cs xs nw (B, MD, n0) 2).2.1 0 = MD 0 + ctL (nw, 0) B ∧ (hbs m p hs cs xs nw (B, MD, n0) 2).2.1 1 = MD 1 + ctL (nw, 1) B ∧ (hbs m p hs cs xs nw (B, MD, n0) 2).2.2 = n0 + ctL (nw, 0) B + ctL (nw, 1) B := by
  have a0 := bI_hT ok hi hv (x := 0) (Or.inl rfl) h
  have a1 := bI_hT ok hi hv (x := 1) (Or.inr rfl) h
  obtain ⟨b1, b2, b3, b4⟩ := hb1_ct (q := (B, MD, n0)) a0.1 a0.2
  have c1 : ctL (nw, 1) (hb1 m p hs cs xs nw 0 (B, MD, n0)).1 = ctL (nw, 1) B := by rw [b4 1, if_neg (by decide)]
  have hT1 : ¬ sp_thr m p nw 1 = -1 → ctL (nw, 1) (hb1 m p hs cs xs nw 0 (B, MD, n0)).1 = th_w hs (sp_thr m p nw 1) (cs (sp_thr m p nw 1).toNat).toNat := fun q => by rw [c1]; exact a1.1 q
  obtain ⟨d1, d2, d3, d4⟩ := hb1_ct (q := hb1 m p hs cs xs nw 0 (B, MD, n0)) hT1 (fun q => by rw [c1]; exact a1.2 q)
  have e : hbs m p hs cs xs nw (B, MD, n0) 2 = hb1 m p hs cs xs nw 1 (hb1 m p hs cs xs nw 0 (B, MD, n0)) := rfl
  have hm := hb1_mem ok hi (x := 1) (Or.inr rfl) hT1 (hb1_mem ok hi (x := 0) (Or.inl rfl) (q := (B, MD, n0)) a0.1 (fun b hb => Or.inl (h.2 b hb)))
  rw [e]
  refine ⟨⟨fun T x hT hx => ?_, fun b hb => ?_⟩, ?_, ?_, ?_⟩
  · rw [d3 T x (by omega), b3 T x (by omega), fc_next ok.2.2.1 (by omega), ← h.1 T x (by omega) hx]
  · rcases hm b hb with z | z
    · by_cases q : b.1 = nw
      · exfalso
        have hp : ctL b (hb1 m p hs cs xs nw 1 (hb1 m p hs cs xs nw 0 (B, MD, n0))).1 = 0 := by
          rw [show b = (nw, b.2) by rw [← q], d4 b.2]
          rcases z.2.2.1 with w | w
          · rw [w, if_neg (by decide), b4 0, if_pos rfl]
          · rw [w, if_pos rfl]
        have := ctL_pos b _ hb
        omega
      · have z1 := z.1
        have z2 := z.2.1
        exact ⟨by omega, by omega, z.2.2⟩
    · exact z
  · rw [d1, va_up_ne _ _ (by decide), b1]
    exact va_up_self _ _ _
  · rw [d1, c1]
    refine (va_up_self _ _ _).trans ?_
    rw [b1, va_up_ne _ _ (by decide)]
    rfl
  · rw [d2, b2, c1]
