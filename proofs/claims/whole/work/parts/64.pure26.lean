/-! a draft of the class beside one of the model -/
def dZ (hs cs xs : Nat → Int) : Prop := (∀ j, 48 ≤ j → hs j = 0) ∧ (∀ j, 16 ≤ j → cs j = 0) ∧ ∀ j, 16 ≤ j → xs j = 0
def dK (m p : Int) (hs cs xs : Nat → Int) (M : MS) (d : Int) : Prop := jOk m p hs cs xs ∧ dIn m p cs ∧ (¬ m = 2 → ∀ s : Nat, (s : Int) < p → xs s = 0) ∧ dZ hs cs xs ∧ dRl m p hs cs xs (M.mo d.toNat) (M.pe d.toNat) (hM M d) (cM M d) (xM M d)
theorem dK_cg {m p : Int} {hs cs xs : Nat → Int} {M M' : MS} {d : Int} (h : dK m p hs cs xs M d) (h1 : M'.mo d.toNat = M.mo d.toNat) (h2 : M'.pe d.toNat = M.pe d.toNat) (h3 : ∀ j, j < 48 → hM M' d j = hM M d j) (h4 : ∀ j, j < 16 → cM M' d j = cM M d j) (h5 : ∀ j, j < 16 → xM M' d j = xM M d j) : dK m p hs cs xs M' d := by
  obtain ⟨a1, a2, a3, a4, a5, a6, a7⟩ := h
  have hp := a1.2.1
  refine ⟨a1, a2, a3, a4, h1.trans a5, h2.trans a6, fun s hs9 => ⟨(h4 s (by omega)).trans (a7 s hs9).1, (h5 s (by omega)).trans (a7 s hs9).2.1, fun k hk => ?_⟩⟩
  have := a2 s hs9
  exact (h3 (s * 3 + k) (by omega)).trans ((a7 s hs9).2.2 k hk)
/-- draft 0, by the model's rows themselves -/
theorem dK_0 {m p : Int} {hs cs xs : Nat → Int} {M : MS} (a1 : jOk m p hs cs xs) (a2 : dIn m p cs) (a3 : ¬ m = 2 → ∀ s : Nat, (s : Int) < p → xs s = 0) (a4 : dZ hs cs xs) (h1 : M.mo (0 : Int).toNat = m) (h2 : M.pe (0 : Int).toNat = p) (h3 : ∀ s : Nat, (s : Int) < p → M.co s = cs s ∧ 16 * M.cr s = xs s ∧ ∀ k : Nat, (k : Int) < cs s → M.he (s * 3 + k) = hs (s * 3 + k)) : dK m p hs cs xs M 0 := by
  refine ⟨a1, a2, a3, a4, h1, h2, fun s hs9 => ⟨?_, ?_, fun k hk => ?_⟩⟩
  · rw [cM_0]; exact (h3 s hs9).1
  · show 16 * M.cr (16 * 0 + (s : Int)).toNat = _
    rw [show (16 * 0 + (s : Int)).toNat = s by omega]; exact (h3 s hs9).2.1
  · rw [hM_0]; exact (h3 s hs9).2.2 k hk
theorem dK_r {m p : Int} {hs cs xs : Nat → Int} {M : MS} (h : dK m p hs cs xs M 0) : M.mo (0 : Int).toNat = m ∧ M.pe (0 : Int).toNat = p ∧ ∀ s : Nat, (s : Int) < p → M.co s = cs s ∧ 16 * M.cr s = xs s ∧ ∀ k : Nat, (k : Int) < cs s → M.he (s * 3 + k) = hs (s * 3 + k) := by
  obtain ⟨a1, a2, a3, a4, a5, a6, a7⟩ := h
  refine ⟨a5, a6, fun s hs9 => ⟨?_, ?_, fun k hk => ?_⟩⟩
  · have := (a7 s hs9).1
    rwa [cM_0] at this
  · have : 16 * M.cr (16 * 0 + (s : Int)).toNat = xs s := (a7 s hs9).2.1
    rwa [show (16 * 0 + (s : Int)).toNat = s by omega] at this
  · have := (a7 s hs9).2.2 k hk
    rwa [hM_0] at this
theorem dK_begin {a b : Int} {hs cs xs : Nat → Int} {M : MS} (hz : dZ hs cs xs) (ha : 0 ≤ a ∧ a ≤ 2) (hb : 1 ≤ b ∧ b ≤ 16) (hab : a = 2 → b % 2 = 0) : dK a b (jfill 48 0 hs) (jfill 16 1 cs) (jfill 16 0 xs) (frM M a b 16) 0 := by
  have e1 : ∀ j, jfill 48 0 hs j = 0 := fun j => by
    unfold jfill
    split
    · rfl
    · exact hz.1 j (by omega)
  have e2 : ∀ j, jfill 16 0 xs j = 0 := fun j => by
    unfold jfill
    split
    · rfl
    · exact hz.2.2 j (by omega)
  have e3 : ∀ j, jfill 16 1 cs j = if j < 16 then 1 else 0 := fun j => by
    unfold jfill
    split
    · rfl
    · exact hz.2.1 j (by omega)
  refine dK_0 ⟨ha, hb, fun j => by rw [e1]; decide, fun j => by rw [e3]; split <;> decide, fun j => Or.inl (e2 j), fun q => ⟨hab q, fun j => by rw [e1]; rfl⟩⟩ (fun s hs9 => by rw [e3, if_pos (by omega)]; exact ⟨by decide, by decide, fun _ => rfl⟩) (fun _ s _ => e2 s) ⟨fun j _ => e1 j, fun j hj => by rw [e3, if_neg (by omega)], fun j _ => e2 j⟩ (show va_up M.mo (0 : Int).toNat a (0 : Int).toNat = a from va_up_self _ _ _) (show va_up M.pe (0 : Int).toNat b (0 : Int).toNat = b from va_up_self _ _ _) (fun s hs9 => ⟨?_, ?_, fun k hk => ?_⟩)
  · rw [e3, if_pos (by omega)]
    show jfill 16 1 M.co s = 1
    unfold jfill
    rw [if_pos (by omega)]
  · rw [e2]
    show 16 * jfill 16 0 M.cr s = 0
    unfold jfill
    rw [if_pos (by omega)]
    rfl
  · rw [e3, if_pos (by omega)] at hk
    rw [e1]
    show frH 16 M.he (s * 3 + k) = 0
    unfold frH
    rw [if_pos (by omega)]
theorem dK_put {m p a b c : Int} {hs cs xs : Nat → Int} {M : MS} (h : dK m p hs cs xs M 0) (ha : 0 ≤ a ∧ a < p) (hb : 0 ≤ b ∧ b ≤ 9) (hm : m = 2 → b % 2 = 0) (hc : c = 0 ∨ c = 1) (hmc : ¬ m = 2 → c = 0) : dK m p (va_up hs (a * 3).toNat b) cs (va_up xs a.toNat (if c = 0 then 0 else 16)) (((M.wT 0).whe (va_up M.he (a * 3).toNat b)).wcr (va_up M.cr a.toNat c)) 0 := by
  obtain ⟨r1, r2, r3⟩ := dK_r h
  obtain ⟨⟨o1, o2, o3, o4, o5, o6⟩, a2, a3, ⟨z1, z2, z3⟩, -⟩ := h
  have hx9 : (if c = 0 then (0 : Int) else 16) = 16 * c := by rcases hc with q | q <;> subst q <;> rfl
  rw [hx9]
  refine dK_0 ⟨o1, o2, va_up_P (P := fun v => 0 ≤ v ∧ v ≤ 9) o3 hb, o4, va_up_P (P := fun v => v = 0 ∨ v = 16) o5 (by omega), fun q => ⟨(o6 q).1, fun j => ?_⟩⟩ a2 (fun q s hs9 => ?_) ⟨fun j hj => ?_, z2, fun j hj => ?_⟩ r1 r2 (fun s hs9 => ⟨(r3 s hs9).1, ?_, fun k hk => ?_⟩)
  · by_cases e : 3 * j = (a * 3).toNat
    · rw [e, va_up_self]; exact hm q
    · rw [va_up_ne _ _ e]; exact (o6 q).2 j
  · by_cases e : s = a.toNat
    · rw [e, va_up_self, hmc q]; rfl
    · rw [va_up_ne _ _ e]; exact a3 q s hs9
  · rw [va_up_ne _ _ (by omega)]; exact z1 j hj
  · rw [va_up_ne _ _ (by omega)]; exact z3 j hj
  · show 16 * va_up M.cr a.toNat c s = _
    by_cases e : s = a.toNat
    · rw [e, va_up_self, va_up_self]
    · rw [va_up_ne _ _ e, va_up_ne _ _ e]; exact (r3 s hs9).2.1
  · show va_up M.he (a * 3).toNat b (s * 3 + k) = _
    by_cases e : s * 3 + k = (a * 3).toNat
    · rw [e, va_up_self, va_up_self]
    · rw [va_up_ne _ _ e, va_up_ne _ _ e]; exact (r3 s hs9).2.2 k hk
theorem dK_add {p a b : Int} {hs cs xs : Nat → Int} {M : MS} (h : dK 1 p hs cs xs M 0) (ha : 0 ≤ a ∧ a < p) (hb : 0 ≤ b ∧ b ≤ 9) (hc : cs a.toNat < 3) : dK 1 p (va_up hs (a * 3 + cs a.toNat).toNat b) (va_up cs a.toNat (cs a.toNat + 1)) xs (((M.wT 0).wco (va_up M.co a.toNat (M.co a.toNat + 1))).whe (va_up M.he (a * 3 + M.co a.toNat).toNat b)) 0 := by
  obtain ⟨r1, r2, r3⟩ := dK_r h
  obtain ⟨⟨o1, o2, o3, o4, o5, o6⟩, a2, a3, ⟨z1, z2, z3⟩, -⟩ := h
  have hca := a2 a.toNat (by omega)
  have hrc := (r3 a.toNat (by omega)).1
  rw [hrc]
  refine dK_0 ⟨o1, o2, va_up_P (P := fun v => 0 ≤ v ∧ v ≤ 9) o3 hb, va_up_P (P := fun v => 0 ≤ v ∧ v ≤ 3) o4 (by omega), o5, fun q => absurd q (by decide)⟩ (fun s hs9 => ?_) a3 ⟨fun j hj => ?_, fun j hj => ?_, z3⟩ r1 r2 (fun s hs9 => ⟨?_, (r3 s hs9).2.1, fun k hk => ?_⟩)
  · by_cases e : s = a.toNat
    · rw [e, va_up_self]; exact ⟨by omega, by omega, fun q => absurd rfl q⟩
    · rw [va_up_ne _ _ e]; exact a2 s hs9
  · rw [va_up_ne _ _ (by omega)]; exact z1 j hj
  · rw [va_up_ne _ _ (by omega)]; exact z2 j hj
  · show va_up M.co a.toNat (cs a.toNat + 1) s = _
    by_cases e : s = a.toNat
    · rw [e, va_up_self, va_up_self]
    · rw [va_up_ne _ _ e, va_up_ne _ _ e]; exact (r3 s hs9).1
  · show va_up M.he (a * 3 + cs a.toNat).toNat b (s * 3 + k) = _
    by_cases e : s * 3 + k = (a * 3 + cs a.toNat).toNat
    · rw [e, va_up_self, va_up_self]
    · rw [va_up_ne _ _ e, va_up_ne _ _ e]
      refine (r3 s hs9).2.2 k ?_
      by_cases e2 : s = a.toNat
      · subst e2
        rw [va_up_self] at hk
        omega
      · rw [va_up_ne _ _ e2] at hk
        exact hk
theorem dK_swap {p a b A B : Int} {hs cs xs : Nat → Int} {M : MS} (h : dK 0 p hs cs xs M 0) (ha : 0 ≤ a ∧ a < p) (hb : 0 ≤ b ∧ b < p) (hA : 0 ≤ A ∧ A ≤ 9) (hB : 0 ≤ B ∧ B ≤ 9) : dK 0 p (va_up (va_up hs (a * 3).toNat A) (b * 3).toNat B) cs (va_up (va_up xs a.toNat 0) b.toNat 0) ((M.wT 0).whe (va_up (va_up M.he (a * 3).toNat A) (b * 3).toNat B)) 0 := by
  obtain ⟨r1, r2, r3⟩ := dK_r h
  obtain ⟨⟨o1, o2, o3, o4, o5, o6⟩, a2, a3, ⟨z1, z2, z3⟩, -⟩ := h
  have hxs : ∀ s : Nat, (s : Int) < p → va_up (va_up xs a.toNat 0) b.toNat 0 s = 0 := fun s hs9 => by
    by_cases e : s = b.toNat
    · rw [e, va_up_self]
    · rw [va_up_ne _ _ e]
      by_cases e2 : s = a.toNat
      · rw [e2, va_up_self]
      · rw [va_up_ne _ _ e2]; exact a3 (by decide) s hs9
  refine dK_0 ⟨o1, o2, va_up_P (P := fun v => 0 ≤ v ∧ v ≤ 9) (va_up_P (P := fun v => 0 ≤ v ∧ v ≤ 9) o3 hA) hB, o4, va_up_P (P := fun v => v = 0 ∨ v = 16) (va_up_P (P := fun v => v = 0 ∨ v = 16) o5 (Or.inl rfl)) (Or.inl rfl), fun q => absurd q (by decide)⟩ a2 (fun _ => hxs) ⟨fun j hj => ?_, z2, fun j hj => ?_⟩ r1 r2 (fun s hs9 => ⟨(r3 s hs9).1, ?_, fun k hk => ?_⟩)
  · rw [va_up_ne _ _ (by omega), va_up_ne _ _ (by omega)]; exact z1 j hj
  · rw [va_up_ne _ _ (by omega), va_up_ne _ _ (by omega)]; exact z3 j hj
  · rw [hxs s hs9]
    have e := (r3 s hs9).2.1
    rw [a3 (by decide) s hs9] at e
    exact e
  · show va_up (va_up M.he (a * 3).toNat A) (b * 3).toNat B (s * 3 + k) = _
    by_cases e : s * 3 + k = (b * 3).toNat
    · rw [e, va_up_self, va_up_self]
    · rw [va_up_ne _ _ e, va_up_ne _ _ e]
      by_cases e2 : s * 3 + k = (a * 3).toNat
      · rw [e2, va_up_self, va_up_self]
      · rw [va_up_ne _ _ e2, va_up_ne _ _ e2]; exact (r3 s hs9).2.2 k hk
theorem dK_h0 {m p : Int} {hs cs xs : Nat → Int} {M : MS} {d : Int} (h : dK m p hs cs xs M d) : ∀ s : Int, 0 ≤ s → s < p → hM M d (s * 3).toNat = hs (s * 3).toNat := dRl_h0 h.2.2.2.2 h.2.1
theorem dK_canon {p f : Int} {hs cs xs : Nat → Int} {M : MS} {g : Nat → Int} (h : dK 0 p hs cs xs M 0) : dK 0 p (rt p f hs p.toNat) cs (jfill p.toNat 0 xs) (((M.wT 0).whe (rt p f M.he p.toNat)).wtu g) 0 := by
  have h0 := dK_h0 h
  obtain ⟨r1, r2, r3⟩ := dK_r h
  obtain ⟨⟨o1, o2, o3, o4, o5, o6⟩, a2, a3, ⟨z1, z2, z3⟩, -⟩ := h
  have hx0 : ∀ s : Nat, (s : Int) < p → jfill p.toNat 0 xs s = 0 := fun s hs9 => by
    unfold jfill
    rw [if_pos (by omega)]
  refine dK_0 ⟨o1, o2, fun j => ?_, o4, jfill_P (P := fun v => v = 0 ∨ v = 16) o5 (Or.inl rfl), fun q => absurd q (by decide)⟩ a2 (fun _ => hx0) ⟨fun j hj => ?_, z2, fun j hj => ?_⟩ r1 r2 (fun s hs9 => ⟨(r3 s hs9).1, ?_, fun k hk => ?_⟩)
  · unfold rt
    split
    · exact o3 _
    · exact o3 _
  · unfold rt
    rw [if_neg (by omega)]
    exact z1 j hj
  · unfold jfill
    rw [if_neg (by omega)]
    exact z3 j hj
  · rw [hx0 s hs9]
    have e := (r3 s hs9).2.1
    rw [a3 (by decide) s hs9] at e
    exact e
  · have hcs := (a2 s hs9).2.2 (by decide)
    have ek : k = 0 := by omega
    subst ek
    show rt p f M.he p.toNat (s * 3 + 0) = _
    unfold rt
    rw [if_pos (by omega), if_pos (by omega)]
    have hm := emod_p (x := f + (((s * 3 + 0) / 3 : Nat) : Int)) o2.1
    have := h0 _ hm.1 hm.2
    rwa [hM_0] at this
theorem jcpy_z {N : Nat} {f g : Nat → Int} (hf : ∀ j, N ≤ j → f j = 0) (hg : ∀ j, N ≤ j → g j = 0) : jcpy N f g = f := by
  funext j
  unfold jcpy
  split
  · rfl
  · rw [hf j (by omega), hg j (by omega)]
