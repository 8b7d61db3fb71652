/-! what the model's writing calls do -/
def frH (s : Nat) (g : Nat → Int) : Nat → Int := fun j => if j < 3 * s ∧ j % 3 = 0 then 0 else g j
theorem frH_0 (g : Nat → Int) : frH 0 g = g := by
  funext j
  unfold frH
  rw [if_neg (by omega)]
theorem frH_s (s : Nat) (g : Nat → Int) : va_up (frH s g) (3 * (s : Int)).toNat 0 = frH (s + 1) g := by
  funext j
  by_cases e : j = (3 * (s : Int)).toNat
  · rw [e, va_up_self]
    unfold frH
    rw [if_pos (by omega)]
  · rw [va_up_ne _ _ e]
    unfold frH
    by_cases q : j < 3 * s ∧ j % 3 = 0
    · rw [if_pos q, if_pos (by omega)]
    · rw [if_neg q, if_neg (by omega)]
def frM (M : MS) (a b : Int) (s : Nat) : MS := ((((M.wmo (va_up M.mo (0 : Int).toNat a)).wpe (va_up M.pe (0 : Int).toNat b)).wco (jfill s 1 M.co)).whe (frH s M.he)).wcr (jfill s 0 M.cr)
/-- the numbers from A on laid over those from B on, s of them -/
def cpC (A B : Int) (s : Nat) (g : Nat → Int) : Nat → Int := fun j => if B ≤ (j : Int) ∧ (j : Int) < B + s then g ((j : Int) - B + A).toNat else g j
theorem cpC_0 (A B : Int) (g : Nat → Int) : cpC A B 0 g = g := by
  funext j
  unfold cpC
  rw [if_neg (by omega)]
theorem cpC_s {A B : Int} {s : Nat} (g : Nat → Int) (h0 : 0 ≤ A) (h1 : 0 ≤ B) (hd : A + s < B ∨ B + s ≤ A + s) : va_up (cpC A B s g) (B + (s : Int)).toNat (cpC A B s g (A + (s : Int)).toNat) = cpC A B (s + 1) g := by
  funext j
  by_cases e : j = (B + (s : Int)).toNat
  · rw [e, va_up_self]
    unfold cpC
    rw [if_pos (show B ≤ (((B + (s : Int)).toNat : Nat) : Int) ∧ (((B + (s : Int)).toNat : Nat) : Int) < B + ((s + 1 : Nat) : Int) by omega), show ((((B + (s : Int)).toNat : Nat) : Int) - B + A).toNat = (A + (s : Int)).toNat by omega]
    by_cases z : B ≤ (((A + (s : Int)).toNat : Nat) : Int) ∧ (((A + (s : Int)).toNat : Nat) : Int) < B + (s : Int)
    · rw [if_pos z, show (((A + (s : Int)).toNat : Nat) : Int) - B + A = A + (s : Int) by omega]
    · rw [if_neg z]
  · rw [va_up_ne _ _ e]
    unfold cpC
    by_cases q : B ≤ (j : Int) ∧ (j : Int) < B + (s : Int)
    · rw [if_pos q, if_pos (by omega)]
    · rw [if_neg q, if_neg (by omega)]
def cpM (M : MS) (a b : Int) (s t : Nat) : MS := ((((M.wmo (va_up M.mo b.toNat (M.mo a.toNat))).wpe (va_up M.pe b.toNat (M.pe a.toNat))).wco (cpC (16 * a) (16 * b) s M.co)).whe (cpC (48 * a) (48 * b) t M.he)).wcr (cpC (16 * a) (16 * b) s M.cr)
theorem va_up_P {P : Int → Prop} {g : Nat → Int} {i : Nat} {v : Int} (hg : ∀ j, P (g j)) (hv : P v) : ∀ j, P (va_up g i v j) := fun j => by
  by_cases e : j = i
  · rw [e, va_up_self]; exact hv
  · rw [va_up_ne _ _ e]; exact hg j
theorem jfill_P {P : Int → Prop} {g : Nat → Int} {N : Nat} {v : Int} (hg : ∀ j, P (g j)) (hv : P v) : ∀ j, P (jfill N v g j) := fun j => by
  unfold jfill
  split
  · exact hv
  · exact hg j
theorem frH_P {P : Int → Prop} {g : Nat → Int} {s : Nat} (hg : ∀ j, P (g j)) (hv : P 0) : ∀ j, P (frH s g j) := fun j => by
  unfold frH
  split
  · exact hv
  · exact hg j
theorem cpC_P {P : Int → Prop} {g : Nat → Int} {A B : Int} {s : Nat} (hg : ∀ j, P (g j)) : ∀ j, P (cpC A B s g j) := fun j => by
  unfold cpC
  split
  · exact hg _
  · exact hg j
theorem frM_ok {M : MS} {a b : Int} {s : Nat} (ok : mOk M) (ha : 0 ≤ a ∧ a ≤ 2) (hb : 0 ≤ b ∧ b ≤ 16) : mOk (frM M a b s) := by
  obtain ⟨h1, h2, h3, h4, h5⟩ := ok
  exact ⟨va_up_P (P := fun v => 0 ≤ v ∧ v ≤ 2) h1 ha, va_up_P (P := fun v => 0 ≤ v ∧ v ≤ 16) h2 hb, frH_P (P := fun v => 0 ≤ v ∧ v ≤ 9) h3 (by decide), jfill_P (P := fun v => 0 ≤ v ∧ v ≤ 3) h4 (by decide), jfill_P (P := fun v => v = 0 ∨ v = 1) h5 (Or.inl rfl)⟩
theorem cpM_ok {M : MS} {a b : Int} {s t : Nat} (ok : mOk M) : mOk (cpM M a b s t) := by
  obtain ⟨h1, h2, h3, h4, h5⟩ := ok
  exact ⟨va_up_P (P := fun v => 0 ≤ v ∧ v ≤ 2) h1 (h1 _), va_up_P (P := fun v => 0 ≤ v ∧ v ≤ 16) h2 (h2 _), cpC_P (P := fun v => 0 ≤ v ∧ v ≤ 9) h3, cpC_P (P := fun v => 0 ≤ v ∧ v ≤ 3) h4, cpC_P (P := fun v => v = 0 ∨ v = 1) h5⟩
theorem cpC_in {A B : Int} {s : Nat} {g : Nat → Int} {j : Nat} (h0 : 0 ≤ A) (h1 : 0 ≤ B) (hj : j < s) : cpC A B s g (B + (j : Int)).toNat = g (A + (j : Int)).toNat := by
  unfold cpC
  rw [if_pos (by omega), show (((B + (j : Int)).toNat : Nat) : Int) - B + A = A + (j : Int) by omega]
theorem cpC_out {A B : Int} {s : Nat} {g : Nat → Int} {j : Nat} (h : (j : Int) < B ∨ B + s ≤ (j : Int)) : cpC A B s g j = g j := by
  unfold cpC
  rw [if_neg (by omega)]
/-- a copied draft, and the others -/
theorem cpM_b {M : MS} {a b : Int} (ha : 0 ≤ a ∧ a < 8) (hb : 0 ≤ b ∧ b < 8) : (cpM M a b 16 48).mo b.toNat = M.mo a.toNat ∧ (cpM M a b 16 48).pe b.toNat = M.pe a.toNat ∧ (∀ j, j < 48 → hM (cpM M a b 16 48) b j = hM M a j) ∧ (∀ j, j < 16 → cM (cpM M a b 16 48) b j = cM M a j) ∧ (∀ j, j < 16 → xM (cpM M a b 16 48) b j = xM M a j) := by
  refine ⟨va_up_self _ _ _, va_up_self _ _ _, fun j hj => ?_, fun j hj => ?_, fun j hj => ?_⟩
  · show cpC (48 * a) (48 * b) 48 M.he (48 * b + (j : Int)).toNat = M.he (48 * a + (j : Int)).toNat
    exact cpC_in (by omega) (by omega) hj
  · show cpC (16 * a) (16 * b) 16 M.co (16 * b + (j : Int)).toNat = M.co (16 * a + (j : Int)).toNat
    exact cpC_in (by omega) (by omega) hj
  · show 16 * cpC (16 * a) (16 * b) 16 M.cr (16 * b + (j : Int)).toNat = 16 * M.cr (16 * a + (j : Int)).toNat
    rw [cpC_in (by omega) (by omega) hj]
theorem cpM_o {M : MS} {a b d : Int} (hb : 0 ≤ b ∧ b < 8) (hd : 0 ≤ d ∧ d < 8) (hne : ¬ d = b) : (cpM M a b 16 48).mo d.toNat = M.mo d.toNat ∧ (cpM M a b 16 48).pe d.toNat = M.pe d.toNat ∧ (∀ j, j < 48 → hM (cpM M a b 16 48) d j = hM M d j) ∧ (∀ j, j < 16 → cM (cpM M a b 16 48) d j = cM M d j) ∧ (∀ j, j < 16 → xM (cpM M a b 16 48) d j = xM M d j) := by
  refine ⟨va_up_ne _ _ (by omega), va_up_ne _ _ (by omega), fun j hj => ?_, fun j hj => ?_, fun j hj => ?_⟩
  · show cpC (48 * a) (48 * b) 48 M.he (48 * d + (j : Int)).toNat = M.he (48 * d + (j : Int)).toNat
    exact cpC_out (by omega)
  · show cpC (16 * a) (16 * b) 16 M.co (16 * d + (j : Int)).toNat = M.co (16 * d + (j : Int)).toNat
    exact cpC_out (by omega)
  · show 16 * cpC (16 * a) (16 * b) 16 M.cr (16 * d + (j : Int)).toNat = 16 * M.cr (16 * d + (j : Int)).toNat
    rw [cpC_out (by omega)]
/-- the floor's arrays hold these balls -/
def mBl (M : MS) (B : List (Int × Int)) : Prop := M.bl = (B.length : Int) ∧ B.length ≤ 27 ∧ ∀ j, j < B.length → M.la j = (B.getD j (0, 0)).1 ∧ M.ha j = (B.getD j (0, 0)).2
/-- the ball that lands last, of the first k -/
def hiM (la : Nat → Int) : Nat → Int
  | 0 => -1
  | k + 1 => if hiM la k < 0 ∨ la (hiM la k).toNat < la k then (k : Int) else hiM la k
theorem hiM_rg (la : Nat → Int) : ∀ k : Nat, -1 ≤ hiM la k ∧ hiM la k < k
  | 0 => by unfold hiM; omega
  | k + 1 => by
    have := hiM_rg la k
    unfold hiM
    split <;> omega
