/-! more rows for walks: fewer locals, numbers, filled and copied rows -/
def jl_le : List (Option Value) → List (Option Value) → Prop
  | [], _ => True
  | none :: a, _ :: b => jl_le a b
  | none :: a, [] => jl_le a []
  | some v :: a, o :: b => o = some v ∧ jl_le a b
  | some _ :: _, [] => False
theorem jl_le_at : ∀ {A B : List (Option Value)}, jl_le A B → ∀ (i : Nat) (v : Value), A[i]? = some (some v) → B[i]? = some (some v)
  | [], _, _, i, v, h => by simp at h
  | none :: a, _ :: b, hl, 0, v, h => by simp at h
  | none :: a, _ :: b, hl, i + 1, v, h => by
    have h1 := jl_le_at (A := a) (B := b) hl i v (by simpa using h)
    simpa using h1
  | none :: a, [], hl, 0, v, h => by simp at h
  | none :: a, [], hl, i + 1, v, h => by
    have h1 := jl_le_at (A := a) (B := []) hl i v (by simpa using h)
    simp at h1
  | some w :: a, o :: b, hl, 0, v, h => by
    simp at h
    subst h
    rw [hl.1]
    rfl
  | some w :: a, o :: b, hl, i + 1, v, h => by
    have h1 := jl_le_at (A := a) (B := b) hl.2 i v (by simpa using h)
    simpa using h1
/-- what is known of fewer locals is known -/
theorem jl_less {l : Launch} {G : jl_G} {F : List Frame → Array Value → State → Nat → Nat → (Nat → Nat) → Nat → State → Prop} {M : jl_M} {d pc : Nat} {L L' : List (Option Value)} {st : List Value} {n : Nat} {h : Nat → va_E} {ck sk : Nat} (hl9 : jl_le L' L) (k : jl_AW l G F M d pc L' st n h ck sk) : jl_AW l G F M d pc L st n h ck sk := by
  intro p e R s m args below meth c al0 n0 mc ms al H locs ls cells slots C hR hE hl hs h1 h2
  exact k p e R s m args below meth c al0 n0 mc ms al H locs ls cells slots C hR hE ⟨hl.1, hl.2.1, fun i v hv => hl.2.2 i v (jl_le_at hl9 i v hv)⟩ hs h1 h2
theorem zI_nat (N : Nat) : Int32.ofNat N = zI (N : Int) := Int32.ofInt_eq_ofNat.symm
theorem va_up_id {h : Nat → va_E} {x : Nat} {e : va_E} (he : h x = e) : va_up h x e = h := by
  funext j
  by_cases hj : j = x
  · rw [hj, va_up_self, he]
  · rw [va_up_ne _ _ hj]
def jfill (N : Nat) (v : Int) (g : Nat → Int) : Nat → Int := fun j => if j < N then v else g j
theorem jfill_0 (v : Int) (g : Nat → Int) : jfill 0 v g = g := by
  funext j
  simp [jfill]
theorem jfill_s (a : Nat) (v : Int) (g : Nat → Int) : va_up (jfill a v g) a v = jfill (a + 1) v g := by
  funext j
  by_cases hj : j = a
  · rw [hj, va_up_self]
    simp [jfill]
  · rw [va_up_ne _ _ hj]
    have : (j < a) = (j < a + 1) := by apply propext; omega
    simp [jfill, this]
def jcpy (N : Nat) (f g : Nat → Int) : Nat → Int := fun j => if j < N then f j else g j
theorem jcpy_va (N : Nat) (f g : Nat → Int) : va_cpy (fun j => zI (f j)) (fun j => zI (g j)) 0 0 N = fun j => zI (jcpy N f g j) := by
  funext j
  by_cases hj : j < N
  · simp [va_cpy, jcpy, hj]
  · simp [va_cpy, jcpy, hj]
/-- nothing has changed but from lo to hi -/
def jfr (h h' : Nat → va_E) (lo hi : Nat) : Prop := ∀ y, y < lo ∨ hi ≤ y → h' y = h y
/-- the whole of an int array into another of its length -/
theorem jz_acopy0 {l : Launch} {G : jl_G} {F : List Frame → Array Value → State → Nat → Nat → (Nat → Nat) → Nat → State → Prop} {M : jl_M} {d pc : Nat} {L : List (Option Value)} {st : List Value} {n : Nat} {h : Nat → va_E} {ck sk : Nat} {x y N ix : Nat} {f g : Nat → Int} (hN : N < 2147483648) (hd : decode M.2.1 pc = .ok (.invokestatic ix, 3)) (he0 : h x = jI N (fun j => zI (f j))) (he1 : h y = jI N (fun j => zI (g j))) (w1 : Cond.methodLink M.1.cls ix arraycopyName ∈ jl_T) (w2 : Cond.native arraycopyName ∈ jl_T) (w3 : Cond.static arraycopyName ∈ jl_T) (w4 : Cond.initialized "java/lang/System" ∈ jl_T) (hc : (st.map fun v => v.category).sum ≤ 8)
    (k : ∀ h2, h2 = va_up h y (jI N (fun j => zI (jcpy N f g j))) → jl_AW l G F M d (pc + 3) L st n h2 ck sk) : jl_AW l G F M d pc L (.int (zI (N : Int)) :: .int (zI 0) :: .ref y :: .int (zI 0) :: .ref x :: st) n h ck sk := by
  have e0 : (zI 0).toNatClampNeg = 0 := by rw [zI_cl ⟨by decide, by decide⟩]; rfl
  have eN : (zI (N : Int)).toNatClampNeg = N := by rw [zI_cl ⟨by omega, by omega⟩]; rfl
  have z0 : ¬ zI 0 < 0 := by decide
  refine jl_acopy hd he0 he1 w1 w2 w3 w4 z0 z0 (fun q => ?_) (by rw [e0, eN]; omega) (by rw [e0, eN]; omega) hc ?_
  · rw [show (0 : Int32) = zI 0 from rfl, zI_lt ⟨by omega, by omega⟩ ⟨by decide, by decide⟩] at q
    omega
  · rw [e0, eN, jcpy_va]
    exact k _ rfl
