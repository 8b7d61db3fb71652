/-! the model: its numbers and rows -/
def MS : Type := Int × (Nat → Int) × (Nat → Int) × (Nat → Int) × (Nat → Int) × (Nat → Int) × Int × Int × Int × (Nat → Int) × (Nat → Int) × Int × Int × Int × Int × (Nat → Int) × (Nat → Int) × (Nat → Int) × (Nat → Int) × (Nat → Int) × (Nat → Int)
def MS.T (M : MS) : Int := M.1
def MS.mo (M : MS) : (Nat → Int) := M.2.1
def MS.pe (M : MS) : (Nat → Int) := M.2.2.1
def MS.co (M : MS) : (Nat → Int) := M.2.2.2.1
def MS.he (M : MS) : (Nat → Int) := M.2.2.2.2.1
def MS.cr (M : MS) : (Nat → Int) := M.2.2.2.2.2.1
def MS.jn (M : MS) : Int := M.2.2.2.2.2.2.1
def MS.ja (M : MS) : Int := M.2.2.2.2.2.2.2.1
def MS.jb (M : MS) : Int := M.2.2.2.2.2.2.2.2.1
def MS.wy (M : MS) : (Nat → Int) := M.2.2.2.2.2.2.2.2.2.1
def MS.fa (M : MS) : (Nat → Int) := M.2.2.2.2.2.2.2.2.2.2.1
def MS.nw (M : MS) : Int := M.2.2.2.2.2.2.2.2.2.2.2.1
def MS.bl (M : MS) : Int := M.2.2.2.2.2.2.2.2.2.2.2.2.1
def MS.lt (M : MS) : Int := M.2.2.2.2.2.2.2.2.2.2.2.2.2.1
def MS.rt (M : MS) : Int := M.2.2.2.2.2.2.2.2.2.2.2.2.2.2.1
def MS.la (M : MS) : (Nat → Int) := M.2.2.2.2.2.2.2.2.2.2.2.2.2.2.2.1
def MS.ha (M : MS) : (Nat → Int) := M.2.2.2.2.2.2.2.2.2.2.2.2.2.2.2.2.1
def MS.w1 (M : MS) : (Nat → Int) := M.2.2.2.2.2.2.2.2.2.2.2.2.2.2.2.2.2.1
def MS.mr (M : MS) : (Nat → Int) := M.2.2.2.2.2.2.2.2.2.2.2.2.2.2.2.2.2.2.1
def MS.rw (M : MS) : (Nat → Int) := M.2.2.2.2.2.2.2.2.2.2.2.2.2.2.2.2.2.2.2.1
def MS.tu (M : MS) : (Nat → Int) := M.2.2.2.2.2.2.2.2.2.2.2.2.2.2.2.2.2.2.2.2
def MS.wT (M : MS) (a : Int) : MS := (a, M.2)
def MS.wmo (M : MS) (a : (Nat → Int)) : MS := (M.1, a, M.2.2)
def MS.wpe (M : MS) (a : (Nat → Int)) : MS := (M.1, M.2.1, a, M.2.2.2)
def MS.wco (M : MS) (a : (Nat → Int)) : MS := (M.1, M.2.1, M.2.2.1, a, M.2.2.2.2)
def MS.whe (M : MS) (a : (Nat → Int)) : MS := (M.1, M.2.1, M.2.2.1, M.2.2.2.1, a, M.2.2.2.2.2)
def MS.wcr (M : MS) (a : (Nat → Int)) : MS := (M.1, M.2.1, M.2.2.1, M.2.2.2.1, M.2.2.2.2.1, a, M.2.2.2.2.2.2)
def MS.wjn (M : MS) (a : Int) : MS := (M.1, M.2.1, M.2.2.1, M.2.2.2.1, M.2.2.2.2.1, M.2.2.2.2.2.1, a, M.2.2.2.2.2.2.2)
def MS.wja (M : MS) (a : Int) : MS := (M.1, M.2.1, M.2.2.1, M.2.2.2.1, M.2.2.2.2.1, M.2.2.2.2.2.1, M.2.2.2.2.2.2.1, a, M.2.2.2.2.2.2.2.2)
def MS.wjb (M : MS) (a : Int) : MS := (M.1, M.2.1, M.2.2.1, M.2.2.2.1, M.2.2.2.2.1, M.2.2.2.2.2.1, M.2.2.2.2.2.2.1, M.2.2.2.2.2.2.2.1, a, M.2.2.2.2.2.2.2.2.2)
def MS.wwy (M : MS) (a : (Nat → Int)) : MS := (M.1, M.2.1, M.2.2.1, M.2.2.2.1, M.2.2.2.2.1, M.2.2.2.2.2.1, M.2.2.2.2.2.2.1, M.2.2.2.2.2.2.2.1, M.2.2.2.2.2.2.2.2.1, a, M.2.2.2.2.2.2.2.2.2.2)
def MS.wfa (M : MS) (a : (Nat → Int)) : MS := (M.1, M.2.1, M.2.2.1, M.2.2.2.1, M.2.2.2.2.1, M.2.2.2.2.2.1, M.2.2.2.2.2.2.1, M.2.2.2.2.2.2.2.1, M.2.2.2.2.2.2.2.2.1, M.2.2.2.2.2.2.2.2.2.1, a, M.2.2.2.2.2.2.2.2.2.2.2)
def MS.wnw (M : MS) (a : Int) : MS := (M.1, M.2.1, M.2.2.1, M.2.2.2.1, M.2.2.2.2.1, M.2.2.2.2.2.1, M.2.2.2.2.2.2.1, M.2.2.2.2.2.2.2.1, M.2.2.2.2.2.2.2.2.1, M.2.2.2.2.2.2.2.2.2.1, M.2.2.2.2.2.2.2.2.2.2.1, a, M.2.2.2.2.2.2.2.2.2.2.2.2)
def MS.wbl (M : MS) (a : Int) : MS := (M.1, M.2.1, M.2.2.1, M.2.2.2.1, M.2.2.2.2.1, M.2.2.2.2.2.1, M.2.2.2.2.2.2.1, M.2.2.2.2.2.2.2.1, M.2.2.2.2.2.2.2.2.1, M.2.2.2.2.2.2.2.2.2.1, M.2.2.2.2.2.2.2.2.2.2.1, M.2.2.2.2.2.2.2.2.2.2.2.1, a, M.2.2.2.2.2.2.2.2.2.2.2.2.2)
def MS.wlt (M : MS) (a : Int) : MS := (M.1, M.2.1, M.2.2.1, M.2.2.2.1, M.2.2.2.2.1, M.2.2.2.2.2.1, M.2.2.2.2.2.2.1, M.2.2.2.2.2.2.2.1, M.2.2.2.2.2.2.2.2.1, M.2.2.2.2.2.2.2.2.2.1, M.2.2.2.2.2.2.2.2.2.2.1, M.2.2.2.2.2.2.2.2.2.2.2.1, M.2.2.2.2.2.2.2.2.2.2.2.2.1, a, M.2.2.2.2.2.2.2.2.2.2.2.2.2.2)
def MS.wrt (M : MS) (a : Int) : MS := (M.1, M.2.1, M.2.2.1, M.2.2.2.1, M.2.2.2.2.1, M.2.2.2.2.2.1, M.2.2.2.2.2.2.1, M.2.2.2.2.2.2.2.1, M.2.2.2.2.2.2.2.2.1, M.2.2.2.2.2.2.2.2.2.1, M.2.2.2.2.2.2.2.2.2.2.1, M.2.2.2.2.2.2.2.2.2.2.2.1, M.2.2.2.2.2.2.2.2.2.2.2.2.1, M.2.2.2.2.2.2.2.2.2.2.2.2.2.1, a, M.2.2.2.2.2.2.2.2.2.2.2.2.2.2.2)
def MS.wla (M : MS) (a : (Nat → Int)) : MS := (M.1, M.2.1, M.2.2.1, M.2.2.2.1, M.2.2.2.2.1, M.2.2.2.2.2.1, M.2.2.2.2.2.2.1, M.2.2.2.2.2.2.2.1, M.2.2.2.2.2.2.2.2.1, M.2.2.2.2.2.2.2.2.2.1, M.2.2.2.2.2.2.2.2.2.2.1, M.2.2.2.2.2.2.2.2.2.2.2.1, M.2.2.2.2.2.2.2.2.2.2.2.2.1, M.2.2.2.2.2.2.2.2.2.2.2.2.2.1, M.2.2.2.2.2.2.2.2.2.2.2.2.2.2.1, a, M.2.2.2.2.2.2.2.2.2.2.2.2.2.2.2.2)
def MS.wha (M : MS) (a : (Nat → Int)) : MS := (M.1, M.2.1, M.2.2.1, M.2.2.2.1, M.2.2.2.2.1, M.2.2.2.2.2.1, M.2.2.2.2.2.2.1, M.2.2.2.2.2.2.2.1, M.2.2.2.2.2.2.2.2.1, M.2.2.2.2.2.2.2.2.2.1, M.2.2.2.2.2.2.2.2.2.2.1, M.2.2.2.2.2.2.2.2.2.2.2.1, M.2.2.2.2.2.2.2.2.2.2.2.2.1, M.2.2.2.2.2.2.2.2.2.2.2.2.2.1, M.2.2.2.2.2.2.2.2.2.2.2.2.2.2.1, M.2.2.2.2.2.2.2.2.2.2.2.2.2.2.2.1, a, M.2.2.2.2.2.2.2.2.2.2.2.2.2.2.2.2.2)
def MS.ww1 (M : MS) (a : (Nat → Int)) : MS := (M.1, M.2.1, M.2.2.1, M.2.2.2.1, M.2.2.2.2.1, M.2.2.2.2.2.1, M.2.2.2.2.2.2.1, M.2.2.2.2.2.2.2.1, M.2.2.2.2.2.2.2.2.1, M.2.2.2.2.2.2.2.2.2.1, M.2.2.2.2.2.2.2.2.2.2.1, M.2.2.2.2.2.2.2.2.2.2.2.1, M.2.2.2.2.2.2.2.2.2.2.2.2.1, M.2.2.2.2.2.2.2.2.2.2.2.2.2.1, M.2.2.2.2.2.2.2.2.2.2.2.2.2.2.1, M.2.2.2.2.2.2.2.2.2.2.2.2.2.2.2.1, M.2.2.2.2.2.2.2.2.2.2.2.2.2.2.2.2.1, a, M.2.2.2.2.2.2.2.2.2.2.2.2.2.2.2.2.2.2)
def MS.wmr (M : MS) (a : (Nat → Int)) : MS := (M.1, M.2.1, M.2.2.1, M.2.2.2.1, M.2.2.2.2.1, M.2.2.2.2.2.1, M.2.2.2.2.2.2.1, M.2.2.2.2.2.2.2.1, M.2.2.2.2.2.2.2.2.1, M.2.2.2.2.2.2.2.2.2.1, M.2.2.2.2.2.2.2.2.2.2.1, M.2.2.2.2.2.2.2.2.2.2.2.1, M.2.2.2.2.2.2.2.2.2.2.2.2.1, M.2.2.2.2.2.2.2.2.2.2.2.2.2.1, M.2.2.2.2.2.2.2.2.2.2.2.2.2.2.1, M.2.2.2.2.2.2.2.2.2.2.2.2.2.2.2.1, M.2.2.2.2.2.2.2.2.2.2.2.2.2.2.2.2.1, M.2.2.2.2.2.2.2.2.2.2.2.2.2.2.2.2.2.1, a, M.2.2.2.2.2.2.2.2.2.2.2.2.2.2.2.2.2.2.2)
def MS.wrw (M : MS) (a : (Nat → Int)) : MS := (M.1, M.2.1, M.2.2.1, M.2.2.2.1, M.2.2.2.2.1, M.2.2.2.2.2.1, M.2.2.2.2.2.2.1, M.2.2.2.2.2.2.2.1, M.2.2.2.2.2.2.2.2.1, M.2.2.2.2.2.2.2.2.2.1, M.2.2.2.2.2.2.2.2.2.2.1, M.2.2.2.2.2.2.2.2.2.2.2.1, M.2.2.2.2.2.2.2.2.2.2.2.2.1, M.2.2.2.2.2.2.2.2.2.2.2.2.2.1, M.2.2.2.2.2.2.2.2.2.2.2.2.2.2.1, M.2.2.2.2.2.2.2.2.2.2.2.2.2.2.2.1, M.2.2.2.2.2.2.2.2.2.2.2.2.2.2.2.2.1, M.2.2.2.2.2.2.2.2.2.2.2.2.2.2.2.2.2.1, M.2.2.2.2.2.2.2.2.2.2.2.2.2.2.2.2.2.2.1, a, M.2.2.2.2.2.2.2.2.2.2.2.2.2.2.2.2.2.2.2.2)
def MS.wtu (M : MS) (a : (Nat → Int)) : MS := (M.1, M.2.1, M.2.2.1, M.2.2.2.1, M.2.2.2.2.1, M.2.2.2.2.2.1, M.2.2.2.2.2.2.1, M.2.2.2.2.2.2.2.1, M.2.2.2.2.2.2.2.2.1, M.2.2.2.2.2.2.2.2.2.1, M.2.2.2.2.2.2.2.2.2.2.1, M.2.2.2.2.2.2.2.2.2.2.2.1, M.2.2.2.2.2.2.2.2.2.2.2.2.1, M.2.2.2.2.2.2.2.2.2.2.2.2.2.1, M.2.2.2.2.2.2.2.2.2.2.2.2.2.2.1, M.2.2.2.2.2.2.2.2.2.2.2.2.2.2.2.1, M.2.2.2.2.2.2.2.2.2.2.2.2.2.2.2.2.1, M.2.2.2.2.2.2.2.2.2.2.2.2.2.2.2.2.2.1, M.2.2.2.2.2.2.2.2.2.2.2.2.2.2.2.2.2.2.1, M.2.2.2.2.2.2.2.2.2.2.2.2.2.2.2.2.2.2.2.1, a)
abbrev jZ (n : Nat) (f : Nat → Int32) : va_E := .inl (3, n, .inl f)
def jM (h : Nat → va_E) (u : Nat) (M : MS) : Prop := h u = jO 6 [.int (zI M.T), .ref (u + 1), .ref (u + 2), .ref (u + 3), .ref (u + 4), .ref (u + 5), .int (zI M.jn), .int (zI M.ja), .int (zI M.jb), .ref (u + 6), .ref (u + 7), .int (zI M.nw), .int (zI M.bl), .int (zI M.lt), .int (zI M.rt), .ref (u + 8), .ref (u + 9), .ref (u + 10), .ref (u + 11), .ref (u + 12), .ref (u + 13)] ∧ h (u + 1) = jI 8 (fun j => zI (M.mo j)) ∧ h (u + 2) = jI 8 (fun j => zI (M.pe j)) ∧ h (u + 3) = jI 128 (fun j => zI (M.co j)) ∧ h (u + 4) = jI 384 (fun j => zI (M.he j)) ∧ h (u + 5) = jZ 128 (fun j => zI (M.cr j)) ∧ h (u + 6) = jI 16 (fun j => zI (M.wy j)) ∧ h (u + 7) = jI 512 (fun j => zI (M.fa j)) ∧ h (u + 8) = jI 32 (fun j => zI (M.la j)) ∧ h (u + 9) = jI 32 (fun j => zI (M.ha j)) ∧ h (u + 10) = jI 4096 (fun j => zI (M.w1 j)) ∧ h (u + 11) = jI 4096 (fun j => zI (M.mr j)) ∧ h (u + 12) = jI 6 (fun j => zI (M.rw j)) ∧ h (u + 13) = jI 16 (fun j => zI (M.tu j))
def mOk (M : MS) : Prop := (∀ j, 0 ≤ M.mo j ∧ M.mo j ≤ 2) ∧ (∀ j, 0 ≤ M.pe j ∧ M.pe j ≤ 16) ∧ (∀ j, 0 ≤ M.he j ∧ M.he j ≤ 9) ∧ (∀ j, 0 ≤ M.co j ∧ M.co j ≤ 3) ∧ (∀ j, M.cr j = 0 ∨ M.cr j = 1)
/-- the heights, counts and crossings of draft d -/
def hM (M : MS) (d : Int) : Nat → Int := fun j => M.he (48 * d + (j : Int)).toNat
def cM (M : MS) (d : Int) : Nat → Int := fun j => M.co (16 * d + (j : Int)).toNat
def xM (M : MS) (d : Int) : Nat → Int := fun j => 16 * M.cr (16 * d + (j : Int)).toNat
theorem hM_at {M : MS} {d s k : Int} (h : 0 ≤ s * 3 + k) : M.he (48 * d + s * 3 + k).toNat = hM M d (s * 3 + k).toNat := by
  unfold hM
  rw [show 48 * d + (((s * 3 + k).toNat : Nat) : Int) = 48 * d + s * 3 + k by omega]
theorem cM_at {M : MS} {d s : Int} (h : 0 ≤ s) : M.co (16 * d + s).toNat = cM M d s.toNat := by
  unfold cM
  rw [show ((s.toNat : Nat) : Int) = s by omega]
theorem hM_rg {M : MS} (ok : mOk M) (d : Int) (j : Nat) : 0 ≤ hM M d j ∧ hM M d j ≤ 9 := ok.2.2.1 _
theorem cM_rg {M : MS} (ok : mOk M) (d : Int) (j : Nat) : 0 ≤ cM M d j ∧ cM M d j ≤ 3 := ok.2.2.2.1 _
section JLZ
variable {l : Launch} {G : jl_G} {F : List Frame → Array Value → State → Nat → Nat → (Nat → Nat) → Nat → State → Prop} {M : jl_M} {d pc : Nat} {L : List (Option Value)} {st : List Value} {n : Nat} {h : Nat → va_E} {ck sk : Nat}
theorem jz_zald {x k9 : Nat} {g : Nat → Int} {a : Int} (hd : decode M.2.1 pc = .ok (.baload, 1)) (he : h x = jZ k9 (fun j => zI (g j))) (h0 : 0 ≤ a) (h1 : a < k9) (hk : k9 < 2147483648) (k : jl_AW l G F M d (pc + 1) L (.int (zI (g a.toNat)) :: st) n h ck sk) : jl_AW l G F M d pc L (.int (zI a) :: .ref x :: st) n h ck sk := jl_zald hd he (zI_in h0 h1 hk) (jz_int (by rw [zI_cl ⟨by omega, by omega⟩]) k)
theorem vp_nar_z {v : Int} (hv : v = 0 ∨ v = 1) : vp_nar .boolean (zI v) = zI v := by
  rcases hv with e | e <;> subst e <;> decide
theorem jz_zasth {x k9 : Nat} {g : Nat → Int} {a v : Int} (hv : v = 0 ∨ v = 1) (hd : decode M.2.1 pc = .ok (.bastore, 1)) (he : h x = jZ k9 (fun j => zI (g j))) (h0 : 0 ≤ a) (h1 : a < k9) (hk : k9 < 2147483648) (k : ∀ h2, h2 = va_up h x (jZ k9 (fun j => zI (va_up g a.toNat v j))) → jl_AW l G F M d (pc + 1) L st n h2 ck sk) : jl_AW l G F M d pc L (.int (zI v) :: .int (zI a) :: .ref x :: st) n h ck sk := by
  refine jl_zast hd he (zI_in h0 h1 hk) ?_
  rw [zI_cl ⟨by omega, by omega⟩, vp_nar_z hv]
  refine k _ ?_
  congr 5
  funext j
  by_cases e : j = a.toNat
  · subst e
    rw [va_up_self]
    simp [upd]
  · rw [va_up_ne _ _ e]
    simp [upd, e]
theorem jz_newz {N' : Nat} (hN : N' ≤ 100000) (hd : decode M.2.1 pc = .ok (.newarray .boolean, 2)) (k : ∀ h2, h2 = va_up h n (jZ N' (fun _ => zI 0)) → jl_AW l G F M d (pc + 2) L (.ref n :: st) (n + 1) h2 ck sk) : jl_AW l G F M d pc L (.int (zI (N' : Int)) :: st) n h (ck + 1) (sk + N') := by
  have hb : N' * componentBytes .boolean ≤ 536870912 := by
    have : componentBytes .boolean = 1 := rfl
    rw [this]
    omega
  refine jl_newa (t := 3) (ty := .boolean) (z := .inl (fun _ => zI 0)) hd rfl rfl aw_bool (fun cA => rfl) (fun al => rfl) (fun f hf => by cases hf) (fun q => ?_) (by rw [zI_cl ⟨by omega, by omega⟩]; rfl) hb (k _ rfl)
  rw [show (0 : Int32) = zI 0 from rfl, zI_lt ⟨by omega, by omega⟩ ⟨by decide, by decide⟩] at q
  omega
end JLZ
/-! landings and throws counted -/
def ld_w (m p : Int) (hs xs : Nat → Int) (t s : Int) : Nat → Int
  | 0 => 0
  | w + 1 => ld_w m p hs xs t s w + (if 0 < hs (s * 3 + w).toNat ∧ sp_tgt m p xs s (hs (s * 3 + w).toNat) = t then 1 else 0)
def ld_s (m p : Int) (hs cs xs : Nat → Int) (t : Int) : Nat → Int
  | 0 => 0
  | s + 1 => ld_s m p hs cs xs t s + ld_w m p hs xs t (s : Int) (cs s).toNat
def th_w (hs : Nat → Int) (s : Int) : Nat → Int
  | 0 => 0
  | w + 1 => th_w hs s w + (if 0 < hs (s * 3 + w).toNat then 1 else 0)
theorem ld_w_rg (m p : Int) (hs xs : Nat → Int) (t s : Int) : ∀ w : Nat, 0 ≤ ld_w m p hs xs t s w ∧ ld_w m p hs xs t s w ≤ w
  | 0 => by unfold ld_w; omega
  | w + 1 => by
    have h := ld_w_rg m p hs xs t s w
    unfold ld_w
    split <;> omega
theorem ld_s_rg {m p : Int} {hs cs xs : Nat → Int} (hc : ∀ j, 0 ≤ cs j ∧ cs j ≤ 3) (t : Int) : ∀ s : Nat, 0 ≤ ld_s m p hs cs xs t s ∧ ld_s m p hs cs xs t s ≤ 3 * s
  | 0 => by unfold ld_s; omega
  | s + 1 => by
    have h := ld_s_rg (m := m) (p := p) (hs := hs) (xs := xs) hc t s
    have h1 := ld_w_rg m p hs xs t (s : Int) (cs s).toNat
    have h2 := hc s
    unfold ld_s
    omega
theorem th_w_rg (hs : Nat → Int) (s : Int) : ∀ w : Nat, 0 ≤ th_w hs s w ∧ th_w hs s w ≤ w
  | 0 => by unfold th_w; omega
  | w + 1 => by
    have h := th_w_rg hs s w
    unfold th_w
    split <;> omega
/-- every site throws what lands there -/
def sp_ev (m p : Int) (hs cs xs : Nat → Int) : Prop := ∀ s : Int, 0 ≤ s → s < p → ld_s m p hs cs xs s p.toNat = th_w hs s (cs s.toNat).toNat
