/-! what holds between the law's calls -/
def lD (h : Nat → va_E) (M : MS) : Prop := ∃ (m p : Int) (hs cs xs sc : Nat → Int), jD h 1 m p hs cs xs sc ∧ dK m p hs cs xs M 0
def lS (h : Nat → va_E) (n : Nat) (M : MS) : Prop := ∃ (f : Nat → Option Nat) (m9 p9 : Nat → Int) (hs9 cs9 xs9 : Nat → Nat → Int), jSh h 6 f m9 p9 hs9 cs9 xs9 ∧ (∀ k o, f k = some o → k < 6 ∧ 43 ≤ o ∧ o + 5 ≤ n ∧ dK (m9 k) (p9 k) (hs9 k) (cs9 k) (xs9 k) M (1 + (k : Int))) ∧ ∀ k, k < 6 → f k = none → M.pe (1 + (k : Int)).toNat = 0
def lJ (h : Nat → va_E) (jn ja jb : Int) (wy : Nat → Int) : Prop := ∃ (DS QU WA : Nat → Int) (qd ln md fs ts : Int), jJt h 7 DS QU WA qd ln md fs ts ∧ ((md = 0 ∧ ln = 0 ∧ jn = -1) ∨ (md = 1 ∧ jn = ln ∧ (0 ≤ ln ∧ ln ≤ 9) ∧ (∀ j : Nat, (j : Int) < ln → WA j = wy j) ∧ fs = ja ∧ ts = jb))
def lCt (h : Nat → va_E) : Prop := h 11 = jO 0 [.ref 12] ∧ (∃ R : Nat → Int, h 12 = jI 3520 (fun j => zI (R j))) ∧ ∃ (tq m p : Int) (hs cs xs sc : Nat → Int), h 13 = jO 1 [.ref 14, .int (zI tq)] ∧ jD h 14 m p hs cs xs sc ∧ jOk m p hs cs xs
def lF (h : Nat → va_E) (M : MS) (t : Nat) : Prop := ∃ (op nw : Int) (B : List (Int × Int)) (MD : Nat → Int) (m p : Int) (hs cs xs sc : Nat → Int), jFl h 19 op nw B MD ∧ jD h 20 m p hs cs xs sc ∧ jOk m p hs cs xs ∧ dZ hs cs xs ∧ (0 ≤ nw ∧ nw ≤ 100 * (t : Int)) ∧ ((op = 0 ∧ M.pe (7 : Int).toNat = 0 ∧ B = [] ∧ M.bl = 0) ∨ (op = 1 ∧ dK m p hs cs xs M 7 ∧ sp_ev m p hs cs xs ∧ bI m p hs cs xs nw B ∧ mBl M B ∧ nw = M.nw ∧ MD 0 = M.lt ∧ MD 1 = M.rt))
def LI (t n : Nat) (h : Nat → va_E) : Prop := ∃ M : MS, jM h 28 M ∧ mOk M ∧ (∀ j, 0 ≤ M.rw j ∧ M.rw j ≤ 9) ∧ h 0 = jO 5 [.ref 1, .ref 6, .ref 7, .ref 11, .ref 13, .ref 19] ∧ (∃ f : Nat → Int64, h 42 = jJ 1 f) ∧ 43 ≤ n ∧ lD h M ∧ lS h n M ∧ lJ h M.jn M.ja M.jb M.wy ∧ lCt h ∧ lF h M t
/-- draft d is as it was -/
def sm5 (M M' : MS) (d : Int) : Prop := M'.mo d.toNat = M.mo d.toNat ∧ M'.pe d.toNat = M.pe d.toNat ∧ (∀ j, j < 48 → hM M' d j = hM M d j) ∧ (∀ j, j < 16 → cM M' d j = cM M d j) ∧ ∀ j, j < 16 → xM M' d j = xM M d j
theorem dK_5 {m p : Int} {hs cs xs : Nat → Int} {M M' : MS} {d : Int} (h : dK m p hs cs xs M d) (s : sm5 M M' d) : dK m p hs cs xs M' d := dK_cg h s.1 s.2.1 s.2.2.1 s.2.2.2.1 s.2.2.2.2
theorem lD_fr {h h' : Nat → va_E} {M M' : MS} (hf : ∀ y, 1 ≤ y → y < 6 → h' y = h y) (h5 : sm5 M M' 0) (H : lD h M) : lD h' M' := by
  obtain ⟨m, p, hs, cs, xs, sc, a, b⟩ := H
  exact ⟨m, p, hs, cs, xs, sc, jD_fr (fun y q1 q2 => hf y q1 q2) a, dK_5 b h5⟩
theorem lS_fr {h h' : Nat → va_E} {n : Nat} {M M' : MS} (hf : ∀ y, y = 6 ∨ 43 ≤ y → h' y = h y) (h5 : ∀ d : Int, 1 ≤ d → d ≤ 6 → sm5 M M' d) (H : lS h n M) : lS h' n M' := by
  obtain ⟨f, m9, p9, hs9, cs9, xs9, ⟨a1, a2, a3, a4⟩, b, c⟩ := H
  refine ⟨f, m9, p9, hs9, cs9, xs9, ⟨by rw [hf 6 (Or.inl rfl)]; exact a1, fun k o ho => ?_, a3, a4⟩, fun k o ho => ?_, fun k hk hn => ?_⟩
  · obtain ⟨sc, hD⟩ := a2 k o ho
    exact ⟨sc, jD_fr (fun y q1 q2 => hf y (Or.inr (by have := (b k o ho).2.1; omega))) hD⟩
  · obtain ⟨b1, b2, b3, b4⟩ := b k o ho
    exact ⟨b1, b2, b3, dK_5 b4 (h5 _ (by omega) (by omega))⟩
  · rw [(h5 (1 + (k : Int)) (by omega) (by omega)).2.1]
    exact c k hk hn
theorem lS_up {h : Nat → va_E} {n n' : Nat} {M : MS} (hn : n ≤ n') (H : lS h n M) : lS h n' M := by
  obtain ⟨f, m9, p9, hs9, cs9, xs9, a, b, c⟩ := H
  exact ⟨f, m9, p9, hs9, cs9, xs9, a, fun k o ho => ⟨(b k o ho).1, (b k o ho).2.1, Nat.le_trans (b k o ho).2.2.1 hn, (b k o ho).2.2.2⟩, c⟩
theorem lJ_fr {h h' : Nat → va_E} {jn ja jb : Int} {wy : Nat → Int} (hf : ∀ y, 7 ≤ y → y < 11 → h' y = h y) (H : lJ h jn ja jb wy) : lJ h' jn ja jb wy := by
  obtain ⟨DS, QU, WA, qd, ln, md, fs, ts, ⟨a1, a2, a3, a4⟩, b⟩ := H
  exact ⟨DS, QU, WA, qd, ln, md, fs, ts, ⟨by rw [hf 7 (by omega) (by omega)]; exact a1, by rw [hf (7 + 1) (by omega) (by omega)]; exact a2, by rw [hf (7 + 2) (by omega) (by omega)]; exact a3, by rw [hf (7 + 3) (by omega) (by omega)]; exact a4⟩, b⟩
theorem lCt_fr {h h' : Nat → va_E} (hf : ∀ y, 11 ≤ y → y < 19 → h' y = h y) (H : lCt h) : lCt h' := by
  obtain ⟨a1, ⟨R, a2⟩, tq, m, p, hs, cs, xs, sc, a3, a4, a5⟩ := H
  exact ⟨by rw [hf 11 (by omega) (by omega)]; exact a1, ⟨R, by rw [hf 12 (by omega) (by omega)]; exact a2⟩, tq, m, p, hs, cs, xs, sc, by rw [hf 13 (by omega) (by omega)]; exact a3, jD_fr (fun y q1 q2 => hf y (by omega) (by omega)) a4, a5⟩
theorem lF_fr {h h' : Nat → va_E} {M M' : MS} {t t' : Nat} (hf : ∀ y, 19 ≤ y → y < 28 → h' y = h y) (h5 : sm5 M M' 7) (h6 : M'.nw = M.nw ∧ M'.bl = M.bl ∧ M'.lt = M.lt ∧ M'.rt = M.rt ∧ M'.la = M.la ∧ M'.ha = M.ha) (ht : t ≤ t') (H : lF h M t) : lF h' M' t' := by
  obtain ⟨op, nw, B, MD, m, p, hs, cs, xs, sc, ⟨LA, LI9, a0, a1, a2, a3, a4, a5⟩, b1, b2, b3, b4, b5⟩ := H
  obtain ⟨e1, e2, e3, e4, e5, e6⟩ := h6
  refine ⟨op, nw, B, MD, m, p, hs, cs, xs, sc, ⟨LA, LI9, by rw [hf 19 (by omega) (by omega)]; exact a0, by rw [hf (19 + 6) (by omega) (by omega)]; exact a1, by rw [hf (19 + 7) (by omega) (by omega)]; exact a2, by rw [hf (19 + 8) (by omega) (by omega)]; exact a3, a4, a5⟩, jD_fr (fun y q1 q2 => hf y (by omega) (by omega)) b1, b2, b3, ⟨b4.1, by omega⟩, ?_⟩
  rcases b5 with ⟨c1, c2, c3, c4⟩ | ⟨c1, c2, c3, c4, ⟨c5, c6, c7⟩, c8, c9, c10⟩
  · exact Or.inl ⟨c1, h5.2.1.trans c2, c3, e2.trans c4⟩
  · exact Or.inr ⟨c1, dK_5 c2 h5, c3, c4, ⟨e2.trans c5, c6, fun j hj => by rw [e5, e6]; exact c7 j hj⟩, c8.trans e1.symm, c9.trans e3.symm, c10.trans e4.symm⟩
theorem jM_fr {h h' : Nat → va_E} {u : Nat} {M : MS} (hf : ∀ y, u ≤ y → y < u + 14 → h' y = h y) (H : jM h u M) : jM h' u M := by
  obtain ⟨a0, a1, a2, a3, a4, a5, a6, a7, a8, a9, a10, a11, a12, a13⟩ := H
  exact ⟨by rw [hf _ (by omega) (by omega)]; exact a0, by rw [hf _ (by omega) (by omega)]; exact a1, by rw [hf _ (by omega) (by omega)]; exact a2, by rw [hf _ (by omega) (by omega)]; exact a3, by rw [hf _ (by omega) (by omega)]; exact a4, by rw [hf _ (by omega) (by omega)]; exact a5, by rw [hf _ (by omega) (by omega)]; exact a6, by rw [hf _ (by omega) (by omega)]; exact a7, by rw [hf _ (by omega) (by omega)]; exact a8, by rw [hf _ (by omega) (by omega)]; exact a9, by rw [hf _ (by omega) (by omega)]; exact a10, by rw [hf _ (by omega) (by omega)]; exact a11, by rw [hf _ (by omega) (by omega)]; exact a12, by rw [hf _ (by omega) (by omega)]; exact a13⟩
theorem sm5_rf (M : MS) (d : Int) : sm5 M M d := ⟨rfl, rfl, fun _ _ => rfl, fun _ _ => rfl, fun _ _ => rfl⟩
/-- draft 0 alone has changed -/
theorem sm5_0 {M M' : MS} (h1 : ∀ j, 1 ≤ j → M'.mo j = M.mo j) (h2 : ∀ j, 1 ≤ j → M'.pe j = M.pe j) (h3 : ∀ j, 48 ≤ j → M'.he j = M.he j) (h4 : ∀ j, 16 ≤ j → M'.co j = M.co j) (h5 : ∀ j, 16 ≤ j → M'.cr j = M.cr j) {d : Int} (hd : 1 ≤ d) : sm5 M M' d := by
  refine ⟨h1 _ (by omega), h2 _ (by omega), fun j hj => h3 _ (by omega), fun j hj => h4 _ (by omega), fun j hj => ?_⟩
  show 16 * M'.cr _ = 16 * M.cr _
  rw [h5 _ (by omega)]
theorem sm5_fr {M : MS} {a b : Int} {d : Int} (hd : 1 ≤ d) : sm5 M (frM M a b 16) d := sm5_0 (fun j hj => by
  show va_up M.mo (0 : Int).toNat a j = M.mo j
  exact va_up_ne _ _ (fun q => by have : j = 0 := q; omega)) (fun j hj => by
  show va_up M.pe (0 : Int).toNat b j = M.pe j
  exact va_up_ne _ _ (fun q => by have : j = 0 := q; omega)) (fun j hj => by
  show frH 16 M.he j = _
  unfold frH
  rw [if_neg (by omega)]) (fun j hj => by
  show jfill 16 1 M.co j = _
  unfold jfill
  rw [if_neg (by omega)]) (fun j hj => by
  show jfill 16 0 M.cr j = _
  unfold jfill
  rw [if_neg (by omega)]) hd
/-! the script's numbers -/
def scr (G : jl_G) (k : Nat) : Int := (G.2.2.2.2.2 k).toInt
theorem scr_z (G : jl_G) (k : Nat) : zR (scr G k) := ⟨Int32.le_toInt _, Int32.toInt_lt _⟩
section JLS
variable {l : Launch} {G : jl_G} {F : List Frame → Array Value → State → Nat → Nat → (Nat → Nat) → Nat → State → Prop} {M : jl_M} {d pc : Nat} {L : List (Option Value)} {st : List Value} {n : Nat} {h : Nat → va_E} {ck sk : Nat}
theorem jz_sld {z : UInt32} {a : Int} {k9 : Nat} (hd : decode M.2.1 pc = .ok (.iaload, 1)) (ha : a = (k9 : Int)) (hk : k9 < G.2.2.2.2.1) (hl : G.2.2.2.2.1 ≤ 2048) (k : jl_AW l G F M d (pc + 1) L (.int (zI (scr G k9)) :: st) n h ck sk) : jl_AW l G F M d pc L (.int (zI a) :: .float z :: st) n h ck sk := by
  subst ha
  refine jl_sld hd (zI_in (by omega) (by omega) (by omega)) ?_
  rw [zI_cl ⟨by omega, by omega⟩, Int.toNat_natCast]
  unfold scr at k
  rw [zI_of] at k
  exact k
theorem jl_AW_up {a b : Nat} (k : jl_AW l G F M d pc L st n h ck sk) : jl_AW l G F M d pc L st n h (ck + a) (sk + b) := by
  intro p e R s m args below meth c al0 n0 mc ms al H locs ls cells slots C hR hE hl hs h1 h2
  exact k p e R s m args below meth c al0 n0 mc ms al H locs ls cells slots C hR hE hl hs (by omega) (by omega)
theorem jl_AW_le {a b : Nat} (ha : ck ≤ a) (hb : sk ≤ b) (k : jl_AW l G F M d pc L st n h ck sk) : jl_AW l G F M d pc L st n h a b := by
  intro p e R s m args below meth c al0 n0 mc ms al H locs ls cells slots C hR hE hl hs h1 h2
  exact k p e R s m args below meth c al0 n0 mc ms al H locs ls cells slots C hR hE hl hs (by omega) (by omega)
/-- the answers compared: equal ones -/
theorem jz_lcmp0 {x y : Int64} (hd : decode M.2.1 pc = .ok (.lcmp, 1)) (hxy : x = y) (k : jl_AW l G F M d (pc + 1) L (.int (zI 0) :: st) n h ck sk) : jl_AW l G F M d pc L (.long y :: .long x :: st) n h ck sk := by
  subst hxy
  refine jl_lcmp hd ?_
  have e : lg_cmp x x = zI 0 := by
    unfold lg_cmp
    simp [zI]
  rw [e]
  exact k
end JLS
