/-! the model's beat -/
def mS (m p nw : Int) (b : Int × Int) : Int := if m = 2 then nw % p + b.2 else nw % p
def mW (m p : Int) (hs cs : Nat → Int) (nw : Int) (b : Int × Int) (k : Int) : Int := if m = 1 then nx hs (mS m p nw b) (cs (mS m p nw b).toNat - k).toNat k else 0
def mF (m p : Int) (xs : Nat → Int) (nw s h : Int) : Int × Int := (nw + h, if m = 2 then sp_tgt m p xs s h % 2 else (nw + h) % 2)
def mG (m nw s : Int) : Int := if m = 2 then s % 2 else nw % 2
def mbS (m p : Int) (hs cs xs : Nat → Int) (nw : Int) (j : Nat) (q : List (Int × Int) × Int × Int × Int × Int) : List (Int × Int) × Int × Int × Int × Int :=
  if (q.1.getD j (0, 0)).1 = nw then
    (q.1.set j (mF m p xs nw (mS m p nw (q.1.getD j (0, 0))) (hs (mS m p nw (q.1.getD j (0, 0)) * 3 + mW m p hs cs nw (q.1.getD j (0, 0)) q.2.1).toNat)), (if m = 1 then mW m p hs cs nw (q.1.getD j (0, 0)) q.2.1 + 1 else q.2.1), q.2.2.1 + 1, (if mG m nw (mS m p nw (q.1.getD j (0, 0))) = 0 then q.2.2.2.1 + 1 else q.2.2.2.1), (if mG m nw (mS m p nw (q.1.getD j (0, 0))) = 0 then q.2.2.2.2 else q.2.2.2.2 + 1))
  else q
def mb (m p : Int) (hs cs xs : Nat → Int) (nw : Int) (B : List (Int × Int)) (L R : Int) : Nat → List (Int × Int) × Int × Int × Int × Int
  | 0 => (B, 0, 0, L, R)
  | j + 1 => mbS m p hs cs xs nw j (mb m p hs cs xs nw B L R j)
/-- what the model's beat needs of a ball that lands -/
def mbG (m p : Int) (hs cs : Nat → Int) (nw : Int) (j : Nat) (q : List (Int × Int) × Int × Int × Int × Int) : Prop :=
  0 ≤ q.2.1 ∧ q.2.1 ≤ 3 ∧ ((q.1.getD j (0, 0)).1 = nw → (0 ≤ mS m p nw (q.1.getD j (0, 0)) ∧ mS m p nw (q.1.getD j (0, 0)) < p) ∧ ((q.1.getD j (0, 0)).2 = 0 ∨ (q.1.getD j (0, 0)).2 = 1) ∧ (m = 1 → q.2.1 ≤ mW m p hs cs nw (q.1.getD j (0, 0)) q.2.1 ∧ mW m p hs cs nw (q.1.getD j (0, 0)) q.2.1 < cs (mS m p nw (q.1.getD j (0, 0))).toNat))
theorem mem_getD {B : List (Int × Int)} {j : Nat} (h : j < B.length) : B.getD j (0, 0) ∈ B := by
  rw [show B.getD j (0, 0) = B[j] by simp [List.getD, h]]
  exact List.getElem_mem h
theorem mb_1 {m p : Int} {hs cs xs : Nat → Int} (ok : jOk m p hs cs xs) (hi : dIn m p cs) (hm : ¬ m = 2) {nw : Int} {B : List (Int × Int)} {L R : Int} (hB : ∀ b ∈ B, bOk m nw b) (hT : ctL (nw, nw % 2) B = th_w hs (nw % p) (cs (nw % p).toNat).toNat) : ∀ j, j ≤ B.length →
    (mb m p hs cs xs nw B L R j).1 = (tf m hs cs xs nw (nw % p) (nw % 2) B j).1 ∧ (m = 1 → (mb m p hs cs xs nw B L R j).2.1 = (tf m hs cs xs nw (nw % p) (nw % 2) B j).2.1 + 1) ∧ (¬ m = 1 → (mb m p hs cs xs nw B L R j).2.1 = 0) ∧ (mb m p hs cs xs nw B L R j).2.2.1 = (tf m hs cs xs nw (nw % p) (nw % 2) B j).2.2.1 ∧ (mb m p hs cs xs nw B L R j).2.2.2.1 = L + (if nw % 2 = 0 then (tf m hs cs xs nw (nw % p) (nw % 2) B j).2.2.1 else 0) ∧ (mb m p hs cs xs nw B L R j).2.2.2.2 = R + (if nw % 2 = 0 then 0 else (tf m hs cs xs nw (nw % p) (nw % 2) B j).2.2.1) ∧ (j < B.length → mbG m p hs cs nw j (mb m p hs cs xs nw B L R j)) := by
  have hp := ok.2.1
  have hmp := emod_p (x := nw) hp.1
  have hSs : ∀ b, mS m p nw b = nw % p := fun b => by unfold mS; rw [if_neg hm]
  -- what is needed follows from the rest
  have need : ∀ j, j < B.length → (mb m p hs cs xs nw B L R j).1 = (tf m hs cs xs nw (nw % p) (nw % 2) B j).1 → (m = 1 → (mb m p hs cs xs nw B L R j).2.1 = (tf m hs cs xs nw (nw % p) (nw % 2) B j).2.1 + 1) → (¬ m = 1 → (mb m p hs cs xs nw B L R j).2.1 = 0) → mbG m p hs cs nw j (mb m p hs cs xs nw B L R j) := by
    intro j hj e1 e2 e3
    have h0 := tfI_j (m := m) (xs := xs) hT j (by omega)
    have hc3 := ok.2.2.2.1 (nw % p).toNat
    have hk : 0 ≤ (mb m p hs cs xs nw B L R j).2.1 ∧ (mb m p hs cs xs nw B L R j).2.1 ≤ 3 := by
      by_cases q : m = 1
      · obtain ⟨f, f1, f2, -⟩ := h0.2.2.2.1
        rw [e2 q, f1]
        omega
      · rw [e3 q]; decide
    refine ⟨hk.1, hk.2, fun hl => ?_⟩
    rw [e1, h0.2.2.1 j (Nat.le_refl j)] at hl ⊢
    have hb := hB _ (mem_getD hj)
    rw [hSs]
    refine ⟨hmp, hb.2.2.1, fun hm1 => ?_⟩
    have hbe : B.getD j (0, 0) = (nw, nw % 2) := by
      have h2 := hb.2.2.2.1 hm
      rw [hl] at h2
      exact Prod.ext hl h2
    obtain ⟨f, w, g1, g2, g3, g4, g5, g6, g7⟩ := tfI_nx hT h0 hj hbe
    unfold mW
    rw [if_pos hm1, hSs, e2 hm1, g3, g1]
    omega
  intro j
  induction j with
  | zero =>
    intro _
    refine ⟨rfl, fun _ => rfl, fun _ => rfl, rfl, ?_, ?_, fun hj => need 0 hj rfl (fun _ => rfl) (fun _ => rfl)⟩
    · show L = L + (if nw % 2 = 0 then 0 else 0)
      split <;> omega
    · show R = R + (if nw % 2 = 0 then 0 else 0)
      split <;> omega
  | succ j ih =>
    intro hj
    obtain ⟨e1, e2, e3, e4, e5, e6, e7⟩ := ih (by omega)
    have h0 := tfI_j (m := m) (xs := xs) hT j (by omega)
    have hgd := h0.2.2.1 j (Nat.le_refl j)
    have hb := hB _ (mem_getD (show j < B.length by omega))
    have main : (mb m p hs cs xs nw B L R (j + 1)).1 = (tf m hs cs xs nw (nw % p) (nw % 2) B (j + 1)).1 ∧ (m = 1 → (mb m p hs cs xs nw B L R (j + 1)).2.1 = (tf m hs cs xs nw (nw % p) (nw % 2) B (j + 1)).2.1 + 1) ∧ (¬ m = 1 → (mb m p hs cs xs nw B L R (j + 1)).2.1 = 0) ∧ (mb m p hs cs xs nw B L R (j + 1)).2.2.1 = (tf m hs cs xs nw (nw % p) (nw % 2) B (j + 1)).2.2.1 ∧ (mb m p hs cs xs nw B L R (j + 1)).2.2.2.1 = L + (if nw % 2 = 0 then (tf m hs cs xs nw (nw % p) (nw % 2) B (j + 1)).2.2.1 else 0) ∧ (mb m p hs cs xs nw B L R (j + 1)).2.2.2.2 = R + (if nw % 2 = 0 then 0 else (tf m hs cs xs nw (nw % p) (nw % 2) B (j + 1)).2.2.1) := by
      show (mbS m p hs cs xs nw j (mb m p hs cs xs nw B L R j)).1 = (tfs m hs cs xs nw (nw % p) (nw % 2) j (tf m hs cs xs nw (nw % p) (nw % 2) B j)).1 ∧ (m = 1 → (mbS m p hs cs xs nw j (mb m p hs cs xs nw B L R j)).2.1 = (tfs m hs cs xs nw (nw % p) (nw % 2) j (tf m hs cs xs nw (nw % p) (nw % 2) B j)).2.1 + 1) ∧ (¬ m = 1 → (mbS m p hs cs xs nw j (mb m p hs cs xs nw B L R j)).2.1 = 0) ∧ (mbS m p hs cs xs nw j (mb m p hs cs xs nw B L R j)).2.2.1 = (tfs m hs cs xs nw (nw % p) (nw % 2) j (tf m hs cs xs nw (nw % p) (nw % 2) B j)).2.2.1 ∧ (mbS m p hs cs xs nw j (mb m p hs cs xs nw B L R j)).2.2.2.1 = L + (if nw % 2 = 0 then (tfs m hs cs xs nw (nw % p) (nw % 2) j (tf m hs cs xs nw (nw % p) (nw % 2) B j)).2.2.1 else 0) ∧ (mbS m p hs cs xs nw j (mb m p hs cs xs nw B L R j)).2.2.2.2 = R + (if nw % 2 = 0 then 0 else (tfs m hs cs xs nw (nw % p) (nw % 2) j (tf m hs cs xs nw (nw % p) (nw % 2) B j)).2.2.1)
      unfold mbS tfs
      rw [if_neg (show ¬ (tf m hs cs xs nw (nw % p) (nw % 2) B j).2.2.2 = true by rw [h0.1]; decide), e1, hgd]
      by_cases hl : (B.getD j (0, 0)).1 = nw
      · have hbe : B.getD j (0, 0) = (nw, nw % 2) := by
          have h2 := hb.2.2.2.1 hm
          rw [hl] at h2
          exact Prod.ext hl h2
        obtain ⟨f, w, g1, g2, g3, g4, g5, g6, g7⟩ := tfI_nx hT h0 (by omega) hbe
        have hw : mW m p hs cs nw (B.getD j (0, 0)) (mb m p hs cs xs nw B L R j).2.1 = (w : Int) := by
          unfold mW
          by_cases hm1 : m = 1
          · rw [if_pos hm1, hSs, e2 hm1, g3]
          · rw [if_neg hm1]
            have hc := (hi (nw % p).toNat (by omega)).2.2 hm1
            omega
        have hG : ∀ b, mG m nw b = nw % 2 := fun b => by unfold mG; rw [if_neg hm]
        have hland : sp_land m xs (nw % p) (nw % 2) (nw + hs (nw % p * 3 + (w : Int)).toNat) = (nw + hs (nw % p * 3 + (w : Int)).toNat) % 2 := by unfold sp_land; rw [if_neg hm]
        rw [if_pos hl, if_pos (show (B.getD j (0, 0)).1 = nw ∧ (B.getD j (0, 0)).2 = nw % 2 from ⟨hl, by rw [hbe]⟩), g3, if_neg (show ¬ (w : Int) = -1 by omega), hw, hSs, hG, hland, e4, e5, e6]
        refine ⟨?_, fun hm1 => ?_, fun hm1 => ?_, rfl, ?_, ?_⟩
        · show List.set _ _ _ = List.set _ _ _
          unfold mF
          rw [if_neg hm]
        · show (if m = 1 then (w : Int) + 1 else _) = _
          rw [if_pos hm1]
        · show (if m = 1 then (w : Int) + 1 else _) = _
          rw [if_neg hm1]; exact e3 hm1
        · show (if nw % 2 = 0 then L + (if nw % 2 = 0 then (tf m hs cs xs nw (nw % p) (nw % 2) B j).2.2.1 else 0) + 1 else L + (if nw % 2 = 0 then (tf m hs cs xs nw (nw % p) (nw % 2) B j).2.2.1 else 0)) = L + (if nw % 2 = 0 then (tf m hs cs xs nw (nw % p) (nw % 2) B j).2.2.1 + 1 else 0)
          split <;> omega
        · show (if nw % 2 = 0 then R + (if nw % 2 = 0 then 0 else (tf m hs cs xs nw (nw % p) (nw % 2) B j).2.2.1) else R + (if nw % 2 = 0 then 0 else (tf m hs cs xs nw (nw % p) (nw % 2) B j).2.2.1) + 1) = R + (if nw % 2 = 0 then 0 else (tf m hs cs xs nw (nw % p) (nw % 2) B j).2.2.1 + 1)
          split <;> omega
      · rw [if_neg hl, if_neg (fun z => hl z.1)]
        exact ⟨e1, e2, e3, e4, e5, e6⟩
    obtain ⟨m1, m2, m3, m4, m5, m6⟩ := main
    exact ⟨m1, m2, m3, m4, m5, m6, fun hj2 => need (j + 1) hj2 m1 m2 m3⟩
/-! synchronous drafts: each ball by itself -/
def mpj (f : Int × Int → Int × Int) : Nat → List (Int × Int) → List (Int × Int)
  | 0, B => B
  | _ + 1, [] => []
  | j + 1, b :: B => f b :: mpj f j B
theorem mpj_get (f : Int × Int → Int × Int) : ∀ (j : Nat) (B : List (Int × Int)), (mpj f j B).getD j (0, 0) = B.getD j (0, 0)
  | 0, B => by cases B <;> rfl
  | j + 1, [] => rfl
  | j + 1, b :: B => mpj_get f j B
theorem mpj_set (f : Int × Int → Int × Int) : ∀ (j : Nat) (B : List (Int × Int)), j < B.length → (mpj f j B).set j (f (B.getD j (0, 0))) = mpj f (j + 1) B
  | 0, [], h => by cases h
  | 0, b :: B, h => rfl
  | j + 1, [], h => by cases h
  | j + 1, b :: B, h => by
    show f b :: (mpj f j B).set j (f (B.getD j (0, 0))) = f b :: mpj f (j + 1) B
    rw [mpj_set f j B (by simpa using h)]
theorem mpj_skip (f : Int × Int → Int × Int) : ∀ (j : Nat) (B : List (Int × Int)), f (B.getD j (0, 0)) = B.getD j (0, 0) → mpj f (j + 1) B = mpj f j B
  | 0, [], h => rfl
  | 0, b :: B, h => by
    have h2 : f b = b := h
    show f b :: mpj f 0 B = b :: B
    rw [h2]
    rfl
  | j + 1, [], h => rfl
  | j + 1, b :: B, h => by
    show f b :: mpj f (j + 1) B = f b :: mpj f j B
    rw [mpj_skip f j B h]
theorem mpj_all (f : Int × Int → Int × Int) : ∀ (B : List (Int × Int)), mpj f B.length B = B.map f
  | [] => rfl
  | b :: B => by
    show f b :: mpj f B.length B = f b :: B.map f
    rw [mpj_all f B]
theorem tf_2 {hs cs xs : Nat → Int} {nw s x : Int} {B : List (Int × Int)} (hc : cs s.toNat = 1) (hT : ctL (nw, x) B = th_w hs s (cs s.toNat).toNat) : ∀ j, j ≤ B.length → (tf 2 hs cs xs nw s x B j).1 = mpj (fun b => if b = (nw, x) then (nw + hs (s * 3).toNat, sp_land 2 xs s x (nw + hs (s * 3).toNat)) else b) j B
  | 0, _ => rfl
  | j + 1, hj => by
    have ih := tf_2 (xs := xs) hc hT j (by omega)
    have h0 := tfI_j (m := 2) (xs := xs) hT j (by omega)
    show (tfs 2 hs cs xs nw s x j (tf 2 hs cs xs nw s x B j)).1 = _
    unfold tfs
    rw [if_neg (show ¬ (tf 2 hs cs xs nw s x B j).2.2.2 = true by rw [h0.1]; decide), h0.2.2.1 j (Nat.le_refl j)]
    by_cases hb : B.getD j (0, 0) = (nw, x)
    · obtain ⟨f, w, g1, g2, g3, g4, g5, g6, g7⟩ := tfI_nx hT h0 (by omega) hb
      have hw : w = 0 := by omega
      subst hw
      rw [if_pos (by rw [hb]; exact ⟨rfl, rfl⟩), g3, if_neg (by decide)]
      rw [← mpj_set _ j B (by omega), ih]
      show List.set _ _ _ = _
      rw [if_pos hb, show s * 3 + ((0 : Nat) : Int) = s * 3 by omega]
    · rw [if_neg (fun z => hb (by rw [← z.1, ← z.2])), mpj_skip _ j B (by rw [if_neg hb]), ih]
theorem mb_2 {p : Int} {hs cs xs : Nat → Int} {nw : Int} {B : List (Int × Int)} {L R : Int} (hp : 1 ≤ p) (hp2 : p % 2 = 0) (hn : nw % 2 = 0) (hB : ∀ b ∈ B, bOk 2 nw b) : ∀ j, j ≤ B.length →
    (mb 2 p hs cs xs nw B L R j).1 = mpj (fun b => if b.1 = nw then mF 2 p xs nw (nw % p + b.2) (hs ((nw % p + b.2) * 3).toNat) else b) j B ∧ (mb 2 p hs cs xs nw B L R j).2.1 = 0 ∧ (mb 2 p hs cs xs nw B L R j).2.2.1 = ctL (nw, 0) (B.take j) + ctL (nw, 1) (B.take j) ∧ (mb 2 p hs cs xs nw B L R j).2.2.2.1 = L + ctL (nw, 0) (B.take j) ∧ (mb 2 p hs cs xs nw B L R j).2.2.2.2 = R + ctL (nw, 1) (B.take j) ∧ (j < B.length → mbG 2 p hs cs nw j (mb 2 p hs cs xs nw B L R j)) := by
  have hmp := emod_p (x := nw) hp
  have hm2 : nw % p % 2 = nw % 2 := Int.emod_emod_of_dvd _ (Int.dvd_of_emod_eq_zero hp2)
  have hSs : ∀ b, mS 2 p nw b = nw % p + b.2 := fun b => by unfold mS; rw [if_pos rfl]
  have need : ∀ j, j < B.length → (mb 2 p hs cs xs nw B L R j).1 = mpj (fun b => if b.1 = nw then mF 2 p xs nw (nw % p + b.2) (hs ((nw % p + b.2) * 3).toNat) else b) j B → (mb 2 p hs cs xs nw B L R j).2.1 = 0 → mbG 2 p hs cs nw j (mb 2 p hs cs xs nw B L R j) := by
    intro j hj e1 e2
    refine ⟨by rw [e2]; decide, by rw [e2]; decide, fun hl => ?_⟩
    rw [e1, mpj_get] at hl ⊢
    have hb := hB _ (mem_getD hj)
    rw [hSs]
    exact ⟨by have := hb.2.2.1; omega, hb.2.2.1, fun q => absurd q (by decide)⟩
  intro j
  induction j with
  | zero =>
    intro _
    refine ⟨rfl, rfl, rfl, ?_, ?_, fun hj => need 0 hj rfl rfl⟩
    · show L = L + 0
      omega
    · show R = R + 0
      omega
  | succ j ih =>
    intro hj
    obtain ⟨e1, e2, e3, e4, e5, e6⟩ := ih (by omega)
    have hb := hB _ (mem_getD (show j < B.length by omega))
    have t0 := ctL_take_s (nw, 0) B j (by omega)
    have t1 := ctL_take_s (nw, 1) B j (by omega)
    have main : (mb 2 p hs cs xs nw B L R (j + 1)).1 = mpj (fun b => if b.1 = nw then mF 2 p xs nw (nw % p + b.2) (hs ((nw % p + b.2) * 3).toNat) else b) (j + 1) B ∧ (mb 2 p hs cs xs nw B L R (j + 1)).2.1 = 0 ∧ (mb 2 p hs cs xs nw B L R (j + 1)).2.2.1 = ctL (nw, 0) (B.take (j + 1)) + ctL (nw, 1) (B.take (j + 1)) ∧ (mb 2 p hs cs xs nw B L R (j + 1)).2.2.2.1 = L + ctL (nw, 0) (B.take (j + 1)) ∧ (mb 2 p hs cs xs nw B L R (j + 1)).2.2.2.2 = R + ctL (nw, 1) (B.take (j + 1)) := by
      show (mbS 2 p hs cs xs nw j (mb 2 p hs cs xs nw B L R j)).1 = _ ∧ (mbS 2 p hs cs xs nw j (mb 2 p hs cs xs nw B L R j)).2.1 = 0 ∧ (mbS 2 p hs cs xs nw j (mb 2 p hs cs xs nw B L R j)).2.2.1 = _ ∧ (mbS 2 p hs cs xs nw j (mb 2 p hs cs xs nw B L R j)).2.2.2.1 = _ ∧ (mbS 2 p hs cs xs nw j (mb 2 p hs cs xs nw B L R j)).2.2.2.2 = _
      unfold mbS
      rw [t0, t1, e1, mpj_get]
      by_cases hl : (B.getD j (0, 0)).1 = nw
      · have hw : mW 2 p hs cs nw (B.getD j (0, 0)) (mb 2 p hs cs xs nw B L R j).2.1 = 0 := by unfold mW; rw [if_neg (by decide)]
        have hG : mG 2 nw (nw % p + (B.getD j (0, 0)).2) = (B.getD j (0, 0)).2 := by
          unfold mG
          rw [if_pos rfl]
          have := hb.2.2.1
          omega
        rw [if_pos hl, hSs, hw, hG, e2, e3, e4, e5]
        have eq0 : (B.getD j (0, 0) = (nw, 0)) ↔ (B.getD j (0, 0)).2 = 0 := ⟨fun z => by rw [z], fun z => Prod.ext hl z⟩
        have eq1 : (B.getD j (0, 0) = (nw, 1)) ↔ (B.getD j (0, 0)).2 = 1 := ⟨fun z => by rw [z], fun z => Prod.ext hl z⟩
        refine ⟨?_, rfl, ?_, ?_, ?_⟩
        · show List.set _ _ _ = _
          rw [← mpj_set _ j B (by omega), if_pos hl, show (nw % p + (B.getD j (0, 0)).2) * 3 + 0 = (nw % p + (B.getD j (0, 0)).2) * 3 by omega]
        · show ctL (nw, 0) (B.take j) + ctL (nw, 1) (B.take j) + 1 = _
          rcases hb.2.2.1 with z | z
          · rw [if_pos (eq0.mpr z), if_neg (fun w => by have := eq1.mp w; omega)]; omega
          · rw [if_neg (fun w => by have := eq0.mp w; omega), if_pos (eq1.mpr z)]; omega
        · show (if (B.getD j (0, 0)).2 = 0 then L + ctL (nw, 0) (B.take j) + 1 else L + ctL (nw, 0) (B.take j)) = _
          rcases hb.2.2.1 with z | z
          · rw [if_pos z, if_pos (eq0.mpr z)]; omega
          · rw [if_neg (by omega), if_neg (fun w => by have := eq0.mp w; omega)]; omega
        · show (if (B.getD j (0, 0)).2 = 0 then R + ctL (nw, 1) (B.take j) else R + ctL (nw, 1) (B.take j) + 1) = _
          rcases hb.2.2.1 with z | z
          · rw [if_pos z, if_neg (fun w => by have := eq1.mp w; omega)]; omega
          · rw [if_neg (by omega), if_pos (eq1.mpr z)]; omega
      · rw [if_neg hl, if_neg (fun w => hl (by rw [w])), if_neg (fun w => hl (by rw [w])), mpj_skip _ j B (by rw [if_neg hl])]
        exact ⟨e1, e2, by omega, by omega, by omega⟩
    obtain ⟨m1, m2, m3, m4, m5⟩ := main
    exact ⟨m1, m2, m3, m4, m5, fun hj2 => need (j + 1) hj2 m1 m2⟩
/-- no ball lands: nothing happens -/
theorem mb_no {m p : Int} {hs cs xs : Nat → Int} {nw : Int} {B : List (Int × Int)} {L R : Int} (hB : ∀ b ∈ B, ¬ b.1 = nw) : ∀ j, j ≤ B.length → mb m p hs cs xs nw B L R j = (B, 0, 0, L, R) ∧ (j < B.length → mbG m p hs cs nw j (mb m p hs cs xs nw B L R j))
  | 0, _ => ⟨rfl, fun h => ⟨Int.le_refl _, by show (0 : Int) ≤ 3; decide, fun q => absurd q (hB _ (mem_getD h))⟩⟩
  | j + 1, hj => by
    have e : mb m p hs cs xs nw B L R (j + 1) = (B, 0, 0, L, R) := by
      show mbS m p hs cs xs nw j (mb m p hs cs xs nw B L R j) = _
      rw [(mb_no hB j (by omega)).1]
      unfold mbS
      rw [if_neg (hB _ (mem_getD (by omega)))]
    refine ⟨e, fun h => ?_⟩
    rw [e]
    exact ⟨Int.le_refl _, by show (0 : Int) ≤ 3; decide, fun q => absurd q (hB _ (mem_getD h))⟩
/-- the model's beat is the class's -/
theorem mb_eq {m p : Int} {hs cs xs : Nat → Int} (ok : jOk m p hs cs xs) (hi : dIn m p cs) (hv : sp_ev m p hs cs xs) {nw : Int} {B : List (Int × Int)} {MD : Nat → Int} {n0 L R : Int} (h : bI m p hs cs xs nw B) :
    (mb m p hs cs xs nw B L R B.length).1 = (hbs m p hs cs xs nw (B, MD, n0) 2).1 ∧ (mb m p hs cs xs nw B L R B.length).2.2.1 = ctL (nw, 0) B + ctL (nw, 1) B ∧ (mb m p hs cs xs nw B L R B.length).2.2.2.1 = L + ctL (nw, 0) B ∧ (mb m p hs cs xs nw B L R B.length).2.2.2.2 = R + ctL (nw, 1) B ∧ ∀ j, j < B.length → mbG m p hs cs nw j (mb m p hs cs xs nw B L R j) := by
  have hp := ok.2.1
  have hmp := emod_p (x := nw) hp.1
  have a0 := bI_hT ok hi hv (x := 0) (Or.inl rfl) h
  have a1 := bI_hT ok hi hv (x := 1) (Or.inr rfl) h
  have e : hbs m p hs cs xs nw (B, MD, n0) 2 = hb1 m p hs cs xs nw 1 (hb1 m p hs cs xs nw 0 (B, MD, n0)) := rfl
  by_cases hm : m = 2
  · subst hm
    have hp2 := (ok.2.2.2.2.2 rfl).1
    have et : ∀ x : Int, sp_thr 2 p nw x = if nw % 2 = 1 then -1 else nw % p + x := fun x => by unfold sp_thr; rw [if_pos rfl]
    by_cases ho : nw % 2 = 1
    · have hno : ∀ b ∈ B, ¬ b.1 = nw := fun b hb q => by have := (h.2 b hb).2.2.2.2 rfl; omega
      obtain ⟨g1, -⟩ := mb_no (m := 2) (p := p) (hs := hs) (cs := cs) (xs := xs) (L := L) (R := R) hno B.length (Nat.le_refl _)
      have t0 := a0.2 (by rw [et, if_pos ho])
      have t1 := a1.2 (by rw [et, if_pos ho])
      rw [e, g1, t0, t1]
      have eh : ∀ x q, hb1 2 p hs cs xs nw x q = q := fun x q => by unfold hb1; rw [if_pos (by rw [et, if_pos ho])]
      rw [eh, eh]
      exact ⟨rfl, rfl, by show L = _; omega, by show R = _; omega, fun j hj => (mb_no hno j (by omega)).2 hj⟩
    · have hn : nw % 2 = 0 := by omega
      have hm2 : nw % p % 2 = nw % 2 := Int.emod_emod_of_dvd _ (Int.dvd_of_emod_eq_zero hp2)
      obtain ⟨g1, g2, g3, g4, g5, -⟩ := mb_2 (hs := hs) (cs := cs) (xs := xs) (L := L) (R := R) hp.1 hp2 hn h.2 B.length (Nat.le_refl _)
      rw [List.take_length] at g3 g4 g5
      refine ⟨?_, g3, g4, g5, fun j hj => (mb_2 hp.1 hp2 hn h.2 j (by omega)).2.2.2.2.2 hj⟩
      have hne : ∀ x : Int, (x = 0 ∨ x = 1) → ¬ sp_thr 2 p nw x = -1 := fun x hx => by rw [et, if_neg ho]; omega
      have hc1 : ∀ x : Int, (x = 0 ∨ x = 1) → cs (nw % p + x).toNat = 1 := fun x hx => (hi (nw % p + x).toNat (by omega)).2.2 (by decide)
      have hT0 := a0.1 (hne 0 (Or.inl rfl))
      have hT1 := a1.1 (hne 1 (Or.inr rfl))
      rw [et, if_neg ho] at hT0 hT1
      obtain ⟨-, -, -, b4⟩ := hb1_ct (q := (B, MD, n0)) a0.1 a0.2
      have hb0 : (hb1 2 p hs cs xs nw 0 (B, MD, n0)).1 = B.map (fun b => if b = (nw, 0) then (nw + hs ((nw % p + 0) * 3).toNat, sp_land 2 xs (nw % p + 0) 0 (nw + hs ((nw % p + 0) * 3).toNat)) else b) := by
        unfold hb1
        rw [if_neg (hne 0 (Or.inl rfl)), et, if_neg ho]
        show (tf 2 hs cs xs nw (nw % p + 0) 0 B B.length).1 = _
        rw [tf_2 (hc1 0 (Or.inl rfl)) hT0 B.length (Nat.le_refl _), mpj_all]
      have hT1' : ctL (nw, 1) (hb1 2 p hs cs xs nw 0 (B, MD, n0)).1 = th_w hs (nw % p + 1) (cs (nw % p + 1).toNat).toNat := by rw [b4 1, if_neg (by decide)]; exact hT1
      have hb1' : (hb1 2 p hs cs xs nw 1 (hb1 2 p hs cs xs nw 0 (B, MD, n0))).1 = (hb1 2 p hs cs xs nw 0 (B, MD, n0)).1.map (fun b => if b = (nw, 1) then (nw + hs ((nw % p + 1) * 3).toNat, sp_land 2 xs (nw % p + 1) 1 (nw + hs ((nw % p + 1) * 3).toNat)) else b) := by
        generalize hq : hb1 2 p hs cs xs nw 0 (B, MD, n0) = q0
        rw [hq] at hT1'
        unfold hb1
        rw [if_neg (hne 1 (Or.inr rfl)), et, if_neg ho]
        show (tf 2 hs cs xs nw (nw % p + 1) 1 q0.1 q0.1.length).1 = _
        rw [tf_2 (hc1 1 (Or.inr rfl)) hT1' _ (Nat.le_refl _), mpj_all]
      have hF : ∀ x h9 : Int, (x = 0 ∨ x = 1) → h9 % 2 = 0 → mF 2 p xs nw (nw % p + x) h9 = (nw + h9, sp_land 2 xs (nw % p + x) x (nw + h9)) := fun x h9 hx hh => by
        unfold mF
        rw [if_pos rfl]
        congr 1
        have hx2 : (nw % p + x) % 2 = x := by omega
        have hl := sp_land_rg (m := 2) (xs := xs) (b := nw % p + x) (k := x) (g := nw + h9) (by omega)
        have e3 : sp_land 2 xs (nw % p + x) x (nw % p + x - x + h9) = sp_land 2 xs (nw % p + x) x (nw + h9) := by unfold sp_land; rw [if_pos rfl, if_pos rfl]
        have hm3 : (nw % p + x - x + h9) % p % 2 = (nw % p + x - x + h9) % 2 := Int.emod_emod_of_dvd _ (Int.dvd_of_emod_eq_zero hp2)
        unfold sp_tgt
        rw [if_pos rfl, hx2, e3]
        omega
      have hev : ∀ s : Int, 0 ≤ s → hs (s * 3).toNat % 2 = 0 := fun s h0 => by
        have := (ok.2.2.2.2.2 rfl).2 s.toNat
        rwa [show 3 * s.toNat = (s * 3).toNat by omega] at this
      rw [e, g1, mpj_all, hb1', hb0, List.map_map]
      refine List.map_congr_left (fun b hb => ?_)
      show (if b.1 = nw then mF 2 p xs nw (nw % p + b.2) (hs ((nw % p + b.2) * 3).toNat) else b) = (fun b => if b = (nw, 1) then _ else b) (if b = (nw, 0) then _ else b)
      by_cases hl : b.1 = nw
      · rcases (h.2 b hb).2.2.1 with z | z
        · have eb : b = (nw, 0) := Prod.ext hl z
          have hpos := ctL_pos b B hb
          rw [eb, hT0, th_w_1 (hc1 0 (Or.inl rfl))] at hpos
          have hh : 0 < hs ((nw % p + 0) * 3).toNat := by
            by_cases w : 0 < hs ((nw % p + 0) * 3).toNat
            · exact w
            · rw [if_neg w] at hpos; omega
          rw [if_pos hl, if_pos eb, z, hF 0 _ (Or.inl rfl) (hev _ (by omega))]
          show _ = if (_, _) = (nw, 1) then _ else _
          rw [if_neg (fun w => by have := (Prod.mk.inj w).1; omega)]
        · have eb : b = (nw, 1) := Prod.ext hl z
          rw [if_pos hl, if_neg (show ¬ b = (nw, 0) from fun w => by rw [w] at z; exact absurd (show (0 : Int) = 1 from z) (by decide)), z, hF 1 _ (Or.inr rfl) (hev _ (by omega))]
          show _ = if b = (nw, 1) then _ else _
          rw [if_pos eb]
      · rw [if_neg hl, if_neg (show ¬ b = (nw, 0) from fun w => hl (by rw [w]))]
        show _ = if b = (nw, 1) then _ else _
        rw [if_neg (show ¬ b = (nw, 1) from fun w => hl (by rw [w]))]
  · have et : ∀ x : Int, sp_thr m p nw x = if x = nw % 2 then nw % p else -1 := fun x => by unfold sp_thr; rw [if_neg hm]
    have hx2 : nw % 2 = 0 ∨ nw % 2 = 1 := by omega
    have aT := (bI_hT ok hi hv (x := nw % 2) hx2 h).1 (by rw [et, if_pos rfl]; omega)
    rw [et, if_pos rfl] at aT
    obtain ⟨g1, -, -, g4, g5, g6, -⟩ := mb_1 (xs := xs) (L := L) (R := R) ok hi hm h.2 aT B.length (Nat.le_refl _)
    obtain ⟨t1, -⟩ := tf_end (m := m) (xs := xs) aT
    have eh : ∀ x q, ¬ x = nw % 2 → hb1 m p hs cs xs nw x q = q := fun x q hx => by unfold hb1; rw [if_pos (by rw [et, if_neg hx])]
    have eh2 : ∀ q, (hb1 m p hs cs xs nw (nw % 2) q).1 = (tf m hs cs xs nw (nw % p) (nw % 2) q.1 q.1.length).1 := fun q => by
      unfold hb1
      rw [et, if_pos rfl, if_neg (by omega)]
    rw [g4, g5, g6, t1]
    refine ⟨?_, ?_, ?_, ?_, fun j hj => (mb_1 ok hi hm h.2 aT j (by omega)).2.2.2.2.2.2 hj⟩
    · rw [e, g1]
      rcases hx2 with z | z
      · rw [eh 1 _ (by omega)]
        have := eh2 (B, MD, n0)
        rw [z] at this ⊢
        exact this.symm
      · rw [eh 0 _ (by omega)]
        have := eh2 (B, MD, n0)
        rw [z] at this ⊢
        exact this.symm
    · rcases hx2 with z | z
      · have := a1.2 (by rw [et, if_neg (by omega)])
        rw [z]; omega
      · have := a0.2 (by rw [et, if_neg (by omega)])
        rw [z]; omega
    · rcases hx2 with z | z
      · rw [if_pos z, z]
      · have := a0.2 (by rw [et, if_neg (by omega)])
        rw [if_neg (by omega)]; omega
    · rcases hx2 with z | z
      · have := a1.2 (by rw [et, if_neg (by omega)])
        rw [if_pos z]; omega
      · rw [if_neg (by omega), z]
