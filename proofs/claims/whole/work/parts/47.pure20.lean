/-! the floor of drafts that are the same where it counts -/
def sRl (hs cs xs hs' cs' xs' : Nat → Int) (s : Int) : Prop := cs' s.toNat = cs s.toNat ∧ xs' s.toNat = xs s.toNat ∧ ∀ k : Nat, (k : Int) < cs s.toNat → hs' (s * 3 + (k : Int)).toNat = hs (s * 3 + (k : Int)).toNat
theorem dRl_s {m p m' p' : Int} {hs cs xs hs' cs' xs' : Nat → Int} (h : dRl m p hs cs xs m' p' hs' cs' xs') {s : Int} (h0 : 0 ≤ s) (h1 : s < p) : sRl hs cs xs hs' cs' xs' s := by
  have h2 := h.2.2 s.toNat (by omega)
  refine ⟨h2.1, h2.2.1, fun k hk => ?_⟩
  have h3 := h2.2.2 k hk
  rwa [show s.toNat * 3 + k = (s * 3 + (k : Int)).toNat by omega] at h3
theorem sp_land_cg {m : Int} {xs xs' : Nat → Int} {s k g : Int} (h : xs' s.toNat = xs s.toNat) : sp_land m xs' s k g = sp_land m xs s k g := by
  unfold sp_land
  rw [h]
theorem itW_cg {hs hs' : Nat → Int} {s ht : Int} {x : Int × Int} : ∀ w : Nat, (∀ k : Nat, k < w → hs' (s * 3 + (k : Int)).toNat = hs (s * 3 + (k : Int)).toNat) → itW hs' s ht x w = itW hs s ht x w
  | 0, _ => rfl
  | w + 1, h => by
    unfold itW
    rw [itW_cg w (fun k hk => h k (by omega)), h w (by omega)]
theorem itT_cg {m p : Int} {hs cs xs hs' cs' xs' : Nat → Int} (ok : jOk m p hs cs xs) (h : dRl m p hs cs xs m p hs' cs' xs') {g k ago th : Int} (ht : 0 ≤ th ∧ th ≤ 1) : itT m p hs' cs' xs' g k ago th = itT m p hs cs xs g k ago th := by
  unfold itT
  by_cases q : sp_thr m p (-ago) th = -1
  · rw [if_neg (fun w => w.1 q), if_neg (fun w => w.1 q)]
  · have hr := sp_thr_rg ok (b := -ago) (k := th) ht q
    obtain ⟨h1, h2, h3⟩ := dRl_s h hr.1 hr.2
    rw [sp_land_cg h2, h1, itW_cg _ (fun k hk => h3 k (by omega))]
theorem itL_cg {m p : Int} {hs cs xs hs' cs' xs' : Nat → Int} (ok : jOk m p hs cs xs) (h : dRl m p hs cs xs m p hs' cs' xs') {g k : Int} : ∀ a, itL m p hs' cs' xs' g k a = itL m p hs cs xs g k a
  | 0 => rfl
  | a + 1 => by
    unfold itL
    rw [itL_cg ok h a, itT_cg ok h (by decide), itT_cg ok h (by decide)]
theorem itA_cg {m p : Int} {hs cs xs hs' cs' xs' : Nat → Int} (ok : jOk m p hs cs xs) (h : dRl m p hs cs xs m p hs' cs' xs') : ∀ g, itA m p hs' cs' xs' g = itA m p hs cs xs g
  | 0 => rfl
  | g + 1 => by
    unfold itA
    rw [itA_cg ok h g, itL_cg ok h, itL_cg ok h]
theorem nx_cg {hs hs' : Nat → Int} {s c : Int} (h : ∀ k : Nat, (k : Int) < c → hs' (s * 3 + (k : Int)).toNat = hs (s * 3 + (k : Int)).toNat) : ∀ (k : Nat) (f : Int), 0 ≤ f → f + k ≤ c → nx hs' s k f = nx hs s k f
  | 0, f, _, _ => rfl
  | k + 1, f, h0, h1 => by
    unfold nx
    have h2 := h f.toNat (by omega)
    rw [show ((f.toNat : Nat) : Int) = f by omega] at h2
    rw [h2, nx_cg h k (f + 1) (by omega) (by omega)]
theorem tf_cg {m : Int} {hs cs xs hs' cs' xs' : Nat → Int} (hc : ∀ j, 0 ≤ cs j ∧ cs j ≤ 3) {nw s k : Int} (h : sRl hs cs xs hs' cs' xs' s) (B : List (Int × Int)) : ∀ j, tf m hs' cs' xs' nw s k B j = tf m hs cs xs nw s k B j
  | 0 => rfl
  | j + 1 => by
    show tfs m hs' cs' xs' nw s k j (tf m hs' cs' xs' nw s k B j) = tfs m hs cs xs nw s k j (tf m hs cs xs nw s k B j)
    rw [tf_cg hc h B j]
    have hr := tf_rg m (hs := hs) (cs := cs) (xs := xs) hc nw s k B j
    generalize tf m hs cs xs nw s k B j = q at hr ⊢
    obtain ⟨r1, r2, -⟩ := hr
    obtain ⟨h1, h2, h3⟩ := h
    have e : nx hs' s (cs s.toNat - (q.2.1 + 1)).toNat (q.2.1 + 1) = nx hs s (cs s.toNat - (q.2.1 + 1)).toNat (q.2.1 + 1) := by
      by_cases z : q.2.1 + 1 ≤ cs s.toNat
      · exact nx_cg h3 _ _ (by omega) (by omega)
      · rw [show (cs s.toNat - (q.2.1 + 1)).toNat = 0 by omega]
        rfl
    unfold tfs
    rw [h1, e]
    by_cases q1 : q.2.2.2 = true
    · rw [if_pos q1, if_pos q1]
    · rw [if_neg q1, if_neg q1]
      by_cases q2 : (q.1.getD j (0, 0)).1 = nw ∧ (q.1.getD j (0, 0)).2 = k
      · rw [if_pos q2, if_pos q2]
        by_cases q3 : nx hs s (cs s.toNat - (q.2.1 + 1)).toNat (q.2.1 + 1) = -1
        · rw [if_pos q3, if_pos q3]
        · rw [if_neg q3, if_neg q3]
          have q4 := nx_rg hs s (cs s.toNat - (q.2.1 + 1)).toNat (q.2.1 + 1)
          generalize nx hs s (cs s.toNat - (q.2.1 + 1)).toNat (q.2.1 + 1) = w at q3 q4 ⊢
          have h4 := h3 w.toNat (by omega)
          rw [show ((w.toNat : Nat) : Int) = w by omega] at h4
          rw [h4, sp_land_cg h2]
      · rw [if_neg q2, if_neg q2]
theorem hb1_cg {m p : Int} {hs cs xs hs' cs' xs' : Nat → Int} (ok : jOk m p hs cs xs) (h : dRl m p hs cs xs m p hs' cs' xs') {nw k : Int} (hk : 0 ≤ k ∧ k ≤ 1) (q : List (Int × Int) × (Nat → Int) × Int) : hb1 m p hs' cs' xs' nw k q = hb1 m p hs cs xs nw k q := by
  unfold hb1
  by_cases z : sp_thr m p nw k = -1
  · rw [if_pos z, if_pos z]
  · have hr := sp_thr_rg ok (b := nw) (k := k) hk z
    rw [if_neg z, if_neg z, tf_cg ok.2.2.2.1 (dRl_s h hr.1 hr.2)]
theorem hbs_cg {m p : Int} {hs cs xs hs' cs' xs' : Nat → Int} (ok : jOk m p hs cs xs) (h : dRl m p hs cs xs m p hs' cs' xs') {nw : Int} (q : List (Int × Int) × (Nat → Int) × Int) : hbs m p hs' cs' xs' nw q 2 = hbs m p hs cs xs nw q 2 := by
  show hb1 m p hs' cs' xs' nw 1 (hb1 m p hs' cs' xs' nw 0 q) = hb1 m p hs cs xs nw 1 (hb1 m p hs cs xs nw 0 q)
  rw [hb1_cg ok h (by decide), hb1_cg ok h (by decide)]
/-! the model numbers its balls -/
theorem itW_no {hs : Nat → Int} (hh : ∀ j, 0 ≤ hs j ∧ hs j ≤ 9) {s ht : Int} {x : Int × Int} (h : 9 < ht) : ∀ w, itW hs s ht x w = []
  | 0 => rfl
  | w + 1 => by
    unfold itW
    have := hh (s * 3 + (w : Int)).toNat
    rw [itW_no hh h w, if_neg (by omega)]
    rfl
theorem itT_no {m p : Int} {hs cs xs : Nat → Int} (hh : ∀ j, 0 ≤ hs j ∧ hs j ≤ 9) {g k ago th : Int} (h : 9 < g + ago) : itT m p hs cs xs g k ago th = [] := by
  unfold itT
  split
  · exact itW_no hh h _
  · rfl
theorem itL_9 {m p : Int} {hs cs xs : Nat → Int} (hh : ∀ j, 0 ≤ hs j ∧ hs j ≤ 9) {g k : Int} (h0 : 0 ≤ g) : ∀ e, itL m p hs cs xs g k ((9 - g).toNat + e) = itL m p hs cs xs g k (9 - g).toNat
  | 0 => rfl
  | e + 1 => by
    show itL m p hs cs xs g k ((9 - g).toNat + e) ++ (itT m p hs cs xs g k ((((9 - g).toNat + e : Nat) : Int) + 1) 0 ++ itT m p hs cs xs g k ((((9 - g).toNat + e : Nat) : Int) + 1) 1) = _
    rw [itL_9 hh h0 e, itT_no hh (by omega), itT_no hh (by omega)]
    simp
theorem itL_full {m p : Int} {hs cs xs : Nat → Int} (hh : ∀ j, 0 ≤ hs j ∧ hs j ≤ 9) {g k : Int} (h0 : 0 ≤ g ∧ g ≤ 9) : itL m p hs cs xs g k (9 - g).toNat = itL m p hs cs xs g k 9 := by
  have e := itL_9 (m := m) (p := p) (cs := cs) (xs := xs) (k := k) hh h0.1 g.toNat
  rw [show (9 - g).toNat + g.toNat = 9 by omega] at e
  exact e.symm
/-- plain and multiplex drafts -/
theorem itL_1 {m p : Int} {hs cs xs : Nat → Int} (hp : 1 ≤ p) (hm : ¬ m = 2) {g : Int} (a : Nat) : itL m p hs cs xs g (g % 2) (a + 1) = itL m p hs cs xs g (g % 2) a ++ itW hs ((-((a : Int) + 1)) % p) (g + ((a : Int) + 1)) (g, g % 2) (cs ((-((a : Int) + 1)) % p).toNat).toNat := by
  have et : ∀ b th : Int, sp_thr m p b th = if th = b % 2 then b % p else -1 := fun b th => by unfold sp_thr; rw [if_neg hm]
  have el : ∀ s th : Int, sp_land m xs s th g = g % 2 := fun s th => by unfold sp_land; rw [if_neg hm]
  have hmp := emod_p (x := -((a : Int) + 1)) hp
  show itL m p hs cs xs g (g % 2) a ++ _ = _
  congr 1
  unfold itT
  rw [et, et, el, el]
  by_cases q : (-((a : Int) + 1)) % 2 = 0
  · rw [if_pos q.symm, if_neg (show ¬ (1 : Int) = (-((a : Int) + 1)) % 2 by omega), if_pos ⟨by omega, rfl⟩, if_neg (fun w => w.1 rfl), List.append_nil]
  · rw [if_neg (show ¬ (0 : Int) = (-((a : Int) + 1)) % 2 by omega), if_pos (show (1 : Int) = (-((a : Int) + 1)) % 2 by omega), if_neg (fun w => w.1 rfl), if_pos ⟨by omega, rfl⟩, List.nil_append]
theorem itL_1n {m p : Int} {hs cs xs : Nat → Int} (hm : ¬ m = 2) {g k : Int} (hk : ¬ g % 2 = k) : ∀ a, itL m p hs cs xs g k a = []
  | 0 => rfl
  | a + 1 => by
    have el : ∀ s th : Int, sp_land m xs s th g = g % 2 := fun s th => by unfold sp_land; rw [if_neg hm]
    unfold itL itT
    rw [itL_1n hm hk a, el, el, if_neg (fun w => hk w.2), if_neg (fun w => hk w.2)]
    rfl
/-- synchronous drafts -/
def it2 (p : Int) (hs xs : Nat → Int) (g k ago s : Int) : List (Int × Int) := if hs (s * 3).toNat = g + ago ∧ sp_tgt 2 p xs s (hs (s * 3).toNat) % 2 = k then [(g, k)] else []
theorem itT_2 {p : Int} {hs cs xs : Nat → Int} (ok : jOk 2 p hs cs xs) (hi : dIn 2 p cs) {g k ago th : Int} (ht : th = 0 ∨ th = 1) (ha : ago % 2 = 0) : itT 2 p hs cs xs g k ago th = it2 p hs xs g k ago ((-ago) % p + th) := by
  have hp := ok.2.1
  have hp2 := (ok.2.2.2.2.2 rfl).1
  have hmp := emod_p (x := -ago) hp.1
  have hm2 : (-ago) % p % 2 = (-ago) % 2 := Int.emod_emod_of_dvd _ (Int.dvd_of_emod_eq_zero hp2)
  have et : sp_thr 2 p (-ago) th = (-ago) % p + th := by unfold sp_thr; rw [if_pos rfl, if_neg (by omega)]
  have hc := (hi ((-ago) % p + th).toNat (by omega)).2.2 (by decide)
  have hev := (ok.2.2.2.2.2 rfl).2 ((-ago) % p + th).toNat
  rw [show 3 * ((-ago) % p + th).toNat = (((-ago) % p + th) * 3).toNat by omega] at hev
  have hx2 : ((-ago) % p + th) % 2 = th := by omega
  have hl := sp_land_rg (m := 2) (xs := xs) (b := (-ago) % p + th) (k := th) (g := g) (by omega)
  have e3 : ∀ h9 : Int, h9 % 2 = 0 → sp_tgt 2 p xs ((-ago) % p + th) h9 % 2 = sp_land 2 xs ((-ago) % p + th) th g := fun h9 hh => by
    have hm3 : ((-ago) % p + th - th + h9) % p % 2 = ((-ago) % p + th - th + h9) % 2 := Int.emod_emod_of_dvd _ (Int.dvd_of_emod_eq_zero hp2)
    have e4 : sp_land 2 xs ((-ago) % p + th) th ((-ago) % p + th - th + h9) = sp_land 2 xs ((-ago) % p + th) th g := by unfold sp_land; rw [if_pos rfl, if_pos rfl]
    unfold sp_tgt
    rw [if_pos rfl, hx2, e4]
    omega
  unfold itT it2
  rw [et, e3 _ hev, hc]
  show (if _ then itW hs ((-ago) % p + th) (g + ago) (g, k) 1 else []) = _
  rw [itW, itW, show ((-ago) % p + th) * 3 + ((0 : Nat) : Int) = ((-ago) % p + th) * 3 by omega, List.nil_append]
  by_cases q : sp_land 2 xs ((-ago) % p + th) th g = k
  · rw [if_pos ⟨by omega, q⟩]
    by_cases w : hs (((-ago) % p + th) * 3).toNat = g + ago
    · rw [if_pos w, if_pos ⟨w, q⟩]
    · rw [if_neg w, if_neg (fun z => w z.1)]
  · rw [if_neg (fun z => q z.2), if_neg (fun z => q z.2)]
theorem itL_2 {p : Int} {hs cs xs : Nat → Int} (ok : jOk 2 p hs cs xs) (hi : dIn 2 p cs) {g k : Int} {a : Nat} (ha : ((a : Int) + 1) % 2 = 0) : itL 2 p hs cs xs g k (a + 1) = itL 2 p hs cs xs g k a ++ it2 p hs xs g k ((a : Int) + 1) ((-((a : Int) + 1)) % p + 0) ++ it2 p hs xs g k ((a : Int) + 1) ((-((a : Int) + 1)) % p + 1) := by
  show itL 2 p hs cs xs g k a ++ _ = _
  rw [itT_2 ok hi (Or.inl rfl) ha, itT_2 ok hi (Or.inr rfl) ha, List.append_assoc]
theorem itL_2o {p : Int} {hs cs xs : Nat → Int} {g k : Int} {a : Nat} (ha : ((a : Int) + 1) % 2 = 1) : itL 2 p hs cs xs g k (a + 1) = itL 2 p hs cs xs g k a := by
  have et : ∀ th, sp_thr 2 p (-((a : Int) + 1)) th = -1 := fun th => by unfold sp_thr; rw [if_pos rfl, if_pos (by omega)]
  show itL 2 p hs cs xs g k a ++ _ = _
  unfold itT
  rw [et, et, if_neg (fun w => w.1 rfl), if_neg (fun w => w.1 rfl)]
  simp
/-- the model's balls, beat by beat -/
def moA (m p : Int) (hs cs xs : Nat → Int) : Nat → List (Int × Int)
  | 0 => []
  | g + 1 => if m = 2 then moA m p hs cs xs g ++ itL m p hs cs xs (g : Int) 0 9 ++ itL m p hs cs xs (g : Int) 1 9 else moA m p hs cs xs g ++ itL m p hs cs xs (g : Int) ((g : Int) % 2) 9
theorem moA_it {m p : Int} {hs cs xs : Nat → Int} (hh : ∀ j, 0 ≤ hs j ∧ hs j ≤ 9) : ∀ g : Nat, g ≤ 9 → moA m p hs cs xs g = itA m p hs cs xs g
  | 0, _ => rfl
  | g + 1, hg => by
    unfold moA itA
    rw [moA_it hh g (by omega), itL_full hh (by omega), itL_full hh (by omega)]
    by_cases hm : m = 2
    · rw [if_pos hm, List.append_assoc]
    · rw [if_neg hm]
      by_cases q : (g : Int) % 2 = 0
      · rw [q, itL_1n hm (show ¬ (g : Int) % 2 = 1 by omega), List.append_nil]
      · rw [show (g : Int) % 2 = 1 by omega, itL_1n hm (show ¬ (g : Int) % 2 = 0 by omega), List.nil_append]
theorem moA_mono {m p : Int} {hs cs xs : Nat → Int} {g : Nat} : ∀ e, (moA m p hs cs xs g).length ≤ (moA m p hs cs xs (g + e)).length
  | 0 => Nat.le_refl _
  | e + 1 => by
    refine Nat.le_trans (moA_mono e) ?_
    show _ ≤ (if m = 2 then moA m p hs cs xs (g + e) ++ itL m p hs cs xs ((g + e : Nat) : Int) 0 9 ++ itL m p hs cs xs ((g + e : Nat) : Int) 1 9 else moA m p hs cs xs (g + e) ++ itL m p hs cs xs ((g + e : Nat) : Int) (((g + e : Nat) : Int) % 2) 9).length
    split
    · rw [List.length_append, List.length_append]; omega
    · rw [List.length_append]; omega
theorem moA_27 {m p : Int} {hs cs xs : Nat → Int} (ok : jOk m p hs cs xs) (hi : dIn m p cs) {g : Nat} (hg : g ≤ 9) : (moA m p hs cs xs g).length ≤ 27 := by
  have h1 := moA_mono (m := m) (p := p) (hs := hs) (cs := cs) (xs := xs) (g := g) (9 - g)
  rw [show g + (9 - g) = 9 by omega, moA_it ok.2.2.1 9 (Nat.le_refl _)] at h1
  exact Nat.le_trans h1 (itA_27 ok hi)
theorem nba_it {m p : Int} {hs cs xs : Nat → Int} (ok : jOk m p hs cs xs) (hi : dIn m p cs) : nba m p hs cs xs 9 = itA m p hs cs xs 9 := by
  rw [nba_tk 9, List.take_of_length_le (itA_27 ok hi)]
theorem itL_mono {m p : Int} {hs cs xs : Nat → Int} {g k : Int} {a : Nat} : ∀ e, (itL m p hs cs xs g k a).length ≤ (itL m p hs cs xs g k (a + e)).length
  | 0 => Nat.le_refl _
  | e + 1 => by
    refine Nat.le_trans (itL_mono e) ?_
    show _ ≤ (itL m p hs cs xs g k (a + e) ++ _).length
    rw [List.length_append]; omega
theorem itW_mono {hs : Nat → Int} {s ht : Int} {x : Int × Int} {w : Nat} : ∀ e, (itW hs s ht x w).length ≤ (itW hs s ht x (w + e)).length
  | 0 => Nat.le_refl _
  | e + 1 => by
    refine Nat.le_trans (itW_mono e) ?_
    show _ ≤ (itW hs s ht x (w + e) ++ _).length
    rw [List.length_append]; omega
/-- every ball is as it may be at the start -/
theorem itA_ok {m p : Int} {hs cs xs : Nat → Int} (ok : jOk m p hs cs xs) (hi : dIn m p cs) : ∀ g : Nat, g ≤ 9 → ∀ b ∈ itA m p hs cs xs g, bOk m 0 b
  | 0, _, b, hb => by cases hb
  | g + 1, hg, b, hb => by
    have key : ∀ k : Int, (k = 0 ∨ k = 1) → ∀ a, ∀ b ∈ itL m p hs cs xs (g : Int) k a, bOk m 0 b := by
      intro k hk a
      induction a with
      | zero => intro b hb; cases hb
      | succ a ih =>
        intro b hb
        have hb2 : b ∈ itL m p hs cs xs (g : Int) k a ++ (itT m p hs cs xs (g : Int) k ((a : Int) + 1) 0 ++ itT m p hs cs xs (g : Int) k ((a : Int) + 1) 1) := hb
        have hW : ∀ s ht w, ∀ b ∈ itW hs s ht ((g : Int), k) w, b = ((g : Int), k) := by
          intro s ht w
          induction w with
          | zero => intro b hb; cases hb
          | succ w ih2 =>
            intro b hb
            unfold itW at hb
            rcases List.mem_append.mp hb with z | z
            · exact ih2 b z
            · split at z
              · exact List.mem_singleton.mp z
              · cases z
        have hTm : ∀ th : Int, (th = 0 ∨ th = 1) → ∀ b ∈ itT m p hs cs xs (g : Int) k ((a : Int) + 1) th, bOk m 0 b := by
          intro th hth b hb
          have hb0 := hb
          unfold itT at hb
          split at hb
          · rename_i hc
            have e := hW _ _ _ b hb
            subst e
            refine ⟨by show (0 : Int) ≤ g; omega, by show (g : Int) ≤ 0 + 9; omega, hk, fun hm => ?_, fun hm => ?_⟩
            · show k = (g : Int) % 2
              rw [← hc.2]
              unfold sp_land
              rw [if_neg hm]
            · subst hm
              show (g : Int) % 2 = 0
              by_cases q : ((a : Int) + 1) % 2 = 0
              · rw [itT_2 ok hi hth q] at hb0
                unfold it2 at hb0
                split at hb0
                · rename_i hz
                  have hp := ok.2.1
                  have hmp := emod_p (x := -((a : Int) + 1)) hp.1
                  have hev := (ok.2.2.2.2.2 rfl).2 ((-((a : Int) + 1)) % p + th).toNat
                  rw [show 3 * ((-((a : Int) + 1)) % p + th).toNat = (((-((a : Int) + 1)) % p + th) * 3).toNat by omega, hz.1] at hev
                  omega
                · cases hb0
              · exfalso
                apply hc.1
                unfold sp_thr
                rw [if_pos rfl, if_pos (by omega)]
          · cases hb
        rcases List.mem_append.mp hb2 with z | z
        · exact ih b z
        · rcases List.mem_append.mp z with z | z
          · exact hTm 0 (Or.inl rfl) b z
          · exact hTm 1 (Or.inr rfl) b z
    unfold itA at hb
    rcases List.mem_append.mp hb with z | z
    · exact itA_ok ok hi g (by omega) b z
    · rcases List.mem_append.mp z with z | z
      · exact key 0 (Or.inl rfl) _ b z
      · exact key 1 (Or.inr rfl) _ b z
theorem itA_bI {m p : Int} {hs cs xs : Nat → Int} (ok : jOk m p hs cs xs) (hi : dIn m p cs) : bI m p hs cs xs 0 (itA m p hs cs xs 9) := ⟨fun T x hT hx => itA_fc ok.2.2.1 hT hx, itA_ok ok hi 9 (Nat.le_refl _)⟩
