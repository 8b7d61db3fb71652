theorem ft_x {m p : Int} {hs cs xs : Nat → Int} {nw T th : Int} {a : Nat} (ht : 0 ≤ th ∧ th ≤ 1) : ft m p hs cs xs nw T 0 th a + ft m p hs cs xs nw T 1 th a = if sp_thr m p (nw - ((a : Int) + 1)) th = -1 then 0 else wc hs (sp_thr m p (nw - ((a : Int) + 1)) th) (T - nw + ((a : Int) + 1)) (cs (sp_thr m p (nw - ((a : Int) + 1)) th).toNat).toNat := by
  have hl := sp_land_rg (m := m) (xs := xs) (b := sp_thr m p (nw - ((a : Int) + 1)) th) (k := th) (g := T) ht
  unfold ft
  by_cases h : sp_thr m p (nw - ((a : Int) + 1)) th = -1
  · rw [if_pos h, if_neg (fun q => q.1 h), if_neg (fun q => q.1 h)]
    rfl
  · rw [if_neg h]
    by_cases q : sp_land m xs (sp_thr m p (nw - ((a : Int) + 1)) th) th T = 0
    · rw [if_pos ⟨h, q⟩, if_neg (by omega)]; omega
    · rw [if_neg (fun w => q w.2), if_pos ⟨h, by omega⟩]; omega
theorem itA_27 {m p : Int} {hs cs xs : Nat → Int} (ok : jOk m p hs cs xs) (hi : dIn m p cs) : (itA m p hs cs xs 9).length ≤ 27 := by
  have hh := ok.2.2.1
  have h1 := itA_len (m := m) (p := p) (cs := cs) (xs := xs) hh 9
  have e : smI (fun g => fc m p hs cs xs 0 (g : Int) 0 9 + fc m p hs cs xs 0 (g : Int) 1 9) 9 = smI (fun a => smI (fun g => (if sp_thr m p (0 - ((a : Int) + 1)) 0 = -1 then 0 else wc hs (sp_thr m p (0 - ((a : Int) + 1)) 0) (((a : Int) + 1) + (g : Int)) (cs (sp_thr m p (0 - ((a : Int) + 1)) 0).toNat).toNat) + (if sp_thr m p (0 - ((a : Int) + 1)) 1 = -1 then 0 else wc hs (sp_thr m p (0 - ((a : Int) + 1)) 1) (((a : Int) + 1) + (g : Int)) (cs (sp_thr m p (0 - ((a : Int) + 1)) 1).toNat).toNat)) 9) 9 := by
    rw [← smI_comm]
    refine smI_cg 9 (fun g _ => ?_)
    unfold fc
    rw [← smI_add]
    refine smI_cg 9 (fun a _ => ?_)
    have e0 := ft_x (m := m) (p := p) (hs := hs) (cs := cs) (xs := xs) (nw := 0) (T := (g : Int)) (th := 0) (a := a) (by decide)
    have e1 := ft_x (m := m) (p := p) (hs := hs) (cs := cs) (xs := xs) (nw := 0) (T := (g : Int)) (th := 1) (a := a) (by decide)
    rw [show (g : Int) - 0 + ((a : Int) + 1) = ((a : Int) + 1) + (g : Int) by omega] at e0 e1
    rw [← e0, ← e1]
    omega
  have key : ∀ a : Nat, ∀ th : Int, 0 ≤ th ∧ th ≤ 1 → smI (fun g => if sp_thr m p (0 - ((a : Int) + 1)) th = -1 then 0 else wc hs (sp_thr m p (0 - ((a : Int) + 1)) th) (((a : Int) + 1) + (g : Int)) (cs (sp_thr m p (0 - ((a : Int) + 1)) th).toNat).toNat) 9 ≤ (if sp_thr m p (0 - ((a : Int) + 1)) th = -1 then 0 else cs (sp_thr m p (0 - ((a : Int) + 1)) th).toNat) := fun a th hth => by
    by_cases q : sp_thr m p (0 - ((a : Int) + 1)) th = -1
    · rw [if_pos q, show smI (fun g => if sp_thr m p (0 - ((a : Int) + 1)) th = -1 then (0 : Int) else wc hs (sp_thr m p (0 - ((a : Int) + 1)) th) (((a : Int) + 1) + (g : Int)) (cs (sp_thr m p (0 - ((a : Int) + 1)) th).toNat).toNat) 9 = smI (fun _ => 0) 9 from smI_cg 9 (fun g _ => if_pos q), smI_0]
      exact Int.le_refl _
    · rw [if_neg q, show smI (fun g => if sp_thr m p (0 - ((a : Int) + 1)) th = -1 then (0 : Int) else wc hs (sp_thr m p (0 - ((a : Int) + 1)) th) (((a : Int) + 1) + (g : Int)) (cs (sp_thr m p (0 - ((a : Int) + 1)) th).toNat).toNat) 9 = smI (fun g => wc hs (sp_thr m p (0 - ((a : Int) + 1)) th) (((a : Int) + 1) + (g : Int)) (cs (sp_thr m p (0 - ((a : Int) + 1)) th).toNat).toNat) 9 from smI_cg 9 (fun g _ => if_neg q)]
      have h2 := wc_sum hs (sp_thr m p (0 - ((a : Int) + 1)) th) ((a : Int) + 1) 9 (cs (sp_thr m p (0 - ((a : Int) + 1)) th).toNat).toNat
      have h3 := ok.2.2.2.1 (sp_thr m p (0 - ((a : Int) + 1)) th).toNat
      omega
  have h2 : smI (fun a => smI (fun g => (if sp_thr m p (0 - ((a : Int) + 1)) 0 = -1 then 0 else wc hs (sp_thr m p (0 - ((a : Int) + 1)) 0) (((a : Int) + 1) + (g : Int)) (cs (sp_thr m p (0 - ((a : Int) + 1)) 0).toNat).toNat) + (if sp_thr m p (0 - ((a : Int) + 1)) 1 = -1 then 0 else wc hs (sp_thr m p (0 - ((a : Int) + 1)) 1) (((a : Int) + 1) + (g : Int)) (cs (sp_thr m p (0 - ((a : Int) + 1)) 1).toNat).toNat)) 9) 9 ≤ smI (fun _ => 3) 9 := by
    refine smI_le 9 (fun a _ => ?_)
    rw [smI_add]
    have k0 := key a 0 (by decide)
    have k1 := key a 1 (by decide)
    have c3 := ok.2.2.2.1
    by_cases hm : m = 2
    · have b0 : (if sp_thr m p (0 - ((a : Int) + 1)) 0 = -1 then (0 : Int) else cs (sp_thr m p (0 - ((a : Int) + 1)) 0).toNat) ≤ 1 := by
        split
        · decide
        · rename_i q
          have r := sp_thr_rg ok (b := 0 - ((a : Int) + 1)) (k := 0) (by decide) q
          have := (hi (sp_thr m p (0 - ((a : Int) + 1)) 0).toNat (by omega)).2.2 (by omega)
          omega
      have b1 : (if sp_thr m p (0 - ((a : Int) + 1)) 1 = -1 then (0 : Int) else cs (sp_thr m p (0 - ((a : Int) + 1)) 1).toNat) ≤ 1 := by
        split
        · decide
        · rename_i q
          have r := sp_thr_rg ok (b := 0 - ((a : Int) + 1)) (k := 1) (by decide) q
          have := (hi (sp_thr m p (0 - ((a : Int) + 1)) 1).toNat (by omega)).2.2 (by omega)
          omega
      omega
    · have d0 := c3 (sp_thr m p (0 - ((a : Int) + 1)) 0).toNat
      have d1 := c3 (sp_thr m p (0 - ((a : Int) + 1)) 1).toNat
      by_cases q : (0 - ((a : Int) + 1)) % 2 = 0
      · have e1 : sp_thr m p (0 - ((a : Int) + 1)) 1 = -1 := by unfold sp_thr; rw [if_neg hm, if_neg (by omega)]
        have b0 : (if sp_thr m p (0 - ((a : Int) + 1)) 0 = -1 then (0 : Int) else cs (sp_thr m p (0 - ((a : Int) + 1)) 0).toNat) ≤ 3 := by split <;> omega
        have b1 : (if sp_thr m p (0 - ((a : Int) + 1)) 1 = -1 then (0 : Int) else cs (sp_thr m p (0 - ((a : Int) + 1)) 1).toNat) = 0 := if_pos e1
        omega
      · have e1 : sp_thr m p (0 - ((a : Int) + 1)) 0 = -1 := by unfold sp_thr; rw [if_neg hm, if_neg (by omega)]
        have b0 : (if sp_thr m p (0 - ((a : Int) + 1)) 1 = -1 then (0 : Int) else cs (sp_thr m p (0 - ((a : Int) + 1)) 1).toNat) ≤ 3 := by split <;> omega
        have b1 : (if sp_thr m p (0 - ((a : Int) + 1)) 0 = -1 then (0 : Int) else cs (sp_thr m p (0 - ((a : Int) + 1)) 0).toNat) = 0 := if_pos e1
        omega
  have h3 : smI (fun _ => 3) 9 = 27 := by decide
  omega
/-! what lands at a beat is what is thrown there -/
theorem smI_pick (f : Nat → Int) : ∀ n (T : Nat), smI (fun k => if T = k then f k else 0) n = if T < n then f T else 0
  | 0, T => by unfold smI; rw [if_neg (by omega)]
  | n + 1, T => by
    unfold smI
    rw [smI_pick f n T]
    by_cases h : T = n
    · subst h
      rw [if_neg (by omega), if_pos rfl, if_pos (by omega)]; omega
    · by_cases h2 : T < n
      · rw [if_pos h2, if_neg h, if_pos (by omega)]; omega
      · rw [if_neg h2, if_neg h, if_neg (by omega)]; omega
theorem ld_w_wc {m p : Int} {hs xs : Nat → Int} (hh : ∀ j, 0 ≤ hs j ∧ hs j ≤ 9) (t s : Int) : ∀ c : Nat, ld_w m p hs xs t s c = smI (fun a => if sp_tgt m p xs s ((a : Int) + 1) = t then wc hs s ((a : Int) + 1) c else 0) 9
  | 0 => by
    unfold ld_w
    refine ((smI_cg 9 (fun a _ => ?_)).trans (smI_0 9)).symm
    split <;> rfl
  | c + 1 => by
    have h := hh (s * 3 + c).toNat
    rw [ld_w, ld_w_wc hh t s c]
    have e : smI (fun a => if sp_tgt m p xs s ((a : Int) + 1) = t then wc hs s ((a : Int) + 1) (c + 1) else 0) 9 = smI (fun a => (if sp_tgt m p xs s ((a : Int) + 1) = t then wc hs s ((a : Int) + 1) c else 0) + (if (hs (s * 3 + c).toNat - 1).toNat = a then (if 0 < hs (s * 3 + c).toNat ∧ sp_tgt m p xs s (hs (s * 3 + c).toNat) = t then 1 else 0) else 0)) 9 := by
      refine smI_cg 9 (fun a _ => ?_)
      have ew : wc hs s ((a : Int) + 1) (c + 1) = wc hs s ((a : Int) + 1) c + (if hs (s * 3 + c).toNat = (a : Int) + 1 then 1 else 0) := rfl
      rw [ew]
      by_cases q : hs (s * 3 + c).toNat = (a : Int) + 1
      · rw [if_pos q, if_pos (show (hs (s * 3 + c).toNat - 1).toNat = a by omega), q]
        by_cases w : sp_tgt m p xs s ((a : Int) + 1) = t
        · rw [if_pos w, if_pos w, if_pos ⟨by omega, w⟩]
        · rw [if_neg w, if_neg w, if_neg (fun z => w z.2)]; rfl
      · have z : (if (hs (s * 3 + c).toNat - 1).toNat = a then (if 0 < hs (s * 3 + c).toNat ∧ sp_tgt m p xs s (hs (s * 3 + c).toNat) = t then (1 : Int) else 0) else 0) = 0 := by
          split
          · rw [if_neg (by omega)]
          · rfl
        rw [if_neg q, z, Int.add_zero, Int.add_zero]
    rw [e, smI_add, smI_pick (fun _ => if 0 < hs (s * 3 + c).toNat ∧ sp_tgt m p xs s (hs (s * 3 + c).toNat) = t then (1 : Int) else 0) 9, if_pos (show (hs (s * 3 + c).toNat - 1).toNat < 9 by omega)]
theorem ld_s_wc {m p : Int} {hs cs xs : Nat → Int} (hh : ∀ j, 0 ≤ hs j ∧ hs j ≤ 9) (t : Int) (n : Nat) : ld_s m p hs cs xs t n = smI (fun a => smI (fun s => if sp_tgt m p xs (s : Int) ((a : Int) + 1) = t then wc hs (s : Int) ((a : Int) + 1) (cs s).toNat else 0) n) 9 := by
  rw [← smI_comm]
  induction n with
  | zero => rfl
  | succ n ih =>
    rw [ld_s, ih, ld_w_wc hh]
    rfl
theorem fc_ev1 {m p : Int} {hs cs xs : Nat → Int} (ok : jOk m p hs cs xs) (hm : ¬ m = 2) (hv : sp_ev m p hs cs xs) {nw x : Int} : fc m p hs cs xs nw nw x 9 = if sp_thr m p nw x = -1 then 0 else th_w hs (sp_thr m p nw x) (cs (sp_thr m p nw x).toNat).toNat := by
  have hp := ok.2.1
  have et : ∀ b th : Int, sp_thr m p b th = if th = b % 2 then b % p else -1 := fun b th => by unfold sp_thr; rw [if_neg hm]
  have el : ∀ s th : Int, sp_land m xs s th nw = nw % 2 := fun s th => by unfold sp_land; rw [if_neg hm]
  have hmp : ∀ b : Int, 0 ≤ b % p ∧ b % p < p := fun b => emod_p hp.1
  have hft : ∀ a : Nat, ft m p hs cs xs nw nw x 0 a + ft m p hs cs xs nw nw x 1 a = if nw % 2 = x then wc hs ((nw - ((a : Int) + 1)) % p) ((a : Int) + 1) (cs ((nw - ((a : Int) + 1)) % p).toNat).toNat else 0 := fun a => by
    have hb := hmp (nw - ((a : Int) + 1))
    unfold ft
    rw [et, et, el, el, show nw - nw + ((a : Int) + 1) = (a : Int) + 1 by omega]
    by_cases q : (nw - ((a : Int) + 1)) % 2 = 0
    · rw [if_pos q.symm, if_neg (show ¬ (1 : Int) = (nw - ((a : Int) + 1)) % 2 by omega)]
      rw [if_neg (show ¬ (¬ (-1 : Int) = -1 ∧ nw % 2 = x) from fun w => w.1 rfl)]
      by_cases w : nw % 2 = x
      · rw [if_pos ⟨by omega, w⟩, if_pos w]; omega
      · rw [if_neg (fun z => w z.2), if_neg w]; rfl
    · rw [if_neg (show ¬ (0 : Int) = (nw - ((a : Int) + 1)) % 2 by omega), if_pos (show (1 : Int) = (nw - ((a : Int) + 1)) % 2 by omega)]
      rw [if_neg (show ¬ (¬ (-1 : Int) = -1 ∧ nw % 2 = x) from fun w => w.1 rfl)]
      by_cases w : nw % 2 = x
      · rw [if_pos ⟨by omega, w⟩, if_pos w]; omega
      · rw [if_neg (fun z => w z.2), if_neg w]; rfl
  unfold fc
  rw [smI_cg 9 (fun a _ => hft a), et]
  have hn := hmp nw
  by_cases w : nw % 2 = x
  · rw [if_pos w.symm, if_neg (by omega), ← hv (nw % p) hn.1 hn.2, ld_s_wc ok.2.2.1]
    refine smI_cg 9 (fun a _ => ?_)
    have hb := hmp (nw - ((a : Int) + 1))
    rw [if_pos w]
    have e2 := smI_pick (fun s => wc hs (s : Int) ((a : Int) + 1) (cs s).toNat) p.toNat ((nw - ((a : Int) + 1)) % p).toNat
    rw [if_pos (by omega)] at e2
    rw [show ((((nw - ((a : Int) + 1)) % p).toNat : Nat) : Int) = (nw - ((a : Int) + 1)) % p by omega] at e2
    rw [← e2]
    refine smI_cg p.toNat (fun s hs9 => ?_)
    have e3 : sp_tgt m p xs (s : Int) ((a : Int) + 1) = ((s : Int) + ((a : Int) + 1)) % p := by unfold sp_tgt; rw [if_neg hm]
    rw [e3]
    by_cases q : ((nw - ((a : Int) + 1)) % p).toNat = s
    · rw [if_pos q, if_pos]
      rw [show (s : Int) = (nw - ((a : Int) + 1)) % p by omega, add_emod_l]
      congr 1
      omega
    · rw [if_neg q, if_neg]
      intro z
      apply q
      have : (nw - ((a : Int) + 1)) % p = (s : Int) := by
        rw [Int.sub_emod, ← z, ← Int.sub_emod, show (s : Int) + ((a : Int) + 1) - ((a : Int) + 1) = (s : Int) by omega]
        exact Int.emod_eq_of_lt (by omega) (by omega)
      omega
  · rw [if_neg (show ¬ x = nw % 2 from fun q => w q.symm), if_pos (show (-1 : Int) = -1 from rfl)]
    exact (smI_cg 9 (fun a _ => if_neg w)).trans (smI_0 9)
theorem wc_1 {hs : Nat → Int} {s ht c : Int} (hc : c = 1) : wc hs s ht c.toNat = if hs (s * 3).toNat = ht then 1 else 0 := by
  subst hc
  show wc hs s ht 1 = _
  rw [wc, wc, show s * 3 + ((0 : Nat) : Int) = s * 3 by omega]
  omega
theorem fc_ev2 {p : Int} {hs cs xs : Nat → Int} (ok : jOk 2 p hs cs xs) (hi : dIn 2 p cs) (hv : sp_ev 2 p hs cs xs) {nw x : Int} (hx : x = 0 ∨ x = 1) : fc 2 p hs cs xs nw nw x 9 = if sp_thr 2 p nw x = -1 then 0 else th_w hs (sp_thr 2 p nw x) (cs (sp_thr 2 p nw x).toNat).toNat := by
  have hp := ok.2.1
  have hp2 := (ok.2.2.2.2.2 rfl).1
  have hev : ∀ s : Int, 0 ≤ s → hs (s * 3).toNat % 2 = 0 := fun s h0 => by
    have := (ok.2.2.2.2.2 rfl).2 s.toNat
    rwa [show 3 * s.toNat = (s * 3).toNat by omega] at this
  have hmp : ∀ b : Int, 0 ≤ b % p ∧ b % p < p := fun b => emod_p hp.1
  have hm2 : ∀ b : Int, b % p % 2 = b % 2 := fun b => Int.emod_emod_of_dvd _ (Int.dvd_of_emod_eq_zero hp2)
  have et : ∀ b th : Int, sp_thr 2 p b th = if b % 2 = 1 then -1 else b % p + th := fun b th => by unfold sp_thr; rw [if_pos rfl]
  have hc1 : ∀ s : Int, 0 ≤ s → s < p → cs s.toNat = 1 := fun s h0 h1 => (hi s.toNat (by omega)).2.2 (by decide)
  -- one thrower, so many beats ago
  have hft : ∀ (a : Nat) (th : Int), 0 ≤ th → th ≤ 1 → ft 2 p hs cs xs nw nw x th a = if (nw - ((a : Int) + 1)) % 2 = 1 then 0 else if sp_land 2 xs ((nw - ((a : Int) + 1)) % p + th) th nw = x ∧ hs (((nw - ((a : Int) + 1)) % p + th) * 3).toNat = (a : Int) + 1 then 1 else 0 := fun a th t0 t1 => by
    have hb := hmp (nw - ((a : Int) + 1))
    have hb2 := hm2 (nw - ((a : Int) + 1))
    unfold ft
    rw [et, show nw - nw + ((a : Int) + 1) = (a : Int) + 1 by omega]
    by_cases q : (nw - ((a : Int) + 1)) % 2 = 1
    · rw [if_pos q, if_pos q, if_neg (fun w => w.1 rfl)]
    · rw [if_neg q, if_neg q]
      by_cases w : sp_land 2 xs ((nw - ((a : Int) + 1)) % p + th) th nw = x
      · rw [if_pos ⟨by omega, w⟩, wc_1 (hc1 _ (by omega) (by omega))]
        by_cases z : hs (((nw - ((a : Int) + 1)) % p + th) * 3).toNat = (a : Int) + 1
        · rw [if_pos z, if_pos ⟨w, z⟩]
        · rw [if_neg z, if_neg (fun y => z y.2)]
      · rw [if_neg (fun z => w z.2), if_neg (fun z => w z.1)]
  rw [et]
  by_cases ho : nw % 2 = 1
  · rw [if_pos ho, if_pos rfl]
    refine (smI_cg 9 (fun a _ => ?_)).trans (smI_0 9)
    rw [hft a 0 (by decide) (by decide), hft a 1 (by decide) (by decide)]
    by_cases q : (nw - ((a : Int) + 1)) % 2 = 1
    · rw [if_pos q, if_pos q]; rfl
    · have hb := hmp (nw - ((a : Int) + 1))
      have e0 := hev ((nw - ((a : Int) + 1)) % p + 0) (by omega)
      have e1 := hev ((nw - ((a : Int) + 1)) % p + 1) (by omega)
      rw [if_neg q, if_neg (fun z => by have := z.2; omega), if_neg q, if_neg (fun z => by have := z.2; omega)]
      rfl
  · have hn := hmp nw
    have hn2 := hm2 nw
    rw [if_neg ho, if_neg (show ¬ nw % p + x = -1 by omega), ← hv (nw % p + x) (by omega) (by omega), ld_s_wc ok.2.2.1]
    refine smI_cg 9 (fun a _ => ?_)
    rw [hft a 0 (by decide) (by decide), hft a 1 (by decide) (by decide)]
    have hb := hmp (nw - ((a : Int) + 1))
    have hb2 := hm2 (nw - ((a : Int) + 1))
    have hland : ∀ s : Int, sp_land 2 xs s (s % 2) (s - s % 2 + ((a : Int) + 1)) = sp_land 2 xs s (s % 2) nw := fun s => by unfold sp_land; rw [if_pos rfl, if_pos rfl]
    have hlr : ∀ s : Int, 0 ≤ sp_land 2 xs s (s % 2) nw ∧ sp_land 2 xs s (s % 2) nw ≤ 1 := fun s => sp_land_rg (by omega)
    by_cases q : (nw - ((a : Int) + 1)) % 2 = 1
    · rw [if_pos q, if_pos q]
      refine (((smI_cg p.toNat (fun s hs9 => ?_)).trans (smI_0 p.toNat))).symm
      have e0 := hev (s : Int) (by omega)
      split
      · have hc := hc1 (s : Int) (by omega) (by omega)
        rw [Int.toNat_natCast] at hc
        rw [wc_1 hc, if_neg (by omega)]
      · rfl
    · rw [if_neg q, if_neg q]
      have hE : ∀ s : Nat, s < p.toNat → (if sp_tgt 2 p xs (s : Int) ((a : Int) + 1) = nw % p + x then wc hs (s : Int) ((a : Int) + 1) (cs s).toNat else 0) = (if ((nw - ((a : Int) + 1)) % p + 0).toNat = s then (if sp_land 2 xs ((nw - ((a : Int) + 1)) % p + 0) 0 nw = x ∧ hs (((nw - ((a : Int) + 1)) % p + 0) * 3).toNat = (a : Int) + 1 then 1 else 0) else 0) + (if ((nw - ((a : Int) + 1)) % p + 1).toNat = s then (if sp_land 2 xs ((nw - ((a : Int) + 1)) % p + 1) 1 nw = x ∧ hs (((nw - ((a : Int) + 1)) % p + 1) * 3).toNat = (a : Int) + 1 then 1 else 0) else 0) := fun s hs9 => by
        have hc := hc1 (s : Int) (by omega) (by omega)
        rw [Int.toNat_natCast] at hc
        rw [wc_1 hc]
        have hX := hmp ((s : Int) - (s : Int) % 2 + ((a : Int) + 1))
        have hX2 := hm2 ((s : Int) - (s : Int) % 2 + ((a : Int) + 1))
        have hL := hlr (s : Int)
        -- the target tells beat and hand
        have key : sp_tgt 2 p xs (s : Int) ((a : Int) + 1) = nw % p + x ↔ (s : Int) - (s : Int) % 2 = (nw - ((a : Int) + 1)) % p ∧ sp_land 2 xs (s : Int) ((s : Int) % 2) nw = x := by
          unfold sp_tgt
          rw [if_pos rfl, hland]
          constructor
          · intro z
            have z1 : ((s : Int) - (s : Int) % 2 + ((a : Int) + 1)) % p = nw % p := by omega
            refine ⟨?_, by omega⟩
            rw [Int.sub_emod nw, ← z1, ← Int.sub_emod, show (s : Int) - (s : Int) % 2 + ((a : Int) + 1) - ((a : Int) + 1) = (s : Int) - (s : Int) % 2 by omega]
            exact (Int.emod_eq_of_lt (by omega) (by omega)).symm
          · rintro ⟨z1, z2⟩
            rw [z1, z2, add_emod_l, show nw - ((a : Int) + 1) + ((a : Int) + 1) = nw by omega]
        by_cases c0 : (s : Int) = (nw - ((a : Int) + 1)) % p
        · rw [if_pos (show ((nw - ((a : Int) + 1)) % p + 0).toNat = s by omega), if_neg (show ¬ ((nw - ((a : Int) + 1)) % p + 1).toNat = s by omega)]
          rw [show (nw - ((a : Int) + 1)) % p + 0 = (s : Int) by omega]
          have e2 : (s : Int) % 2 = 0 := by omega
          rw [e2] at key
          by_cases w : sp_land 2 xs (s : Int) 0 nw = x
          · rw [if_pos (key.mpr ⟨by omega, w⟩)]
            by_cases z : hs ((s : Int) * 3).toNat = (a : Int) + 1
            · rw [if_pos z, if_pos ⟨w, z⟩]; rfl
            · rw [if_neg z, if_neg (fun y => z y.2)]; rfl
          · rw [if_neg (fun y => w (key.mp y).2), if_neg (fun y => w y.1)]; rfl
        · by_cases c1 : (s : Int) = (nw - ((a : Int) + 1)) % p + 1
          · rw [if_neg (show ¬ ((nw - ((a : Int) + 1)) % p + 0).toNat = s by omega), if_pos (show ((nw - ((a : Int) + 1)) % p + 1).toNat = s by omega)]
            rw [← c1]
            have e2 : (s : Int) % 2 = 1 := by omega
            rw [e2] at key
            by_cases w : sp_land 2 xs (s : Int) 1 nw = x
            · rw [if_pos (key.mpr ⟨by omega, w⟩)]
              by_cases z : hs ((s : Int) * 3).toNat = (a : Int) + 1
              · rw [if_pos z, if_pos ⟨w, z⟩]; rfl
              · rw [if_neg z, if_neg (fun y => z y.2)]; rfl
            · rw [if_neg (fun y => w (key.mp y).2), if_neg (fun y => w y.1)]; rfl
          · rw [if_neg (show ¬ ((nw - ((a : Int) + 1)) % p + 0).toNat = s by omega), if_neg (show ¬ ((nw - ((a : Int) + 1)) % p + 1).toNat = s by omega), if_neg (fun y => by have := (key.mp y).1; omega)]
            rfl
      rw [smI_cg p.toNat hE, smI_add, smI_pick (fun _ => if sp_land 2 xs ((nw - ((a : Int) + 1)) % p + 0) 0 nw = x ∧ hs (((nw - ((a : Int) + 1)) % p + 0) * 3).toNat = (a : Int) + 1 then (1 : Int) else 0), smI_pick (fun _ => if sp_land 2 xs ((nw - ((a : Int) + 1)) % p + 1) 1 nw = x ∧ hs (((nw - ((a : Int) + 1)) % p + 1) * 3).toNat = (a : Int) + 1 then (1 : Int) else 0), if_pos (show ((nw - ((a : Int) + 1)) % p + 0).toNat < p.toNat by omega), if_pos (show ((nw - ((a : Int) + 1)) % p + 1).toNat < p.toNat by omega)]
/-- what lands at a beat in a hand is what that hand throws there -/
theorem fc_ev {m p : Int} {hs cs xs : Nat → Int} (ok : jOk m p hs cs xs) (hi : dIn m p cs) (hv : sp_ev m p hs cs xs) {nw x : Int} (hx : x = 0 ∨ x = 1) : fc m p hs cs xs nw nw x 9 = if sp_thr m p nw x = -1 then 0 else th_w hs (sp_thr m p nw x) (cs (sp_thr m p nw x).toNat).toNat := by
  by_cases hm : m = 2
  · subst hm
    exact fc_ev2 ok hi hv hx
  · exact fc_ev1 ok hm hv
