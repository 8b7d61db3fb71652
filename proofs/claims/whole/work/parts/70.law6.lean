set_option maxHeartbeats 4000000 in
set_option maxRecDepth 100000 in
theorem lw_join {l : Launch} {G : jl_G} {F : List Frame → Array Value → State → Nat → Nat → (Nat → Nat) → Nat → State → Prop} {d n t ck sk : Nat} {h : Nat → va_E} {z : UInt32} (hl9 : l.stackTraces = false) (hd9 : 20 ≤ d) (hlen : G.2.2.2.2.1 ≤ 2048) (ht : 4 * t + 4 ≤ G.2.2.2.2.1) (hI : LI t n h) (hnext : ∀ n' h', LI (t + 1) n' h' → jl_AW l G F m_Lw_law d 1405 [some (.float (z)), some (.ref (0)), some (.ref (28)), some (.ref (42)), some (.int (zI (((4 * t : Nat) : Int)))), none, none] [] n' h' ck sk) : jl_AW l G F m_Lw_law d 808 [some (.float (z)), some (.ref (0)), some (.ref (28)), some (.ref (42)), some (.int (zI (((4 * t : Nat) : Int)))), none, none] [] n h (ck + 3) (sk + 18) := by
  obtain ⟨M, hQ, okM, hrw, hX, ⟨f, hO⟩, hn, hlD, hlS, hlJ, hlC, hlF⟩ := hI
  have hz1 := scr_z G (4 * t + 1)
  have hz2 := scr_z G (4 * t + 2)
  have hz3 := scr_z G (4 * t + 3)
  obtain ⟨fx, m9, p9, hs9, cs9, xs9, hSH, hsk, hsn⟩ := id hlS
  obtain ⟨DS, QU, WA, qd, ln, md, fs, ts, hJ, hj⟩ := id hlJ
  refine jl_aload_n d_Lw_law_808 rfl rfl ?_
  refine jl_sload_n d_Lw_law_809 rfl rfl ?_
  refine jl_iload d_Lw_law_810 rfl ?_
  refine jl_iconst (v := zI (1)) d_Lw_law_812 (by decide) ?_
  refine jz_iadd (v := ((4 * t + 1 : Nat) : Int)) d_Lw_law_813 (by omega) ?_
  refine jz_sld (k9 := 4 * t + 1) d_Lw_law_814 rfl (by omega) hlen ?_
  refine jl_sload_n d_Lw_law_815 rfl rfl ?_
  refine jl_iload d_Lw_law_816 rfl ?_
  refine jl_iconst (v := zI (2)) d_Lw_law_818 (by decide) ?_
  refine jz_iadd (v := ((4 * t + 2 : Nat) : Int)) d_Lw_law_819 (by omega) ?_
  refine jz_sld (k9 := 4 * t + 2) d_Lw_law_820 rfl (by omega) hlen ?_
  refine jl_aload_n d_Lw_law_821 rfl rfl ?_
  have hoo : ∀ k o, fx k = some o → (0 < o ∨ o + 5 ≤ 0) ∧ (o + 5 ≤ 7 ∨ 7 + 4 ≤ o) ∧ jOk (m9 k) (p9 k) (hs9 k) (cs9 k) (xs9 k) := fun k o q => by have := hsk k o q; exact ⟨by omega, by omega, this.2.2.2.1⟩
  have hre : 0 ≤ scr G (4 * t + 1) ∧ scr G (4 * t + 1) < 6 → 0 ≤ scr G (4 * t + 2) ∧ scr G (4 * t + 2) < 6 → ∀ o1 o2, fx (scr G (4 * t + 1)).toNat = some o1 → fx (scr G (4 * t + 2)).toNat = some o2 → ((m9 (scr G (4 * t + 1)).toNat = 0 ∧ sp_val (m9 (scr G (4 * t + 1)).toNat) (p9 (scr G (4 * t + 1)).toNat) (hs9 (scr G (4 * t + 1)).toNat) (cs9 (scr G (4 * t + 1)).toNat) (xs9 (scr G (4 * t + 1)).toNat)) ∧ (m9 (scr G (4 * t + 2)).toNat = 0 ∧ sp_val (m9 (scr G (4 * t + 2)).toNat) (p9 (scr G (4 * t + 2)).toNat) (hs9 (scr G (4 * t + 2)).toNat) (cs9 (scr G (4 * t + 2)).toNat) (xs9 (scr G (4 * t + 2)).toNat)) ∧ sp_balls (p9 (scr G (4 * t + 1)).toNat) (hs9 (scr G (4 * t + 1)).toNat) (cs9 (scr G (4 * t + 1)).toNat) = sp_balls (p9 (scr G (4 * t + 2)).toNat) (hs9 (scr G (4 * t + 2)).toNat) (cs9 (scr G (4 * t + 2)).toNat)) → ∀ s, 0 ≤ s → s < p9 (scr G (4 * t + 1)).toNat → rch (glS (p9 (scr G (4 * t + 2)).toNat) (hs9 (scr G (4 * t + 2)).toNat)) 9 (sp_st (p9 (scr G (4 * t + 1)).toNat) (hs9 (scr G (4 * t + 1)).toNat) s) := by
    intro ha9 hb9 o1 o2 ho1 ho2 hcc s r1 r2
    have kA := (hsk _ o1 ho1).2.2.2
    have kB := (hsk _ o2 ho2).2.2.2
    obtain ⟨⟨x1, x2⟩, ⟨y1, y2⟩, z1⟩ := hcc
    have a1 := kA.1
    have a2 := kA.2.1
    have b1 := kB.1
    have b2 := kB.2.1
    rw [x1] at a1 a2 x2
    rw [y1] at b1 b2 y2
    exact rch_dr a1 a2 x2 b1 b2 y2 z1 s r1
  refine jl_invSH (M' := m_Lw_join) (d' := d - 1) (ck' := 3) (sk' := 18) (ck := ck) (sk := sk) (na := 4) (as := [.ref (0), .int (zI (scr G (4 * t + 1))), .int (zI (scr G (4 * t + 2))), .ref (42)]) (st := []) d_Lw_law_822 rfl mw_Lw_135 ww_Lw_join nw_Lw cw_Lw_join rfl rfl (by decide +kernel) (by omega) (Nat.le_of_ble_eq_true rfl) (Nat.le_of_ble_eq_true rfl) ?_
  refine k_Lw_join hl9 (d' := d - 2) (by omega) hX ?_
  refine k_join hl9 (by omega) hX hSH hoo (Or.inl (by decide)) (Or.inl (by decide)) hJ hz1 hz2 (fun ha9 hb9 o1 o2 ho1 ho2 hcc s r1 r2 => ⟨9, hre ha9 hb9 o1 o2 ho1 ho2 hcc s r1 r2⟩) (fun ha9 hb9 o1 o2 ho1 ho2 hcc A9 W z9 r9 DS2 QU2 WA2 qd2 h1 hn1 hw1 hr1 hJ1 hW1 hl1 hSH1 hf1 => ⟨(W.length : Int), f, rfl, by rw [hf1 42 (by omega) (fun k o q => by have := (hsk k o q).2.1; omega)]; exact hO, ?_⟩) (fun hno => Or.inl ⟨rfl, ?_⟩) (fun ha9 hb9 hno => Or.inr (Or.inl ⟨rfl, ?_⟩)) (fun ha9 hb9 o1 o2 ho1 ho2 hcc h1 hSH1 hf1 => Or.inr (Or.inr ⟨rfl, ?_⟩))
  · have hkA := (hsk _ o1 ho1).2.2.2
    rw [show (1 + ((scr G (4 * t + 1)).toNat : Int)) = 1 + scr G (4 * t + 1) by omega] at hkA
    have hmA : M.mo (1 + scr G (4 * t + 1)).toNat = m9 (scr G (4 * t + 1)).toNat := hkA.2.2.2.2.1
    have hpA : M.pe (1 + scr G (4 * t + 1)).toNat = p9 (scr G (4 * t + 1)).toNat := hkA.2.2.2.2.2.1
    have hqA := hkA.1.2.1
    have hvA : sp_ev (M.mo (1 + scr G (4 * t + 1)).toNat) (M.pe (1 + scr G (4 * t + 1)).toNat) (hM M (1 + scr G (4 * t + 1))) (cM M (1 + scr G (4 * t + 1))) (xM M (1 + scr G (4 * t + 1))) ↔ sp_val (m9 (scr G (4 * t + 1)).toNat) (p9 (scr G (4 * t + 1)).toNat) (hs9 (scr G (4 * t + 1)).toNat) (cs9 (scr G (4 * t + 1)).toNat) (xs9 (scr G (4 * t + 1)).toNat) := (sp_ev_cg hkA.2.2.2.2).trans (sp_val_ev hkA.1 hkA.2.1).symm
    have hbA : sp_balls (M.pe (1 + scr G (4 * t + 1)).toNat) (hM M (1 + scr G (4 * t + 1))) (cM M (1 + scr G (4 * t + 1))) = sp_balls (p9 (scr G (4 * t + 1)).toNat) (hs9 (scr G (4 * t + 1)).toNat) (cs9 (scr G (4 * t + 1)).toNat) := sp_balls_cg hkA.2.2.2.2 hqA.1
    have hsA : ∀ s9 : Int, sp_st (M.pe (1 + scr G (4 * t + 1)).toNat) (hM M (1 + scr G (4 * t + 1))) s9 = sp_st (p9 (scr G (4 * t + 1)).toNat) (hs9 (scr G (4 * t + 1)).toNat) s9 := sp_st_rl hkA.2.2.2.2 hkA.2.1 hqA.1
    have hkB := (hsk _ o2 ho2).2.2.2
    rw [show (1 + ((scr G (4 * t + 2)).toNat : Int)) = 1 + scr G (4 * t + 2) by omega] at hkB
    have hmB : M.mo (1 + scr G (4 * t + 2)).toNat = m9 (scr G (4 * t + 2)).toNat := hkB.2.2.2.2.1
    have hpB : M.pe (1 + scr G (4 * t + 2)).toNat = p9 (scr G (4 * t + 2)).toNat := hkB.2.2.2.2.2.1
    have hqB := hkB.1.2.1
    have hvB : sp_ev (M.mo (1 + scr G (4 * t + 2)).toNat) (M.pe (1 + scr G (4 * t + 2)).toNat) (hM M (1 + scr G (4 * t + 2))) (cM M (1 + scr G (4 * t + 2))) (xM M (1 + scr G (4 * t + 2))) ↔ sp_val (m9 (scr G (4 * t + 2)).toNat) (p9 (scr G (4 * t + 2)).toNat) (hs9 (scr G (4 * t + 2)).toNat) (cs9 (scr G (4 * t + 2)).toNat) (xs9 (scr G (4 * t + 2)).toNat) := (sp_ev_cg hkB.2.2.2.2).trans (sp_val_ev hkB.1 hkB.2.1).symm
    have hbB : sp_balls (M.pe (1 + scr G (4 * t + 2)).toNat) (hM M (1 + scr G (4 * t + 2))) (cM M (1 + scr G (4 * t + 2))) = sp_balls (p9 (scr G (4 * t + 2)).toNat) (hs9 (scr G (4 * t + 2)).toNat) (cs9 (scr G (4 * t + 2)).toNat) := sp_balls_cg hkB.2.2.2.2 hqB.1
    have hsB : ∀ s9 : Int, sp_st (M.pe (1 + scr G (4 * t + 2)).toNat) (hM M (1 + scr G (4 * t + 2))) s9 = sp_st (p9 (scr G (4 * t + 2)).toNat) (hs9 (scr G (4 * t + 2)).toNat) s9 := sp_st_rl hkB.2.2.2.2 hkB.2.1 hqB.1
    have hMC : ((M.mo (1 + scr G (4 * t + 1)).toNat = 0 ∧ M.mo (1 + scr G (4 * t + 2)).toNat = 0) ∧ (sp_ev (M.mo (1 + scr G (4 * t + 1)).toNat) (M.pe (1 + scr G (4 * t + 1)).toNat) (hM M (1 + scr G (4 * t + 1))) (cM M (1 + scr G (4 * t + 1))) (xM M (1 + scr G (4 * t + 1))) ∧ sp_ev (M.mo (1 + scr G (4 * t + 2)).toNat) (M.pe (1 + scr G (4 * t + 2)).toNat) (hM M (1 + scr G (4 * t + 2))) (cM M (1 + scr G (4 * t + 2))) (xM M (1 + scr G (4 * t + 2)))) ∧ sp_balls (M.pe (1 + scr G (4 * t + 1)).toNat) (hM M (1 + scr G (4 * t + 1))) (cM M (1 + scr G (4 * t + 1))) = sp_balls (M.pe (1 + scr G (4 * t + 2)).toNat) (hM M (1 + scr G (4 * t + 2))) (cM M (1 + scr G (4 * t + 2)))) ↔ ((m9 (scr G (4 * t + 1)).toNat = 0 ∧ sp_val (m9 (scr G (4 * t + 1)).toNat) (p9 (scr G (4 * t + 1)).toNat) (hs9 (scr G (4 * t + 1)).toNat) (cs9 (scr G (4 * t + 1)).toNat) (xs9 (scr G (4 * t + 1)).toNat)) ∧ (m9 (scr G (4 * t + 2)).toNat = 0 ∧ sp_val (m9 (scr G (4 * t + 2)).toNat) (p9 (scr G (4 * t + 2)).toNat) (hs9 (scr G (4 * t + 2)).toNat) (cs9 (scr G (4 * t + 2)).toNat) (xs9 (scr G (4 * t + 2)).toNat)) ∧ sp_balls (p9 (scr G (4 * t + 1)).toNat) (hs9 (scr G (4 * t + 1)).toNat) (cs9 (scr G (4 * t + 1)).toNat) = sp_balls (p9 (scr G (4 * t + 2)).toNat) (hs9 (scr G (4 * t + 2)).toNat) (cs9 (scr G (4 * t + 2)).toNat)) := by
      constructor
      · rintro ⟨⟨c1, c2⟩, ⟨c3, c4⟩, c5⟩; exact ⟨⟨hmA.symm.trans c1, hvA.mp c3⟩, ⟨hmB.symm.trans c2, hvB.mp c4⟩, by rw [← hbA, ← hbB]; exact c5⟩
      · rintro ⟨⟨c1, c2⟩, ⟨c3, c4⟩, c5⟩; exact ⟨⟨hmA.trans c1, hmB.trans c3⟩, ⟨hvA.mpr c2, hvB.mpr c4⟩, by rw [hbA, hbB]; exact c5⟩
    have hgl : glS (M.pe (1 + scr G (4 * t + 2)).toNat) (hM M (1 + scr G (4 * t + 2))) = glS (p9 (scr G (4 * t + 2)).toNat) (hs9 (scr G (4 * t + 2)).toNat) := by
      funext v9
      apply propext
      unfold glS
      rw [hpB]
      constructor
      · rintro ⟨s9, c1, c2, c3⟩; have := hsB s9; rw [hpB] at this; exact ⟨s9, c1, c2, this.symm.trans c3⟩
      · rintro ⟨s9, c1, c2, c3⟩; have := hsB s9; rw [hpB] at this; exact ⟨s9, c1, c2, this.trans c3⟩
    obtain ⟨h2, eh2⟩ : ∃ z9, z9 = va_up h1 42 (jJ 1 (vp_updL f (zI 0).toNatClampNeg ((zI ((W.length : Int))).toInt64))) := ⟨_, rfl⟩
    rw [← eh2]
    have oh2 : h2 42 = jJ 1 (vp_updL f (zI 0).toNatClampNeg ((zI ((W.length : Int))).toInt64)) := by rw [eh2, va_up_self]
    have gh2 : ∀ y, y ≠ 42 → h2 y = h1 y := fun y hy => by rw [eh2, va_up_ne _ _ hy]
    show jl_AW _ _ _ _ _ 825 [some (.float (z)), some (.ref (0)), some (.ref (28)), some (.ref (42)), some (.int (zI (((4 * t : Nat) : Int)))), none, none] [.int (zI (0))] n h2 _ _
    have hlo : ∀ k o, fx k = some o → 43 ≤ o := fun k o q => (hsk k o q).2.1
    have hM2 : jM h2 28 M := jM_fr (fun y q1 q2 => by rw [gh2 y (by omega), hf1 y (by omega) (fun k o q => by have := hlo k o q; omega)]) hQ
    refine jl_istore (L' := [some (.float (z)), some (.ref (0)), some (.ref (28)), some (.ref (42)), some (.int (zI (((4 * t : Nat) : Int)))), some (.int (zI (0))), none]) d_Lw_law_825 (by decide) rfl ?_
    refine jl_aload_n d_Lw_law_827 rfl rfl ?_
    refine jl_sload_n d_Lw_law_828 rfl rfl ?_
    refine jl_iload d_Lw_law_829 rfl ?_
    refine jl_iconst (v := zI (1)) d_Lw_law_831 (by decide) ?_
    refine jz_iadd (v := ((4 * t + 1 : Nat) : Int)) d_Lw_law_832 (by omega) ?_
    refine jz_sld (k9 := 4 * t + 1) d_Lw_law_833 rfl (by omega) hlen ?_
    refine jl_sload_n d_Lw_law_834 rfl rfl ?_
    refine jl_iload d_Lw_law_835 rfl ?_
    refine jl_iconst (v := zI (2)) d_Lw_law_837 (by decide) ?_
    refine jz_iadd (v := ((4 * t + 2 : Nat) : Int)) d_Lw_law_838 (by omega) ?_
    refine jz_sld (k9 := 4 * t + 2) d_Lw_law_839 rfl (by omega) hlen ?_
    refine jl_invV0 (M' := m_Md_join) (d' := d - 1) (ck' := 0) (sk' := 0) (na := 2) (as := [.int (zI (scr G (4 * t + 1))), .int (zI (scr G (4 * t + 2)))]) (st := []) (x := 28) d_Lw_law_840 rfl (hM2).1 rfl mw_Lw_137 ww_Md_join sw_Md_join nw_Md cw_Md_join rfl rfl (by decide +kernel) (by omega) (Nat.le_of_ble_eq_true rfl) (Nat.le_of_ble_eq_true rfl) ?_
    refine k_M_join hl9 (by omega) hM2 okM hz1 hz2 (fun _ _ hmc s r1 r2 => by rw [hgl, hsA s]; exact hre ha9 hb9 o1 o2 ho1 ho2 (hMC.mp hmc) s r1 (by rw [← hpA]; exact r2)) (fun _ _ _ A8 W8 z8 r8 fa wy h3 hn3 hw3 hr3 hl3 hwy hM3 hf3 => ?_) (fun q => absurd ⟨⟨ha9.1, by omega⟩, ⟨hb9.1, by omega⟩⟩ q) (fun _ q => absurd ⟨by omega, by omega⟩ q) (fun _ _ q => absurd (hMC.mpr hcc) q)
    show jl_AW _ _ _ _ _ 843 [some (.float (z)), some (.ref (0)), some (.ref (28)), some (.ref (42)), some (.int (zI (((4 * t : Nat) : Int)))), some (.int (zI (0))), none] [.int (zI ((W8.length : Int)))] n h3 _ _
    have eA : A8 = A9 := by
      refine nst_u (Gl := glS (p9 (scr G (4 * t + 2)).toNat) (hs9 (scr G (4 * t + 2)).toNat)) (p := p9 (scr G (4 * t + 1)).toNat) (hs := hs9 (scr G (4 * t + 1)).toNat) ?_ hn1
      obtain ⟨c1, c2, k9, c3, c4⟩ := hn3
      rw [hgl, hsA] at c3
      rw [hpA] at c2 c4
      refine ⟨c1, c2, k9, c3, fun s r1 r2 => ?_⟩
      obtain ⟨k8, c5, c6⟩ := c4 s r1 r2
      have := hsA s
      rw [hpA] at this
      rw [hgl, this] at c5
      exact ⟨k8, c5, c6⟩
    rw [hgl, hsA, eA] at hw3
    have eL : W8.length = W.length := by
      have := isD_u hw3.2 hw1.2
      omega
    have hw4 := hw3.1
    rw [eL] at hw4
    obtain ⟨eW, ez⟩ := wlk_u _ _ _ _ _ _ hw4 hw1.1
    subst eW
    subst ez
    have er : r8 = r9 := by
      refine sp_first_u (p := p9 (scr G (4 * t + 2)).toNat) (A := fun s => sp_st (p9 (scr G (4 * t + 2)).toNat) (hs9 (scr G (4 * t + 2)).toNat) s = z8) (B := fun _ => False) ?_ hr1
      rw [hpB] at hr3
      have hq9 := hsB
      rw [hpB] at hq9
      exact sp_first_cg (fun s q1 q2 => by rw [hq9 s]) (fun _ _ _ => Iff.rfl) hr3
    subst er
    subst eA
    have o3 : h3 42 = jJ 1 (vp_updL f (zI 0).toNatClampNeg ((zI ((W8.length : Int))).toInt64)) := by rw [hf3 42 (by omega)]; exact oh2
    refine jl_istore (L' := [some (.float (z)), some (.ref (0)), some (.ref (28)), some (.ref (42)), some (.int (zI (((4 * t : Nat) : Int)))), some (.int (zI (0))), some (.int (zI ((W8.length : Int))))]) d_Lw_law_843 (by decide) rfl ?_
    refine jl_aload_n d_Lw_law_845 rfl rfl ?_
    refine jl_invV0 (M' := m_Md_thrown) (d' := d - 1) (ck' := 0) (sk' := 0) (na := 0) (as := []) (st := []) (x := 28) d_Lw_law_846 rfl (hM3).1 rfl mw_Lw_93 ww_Md_thrown sw_Md_thrown nw_Md cw_Md_thrown rfl rfl (by decide +kernel) (by omega) (Nat.le_of_ble_eq_true rfl) (Nat.le_of_ble_eq_true rfl) ?_
    refine k_M_thrown hl9 (by omega) hM3 ?_
    show jl_AW _ _ _ _ _ 849 [some (.float (z)), some (.ref (0)), some (.ref (28)), some (.ref (42)), some (.int (zI (((4 * t : Nat) : Int)))), some (.int (zI (0))), some (.int (zI ((W8.length : Int))))] [.int (zI (0))] n h3 _ _
    refine jl_iload d_Lw_law_849 rfl ?_
    refine jz_icmp_eq (tgt := 856) d_Lw_law_851 (by decide) ⟨by decide, by decide⟩ ⟨by decide, by decide⟩ (fun _ => ?_) (fun q9 => absurd rfl q9)
    refine jl_iload d_Lw_law_856 rfl ?_
    refine jz_if_ne (tgt := 873) d_Lw_law_858 (by decide) ⟨by decide, by decide⟩ (fun q9 => absurd q9 (by decide)) (fun _ => ?_)
    refine jl_aload_n d_Lw_law_861 rfl rfl ?_
    refine jl_iconst (v := zI (0)) d_Lw_law_862 (by decide) ?_
    refine jl_lald d_Lw_law_863 o3 (zI_in (by decide) (by decide) (by decide)) ?_
    refine jl_iload d_Lw_law_864 rfl ?_
    refine jl_i2l d_Lw_law_866 ?_
    refine jz_lcmp0 d_Lw_law_867 (by unfold vp_updL; rw [if_pos rfl]) ?_
    refine jz_if_eq (tgt := 873) d_Lw_law_868 (by decide) ⟨by decide, by decide⟩ (fun _ => ?_) (fun q9 => absurd q9 (by decide))
    refine jl_goto (tgt := 1405) d_Lw_law_873 (by decide) ?_
    refine jl_less (L' := [some (.float (z)), some (.ref (0)), some (.ref (28)), some (.ref (42)), some (.int (zI (((4 * t : Nat) : Int)))), none, none]) ⟨rfl, rfl, rfl, rfl, rfl, trivial⟩ ?_
    have fr : ∀ y, (y < 7 ∨ 11 ≤ y) → y < 28 → h3 y = h y := fun y q1 q2 => by rw [hf3 y (by omega), gh2 y (by omega), hf1 y q1 (fun k o q => by have := hlo k o q; omega)]
    have fr1 : ∀ y, (y < 28 ∨ 43 ≤ y) → h3 y = h1 y := fun y q1 => by rw [hf3 y (by omega), gh2 y (by omega)]
    have hJ3 : jJt h3 7 DS2 QU2 WA2 qd2 ((W8.length : Int)) 1 A8 r8 := ⟨by rw [fr1 7 (by omega)]; exact hJ1.1, by rw [fr1 (7 + 1) (by omega)]; exact hJ1.2.1, by rw [fr1 (7 + 2) (by omega)]; exact hJ1.2.2.1, by rw [fr1 (7 + 3) (by omega)]; exact hJ1.2.2.2⟩
    exact hnext n h3 ⟨_, hM3, okM, hrw, (fr 0 (by omega) (by omega)).trans hX, ⟨_, o3⟩, hn, lD_fr (fun y q1 q2 => fr y (by omega) (by omega)) ⟨rfl, rfl, fun _ _ => rfl, fun _ _ => rfl, fun _ _ => rfl⟩ hlD, ⟨fx, m9, p9, hs9, cs9, xs9, jSh_fr (fun y hy => fr1 y (by rcases hy with q | ⟨k, o, q1, q2, q3⟩; omega; have := hlo k o q1; omega)) hSH1, fun k o q => ⟨(hsk k o q).1, (hsk k o q).2.1, (hsk k o q).2.2.1, dK_5 (hsk k o q).2.2.2 ⟨rfl, rfl, fun _ _ => rfl, fun _ _ => rfl, fun _ _ => rfl⟩⟩, hsn⟩, ⟨DS2, QU2, WA2, qd2, (W8.length : Int), 1, A8, r8, hJ3, Or.inr ⟨rfl, rfl, ⟨by omega, by omega⟩, fun j hj => (hW1 j (by omega)).trans (hwy j (by omega)).symm, rfl, rfl⟩⟩, lCt_fr (fun y q1 q2 => fr y (by omega) (by omega)) hlC, lF_fr (fun y q1 q2 => fr y (by omega) (by omega)) ⟨rfl, rfl, fun _ _ => rfl, fun _ _ => rfl, fun _ _ => rfl⟩ ⟨rfl, rfl, rfl, rfl, rfl, rfl⟩ (by omega) hlF⟩
  · show jl_AW _ _ _ _ _ 825 [some (.float (z)), some (.ref (0)), some (.ref (28)), some (.ref (42)), some (.int (zI (((4 * t : Nat) : Int)))), none, none] [.int (zI (1))] n h _ _
    refine jl_istore (L' := [some (.float (z)), some (.ref (0)), some (.ref (28)), some (.ref (42)), some (.int (zI (((4 * t : Nat) : Int)))), some (.int (zI (1))), none]) d_Lw_law_825 (by decide) rfl ?_
    refine jl_aload_n d_Lw_law_827 rfl rfl ?_
    refine jl_sload_n d_Lw_law_828 rfl rfl ?_
    refine jl_iload d_Lw_law_829 rfl ?_
    refine jl_iconst (v := zI (1)) d_Lw_law_831 (by decide) ?_
    refine jz_iadd (v := ((4 * t + 1 : Nat) : Int)) d_Lw_law_832 (by omega) ?_
    refine jz_sld (k9 := 4 * t + 1) d_Lw_law_833 rfl (by omega) hlen ?_
    refine jl_sload_n d_Lw_law_834 rfl rfl ?_
    refine jl_iload d_Lw_law_835 rfl ?_
    refine jl_iconst (v := zI (2)) d_Lw_law_837 (by decide) ?_
    refine jz_iadd (v := ((4 * t + 2 : Nat) : Int)) d_Lw_law_838 (by omega) ?_
    refine jz_sld (k9 := 4 * t + 2) d_Lw_law_839 rfl (by omega) hlen ?_
    refine jl_invV0 (M' := m_Md_join) (d' := d - 1) (ck' := 0) (sk' := 0) (na := 2) (as := [.int (zI (scr G (4 * t + 1))), .int (zI (scr G (4 * t + 2)))]) (st := []) (x := 28) d_Lw_law_840 rfl (hQ).1 rfl mw_Lw_137 ww_Md_join sw_Md_join nw_Md cw_Md_join rfl rfl (by decide +kernel) (by omega) (Nat.le_of_ble_eq_true rfl) (Nat.le_of_ble_eq_true rfl) ?_
    refine k_M_join hl9 (by omega) hQ okM hz1 hz2 (fun q => absurd ⟨⟨q.1.1, by omega⟩, ⟨q.2.1, by omega⟩⟩ hno) (fun q => absurd ⟨⟨q.1.1, by omega⟩, ⟨q.2.1, by omega⟩⟩ hno) (fun _ h3 hM3 hf3 => ?_) (fun q => absurd ⟨⟨q.1.1, by omega⟩, ⟨q.2.1, by omega⟩⟩ hno) (fun q => absurd ⟨⟨q.1.1, by omega⟩, ⟨q.2.1, by omega⟩⟩ hno)
    show jl_AW _ _ _ _ _ 843 [some (.float (z)), some (.ref (0)), some (.ref (28)), some (.ref (42)), some (.int (zI (((4 * t : Nat) : Int)))), some (.int (zI (1))), none] [.int (zI (0))] n h3 _ _
    have fr : ∀ y, (y < 28 ∨ 42 ≤ y) → h3 y = h y := fun y q2 => hf3 y (by omega)
    refine jl_istore (L' := [some (.float (z)), some (.ref (0)), some (.ref (28)), some (.ref (42)), some (.int (zI (((4 * t : Nat) : Int)))), some (.int (zI (1))), some (.int (zI (0)))]) d_Lw_law_843 (by decide) rfl ?_
    refine jl_aload_n d_Lw_law_845 rfl rfl ?_
    refine jl_invV0 (M' := m_Md_thrown) (d' := d - 1) (ck' := 0) (sk' := 0) (na := 0) (as := []) (st := []) (x := 28) d_Lw_law_846 rfl (hM3).1 rfl mw_Lw_93 ww_Md_thrown sw_Md_thrown nw_Md cw_Md_thrown rfl rfl (by decide +kernel) (by omega) (Nat.le_of_ble_eq_true rfl) (Nat.le_of_ble_eq_true rfl) ?_
    refine k_M_thrown hl9 (by omega) hM3 ?_
    show jl_AW _ _ _ _ _ 849 [some (.float (z)), some (.ref (0)), some (.ref (28)), some (.ref (42)), some (.int (zI (((4 * t : Nat) : Int)))), some (.int (zI (1))), some (.int (zI (0)))] [.int (zI (1))] n h3 _ _
    refine jl_iload d_Lw_law_849 rfl ?_
    refine jz_icmp_eq (tgt := 856) d_Lw_law_851 (by decide) ⟨by decide, by decide⟩ ⟨by decide, by decide⟩ (fun _ => ?_) (fun q9 => absurd rfl q9)
    refine jl_iload d_Lw_law_856 rfl ?_
    refine jz_if_ne (tgt := 873) d_Lw_law_858 (by decide) ⟨by decide, by decide⟩ (fun _ => ?_) (fun q9 => absurd q9 (by decide))
    refine jl_goto (tgt := 1405) d_Lw_law_873 (by decide) ?_
    refine jl_less (L' := [some (.float (z)), some (.ref (0)), some (.ref (28)), some (.ref (42)), some (.int (zI (((4 * t : Nat) : Int)))), none, none]) ⟨rfl, rfl, rfl, rfl, rfl, trivial⟩ ?_
    exact hnext n h3 ⟨_, hM3, okM, hrw, (fr 0 (by omega)).trans hX, ⟨f, (fr 42 (by omega)).trans hO⟩, hn, lD_fr (fun y q1 q2 => fr y (by omega)) ⟨rfl, rfl, fun _ _ => rfl, fun _ _ => rfl, fun _ _ => rfl⟩ hlD, lS_fr (fun y hy => fr y (by omega)) (fun _ _ _ => ⟨rfl, rfl, fun _ _ => rfl, fun _ _ => rfl, fun _ _ => rfl⟩) hlS, lJ_fr (fun y q1 q2 => fr y (by omega)) hlJ, lCt_fr (fun y q1 q2 => fr y (by omega)) hlC, lF_fr (fun y q1 q2 => fr y (by omega)) ⟨rfl, rfl, fun _ _ => rfl, fun _ _ => rfl, fun _ _ => rfl⟩ ⟨rfl, rfl, rfl, rfl, rfl, rfl⟩ (by omega) hlF⟩
  · show jl_AW _ _ _ _ _ 825 [some (.float (z)), some (.ref (0)), some (.ref (28)), some (.ref (42)), some (.int (zI (((4 * t : Nat) : Int)))), none, none] [.int (zI (2))] n h _ _
    have hpz : ¬ (¬ M.pe (1 + scr G (4 * t + 1)).toNat = 0 ∧ ¬ M.pe (1 + scr G (4 * t + 2)).toNat = 0) := by
      rintro ⟨q1, q2⟩
      rcases hno with q | q
      · have := hsn (scr G (4 * t + 1)).toNat (by omega) q; rw [show (1 + ((scr G (4 * t + 1)).toNat : Int)) = 1 + scr G (4 * t + 1) by omega] at this; exact q1 this
      · have := hsn (scr G (4 * t + 2)).toNat (by omega) q; rw [show (1 + ((scr G (4 * t + 2)).toNat : Int)) = 1 + scr G (4 * t + 2) by omega] at this; exact q2 this
    refine jl_istore (L' := [some (.float (z)), some (.ref (0)), some (.ref (28)), some (.ref (42)), some (.int (zI (((4 * t : Nat) : Int)))), some (.int (zI (2))), none]) d_Lw_law_825 (by decide) rfl ?_
    refine jl_aload_n d_Lw_law_827 rfl rfl ?_
    refine jl_sload_n d_Lw_law_828 rfl rfl ?_
    refine jl_iload d_Lw_law_829 rfl ?_
    refine jl_iconst (v := zI (1)) d_Lw_law_831 (by decide) ?_
    refine jz_iadd (v := ((4 * t + 1 : Nat) : Int)) d_Lw_law_832 (by omega) ?_
    refine jz_sld (k9 := 4 * t + 1) d_Lw_law_833 rfl (by omega) hlen ?_
    refine jl_sload_n d_Lw_law_834 rfl rfl ?_
    refine jl_iload d_Lw_law_835 rfl ?_
    refine jl_iconst (v := zI (2)) d_Lw_law_837 (by decide) ?_
    refine jz_iadd (v := ((4 * t + 2 : Nat) : Int)) d_Lw_law_838 (by omega) ?_
    refine jz_sld (k9 := 4 * t + 2) d_Lw_law_839 rfl (by omega) hlen ?_
    refine jl_invV0 (M' := m_Md_join) (d' := d - 1) (ck' := 0) (sk' := 0) (na := 2) (as := [.int (zI (scr G (4 * t + 1))), .int (zI (scr G (4 * t + 2)))]) (st := []) (x := 28) d_Lw_law_840 rfl (hQ).1 rfl mw_Lw_137 ww_Md_join sw_Md_join nw_Md cw_Md_join rfl rfl (by decide +kernel) (by omega) (Nat.le_of_ble_eq_true rfl) (Nat.le_of_ble_eq_true rfl) ?_
    refine k_M_join hl9 (by omega) hQ okM hz1 hz2 (fun _ q => absurd q hpz) (fun _ q => absurd q hpz) (fun q => absurd ⟨⟨ha9.1, by omega⟩, ⟨hb9.1, by omega⟩⟩ q) (fun _ _ h3 hM3 hf3 => ?_) (fun _ q => absurd q hpz)
    show jl_AW _ _ _ _ _ 843 [some (.float (z)), some (.ref (0)), some (.ref (28)), some (.ref (42)), some (.int (zI (((4 * t : Nat) : Int)))), some (.int (zI (2))), none] [.int (zI (0))] n h3 _ _
    have fr : ∀ y, (y < 28 ∨ 42 ≤ y) → h3 y = h y := fun y q2 => hf3 y (by omega)
    refine jl_istore (L' := [some (.float (z)), some (.ref (0)), some (.ref (28)), some (.ref (42)), some (.int (zI (((4 * t : Nat) : Int)))), some (.int (zI (2))), some (.int (zI (0)))]) d_Lw_law_843 (by decide) rfl ?_
    refine jl_aload_n d_Lw_law_845 rfl rfl ?_
    refine jl_invV0 (M' := m_Md_thrown) (d' := d - 1) (ck' := 0) (sk' := 0) (na := 0) (as := []) (st := []) (x := 28) d_Lw_law_846 rfl (hM3).1 rfl mw_Lw_93 ww_Md_thrown sw_Md_thrown nw_Md cw_Md_thrown rfl rfl (by decide +kernel) (by omega) (Nat.le_of_ble_eq_true rfl) (Nat.le_of_ble_eq_true rfl) ?_
    refine k_M_thrown hl9 (by omega) hM3 ?_
    show jl_AW _ _ _ _ _ 849 [some (.float (z)), some (.ref (0)), some (.ref (28)), some (.ref (42)), some (.int (zI (((4 * t : Nat) : Int)))), some (.int (zI (2))), some (.int (zI (0)))] [.int (zI (2))] n h3 _ _
    refine jl_iload d_Lw_law_849 rfl ?_
    refine jz_icmp_eq (tgt := 856) d_Lw_law_851 (by decide) ⟨by decide, by decide⟩ ⟨by decide, by decide⟩ (fun _ => ?_) (fun q9 => absurd rfl q9)
    refine jl_iload d_Lw_law_856 rfl ?_
    refine jz_if_ne (tgt := 873) d_Lw_law_858 (by decide) ⟨by decide, by decide⟩ (fun _ => ?_) (fun q9 => absurd q9 (by decide))
    refine jl_goto (tgt := 1405) d_Lw_law_873 (by decide) ?_
    refine jl_less (L' := [some (.float (z)), some (.ref (0)), some (.ref (28)), some (.ref (42)), some (.int (zI (((4 * t : Nat) : Int)))), none, none]) ⟨rfl, rfl, rfl, rfl, rfl, trivial⟩ ?_
    exact hnext n h3 ⟨_, hM3, okM, hrw, (fr 0 (by omega)).trans hX, ⟨f, (fr 42 (by omega)).trans hO⟩, hn, lD_fr (fun y q1 q2 => fr y (by omega)) ⟨rfl, rfl, fun _ _ => rfl, fun _ _ => rfl, fun _ _ => rfl⟩ hlD, lS_fr (fun y hy => fr y (by omega)) (fun _ _ _ => ⟨rfl, rfl, fun _ _ => rfl, fun _ _ => rfl, fun _ _ => rfl⟩) hlS, lJ_fr (fun y q1 q2 => fr y (by omega)) hlJ, lCt_fr (fun y q1 q2 => fr y (by omega)) hlC, lF_fr (fun y q1 q2 => fr y (by omega)) ⟨rfl, rfl, fun _ _ => rfl, fun _ _ => rfl, fun _ _ => rfl⟩ ⟨rfl, rfl, rfl, rfl, rfl, rfl⟩ (by omega) hlF⟩
  · have hkA := (hsk _ o1 ho1).2.2.2
    rw [show (1 + ((scr G (4 * t + 1)).toNat : Int)) = 1 + scr G (4 * t + 1) by omega] at hkA
    have hmA : M.mo (1 + scr G (4 * t + 1)).toNat = m9 (scr G (4 * t + 1)).toNat := hkA.2.2.2.2.1
    have hpA : M.pe (1 + scr G (4 * t + 1)).toNat = p9 (scr G (4 * t + 1)).toNat := hkA.2.2.2.2.2.1
    have hqA := hkA.1.2.1
    have hvA : sp_ev (M.mo (1 + scr G (4 * t + 1)).toNat) (M.pe (1 + scr G (4 * t + 1)).toNat) (hM M (1 + scr G (4 * t + 1))) (cM M (1 + scr G (4 * t + 1))) (xM M (1 + scr G (4 * t + 1))) ↔ sp_val (m9 (scr G (4 * t + 1)).toNat) (p9 (scr G (4 * t + 1)).toNat) (hs9 (scr G (4 * t + 1)).toNat) (cs9 (scr G (4 * t + 1)).toNat) (xs9 (scr G (4 * t + 1)).toNat) := (sp_ev_cg hkA.2.2.2.2).trans (sp_val_ev hkA.1 hkA.2.1).symm
    have hbA : sp_balls (M.pe (1 + scr G (4 * t + 1)).toNat) (hM M (1 + scr G (4 * t + 1))) (cM M (1 + scr G (4 * t + 1))) = sp_balls (p9 (scr G (4 * t + 1)).toNat) (hs9 (scr G (4 * t + 1)).toNat) (cs9 (scr G (4 * t + 1)).toNat) := sp_balls_cg hkA.2.2.2.2 hqA.1
    have hsA : ∀ s9 : Int, sp_st (M.pe (1 + scr G (4 * t + 1)).toNat) (hM M (1 + scr G (4 * t + 1))) s9 = sp_st (p9 (scr G (4 * t + 1)).toNat) (hs9 (scr G (4 * t + 1)).toNat) s9 := sp_st_rl hkA.2.2.2.2 hkA.2.1 hqA.1
    have hkB := (hsk _ o2 ho2).2.2.2
    rw [show (1 + ((scr G (4 * t + 2)).toNat : Int)) = 1 + scr G (4 * t + 2) by omega] at hkB
    have hmB : M.mo (1 + scr G (4 * t + 2)).toNat = m9 (scr G (4 * t + 2)).toNat := hkB.2.2.2.2.1
    have hpB : M.pe (1 + scr G (4 * t + 2)).toNat = p9 (scr G (4 * t + 2)).toNat := hkB.2.2.2.2.2.1
    have hqB := hkB.1.2.1
    have hvB : sp_ev (M.mo (1 + scr G (4 * t + 2)).toNat) (M.pe (1 + scr G (4 * t + 2)).toNat) (hM M (1 + scr G (4 * t + 2))) (cM M (1 + scr G (4 * t + 2))) (xM M (1 + scr G (4 * t + 2))) ↔ sp_val (m9 (scr G (4 * t + 2)).toNat) (p9 (scr G (4 * t + 2)).toNat) (hs9 (scr G (4 * t + 2)).toNat) (cs9 (scr G (4 * t + 2)).toNat) (xs9 (scr G (4 * t + 2)).toNat) := (sp_ev_cg hkB.2.2.2.2).trans (sp_val_ev hkB.1 hkB.2.1).symm
    have hbB : sp_balls (M.pe (1 + scr G (4 * t + 2)).toNat) (hM M (1 + scr G (4 * t + 2))) (cM M (1 + scr G (4 * t + 2))) = sp_balls (p9 (scr G (4 * t + 2)).toNat) (hs9 (scr G (4 * t + 2)).toNat) (cs9 (scr G (4 * t + 2)).toNat) := sp_balls_cg hkB.2.2.2.2 hqB.1
    have hsB : ∀ s9 : Int, sp_st (M.pe (1 + scr G (4 * t + 2)).toNat) (hM M (1 + scr G (4 * t + 2))) s9 = sp_st (p9 (scr G (4 * t + 2)).toNat) (hs9 (scr G (4 * t + 2)).toNat) s9 := sp_st_rl hkB.2.2.2.2 hkB.2.1 hqB.1
    have hMC : ((M.mo (1 + scr G (4 * t + 1)).toNat = 0 ∧ M.mo (1 + scr G (4 * t + 2)).toNat = 0) ∧ (sp_ev (M.mo (1 + scr G (4 * t + 1)).toNat) (M.pe (1 + scr G (4 * t + 1)).toNat) (hM M (1 + scr G (4 * t + 1))) (cM M (1 + scr G (4 * t + 1))) (xM M (1 + scr G (4 * t + 1))) ∧ sp_ev (M.mo (1 + scr G (4 * t + 2)).toNat) (M.pe (1 + scr G (4 * t + 2)).toNat) (hM M (1 + scr G (4 * t + 2))) (cM M (1 + scr G (4 * t + 2))) (xM M (1 + scr G (4 * t + 2)))) ∧ sp_balls (M.pe (1 + scr G (4 * t + 1)).toNat) (hM M (1 + scr G (4 * t + 1))) (cM M (1 + scr G (4 * t + 1))) = sp_balls (M.pe (1 + scr G (4 * t + 2)).toNat) (hM M (1 + scr G (4 * t + 2))) (cM M (1 + scr G (4 * t + 2)))) ↔ ((m9 (scr G (4 * t + 1)).toNat = 0 ∧ sp_val (m9 (scr G (4 * t + 1)).toNat) (p9 (scr G (4 * t + 1)).toNat) (hs9 (scr G (4 * t + 1)).toNat) (cs9 (scr G (4 * t + 1)).toNat) (xs9 (scr G (4 * t + 1)).toNat)) ∧ (m9 (scr G (4 * t + 2)).toNat = 0 ∧ sp_val (m9 (scr G (4 * t + 2)).toNat) (p9 (scr G (4 * t + 2)).toNat) (hs9 (scr G (4 * t + 2)).toNat) (cs9 (scr G (4 * t + 2)).toNat) (xs9 (scr G (4 * t + 2)).toNat)) ∧ sp_balls (p9 (scr G (4 * t + 1)).toNat) (hs9 (scr G (4 * t + 1)).toNat) (cs9 (scr G (4 * t + 1)).toNat) = sp_balls (p9 (scr G (4 * t + 2)).toNat) (hs9 (scr G (4 * t + 2)).toNat) (cs9 (scr G (4 * t + 2)).toNat)) := by
      constructor
      · rintro ⟨⟨c1, c2⟩, ⟨c3, c4⟩, c5⟩; exact ⟨⟨hmA.symm.trans c1, hvA.mp c3⟩, ⟨hmB.symm.trans c2, hvB.mp c4⟩, by rw [← hbA, ← hbB]; exact c5⟩
      · rintro ⟨⟨c1, c2⟩, ⟨c3, c4⟩, c5⟩; exact ⟨⟨hmA.trans c1, hmB.trans c3⟩, ⟨hvA.mpr c2, hvB.mpr c4⟩, by rw [hbA, hbB]; exact c5⟩
    show jl_AW _ _ _ _ _ 825 [some (.float (z)), some (.ref (0)), some (.ref (28)), some (.ref (42)), some (.int (zI (((4 * t : Nat) : Int)))), none, none] [.int (zI (3))] n h1 _ _
    have hlo : ∀ k o, fx k = some o → 43 ≤ o := fun k o q => (hsk k o q).2.1
    have hM2 : jM h1 28 M := jM_fr (fun y q1 q2 => hf1 y (fun k o q => by have := hlo k o q; omega)) hQ
    refine jl_istore (L' := [some (.float (z)), some (.ref (0)), some (.ref (28)), some (.ref (42)), some (.int (zI (((4 * t : Nat) : Int)))), some (.int (zI (3))), none]) d_Lw_law_825 (by decide) rfl ?_
    refine jl_aload_n d_Lw_law_827 rfl rfl ?_
    refine jl_sload_n d_Lw_law_828 rfl rfl ?_
    refine jl_iload d_Lw_law_829 rfl ?_
    refine jl_iconst (v := zI (1)) d_Lw_law_831 (by decide) ?_
    refine jz_iadd (v := ((4 * t + 1 : Nat) : Int)) d_Lw_law_832 (by omega) ?_
    refine jz_sld (k9 := 4 * t + 1) d_Lw_law_833 rfl (by omega) hlen ?_
    refine jl_sload_n d_Lw_law_834 rfl rfl ?_
    refine jl_iload d_Lw_law_835 rfl ?_
    refine jl_iconst (v := zI (2)) d_Lw_law_837 (by decide) ?_
    refine jz_iadd (v := ((4 * t + 2 : Nat) : Int)) d_Lw_law_838 (by omega) ?_
    refine jz_sld (k9 := 4 * t + 2) d_Lw_law_839 rfl (by omega) hlen ?_
    refine jl_invV0 (M' := m_Md_join) (d' := d - 1) (ck' := 0) (sk' := 0) (na := 2) (as := [.int (zI (scr G (4 * t + 1))), .int (zI (scr G (4 * t + 2)))]) (st := []) (x := 28) d_Lw_law_840 rfl (hM2).1 rfl mw_Lw_137 ww_Md_join sw_Md_join nw_Md cw_Md_join rfl rfl (by decide +kernel) (by omega) (Nat.le_of_ble_eq_true rfl) (Nat.le_of_ble_eq_true rfl) ?_
    refine k_M_join hl9 (by omega) hM2 okM hz1 hz2 (fun _ _ q => absurd (hMC.mp q) hcc) (fun _ _ q => absurd (hMC.mp q) hcc) (fun q => absurd ⟨⟨ha9.1, by omega⟩, ⟨hb9.1, by omega⟩⟩ q) (fun _ q => absurd ⟨by omega, by omega⟩ q) (fun _ _ _ h3 hM3 hf3 => ?_)
    show jl_AW _ _ _ _ _ 843 [some (.float (z)), some (.ref (0)), some (.ref (28)), some (.ref (42)), some (.int (zI (((4 * t : Nat) : Int)))), some (.int (zI (3))), none] [.int (zI (0))] n h3 _ _
    have fr : ∀ y, (y < 28 ∨ y = 42) → h3 y = h y := fun y q1 => by rw [hf3 y (by omega), hf1 y (fun k o q => by have := hlo k o q; omega)]
    have fr1 : ∀ y, (y < 28 ∨ 42 ≤ y) → h3 y = h1 y := fun y q1 => hf3 y (by omega)
    refine jl_istore (L' := [some (.float (z)), some (.ref (0)), some (.ref (28)), some (.ref (42)), some (.int (zI (((4 * t : Nat) : Int)))), some (.int (zI (3))), some (.int (zI (0)))]) d_Lw_law_843 (by decide) rfl ?_
    refine jl_aload_n d_Lw_law_845 rfl rfl ?_
    refine jl_invV0 (M' := m_Md_thrown) (d' := d - 1) (ck' := 0) (sk' := 0) (na := 0) (as := []) (st := []) (x := 28) d_Lw_law_846 rfl (hM3).1 rfl mw_Lw_93 ww_Md_thrown sw_Md_thrown nw_Md cw_Md_thrown rfl rfl (by decide +kernel) (by omega) (Nat.le_of_ble_eq_true rfl) (Nat.le_of_ble_eq_true rfl) ?_
    refine k_M_thrown hl9 (by omega) hM3 ?_
    show jl_AW _ _ _ _ _ 849 [some (.float (z)), some (.ref (0)), some (.ref (28)), some (.ref (42)), some (.int (zI (((4 * t : Nat) : Int)))), some (.int (zI (3))), some (.int (zI (0)))] [.int (zI (3))] n h3 _ _
    refine jl_iload d_Lw_law_849 rfl ?_
    refine jz_icmp_eq (tgt := 856) d_Lw_law_851 (by decide) ⟨by decide, by decide⟩ ⟨by decide, by decide⟩ (fun _ => ?_) (fun q9 => absurd rfl q9)
    refine jl_iload d_Lw_law_856 rfl ?_
    refine jz_if_ne (tgt := 873) d_Lw_law_858 (by decide) ⟨by decide, by decide⟩ (fun _ => ?_) (fun q9 => absurd q9 (by decide))
    refine jl_goto (tgt := 1405) d_Lw_law_873 (by decide) ?_
    refine jl_less (L' := [some (.float (z)), some (.ref (0)), some (.ref (28)), some (.ref (42)), some (.int (zI (((4 * t : Nat) : Int)))), none, none]) ⟨rfl, rfl, rfl, rfl, rfl, trivial⟩ ?_
    exact hnext n h3 ⟨_, hM3, okM, hrw, (fr 0 (by omega)).trans hX, ⟨f, (fr 42 (by omega)).trans hO⟩, hn, lD_fr (fun y q1 q2 => fr y (by omega)) ⟨rfl, rfl, fun _ _ => rfl, fun _ _ => rfl, fun _ _ => rfl⟩ hlD, ⟨fx, m9, p9, hs9, cs9, xs9, jSh_fr (fun y hy => fr1 y (by rcases hy with q | ⟨k, o, q1, q2, q3⟩; omega; have := hlo k o q1; omega)) hSH1, fun k o q => ⟨(hsk k o q).1, (hsk k o q).2.1, (hsk k o q).2.2.1, dK_5 (hsk k o q).2.2.2 ⟨rfl, rfl, fun _ _ => rfl, fun _ _ => rfl, fun _ _ => rfl⟩⟩, hsn⟩, lJ_fr (fun y q1 q2 => fr y (by omega)) hlJ, lCt_fr (fun y q1 q2 => fr y (by omega)) hlC, lF_fr (fun y q1 q2 => fr y (by omega)) ⟨rfl, rfl, fun _ _ => rfl, fun _ _ => rfl, fun _ _ => rfl⟩ ⟨rfl, rfl, rfl, rfl, rfl, rfl⟩ (by omega) hlF⟩
