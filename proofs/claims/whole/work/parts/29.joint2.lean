theorem bpr_next {ds q : Nat → Int} {nx : Int} (h : bpr ds q nx 10) : bpr ds q (nx + 1) 0 := by
  intro j a b v t h1 h2 h3 h4 h5 h6
  by_cases e : j = nx + 1
  · omega
  · exact h j a (by omega) v t h1 h2 h3 h4 (Or.inr (by omega)) h6
theorem bpr_step {ds q : Nat → Int} {nx hh : Int} (h : bpr ds q nx hh) (hv : ∀ v, 0 ≤ v → v < 512 → sa v hh = q nx.toNat → 0 ≤ ds v.toNat ∧ ds v.toNat ≤ ds (q nx.toNat).toNat + 1) : bpr ds q nx (hh + 1) := by
  intro j a b v t h1 h2 h3 h4 h5 h6
  by_cases e : j < nx ∨ t < hh
  · exact h j a b v t h1 h2 h3 h4 e h6
  · have e1 : j = nx := by omega
    have e2 : t = hh := by omega
    subst e1 e2
    exact hv v h1 h2 h6
set_option maxHeartbeats 4000000 in
set_option maxRecDepth 100000 in
theorem k_J_measureDistances {l : Launch} {G : jl_G} {d n : Nat} {h : Nat → va_E} {Kr : Option Value → Nat → (Nat → va_E) → Prop} {Kx : String → Nat → (Nat → va_E) → Prop} (hl9 : l.stackTraces = false) (hdd : 3 ≤ d) {jo : Nat} {DS QU WA : Nat → Int} {qd ln md fs ts : Int} {o : Nat} {m p : Int} {hs cs xs sc : Nat → Int} (hJ : jJt h jo DS QU WA qd ln md fs ts) (hD : jD h o m p hs cs xs sc) (ok : jOk m p hs cs xs) (hne : o + 5 ≤ jo ∨ jo + 4 ≤ o) (hk : ∀ DS' QU' qd' h', jJt h' jo DS' QU' WA qd' ln md fs ts → jfr h h' jo (jo + 4) → dOk (glS p hs) DS' → (∀ v, v < 512 → DS' v < 512) → Kr none n h') : jl_Call l G m_Jo_measureDistances d [.ref (jo), .ref (o)] n h 0 0 Kr Kx := by
  refine jl_enter hl9 (by decide) rfl (by simp [Value.category]) (Nat.le_of_ble_eq_true rfl) ?_
  show jl_AW l G (jl_F G Kr Kx) m_Jo_measureDistances d 0 [some (.ref (jo)), some (.ref (o)), none, none, none] [] n h 0 0
  have hp := ok.2.1
  have lp2 : ∀ (k : Nat) (nx : Int) (DS2 QU2 : Nat → Int) (qd2 : Int) (h2 : Nat → va_E) (c : Int), nx + k = 512 → 0 ≤ nx → jJt h2 jo DS2 QU2 WA qd2 ln md fs ts → jfr h h2 jo (jo + 4) → bfI (glS p hs) DS2 QU2 qd2 c → bix DS2 QU2 qd2 → bpr DS2 QU2 nx 0 → (∀ v, glS p hs v → (0 ≤ v ∧ v < 512) ∧ DS2 v.toNat = 0) → (nx < qd2 → c ≤ DS2 (QU2 nx.toNat).toNat + 1) → jl_AW l G (jl_F G Kr Kx) m_Jo_measureDistances d 41 [some (.ref (jo)), some (.ref (o)), some (.int (zI (nx))), none, none] [] n h2 0 0 := by
    intro k
    induction k using Nat.strongRecOn with
    | ind k ih =>
      intro nx DS2 QU2 qd2 h2 c hkn hnx0 hJ2 hfr2 hI2 hX2 hP2 hG2 hc9
      have lpi : ∀ (k2 : Nat) (hh : Int) (DS3 QU3 : Nat → Int) (qd3 : Int) (h3 : Nat → va_E), hh + k2 = 10 → 0 ≤ hh → jJt h3 jo DS3 QU3 WA qd3 ln md fs ts → jfr h h3 jo (jo + 4) → bfI (glS p hs) DS3 QU3 qd3 (DS3 (QU2 nx.toNat).toNat + 1) → bix DS3 QU3 qd3 → bpr DS3 QU3 nx hh → (∀ v, glS p hs v → (0 ≤ v ∧ v < 512) ∧ DS3 v.toNat = 0) → nx < qd3 → QU3 nx.toNat = QU2 nx.toNat → jl_AW l G (jl_F G Kr Kx) m_Jo_measureDistances d 67 [some (.ref (jo)), some (.ref (o)), some (.int (zI (nx))), some (.int (zI (QU2 nx.toNat))), some (.int (zI (hh)))] [] n h3 0 0 := by
        intro k2
        induction k2 using Nat.strongRecOn with
        | ind k2 ih2 =>
          intro hh DS3 QU3 qd3 h3 hkh hh0 hJ3 hfr3 hI3 hX3 hP3 hG3 hq3 hs3
          obtain ⟨v05, v15, v25, v35, v45⟩ := id (jD_fr (fun y q1 q2 => hfr3 y (by omega)) hD)
          obtain ⟨j03, j13, j23, j33⟩ := id (hJ3)
          have hs5 := (hI3.2.1 nx hnx0 hq3).1
          rw [hs3] at hs5
          have hq8 := bfI_rg hI3
          have hx8 := hX3 nx hnx0 hq3
          rw [hs3] at hx8
          have hd8 := (hI3.2.1 nx hnx0 hq3).2.1
          rw [hs3] at hd8
          refine jl_iload d_Jo_measureDistances_67 rfl ?_
          refine jl_bipush (v := zI (9)) d_Jo_measureDistances_69 (by decide) ?_
          refine jz_icmp_gt (tgt := 98) d_Jo_measureDistances_71 (by decide) ⟨by omega, by omega⟩ ⟨by omega, by omega⟩ (fun hc => ?_) (fun hc => ?_)
          · have e10 : hh = 10 := by omega
            subst e10
            refine jz_iinc (v := nx + 1) (L' := [some (.ref (jo)), some (.ref (o)), some (.int (zI (nx + 1))), some (.int (zI (QU2 nx.toNat))), some (.int (zI (10)))]) d_Jo_measureDistances_98 rfl (by omega) (by decide) rfl ?_
            refine jl_goto (tgt := 41) d_Jo_measureDistances_101 (by decide) ?_
            refine jl_less (L' := [some (.ref (jo)), some (.ref (o)), some (.int (zI (nx + 1))), none, none]) ⟨rfl, rfl, rfl, trivial⟩ ?_
            refine ih (k - 1) (by omega) (nx + 1) DS3 QU3 qd3 h3 (DS3 (QU2 nx.toNat).toNat + 1) (by omega) (by omega) hJ3 hfr3 hI3 hX3 (bpr_next hP3) hG3 ?_
            intro h9
            have := hI3.2.2.1 nx (nx + 1) hnx0 (by omega) h9
            rw [hs3] at this
            omega
          · refine jl_aload_n d_Jo_measureDistances_74 rfl rfl ?_
            refine jl_iload_n d_Jo_measureDistances_75 rfl rfl ?_
            refine jl_iload d_Jo_measureDistances_76 rfl ?_
            refine jl_invSN0 (M' := m_St_stateFrom) (d' := d - 1) (ck' := 0) (sk' := 0) (na := 2) (as := [.int (zI (QU2 nx.toNat)), .int (zI (hh))]) (st := [.ref (jo)]) d_Jo_measureDistances_78 rfl mw_Jo_68 ww_St_stateFrom nw_St cw_St_stateFrom rfl rfl (by decide +kernel) (by omega) (Nat.le_of_ble_eq_true rfl) (Nat.le_of_ble_eq_true rfl) ?_
            refine k_stateFrom hl9 (by omega) hs5 ⟨by omega, by omega⟩ ?_
            show jl_AW _ _ _ _ _ 81 [some (.ref (jo)), some (.ref (o)), some (.int (zI (nx))), some (.int (zI (QU2 nx.toNat))), some (.int (zI (hh)))] [.int (zI (sf (QU2 nx.toNat) hh)), .ref (jo)] n h3 _ _
            refine jl_aload_n d_Jo_measureDistances_81 rfl rfl ?_
            refine jg_3 (q := 0) d_Jo_measureDistances_82 j03 rfl (by decide) fw_Jo_9 ?_
            refine jl_iload_n d_Jo_measureDistances_85 rfl rfl ?_
            refine jz_iald d_Jo_measureDistances_86 j13 (by omega) (by omega) (by omega) ?_
            refine jl_iconst (v := zI (1)) d_Jo_measureDistances_87 (by decide) ?_
            refine jz_iadd (v := DS3 (QU2 nx.toNat).toNat + 1) d_Jo_measureDistances_88 (by omega) ?_
            have hv9 : sf (QU2 nx.toNat) hh = -1 ∨ ((0 ≤ sf (QU2 nx.toNat) hh ∧ sf (QU2 nx.toNat) hh < 512) ∧ rch (glS p hs) (DS3 (QU2 nx.toNat).toNat + 1).toNat (sf (QU2 nx.toNat) hh)) := by
              rcases sf_rg hs5 (show 0 ≤ hh ∧ hh ≤ 9 by omega) with r1 | ⟨r1, r2, r3⟩
              · exact Or.inl r1
              · refine Or.inr ⟨⟨r1, r2⟩, ?_⟩
                rw [show (DS3 (QU2 nx.toNat).toNat + 1).toNat = (DS3 (QU2 nx.toNat).toNat).toNat + 1 by omega]
                refine ⟨hh, by omega, by omega, by rw [r3]; omega, ?_⟩
                rw [r3]
                rcases hI3.2.2.2 _ hs5.1 hs5.2 with r4 | r4
                · omega
                · exact r4.2.1
            refine jl_invV (M' := m_Jo_reach) (d' := d - 1) (ck' := 0) (sk' := 0) (na := 2) (as := [.int (zI (sf (QU2 nx.toNat) hh)), .int (zI (DS3 (QU2 nx.toNat).toNat + 1))]) (st := []) d_Jo_measureDistances_89 rfl j03 rfl mw_Jo_64 ww_Jo_reach sw_Jo_reach nw_Jo cw_Jo_reach rfl rfl rfl (by decide +kernel) (by omega) (Nat.le_of_ble_eq_true rfl) (Nat.le_of_ble_eq_true rfl) ?_
            refine k_J_reach hl9 (by omega) hJ3 hI3 hX3 ⟨by omega, by omega⟩ hv9 (fun DS4 QU4 qd4 h4 hJ4 hfr4 hI4 hg4 hX4 hv4 => ?_)
            show jl_AW _ _ _ _ _ 92 [some (.ref (jo)), some (.ref (o)), some (.int (zI (nx))), some (.int (zI (QU2 nx.toNat))), some (.int (zI (hh)))] [] n h4 _ _
            refine jz_iinc (v := hh + 1) (L' := [some (.ref (jo)), some (.ref (o)), some (.int (zI (nx))), some (.int (zI (QU2 nx.toNat))), some (.int (zI (hh + 1)))]) d_Jo_measureDistances_92 rfl (by omega) (by decide) rfl ?_
            refine jl_goto (tgt := 67) d_Jo_measureDistances_95 (by decide) ?_
            have e4 : DS4 (QU2 nx.toNat).toNat = DS3 (QU2 nx.toNat).toNat := hg4.1 _ hd8
            have eq4 : QU4 nx.toNat = QU2 nx.toNat := (hg4.2.1 nx hnx0 hq3).trans hs3
            refine ih2 (k2 - 1) (by omega) (hh + 1) DS4 QU4 qd4 h4 (by omega) (by omega) hJ4 (fun y hy => (hfr4 y hy).trans (hfr3 y hy)) (by rw [e4]; exact hI4) hX4 (bpr_step (bpr_gr hI3 hg4 hq3 hP3) ?_) (fun v hv => ⟨(hG3 v hv).1, by rw [hg4.1 _ (by rw [(hG3 v hv).2]; decide)]; exact (hG3 v hv).2⟩) (by have := hg4.2.2; omega) eq4
            intro v r1 r2 r3
            rw [eq4] at r3 ⊢
            rcases sa_rg ⟨r1, r2⟩ (show 0 ≤ hh ∧ hh ≤ 9 by omega) with r4 | ⟨-, -, r5⟩
            · omega
            · rw [r3] at r5
              have r6 := hv4 (by omega)
              rw [r5] at r6
              rw [e4]
              exact r6
      obtain ⟨j02, j12, j22, j32⟩ := id (hJ2)
      have hq9 := bfI_rg hI2
      refine jl_iload_n d_Jo_measureDistances_41 rfl rfl ?_
      refine jl_sipush (v := zI (512)) d_Jo_measureDistances_42 (by decide) ?_
      refine jz_icmp_ge (tgt := 104) d_Jo_measureDistances_45 (by decide) ⟨by omega, by omega⟩ ⟨by omega, by omega⟩ (fun hc => ?_) (fun hc => ?_)
      · exact jl_vret d_Jo_measureDistances_104 rfl (hk DS2 QU2 qd2 h2 hJ2 hfr2 (bf_end hI2 (by omega) hP2 hG2) (fun v hv => by have := (bf_z hI2 hX2 (v := (v : Int)) ⟨by omega, by omega⟩).2; rw [Int.toNat_natCast] at this; exact this))
      · refine jl_iload_n d_Jo_measureDistances_48 rfl rfl ?_
        refine jl_aload_n d_Jo_measureDistances_49 rfl rfl ?_
        refine jg_3 (q := 3) d_Jo_measureDistances_50 j02 rfl (by decide) fw_Jo_58 ?_
        refine jz_icmp_lt (tgt := 57) d_Jo_measureDistances_53 (by decide) ⟨by omega, by omega⟩ ⟨by omega, by omega⟩ (fun hc2 => ?_) (fun hc2 => ?_)
        · refine jl_aload_n d_Jo_measureDistances_57 rfl rfl ?_
          refine jg_3 (q := 1) d_Jo_measureDistances_58 j02 rfl (by decide) fw_Jo_15 ?_
          refine jl_iload_n d_Jo_measureDistances_61 rfl rfl ?_
          refine jz_iald d_Jo_measureDistances_62 j22 (by omega) (by omega) (by omega) ?_
          refine jl_istore_n (L' := [some (.ref (jo)), some (.ref (o)), some (.int (zI (nx))), some (.int (zI (QU2 (nx).toNat))), none]) d_Jo_measureDistances_63 rfl (by decide) rfl ?_
          refine jl_iconst (v := zI (0)) d_Jo_measureDistances_64 (by decide) ?_
          refine jl_istore (L' := [some (.ref (jo)), some (.ref (o)), some (.int (zI (nx))), some (.int (zI (QU2 (nx).toNat))), some (.int (zI (0)))]) d_Jo_measureDistances_65 (by decide) rfl ?_
          exact lpi 10 0 DS2 QU2 qd2 h2 (by omega) (by omega) hJ2 hfr2 (bfI_up hI2 (hc9 hc2)) hX2 hP2 hG2 hc2 rfl
        · exact jl_vret d_Jo_measureDistances_56 rfl (hk DS2 QU2 qd2 h2 hJ2 hfr2 (bf_end hI2 (by omega) hP2 hG2) (fun v hv => by have := (bf_z hI2 hX2 (v := (v : Int)) ⟨by omega, by omega⟩).2; rw [Int.toNat_natCast] at this; exact this))
  have lp1 : ∀ (k : Nat) (s : Int) (DS2 QU2 : Nat → Int) (qd2 : Int) (h2 : Nat → va_E), s + k = p → 0 ≤ s → jJt h2 jo DS2 QU2 WA qd2 ln md fs ts → jfr h h2 jo (jo + 4) → bfI (glS p hs) DS2 QU2 qd2 0 → bix DS2 QU2 qd2 → (∀ t, 0 ≤ t → t < s → DS2 (sp_st p hs t).toNat = 0) → jl_AW l G (jl_F G Kr Kx) m_Jo_measureDistances d 15 [some (.ref (jo)), some (.ref (o)), some (.int (zI (s))), none, none] [] n h2 0 0 := by
    intro k
    induction k using Nat.strongRecOn with
    | ind k ih =>
      intro s DS2 QU2 qd2 h2 hks hs0 hJ2 hfr2 hI2 hX2 hG2
      obtain ⟨v05, v15, v25, v35, v45⟩ := id (jD_fr (fun y q1 q2 => hfr2 y (by omega)) hD)
      obtain ⟨j02, j12, j22, j32⟩ := id (hJ2)
      have hq9 := bfI_rg hI2
      refine jl_iload_n d_Jo_measureDistances_15 rfl rfl ?_
      refine jl_aload_n d_Jo_measureDistances_16 rfl rfl ?_
      refine jgn_2 (q := 5) d_Jo_measureDistances_17 v05 rfl (by decide) fw_Jo_61 ?_
      refine jz_icmp_ge (tgt := 39) d_Jo_measureDistances_20 (by decide) ⟨by omega, by omega⟩ ⟨by omega, by omega⟩ (fun hc => ?_) (fun hc => ?_)
      · refine jl_iconst (v := zI (0)) d_Jo_measureDistances_39 (by decide) ?_
        refine jl_istore_n (L' := [some (.ref (jo)), some (.ref (o)), some (.int (zI (0))), none, none]) d_Jo_measureDistances_40 rfl (by decide) rfl ?_
        refine lp2 512 0 DS2 QU2 qd2 h2 0 (by omega) (by omega) hJ2 hfr2 hI2 hX2 (fun j r1 r2 v t r3 r4 r5 r6 r7 r8 => by omega) ?_ (fun h9 => by have := (hI2.2.1 0 (by omega) h9).2.1; omega)
        rintro v ⟨s9, r1, r2, r3⟩
        have hz := sp_st_rg (p := p) ok.2.2.1 s9
        have r4 := hG2 s9 r1 (by omega)
        rw [r3] at hz r4
        exact ⟨hz, r4⟩
      · refine jl_aload_n d_Jo_measureDistances_23 rfl rfl ?_
        refine jl_aload_n d_Jo_measureDistances_24 rfl rfl ?_
        refine jl_iload_n d_Jo_measureDistances_25 rfl rfl ?_
        refine jl_invV (M' := m_Dr_stateBefore) (d' := d - 1) (ck' := 0) (sk' := 0) (na := 1) (as := [.int (zI (s))]) (st := [.ref (jo)]) d_Jo_measureDistances_26 rfl v05 rfl mw_Jo_33 ww_Dr_stateBefore sw_Dr_stateBefore nw_Dr cw_Dr_stateBefore rfl rfl rfl (by decide +kernel) (by omega) (Nat.le_of_ble_eq_true rfl) (Nat.le_of_ble_eq_true rfl) ?_
        refine k_D_stateBefore hl9 (by omega) ⟨v05, v15, v25, v35, v45⟩ ok ⟨by omega, by omega⟩ ?_
        show jl_AW _ _ _ _ _ 29 [some (.ref (jo)), some (.ref (o)), some (.int (zI (s))), none, none] [.int (zI (sp_st p hs s)), .ref (jo)] n h2 _ _
        have hz := sp_st_rg (p := p) ok.2.2.1 s
        refine jl_iconst (v := zI (0)) d_Jo_measureDistances_29 (by decide) ?_
        refine jl_invV (M' := m_Jo_reach) (d' := d - 1) (ck' := 0) (sk' := 0) (na := 2) (as := [.int (zI (sp_st p hs s)), .int (zI (0))]) (st := []) d_Jo_measureDistances_30 rfl j02 rfl mw_Jo_64 ww_Jo_reach sw_Jo_reach nw_Jo cw_Jo_reach rfl rfl rfl (by decide +kernel) (by omega) (Nat.le_of_ble_eq_true rfl) (Nat.le_of_ble_eq_true rfl) ?_
        refine k_J_reach hl9 (by omega) hJ2 hI2 hX2 ⟨by omega, by omega⟩ (Or.inr ⟨hz, s, hs0, by omega, rfl⟩) (fun DS4 QU4 qd4 h4 hJ4 hfr4 hI4 hg4 hX4 hv4 => ?_)
        show jl_AW _ _ _ _ _ 33 [some (.ref (jo)), some (.ref (o)), some (.int (zI (s))), none, none] [] n h4 _ _
        refine jz_iinc (v := s + 1) (L' := [some (.ref (jo)), some (.ref (o)), some (.int (zI (s + 1))), none, none]) d_Jo_measureDistances_33 rfl (by omega) (by decide) rfl ?_
        refine jl_goto (tgt := 15) d_Jo_measureDistances_36 (by decide) ?_
        refine ih (k - 1) (by omega) (s + 1) DS4 QU4 qd4 h4 (by omega) (by omega) hJ4 (fun y hy => (hfr4 y hy).trans (hfr2 y hy)) hI4 hX4 ?_
        intro t r1 r2
        by_cases e9 : t = s
        · subst e9; have := hv4 (by omega); omega
        · have r3 := hG2 t r1 (by omega); rw [hg4.1 _ (by rw [r3]; decide)]; exact r3
  obtain ⟨j0, j1, j2, j3⟩ := id (hJ)
  refine jl_aload_n d_Jo_measureDistances_0 rfl rfl ?_
  refine jg_3 (q := 0) d_Jo_measureDistances_1 j0 rfl (by decide) fw_Jo_9 ?_
  refine jl_iconst (v := zI (-1)) d_Jo_measureDistances_4 (by decide) ?_
  refine jl_invS (M' := m_Ar_fill) (d' := d - 1) (ck' := 0) (sk' := 0) (na := 2) (as := [.ref (jo + 1), .int (zI (-1))]) (st := []) d_Jo_measureDistances_5 rfl mw_Jo_52 ww_Ar_fill nw_Ar cw_Ar_fill rfl rfl rfl (by decide +kernel) (by omega) (Nat.le_of_ble_eq_true rfl) (Nat.le_of_ble_eq_true rfl) ?_
  refine k_fill hl9 (by omega) j1 (by decide) ?_
  obtain ⟨hq, ehq⟩ : ∃ z, z = va_up h (jo + 1) (jI 512 (fun j => zI (jfill 512 (-1) DS j))) := ⟨_, rfl⟩
  rw [← ehq]
  have jf9 : hq (jo + 1) = jI 512 (fun j => zI ((jfill 512 (-1) DS) j)) := by rw [ehq, va_up_self]
  show jl_AW _ _ _ _ _ 8 [some (.ref (jo)), some (.ref (o)), none, none, none] [] n hq _ _
  refine jl_aload_n d_Jo_measureDistances_8 rfl rfl ?_
  refine jl_iconst (v := zI (0)) d_Jo_measureDistances_9 (by decide) ?_
  have jf1 : hq (jo) = jO 3 [.ref (jo + 1), .ref (jo + 2), .ref (jo + 3), .int (zI (qd)), .int (zI (ln)), .int (zI (md)), .int (zI (fs)), .int (zI (ts))] := by rw [ehq, va_up_ne _ _ (by omega)]; exact j0
  refine jp_3 (q := 3) (ty := .int) d_Jo_measureDistances_10 jf1 (by simp) (by decide) fw_Jo_58 rfl (by decide +kernel) (fun _ _ => rfl) (fun _ _ => rfl) (fun h2 eh2 => ?_)
  have eh2 : h2 = va_up hq (jo) (jO 3 [.ref (jo + 1), .ref (jo + 2), .ref (jo + 3), .int (zI (0)), .int (zI (ln)), .int (zI (md)), .int (zI (fs)), .int (zI (ts))]) := eh2
  have jf3 : h2 (jo) = jO 3 [.ref (jo + 1), .ref (jo + 2), .ref (jo + 3), .int (zI (0)), .int (zI (ln)), .int (zI (md)), .int (zI (fs)), .int (zI (ts))] := by rw [eh2, va_up_self]
  have jf4 : h2 (jo + 1) = jI 512 (fun j9 => zI ((jfill 512 (-1) DS) j9)) := by rw [eh2, va_up_ne _ _ (by omega)]; exact jf9
  have jf5 : h2 (jo + 2) = jI 512 (fun j9 => zI (QU j9)) := by rw [eh2, va_up_ne _ _ (by omega), ehq, va_up_ne _ _ (by omega)]; exact j2
  have jf6 : h2 (jo + 3) = jI 512 (fun j9 => zI (WA j9)) := by rw [eh2, va_up_ne _ _ (by omega), ehq, va_up_ne _ _ (by omega)]; exact j3
  refine jl_iconst (v := zI (0)) d_Jo_measureDistances_13 (by decide) ?_
  refine jl_istore_n (L' := [some (.ref (jo)), some (.ref (o)), some (.int (zI (0))), none, none]) d_Jo_measureDistances_14 rfl (by decide) rfl ?_
  have hn1 : ∀ j, j < 512 → jfill 512 (-1) DS j = -1 := fun j hj => by simp [jfill, hj]
  refine lp1 p.toNat 0 (jfill 512 (-1) DS) QU 0 h2 (by omega) (by omega) ⟨jf3, jf4, jf5, jf6⟩ (fun y hy => by rw [eh2, va_up_ne _ _ (by omega), ehq, va_up_ne _ _ (by omega)]) ⟨(cntD_no 512 _ hn1).symm, fun j r1 r2 => by omega, fun i j r1 r2 r3 => by omega, fun v r1 r2 => Or.inl (hn1 _ (by omega))⟩ (fun j r1 r2 => by omega) (fun t r1 r2 => by omega)
set_option maxHeartbeats 4000000 in
set_option maxRecDepth 100000 in
theorem k_J_distanceOf {l : Launch} {G : jl_G} {d n : Nat} {h : Nat → va_E} {Kr : Option Value → Nat → (Nat → va_E) → Prop} {Kx : String → Nat → (Nat → va_E) → Prop} (hl9 : l.stackTraces = false) (hdd : 3 ≤ d) {jo : Nat} {DS QU WA : Nat → Int} {qd ln md fs ts : Int} {o : Nat} {m p : Int} {hs cs xs sc : Nat → Int} {b : Int} (hJ : jJt h jo DS QU WA qd ln md fs ts) (hD : jD h o m p hs cs xs sc) (ok : jOk m p hs cs xs) (hb : -1000 ≤ b ∧ b ≤ 1000) (hk : Kr (some (.int (zI (DS (sp_st p hs b).toNat)))) n h) : jl_Call l G m_Jo_distanceOf d [.ref (jo), .ref (o), .int (zI (b))] n h 0 0 Kr Kx := by
  refine jl_enter hl9 (by decide) rfl (by simp [Value.category]) (Nat.le_of_ble_eq_true rfl) ?_
  show jl_AW l G (jl_F G Kr Kx) m_Jo_distanceOf d 0 [some (.ref (jo)), some (.ref (o)), some (.int (zI (b)))] [] n h 0 0
  obtain ⟨j0, j1, j2, j3⟩ := id (hJ)
  obtain ⟨v05, v15, v25, v35, v45⟩ := id (hD)
  have hz := sp_st_rg (p := p) ok.2.2.1 b
  refine jl_aload_n d_Jo_distanceOf_0 rfl rfl ?_
  refine jg_3 (q := 0) d_Jo_distanceOf_1 j0 rfl (by decide) fw_Jo_9 ?_
  refine jl_aload_n d_Jo_distanceOf_4 rfl rfl ?_
  refine jl_iload_n d_Jo_distanceOf_5 rfl rfl ?_
  refine jl_invV (M' := m_Dr_stateBefore) (d' := d - 1) (ck' := 0) (sk' := 0) (na := 1) (as := [.int (zI (b))]) (st := [.ref (jo + 1)]) d_Jo_distanceOf_6 rfl v05 rfl mw_Jo_33 ww_Dr_stateBefore sw_Dr_stateBefore nw_Dr cw_Dr_stateBefore rfl rfl rfl (by decide +kernel) (by omega) (Nat.le_of_ble_eq_true rfl) (Nat.le_of_ble_eq_true rfl) ?_
  refine k_D_stateBefore hl9 (by omega) ⟨v05, v15, v25, v35, v45⟩ ok hb ?_
  show jl_AW _ _ _ _ _ 9 [some (.ref (jo)), some (.ref (o)), some (.int (zI (b)))] [.int (zI (sp_st p hs b)), .ref (jo + 1)] n h _ _
  refine jz_iald d_Jo_distanceOf_9 j1 (by omega) (by omega) (by omega) ?_
  exact jl_iret d_Jo_distanceOf_10 rfl hk
set_option maxHeartbeats 4000000 in
set_option maxRecDepth 100000 in
theorem k_J_nearestSite {l : Launch} {G : jl_G} {d n : Nat} {h : Nat → va_E} {Kr : Option Value → Nat → (Nat → va_E) → Prop} {Kx : String → Nat → (Nat → va_E) → Prop} (hl9 : l.stackTraces = false) (hdd : 4 ≤ d) {jo : Nat} {DS QU WA : Nat → Int} {qd ln md fs ts : Int} {o : Nat} {m p : Int} {hs cs xs sc : Nat → Int} {Gl : Int → Prop} (hJ : jJt h jo DS QU WA qd ln md fs ts) (hD : jD h o m p hs cs xs sc) (ok : jOk m p hs cs xs) (hd : dOk Gl DS) (hb9 : ∀ v, v < 512 → DS v < 512) (hk : Kr (some (.int (zI (nsf DS p hs (p - 1).toNat)))) n h) : jl_Call l G m_Jo_nearestSite d [.ref (jo), .ref (o)] n h 0 0 Kr Kx := by
  refine jl_enter hl9 (by decide) rfl (by simp [Value.category]) (Nat.le_of_ble_eq_true rfl) ?_
  show jl_AW l G (jl_F G Kr Kx) m_Jo_nearestSite d 0 [some (.ref (jo)), some (.ref (o)), none, none] [] n h 0 0
  have hp := ok.2.1
  have lp1 : ∀ (k : Nat) (t : Int), t + k = p → 1 ≤ t → jl_AW l G (jl_F G Kr Kx) m_Jo_nearestSite d 4 [some (.ref (jo)), some (.ref (o)), some (.int (zI (nsf DS p hs (t - 1).toNat))), some (.int (zI (t)))] [] n h 0 0 := by
    intro k
    induction k using Nat.strongRecOn with
    | ind k ih =>
      intro t hkt ht0
      obtain ⟨v05, v15, v25, v35, v45⟩ := id (hD)
      obtain ⟨j0, j1, j2, j3⟩ := id (hJ)
      have hr9 := nsf_rg DS p hs (t - 1).toNat
      refine jl_iload_n d_Jo_nearestSite_4 rfl rfl ?_
      refine jl_aload_n d_Jo_nearestSite_5 rfl rfl ?_
      refine jgn_2 (q := 5) d_Jo_nearestSite_6 v05 rfl (by decide) fw_Jo_61 ?_
      refine jz_icmp_ge (tgt := 35) d_Jo_nearestSite_9 (by decide) ⟨by omega, by omega⟩ ⟨by omega, by omega⟩ (fun hc => ?_) (fun hc => ?_)
      · refine jl_iload_n d_Jo_nearestSite_35 rfl rfl ?_
        exact jl_iret d_Jo_nearestSite_36 rfl (by rw [show t - 1 = p - 1 by omega]; exact hk)
      · refine jl_aload_n d_Jo_nearestSite_12 rfl rfl ?_
        refine jl_aload_n d_Jo_nearestSite_13 rfl rfl ?_
        refine jl_iload_n d_Jo_nearestSite_14 rfl rfl ?_
        refine jl_invV (M' := m_Jo_distanceOf) (d' := d - 1) (ck' := 0) (sk' := 0) (na := 2) (as := [.ref (o), .int (zI (t))]) (st := []) d_Jo_nearestSite_15 rfl j0 rfl mw_Jo_72 ww_Jo_distanceOf sw_Jo_distanceOf nw_Jo cw_Jo_distanceOf rfl rfl rfl (by decide +kernel) (by omega) (Nat.le_of_ble_eq_true rfl) (Nat.le_of_ble_eq_true rfl) ?_
        refine k_J_distanceOf hl9 (by omega) hJ hD ok ⟨by omega, by omega⟩ ?_
        show jl_AW _ _ _ _ _ 18 [some (.ref (jo)), some (.ref (o)), some (.int (zI (nsf DS p hs (t - 1).toNat))), some (.int (zI (t)))] [.int (zI (DS (sp_st p hs t).toNat))] n h _ _
        refine jl_aload_n d_Jo_nearestSite_18 rfl rfl ?_
        refine jl_aload_n d_Jo_nearestSite_19 rfl rfl ?_
        refine jl_iload_n d_Jo_nearestSite_20 rfl rfl ?_
        refine jl_invV (M' := m_Jo_distanceOf) (d' := d - 1) (ck' := 0) (sk' := 0) (na := 2) (as := [.ref (o), .int (zI (nsf DS p hs (t - 1).toNat))]) (st := [.int (zI (DS (sp_st p hs t).toNat))]) d_Jo_nearestSite_21 rfl j0 rfl mw_Jo_72 ww_Jo_distanceOf sw_Jo_distanceOf nw_Jo cw_Jo_distanceOf rfl rfl rfl (by decide +kernel) (by omega) (Nat.le_of_ble_eq_true rfl) (Nat.le_of_ble_eq_true rfl) ?_
        refine k_J_distanceOf hl9 (by omega) hJ hD ok ⟨by omega, by omega⟩ ?_
        show jl_AW _ _ _ _ _ 24 [some (.ref (jo)), some (.ref (o)), some (.int (zI (nsf DS p hs (t - 1).toNat))), some (.int (zI (t)))] [.int (zI (DS (sp_st p hs (nsf DS p hs (t - 1).toNat)).toNat)), .int (zI (DS (sp_st p hs t).toNat))] n h _ _
        have hz1 := dOk_z hd hb9 (sp_st_rg (p := p) ok.2.2.1 t)
        have hz2 := dOk_z hd hb9 (sp_st_rg (p := p) ok.2.2.1 (nsf DS p hs (t - 1).toNat))
        refine jz_icmp_ge (tgt := 29) d_Jo_nearestSite_24 (by decide) ⟨by omega, by omega⟩ ⟨by omega, by omega⟩ (fun hc2 => ?_) (fun hc2 => ?_)
        · have e1 : (t + 1 - 1).toNat = (t - 1).toNat + 1 := by omega
          have e2 : (((t - 1).toNat : Nat) : Int) + 1 = t := by omega
          have e3 : nsf DS p hs (t + 1 - 1).toNat = nsf DS p hs (t - 1).toNat := by rw [e1, nsf, e2]; exact if_neg (by omega)
          refine jz_iinc (v := t + 1) (L' := [some (.ref (jo)), some (.ref (o)), some (.int (zI (nsf DS p hs (t - 1).toNat))), some (.int (zI (t + 1)))]) d_Jo_nearestSite_29 rfl (by omega) (by decide) rfl ?_
          refine jl_goto (tgt := 4) d_Jo_nearestSite_32 (by decide) ?_
          have h9 := ih (k - 1) (by omega) (t + 1) (by omega) (by omega)
          rw [e3] at h9
          exact h9
        · have e1 : (t + 1 - 1).toNat = (t - 1).toNat + 1 := by omega
          have e2 : (((t - 1).toNat : Nat) : Int) + 1 = t := by omega
          have e3 : nsf DS p hs (t + 1 - 1).toNat = t := by rw [e1, nsf, e2]; exact if_pos (by omega)
          refine jl_iload_n d_Jo_nearestSite_27 rfl rfl ?_
          refine jl_istore_n (L' := [some (.ref (jo)), some (.ref (o)), some (.int (zI (t))), some (.int (zI (t)))]) d_Jo_nearestSite_28 rfl (by decide) rfl ?_
          refine jz_iinc (v := t + 1) (L' := [some (.ref (jo)), some (.ref (o)), some (.int (zI (t))), some (.int (zI (t + 1)))]) d_Jo_nearestSite_29 rfl (by omega) (by decide) rfl ?_
          refine jl_goto (tgt := 4) d_Jo_nearestSite_32 (by decide) ?_
          have h9 := ih (k - 1) (by omega) (t + 1) (by omega) (by omega)
          rw [e3] at h9
          exact h9
  refine jl_iconst (v := zI (0)) d_Jo_nearestSite_0 (by decide) ?_
  refine jl_istore_n (L' := [some (.ref (jo)), some (.ref (o)), some (.int (zI (0))), none]) d_Jo_nearestSite_1 rfl (by decide) rfl ?_
  refine jl_iconst (v := zI (1)) d_Jo_nearestSite_2 (by decide) ?_
  refine jl_istore_n (L' := [some (.ref (jo)), some (.ref (o)), some (.int (zI (0))), some (.int (zI (1)))]) d_Jo_nearestSite_3 rfl (by decide) rfl ?_
  exact lp1 (p - 1).toNat 1 (by omega) (by omega)
set_option maxHeartbeats 4000000 in
set_option maxRecDepth 100000 in
theorem k_J_leastThrow {l : Launch} {G : jl_G} {d n : Nat} {h : Nat → va_E} {Kr : Option Value → Nat → (Nat → va_E) → Prop} {Kx : String → Nat → (Nat → va_E) → Prop} (hl9 : l.stackTraces = false) (hdd : 2 ≤ d) {jo : Nat} {DS QU WA : Nat → Int} {qd ln md fs ts : Int} {v c : Int} {Gl : Int → Prop} (hJ : jJt h jo DS QU WA qd ln md fs ts) (hd : dOk Gl DS) (hb9 : ∀ v, v < 512 → DS v < 512) (hv : 0 ≤ v ∧ v < 512) (hc9 : 0 ≤ c ∧ c < 600) (hk : ∀ r, (lws Gl v c r ∨ (r = -1 ∧ ∀ t9, 0 ≤ t9 → t9 ≤ 9 → ¬ (¬ sa v t9 = -1 ∧ isD Gl (sa v t9) c))) → Kr (some (.int (zI (r)))) n h) : jl_Call l G m_Jo_leastThrow d [.ref (jo), .int (zI (v)), .int (zI (c))] n h 0 0 Kr Kx := by
  refine jl_enter hl9 (by decide) rfl (by simp [Value.category]) (Nat.le_of_ble_eq_true rfl) ?_
  show jl_AW l G (jl_F G Kr Kx) m_Jo_leastThrow d 0 [some (.ref (jo)), some (.int (zI (v))), some (.int (zI (c))), none, none] [] n h 0 0
  have lp1 : ∀ (k : Nat) (t : Int), t + k = 10 → 0 ≤ t → (∀ t9, 0 ≤ t9 → t9 < t → ¬ (¬ sa v t9 = -1 ∧ isD Gl (sa v t9) c)) → jl_AW l G (jl_F G Kr Kx) m_Jo_leastThrow d 2 [some (.ref (jo)), some (.int (zI (v))), some (.int (zI (c))), some (.int (zI (t))), none] [] n h 0 0 := by
    intro k
    induction k using Nat.strongRecOn with
    | ind k ih =>
      intro t hkt ht0 hE
      obtain ⟨j0, j1, j2, j3⟩ := id (hJ)
      refine jl_iload_n d_Jo_leastThrow_2 rfl rfl ?_
      refine jl_bipush (v := zI (9)) d_Jo_leastThrow_3 (by decide) ?_
      refine jz_icmp_gt (tgt := 40) d_Jo_leastThrow_5 (by decide) ⟨by omega, by omega⟩ ⟨by omega, by omega⟩ (fun hc => ?_) (fun hc => ?_)
      · refine jl_iconst (v := zI (-1)) d_Jo_leastThrow_40 (by decide) ?_
        exact jl_iret d_Jo_leastThrow_41 rfl (hk (-1) (Or.inr ⟨rfl, fun t9 r1 r2 => hE t9 r1 (by omega)⟩))
      · refine jl_iload_n d_Jo_leastThrow_8 rfl rfl ?_
        refine jl_iload_n d_Jo_leastThrow_9 rfl rfl ?_
        refine jl_invSN0 (M' := m_St_stateAfter) (d' := d - 1) (ck' := 0) (sk' := 0) (na := 2) (as := [.int (zI (v)), .int (zI (t))]) (st := []) d_Jo_leastThrow_10 rfl mw_Jo_82 ww_St_stateAfter nw_St cw_St_stateAfter rfl rfl (by decide +kernel) (by omega) (Nat.le_of_ble_eq_true rfl) (Nat.le_of_ble_eq_true rfl) ?_
        refine k_stateAfter hl9 (by omega) hv ⟨by omega, by omega⟩ ?_
        show jl_AW _ _ _ _ _ 13 [some (.ref (jo)), some (.int (zI (v))), some (.int (zI (c))), some (.int (zI (t))), none] [.int (zI (sa v t))] n h _ _
        have hr := sa_rg hv (show 0 ≤ t ∧ t ≤ 9 by omega)
        refine jl_istore (L' := [some (.ref (jo)), some (.int (zI (v))), some (.int (zI (c))), some (.int (zI (t))), some (.int (zI (sa v t)))]) d_Jo_leastThrow_13 (by decide) rfl ?_
        refine jl_iload d_Jo_leastThrow_15 rfl ?_
        refine jl_iconst (v := zI (-1)) d_Jo_leastThrow_17 (by decide) ?_
        refine jz_icmp_eq (tgt := 34) d_Jo_leastThrow_18 (by decide) ⟨by omega, by omega⟩ ⟨by omega, by omega⟩ (fun hc2 => ?_) (fun hc2 => ?_)
        · refine jz_iinc (v := t + 1) (L' := [some (.ref (jo)), some (.int (zI (v))), some (.int (zI (c))), some (.int (zI (t + 1))), some (.int (zI (sa v t)))]) d_Jo_leastThrow_34 rfl (by omega) (by decide) rfl ?_
          refine jl_goto (tgt := 2) d_Jo_leastThrow_37 (by decide) ?_
          refine jl_less (L' := [some (.ref (jo)), some (.int (zI (v))), some (.int (zI (c))), some (.int (zI (t + 1))), none]) ⟨rfl, rfl, rfl, rfl, trivial⟩ ?_
          refine ih (k - 1) (by omega) (t + 1) (by omega) (by omega) ?_
          intro t9 r1 r2
          by_cases e9 : t9 = t
          · subst e9; exact fun r => r.1 hc2
          · exact hE t9 r1 (by omega)
        · have hr2 : 0 ≤ sa v t ∧ sa v t < 512 := by rcases hr with r | r; exact absurd r hc2; exact ⟨r.1, r.2.1⟩
          have hz1 := dOk_z hd hb9 hr2
          refine jl_aload_n d_Jo_leastThrow_21 rfl rfl ?_
          refine jg_3 (q := 0) d_Jo_leastThrow_22 j0 rfl (by decide) fw_Jo_9 ?_
          refine jl_iload d_Jo_leastThrow_25 rfl ?_
          refine jz_iald d_Jo_leastThrow_27 j1 (by omega) (by omega) (by omega) ?_
          refine jl_iload_n d_Jo_leastThrow_28 rfl rfl ?_
          refine jz_icmp_ne (tgt := 34) d_Jo_leastThrow_29 (by decide) ⟨by omega, by omega⟩ ⟨by omega, by omega⟩ (fun hc3 => ?_) (fun hc3 => ?_)
          · refine jz_iinc (v := t + 1) (L' := [some (.ref (jo)), some (.int (zI (v))), some (.int (zI (c))), some (.int (zI (t + 1))), some (.int (zI (sa v t)))]) d_Jo_leastThrow_34 rfl (by omega) (by decide) rfl ?_
            refine jl_goto (tgt := 2) d_Jo_leastThrow_37 (by decide) ?_
            refine jl_less (L' := [some (.ref (jo)), some (.int (zI (v))), some (.int (zI (c))), some (.int (zI (t + 1))), none]) ⟨rfl, rfl, rfl, rfl, trivial⟩ ?_
            refine ih (k - 1) (by omega) (t + 1) (by omega) (by omega) ?_
            intro t9 r1 r2
            by_cases e9 : t9 = t
            · subst e9; exact fun r => hc3 ((dOk_eq hd hr2 hc9.1).mpr r.2)
            · exact hE t9 r1 (by omega)
          · refine jl_iload_n d_Jo_leastThrow_32 rfl rfl ?_
            exact jl_iret d_Jo_leastThrow_33 rfl (hk t (Or.inl ⟨ht0, by omega, ⟨hc2, (dOk_eq hd hr2 hc9.1).mp hc3⟩, hE⟩))
  refine jl_iconst (v := zI (0)) d_Jo_leastThrow_0 (by decide) ?_
  refine jl_istore_n (L' := [some (.ref (jo)), some (.int (zI (v))), some (.int (zI (c))), some (.int (zI (0))), none]) d_Jo_leastThrow_1 rfl (by decide) rfl ?_
  exact lp1 10 0 (by omega) (by omega) (fun t9 r1 r2 => by omega)
set_option maxHeartbeats 4000000 in
set_option maxRecDepth 100000 in
theorem k_J_walk {l : Launch} {G : jl_G} {d n : Nat} {h : Nat → va_E} {Kr : Option Value → Nat → (Nat → va_E) → Prop} {Kx : String → Nat → (Nat → va_E) → Prop} (hl9 : l.stackTraces = false) (hdd : 3 ≤ d) {jo : Nat} {DS QU WA : Nat → Int} {qd ln md fs ts : Int} {v : Int} {Gl : Int → Prop} (hJ : jJt h jo DS QU WA qd ln md fs ts) (hd : dOk Gl DS) (hb9 : ∀ v, v < 512 → DS v < 512) (hv : 0 ≤ v ∧ v < 512) (hr : ∃ j, rch Gl j v) (hk : ∀ (W : List Int) (z : Int) (WA' : Nat → Int) h', (wlk Gl W.length v W z ∧ isD Gl v (W.length : Int)) → W.length ≤ 511 → jJt h' jo DS QU WA' qd (W.length : Int) md fs ts → (∀ j, j < W.length → WA' j = W.getD j 0) → jfr h h' jo (jo + 4) → Kr (some (.int (zI (z)))) n h') : jl_Call l G m_Jo_walk d [.ref (jo), .int (zI (v))] n h 0 0 Kr Kx := by
  refine jl_enter hl9 (by decide) rfl (by simp [Value.category]) (Nat.le_of_ble_eq_true rfl) ?_
  show jl_AW l G (jl_F G Kr Kx) m_Jo_walk d 0 [some (.ref (jo)), some (.int (zI (v))), none, none, none] [] n h 0 0
  have hz1 := dOk_z hd hb9 hv
  have hD1 : isD Gl v (DS v.toNat) := by rcases hd v hv.1 hv.2 with q | ⟨-, q⟩; exact q; exact absurd hr.choose_spec (q _)
  have hl8 := hb9 v.toNat (by omega)
  have hl7 := hD1.1
  have lp1 : ∀ (k : Nat) (lf : Int) (W : List Int) (u : Int) (WA2 : Nat → Int) (h2 : Nat → va_E), lf = k → 0 ≤ lf → jJt h2 jo DS QU WA2 qd (W.length : Int) md fs ts → wlp Gl lf.toNat W v u → isD Gl u lf → (0 ≤ u ∧ u < 512) → (∀ j, j < W.length → WA2 j = W.getD j 0) → (W.length : Int) + lf = DS v.toNat → jfr h h2 jo (jo + 4) → jl_AW l G (jl_F G Kr Kx) m_Jo_walk d 14 [some (.ref (jo)), some (.int (zI (v))), some (.int (zI (u))), some (.int (zI (lf))), none] [] n h2 0 0 := by
    intro k
    induction k using Nat.strongRecOn with
    | ind k ih =>
      intro lf W u WA2 h2 hkl hl0 hJ2 hW hiD hu hWA hlen hfr2
      obtain ⟨j02, j12, j22, j32⟩ := id (hJ2)
      refine jl_iload_n d_Jo_walk_14 rfl rfl ?_
      refine jz_if_le (tgt := 70) d_Jo_walk_15 (by decide) ⟨by omega, by omega⟩ (fun hc => ?_) (fun hc => ?_)
      · have e0 : lf = 0 := by omega
        subst e0
        refine jl_iload_n d_Jo_walk_70 rfl rfl ?_
        exact jl_iret d_Jo_walk_71 rfl (hk W u WA2 h2 ⟨wlp_0 W v u hW, by have e9 : (W.length : Int) = DS v.toNat := (by omega); rw [e9]; exact hD1⟩ (by omega) hJ2 hWA hfr2)
      · refine jl_aload_n d_Jo_walk_18 rfl rfl ?_
        refine jl_iload_n d_Jo_walk_19 rfl rfl ?_
        refine jl_iload_n d_Jo_walk_20 rfl rfl ?_
        refine jl_iconst (v := zI (1)) d_Jo_walk_21 (by decide) ?_
        refine jz_isub (v := lf - 1) d_Jo_walk_22 (by omega) ?_
        refine jl_invV (M' := m_Jo_leastThrow) (d' := d - 1) (ck' := 0) (sk' := 0) (na := 2) (as := [.int (zI (u)), .int (zI (lf - 1))]) (st := []) d_Jo_walk_23 rfl j02 rfl mw_Jo_79 ww_Jo_leastThrow sw_Jo_leastThrow nw_Jo cw_Jo_leastThrow rfl rfl rfl (by decide +kernel) (by omega) (Nat.le_of_ble_eq_true rfl) (Nat.le_of_ble_eq_true rfl) ?_
        refine k_J_leastThrow hl9 (by omega) hJ2 hd hb9 hu ⟨by omega, by omega⟩ (fun r hr => ?_)
        show jl_AW _ _ _ _ _ 26 [some (.ref (jo)), some (.int (zI (v))), some (.int (zI (u))), some (.int (zI (lf))), none] [.int (zI (r))] n h2 _ _
        have hr2 : lws Gl u (lf - 1) r := by
          rcases hr with r1 | ⟨r1, r2⟩
          · exact r1
          · exfalso
            obtain ⟨t, t0, t1, t2, t3⟩ := isD_step hu (show 0 ≤ lf - 1 by omega) (by rw [show lf - 1 + 1 = lf by omega]; exact hiD)
            exact r2 t t0 t1 ⟨t2, t3⟩
        have hr3 := hr2.1
        have hr4 := hr2.2.1
        refine jl_istore (L' := [some (.ref (jo)), some (.int (zI (v))), some (.int (zI (u))), some (.int (zI (lf))), some (.int (zI (r)))]) d_Jo_walk_26 (by decide) rfl ?_
        refine jl_iload d_Jo_walk_28 rfl ?_
        refine jl_iconst (v := zI (-1)) d_Jo_walk_30 (by decide) ?_
        refine jz_icmp_ne (tgt := 36) d_Jo_walk_31 (by decide) ⟨by omega, by omega⟩ ⟨by omega, by omega⟩ (fun hc2 => ?_) (fun hc2 => ?_)
        · refine jl_aload_n d_Jo_walk_36 rfl rfl ?_
          refine jg_3 (q := 2) d_Jo_walk_37 j02 rfl (by decide) fw_Jo_18 ?_
          refine jl_aload_n d_Jo_walk_40 rfl rfl ?_
          refine jg_3 (q := 4) d_Jo_walk_41 j02 rfl (by decide) fw_Jo_76 ?_
          refine jl_iload d_Jo_walk_44 rfl ?_
          refine jz_iasth d_Jo_walk_46 j32 (by omega) (by omega) (by omega) (fun h1 eh1 => ?_)
          have jf2 : h1 (jo + 3) = jI 512 (fun j9 => zI ((va_up WA2 ((W.length : Int)).toNat (r)) j9)) := by rw [eh1, va_up_self]
          refine jl_aload_n d_Jo_walk_47 rfl rfl ?_
          refine jl_dup d_Jo_walk_48 rfl ?_
          have jf3 : h1 (jo) = jO 3 [.ref (jo + 1), .ref (jo + 2), .ref (jo + 3), .int (zI (qd)), .int (zI ((W.length : Int))), .int (zI (md)), .int (zI (fs)), .int (zI (ts))] := by rw [eh1, va_up_ne _ _ (by omega)]; exact j02
          refine jg_3 (q := 4) d_Jo_walk_49 jf3 rfl (by decide) fw_Jo_76 ?_
          refine jl_iconst (v := zI (1)) d_Jo_walk_52 (by decide) ?_
          refine jz_iadd (v := ((W ++ [r]).length : Int)) d_Jo_walk_53 (by rw [List.length_append, List.length_singleton]; omega) ?_
          refine jp_3 (q := 4) (ty := .int) d_Jo_walk_54 jf3 (by simp) (by decide) fw_Jo_76 rfl (by decide +kernel) (fun _ _ => rfl) (fun _ _ => rfl) (fun h4 eh4 => ?_)
          have eh4 : h4 = va_up h1 (jo) (jO 3 [.ref (jo + 1), .ref (jo + 2), .ref (jo + 3), .int (zI (qd)), .int (zI (((W ++ [r]).length : Int))), .int (zI (md)), .int (zI (fs)), .int (zI (ts))]) := eh4
          have jf5 : h4 (jo) = jO 3 [.ref (jo + 1), .ref (jo + 2), .ref (jo + 3), .int (zI (qd)), .int (zI (((W ++ [r]).length : Int))), .int (zI (md)), .int (zI (fs)), .int (zI (ts))] := by rw [eh4, va_up_self]
          refine jl_iload_n d_Jo_walk_57 rfl rfl ?_
          refine jl_iload d_Jo_walk_58 rfl ?_
          have jf6 : h4 (jo + 1) = jI 512 (fun j9 => zI (DS j9)) := by rw [eh4, va_up_ne _ _ (by omega), eh1, va_up_ne _ _ (by omega)]; exact j12
          have jf7 : h4 (jo + 2) = jI 512 (fun j9 => zI (QU j9)) := by rw [eh4, va_up_ne _ _ (by omega), eh1, va_up_ne _ _ (by omega)]; exact j22
          have jf8 : h4 (jo + 3) = jI 512 (fun j9 => zI ((va_up WA2 ((W.length : Int)).toNat (r)) j9)) := by rw [eh4, va_up_ne _ _ (by omega)]; exact jf2
          refine jl_invSN0 (M' := m_St_stateAfter) (d' := d - 1) (ck' := 0) (sk' := 0) (na := 2) (as := [.int (zI (u)), .int (zI (r))]) (st := []) d_Jo_walk_60 rfl mw_Jo_82 ww_St_stateAfter nw_St cw_St_stateAfter rfl rfl (by decide +kernel) (by omega) (Nat.le_of_ble_eq_true rfl) (Nat.le_of_ble_eq_true rfl) ?_
          refine k_stateAfter hl9 (by omega) hu ⟨by omega, by omega⟩ ?_
          show jl_AW _ _ _ _ _ 63 [some (.ref (jo)), some (.int (zI (v))), some (.int (zI (u))), some (.int (zI (lf))), some (.int (zI (r)))] [.int (zI (sa u r))] n h4 _ _
          refine jl_istore_n (L' := [some (.ref (jo)), some (.int (zI (v))), some (.int (zI (sa u r))), some (.int (zI (lf))), some (.int (zI (r)))]) d_Jo_walk_63 rfl (by decide) rfl ?_
          refine jz_iinc (v := lf - 1) (L' := [some (.ref (jo)), some (.int (zI (v))), some (.int (zI (sa u r))), some (.int (zI (lf - 1))), some (.int (zI (r)))]) d_Jo_walk_64 rfl (by omega) (by decide) rfl ?_
          refine jl_goto (tgt := 14) d_Jo_walk_67 (by decide) ?_
          refine jl_less (L' := [some (.ref (jo)), some (.int (zI (v))), some (.int (zI (sa u r))), some (.int (zI (lf - 1))), none]) ⟨rfl, rfl, rfl, rfl, trivial⟩ ?_
          have hsr : 0 ≤ sa u r ∧ sa u r < 512 := by rcases sa_rg hu (show 0 ≤ r ∧ r ≤ 9 by omega) with q | q; exact absurd q hr2.2.2.1.1; exact ⟨q.1, q.2.1⟩
          refine ih (k - 1) (by omega) (lf - 1) (W ++ [r]) (sa u r) _ h4 (by omega) (by omega) ⟨jf5, jf6, jf7, jf8⟩ ?_ hr2.2.2.1.2 hsr ?_ (by rw [List.length_append, List.length_singleton]; omega) (fun y hy => by rw [eh4, va_up_ne _ _ (by omega), eh1, va_up_ne _ _ (by omega)]; exact hfr2 y hy)
          · have e9 : (lf - 1).toNat + 1 = lf.toNat := by omega
            refine wlp_app W v u (by rw [e9]; exact hW) ?_
            rw [show (((lf - 1).toNat : Nat) : Int) = lf - 1 by omega]
            exact hr2
          · intro j hj
            rw [List.length_append, List.length_singleton] at hj
            by_cases e9 : j = W.length
            · subst e9; rw [show ((W.length : Int)).toNat = W.length by omega, va_up_self]; simp [List.getD]
            · rw [va_up_ne _ _ (by omega), hWA j (by omega)]; simp [List.getD, List.getElem?_append, show j < W.length by omega]
        · omega
  obtain ⟨j0, j1, j2, j3⟩ := id (hJ)
  refine jl_iload_n d_Jo_walk_0 rfl rfl ?_
  refine jl_istore_n (L' := [some (.ref (jo)), some (.int (zI (v))), some (.int (zI (v))), none, none]) d_Jo_walk_1 rfl (by decide) rfl ?_
  refine jl_aload_n d_Jo_walk_2 rfl rfl ?_
  refine jl_iconst (v := zI (0)) d_Jo_walk_3 (by decide) ?_
  refine jp_3 (q := 4) (ty := .int) d_Jo_walk_4 j0 (by simp) (by decide) fw_Jo_76 rfl (by decide +kernel) (fun _ _ => rfl) (fun _ _ => rfl) (fun h1 eh1 => ?_)
  have eh1 : h1 = va_up h (jo) (jO 3 [.ref (jo + 1), .ref (jo + 2), .ref (jo + 3), .int (zI (qd)), .int (zI (0)), .int (zI (md)), .int (zI (fs)), .int (zI (ts))]) := eh1
  have jf2 : h1 (jo) = jO 3 [.ref (jo + 1), .ref (jo + 2), .ref (jo + 3), .int (zI (qd)), .int (zI (0)), .int (zI (md)), .int (zI (fs)), .int (zI (ts))] := by rw [eh1, va_up_self]
  refine jl_aload_n d_Jo_walk_7 rfl rfl ?_
  refine jg_3 (q := 0) d_Jo_walk_8 jf2 rfl (by decide) fw_Jo_9 ?_
  refine jl_iload_n d_Jo_walk_11 rfl rfl ?_
  have jf3 : h1 (jo + 1) = jI 512 (fun j9 => zI (DS j9)) := by rw [eh1, va_up_ne _ _ (by omega)]; exact j1
  refine jz_iald d_Jo_walk_12 jf3 (by omega) (by omega) (by omega) ?_
  have jf4 : h1 (jo + 2) = jI 512 (fun j9 => zI (QU j9)) := by rw [eh1, va_up_ne _ _ (by omega)]; exact j2
  have jf5 : h1 (jo + 3) = jI 512 (fun j9 => zI (WA j9)) := by rw [eh1, va_up_ne _ _ (by omega)]; exact j3
  refine jl_istore_n (L' := [some (.ref (jo)), some (.int (zI (v))), some (.int (zI (v))), some (.int (zI (DS (v).toNat))), none]) d_Jo_walk_13 rfl (by decide) rfl ?_
  refine lp1 (DS v.toNat).toNat (DS v.toNat) [] v WA h1 (by omega) (by omega) ⟨jf2, jf3, jf4, jf5⟩ rfl hD1 hv (fun j hj => absurd hj (Nat.not_lt_zero j)) (by show ((0 : Nat) : Int) + _ = _; omega) (fun y hy => by rw [eh1, va_up_ne _ _ (by omega)])
