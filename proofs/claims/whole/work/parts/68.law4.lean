theorem dK_cp {m p : Int} {hs cs xs : Nat → Int} {M : MS} {a b : Int} (h : dK m p hs cs xs M a) (ha : 0 ≤ a ∧ a < 8) (hb : 0 ≤ b ∧ b < 8) : dK m p hs cs xs (cpM M a b 16 48) b := by
  obtain ⟨a1, a2, a3, a4, a5, a6, a7⟩ := h
  obtain ⟨c1, c2, c3, c4, c5⟩ := cpM_b (M := M) ha hb
  have hp := a1.2.1
  refine ⟨a1, a2, a3, a4, c1.trans a5, c2.trans a6, fun s hs9 => ⟨(c4 s (by omega)).trans (a7 s hs9).1, (c5 s (by omega)).trans (a7 s hs9).2.1, fun k hk => ?_⟩⟩
  have := a2 s hs9
  exact (c3 (s * 3 + k) (by omega)).trans ((a7 s hs9).2.2 k hk)
set_option maxHeartbeats 4000000 in
set_option maxRecDepth 100000 in
theorem lw_save {l : Launch} {G : jl_G} {F : List Frame → Array Value → State → Nat → Nat → (Nat → Nat) → Nat → State → Prop} {d n t ck sk : Nat} {h : Nat → va_E} {z : UInt32} (hl9 : l.stackTraces = false) (hd9 : 20 ≤ d) (hlen : G.2.2.2.2.1 ≤ 2048) (ht : 4 * t + 4 ≤ G.2.2.2.2.1) (hI : LI t n h) (hnext : ∀ n' h', LI (t + 1) n' h' → jl_AW l G F m_Lw_law d 1405 [some (.float (z)), some (.ref (0)), some (.ref (28)), some (.ref (42)), some (.int (zI (((4 * t : Nat) : Int)))), none, none] [] n' h' ck sk) : jl_AW l G F m_Lw_law d 689 [some (.float (z)), some (.ref (0)), some (.ref (28)), some (.ref (42)), some (.int (zI (((4 * t : Nat) : Int)))), none, none] [] n h (ck + 6) (sk + 108) := by
  obtain ⟨M, hQ, okM, hrw, hX, ⟨f, hO⟩, hn, hlD, hlS, hlJ, hlC, hlF⟩ := hI
  have hz1 := scr_z G (4 * t + 1)
  have hz2 := scr_z G (4 * t + 2)
  have hz3 := scr_z G (4 * t + 3)
  obtain ⟨m, p, hs, cs, xs, sc, hD, hK⟩ := id hlD
  obtain ⟨fx, m9, p9, hs9, cs9, xs9, hSH, hsk, hsn⟩ := id hlS
  have hr := dK_r hK
  refine jl_aload_n d_Lw_law_689 rfl rfl ?_
  refine jl_sload_n d_Lw_law_690 rfl rfl ?_
  refine jl_iload d_Lw_law_691 rfl ?_
  refine jl_iconst (v := zI (1)) d_Lw_law_693 (by decide) ?_
  refine jz_iadd (v := ((4 * t + 1 : Nat) : Int)) d_Lw_law_694 (by omega) ?_
  refine jz_sld (k9 := 4 * t + 1) d_Lw_law_695 rfl (by omega) hlen ?_
  refine jl_aload_n d_Lw_law_696 rfl rfl ?_
  have hio : ∀ k o, fx k = some o → 1 + 5 ≤ o ∨ o + 5 ≤ 1 := fun k o q => by have := (hsk k o q).2.1; omega
  refine jl_invSH (M' := m_Lw_save) (d' := d - 1) (ck' := 6) (sk' := 108) (ck := ck) (sk := sk) (na := 3) (as := [.ref (0), .int (zI (scr G (4 * t + 1))), .ref (42)]) (st := []) d_Lw_law_697 rfl mw_Lw_129 ww_Lw_save nw_Lw cw_Lw_save rfl rfl (by decide +kernel) (by omega) (Nat.le_of_ble_eq_true rfl) (Nat.le_of_ble_eq_true rfl) ?_
  refine k_Lw_save hl9 (d' := d - 2) (by omega) hX ?_
  refine k_save hl9 (by omega) hX hD hSH hio ⟨by omega, by omega, by omega⟩ (by decide) hz1 (fun hin hf0 h1 hD1 hq1 hf1 => ⟨0, f, rfl, Or.inl rfl, by rw [hf1 42 (by omega) (by decide)]; exact hO, ?_⟩) (fun hin o ho sc1 h1 hD1 hf1 => ⟨1, f, rfl, Or.inr rfl, by have := (hsk _ o ho).2.1; rw [hf1 42 (by omega)]; exact hO, ?_⟩) (fun hno => ⟨rfl, ?_⟩)
  · have hp0 : M.pe (1 + scr G (4 * t + 1)).toNat = 0 := by have := hsn (scr G (4 * t + 1)).toNat (by omega) hf0; rwa [show (1 + ((scr G (4 * t + 1)).toNat : Int)) = 1 + scr G (4 * t + 1) by omega] at this
    obtain ⟨h2, eh2⟩ : ∃ z9, z9 = va_up h1 42 (jJ 1 (vp_updL f (zI 0).toNatClampNeg ((if (0 : Int) = 0 then (0 : Int64) else 1)))) := ⟨_, rfl⟩
    rw [← eh2]
    have oh2 : h2 42 = jJ 1 (vp_updL f (zI 0).toNatClampNeg ((if (0 : Int) = 0 then (0 : Int64) else 1))) := by rw [eh2, va_up_self]
    have gh2 : ∀ y, y ≠ 42 → h2 y = h1 y := fun y hy => by rw [eh2, va_up_ne _ _ hy]
    show jl_AW _ _ _ _ _ 700 [some (.float (z)), some (.ref (0)), some (.ref (28)), some (.ref (42)), some (.int (zI (((4 * t : Nat) : Int)))), none, none] [.int (zI (0))] (n + 5) h2 _ _
    have hM2 : jM h2 28 M := jM_fr (fun y q1 q2 => by rw [gh2 y (by omega)]; exact hf1 y (by omega) (by omega)) hQ
    refine jl_istore (L' := [some (.float (z)), some (.ref (0)), some (.ref (28)), some (.ref (42)), some (.int (zI (((4 * t : Nat) : Int)))), some (.int (zI (0))), none]) d_Lw_law_700 (by decide) rfl ?_
    refine jl_aload_n d_Lw_law_702 rfl rfl ?_
    refine jl_sload_n d_Lw_law_703 rfl rfl ?_
    refine jl_iload d_Lw_law_704 rfl ?_
    refine jl_iconst (v := zI (1)) d_Lw_law_706 (by decide) ?_
    refine jz_iadd (v := ((4 * t + 1 : Nat) : Int)) d_Lw_law_707 (by omega) ?_
    refine jz_sld (k9 := 4 * t + 1) d_Lw_law_708 rfl (by omega) hlen ?_
    refine jl_invV0 (M' := m_Md_save) (d' := d - 1) (ck' := 0) (sk' := 0) (na := 1) (as := [.int (zI (scr G (4 * t + 1)))]) (st := []) (x := 28) d_Lw_law_709 rfl (hM2).1 rfl mw_Lw_131 ww_Md_save sw_Md_save nw_Md cw_Md_save rfl rfl (by decide +kernel) (by omega) (Nat.le_of_ble_eq_true rfl) (Nat.le_of_ble_eq_true rfl) ?_
    refine k_M_save hl9 (by omega) hM2 okM hz1 (fun _ q => absurd hp0 q) (fun _ _ h3 hM3 hf3 => ?_) (fun q => absurd ⟨hin.1, by omega⟩ q)
    show jl_AW _ _ _ _ _ 712 [some (.float (z)), some (.ref (0)), some (.ref (28)), some (.ref (42)), some (.int (zI (((4 * t : Nat) : Int)))), some (.int (zI (0))), none] [.int (zI (0))] (n + 5) h3 _ _
    have o3 : h3 42 = jJ 1 (vp_updL f (zI 0).toNatClampNeg (if (0 : Int) = 0 then (0 : Int64) else 1)) := by rw [hf3 42 (by omega)]; exact oh2
    refine jl_istore (L' := [some (.float (z)), some (.ref (0)), some (.ref (28)), some (.ref (42)), some (.int (zI (((4 * t : Nat) : Int)))), some (.int (zI (0))), some (.int (zI (0)))]) d_Lw_law_712 (by decide) rfl ?_
    refine jl_aload_n d_Lw_law_714 rfl rfl ?_
    refine jl_invV0 (M' := m_Md_thrown) (d' := d - 1) (ck' := 0) (sk' := 0) (na := 0) (as := []) (st := []) (x := 28) d_Lw_law_715 rfl (hM3).1 rfl mw_Lw_93 ww_Md_thrown sw_Md_thrown nw_Md cw_Md_thrown rfl rfl (by decide +kernel) (by omega) (Nat.le_of_ble_eq_true rfl) (Nat.le_of_ble_eq_true rfl) ?_
    refine k_M_thrown hl9 (by omega) hM3 ?_
    show jl_AW _ _ _ _ _ 718 [some (.float (z)), some (.ref (0)), some (.ref (28)), some (.ref (42)), some (.int (zI (((4 * t : Nat) : Int)))), some (.int (zI (0))), some (.int (zI (0)))] [.int (zI (0))] (n + 5) h3 _ _
    refine jl_iload d_Lw_law_718 rfl ?_
    refine jz_icmp_eq (tgt := 725) d_Lw_law_720 (by decide) ⟨by decide, by decide⟩ ⟨by decide, by decide⟩ (fun _ => ?_) (fun q9 => absurd rfl q9)
    refine jl_iload d_Lw_law_725 rfl ?_
    refine jz_if_ne (tgt := 749) d_Lw_law_727 (by decide) ⟨by decide, by decide⟩ (fun q9 => absurd q9 (by decide)) (fun _ => ?_)
    refine jl_aload_n d_Lw_law_730 rfl rfl ?_
    refine jl_iconst (v := zI (0)) d_Lw_law_731 (by decide) ?_
    refine jl_lald d_Lw_law_732 o3 (zI_in (by decide) (by decide) (by decide)) ?_
    refine jl_iload d_Lw_law_733 rfl ?_
    refine jz_if_eq (tgt := 742) d_Lw_law_735 (by decide) ⟨by decide, by decide⟩ (fun _ => ?_) (fun q9 => absurd q9 (by decide))
    refine jl_lconst (v := 0) d_Lw_law_742 rfl ?_
    refine jz_lcmp0 d_Lw_law_743 (by unfold vp_updL; rw [if_pos rfl]; rfl) ?_
    refine jz_if_eq (tgt := 749) d_Lw_law_744 (by decide) ⟨by decide, by decide⟩ (fun _ => ?_) (fun q9 => absurd q9 (by decide))
    refine jl_goto (tgt := 1405) d_Lw_law_749 (by decide) ?_
    refine jl_less (L' := [some (.float (z)), some (.ref (0)), some (.ref (28)), some (.ref (42)), some (.int (zI (((4 * t : Nat) : Int)))), none, none]) ⟨rfl, rfl, rfl, rfl, rfl, trivial⟩ ?_
    have fr : ∀ y, (y < 28 ∨ 43 ≤ y) → y < n → y ≠ 6 → h3 y = h y := fun y q1 q2 q3 => by rw [hf3 y (by omega), gh2 y (by omega), hf1 y q2 q3]
    have h36 : h3 6 = jQ 2 6 (va_up fx (scr G (4 * t + 1)).toNat (some n)) := by rw [hf3 6 (by omega), gh2 6 (by decide)]; exact hq1
    have hz8 := hK.2.2.2.1
    have hDn := jD_fr (h' := h3) (fun y q1 q2 => by rw [hf3 y (by omega), gh2 y (by omega)]) hD1
    rw [jcpy_z hz8.1 (fun _ _ => rfl), jcpy_z (g := va_up (fun _ => (0 : Int)) (0 : Int).toNat 1) hz8.2.1 (fun j hj => va_up_ne _ _ (fun q => by have : j = 0 := q; omega)), jcpy_z hz8.2.2 (fun _ _ => rfl)] at hDn
    have hold : ∀ k o, ¬ k = (scr G (4 * t + 1)).toNat → fx k = some o → ∀ y, o ≤ y → y < o + 5 → h3 y = h y := fun k o q1 q2 y q3 q4 => by have := hsk k o q2; exact fr y (by omega) (by omega) (by omega)
    have hsep : ∀ k o, ¬ k = (scr G (4 * t + 1)).toNat → fx k = some o → o + 5 ≤ n ∨ n + 5 ≤ o := fun k o q1 q2 => by have := hsk k o q2; omega
    have hs6 : 6 < n ∨ n + 5 ≤ 6 := by omega
    have hnew : 43 ≤ n ∧ n + 5 ≤ n + 5 := by omega
    have fr : ∀ y, (y < 28 ∨ 43 ≤ y) → y < 43 → y ≠ 6 → h3 y = h y := fun y q1 q2 q3 => fr y q1 (by omega) q3
    have e6 : ((scr G (4 * t + 1)).toNat : Int) = scr G (4 * t + 1) := by omega
    have hz9 := hK.2.2.2.1
    have hdk : dK m p hs cs xs (cpM (M.wT 0) 0 (1 + scr G (4 * t + 1)) 16 48) (1 + (scr G (4 * t + 1)).toNat) := by
      rw [e6]
      exact dK_cp (M := M.wT 0) hK (by decide) ⟨by omega, by omega⟩
    have hsm : ∀ d9 : Int, 0 ≤ d9 → d9 < 8 → ¬ d9 = 1 + scr G (4 * t + 1) → sm5 M (cpM (M.wT 0) 0 (1 + scr G (4 * t + 1)) 16 48) d9 := fun d9 q1 q2 q3 => cpM_o (M := M.wT 0) (a := 0) ⟨by omega, by omega⟩ ⟨q1, q2⟩ q3
    have hfk : ∀ k ob, va_up fx (scr G (4 * t + 1)).toNat (some (n)) k = some ob → (k = (scr G (4 * t + 1)).toNat ∧ ob = n) ∨ (¬ k = (scr G (4 * t + 1)).toNat ∧ fx k = some ob) := by
      intro k ob q
      by_cases e9 : k = (scr G (4 * t + 1)).toNat
      · subst e9; rw [va_up_self] at q; exact Or.inl ⟨rfl, (Option.some.inj q).symm⟩
      · rw [va_up_ne _ _ e9] at q; exact Or.inr ⟨e9, q⟩
    have hS3 : lS h3 (n + 5) (cpM (M.wT 0) 0 (1 + scr G (4 * t + 1)) 16 48) := by
      refine ⟨va_up fx (scr G (4 * t + 1)).toNat (some (n)), va_up m9 (scr G (4 * t + 1)).toNat m, va_up p9 (scr G (4 * t + 1)).toNat p, va_up hs9 (scr G (4 * t + 1)).toNat hs, va_up cs9 (scr G (4 * t + 1)).toNat cs, va_up xs9 (scr G (4 * t + 1)).toNat xs, ⟨h36, fun k ob q => ?_, fun k k2 ob ob2 q q2 hne => ?_, fun k ob q => ?_⟩, fun k ob q => ?_, fun k hk q => ?_⟩
      · rcases hfk k ob q with ⟨e1, e2⟩ | ⟨e1, e2⟩
        · subst e1 e2; rw [va_up_self, va_up_self, va_up_self, va_up_self, va_up_self]; exact ⟨_, hDn⟩
        · rw [va_up_ne _ _ e1, va_up_ne _ _ e1, va_up_ne _ _ e1, va_up_ne _ _ e1, va_up_ne _ _ e1]; obtain ⟨sc9, q9⟩ := hSH.2.1 k ob e2; exact ⟨sc9, jD_fr (fun y q1 q2 => hold k ob e1 e2 y q1 q2) q9⟩
      · rcases hfk k ob q with ⟨e1, e2⟩ | ⟨e1, e2⟩ <;> rcases hfk k2 ob2 q2 with ⟨e3, e4⟩ | ⟨e3, e4⟩
        · exact absurd (e1.trans e3.symm) hne
        · subst e2; exact (hsep k2 ob2 e3 e4).symm
        · subst e4; exact hsep k ob e1 e2
        · exact hSH.2.2.1 k k2 ob ob2 e2 e4 hne
      · rcases hfk k ob q with ⟨e1, e2⟩ | ⟨e1, e2⟩
        · subst e2; exact hs6
        · exact hSH.2.2.2 k ob e2
      · rcases hfk k ob q with ⟨e1, e2⟩ | ⟨e1, e2⟩
        · subst e1 e2; rw [va_up_self, va_up_self, va_up_self, va_up_self, va_up_self]; exact ⟨by omega, hnew.1, hnew.2, hdk⟩
        · rw [va_up_ne _ _ e1, va_up_ne _ _ e1, va_up_ne _ _ e1, va_up_ne _ _ e1, va_up_ne _ _ e1]; obtain ⟨b1, b2, b3, b4⟩ := hsk k ob e2; exact ⟨b1, b2, by omega, dK_5 b4 (hsm _ (by omega) (by omega) (by omega))⟩
      · by_cases e9 : k = (scr G (4 * t + 1)).toNat
        · subst e9; rw [va_up_self] at q; cases q
        · rw [va_up_ne _ _ e9] at q; rw [(hsm (1 + (k : Int)) (by omega) (by omega) (by omega)).2.1]; exact hsn k hk q
    exact hnext (n + 5) h3 ⟨_, hM3, cpM_ok (M := M.wT 0) okM, hrw, (fr 0 (by omega) (by omega) (by omega)).trans hX, ⟨_, o3⟩, by omega, lD_fr (fun y q1 q2 => fr y (by omega) (by omega) (by omega)) (hsm 0 (by decide) (by decide) (by omega)) hlD, hS3, lJ_fr (fun y q1 q2 => fr y (by omega) (by omega) (by omega)) hlJ, lCt_fr (fun y q1 q2 => fr y (by omega) (by omega) (by omega)) hlC, lF_fr (fun y q1 q2 => fr y (by omega) (by omega) (by omega)) (hsm 7 (by decide) (by decide) (by omega)) ⟨rfl, rfl, rfl, rfl, rfl, rfl⟩ (by omega) hlF⟩
  · have hok0 := hsk _ o ho
    have hp0 : ¬ M.pe (1 + scr G (4 * t + 1)).toNat = 0 := by have h8 := hok0.2.2.2.2.2.2.2.2.1; have h9 := hok0.2.2.2.1.2.1; rw [show (1 + ((scr G (4 * t + 1)).toNat : Int)) = 1 + scr G (4 * t + 1) by omega] at h8; omega
    obtain ⟨h2, eh2⟩ : ∃ z9, z9 = va_up h1 42 (jJ 1 (vp_updL f (zI 0).toNatClampNeg ((if (1 : Int) = 0 then (0 : Int64) else 1)))) := ⟨_, rfl⟩
    rw [← eh2]
    have oh2 : h2 42 = jJ 1 (vp_updL f (zI 0).toNatClampNeg ((if (1 : Int) = 0 then (0 : Int64) else 1))) := by rw [eh2, va_up_self]
    have gh2 : ∀ y, y ≠ 42 → h2 y = h1 y := fun y hy => by rw [eh2, va_up_ne _ _ hy]
    show jl_AW _ _ _ _ _ 700 [some (.float (z)), some (.ref (0)), some (.ref (28)), some (.ref (42)), some (.int (zI (((4 * t : Nat) : Int)))), none, none] [.int (zI (0))] n h2 _ _
    have hM2 : jM h2 28 M := jM_fr (fun y q1 q2 => by rw [gh2 y (by omega)]; exact hf1 y (by omega)) hQ
    refine jl_istore (L' := [some (.float (z)), some (.ref (0)), some (.ref (28)), some (.ref (42)), some (.int (zI (((4 * t : Nat) : Int)))), some (.int (zI (0))), none]) d_Lw_law_700 (by decide) rfl ?_
    refine jl_aload_n d_Lw_law_702 rfl rfl ?_
    refine jl_sload_n d_Lw_law_703 rfl rfl ?_
    refine jl_iload d_Lw_law_704 rfl ?_
    refine jl_iconst (v := zI (1)) d_Lw_law_706 (by decide) ?_
    refine jz_iadd (v := ((4 * t + 1 : Nat) : Int)) d_Lw_law_707 (by omega) ?_
    refine jz_sld (k9 := 4 * t + 1) d_Lw_law_708 rfl (by omega) hlen ?_
    refine jl_invV0 (M' := m_Md_save) (d' := d - 1) (ck' := 0) (sk' := 0) (na := 1) (as := [.int (zI (scr G (4 * t + 1)))]) (st := []) (x := 28) d_Lw_law_709 rfl (hM2).1 rfl mw_Lw_131 ww_Md_save sw_Md_save nw_Md cw_Md_save rfl rfl (by decide +kernel) (by omega) (Nat.le_of_ble_eq_true rfl) (Nat.le_of_ble_eq_true rfl) ?_
    refine k_M_save hl9 (by omega) hM2 okM hz1 (fun _ _ h3 hM3 hf3 => ?_) (fun _ q => absurd q hp0) (fun q => absurd ⟨hin.1, by omega⟩ q)
    show jl_AW _ _ _ _ _ 712 [some (.float (z)), some (.ref (0)), some (.ref (28)), some (.ref (42)), some (.int (zI (((4 * t : Nat) : Int)))), some (.int (zI (0))), none] [.int (zI (1))] n h3 _ _
    have o3 : h3 42 = jJ 1 (vp_updL f (zI 0).toNatClampNeg (if (1 : Int) = 0 then (0 : Int64) else 1)) := by rw [hf3 42 (by omega)]; exact oh2
    refine jl_istore (L' := [some (.float (z)), some (.ref (0)), some (.ref (28)), some (.ref (42)), some (.int (zI (((4 * t : Nat) : Int)))), some (.int (zI (0))), some (.int (zI (1)))]) d_Lw_law_712 (by decide) rfl ?_
    refine jl_aload_n d_Lw_law_714 rfl rfl ?_
    refine jl_invV0 (M' := m_Md_thrown) (d' := d - 1) (ck' := 0) (sk' := 0) (na := 0) (as := []) (st := []) (x := 28) d_Lw_law_715 rfl (hM3).1 rfl mw_Lw_93 ww_Md_thrown sw_Md_thrown nw_Md cw_Md_thrown rfl rfl (by decide +kernel) (by omega) (Nat.le_of_ble_eq_true rfl) (Nat.le_of_ble_eq_true rfl) ?_
    refine k_M_thrown hl9 (by omega) hM3 ?_
    show jl_AW _ _ _ _ _ 718 [some (.float (z)), some (.ref (0)), some (.ref (28)), some (.ref (42)), some (.int (zI (((4 * t : Nat) : Int)))), some (.int (zI (0))), some (.int (zI (1)))] [.int (zI (0))] n h3 _ _
    refine jl_iload d_Lw_law_718 rfl ?_
    refine jz_icmp_eq (tgt := 725) d_Lw_law_720 (by decide) ⟨by decide, by decide⟩ ⟨by decide, by decide⟩ (fun _ => ?_) (fun q9 => absurd rfl q9)
    refine jl_iload d_Lw_law_725 rfl ?_
    refine jz_if_ne (tgt := 749) d_Lw_law_727 (by decide) ⟨by decide, by decide⟩ (fun q9 => absurd q9 (by decide)) (fun _ => ?_)
    refine jl_aload_n d_Lw_law_730 rfl rfl ?_
    refine jl_iconst (v := zI (0)) d_Lw_law_731 (by decide) ?_
    refine jl_lald d_Lw_law_732 o3 (zI_in (by decide) (by decide) (by decide)) ?_
    refine jl_iload d_Lw_law_733 rfl ?_
    refine jz_if_eq (tgt := 742) d_Lw_law_735 (by decide) ⟨by decide, by decide⟩ (fun q9 => absurd q9 (by decide)) (fun _ => ?_)
    refine jl_lconst (v := 1) d_Lw_law_738 rfl ?_
    refine jl_goto (tgt := 743) d_Lw_law_739 (by decide) ?_
    refine jz_lcmp0 d_Lw_law_743 (by unfold vp_updL; rw [if_pos rfl]; rfl) ?_
    refine jz_if_eq (tgt := 749) d_Lw_law_744 (by decide) ⟨by decide, by decide⟩ (fun _ => ?_) (fun q9 => absurd q9 (by decide))
    refine jl_goto (tgt := 1405) d_Lw_law_749 (by decide) ?_
    refine jl_less (L' := [some (.float (z)), some (.ref (0)), some (.ref (28)), some (.ref (42)), some (.int (zI (((4 * t : Nat) : Int)))), none, none]) ⟨rfl, rfl, rfl, rfl, rfl, trivial⟩ ?_
    have fr : ∀ y, (y < 28 ∨ 43 ≤ y) → (y < o ∨ o + 5 ≤ y) → h3 y = h y := fun y q1 q2 => by rw [hf3 y (by omega), gh2 y (by omega), hf1 y q2]
    have h36 : h3 6 = jQ 2 6 (va_up fx (scr G (4 * t + 1)).toNat (some o)) := by
      have ef : va_up fx (scr G (4 * t + 1)).toNat (some o) = fx := by
        funext j
        by_cases e9 : j = (scr G (4 * t + 1)).toNat
        · rw [e9, va_up_self]; exact ho.symm
        · rw [va_up_ne _ _ e9]
      rw [ef, fr 6 (by omega) (by omega)]; exact hSH.1
    have hz8 := hK.2.2.2.1
    have hz7 := hok0.2.2.2.2.2.2.1
    have hDn := jD_fr (h' := h3) (fun y q1 q2 => by rw [hf3 y (by omega), gh2 y (by omega)]) hD1
    rw [jcpy_z hz8.1 hz7.1, jcpy_z hz8.2.1 hz7.2.1, jcpy_z hz8.2.2 hz7.2.2] at hDn
    have hold : ∀ k o2, ¬ k = (scr G (4 * t + 1)).toNat → fx k = some o2 → ∀ y, o2 ≤ y → y < o2 + 5 → h3 y = h y := fun k o2 q1 q2 y q3 q4 => by have := hsk k o2 q2; have := hSH.2.2.1 k _ o2 o q2 ho q1; exact fr y (by omega) (by omega)
    have hsep : ∀ k o2, ¬ k = (scr G (4 * t + 1)).toNat → fx k = some o2 → o2 + 5 ≤ o ∨ o + 5 ≤ o2 := fun k o2 q1 q2 => hSH.2.2.1 k _ o2 o q2 ho q1
    have hs6 := hSH.2.2.2 _ o ho
    have hnew : 43 ≤ o ∧ o + 5 ≤ n := ⟨hok0.2.1, hok0.2.2.1⟩
    have fr : ∀ y, (y < 28 ∨ 43 ≤ y) → y < 43 → y ≠ 6 → h3 y = h y := fun y q1 q2 q3 => fr y q1 (by omega)
    have e6 : ((scr G (4 * t + 1)).toNat : Int) = scr G (4 * t + 1) := by omega
    have hz9 := hK.2.2.2.1
    have hdk : dK m p hs cs xs (cpM (M.wT 0) 0 (1 + scr G (4 * t + 1)) 16 48) (1 + (scr G (4 * t + 1)).toNat) := by
      rw [e6]
      exact dK_cp (M := M.wT 0) hK (by decide) ⟨by omega, by omega⟩
    have hsm : ∀ d9 : Int, 0 ≤ d9 → d9 < 8 → ¬ d9 = 1 + scr G (4 * t + 1) → sm5 M (cpM (M.wT 0) 0 (1 + scr G (4 * t + 1)) 16 48) d9 := fun d9 q1 q2 q3 => cpM_o (M := M.wT 0) (a := 0) ⟨by omega, by omega⟩ ⟨q1, q2⟩ q3
    have hfk : ∀ k ob, va_up fx (scr G (4 * t + 1)).toNat (some (o)) k = some ob → (k = (scr G (4 * t + 1)).toNat ∧ ob = o) ∨ (¬ k = (scr G (4 * t + 1)).toNat ∧ fx k = some ob) := by
      intro k ob q
      by_cases e9 : k = (scr G (4 * t + 1)).toNat
      · subst e9; rw [va_up_self] at q; exact Or.inl ⟨rfl, (Option.some.inj q).symm⟩
      · rw [va_up_ne _ _ e9] at q; exact Or.inr ⟨e9, q⟩
    have hS3 : lS h3 n (cpM (M.wT 0) 0 (1 + scr G (4 * t + 1)) 16 48) := by
      refine ⟨va_up fx (scr G (4 * t + 1)).toNat (some (o)), va_up m9 (scr G (4 * t + 1)).toNat m, va_up p9 (scr G (4 * t + 1)).toNat p, va_up hs9 (scr G (4 * t + 1)).toNat hs, va_up cs9 (scr G (4 * t + 1)).toNat cs, va_up xs9 (scr G (4 * t + 1)).toNat xs, ⟨h36, fun k ob q => ?_, fun k k2 ob ob2 q q2 hne => ?_, fun k ob q => ?_⟩, fun k ob q => ?_, fun k hk q => ?_⟩
      · rcases hfk k ob q with ⟨e1, e2⟩ | ⟨e1, e2⟩
        · subst e1 e2; rw [va_up_self, va_up_self, va_up_self, va_up_self, va_up_self]; exact ⟨_, hDn⟩
        · rw [va_up_ne _ _ e1, va_up_ne _ _ e1, va_up_ne _ _ e1, va_up_ne _ _ e1, va_up_ne _ _ e1]; obtain ⟨sc9, q9⟩ := hSH.2.1 k ob e2; exact ⟨sc9, jD_fr (fun y q1 q2 => hold k ob e1 e2 y q1 q2) q9⟩
      · rcases hfk k ob q with ⟨e1, e2⟩ | ⟨e1, e2⟩ <;> rcases hfk k2 ob2 q2 with ⟨e3, e4⟩ | ⟨e3, e4⟩
        · exact absurd (e1.trans e3.symm) hne
        · subst e2; exact (hsep k2 ob2 e3 e4).symm
        · subst e4; exact hsep k ob e1 e2
        · exact hSH.2.2.1 k k2 ob ob2 e2 e4 hne
      · rcases hfk k ob q with ⟨e1, e2⟩ | ⟨e1, e2⟩
        · subst e2; exact hs6
        · exact hSH.2.2.2 k ob e2
      · rcases hfk k ob q with ⟨e1, e2⟩ | ⟨e1, e2⟩
        · subst e1 e2; rw [va_up_self, va_up_self, va_up_self, va_up_self, va_up_self]; exact ⟨by omega, hnew.1, hnew.2, hdk⟩
        · rw [va_up_ne _ _ e1, va_up_ne _ _ e1, va_up_ne _ _ e1, va_up_ne _ _ e1, va_up_ne _ _ e1]; obtain ⟨b1, b2, b3, b4⟩ := hsk k ob e2; exact ⟨b1, b2, by omega, dK_5 b4 (hsm _ (by omega) (by omega) (by omega))⟩
      · by_cases e9 : k = (scr G (4 * t + 1)).toNat
        · subst e9; rw [va_up_self] at q; cases q
        · rw [va_up_ne _ _ e9] at q; rw [(hsm (1 + (k : Int)) (by omega) (by omega) (by omega)).2.1]; exact hsn k hk q
    exact hnext n h3 ⟨_, hM3, cpM_ok (M := M.wT 0) okM, hrw, (fr 0 (by omega) (by omega) (by omega)).trans hX, ⟨_, o3⟩, by omega, lD_fr (fun y q1 q2 => fr y (by omega) (by omega) (by omega)) (hsm 0 (by decide) (by decide) (by omega)) hlD, hS3, lJ_fr (fun y q1 q2 => fr y (by omega) (by omega) (by omega)) hlJ, lCt_fr (fun y q1 q2 => fr y (by omega) (by omega) (by omega)) hlC, lF_fr (fun y q1 q2 => fr y (by omega) (by omega) (by omega)) (hsm 7 (by decide) (by decide) (by omega)) ⟨rfl, rfl, rfl, rfl, rfl, rfl⟩ (by omega) hlF⟩
  · show jl_AW _ _ _ _ _ 700 [some (.float (z)), some (.ref (0)), some (.ref (28)), some (.ref (42)), some (.int (zI (((4 * t : Nat) : Int)))), none, none] [.int (zI (1))] n h _ _
    refine jl_istore (L' := [some (.float (z)), some (.ref (0)), some (.ref (28)), some (.ref (42)), some (.int (zI (((4 * t : Nat) : Int)))), some (.int (zI (1))), none]) d_Lw_law_700 (by decide) rfl ?_
    refine jl_aload_n d_Lw_law_702 rfl rfl ?_
    refine jl_sload_n d_Lw_law_703 rfl rfl ?_
    refine jl_iload d_Lw_law_704 rfl ?_
    refine jl_iconst (v := zI (1)) d_Lw_law_706 (by decide) ?_
    refine jz_iadd (v := ((4 * t + 1 : Nat) : Int)) d_Lw_law_707 (by omega) ?_
    refine jz_sld (k9 := 4 * t + 1) d_Lw_law_708 rfl (by omega) hlen ?_
    refine jl_invV0 (M' := m_Md_save) (d' := d - 1) (ck' := 0) (sk' := 0) (na := 1) (as := [.int (zI (scr G (4 * t + 1)))]) (st := []) (x := 28) d_Lw_law_709 rfl (hQ).1 rfl mw_Lw_131 ww_Md_save sw_Md_save nw_Md cw_Md_save rfl rfl (by decide +kernel) (by omega) (Nat.le_of_ble_eq_true rfl) (Nat.le_of_ble_eq_true rfl) ?_
    refine k_M_save hl9 (by omega) hQ okM hz1 (fun q => absurd ⟨q.1, by omega⟩ hno) (fun q => absurd ⟨q.1, by omega⟩ hno) (fun _ h3 hM3 hf3 => ?_)
    show jl_AW _ _ _ _ _ 712 [some (.float (z)), some (.ref (0)), some (.ref (28)), some (.ref (42)), some (.int (zI (((4 * t : Nat) : Int)))), some (.int (zI (1))), none] [.int (zI (0))] n h3 _ _
    have fr : ∀ y, (y < 28 ∨ 42 ≤ y) → h3 y = h y := fun y q2 => hf3 y (by omega)
    refine jl_istore (L' := [some (.float (z)), some (.ref (0)), some (.ref (28)), some (.ref (42)), some (.int (zI (((4 * t : Nat) : Int)))), some (.int (zI (1))), some (.int (zI (0)))]) d_Lw_law_712 (by decide) rfl ?_
    refine jl_aload_n d_Lw_law_714 rfl rfl ?_
    refine jl_invV0 (M' := m_Md_thrown) (d' := d - 1) (ck' := 0) (sk' := 0) (na := 0) (as := []) (st := []) (x := 28) d_Lw_law_715 rfl (hM3).1 rfl mw_Lw_93 ww_Md_thrown sw_Md_thrown nw_Md cw_Md_thrown rfl rfl (by decide +kernel) (by omega) (Nat.le_of_ble_eq_true rfl) (Nat.le_of_ble_eq_true rfl) ?_
    refine k_M_thrown hl9 (by omega) hM3 ?_
    show jl_AW _ _ _ _ _ 718 [some (.float (z)), some (.ref (0)), some (.ref (28)), some (.ref (42)), some (.int (zI (((4 * t : Nat) : Int)))), some (.int (zI (1))), some (.int (zI (0)))] [.int (zI (1))] n h3 _ _
    refine jl_iload d_Lw_law_718 rfl ?_
    refine jz_icmp_eq (tgt := 725) d_Lw_law_720 (by decide) ⟨by decide, by decide⟩ ⟨by decide, by decide⟩ (fun _ => ?_) (fun q9 => absurd rfl q9)
    refine jl_iload d_Lw_law_725 rfl ?_
    refine jz_if_ne (tgt := 749) d_Lw_law_727 (by decide) ⟨by decide, by decide⟩ (fun _ => ?_) (fun q9 => absurd q9 (by decide))
    refine jl_goto (tgt := 1405) d_Lw_law_749 (by decide) ?_
    refine jl_less (L' := [some (.float (z)), some (.ref (0)), some (.ref (28)), some (.ref (42)), some (.int (zI (((4 * t : Nat) : Int)))), none, none]) ⟨rfl, rfl, rfl, rfl, rfl, trivial⟩ ?_
    exact hnext n h3 ⟨_, hM3, okM, hrw, (fr 0 (by omega)).trans hX, ⟨f, (fr 42 (by omega)).trans hO⟩, hn, lD_fr (fun y q1 q2 => fr y (by omega)) ⟨rfl, rfl, fun _ _ => rfl, fun _ _ => rfl, fun _ _ => rfl⟩ hlD, lS_fr (fun y hy => fr y (by omega)) (fun _ _ _ => ⟨rfl, rfl, fun _ _ => rfl, fun _ _ => rfl, fun _ _ => rfl⟩) hlS, lJ_fr (fun y q1 q2 => fr y (by omega)) hlJ, lCt_fr (fun y q1 q2 => fr y (by omega)) hlC, lF_fr (fun y q1 q2 => fr y (by omega)) ⟨rfl, rfl, fun _ _ => rfl, fun _ _ => rfl, fun _ _ => rfl⟩ ⟨rfl, rfl, rfl, rfl, rfl, rfl⟩ (by omega) hlF⟩
set_option maxHeartbeats 4000000 in
set_option maxRecDepth 100000 in
theorem lw_load {l : Launch} {G : jl_G} {F : List Frame → Array Value → State → Nat → Nat → (Nat → Nat) → Nat → State → Prop} {d n t ck sk : Nat} {h : Nat → va_E} {z : UInt32} (hl9 : l.stackTraces = false) (hd9 : 20 ≤ d) (hlen : G.2.2.2.2.1 ≤ 2048) (ht : 4 * t + 4 ≤ G.2.2.2.2.1) (hI : LI t n h) (hnext : ∀ n' h', LI (t + 1) n' h' → jl_AW l G F m_Lw_law d 1405 [some (.float (z)), some (.ref (0)), some (.ref (28)), some (.ref (42)), some (.int (zI (((4 * t : Nat) : Int)))), none, none] [] n' h' ck sk) : jl_AW l G F m_Lw_law d 752 [some (.float (z)), some (.ref (0)), some (.ref (28)), some (.ref (42)), some (.int (zI (((4 * t : Nat) : Int)))), none, none] [] n h (ck + 2) (sk + 12) := by
  obtain ⟨M, hQ, okM, hrw, hX, ⟨f, hO⟩, hn, hlD, hlS, hlJ, hlC, hlF⟩ := hI
  have hz1 := scr_z G (4 * t + 1)
  have hz2 := scr_z G (4 * t + 2)
  have hz3 := scr_z G (4 * t + 3)
  obtain ⟨m, p, hs, cs, xs, sc, hD, hK⟩ := id hlD
  obtain ⟨fx, m9, p9, hs9, cs9, xs9, hSH, hsk, hsn⟩ := id hlS
  have hex : ∀ k, ∃ s9 : Nat → Int, ∀ o, fx k = some o → jD h o (m9 k) (p9 k) (hs9 k) (cs9 k) (xs9 k) s9 := by
    intro k
    cases hk : fx k with
    | none => exact ⟨fun _ => 0, fun o q => by cases q⟩
    | some o => obtain ⟨s9, q⟩ := hSH.2.1 k o hk; exact ⟨s9, fun o2 q2 => by cases q2; exact q⟩
  obtain ⟨sc9, hsc9⟩ := Classical.axiomOfChoice hex
  refine jl_aload_n d_Lw_law_752 rfl rfl ?_
  refine jl_sload_n d_Lw_law_753 rfl rfl ?_
  refine jl_iload d_Lw_law_754 rfl ?_
  refine jl_iconst (v := zI (1)) d_Lw_law_756 (by decide) ?_
  refine jz_iadd (v := ((4 * t + 1 : Nat) : Int)) d_Lw_law_757 (by omega) ?_
  refine jz_sld (k9 := 4 * t + 1) d_Lw_law_758 rfl (by omega) hlen ?_
  refine jl_aload_n d_Lw_law_759 rfl rfl ?_
  refine jl_invSH (M' := m_Lw_load) (d' := d - 1) (ck' := 2) (sk' := 12) (ck := ck) (sk := sk) (na := 3) (as := [.ref (0), .int (zI (scr G (4 * t + 1))), .ref (42)]) (st := []) d_Lw_law_760 rfl mw_Lw_132 ww_Lw_load nw_Lw cw_Lw_load rfl rfl (by decide +kernel) (by omega) (Nat.le_of_ble_eq_true rfl) (Nat.le_of_ble_eq_true rfl) ?_
  refine k_Lw_load hl9 (d' := d - 2) (by omega) hX ?_
  refine k_load hl9 (by omega) hX (Or.inl (by decide)) hD hSH.1 (fun k o q => ⟨hsc9 k o q, by have := (hsk k o q).2.1; omega⟩) hz1 (fun hin o ho h1 hD1 hf1 => ⟨p9 (scr G (4 * t + 1)).toNat, f, rfl, by rw [hf1 42 (by omega)]; exact hO, ?_⟩) (fun hno => Or.inl ⟨rfl, ?_⟩) (fun hin hf0 => Or.inr ⟨rfl, ?_⟩)
  · have hok0 := hsk _ o ho
    have e6 : (1 + ((scr G (4 * t + 1)).toNat : Int)) = 1 + scr G (4 * t + 1) := by omega
    rw [e6] at hok0
    have hkk := hok0.2.2.2
    have hp1 : M.pe (1 + scr G (4 * t + 1)).toNat = p9 (scr G (4 * t + 1)).toNat := hkk.2.2.2.2.2.1
    have hp0 : ¬ M.pe (1 + scr G (4 * t + 1)).toNat = 0 := by have := hkk.1.2.1; omega
    obtain ⟨h2, eh2⟩ : ∃ z9, z9 = va_up h1 42 (jJ 1 (vp_updL f (zI 0).toNatClampNeg ((zI (p9 (scr G (4 * t + 1)).toNat)).toInt64))) := ⟨_, rfl⟩
    rw [← eh2]
    have oh2 : h2 42 = jJ 1 (vp_updL f (zI 0).toNatClampNeg ((zI (p9 (scr G (4 * t + 1)).toNat)).toInt64)) := by rw [eh2, va_up_self]
    have gh2 : ∀ y, y ≠ 42 → h2 y = h1 y := fun y hy => by rw [eh2, va_up_ne _ _ hy]
    show jl_AW _ _ _ _ _ 763 [some (.float (z)), some (.ref (0)), some (.ref (28)), some (.ref (42)), some (.int (zI (((4 * t : Nat) : Int)))), none, none] [.int (zI (0))] n h2 _ _
    have hM2 : jM h2 28 M := jM_fr (fun y q1 q2 => by rw [gh2 y (by omega), hf1 y (by omega)]) hQ
    refine jl_istore (L' := [some (.float (z)), some (.ref (0)), some (.ref (28)), some (.ref (42)), some (.int (zI (((4 * t : Nat) : Int)))), some (.int (zI (0))), none]) d_Lw_law_763 (by decide) rfl ?_
    refine jl_aload_n d_Lw_law_765 rfl rfl ?_
    refine jl_sload_n d_Lw_law_766 rfl rfl ?_
    refine jl_iload d_Lw_law_767 rfl ?_
    refine jl_iconst (v := zI (1)) d_Lw_law_769 (by decide) ?_
    refine jz_iadd (v := ((4 * t + 1 : Nat) : Int)) d_Lw_law_770 (by omega) ?_
    refine jz_sld (k9 := 4 * t + 1) d_Lw_law_771 rfl (by omega) hlen ?_
    refine jl_invV0 (M' := m_Md_load) (d' := d - 1) (ck' := 0) (sk' := 0) (na := 1) (as := [.int (zI (scr G (4 * t + 1)))]) (st := []) (x := 28) d_Lw_law_772 rfl (hM2).1 rfl mw_Lw_134 ww_Md_load sw_Md_load nw_Md cw_Md_load rfl rfl (by decide +kernel) (by omega) (Nat.le_of_ble_eq_true rfl) (Nat.le_of_ble_eq_true rfl) ?_
    refine k_M_load hl9 (by omega) hM2 okM hz1 (fun _ _ h3 hM3 hf3 => ?_) (fun _ q => absurd q hp0) (fun q => absurd ⟨hin.1, by omega⟩ q)
    show jl_AW _ _ _ _ _ 775 [some (.float (z)), some (.ref (0)), some (.ref (28)), some (.ref (42)), some (.int (zI (((4 * t : Nat) : Int)))), some (.int (zI (0))), none] [.int (zI ((cpM (M.wT 0) (1 + scr G (4 * t + 1)) 0 16 48).pe (0 : Int).toNat))] n h3 _ _
    have o3 : h3 42 = jJ 1 (vp_updL f (zI 0).toNatClampNeg ((zI (p9 (scr G (4 * t + 1)).toNat)).toInt64)) := by rw [hf3 42 (by omega)]; exact oh2
    have hcb := cpM_b (M := M.wT 0) (a := 1 + scr G (4 * t + 1)) (b := 0) ⟨by omega, by omega⟩ (by decide)
    have epe : (cpM (M.wT 0) (1 + scr G (4 * t + 1)) 0 16 48).pe (0 : Int).toNat = p9 (scr G (4 * t + 1)).toNat := hcb.2.1.trans hp1
    refine jl_istore (L' := [some (.float (z)), some (.ref (0)), some (.ref (28)), some (.ref (42)), some (.int (zI (((4 * t : Nat) : Int)))), some (.int (zI (0))), some (.int (zI ((cpM (M.wT 0) (1 + scr G (4 * t + 1)) 0 16 48).pe (0 : Int).toNat)))]) d_Lw_law_775 (by decide) rfl ?_
    refine jl_aload_n d_Lw_law_777 rfl rfl ?_
    refine jl_invV0 (M' := m_Md_thrown) (d' := d - 1) (ck' := 0) (sk' := 0) (na := 0) (as := []) (st := []) (x := 28) d_Lw_law_778 rfl (hM3).1 rfl mw_Lw_93 ww_Md_thrown sw_Md_thrown nw_Md cw_Md_thrown rfl rfl (by decide +kernel) (by omega) (Nat.le_of_ble_eq_true rfl) (Nat.le_of_ble_eq_true rfl) ?_
    refine k_M_thrown hl9 (by omega) hM3 ?_
    show jl_AW _ _ _ _ _ 781 [some (.float (z)), some (.ref (0)), some (.ref (28)), some (.ref (42)), some (.int (zI (((4 * t : Nat) : Int)))), some (.int (zI (0))), some (.int (zI ((cpM (M.wT 0) (1 + scr G (4 * t + 1)) 0 16 48).pe (0 : Int).toNat)))] [.int (zI (0))] n h3 _ _
    refine jl_iload d_Lw_law_781 rfl ?_
    refine jz_icmp_eq (tgt := 788) d_Lw_law_783 (by decide) ⟨by decide, by decide⟩ ⟨by decide, by decide⟩ (fun _ => ?_) (fun q9 => absurd rfl q9)
    refine jl_iload d_Lw_law_788 rfl ?_
    refine jz_if_ne (tgt := 805) d_Lw_law_790 (by decide) ⟨by decide, by decide⟩ (fun q9 => absurd q9 (by decide)) (fun _ => ?_)
    refine jl_aload_n d_Lw_law_793 rfl rfl ?_
    refine jl_iconst (v := zI (0)) d_Lw_law_794 (by decide) ?_
    refine jl_lald d_Lw_law_795 o3 (zI_in (by decide) (by decide) (by decide)) ?_
    refine jl_iload d_Lw_law_796 rfl ?_
    refine jl_i2l d_Lw_law_798 ?_
    refine jz_lcmp0 d_Lw_law_799 (by unfold vp_updL; rw [if_pos rfl]; rw [epe]) ?_
    refine jz_if_eq (tgt := 805) d_Lw_law_800 (by decide) ⟨by decide, by decide⟩ (fun _ => ?_) (fun q9 => absurd q9 (by decide))
    refine jl_goto (tgt := 1405) d_Lw_law_805 (by decide) ?_
    refine jl_less (L' := [some (.float (z)), some (.ref (0)), some (.ref (28)), some (.ref (42)), some (.int (zI (((4 * t : Nat) : Int)))), none, none]) ⟨rfl, rfl, rfl, rfl, rfl, trivial⟩ ?_
    have fr : ∀ y, (y < 1 ∨ 6 ≤ y) → (y < 28 ∨ 43 ≤ y) → h3 y = h y := fun y q1 q2 => by rw [hf3 y (by omega), gh2 y (by omega), hf1 y q1]
    have hsm : ∀ d9 : Int, 1 ≤ d9 → d9 < 8 → sm5 M (cpM (M.wT 0) (1 + scr G (4 * t + 1)) 0 16 48) d9 := fun d9 q1 q2 => cpM_o (M := M.wT 0) (a := 1 + scr G (4 * t + 1)) (b := 0) (by decide) ⟨by omega, q2⟩ (by omega)
    have hdk : dK (m9 (scr G (4 * t + 1)).toNat) (p9 (scr G (4 * t + 1)).toNat) (hs9 (scr G (4 * t + 1)).toNat) (cs9 (scr G (4 * t + 1)).toNat) (xs9 (scr G (4 * t + 1)).toNat) (cpM (M.wT 0) (1 + scr G (4 * t + 1)) 0 16 48) 0 := dK_cp (M := M.wT 0) hkk ⟨by omega, by omega⟩ (by decide)
    have hz8 := hK.2.2.2.1
    have hz7 := hkk.2.2.2.1
    have hDn := jD_fr (h' := h3) (fun y q1 q2 => by rw [hf3 y (by omega), gh2 y (by omega)]) hD1
    rw [jcpy_z hz7.1 hz8.1, jcpy_z hz7.2.1 hz8.2.1, jcpy_z hz7.2.2 hz8.2.2] at hDn
    exact hnext n h3 ⟨_, hM3, cpM_ok (M := M.wT 0) okM, hrw, (fr 0 (by omega) (by omega)).trans hX, ⟨_, o3⟩, hn, ⟨_, _, _, _, _, _, hDn, hdk⟩, lS_fr (fun y hy => fr y (by omega) (by omega)) (fun d9 q1 q2 => hsm d9 q1 (by omega)) hlS, lJ_fr (fun y q1 q2 => fr y (by omega) (by omega)) hlJ, lCt_fr (fun y q1 q2 => fr y (by omega) (by omega)) hlC, lF_fr (fun y q1 q2 => fr y (by omega) (by omega)) (hsm 7 (by decide) (by decide)) ⟨rfl, rfl, rfl, rfl, rfl, rfl⟩ (by omega) hlF⟩
  · show jl_AW _ _ _ _ _ 763 [some (.float (z)), some (.ref (0)), some (.ref (28)), some (.ref (42)), some (.int (zI (((4 * t : Nat) : Int)))), none, none] [.int (zI (1))] n h _ _
    refine jl_istore (L' := [some (.float (z)), some (.ref (0)), some (.ref (28)), some (.ref (42)), some (.int (zI (((4 * t : Nat) : Int)))), some (.int (zI (1))), none]) d_Lw_law_763 (by decide) rfl ?_
    refine jl_aload_n d_Lw_law_765 rfl rfl ?_
    refine jl_sload_n d_Lw_law_766 rfl rfl ?_
    refine jl_iload d_Lw_law_767 rfl ?_
    refine jl_iconst (v := zI (1)) d_Lw_law_769 (by decide) ?_
    refine jz_iadd (v := ((4 * t + 1 : Nat) : Int)) d_Lw_law_770 (by omega) ?_
    refine jz_sld (k9 := 4 * t + 1) d_Lw_law_771 rfl (by omega) hlen ?_
    refine jl_invV0 (M' := m_Md_load) (d' := d - 1) (ck' := 0) (sk' := 0) (na := 1) (as := [.int (zI (scr G (4 * t + 1)))]) (st := []) (x := 28) d_Lw_law_772 rfl (hQ).1 rfl mw_Lw_134 ww_Md_load sw_Md_load nw_Md cw_Md_load rfl rfl (by decide +kernel) (by omega) (Nat.le_of_ble_eq_true rfl) (Nat.le_of_ble_eq_true rfl) ?_
    refine k_M_load hl9 (by omega) hQ okM hz1 (fun q => absurd ⟨q.1, by omega⟩ hno) (fun q => absurd ⟨q.1, by omega⟩ hno) (fun _ h3 hM3 hf3 => ?_)
    show jl_AW _ _ _ _ _ 775 [some (.float (z)), some (.ref (0)), some (.ref (28)), some (.ref (42)), some (.int (zI (((4 * t : Nat) : Int)))), some (.int (zI (1))), none] [.int (zI (0))] n h3 _ _
    have fr : ∀ y, (y < 28 ∨ 42 ≤ y) → h3 y = h y := fun y q2 => hf3 y (by omega)
    refine jl_istore (L' := [some (.float (z)), some (.ref (0)), some (.ref (28)), some (.ref (42)), some (.int (zI (((4 * t : Nat) : Int)))), some (.int (zI (1))), some (.int (zI (0)))]) d_Lw_law_775 (by decide) rfl ?_
    refine jl_aload_n d_Lw_law_777 rfl rfl ?_
    refine jl_invV0 (M' := m_Md_thrown) (d' := d - 1) (ck' := 0) (sk' := 0) (na := 0) (as := []) (st := []) (x := 28) d_Lw_law_778 rfl (hM3).1 rfl mw_Lw_93 ww_Md_thrown sw_Md_thrown nw_Md cw_Md_thrown rfl rfl (by decide +kernel) (by omega) (Nat.le_of_ble_eq_true rfl) (Nat.le_of_ble_eq_true rfl) ?_
    refine k_M_thrown hl9 (by omega) hM3 ?_
    show jl_AW _ _ _ _ _ 781 [some (.float (z)), some (.ref (0)), some (.ref (28)), some (.ref (42)), some (.int (zI (((4 * t : Nat) : Int)))), some (.int (zI (1))), some (.int (zI (0)))] [.int (zI (1))] n h3 _ _
    refine jl_iload d_Lw_law_781 rfl ?_
    refine jz_icmp_eq (tgt := 788) d_Lw_law_783 (by decide) ⟨by decide, by decide⟩ ⟨by decide, by decide⟩ (fun _ => ?_) (fun q9 => absurd rfl q9)
    refine jl_iload d_Lw_law_788 rfl ?_
    refine jz_if_ne (tgt := 805) d_Lw_law_790 (by decide) ⟨by decide, by decide⟩ (fun _ => ?_) (fun q9 => absurd q9 (by decide))
    refine jl_goto (tgt := 1405) d_Lw_law_805 (by decide) ?_
    refine jl_less (L' := [some (.float (z)), some (.ref (0)), some (.ref (28)), some (.ref (42)), some (.int (zI (((4 * t : Nat) : Int)))), none, none]) ⟨rfl, rfl, rfl, rfl, rfl, trivial⟩ ?_
    exact hnext n h3 ⟨_, hM3, okM, hrw, (fr 0 (by omega)).trans hX, ⟨f, (fr 42 (by omega)).trans hO⟩, hn, lD_fr (fun y q1 q2 => fr y (by omega)) ⟨rfl, rfl, fun _ _ => rfl, fun _ _ => rfl, fun _ _ => rfl⟩ hlD, lS_fr (fun y hy => fr y (by omega)) (fun _ _ _ => ⟨rfl, rfl, fun _ _ => rfl, fun _ _ => rfl, fun _ _ => rfl⟩) hlS, lJ_fr (fun y q1 q2 => fr y (by omega)) hlJ, lCt_fr (fun y q1 q2 => fr y (by omega)) hlC, lF_fr (fun y q1 q2 => fr y (by omega)) ⟨rfl, rfl, fun _ _ => rfl, fun _ _ => rfl, fun _ _ => rfl⟩ ⟨rfl, rfl, rfl, rfl, rfl, rfl⟩ (by omega) hlF⟩
  · show jl_AW _ _ _ _ _ 763 [some (.float (z)), some (.ref (0)), some (.ref (28)), some (.ref (42)), some (.int (zI (((4 * t : Nat) : Int)))), none, none] [.int (zI (2))] n h _ _
    have hp0 : M.pe (1 + scr G (4 * t + 1)).toNat = 0 := by have := hsn (scr G (4 * t + 1)).toNat (by omega) hf0; rwa [show (1 + ((scr G (4 * t + 1)).toNat : Int)) = 1 + scr G (4 * t + 1) by omega] at this
    refine jl_istore (L' := [some (.float (z)), some (.ref (0)), some (.ref (28)), some (.ref (42)), some (.int (zI (((4 * t : Nat) : Int)))), some (.int (zI (2))), none]) d_Lw_law_763 (by decide) rfl ?_
    refine jl_aload_n d_Lw_law_765 rfl rfl ?_
    refine jl_sload_n d_Lw_law_766 rfl rfl ?_
    refine jl_iload d_Lw_law_767 rfl ?_
    refine jl_iconst (v := zI (1)) d_Lw_law_769 (by decide) ?_
    refine jz_iadd (v := ((4 * t + 1 : Nat) : Int)) d_Lw_law_770 (by omega) ?_
    refine jz_sld (k9 := 4 * t + 1) d_Lw_law_771 rfl (by omega) hlen ?_
    refine jl_invV0 (M' := m_Md_load) (d' := d - 1) (ck' := 0) (sk' := 0) (na := 1) (as := [.int (zI (scr G (4 * t + 1)))]) (st := []) (x := 28) d_Lw_law_772 rfl (hQ).1 rfl mw_Lw_134 ww_Md_load sw_Md_load nw_Md cw_Md_load rfl rfl (by decide +kernel) (by omega) (Nat.le_of_ble_eq_true rfl) (Nat.le_of_ble_eq_true rfl) ?_
    refine k_M_load hl9 (by omega) hQ okM hz1 (fun _ q => absurd hp0 q) (fun _ _ h3 hM3 hf3 => ?_) (fun q => absurd ⟨hin.1, by omega⟩ q)
    show jl_AW _ _ _ _ _ 775 [some (.float (z)), some (.ref (0)), some (.ref (28)), some (.ref (42)), some (.int (zI (((4 * t : Nat) : Int)))), some (.int (zI (2))), none] [.int (zI (0))] n h3 _ _
    have fr : ∀ y, (y < 28 ∨ 42 ≤ y) → h3 y = h y := fun y q2 => hf3 y (by omega)
    refine jl_istore (L' := [some (.float (z)), some (.ref (0)), some (.ref (28)), some (.ref (42)), some (.int (zI (((4 * t : Nat) : Int)))), some (.int (zI (2))), some (.int (zI (0)))]) d_Lw_law_775 (by decide) rfl ?_
    refine jl_aload_n d_Lw_law_777 rfl rfl ?_
    refine jl_invV0 (M' := m_Md_thrown) (d' := d - 1) (ck' := 0) (sk' := 0) (na := 0) (as := []) (st := []) (x := 28) d_Lw_law_778 rfl (hM3).1 rfl mw_Lw_93 ww_Md_thrown sw_Md_thrown nw_Md cw_Md_thrown rfl rfl (by decide +kernel) (by omega) (Nat.le_of_ble_eq_true rfl) (Nat.le_of_ble_eq_true rfl) ?_
    refine k_M_thrown hl9 (by omega) hM3 ?_
    show jl_AW _ _ _ _ _ 781 [some (.float (z)), some (.ref (0)), some (.ref (28)), some (.ref (42)), some (.int (zI (((4 * t : Nat) : Int)))), some (.int (zI (2))), some (.int (zI (0)))] [.int (zI (2))] n h3 _ _
    refine jl_iload d_Lw_law_781 rfl ?_
    refine jz_icmp_eq (tgt := 788) d_Lw_law_783 (by decide) ⟨by decide, by decide⟩ ⟨by decide, by decide⟩ (fun _ => ?_) (fun q9 => absurd rfl q9)
    refine jl_iload d_Lw_law_788 rfl ?_
    refine jz_if_ne (tgt := 805) d_Lw_law_790 (by decide) ⟨by decide, by decide⟩ (fun _ => ?_) (fun q9 => absurd q9 (by decide))
    refine jl_goto (tgt := 1405) d_Lw_law_805 (by decide) ?_
    refine jl_less (L' := [some (.float (z)), some (.ref (0)), some (.ref (28)), some (.ref (42)), some (.int (zI (((4 * t : Nat) : Int)))), none, none]) ⟨rfl, rfl, rfl, rfl, rfl, trivial⟩ ?_
    exact hnext n h3 ⟨_, hM3, okM, hrw, (fr 0 (by omega)).trans hX, ⟨f, (fr 42 (by omega)).trans hO⟩, hn, lD_fr (fun y q1 q2 => fr y (by omega)) ⟨rfl, rfl, fun _ _ => rfl, fun _ _ => rfl, fun _ _ => rfl⟩ hlD, lS_fr (fun y hy => fr y (by omega)) (fun _ _ _ => ⟨rfl, rfl, fun _ _ => rfl, fun _ _ => rfl, fun _ _ => rfl⟩) hlS, lJ_fr (fun y q1 q2 => fr y (by omega)) hlJ, lCt_fr (fun y q1 q2 => fr y (by omega)) hlC, lF_fr (fun y q1 q2 => fr y (by omega)) ⟨rfl, rfl, fun _ _ => rfl, fun _ _ => rfl, fun _ _ => rfl⟩ ⟨rfl, rfl, rfl, rfl, rfl, rfl⟩ (by omega) hlF⟩
