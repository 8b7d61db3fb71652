set_option maxHeartbeats 4000000 in
set_option maxRecDepth 100000 in
theorem lw_show {l : Launch} {G : jl_G} {F : List Frame → Array Value → State → Nat → Nat → (Nat → Nat) → Nat → State → Prop} {d n t ck sk : Nat} {h : Nat → va_E} {z : UInt32} (hl9 : l.stackTraces = false) (hd9 : 20 ≤ d) (hlen : G.2.2.2.2.1 ≤ 2048) (ht : 4 * t + 4 ≤ G.2.2.2.2.1) (hI : LI t n h) (hnext : ∀ n' h', LI (t + 1) n' h' → jl_AW l G F m_Lw_law d 1405 [some (.float (z)), some (.ref (0)), some (.ref (28)), some (.ref (42)), some (.int (zI (((4 * t : Nat) : Int)))), none, none] [] n' h' ck sk) : jl_AW l G F m_Lw_law d 1124 [some (.float (z)), some (.ref (0)), some (.ref (28)), some (.ref (42)), some (.int (zI (((4 * t : Nat) : Int)))), none, none] [] n h (ck + 1) (sk + 6) := by
  obtain ⟨M, hQ, okM, hrw, hX, ⟨f, hO⟩, hn, hlD, hlS, hlJ, hlC, hlF⟩ := hI
  have hz1 := scr_z G (4 * t + 1)
  have hz2 := scr_z G (4 * t + 2)
  have hz3 := scr_z G (4 * t + 3)
  obtain ⟨m, p, hs, cs, xs, sc, hD, hK⟩ := id hlD
  obtain ⟨op, nw, B9, MD, m2, p2, hs2, cs2, xs2, sc2, hF, hG, hGk, hGz, hnw, hfl⟩ := id hlF
  have hr := dK_r hK
  have hz8 := hK.2.2.2.1
  have e1 : jcpy 48 hs hs2 = hs := jcpy_z hz8.1 hGz.1
  have e2 : jcpy 16 cs cs2 = cs := jcpy_z hz8.2.1 hGz.2.1
  have e3 : jcpy 16 xs xs2 = xs := jcpy_z hz8.2.2 hGz.2.2
  have hEV : sp_ev (M.mo (0 : Int).toNat) (M.pe (0 : Int).toNat) (hM M 0) (cM M 0) (xM M 0) ↔ sp_val m p hs cs xs := (sp_ev_cg hK.2.2.2.2).trans (sp_val_ev hK.1 hK.2.1).symm
  have hnb := nba_it hK.1 hK.2.1
  have hmo := moA_it (m := m) (p := p) (cs := cs) (xs := xs) hK.1.2.2.1 9 (Nat.le_refl 9)
  refine jl_aload_n d_Lw_law_1124 rfl rfl ?_
  refine jl_aload_n d_Lw_law_1125 rfl rfl ?_
  refine jl_invSH (M' := m_Lw_show) (d' := d - 1) (ck' := 1) (sk' := 6) (ck := ck) (sk := sk) (na := 2) (as := [.ref (0), .ref (42)]) (st := []) d_Lw_law_1126 rfl mw_Lw_150 ww_Lw_show nw_Lw cw_Lw_show rfl rfl (by decide +kernel) (by omega) (Nat.le_of_ble_eq_true rfl) (Nat.le_of_ble_eq_true rfl) ?_
  refine k_Lw_show hl9 (d' := d - 2) (by omega) hX ?_
  refine k_show hl9 (by omega) hX (Or.inl (by decide)) (Or.inl (by decide)) (Or.inl (by decide)) hD hK.1 hF hG (by rw [e1, e2, e3]; exact hK.1) (fun hv h1 g2 hF1 hG1 hD1 hf1 => ⟨((nba m p (jcpy 48 hs hs2) (jcpy 16 cs cs2) (jcpy 16 xs xs2) 9).length : Int), f, rfl, by rw [hf1 42 (by omega) (by omega)]; exact hO, ?_⟩) (fun g2 hv h1 eh1 => ⟨rfl, ?_⟩)
  · obtain ⟨h2, eh2⟩ : ∃ z9, z9 = va_up h1 42 (jJ 1 (vp_updL f (zI 0).toNatClampNeg ((zI (((nba m p (jcpy 48 hs hs2) (jcpy 16 cs cs2) (jcpy 16 xs xs2) 9).length : Int))).toInt64))) := ⟨_, rfl⟩
    rw [← eh2]
    have oh2 : h2 42 = jJ 1 (vp_updL f (zI 0).toNatClampNeg ((zI (((nba m p (jcpy 48 hs hs2) (jcpy 16 cs cs2) (jcpy 16 xs xs2) 9).length : Int))).toInt64)) := by rw [eh2, va_up_self]
    have gh2 : ∀ y, y ≠ 42 → h2 y = h1 y := fun y hy => by rw [eh2, va_up_ne _ _ hy]
    show jl_AW _ _ _ _ _ 1129 [some (.float (z)), some (.ref (0)), some (.ref (28)), some (.ref (42)), some (.int (zI (((4 * t : Nat) : Int)))), none, none] [.int (zI (0))] n h2 _ _
    rw [e1, e2, e3, hnb] at hF1
    rw [e1, e2, e3] at hG1
    have hM2 : jM h2 28 M := jM_fr (fun y q1 q2 => by rw [gh2 y (by omega), hf1 y (by omega) (by omega)]) hQ
    refine jl_istore (L' := [some (.float (z)), some (.ref (0)), some (.ref (28)), some (.ref (42)), some (.int (zI (((4 * t : Nat) : Int)))), some (.int (zI (0))), none]) d_Lw_law_1129 (by decide) rfl ?_
    refine jl_aload_n d_Lw_law_1131 rfl rfl ?_
    refine jl_invV0 (M' := m_Md_show) (d' := d - 1) (ck' := 0) (sk' := 0) (na := 0) (as := []) (st := []) (x := 28) d_Lw_law_1132 rfl (hM2).1 rfl mw_Lw_152 ww_Md_show sw_Md_show nw_Md cw_Md_show rfl rfl (by decide +kernel) (by omega) (Nat.le_of_ble_eq_true rfl) (Nat.le_of_ble_eq_true rfl) ?_
    refine k_M_show hl9 (by omega) hM2 okM hK.2.2.2.2 hK.1 hK.2.1 (fun _ la ha h3 hB3 hM3 hf3 => ?_) (fun q => absurd (hEV.mpr hv) q)
    show jl_AW _ _ _ _ _ 1135 [some (.float (z)), some (.ref (0)), some (.ref (28)), some (.ref (42)), some (.int (zI (((4 * t : Nat) : Int)))), some (.int (zI (0))), none] [.int (zI (((moA m p hs cs xs 9).length : Int)))] n h3 _ _
    have o3 : h3 42 = jJ 1 (vp_updL f (zI 0).toNatClampNeg ((zI (((nba m p (jcpy 48 hs hs2) (jcpy 16 cs cs2) (jcpy 16 xs xs2) 9).length : Int))).toInt64)) := by rw [hf3 42 (by omega)]; exact oh2
    refine jl_istore (L' := [some (.float (z)), some (.ref (0)), some (.ref (28)), some (.ref (42)), some (.int (zI (((4 * t : Nat) : Int)))), some (.int (zI (0))), some (.int (zI (((moA m p hs cs xs 9).length : Int))))]) d_Lw_law_1135 (by decide) rfl ?_
    refine jl_aload_n d_Lw_law_1137 rfl rfl ?_
    refine jl_invV0 (M' := m_Md_thrown) (d' := d - 1) (ck' := 0) (sk' := 0) (na := 0) (as := []) (st := []) (x := 28) d_Lw_law_1138 rfl (hM3).1 rfl mw_Lw_93 ww_Md_thrown sw_Md_thrown nw_Md cw_Md_thrown rfl rfl (by decide +kernel) (by omega) (Nat.le_of_ble_eq_true rfl) (Nat.le_of_ble_eq_true rfl) ?_
    refine k_M_thrown hl9 (by omega) hM3 ?_
    show jl_AW _ _ _ _ _ 1141 [some (.float (z)), some (.ref (0)), some (.ref (28)), some (.ref (42)), some (.int (zI (((4 * t : Nat) : Int)))), some (.int (zI (0))), some (.int (zI (((moA m p hs cs xs 9).length : Int))))] [.int (zI (0))] n h3 _ _
    refine jl_iload d_Lw_law_1141 rfl ?_
    refine jz_icmp_eq (tgt := 1148) d_Lw_law_1143 (by decide) ⟨by decide, by decide⟩ ⟨by decide, by decide⟩ (fun _ => ?_) (fun q9 => absurd rfl q9)
    refine jl_iload d_Lw_law_1148 rfl ?_
    refine jz_if_ne (tgt := 1165) d_Lw_law_1150 (by decide) ⟨by decide, by decide⟩ (fun q9 => absurd q9 (by decide)) (fun _ => ?_)
    refine jl_aload_n d_Lw_law_1153 rfl rfl ?_
    refine jl_iconst (v := zI (0)) d_Lw_law_1154 (by decide) ?_
    refine jl_lald d_Lw_law_1155 o3 (zI_in (by decide) (by decide) (by decide)) ?_
    refine jl_iload d_Lw_law_1156 rfl ?_
    refine jl_i2l d_Lw_law_1158 ?_
    refine jz_lcmp0 d_Lw_law_1159 (by unfold vp_updL; rw [if_pos rfl]; rw [e1, e2, e3, hnb, hmo]) ?_
    refine jz_if_eq (tgt := 1165) d_Lw_law_1160 (by decide) ⟨by decide, by decide⟩ (fun _ => ?_) (fun q9 => absurd q9 (by decide))
    refine jl_goto (tgt := 1405) d_Lw_law_1165 (by decide) ?_
    refine jl_less (L' := [some (.float (z)), some (.ref (0)), some (.ref (28)), some (.ref (42)), some (.int (zI (((4 * t : Nat) : Int)))), none, none]) ⟨rfl, rfl, rfl, rfl, rfl, trivial⟩ ?_
    rw [hmo] at hB3 hM3
    have fr : ∀ y, (y < 1 ∨ 6 ≤ y) → (y < 19 ∨ 28 ≤ y) → (y < 28 ∨ 43 ≤ y) → h3 y = h y := fun y q1 q2 q3 => by rw [hf3 y (by omega), gh2 y (by omega), hf1 y q1 q2]
    have fr1 : ∀ y, y < 28 → h3 y = h1 y := fun y q1 => by rw [hf3 y (by omega), gh2 y (by omega)]
    have hsm : ∀ d9 : Int, 0 ≤ d9 → d9 < 7 → sm5 M (cpM (M.wT 0) 0 7 16 48) d9 := fun d9 q1 q2 => cpM_o (M := M.wT 0) (a := 0) (b := 7) (by decide) ⟨q1, by omega⟩ (by omega)
    have hdk := dK_cp (M := M.wT 0) (b := 7) hK (by decide) (by decide)
    have okc := cpM_ok (M := M.wT 0) (a := 0) (b := 7) (s := 16) (t := 48) okM
    have hF3 : jFl h3 19 1 0 (itA m p hs cs xs 9) (va_up (va_up MD (0 : Int).toNat 0) (1 : Int).toNat 0) := jFl_fr (fun y hy => fr1 y (by omega)) hF1
    exact hnext n h3 ⟨_, hM3, ⟨okc.1, okc.2.1, okc.2.2.1, okc.2.2.2.1, okc.2.2.2.2⟩, hrw, (fr 0 (by omega) (by omega) (by omega)).trans hX, ⟨_, o3⟩, hn, ⟨m, p, hs, cs, xs, g2, jD_fr (fun y q1 q2 => fr1 y (by omega)) hD1, dK_5 hK ⟨(hsm 0 (by decide) (by decide)).1, (hsm 0 (by decide) (by decide)).2.1, (hsm 0 (by decide) (by decide)).2.2.1, (hsm 0 (by decide) (by decide)).2.2.2.1, (hsm 0 (by decide) (by decide)).2.2.2.2⟩⟩, lS_fr (fun y hy => fr y (by omega) (by omega) (by omega)) (fun d9 q1 q2 => ⟨(hsm d9 (by omega) (by omega)).1, (hsm d9 (by omega) (by omega)).2.1, (hsm d9 (by omega) (by omega)).2.2.1, (hsm d9 (by omega) (by omega)).2.2.2.1, (hsm d9 (by omega) (by omega)).2.2.2.2⟩) hlS, lJ_fr (fun y q1 q2 => fr y (by omega) (by omega) (by omega)) hlJ, lCt_fr (fun y q1 q2 => fr y (by omega) (by omega) (by omega)) hlC, ⟨1, 0, _, _, m, p, hs, cs, xs, sc2, hF3, jD_fr (fun y q1 q2 => fr1 y (by omega)) hG1, hK.1, hz8, ⟨by decide, by omega⟩, Or.inr ⟨rfl, dK_5 hdk ⟨rfl, rfl, fun _ _ => rfl, fun _ _ => rfl, fun _ _ => rfl⟩, (sp_val_ev hK.1 hK.2.1).mp hv, itA_bI hK.1 hK.2.1, hB3, rfl, rfl, rfl⟩⟩⟩
  · have hlD1 : lD h1 M := by rw [eh1]; exact lD_sc hlD
    have hs1 : ∀ y, y ≠ 5 → h1 y = h y := fun y hy => by rw [eh1]; exact va_up_ne _ _ hy
    show jl_AW _ _ _ _ _ 1129 [some (.float (z)), some (.ref (0)), some (.ref (28)), some (.ref (42)), some (.int (zI (((4 * t : Nat) : Int)))), none, none] [.int (zI (1))] n h1 _ _
    have hM2 : jM h1 28 M := jM_fr (fun y q1 q2 => hs1 y (by omega)) hQ
    refine jl_istore (L' := [some (.float (z)), some (.ref (0)), some (.ref (28)), some (.ref (42)), some (.int (zI (((4 * t : Nat) : Int)))), some (.int (zI (1))), none]) d_Lw_law_1129 (by decide) rfl ?_
    refine jl_aload_n d_Lw_law_1131 rfl rfl ?_
    refine jl_invV0 (M' := m_Md_show) (d' := d - 1) (ck' := 0) (sk' := 0) (na := 0) (as := []) (st := []) (x := 28) d_Lw_law_1132 rfl (hM2).1 rfl mw_Lw_152 ww_Md_show sw_Md_show nw_Md cw_Md_show rfl rfl (by decide +kernel) (by omega) (Nat.le_of_ble_eq_true rfl) (Nat.le_of_ble_eq_true rfl) ?_
    refine k_M_show hl9 (by omega) hM2 okM hK.2.2.2.2 hK.1 hK.2.1 (fun q => absurd (hEV.mp q) hv) (fun _ h3 hM3 hf3 => ?_)
    show jl_AW _ _ _ _ _ 1135 [some (.float (z)), some (.ref (0)), some (.ref (28)), some (.ref (42)), some (.int (zI (((4 * t : Nat) : Int)))), some (.int (zI (1))), none] [.int (zI (0))] n h3 _ _
    have fr9 : ∀ y, (y < 1 ∨ 6 ≤ y) → (y < 28 ∨ 42 ≤ y) → h3 y = h y := fun y q1 q2 => by rw [hf3 y (by omega), hs1 y (by omega)]
    refine jl_istore (L' := [some (.float (z)), some (.ref (0)), some (.ref (28)), some (.ref (42)), some (.int (zI (((4 * t : Nat) : Int)))), some (.int (zI (1))), some (.int (zI (0)))]) d_Lw_law_1135 (by decide) rfl ?_
    refine jl_aload_n d_Lw_law_1137 rfl rfl ?_
    refine jl_invV0 (M' := m_Md_thrown) (d' := d - 1) (ck' := 0) (sk' := 0) (na := 0) (as := []) (st := []) (x := 28) d_Lw_law_1138 rfl (hM3).1 rfl mw_Lw_93 ww_Md_thrown sw_Md_thrown nw_Md cw_Md_thrown rfl rfl (by decide +kernel) (by omega) (Nat.le_of_ble_eq_true rfl) (Nat.le_of_ble_eq_true rfl) ?_
    refine k_M_thrown hl9 (by omega) hM3 ?_
    show jl_AW _ _ _ _ _ 1141 [some (.float (z)), some (.ref (0)), some (.ref (28)), some (.ref (42)), some (.int (zI (((4 * t : Nat) : Int)))), some (.int (zI (1))), some (.int (zI (0)))] [.int (zI (1))] n h3 _ _
    refine jl_iload d_Lw_law_1141 rfl ?_
    refine jz_icmp_eq (tgt := 1148) d_Lw_law_1143 (by decide) ⟨by decide, by decide⟩ ⟨by decide, by decide⟩ (fun _ => ?_) (fun q9 => absurd rfl q9)
    refine jl_iload d_Lw_law_1148 rfl ?_
    refine jz_if_ne (tgt := 1165) d_Lw_law_1150 (by decide) ⟨by decide, by decide⟩ (fun _ => ?_) (fun q9 => absurd q9 (by decide))
    refine jl_goto (tgt := 1405) d_Lw_law_1165 (by decide) ?_
    refine jl_less (L' := [some (.float (z)), some (.ref (0)), some (.ref (28)), some (.ref (42)), some (.int (zI (((4 * t : Nat) : Int)))), none, none]) ⟨rfl, rfl, rfl, rfl, rfl, trivial⟩ ?_
    exact hnext n h3 ⟨_, hM3, okM, hrw, (fr9 0 (by omega) (by omega)).trans hX, ⟨f, (fr9 42 (by omega) (by omega)).trans hO⟩, hn, lD_fr (fun y q1 q2 => hf3 y (by omega)) ⟨rfl, rfl, fun _ _ => rfl, fun _ _ => rfl, fun _ _ => rfl⟩ hlD1, lS_fr (fun y hy => fr9 y (by omega) (by omega)) (fun d9 q1 q2 => ⟨rfl, rfl, fun _ _ => rfl, fun _ _ => rfl, fun _ _ => rfl⟩) hlS, lJ_fr (fun y q1 q2 => fr9 y (by omega) (by omega)) hlJ, lCt_fr (fun y q1 q2 => fr9 y (by omega) (by omega)) hlC, lF_fr (fun y q1 q2 => fr9 y (by omega) (by omega)) (⟨rfl, rfl, fun _ _ => rfl, fun _ _ => rfl, fun _ _ => rfl⟩) ⟨rfl, rfl, rfl, rfl, rfl, rfl⟩ (by omega) hlF⟩
set_option maxHeartbeats 4000000 in
set_option maxRecDepth 100000 in
theorem lw_run {l : Launch} {G : jl_G} {F : List Frame → Array Value → State → Nat → Nat → (Nat → Nat) → Nat → State → Prop} {d n t ck sk : Nat} {h : Nat → va_E} {z : UInt32} (hl9 : l.stackTraces = false) (hd9 : 20 ≤ d) (hlen : G.2.2.2.2.1 ≤ 2048) (ht : 4 * t + 4 ≤ G.2.2.2.2.1) (hI : LI t n h) (hnext : ∀ n' h', LI (t + 1) n' h' → jl_AW l G F m_Lw_law d 1405 [some (.float (z)), some (.ref (0)), some (.ref (28)), some (.ref (42)), some (.int (zI (((4 * t : Nat) : Int)))), none, none] [] n' h' ck sk) : jl_AW l G F m_Lw_law d 1168 [some (.float (z)), some (.ref (0)), some (.ref (28)), some (.ref (42)), some (.int (zI (((4 * t : Nat) : Int)))), none, none] [] n h (ck + 2) (sk + 12) := by
  obtain ⟨M, hQ, okM, hrw, hX, ⟨f, hO⟩, hn, hlD, hlS, hlJ, hlC, hlF⟩ := hI
  have hz1 := scr_z G (4 * t + 1)
  have hz2 := scr_z G (4 * t + 2)
  have hz3 := scr_z G (4 * t + 3)
  obtain ⟨op, nw, B9, MD, m2, p2, hs2, cs2, xs2, sc2, hF, hG, hGk, hGz, hnw, hfl⟩ := id hlF
  have hop : zR op ∧ (op = 0 ↔ M.pe (7 : Int).toNat = 0) := by
    rcases hfl with ⟨q1, q2, q3, q4⟩ | ⟨q1, q2, -⟩
    · exact ⟨⟨by omega, by omega⟩, by omega⟩
    · have h8 := q2.2.2.2.2.2.1; have h9 := q2.1.2.1; exact ⟨⟨by omega, by omega⟩, by omega⟩
  have hBz : ∀ j, j < B9.length → zR (B9.getD j (0, 0)).1 ∧ zR (B9.getD j (0, 0)).2 := by
    rcases hfl with ⟨q1, q2, q3, q4⟩ | ⟨q1, q2, q3, q4, -⟩
    · subst q3; exact fun j hj => absurd hj (Nat.not_lt_zero j)
    · exact fun j hj => by have := q4.2 _ (mem_getD hj); exact ⟨⟨by have := this.1; omega, by have := this.2.1; omega⟩, ⟨by have := this.2.2.1; omega, by have := this.2.2.1; omega⟩⟩
  have hfl9 : ¬ M.pe (7 : Int).toNat = 0 → dRl m2 p2 hs2 cs2 xs2 (M.mo (7 : Int).toNat) (M.pe (7 : Int).toNat) (hM M 7) (cM M 7) (xM M 7) ∧ jOk m2 p2 hs2 cs2 xs2 ∧ dIn m2 p2 cs2 ∧ sp_ev m2 p2 hs2 cs2 xs2 ∧ bI m2 p2 hs2 cs2 xs2 M.nw B9 ∧ mBl M B9 ∧ MD 0 = M.lt ∧ MD 1 = M.rt := by
    intro q0
    rcases hfl with ⟨q1, q2, q3, q4⟩ | ⟨q1, q2, q3, q4, q5, q6, q7, q8⟩
    · exact absurd q2 q0
    · rw [q6] at q4; exact ⟨q2.2.2.2.2, q2.1, q2.2.1, q3, q4, q5, q7, q8⟩
  have hnwM : M.pe (7 : Int).toNat = 0 ∨ nw = M.nw := by
    rcases hfl with ⟨q1, q2, -⟩ | ⟨q1, q2, q3, q4, q5, q6, -⟩
    · exact Or.inl q2
    · exact Or.inr q6
  refine jl_aload_n d_Lw_law_1168 rfl rfl ?_
  refine jl_sload_n d_Lw_law_1169 rfl rfl ?_
  refine jl_iload d_Lw_law_1170 rfl ?_
  refine jl_iconst (v := zI (1)) d_Lw_law_1172 (by decide) ?_
  refine jz_iadd (v := ((4 * t + 1 : Nat) : Int)) d_Lw_law_1173 (by omega) ?_
  refine jz_sld (k9 := 4 * t + 1) d_Lw_law_1174 rfl (by omega) hlen ?_
  refine jl_aload_n d_Lw_law_1175 rfl rfl ?_
  refine jl_invSH (M' := m_Lw_run) (d' := d - 1) (ck' := 2) (sk' := 12) (ck := ck) (sk := sk) (na := 3) (as := [.ref (0), .int (zI (scr G (4 * t + 1))), .ref (42)]) (st := []) d_Lw_law_1176 rfl mw_Lw_153 ww_Lw_run nw_Lw cw_Lw_run rfl rfl (by decide +kernel) (by omega) (Nat.le_of_ble_eq_true rfl) (Nat.le_of_ble_eq_true rfl) ?_
  refine k_Lw_run hl9 (d' := d - 2) (by omega) hX ?_
  refine k_run hl9 (by omega) hX hF hG hGk hop.1 ⟨hnw.1, by omega⟩ hz1 hBz (fun hq hin h1 hF1 hf1 => ⟨(gos m2 p2 hs2 cs2 xs2 nw (B9, MD, 0) (scr G (4 * t + 1)).toNat).2.2, f, rfl, by rw [hf1 42 (by decide) (by decide) (by decide) (by decide)]; exact hO, ?_⟩) (fun hno => Or.inl ⟨rfl, ?_⟩) (fun hin hq => Or.inr ⟨rfl, ?_⟩)
  · have hp7 : ¬ M.pe (7 : Int).toNat = 0 := fun q => hq (hop.2.mpr q)
    have enw : nw = M.nw := by rcases hnwM with q | q; exact absurd q hp7; exact q
    obtain ⟨h2, eh2⟩ : ∃ z9, z9 = va_up h1 42 (jJ 1 (vp_updL f (zI 0).toNatClampNeg ((zI ((gos m2 p2 hs2 cs2 xs2 nw (B9, MD, 0) (scr G (4 * t + 1)).toNat).2.2)).toInt64))) := ⟨_, rfl⟩
    rw [← eh2]
    have oh2 : h2 42 = jJ 1 (vp_updL f (zI 0).toNatClampNeg ((zI ((gos m2 p2 hs2 cs2 xs2 nw (B9, MD, 0) (scr G (4 * t + 1)).toNat).2.2)).toInt64)) := by rw [eh2, va_up_self]
    have gh2 : ∀ y, y ≠ 42 → h2 y = h1 y := fun y hy => by rw [eh2, va_up_ne _ _ hy]
    show jl_AW _ _ _ _ _ 1179 [some (.float (z)), some (.ref (0)), some (.ref (28)), some (.ref (42)), some (.int (zI (((4 * t : Nat) : Int)))), none, none] [.int (zI (0))] n h2 _ _
    have hM2 : jM h2 28 M := jM_fr (fun y q1 q2 => by rw [gh2 y (by omega), hf1 y (by omega) (by omega) (by omega) (by omega)]) hQ
    refine jl_istore (L' := [some (.float (z)), some (.ref (0)), some (.ref (28)), some (.ref (42)), some (.int (zI (((4 * t : Nat) : Int)))), some (.int (zI (0))), none]) d_Lw_law_1179 (by decide) rfl ?_
    refine jl_aload_n d_Lw_law_1181 rfl rfl ?_
    refine jl_sload_n d_Lw_law_1182 rfl rfl ?_
    refine jl_iload d_Lw_law_1183 rfl ?_
    refine jl_iconst (v := zI (1)) d_Lw_law_1185 (by decide) ?_
    refine jz_iadd (v := ((4 * t + 1 : Nat) : Int)) d_Lw_law_1186 (by omega) ?_
    refine jz_sld (k9 := 4 * t + 1) d_Lw_law_1187 rfl (by omega) hlen ?_
    refine jl_invV0 (M' := m_Md_run) (d' := d - 1) (ck' := 0) (sk' := 0) (na := 1) (as := [.int (zI (scr G (4 * t + 1)))]) (st := []) (x := 28) d_Lw_law_1188 rfl (hM2).1 rfl mw_Lw_155 ww_Md_run sw_Md_run nw_Md cw_Md_run rfl rfl (by decide +kernel) (by omega) (Nat.le_of_ble_eq_true rfl) (Nat.le_of_ble_eq_true rfl) ?_
    refine k_M_run hl9 (by omega) hM2 okM hfl9 hz1 (fun _ => ⟨by omega, by omega⟩) (fun _ _ lt rt la ha h3 elt ert hlen9 hA3 hM3 hf3 => ?_) (fun _ q => absurd q hp7) (fun q => absurd hin q)
    show jl_AW _ _ _ _ _ 1191 [some (.float (z)), some (.ref (0)), some (.ref (28)), some (.ref (42)), some (.int (zI (((4 * t : Nat) : Int)))), some (.int (zI (0))), none] [.int (zI ((gos m2 p2 hs2 cs2 xs2 M.nw (B9, MD, 0) (scr G (4 * t + 1)).toNat).2.2))] n h3 _ _
    have o3 : h3 42 = jJ 1 (vp_updL f (zI 0).toNatClampNeg ((zI ((gos m2 p2 hs2 cs2 xs2 nw (B9, MD, 0) (scr G (4 * t + 1)).toNat).2.2)).toInt64)) := by rw [hf3 42 (by omega)]; exact oh2
    refine jl_istore (L' := [some (.float (z)), some (.ref (0)), some (.ref (28)), some (.ref (42)), some (.int (zI (((4 * t : Nat) : Int)))), some (.int (zI (0))), some (.int (zI ((gos m2 p2 hs2 cs2 xs2 M.nw (B9, MD, 0) (scr G (4 * t + 1)).toNat).2.2)))]) d_Lw_law_1191 (by decide) rfl ?_
    refine jl_aload_n d_Lw_law_1193 rfl rfl ?_
    refine jl_invV0 (M' := m_Md_thrown) (d' := d - 1) (ck' := 0) (sk' := 0) (na := 0) (as := []) (st := []) (x := 28) d_Lw_law_1194 rfl (hM3).1 rfl mw_Lw_93 ww_Md_thrown sw_Md_thrown nw_Md cw_Md_thrown rfl rfl (by decide +kernel) (by omega) (Nat.le_of_ble_eq_true rfl) (Nat.le_of_ble_eq_true rfl) ?_
    refine k_M_thrown hl9 (by omega) hM3 ?_
    show jl_AW _ _ _ _ _ 1197 [some (.float (z)), some (.ref (0)), some (.ref (28)), some (.ref (42)), some (.int (zI (((4 * t : Nat) : Int)))), some (.int (zI (0))), some (.int (zI ((gos m2 p2 hs2 cs2 xs2 M.nw (B9, MD, 0) (scr G (4 * t + 1)).toNat).2.2)))] [.int (zI (0))] n h3 _ _
    refine jl_iload d_Lw_law_1197 rfl ?_
    refine jz_icmp_eq (tgt := 1204) d_Lw_law_1199 (by decide) ⟨by decide, by decide⟩ ⟨by decide, by decide⟩ (fun _ => ?_) (fun q9 => absurd rfl q9)
    refine jl_iload d_Lw_law_1204 rfl ?_
    refine jz_if_ne (tgt := 1221) d_Lw_law_1206 (by decide) ⟨by decide, by decide⟩ (fun q9 => absurd q9 (by decide)) (fun _ => ?_)
    refine jl_aload_n d_Lw_law_1209 rfl rfl ?_
    refine jl_iconst (v := zI (0)) d_Lw_law_1210 (by decide) ?_
    refine jl_lald d_Lw_law_1211 o3 (zI_in (by decide) (by decide) (by decide)) ?_
    refine jl_iload d_Lw_law_1212 rfl ?_
    refine jl_i2l d_Lw_law_1214 ?_
    refine jz_lcmp0 d_Lw_law_1215 (by unfold vp_updL; rw [if_pos rfl]; rw [enw]) ?_
    refine jz_if_eq (tgt := 1221) d_Lw_law_1216 (by decide) ⟨by decide, by decide⟩ (fun _ => ?_) (fun q9 => absurd q9 (by decide))
    refine jl_goto (tgt := 1405) d_Lw_law_1221 (by decide) ?_
    refine jl_less (L' := [some (.float (z)), some (.ref (0)), some (.ref (28)), some (.ref (42)), some (.int (zI (((4 * t : Nat) : Int)))), none, none]) ⟨rfl, rfl, rfl, rfl, rfl, trivial⟩ ?_
    rw [enw] at hF1
    obtain ⟨z1, z2, z3, z4, z5, z6, z7, z8⟩ := hfl9 hp7
    have hbI := gos_bI (MD := MD) z2 z3 z4 z5 (scr G (4 * t + 1)).toNat
    rw [show (((scr G (4 * t + 1)).toNat : Nat) : Int) = scr G (4 * t + 1) by omega] at hbI
    have fr : ∀ y, (y < 19 ∨ 28 ≤ y) → (y < 28 ∨ 43 ≤ y) → h3 y = h y := fun y q1 q2 => by rw [hf3 y (by omega), gh2 y (by omega), hf1 y (by omega) (by omega) (by omega) (by omega)]
    have fr1 : ∀ y, y < 28 → h3 y = h1 y := fun y q1 => by rw [hf3 y (by omega), gh2 y (by omega)]
    have hop1 : op = 1 := by rcases hfl with ⟨q1, -⟩ | ⟨q1, -⟩; exact absurd q1 hq; exact q1
    have hdk : dK m2 p2 hs2 cs2 xs2 M 7 := by rcases hfl with ⟨q1, -⟩ | ⟨q1, q2, -⟩; exact absurd q1 hq; exact q2
    have hG3 : jD h3 20 m2 p2 hs2 cs2 xs2 sc2 := jD_fr (fun y q1 q2 => by rw [fr1 y (by omega)]; exact hf1 y (by omega) (by omega) (by omega) (by omega)) hG
    have hmb : (gos m2 p2 hs2 cs2 xs2 M.nw (B9, MD, 0) (scr G (4 * t + 1)).toNat).1.length ≤ 27 := by rw [hlen9]; exact z6.2.1
    exact hnext n h3 ⟨_, hM3, ⟨okM.1, okM.2.1, okM.2.2.1, okM.2.2.2.1, okM.2.2.2.2⟩, hrw, (fr 0 (by omega) (by omega)).trans hX, ⟨_, o3⟩, hn, lD_fr (fun y q1 q2 => fr y (by omega) (by omega)) ⟨rfl, rfl, fun _ _ => rfl, fun _ _ => rfl, fun _ _ => rfl⟩ hlD, lS_fr (fun y hy => fr y (by omega) (by omega)) (fun _ _ _ => ⟨rfl, rfl, fun _ _ => rfl, fun _ _ => rfl, fun _ _ => rfl⟩) hlS, lJ_fr (fun y q1 q2 => fr y (by omega) (by omega)) hlJ, lCt_fr (fun y q1 q2 => fr y (by omega) (by omega)) hlC, ⟨op, M.nw + scr G (4 * t + 1), _, _, m2, p2, hs2, cs2, xs2, sc2, jFl_fr (fun y hy => fr1 y (by omega)) hF1, hG3, hGk, hGz, ⟨by omega, by omega⟩, Or.inr ⟨hop1, dK_5 hdk ⟨rfl, rfl, fun _ _ => rfl, fun _ _ => rfl, fun _ _ => rfl⟩, z4, hbI, ⟨by rw [hlen9]; exact z6.1, hmb, fun j hj => hA3 j (by omega)⟩, rfl, elt.symm, ert.symm⟩⟩⟩
  · show jl_AW _ _ _ _ _ 1179 [some (.float (z)), some (.ref (0)), some (.ref (28)), some (.ref (42)), some (.int (zI (((4 * t : Nat) : Int)))), none, none] [.int (zI (1))] n h _ _
    refine jl_istore (L' := [some (.float (z)), some (.ref (0)), some (.ref (28)), some (.ref (42)), some (.int (zI (((4 * t : Nat) : Int)))), some (.int (zI (1))), none]) d_Lw_law_1179 (by decide) rfl ?_
    refine jl_aload_n d_Lw_law_1181 rfl rfl ?_
    refine jl_sload_n d_Lw_law_1182 rfl rfl ?_
    refine jl_iload d_Lw_law_1183 rfl ?_
    refine jl_iconst (v := zI (1)) d_Lw_law_1185 (by decide) ?_
    refine jz_iadd (v := ((4 * t + 1 : Nat) : Int)) d_Lw_law_1186 (by omega) ?_
    refine jz_sld (k9 := 4 * t + 1) d_Lw_law_1187 rfl (by omega) hlen ?_
    refine jl_invV0 (M' := m_Md_run) (d' := d - 1) (ck' := 0) (sk' := 0) (na := 1) (as := [.int (zI (scr G (4 * t + 1)))]) (st := []) (x := 28) d_Lw_law_1188 rfl (hQ).1 rfl mw_Lw_155 ww_Md_run sw_Md_run nw_Md cw_Md_run rfl rfl (by decide +kernel) (by omega) (Nat.le_of_ble_eq_true rfl) (Nat.le_of_ble_eq_true rfl) ?_
    refine k_M_run hl9 (by omega) hQ okM hfl9 hz1 (fun q => by rcases hnwM with q9 | q9; exact absurd q9 q; omega) (fun q => absurd q hno) (fun q => absurd q hno) (fun _ h3 hM3 hf3 => ?_)
    show jl_AW _ _ _ _ _ 1191 [some (.float (z)), some (.ref (0)), some (.ref (28)), some (.ref (42)), some (.int (zI (((4 * t : Nat) : Int)))), some (.int (zI (1))), none] [.int (zI (0))] n h3 _ _
    have fr : ∀ y, (y < 28 ∨ 42 ≤ y) → h3 y = h y := fun y q2 => hf3 y (by omega)
    refine jl_istore (L' := [some (.float (z)), some (.ref (0)), some (.ref (28)), some (.ref (42)), some (.int (zI (((4 * t : Nat) : Int)))), some (.int (zI (1))), some (.int (zI (0)))]) d_Lw_law_1191 (by decide) rfl ?_
    refine jl_aload_n d_Lw_law_1193 rfl rfl ?_
    refine jl_invV0 (M' := m_Md_thrown) (d' := d - 1) (ck' := 0) (sk' := 0) (na := 0) (as := []) (st := []) (x := 28) d_Lw_law_1194 rfl (hM3).1 rfl mw_Lw_93 ww_Md_thrown sw_Md_thrown nw_Md cw_Md_thrown rfl rfl (by decide +kernel) (by omega) (Nat.le_of_ble_eq_true rfl) (Nat.le_of_ble_eq_true rfl) ?_
    refine k_M_thrown hl9 (by omega) hM3 ?_
    show jl_AW _ _ _ _ _ 1197 [some (.float (z)), some (.ref (0)), some (.ref (28)), some (.ref (42)), some (.int (zI (((4 * t : Nat) : Int)))), some (.int (zI (1))), some (.int (zI (0)))] [.int (zI (1))] n h3 _ _
    refine jl_iload d_Lw_law_1197 rfl ?_
    refine jz_icmp_eq (tgt := 1204) d_Lw_law_1199 (by decide) ⟨by decide, by decide⟩ ⟨by decide, by decide⟩ (fun _ => ?_) (fun q9 => absurd rfl q9)
    refine jl_iload d_Lw_law_1204 rfl ?_
    refine jz_if_ne (tgt := 1221) d_Lw_law_1206 (by decide) ⟨by decide, by decide⟩ (fun _ => ?_) (fun q9 => absurd q9 (by decide))
    refine jl_goto (tgt := 1405) d_Lw_law_1221 (by decide) ?_
    refine jl_less (L' := [some (.float (z)), some (.ref (0)), some (.ref (28)), some (.ref (42)), some (.int (zI (((4 * t : Nat) : Int)))), none, none]) ⟨rfl, rfl, rfl, rfl, rfl, trivial⟩ ?_
    exact hnext n h3 ⟨_, hM3, okM, hrw, (fr 0 (by omega)).trans hX, ⟨f, (fr 42 (by omega)).trans hO⟩, hn, lD_fr (fun y q1 q2 => fr y (by omega)) ⟨rfl, rfl, fun _ _ => rfl, fun _ _ => rfl, fun _ _ => rfl⟩ hlD, lS_fr (fun y hy => fr y (by omega)) (fun _ _ _ => ⟨rfl, rfl, fun _ _ => rfl, fun _ _ => rfl, fun _ _ => rfl⟩) hlS, lJ_fr (fun y q1 q2 => fr y (by omega)) hlJ, lCt_fr (fun y q1 q2 => fr y (by omega)) hlC, lF_fr (fun y q1 q2 => fr y (by omega)) ⟨rfl, rfl, fun _ _ => rfl, fun _ _ => rfl, fun _ _ => rfl⟩ ⟨rfl, rfl, rfl, rfl, rfl, rfl⟩ (by omega) hlF⟩
  · show jl_AW _ _ _ _ _ 1179 [some (.float (z)), some (.ref (0)), some (.ref (28)), some (.ref (42)), some (.int (zI (((4 * t : Nat) : Int)))), none, none] [.int (zI (2))] n h _ _
    refine jl_istore (L' := [some (.float (z)), some (.ref (0)), some (.ref (28)), some (.ref (42)), some (.int (zI (((4 * t : Nat) : Int)))), some (.int (zI (2))), none]) d_Lw_law_1179 (by decide) rfl ?_
    refine jl_aload_n d_Lw_law_1181 rfl rfl ?_
    refine jl_sload_n d_Lw_law_1182 rfl rfl ?_
    refine jl_iload d_Lw_law_1183 rfl ?_
    refine jl_iconst (v := zI (1)) d_Lw_law_1185 (by decide) ?_
    refine jz_iadd (v := ((4 * t + 1 : Nat) : Int)) d_Lw_law_1186 (by omega) ?_
    refine jz_sld (k9 := 4 * t + 1) d_Lw_law_1187 rfl (by omega) hlen ?_
    refine jl_invV0 (M' := m_Md_run) (d' := d - 1) (ck' := 0) (sk' := 0) (na := 1) (as := [.int (zI (scr G (4 * t + 1)))]) (st := []) (x := 28) d_Lw_law_1188 rfl (hQ).1 rfl mw_Lw_155 ww_Md_run sw_Md_run nw_Md cw_Md_run rfl rfl (by decide +kernel) (by omega) (Nat.le_of_ble_eq_true rfl) (Nat.le_of_ble_eq_true rfl) ?_
    refine k_M_run hl9 (by omega) hQ okM hfl9 hz1 (fun q => by rcases hnwM with q9 | q9; exact absurd q9 q; omega) (fun _ q => absurd (hop.2.mp hq) q) (fun _ _ h3 hM3 hf3 => ?_) (fun q => absurd hin q)
    show jl_AW _ _ _ _ _ 1191 [some (.float (z)), some (.ref (0)), some (.ref (28)), some (.ref (42)), some (.int (zI (((4 * t : Nat) : Int)))), some (.int (zI (2))), none] [.int (zI (0))] n h3 _ _
    have fr : ∀ y, (y < 28 ∨ 42 ≤ y) → h3 y = h y := fun y q2 => hf3 y (by omega)
    refine jl_istore (L' := [some (.float (z)), some (.ref (0)), some (.ref (28)), some (.ref (42)), some (.int (zI (((4 * t : Nat) : Int)))), some (.int (zI (2))), some (.int (zI (0)))]) d_Lw_law_1191 (by decide) rfl ?_
    refine jl_aload_n d_Lw_law_1193 rfl rfl ?_
    refine jl_invV0 (M' := m_Md_thrown) (d' := d - 1) (ck' := 0) (sk' := 0) (na := 0) (as := []) (st := []) (x := 28) d_Lw_law_1194 rfl (hM3).1 rfl mw_Lw_93 ww_Md_thrown sw_Md_thrown nw_Md cw_Md_thrown rfl rfl (by decide +kernel) (by omega) (Nat.le_of_ble_eq_true rfl) (Nat.le_of_ble_eq_true rfl) ?_
    refine k_M_thrown hl9 (by omega) hM3 ?_
    show jl_AW _ _ _ _ _ 1197 [some (.float (z)), some (.ref (0)), some (.ref (28)), some (.ref (42)), some (.int (zI (((4 * t : Nat) : Int)))), some (.int (zI (2))), some (.int (zI (0)))] [.int (zI (2))] n h3 _ _
    refine jl_iload d_Lw_law_1197 rfl ?_
    refine jz_icmp_eq (tgt := 1204) d_Lw_law_1199 (by decide) ⟨by decide, by decide⟩ ⟨by decide, by decide⟩ (fun _ => ?_) (fun q9 => absurd rfl q9)
    refine jl_iload d_Lw_law_1204 rfl ?_
    refine jz_if_ne (tgt := 1221) d_Lw_law_1206 (by decide) ⟨by decide, by decide⟩ (fun _ => ?_) (fun q9 => absurd q9 (by decide))
    refine jl_goto (tgt := 1405) d_Lw_law_1221 (by decide) ?_
    refine jl_less (L' := [some (.float (z)), some (.ref (0)), some (.ref (28)), some (.ref (42)), some (.int (zI (((4 * t : Nat) : Int)))), none, none]) ⟨rfl, rfl, rfl, rfl, rfl, trivial⟩ ?_
    exact hnext n h3 ⟨_, hM3, okM, hrw, (fr 0 (by omega)).trans hX, ⟨f, (fr 42 (by omega)).trans hO⟩, hn, lD_fr (fun y q1 q2 => fr y (by omega)) ⟨rfl, rfl, fun _ _ => rfl, fun _ _ => rfl, fun _ _ => rfl⟩ hlD, lS_fr (fun y hy => fr y (by omega)) (fun _ _ _ => ⟨rfl, rfl, fun _ _ => rfl, fun _ _ => rfl, fun _ _ => rfl⟩) hlS, lJ_fr (fun y q1 q2 => fr y (by omega)) hlJ, lCt_fr (fun y q1 q2 => fr y (by omega)) hlC, lF_fr (fun y q1 q2 => fr y (by omega)) ⟨rfl, rfl, fun _ _ => rfl, fun _ _ => rfl, fun _ _ => rfl⟩ ⟨rfl, rfl, rfl, rfl, rfl, rfl⟩ (by omega) hlF⟩
