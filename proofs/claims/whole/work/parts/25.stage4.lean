def hb1 (m p : Int) (hs cs xs : Nat → Int) (nw k : Int) (q : List (Int × Int) × (Nat → Int) × Int) : List (Int × Int) × (Nat → Int) × Int :=
  if sp_thr m p nw k = -1 then q else ((tf m hs cs xs nw (sp_thr m p nw k) k q.1 q.1.length).1, va_up q.2.1 k.toNat (q.2.1 k.toNat + (tf m hs cs xs nw (sp_thr m p nw k) k q.1 q.1.length).2.2.1), q.2.2 + (tf m hs cs xs nw (sp_thr m p nw k) k q.1 q.1.length).2.2.1)
def hbs (m p : Int) (hs cs xs : Nat → Int) (nw : Int) (q : List (Int × Int) × (Nat → Int) × Int) : Nat → List (Int × Int) × (Nat → Int) × Int
  | 0 => q
  | c + 1 => hb1 m p hs cs xs nw (c : Int) (hbs m p hs cs xs nw q c)
/-- the floor some beats later -/
def gos (m p : Int) (hs cs xs : Nat → Int) (nw : Int) (q : List (Int × Int) × (Nat → Int) × Int) : Nat → List (Int × Int) × (Nat → Int) × Int
  | 0 => q
  | t + 1 => hbs m p hs cs xs (nw + (t : Int)) (gos m p hs cs xs nw q t) 2
def bzR (B : List (Int × Int)) : Prop := ∀ j, j < B.length → zR (B.getD j (0, 0)).1 ∧ zR (B.getD j (0, 0)).2
theorem hb1_zR {m p : Int} {hs cs xs : Nat → Int} (ok : jOk m p hs cs xs) {nw k : Int} (hnw : 0 ≤ nw ∧ nw < 1000000) (hk : 0 ≤ k ∧ k ≤ 1) {q : List (Int × Int) × (Nat → Int) × Int} (h : bzR q.1) : bzR (hb1 m p hs cs xs nw k q).1 := by
  unfold hb1
  split
  · exact h
  · exact tf_zR ok h hnw hk _
theorem hbs_zR {m p : Int} {hs cs xs : Nat → Int} (ok : jOk m p hs cs xs) {nw : Int} (hnw : 0 ≤ nw ∧ nw < 1000000) {q : List (Int × Int) × (Nat → Int) × Int} (h : bzR q.1) : ∀ c, c ≤ 2 → bzR (hbs m p hs cs xs nw q c).1
  | 0, _ => h
  | c + 1, hc => hb1_zR ok hnw (by omega) (hbs_zR ok hnw h c (by omega))
theorem gos_zR {m p : Int} {hs cs xs : Nat → Int} (ok : jOk m p hs cs xs) {nw : Int} (hnw : 0 ≤ nw ∧ nw < 900000) {B : List (Int × Int)} {MD : Nat → Int} (h : bzR B) : ∀ t, t ≤ 100 → bzR (gos m p hs cs xs nw (B, MD, 0) t).1
  | 0, _ => h
  | t + 1, ht => hbs_zR ok (by omega) (gos_zR ok hnw h t (by omega)) 2 (Nat.le_refl 2)
set_option maxHeartbeats 4000000 in
set_option maxRecDepth 100000 in
theorem k_G_goOn {l : Launch} {G : jl_G} {d n : Nat} {h : Nat → va_E} {Kr : Option Value → Nat → (Nat → va_E) → Prop} {Kx : String → Nat → (Nat → va_E) → Prop} (hl9 : l.stackTraces = false) (hdd : 3 ≤ d) {g : Nat} {op nw : Int} {B : List (Int × Int)} {MD : Nat → Int} {m p : Int} {hs cs xs sc : Nat → Int} {e : Int} (hF : jFl h g op nw B MD) (hD : jD h (g + 1) m p hs cs xs sc) (ok : jOk m p hs cs xs) (hnw : 0 ≤ nw ∧ nw < 900000) (he : 1 ≤ e ∧ e ≤ 100) (hB : ∀ j, j < B.length → zR (B.getD j (0, 0)).1 ∧ zR (B.getD j (0, 0)).2) (hk : ∀ h', jFl h' g op (nw + e) (gos m p hs cs xs nw (B, MD, 0) e.toNat).1 (gos m p hs cs xs nw (B, MD, 0) e.toNat).2.1 → jfg h h' g → Kr (some (.int (zI ((gos m p hs cs xs nw (B, MD, 0) e.toNat).2.2)))) n h') : jl_Call l G m_Sg_goOn d [.ref (g), .int (zI (e))] n h 0 0 Kr Kx := by
  refine jl_enter hl9 (by decide) rfl (by simp [Value.category]) (Nat.le_of_ble_eq_true rfl) ?_
  show jl_AW l G (jl_F G Kr Kx) m_Sg_goOn d 0 [some (.ref (g)), some (.int (zI (e))), none, none, none] [] n h 0 0
  have lp1 : ∀ (k : Nat) (t : Int) (h2 : Nat → va_E), t + k = e → 0 ≤ t → jFl h2 g op (nw + t) (gos m p hs cs xs nw (B, MD, 0) (t.toNat)).1 (gos m p hs cs xs nw (B, MD, 0) (t.toNat)).2.1 → jfg h h2 g → jl_AW l G (jl_F G Kr Kx) m_Sg_goOn d 4 [some (.ref (g)), some (.int (zI (e))), some (.int (zI ((gos m p hs cs xs nw (B, MD, 0) (t.toNat)).2.2))), some (.int (zI (t))), none] [] n h2 0 0 := by
    intro k
    induction k using Nat.strongRecOn with
    | ind k ih =>
      intro t h2 hkt ht0 hF2 hfr
      have lpi : ∀ (k2 : Nat) (c : Int) (h2 : Nat → va_E), c + k2 = 2 → 0 ≤ c → jFl h2 g op (nw + t) (hbs m p hs cs xs (nw + t) (gos m p hs cs xs nw (B, MD, 0) (t.toNat)) c.toNat).1 (hbs m p hs cs xs (nw + t) (gos m p hs cs xs nw (B, MD, 0) (t.toNat)) c.toNat).2.1 → jfg h h2 g → t < e → jl_AW l G (jl_F G Kr Kx) m_Sg_goOn d 12 [some (.ref (g)), some (.int (zI (e))), some (.int (zI ((hbs m p hs cs xs (nw + t) (gos m p hs cs xs nw (B, MD, 0) (t.toNat)) c.toNat).2.2))), some (.int (zI (t))), some (.int (zI (c)))] [] n h2 0 0 := by
        intro k2
        induction k2 using Nat.strongRecOn with
        | ind k2 ih2 =>
          intro c h2 hkc hc0 hF2 hfr ht9
          have hzB := hbs_zR ok (nw := nw + t) (by omega) (gos_zR (MD := MD) ok hnw hB t.toNat (by omega)) c.toNat (by omega)
          have ec : ((c.toNat : Nat) : Int) = c := by omega
          have en : (c + 1).toNat = c.toNat + 1 := by omega
          have hD2 := jfg_D hfr hD
          refine jl_iload d_Sg_goOn_12 rfl ?_
          refine jl_iconst (v := zI (1)) d_Sg_goOn_14 (by decide) ?_
          refine jz_icmp_gt (tgt := 33) d_Sg_goOn_15 (by decide) ⟨by omega, by omega⟩ ⟨by omega, by omega⟩ (fun hc => ?_) (fun hc => ?_)
          · have e2 : c.toNat = 2 := by omega
            rw [e2] at hF2 ⊢
            have hF3 := hF2
            obtain ⟨LA, LI, u0, u1, u2, u3, u4, u5⟩ := hF3
            refine jl_aload_n d_Sg_goOn_33 rfl rfl ?_
            refine jl_dup d_Sg_goOn_34 rfl ?_
            refine jg_4 (q := 5) d_Sg_goOn_35 u0 rfl (by decide) fw_Sg_36 ?_
            refine jl_iconst (v := zI (1)) d_Sg_goOn_38 (by decide) ?_
            refine jz_iadd (v := nw + (t + 1)) d_Sg_goOn_39 (by omega) ?_
            refine jp_4 (q := 5) (ty := .int) d_Sg_goOn_40 u0 (by simp) (by decide) fw_Sg_36 rfl (by decide +kernel) (fun _ _ => rfl) (fun _ _ => rfl) (fun h1 eh1 => ?_)
            have eh1 : h1 = va_up h2 (g) (jO 4 [.ref (g + 1), .ref (g + 6), .ref (g + 7), .ref (g + 8), .int (zI (op)), .int (zI (nw + (t + 1))), .int (zI ((((hbs m p hs cs xs (nw + t) (gos m p hs cs xs nw (B, MD, 0) (t.toNat)) 2).1).length : Int)))]) := eh1
            have jf2 : h1 (g) = jO 4 [.ref (g + 1), .ref (g + 6), .ref (g + 7), .ref (g + 8), .int (zI (op)), .int (zI (nw + (t + 1))), .int (zI ((((hbs m p hs cs xs (nw + t) (gos m p hs cs xs nw (B, MD, 0) (t.toNat)) 2).1).length : Int)))] := by rw [eh1, va_up_self]
            have jf3 : h1 (g + 6) = jI 27 (fun j9 => zI (LA j9)) := by rw [eh1, va_up_ne _ _ (by omega)]; exact u1
            have jf4 : h1 (g + 7) = jI 27 (fun j9 => zI (LI j9)) := by rw [eh1, va_up_ne _ _ (by omega)]; exact u2
            have jf5 : h1 (g + 8) = jI 2 (fun j9 => zI ((hbs m p hs cs xs (nw + t) (gos m p hs cs xs nw (B, MD, 0) (t.toNat)) 2).2.1 j9)) := by rw [eh1, va_up_ne _ _ (by omega)]; exact u3
            refine jz_iinc (v := t + 1) (L' := [some (.ref (g)), some (.int (zI (e))), some (.int (zI ((hbs m p hs cs xs (nw + t) (gos m p hs cs xs nw (B, MD, 0) (t.toNat)) 2).2.2))), some (.int (zI (t + 1))), some (.int (zI (c)))]) d_Sg_goOn_43 rfl (by omega) (by decide) rfl ?_
            refine jl_goto (tgt := 4) d_Sg_goOn_46 (by decide) ?_
            refine jl_less (L' := [some (.ref (g)), some (.int (zI (e))), some (.int (zI ((hbs m p hs cs xs (nw + t) (gos m p hs cs xs nw (B, MD, 0) (t.toNat)) 2).2.2))), some (.int (zI (t + 1))), none]) ⟨rfl, rfl, rfl, rfl, trivial⟩ ?_
            have eg : gos m p hs cs xs nw (B, MD, 0) ((t + 1).toNat) = hbs m p hs cs xs (nw + t) (gos m p hs cs xs nw (B, MD, 0) (t.toNat)) 2 := by rw [show (t + 1).toNat = t.toNat + 1 by omega, gos, show ((t.toNat : Nat) : Int) = t by omega]
            have h9 := ih (k - 1) (by omega) (t + 1) h1 (by omega) (by omega)
            rw [eg] at h9
            exact h9 ⟨LA, LI, jf2, jf3, jf4, jf5, u4, u5⟩ (fun y q0 q1 q2 q3 => by rw [eh1, va_up_ne _ _ (by omega)]; exact hfr y q0 q1 q2 q3)
          · refine jl_iload_n d_Sg_goOn_18 rfl rfl ?_
            refine jl_aload_n d_Sg_goOn_19 rfl rfl ?_
            refine jl_iload d_Sg_goOn_20 rfl ?_
            have hF3 := hF2
            obtain ⟨LA, LI, u0, u1, u2, u3, u4, u5⟩ := hF3
            refine jl_invV (M' := m_Sg_throwFrom) (d' := d - 1) (ck' := 0) (sk' := 0) (na := 1) (as := [.int (zI (c))]) (st := [.int (zI ((hbs m p hs cs xs (nw + t) (gos m p hs cs xs nw (B, MD, 0) (t.toNat)) c.toNat).2.2))]) d_Sg_goOn_22 rfl u0 rfl mw_Sg_69 ww_Sg_throwFrom sw_Sg_throwFrom nw_Sg cw_Sg_throwFrom rfl rfl rfl (by decide +kernel) (by omega) (Nat.le_of_ble_eq_true rfl) (Nat.le_of_ble_eq_true rfl) ?_
            refine k_G_throwFrom hl9 (by omega) hF2 hD2 ok ⟨by omega, by omega⟩ ⟨by omega, by omega⟩ hzB (fun h0 => ?_) (fun h0 h3 hF3 hfr3 => ?_)
            · show jl_AW _ _ _ _ _ 25 [some (.ref (g)), some (.int (zI (e))), some (.int (zI ((hbs m p hs cs xs (nw + t) (gos m p hs cs xs nw (B, MD, 0) (t.toNat)) c.toNat).2.2))), some (.int (zI (t))), some (.int (zI (c)))] [.int (zI (0)), .int (zI ((hbs m p hs cs xs (nw + t) (gos m p hs cs xs nw (B, MD, 0) (t.toNat)) c.toNat).2.2))] n h2 _ _
              have es : hbs m p hs cs xs (nw + t) (gos m p hs cs xs nw (B, MD, 0) (t.toNat)) (c + 1).toNat = hbs m p hs cs xs (nw + t) (gos m p hs cs xs nw (B, MD, 0) (t.toNat)) c.toNat := by rw [en, hbs, ec]; unfold hb1; rw [if_pos h0]
              refine jz_iadd (v := (hbs m p hs cs xs (nw + t) (gos m p hs cs xs nw (B, MD, 0) (t.toNat)) c.toNat).2.2) d_Sg_goOn_25 (by omega) ?_
              refine jl_istore_n (L' := [some (.ref (g)), some (.int (zI (e))), some (.int (zI ((hbs m p hs cs xs (nw + t) (gos m p hs cs xs nw (B, MD, 0) (t.toNat)) c.toNat).2.2))), some (.int (zI (t))), some (.int (zI (c)))]) d_Sg_goOn_26 rfl (by decide) rfl ?_
              refine jz_iinc (v := c + 1) (L' := [some (.ref (g)), some (.int (zI (e))), some (.int (zI ((hbs m p hs cs xs (nw + t) (gos m p hs cs xs nw (B, MD, 0) (t.toNat)) c.toNat).2.2))), some (.int (zI (t))), some (.int (zI (c + 1)))]) d_Sg_goOn_27 rfl (by omega) (by decide) rfl ?_
              refine jl_goto (tgt := 12) d_Sg_goOn_30 (by decide) ?_
              have h9 := ih2 (k2 - 1) (by omega) (c + 1) h2 (by omega) (by omega)
              rw [es] at h9
              exact h9 hF2 hfr ht9
            · show jl_AW _ _ _ _ _ 25 [some (.ref (g)), some (.int (zI (e))), some (.int (zI ((hbs m p hs cs xs (nw + t) (gos m p hs cs xs nw (B, MD, 0) (t.toNat)) c.toNat).2.2))), some (.int (zI (t))), some (.int (zI (c)))] [.int (zI ((tf m hs cs xs (nw + t) (sp_thr m p (nw + t) c) c (hbs m p hs cs xs (nw + t) (gos m p hs cs xs nw (B, MD, 0) (t.toNat)) c.toNat).1 (hbs m p hs cs xs (nw + t) (gos m p hs cs xs nw (B, MD, 0) (t.toNat)) c.toNat).1.length).2.2.1)), .int (zI ((hbs m p hs cs xs (nw + t) (gos m p hs cs xs nw (B, MD, 0) (t.toNat)) c.toNat).2.2))] n h3 _ _
              have es : hbs m p hs cs xs (nw + t) (gos m p hs cs xs nw (B, MD, 0) (t.toNat)) (c + 1).toNat = ((tf m hs cs xs (nw + t) (sp_thr m p (nw + t) c) c (hbs m p hs cs xs (nw + t) (gos m p hs cs xs nw (B, MD, 0) (t.toNat)) c.toNat).1 (hbs m p hs cs xs (nw + t) (gos m p hs cs xs nw (B, MD, 0) (t.toNat)) c.toNat).1.length).1, va_up (hbs m p hs cs xs (nw + t) (gos m p hs cs xs nw (B, MD, 0) (t.toNat)) c.toNat).2.1 c.toNat ((hbs m p hs cs xs (nw + t) (gos m p hs cs xs nw (B, MD, 0) (t.toNat)) c.toNat).2.1 c.toNat + (tf m hs cs xs (nw + t) (sp_thr m p (nw + t) c) c (hbs m p hs cs xs (nw + t) (gos m p hs cs xs nw (B, MD, 0) (t.toNat)) c.toNat).1 (hbs m p hs cs xs (nw + t) (gos m p hs cs xs nw (B, MD, 0) (t.toNat)) c.toNat).1.length).2.2.1), (hbs m p hs cs xs (nw + t) (gos m p hs cs xs nw (B, MD, 0) (t.toNat)) c.toNat).2.2 + (tf m hs cs xs (nw + t) (sp_thr m p (nw + t) c) c (hbs m p hs cs xs (nw + t) (gos m p hs cs xs nw (B, MD, 0) (t.toNat)) c.toNat).1 (hbs m p hs cs xs (nw + t) (gos m p hs cs xs nw (B, MD, 0) (t.toNat)) c.toNat).1.length).2.2.1) := by rw [en, hbs, ec]; unfold hb1; rw [if_neg h0]
              refine jz_iadd (v := (hbs m p hs cs xs (nw + t) (gos m p hs cs xs nw (B, MD, 0) (t.toNat)) (c + 1).toNat).2.2) d_Sg_goOn_25 (by rw [es]) ?_
              refine jl_istore_n (L' := [some (.ref (g)), some (.int (zI (e))), some (.int (zI ((hbs m p hs cs xs (nw + t) (gos m p hs cs xs nw (B, MD, 0) (t.toNat)) (c + 1).toNat).2.2))), some (.int (zI (t))), some (.int (zI (c)))]) d_Sg_goOn_26 rfl (by decide) rfl ?_
              refine jz_iinc (v := c + 1) (L' := [some (.ref (g)), some (.int (zI (e))), some (.int (zI ((hbs m p hs cs xs (nw + t) (gos m p hs cs xs nw (B, MD, 0) (t.toNat)) (c + 1).toNat).2.2))), some (.int (zI (t))), some (.int (zI (c + 1)))]) d_Sg_goOn_27 rfl (by omega) (by decide) rfl ?_
              refine jl_goto (tgt := 12) d_Sg_goOn_30 (by decide) ?_
              refine ih2 (k2 - 1) (by omega) (c + 1) h3 (by omega) (by omega) ?_ (fun y q0 q1 q2 q3 => (hfr3 y q0 q1 q2 q3).trans (hfr y q0 q1 q2 q3)) ht9
              rw [es]
              exact hF3
      refine jl_iload_n d_Sg_goOn_4 rfl rfl ?_
      refine jl_iload_n d_Sg_goOn_5 rfl rfl ?_
      refine jz_icmp_ge (tgt := 49) d_Sg_goOn_6 (by decide) ⟨by omega, by omega⟩ ⟨by omega, by omega⟩ (fun hc => ?_) (fun hc => ?_)
      · have et : t = e := by omega
        subst et
        refine jl_iload_n d_Sg_goOn_49 rfl rfl ?_
        exact jl_iret d_Sg_goOn_50 rfl (hk h2 hF2 hfr)
      · refine jl_iconst (v := zI (0)) d_Sg_goOn_9 (by decide) ?_
        refine jl_istore (L' := [some (.ref (g)), some (.int (zI (e))), some (.int (zI ((gos m p hs cs xs nw (B, MD, 0) (t.toNat)).2.2))), some (.int (zI (t))), some (.int (zI (0)))]) d_Sg_goOn_10 (by decide) rfl ?_
        exact lpi 2 0 h2 (by omega) (by omega) hF2 hfr (by omega)
  refine jl_iconst (v := zI (0)) d_Sg_goOn_0 (by decide) ?_
  refine jl_istore_n (L' := [some (.ref (g)), some (.int (zI (e))), some (.int (zI (0))), none, none]) d_Sg_goOn_1 rfl (by decide) rfl ?_
  refine jl_iconst (v := zI (0)) d_Sg_goOn_2 (by decide) ?_
  refine jl_istore_n (L' := [some (.ref (g)), some (.int (zI (e))), some (.int (zI (0))), some (.int (zI (0))), none]) d_Sg_goOn_3 rfl (by decide) rfl ?_
  exact lp1 e.toNat 0 h (by omega) (by omega) (by rw [show nw + 0 = nw by omega]; exact hF) (jfg_rf h g)
set_option maxHeartbeats 4000000 in
set_option maxRecDepth 100000 in
theorem k_G_open {l : Launch} {G : jl_G} {d n : Nat} {h : Nat → va_E} {Kr : Option Value → Nat → (Nat → va_E) → Prop} {Kx : String → Nat → (Nat → va_E) → Prop} (hl9 : l.stackTraces = false) (hdd : 4 ≤ d) {g : Nat} {op nw : Int} {B : List (Int × Int)} {MD : Nat → Int} {m p : Int} {hs cs xs sc : Nat → Int} {o : Nat} {m2 p2 : Int} {hs2 cs2 xs2 sc2 : Nat → Int} (hF : jFl h g op nw B MD) (hD : jD h (g + 1) m p hs cs xs sc) (hO : jD h o m2 p2 hs2 cs2 xs2 sc2) (hne : g + 1 + 5 ≤ o ∨ o + 5 ≤ g + 1) (ok2 : jOk m2 p2 (jcpy 48 hs2 hs) (jcpy 16 cs2 cs) (jcpy 16 xs2 xs)) (hk : ∀ h', jFl h' g 1 0 (nba m2 p2 (jcpy 48 hs2 hs) (jcpy 16 cs2 cs) (jcpy 16 xs2 xs) 9) (va_up (va_up MD (0 : Int).toNat 0) (1 : Int).toNat 0) → jD h' (g + 1) m2 p2 (jcpy 48 hs2 hs) (jcpy 16 cs2 cs) (jcpy 16 xs2 xs) sc → jfr h h' g (g + 9) → Kr none n h') : jl_Call l G m_Sg_open d [.ref (g), .ref (o)] n h 0 0 Kr Kx := by
  refine jl_enter hl9 (by decide) rfl (by simp [Value.category]) (Nat.le_of_ble_eq_true rfl) ?_
  show jl_AW l G (jl_F G Kr Kx) m_Sg_open d 0 [some (.ref (g)), some (.ref (o))] [] n h 0 0
  obtain ⟨v0, v1, v2, v3, v4⟩ := id (hD)
  obtain ⟨LA, LI, u0, u1, u2, u3, u4, u5⟩ := hF
  refine jl_aload_n d_Sg_open_0 rfl rfl ?_
  refine jg_4 (q := 0) d_Sg_open_1 u0 rfl (by decide) fw_Sg_12 ?_
  refine jl_aload_n d_Sg_open_4 rfl rfl ?_
  refine jl_invV (M' := m_Dr_copyFrom) (d' := d - 1) (ck' := 0) (sk' := 0) (na := 1) (as := [.ref (o)]) (st := []) d_Sg_open_5 rfl v0 rfl mw_Sg_28 ww_Dr_copyFrom sw_Dr_copyFrom nw_Dr cw_Dr_copyFrom rfl rfl rfl (by decide +kernel) (by omega) (Nat.le_of_ble_eq_true rfl) (Nat.le_of_ble_eq_true rfl) ?_
  refine k_D_copyFrom hl9 (by omega) ⟨v0, v1, v2, v3, v4⟩ hO hne (fun h2 hD2 hf2 => ?_)
  show jl_AW _ _ _ _ _ 8 [some (.ref (g)), some (.ref (o))] [] n h2 _ _
  have t0 : h2 (g) = h (g) := hf2 _ (by omega)
  have t6 : h2 (g + 6) = h (g + 6) := hf2 _ (by omega)
  have t7 : h2 (g + 7) = h (g + 7) := hf2 _ (by omega)
  have t8 : h2 (g + 8) = h (g + 8) := hf2 _ (by omega)
  rw [u0] at t0
  rw [u1] at t6
  rw [u2] at t7
  rw [u3] at t8
  refine jl_aload_n d_Sg_open_8 rfl rfl ?_
  refine jl_iconst (v := zI (1)) d_Sg_open_9 (by decide) ?_
  refine jp_4 (q := 4) (ty := .boolean) d_Sg_open_10 t0 (by simp) (by decide) fw_Sg_32 rfl (by decide +kernel) (fun _ _ => rfl) (fun _ _ => rfl) (fun h1 eh1 => ?_)
  have eh1 : h1 = va_up h2 (g) (jO 4 [.ref (g + 1), .ref (g + 6), .ref (g + 7), .ref (g + 8), .int (zI (1)), .int (zI (nw)), .int (zI (((B).length : Int)))]) := eh1
  have jf2 : h1 (g) = jO 4 [.ref (g + 1), .ref (g + 6), .ref (g + 7), .ref (g + 8), .int (zI (1)), .int (zI (nw)), .int (zI (((B).length : Int)))] := by rw [eh1, va_up_self]
  refine jl_aload_n d_Sg_open_13 rfl rfl ?_
  refine jl_iconst (v := zI (0)) d_Sg_open_14 (by decide) ?_
  refine jp_4 (q := 5) (ty := .int) d_Sg_open_15 jf2 (by simp) (by decide) fw_Sg_36 rfl (by decide +kernel) (fun _ _ => rfl) (fun _ _ => rfl) (fun h3 eh3 => ?_)
  have eh3 : h3 = va_up h1 (g) (jO 4 [.ref (g + 1), .ref (g + 6), .ref (g + 7), .ref (g + 8), .int (zI (1)), .int (zI (0)), .int (zI (((B).length : Int)))]) := eh3
  have jf4 : h3 (g) = jO 4 [.ref (g + 1), .ref (g + 6), .ref (g + 7), .ref (g + 8), .int (zI (1)), .int (zI (0)), .int (zI (((B).length : Int)))] := by rw [eh3, va_up_self]
  refine jl_aload_n d_Sg_open_18 rfl rfl ?_
  refine jg_4 (q := 3) d_Sg_open_19 jf4 rfl (by decide) fw_Sg_25 ?_
  refine jl_iconst (v := zI (0)) d_Sg_open_22 (by decide) ?_
  refine jl_iconst (v := zI (0)) d_Sg_open_23 (by decide) ?_
  have jf5 : h3 (g + 8) = jI 2 (fun j9 => zI (MD j9)) := by rw [eh3, va_up_ne _ _ (by omega), eh1, va_up_ne _ _ (by omega)]; exact t8
  refine jz_iasth d_Sg_open_24 jf5 (by omega) (by omega) (by omega) (fun h6 eh6 => ?_)
  have jf7 : h6 (g + 8) = jI 2 (fun j9 => zI ((va_up MD (0 : Int).toNat (0)) j9)) := by rw [eh6, va_up_self]
  refine jl_aload_n d_Sg_open_25 rfl rfl ?_
  have jf8 : h6 (g) = jO 4 [.ref (g + 1), .ref (g + 6), .ref (g + 7), .ref (g + 8), .int (zI (1)), .int (zI (0)), .int (zI (((B).length : Int)))] := by rw [eh6, va_up_ne _ _ (by omega)]; exact jf4
  refine jg_4 (q := 3) d_Sg_open_26 jf8 rfl (by decide) fw_Sg_25 ?_
  refine jl_iconst (v := zI (1)) d_Sg_open_29 (by decide) ?_
  refine jl_iconst (v := zI (0)) d_Sg_open_30 (by decide) ?_
  refine jz_iasth d_Sg_open_31 jf7 (by omega) (by omega) (by omega) (fun h9 eh9 => ?_)
  have jf10 : h9 (g + 8) = jI 2 (fun j9 => zI ((va_up ((va_up MD (0 : Int).toNat (0))) (1 : Int).toNat (0)) j9)) := by rw [eh9, va_up_self]
  refine jl_aload_n d_Sg_open_32 rfl rfl ?_
  have jf11 : h9 (g) = jO 4 [.ref (g + 1), .ref (g + 6), .ref (g + 7), .ref (g + 8), .int (zI (1)), .int (zI (0)), .int (zI (((B).length : Int)))] := by rw [eh9, va_up_ne _ _ (by omega)]; exact jf8
  have jf12 : h9 (g + 6) = jI 27 (fun j9 => zI (LA j9)) := by rw [eh9, va_up_ne _ _ (by omega), eh6, va_up_ne _ _ (by omega), eh3, va_up_ne _ _ (by omega), eh1, va_up_ne _ _ (by omega)]; exact t6
  have jf13 : h9 (g + 7) = jI 27 (fun j9 => zI (LI j9)) := by rw [eh9, va_up_ne _ _ (by omega), eh6, va_up_ne _ _ (by omega), eh3, va_up_ne _ _ (by omega), eh1, va_up_ne _ _ (by omega)]; exact t7
  have hfr : jfg h2 h9 g := (fun y q0 q1 q2 q3 => by rw [eh9, va_up_ne _ _ (by omega), eh6, va_up_ne _ _ (by omega), eh3, va_up_ne _ _ (by omega), eh1, va_up_ne _ _ (by omega)])
  have hF2 : jFl h9 g 1 0 B (va_up (va_up MD (0 : Int).toNat 0) (1 : Int).toNat 0) := ⟨LA, LI, jf11, jf12, jf13, jf10, u4, u5⟩
  refine jl_invV (M' := m_Sg_numberBalls) (d' := d - 1) (ck' := 0) (sk' := 0) (na := 0) (as := []) (st := []) d_Sg_open_33 rfl jf11 rfl mw_Sg_40 ww_Sg_numberBalls sw_Sg_numberBalls nw_Sg cw_Sg_numberBalls rfl rfl rfl (by decide +kernel) (by omega) (Nat.le_of_ble_eq_true rfl) (Nat.le_of_ble_eq_true rfl) ?_
  refine k_G_numberBalls hl9 (by omega) hF2 (jfg_D hfr hD2) ok2 (fun h3 hF3 hfr3 => ?_)
  show jl_AW _ _ _ _ _ 36 [some (.ref (g)), some (.ref (o))] [] n h3 _ _
  exact jl_vret d_Sg_open_36 rfl (hk h3 hF3 (jfg_D hfr3 (jfg_D hfr hD2)) (fun y hy => by rw [hfr3 y (by omega) (by omega) (by omega) (by omega), hfr y (by omega) (by omega) (by omega) (by omega)]; exact hf2 y (by omega)))
