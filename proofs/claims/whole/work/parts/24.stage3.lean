theorem tfs_zR {m p : Int} {hs cs xs : Nat → Int} (ok : jOk m p hs cs xs) {nw s k : Int} (hnw : 0 ≤ nw ∧ nw < 1000000) (hk : 0 ≤ k ∧ k ≤ 1) {j : Nat} {q : List (Int × Int) × Int × Int × Bool} (h : ∀ i, i < q.1.length → zR (q.1.getD i (0, 0)).1 ∧ zR (q.1.getD i (0, 0)).2) : ∀ i, i < (tfs m hs cs xs nw s k j q).1.length → zR ((tfs m hs cs xs nw s k j q).1.getD i (0, 0)).1 ∧ zR ((tfs m hs cs xs nw s k j q).1.getD i (0, 0)).2 := by
  unfold tfs
  split
  · exact h
  · split
    · split
      · exact h
      · intro i hi
        rw [List.length_set] at hi
        have hh := ok.2.2.1 (s * 3 + nx hs s (cs s.toNat - (q.2.1 + 1)).toNat (q.2.1 + 1)).toNat
        have hl := sp_land_rg (m := m) (xs := xs) (b := s) (k := k) (g := nw + hs (s * 3 + nx hs s (cs s.toNat - (q.2.1 + 1)).toNat (q.2.1 + 1)).toNat) hk
        by_cases e : j = i
        · subst e
          simp [List.getD, hi]
          exact ⟨⟨by omega, by omega⟩, ⟨by omega, by omega⟩⟩
        · have h2 := h i hi
          simp [List.getD, List.getElem?_set, e] at h2 ⊢
          exact h2
    · exact h
theorem tf_zR {m p : Int} {hs cs xs : Nat → Int} (ok : jOk m p hs cs xs) {nw s k : Int} {B : List (Int × Int)} (hB : ∀ j, j < B.length → zR (B.getD j (0, 0)).1 ∧ zR (B.getD j (0, 0)).2) (hnw : 0 ≤ nw ∧ nw < 1000000) (hk : 0 ≤ k ∧ k ≤ 1) : ∀ j i, i < (tf m hs cs xs nw s k B j).1.length → zR ((tf m hs cs xs nw s k B j).1.getD i (0, 0)).1 ∧ zR ((tf m hs cs xs nw s k B j).1.getD i (0, 0)).2
  | 0 => hB
  | j + 1 => tfs_zR ok hnw hk (tf_zR ok hB hnw hk j)
set_option maxHeartbeats 4000000 in
set_option maxRecDepth 100000 in
theorem k_G_throwFrom {l : Launch} {G : jl_G} {d n : Nat} {h : Nat → va_E} {Kr : Option Value → Nat → (Nat → va_E) → Prop} {Kx : String → Nat → (Nat → va_E) → Prop} (hl9 : l.stackTraces = false) (hdd : 2 ≤ d) {g : Nat} {op nw : Int} {B : List (Int × Int)} {MD : Nat → Int} {m p : Int} {hs cs xs sc : Nat → Int} {b : Int} (hF : jFl h g op nw B MD) (hD : jD h (g + 1) m p hs cs xs sc) (ok : jOk m p hs cs xs) (hnw : 0 ≤ nw ∧ nw < 1000000) (hb : 0 ≤ b ∧ b ≤ 1) (hB : ∀ j, j < B.length → zR (B.getD j (0, 0)).1 ∧ zR (B.getD j (0, 0)).2) (hk0 : sp_thr m p nw b = -1 → Kr (some (.int (zI (0)))) n h) (hk1 : ¬ sp_thr m p nw b = -1 → ∀ h', jFl h' g op nw (tf m hs cs xs nw (sp_thr m p nw b) b B B.length).1 (va_up MD (b).toNat (MD (b).toNat + (tf m hs cs xs nw (sp_thr m p nw b) b B B.length).2.2.1)) → jfg h h' g → Kr (some (.int (zI ((tf m hs cs xs nw (sp_thr m p nw b) b B B.length).2.2.1)))) n h') : jl_Call l G m_Sg_throwFrom d [.ref (g), .int (zI (b))] n h 0 0 Kr Kx := by
  refine jl_enter hl9 (by decide) rfl (by simp [Value.category]) (Nat.le_of_ble_eq_true rfl) ?_
  show jl_AW l G (jl_F G Kr Kx) m_Sg_throwFrom d 0 [some (.ref (g)), some (.int (zI (b))), none, none, none, none] [] n h 0 0
  have hp := ok.2.1
  obtain ⟨v0, v1, v2, v3, v4⟩ := id (hD)
  obtain ⟨LA0, LI0, u00, u10, u20, u30, u40, u50⟩ := hF
  refine jl_aload_n d_Sg_throwFrom_0 rfl rfl ?_
  refine jg_4 (q := 0) d_Sg_throwFrom_1 u00 rfl (by decide) fw_Sg_12 ?_
  refine jl_aload_n d_Sg_throwFrom_4 rfl rfl ?_
  refine jg_4 (q := 5) d_Sg_throwFrom_5 u00 rfl (by decide) fw_Sg_36 ?_
  refine jl_iload_n d_Sg_throwFrom_8 rfl rfl ?_
  refine jl_invV (M' := m_Dr_siteThrowing) (d' := d - 1) (ck' := 0) (sk' := 0) (na := 2) (as := [.int (zI (nw)), .int (zI (b))]) (st := []) d_Sg_throwFrom_9 rfl v0 rfl mw_Sg_50 ww_Dr_siteThrowing sw_Dr_siteThrowing nw_Dr cw_Dr_siteThrowing rfl rfl rfl (by decide +kernel) (by omega) (Nat.le_of_ble_eq_true rfl) (Nat.le_of_ble_eq_true rfl) ?_
  refine k_D_siteThrowing hl9 (by omega) ⟨v0, v1, v2, v3, v4⟩ ok.1 ok.2.1 ⟨by omega, by omega⟩ ⟨by omega, by omega⟩ ?_
  show jl_AW _ _ _ _ _ 12 [some (.ref (g)), some (.int (zI (b))), none, none, none, none] [.int (zI (sp_thr m p nw b))] n h _ _
  refine jl_istore_n (L' := [some (.ref (g)), some (.int (zI (b))), some (.int (zI (sp_thr m p nw b))), none, none, none]) d_Sg_throwFrom_12 rfl (by decide) rfl ?_
  refine jl_iload_n d_Sg_throwFrom_13 rfl rfl ?_
  refine jl_iconst (v := zI (-1)) d_Sg_throwFrom_14 (by decide) ?_
  have hz9 : zR (sp_thr m p nw b) := by by_cases q9 : sp_thr m p nw b = -1; exact ⟨by omega, by omega⟩; have := sp_thr_rg ok (b := nw) (k := b) hb q9; exact ⟨by omega, by omega⟩
  refine jz_icmp_ne (tgt := 20) d_Sg_throwFrom_15 (by decide) ⟨by omega, by omega⟩ ⟨by omega, by omega⟩ (fun hc0 => ?_) (fun hc0 => ?_)
  · have hr := sp_thr_rg ok (b := nw) (k := b) hb hc0
    have fin : ∀ (q9 : List (Int × Int) × Int × Int × Bool) (h2 : Nat → va_E), jFl h2 g op nw q9.1 MD → jfg h h2 g → tf m hs cs xs nw (sp_thr m p nw b) b B B.length = q9 → ∀ L4 L5 : Option Value, jl_AW l G (jl_F G Kr Kx) m_Sg_throwFrom d 136 [some (.ref (g)), some (.int (zI (b))), some (.int (zI (sp_thr m p nw b))), some (.int (zI (q9.2.2.1))), L4, L5] [] n h2 0 0 := by
      intro q9 h2 hF2 hfr eq9 L4 L5
      refine jl_less (L' := [some (.ref (g)), some (.int (zI (b))), some (.int (zI (sp_thr m p nw b))), some (.int (zI (q9.2.2.1))), none, none]) ⟨rfl, rfl, rfl, rfl, trivial⟩ ?_
      obtain ⟨LA, LI, u0, u1, u2, u3, u4, u5⟩ := hF2
      refine jl_aload_n d_Sg_throwFrom_136 rfl rfl ?_
      refine jg_4 (q := 3) d_Sg_throwFrom_137 u0 rfl (by decide) fw_Sg_25 ?_
      refine jl_iload_n d_Sg_throwFrom_140 rfl rfl ?_
      refine jl_dup2 d_Sg_throwFrom_141 rfl rfl ?_
      refine jz_iald d_Sg_throwFrom_142 u3 (by omega) (by omega) (by omega) ?_
      refine jl_iload_n d_Sg_throwFrom_143 rfl rfl ?_
      refine jz_iadd (v := MD (b).toNat + q9.2.2.1) d_Sg_throwFrom_144 (by omega) ?_
      refine jz_iasth d_Sg_throwFrom_145 u3 (by omega) (by omega) (by omega) (fun h1 eh1 => ?_)
      have jf2 : h1 (g + 8) = jI 2 (fun j9 => zI ((va_up MD (b).toNat (MD (b).toNat + q9.2.2.1)) j9)) := by rw [eh1, va_up_self]
      refine jl_iload_n d_Sg_throwFrom_146 rfl rfl ?_
      have jf3 : h1 (g) = jO 4 [.ref (g + 1), .ref (g + 6), .ref (g + 7), .ref (g + 8), .int (zI (op)), .int (zI (nw)), .int (zI (((q9.1).length : Int)))] := by rw [eh1, va_up_ne _ _ (by omega)]; exact u0
      have jf4 : h1 (g + 6) = jI 27 (fun j9 => zI (LA j9)) := by rw [eh1, va_up_ne _ _ (by omega)]; exact u1
      have jf5 : h1 (g + 7) = jI 27 (fun j9 => zI (LI j9)) := by rw [eh1, va_up_ne _ _ (by omega)]; exact u2
      refine jl_iret d_Sg_throwFrom_147 rfl ?_
      rw [← eq9] at jf3 u4 u5 ⊢
      rw [← eq9] at jf2
      exact hk1 hc0 _ ⟨LA, LI, jf3, jf4, jf5, jf2, u4, u5⟩ (fun y q0 q1 q2 q3 => by rw [eh1, va_up_ne _ _ (by omega)]; exact hfr y q0 q1 q2 q3)
    have lp1 : ∀ (k : Nat) (j : Int) (h2 : Nat → va_E), j + k = B.length → 0 ≤ j → jFl h2 g op nw (tf m hs cs xs nw (sp_thr m p nw b) b B j.toNat).1 MD → jfg h h2 g → (tf m hs cs xs nw (sp_thr m p nw b) b B j.toNat).2.2.2 = false → jl_AW l G (jl_F G Kr Kx) m_Sg_throwFrom d 28 [some (.ref (g)), some (.int (zI (b))), some (.int (zI (sp_thr m p nw b))), some (.int (zI ((tf m hs cs xs nw (sp_thr m p nw b) b B j.toNat).2.2.1))), some (.int (zI ((tf m hs cs xs nw (sp_thr m p nw b) b B j.toNat).2.1))), some (.int (zI (j)))] [] n h2 0 0 := by
      intro k
      induction k using Nat.strongRecOn with
      | ind k ih =>
        intro j h2 hkj hj0 hF2 hfr hst
        obtain ⟨v0a, v1a, v2a, v3a, v4a⟩ := id (jfg_D hfr hD)
        obtain ⟨z1, z2, z3, z4⟩ := tf_rg m ok.2.2.2.1 nw (sp_thr m p nw b) b B j.toNat
        have zl := tf_len m hs cs xs nw (sp_thr m p nw b) b B j.toNat
        have ec : ((j.toNat : Nat) : Int) = j := by omega
        have hc9 := ok.2.2.2.1 (sp_thr m p nw b).toNat
        generalize eq9 : tf m hs cs xs nw (sp_thr m p nw b) b B j.toNat = q9 at hF2 hst z1 z2 z3 z4 zl ⊢
        obtain ⟨LA, LI, u0, u1, u2, u3, u4, u5⟩ := hF2
        have hB9 : ∀ i, i < q9.1.length → zR (q9.1.getD i (0, 0)).1 ∧ zR (q9.1.getD i (0, 0)).2 := by intro i hi; rw [← eq9] at hi ⊢; exact tf_zR ok hB hnw hb j.toNat i hi
        refine jl_iload d_Sg_throwFrom_28 rfl ?_
        refine jl_aload_n d_Sg_throwFrom_30 rfl rfl ?_
        refine jg_4 (q := 6) d_Sg_throwFrom_31 u0 rfl (by decide) fw_Sg_43 ?_
        refine jz_icmp_ge (tgt := 136) d_Sg_throwFrom_34 (by decide) ⟨by omega, by omega⟩ ⟨by omega, by omega⟩ (fun hc => ?_) (fun hc => ?_)
        · have ej : j.toNat = B.length := by omega
          refine fin q9 h2 ⟨LA, LI, u0, u1, u2, u3, u4, u5⟩ hfr (by rw [← eq9, ej]) _ _
        · have en : (j + 1).toNat = j.toNat + 1 := by omega
          have zj := hB9 j.toNat (by omega)
          have uj := u5 j.toNat (by omega)
          refine jl_aload_n d_Sg_throwFrom_37 rfl rfl ?_
          refine jg_4 (q := 1) d_Sg_throwFrom_38 u0 rfl (by decide) fw_Sg_18 ?_
          refine jl_iload d_Sg_throwFrom_41 rfl ?_
          refine jz_iald d_Sg_throwFrom_43 u1 (by omega) (by omega) (by omega) ?_
          rw [uj.1]
          refine jl_aload_n d_Sg_throwFrom_44 rfl rfl ?_
          refine jg_4 (q := 5) d_Sg_throwFrom_45 u0 rfl (by decide) fw_Sg_36 ?_
          refine jz_icmp_ne (tgt := 130) d_Sg_throwFrom_48 (by decide) ⟨by omega, by omega⟩ ⟨by omega, by omega⟩ (fun hc2 => ?_) (fun hc2 => ?_)
          · refine jz_iinc (v := j + 1) (L' := [some (.ref (g)), some (.int (zI (b))), some (.int (zI (sp_thr m p nw b))), some (.int (zI (q9.2.2.1))), some (.int (zI (q9.2.1))), some (.int (zI (j + 1)))]) d_Sg_throwFrom_130 rfl (by omega) (by decide) rfl ?_
            refine jl_goto (tgt := 28) d_Sg_throwFrom_133 (by decide) ?_
            have st9 : tf m hs cs xs nw (sp_thr m p nw b) b B (j.toNat + 1) = q9 := by show tfs m hs cs xs nw (sp_thr m p nw b) b j.toNat (tf m hs cs xs nw (sp_thr m p nw b) b B j.toNat) = _; rw [eq9]; unfold tfs; rw [if_neg (by rw [hst]; decide), if_neg (fun q => hc2 q.1)]
            have h9 := ih (k - 1) (by omega) (j + 1) h2 (by omega) (by omega)
            rw [en, st9] at h9
            exact h9 ⟨LA, LI, u0, u1, u2, u3, u4, u5⟩ hfr hst
          · refine jl_aload_n d_Sg_throwFrom_51 rfl rfl ?_
            refine jg_4 (q := 2) d_Sg_throwFrom_52 u0 rfl (by decide) fw_Sg_22 ?_
            refine jl_iload d_Sg_throwFrom_55 rfl ?_
            refine jz_iald d_Sg_throwFrom_57 u2 (by omega) (by omega) (by omega) ?_
            rw [uj.2]
            refine jl_iload_n d_Sg_throwFrom_58 rfl rfl ?_
            refine jz_icmp_ne (tgt := 130) d_Sg_throwFrom_59 (by decide) ⟨by omega, by omega⟩ ⟨by omega, by omega⟩ (fun hc3 => ?_) (fun hc3 => ?_)
            · refine jz_iinc (v := j + 1) (L' := [some (.ref (g)), some (.int (zI (b))), some (.int (zI (sp_thr m p nw b))), some (.int (zI (q9.2.2.1))), some (.int (zI (q9.2.1))), some (.int (zI (j + 1)))]) d_Sg_throwFrom_130 rfl (by omega) (by decide) rfl ?_
              refine jl_goto (tgt := 28) d_Sg_throwFrom_133 (by decide) ?_
              have st9 : tf m hs cs xs nw (sp_thr m p nw b) b B (j.toNat + 1) = q9 := by show tfs m hs cs xs nw (sp_thr m p nw b) b j.toNat (tf m hs cs xs nw (sp_thr m p nw b) b B j.toNat) = _; rw [eq9]; unfold tfs; rw [if_neg (by rw [hst]; decide), if_neg (fun q => hc3 q.2)]
              have h9 := ih (k - 1) (by omega) (j + 1) h2 (by omega) (by omega)
              rw [en, st9] at h9
              exact h9 ⟨LA, LI, u0, u1, u2, u3, u4, u5⟩ hfr hst
            · refine jl_aload_n d_Sg_throwFrom_62 rfl rfl ?_
              refine jl_iload_n d_Sg_throwFrom_63 rfl rfl ?_
              refine jl_iload d_Sg_throwFrom_64 rfl ?_
              refine jl_iconst (v := zI (1)) d_Sg_throwFrom_66 (by decide) ?_
              refine jz_iadd (v := q9.2.1 + 1) d_Sg_throwFrom_67 (by omega) ?_
              refine jl_invV (M' := m_Sg_nextThrow) (d' := d - 1) (ck' := 0) (sk' := 0) (na := 2) (as := [.int (zI (sp_thr m p nw b)), .int (zI (q9.2.1 + 1))]) (st := []) d_Sg_throwFrom_68 rfl u0 rfl mw_Sg_72 ww_Sg_nextThrow sw_Sg_nextThrow nw_Sg cw_Sg_nextThrow rfl rfl rfl (by decide +kernel) (by omega) (Nat.le_of_ble_eq_true rfl) (Nat.le_of_ble_eq_true rfl) ?_
              refine k_G_nextThrow hl9 (by omega) ⟨LA, LI, u0, u1, u2, u3, u4, u5⟩ ⟨v0a, v1a, v2a, v3a, v4a⟩ ok ⟨by omega, by omega⟩ ⟨by omega, by omega⟩ ?_
              show jl_AW _ _ _ _ _ 71 [some (.ref (g)), some (.int (zI (b))), some (.int (zI (sp_thr m p nw b))), some (.int (zI (q9.2.2.1))), some (.int (zI (q9.2.1))), some (.int (zI (j)))] [.int (zI (nx hs (sp_thr m p nw b) (cs (sp_thr m p nw b).toNat - (q9.2.1 + 1)).toNat (q9.2.1 + 1)))] n h2 _ _
              have hx9 := nx_rg hs (sp_thr m p nw b) (cs (sp_thr m p nw b).toNat - (q9.2.1 + 1)).toNat (q9.2.1 + 1)
              have ex9 : ∃ z, z = nx hs (sp_thr m p nw b) (cs (sp_thr m p nw b).toNat - (q9.2.1 + 1)).toNat (q9.2.1 + 1) := ⟨_, rfl⟩
              obtain ⟨w9, ew9⟩ := ex9
              rw [← ew9] at hx9 ⊢
              refine jl_istore (L' := [some (.ref (g)), some (.int (zI (b))), some (.int (zI (sp_thr m p nw b))), some (.int (zI (q9.2.2.1))), some (.int (zI (w9))), some (.int (zI (j)))]) d_Sg_throwFrom_71 (by decide) rfl ?_
              refine jl_iload d_Sg_throwFrom_73 rfl ?_
              refine jl_iconst (v := zI (-1)) d_Sg_throwFrom_75 (by decide) ?_
              refine jz_icmp_ne (tgt := 82) d_Sg_throwFrom_76 (by decide) ⟨by omega, by omega⟩ ⟨by omega, by omega⟩ (fun hc4 => ?_) (fun hc4 => ?_)
              · have hw9 : 0 ≤ w9 ∧ w9 < cs (sp_thr m p nw b).toNat := by omega
                have hh := ok.2.2.1 (sp_thr m p nw b * 3 + w9).toNat
                refine jl_aload_n d_Sg_throwFrom_82 rfl rfl ?_
                refine jg_4 (q := 1) d_Sg_throwFrom_83 u0 rfl (by decide) fw_Sg_18 ?_
                refine jl_iload d_Sg_throwFrom_86 rfl ?_
                refine jl_aload_n d_Sg_throwFrom_88 rfl rfl ?_
                refine jg_4 (q := 5) d_Sg_throwFrom_89 u0 rfl (by decide) fw_Sg_36 ?_
                refine jl_aload_n d_Sg_throwFrom_92 rfl rfl ?_
                refine jg_4 (q := 0) d_Sg_throwFrom_93 u0 rfl (by decide) fw_Sg_12 ?_
                refine jl_iload_n d_Sg_throwFrom_96 rfl rfl ?_
                refine jl_iload d_Sg_throwFrom_97 rfl ?_
                refine jl_invV (M' := m_Dr_heightOf) (d' := d - 1) (ck' := 0) (sk' := 0) (na := 2) (as := [.int (zI (sp_thr m p nw b)), .int (zI (w9))]) (st := [.int (zI (nw)), .int (zI (j)), .ref (g + 6)]) d_Sg_throwFrom_99 rfl v0a rfl mw_Sg_66 ww_Dr_heightOf sw_Dr_heightOf nw_Dr cw_Dr_heightOf rfl rfl rfl (by decide +kernel) (by omega) (Nat.le_of_ble_eq_true rfl) (Nat.le_of_ble_eq_true rfl) ?_
                refine k_D_heightOf hl9 (by omega) ⟨v0a, v1a, v2a, v3a, v4a⟩ ⟨by omega, by omega⟩ ⟨by omega, by omega⟩ ?_
                show jl_AW _ _ _ _ _ 102 [some (.ref (g)), some (.int (zI (b))), some (.int (zI (sp_thr m p nw b))), some (.int (zI (q9.2.2.1))), some (.int (zI (w9))), some (.int (zI (j)))] [.int (zI (hs (sp_thr m p nw b * 3 + w9).toNat)), .int (zI (nw)), .int (zI (j)), .ref (g + 6)] n h2 _ _
                refine jz_iadd (v := nw + hs (sp_thr m p nw b * 3 + w9).toNat) d_Sg_throwFrom_102 (by omega) ?_
                refine jz_iasth d_Sg_throwFrom_103 u1 (by omega) (by omega) (by omega) (fun h1 eh1 => ?_)
                have jf2 : h1 (g + 6) = jI 27 (fun j9 => zI ((va_up LA (j).toNat (nw + hs (sp_thr m p nw b * 3 + w9).toNat)) j9)) := by rw [eh1, va_up_self]
                refine jl_aload_n d_Sg_throwFrom_104 rfl rfl ?_
                have jf3 : h1 (g) = jO 4 [.ref (g + 1), .ref (g + 6), .ref (g + 7), .ref (g + 8), .int (zI (op)), .int (zI (nw)), .int (zI (((q9.1).length : Int)))] := by rw [eh1, va_up_ne _ _ (by omega)]; exact u0
                refine jg_4 (q := 2) d_Sg_throwFrom_105 jf3 rfl (by decide) fw_Sg_22 ?_
                refine jl_iload d_Sg_throwFrom_108 rfl ?_
                refine jl_aload_n d_Sg_throwFrom_110 rfl rfl ?_
                refine jg_4 (q := 0) d_Sg_throwFrom_111 jf3 rfl (by decide) fw_Sg_12 ?_
                refine jl_iload_n d_Sg_throwFrom_114 rfl rfl ?_
                refine jl_iload_n d_Sg_throwFrom_115 rfl rfl ?_
                refine jl_aload_n d_Sg_throwFrom_116 rfl rfl ?_
                refine jg_4 (q := 1) d_Sg_throwFrom_117 jf3 rfl (by decide) fw_Sg_18 ?_
                refine jl_iload d_Sg_throwFrom_120 rfl ?_
                refine jz_iald d_Sg_throwFrom_122 jf2 (by omega) (by omega) (by omega) ?_
                rw [va_up_self]
                have jf4 : h1 (g + 1) = jO 2 [.ref (g + 1 + 1), .ref (g + 1 + 2), .ref (g + 1 + 3), .ref (g + 1 + 4), .int (zI (m)), .int (zI (p))] := by rw [eh1, va_up_ne _ _ (by omega)]; exact v0a
                have jf5 : h1 (g + 1 + 1) = jI 48 (fun j9 => zI (hs j9)) := by rw [eh1, va_up_ne _ _ (by omega)]; exact v1a
                have jf6 : h1 (g + 1 + 2) = jI 16 (fun j9 => zI (cs j9)) := by rw [eh1, va_up_ne _ _ (by omega)]; exact v2a
                have jf7 : h1 (g + 1 + 3) = jI 16 (fun j9 => zI (xs j9)) := by rw [eh1, va_up_ne _ _ (by omega)]; exact v3a
                have jf8 : h1 (g + 1 + 4) = jI 16 (fun j9 => zI (sc j9)) := by rw [eh1, va_up_ne _ _ (by omega)]; exact v4a
                refine jl_invV (M' := m_Dr_landingHand) (d' := d - 1) (ck' := 0) (sk' := 0) (na := 3) (as := [.int (zI (sp_thr m p nw b)), .int (zI (b)), .int (zI (nw + hs (sp_thr m p nw b * 3 + w9).toNat))]) (st := [.int (zI (j)), .ref (g + 7)]) d_Sg_throwFrom_123 rfl jf4 rfl mw_Sg_54 ww_Dr_landingHand sw_Dr_landingHand nw_Dr cw_Dr_landingHand rfl rfl rfl (by decide +kernel) (by omega) (Nat.le_of_ble_eq_true rfl) (Nat.le_of_ble_eq_true rfl) ?_
                refine k_D_landingHand hl9 (by omega) ⟨jf4, jf5, jf6, jf7, jf8⟩ ok.1 ⟨by omega, by omega⟩ (jOk_x ok _) ⟨by omega, by omega⟩ ?_
                show jl_AW _ _ _ _ _ 126 [some (.ref (g)), some (.int (zI (b))), some (.int (zI (sp_thr m p nw b))), some (.int (zI (q9.2.2.1))), some (.int (zI (w9))), some (.int (zI (j)))] [.int (zI (sp_land m xs (sp_thr m p nw b) b (nw + hs (sp_thr m p nw b * 3 + w9).toNat))), .int (zI (j)), .ref (g + 7)] n h1 _ _
                have jf9 : h1 (g + 7) = jI 27 (fun j9 => zI (LI j9)) := by rw [eh1, va_up_ne _ _ (by omega)]; exact u2
                refine jz_iasth d_Sg_throwFrom_126 jf9 (by omega) (by omega) (by omega) (fun h10 eh10 => ?_)
                have jf11 : h10 (g + 7) = jI 27 (fun j9 => zI ((va_up LI (j).toNat (sp_land m xs (sp_thr m p nw b) b (nw + hs (sp_thr m p nw b * 3 + w9).toNat))) j9)) := by rw [eh10, va_up_self]
                refine jz_iinc (v := q9.2.2.1 + 1) (L' := [some (.ref (g)), some (.int (zI (b))), some (.int (zI (sp_thr m p nw b))), some (.int (zI (q9.2.2.1 + 1))), some (.int (zI (w9))), some (.int (zI (j)))]) d_Sg_throwFrom_127 rfl (by omega) (by decide) rfl ?_
                have jf12 : h10 (g) = jO 4 [.ref (g + 1), .ref (g + 6), .ref (g + 7), .ref (g + 8), .int (zI (op)), .int (zI (nw)), .int (zI (((q9.1).length : Int)))] := by rw [eh10, va_up_ne _ _ (by omega)]; exact jf3
                have jf13 : h10 (g + 6) = jI 27 (fun j9 => zI ((va_up LA (j).toNat (nw + hs (sp_thr m p nw b * 3 + w9).toNat)) j9)) := by rw [eh10, va_up_ne _ _ (by omega)]; exact jf2
                have jf14 : h10 (g + 8) = jI 2 (fun j9 => zI (MD j9)) := by rw [eh10, va_up_ne _ _ (by omega), eh1, va_up_ne _ _ (by omega)]; exact u3
                refine jz_iinc (v := j + 1) (L' := [some (.ref (g)), some (.int (zI (b))), some (.int (zI (sp_thr m p nw b))), some (.int (zI (q9.2.2.1 + 1))), some (.int (zI (w9))), some (.int (zI (j + 1)))]) d_Sg_throwFrom_130 rfl (by omega) (by decide) rfl ?_
                refine jl_goto (tgt := 28) d_Sg_throwFrom_133 (by decide) ?_
                have st9 : tf m hs cs xs nw (sp_thr m p nw b) b B (j.toNat + 1) = (q9.1.set j.toNat (nw + hs (sp_thr m p nw b * 3 + w9).toNat, sp_land m xs (sp_thr m p nw b) b (nw + hs (sp_thr m p nw b * 3 + w9).toNat)), w9, q9.2.2.1 + 1, false) := by show tfs m hs cs xs nw (sp_thr m p nw b) b j.toNat (tf m hs cs xs nw (sp_thr m p nw b) b B j.toNat) = _; rw [eq9]; unfold tfs; rw [if_neg (by rw [hst]; decide), if_pos ⟨hc2, hc3⟩, ← ew9, if_neg hc4]
                have h9 := ih (k - 1) (by omega) (j + 1) h10 (by omega) (by omega)
                rw [en, st9] at h9
                exact h9 ⟨_, _, by rw [List.length_set]; exact jf12, jf13, jf11, jf14, by rw [List.length_set]; exact u4, jB_set (by omega) u5⟩ (fun y q0 q1 q2 q3 => by rw [eh10, va_up_ne _ _ (by omega), eh1, va_up_ne _ _ (by omega)]; exact hfr y q0 q1 q2 q3) rfl
              · refine jl_goto (tgt := 136) d_Sg_throwFrom_79 (by decide) ?_
                have st9 : tf m hs cs xs nw (sp_thr m p nw b) b B (j.toNat + 1) = (q9.1, -1, q9.2.2.1, true) := by show tfs m hs cs xs nw (sp_thr m p nw b) b j.toNat (tf m hs cs xs nw (sp_thr m p nw b) b B j.toNat) = _; rw [eq9]; unfold tfs; rw [if_neg (by rw [hst]; decide), if_pos ⟨hc2, hc3⟩, ← ew9, if_pos hc4]
                refine fin (q9.1, -1, q9.2.2.1, true) h2 ⟨LA, LI, u0, u1, u2, u3, u4, u5⟩ hfr ?_ _ _
                have hs9 := tf_stop m hs cs xs nw (sp_thr m p nw b) b B (j := j.toNat + 1) (by rw [st9]) (B.length - (j.toNat + 1))
                rw [show j.toNat + 1 + (B.length - (j.toNat + 1)) = B.length by omega, st9] at hs9
                exact hs9
    refine jl_iconst (v := zI (0)) d_Sg_throwFrom_20 (by decide) ?_
    refine jl_istore_n (L' := [some (.ref (g)), some (.int (zI (b))), some (.int (zI (sp_thr m p nw b))), some (.int (zI (0))), none, none]) d_Sg_throwFrom_21 rfl (by decide) rfl ?_
    refine jl_iconst (v := zI (-1)) d_Sg_throwFrom_22 (by decide) ?_
    refine jl_istore (L' := [some (.ref (g)), some (.int (zI (b))), some (.int (zI (sp_thr m p nw b))), some (.int (zI (0))), some (.int (zI (-1))), none]) d_Sg_throwFrom_23 (by decide) rfl ?_
    refine jl_iconst (v := zI (0)) d_Sg_throwFrom_25 (by decide) ?_
    refine jl_istore (L' := [some (.ref (g)), some (.int (zI (b))), some (.int (zI (sp_thr m p nw b))), some (.int (zI (0))), some (.int (zI (-1))), some (.int (zI (0)))]) d_Sg_throwFrom_26 (by decide) rfl ?_
    exact lp1 B.length 0 h (by omega) (by omega) ⟨LA0, LI0, u00, u10, u20, u30, u40, u50⟩ (jfg_rf h g) rfl
  · refine jl_iconst (v := zI (0)) d_Sg_throwFrom_18 (by decide) ?_
    exact jl_iret d_Sg_throwFrom_19 rfl (hk0 hc0)
