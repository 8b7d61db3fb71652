set_option maxHeartbeats 4000000 in
set_option maxRecDepth 100000 in
/-- firstMeeting -/
theorem k_D_firstMeeting {l : Launch} {G : jl_G} {d n : Nat} {h : Nat → va_E} {Kr : Option Value → Nat → (Nat → va_E) → Prop} {Kx : String → Nat → (Nat → va_E) → Prop} (hl9 : l.stackTraces = false) (hdd : 3 ≤ d) {i : Nat} {m p : Int} {hs cs xs sc : Nat → Int} (hD : jD h i m p hs cs xs sc) (ok : jOk m p hs cs xs) (hz : ∀ j, j < 16 → sc j = 0) (hk : ∀ (r : Int) (g : Nat → Int), sp_first p (sp_A m p hs xs) (sp_B m p hs xs) r → ∀ h', h' = va_up h (i + 4) (jI 16 (fun j => zI (g j))) → Kr (some (.int (zI (r)))) n h') : jl_Call l G m_Dr_firstMeeting d [.ref (i)] n h 0 0 Kr Kx := by
  refine jl_enter hl9 (by decide) rfl (by simp [Value.category]) (Nat.le_of_ble_eq_true rfl) ?_
  show jl_AW l G (jl_F G Kr Kx) m_Dr_firstMeeting d 0 [some (.ref (i)), none, none, none] [] n h 0 0
  obtain ⟨hd0, hd1, hd2, hd3, hd4⟩ := hD
  have hp := ok.2.1
  have hm := ok.1
  have lp2 : ∀ (k : Nat) (s : Int) (g : Nat → Int) (h2 : Nat → va_E), s + k = p → 0 ≤ s → pm_I m p hs xs p g → (∀ t, 0 ≤ t → t < p → ¬ sp_A m p hs xs t) → (∀ t, 0 ≤ t → t < s → ¬ sp_B m p hs xs t) → h2 = va_up h (i + 4) (jI 16 (fun j => zI (g j))) → jl_AW l G (jl_F G Kr Kx) m_Dr_firstMeeting d 53 [some (.ref (i)), some (.int (zI (s))), none, none] [] n h2 0 0 := by
    intro k
    induction k using Nat.strongRecOn with
    | ind k ih =>
      intro s g h2 hks hs0 hI hA hB eh2
      have f0 : h2 i = jO 2 [.ref (i + 1), .ref (i + 2), .ref (i + 3), .ref (i + 4), .int (zI m), .int (zI p)] := by rw [eh2, va_up_ne _ _ (by omega)]; exact hd0
      have f1 : h2 (i + 1) = jI 48 (fun j => zI (hs j)) := by rw [eh2, va_up_ne _ _ (by omega)]; exact hd1
      have f2 : h2 (i + 2) = jI 16 (fun j => zI (cs j)) := by rw [eh2, va_up_ne _ _ (by omega)]; exact hd2
      have f3 : h2 (i + 3) = jI 16 (fun j => zI (xs j)) := by rw [eh2, va_up_ne _ _ (by omega)]; exact hd3
      have f4 : h2 (i + 4) = jI 16 (fun j => zI (g j)) := by rw [eh2, va_up_self]
      refine jl_iload_n d_Dr_firstMeeting_53 rfl rfl ?_
      refine jl_aload_n d_Dr_firstMeeting_54 rfl rfl ?_
      refine jg_2 (q := 5) d_Dr_firstMeeting_55 f0 rfl (by decide) fw_Dr_28 ?_
      refine jz_icmp_ge (tgt := 86) d_Dr_firstMeeting_58 (by decide) ⟨by omega, by omega⟩ ⟨by omega, by omega⟩ (fun hc => ?_) (fun hc => ?_)
      · refine jl_iconst (v := zI (-1)) d_Dr_firstMeeting_86 (by decide) ?_
        exact jl_iret d_Dr_firstMeeting_87 rfl (hk _ g (Or.inr ⟨hA, Or.inr ⟨fun t ht0 ht1 => hB t ht0 (by omega), rfl⟩⟩) _ eh2)
      · refine jl_aload_n d_Dr_firstMeeting_61 rfl rfl ?_
        refine jl_iload_n d_Dr_firstMeeting_62 rfl rfl ?_
        have em : s % p = s := Int.emod_eq_of_lt (by omega) (by omega)
        refine jl_invV (M' := m_Dr_firstHeight) (d' := d - 1) (ck' := 0) (sk' := 0) (na := 1) (as := [.int (zI (s))]) (st := []) d_Dr_firstMeeting_63 rfl f0 rfl mw_Dr_75 ww_Dr_firstHeight sw_Dr_firstHeight nw_Dr cw_Dr_firstHeight rfl rfl rfl (by decide +kernel) (by omega) (Nat.le_of_ble_eq_true rfl) (Nat.le_of_ble_eq_true rfl) ?_
        refine k_D_firstHeight hl9 (by omega) ⟨f0, f1, f2, f3, f4⟩ ⟨by omega, by omega⟩ hp ?_
        show jl_AW _ _ _ _ _ 66 [some (.ref (i)), some (.int (zI (s))), none, none] [.int (zI (hs (s % p * 3).toNat))] n h2 _ _
        rw [em]
        have hh := ok.2.2.1 (s * 3).toNat
        refine jz_if_ne (tgt := 80) d_Dr_firstMeeting_66 (by decide) ⟨by omega, by omega⟩ (fun hc2 => ?_) (fun hc2 => ?_)
        · refine jz_iinc (v := s + 1) (L' := [some (.ref (i)), some (.int (zI (s + 1))), none, none]) d_Dr_firstMeeting_80 rfl (by omega) (by decide) rfl ?_
          refine jl_goto (tgt := 53) d_Dr_firstMeeting_83 (by decide) ?_
          refine jl_less (L' := [some (.ref (i)), some (.int (zI (s + 1))), none, none]) ⟨rfl, rfl, trivial⟩ ?_
          refine ih (k - 1) (by omega) (s + 1) g h2 (by omega) (by omega) hI hA ?_ eh2
          intro t ht0 ht1
          by_cases hts : t = s
          · subst hts; exact fun q => hc2 q.1
          · exact hB t ht0 (by omega)
        · refine jl_aload_n d_Dr_firstMeeting_69 rfl rfl ?_
          refine jg_2 (q := 3) d_Dr_firstMeeting_70 f0 rfl (by decide) fw_Dr_21 ?_
          refine jl_iload_n d_Dr_firstMeeting_73 rfl rfl ?_
          refine jz_iald d_Dr_firstMeeting_74 f4 (by omega) (by omega) (by omega) ?_
          have hg9 := hI.2.1 s.toNat (by omega)
          refine jz_if_eq (tgt := 80) d_Dr_firstMeeting_75 (by decide) ⟨by omega, by omega⟩ (fun hc3 => ?_) (fun hc3 => ?_)
          · refine jz_iinc (v := s + 1) (L' := [some (.ref (i)), some (.int (zI (s + 1))), none, none]) d_Dr_firstMeeting_80 rfl (by omega) (by decide) rfl ?_
            refine jl_goto (tgt := 53) d_Dr_firstMeeting_83 (by decide) ?_
            refine jl_less (L' := [some (.ref (i)), some (.int (zI (s + 1))), none, none]) ⟨rfl, rfl, trivial⟩ ?_
            refine ih (k - 1) (by omega) (s + 1) g h2 (by omega) (by omega) hI hA ?_ eh2
            intro t ht0 ht1
            by_cases hts : t = s
            · subst hts; exact fun q => (hI.1 t ht0 (by omega)).mpr q.2 hc3
            · exact hB t ht0 (by omega)
          · refine jl_iload_n d_Dr_firstMeeting_78 rfl rfl ?_
            exact jl_iret d_Dr_firstMeeting_79 rfl (hk _ g (Or.inr ⟨hA, Or.inl ⟨by omega, by omega, ⟨hc2, (hI.1 s (by omega) (by omega)).mp hc3⟩, hB⟩⟩) _ eh2)
  have lp1 : ∀ (k : Nat) (s : Int) (g : Nat → Int) (h2 : Nat → va_E), s + k = p → 0 ≤ s → pm_I m p hs xs s g → h2 = va_up h (i + 4) (jI 16 (fun j => zI (g j))) → jl_AW l G (jl_F G Kr Kx) m_Dr_firstMeeting d 2 [some (.ref (i)), some (.int (zI (s))), none, none] [] n h2 0 0 := by
    intro k
    induction k using Nat.strongRecOn with
    | ind k ih =>
      intro s g h2 hks hs0 hI eh2
      have f0 : h2 i = jO 2 [.ref (i + 1), .ref (i + 2), .ref (i + 3), .ref (i + 4), .int (zI m), .int (zI p)] := by rw [eh2, va_up_ne _ _ (by omega)]; exact hd0
      have f1 : h2 (i + 1) = jI 48 (fun j => zI (hs j)) := by rw [eh2, va_up_ne _ _ (by omega)]; exact hd1
      have f2 : h2 (i + 2) = jI 16 (fun j => zI (cs j)) := by rw [eh2, va_up_ne _ _ (by omega)]; exact hd2
      have f3 : h2 (i + 3) = jI 16 (fun j => zI (xs j)) := by rw [eh2, va_up_ne _ _ (by omega)]; exact hd3
      have f4 : h2 (i + 4) = jI 16 (fun j => zI (g j)) := by rw [eh2, va_up_self]
      refine jl_iload_n d_Dr_firstMeeting_2 rfl rfl ?_
      refine jl_aload_n d_Dr_firstMeeting_3 rfl rfl ?_
      refine jg_2 (q := 5) d_Dr_firstMeeting_4 f0 rfl (by decide) fw_Dr_28 ?_
      refine jz_icmp_ge (tgt := 51) d_Dr_firstMeeting_7 (by decide) ⟨by omega, by omega⟩ ⟨by omega, by omega⟩ (fun hc => ?_) (fun hc => ?_)
      · have es : s = p := by omega
        subst es
        refine jl_iconst (v := zI (0)) d_Dr_firstMeeting_51 (by decide) ?_
        refine jl_istore_n (L' := [some (.ref (i)), some (.int (zI (0))), none, none]) d_Dr_firstMeeting_52 rfl (by decide) rfl ?_
        refine jl_less (L' := [some (.ref (i)), some (.int (zI (0))), none, none]) ⟨rfl, rfl, trivial⟩ ?_
        exact lp2 s.toNat 0 g h2 (by omega) (by omega) hI (fun t a b => hI.2.2 t a b) (fun t a b => by omega) eh2
      · refine jl_aload_n d_Dr_firstMeeting_10 rfl rfl ?_
        refine jl_iload_n d_Dr_firstMeeting_11 rfl rfl ?_
        have em : s % p = s := Int.emod_eq_of_lt (by omega) (by omega)
        refine jl_invV (M' := m_Dr_firstHeight) (d' := d - 1) (ck' := 0) (sk' := 0) (na := 1) (as := [.int (zI (s))]) (st := []) d_Dr_firstMeeting_12 rfl f0 rfl mw_Dr_75 ww_Dr_firstHeight sw_Dr_firstHeight nw_Dr cw_Dr_firstHeight rfl rfl rfl (by decide +kernel) (by omega) (Nat.le_of_ble_eq_true rfl) (Nat.le_of_ble_eq_true rfl) ?_
        refine k_D_firstHeight hl9 (by omega) ⟨f0, f1, f2, f3, f4⟩ ⟨by omega, by omega⟩ hp ?_
        show jl_AW _ _ _ _ _ 15 [some (.ref (i)), some (.int (zI (s))), none, none] [.int (zI (hs (s % p * 3).toNat))] n h2 _ _
        rw [em]
        have hh := ok.2.2.1 (s * 3).toNat
        refine jl_istore_n (L' := [some (.ref (i)), some (.int (zI (s))), some (.int (zI (hs (s * 3).toNat))), none]) d_Dr_firstMeeting_15 rfl (by decide) rfl ?_
        refine jl_iload_n d_Dr_firstMeeting_16 rfl rfl ?_
        refine jz_if_le (tgt := 45) d_Dr_firstMeeting_17 (by decide) ⟨by omega, by omega⟩ (fun hc2 => ?_) (fun hc2 => ?_)
        · refine jz_iinc (v := s + 1) (L' := [some (.ref (i)), some (.int (zI (s + 1))), some (.int (zI (hs (s * 3).toNat))), none]) d_Dr_firstMeeting_45 rfl (by omega) (by decide) rfl ?_
          refine jl_goto (tgt := 2) d_Dr_firstMeeting_48 (by decide) ?_
          refine jl_less (L' := [some (.ref (i)), some (.int (zI (s + 1))), none, none]) ⟨rfl, rfl, trivial⟩ ?_
          exact ih (k - 1) (by omega) (s + 1) g h2 (by omega) (by omega) (pm_skip hI (by omega)) eh2
        · have hev : m = 2 → hs (s * 3).toNat % 2 = 0 := fun hm2 => by have := (ok.2.2.2.2.2 hm2).2 s.toNat; rw [show 3 * s.toNat = (s * 3).toNat by omega] at this; exact this
          have hr := sp_tgt_rg ok (s := s) hev
          refine jl_aload_n d_Dr_firstMeeting_20 rfl rfl ?_
          refine jl_iload_n d_Dr_firstMeeting_21 rfl rfl ?_
          refine jl_iload_n d_Dr_firstMeeting_22 rfl rfl ?_
          refine jl_invV (M' := m_Dr_landingSite) (d' := d - 1) (ck' := 0) (sk' := 0) (na := 2) (as := [.int (zI (s)), .int (zI (hs (s * 3).toNat))]) (st := []) d_Dr_firstMeeting_23 rfl f0 rfl mw_Dr_72 ww_Dr_landingSite sw_Dr_landingSite nw_Dr cw_Dr_landingSite rfl rfl rfl (by decide +kernel) (by omega) (Nat.le_of_ble_eq_true rfl) (Nat.le_of_ble_eq_true rfl) ?_
          refine k_D_landingSite hl9 (by omega) ⟨f0, f1, f2, f3, f4⟩ hm hp ⟨by omega, by omega⟩ ⟨by omega, by omega⟩ (jOk_x ok _) ?_
          show jl_AW _ _ _ _ _ 26 [some (.ref (i)), some (.int (zI (s))), some (.int (zI (hs (s * 3).toNat))), none] [.int (zI (sp_tgt m p xs s (hs (s * 3).toNat)))] n h2 _ _
          refine jl_istore_n (L' := [some (.ref (i)), some (.int (zI (s))), some (.int (zI (hs (s * 3).toNat))), some (.int (zI (sp_tgt m p xs s (hs (s * 3).toNat))))]) d_Dr_firstMeeting_26 rfl (by decide) rfl ?_
          refine jl_aload_n d_Dr_firstMeeting_27 rfl rfl ?_
          refine jg_2 (q := 3) d_Dr_firstMeeting_28 f0 rfl (by decide) fw_Dr_21 ?_
          refine jl_iload_n d_Dr_firstMeeting_31 rfl rfl ?_
          refine jz_iald d_Dr_firstMeeting_32 f4 (by omega) (by omega) (by omega) ?_
          have hg9 := hI.2.1 (sp_tgt m p xs s (hs (s * 3).toNat)).toNat (by omega)
          refine jz_if_eq (tgt := 38) d_Dr_firstMeeting_33 (by decide) ⟨by omega, by omega⟩ (fun hc3 => ?_) (fun hc3 => ?_)
          · refine jl_aload_n d_Dr_firstMeeting_38 rfl rfl ?_
            refine jg_2 (q := 3) d_Dr_firstMeeting_39 f0 rfl (by decide) fw_Dr_21 ?_
            refine jl_iload_n d_Dr_firstMeeting_42 rfl rfl ?_
            refine jl_iconst (v := zI (1)) d_Dr_firstMeeting_43 (by decide) ?_
            refine jz_iasth d_Dr_firstMeeting_44 f4 (by omega) (by omega) (by omega) (fun h1 eh1 => ?_)
            have jf2 : h1 (i + 4) = jI 16 (fun j => zI ((va_up g (sp_tgt m p xs s (hs (s * 3).toNat)).toNat (1)) j)) := by rw [eh1, va_up_self]
            refine jz_iinc (v := s + 1) (L' := [some (.ref (i)), some (.int (zI (s + 1))), some (.int (zI (hs (s * 3).toNat))), some (.int (zI (sp_tgt m p xs s (hs (s * 3).toNat))))]) d_Dr_firstMeeting_45 rfl (by omega) (by decide) rfl ?_
            refine jl_goto (tgt := 2) d_Dr_firstMeeting_48 (by decide) ?_
            refine jl_less (L' := [some (.ref (i)), some (.int (zI (s + 1))), none, none]) ⟨rfl, rfl, trivial⟩ ?_
            exact ih (k - 1) (by omega) (s + 1) _ h1 (by omega) (by omega) (pm_put ok hI (by omega) hr (by omega) hc3) (by rw [eh1, eh2, bx_uu])
          · refine jl_iload_n d_Dr_firstMeeting_36 rfl rfl ?_
            exact jl_iret d_Dr_firstMeeting_37 rfl (hk _ g (Or.inl (pm_hit ok hI ⟨by omega, by omega⟩ hr (by omega) hc3)) _ eh2)
  refine jl_iconst (v := zI (0)) d_Dr_firstMeeting_0 (by decide) ?_
  refine jl_istore_n (L' := [some (.ref (i)), some (.int (zI (0))), none, none]) d_Dr_firstMeeting_1 rfl (by decide) rfl ?_
  exact lp1 p.toNat 0 sc h (by omega) (by omega) (pm_0 hz) (va_up_id hd4).symm
set_option maxHeartbeats 4000000 in
set_option maxRecDepth 100000 in
/-- firstUneven -/
theorem k_D_firstUneven {l : Launch} {G : jl_G} {d n : Nat} {h : Nat → va_E} {Kr : Option Value → Nat → (Nat → va_E) → Prop} {Kx : String → Nat → (Nat → va_E) → Prop} (hl9 : l.stackTraces = false) (hdd : 3 ≤ d) {i : Nat} {m p : Int} {hs cs xs sc : Nat → Int} (hD : jD h i m p hs cs xs sc) (ok : jOk m p hs cs xs) (hm1 : m = 1) (hz : ∀ j, j < 16 → sc j = 0) (hk : ∀ (r : Int) (g : Nat → Int), sp_first p (fun s => ¬ un_s m p hs cs xs s p.toNat = 0) (fun _ => False) r → ∀ h', h' = va_up h (i + 4) (jI 16 (fun j => zI (g j))) → Kr (some (.int (zI (r)))) n h') : jl_Call l G m_Dr_firstUneven d [.ref (i)] n h 0 0 Kr Kx := by
  refine jl_enter hl9 (by decide) rfl (by simp [Value.category]) (Nat.le_of_ble_eq_true rfl) ?_
  show jl_AW l G (jl_F G Kr Kx) m_Dr_firstUneven d 0 [some (.ref (i)), none, none, none] [] n h 0 0
  obtain ⟨hd0, hd1, hd2, hd3, hd4⟩ := hD
  have hp := ok.2.1
  have hm := ok.1
  have lp2 : ∀ (k : Nat) (s : Int) (g : Nat → Int) (h2 : Nat → va_E), s + k = p → 0 ≤ s → (∀ j : Int, 0 ≤ j → j < 16 → g j.toNat = un_s m p hs cs xs j p.toNat) → (∀ t, 0 ≤ t → t < s → ¬ ¬ un_s m p hs cs xs t p.toNat = 0) → h2 = va_up h (i + 4) (jI 16 (fun j => zI (g j))) → jl_AW l G (jl_F G Kr Kx) m_Dr_firstUneven d 72 [some (.ref (i)), some (.int (zI (s))), none, none] [] n h2 0 0 := by
    intro k
    induction k using Nat.strongRecOn with
    | ind k ih =>
      intro s g h2 hks hs0 hg hB eh2
      have f0 : h2 i = jO 2 [.ref (i + 1), .ref (i + 2), .ref (i + 3), .ref (i + 4), .int (zI m), .int (zI p)] := by rw [eh2, va_up_ne _ _ (by omega)]; exact hd0
      have f1 : h2 (i + 1) = jI 48 (fun j => zI (hs j)) := by rw [eh2, va_up_ne _ _ (by omega)]; exact hd1
      have f2 : h2 (i + 2) = jI 16 (fun j => zI (cs j)) := by rw [eh2, va_up_ne _ _ (by omega)]; exact hd2
      have f3 : h2 (i + 3) = jI 16 (fun j => zI (xs j)) := by rw [eh2, va_up_ne _ _ (by omega)]; exact hd3
      have f4 : h2 (i + 4) = jI 16 (fun j => zI (g j)) := by rw [eh2, va_up_self]
      refine jl_iload_n d_Dr_firstUneven_72 rfl rfl ?_
      refine jl_aload_n d_Dr_firstUneven_73 rfl rfl ?_
      refine jg_2 (q := 5) d_Dr_firstUneven_74 f0 rfl (by decide) fw_Dr_28 ?_
      refine jz_icmp_ge (tgt := 97) d_Dr_firstUneven_77 (by decide) ⟨by omega, by omega⟩ ⟨by omega, by omega⟩ (fun hc => ?_) (fun hc => ?_)
      · refine jl_iconst (v := zI (-1)) d_Dr_firstUneven_97 (by decide) ?_
        exact jl_iret d_Dr_firstUneven_98 rfl (hk _ g (Or.inr ⟨fun t ht0 ht1 => hB t ht0 (by omega), Or.inr ⟨fun t _ _ q => q, rfl⟩⟩) _ eh2)
      · refine jl_aload_n d_Dr_firstUneven_80 rfl rfl ?_
        refine jg_2 (q := 3) d_Dr_firstUneven_81 f0 rfl (by decide) fw_Dr_21 ?_
        refine jl_iload_n d_Dr_firstUneven_84 rfl rfl ?_
        refine jz_iald d_Dr_firstUneven_85 f4 (by omega) (by omega) (by omega) ?_
        have hg9 := hg s (by omega) (by omega)
        have hr9 := un_s_rg (m := m) (p := p) (hs := hs) (xs := xs) ok.2.2.2.1 s p.toNat
        refine jz_if_eq (tgt := 91) d_Dr_firstUneven_86 (by decide) ⟨by omega, by omega⟩ (fun hc3 => ?_) (fun hc3 => ?_)
        · refine jz_iinc (v := s + 1) (L' := [some (.ref (i)), some (.int (zI (s + 1))), none, none]) d_Dr_firstUneven_91 rfl (by omega) (by decide) rfl ?_
          refine jl_goto (tgt := 72) d_Dr_firstUneven_94 (by decide) ?_
          refine jl_less (L' := [some (.ref (i)), some (.int (zI (s + 1))), none, none]) ⟨rfl, rfl, trivial⟩ ?_
          refine ih (k - 1) (by omega) (s + 1) g h2 (by omega) (by omega) hg ?_ eh2
          intro t ht0 ht1
          by_cases hts : t = s
          · subst hts; exact fun q => q (by rw [← hg9]; exact hc3)
          · exact hB t ht0 (by omega)
        · refine jl_iload_n d_Dr_firstUneven_89 rfl rfl ?_
          exact jl_iret d_Dr_firstUneven_90 rfl (hk _ g (Or.inl ⟨by omega, by omega, fun q => hc3 (by rw [hg9]; exact q), hB⟩) _ eh2)
  have lp1 : ∀ (k : Nat) (s : Int) (g : Nat → Int) (h2 : Nat → va_E), s + k = p → 0 ≤ s → (∀ j : Int, 0 ≤ j → j < 16 → g j.toNat = un_s m p hs cs xs j s.toNat) → h2 = va_up h (i + 4) (jI 16 (fun j => zI (g j))) → jl_AW l G (jl_F G Kr Kx) m_Dr_firstUneven d 2 [some (.ref (i)), some (.int (zI (s))), none, none] [] n h2 0 0 := by
    intro k
    induction k using Nat.strongRecOn with
    | ind k ih =>
      intro s g h2 hks hs0 hg eh2
      have lpi : ∀ (k2 : Nat) (w : Int) (g : Nat → Int) (h2 : Nat → va_E), w + k2 = cs s.toNat → 0 ≤ w → (∀ j : Int, 0 ≤ j → j < 16 → g j.toNat = un_s m p hs cs xs j s.toNat + un_w m p hs xs s j w.toNat) → h2 = va_up h (i + 4) (jI 16 (fun j => zI (g j))) → s < p → jl_AW l G (jl_F G Kr Kx) m_Dr_firstUneven d 12 [some (.ref (i)), some (.int (zI (s))), some (.int (zI (w))), none] [] n h2 0 0 := by
        intro k2
        induction k2 using Nat.strongRecOn with
        | ind k2 ih2 =>
          intro w g h2 hkw hw0 hg eh2 hsp
          have f0 : h2 i = jO 2 [.ref (i + 1), .ref (i + 2), .ref (i + 3), .ref (i + 4), .int (zI m), .int (zI p)] := by rw [eh2, va_up_ne _ _ (by omega)]; exact hd0
          have f1 : h2 (i + 1) = jI 48 (fun j => zI (hs j)) := by rw [eh2, va_up_ne _ _ (by omega)]; exact hd1
          have f2 : h2 (i + 2) = jI 16 (fun j => zI (cs j)) := by rw [eh2, va_up_ne _ _ (by omega)]; exact hd2
          have f3 : h2 (i + 3) = jI 16 (fun j => zI (xs j)) := by rw [eh2, va_up_ne _ _ (by omega)]; exact hd3
          have f4 : h2 (i + 4) = jI 16 (fun j => zI (g j)) := by rw [eh2, va_up_self]
          refine jl_iload_n d_Dr_firstUneven_12 rfl rfl ?_
          refine jl_aload_n d_Dr_firstUneven_13 rfl rfl ?_
          refine jg_2 (q := 1) d_Dr_firstUneven_14 f0 rfl (by decide) fw_Dr_15 ?_
          refine jl_iload_n d_Dr_firstUneven_17 rfl rfl ?_
          refine jz_iald d_Dr_firstUneven_18 f2 (by omega) (by omega) (by omega) ?_
          have hc9 := ok.2.2.2.1 s.toNat
          refine jz_icmp_ge (tgt := 64) d_Dr_firstUneven_19 (by decide) ⟨by omega, by omega⟩ ⟨by omega, by omega⟩ (fun hc => ?_) (fun hc => ?_)
          · refine jz_iinc (v := s + 1) (L' := [some (.ref (i)), some (.int (zI (s + 1))), some (.int (zI (w))), none]) d_Dr_firstUneven_64 rfl (by omega) (by decide) rfl ?_
            refine jl_goto (tgt := 2) d_Dr_firstUneven_67 (by decide) ?_
            refine jl_less (L' := [some (.ref (i)), some (.int (zI (s + 1))), none, none]) ⟨rfl, rfl, trivial⟩ ?_
            refine ih (k - 1) (by omega) (s + 1) g h2 (by omega) (by omega) ?_ eh2
            intro j hj0 hj1
            rw [hg j hj0 hj1, show (s + 1).toNat = s.toNat + 1 by omega, un_s, show ((s.toNat : Nat) : Int) = s by omega, show w.toNat = (cs s.toNat).toNat by omega]
          · refine jl_aload_n d_Dr_firstUneven_22 rfl rfl ?_
            refine jl_iload_n d_Dr_firstUneven_23 rfl rfl ?_
            refine jl_iload_n d_Dr_firstUneven_24 rfl rfl ?_
            refine jl_invV (M' := m_Dr_heightOf) (d' := d - 1) (ck' := 0) (sk' := 0) (na := 2) (as := [.int (zI (s)), .int (zI (w))]) (st := []) d_Dr_firstUneven_25 rfl f0 rfl mw_Dr_69 ww_Dr_heightOf sw_Dr_heightOf nw_Dr cw_Dr_heightOf rfl rfl rfl (by decide +kernel) (by omega) (Nat.le_of_ble_eq_true rfl) (Nat.le_of_ble_eq_true rfl) ?_
            refine k_D_heightOf hl9 (by omega) ⟨f0, f1, f2, f3, f4⟩ ⟨by omega, by omega⟩ ⟨by omega, by omega⟩ ?_
            show jl_AW _ _ _ _ _ 28 [some (.ref (i)), some (.int (zI (s))), some (.int (zI (w))), none] [.int (zI (hs (s * 3 + w).toNat))] n h2 _ _
            have hh := ok.2.2.1 (s * 3 + w).toNat
            refine jl_istore_n (L' := [some (.ref (i)), some (.int (zI (s))), some (.int (zI (w))), some (.int (zI (hs (s * 3 + w).toNat)))]) d_Dr_firstUneven_28 rfl (by decide) rfl ?_
            refine jl_iload_n d_Dr_firstUneven_29 rfl rfl ?_
            refine jz_if_le (tgt := 58) d_Dr_firstUneven_30 (by decide) ⟨by omega, by omega⟩ (fun hc2 => ?_) (fun hc2 => ?_)
            · refine jz_iinc (v := w + 1) (L' := [some (.ref (i)), some (.int (zI (s))), some (.int (zI (w + 1))), some (.int (zI (hs (s * 3 + w).toNat)))]) d_Dr_firstUneven_58 rfl (by omega) (by decide) rfl ?_
              refine jl_goto (tgt := 12) d_Dr_firstUneven_61 (by decide) ?_
              refine jl_less (L' := [some (.ref (i)), some (.int (zI (s))), some (.int (zI (w + 1))), none]) ⟨rfl, rfl, rfl, trivial⟩ ?_
              refine ih2 (k2 - 1) (by omega) (w + 1) (g) h2 (by omega) (by omega) ?_ eh2 hsp
              intro j hj0 hj1
              rw [show (w + 1).toNat = w.toNat + 1 by omega, un_w, show s * 3 + ((w.toNat : Nat) : Int) = s * 3 + w by omega]
              rw [if_neg (by omega), hg j hj0 hj1]
              omega
            · have hev : m = 2 → hs (s * 3 + w).toNat % 2 = 0 := fun hm2 => by omega
              have hr := sp_tgt_rg ok (s := s) hev
              refine jl_aload_n d_Dr_firstUneven_33 rfl rfl ?_
              refine jg_2 (q := 3) d_Dr_firstUneven_34 f0 rfl (by decide) fw_Dr_21 ?_
              refine jl_iload_n d_Dr_firstUneven_37 rfl rfl ?_
              refine jl_dup2 d_Dr_firstUneven_38 rfl rfl ?_
              refine jz_iald d_Dr_firstUneven_39 f4 (by omega) (by omega) (by omega) ?_
              refine jl_iconst (v := zI (1)) d_Dr_firstUneven_40 (by decide) ?_
              refine jz_isub (v := g (s).toNat - 1) d_Dr_firstUneven_41 (by omega) ?_
              refine jz_iasth d_Dr_firstUneven_42 f4 (by omega) (by omega) (by omega) (fun h1 eh1 => ?_)
              have jf2 : h1 (i + 4) = jI 16 (fun j => zI ((va_up g (s).toNat (g (s).toNat - 1)) j)) := by rw [eh1, va_up_self]
              refine jl_aload_n d_Dr_firstUneven_43 rfl rfl ?_
              have jf3 : h1 (i) = jO 2 [.ref (i + 1), .ref (i + 2), .ref (i + 3), .ref (i + 4), .int (zI (m)), .int (zI (p))] := by rw [eh1, va_up_ne _ _ (by omega)]; exact f0
              refine jg_2 (q := 3) d_Dr_firstUneven_44 jf3 rfl (by decide) fw_Dr_21 ?_
              refine jl_aload_n d_Dr_firstUneven_47 rfl rfl ?_
              refine jl_iload_n d_Dr_firstUneven_48 rfl rfl ?_
              refine jl_iload_n d_Dr_firstUneven_49 rfl rfl ?_
              have jf4 : h1 (i + 1) = jI 48 (fun j => zI (hs j)) := by rw [eh1, va_up_ne _ _ (by omega)]; exact f1
              have jf5 : h1 (i + 2) = jI 16 (fun j => zI (cs j)) := by rw [eh1, va_up_ne _ _ (by omega)]; exact f2
              have jf6 : h1 (i + 3) = jI 16 (fun j => zI (xs j)) := by rw [eh1, va_up_ne _ _ (by omega)]; exact f3
              refine jl_invV (M' := m_Dr_landingSite) (d' := d - 1) (ck' := 0) (sk' := 0) (na := 2) (as := [.int (zI (s)), .int (zI (hs (s * 3 + w).toNat))]) (st := [.ref (i + 4)]) d_Dr_firstUneven_50 rfl jf3 rfl mw_Dr_72 ww_Dr_landingSite sw_Dr_landingSite nw_Dr cw_Dr_landingSite rfl rfl rfl (by decide +kernel) (by omega) (Nat.le_of_ble_eq_true rfl) (Nat.le_of_ble_eq_true rfl) ?_
              refine k_D_landingSite hl9 (by omega) ⟨jf3, jf4, jf5, jf6, jf2⟩ hm hp ⟨by omega, by omega⟩ ⟨by omega, by omega⟩ (jOk_x ok _) ?_
              show jl_AW _ _ _ _ _ 53 [some (.ref (i)), some (.int (zI (s))), some (.int (zI (w))), some (.int (zI (hs (s * 3 + w).toNat)))] [.int (zI (sp_tgt m p xs s (hs (s * 3 + w).toNat))), .ref (i + 4)] n h1 _ _
              refine jl_dup2 d_Dr_firstUneven_53 rfl rfl ?_
              refine jz_iald d_Dr_firstUneven_54 jf2 (by omega) (by omega) (by omega) ?_
              refine jl_iconst (v := zI (1)) d_Dr_firstUneven_55 (by decide) ?_
              refine jz_iadd (v := va_up g (s).toNat (g (s).toNat - 1) (sp_tgt m p xs s (hs (s * 3 + w).toNat)).toNat + 1) d_Dr_firstUneven_56 (by omega) ?_
              refine jz_iasth d_Dr_firstUneven_57 jf2 (by omega) (by omega) (by omega) (fun h7 eh7 => ?_)
              have jf8 : h7 (i + 4) = jI 16 (fun j => zI ((va_up ((va_up g (s).toNat (g (s).toNat - 1))) (sp_tgt m p xs s (hs (s * 3 + w).toNat)).toNat (va_up g (s).toNat (g (s).toNat - 1) (sp_tgt m p xs s (hs (s * 3 + w).toNat)).toNat + 1)) j)) := by rw [eh7, va_up_self]
              refine jz_iinc (v := w + 1) (L' := [some (.ref (i)), some (.int (zI (s))), some (.int (zI (w + 1))), some (.int (zI (hs (s * 3 + w).toNat)))]) d_Dr_firstUneven_58 rfl (by omega) (by decide) rfl ?_
              refine jl_goto (tgt := 12) d_Dr_firstUneven_61 (by decide) ?_
              refine jl_less (L' := [some (.ref (i)), some (.int (zI (s))), some (.int (zI (w + 1))), none]) ⟨rfl, rfl, rfl, trivial⟩ ?_
              refine ih2 (k2 - 1) (by omega) (w + 1) (va_up (va_up g (s).toNat (g (s).toNat - 1)) (sp_tgt m p xs s (hs (s * 3 + w).toNat)).toNat (va_up g (s).toNat (g (s).toNat - 1) (sp_tgt m p xs s (hs (s * 3 + w).toNat)).toNat + 1)) h7 (by omega) (by omega) ?_ (by rw [eh7, eh1, eh2, bx_uu, bx_uu]) hsp
              intro j hj0 hj1
              rw [show (w + 1).toNat = w.toNat + 1 by omega, un_w, show s * 3 + ((w.toNat : Nat) : Int) = s * 3 + w by omega]
              rw [if_pos (by omega), un_put hg ⟨by omega, by omega⟩ ⟨by omega, by omega⟩ j hj0 hj1]
              omega
      have f0 : h2 i = jO 2 [.ref (i + 1), .ref (i + 2), .ref (i + 3), .ref (i + 4), .int (zI m), .int (zI p)] := by rw [eh2, va_up_ne _ _ (by omega)]; exact hd0
      have f1 : h2 (i + 1) = jI 48 (fun j => zI (hs j)) := by rw [eh2, va_up_ne _ _ (by omega)]; exact hd1
      have f2 : h2 (i + 2) = jI 16 (fun j => zI (cs j)) := by rw [eh2, va_up_ne _ _ (by omega)]; exact hd2
      have f3 : h2 (i + 3) = jI 16 (fun j => zI (xs j)) := by rw [eh2, va_up_ne _ _ (by omega)]; exact hd3
      have f4 : h2 (i + 4) = jI 16 (fun j => zI (g j)) := by rw [eh2, va_up_self]
      refine jl_iload_n d_Dr_firstUneven_2 rfl rfl ?_
      refine jl_aload_n d_Dr_firstUneven_3 rfl rfl ?_
      refine jg_2 (q := 5) d_Dr_firstUneven_4 f0 rfl (by decide) fw_Dr_28 ?_
      refine jz_icmp_ge (tgt := 70) d_Dr_firstUneven_7 (by decide) ⟨by omega, by omega⟩ ⟨by omega, by omega⟩ (fun hc => ?_) (fun hc => ?_)
      · have es : s = p := by omega
        subst es
        refine jl_iconst (v := zI (0)) d_Dr_firstUneven_70 (by decide) ?_
        refine jl_istore_n (L' := [some (.ref (i)), some (.int (zI (0))), none, none]) d_Dr_firstUneven_71 rfl (by decide) rfl ?_
        refine jl_less (L' := [some (.ref (i)), some (.int (zI (0))), none, none]) ⟨rfl, rfl, trivial⟩ ?_
        exact lp2 s.toNat 0 g h2 (by omega) (by omega) hg (fun t a b => by omega) eh2
      · have hc9 := ok.2.2.2.1 s.toNat
        refine jl_iconst (v := zI (0)) d_Dr_firstUneven_10 (by decide) ?_
        refine jl_istore_n (L' := [some (.ref (i)), some (.int (zI (s))), some (.int (zI (0))), none]) d_Dr_firstUneven_11 rfl (by decide) rfl ?_
        refine jl_less (L' := [some (.ref (i)), some (.int (zI (s))), some (.int (zI (0))), none]) ⟨rfl, rfl, rfl, trivial⟩ ?_
        exact lpi (cs s.toNat).toNat 0 g h2 (by omega) (by omega) (fun j a b => by rw [hg j a b, show (0 : Int).toNat = 0 from rfl, un_w]; omega) eh2 (by omega)
  refine jl_iconst (v := zI (0)) d_Dr_firstUneven_0 (by decide) ?_
  refine jl_istore_n (L' := [some (.ref (i)), some (.int (zI (0))), none, none]) d_Dr_firstUneven_1 rfl (by decide) rfl ?_
  exact lp1 p.toNat 0 sc h (by omega) (by omega) (fun j a b => by rw [hz _ (by omega)]; rfl) (va_up_id hd4).symm
