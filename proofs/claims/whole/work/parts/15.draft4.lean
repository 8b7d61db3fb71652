set_option maxHeartbeats 4000000 in
set_option maxRecDepth 100000 in
theorem k_D_firstClash {l : Launch} {G : jl_G} {d n : Nat} {h : Nat → va_E} {Kr : Option Value → Nat → (Nat → va_E) → Prop} {Kx : String → Nat → (Nat → va_E) → Prop} (hl9 : l.stackTraces = false) (hdd : 4 ≤ d) {i : Nat} {m p : Int} {hs cs xs sc : Nat → Int} (hD : jD h i m p hs cs xs sc) (ok : jOk m p hs cs xs) (hk : ∀ (r : Int) (g : Nat → Int), sp_clash m p hs cs xs r → ∀ h', h' = va_up h (i + 4) (jI 16 (fun j => zI (g j))) → Kr (some (.int (zI (r)))) n h') : jl_Call l G m_Dr_firstClash d [.ref (i)] n h 0 0 Kr Kx := by
  refine jl_enter hl9 (by decide) rfl (by simp [Value.category]) (Nat.le_of_ble_eq_true rfl) ?_
  show jl_AW l G (jl_F G Kr Kx) m_Dr_firstClash d 0 [some (.ref (i))] [] n h 0 0
  obtain ⟨hd0, hd1, hd2, hd3, hd4⟩ := hD
  refine jl_aload_n d_Dr_firstClash_0 rfl rfl ?_
  refine jg_2 (q := 3) d_Dr_firstClash_1 hd0 rfl (by decide) fw_Dr_21 ?_
  refine jl_iconst (v := zI (0)) d_Dr_firstClash_4 (by decide) ?_
  refine jl_invS (M' := m_Ar_fill) (d' := d - 1) (ck' := 0) (sk' := 0) (na := 2) (as := [.ref (i + 4), .int (zI (0))]) (st := []) d_Dr_firstClash_5 rfl mw_Dr_31 ww_Ar_fill nw_Ar cw_Ar_fill rfl rfl rfl (by decide +kernel) (by omega) (Nat.le_of_ble_eq_true rfl) (Nat.le_of_ble_eq_true rfl) ?_
  refine k_fill hl9 (by omega) hd4 (by decide) ?_
  show jl_AW _ _ _ _ _ 8 [some (.ref (i))] [] n (va_up h (i + 4) (jI 16 (fun j => zI (jfill 16 0 sc j)))) _ _
  obtain ⟨h2, eh2⟩ : ∃ z, z = va_up h (i + 4) (jI 16 (fun j => zI (jfill 16 0 sc j))) := ⟨_, rfl⟩
  rw [← eh2]
  obtain ⟨g, eg⟩ : ∃ z, z = jfill 16 0 sc := ⟨_, rfl⟩
  rw [← eg] at eh2
  have hz : ∀ j, j < 16 → g j = 0 := fun j hj => by rw [eg]; simp [jfill, hj]
  have f0 : h2 i = jO 2 [.ref (i + 1), .ref (i + 2), .ref (i + 3), .ref (i + 4), .int (zI m), .int (zI p)] := by rw [eh2, va_up_ne _ _ (by omega)]; exact hd0
  have f1 : h2 (i + 1) = jI 48 (fun j => zI (hs j)) := by rw [eh2, va_up_ne _ _ (by omega)]; exact hd1
  have f2 : h2 (i + 2) = jI 16 (fun j => zI (cs j)) := by rw [eh2, va_up_ne _ _ (by omega)]; exact hd2
  have f3 : h2 (i + 3) = jI 16 (fun j => zI (xs j)) := by rw [eh2, va_up_ne _ _ (by omega)]; exact hd3
  have f4 : h2 (i + 4) = jI 16 (fun j => zI (g j)) := by rw [eh2, va_up_self]
  refine jl_aload_n d_Dr_firstClash_8 rfl rfl ?_
  refine jg_2 (q := 4) d_Dr_firstClash_9 f0 rfl (by decide) fw_Dr_24 ?_
  refine jl_iconst (v := zI (1)) d_Dr_firstClash_12 (by decide) ?_
  have hm := ok.1
  refine jz_icmp_ne (tgt := 23) d_Dr_firstClash_13 (by decide) ⟨by omega, by omega⟩ ⟨by omega, by omega⟩ (fun hc => ?_) (fun hc => ?_)
  · refine jl_aload_n d_Dr_firstClash_23 rfl rfl ?_
    refine jl_invV (M' := m_Dr_firstMeeting) (d' := d - 1) (ck' := 0) (sk' := 0) (na := 0) (as := []) (st := []) d_Dr_firstClash_24 rfl f0 rfl mw_Dr_66 ww_Dr_firstMeeting sw_Dr_firstMeeting nw_Dr cw_Dr_firstMeeting rfl rfl rfl (by decide +kernel) (by omega) (Nat.le_of_ble_eq_true rfl) (Nat.le_of_ble_eq_true rfl) ?_
    refine k_D_firstMeeting hl9 (by omega) ⟨f0, f1, f2, f3, f4⟩ ok hz (fun r g2 hr h3 eh3 => ?_)
    show jl_AW _ _ _ _ _ 27 [some (.ref (i))] [.int (zI (r))] n h3 _ _
    exact jl_iret d_Dr_firstClash_27 rfl (hk r g2 (by unfold sp_clash; rw [if_neg hc]; exact hr) h3 (by rw [eh3, eh2, bx_uu]))
  · refine jl_aload_n d_Dr_firstClash_16 rfl rfl ?_
    refine jl_invV (M' := m_Dr_firstUneven) (d' := d - 1) (ck' := 0) (sk' := 0) (na := 0) (as := []) (st := []) d_Dr_firstClash_17 rfl f0 rfl mw_Dr_63 ww_Dr_firstUneven sw_Dr_firstUneven nw_Dr cw_Dr_firstUneven rfl rfl rfl (by decide +kernel) (by omega) (Nat.le_of_ble_eq_true rfl) (Nat.le_of_ble_eq_true rfl) ?_
    refine k_D_firstUneven hl9 (by omega) ⟨f0, f1, f2, f3, f4⟩ ok hc hz (fun r g2 hr h3 eh3 => ?_)
    show jl_AW _ _ _ _ _ 20 [some (.ref (i))] [.int (zI (r))] n h3 _ _
    refine jl_goto (tgt := 27) d_Dr_firstClash_20 (by decide) ?_
    exact jl_iret d_Dr_firstClash_27 rfl (hk r g2 (by unfold sp_clash; rw [if_pos hc]; exact hr) h3 (by rw [eh3, eh2, bx_uu]))
set_option maxHeartbeats 4000000 in
set_option maxRecDepth 100000 in
theorem k_D_isValid {l : Launch} {G : jl_G} {d n : Nat} {h : Nat → va_E} {Kr : Option Value → Nat → (Nat → va_E) → Prop} {Kx : String → Nat → (Nat → va_E) → Prop} (hl9 : l.stackTraces = false) (hdd : 5 ≤ d) {i : Nat} {m p : Int} {hs cs xs sc : Nat → Int} (hD : jD h i m p hs cs xs sc) (ok : jOk m p hs cs xs) (hk : ∀ (b : Int) (g : Nat → Int), sp_is (sp_val m p hs cs xs) b → ∀ h', h' = va_up h (i + 4) (jI 16 (fun j => zI (g j))) → Kr (some (.int (zI (b)))) n h') : jl_Call l G m_Dr_isValid d [.ref (i)] n h 0 0 Kr Kx := by
  refine jl_enter hl9 (by decide) rfl (by simp [Value.category]) (Nat.le_of_ble_eq_true rfl) ?_
  show jl_AW l G (jl_F G Kr Kx) m_Dr_isValid d 0 [some (.ref (i))] [] n h 0 0
  obtain ⟨hd0, hd1, hd2, hd3, hd4⟩ := hD
  refine jl_aload_n d_Dr_isValid_0 rfl rfl ?_
  refine jl_invV (M' := m_Dr_firstClash) (d' := d - 1) (ck' := 0) (sk' := 0) (na := 0) (as := []) (st := []) d_Dr_isValid_1 rfl hd0 rfl mw_Dr_55 ww_Dr_firstClash sw_Dr_firstClash nw_Dr cw_Dr_firstClash rfl rfl rfl (by decide +kernel) (by omega) (Nat.le_of_ble_eq_true rfl) (Nat.le_of_ble_eq_true rfl) ?_
  refine k_D_firstClash hl9 (by omega) ⟨hd0, hd1, hd2, hd3, hd4⟩ ok (fun r g hr h2 eh2 => ?_)
  show jl_AW _ _ _ _ _ 4 [some (.ref (i))] [.int (zI (r))] n h2 _ _
  have hp := ok.2.1
  have hr9 := sp_clash_rg (by omega) hr
  refine jl_iconst (v := zI (-1)) d_Dr_isValid_4 (by decide) ?_
  refine jz_icmp_ne (tgt := 12) d_Dr_isValid_5 (by decide) ⟨by omega, by omega⟩ ⟨by omega, by omega⟩ (fun hc => ?_) (fun hc => ?_)
  · refine jl_iconst (v := zI (0)) d_Dr_isValid_12 (by decide) ?_
    exact jl_zret d_Dr_isValid_13 rfl (by decide) (hk 0 g (Or.inr ⟨rfl, fun q => hc (sp_clash_u hr q)⟩) h2 eh2)
  · refine jl_iconst (v := zI (1)) d_Dr_isValid_8 (by decide) ?_
    refine jl_goto (tgt := 13) d_Dr_isValid_9 (by decide) ?_
    exact jl_zret d_Dr_isValid_13 rfl (by decide) (hk 1 g (Or.inl ⟨rfl, by unfold sp_val; rw [← hc]; exact hr⟩) h2 eh2)
set_option maxHeartbeats 4000000 in
set_option maxRecDepth 100000 in
theorem k_D_isPlainAndValid {l : Launch} {G : jl_G} {d n : Nat} {h : Nat → va_E} {Kr : Option Value → Nat → (Nat → va_E) → Prop} {Kx : String → Nat → (Nat → va_E) → Prop} (hl9 : l.stackTraces = false) (hdd : 6 ≤ d) {i : Nat} {m p : Int} {hs cs xs sc : Nat → Int} (hD : jD h i m p hs cs xs sc) (ok : jOk m p hs cs xs) (hk : ∀ (b : Int) (g : Nat → Int), sp_is (m = 0 ∧ sp_val m p hs cs xs) b → ∀ h', h' = va_up h (i + 4) (jI 16 (fun j => zI (g j))) → Kr (some (.int (zI (b)))) n h') : jl_Call l G m_Dr_isPlainAndValid d [.ref (i)] n h 0 0 Kr Kx := by
  refine jl_enter hl9 (by decide) rfl (by simp [Value.category]) (Nat.le_of_ble_eq_true rfl) ?_
  show jl_AW l G (jl_F G Kr Kx) m_Dr_isPlainAndValid d 0 [some (.ref (i))] [] n h 0 0
  obtain ⟨hd0, hd1, hd2, hd3, hd4⟩ := hD
  refine jl_aload_n d_Dr_isPlainAndValid_0 rfl rfl ?_
  refine jg_2 (q := 4) d_Dr_isPlainAndValid_1 hd0 rfl (by decide) fw_Dr_24 ?_
  have hm := ok.1
  refine jz_if_ne (tgt := 18) d_Dr_isPlainAndValid_4 (by decide) ⟨by omega, by omega⟩ (fun hc => ?_) (fun hc => ?_)
  · refine jl_iconst (v := zI (0)) d_Dr_isPlainAndValid_18 (by decide) ?_
    exact jl_zret d_Dr_isPlainAndValid_19 rfl (by decide) (hk 0 sc (Or.inr ⟨rfl, fun q => hc q.1⟩) h (va_up_id hd4).symm)
  · refine jl_aload_n d_Dr_isPlainAndValid_7 rfl rfl ?_
    refine jl_invV (M' := m_Dr_isValid) (d' := d - 1) (ck' := 0) (sk' := 0) (na := 0) (as := []) (st := []) d_Dr_isPlainAndValid_8 rfl hd0 rfl mw_Dr_59 ww_Dr_isValid sw_Dr_isValid nw_Dr cw_Dr_isValid rfl rfl rfl (by decide +kernel) (by omega) (Nat.le_of_ble_eq_true rfl) (Nat.le_of_ble_eq_true rfl) ?_
    refine k_D_isValid hl9 (by omega) ⟨hd0, hd1, hd2, hd3, hd4⟩ ok (fun b g hb h2 eh2 => ?_)
    show jl_AW _ _ _ _ _ 11 [some (.ref (i))] [.int (zI (b))] n h2 _ _
    have hb9 := sp_is_rg hb
    refine jz_if_eq (tgt := 18) d_Dr_isPlainAndValid_11 (by decide) ⟨by omega, by omega⟩ (fun hc2 => ?_) (fun hc2 => ?_)
    · refine jl_iconst (v := zI (0)) d_Dr_isPlainAndValid_18 (by decide) ?_
      exact jl_zret d_Dr_isPlainAndValid_19 rfl (by decide) (hk 0 g (Or.inr ⟨rfl, fun q => by rcases hb with ⟨h8, -⟩ | ⟨-, h8⟩; omega; exact h8 q.2⟩) h2 eh2)
    · refine jl_iconst (v := zI (1)) d_Dr_isPlainAndValid_14 (by decide) ?_
      refine jl_goto (tgt := 19) d_Dr_isPlainAndValid_15 (by decide) ?_
      exact jl_zret d_Dr_isPlainAndValid_19 rfl (by decide) (hk 1 g (Or.inl ⟨rfl, hc, by rcases hb with ⟨-, h8⟩ | ⟨h8, -⟩; exact h8; omega⟩) h2 eh2)
set_option maxHeartbeats 4000000 in
set_option maxRecDepth 100000 in
theorem k_D_ballCount {l : Launch} {G : jl_G} {d n : Nat} {h : Nat → va_E} {Kr : Option Value → Nat → (Nat → va_E) → Prop} {Kx : String → Nat → (Nat → va_E) → Prop} (hl9 : l.stackTraces = false) (hdd : 1 ≤ d) {i : Nat} {m p : Int} {hs cs xs sc : Nat → Int} (hD : jD h i m p hs cs xs sc) (ok : jOk m p hs cs xs) (hk : Kr (some (.int (zI (sp_balls p hs cs)))) n h) : jl_Call l G m_Dr_ballCount d [.ref (i)] n h 0 0 Kr Kx := by
  refine jl_enter hl9 (by decide) rfl (by simp [Value.category]) (Nat.le_of_ble_eq_true rfl) ?_
  show jl_AW l G (jl_F G Kr Kx) m_Dr_ballCount d 0 [some (.ref (i)), none, none, none] [] n h 0 0
  obtain ⟨hd0, hd1, hd2, hd3, hd4⟩ := hD
  have hp := ok.2.1
  have lp1 : ∀ (k : Nat) (s : Int), s + k = p → 0 ≤ s → jl_AW l G (jl_F G Kr Kx) m_Dr_ballCount d 4 [some (.ref (i)), some (.int (zI (bc_s hs cs s.toNat))), some (.int (zI (s))), none] [] n h 0 0 := by
    intro k
    induction k using Nat.strongRecOn with
    | ind k ih =>
      intro s hks hs0
      have lpi : ∀ (k2 : Nat) (w : Int), w + k2 = cs s.toNat → 0 ≤ w → s < p → jl_AW l G (jl_F G Kr Kx) m_Dr_ballCount d 14 [some (.ref (i)), some (.int (zI (bc_s hs cs s.toNat + bc_w hs s w.toNat))), some (.int (zI (s))), some (.int (zI (w)))] [] n h 0 0 := by
        intro k2
        induction k2 using Nat.strongRecOn with
        | ind k2 ih2 =>
          intro w hkw hw0 hsp
          have hc9 := ok.2.2.2.1 s.toNat
          refine jl_iload_n d_Dr_ballCount_14 rfl rfl ?_
          refine jl_aload_n d_Dr_ballCount_15 rfl rfl ?_
          refine jg_2 (q := 1) d_Dr_ballCount_16 hd0 rfl (by decide) fw_Dr_15 ?_
          refine jl_iload_n d_Dr_ballCount_19 rfl rfl ?_
          refine jz_iald d_Dr_ballCount_20 hd2 (by omega) (by omega) (by omega) ?_
          refine jz_icmp_ge (tgt := 39) d_Dr_ballCount_21 (by decide) ⟨by omega, by omega⟩ ⟨by omega, by omega⟩ (fun hc => ?_) (fun hc => ?_)
          · refine jz_iinc (v := s + 1) (L' := [some (.ref (i)), some (.int (zI (bc_s hs cs s.toNat + bc_w hs s w.toNat))), some (.int (zI (s + 1))), some (.int (zI (w)))]) d_Dr_ballCount_39 rfl (by omega) (by decide) rfl ?_
            refine jl_goto (tgt := 4) d_Dr_ballCount_42 (by decide) ?_
            have e9 : bc_s hs cs s.toNat + bc_w hs s w.toNat = bc_s hs cs (s + 1).toNat := by rw [show (s + 1).toNat = s.toNat + 1 by omega, bc_s, show ((s.toNat : Nat) : Int) = s by omega, show w.toNat = (cs s.toNat).toNat by omega]
            rw [e9]
            refine jl_less (L' := [some (.ref (i)), some (.int (zI (bc_s hs cs (s + 1).toNat))), some (.int (zI (s + 1))), none]) ⟨rfl, rfl, rfl, trivial⟩ ?_
            exact ih (k - 1) (by omega) (s + 1) (by omega) (by omega)
          · refine jl_iload_n d_Dr_ballCount_24 rfl rfl ?_
            refine jl_aload_n d_Dr_ballCount_25 rfl rfl ?_
            refine jl_iload_n d_Dr_ballCount_26 rfl rfl ?_
            refine jl_iload_n d_Dr_ballCount_27 rfl rfl ?_
            refine jl_invV (M' := m_Dr_heightOf) (d' := d - 1) (ck' := 0) (sk' := 0) (na := 2) (as := [.int (zI (s)), .int (zI (w))]) (st := [.int (zI (bc_s hs cs s.toNat + bc_w hs s w.toNat))]) d_Dr_ballCount_28 rfl hd0 rfl mw_Dr_69 ww_Dr_heightOf sw_Dr_heightOf nw_Dr cw_Dr_heightOf rfl rfl rfl (by decide +kernel) (by omega) (Nat.le_of_ble_eq_true rfl) (Nat.le_of_ble_eq_true rfl) ?_
            refine k_D_heightOf hl9 (by omega) ⟨hd0, hd1, hd2, hd3, hd4⟩ ⟨by omega, by omega⟩ ⟨by omega, by omega⟩ ?_
            show jl_AW _ _ _ _ _ 31 [some (.ref (i)), some (.int (zI (bc_s hs cs s.toNat + bc_w hs s w.toNat))), some (.int (zI (s))), some (.int (zI (w)))] [.int (zI (hs (s * 3 + w).toNat)), .int (zI (bc_s hs cs s.toNat + bc_w hs s w.toNat))] n h _ _
            refine jz_iadd (v := bc_s hs cs s.toNat + bc_w hs s (w + 1).toNat) d_Dr_ballCount_31 (by rw [show (w + 1).toNat = w.toNat + 1 by omega, bc_w, show s * 3 + ((w.toNat : Nat) : Int) = s * 3 + w by omega]; omega) ?_
            refine jl_istore_n (L' := [some (.ref (i)), some (.int (zI (bc_s hs cs s.toNat + bc_w hs s (w + 1).toNat))), some (.int (zI (s))), some (.int (zI (w)))]) d_Dr_ballCount_32 rfl (by decide) rfl ?_
            refine jz_iinc (v := w + 1) (L' := [some (.ref (i)), some (.int (zI (bc_s hs cs s.toNat + bc_w hs s (w + 1).toNat))), some (.int (zI (s))), some (.int (zI (w + 1)))]) d_Dr_ballCount_33 rfl (by omega) (by decide) rfl ?_
            refine jl_goto (tgt := 14) d_Dr_ballCount_36 (by decide) ?_
            exact ih2 (k2 - 1) (by omega) (w + 1) (by omega) (by omega) hsp
      refine jl_iload_n d_Dr_ballCount_4 rfl rfl ?_
      refine jl_aload_n d_Dr_ballCount_5 rfl rfl ?_
      refine jg_2 (q := 5) d_Dr_ballCount_6 hd0 rfl (by decide) fw_Dr_28 ?_
      refine jz_icmp_ge (tgt := 45) d_Dr_ballCount_9 (by decide) ⟨by omega, by omega⟩ ⟨by omega, by omega⟩ (fun hc => ?_) (fun hc => ?_)
      · have es : s = p := by omega
        subst es
        refine jl_aload_n d_Dr_ballCount_45 rfl rfl ?_
        refine jg_2 (q := 5) d_Dr_ballCount_46 hd0 rfl (by decide) fw_Dr_28 ?_
        refine jl_iconst (v := zI (1)) d_Dr_ballCount_49 (by decide) ?_
        refine jz_icmp_ge (tgt := 57) d_Dr_ballCount_50 (by decide) ⟨by omega, by omega⟩ ⟨by omega, by omega⟩ (fun hc2 => ?_) (fun hc2 => ?_)
        · refine jl_iload_n d_Dr_ballCount_57 rfl rfl ?_
          refine jl_aload_n d_Dr_ballCount_58 rfl rfl ?_
          refine jg_2 (q := 5) d_Dr_ballCount_59 hd0 rfl (by decide) fw_Dr_28 ?_
          have hr9 := bc_s_rg ok.2.2.1 ok.2.2.2.1 s.toNat
          refine jz_idiv (v := sp_balls s hs cs) d_Dr_ballCount_62 ⟨by omega, by omega⟩ ⟨by omega, by omega⟩ (by omega) rfl ?_
          exact jl_iret d_Dr_ballCount_63 rfl hk
        · omega
      · have hc9 := ok.2.2.2.1 s.toNat
        refine jl_iconst (v := zI (0)) d_Dr_ballCount_12 (by decide) ?_
        refine jl_istore_n (L' := [some (.ref (i)), some (.int (zI (bc_s hs cs s.toNat))), some (.int (zI (s))), some (.int (zI (0)))]) d_Dr_ballCount_13 rfl (by decide) rfl ?_
        have e0 : bc_s hs cs s.toNat = bc_s hs cs s.toNat + bc_w hs s (0 : Int).toNat := by rw [show (0 : Int).toNat = 0 from rfl, bc_w]; omega
        rw [e0]
        exact lpi (cs s.toNat).toNat 0 (by omega) (by omega) (by omega)
  refine jl_iconst (v := zI (0)) d_Dr_ballCount_0 (by decide) ?_
  refine jl_istore_n (L' := [some (.ref (i)), some (.int (zI (0))), none, none]) d_Dr_ballCount_1 rfl (by decide) rfl ?_
  refine jl_iconst (v := zI (0)) d_Dr_ballCount_2 (by decide) ?_
  refine jl_istore_n (L' := [some (.ref (i)), some (.int (zI (0))), some (.int (zI (0))), none]) d_Dr_ballCount_3 rfl (by decide) rfl ?_
  exact lp1 p.toNat 0 (by omega) (by omega)
set_option maxHeartbeats 4000000 in
set_option maxRecDepth 100000 in
theorem k_D_stateBefore {l : Launch} {G : jl_G} {d n : Nat} {h : Nat → va_E} {Kr : Option Value → Nat → (Nat → va_E) → Prop} {Kx : String → Nat → (Nat → va_E) → Prop} (hl9 : l.stackTraces = false) (hdd : 2 ≤ d) {i : Nat} {m p : Int} {hs cs xs sc : Nat → Int} {b : Int} (hD : jD h i m p hs cs xs sc) (ok : jOk m p hs cs xs) (hb : -1000 ≤ b ∧ b ≤ 1000) (hk : Kr (some (.int (zI (sp_st p hs b)))) n h) : jl_Call l G m_Dr_stateBefore d [.ref (i), .int (zI (b))] n h 0 0 Kr Kx := by
  refine jl_enter hl9 (by decide) rfl (by simp [Value.category]) (Nat.le_of_ble_eq_true rfl) ?_
  show jl_AW l G (jl_F G Kr Kx) m_Dr_stateBefore d 0 [some (.ref (i)), some (.int (zI (b))), none, none, none] [] n h 0 0
  obtain ⟨hd0, hd1, hd2, hd3, hd4⟩ := hD
  have hp := ok.2.1
  have lp1 : ∀ (k : Nat) (a : Int), a + k = 10 → 1 ≤ a → jl_AW l G (jl_F G Kr Kx) m_Dr_stateBefore d 4 [some (.ref (i)), some (.int (zI (b))), some (.int (zI (((st_v p hs b (a - 1).toNat : Nat) : Int)))), some (.int (zI (a))), none] [] n h 0 0 := by
    intro k
    induction k using Nat.strongRecOn with
    | ind k ih =>
      intro a hka ha0
      refine jl_iload_n d_Dr_stateBefore_4 rfl rfl ?_
      refine jl_bipush (v := zI (9)) d_Dr_stateBefore_5 (by decide) ?_
      refine jz_icmp_gt (tgt := 39) d_Dr_stateBefore_7 (by decide) ⟨by omega, by omega⟩ ⟨by omega, by omega⟩ (fun hc => ?_) (fun hc => ?_)
      · have ea : a = 10 := by omega
        subst ea
        refine jl_iload_n d_Dr_stateBefore_39 rfl rfl ?_
        exact jl_iret d_Dr_stateBefore_40 rfl hk
      · refine jl_aload_n d_Dr_stateBefore_10 rfl rfl ?_
        refine jl_iload_n d_Dr_stateBefore_11 rfl rfl ?_
        refine jl_iload_n d_Dr_stateBefore_12 rfl rfl ?_
        refine jz_isub (v := b - a) d_Dr_stateBefore_13 (by omega) ?_
        refine jl_invV (M' := m_Dr_firstHeight) (d' := d - 1) (ck' := 0) (sk' := 0) (na := 1) (as := [.int (zI (b - a))]) (st := []) d_Dr_stateBefore_14 rfl hd0 rfl mw_Dr_75 ww_Dr_firstHeight sw_Dr_firstHeight nw_Dr cw_Dr_firstHeight rfl rfl rfl (by decide +kernel) (by omega) (Nat.le_of_ble_eq_true rfl) (Nat.le_of_ble_eq_true rfl) ?_
        refine k_D_firstHeight hl9 (by omega) ⟨hd0, hd1, hd2, hd3, hd4⟩ ⟨by omega, by omega⟩ hp ?_
        show jl_AW _ _ _ _ _ 17 [some (.ref (i)), some (.int (zI (b))), some (.int (zI (((st_v p hs b (a - 1).toNat : Nat) : Int)))), some (.int (zI (a))), none] [.int (zI (hs ((b - a) % p * 3).toNat))] n h _ _
        have hh := ok.2.2.1 ((b - a) % p * 3).toNat
        refine jl_iload_n d_Dr_stateBefore_17 rfl rfl ?_
        refine jz_isub (v := (hs ((b - a) % p * 3).toNat) - (a)) d_Dr_stateBefore_18 rfl ?_
        refine jl_istore (L' := [some (.ref (i)), some (.int (zI (b))), some (.int (zI (((st_v p hs b (a - 1).toNat : Nat) : Int)))), some (.int (zI (a))), some (.int (zI ((hs ((b - a) % p * 3).toNat) - (a))))]) d_Dr_stateBefore_19 (by decide) rfl ?_
        refine jl_iload d_Dr_stateBefore_21 rfl ?_
        refine jz_if_lt (tgt := 33) d_Dr_stateBefore_23 (by decide) ⟨by omega, by omega⟩ (fun hc2 => ?_) (fun hc2 => ?_)
        · have e0 : a.toNat = (a - 1).toNat + 1 := by omega
          have e1 : (((a - 1).toNat : Nat) : Int) + 1 = a := by omega
          have e2 : st_v p hs b a.toNat = st_v p hs b (a - 1).toNat := by rw [e0, st_v, e1, if_neg (by omega)]
          rw [← e2]
          refine jz_iinc (v := a + 1) (L' := [some (.ref (i)), some (.int (zI (b))), some (.int (zI (((st_v p hs b a.toNat : Nat) : Int)))), some (.int (zI (a + 1))), some (.int (zI ((hs ((b - a) % p * 3).toNat) - (a))))]) d_Dr_stateBefore_33 rfl (by omega) (by decide) rfl ?_
          refine jl_goto (tgt := 4) d_Dr_stateBefore_36 (by decide) ?_
          refine jl_less (L' := [some (.ref (i)), some (.int (zI (b))), some (.int (zI (((st_v p hs b a.toNat : Nat) : Int)))), some (.int (zI (a + 1))), none]) ⟨rfl, rfl, rfl, rfl, trivial⟩ ?_
          have e3 : a = a + 1 - 1 := by omega
          rw [show st_v p hs b a.toNat = st_v p hs b (a + 1 - 1).toNat by rw [← e3]]
          exact ih (k - 1) (by omega) (a + 1) (by omega) (by omega)
        · have e0 : a.toNat = (a - 1).toNat + 1 := by omega
          have e1 : (((a - 1).toNat : Nat) : Int) + 1 = a := by omega
          have e2 : st_v p hs b a.toNat = st_v p hs b (a - 1).toNat ||| 2 ^ (hs ((b - a) % p * 3).toNat - a).toNat := by rw [e0, st_v, e1, if_pos (by omega)]
          refine jl_iload_n d_Dr_stateBefore_26 rfl rfl ?_
          refine jl_iconst (v := zI (1)) d_Dr_stateBefore_27 (by decide) ?_
          refine jl_iload d_Dr_stateBefore_28 rfl ?_
          refine jl_ishl d_Dr_stateBefore_30 ?_
          refine jl_ior d_Dr_stateBefore_31 (jz_int (v := zI ((st_v p hs b a.toNat : Nat) : Int)) (by rw [e2]; exact bt_or (st_v_lt ok.2.2.1 b _) ⟨by omega, by omega⟩) ?_)
          refine jl_istore_n (L' := [some (.ref (i)), some (.int (zI (b))), some (.int (zI (((st_v p hs b a.toNat : Nat) : Int)))), some (.int (zI (a))), some (.int (zI ((hs ((b - a) % p * 3).toNat) - (a))))]) d_Dr_stateBefore_32 rfl (by decide) rfl ?_
          refine jz_iinc (v := a + 1) (L' := [some (.ref (i)), some (.int (zI (b))), some (.int (zI (((st_v p hs b a.toNat : Nat) : Int)))), some (.int (zI (a + 1))), some (.int (zI ((hs ((b - a) % p * 3).toNat) - (a))))]) d_Dr_stateBefore_33 rfl (by omega) (by decide) rfl ?_
          refine jl_goto (tgt := 4) d_Dr_stateBefore_36 (by decide) ?_
          refine jl_less (L' := [some (.ref (i)), some (.int (zI (b))), some (.int (zI (((st_v p hs b a.toNat : Nat) : Int)))), some (.int (zI (a + 1))), none]) ⟨rfl, rfl, rfl, rfl, trivial⟩ ?_
          have e3 : a = a + 1 - 1 := by omega
          rw [show st_v p hs b a.toNat = st_v p hs b (a + 1 - 1).toNat by rw [← e3]]
          exact ih (k - 1) (by omega) (a + 1) (by omega) (by omega)
  refine jl_iconst (v := zI (0)) d_Dr_stateBefore_0 (by decide) ?_
  refine jl_istore_n (L' := [some (.ref (i)), some (.int (zI (b))), some (.int (zI (0))), none, none]) d_Dr_stateBefore_1 rfl (by decide) rfl ?_
  refine jl_iconst (v := zI (1)) d_Dr_stateBefore_2 (by decide) ?_
  refine jl_istore_n (L' := [some (.ref (i)), some (.int (zI (b))), some (.int (zI (0))), some (.int (zI (1))), none]) d_Dr_stateBefore_3 rfl (by decide) rfl ?_
  exact lp1 9 1 (by omega) (by omega)
set_option maxHeartbeats 4000000 in
set_option maxRecDepth 100000 in
theorem k_D_siteOfState {l : Launch} {G : jl_G} {d n : Nat} {h : Nat → va_E} {Kr : Option Value → Nat → (Nat → va_E) → Prop} {Kx : String → Nat → (Nat → va_E) → Prop} (hl9 : l.stackTraces = false) (hdd : 3 ≤ d) {i : Nat} {m p : Int} {hs cs xs sc : Nat → Int} {v : Int} (hD : jD h i m p hs cs xs sc) (ok : jOk m p hs cs xs) (hv : zR v) (hk : ∀ r, sp_first p (fun s => sp_st p hs s = v) (fun _ => False) r → Kr (some (.int (zI (r)))) n h) : jl_Call l G m_Dr_siteOfState d [.ref (i), .int (zI (v))] n h 0 0 Kr Kx := by
  refine jl_enter hl9 (by decide) rfl (by simp [Value.category]) (Nat.le_of_ble_eq_true rfl) ?_
  show jl_AW l G (jl_F G Kr Kx) m_Dr_siteOfState d 0 [some (.ref (i)), some (.int (zI (v))), none] [] n h 0 0
  obtain ⟨hd0, hd1, hd2, hd3, hd4⟩ := hD
  have hp := ok.2.1
  have lp1 : ∀ (k : Nat) (s : Int), s + k = p → 0 ≤ s → (∀ t, 0 ≤ t → t < s → ¬ sp_st p hs t = v) → jl_AW l G (jl_F G Kr Kx) m_Dr_siteOfState d 2 [some (.ref (i)), some (.int (zI (v))), some (.int (zI (s)))] [] n h 0 0 := by
    intro k
    induction k using Nat.strongRecOn with
    | ind k ih =>
      intro s hks hs0 hB
      refine jl_iload_n d_Dr_siteOfState_2 rfl rfl ?_
      refine jl_aload_n d_Dr_siteOfState_3 rfl rfl ?_
      refine jg_2 (q := 5) d_Dr_siteOfState_4 hd0 rfl (by decide) fw_Dr_28 ?_
      refine jz_icmp_ge (tgt := 27) d_Dr_siteOfState_7 (by decide) ⟨by omega, by omega⟩ ⟨by omega, by omega⟩ (fun hc => ?_) (fun hc => ?_)
      · refine jl_iconst (v := zI (-1)) d_Dr_siteOfState_27 (by decide) ?_
        exact jl_iret d_Dr_siteOfState_28 rfl (hk _ (Or.inr ⟨fun t a b => hB t a (by omega), Or.inr ⟨fun t _ _ q => q, rfl⟩⟩))
      · refine jl_aload_n d_Dr_siteOfState_10 rfl rfl ?_
        refine jl_iload_n d_Dr_siteOfState_11 rfl rfl ?_
        refine jl_invV (M' := m_Dr_stateBefore) (d' := d - 1) (ck' := 0) (sk' := 0) (na := 1) (as := [.int (zI (s))]) (st := []) d_Dr_siteOfState_12 rfl hd0 rfl mw_Dr_79 ww_Dr_stateBefore sw_Dr_stateBefore nw_Dr cw_Dr_stateBefore rfl rfl rfl (by decide +kernel) (by omega) (Nat.le_of_ble_eq_true rfl) (Nat.le_of_ble_eq_true rfl) ?_
        refine k_D_stateBefore hl9 (by omega) ⟨hd0, hd1, hd2, hd3, hd4⟩ ok ⟨by omega, by omega⟩ ?_
        show jl_AW _ _ _ _ _ 15 [some (.ref (i)), some (.int (zI (v))), some (.int (zI (s)))] [.int (zI (sp_st p hs s))] n h _ _
        have hv9 := sp_st_rg (p := p) ok.2.2.1 s
        refine jl_iload_n d_Dr_siteOfState_15 rfl rfl ?_
        refine jz_icmp_ne (tgt := 21) d_Dr_siteOfState_16 (by decide) ⟨by omega, by omega⟩ ⟨by omega, by omega⟩ (fun hc2 => ?_) (fun hc2 => ?_)
        · refine jz_iinc (v := s + 1) (L' := [some (.ref (i)), some (.int (zI (v))), some (.int (zI (s + 1)))]) d_Dr_siteOfState_21 rfl (by omega) (by decide) rfl ?_
          refine jl_goto (tgt := 2) d_Dr_siteOfState_24 (by decide) ?_
          refine ih (k - 1) (by omega) (s + 1) (by omega) (by omega) ?_
          intro t ht0 ht1
          by_cases hts : t = s
          · subst hts; exact hc2
          · exact hB t ht0 (by omega)
        · refine jl_iload_n d_Dr_siteOfState_19 rfl rfl ?_
          exact jl_iret d_Dr_siteOfState_20 rfl (hk _ (Or.inl ⟨by omega, by omega, hc2, hB⟩))
  refine jl_iconst (v := zI (0)) d_Dr_siteOfState_0 (by decide) ?_
  refine jl_istore_n (L' := [some (.ref (i)), some (.int (zI (v))), some (.int (zI (0)))]) d_Dr_siteOfState_1 rfl (by decide) rfl ?_
  exact lp1 p.toNat 0 (by omega) (by omega) (fun t a b => by omega)
