def nbw (m p : Int) (hs cs xs : Nat → Int) (g k ago : Int) (B : List (Int × Int)) : Nat → List (Int × Int)
  | 0 => B
  | t + 1 => nbt m p hs cs xs g k ago (t : Int) (nbw m p hs cs xs g k ago B t)
set_option maxHeartbeats 4000000 in
set_option maxRecDepth 100000 in
theorem k_G_landingHand {l : Launch} {G : jl_G} {d n : Nat} {h : Nat → va_E} {Kr : Option Value → Nat → (Nat → va_E) → Prop} {Kx : String → Nat → (Nat → va_E) → Prop} (hl9 : l.stackTraces = false) (hdd : 0 ≤ d) {g : Nat} {op nw : Int} {B : List (Int × Int)} {MD : Nat → Int} {b : Int} (hF : jFl h g op nw B MD) (hb : 0 ≤ b ∧ b < B.length) (hk : Kr (some (.int (zI ((B.getD b.toNat (0, 0)).2)))) n h) : jl_Call l G m_Sg_landingHand d [.ref (g), .int (zI (b))] n h 0 0 Kr Kx := by
  refine jl_enter hl9 (by decide) rfl (by simp [Value.category]) (Nat.le_of_ble_eq_true rfl) ?_
  show jl_AW l G (jl_F G Kr Kx) m_Sg_landingHand d 0 [some (.ref (g)), some (.int (zI (b)))] [] n h 0 0
  obtain ⟨LA, LI, u0, u1, u2, u3, u4, u5⟩ := hF
  refine jl_aload_n d_Sg_landingHand_0 rfl rfl ?_
  refine jg_4 (q := 2) d_Sg_landingHand_1 u0 rfl (by decide) fw_Sg_22 ?_
  refine jl_iload_n d_Sg_landingHand_4 rfl rfl ?_
  refine jz_iald d_Sg_landingHand_5 u2 (by omega) (by omega) (by omega) ?_
  rw [(u5 b.toNat (by omega)).2]
  exact jl_iret d_Sg_landingHand_6 rfl hk
set_option maxHeartbeats 4000000 in
set_option maxRecDepth 100000 in
theorem k_G_beatsUntilLanding {l : Launch} {G : jl_G} {d n : Nat} {h : Nat → va_E} {Kr : Option Value → Nat → (Nat → va_E) → Prop} {Kx : String → Nat → (Nat → va_E) → Prop} (hl9 : l.stackTraces = false) (hdd : 0 ≤ d) {g : Nat} {op nw : Int} {B : List (Int × Int)} {MD : Nat → Int} {b : Int} (hF : jFl h g op nw B MD) (hb : 0 ≤ b ∧ b < B.length) (hk : Kr (some (.int (zI ((B.getD b.toNat (0, 0)).1 - nw)))) n h) : jl_Call l G m_Sg_beatsUntilLanding d [.ref (g), .int (zI (b))] n h 0 0 Kr Kx := by
  refine jl_enter hl9 (by decide) rfl (by simp [Value.category]) (Nat.le_of_ble_eq_true rfl) ?_
  show jl_AW l G (jl_F G Kr Kx) m_Sg_beatsUntilLanding d 0 [some (.ref (g)), some (.int (zI (b)))] [] n h 0 0
  obtain ⟨LA, LI, u0, u1, u2, u3, u4, u5⟩ := hF
  refine jl_aload_n d_Sg_beatsUntilLanding_0 rfl rfl ?_
  refine jg_4 (q := 1) d_Sg_beatsUntilLanding_1 u0 rfl (by decide) fw_Sg_18 ?_
  refine jl_iload_n d_Sg_beatsUntilLanding_4 rfl rfl ?_
  refine jz_iald d_Sg_beatsUntilLanding_5 u1 (by omega) (by omega) (by omega) ?_
  refine jl_aload_n d_Sg_beatsUntilLanding_6 rfl rfl ?_
  refine jg_4 (q := 5) d_Sg_beatsUntilLanding_7 u0 rfl (by decide) fw_Sg_36 ?_
  refine jz_isub (v := (LA (b).toNat) - (nw)) d_Sg_beatsUntilLanding_10 rfl ?_
  rw [(u5 b.toNat (by omega)).1]
  exact jl_iret d_Sg_beatsUntilLanding_11 rfl hk
set_option maxHeartbeats 4000000 in
set_option maxRecDepth 100000 in
theorem k_G_throwsMade {l : Launch} {G : jl_G} {d n : Nat} {h : Nat → va_E} {Kr : Option Value → Nat → (Nat → va_E) → Prop} {Kx : String → Nat → (Nat → va_E) → Prop} (hl9 : l.stackTraces = false) (hdd : 0 ≤ d) {g : Nat} {op nw : Int} {B : List (Int × Int)} {MD : Nat → Int} {b : Int} (hF : jFl h g op nw B MD) (hb : 0 ≤ b ∧ b < 2) (hk : Kr (some (.int (zI (MD (b).toNat)))) n h) : jl_Call l G m_Sg_throwsMade d [.ref (g), .int (zI (b))] n h 0 0 Kr Kx := by
  refine jl_enter hl9 (by decide) rfl (by simp [Value.category]) (Nat.le_of_ble_eq_true rfl) ?_
  show jl_AW l G (jl_F G Kr Kx) m_Sg_throwsMade d 0 [some (.ref (g)), some (.int (zI (b)))] [] n h 0 0
  obtain ⟨LA, LI, u0, u1, u2, u3, u4, u5⟩ := hF
  refine jl_aload_n d_Sg_throwsMade_0 rfl rfl ?_
  refine jg_4 (q := 3) d_Sg_throwsMade_1 u0 rfl (by decide) fw_Sg_25 ?_
  refine jl_iload_n d_Sg_throwsMade_4 rfl rfl ?_
  refine jz_iald d_Sg_throwsMade_5 u3 (by omega) (by omega) (by omega) ?_
  exact jl_iret d_Sg_throwsMade_6 rfl hk
set_option maxHeartbeats 4000000 in
set_option maxRecDepth 100000 in
theorem k_G_numberBallsOf {l : Launch} {G : jl_G} {d n : Nat} {h : Nat → va_E} {Kr : Option Value → Nat → (Nat → va_E) → Prop} {Kx : String → Nat → (Nat → va_E) → Prop} (hl9 : l.stackTraces = false) (hdd : 1 ≤ d) {g : Nat} {op nw : Int} {B : List (Int × Int)} {MD : Nat → Int} {m p : Int} {hs cs xs sc : Nat → Int} {s ht a b : Int} (hF : jFl h g op nw B MD) (hD : jD h (g + 1) m p hs cs xs sc) (ok : jOk m p hs cs xs) (hs9 : 0 ≤ s ∧ s < 16) (hht : zR ht) (hk : ∀ h', jFl h' g op nw (nbo hs s ht (a, b) B (cs s.toNat).toNat) MD → jfg h h' g → Kr none n h') : jl_Call l G m_Sg_numberBallsOf d [.ref (g), .int (zI (s)), .int (zI (ht)), .int (zI (a)), .int (zI (b))] n h 0 0 Kr Kx := by
  refine jl_enter hl9 (by decide) rfl (by simp [Value.category]) (Nat.le_of_ble_eq_true rfl) ?_
  show jl_AW l G (jl_F G Kr Kx) m_Sg_numberBallsOf d 0 [some (.ref (g)), some (.int (zI (s))), some (.int (zI (ht))), some (.int (zI (a))), some (.int (zI (b))), none] [] n h 0 0
  have lp1 : ∀ (k : Nat) (w : Int) (h2 : Nat → va_E), w + k = cs s.toNat → 0 ≤ w → jFl h2 g op nw (nbo hs s ht (a, b) B w.toNat) MD → jfg h h2 g → jl_AW l G (jl_F G Kr Kx) m_Sg_numberBallsOf d 3 [some (.ref (g)), some (.int (zI (s))), some (.int (zI (ht))), some (.int (zI (a))), some (.int (zI (b))), some (.int (zI (w)))] [] n h2 0 0 := by
    intro k
    induction k using Nat.strongRecOn with
    | ind k ih =>
      intro w h2 hkw hw0 hF2 hfr
      obtain ⟨v0, v1, v2, v3, v4⟩ := id (jfg_D hfr hD)
      obtain ⟨LA, LI, u0, u1, u2, u3, u4, u5⟩ := hF2
      have hc9 := ok.2.2.2.1 s.toNat
      refine jl_iload d_Sg_numberBallsOf_3 rfl ?_
      refine jl_aload_n d_Sg_numberBallsOf_5 rfl rfl ?_
      refine jg_4 (q := 0) d_Sg_numberBallsOf_6 u0 rfl (by decide) fw_Sg_12 ?_
      refine jl_iload_n d_Sg_numberBallsOf_9 rfl rfl ?_
      refine jl_invV (M' := m_Dr_throwsOf) (d' := d - 1) (ck' := 0) (sk' := 0) (na := 1) (as := [.int (zI (s))]) (st := [.int (zI (w))]) d_Sg_numberBallsOf_10 rfl v0 rfl mw_Sg_62 ww_Dr_throwsOf sw_Dr_throwsOf nw_Dr cw_Dr_throwsOf rfl rfl rfl (by decide +kernel) (by omega) (Nat.le_of_ble_eq_true rfl) (Nat.le_of_ble_eq_true rfl) ?_
      refine k_D_throwsOf hl9 (by omega) ⟨v0, v1, v2, v3, v4⟩ ⟨by omega, by omega⟩ ?_
      show jl_AW _ _ _ _ _ 13 [some (.ref (g)), some (.int (zI (s))), some (.int (zI (ht))), some (.int (zI (a))), some (.int (zI (b))), some (.int (zI (w)))] [.int (zI (cs (s).toNat)), .int (zI (w))] n h2 _ _
      refine jz_icmp_ge (tgt := 76) d_Sg_numberBallsOf_13 (by decide) ⟨by omega, by omega⟩ ⟨by omega, by omega⟩ (fun hc => ?_) (fun hc => ?_)
      · have ew : w.toNat = (cs s.toNat).toNat := by omega
        refine jl_vret d_Sg_numberBallsOf_76 rfl (hk h2 ?_ hfr)
        rw [← ew]
        exact ⟨LA, LI, u0, u1, u2, u3, u4, u5⟩
      · have en : (w + 1).toNat = w.toNat + 1 := by omega
        have ec : s * 3 + ((w.toNat : Nat) : Int) = s * 3 + w := by omega
        have hh := ok.2.2.1 (s * 3 + w).toNat
        refine jl_aload_n d_Sg_numberBallsOf_16 rfl rfl ?_
        refine jg_4 (q := 0) d_Sg_numberBallsOf_17 u0 rfl (by decide) fw_Sg_12 ?_
        refine jl_iload_n d_Sg_numberBallsOf_20 rfl rfl ?_
        refine jl_iload d_Sg_numberBallsOf_21 rfl ?_
        refine jl_invV (M' := m_Dr_heightOf) (d' := d - 1) (ck' := 0) (sk' := 0) (na := 2) (as := [.int (zI (s)), .int (zI (w))]) (st := []) d_Sg_numberBallsOf_23 rfl v0 rfl mw_Sg_66 ww_Dr_heightOf sw_Dr_heightOf nw_Dr cw_Dr_heightOf rfl rfl rfl (by decide +kernel) (by omega) (Nat.le_of_ble_eq_true rfl) (Nat.le_of_ble_eq_true rfl) ?_
        refine k_D_heightOf hl9 (by omega) ⟨v0, v1, v2, v3, v4⟩ ⟨by omega, by omega⟩ ⟨by omega, by omega⟩ ?_
        show jl_AW _ _ _ _ _ 26 [some (.ref (g)), some (.int (zI (s))), some (.int (zI (ht))), some (.int (zI (a))), some (.int (zI (b))), some (.int (zI (w)))] [.int (zI (hs (s * 3 + w).toNat))] n h2 _ _
        refine jl_iload_n d_Sg_numberBallsOf_26 rfl rfl ?_
        refine jz_icmp_ne (tgt := 70) d_Sg_numberBallsOf_27 (by decide) ⟨by omega, by omega⟩ ⟨by omega, by omega⟩ (fun hc2 => ?_) (fun hc2 => ?_)
        · refine jz_iinc (v := w + 1) (L' := [some (.ref (g)), some (.int (zI (s))), some (.int (zI (ht))), some (.int (zI (a))), some (.int (zI (b))), some (.int (zI (w + 1)))]) d_Sg_numberBallsOf_70 rfl (by omega) (by decide) rfl ?_
          refine jl_goto (tgt := 3) d_Sg_numberBallsOf_73 (by decide) ?_
          refine jl_less (L' := [some (.ref (g)), some (.int (zI (s))), some (.int (zI (ht))), some (.int (zI (a))), some (.int (zI (b))), some (.int (zI (w + 1)))]) ⟨rfl, rfl, rfl, rfl, rfl, rfl, trivial⟩ ?_
          refine ih (k - 1) (by omega) (w + 1) h2 (by omega) (by omega) ?_ hfr
          rw [en, nbo, ec, if_neg (fun q => hc2 q.1)]
          exact ⟨LA, LI, u0, u1, u2, u3, u4, u5⟩
        · refine jl_aload_n d_Sg_numberBallsOf_30 rfl rfl ?_
          refine jg_4 (q := 6) d_Sg_numberBallsOf_31 u0 rfl (by decide) fw_Sg_43 ?_
          refine jl_bipush (v := zI (27)) d_Sg_numberBallsOf_34 (by decide) ?_
          refine jz_icmp_ge (tgt := 70) d_Sg_numberBallsOf_36 (by decide) ⟨by omega, by omega⟩ ⟨by omega, by omega⟩ (fun hc3 => ?_) (fun hc3 => ?_)
          · refine jz_iinc (v := w + 1) (L' := [some (.ref (g)), some (.int (zI (s))), some (.int (zI (ht))), some (.int (zI (a))), some (.int (zI (b))), some (.int (zI (w + 1)))]) d_Sg_numberBallsOf_70 rfl (by omega) (by decide) rfl ?_
            refine jl_goto (tgt := 3) d_Sg_numberBallsOf_73 (by decide) ?_
            refine jl_less (L' := [some (.ref (g)), some (.int (zI (s))), some (.int (zI (ht))), some (.int (zI (a))), some (.int (zI (b))), some (.int (zI (w + 1)))]) ⟨rfl, rfl, rfl, rfl, rfl, rfl, trivial⟩ ?_
            refine ih (k - 1) (by omega) (w + 1) h2 (by omega) (by omega) ?_ hfr
            rw [en, nbo, ec, if_neg (fun q => by omega)]
            exact ⟨LA, LI, u0, u1, u2, u3, u4, u5⟩
          · refine jl_aload_n d_Sg_numberBallsOf_39 rfl rfl ?_
            refine jg_4 (q := 1) d_Sg_numberBallsOf_40 u0 rfl (by decide) fw_Sg_18 ?_
            refine jl_aload_n d_Sg_numberBallsOf_43 rfl rfl ?_
            refine jg_4 (q := 6) d_Sg_numberBallsOf_44 u0 rfl (by decide) fw_Sg_43 ?_
            refine jl_iload_n d_Sg_numberBallsOf_47 rfl rfl ?_
            refine jz_iasth d_Sg_numberBallsOf_48 u1 (by omega) (by omega) (by omega) (fun h1 eh1 => ?_)
            have jf2 : h1 (g + 6) = jI 27 (fun j9 => zI ((va_up LA (((nbo hs s ht (a, b) B w.toNat).length : Int)).toNat (a)) j9)) := by rw [eh1, va_up_self]
            refine jl_aload_n d_Sg_numberBallsOf_49 rfl rfl ?_
            have jf3 : h1 (g) = jO 4 [.ref (g + 1), .ref (g + 6), .ref (g + 7), .ref (g + 8), .int (zI (op)), .int (zI (nw)), .int (zI (((nbo hs s ht (a, b) B w.toNat).length : Int)))] := by rw [eh1, va_up_ne _ _ (by omega)]; exact u0
            refine jg_4 (q := 2) d_Sg_numberBallsOf_50 jf3 rfl (by decide) fw_Sg_22 ?_
            refine jl_aload_n d_Sg_numberBallsOf_53 rfl rfl ?_
            refine jg_4 (q := 6) d_Sg_numberBallsOf_54 jf3 rfl (by decide) fw_Sg_43 ?_
            refine jl_iload d_Sg_numberBallsOf_57 rfl ?_
            have jf4 : h1 (g + 7) = jI 27 (fun j9 => zI (LI j9)) := by rw [eh1, va_up_ne _ _ (by omega)]; exact u2
            refine jz_iasth d_Sg_numberBallsOf_59 jf4 (by omega) (by omega) (by omega) (fun h5 eh5 => ?_)
            have jf6 : h5 (g + 7) = jI 27 (fun j9 => zI ((va_up LI (((nbo hs s ht (a, b) B w.toNat).length : Int)).toNat (b)) j9)) := by rw [eh5, va_up_self]
            refine jl_aload_n d_Sg_numberBallsOf_60 rfl rfl ?_
            refine jl_dup d_Sg_numberBallsOf_61 rfl ?_
            have jf7 : h5 (g) = jO 4 [.ref (g + 1), .ref (g + 6), .ref (g + 7), .ref (g + 8), .int (zI (op)), .int (zI (nw)), .int (zI (((nbo hs s ht (a, b) B w.toNat).length : Int)))] := by rw [eh5, va_up_ne _ _ (by omega)]; exact jf3
            refine jg_4 (q := 6) d_Sg_numberBallsOf_62 jf7 rfl (by decide) fw_Sg_43 ?_
            refine jl_iconst (v := zI (1)) d_Sg_numberBallsOf_65 (by decide) ?_
            refine jz_iadd (v := ((nbo hs s ht (a, b) B w.toNat ++ [(a, b)]).length : Int)) d_Sg_numberBallsOf_66 (by rw [List.length_append, List.length_singleton]; omega) ?_
            refine jp_4 (q := 6) (ty := .int) d_Sg_numberBallsOf_67 jf7 (by simp) (by decide) fw_Sg_43 rfl (by decide +kernel) (fun _ _ => rfl) (fun _ _ => rfl) (fun h8 eh8 => ?_)
            have eh8 : h8 = va_up h5 (g) (jO 4 [.ref (g + 1), .ref (g + 6), .ref (g + 7), .ref (g + 8), .int (zI (op)), .int (zI (nw)), .int (zI (((nbo hs s ht (a, b) B w.toNat ++ [(a, b)]).length : Int)))]) := eh8
            have jf9 : h8 (g) = jO 4 [.ref (g + 1), .ref (g + 6), .ref (g + 7), .ref (g + 8), .int (zI (op)), .int (zI (nw)), .int (zI (((nbo hs s ht (a, b) B w.toNat ++ [(a, b)]).length : Int)))] := by rw [eh8, va_up_self]
            have jf10 : h8 (g + 6) = jI 27 (fun j9 => zI ((va_up LA (((nbo hs s ht (a, b) B w.toNat).length : Int)).toNat (a)) j9)) := by rw [eh8, va_up_ne _ _ (by omega), eh5, va_up_ne _ _ (by omega)]; exact jf2
            have jf11 : h8 (g + 7) = jI 27 (fun j9 => zI ((va_up LI (((nbo hs s ht (a, b) B w.toNat).length : Int)).toNat (b)) j9)) := by rw [eh8, va_up_ne _ _ (by omega)]; exact jf6
            have jf12 : h8 (g + 8) = jI 2 (fun j9 => zI (MD j9)) := by rw [eh8, va_up_ne _ _ (by omega), eh5, va_up_ne _ _ (by omega), eh1, va_up_ne _ _ (by omega)]; exact u3
            have eL : ((nbo hs s ht (a, b) B w.toNat).length : Int).toNat = (nbo hs s ht (a, b) B w.toNat).length := by omega
            rw [eL] at jf10 jf11
            refine jz_iinc (v := w + 1) (L' := [some (.ref (g)), some (.int (zI (s))), some (.int (zI (ht))), some (.int (zI (a))), some (.int (zI (b))), some (.int (zI (w + 1)))]) d_Sg_numberBallsOf_70 rfl (by omega) (by decide) rfl ?_
            refine jl_goto (tgt := 3) d_Sg_numberBallsOf_73 (by decide) ?_
            refine jl_less (L' := [some (.ref (g)), some (.int (zI (s))), some (.int (zI (ht))), some (.int (zI (a))), some (.int (zI (b))), some (.int (zI (w + 1)))]) ⟨rfl, rfl, rfl, rfl, rfl, rfl, trivial⟩ ?_
            refine ih (k - 1) (by omega) (w + 1) h8 (by omega) (by omega) ?_ (fun y q0 q1 q2 q3 => by rw [eh8, va_up_ne _ _ (by omega), eh5, va_up_ne _ _ (by omega), eh1, va_up_ne _ _ (by omega)]; exact hfr y q0 q1 q2 q3)
            rw [en, nbo, ec, if_pos ⟨hc2, by omega⟩]
            exact ⟨_, _, jf9, jf10, jf11, jf12, by rw [List.length_append, List.length_singleton]; omega, jB_app u5⟩
  have hc9 := ok.2.2.2.1 s.toNat
  refine jl_iconst (v := zI (0)) d_Sg_numberBallsOf_0 (by decide) ?_
  refine jl_istore (L' := [some (.ref (g)), some (.int (zI (s))), some (.int (zI (ht))), some (.int (zI (a))), some (.int (zI (b))), some (.int (zI (0)))]) d_Sg_numberBallsOf_1 (by decide) rfl ?_
  exact lp1 (cs s.toNat).toNat 0 h (by omega) (by omega) hF (jfg_rf h g)
set_option maxHeartbeats 4000000 in
set_option maxRecDepth 100000 in
theorem k_G_numberBallsLanding {l : Launch} {G : jl_G} {d n : Nat} {h : Nat → va_E} {Kr : Option Value → Nat → (Nat → va_E) → Prop} {Kx : String → Nat → (Nat → va_E) → Prop} (hl9 : l.stackTraces = false) (hdd : 2 ≤ d) {g : Nat} {op nw : Int} {B : List (Int × Int)} {MD : Nat → Int} {m p : Int} {hs cs xs sc : Nat → Int} {a b : Int} (hF : jFl h g op nw B MD) (hD : jD h (g + 1) m p hs cs xs sc) (ok : jOk m p hs cs xs) (ha : 0 ≤ a ∧ a < 9) (hb : 0 ≤ b ∧ b ≤ 1) (hk : ∀ h', jFl h' g op nw (nbl m p hs cs xs a b B (9 - a).toNat) MD → jfg h h' g → Kr none n h') : jl_Call l G m_Sg_numberBallsLanding d [.ref (g), .int (zI (a)), .int (zI (b))] n h 0 0 Kr Kx := by
  refine jl_enter hl9 (by decide) rfl (by simp [Value.category]) (Nat.le_of_ble_eq_true rfl) ?_
  show jl_AW l G (jl_F G Kr Kx) m_Sg_numberBallsLanding d 0 [some (.ref (g)), some (.int (zI (a))), some (.int (zI (b))), none, none, none] [] n h 0 0
  have lp1 : ∀ (k : Nat) (ag : Int) (h2 : Nat → va_E), ag + k = 10 - a → 1 ≤ ag → jFl h2 g op nw (nbl m p hs cs xs a b B (ag - 1).toNat) MD → jfg h h2 g → jl_AW l G (jl_F G Kr Kx) m_Sg_numberBallsLanding d 2 [some (.ref (g)), some (.int (zI (a))), some (.int (zI (b))), some (.int (zI (-ag))), none, none] [] n h2 0 0 := by
    intro k
    induction k using Nat.strongRecOn with
    | ind k ih =>
      intro ag h2 hka ha0 hF2 hfr
      have lpi : ∀ (k2 : Nat) (t : Int) (h2 : Nat → va_E), t + k2 = 2 → 0 ≤ t → jFl h2 g op nw (nbw m p hs cs xs a b ag (nbl m p hs cs xs a b B (ag - 1).toNat) (t.toNat)) MD → jfg h h2 g → ag ≤ 9 - a → jl_AW l G (jl_F G Kr Kx) m_Sg_numberBallsLanding d 13 [some (.ref (g)), some (.int (zI (a))), some (.int (zI (b))), some (.int (zI (-ag))), some (.int (zI (t))), none] [] n h2 0 0 := by
        intro k2
        induction k2 using Nat.strongRecOn with
        | ind k2 ih2 =>
          intro t h2 hkt ht0 hF2 hfr hag
          obtain ⟨v0, v1, v2, v3, v4⟩ := id (jfg_D hfr hD)
          obtain ⟨LA, LI, u0, u1, u2, u3, u4, u5⟩ := hF2
          refine jl_iload d_Sg_numberBallsLanding_13 rfl ?_
          refine jl_iconst (v := zI (1)) d_Sg_numberBallsLanding_15 (by decide) ?_
          refine jz_icmp_gt (tgt := 70) d_Sg_numberBallsLanding_16 (by decide) ⟨by omega, by omega⟩ ⟨by omega, by omega⟩ (fun hc => ?_) (fun hc => ?_)
          · have et : t.toNat = 2 := by omega
            refine jz_iinc (v := -(ag + 1)) (L' := [some (.ref (g)), some (.int (zI (a))), some (.int (zI (b))), some (.int (zI (-(ag + 1)))), some (.int (zI (t))), none]) d_Sg_numberBallsLanding_70 rfl (by omega) (by decide) rfl ?_
            refine jl_goto (tgt := 2) d_Sg_numberBallsLanding_73 (by decide) ?_
            refine jl_less (L' := [some (.ref (g)), some (.int (zI (a))), some (.int (zI (b))), some (.int (zI (-(ag + 1)))), none, none]) ⟨rfl, rfl, rfl, rfl, trivial⟩ ?_
            refine ih (k - 1) (by omega) (ag + 1) h2 (by omega) (by omega) ?_ hfr
            rw [show (ag + 1 - 1).toNat = (ag - 1).toNat + 1 by omega, nbl, show (((ag - 1).toNat : Nat) : Int) + 1 = ag by omega]
            have hF3 : jFl h2 g op nw (nbw m p hs cs xs a b ag (nbl m p hs cs xs a b B (ag - 1).toNat) (t.toNat)) MD := ⟨LA, LI, u0, u1, u2, u3, u4, u5⟩
            rw [et] at hF3
            exact hF3
          · refine jl_aload_n d_Sg_numberBallsLanding_19 rfl rfl ?_
            refine jg_4 (q := 0) d_Sg_numberBallsLanding_20 u0 rfl (by decide) fw_Sg_12 ?_
            refine jl_iload_n d_Sg_numberBallsLanding_23 rfl rfl ?_
            refine jl_iload d_Sg_numberBallsLanding_24 rfl ?_
            refine jl_invV (M' := m_Dr_siteThrowing) (d' := d - 1) (ck' := 0) (sk' := 0) (na := 2) (as := [.int (zI (-ag)), .int (zI (t))]) (st := []) d_Sg_numberBallsLanding_26 rfl v0 rfl mw_Sg_50 ww_Dr_siteThrowing sw_Dr_siteThrowing nw_Dr cw_Dr_siteThrowing rfl rfl rfl (by decide +kernel) (by omega) (Nat.le_of_ble_eq_true rfl) (Nat.le_of_ble_eq_true rfl) ?_
            refine k_D_siteThrowing hl9 (by omega) ⟨v0, v1, v2, v3, v4⟩ ok.1 ok.2.1 ⟨by omega, by omega⟩ ⟨by omega, by omega⟩ ?_
            show jl_AW _ _ _ _ _ 29 [some (.ref (g)), some (.int (zI (a))), some (.int (zI (b))), some (.int (zI (-ag))), some (.int (zI (t))), none] [.int (zI (sp_thr m p (-ag) t))] n h2 _ _
            refine jl_istore (L' := [some (.ref (g)), some (.int (zI (a))), some (.int (zI (b))), some (.int (zI (-ag))), some (.int (zI (t))), some (.int (zI (sp_thr m p (-ag) t)))]) d_Sg_numberBallsLanding_29 (by decide) rfl ?_
            refine jl_iload d_Sg_numberBallsLanding_31 rfl ?_
            refine jl_iconst (v := zI (-1)) d_Sg_numberBallsLanding_33 (by decide) ?_
            have hp := ok.2.1
            have hz9 : zR (sp_thr m p (-ag) t) := by by_cases q9 : sp_thr m p (-ag) t = -1; exact ⟨by omega, by omega⟩; have := sp_thr_rg ok (b := -ag) (k := t) (by omega) q9; exact ⟨by omega, by omega⟩
            have en : (t + 1).toNat = t.toNat + 1 := by omega
            have ec : ((t.toNat : Nat) : Int) = t := by omega
            refine jz_icmp_eq (tgt := 64) d_Sg_numberBallsLanding_34 (by decide) ⟨by omega, by omega⟩ ⟨by omega, by omega⟩ (fun hc2 => ?_) (fun hc2 => ?_)
            · refine jz_iinc (v := t + 1) (L' := [some (.ref (g)), some (.int (zI (a))), some (.int (zI (b))), some (.int (zI (-ag))), some (.int (zI (t + 1))), some (.int (zI (sp_thr m p (-ag) t)))]) d_Sg_numberBallsLanding_64 rfl (by omega) (by decide) rfl ?_
              refine jl_goto (tgt := 13) d_Sg_numberBallsLanding_67 (by decide) ?_
              refine jl_less (L' := [some (.ref (g)), some (.int (zI (a))), some (.int (zI (b))), some (.int (zI (-ag))), some (.int (zI (t + 1))), none]) ⟨rfl, rfl, rfl, rfl, rfl, trivial⟩ ?_
              refine ih2 (k2 - 1) (by omega) (t + 1) h2 (by omega) (by omega) ?_ hfr hag
              rw [en, nbw, ec, nbt, if_neg (fun q => q.1 hc2)]
              exact ⟨LA, LI, u0, u1, u2, u3, u4, u5⟩
            · have hr := sp_thr_rg ok (b := -ag) (k := t) (by omega) hc2
              refine jl_aload_n d_Sg_numberBallsLanding_37 rfl rfl ?_
              refine jg_4 (q := 0) d_Sg_numberBallsLanding_38 u0 rfl (by decide) fw_Sg_12 ?_
              refine jl_iload d_Sg_numberBallsLanding_41 rfl ?_
              refine jl_iload d_Sg_numberBallsLanding_43 rfl ?_
              refine jl_iload_n d_Sg_numberBallsLanding_45 rfl rfl ?_
              refine jl_invV (M' := m_Dr_landingHand) (d' := d - 1) (ck' := 0) (sk' := 0) (na := 3) (as := [.int (zI (sp_thr m p (-ag) t)), .int (zI (t)), .int (zI (a))]) (st := []) d_Sg_numberBallsLanding_46 rfl v0 rfl mw_Sg_54 ww_Dr_landingHand sw_Dr_landingHand nw_Dr cw_Dr_landingHand rfl rfl rfl (by decide +kernel) (by omega) (Nat.le_of_ble_eq_true rfl) (Nat.le_of_ble_eq_true rfl) ?_
              refine k_D_landingHand hl9 (by omega) ⟨v0, v1, v2, v3, v4⟩ ok.1 ⟨by omega, by omega⟩ (jOk_x ok _) ⟨by omega, by omega⟩ ?_
              show jl_AW _ _ _ _ _ 49 [some (.ref (g)), some (.int (zI (a))), some (.int (zI (b))), some (.int (zI (-ag))), some (.int (zI (t))), some (.int (zI (sp_thr m p (-ag) t)))] [.int (zI (sp_land m xs (sp_thr m p (-ag) t) t a))] n h2 _ _
              have hl8 := sp_land_rg (m := m) (xs := xs) (b := sp_thr m p (-ag) t) (k := t) (g := a) (by omega)
              refine jl_iload_n d_Sg_numberBallsLanding_49 rfl rfl ?_
              refine jz_icmp_ne (tgt := 64) d_Sg_numberBallsLanding_50 (by decide) ⟨by omega, by omega⟩ ⟨by omega, by omega⟩ (fun hc3 => ?_) (fun hc3 => ?_)
              · refine jz_iinc (v := t + 1) (L' := [some (.ref (g)), some (.int (zI (a))), some (.int (zI (b))), some (.int (zI (-ag))), some (.int (zI (t + 1))), some (.int (zI (sp_thr m p (-ag) t)))]) d_Sg_numberBallsLanding_64 rfl (by omega) (by decide) rfl ?_
                refine jl_goto (tgt := 13) d_Sg_numberBallsLanding_67 (by decide) ?_
                refine jl_less (L' := [some (.ref (g)), some (.int (zI (a))), some (.int (zI (b))), some (.int (zI (-ag))), some (.int (zI (t + 1))), none]) ⟨rfl, rfl, rfl, rfl, rfl, trivial⟩ ?_
                refine ih2 (k2 - 1) (by omega) (t + 1) h2 (by omega) (by omega) ?_ hfr hag
                rw [en, nbw, ec, nbt, if_neg (fun q => hc3 q.2)]
                exact ⟨LA, LI, u0, u1, u2, u3, u4, u5⟩
              · refine jl_aload_n d_Sg_numberBallsLanding_53 rfl rfl ?_
                refine jl_iload d_Sg_numberBallsLanding_54 rfl ?_
                refine jl_iload_n d_Sg_numberBallsLanding_56 rfl rfl ?_
                refine jl_iload_n d_Sg_numberBallsLanding_57 rfl rfl ?_
                refine jz_isub (v := a + ag) d_Sg_numberBallsLanding_58 (by omega) ?_
                refine jl_iload_n d_Sg_numberBallsLanding_59 rfl rfl ?_
                refine jl_iload_n d_Sg_numberBallsLanding_60 rfl rfl ?_
                refine jl_invV (M' := m_Sg_numberBallsOf) (d' := d - 1) (ck' := 0) (sk' := 0) (na := 4) (as := [.int (zI (sp_thr m p (-ag) t)), .int (zI (a + ag)), .int (zI (a)), .int (zI (b))]) (st := []) d_Sg_numberBallsLanding_61 rfl u0 rfl mw_Sg_58 ww_Sg_numberBallsOf sw_Sg_numberBallsOf nw_Sg cw_Sg_numberBallsOf rfl rfl rfl (by decide +kernel) (by omega) (Nat.le_of_ble_eq_true rfl) (Nat.le_of_ble_eq_true rfl) ?_
                refine k_G_numberBallsOf hl9 (by omega) ⟨LA, LI, u0, u1, u2, u3, u4, u5⟩ ⟨v0, v1, v2, v3, v4⟩ ok ⟨by omega, by omega⟩ ⟨by omega, by omega⟩ (fun h3 hF3 hfr3 => ?_)
                show jl_AW _ _ _ _ _ 64 [some (.ref (g)), some (.int (zI (a))), some (.int (zI (b))), some (.int (zI (-ag))), some (.int (zI (t))), some (.int (zI (sp_thr m p (-ag) t)))] [] n h3 _ _
                refine jz_iinc (v := t + 1) (L' := [some (.ref (g)), some (.int (zI (a))), some (.int (zI (b))), some (.int (zI (-ag))), some (.int (zI (t + 1))), some (.int (zI (sp_thr m p (-ag) t)))]) d_Sg_numberBallsLanding_64 rfl (by omega) (by decide) rfl ?_
                refine jl_goto (tgt := 13) d_Sg_numberBallsLanding_67 (by decide) ?_
                refine jl_less (L' := [some (.ref (g)), some (.int (zI (a))), some (.int (zI (b))), some (.int (zI (-ag))), some (.int (zI (t + 1))), none]) ⟨rfl, rfl, rfl, rfl, rfl, trivial⟩ ?_
                refine ih2 (k2 - 1) (by omega) (t + 1) h3 (by omega) (by omega) ?_ (fun y q0 q1 q2 q3 => (hfr3 y q0 q1 q2 q3).trans (hfr y q0 q1 q2 q3)) hag
                rw [en, nbw, ec, nbt, if_pos ⟨hc2, hc3⟩]
                exact hF3
      obtain ⟨LA, LI, u0, u1, u2, u3, u4, u5⟩ := hF2
      refine jl_iload_n d_Sg_numberBallsLanding_2 rfl rfl ?_
      refine jl_iload_n d_Sg_numberBallsLanding_3 rfl rfl ?_
      refine jl_bipush (v := zI (9)) d_Sg_numberBallsLanding_4 (by decide) ?_
      refine jz_isub (v := a - 9) d_Sg_numberBallsLanding_6 (by omega) ?_
      refine jz_icmp_lt (tgt := 76) d_Sg_numberBallsLanding_7 (by decide) ⟨by omega, by omega⟩ ⟨by omega, by omega⟩ (fun hc => ?_) (fun hc => ?_)
      · have ea : (ag - 1).toNat = (9 - a).toNat := by omega
        have hF3 : jFl h2 g op nw (nbl m p hs cs xs a b B (ag - 1).toNat) MD := ⟨LA, LI, u0, u1, u2, u3, u4, u5⟩
        rw [ea] at hF3
        exact jl_vret d_Sg_numberBallsLanding_76 rfl (hk h2 hF3 hfr)
      · refine jl_iconst (v := zI (0)) d_Sg_numberBallsLanding_10 (by decide) ?_
        refine jl_istore (L' := [some (.ref (g)), some (.int (zI (a))), some (.int (zI (b))), some (.int (zI (-ag))), some (.int (zI (0))), none]) d_Sg_numberBallsLanding_11 (by decide) rfl ?_
        refine jl_less (L' := [some (.ref (g)), some (.int (zI (a))), some (.int (zI (b))), some (.int (zI (-ag))), some (.int (zI (0))), none]) ⟨rfl, rfl, rfl, rfl, rfl, trivial⟩ ?_
        exact lpi 2 0 h2 (by omega) (by omega) ⟨LA, LI, u0, u1, u2, u3, u4, u5⟩ hfr (by omega)
  refine jl_iconst (v := zI (-1)) d_Sg_numberBallsLanding_0 (by decide) ?_
  refine jl_istore_n (L' := [some (.ref (g)), some (.int (zI (a))), some (.int (zI (b))), some (.int (zI (-1))), none, none]) d_Sg_numberBallsLanding_1 rfl (by decide) rfl ?_
  exact lp1 (9 - a).toNat 1 h (by omega) (by omega) hF (jfg_rf h g)
