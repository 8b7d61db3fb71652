def nbk (m p : Int) (hs cs xs : Nat → Int) (g : Int) (B : List (Int × Int)) : Nat → List (Int × Int)
  | 0 => B
  | t + 1 => nbl m p hs cs xs g (t : Int) (nbk m p hs cs xs g B t) (9 - g).toNat
/-- the ball that lands last of the first j -/
def ll (B : List (Int × Int)) : Nat → Int
  | 0 => -1
  | j + 1 => if ll B j = -1 ∨ (B.getD (ll B j).toNat (0, 0)).1 < (B.getD j (0, 0)).1 then (j : Int) else ll B j
theorem ll_rg (B : List (Int × Int)) : ∀ j, j ≤ B.length → -1 ≤ ll B j ∧ ll B j < j
  | 0, _ => by unfold ll; omega
  | j + 1, h => by
    have h1 := ll_rg B j (by omega)
    unfold ll
    split <;> omega
set_option maxHeartbeats 4000000 in
set_option maxRecDepth 100000 in
theorem k_G_nextThrow {l : Launch} {G : jl_G} {d n : Nat} {h : Nat → va_E} {Kr : Option Value → Nat → (Nat → va_E) → Prop} {Kx : String → Nat → (Nat → va_E) → Prop} (hl9 : l.stackTraces = false) (hdd : 1 ≤ d) {g : Nat} {op nw : Int} {B : List (Int × Int)} {MD : Nat → Int} {m p : Int} {hs cs xs sc : Nat → Int} {s f : Int} (hF : jFl h g op nw B MD) (hD : jD h (g + 1) m p hs cs xs sc) (ok : jOk m p hs cs xs) (hs9 : 0 ≤ s ∧ s < 16) (hf : 0 ≤ f ∧ f ≤ 3) (hk : Kr (some (.int (zI (nx hs s (cs s.toNat - f).toNat f)))) n h) : jl_Call l G m_Sg_nextThrow d [.ref (g), .int (zI (s)), .int (zI (f))] n h 0 0 Kr Kx := by
  refine jl_enter hl9 (by decide) rfl (by simp [Value.category]) (Nat.le_of_ble_eq_true rfl) ?_
  show jl_AW l G (jl_F G Kr Kx) m_Sg_nextThrow d 0 [some (.ref (g)), some (.int (zI (s))), some (.int (zI (f))), none] [] n h 0 0
  have lp1 : ∀ (k : Nat) (w : Int), (cs s.toNat - w).toNat = k → 0 ≤ w ∧ w ≤ 3 → Kr (some (.int (zI (nx hs s (cs s.toNat - w).toNat w)))) n h → jl_AW l G (jl_F G Kr Kx) m_Sg_nextThrow d 2 [some (.ref (g)), some (.int (zI (s))), some (.int (zI (f))), some (.int (zI (w)))] [] n h 0 0 := by
    intro k
    induction k using Nat.strongRecOn with
    | ind k ih =>
      intro w hkw hw0 hk2
      obtain ⟨v0, v1, v2, v3, v4⟩ := id (hD)
      obtain ⟨LA, LI, u0, u1, u2, u3, u4, u5⟩ := hF
      have hc9 := ok.2.2.2.1 s.toNat
      refine jl_iload_n d_Sg_nextThrow_2 rfl rfl ?_
      refine jl_aload_n d_Sg_nextThrow_3 rfl rfl ?_
      refine jg_4 (q := 0) d_Sg_nextThrow_4 u0 rfl (by decide) fw_Sg_12 ?_
      refine jl_iload_n d_Sg_nextThrow_7 rfl rfl ?_
      refine jl_invV (M' := m_Dr_throwsOf) (d' := d - 1) (ck' := 0) (sk' := 0) (na := 1) (as := [.int (zI (s))]) (st := [.int (zI (w))]) d_Sg_nextThrow_8 rfl v0 rfl mw_Sg_62 ww_Dr_throwsOf sw_Dr_throwsOf nw_Dr cw_Dr_throwsOf rfl rfl rfl (by decide +kernel) (by omega) (Nat.le_of_ble_eq_true rfl) (Nat.le_of_ble_eq_true rfl) ?_
      refine k_D_throwsOf hl9 (by omega) ⟨v0, v1, v2, v3, v4⟩ ⟨by omega, by omega⟩ ?_
      show jl_AW _ _ _ _ _ 11 [some (.ref (g)), some (.int (zI (s))), some (.int (zI (f))), some (.int (zI (w)))] [.int (zI (cs (s).toNat)), .int (zI (w))] n h _ _
      refine jz_icmp_ge (tgt := 34) d_Sg_nextThrow_11 (by decide) ⟨by omega, by omega⟩ ⟨by omega, by omega⟩ (fun hc => ?_) (fun hc => ?_)
      · refine jl_iconst (v := zI (-1)) d_Sg_nextThrow_34 (by decide) ?_
        have ek : (cs s.toNat - w).toNat = 0 := by omega
        rw [ek] at hk2
        exact jl_iret d_Sg_nextThrow_35 rfl hk2
      · have ek : (cs s.toNat - w).toNat = (cs s.toNat - (w + 1)).toNat + 1 := by omega
        rw [ek, nx] at hk2
        have hh := ok.2.2.1 (s * 3 + w).toNat
        refine jl_aload_n d_Sg_nextThrow_14 rfl rfl ?_
        refine jg_4 (q := 0) d_Sg_nextThrow_15 u0 rfl (by decide) fw_Sg_12 ?_
        refine jl_iload_n d_Sg_nextThrow_18 rfl rfl ?_
        refine jl_iload_n d_Sg_nextThrow_19 rfl rfl ?_
        refine jl_invV (M' := m_Dr_heightOf) (d' := d - 1) (ck' := 0) (sk' := 0) (na := 2) (as := [.int (zI (s)), .int (zI (w))]) (st := []) d_Sg_nextThrow_20 rfl v0 rfl mw_Sg_66 ww_Dr_heightOf sw_Dr_heightOf nw_Dr cw_Dr_heightOf rfl rfl rfl (by decide +kernel) (by omega) (Nat.le_of_ble_eq_true rfl) (Nat.le_of_ble_eq_true rfl) ?_
        refine k_D_heightOf hl9 (by omega) ⟨v0, v1, v2, v3, v4⟩ ⟨by omega, by omega⟩ ⟨by omega, by omega⟩ ?_
        show jl_AW _ _ _ _ _ 23 [some (.ref (g)), some (.int (zI (s))), some (.int (zI (f))), some (.int (zI (w)))] [.int (zI (hs (s * 3 + w).toNat))] n h _ _
        refine jz_if_le (tgt := 28) d_Sg_nextThrow_23 (by decide) ⟨by omega, by omega⟩ (fun hc2 => ?_) (fun hc2 => ?_)
        · refine jz_iinc (v := w + 1) (L' := [some (.ref (g)), some (.int (zI (s))), some (.int (zI (f))), some (.int (zI (w + 1)))]) d_Sg_nextThrow_28 rfl (by omega) (by decide) rfl ?_
          refine jl_goto (tgt := 2) d_Sg_nextThrow_31 (by decide) ?_
          rw [if_neg (by omega)] at hk2
          exact ih (k - 1) (by omega) (w + 1) (by omega) (by omega) hk2
        · refine jl_iload_n d_Sg_nextThrow_26 rfl rfl ?_
          rw [if_pos (by omega)] at hk2
          exact jl_iret d_Sg_nextThrow_27 rfl hk2
  refine jl_iload_n d_Sg_nextThrow_0 rfl rfl ?_
  refine jl_istore_n (L' := [some (.ref (g)), some (.int (zI (s))), some (.int (zI (f))), some (.int (zI (f)))]) d_Sg_nextThrow_1 rfl (by decide) rfl ?_
  exact lp1 _ f rfl hf hk
set_option maxHeartbeats 4000000 in
set_option maxRecDepth 100000 in
theorem k_G_numberBalls {l : Launch} {G : jl_G} {d n : Nat} {h : Nat → va_E} {Kr : Option Value → Nat → (Nat → va_E) → Prop} {Kx : String → Nat → (Nat → va_E) → Prop} (hl9 : l.stackTraces = false) (hdd : 3 ≤ d) {g : Nat} {op nw : Int} {B : List (Int × Int)} {MD : Nat → Int} {m p : Int} {hs cs xs sc : Nat → Int} (hF : jFl h g op nw B MD) (hD : jD h (g + 1) m p hs cs xs sc) (ok : jOk m p hs cs xs) (hk : ∀ h', jFl h' g op nw (nba m p hs cs xs 9) MD → jfg h h' g → Kr none n h') : jl_Call l G m_Sg_numberBalls d [.ref (g)] n h 0 0 Kr Kx := by
  refine jl_enter hl9 (by decide) rfl (by simp [Value.category]) (Nat.le_of_ble_eq_true rfl) ?_
  show jl_AW l G (jl_F G Kr Kx) m_Sg_numberBalls d 0 [some (.ref (g)), none, none] [] n h 0 0
  have lp1 : ∀ (k : Nat) (a : Int) (h2 : Nat → va_E), a + k = 9 → 0 ≤ a → jFl h2 g op nw (nba m p hs cs xs a.toNat) MD → jfg h h2 g → jl_AW l G (jl_F G Kr Kx) m_Sg_numberBalls d 7 [some (.ref (g)), some (.int (zI (a))), none] [] n h2 0 0 := by
    intro k
    induction k using Nat.strongRecOn with
    | ind k ih =>
      intro a h2 hka ha0 hF2 hfr
      have lpi : ∀ (k2 : Nat) (t : Int) (h2 : Nat → va_E), t + k2 = 2 → 0 ≤ t → jFl h2 g op nw (nbk m p hs cs xs a (nba m p hs cs xs a.toNat) (t.toNat)) MD → jfg h h2 g → a < 9 → jl_AW l G (jl_F G Kr Kx) m_Sg_numberBalls d 15 [some (.ref (g)), some (.int (zI (a))), some (.int (zI (t)))] [] n h2 0 0 := by
        intro k2
        induction k2 using Nat.strongRecOn with
        | ind k2 ih2 =>
          intro t h2 hkt ht0 hF2 hfr ha9
          have hD2 := jfg_D hfr hD
          obtain ⟨LA, LI, u0, u1, u2, u3, u4, u5⟩ := hF2
          refine jl_iload_n d_Sg_numberBalls_15 rfl rfl ?_
          refine jl_iconst (v := zI (1)) d_Sg_numberBalls_16 (by decide) ?_
          refine jz_icmp_gt (tgt := 32) d_Sg_numberBalls_17 (by decide) ⟨by omega, by omega⟩ ⟨by omega, by omega⟩ (fun hc => ?_) (fun hc => ?_)
          · have et : t.toNat = 2 := by omega
            refine jz_iinc (v := a + 1) (L' := [some (.ref (g)), some (.int (zI (a + 1))), some (.int (zI (t)))]) d_Sg_numberBalls_32 rfl (by omega) (by decide) rfl ?_
            refine jl_goto (tgt := 7) d_Sg_numberBalls_35 (by decide) ?_
            refine jl_less (L' := [some (.ref (g)), some (.int (zI (a + 1))), none]) ⟨rfl, rfl, trivial⟩ ?_
            refine ih (k - 1) (by omega) (a + 1) h2 (by omega) (by omega) ?_ hfr
            rw [show (a + 1).toNat = a.toNat + 1 by omega, nba, show ((a.toNat : Nat) : Int) = a by omega]
            have hF3 : jFl h2 g op nw (nbk m p hs cs xs a (nba m p hs cs xs a.toNat) (t.toNat)) MD := ⟨LA, LI, u0, u1, u2, u3, u4, u5⟩
            rw [et] at hF3
            exact hF3
          · refine jl_aload_n d_Sg_numberBalls_20 rfl rfl ?_
            refine jl_iload_n d_Sg_numberBalls_21 rfl rfl ?_
            refine jl_iload_n d_Sg_numberBalls_22 rfl rfl ?_
            refine jl_invV (M' := m_Sg_numberBallsLanding) (d' := d - 1) (ck' := 0) (sk' := 0) (na := 2) (as := [.int (zI (a)), .int (zI (t))]) (st := []) d_Sg_numberBalls_23 rfl u0 rfl mw_Sg_46 ww_Sg_numberBallsLanding sw_Sg_numberBallsLanding nw_Sg cw_Sg_numberBallsLanding rfl rfl rfl (by decide +kernel) (by omega) (Nat.le_of_ble_eq_true rfl) (Nat.le_of_ble_eq_true rfl) ?_
            refine k_G_numberBallsLanding hl9 (by omega) ⟨LA, LI, u0, u1, u2, u3, u4, u5⟩ hD2 ok ⟨by omega, by omega⟩ ⟨by omega, by omega⟩ (fun h3 hF3 hfr3 => ?_)
            show jl_AW _ _ _ _ _ 26 [some (.ref (g)), some (.int (zI (a))), some (.int (zI (t)))] [] n h3 _ _
            refine jz_iinc (v := t + 1) (L' := [some (.ref (g)), some (.int (zI (a))), some (.int (zI (t + 1)))]) d_Sg_numberBalls_26 rfl (by omega) (by decide) rfl ?_
            refine jl_goto (tgt := 15) d_Sg_numberBalls_29 (by decide) ?_
            refine ih2 (k2 - 1) (by omega) (t + 1) h3 (by omega) (by omega) ?_ (fun y q0 q1 q2 q3 => (hfr3 y q0 q1 q2 q3).trans (hfr y q0 q1 q2 q3)) ha9
            rw [show (t + 1).toNat = t.toNat + 1 by omega, nbk, show ((t.toNat : Nat) : Int) = t by omega]
            exact hF3
      obtain ⟨LA, LI, u0, u1, u2, u3, u4, u5⟩ := hF2
      refine jl_iload_n d_Sg_numberBalls_7 rfl rfl ?_
      refine jl_bipush (v := zI (9)) d_Sg_numberBalls_8 (by decide) ?_
      refine jz_icmp_ge (tgt := 38) d_Sg_numberBalls_10 (by decide) ⟨by omega, by omega⟩ ⟨by omega, by omega⟩ (fun hc => ?_) (fun hc => ?_)
      · have ea : a.toNat = 9 := by omega
        have hF3 : jFl h2 g op nw (nba m p hs cs xs a.toNat) MD := ⟨LA, LI, u0, u1, u2, u3, u4, u5⟩
        rw [ea] at hF3
        exact jl_vret d_Sg_numberBalls_38 rfl (hk h2 hF3 hfr)
      · refine jl_iconst (v := zI (0)) d_Sg_numberBalls_13 (by decide) ?_
        refine jl_istore_n (L' := [some (.ref (g)), some (.int (zI (a))), some (.int (zI (0)))]) d_Sg_numberBalls_14 rfl (by decide) rfl ?_
        exact lpi 2 0 h2 (by omega) (by omega) ⟨LA, LI, u0, u1, u2, u3, u4, u5⟩ hfr (by omega)
  obtain ⟨LA, LI, u0, u1, u2, u3, u4, u5⟩ := hF
  refine jl_aload_n d_Sg_numberBalls_0 rfl rfl ?_
  refine jl_iconst (v := zI (0)) d_Sg_numberBalls_1 (by decide) ?_
  refine jp_4 (q := 6) (ty := .int) d_Sg_numberBalls_2 u0 (by simp) (by decide) fw_Sg_43 rfl (by decide +kernel) (fun _ _ => rfl) (fun _ _ => rfl) (fun h1 eh1 => ?_)
  have eh1 : h1 = va_up h (g) (jO 4 [.ref (g + 1), .ref (g + 6), .ref (g + 7), .ref (g + 8), .int (zI (op)), .int (zI (nw)), .int (zI (0))]) := eh1
  have jf2 : h1 (g) = jO 4 [.ref (g + 1), .ref (g + 6), .ref (g + 7), .ref (g + 8), .int (zI (op)), .int (zI (nw)), .int (zI (0))] := by rw [eh1, va_up_self]
  have jf3 : h1 (g + 6) = jI 27 (fun j9 => zI (LA j9)) := by rw [eh1, va_up_ne _ _ (by omega)]; exact u1
  have jf4 : h1 (g + 7) = jI 27 (fun j9 => zI (LI j9)) := by rw [eh1, va_up_ne _ _ (by omega)]; exact u2
  have jf5 : h1 (g + 8) = jI 2 (fun j9 => zI (MD j9)) := by rw [eh1, va_up_ne _ _ (by omega)]; exact u3
  refine jl_iconst (v := zI (0)) d_Sg_numberBalls_5 (by decide) ?_
  refine jl_istore_n (L' := [some (.ref (g)), some (.int (zI (0))), none]) d_Sg_numberBalls_6 rfl (by decide) rfl ?_
  exact lp1 9 0 h1 (by omega) (by omega) ⟨LA, LI, jf2, jf3, jf4, jf5, Nat.zero_le 27, fun j hj => absurd hj (Nat.not_lt_zero j)⟩ (fun y q0 q1 q2 q3 => by rw [eh1, va_up_ne _ _ (by omega)])
set_option maxHeartbeats 4000000 in
set_option maxRecDepth 100000 in
theorem k_G_lastToLand {l : Launch} {G : jl_G} {d n : Nat} {h : Nat → va_E} {Kr : Option Value → Nat → (Nat → va_E) → Prop} {Kx : String → Nat → (Nat → va_E) → Prop} (hl9 : l.stackTraces = false) (hdd : 0 ≤ d) {g : Nat} {op nw : Int} {B : List (Int × Int)} {MD : Nat → Int} (hF : jFl h g op nw B MD) (hB : ∀ j, j < B.length → zR (B.getD j (0, 0)).1) (hk : Kr (some (.int (zI (ll B B.length)))) n h) : jl_Call l G m_Sg_lastToLand d [.ref (g)] n h 0 0 Kr Kx := by
  refine jl_enter hl9 (by decide) rfl (by simp [Value.category]) (Nat.le_of_ble_eq_true rfl) ?_
  show jl_AW l G (jl_F G Kr Kx) m_Sg_lastToLand d 0 [some (.ref (g)), none, none] [] n h 0 0
  have lp1 : ∀ (k : Nat) (j : Int), j + k = B.length → 0 ≤ j → jl_AW l G (jl_F G Kr Kx) m_Sg_lastToLand d 4 [some (.ref (g)), some (.int (zI (ll B j.toNat))), some (.int (zI (j)))] [] n h 0 0 := by
    intro k
    induction k using Nat.strongRecOn with
    | ind k ih =>
      intro j hkj hj0
      obtain ⟨LA, LI, u0, u1, u2, u3, u4, u5⟩ := hF
      have hl8 := ll_rg B j.toNat (by omega)
      refine jl_iload_n d_Sg_lastToLand_4 rfl rfl ?_
      refine jl_aload_n d_Sg_lastToLand_5 rfl rfl ?_
      refine jg_4 (q := 6) d_Sg_lastToLand_6 u0 rfl (by decide) fw_Sg_43 ?_
      refine jz_icmp_ge (tgt := 40) d_Sg_lastToLand_9 (by decide) ⟨by omega, by omega⟩ ⟨by omega, by omega⟩ (fun hc => ?_) (fun hc => ?_)
      · have ej : j.toNat = B.length := by omega
        rw [ej]
        refine jl_iload_n d_Sg_lastToLand_40 rfl rfl ?_
        exact jl_iret d_Sg_lastToLand_41 rfl hk
      · have en : (j + 1).toNat = j.toNat + 1 := by omega
        have ec : ((j.toNat : Nat) : Int) = j := by omega
        have hz1 := hB j.toNat (by omega)
        refine jl_iload_n d_Sg_lastToLand_12 rfl rfl ?_
        refine jl_iconst (v := zI (-1)) d_Sg_lastToLand_13 (by decide) ?_
        refine jz_icmp_eq (tgt := 32) d_Sg_lastToLand_14 (by decide) ⟨by omega, by omega⟩ ⟨by omega, by omega⟩ (fun hc2 => ?_) (fun hc2 => ?_)
        · refine jl_iload_n d_Sg_lastToLand_32 rfl rfl ?_
          refine jl_istore_n (L' := [some (.ref (g)), some (.int (zI (j))), some (.int (zI (j)))]) d_Sg_lastToLand_33 rfl (by decide) rfl ?_
          refine jz_iinc (v := j + 1) (L' := [some (.ref (g)), some (.int (zI (j))), some (.int (zI (j + 1)))]) d_Sg_lastToLand_34 rfl (by omega) (by decide) rfl ?_
          refine jl_goto (tgt := 4) d_Sg_lastToLand_37 (by decide) ?_
          have h9 := ih (k - 1) (by omega) (j + 1) (by omega) (by omega)
          rw [en, ll, ec, if_pos (Or.inl hc2)] at h9
          exact h9
        · have hz2 := hB (ll B j.toNat).toNat (by omega)
          refine jl_aload_n d_Sg_lastToLand_17 rfl rfl ?_
          refine jg_4 (q := 1) d_Sg_lastToLand_18 u0 rfl (by decide) fw_Sg_18 ?_
          refine jl_iload_n d_Sg_lastToLand_21 rfl rfl ?_
          refine jz_iald d_Sg_lastToLand_22 u1 (by omega) (by omega) (by omega) ?_
          refine jl_aload_n d_Sg_lastToLand_23 rfl rfl ?_
          refine jg_4 (q := 1) d_Sg_lastToLand_24 u0 rfl (by decide) fw_Sg_18 ?_
          refine jl_iload_n d_Sg_lastToLand_27 rfl rfl ?_
          refine jz_iald d_Sg_lastToLand_28 u1 (by omega) (by omega) (by omega) ?_
          rw [(u5 j.toNat (by omega)).1, (u5 (ll B j.toNat).toNat (by omega)).1]
          refine jz_icmp_le (tgt := 34) d_Sg_lastToLand_29 (by decide) ⟨by omega, by omega⟩ ⟨by omega, by omega⟩ (fun hc3 => ?_) (fun hc3 => ?_)
          · refine jz_iinc (v := j + 1) (L' := [some (.ref (g)), some (.int (zI (ll B j.toNat))), some (.int (zI (j + 1)))]) d_Sg_lastToLand_34 rfl (by omega) (by decide) rfl ?_
            refine jl_goto (tgt := 4) d_Sg_lastToLand_37 (by decide) ?_
            have h9 := ih (k - 1) (by omega) (j + 1) (by omega) (by omega)
            rw [en, ll, ec, if_neg (fun q => by omega)] at h9
            exact h9
          · refine jl_iload_n d_Sg_lastToLand_32 rfl rfl ?_
            refine jl_istore_n (L' := [some (.ref (g)), some (.int (zI (j))), some (.int (zI (j)))]) d_Sg_lastToLand_33 rfl (by decide) rfl ?_
            refine jz_iinc (v := j + 1) (L' := [some (.ref (g)), some (.int (zI (j))), some (.int (zI (j + 1)))]) d_Sg_lastToLand_34 rfl (by omega) (by decide) rfl ?_
            refine jl_goto (tgt := 4) d_Sg_lastToLand_37 (by decide) ?_
            have h9 := ih (k - 1) (by omega) (j + 1) (by omega) (by omega)
            rw [en, ll, ec, if_pos (Or.inr (by omega))] at h9
            exact h9
  have hl7 : B.length ≤ 27 := by obtain ⟨-, -, -, -, -, -, q, -⟩ := hF; exact q
  refine jl_iconst (v := zI (-1)) d_Sg_lastToLand_0 (by decide) ?_
  refine jl_istore_n (L' := [some (.ref (g)), some (.int (zI (-1))), none]) d_Sg_lastToLand_1 rfl (by decide) rfl ?_
  refine jl_iconst (v := zI (0)) d_Sg_lastToLand_2 (by decide) ?_
  refine jl_istore_n (L' := [some (.ref (g)), some (.int (zI (-1))), some (.int (zI (0)))]) d_Sg_lastToLand_3 rfl (by decide) rfl ?_
  exact lp1 B.length 0 (by omega) (by omega)
