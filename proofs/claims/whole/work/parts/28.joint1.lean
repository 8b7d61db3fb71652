def bix (ds q : Nat → Int) (qd : Int) : Prop := ∀ j : Int, 0 ≤ j → j < qd → ds (q j.toNat).toNat ≤ j
theorem bix_put {Gl : Int → Prop} {ds q : Nat → Int} {qd c v : Int} (hI : bfI Gl ds q qd c) (h : bix ds q qd) (hd : ds v.toNat = -1) (hc : c ≤ qd) : bix (va_up ds v.toNat c) (va_up q qd.toNat v) (qd + 1) := by
  intro j a b
  have hq := bfI_rg hI
  by_cases e : j = qd
  · subst e
    rw [va_up_self, va_up_self]
    exact hc
  · rw [va_up_ne q _ (by omega), va_up_ne ds _ (fun q9 => ?_)]
    · exact h j a (by omega)
    · have := (hI.2.1 j a (by omega)).2.1
      rw [q9, hd] at this
      omega
theorem bf_z {Gl : Int → Prop} {ds q : Nat → Int} {qd c v : Int} (hI : bfI Gl ds q qd c) (h : bix ds q qd) (hv : 0 ≤ v ∧ v < 512) : -1 ≤ ds v.toNat ∧ ds v.toNat < 512 := by
  have hq := bfI_rg hI
  rcases hI.2.2.2 v hv.1 hv.2 with h1 | ⟨h1, -, j, h2, h3, h4⟩
  · omega
  · have := h j h2 h3
    rw [h4] at this
    omega
theorem dOk_z {Gl : Int → Prop} {ds : Nat → Int} (hd : dOk Gl ds) (hb : ∀ v : Nat, v < 512 → ds v < 512) {v : Int} (hv : 0 ≤ v ∧ v < 512) : -1 ≤ ds v.toNat ∧ ds v.toNat < 512 := by
  refine ⟨?_, hb _ (by omega)⟩
  rcases hd v hv.1 hv.2 with h | h
  · have := h.1; omega
  · omega
/-- the nearest of the first k + 1 sites -/
def nsf (ds : Nat → Int) (p : Int) (hs : Nat → Int) : Nat → Int
  | 0 => 0
  | k + 1 => if ds (sp_st p hs ((k : Int) + 1)).toNat < ds (sp_st p hs (nsf ds p hs k)).toNat then (k : Int) + 1 else nsf ds p hs k
theorem nsf_rg (ds : Nat → Int) (p : Int) (hs : Nat → Int) : ∀ k : Nat, 0 ≤ nsf ds p hs k ∧ nsf ds p hs k ≤ k
  | 0 => by unfold nsf; omega
  | k + 1 => by
    have h := nsf_rg ds p hs k
    unfold nsf
    split <;> omega
theorem nsf_min (ds : Nat → Int) (p : Int) (hs : Nat → Int) : ∀ k : Nat, ∀ s : Int, 0 ≤ s → s ≤ k → ds (sp_st p hs (nsf ds p hs k)).toNat ≤ ds (sp_st p hs s).toNat ∧ (s < nsf ds p hs k → ds (sp_st p hs (nsf ds p hs k)).toNat < ds (sp_st p hs s).toNat)
  | 0, s, h0, h1 => by
    have e : s = 0 := by omega
    subst e
    unfold nsf
    exact ⟨Int.le_refl _, fun h => by omega⟩
  | k + 1, s, h0, h1 => by
    have ih := nsf_min ds p hs k
    have hr := nsf_rg ds p hs k
    by_cases e : s = (k : Int) + 1
    · subst e
      unfold nsf
      split
      · exact ⟨Int.le_refl _, fun h => by omega⟩
      · exact ⟨by omega, fun h => by omega⟩
    · have h2 := ih s h0 (by omega)
      unfold nsf
      split
      · exact ⟨by omega, fun h => by omega⟩
      · exact h2
theorem nsf_st {Gl : Int → Prop} {ds : Nat → Int} {p : Int} {hs : Nat → Int} (hp : 1 ≤ p) (hd : ∀ s, 0 ≤ s → s < p → isD Gl (sp_st p hs s) (ds (sp_st p hs s).toNat)) : nst Gl p hs (nsf ds p hs (p - 1).toNat) := by
  have hr := nsf_rg ds p hs (p - 1).toNat
  refine ⟨hr.1, by omega, _, hd _ hr.1 (by omega), fun s h0 h1 => ⟨_, hd s h0 h1, nsf_min ds p hs (p - 1).toNat s h0 (by omega)⟩⟩
/-- distances tell what is nearer -/
theorem dOk_eq {Gl : Int → Prop} {ds : Nat → Int} (hd : dOk Gl ds) {v k : Int} (hv : 0 ≤ v ∧ v < 512) (hk : 0 ≤ k) : ds v.toNat = k ↔ isD Gl v k := by
  rcases hd v hv.1 hv.2 with h | ⟨h1, h2⟩
  · exact ⟨fun e => by rw [← e]; exact h, fun e => isD_u h e⟩
  · exact ⟨fun e => by omega, fun e => absurd e.2.1 (h2 _)⟩
/-- a way's beginning: r throws from v to u, the goal t throws on -/
def wlp (Gl : Int → Prop) (t : Nat) : List Int → Int → Int → Prop
  | [], v, u => u = v
  | h :: r, v, u => lws Gl v ((r.length + t : Nat) : Int) h ∧ wlp Gl t r (sa v h) u
theorem wlp_0 {Gl : Int → Prop} : ∀ W v u, wlp Gl 0 W v u → wlk Gl W.length v W u
  | [], v, u, h => ⟨rfl, h⟩
  | a :: r, v, u, h => ⟨a, r, rfl, h.1, wlp_0 r _ _ h.2⟩
theorem wlp_app {Gl : Int → Prop} {t : Nat} {h : Int} : ∀ W v u, wlp Gl (t + 1) W v u → lws Gl u (t : Int) h → wlp Gl t (W ++ [h]) v (sa u h)
  | [], v, u, h1, h2 => by
    have e : u = v := h1
    subst e
    refine ⟨?_, rfl⟩
    simpa using h2
  | a :: r, v, u, h1, h2 => by
    refine ⟨?_, wlp_app r _ _ h1.2 h2⟩
    have h3 := h1.1
    rw [show r.length + (t + 1) = (r ++ [h]).length + t by simp; omega] at h3
    exact h3
set_option maxHeartbeats 4000000 in
set_option maxRecDepth 100000 in
theorem k_stateAfter {l : Launch} {G : jl_G} {d n : Nat} {h : Nat → va_E} {Kr : Option Value → Nat → (Nat → va_E) → Prop} {Kx : String → Nat → (Nat → va_E) → Prop} (hl9 : l.stackTraces = false) (hdd : 1 ≤ d) {v b : Int} (hv : 0 ≤ v ∧ v < 512) (hb : 0 ≤ b ∧ b ≤ 9) (hk : Kr (some (.int (zI (sa v b)))) n h) : jl_Call l G m_St_stateAfter d [.int (zI (v)), .int (zI (b))] n h 0 0 Kr Kx := by
  refine jl_enter hl9 (by decide) rfl (by simp [Value.category]) (Nat.le_of_ble_eq_true rfl) ?_
  show jl_AW l G (jl_F G Kr Kx) m_St_stateAfter d 0 [some (.int (zI (v))), some (.int (zI (b))), none, none, none] [] n h 0 0
  obtain ⟨V, eV⟩ : ∃ V : Nat, v = (V : Int) := ⟨v.toNat, by omega⟩
  subst eV
  have hV : V < 512 := by omega
  have esa : sa (V : Int) b = saN V b.toNat := by unfold sa; rw [Int.toNat_natCast]
  rw [esa] at hk
  refine jl_iload_n d_St_stateAfter_0 rfl rfl ?_
  refine jl_invS (M' := m_St_isOdd) (d' := d - 1) (ck' := 0) (sk' := 0) (na := 1) (as := [.int (zI ((V : Int)))]) (st := []) d_St_stateAfter_1 rfl mw_St_55 ww_St_isOdd nw_St cw_St_isOdd rfl rfl rfl (by decide +kernel) (by omega) (Nat.le_of_ble_eq_true rfl) (Nat.le_of_ble_eq_true rfl) ?_
  refine k_isOdd hl9 (by omega) ⟨by omega, by omega⟩ ?_
  show jl_AW _ _ _ _ _ 4 [some (.int (zI ((V : Int)))), some (.int (zI (b))), none, none, none] [.int (zI ((V : Int) % 2))] n h _ _
  refine jl_istore_n (L' := [some (.int (zI ((V : Int)))), some (.int (zI (b))), some (.int (zI ((V : Int) % 2))), none, none]) d_St_stateAfter_4 rfl (by decide) rfl ?_
  refine jl_iload_n d_St_stateAfter_5 rfl rfl ?_
  refine jl_iconst (v := zI (1)) d_St_stateAfter_6 (by decide) ?_
  refine jl_ishr d_St_stateAfter_7 (jz_int (bg_1 V hV) ?_)
  refine jl_istore_n (L' := [some (.int (zI ((V : Int)))), some (.int (zI (b))), some (.int (zI ((V : Int) % 2))), some (.int (zI (((V / 2 : Nat) : Int)))), none]) d_St_stateAfter_8 rfl (by decide) rfl ?_
  refine jl_iload_n d_St_stateAfter_9 rfl rfl ?_
  refine jz_if_ne (tgt := 23) d_St_stateAfter_10 (by decide) ⟨by omega, by omega⟩ (fun q1 => ?_) (fun q1 => ?_)
  · obtain ⟨K, eK⟩ : ∃ K : Nat, b = (K : Int) + 1 := ⟨(b - 1).toNat, by omega⟩
    subst eK
    have hK : K < 9 := by omega
    have eK2 : ((K : Int) + 1).toNat = K + 1 := by omega
    have eK3 : K + 1 - 1 = K := rfl
    refine jl_iconst (v := zI (1)) d_St_stateAfter_23 (by decide) ?_
    refine jl_iload_n d_St_stateAfter_24 rfl rfl ?_
    refine jl_iconst (v := zI (1)) d_St_stateAfter_25 (by decide) ?_
    refine jz_isub (v := (K : Int)) d_St_stateAfter_26 (by omega) ?_
    refine jl_ishl d_St_stateAfter_27 (jz_int (bg_2 K hK) ?_)
    refine jl_istore (L' := [some (.int (zI ((V : Int)))), some (.int (zI ((K : Int) + 1))), some (.int (zI ((V : Int) % 2))), some (.int (zI (((V / 2 : Nat) : Int)))), some (.int (zI (((2 ^ K : Nat) : Int))))]) d_St_stateAfter_28 (by decide) rfl ?_
    refine jl_iload_n d_St_stateAfter_30 rfl rfl ?_
    refine jz_if_eq (tgt := 41) d_St_stateAfter_31 (by decide) ⟨by omega, by omega⟩ (fun q2 => ?_) (fun q2 => ?_)
    · refine jl_iconst (v := zI (-1)) d_St_stateAfter_41 (by decide) ?_
      refine jl_goto (tgt := 49) d_St_stateAfter_42 (by decide) ?_
      exact jl_iret d_St_stateAfter_49 rfl (by rw [eK2, saN, if_pos (by omega), if_neg (by omega)] at hk; exact hk)
    · refine jl_iload_n d_St_stateAfter_34 rfl rfl ?_
      refine jl_iload d_St_stateAfter_35 rfl ?_
      refine jl_iand d_St_stateAfter_37 (jz_int (bg_3 (V / 2) (by omega) K hK) ?_)
      have hl7 : (V / 2 &&& 2 ^ K) ≤ V / 2 := Nat.and_le_left
      refine jz_if_eq (tgt := 45) d_St_stateAfter_38 (by decide) ⟨by omega, by omega⟩ (fun q3 => ?_) (fun q3 => ?_)
      · refine jl_iload_n d_St_stateAfter_45 rfl rfl ?_
        refine jl_iload d_St_stateAfter_46 rfl ?_
        refine jl_ior d_St_stateAfter_48 (jz_int (bg_4 (V / 2) (by omega) K hK) ?_)
        exact jl_iret d_St_stateAfter_49 rfl (by rw [eK2, saN, if_neg (by omega), if_neg (by omega), eK3, if_pos (by omega)] at hk; exact hk)
      · refine jl_iconst (v := zI (-1)) d_St_stateAfter_41 (by decide) ?_
        refine jl_goto (tgt := 49) d_St_stateAfter_42 (by decide) ?_
        exact jl_iret d_St_stateAfter_49 rfl (by rw [eK2, saN, if_neg (by omega), if_neg (by omega), eK3, if_neg (by omega)] at hk; exact hk)
  · refine jl_iload_n d_St_stateAfter_13 rfl rfl ?_
    refine jz_if_eq (tgt := 21) d_St_stateAfter_14 (by decide) ⟨by omega, by omega⟩ (fun q2 => ?_) (fun q2 => ?_)
    · refine jl_iload_n d_St_stateAfter_21 rfl rfl ?_
      exact jl_iret d_St_stateAfter_22 rfl (by rw [saN, if_pos (by omega), if_pos (by omega)] at hk; exact hk)
    · refine jl_iconst (v := zI (-1)) d_St_stateAfter_17 (by decide) ?_
      refine jl_goto (tgt := 22) d_St_stateAfter_18 (by decide) ?_
      exact jl_iret d_St_stateAfter_22 rfl (by rw [saN, if_neg (by omega), if_pos (by omega)] at hk; exact hk)
set_option maxHeartbeats 4000000 in
set_option maxRecDepth 100000 in
theorem k_stateFrom {l : Launch} {G : jl_G} {d n : Nat} {h : Nat → va_E} {Kr : Option Value → Nat → (Nat → va_E) → Prop} {Kx : String → Nat → (Nat → va_E) → Prop} (hl9 : l.stackTraces = false) (hdd : 1 ≤ d) {v b : Int} (hv : 0 ≤ v ∧ v < 512) (hb : 0 ≤ b ∧ b ≤ 9) (hk : Kr (some (.int (zI (sf v b)))) n h) : jl_Call l G m_St_stateFrom d [.int (zI (v)), .int (zI (b))] n h 0 0 Kr Kx := by
  refine jl_enter hl9 (by decide) rfl (by simp [Value.category]) (Nat.le_of_ble_eq_true rfl) ?_
  show jl_AW l G (jl_F G Kr Kx) m_St_stateFrom d 0 [some (.int (zI (v))), some (.int (zI (b))), none, none, none] [] n h 0 0
  obtain ⟨V, eV⟩ : ∃ V : Nat, v = (V : Int) := ⟨v.toNat, by omega⟩
  subst eV
  have hV : V < 512 := by omega
  have esa : sf (V : Int) b = sfN V b.toNat := by unfold sf; rw [Int.toNat_natCast]
  rw [esa] at hk
  refine jl_iload_n d_St_stateFrom_0 rfl rfl ?_
  refine jz_if_ne (tgt := 8) d_St_stateFrom_1 (by decide) ⟨by omega, by omega⟩ (fun q1 => ?_) (fun q1 => ?_)
  · obtain ⟨K, eK⟩ : ∃ K : Nat, b = (K : Int) + 1 := ⟨(b - 1).toNat, by omega⟩
    subst eK
    have hK : K < 9 := by omega
    have eK2 : ((K : Int) + 1).toNat = K + 1 := by omega
    have eK3 : K + 1 - 1 = K := rfl
    have hp9 : (2 : Nat) ^ K ≤ 256 := Nat.pow_le_pow_right (n := 2) (by decide) (show K ≤ 8 by omega)
    refine jl_iconst (v := zI (1)) d_St_stateFrom_8 (by decide) ?_
    refine jl_iload_n d_St_stateFrom_9 rfl rfl ?_
    refine jl_iconst (v := zI (1)) d_St_stateFrom_10 (by decide) ?_
    refine jz_isub (v := (K : Int)) d_St_stateFrom_11 (by omega) ?_
    refine jl_ishl d_St_stateFrom_12 (jz_int (bg_2 K hK) ?_)
    refine jl_istore_n (L' := [some (.int (zI ((V : Int)))), some (.int (zI ((K : Int) + 1))), some (.int (zI (((2 ^ K : Nat) : Int)))), none, none]) d_St_stateFrom_13 rfl (by decide) rfl ?_
    refine jl_iload_n d_St_stateFrom_14 rfl rfl ?_
    refine jl_iload_n d_St_stateFrom_15 rfl rfl ?_
    refine jl_iand d_St_stateFrom_16 (jz_int (bg_3 V hV K hK) ?_)
    have hl7 : (V &&& 2 ^ K) ≤ V := Nat.and_le_left
    have hp7 : (0 : Int) ≤ ((2 ^ K : Nat) : Int) := Int.natCast_nonneg _
    refine jl_iload_n d_St_stateFrom_17 rfl rfl ?_
    refine jz_icmp_eq (tgt := 23) d_St_stateFrom_18 (by decide) ⟨by omega, by omega⟩ ⟨by omega, by omega⟩ (fun q2 => ?_) (fun q2 => ?_)
    · refine jl_iload_n d_St_stateFrom_23 rfl rfl ?_
      refine jz_if_ne (tgt := 31) d_St_stateFrom_24 (by decide) ⟨by omega, by omega⟩ (fun q3 => ?_) (fun q3 => ?_)
      · refine jl_iconst (v := zI (1)) d_St_stateFrom_31 (by decide) ?_
        refine jl_istore_n (L' := [some (.int (zI ((V : Int)))), some (.int (zI ((K : Int) + 1))), some (.int (zI (((2 ^ K : Nat) : Int)))), some (.int (zI (1))), none]) d_St_stateFrom_32 rfl (by decide) rfl ?_
        refine jl_iload_n d_St_stateFrom_33 rfl rfl ?_
        refine jl_iload_n d_St_stateFrom_34 rfl rfl ?_
        refine jl_iconst (v := zI (-1)) d_St_stateFrom_35 (by decide) ?_
        refine jl_ixor d_St_stateFrom_36 (jl_iand d_St_stateFrom_37 ?_)
        refine jl_iconst (v := zI (1)) d_St_stateFrom_38 (by decide) (jl_ishl d_St_stateFrom_39 ?_)
        refine jl_iload_n d_St_stateFrom_40 rfl rfl (jl_ior d_St_stateFrom_41 (jz_int (bg_5 V hV K hK) ?_))
        have hl6 : (V &&& (511 ^^^ 2 ^ K)) ≤ V := Nat.and_le_left
        refine jl_istore (L' := [some (.int (zI ((V : Int)))), some (.int (zI ((K : Int) + 1))), some (.int (zI (((2 ^ K : Nat) : Int)))), some (.int (zI (1))), some (.int (zI ((((V &&& (511 ^^^ 2 ^ K)) * 2 + 1 : Nat) : Int))))]) d_St_stateFrom_42 (by decide) rfl ?_
        refine jl_iload d_St_stateFrom_44 rfl ?_
        refine jl_sipush (v := zI (512)) d_St_stateFrom_46 (by decide) ?_
        refine jz_icmp_ge (tgt := 57) d_St_stateFrom_49 (by decide) ⟨by omega, by omega⟩ ⟨by omega, by omega⟩ (fun q4 => ?_) (fun q4 => ?_)
        · refine jl_iconst (v := zI (-1)) d_St_stateFrom_57 (by decide) ?_
          exact jl_iret d_St_stateFrom_58 rfl (by rw [eK2, sfN, if_neg (by omega), eK3, if_pos (by omega), if_neg (by omega)] at hk; exact hk)
        · refine jl_iload d_St_stateFrom_52 rfl ?_
          refine jl_goto (tgt := 58) d_St_stateFrom_54 (by decide) ?_
          exact jl_iret d_St_stateFrom_58 rfl (by rw [eK2, sfN, if_neg (by omega), eK3, if_pos (by omega), if_pos (by omega)] at hk; exact hk)
      · omega
    · refine jl_iconst (v := zI (-1)) d_St_stateFrom_21 (by decide) ?_
      exact jl_iret d_St_stateFrom_22 rfl (by rw [eK2, sfN, if_neg (by omega), eK3, if_neg (by omega)] at hk; exact hk)
  · have eb : b = 0 := by omega
    subst eb
    refine jl_iconst (v := zI (0)) d_St_stateFrom_4 (by decide) ?_
    refine jl_goto (tgt := 13) d_St_stateFrom_5 (by decide) ?_
    refine jl_istore_n (L' := [some (.int (zI ((V : Int)))), some (.int (zI (0))), some (.int (zI (0))), none, none]) d_St_stateFrom_13 rfl (by decide) rfl ?_
    refine jl_iload_n d_St_stateFrom_14 rfl rfl ?_
    refine jl_iload_n d_St_stateFrom_15 rfl rfl ?_
    refine jl_iand d_St_stateFrom_16 (jz_int (bg_7 V hV) ?_)
    refine jl_iload_n d_St_stateFrom_17 rfl rfl ?_
    refine jz_icmp_eq (tgt := 23) d_St_stateFrom_18 (by decide) ⟨by omega, by omega⟩ ⟨by omega, by omega⟩ (fun q2 => ?_) (fun q2 => ?_)
    · refine jl_iload_n d_St_stateFrom_23 rfl rfl ?_
      refine jz_if_ne (tgt := 31) d_St_stateFrom_24 (by decide) ⟨by omega, by omega⟩ (fun q3 => ?_) (fun q3 => ?_)
      · exact absurd rfl q3
      · refine jl_iconst (v := zI (0)) d_St_stateFrom_27 (by decide) ?_
        refine jl_goto (tgt := 32) d_St_stateFrom_28 (by decide) ?_
        refine jl_istore_n (L' := [some (.int (zI ((V : Int)))), some (.int (zI (0))), some (.int (zI (0))), some (.int (zI (0))), none]) d_St_stateFrom_32 rfl (by decide) rfl ?_
        refine jl_iload_n d_St_stateFrom_33 rfl rfl ?_
        refine jl_iload_n d_St_stateFrom_34 rfl rfl ?_
        refine jl_iconst (v := zI (-1)) d_St_stateFrom_35 (by decide) ?_
        refine jl_ixor d_St_stateFrom_36 (jl_iand d_St_stateFrom_37 ?_)
        refine jl_iconst (v := zI (1)) d_St_stateFrom_38 (by decide) (jl_ishl d_St_stateFrom_39 ?_)
        refine jl_iload_n d_St_stateFrom_40 rfl rfl (jl_ior d_St_stateFrom_41 (jz_int (bg_6 V hV) ?_))
        refine jl_istore (L' := [some (.int (zI ((V : Int)))), some (.int (zI (0))), some (.int (zI (0))), some (.int (zI (0))), some (.int (zI (((V * 2 : Nat) : Int))))]) d_St_stateFrom_42 (by decide) rfl ?_
        refine jl_iload d_St_stateFrom_44 rfl ?_
        refine jl_sipush (v := zI (512)) d_St_stateFrom_46 (by decide) ?_
        refine jz_icmp_ge (tgt := 57) d_St_stateFrom_49 (by decide) ⟨by omega, by omega⟩ ⟨by omega, by omega⟩ (fun q4 => ?_) (fun q4 => ?_)
        · refine jl_iconst (v := zI (-1)) d_St_stateFrom_57 (by decide) ?_
          exact jl_iret d_St_stateFrom_58 rfl (by rw [show (0 : Int).toNat = 0 from rfl, sfN, if_pos rfl, if_neg (by omega)] at hk; exact hk)
        · refine jl_iload d_St_stateFrom_52 rfl ?_
          refine jl_goto (tgt := 58) d_St_stateFrom_54 (by decide) ?_
          exact jl_iret d_St_stateFrom_58 rfl (by rw [show (0 : Int).toNat = 0 from rfl, sfN, if_pos rfl, if_pos (by omega)] at hk; exact hk)
    · exact absurd rfl q2
set_option maxHeartbeats 4000000 in
set_option maxRecDepth 100000 in
theorem k_J_reach {l : Launch} {G : jl_G} {d n : Nat} {h : Nat → va_E} {Kr : Option Value → Nat → (Nat → va_E) → Prop} {Kx : String → Nat → (Nat → va_E) → Prop} (hl9 : l.stackTraces = false) (hdd : 0 ≤ d) {jo : Nat} {DS QU WA : Nat → Int} {qd ln md fs ts : Int} {v c : Int} {Gl : Int → Prop} (hJ : jJt h jo DS QU WA qd ln md fs ts) (hI : bfI Gl DS QU qd c) (hX : bix DS QU qd) (hc : 0 ≤ c ∧ c ≤ qd) (hv : v = -1 ∨ ((0 ≤ v ∧ v < 512) ∧ rch Gl c.toNat v)) (hk : ∀ DS' QU' qd' h', jJt h' jo DS' QU' WA qd' ln md fs ts → jfr h h' jo (jo + 4) → bfI Gl DS' QU' qd' c → bgr DS QU qd DS' QU' qd' → bix DS' QU' qd' → (¬ v = -1 → 0 ≤ DS' v.toNat ∧ DS' v.toNat ≤ c) → Kr none n h') : jl_Call l G m_Jo_reach d [.ref (jo), .int (zI (v)), .int (zI (c))] n h 0 0 Kr Kx := by
  refine jl_enter hl9 (by decide) rfl (by simp [Value.category]) (Nat.le_of_ble_eq_true rfl) ?_
  show jl_AW l G (jl_F G Kr Kx) m_Jo_reach d 0 [some (.ref (jo)), some (.int (zI (v))), some (.int (zI (c)))] [] n h 0 0
  have hq9 := bfI_rg hI
  obtain ⟨j0, j1, j2, j3⟩ := id (hJ)
  refine jl_iload_n d_Jo_reach_0 rfl rfl ?_
  refine jl_iconst (v := zI (-1)) d_Jo_reach_1 (by decide) ?_
  refine jz_icmp_eq (tgt := 42) d_Jo_reach_2 (by decide) ⟨by omega, by omega⟩ ⟨by omega, by omega⟩ (fun q1 => ?_) (fun q1 => ?_)
  · exact jl_vret d_Jo_reach_42 rfl (hk DS QU qd h hJ (fun y hy => rfl) hI (bgr_rf _ _ _) hX (fun q => absurd q1 q))
  · have hv2 : (0 ≤ v ∧ v < 512) ∧ rch Gl c.toNat v := by rcases hv with q | q; exact absurd q q1; exact q
    have hz := bf_z hI hX hv2.1
    refine jl_aload_n d_Jo_reach_5 rfl rfl ?_
    refine jg_3 (q := 0) d_Jo_reach_6 j0 rfl (by decide) fw_Jo_9 ?_
    refine jl_iload_n d_Jo_reach_9 rfl rfl ?_
    refine jz_iald d_Jo_reach_10 j1 (by omega) (by omega) (by omega) ?_
    refine jl_iconst (v := zI (-1)) d_Jo_reach_11 (by decide) ?_
    refine jz_icmp_ne (tgt := 42) d_Jo_reach_12 (by decide) ⟨by omega, by omega⟩ ⟨by omega, by omega⟩ (fun q2 => ?_) (fun q2 => ?_)
    · exact jl_vret d_Jo_reach_42 rfl (hk DS QU qd h hJ (fun y hy => rfl) hI (bgr_rf _ _ _) hX (fun q => by rcases hI.2.2.2 v hv2.1.1 hv2.1.2 with q9 | ⟨q9, -, j, q3, q4, q5⟩; exact absurd q9 q2; have := (hI.2.1 j q3 q4).2.2; rw [q5] at this; exact ⟨q9, this⟩))
    · obtain ⟨⟨hlt, hI2⟩, hg2⟩ := bf_put hI hv2.1 q2 hc.1 hv2.2
      refine jl_aload_n d_Jo_reach_15 rfl rfl ?_
      refine jg_3 (q := 0) d_Jo_reach_16 j0 rfl (by decide) fw_Jo_9 ?_
      refine jl_iload_n d_Jo_reach_19 rfl rfl ?_
      refine jl_iload_n d_Jo_reach_20 rfl rfl ?_
      refine jz_iasth d_Jo_reach_21 j1 (by omega) (by omega) (by omega) (fun h1 eh1 => ?_)
      have jf2 : h1 (jo + 1) = jI 512 (fun j9 => zI ((va_up DS (v).toNat (c)) j9)) := by rw [eh1, va_up_self]
      refine jl_aload_n d_Jo_reach_22 rfl rfl ?_
      have jf3 : h1 (jo) = jO 3 [.ref (jo + 1), .ref (jo + 2), .ref (jo + 3), .int (zI (qd)), .int (zI (ln)), .int (zI (md)), .int (zI (fs)), .int (zI (ts))] := by rw [eh1, va_up_ne _ _ (by omega)]; exact j0
      refine jg_3 (q := 1) d_Jo_reach_23 jf3 rfl (by decide) fw_Jo_15 ?_
      refine jl_aload_n d_Jo_reach_26 rfl rfl ?_
      refine jg_3 (q := 3) d_Jo_reach_27 jf3 rfl (by decide) fw_Jo_58 ?_
      refine jl_iload_n d_Jo_reach_30 rfl rfl ?_
      have jf4 : h1 (jo + 2) = jI 512 (fun j9 => zI (QU j9)) := by rw [eh1, va_up_ne _ _ (by omega)]; exact j2
      refine jz_iasth d_Jo_reach_31 jf4 (by omega) (by omega) (by omega) (fun h5 eh5 => ?_)
      have jf6 : h5 (jo + 2) = jI 512 (fun j9 => zI ((va_up QU (qd).toNat (v)) j9)) := by rw [eh5, va_up_self]
      refine jl_aload_n d_Jo_reach_32 rfl rfl ?_
      refine jl_dup d_Jo_reach_33 rfl ?_
      have jf7 : h5 (jo) = jO 3 [.ref (jo + 1), .ref (jo + 2), .ref (jo + 3), .int (zI (qd)), .int (zI (ln)), .int (zI (md)), .int (zI (fs)), .int (zI (ts))] := by rw [eh5, va_up_ne _ _ (by omega)]; exact jf3
      refine jg_3 (q := 3) d_Jo_reach_34 jf7 rfl (by decide) fw_Jo_58 ?_
      refine jl_iconst (v := zI (1)) d_Jo_reach_37 (by decide) ?_
      refine jz_iadd (v := qd + 1) d_Jo_reach_38 (by omega) ?_
      refine jp_3 (q := 3) (ty := .int) d_Jo_reach_39 jf7 (by simp) (by decide) fw_Jo_58 rfl (by decide +kernel) (fun _ _ => rfl) (fun _ _ => rfl) (fun h8 eh8 => ?_)
      have eh8 : h8 = va_up h5 (jo) (jO 3 [.ref (jo + 1), .ref (jo + 2), .ref (jo + 3), .int (zI (qd + 1)), .int (zI (ln)), .int (zI (md)), .int (zI (fs)), .int (zI (ts))]) := eh8
      have jf9 : h8 (jo) = jO 3 [.ref (jo + 1), .ref (jo + 2), .ref (jo + 3), .int (zI (qd + 1)), .int (zI (ln)), .int (zI (md)), .int (zI (fs)), .int (zI (ts))] := by rw [eh8, va_up_self]
      have jf10 : h8 (jo + 1) = jI 512 (fun j9 => zI ((va_up DS (v).toNat (c)) j9)) := by rw [eh8, va_up_ne _ _ (by omega), eh5, va_up_ne _ _ (by omega)]; exact jf2
      have jf11 : h8 (jo + 2) = jI 512 (fun j9 => zI ((va_up QU (qd).toNat (v)) j9)) := by rw [eh8, va_up_ne _ _ (by omega)]; exact jf6
      have jf12 : h8 (jo + 3) = jI 512 (fun j9 => zI (WA j9)) := by rw [eh8, va_up_ne _ _ (by omega), eh5, va_up_ne _ _ (by omega), eh1, va_up_ne _ _ (by omega)]; exact j3
      exact jl_vret d_Jo_reach_42 rfl (hk _ _ (qd + 1) _ ⟨jf9, jf10, jf11, jf12⟩ (fun y hy => by rw [eh8, va_up_ne _ _ (by omega), eh5, va_up_ne _ _ (by omega), eh1, va_up_ne _ _ (by omega)]) hI2 hg2 (bix_put hI hX q2 hc.2) (fun _ => by rw [va_up_self]; exact ⟨hc.1, Int.le_refl _⟩))
