set_option maxHeartbeats 4000000 in
set_option maxRecDepth 100000 in
theorem k_D_isRotationLess {l : Launch} {G : jl_G} {d n : Nat} {h : Nat → va_E} {Kr : Option Value → Nat → (Nat → va_E) → Prop} {Kx : String → Nat → (Nat → va_E) → Prop} (hl9 : l.stackTraces = false) (hdd : 2 ≤ d) {i : Nat} {m p : Int} {hs cs xs sc : Nat → Int} {a b : Int} (hD : jD h i m p hs cs xs sc) (ok : jOk m p hs cs xs) (ha : 0 ≤ a ∧ a < 100) (hb : 0 ≤ b ∧ b < 100) (hk : ∀ c, sp_is (sp_rl p hs a b) c → Kr (some (.int (zI (c)))) n h) : jl_Call l G m_Dr_isRotationLess d [.ref (i), .int (zI (a)), .int (zI (b))] n h 0 0 Kr Kx := by
  refine jl_enter hl9 (by decide) rfl (by simp [Value.category]) (Nat.le_of_ble_eq_true rfl) ?_
  show jl_AW l G (jl_F G Kr Kx) m_Dr_isRotationLess d 0 [some (.ref (i)), some (.int (zI (a))), some (.int (zI (b))), none, none] [] n h 0 0
  obtain ⟨hd0, hd1, hd2, hd3, hd4⟩ := hD
  have hp := ok.2.1
  have lp1 : ∀ (k : Nat) (t : Int), t + k = p → 0 ≤ t → (∀ j, 0 ≤ j → j < t → hs ((a + j) % p * 3).toNat = hs ((b + j) % p * 3).toNat) → jl_AW l G (jl_F G Kr Kx) m_Dr_isRotationLess d 2 [some (.ref (i)), some (.int (zI (a))), some (.int (zI (b))), some (.int (zI (t))), none] [] n h 0 0 := by
    intro k
    induction k using Nat.strongRecOn with
    | ind k ih =>
      intro t hkt ht0 hE
      refine jl_iload_n d_Dr_isRotationLess_2 rfl rfl ?_
      refine jl_aload_n d_Dr_isRotationLess_3 rfl rfl ?_
      refine jg_2 (q := 5) d_Dr_isRotationLess_4 hd0 rfl (by decide) fw_Dr_28 ?_
      refine jz_icmp_ge (tgt := 49) d_Dr_isRotationLess_7 (by decide) ⟨by omega, by omega⟩ ⟨by omega, by omega⟩ (fun hc => ?_) (fun hc => ?_)
      · refine jl_iconst (v := zI (0)) d_Dr_isRotationLess_49 (by decide) ?_
        exact jl_zret d_Dr_isRotationLess_50 rfl (by decide) (hk 0 (Or.inr ⟨rfl, sp_rl_eq fun j a b => hE j a (by omega)⟩))
      · refine jl_aload_n d_Dr_isRotationLess_10 rfl rfl ?_
        refine jl_iload_n d_Dr_isRotationLess_11 rfl rfl ?_
        refine jl_iload_n d_Dr_isRotationLess_12 rfl rfl ?_
        refine jz_iadd (v := a + t) d_Dr_isRotationLess_13 (by omega) ?_
        refine jl_invV (M' := m_Dr_firstHeight) (d' := d - 1) (ck' := 0) (sk' := 0) (na := 1) (as := [.int (zI (a + t))]) (st := []) d_Dr_isRotationLess_14 rfl hd0 rfl mw_Dr_75 ww_Dr_firstHeight sw_Dr_firstHeight nw_Dr cw_Dr_firstHeight rfl rfl rfl (by decide +kernel) (by omega) (Nat.le_of_ble_eq_true rfl) (Nat.le_of_ble_eq_true rfl) ?_
        refine k_D_firstHeight hl9 (by omega) ⟨hd0, hd1, hd2, hd3, hd4⟩ ⟨by omega, by omega⟩ hp ?_
        show jl_AW _ _ _ _ _ 17 [some (.ref (i)), some (.int (zI (a))), some (.int (zI (b))), some (.int (zI (t))), none] [.int (zI (hs ((a + t) % p * 3).toNat))] n h _ _
        refine jl_aload_n d_Dr_isRotationLess_17 rfl rfl ?_
        refine jl_iload_n d_Dr_isRotationLess_18 rfl rfl ?_
        refine jl_iload_n d_Dr_isRotationLess_19 rfl rfl ?_
        refine jz_iadd (v := b + t) d_Dr_isRotationLess_20 (by omega) ?_
        refine jl_invV (M' := m_Dr_firstHeight) (d' := d - 1) (ck' := 0) (sk' := 0) (na := 1) (as := [.int (zI (b + t))]) (st := [.int (zI (hs ((a + t) % p * 3).toNat))]) d_Dr_isRotationLess_21 rfl hd0 rfl mw_Dr_75 ww_Dr_firstHeight sw_Dr_firstHeight nw_Dr cw_Dr_firstHeight rfl rfl rfl (by decide +kernel) (by omega) (Nat.le_of_ble_eq_true rfl) (Nat.le_of_ble_eq_true rfl) ?_
        refine k_D_firstHeight hl9 (by omega) ⟨hd0, hd1, hd2, hd3, hd4⟩ ⟨by omega, by omega⟩ hp ?_
        show jl_AW _ _ _ _ _ 24 [some (.ref (i)), some (.int (zI (a))), some (.int (zI (b))), some (.int (zI (t))), none] [.int (zI (hs ((b + t) % p * 3).toNat)), .int (zI (hs ((a + t) % p * 3).toNat))] n h _ _
        have hh := ok.2.2.1 ((a + t) % p * 3).toNat
        have hh2 := ok.2.2.1 ((b + t) % p * 3).toNat
        refine jz_isub (v := hs ((a + t) % p * 3).toNat - hs ((b + t) % p * 3).toNat) d_Dr_isRotationLess_24 (by omega) ?_
        refine jl_istore (L' := [some (.ref (i)), some (.int (zI (a))), some (.int (zI (b))), some (.int (zI (t))), some (.int (zI (hs ((a + t) % p * 3).toNat - hs ((b + t) % p * 3).toNat)))]) d_Dr_isRotationLess_25 (by decide) rfl ?_
        refine jl_iload d_Dr_isRotationLess_27 rfl ?_
        refine jz_if_eq (tgt := 43) d_Dr_isRotationLess_29 (by decide) ⟨by omega, by omega⟩ (fun hc2 => ?_) (fun hc2 => ?_)
        · refine jz_iinc (v := t + 1) (L' := [some (.ref (i)), some (.int (zI (a))), some (.int (zI (b))), some (.int (zI (t + 1))), some (.int (zI (hs ((a + t) % p * 3).toNat - hs ((b + t) % p * 3).toNat)))]) d_Dr_isRotationLess_43 rfl (by omega) (by decide) rfl ?_
          refine jl_goto (tgt := 2) d_Dr_isRotationLess_46 (by decide) ?_
          refine jl_less (L' := [some (.ref (i)), some (.int (zI (a))), some (.int (zI (b))), some (.int (zI (t + 1))), none]) ⟨rfl, rfl, rfl, rfl, trivial⟩ ?_
          refine ih (k - 1) (by omega) (t + 1) (by omega) (by omega) ?_
          intro j hj0 hj1
          by_cases hjt : j = t
          · subst hjt; omega
          · exact hE j hj0 (by omega)
        · refine jl_iload d_Dr_isRotationLess_32 rfl ?_
          refine jz_if_ge (tgt := 41) d_Dr_isRotationLess_34 (by decide) ⟨by omega, by omega⟩ (fun hc3 => ?_) (fun hc3 => ?_)
          · refine jl_iconst (v := zI (0)) d_Dr_isRotationLess_41 (by decide) ?_
            exact jl_zret d_Dr_isRotationLess_42 rfl (by decide) (hk 0 (Or.inr ⟨rfl, sp_rl_no ⟨ht0, by omega⟩ hE (by omega)⟩))
          · refine jl_iconst (v := zI (1)) d_Dr_isRotationLess_37 (by decide) ?_
            refine jl_goto (tgt := 42) d_Dr_isRotationLess_38 (by decide) ?_
            exact jl_zret d_Dr_isRotationLess_42 rfl (by decide) (hk 1 (Or.inl ⟨rfl, t, ht0, by omega, hE, by omega⟩))
  refine jl_iconst (v := zI (0)) d_Dr_isRotationLess_0 (by decide) ?_
  refine jl_istore_n (L' := [some (.ref (i)), some (.int (zI (a))), some (.int (zI (b))), some (.int (zI (0))), none]) d_Dr_isRotationLess_1 rfl (by decide) rfl ?_
  exact lp1 p.toNat 0 (by omega) (by omega) (fun j q1 q2 => by omega)
set_option maxHeartbeats 4000000 in
set_option maxRecDepth 100000 in
theorem k_D_leastRotation {l : Launch} {G : jl_G} {d n : Nat} {h : Nat → va_E} {Kr : Option Value → Nat → (Nat → va_E) → Prop} {Kx : String → Nat → (Nat → va_E) → Prop} (hl9 : l.stackTraces = false) (hdd : 3 ≤ d) {i : Nat} {m p : Int} {hs cs xs sc : Nat → Int} (hD : jD h i m p hs cs xs sc) (ok : jOk m p hs cs xs) (hk : Kr (some (.int (zI (sp_lr p hs (p - 1).toNat)))) n h) : jl_Call l G m_Dr_leastRotation d [.ref (i)] n h 0 0 Kr Kx := by
  refine jl_enter hl9 (by decide) rfl (by simp [Value.category]) (Nat.le_of_ble_eq_true rfl) ?_
  show jl_AW l G (jl_F G Kr Kx) m_Dr_leastRotation d 0 [some (.ref (i)), none, none] [] n h 0 0
  obtain ⟨hd0, hd1, hd2, hd3, hd4⟩ := hD
  have hp := ok.2.1
  have lp1 : ∀ (k : Nat) (t : Int), t + k = p → 1 ≤ t → jl_AW l G (jl_F G Kr Kx) m_Dr_leastRotation d 4 [some (.ref (i)), some (.int (zI (sp_lr p hs (t - 1).toNat))), some (.int (zI (t)))] [] n h 0 0 := by
    intro k
    induction k using Nat.strongRecOn with
    | ind k ih =>
      intro t hkt ht0
      have hr := sp_lr_rg p hs (t - 1).toNat
      refine jl_iload_n d_Dr_leastRotation_4 rfl rfl ?_
      refine jl_aload_n d_Dr_leastRotation_5 rfl rfl ?_
      refine jg_2 (q := 5) d_Dr_leastRotation_6 hd0 rfl (by decide) fw_Dr_28 ?_
      refine jz_icmp_ge (tgt := 29) d_Dr_leastRotation_9 (by decide) ⟨by omega, by omega⟩ ⟨by omega, by omega⟩ (fun hc => ?_) (fun hc => ?_)
      · refine jl_iload_n d_Dr_leastRotation_29 rfl rfl ?_
        exact jl_iret d_Dr_leastRotation_30 rfl (by rw [show t - 1 = p - 1 by omega]; exact hk)
      · refine jl_aload_n d_Dr_leastRotation_12 rfl rfl ?_
        refine jl_iload_n d_Dr_leastRotation_13 rfl rfl ?_
        refine jl_iload_n d_Dr_leastRotation_14 rfl rfl ?_
        refine jl_invV (M' := m_Dr_isRotationLess) (d' := d - 1) (ck' := 0) (sk' := 0) (na := 2) (as := [.int (zI (t)), .int (zI (sp_lr p hs (t - 1).toNat))]) (st := []) d_Dr_leastRotation_15 rfl hd0 rfl mw_Dr_92 ww_Dr_isRotationLess sw_Dr_isRotationLess nw_Dr cw_Dr_isRotationLess rfl rfl rfl (by decide +kernel) (by omega) (Nat.le_of_ble_eq_true rfl) (Nat.le_of_ble_eq_true rfl) ?_
        refine k_D_isRotationLess hl9 (by omega) ⟨hd0, hd1, hd2, hd3, hd4⟩ ok ⟨by omega, by omega⟩ ⟨by omega, by omega⟩ (fun c hc3 => ?_)
        show jl_AW _ _ _ _ _ 18 [some (.ref (i)), some (.int (zI (sp_lr p hs (t - 1).toNat))), some (.int (zI (t)))] [.int (zI (c))] n h _ _
        have hc9 := sp_is_rg hc3
        refine jz_if_eq (tgt := 23) d_Dr_leastRotation_18 (by decide) ⟨by omega, by omega⟩ (fun hc2 => ?_) (fun hc2 => ?_)
        · have e1 : (t + 1 - 1).toNat = (t - 1).toNat + 1 := by omega
          have e2 : (((t - 1).toNat : Nat) : Int) + 1 = t := by omega
          have e3 : sp_lr p hs (t + 1 - 1).toNat = sp_lr p hs (t - 1).toNat := by rw [e1, sp_lr, e2]; exact sp_ite_f (by rcases hc3 with ⟨q, -⟩ | ⟨-, q⟩; omega; exact q)
          refine jz_iinc (v := t + 1) (L' := [some (.ref (i)), some (.int (zI (sp_lr p hs (t - 1).toNat))), some (.int (zI (t + 1)))]) d_Dr_leastRotation_23 rfl (by omega) (by decide) rfl ?_
          refine jl_goto (tgt := 4) d_Dr_leastRotation_26 (by decide) ?_
          have h9 := ih (k - 1) (by omega) (t + 1) (by omega) (by omega)
          rw [e3] at h9
          exact h9
        · have e1 : (t + 1 - 1).toNat = (t - 1).toNat + 1 := by omega
          have e2 : (((t - 1).toNat : Nat) : Int) + 1 = t := by omega
          have e3 : sp_lr p hs (t + 1 - 1).toNat = t := by rw [e1, sp_lr, e2]; exact sp_ite_t (by rcases hc3 with ⟨-, q⟩ | ⟨q, -⟩; exact q; omega)
          refine jl_iload_n d_Dr_leastRotation_21 rfl rfl ?_
          refine jl_istore_n (L' := [some (.ref (i)), some (.int (zI (t))), some (.int (zI (t)))]) d_Dr_leastRotation_22 rfl (by decide) rfl ?_
          refine jz_iinc (v := t + 1) (L' := [some (.ref (i)), some (.int (zI (t))), some (.int (zI (t + 1)))]) d_Dr_leastRotation_23 rfl (by omega) (by decide) rfl ?_
          refine jl_goto (tgt := 4) d_Dr_leastRotation_26 (by decide) ?_
          have h9 := ih (k - 1) (by omega) (t + 1) (by omega) (by omega)
          rw [e3] at h9
          exact h9
  refine jl_iconst (v := zI (0)) d_Dr_leastRotation_0 (by decide) ?_
  refine jl_istore_n (L' := [some (.ref (i)), some (.int (zI (0))), none]) d_Dr_leastRotation_1 rfl (by decide) rfl ?_
  refine jl_iconst (v := zI (1)) d_Dr_leastRotation_2 (by decide) ?_
  refine jl_istore_n (L' := [some (.ref (i)), some (.int (zI (0))), some (.int (zI (1)))]) d_Dr_leastRotation_3 rfl (by decide) rfl ?_
  exact lp1 (p - 1).toNat 1 (by omega) (by omega)
set_option maxHeartbeats 4000000 in
set_option maxRecDepth 100000 in
theorem k_D_swapLandings {l : Launch} {G : jl_G} {d n : Nat} {h : Nat → va_E} {Kr : Option Value → Nat → (Nat → va_E) → Prop} {Kx : String → Nat → (Nat → va_E) → Prop} (hl9 : l.stackTraces = false) (hdd : 2 ≤ d) {i : Nat} {m p : Int} {hs cs xs sc : Nat → Int} {a b : Int} (hD : jD h i m p hs cs xs sc) (ok : jOk m p hs cs xs) (ha : 0 ≤ a ∧ a < p) (hb : 0 ≤ b ∧ b < p) (hk0 : ¬ (0 ≤ hs (b * 3).toNat + b - a ∧ hs (b * 3).toNat + b - a ≤ 9 ∧ 0 ≤ hs (a * 3).toNat + a - b ∧ hs (a * 3).toNat + a - b ≤ 9) → Kr (some (.int (zI (0)))) n h) (hk1 : (0 ≤ hs (b * 3).toNat + b - a ∧ hs (b * 3).toNat + b - a ≤ 9 ∧ 0 ≤ hs (a * 3).toNat + a - b ∧ hs (a * 3).toNat + a - b ≤ 9) → ∀ h', jD h' i m p (va_up (va_up hs (a * 3).toNat (hs (b * 3).toNat + b - a)) (b * 3).toNat (hs (a * 3).toNat + a - b)) cs (va_up (va_up xs (a).toNat 0) (b).toNat 0) sc → jfr h h' i (i + 5) → Kr (some (.int (zI (1)))) n h') : jl_Call l G m_Dr_swapLandings d [.ref (i), .int (zI (a)), .int (zI (b))] n h 0 0 Kr Kx := by
  refine jl_enter hl9 (by decide) rfl (by simp [Value.category]) (Nat.le_of_ble_eq_true rfl) ?_
  show jl_AW l G (jl_F G Kr Kx) m_Dr_swapLandings d 0 [some (.ref (i)), some (.int (zI (a))), some (.int (zI (b))), none, none] [] n h 0 0
  obtain ⟨hd0, hd1, hd2, hd3, hd4⟩ := hD
  have hp := ok.2.1
  have ea : a % p = a := Int.emod_eq_of_lt (by omega) (by omega)
  have eb : b % p = b := Int.emod_eq_of_lt (by omega) (by omega)
  have hha := ok.2.2.1 (a * 3).toNat
  have hhb := ok.2.2.1 (b * 3).toNat
  refine jl_aload_n d_Dr_swapLandings_0 rfl rfl ?_
  refine jl_iload_n d_Dr_swapLandings_1 rfl rfl ?_
  refine jl_invV (M' := m_Dr_firstHeight) (d' := d - 1) (ck' := 0) (sk' := 0) (na := 1) (as := [.int (zI (b))]) (st := []) d_Dr_swapLandings_2 rfl hd0 rfl mw_Dr_75 ww_Dr_firstHeight sw_Dr_firstHeight nw_Dr cw_Dr_firstHeight rfl rfl rfl (by decide +kernel) (by omega) (Nat.le_of_ble_eq_true rfl) (Nat.le_of_ble_eq_true rfl) ?_
  refine k_D_firstHeight hl9 (by omega) ⟨hd0, hd1, hd2, hd3, hd4⟩ ⟨by omega, by omega⟩ hp ?_
  show jl_AW _ _ _ _ _ 5 [some (.ref (i)), some (.int (zI (a))), some (.int (zI (b))), none, none] [.int (zI (hs (b % p * 3).toNat))] n h _ _
  rw [eb]
  refine jl_iload_n d_Dr_swapLandings_5 rfl rfl ?_
  refine jz_iadd (v := hs (b * 3).toNat + b) d_Dr_swapLandings_6 (by omega) ?_
  refine jl_iload_n d_Dr_swapLandings_7 rfl rfl ?_
  refine jz_isub (v := hs (b * 3).toNat + b - a) d_Dr_swapLandings_8 (by omega) ?_
  refine jl_istore_n (L' := [some (.ref (i)), some (.int (zI (a))), some (.int (zI (b))), some (.int (zI (hs (b * 3).toNat + b - a))), none]) d_Dr_swapLandings_9 rfl (by decide) rfl ?_
  refine jl_aload_n d_Dr_swapLandings_10 rfl rfl ?_
  refine jl_iload_n d_Dr_swapLandings_11 rfl rfl ?_
  refine jl_invV (M' := m_Dr_firstHeight) (d' := d - 1) (ck' := 0) (sk' := 0) (na := 1) (as := [.int (zI (a))]) (st := []) d_Dr_swapLandings_12 rfl hd0 rfl mw_Dr_75 ww_Dr_firstHeight sw_Dr_firstHeight nw_Dr cw_Dr_firstHeight rfl rfl rfl (by decide +kernel) (by omega) (Nat.le_of_ble_eq_true rfl) (Nat.le_of_ble_eq_true rfl) ?_
  refine k_D_firstHeight hl9 (by omega) ⟨hd0, hd1, hd2, hd3, hd4⟩ ⟨by omega, by omega⟩ hp ?_
  show jl_AW _ _ _ _ _ 15 [some (.ref (i)), some (.int (zI (a))), some (.int (zI (b))), some (.int (zI (hs (b * 3).toNat + b - a))), none] [.int (zI (hs (a % p * 3).toNat))] n h _ _
  rw [ea]
  refine jl_iload_n d_Dr_swapLandings_15 rfl rfl ?_
  refine jz_iadd (v := hs (a * 3).toNat + a) d_Dr_swapLandings_16 (by omega) ?_
  refine jl_iload_n d_Dr_swapLandings_17 rfl rfl ?_
  refine jz_isub (v := hs (a * 3).toNat + a - b) d_Dr_swapLandings_18 (by omega) ?_
  refine jl_istore (L' := [some (.ref (i)), some (.int (zI (a))), some (.int (zI (b))), some (.int (zI (hs (b * 3).toNat + b - a))), some (.int (zI (hs (a * 3).toNat + a - b)))]) d_Dr_swapLandings_19 (by decide) rfl ?_
  refine jl_iload_n d_Dr_swapLandings_21 rfl rfl ?_
  refine jz_if_lt (tgt := 43) d_Dr_swapLandings_22 (by decide) ⟨by omega, by omega⟩ (fun q1 => ?_) (fun q1 => ?_)
  · refine jl_iconst (v := zI (0)) d_Dr_swapLandings_43 (by decide) ?_
    exact jl_zret d_Dr_swapLandings_44 rfl (by decide) (hk0 (by omega))
  · refine jl_iload_n d_Dr_swapLandings_25 rfl rfl ?_
    refine jl_bipush (v := zI (9)) d_Dr_swapLandings_26 (by decide) ?_
    refine jz_icmp_gt (tgt := 43) d_Dr_swapLandings_28 (by decide) ⟨by omega, by omega⟩ ⟨by omega, by omega⟩ (fun q2 => ?_) (fun q2 => ?_)
    · refine jl_iconst (v := zI (0)) d_Dr_swapLandings_43 (by decide) ?_
      exact jl_zret d_Dr_swapLandings_44 rfl (by decide) (hk0 (by omega))
    · refine jl_iload d_Dr_swapLandings_31 rfl ?_
      refine jz_if_lt (tgt := 43) d_Dr_swapLandings_33 (by decide) ⟨by omega, by omega⟩ (fun q3 => ?_) (fun q3 => ?_)
      · refine jl_iconst (v := zI (0)) d_Dr_swapLandings_43 (by decide) ?_
        exact jl_zret d_Dr_swapLandings_44 rfl (by decide) (hk0 (by omega))
      · refine jl_iload d_Dr_swapLandings_36 rfl ?_
        refine jl_bipush (v := zI (9)) d_Dr_swapLandings_38 (by decide) ?_
        refine jz_icmp_le (tgt := 45) d_Dr_swapLandings_40 (by decide) ⟨by omega, by omega⟩ ⟨by omega, by omega⟩ (fun q4 => ?_) (fun q4 => ?_)
        · refine jl_aload_n d_Dr_swapLandings_45 rfl rfl ?_
          refine jl_iload_n d_Dr_swapLandings_46 rfl rfl ?_
          refine jl_iload_n d_Dr_swapLandings_47 rfl rfl ?_
          refine jl_iconst (v := zI (0)) d_Dr_swapLandings_48 (by decide) ?_
          refine jl_invV (M' := m_Dr_setFirst) (d' := d - 1) (ck' := 0) (sk' := 0) (na := 3) (as := [.int (zI (a)), .int (zI (hs (b * 3).toNat + b - a)), .int (zI (0))]) (st := []) d_Dr_swapLandings_49 rfl hd0 rfl mw_Dr_88 ww_Dr_setFirst sw_Dr_setFirst nw_Dr cw_Dr_setFirst rfl rfl rfl (by decide +kernel) (by omega) (Nat.le_of_ble_eq_true rfl) (Nat.le_of_ble_eq_true rfl) ?_
          refine k_D_setFirst hl9 (by omega) ⟨hd0, hd1, hd2, hd3, hd4⟩ ⟨by omega, by omega⟩ ⟨by decide, by decide⟩ ?_
          obtain ⟨h2, eh2⟩ : ∃ z, z = va_up (va_up h (i + 1) (jI 48 (fun j => zI (va_up hs (a * 3).toNat (hs (b * 3).toNat + b - a) j)))) (i + 3) (jI 16 (fun j => zI (va_up xs (a).toNat (if (0 : Int) = 0 then 0 else 16) j))) := ⟨_, rfl⟩
          rw [← eh2]
          show jl_AW _ _ _ _ _ 52 [some (.ref (i)), some (.int (zI (a))), some (.int (zI (b))), some (.int (zI (hs (b * 3).toNat + b - a))), some (.int (zI (hs (a * 3).toNat + a - b)))] [] n h2 _ _
          have f0 : h2 i = jO 2 [.ref (i + 1), .ref (i + 2), .ref (i + 3), .ref (i + 4), .int (zI m), .int (zI p)] := by rw [eh2, va_up_ne _ _ (by omega), va_up_ne _ _ (by omega)]; exact hd0
          have f1 : h2 (i + 1) = jI 48 (fun j => zI (va_up hs (a * 3).toNat (hs (b * 3).toNat + b - a) j)) := by rw [eh2, va_up_ne _ _ (by omega), va_up_self]
          have f2 : h2 (i + 2) = jI 16 (fun j => zI (cs j)) := by rw [eh2, va_up_ne _ _ (by omega), va_up_ne _ _ (by omega)]; exact hd2
          have f3 : h2 (i + 3) = jI 16 (fun j => zI (va_up xs (a).toNat 0 j)) := by rw [eh2, va_up_self]; rfl
          have f4 : h2 (i + 4) = jI 16 (fun j => zI (sc j)) := by rw [eh2, va_up_ne _ _ (by omega), va_up_ne _ _ (by omega)]; exact hd4
          refine jl_aload_n d_Dr_swapLandings_52 rfl rfl ?_
          refine jl_iload_n d_Dr_swapLandings_53 rfl rfl ?_
          refine jl_iload d_Dr_swapLandings_54 rfl ?_
          refine jl_iconst (v := zI (0)) d_Dr_swapLandings_56 (by decide) ?_
          refine jl_invV (M' := m_Dr_setFirst) (d' := d - 1) (ck' := 0) (sk' := 0) (na := 3) (as := [.int (zI (b)), .int (zI (hs (a * 3).toNat + a - b)), .int (zI (0))]) (st := []) d_Dr_swapLandings_57 rfl f0 rfl mw_Dr_88 ww_Dr_setFirst sw_Dr_setFirst nw_Dr cw_Dr_setFirst rfl rfl rfl (by decide +kernel) (by omega) (Nat.le_of_ble_eq_true rfl) (Nat.le_of_ble_eq_true rfl) ?_
          refine k_D_setFirst hl9 (by omega) ⟨f0, f1, f2, f3, f4⟩ ⟨by omega, by omega⟩ ⟨by decide, by decide⟩ ?_
          obtain ⟨h3, eh3⟩ : ∃ z, z = va_up (va_up h2 (i + 1) (jI 48 (fun j => zI (va_up (va_up hs (a * 3).toNat (hs (b * 3).toNat + b - a)) (b * 3).toNat (hs (a * 3).toNat + a - b) j)))) (i + 3) (jI 16 (fun j => zI (va_up (va_up xs (a).toNat 0) (b).toNat (if (0 : Int) = 0 then 0 else 16) j))) := ⟨_, rfl⟩
          rw [← eh3]
          show jl_AW _ _ _ _ _ 60 [some (.ref (i)), some (.int (zI (a))), some (.int (zI (b))), some (.int (zI (hs (b * 3).toNat + b - a))), some (.int (zI (hs (a * 3).toNat + a - b)))] [] n h3 _ _
          refine jl_iconst (v := zI (1)) d_Dr_swapLandings_60 (by decide) ?_
          refine jl_zret d_Dr_swapLandings_61 rfl (by decide) (hk1 (by omega) h3 ⟨?_, ?_, ?_, ?_, ?_⟩ ?_)
          · rw [eh3, va_up_ne _ _ (by omega), va_up_ne _ _ (by omega)]; exact f0
          · rw [eh3, va_up_ne _ _ (by omega), va_up_self]
          · rw [eh3, va_up_ne _ _ (by omega), va_up_ne _ _ (by omega)]; exact f2
          · rw [eh3, va_up_self]; rfl
          · rw [eh3, va_up_ne _ _ (by omega), va_up_ne _ _ (by omega)]; exact f4
          · intro y hy
            rw [eh3, va_up_ne _ _ (by omega), va_up_ne _ _ (by omega), eh2, va_up_ne _ _ (by omega), va_up_ne _ _ (by omega)]
        · refine jl_iconst (v := zI (0)) d_Dr_swapLandings_43 (by decide) ?_
          exact jl_zret d_Dr_swapLandings_44 rfl (by decide) (hk0 (by omega))
set_option maxHeartbeats 4000000 in
set_option maxRecDepth 100000 in
theorem k_D_isCycle {l : Launch} {G : jl_G} {d n : Nat} {h : Nat → va_E} {Kr : Option Value → Nat → (Nat → va_E) → Prop} {Kx : String → Nat → (Nat → va_E) → Prop} (hl9 : l.stackTraces = false) (hdd : 4 ≤ d) {i : Nat} {m p : Int} {hs cs xs sc : Nat → Int} (hD : jD h i m p hs cs xs sc) (ok : jOk m p hs cs xs) (hk : ∀ c, sp_is (sp_cyc p hs) c → Kr (some (.int (zI (c)))) n h) : jl_Call l G m_Dr_isCycle d [.ref (i)] n h 0 0 Kr Kx := by
  refine jl_enter hl9 (by decide) rfl (by simp [Value.category]) (Nat.le_of_ble_eq_true rfl) ?_
  show jl_AW l G (jl_F G Kr Kx) m_Dr_isCycle d 0 [some (.ref (i)), none] [] n h 0 0
  obtain ⟨hd0, hd1, hd2, hd3, hd4⟩ := hD
  have hp := ok.2.1
  have hl8 := sp_lr_rg p hs (p - 1).toNat
  have lp1 : ∀ (k : Nat) (t : Int), t + k = p → 1 ≤ t → sp_lr p hs (p - 1).toNat = 0 → (∀ s r : Int, 0 ≤ r → r < s → s < t → ¬ sp_st p hs r = sp_st p hs s) → jl_AW l G (jl_F G Kr Kx) m_Dr_isCycle d 11 [some (.ref (i)), some (.int (zI (t)))] [] n h 0 0 := by
    intro k
    induction k using Nat.strongRecOn with
    | ind k ih =>
      intro t hkt ht0 hl0 hE
      refine jl_iload_n d_Dr_isCycle_11 rfl rfl ?_
      refine jl_aload_n d_Dr_isCycle_12 rfl rfl ?_
      refine jg_2 (q := 5) d_Dr_isCycle_13 hd0 rfl (by decide) fw_Dr_28 ?_
      refine jz_icmp_ge (tgt := 40) d_Dr_isCycle_16 (by decide) ⟨by omega, by omega⟩ ⟨by omega, by omega⟩ (fun hc => ?_) (fun hc => ?_)
      · refine jl_iconst (v := zI (1)) d_Dr_isCycle_40 (by decide) ?_
        exact jl_zret d_Dr_isCycle_41 rfl (by decide) (hk 1 (Or.inl ⟨rfl, hl0, fun s r q1 q2 q3 => hE s r q1 q2 (by omega)⟩))
      · refine jl_aload_n d_Dr_isCycle_19 rfl rfl ?_
        refine jl_aload_n d_Dr_isCycle_20 rfl rfl ?_
        refine jl_iload_n d_Dr_isCycle_21 rfl rfl ?_
        refine jl_invV (M' := m_Dr_stateBefore) (d' := d - 1) (ck' := 0) (sk' := 0) (na := 1) (as := [.int (zI (t))]) (st := [.ref (i)]) d_Dr_isCycle_22 rfl hd0 rfl mw_Dr_79 ww_Dr_stateBefore sw_Dr_stateBefore nw_Dr cw_Dr_stateBefore rfl rfl rfl (by decide +kernel) (by omega) (Nat.le_of_ble_eq_true rfl) (Nat.le_of_ble_eq_true rfl) ?_
        refine k_D_stateBefore hl9 (by omega) ⟨hd0, hd1, hd2, hd3, hd4⟩ ok ⟨by omega, by omega⟩ ?_
        show jl_AW _ _ _ _ _ 25 [some (.ref (i)), some (.int (zI (t)))] [.int (zI (sp_st p hs t)), .ref (i)] n h _ _
        have hv9 := sp_st_rg (p := p) ok.2.2.1 t
        refine jl_invV (M' := m_Dr_siteOfState) (d' := d - 1) (ck' := 0) (sk' := 0) (na := 1) (as := [.int (zI (sp_st p hs t))]) (st := []) d_Dr_isCycle_25 rfl hd0 rfl mw_Dr_85 ww_Dr_siteOfState sw_Dr_siteOfState nw_Dr cw_Dr_siteOfState rfl rfl rfl (by decide +kernel) (by omega) (Nat.le_of_ble_eq_true rfl) (Nat.le_of_ble_eq_true rfl) ?_
        refine k_D_siteOfState hl9 (by omega) ⟨hd0, hd1, hd2, hd3, hd4⟩ ok ⟨by omega, by omega⟩ (fun r hr => ?_)
        show jl_AW _ _ _ _ _ 28 [some (.ref (i)), some (.int (zI (t)))] [.int (zI (r))] n h _ _
        have hr9 := sp_first_rg (by omega) hr
        refine jl_iload_n d_Dr_isCycle_28 rfl rfl ?_
        refine jz_icmp_eq (tgt := 34) d_Dr_isCycle_29 (by decide) ⟨by omega, by omega⟩ ⟨by omega, by omega⟩ (fun hc2 => ?_) (fun hc2 => ?_)
        · refine jz_iinc (v := t + 1) (L' := [some (.ref (i)), some (.int (zI (t + 1)))]) d_Dr_isCycle_34 rfl (by omega) (by decide) rfl ?_
          refine jl_goto (tgt := 11) d_Dr_isCycle_37 (by decide) ?_
          refine ih (k - 1) (by omega) (t + 1) (by omega) (by omega) hl0 ?_
          intro s r9 q1 q2 q3
          by_cases hst : s = t
          · subst hst; rcases hr with hr | ⟨hr, -⟩
            · exact hr.2.2.2 r9 q1 (by omega)
            · exact hr r9 q1 (by omega)
          · exact hE s r9 q1 q2 (by omega)
        · refine jl_iconst (v := zI (0)) d_Dr_isCycle_32 (by decide) ?_
          refine jl_zret d_Dr_isCycle_33 rfl (by decide) (hk 0 (Or.inr ⟨rfl, fun q => ?_⟩))
          rcases hr with hr | ⟨hr, -⟩
          · rcases Int.lt_trichotomy r t with h8 | h8 | h8
            · exact q.2 t r hr.1 h8 (by omega) hr.2.2.1
            · exact hc2 h8
            · exact hr.2.2.2 t (by omega) h8 rfl
          · exact hr t (by omega) (by omega) rfl
  refine jl_aload_n d_Dr_isCycle_0 rfl rfl ?_
  refine jl_invV (M' := m_Dr_leastRotation) (d' := d - 1) (ck' := 0) (sk' := 0) (na := 0) (as := []) (st := []) d_Dr_isCycle_1 rfl hd0 rfl mw_Dr_82 ww_Dr_leastRotation sw_Dr_leastRotation nw_Dr cw_Dr_leastRotation rfl rfl rfl (by decide +kernel) (by omega) (Nat.le_of_ble_eq_true rfl) (Nat.le_of_ble_eq_true rfl) ?_
  refine k_D_leastRotation hl9 (by omega) ⟨hd0, hd1, hd2, hd3, hd4⟩ ok ?_
  show jl_AW _ _ _ _ _ 4 [some (.ref (i)), none] [.int (zI (sp_lr p hs (p - 1).toNat))] n h _ _
  refine jz_if_eq (tgt := 9) d_Dr_isCycle_4 (by decide) ⟨by omega, by omega⟩ (fun hc => ?_) (fun hc => ?_)
  · refine jl_iconst (v := zI (1)) d_Dr_isCycle_9 (by decide) ?_
    refine jl_istore_n (L' := [some (.ref (i)), some (.int (zI (1)))]) d_Dr_isCycle_10 rfl (by decide) rfl ?_
    exact lp1 (p - 1).toNat 1 (by omega) (by omega) hc (fun s r q1 q2 q3 => by omega)
  · refine jl_iconst (v := zI (0)) d_Dr_isCycle_7 (by decide) ?_
    exact jl_zret d_Dr_isCycle_8 rfl (by decide) (hk 0 (Or.inr ⟨rfl, fun q => hc q.1⟩))
