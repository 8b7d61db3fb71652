theorem zw_St_185 : ("SiteswapStudio", 185, "no such period or number of balls") ∈ jl_Z := by decide +kernel
set_option maxHeartbeats 4000000 in
set_option maxRecDepth 100000 in
theorem k_bitCount {l : Launch} {G : jl_G} {d n : Nat} {h : Nat → va_E} {Kr : Option Value → Nat → (Nat → va_E) → Prop} {Kx : String → Nat → (Nat → va_E) → Prop} (hl9 : l.stackTraces = false) (hdd : 0 ≤ d) {v : Nat} (hv : v < 64) (hk : Kr (some (.int (zI ((popN v : Nat) : Int)))) n h) : jl_Call l G m_In_bitCount d [.int (zI ((v : Int)))] n h 0 0 Kr Kx := by
  refine jl_enter hl9 (by decide) rfl (by simp [Value.category]) (Nat.le_of_ble_eq_true rfl) ?_
  show jl_AW l G (jl_F G Kr Kx) m_In_bitCount d 0 [some (.int (zI ((v : Int))))] [] n h 0 0
  refine jl_iload_n d_In_bitCount_0 rfl rfl ?_
  refine jl_iload_n d_In_bitCount_1 rfl rfl ?_
  refine jl_iconst (v := zI (1)) d_In_bitCount_2 (by decide) ?_
  refine jl_iushr d_In_bitCount_3 rfl ?_
  refine jl_ldcw d_In_bitCount_4 kc_265 ?_
  refine jl_iand d_In_bitCount_7 ?_
  refine jl_isub d_In_bitCount_8 ?_
  refine jl_istore_n d_In_bitCount_9 rfl (by decide) rfl ?_
  refine jl_iload_n d_In_bitCount_10 rfl rfl ?_
  refine jl_ldcw d_In_bitCount_11 kc_266 ?_
  refine jl_iand d_In_bitCount_14 ?_
  refine jl_iload_n d_In_bitCount_15 rfl rfl ?_
  refine jl_iconst (v := zI (2)) d_In_bitCount_16 (by decide) ?_
  refine jl_iushr d_In_bitCount_17 rfl ?_
  refine jl_ldcw d_In_bitCount_18 kc_266 ?_
  refine jl_iand d_In_bitCount_21 ?_
  refine jl_iadd d_In_bitCount_22 ?_
  refine jl_istore_n d_In_bitCount_23 rfl (by decide) rfl ?_
  refine jl_iload_n d_In_bitCount_24 rfl rfl ?_
  refine jl_iload_n d_In_bitCount_25 rfl rfl ?_
  refine jl_iconst (v := zI (4)) d_In_bitCount_26 (by decide) ?_
  refine jl_iushr d_In_bitCount_27 rfl ?_
  refine jl_iadd d_In_bitCount_28 ?_
  refine jl_ldcw d_In_bitCount_29 kc_267 ?_
  refine jl_iand d_In_bitCount_32 ?_
  refine jl_istore_n d_In_bitCount_33 rfl (by decide) rfl ?_
  refine jl_iload_n d_In_bitCount_34 rfl rfl ?_
  refine jl_iload_n d_In_bitCount_35 rfl rfl ?_
  refine jl_bipush (v := zI (8)) d_In_bitCount_36 (by decide) ?_
  refine jl_iushr d_In_bitCount_38 rfl ?_
  refine jl_iadd d_In_bitCount_39 ?_
  refine jl_istore_n d_In_bitCount_40 rfl (by decide) rfl ?_
  refine jl_iload_n d_In_bitCount_41 rfl rfl ?_
  refine jl_iload_n d_In_bitCount_42 rfl rfl ?_
  refine jl_bipush (v := zI (16)) d_In_bitCount_43 (by decide) ?_
  refine jl_iushr d_In_bitCount_45 rfl ?_
  refine jl_iadd d_In_bitCount_46 ?_
  refine jl_istore_n d_In_bitCount_47 rfl (by decide) rfl ?_
  refine jl_iload_n d_In_bitCount_48 rfl rfl ?_
  refine jl_bipush (v := zI (63)) d_In_bitCount_49 (by decide) ?_
  refine jl_iand d_In_bitCount_51 ?_
  refine jl_iret d_In_bitCount_52 rfl ?_
  rw [show Value.int (zI ((popN v : Nat) : Int)) = Value.int (bc5 (bc4 (bc3 (bc2 (bc1 (zI ((v : Nat) : Int)))))) &&& zI 63) by rw [bc_pop v hv]] at hk
  exact hk
set_option maxHeartbeats 4000000 in
set_option maxRecDepth 100000 in
theorem k_N_addRows {l : Launch} {G : jl_G} {d n : Nat} {h : Nat → va_E} {Kr : Option Value → Nat → (Nat → va_E) → Prop} {Kx : String → Nat → (Nat → va_E) → Prop} (hl9 : l.stackTraces = false) (hdd : 0 ≤ d) {co : Nat} {R : Nat → Int} {a b c : Int} (hC : h co = jO 0 [.ref (co + 1)]) (hR : h (co + 1) = jI 3520 (fun j => zI (R j))) (ha : 0 ≤ a ∧ a < b) (hb : b < 64) (hc9 : 0 ≤ c ∧ c ≤ 9) (hk : Kr none n (va_up h (co + 1) (jI 3520 (fun j => zI (adr a b c R 55 j))))) : jl_Call l G m_Cn_addRows d [.ref (co), .int (zI (a)), .int (zI (b)), .int (zI (c))] n h 0 0 Kr Kx := by
  refine jl_enter hl9 (by decide) rfl (by simp [Value.category]) (Nat.le_of_ble_eq_true rfl) ?_
  show jl_AW l G (jl_F G Kr Kx) m_Cn_addRows d 0 [some (.ref (co)), some (.int (zI (a))), some (.int (zI (b))), some (.int (zI (c))), none] [] n h 0 0
  have lp1 : ∀ (k : Nat) (t : Int) (h2 : Nat → va_E), t + k = 55 → c ≤ t → h2 = va_up h (co + 1) (jI 3520 (fun j => zI (adr a b c R t j))) → jl_AW l G (jl_F G Kr Kx) m_Cn_addRows d 3 [some (.ref (co)), some (.int (zI (a))), some (.int (zI (b))), some (.int (zI (c))), some (.int (zI (t)))] [] n h2 0 0 := by
    intro k
    induction k using Nat.strongRecOn with
    | ind k ih =>
      intro t h2 hkt ht0 eh2
      have hC2 : h2 co = jO 0 [.ref (co + 1)] := by rw [eh2, va_up_ne _ _ (by omega)]; exact hC
      have hR2 : h2 (co + 1) = jI 3520 (fun j => zI (adr a b c R t j)) := by rw [eh2, va_up_self]
      refine jl_iload d_Cn_addRows_3 rfl ?_
      refine jl_bipush (v := zI (55)) d_Cn_addRows_5 (by decide) ?_
      refine jz_icmp_ge (tgt := 45) d_Cn_addRows_7 (by decide) ⟨by omega, by omega⟩ ⟨by omega, by omega⟩ (fun hc => ?_) (fun hc => ?_)
      · have et : t = 55 := by omega
        subst et
        rw [eh2]
        exact jl_vret d_Cn_addRows_45 rfl hk
      · refine jl_aload_n d_Cn_addRows_10 rfl rfl ?_
        refine jg_0 (q := 0) d_Cn_addRows_11 hC2 rfl (by decide) fw_Cn_11 ?_
        refine jl_iload_n d_Cn_addRows_14 rfl rfl ?_
        refine jl_bipush (v := zI (55)) d_Cn_addRows_15 (by decide) ?_
        refine jz_imul (v := b * 55) d_Cn_addRows_17 (by omega) ?_
        refine jl_iload d_Cn_addRows_18 rfl ?_
        refine jz_iadd (v := b * 55 + t) d_Cn_addRows_20 (by omega) ?_
        refine jl_dup2 d_Cn_addRows_21 rfl rfl ?_
        refine jz_iald d_Cn_addRows_22 hR2 (by omega) (by omega) (by omega) ?_
        refine jl_aload_n d_Cn_addRows_23 rfl rfl ?_
        refine jg_0 (q := 0) d_Cn_addRows_24 hC2 rfl (by decide) fw_Cn_11 ?_
        refine jl_iload_n d_Cn_addRows_27 rfl rfl ?_
        refine jl_bipush (v := zI (55)) d_Cn_addRows_28 (by decide) ?_
        refine jz_imul (v := a * 55) d_Cn_addRows_30 (by omega) ?_
        refine jl_iload d_Cn_addRows_31 rfl ?_
        refine jz_iadd (v := a * 55 + t) d_Cn_addRows_33 (by omega) ?_
        refine jl_iload_n d_Cn_addRows_34 rfl rfl ?_
        refine jz_isub (v := a * 55 + t - c) d_Cn_addRows_35 (by omega) ?_
        refine jz_iald d_Cn_addRows_36 hR2 (by omega) (by omega) (by omega) ?_
        refine jz_iadd (v := ((adr a b c R t) (b * 55 + t).toNat) + ((adr a b c R t) (a * 55 + t - c).toNat)) d_Cn_addRows_37 rfl ?_
        refine jz_iasth d_Cn_addRows_38 hR2 (by omega) (by omega) (by omega) (fun h1 eh1 => ?_)
        have jf2 : h1 (co + 1) = jI 3520 (fun j9 => zI ((va_up ((adr a b c R t)) (b * 55 + t).toNat (((adr a b c R t) (b * 55 + t).toNat) + ((adr a b c R t) (a * 55 + t - c).toNat))) j9)) := by rw [eh1, va_up_self]
        refine jz_iinc (v := t + 1) (L' := [some (.ref (co)), some (.int (zI (a))), some (.int (zI (b))), some (.int (zI (c))), some (.int (zI (t + 1)))]) d_Cn_addRows_39 rfl (by omega) (by decide) rfl ?_
        refine jl_goto (tgt := 3) d_Cn_addRows_42 (by decide) ?_
        refine ih (k - 1) (by omega) (t + 1) h1 (by omega) (by omega) ?_
        rw [eh1, adr_s R (by omega) (by omega) (by omega) (by omega) (by omega), eh2, bx_uu]
  refine jl_iload_n d_Cn_addRows_0 rfl rfl ?_
  refine jl_istore (L' := [some (.ref (co)), some (.int (zI (a))), some (.int (zI (b))), some (.int (zI (c))), some (.int (zI (c)))]) d_Cn_addRows_1 (by decide) rfl ?_
  exact lp1 (55 - c).toNat c h (by omega) (by omega) (by rw [adr_0]; exact (va_up_id hR).symm)
set_option maxHeartbeats 4000000 in
set_option maxRecDepth 100000 in
theorem k_N_throwNext {l : Launch} {G : jl_G} {d n : Nat} {h : Nat → va_E} {Kr : Option Value → Nat → (Nat → va_E) → Prop} {Kx : String → Nat → (Nat → va_E) → Prop} (hl9 : l.stackTraces = false) (hdd : 1 ≤ d) {co : Nat} {R : Nat → Int} {ld P : Nat} (hC : h co = jO 0 [.ref (co + 1)]) (hR : h (co + 1) = jI 3520 (fun j => zI (R j))) (hld : ld < 64) (hP : 1 ≤ P ∧ P ≤ 6) (hk : Kr none n (va_up h (co + 1) (jI 3520 (fun j => zI (tnx P ld R 10 j))))) : jl_Call l G m_Cn_throwNext d [.ref (co), .int (zI ((ld : Int))), .int (zI ((P : Int)))] n h 0 0 Kr Kx := by
  refine jl_enter hl9 (by decide) rfl (by simp [Value.category]) (Nat.le_of_ble_eq_true rfl) ?_
  show jl_AW l G (jl_F G Kr Kx) m_Cn_throwNext d 0 [some (.ref (co)), some (.int (zI ((ld : Int)))), some (.int (zI ((P : Int)))), none, none, none] [] n h 0 0
  have hpop := pop_le ld hld
  have lp1 : ∀ (k : Nat) (t : Nat) (h2 : Nat → va_E), t + k = 10 → h2 = va_up h (co + 1) (jI 3520 (fun j => zI (tnx P ld R t j))) → jl_AW l G (jl_F G Kr Kx) m_Cn_throwNext d 8 [some (.ref (co)), some (.int (zI ((ld : Int)))), some (.int (zI ((P : Int)))), some (.int (zI (((popN ld : Nat) : Int)))), some (.int (zI ((t : Int)))), none] [] n h2 0 0 := by
    intro k
    induction k using Nat.strongRecOn with
    | ind k ih =>
      intro t h2 hkt eh2
      have hC2 : h2 co = jO 0 [.ref (co + 1)] := by rw [eh2, va_up_ne _ _ (by omega)]; exact hC
      have hR2 : h2 (co + 1) = jI 3520 (fun j => zI (tnx P ld R t j)) := by rw [eh2, va_up_self]
      refine jl_iload d_Cn_throwNext_8 rfl ?_
      refine jl_bipush (v := zI (9)) d_Cn_throwNext_10 (by decide) ?_
      refine jz_icmp_gt (tgt := 51) d_Cn_throwNext_12 (by decide) ⟨by omega, by omega⟩ ⟨by omega, by omega⟩ (fun hc => ?_) (fun hc => ?_)
      · have et : t = 10 := by omega
        subst et
        rw [eh2]
        exact jl_vret d_Cn_throwNext_51 rfl hk
      · have hm := Nat.mod_lt (popN ld + t) (show P > 0 by omega)
        have em : ((popN ld : Nat) : Int) + (t : Int) = ((popN ld + t : Nat) : Int) := by omega
        refine jl_iconst (v := zI (1)) d_Cn_throwNext_15 (by decide) ?_
        refine jl_iload_n d_Cn_throwNext_16 rfl rfl ?_
        refine jl_iload d_Cn_throwNext_17 rfl ?_
        refine jz_iadd (v := ((popN ld + t : Nat) : Int)) d_Cn_throwNext_19 (by omega) ?_
        refine jl_iload_n d_Cn_throwNext_20 rfl rfl ?_
        refine jl_invSN0 (M' := m_St_wrap) (d' := d - 1) (ck' := 0) (sk' := 0) (na := 2) (as := [.int (zI (((popN ld + t : Nat) : Int))), .int (zI ((P : Int)))]) (st := [.int (zI (1))]) d_Cn_throwNext_21 rfl mw_Cn_31 ww_St_wrap nw_St cw_St_wrap rfl rfl (by decide +kernel) (by omega) (Nat.le_of_ble_eq_true rfl) (Nat.le_of_ble_eq_true rfl) ?_
        refine k_wrap hl9 (by omega) ⟨by omega, by omega⟩ ⟨by omega, by omega⟩ ?_
        show jl_AW _ _ _ _ _ 24 [some (.ref (co)), some (.int (zI ((ld : Int)))), some (.int (zI ((P : Int)))), some (.int (zI (((popN ld : Nat) : Int)))), some (.int (zI ((t : Int)))), none] [.int (zI (((popN ld + t : Nat) : Int) % (P : Int))), .int (zI (1))] n h2 _ _
        rw [show ((popN ld + t : Nat) : Int) % (P : Int) = (((popN ld + t) % P : Nat) : Int) from (Int.natCast_emod _ _).symm]
        obtain ⟨K, eK⟩ : ∃ K, K = (popN ld + t) % P := ⟨_, rfl⟩
        rw [← eK] at hm ⊢
        refine jl_ishl d_Cn_throwNext_24 (jz_int (bg_2 K (by omega)) ?_)
        refine jl_istore (L' := [some (.ref (co)), some (.int (zI ((ld : Int)))), some (.int (zI ((P : Int)))), some (.int (zI (((popN ld : Nat) : Int)))), some (.int (zI ((t : Int)))), some (.int (zI (((2 ^ K : Nat) : Int))))]) d_Cn_throwNext_25 (by decide) rfl ?_
        refine jl_iload_n d_Cn_throwNext_27 rfl rfl ?_
        refine jl_iload d_Cn_throwNext_28 rfl ?_
        refine jl_iand d_Cn_throwNext_30 (jz_int (bg_3 ld (by omega) K (by omega)) ?_)
        have hl7 : (ld &&& 2 ^ K) ≤ ld := Nat.and_le_left
        refine jz_if_ne (tgt := 45) d_Cn_throwNext_31 (by decide) ⟨by omega, by omega⟩ (fun hc2 => ?_) (fun hc2 => ?_)
        · refine jz_iinc (v := ((t + 1 : Nat) : Int)) (L' := [some (.ref (co)), some (.int (zI ((ld : Int)))), some (.int (zI ((P : Int)))), some (.int (zI (((popN ld : Nat) : Int)))), some (.int (zI (((t + 1 : Nat) : Int)))), some (.int (zI (((2 ^ K : Nat) : Int))))]) d_Cn_throwNext_45 rfl (by omega) (by decide) rfl ?_
          refine jl_goto (tgt := 8) d_Cn_throwNext_48 (by decide) ?_
          refine jl_less (L' := [some (.ref (co)), some (.int (zI ((ld : Int)))), some (.int (zI ((P : Int)))), some (.int (zI (((popN ld : Nat) : Int)))), some (.int (zI (((t + 1 : Nat) : Int)))), none]) ⟨rfl, rfl, rfl, rfl, rfl, trivial⟩ ?_
          refine ih (k - 1) (by omega) (t + 1) h2 (by omega) ?_
          rw [eh2, tnx, ← eK, if_neg (by omega)]
        · have h0 : (ld &&& 2 ^ K) = 0 := by omega
          have hor := or_add ld hld K (by omega) h0
          have hlt : ld ||| 2 ^ K < 2 ^ 6 := Nat.or_lt_two_pow hld (Nat.pow_lt_pow_right (by decide) (by omega))
          have hpos := Nat.pow_pos (n := K) (show 0 < 2 by decide)
          refine jl_aload_n d_Cn_throwNext_34 rfl rfl ?_
          refine jl_iload_n d_Cn_throwNext_35 rfl rfl ?_
          refine jl_iload_n d_Cn_throwNext_36 rfl rfl ?_
          refine jl_iload d_Cn_throwNext_37 rfl ?_
          refine jl_ior d_Cn_throwNext_39 (jz_int (bg_4 ld (by omega) K (by omega)) ?_)
          refine jl_iload d_Cn_throwNext_40 rfl ?_
          refine jl_invV (M' := m_Cn_addRows) (d' := d - 1) (ck' := 0) (sk' := 0) (na := 3) (as := [.int (zI ((ld : Int))), .int (zI (((ld ||| 2 ^ K : Nat) : Int))), .int (zI ((t : Int)))]) (st := []) d_Cn_throwNext_42 rfl hC2 rfl mw_Cn_35 ww_Cn_addRows sw_Cn_addRows nw_Cn cw_Cn_addRows rfl rfl rfl (by decide +kernel) (by omega) (Nat.le_of_ble_eq_true rfl) (Nat.le_of_ble_eq_true rfl) ?_
          refine k_N_addRows hl9 (by omega) hC2 hR2 ⟨by omega, by omega⟩ (by omega) ⟨by omega, by omega⟩ ?_
          obtain ⟨h3, eh3⟩ : ∃ z, z = va_up h2 (co + 1) (jI 3520 (fun j => zI (adr (ld : Int) ((ld ||| 2 ^ K : Nat) : Int) (t : Int) (tnx P ld R t) 55 j))) := ⟨_, rfl⟩
          rw [← eh3]
          show jl_AW _ _ _ _ _ 45 [some (.ref (co)), some (.int (zI ((ld : Int)))), some (.int (zI ((P : Int)))), some (.int (zI (((popN ld : Nat) : Int)))), some (.int (zI ((t : Int)))), some (.int (zI (((2 ^ K : Nat) : Int))))] [] n h3 _ _
          refine jz_iinc (v := ((t + 1 : Nat) : Int)) (L' := [some (.ref (co)), some (.int (zI ((ld : Int)))), some (.int (zI ((P : Int)))), some (.int (zI (((popN ld : Nat) : Int)))), some (.int (zI (((t + 1 : Nat) : Int)))), some (.int (zI (((2 ^ K : Nat) : Int))))]) d_Cn_throwNext_45 rfl (by omega) (by decide) rfl ?_
          refine jl_goto (tgt := 8) d_Cn_throwNext_48 (by decide) ?_
          refine jl_less (L' := [some (.ref (co)), some (.int (zI ((ld : Int)))), some (.int (zI ((P : Int)))), some (.int (zI (((popN ld : Nat) : Int)))), some (.int (zI (((t + 1 : Nat) : Int)))), none]) ⟨rfl, rfl, rfl, rfl, rfl, trivial⟩ ?_
          refine ih (k - 1) (by omega) (t + 1) h3 (by omega) ?_
          rw [eh3, eh2, bx_uu, tnx, ← eK, if_pos h0]
  refine jl_iload_n d_Cn_throwNext_0 rfl rfl ?_
  refine jl_invS (M' := m_In_bitCount) (d' := d - 1) (ck' := 0) (sk' := 0) (na := 1) (as := [.int (zI ((ld : Int)))]) (st := []) d_Cn_throwNext_1 rfl mw_Cn_25 ww_In_bitCount nw_In cw_In_bitCount rfl rfl rfl (by decide +kernel) (by omega) (Nat.le_of_ble_eq_true rfl) (Nat.le_of_ble_eq_true rfl) ?_
  refine k_bitCount hl9 (by omega) hld ?_
  show jl_AW _ _ _ _ _ 4 [some (.ref (co)), some (.int (zI ((ld : Int)))), some (.int (zI ((P : Int)))), none, none, none] [.int (zI (((popN ld : Nat) : Int)))] n h _ _
  refine jl_istore_n (L' := [some (.ref (co)), some (.int (zI ((ld : Int)))), some (.int (zI ((P : Int)))), some (.int (zI (((popN ld : Nat) : Int)))), none, none]) d_Cn_throwNext_4 rfl (by decide) rfl ?_
  refine jl_iconst (v := zI (0)) d_Cn_throwNext_5 (by decide) ?_
  refine jl_istore (L' := [some (.ref (co)), some (.int (zI ((ld : Int)))), some (.int (zI ((P : Int)))), some (.int (zI (((popN ld : Nat) : Int)))), some (.int (zI (0))), none]) d_Cn_throwNext_6 (by decide) rfl ?_
  exact lp1 10 0 h (by omega) (va_up_id hR).symm
set_option maxHeartbeats 4000000 in
set_option maxRecDepth 100000 in
theorem k_N_countDrafts {l : Launch} {G : jl_G} {d n : Nat} {h : Nat → va_E} {Kr : Option Value → Nat → (Nat → va_E) → Prop} {Kx : String → Nat → (Nat → va_E) → Prop} (hl9 : l.stackTraces = false) (hdd : 2 ≤ d) {co : Nat} {R : Nat → Int} {P : Nat} {b : Int} (hC : h co = jO 0 [.ref (co + 1)]) (hR : h (co + 1) = jI 3520 (fun j => zI (R j))) (hP : 1 ≤ P ∧ P ≤ 6) (hb : 0 ≤ b ∧ b ≤ 9) (hk : ∀ h', h' = va_up h (co + 1) (jI 3520 (fun j => zI (cdr P R (2 ^ P - 1) j))) → Kr (some (.int (zI (cdr P R (2 ^ P - 1) (((2 ^ P - 1 : Nat) : Int) * 55 + (P : Int) * b).toNat)))) n h') : jl_Call l G m_Cn_countDrafts d [.ref (co), .int (zI ((P : Int))), .int (zI (b))] n h 0 0 Kr Kx := by
  refine jl_enter hl9 (by decide) rfl (by simp [Value.category]) (Nat.le_of_ble_eq_true rfl) ?_
  show jl_AW l G (jl_F G Kr Kx) m_Cn_countDrafts d 0 [some (.ref (co)), some (.int (zI ((P : Int)))), some (.int (zI (b))), none, none] [] n h 0 0
  have hp2 : 2 ^ P ≤ 2 ^ 6 := Nat.pow_le_pow_right (by decide) hP.2
  have hp1 := Nat.pow_pos (n := P) (show 0 < 2 by decide)
  have hp0 : (2 : Nat) ^ P = ((2 ^ P - 1) + 1) := by omega
  obtain ⟨A, eA⟩ : ∃ A, A = 2 ^ P - 1 := ⟨_, rfl⟩
  rw [← eA] at hk hp0
  have lp1 : ∀ (k : Nat) (t : Nat) (h2 : Nat → va_E), t + k = A → h2 = va_up h (co + 1) (jI 3520 (fun j => zI (cdr P R t j))) → jl_AW l G (jl_F G Kr Kx) m_Cn_countDrafts d 24 [some (.ref (co)), some (.int (zI ((P : Int)))), some (.int (zI (b))), some (.int (zI ((A : Int)))), some (.int (zI ((t : Int))))] [] n h2 0 0 := by
    intro k
    induction k using Nat.strongRecOn with
    | ind k ih =>
      intro t h2 hkt eh2
      have hC2 : h2 co = jO 0 [.ref (co + 1)] := by rw [eh2, va_up_ne _ _ (by omega)]; exact hC
      have hR2 : h2 (co + 1) = jI 3520 (fun j => zI (cdr P R t j)) := by rw [eh2, va_up_self]
      refine jl_iload d_Cn_countDrafts_24 rfl ?_
      refine jl_iload_n d_Cn_countDrafts_26 rfl rfl ?_
      refine jz_icmp_ge (tgt := 43) d_Cn_countDrafts_27 (by decide) ⟨by omega, by omega⟩ ⟨by omega, by omega⟩ (fun hc => ?_) (fun hc => ?_)
      · have et : A = t := by omega
        subst et
        refine jl_aload_n d_Cn_countDrafts_43 rfl rfl ?_
        refine jg_0 (q := 0) d_Cn_countDrafts_44 hC2 rfl (by decide) fw_Cn_11 ?_
        refine jl_iload_n d_Cn_countDrafts_47 rfl rfl ?_
        refine jl_bipush (v := zI (55)) d_Cn_countDrafts_48 (by decide) ?_
        refine jz_imul (v := ((A : Int)) * (55)) d_Cn_countDrafts_50 rfl ?_
        refine jl_iload_n d_Cn_countDrafts_51 rfl rfl ?_
        refine jl_iload_n d_Cn_countDrafts_52 rfl rfl ?_
        refine jz_imul (v := ((P : Int)) * (b)) d_Cn_countDrafts_53 rfl ?_
        refine jz_iadd (v := (((A : Int)) * (55)) + (((P : Int)) * (b))) d_Cn_countDrafts_54 rfl ?_
        have hpb : (P : Int) * b ≤ 54 := by rcases (show P = 1 ∨ P = 2 ∨ P = 3 ∨ P = 4 ∨ P = 5 ∨ P = 6 by omega) with e | e | e | e | e | e <;> subst e <;> omega
        have hpc : 0 ≤ (P : Int) * b := Int.mul_nonneg (by omega) hb.1
        refine jz_iald d_Cn_countDrafts_55 hR2 (by omega) (by omega) (by omega) ?_
        exact jl_iret d_Cn_countDrafts_56 rfl (hk h2 (by rw [eh2]))
      · refine jl_aload_n d_Cn_countDrafts_30 rfl rfl ?_
        refine jl_iload d_Cn_countDrafts_31 rfl ?_
        refine jl_iload_n d_Cn_countDrafts_33 rfl rfl ?_
        refine jl_invV (M' := m_Cn_throwNext) (d' := d - 1) (ck' := 0) (sk' := 0) (na := 2) (as := [.int (zI ((t : Int))), .int (zI ((P : Int)))]) (st := []) d_Cn_countDrafts_34 rfl hC2 rfl mw_Cn_21 ww_Cn_throwNext sw_Cn_throwNext nw_Cn cw_Cn_throwNext rfl rfl rfl (by decide +kernel) (by omega) (Nat.le_of_ble_eq_true rfl) (Nat.le_of_ble_eq_true rfl) ?_
        refine k_N_throwNext hl9 (by omega) hC2 hR2 (by omega) hP ?_
        obtain ⟨h3, eh3⟩ : ∃ z, z = va_up h2 (co + 1) (jI 3520 (fun j => zI (tnx P t (cdr P R t) 10 j))) := ⟨_, rfl⟩
        rw [← eh3]
        show jl_AW _ _ _ _ _ 37 [some (.ref (co)), some (.int (zI ((P : Int)))), some (.int (zI (b))), some (.int (zI ((A : Int)))), some (.int (zI ((t : Int))))] [] n h3 _ _
        refine jz_iinc (v := ((t + 1 : Nat) : Int)) (L' := [some (.ref (co)), some (.int (zI ((P : Int)))), some (.int (zI (b))), some (.int (zI ((A : Int)))), some (.int (zI (((t + 1 : Nat) : Int))))]) d_Cn_countDrafts_37 rfl (by omega) (by decide) rfl ?_
        refine jl_goto (tgt := 24) d_Cn_countDrafts_40 (by decide) ?_
        refine ih (k - 1) (by omega) (t + 1) h3 (by omega) ?_
        rw [eh3, eh2, bx_uu, cdr]
  refine jl_iconst (v := zI (1)) d_Cn_countDrafts_0 (by decide) ?_
  refine jl_iload_n d_Cn_countDrafts_1 rfl rfl ?_
  refine jl_ishl d_Cn_countDrafts_2 (jz_int (bg_2 P (by omega)) ?_)
  refine jl_iconst (v := zI (1)) d_Cn_countDrafts_3 (by decide) ?_
  refine jz_isub (v := (A : Int)) d_Cn_countDrafts_4 (by rw [hp0]; omega) ?_
  refine jl_istore_n (L' := [some (.ref (co)), some (.int (zI ((P : Int)))), some (.int (zI (b))), some (.int (zI ((A : Int)))), none]) d_Cn_countDrafts_5 rfl (by decide) rfl ?_
  refine jl_aload_n d_Cn_countDrafts_6 rfl rfl ?_
  refine jg_0 (q := 0) d_Cn_countDrafts_7 hC rfl (by decide) fw_Cn_11 ?_
  refine jl_iconst (v := zI (0)) d_Cn_countDrafts_10 (by decide) ?_
  refine jl_invS (M' := m_Ar_fill) (d' := d - 1) (ck' := 0) (sk' := 0) (na := 2) (as := [.ref (co + 1), .int (zI (0))]) (st := []) d_Cn_countDrafts_11 rfl mw_Cn_15 ww_Ar_fill nw_Ar cw_Ar_fill rfl rfl rfl (by decide +kernel) (by omega) (Nat.le_of_ble_eq_true rfl) (Nat.le_of_ble_eq_true rfl) ?_
  refine k_fill hl9 (by omega) hR (by decide) ?_
  obtain ⟨hq, ehq⟩ : ∃ z, z = va_up h (co + 1) (jI 3520 (fun j => zI (jfill 3520 0 R j))) := ⟨_, rfl⟩
  rw [← ehq]
  have jf9 : hq (co + 1) = jI 3520 (fun j => zI ((jfill 3520 0 R) j)) := by rw [ehq, va_up_self]
  show jl_AW _ _ _ _ _ 14 [some (.ref (co)), some (.int (zI ((P : Int)))), some (.int (zI (b))), some (.int (zI ((A : Int)))), none] [] n hq _ _
  refine jl_aload_n d_Cn_countDrafts_14 rfl rfl ?_
  have jf1 : hq (co) = jO 0 [.ref (co + 1)] := by rw [ehq, va_up_ne _ _ (by omega)]; exact hC
  refine jg_0 (q := 0) d_Cn_countDrafts_15 jf1 rfl (by decide) fw_Cn_11 ?_
  refine jl_iconst (v := zI (0)) d_Cn_countDrafts_18 (by decide) ?_
  refine jl_iconst (v := zI (1)) d_Cn_countDrafts_19 (by decide) ?_
  refine jz_iasth d_Cn_countDrafts_20 jf9 (by omega) (by omega) (by omega) (fun h2 eh2 => ?_)
  have jf3 : h2 (co + 1) = jI 3520 (fun j9 => zI ((va_up ((jfill 3520 0 R)) (0 : Int).toNat (1)) j9)) := by rw [eh2, va_up_self]
  refine jl_iconst (v := zI (0)) d_Cn_countDrafts_21 (by decide) ?_
  refine jl_istore (L' := [some (.ref (co)), some (.int (zI ((P : Int)))), some (.int (zI (b))), some (.int (zI ((A : Int)))), some (.int (zI (0)))]) d_Cn_countDrafts_22 (by decide) rfl ?_
  exact lp1 A 0 h2 (by omega) (by rw [eh2, ehq, bx_uu, cdr])
set_option maxHeartbeats 4000000 in
set_option maxRecDepth 100000 in
theorem k_countValid {l : Launch} {G : jl_G} {d n : Nat} {h : Nat → va_E} {Kr : Option Value → Nat → (Nat → va_E) → Prop} {Kx : String → Nat → (Nat → va_E) → Prop} (hl9 : l.stackTraces = false) (hdd : 3 ≤ d) {x i sh jo cy g : Nat} {co : Nat} {R : Nat → Int} {a b : Int} (hS : h x = jO 5 [.ref (i), .ref (sh), .ref (jo), .ref (co), .ref (cy), .ref (g)]) (hC : h co = jO 0 [.ref (co + 1)]) (hR : h (co + 1) = jI 3520 (fun j => zI (R j))) (ha : zR a) (hb : zR b) (hk : ∀ P : Nat, a = (P : Int) → ((1 ≤ a ∧ a ≤ 6) ∧ (0 ≤ b ∧ b ≤ 9)) → ∀ h', h' = va_up h (co + 1) (jI 3520 (fun j => zI (cdr P R (2 ^ P - 1) j))) → Kr (some (.int (zI (cdr P R (2 ^ P - 1) (((2 ^ P - 1 : Nat) : Int) * 55 + (P : Int) * b).toNat)))) n h') (hx1 : ¬ ((1 ≤ a ∧ a ≤ 6) ∧ (0 ≤ b ∧ b ≤ 9)) → Kx "java/lang/IllegalArgumentException" n h) : jl_Call l G m_St_countValid d [.ref (x), .int (zI (a)), .int (zI (b))] n h 1 6 Kr Kx := by
  refine jl_enter hl9 (by decide) rfl (by simp [Value.category]) (Nat.le_of_ble_eq_true rfl) ?_
  show jl_AW l G (jl_F G Kr Kx) m_St_countValid d 0 [some (.ref (x)), some (.int (zI (a))), some (.int (zI (b)))] [] n h 1 6
  refine jl_iload_n d_St_countValid_0 rfl rfl ?_
  refine jl_iconst (v := zI (1)) d_St_countValid_1 (by decide) ?_
  refine jz_icmp_lt (tgt := 21) d_St_countValid_2 (by decide) ⟨by omega, by omega⟩ ⟨by omega, by omega⟩ (fun q1 => ?_) (fun q1 => ?_)
  · exact jl_throw (B := []) (text := "no such period or number of balls") d_St_countValid_21 d_St_countValid_24 d_St_countValid_25 d_St_countValid_27 d_St_countValid_30 rfl (by decide) (by decide) kw_St_48 xw_IAE zw_St_185 tw_52.1 tw_52.2.1 (tg_52_48) (by decide) (Nat.le_of_ble_eq_true rfl) (hx1 (by omega))
  · refine jl_iload_n d_St_countValid_5 rfl rfl ?_
    refine jl_bipush (v := zI (6)) d_St_countValid_6 (by decide) ?_
    refine jz_icmp_gt (tgt := 21) d_St_countValid_8 (by decide) ⟨by omega, by omega⟩ ⟨by omega, by omega⟩ (fun q2 => ?_) (fun q2 => ?_)
    · exact jl_throw (B := []) (text := "no such period or number of balls") d_St_countValid_21 d_St_countValid_24 d_St_countValid_25 d_St_countValid_27 d_St_countValid_30 rfl (by decide) (by decide) kw_St_48 xw_IAE zw_St_185 tw_52.1 tw_52.2.1 (tg_52_48) (by decide) (Nat.le_of_ble_eq_true rfl) (hx1 (by omega))
    · refine jl_iload_n d_St_countValid_11 rfl rfl ?_
      refine jz_if_lt (tgt := 21) d_St_countValid_12 (by decide) ⟨by omega, by omega⟩ (fun q3 => ?_) (fun q3 => ?_)
      · exact jl_throw (B := []) (text := "no such period or number of balls") d_St_countValid_21 d_St_countValid_24 d_St_countValid_25 d_St_countValid_27 d_St_countValid_30 rfl (by decide) (by decide) kw_St_48 xw_IAE zw_St_185 tw_52.1 tw_52.2.1 (tg_52_48) (by decide) (Nat.le_of_ble_eq_true rfl) (hx1 (by omega))
      · refine jl_iload_n d_St_countValid_15 rfl rfl ?_
        refine jl_bipush (v := zI (9)) d_St_countValid_16 (by decide) ?_
        refine jz_icmp_le (tgt := 31) d_St_countValid_18 (by decide) ⟨by omega, by omega⟩ ⟨by omega, by omega⟩ (fun q4 => ?_) (fun q4 => ?_)
        · refine jl_aload_n d_St_countValid_31 rfl rfl ?_
          refine jg_5 (q := 3) d_St_countValid_32 hS rfl (by decide) fw_St_30 ?_
          refine jl_iload_n d_St_countValid_35 rfl rfl ?_
          refine jl_iload_n d_St_countValid_36 rfl rfl ?_
          obtain ⟨P, eP⟩ : ∃ P : Nat, a = (P : Int) := ⟨a.toNat, by omega⟩
          subst eP
          refine jl_invV (M' := m_Cn_countDrafts) (d' := d - 1) (ck' := 0) (sk' := 0) (na := 2) (as := [.int (zI ((P : Int))), .int (zI (b))]) (st := []) d_St_countValid_37 rfl hC rfl mw_St_187 ww_Cn_countDrafts sw_Cn_countDrafts nw_Cn cw_Cn_countDrafts rfl rfl rfl (by decide +kernel) (by omega) (Nat.le_of_ble_eq_true rfl) (Nat.le_of_ble_eq_true rfl) ?_
          refine k_N_countDrafts hl9 (by omega) hC hR ⟨by omega, by omega⟩ ⟨by omega, by omega⟩ (fun h2 eh2 => ?_)
          show jl_AW _ _ _ _ _ 40 [some (.ref (x)), some (.int (zI ((P : Int)))), some (.int (zI (b)))] [.int (zI (cdr P R (2 ^ P - 1) (((2 ^ P - 1 : Nat) : Int) * 55 + (P : Int) * b).toNat))] n h2 _ _
          exact jl_iret d_St_countValid_40 rfl (hk P (by omega) (by omega) h2 eh2)
        · exact jl_throw (B := []) (text := "no such period or number of balls") d_St_countValid_21 d_St_countValid_24 d_St_countValid_25 d_St_countValid_27 d_St_countValid_30 rfl (by decide) (by decide) kw_St_48 xw_IAE zw_St_185 tw_52.1 tw_52.2.1 (tg_52_48) (by decide) (Nat.le_of_ble_eq_true rfl) (hx1 (by omega))
