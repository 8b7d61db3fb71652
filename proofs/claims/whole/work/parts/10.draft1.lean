/-- a draft at cell i -/
def jD (h : Nat → va_E) (i : Nat) (m p : Int) (hs cs xs sc : Nat → Int) : Prop :=
  h i = jO 2 [.ref (i + 1), .ref (i + 2), .ref (i + 3), .ref (i + 4), .int (zI m), .int (zI p)] ∧ h (i + 1) = jI 48 (fun j => zI (hs j)) ∧ h (i + 2) = jI 16 (fun j => zI (cs j)) ∧ h (i + 3) = jI 16 (fun j => zI (xs j)) ∧ h (i + 4) = jI 16 (fun j => zI (sc j))
/-- the site that a hand throws from at beat b, -1 when it rests -/
def sp_thr (m p b k : Int) : Int := if m = 2 then (if b % 2 = 1 then -1 else b % p + k) else (if k = b % 2 then b % p else -1)
/-- the hand in which a throw of site b, made by hand k, lands at beat g -/
def sp_land (m : Int) (xs : Nat → Int) (b k g : Int) : Int := if m = 2 then (if xs b.toNat = 0 then k else 1 - k) else g % 2
/-- the site at which a throw of height k of site b lands -/
def sp_tgt (m p : Int) (xs : Nat → Int) (b k : Int) : Int := if m = 2 then (b - b % 2 + k) % p + sp_land m xs b (b % 2) (b - b % 2 + k) else (b + k) % p
theorem jk_eq {Kr : Option Value → Nat → (Nat → va_E) → Prop} {n : Nat} {h : Nat → va_E} {a b : Int} (hk : Kr (some (.int (zI a))) n h) (e : a = b) : Kr (some (.int (zI b))) n h := e ▸ hk
set_option maxHeartbeats 4000000 in
set_option maxRecDepth 100000 in
/-- isOdd(b): b modulo 2 -/
theorem k_isOdd {l : Launch} {G : jl_G} {d n : Nat} {h : Nat → va_E} {Kr : Option Value → Nat → (Nat → va_E) → Prop} {Kx : String → Nat → (Nat → va_E) → Prop} (hl9 : l.stackTraces = false) (hdd : 0 ≤ d) {b : Int} (hb : zR b) (hk : Kr (some (.int (zI (b % 2)))) n h) : jl_Call l G m_St_isOdd d [.int (zI (b))] n h 0 0 Kr Kx := by
  refine jl_enter hl9 (by decide) rfl (by simp [Value.category]) (Nat.le_of_ble_eq_true rfl) ?_
  show jl_AW l G (jl_F G Kr Kx) m_St_isOdd d 0 [some (.int (zI (b)))] [] n h 0 0
  refine jl_iload_n d_St_isOdd_0 rfl rfl ?_
  refine jl_iconst (v := zI (1)) d_St_isOdd_1 (by decide) ?_
  refine jl_iand d_St_isOdd_2 (jz_int (zI_odd _ hb) ?_)
  refine jz_if_eq (tgt := 10) d_St_isOdd_3 (by decide) ⟨by omega, by omega⟩ (fun hc => ?_) (fun hc => ?_)
  · refine jl_iconst (v := zI (0)) d_St_isOdd_10 (by decide) ?_
    exact jl_zret d_St_isOdd_11 rfl (by decide) (by have e1 : b % 2 = 0 := hc; rw [e1] at hk; exact hk)
  · refine jl_iconst (v := zI (1)) d_St_isOdd_6 (by decide) ?_
    refine jl_goto (tgt := 11) d_St_isOdd_7 (by decide) ?_
    exact jl_zret d_St_isOdd_11 rfl (by decide) (by have e1 : b % 2 = 1 := (by omega); rw [e1] at hk; exact hk)
set_option maxHeartbeats 4000000 in
set_option maxRecDepth 100000 in
/-- wrap(b, p): b modulo p -/
theorem k_wrap {l : Launch} {G : jl_G} {d n : Nat} {h : Nat → va_E} {Kr : Option Value → Nat → (Nat → va_E) → Prop} {Kx : String → Nat → (Nat → va_E) → Prop} (hl9 : l.stackTraces = false) (hdd : 0 ≤ d) {b p : Int} (hb : -2147483648 < b ∧ b < 2147483648) (hp : 1 ≤ p ∧ p < 2147483648) (hk : Kr (some (.int (zI (b % p)))) n h) : jl_Call l G m_St_wrap d [.int (zI (b)), .int (zI (p))] n h 0 0 Kr Kx := by
  refine jl_enter hl9 (by decide) rfl (by simp [Value.category]) (Nat.le_of_ble_eq_true rfl) ?_
  show jl_AW l G (jl_F G Kr Kx) m_St_wrap d 0 [some (.int (zI (b))), some (.int (zI (p))), none] [] n h 0 0
  refine jl_iload_n d_St_wrap_0 rfl rfl ?_
  refine jl_iconst (v := zI (1)) d_St_wrap_1 (by decide) ?_
  refine jz_icmp_ge (tgt := 7) d_St_wrap_2 (by decide) ⟨by omega, by omega⟩ ⟨by omega, by omega⟩ (fun hc => ?_) (fun hc => ?_)
  · refine jl_iload_n d_St_wrap_7 rfl rfl ?_
    refine jl_iload_n d_St_wrap_8 rfl rfl ?_
    refine jz_irem (v := b.tmod p) d_St_wrap_9 hb ⟨by omega, by omega⟩ (by omega) rfl ?_
    have ht := jn_tmod b hp.1
    have hz := tmod_bounds (a := b) (show 0 < p by omega)
    refine jl_istore_n (L' := [some (.int (zI (b))), some (.int (zI (p))), some (.int (zI (b.tmod p)))]) d_St_wrap_10 rfl (by decide) rfl ?_
    refine jl_iload_n d_St_wrap_11 rfl rfl ?_
    refine jz_if_ge (tgt := 21) d_St_wrap_12 (by decide) ⟨by omega, by omega⟩ (fun hc2 => ?_) (fun hc2 => ?_)
    · refine jl_iload_n d_St_wrap_21 rfl rfl ?_
      exact jl_iret d_St_wrap_22 rfl (by rw [ht.1 hc2]; exact hk)
    · refine jl_iload_n d_St_wrap_15 rfl rfl ?_
      refine jl_iload_n d_St_wrap_16 rfl rfl ?_
      refine jz_iadd (v := b % p) d_St_wrap_17 (ht.2 hc2) ?_
      refine jl_goto (tgt := 22) d_St_wrap_18 (by decide) ?_
      exact jl_iret d_St_wrap_22 rfl hk
  · omega
set_option maxHeartbeats 4000000 in
set_option maxRecDepth 100000 in
theorem k_D_hasSite {l : Launch} {G : jl_G} {d n : Nat} {h : Nat → va_E} {Kr : Option Value → Nat → (Nat → va_E) → Prop} {Kx : String → Nat → (Nat → va_E) → Prop} (hl9 : l.stackTraces = false) (hdd : 0 ≤ d) {i : Nat} {m p : Int} {hs cs xs sc : Nat → Int} {b : Int} (hD : jD h i m p hs cs xs sc) (hb : zR b) (hp : 1 ≤ p ∧ p ≤ 16) (h1 : 0 ≤ b ∧ b < p → Kr (some (.int (zI (1)))) n h) (h0 : ¬ (0 ≤ b ∧ b < p) → Kr (some (.int (zI (0)))) n h) : jl_Call l G m_Dr_hasSite d [.ref (i), .int (zI (b))] n h 0 0 Kr Kx := by
  refine jl_enter hl9 (by decide) rfl (by simp [Value.category]) (Nat.le_of_ble_eq_true rfl) ?_
  show jl_AW l G (jl_F G Kr Kx) m_Dr_hasSite d 0 [some (.ref (i)), some (.int (zI (b)))] [] n h 0 0
  obtain ⟨hd0, hd1, hd2, hd3, hd4⟩ := hD
  refine jl_iload_n d_Dr_hasSite_0 rfl rfl ?_
  refine jz_if_lt (tgt := 16) d_Dr_hasSite_1 (by decide) ⟨by omega, by omega⟩ (fun hc => ?_) (fun hc => ?_)
  · refine jl_iconst (v := zI (0)) d_Dr_hasSite_16 (by decide) ?_
    exact jl_zret d_Dr_hasSite_17 rfl (by decide) (h0 (by omega))
  · refine jl_iload_n d_Dr_hasSite_4 rfl rfl ?_
    refine jl_aload_n d_Dr_hasSite_5 rfl rfl ?_
    refine jg_2 (q := 5) d_Dr_hasSite_6 hd0 rfl (by decide) fw_Dr_28 ?_
    refine jz_icmp_ge (tgt := 16) d_Dr_hasSite_9 (by decide) ⟨by omega, by omega⟩ ⟨by omega, by omega⟩ (fun hc2 => ?_) (fun hc2 => ?_)
    · refine jl_iconst (v := zI (0)) d_Dr_hasSite_16 (by decide) ?_
      exact jl_zret d_Dr_hasSite_17 rfl (by decide) (h0 (by omega))
    · refine jl_iconst (v := zI (1)) d_Dr_hasSite_12 (by decide) ?_
      refine jl_goto (tgt := 17) d_Dr_hasSite_13 (by decide) ?_
      exact jl_zret d_Dr_hasSite_17 rfl (by decide) (h1 (by omega))
set_option maxHeartbeats 4000000 in
set_option maxRecDepth 100000 in
theorem k_D_throwsOf {l : Launch} {G : jl_G} {d n : Nat} {h : Nat → va_E} {Kr : Option Value → Nat → (Nat → va_E) → Prop} {Kx : String → Nat → (Nat → va_E) → Prop} (hl9 : l.stackTraces = false) (hdd : 0 ≤ d) {i : Nat} {m p : Int} {hs cs xs sc : Nat → Int} {b : Int} (hD : jD h i m p hs cs xs sc) (hb : 0 ≤ b ∧ b < 16) (hk : Kr (some (.int (zI (cs (b).toNat)))) n h) : jl_Call l G m_Dr_throwsOf d [.ref (i), .int (zI (b))] n h 0 0 Kr Kx := by
  refine jl_enter hl9 (by decide) rfl (by simp [Value.category]) (Nat.le_of_ble_eq_true rfl) ?_
  show jl_AW l G (jl_F G Kr Kx) m_Dr_throwsOf d 0 [some (.ref (i)), some (.int (zI (b)))] [] n h 0 0
  obtain ⟨hd0, hd1, hd2, hd3, hd4⟩ := hD
  refine jl_aload_n d_Dr_throwsOf_0 rfl rfl ?_
  refine jg_2 (q := 1) d_Dr_throwsOf_1 hd0 rfl (by decide) fw_Dr_15 ?_
  refine jl_iload_n d_Dr_throwsOf_4 rfl rfl ?_
  refine jz_iald d_Dr_throwsOf_5 hd2 (by omega) (by omega) (by omega) ?_
  exact jl_iret d_Dr_throwsOf_6 rfl hk
set_option maxHeartbeats 4000000 in
set_option maxRecDepth 100000 in
theorem k_D_crossingOf {l : Launch} {G : jl_G} {d n : Nat} {h : Nat → va_E} {Kr : Option Value → Nat → (Nat → va_E) → Prop} {Kx : String → Nat → (Nat → va_E) → Prop} (hl9 : l.stackTraces = false) (hdd : 0 ≤ d) {i : Nat} {m p : Int} {hs cs xs sc : Nat → Int} {b : Int} (hD : jD h i m p hs cs xs sc) (hb : 0 ≤ b ∧ b < 16) (hk : Kr (some (.int (zI (xs (b).toNat)))) n h) : jl_Call l G m_Dr_crossingOf d [.ref (i), .int (zI (b))] n h 0 0 Kr Kx := by
  refine jl_enter hl9 (by decide) rfl (by simp [Value.category]) (Nat.le_of_ble_eq_true rfl) ?_
  show jl_AW l G (jl_F G Kr Kx) m_Dr_crossingOf d 0 [some (.ref (i)), some (.int (zI (b)))] [] n h 0 0
  obtain ⟨hd0, hd1, hd2, hd3, hd4⟩ := hD
  refine jl_aload_n d_Dr_crossingOf_0 rfl rfl ?_
  refine jg_2 (q := 2) d_Dr_crossingOf_1 hd0 rfl (by decide) fw_Dr_18 ?_
  refine jl_iload_n d_Dr_crossingOf_4 rfl rfl ?_
  refine jz_iald d_Dr_crossingOf_5 hd3 (by omega) (by omega) (by omega) ?_
  exact jl_iret d_Dr_crossingOf_6 rfl hk
set_option maxHeartbeats 4000000 in
set_option maxRecDepth 100000 in
theorem k_D_heightOf {l : Launch} {G : jl_G} {d n : Nat} {h : Nat → va_E} {Kr : Option Value → Nat → (Nat → va_E) → Prop} {Kx : String → Nat → (Nat → va_E) → Prop} (hl9 : l.stackTraces = false) (hdd : 0 ≤ d) {i : Nat} {m p : Int} {hs cs xs sc : Nat → Int} {b k : Int} (hD : jD h i m p hs cs xs sc) (hb : 0 ≤ b ∧ b < 16) (hk9 : 0 ≤ k ∧ k < 3) (hk : Kr (some (.int (zI (hs (b * 3 + k).toNat)))) n h) : jl_Call l G m_Dr_heightOf d [.ref (i), .int (zI (b)), .int (zI (k))] n h 0 0 Kr Kx := by
  refine jl_enter hl9 (by decide) rfl (by simp [Value.category]) (Nat.le_of_ble_eq_true rfl) ?_
  show jl_AW l G (jl_F G Kr Kx) m_Dr_heightOf d 0 [some (.ref (i)), some (.int (zI (b))), some (.int (zI (k)))] [] n h 0 0
  obtain ⟨hd0, hd1, hd2, hd3, hd4⟩ := hD
  refine jl_aload_n d_Dr_heightOf_0 rfl rfl ?_
  refine jg_2 (q := 0) d_Dr_heightOf_1 hd0 rfl (by decide) fw_Dr_9 ?_
  refine jl_iload_n d_Dr_heightOf_4 rfl rfl ?_
  refine jl_iconst (v := zI (3)) d_Dr_heightOf_5 (by decide) ?_
  refine jz_imul (v := b * 3) d_Dr_heightOf_6 (by omega) ?_
  refine jl_iload_n d_Dr_heightOf_7 rfl rfl ?_
  refine jz_iadd (v := b * 3 + k) d_Dr_heightOf_8 (by omega) ?_
  refine jz_iald d_Dr_heightOf_9 hd1 (by omega) (by omega) (by omega) ?_
  exact jl_iret d_Dr_heightOf_10 rfl hk
set_option maxHeartbeats 4000000 in
set_option maxRecDepth 100000 in
theorem k_D_firstHeight {l : Launch} {G : jl_G} {d n : Nat} {h : Nat → va_E} {Kr : Option Value → Nat → (Nat → va_E) → Prop} {Kx : String → Nat → (Nat → va_E) → Prop} (hl9 : l.stackTraces = false) (hdd : 1 ≤ d) {i : Nat} {m p : Int} {hs cs xs sc : Nat → Int} {b : Int} (hD : jD h i m p hs cs xs sc) (hb : -2147483648 < b ∧ b < 2147483648) (hp : 1 ≤ p ∧ p ≤ 16) (hk : Kr (some (.int (zI (hs (b % p * 3).toNat)))) n h) : jl_Call l G m_Dr_firstHeight d [.ref (i), .int (zI (b))] n h 0 0 Kr Kx := by
  refine jl_enter hl9 (by decide) rfl (by simp [Value.category]) (Nat.le_of_ble_eq_true rfl) ?_
  show jl_AW l G (jl_F G Kr Kx) m_Dr_firstHeight d 0 [some (.ref (i)), some (.int (zI (b)))] [] n h 0 0
  obtain ⟨hd0, hd1, hd2, hd3, hd4⟩ := hD
  refine jl_aload_n d_Dr_firstHeight_0 rfl rfl ?_
  refine jg_2 (q := 0) d_Dr_firstHeight_1 hd0 rfl (by decide) fw_Dr_9 ?_
  refine jl_iload_n d_Dr_firstHeight_4 rfl rfl ?_
  refine jl_aload_n d_Dr_firstHeight_5 rfl rfl ?_
  refine jg_2 (q := 5) d_Dr_firstHeight_6 hd0 rfl (by decide) fw_Dr_28 ?_
  refine jl_invSN0 (M' := m_St_wrap) (d' := d - 1) (ck' := 0) (sk' := 0) (na := 2) (as := [.int (zI (b)), .int (zI (p))]) (st := [.ref (i + 1)]) d_Dr_firstHeight_9 rfl mw_Dr_43 ww_St_wrap nw_St cw_St_wrap rfl rfl (by decide +kernel) (by omega) (Nat.le_of_ble_eq_true rfl) (Nat.le_of_ble_eq_true rfl) ?_
  refine k_wrap hl9 (by omega) hb ⟨hp.1, by omega⟩ ?_
  show jl_AW _ _ _ _ _ 12 [some (.ref (i)), some (.int (zI (b)))] [.int (zI (b % p)), .ref (i + 1)] n h _ _
  have e0 := Int.emod_nonneg b (show p ≠ 0 by omega)
  have e1 := Int.emod_lt_of_pos b (show 0 < p by omega)
  refine jl_iconst (v := zI (3)) d_Dr_firstHeight_12 (by decide) ?_
  refine jz_imul (v := b % p * 3) d_Dr_firstHeight_13 (by omega) ?_
  refine jz_iald d_Dr_firstHeight_14 hd1 (by omega) (by omega) (by omega) ?_
  exact jl_iret d_Dr_firstHeight_15 rfl hk
set_option maxHeartbeats 4000000 in
set_option maxRecDepth 100000 in
theorem k_D_setFirst {l : Launch} {G : jl_G} {d n : Nat} {h : Nat → va_E} {Kr : Option Value → Nat → (Nat → va_E) → Prop} {Kx : String → Nat → (Nat → va_E) → Prop} (hl9 : l.stackTraces = false) (hdd : 0 ≤ d) {i : Nat} {m p : Int} {hs cs xs sc : Nat → Int} {b k c : Int} (hD : jD h i m p hs cs xs sc) (hb : 0 ≤ b ∧ b < 16) (hc9 : zR c) (hk : Kr none n (va_up (va_up h (i + 1) (jI 48 (fun j => zI (va_up hs (b * 3).toNat (k) j)))) (i + 3) (jI 16 (fun j => zI (va_up xs (b).toNat (if c = 0 then 0 else 16) j))))) : jl_Call l G m_Dr_setFirst d [.ref (i), .int (zI (b)), .int (zI (k)), .int (zI (c))] n h 0 0 Kr Kx := by
  refine jl_enter hl9 (by decide) rfl (by simp [Value.category]) (Nat.le_of_ble_eq_true rfl) ?_
  show jl_AW l G (jl_F G Kr Kx) m_Dr_setFirst d 0 [some (.ref (i)), some (.int (zI (b))), some (.int (zI (k))), some (.int (zI (c)))] [] n h 0 0
  obtain ⟨hd0, hd1, hd2, hd3, hd4⟩ := hD
  refine jl_aload_n d_Dr_setFirst_0 rfl rfl ?_
  refine jg_2 (q := 0) d_Dr_setFirst_1 hd0 rfl (by decide) fw_Dr_9 ?_
  refine jl_iload_n d_Dr_setFirst_4 rfl rfl ?_
  refine jl_iconst (v := zI (3)) d_Dr_setFirst_5 (by decide) ?_
  refine jz_imul (v := b * 3) d_Dr_setFirst_6 (by omega) ?_
  refine jl_iload_n d_Dr_setFirst_7 rfl rfl ?_
  refine jz_iasth d_Dr_setFirst_8 hd1 (by omega) (by omega) (by omega) (fun h1 eh1 => ?_)
  have jf2 : h1 (i + 1) = jI 48 (fun j => zI ((va_up hs (b * 3).toNat (k)) j)) := by rw [eh1, va_up_self]
  refine jl_aload_n d_Dr_setFirst_9 rfl rfl ?_
  have jf3 : h1 (i) = jO 2 [.ref (i + 1), .ref (i + 2), .ref (i + 3), .ref (i + 4), .int (zI (m)), .int (zI (p))] := by rw [eh1, va_up_ne _ _ (by omega)]; exact hd0
  refine jg_2 (q := 2) d_Dr_setFirst_10 jf3 rfl (by decide) fw_Dr_18 ?_
  refine jl_iload_n d_Dr_setFirst_13 rfl rfl ?_
  refine jl_iload_n d_Dr_setFirst_14 rfl rfl ?_
  refine jz_if_eq (tgt := 23) d_Dr_setFirst_15 (by decide) ⟨by omega, by omega⟩ (fun hc => ?_) (fun hc => ?_)
  · refine jl_iconst (v := zI (0)) d_Dr_setFirst_23 (by decide) ?_
    have jf4 : h1 (i + 3) = jI 16 (fun j => zI (xs j)) := by rw [eh1, va_up_ne _ _ (by omega)]; exact hd3
    refine jz_iasth d_Dr_setFirst_24 jf4 (by omega) (by omega) (by omega) (fun h5 eh5 => ?_)
    have jf6 : h5 (i + 3) = jI 16 (fun j => zI ((va_up xs (b).toNat (0)) j)) := by rw [eh5, va_up_self]
    refine jl_vret d_Dr_setFirst_25 rfl ?_
    have e9 : (if c = 0 then (0 : Int) else 16) = 0 := by simp [hc]
    rw [e9] at hk
    rw [eh5, eh1]
    exact hk
  · refine jl_bipush (v := zI (16)) d_Dr_setFirst_18 (by decide) ?_
    refine jl_goto (tgt := 24) d_Dr_setFirst_20 (by decide) ?_
    have jf4 : h1 (i + 3) = jI 16 (fun j => zI (xs j)) := by rw [eh1, va_up_ne _ _ (by omega)]; exact hd3
    refine jz_iasth d_Dr_setFirst_24 jf4 (by omega) (by omega) (by omega) (fun h5 eh5 => ?_)
    have jf6 : h5 (i + 3) = jI 16 (fun j => zI ((va_up xs (b).toNat (16)) j)) := by rw [eh5, va_up_self]
    refine jl_vret d_Dr_setFirst_25 rfl ?_
    have e9 : (if c = 0 then (0 : Int) else 16) = 16 := by simp [hc]
    rw [e9] at hk
    rw [eh5, eh1]
    exact hk
set_option maxHeartbeats 4000000 in
set_option maxRecDepth 100000 in
theorem k_D_append {l : Launch} {G : jl_G} {d n : Nat} {h : Nat → va_E} {Kr : Option Value → Nat → (Nat → va_E) → Prop} {Kx : String → Nat → (Nat → va_E) → Prop} (hl9 : l.stackTraces = false) (hdd : 0 ≤ d) {i : Nat} {m p : Int} {hs cs xs sc : Nat → Int} {b k : Int} (hD : jD h i m p hs cs xs sc) (hb : 0 ≤ b ∧ b < 16) (hcs : 0 ≤ cs (b).toNat ∧ cs (b).toNat < 3) (hk : Kr (some (.int (zI (cs (b).toNat + 1)))) n (va_up (va_up h (i + 1) (jI 48 (fun j => zI (va_up hs (b * 3 + cs (b).toNat).toNat (k) j)))) (i + 2) (jI 16 (fun j => zI (va_up cs (b).toNat (cs (b).toNat + 1) j))))) : jl_Call l G m_Dr_append d [.ref (i), .int (zI (b)), .int (zI (k))] n h 0 0 Kr Kx := by
  refine jl_enter hl9 (by decide) rfl (by simp [Value.category]) (Nat.le_of_ble_eq_true rfl) ?_
  show jl_AW l G (jl_F G Kr Kx) m_Dr_append d 0 [some (.ref (i)), some (.int (zI (b))), some (.int (zI (k)))] [] n h 0 0
  obtain ⟨hd0, hd1, hd2, hd3, hd4⟩ := hD
  refine jl_aload_n d_Dr_append_0 rfl rfl ?_
  refine jg_2 (q := 0) d_Dr_append_1 hd0 rfl (by decide) fw_Dr_9 ?_
  refine jl_iload_n d_Dr_append_4 rfl rfl ?_
  refine jl_iconst (v := zI (3)) d_Dr_append_5 (by decide) ?_
  refine jz_imul (v := b * 3) d_Dr_append_6 (by omega) ?_
  refine jl_aload_n d_Dr_append_7 rfl rfl ?_
  refine jg_2 (q := 1) d_Dr_append_8 hd0 rfl (by decide) fw_Dr_15 ?_
  refine jl_iload_n d_Dr_append_11 rfl rfl ?_
  refine jz_iald d_Dr_append_12 hd2 (by omega) (by omega) (by omega) ?_
  refine jz_iadd (v := b * 3 + cs (b).toNat) d_Dr_append_13 (by omega) ?_
  refine jl_iload_n d_Dr_append_14 rfl rfl ?_
  refine jz_iasth d_Dr_append_15 hd1 (by omega) (by omega) (by omega) (fun h1 eh1 => ?_)
  have jf2 : h1 (i + 1) = jI 48 (fun j => zI ((va_up hs (b * 3 + cs (b).toNat).toNat (k)) j)) := by rw [eh1, va_up_self]
  refine jl_aload_n d_Dr_append_16 rfl rfl ?_
  have jf3 : h1 (i) = jO 2 [.ref (i + 1), .ref (i + 2), .ref (i + 3), .ref (i + 4), .int (zI (m)), .int (zI (p))] := by rw [eh1, va_up_ne _ _ (by omega)]; exact hd0
  refine jg_2 (q := 1) d_Dr_append_17 jf3 rfl (by decide) fw_Dr_15 ?_
  refine jl_iload_n d_Dr_append_20 rfl rfl ?_
  refine jl_dup2 d_Dr_append_21 rfl rfl ?_
  have jf4 : h1 (i + 2) = jI 16 (fun j => zI (cs j)) := by rw [eh1, va_up_ne _ _ (by omega)]; exact hd2
  refine jz_iald d_Dr_append_22 jf4 (by omega) (by omega) (by omega) ?_
  refine jl_iconst (v := zI (1)) d_Dr_append_23 (by decide) ?_
  refine jz_iadd (v := cs (b).toNat + 1) d_Dr_append_24 (by omega) ?_
  refine jz_iasth d_Dr_append_25 jf4 (by omega) (by omega) (by omega) (fun h5 eh5 => ?_)
  have jf6 : h5 (i + 2) = jI 16 (fun j => zI ((va_up cs (b).toNat (cs (b).toNat + 1)) j)) := by rw [eh5, va_up_self]
  refine jl_aload_n d_Dr_append_26 rfl rfl ?_
  have jf7 : h5 (i) = jO 2 [.ref (i + 1), .ref (i + 2), .ref (i + 3), .ref (i + 4), .int (zI (m)), .int (zI (p))] := by rw [eh5, va_up_ne _ _ (by omega)]; exact jf3
  refine jg_2 (q := 1) d_Dr_append_27 jf7 rfl (by decide) fw_Dr_15 ?_
  refine jl_iload_n d_Dr_append_30 rfl rfl ?_
  refine jz_iald d_Dr_append_31 jf6 (by omega) (by omega) (by omega) ?_
  refine jl_iret d_Dr_append_32 rfl ?_
  rw [va_up_self, eh5, eh1]
  exact hk
set_option maxHeartbeats 4000000 in
set_option maxRecDepth 100000 in
theorem k_D_siteThrowing {l : Launch} {G : jl_G} {d n : Nat} {h : Nat → va_E} {Kr : Option Value → Nat → (Nat → va_E) → Prop} {Kx : String → Nat → (Nat → va_E) → Prop} (hl9 : l.stackTraces = false) (hdd : 1 ≤ d) {i : Nat} {m p : Int} {hs cs xs sc : Nat → Int} {b k : Int} (hD : jD h i m p hs cs xs sc) (hm : 0 ≤ m ∧ m ≤ 2) (hp : 1 ≤ p ∧ p ≤ 16) (hb : -2147483648 < b ∧ b < 2147483648) (hk9 : zR k) (hk : Kr (some (.int (zI (sp_thr m p b k)))) n h) : jl_Call l G m_Dr_siteThrowing d [.ref (i), .int (zI (b)), .int (zI (k))] n h 0 0 Kr Kx := by
  refine jl_enter hl9 (by decide) rfl (by simp [Value.category]) (Nat.le_of_ble_eq_true rfl) ?_
  show jl_AW l G (jl_F G Kr Kx) m_Dr_siteThrowing d 0 [some (.ref (i)), some (.int (zI (b))), some (.int (zI (k)))] [] n h 0 0
  obtain ⟨hd0, hd1, hd2, hd3, hd4⟩ := hD
  refine jl_aload_n d_Dr_siteThrowing_0 rfl rfl ?_
  refine jg_2 (q := 4) d_Dr_siteThrowing_1 hd0 rfl (by decide) fw_Dr_24 ?_
  refine jl_iconst (v := zI (2)) d_Dr_siteThrowing_4 (by decide) ?_
  refine jz_icmp_ne (tgt := 30) d_Dr_siteThrowing_5 (by decide) ⟨by omega, by omega⟩ ⟨by omega, by omega⟩ (fun hc => ?_) (fun hc => ?_)
  · refine jl_iload_n d_Dr_siteThrowing_30 rfl rfl ?_
    refine jl_iload_n d_Dr_siteThrowing_31 rfl rfl ?_
    refine jl_iconst (v := zI (2)) d_Dr_siteThrowing_32 (by decide) ?_
    refine jl_invSN0 (M' := m_St_wrap) (d' := d - 1) (ck' := 0) (sk' := 0) (na := 2) (as := [.int (zI (b)), .int (zI (2))]) (st := [.int (zI (k))]) d_Dr_siteThrowing_33 rfl mw_Dr_43 ww_St_wrap nw_St cw_St_wrap rfl rfl (by decide +kernel) (by omega) (Nat.le_of_ble_eq_true rfl) (Nat.le_of_ble_eq_true rfl) ?_
    refine k_wrap hl9 (by omega) hb ⟨by decide, by decide⟩ ?_
    show jl_AW _ _ _ _ _ 36 [some (.ref (i)), some (.int (zI (b))), some (.int (zI (k)))] [.int (zI (b % 2)), .int (zI (k))] n h _ _
    refine jz_icmp_ne (tgt := 50) d_Dr_siteThrowing_36 (by decide) ⟨by omega, by omega⟩ ⟨by omega, by omega⟩ (fun hc2 => ?_) (fun hc2 => ?_)
    · refine jl_iconst (v := zI (-1)) d_Dr_siteThrowing_50 (by decide) ?_
      exact jl_iret d_Dr_siteThrowing_51 rfl (jk_eq hk (by unfold sp_thr; rw [if_neg hc, if_neg hc2]))
    · refine jl_iload_n d_Dr_siteThrowing_39 rfl rfl ?_
      refine jl_aload_n d_Dr_siteThrowing_40 rfl rfl ?_
      refine jg_2 (q := 5) d_Dr_siteThrowing_41 hd0 rfl (by decide) fw_Dr_28 ?_
      refine jl_invSN0 (M' := m_St_wrap) (d' := d - 1) (ck' := 0) (sk' := 0) (na := 2) (as := [.int (zI (b)), .int (zI (p))]) (st := []) d_Dr_siteThrowing_44 rfl mw_Dr_43 ww_St_wrap nw_St cw_St_wrap rfl rfl (by decide +kernel) (by omega) (Nat.le_of_ble_eq_true rfl) (Nat.le_of_ble_eq_true rfl) ?_
      refine k_wrap hl9 (by omega) hb ⟨hp.1, by omega⟩ ?_
      show jl_AW _ _ _ _ _ 47 [some (.ref (i)), some (.int (zI (b))), some (.int (zI (k)))] [.int (zI (b % p))] n h _ _
      refine jl_goto (tgt := 51) d_Dr_siteThrowing_47 (by decide) ?_
      exact jl_iret d_Dr_siteThrowing_51 rfl (jk_eq hk (by unfold sp_thr; rw [if_neg hc, if_pos hc2]))
  · refine jl_iload_n d_Dr_siteThrowing_8 rfl rfl ?_
    refine jl_invSN0 (M' := m_St_isOdd) (d' := d - 1) (ck' := 0) (sk' := 0) (na := 1) (as := [.int (zI (b))]) (st := []) d_Dr_siteThrowing_9 rfl mw_Dr_47 ww_St_isOdd nw_St cw_St_isOdd rfl rfl (by decide +kernel) (by omega) (Nat.le_of_ble_eq_true rfl) (Nat.le_of_ble_eq_true rfl) ?_
    refine k_isOdd hl9 (by omega) ⟨by omega, by omega⟩ ?_
    show jl_AW _ _ _ _ _ 12 [some (.ref (i)), some (.int (zI (b))), some (.int (zI (k)))] [.int (zI (b % 2))] n h _ _
    refine jz_if_eq (tgt := 19) d_Dr_siteThrowing_12 (by decide) ⟨by omega, by omega⟩ (fun hc2 => ?_) (fun hc2 => ?_)
    · refine jl_iload_n d_Dr_siteThrowing_19 rfl rfl ?_
      refine jl_aload_n d_Dr_siteThrowing_20 rfl rfl ?_
      refine jg_2 (q := 5) d_Dr_siteThrowing_21 hd0 rfl (by decide) fw_Dr_28 ?_
      refine jl_invSN0 (M' := m_St_wrap) (d' := d - 1) (ck' := 0) (sk' := 0) (na := 2) (as := [.int (zI (b)), .int (zI (p))]) (st := []) d_Dr_siteThrowing_24 rfl mw_Dr_43 ww_St_wrap nw_St cw_St_wrap rfl rfl (by decide +kernel) (by omega) (Nat.le_of_ble_eq_true rfl) (Nat.le_of_ble_eq_true rfl) ?_
      refine k_wrap hl9 (by omega) hb ⟨hp.1, by omega⟩ ?_
      show jl_AW _ _ _ _ _ 27 [some (.ref (i)), some (.int (zI (b))), some (.int (zI (k)))] [.int (zI (b % p))] n h _ _
      refine jl_iload_n d_Dr_siteThrowing_27 rfl rfl ?_
      refine jz_iadd (v := (b % p) + (k)) d_Dr_siteThrowing_28 rfl ?_
      exact jl_iret d_Dr_siteThrowing_29 rfl (jk_eq hk (by unfold sp_thr; rw [if_pos hc, if_neg (by omega)]))
    · refine jl_iconst (v := zI (-1)) d_Dr_siteThrowing_15 (by decide) ?_
      refine jl_goto (tgt := 29) d_Dr_siteThrowing_16 (by decide) ?_
      exact jl_iret d_Dr_siteThrowing_29 rfl (jk_eq hk (by unfold sp_thr; rw [if_pos hc, if_pos (by omega)]))
set_option maxHeartbeats 4000000 in
set_option maxRecDepth 100000 in
theorem k_D_landingHand {l : Launch} {G : jl_G} {d n : Nat} {h : Nat → va_E} {Kr : Option Value → Nat → (Nat → va_E) → Prop} {Kx : String → Nat → (Nat → va_E) → Prop} (hl9 : l.stackTraces = false) (hdd : 1 ≤ d) {i : Nat} {m p : Int} {hs cs xs sc : Nat → Int} {b k g : Int} (hD : jD h i m p hs cs xs sc) (hm : 0 ≤ m ∧ m ≤ 2) (hb : 0 ≤ b ∧ b < 16) (hxs : zR (xs (b).toNat)) (hg : -2147483648 < g ∧ g < 2147483648) (hk : Kr (some (.int (zI (sp_land m xs b k g)))) n h) : jl_Call l G m_Dr_landingHand d [.ref (i), .int (zI (b)), .int (zI (k)), .int (zI (g))] n h 0 0 Kr Kx := by
  refine jl_enter hl9 (by decide) rfl (by simp [Value.category]) (Nat.le_of_ble_eq_true rfl) ?_
  show jl_AW l G (jl_F G Kr Kx) m_Dr_landingHand d 0 [some (.ref (i)), some (.int (zI (b))), some (.int (zI (k))), some (.int (zI (g)))] [] n h 0 0
  obtain ⟨hd0, hd1, hd2, hd3, hd4⟩ := hD
  refine jl_aload_n d_Dr_landingHand_0 rfl rfl ?_
  refine jg_2 (q := 4) d_Dr_landingHand_1 hd0 rfl (by decide) fw_Dr_24 ?_
  refine jl_iconst (v := zI (2)) d_Dr_landingHand_4 (by decide) ?_
  refine jz_icmp_eq (tgt := 14) d_Dr_landingHand_5 (by decide) ⟨by omega, by omega⟩ ⟨by omega, by omega⟩ (fun hc => ?_) (fun hc => ?_)
  · refine jl_aload_n d_Dr_landingHand_14 rfl rfl ?_
    refine jg_2 (q := 2) d_Dr_landingHand_15 hd0 rfl (by decide) fw_Dr_18 ?_
    refine jl_iload_n d_Dr_landingHand_18 rfl rfl ?_
    refine jz_iald d_Dr_landingHand_19 hd3 (by omega) (by omega) (by omega) ?_
    refine jz_if_eq (tgt := 29) d_Dr_landingHand_20 (by decide) ⟨by omega, by omega⟩ (fun hc2 => ?_) (fun hc2 => ?_)
    · refine jl_iload_n d_Dr_landingHand_29 rfl rfl ?_
      exact jl_iret d_Dr_landingHand_30 rfl (jk_eq hk (by unfold sp_land; rw [if_pos hc, if_pos hc2]))
    · refine jl_iconst (v := zI (1)) d_Dr_landingHand_23 (by decide) ?_
      refine jl_iload_n d_Dr_landingHand_24 rfl rfl ?_
      refine jz_isub (v := 1 - k) d_Dr_landingHand_25 (by omega) ?_
      refine jl_goto (tgt := 30) d_Dr_landingHand_26 (by decide) ?_
      exact jl_iret d_Dr_landingHand_30 rfl (jk_eq hk (by unfold sp_land; rw [if_pos hc, if_neg hc2]))
  · refine jl_iload_n d_Dr_landingHand_8 rfl rfl ?_
    refine jl_iconst (v := zI (2)) d_Dr_landingHand_9 (by decide) ?_
    refine jl_invSN0 (M' := m_St_wrap) (d' := d - 1) (ck' := 0) (sk' := 0) (na := 2) (as := [.int (zI (g)), .int (zI (2))]) (st := []) d_Dr_landingHand_10 rfl mw_Dr_43 ww_St_wrap nw_St cw_St_wrap rfl rfl (by decide +kernel) (by omega) (Nat.le_of_ble_eq_true rfl) (Nat.le_of_ble_eq_true rfl) ?_
    refine k_wrap hl9 (by omega) hg ⟨by decide, by decide⟩ ?_
    show jl_AW _ _ _ _ _ 13 [some (.ref (i)), some (.int (zI (b))), some (.int (zI (k))), some (.int (zI (g)))] [.int (zI (g % 2))] n h _ _
    exact jl_iret d_Dr_landingHand_13 rfl (jk_eq hk (by unfold sp_land; rw [if_neg hc]))
set_option maxHeartbeats 4000000 in
set_option maxRecDepth 100000 in
theorem k_D_landingSite {l : Launch} {G : jl_G} {d n : Nat} {h : Nat → va_E} {Kr : Option Value → Nat → (Nat → va_E) → Prop} {Kx : String → Nat → (Nat → va_E) → Prop} (hl9 : l.stackTraces = false) (hdd : 2 ≤ d) {i : Nat} {m p : Int} {hs cs xs sc : Nat → Int} {b k : Int} (hD : jD h i m p hs cs xs sc) (hm : 0 ≤ m ∧ m ≤ 2) (hp : 1 ≤ p ∧ p ≤ 16) (hb : 0 ≤ b ∧ b < 16) (hk9 : 0 ≤ k ∧ k ≤ 9) (hxs : zR (xs (b).toNat)) (hk : Kr (some (.int (zI (sp_tgt m p xs b k)))) n h) : jl_Call l G m_Dr_landingSite d [.ref (i), .int (zI (b)), .int (zI (k))] n h 0 0 Kr Kx := by
  refine jl_enter hl9 (by decide) rfl (by simp [Value.category]) (Nat.le_of_ble_eq_true rfl) ?_
  show jl_AW l G (jl_F G Kr Kx) m_Dr_landingSite d 0 [some (.ref (i)), some (.int (zI (b))), some (.int (zI (k))), none, none] [] n h 0 0
  obtain ⟨hd0, hd1, hd2, hd3, hd4⟩ := hD
  refine jl_aload_n d_Dr_landingSite_0 rfl rfl ?_
  refine jg_2 (q := 4) d_Dr_landingSite_1 hd0 rfl (by decide) fw_Dr_24 ?_
  refine jl_iconst (v := zI (2)) d_Dr_landingSite_4 (by decide) ?_
  refine jz_icmp_eq (tgt := 19) d_Dr_landingSite_5 (by decide) ⟨by omega, by omega⟩ ⟨by omega, by omega⟩ (fun hc => ?_) (fun hc => ?_)
  · refine jl_iload_n d_Dr_landingSite_19 rfl rfl ?_
    refine jl_iconst (v := zI (2)) d_Dr_landingSite_20 (by decide) ?_
    refine jl_invSN0 (M' := m_St_wrap) (d' := d - 1) (ck' := 0) (sk' := 0) (na := 2) (as := [.int (zI (b)), .int (zI (2))]) (st := []) d_Dr_landingSite_21 rfl mw_Dr_43 ww_St_wrap nw_St cw_St_wrap rfl rfl (by decide +kernel) (by omega) (Nat.le_of_ble_eq_true rfl) (Nat.le_of_ble_eq_true rfl) ?_
    refine k_wrap hl9 (by omega) ⟨by omega, by omega⟩ ⟨by decide, by decide⟩ ?_
    show jl_AW _ _ _ _ _ 24 [some (.ref (i)), some (.int (zI (b))), some (.int (zI (k))), none, none] [.int (zI (b % 2))] n h _ _
    refine jl_istore_n (L' := [some (.ref (i)), some (.int (zI (b))), some (.int (zI (k))), some (.int (zI (b % 2))), none]) d_Dr_landingSite_24 rfl (by decide) rfl ?_
    refine jl_iload_n d_Dr_landingSite_25 rfl rfl ?_
    refine jl_iload_n d_Dr_landingSite_26 rfl rfl ?_
    refine jz_isub (v := b - b % 2) d_Dr_landingSite_27 (by omega) ?_
    refine jl_iload_n d_Dr_landingSite_28 rfl rfl ?_
    refine jz_iadd (v := b - b % 2 + k) d_Dr_landingSite_29 (by omega) ?_
    refine jl_istore (L' := [some (.ref (i)), some (.int (zI (b))), some (.int (zI (k))), some (.int (zI (b % 2))), some (.int (zI (b - b % 2 + k)))]) d_Dr_landingSite_30 (by decide) rfl ?_
    refine jl_iload d_Dr_landingSite_32 rfl ?_
    refine jl_aload_n d_Dr_landingSite_34 rfl rfl ?_
    refine jg_2 (q := 5) d_Dr_landingSite_35 hd0 rfl (by decide) fw_Dr_28 ?_
    refine jl_invSN0 (M' := m_St_wrap) (d' := d - 1) (ck' := 0) (sk' := 0) (na := 2) (as := [.int (zI (b - b % 2 + k)), .int (zI (p))]) (st := []) d_Dr_landingSite_38 rfl mw_Dr_43 ww_St_wrap nw_St cw_St_wrap rfl rfl (by decide +kernel) (by omega) (Nat.le_of_ble_eq_true rfl) (Nat.le_of_ble_eq_true rfl) ?_
    refine k_wrap hl9 (by omega) ⟨by omega, by omega⟩ ⟨hp.1, by omega⟩ ?_
    show jl_AW _ _ _ _ _ 41 [some (.ref (i)), some (.int (zI (b))), some (.int (zI (k))), some (.int (zI (b % 2))), some (.int (zI (b - b % 2 + k)))] [.int (zI ((b - b % 2 + k) % p))] n h _ _
    refine jl_aload_n d_Dr_landingSite_41 rfl rfl ?_
    refine jl_iload_n d_Dr_landingSite_42 rfl rfl ?_
    refine jl_iload_n d_Dr_landingSite_43 rfl rfl ?_
    refine jl_iload d_Dr_landingSite_44 rfl ?_
    refine jl_invV (M' := m_Dr_landingHand) (d' := d - 1) (ck' := 0) (sk' := 0) (na := 3) (as := [.int (zI (b)), .int (zI (b % 2)), .int (zI (b - b % 2 + k))]) (st := [.int (zI ((b - b % 2 + k) % p))]) d_Dr_landingSite_46 rfl hd0 rfl mw_Dr_51 ww_Dr_landingHand sw_Dr_landingHand nw_Dr cw_Dr_landingHand rfl rfl rfl (by decide +kernel) (by omega) (Nat.le_of_ble_eq_true rfl) (Nat.le_of_ble_eq_true rfl) ?_
    refine k_D_landingHand hl9 (by omega) ⟨hd0, hd1, hd2, hd3, hd4⟩ hm hb hxs ⟨by omega, by omega⟩ ?_
    show jl_AW _ _ _ _ _ 49 [some (.ref (i)), some (.int (zI (b))), some (.int (zI (k))), some (.int (zI (b % 2))), some (.int (zI (b - b % 2 + k)))] [.int (zI (sp_land m xs b (b % 2) (b - b % 2 + k))), .int (zI ((b - b % 2 + k) % p))] n h _ _
    refine jz_iadd (v := ((b - b % 2 + k) % p) + (sp_land m xs b (b % 2) (b - b % 2 + k))) d_Dr_landingSite_49 rfl ?_
    exact jl_iret d_Dr_landingSite_50 rfl (jk_eq hk (by unfold sp_tgt; rw [if_pos hc]))
  · refine jl_iload_n d_Dr_landingSite_8 rfl rfl ?_
    refine jl_iload_n d_Dr_landingSite_9 rfl rfl ?_
    refine jz_iadd (v := b + k) d_Dr_landingSite_10 (by omega) ?_
    refine jl_aload_n d_Dr_landingSite_11 rfl rfl ?_
    refine jg_2 (q := 5) d_Dr_landingSite_12 hd0 rfl (by decide) fw_Dr_28 ?_
    refine jl_invSN0 (M' := m_St_wrap) (d' := d - 1) (ck' := 0) (sk' := 0) (na := 2) (as := [.int (zI (b + k)), .int (zI (p))]) (st := []) d_Dr_landingSite_15 rfl mw_Dr_43 ww_St_wrap nw_St cw_St_wrap rfl rfl (by decide +kernel) (by omega) (Nat.le_of_ble_eq_true rfl) (Nat.le_of_ble_eq_true rfl) ?_
    refine k_wrap hl9 (by omega) ⟨by omega, by omega⟩ ⟨hp.1, by omega⟩ ?_
    show jl_AW _ _ _ _ _ 18 [some (.ref (i)), some (.int (zI (b))), some (.int (zI (k))), none, none] [.int (zI ((b + k) % p))] n h _ _
    exact jl_iret d_Dr_landingSite_18 rfl (jk_eq hk (by unfold sp_tgt; rw [if_neg hc]))
