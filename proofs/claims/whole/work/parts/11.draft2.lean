theorem aw_Dr_37 : Cond.methodLink "SiteswapStudio$Draft" 37 arraycopyName ∈ jl_T := jl_in (by decide +kernel) (by decide +kernel)
theorem aw_nat : Cond.native arraycopyName ∈ jl_T := jl_in (by decide +kernel) (by decide +kernel)
theorem aw_sta : Cond.static arraycopyName ∈ jl_T := jl_in (by decide +kernel) (by decide +kernel)
set_option maxHeartbeats 4000000 in
set_option maxRecDepth 100000 in
/-- Arrays.fill -/
theorem k_fill {l : Launch} {G : jl_G} {d n : Nat} {h : Nat → va_E} {Kr : Option Value → Nat → (Nat → va_E) → Prop} {Kx : String → Nat → (Nat → va_E) → Prop} (hl9 : l.stackTraces = false) (hdd : 0 ≤ d) {x N : Nat} {g : Nat → Int} {v : Int} (he : h x = jI N (fun j => zI (g j))) (hN : N < 100000) (hk : Kr none n (va_up h x (jI N (fun j => zI (jfill N v g j))))) : jl_Call l G m_Ar_fill d [.ref (x), .int (zI (v))] n h 0 0 Kr Kx := by
  refine jl_enter hl9 (by decide) rfl (by simp [Value.category]) (Nat.le_of_ble_eq_true rfl) ?_
  show jl_AW l G (jl_F G Kr Kx) m_Ar_fill d 0 [some (.ref (x)), some (.int (zI (v))), none, none] [] n h 0 0
  have lp : ∀ (k : Nat) (a : Int) (h2 : Nat → va_E), a + k = N → 0 ≤ a → h2 = va_up h x (jI N (fun j => zI (jfill a.toNat v g j))) → jl_AW l G (jl_F G Kr Kx) m_Ar_fill d 5 [some (.ref (x)), some (.int (zI (v))), some (.int (zI (a))), some (.int (zI ((N : Int))))] [] n h2 0 0 := by
    intro k
    induction k using Nat.strongRecOn with
    | ind k ih =>
      intro a h2 hk0 ha eh2
      have f0 : h2 x = jI N (fun j => zI (jfill a.toNat v g j)) := by rw [eh2, va_up_self]
      refine jl_iload_n d_Ar_fill_5 rfl rfl ?_
      refine jl_iload_n d_Ar_fill_6 rfl rfl ?_
      refine jz_icmp_ge (tgt := 20) d_Ar_fill_7 (by decide) ⟨by omega, by omega⟩ ⟨by omega, by omega⟩ (fun hc => ?_) (fun hc => ?_)
      · have ea : a.toNat = N := by omega
        rw [ea] at eh2
        exact jl_vret d_Ar_fill_20 rfl (by rw [eh2]; exact hk)
      · refine jl_aload_n d_Ar_fill_10 rfl rfl ?_
        refine jl_iload_n d_Ar_fill_11 rfl rfl ?_
        refine jl_iload_n d_Ar_fill_12 rfl rfl ?_
        refine jz_iasth d_Ar_fill_13 f0 (by omega) (by omega) (by omega) (fun h1 eh1 => ?_)
        have jf2 : h1 (x) = jI N (fun j => zI ((va_up ((jfill a.toNat v g)) (a).toNat (v)) j)) := by rw [eh1, va_up_self]
        refine jz_iinc (v := a + 1) (L' := [some (.ref (x)), some (.int (zI (v))), some (.int (zI (a + 1))), some (.int (zI ((N : Int))))]) d_Ar_fill_14 rfl (by omega) (by decide) rfl ?_
        refine jl_goto (tgt := 5) d_Ar_fill_17 (by decide) ?_
        refine ih (k - 1) (by omega) (a + 1) h1 (by omega) (by omega) ?_
        have en : (a + 1).toNat = a.toNat + 1 := by omega
        rw [eh1, eh2, bx_uu, en, jfill_s]
  refine jl_iconst (v := zI (0)) d_Ar_fill_0 (by decide) ?_
  refine jl_istore_n (L' := [some (.ref (x)), some (.int (zI (v))), some (.int (zI (0))), none]) d_Ar_fill_1 rfl (by decide) rfl ?_
  refine jl_aload_n d_Ar_fill_2 rfl rfl ?_
  refine jl_alen (v := zI (N : Int)) d_Ar_fill_3 he rfl (zI_nat N) ?_
  refine jl_istore_n (L' := [some (.ref (x)), some (.int (zI (v))), some (.int (zI (0))), some (.int (zI ((N : Int))))]) d_Ar_fill_4 rfl (by decide) rfl ?_
  exact lp N 0 h (by omega) (by omega) (by rw [show (0 : Int).toNat = 0 from rfl, jfill_0]; exact (va_up_id he).symm)
set_option maxHeartbeats 4000000 in
set_option maxRecDepth 100000 in
/-- Draft.clear -/
theorem k_D_clear {l : Launch} {G : jl_G} {d n : Nat} {h : Nat → va_E} {Kr : Option Value → Nat → (Nat → va_E) → Prop} {Kx : String → Nat → (Nat → va_E) → Prop} (hl9 : l.stackTraces = false) (hdd : 1 ≤ d) {i : Nat} {m p : Int} {hs cs xs sc : Nat → Int} {m2 p2 : Int} (hD : jD h i m p hs cs xs sc) (hk : ∀ h', jD h' i m2 p2 (jfill 48 0 hs) (jfill 16 1 cs) (jfill 16 0 xs) sc → jfr h h' i (i + 5) → Kr none n h') : jl_Call l G m_Dr_clear d [.ref (i), .int (zI (m2)), .int (zI (p2))] n h 0 0 Kr Kx := by
  refine jl_enter hl9 (by decide) rfl (by simp [Value.category]) (Nat.le_of_ble_eq_true rfl) ?_
  show jl_AW l G (jl_F G Kr Kx) m_Dr_clear d 0 [some (.ref (i)), some (.int (zI (m2))), some (.int (zI (p2)))] [] n h 0 0
  obtain ⟨hd0, hd1, hd2, hd3, hd4⟩ := hD
  refine jl_aload_n d_Dr_clear_0 rfl rfl ?_
  refine jl_iload_n d_Dr_clear_1 rfl rfl ?_
  refine jp_2 (q := 4) (ty := .int) d_Dr_clear_2 hd0 (by simp) (by decide) fw_Dr_24 rfl (by decide +kernel) (fun _ _ => rfl) (fun _ _ => rfl) (fun h1 eh1 => ?_)
  have eh1 : h1 = va_up h (i) (jO 2 [.ref (i + 1), .ref (i + 2), .ref (i + 3), .ref (i + 4), .int (zI (m2)), .int (zI (p))]) := eh1
  have jf2 : h1 (i) = jO 2 [.ref (i + 1), .ref (i + 2), .ref (i + 3), .ref (i + 4), .int (zI (m2)), .int (zI (p))] := by rw [eh1, va_up_self]
  refine jl_aload_n d_Dr_clear_5 rfl rfl ?_
  refine jl_iload_n d_Dr_clear_6 rfl rfl ?_
  refine jp_2 (q := 5) (ty := .int) d_Dr_clear_7 jf2 (by simp) (by decide) fw_Dr_28 rfl (by decide +kernel) (fun _ _ => rfl) (fun _ _ => rfl) (fun h3 eh3 => ?_)
  have eh3 : h3 = va_up h1 (i) (jO 2 [.ref (i + 1), .ref (i + 2), .ref (i + 3), .ref (i + 4), .int (zI (m2)), .int (zI (p2))]) := eh3
  have jf4 : h3 (i) = jO 2 [.ref (i + 1), .ref (i + 2), .ref (i + 3), .ref (i + 4), .int (zI (m2)), .int (zI (p2))] := by rw [eh3, va_up_self]
  refine jl_aload_n d_Dr_clear_10 rfl rfl ?_
  refine jg_2 (q := 0) d_Dr_clear_11 jf4 rfl (by decide) fw_Dr_9 ?_
  refine jl_iconst (v := zI (0)) d_Dr_clear_14 (by decide) ?_
  have jf5 : h3 (i + 1) = jI 48 (fun j => zI (hs j)) := by rw [eh3, va_up_ne _ _ (by omega), eh1, va_up_ne _ _ (by omega)]; exact hd1
  refine jl_invS (M' := m_Ar_fill) (d' := d - 1) (ck' := 0) (sk' := 0) (na := 2) (as := [.ref (i + 1), .int (zI (0))]) (st := []) d_Dr_clear_15 rfl mw_Dr_31 ww_Ar_fill nw_Ar cw_Ar_fill rfl rfl rfl (by decide +kernel) (by omega) (Nat.le_of_ble_eq_true rfl) (Nat.le_of_ble_eq_true rfl) ?_
  refine k_fill hl9 (by omega) jf5 (by decide) ?_
  obtain ⟨h6, eh6⟩ : ∃ z, z = va_up h3 (i + 1) (jI 48 (fun j => zI ((jfill 48 (0) hs) j))) := ⟨_, rfl⟩
  show jl_AW _ _ _ _ _ 18 [some (.ref (i)), some (.int (zI (m2))), some (.int (zI (p2)))] [] n (va_up h3 (i + 1) (jI 48 (fun j => zI ((jfill 48 (0) hs) j)))) _ _
  rw [← eh6]
  have jf7 : h6 (i + 1) = jI 48 (fun j => zI ((jfill 48 (0) hs) j)) := by rw [eh6, va_up_self]
  refine jl_aload_n d_Dr_clear_18 rfl rfl ?_
  have jf8 : h6 (i) = jO 2 [.ref (i + 1), .ref (i + 2), .ref (i + 3), .ref (i + 4), .int (zI (m2)), .int (zI (p2))] := by rw [eh6, va_up_ne _ _ (by omega)]; exact jf4
  refine jg_2 (q := 1) d_Dr_clear_19 jf8 rfl (by decide) fw_Dr_15 ?_
  refine jl_iconst (v := zI (1)) d_Dr_clear_22 (by decide) ?_
  have jf9 : h6 (i + 2) = jI 16 (fun j => zI (cs j)) := by rw [eh6, va_up_ne _ _ (by omega), eh3, va_up_ne _ _ (by omega), eh1, va_up_ne _ _ (by omega)]; exact hd2
  refine jl_invS (M' := m_Ar_fill) (d' := d - 1) (ck' := 0) (sk' := 0) (na := 2) (as := [.ref (i + 2), .int (zI (1))]) (st := []) d_Dr_clear_23 rfl mw_Dr_31 ww_Ar_fill nw_Ar cw_Ar_fill rfl rfl rfl (by decide +kernel) (by omega) (Nat.le_of_ble_eq_true rfl) (Nat.le_of_ble_eq_true rfl) ?_
  refine k_fill hl9 (by omega) jf9 (by decide) ?_
  obtain ⟨h10, eh10⟩ : ∃ z, z = va_up h6 (i + 2) (jI 16 (fun j => zI ((jfill 16 (1) cs) j))) := ⟨_, rfl⟩
  show jl_AW _ _ _ _ _ 26 [some (.ref (i)), some (.int (zI (m2))), some (.int (zI (p2)))] [] n (va_up h6 (i + 2) (jI 16 (fun j => zI ((jfill 16 (1) cs) j)))) _ _
  rw [← eh10]
  have jf11 : h10 (i + 2) = jI 16 (fun j => zI ((jfill 16 (1) cs) j)) := by rw [eh10, va_up_self]
  refine jl_aload_n d_Dr_clear_26 rfl rfl ?_
  have jf12 : h10 (i) = jO 2 [.ref (i + 1), .ref (i + 2), .ref (i + 3), .ref (i + 4), .int (zI (m2)), .int (zI (p2))] := by rw [eh10, va_up_ne _ _ (by omega)]; exact jf8
  refine jg_2 (q := 2) d_Dr_clear_27 jf12 rfl (by decide) fw_Dr_18 ?_
  refine jl_iconst (v := zI (0)) d_Dr_clear_30 (by decide) ?_
  have jf13 : h10 (i + 3) = jI 16 (fun j => zI (xs j)) := by rw [eh10, va_up_ne _ _ (by omega), eh6, va_up_ne _ _ (by omega), eh3, va_up_ne _ _ (by omega), eh1, va_up_ne _ _ (by omega)]; exact hd3
  refine jl_invS (M' := m_Ar_fill) (d' := d - 1) (ck' := 0) (sk' := 0) (na := 2) (as := [.ref (i + 3), .int (zI (0))]) (st := []) d_Dr_clear_31 rfl mw_Dr_31 ww_Ar_fill nw_Ar cw_Ar_fill rfl rfl rfl (by decide +kernel) (by omega) (Nat.le_of_ble_eq_true rfl) (Nat.le_of_ble_eq_true rfl) ?_
  refine k_fill hl9 (by omega) jf13 (by decide) ?_
  obtain ⟨h14, eh14⟩ : ∃ z, z = va_up h10 (i + 3) (jI 16 (fun j => zI ((jfill 16 (0) xs) j))) := ⟨_, rfl⟩
  show jl_AW _ _ _ _ _ 34 [some (.ref (i)), some (.int (zI (m2))), some (.int (zI (p2)))] [] n (va_up h10 (i + 3) (jI 16 (fun j => zI ((jfill 16 (0) xs) j)))) _ _
  rw [← eh14]
  have jf15 : h14 (i + 3) = jI 16 (fun j => zI ((jfill 16 (0) xs) j)) := by rw [eh14, va_up_self]
  have jf16 : h14 (i) = jO 2 [.ref (i + 1), .ref (i + 2), .ref (i + 3), .ref (i + 4), .int (zI (m2)), .int (zI (p2))] := by rw [eh14, va_up_ne _ _ (by omega)]; exact jf12
  have jf17 : h14 (i + 1) = jI 48 (fun j => zI ((jfill 48 (0) hs) j)) := by rw [eh14, va_up_ne _ _ (by omega), eh10, va_up_ne _ _ (by omega)]; exact jf7
  have jf18 : h14 (i + 2) = jI 16 (fun j => zI ((jfill 16 (1) cs) j)) := by rw [eh14, va_up_ne _ _ (by omega)]; exact jf11
  have jf19 : h14 (i + 4) = jI 16 (fun j => zI (sc j)) := by rw [eh14, va_up_ne _ _ (by omega), eh10, va_up_ne _ _ (by omega), eh6, va_up_ne _ _ (by omega), eh3, va_up_ne _ _ (by omega), eh1, va_up_ne _ _ (by omega)]; exact hd4
  refine jl_vret d_Dr_clear_34 rfl (hk _ ⟨jf16, jf17, jf18, jf15, jf19⟩ ?_)
  intro y hy
  rw [eh14, va_up_ne _ _ (by omega), eh10, va_up_ne _ _ (by omega), eh6, va_up_ne _ _ (by omega), eh3, va_up_ne _ _ (by omega), eh1, va_up_ne _ _ (by omega)]
set_option maxHeartbeats 4000000 in
set_option maxRecDepth 100000 in
/-- Draft.copyFrom -/
theorem k_D_copyFrom {l : Launch} {G : jl_G} {d n : Nat} {h : Nat → va_E} {Kr : Option Value → Nat → (Nat → va_E) → Prop} {Kx : String → Nat → (Nat → va_E) → Prop} (hl9 : l.stackTraces = false) (hdd : 0 ≤ d) {i : Nat} {m p : Int} {hs cs xs sc : Nat → Int} {o : Nat} {m2 p2 : Int} {hs2 cs2 xs2 sc2 : Nat → Int} (hD : jD h i m p hs cs xs sc) (hO : jD h o m2 p2 hs2 cs2 xs2 sc2) (hne : i + 5 ≤ o ∨ o + 5 ≤ i) (hk : ∀ h', jD h' i m2 p2 (jcpy 48 hs2 hs) (jcpy 16 cs2 cs) (jcpy 16 xs2 xs) sc → jfr h h' i (i + 5) → Kr none n h') : jl_Call l G m_Dr_copyFrom d [.ref (i), .ref (o)] n h 0 0 Kr Kx := by
  refine jl_enter hl9 (by decide) rfl (by simp [Value.category]) (Nat.le_of_ble_eq_true rfl) ?_
  show jl_AW l G (jl_F G Kr Kx) m_Dr_copyFrom d 0 [some (.ref (i)), some (.ref (o))] [] n h 0 0
  obtain ⟨hd0, hd1, hd2, hd3, hd4⟩ := hD
  obtain ⟨ho0, ho1, ho2, ho3, ho4⟩ := hO
  refine jl_aload_n d_Dr_copyFrom_0 rfl rfl ?_
  refine jl_aload_n d_Dr_copyFrom_1 rfl rfl ?_
  refine jg_2 (q := 4) d_Dr_copyFrom_2 ho0 rfl (by decide) fw_Dr_24 ?_
  refine jp_2 (q := 4) (ty := .int) d_Dr_copyFrom_5 hd0 (by simp) (by decide) fw_Dr_24 rfl (by decide +kernel) (fun _ _ => rfl) (fun _ _ => rfl) (fun h1 eh1 => ?_)
  have eh1 : h1 = va_up h (i) (jO 2 [.ref (i + 1), .ref (i + 2), .ref (i + 3), .ref (i + 4), .int (zI (m2)), .int (zI (p))]) := eh1
  have jf2 : h1 (i) = jO 2 [.ref (i + 1), .ref (i + 2), .ref (i + 3), .ref (i + 4), .int (zI (m2)), .int (zI (p))] := by rw [eh1, va_up_self]
  refine jl_aload_n d_Dr_copyFrom_8 rfl rfl ?_
  refine jl_aload_n d_Dr_copyFrom_9 rfl rfl ?_
  have jf3 : h1 (o) = jO 2 [.ref (o + 1), .ref (o + 2), .ref (o + 3), .ref (o + 4), .int (zI (m2)), .int (zI (p2))] := by rw [eh1, va_up_ne _ _ (by omega)]; exact ho0
  refine jg_2 (q := 5) d_Dr_copyFrom_10 jf3 rfl (by decide) fw_Dr_28 ?_
  refine jp_2 (q := 5) (ty := .int) d_Dr_copyFrom_13 jf2 (by simp) (by decide) fw_Dr_28 rfl (by decide +kernel) (fun _ _ => rfl) (fun _ _ => rfl) (fun h4 eh4 => ?_)
  have eh4 : h4 = va_up h1 (i) (jO 2 [.ref (i + 1), .ref (i + 2), .ref (i + 3), .ref (i + 4), .int (zI (m2)), .int (zI (p2))]) := eh4
  have jf5 : h4 (i) = jO 2 [.ref (i + 1), .ref (i + 2), .ref (i + 3), .ref (i + 4), .int (zI (m2)), .int (zI (p2))] := by rw [eh4, va_up_self]
  refine jl_aload_n d_Dr_copyFrom_16 rfl rfl ?_
  have jf6 : h4 (o) = jO 2 [.ref (o + 1), .ref (o + 2), .ref (o + 3), .ref (o + 4), .int (zI (m2)), .int (zI (p2))] := by rw [eh4, va_up_ne _ _ (by omega)]; exact jf3
  refine jg_2 (q := 0) d_Dr_copyFrom_17 jf6 rfl (by decide) fw_Dr_9 ?_
  refine jl_iconst (v := zI (0)) d_Dr_copyFrom_20 (by decide) ?_
  refine jl_aload_n d_Dr_copyFrom_21 rfl rfl ?_
  refine jg_2 (q := 0) d_Dr_copyFrom_22 jf5 rfl (by decide) fw_Dr_9 ?_
  refine jl_iconst (v := zI (0)) d_Dr_copyFrom_25 (by decide) ?_
  refine jl_aload_n d_Dr_copyFrom_26 rfl rfl ?_
  refine jg_2 (q := 0) d_Dr_copyFrom_27 jf5 rfl (by decide) fw_Dr_9 ?_
  have jf7 : h4 (i + 1) = jI 48 (fun j => zI (hs j)) := by rw [eh4, va_up_ne _ _ (by omega), eh1, va_up_ne _ _ (by omega)]; exact hd1
  have jf8 : h4 (o + 1) = jI 48 (fun j => zI (hs2 j)) := by rw [eh4, va_up_ne _ _ (by omega), eh1, va_up_ne _ _ (by omega)]; exact ho1
  refine jl_alen (v := zI (48)) d_Dr_copyFrom_30 jf7 rfl (by decide) ?_
  refine jz_acopy0 (N := 48) (x := o + 1) (y := i + 1) (st := []) (by decide) d_Dr_copyFrom_31 jf8 jf7 aw_Dr_37 aw_nat aw_sta nw_Sy (by decide) (fun h9 eh9 => ?_)
  have jf10 : h9 (i + 1) = jI 48 (fun j => zI ((jcpy 48 hs2 hs) j)) := by rw [eh9, va_up_self]
  refine jl_aload_n d_Dr_copyFrom_34 rfl rfl ?_
  have jf11 : h9 (o) = jO 2 [.ref (o + 1), .ref (o + 2), .ref (o + 3), .ref (o + 4), .int (zI (m2)), .int (zI (p2))] := by rw [eh9, va_up_ne _ _ (by omega)]; exact jf6
  refine jg_2 (q := 1) d_Dr_copyFrom_35 jf11 rfl (by decide) fw_Dr_15 ?_
  refine jl_iconst (v := zI (0)) d_Dr_copyFrom_38 (by decide) ?_
  refine jl_aload_n d_Dr_copyFrom_39 rfl rfl ?_
  have jf12 : h9 (i) = jO 2 [.ref (i + 1), .ref (i + 2), .ref (i + 3), .ref (i + 4), .int (zI (m2)), .int (zI (p2))] := by rw [eh9, va_up_ne _ _ (by omega)]; exact jf5
  refine jg_2 (q := 1) d_Dr_copyFrom_40 jf12 rfl (by decide) fw_Dr_15 ?_
  refine jl_iconst (v := zI (0)) d_Dr_copyFrom_43 (by decide) ?_
  refine jl_aload_n d_Dr_copyFrom_44 rfl rfl ?_
  refine jg_2 (q := 1) d_Dr_copyFrom_45 jf12 rfl (by decide) fw_Dr_15 ?_
  have jf13 : h9 (i + 2) = jI 16 (fun j => zI (cs j)) := by rw [eh9, va_up_ne _ _ (by omega), eh4, va_up_ne _ _ (by omega), eh1, va_up_ne _ _ (by omega)]; exact hd2
  have jf14 : h9 (o + 2) = jI 16 (fun j => zI (cs2 j)) := by rw [eh9, va_up_ne _ _ (by omega), eh4, va_up_ne _ _ (by omega), eh1, va_up_ne _ _ (by omega)]; exact ho2
  refine jl_alen (v := zI (16)) d_Dr_copyFrom_48 jf13 rfl (by decide) ?_
  refine jz_acopy0 (N := 16) (x := o + 2) (y := i + 2) (st := []) (by decide) d_Dr_copyFrom_49 jf14 jf13 aw_Dr_37 aw_nat aw_sta nw_Sy (by decide) (fun h15 eh15 => ?_)
  have jf16 : h15 (i + 2) = jI 16 (fun j => zI ((jcpy 16 cs2 cs) j)) := by rw [eh15, va_up_self]
  refine jl_aload_n d_Dr_copyFrom_52 rfl rfl ?_
  have jf17 : h15 (o) = jO 2 [.ref (o + 1), .ref (o + 2), .ref (o + 3), .ref (o + 4), .int (zI (m2)), .int (zI (p2))] := by rw [eh15, va_up_ne _ _ (by omega)]; exact jf11
  refine jg_2 (q := 2) d_Dr_copyFrom_53 jf17 rfl (by decide) fw_Dr_18 ?_
  refine jl_iconst (v := zI (0)) d_Dr_copyFrom_56 (by decide) ?_
  refine jl_aload_n d_Dr_copyFrom_57 rfl rfl ?_
  have jf18 : h15 (i) = jO 2 [.ref (i + 1), .ref (i + 2), .ref (i + 3), .ref (i + 4), .int (zI (m2)), .int (zI (p2))] := by rw [eh15, va_up_ne _ _ (by omega)]; exact jf12
  refine jg_2 (q := 2) d_Dr_copyFrom_58 jf18 rfl (by decide) fw_Dr_18 ?_
  refine jl_iconst (v := zI (0)) d_Dr_copyFrom_61 (by decide) ?_
  refine jl_aload_n d_Dr_copyFrom_62 rfl rfl ?_
  refine jg_2 (q := 2) d_Dr_copyFrom_63 jf18 rfl (by decide) fw_Dr_18 ?_
  have jf19 : h15 (i + 3) = jI 16 (fun j => zI (xs j)) := by rw [eh15, va_up_ne _ _ (by omega), eh9, va_up_ne _ _ (by omega), eh4, va_up_ne _ _ (by omega), eh1, va_up_ne _ _ (by omega)]; exact hd3
  have jf20 : h15 (o + 3) = jI 16 (fun j => zI (xs2 j)) := by rw [eh15, va_up_ne _ _ (by omega), eh9, va_up_ne _ _ (by omega), eh4, va_up_ne _ _ (by omega), eh1, va_up_ne _ _ (by omega)]; exact ho3
  refine jl_alen (v := zI (16)) d_Dr_copyFrom_66 jf19 rfl (by decide) ?_
  refine jz_acopy0 (N := 16) (x := o + 3) (y := i + 3) (st := []) (by decide) d_Dr_copyFrom_67 jf20 jf19 aw_Dr_37 aw_nat aw_sta nw_Sy (by decide) (fun h21 eh21 => ?_)
  have jf22 : h21 (i + 3) = jI 16 (fun j => zI ((jcpy 16 xs2 xs) j)) := by rw [eh21, va_up_self]
  have jf23 : h21 (i) = jO 2 [.ref (i + 1), .ref (i + 2), .ref (i + 3), .ref (i + 4), .int (zI (m2)), .int (zI (p2))] := by rw [eh21, va_up_ne _ _ (by omega)]; exact jf18
  have jf24 : h21 (i + 1) = jI 48 (fun j => zI ((jcpy 48 hs2 hs) j)) := by rw [eh21, va_up_ne _ _ (by omega), eh15, va_up_ne _ _ (by omega)]; exact jf10
  have jf25 : h21 (i + 2) = jI 16 (fun j => zI ((jcpy 16 cs2 cs) j)) := by rw [eh21, va_up_ne _ _ (by omega)]; exact jf16
  have jf26 : h21 (i + 4) = jI 16 (fun j => zI (sc j)) := by rw [eh21, va_up_ne _ _ (by omega), eh15, va_up_ne _ _ (by omega), eh9, va_up_ne _ _ (by omega), eh4, va_up_ne _ _ (by omega), eh1, va_up_ne _ _ (by omega)]; exact hd4
  refine jl_vret d_Dr_copyFrom_70 rfl (hk _ ⟨jf23, jf24, jf25, jf22, jf26⟩ ?_)
  intro y hy
  rw [eh21, va_up_ne _ _ (by omega), eh15, va_up_ne _ _ (by omega), eh9, va_up_ne _ _ (by omega), eh4, va_up_ne _ _ (by omega), eh1, va_up_ne _ _ (by omega)]
