/-! a turned draft; arrays that are made -/
def rt (p f : Int) (hs : Nat → Int) (k : Nat) : Nat → Int := fun j => if j % 3 = 0 ∧ j / 3 < k then hs ((f + ((j / 3 : Nat) : Int)) % p * 3).toNat else hs j
theorem rt_0 (p f : Int) (hs : Nat → Int) : rt p f hs 0 = hs := by
  funext j
  unfold rt
  rw [if_neg (by omega)]
theorem rt_s (p f : Int) (hs : Nat → Int) {s : Int} (h0 : 0 ≤ s) : va_up (rt p f hs s.toNat) (s * 3).toNat (hs ((f + s) % p * 3).toNat) = rt p f hs (s + 1).toNat := by
  funext j
  by_cases hj : j = (s * 3).toNat
  · subst hj
    rw [va_up_self]
    unfold rt
    rw [if_pos (by omega), show (((s * 3).toNat / 3 : Nat) : Int) = s by omega]
  · rw [va_up_ne _ _ hj]
    unfold rt
    by_cases h1 : j % 3 = 0 ∧ j / 3 < s.toNat
    · rw [if_pos h1, if_pos (by omega)]
    · rw [if_neg h1, if_neg (by omega)]
theorem jfill_si {v : Int} {g : Nat → Int} {s : Int} (h0 : 0 ≤ s) : va_up (jfill s.toNat v g) s.toNat v = jfill (s + 1).toNat v g := by
  rw [jfill_s, show (s + 1).toNat = s.toNat + 1 by omega]
section JN
variable {l : Launch} {G : jl_G} {F : List Frame → Array Value → State → Nat → Nat → (Nat → Nat) → Nat → State → Prop} {M : jl_M} {d pc : Nat} {L : List (Option Value)} {st : List Value} {n : Nat} {h : Nat → va_E} {ck sk : Nat}
theorem jz_newa {N' : Nat} (hN : N' ≤ 100000) (hd : decode M.2.1 pc = .ok (.newarray .int, 2)) (w1 : Cond.arrayClass .int ∈ jl_T) (k : ∀ h2, h2 = va_up h n (jI N' (fun _ => zI 0)) → jl_AW l G F M d (pc + 2) L (.ref n :: st) (n + 1) h2 ck sk) : jl_AW l G F M d pc L (.int (zI (N' : Int)) :: st) n h (ck + 1) (sk + N') := by
  have hb : N' * componentBytes .int ≤ 536870912 := by
    have : componentBytes .int = 4 := rfl
    rw [this]
    omega
  refine jl_newa (t := 0) (ty := .int) (z := .inl (fun _ => zI 0)) hd rfl rfl w1 (fun cA => rfl) (fun al => rfl) (fun f hf => by cases hf) (fun q => ?_) (by rw [zI_cl ⟨by omega, by omega⟩]; rfl) hb (k _ rfl)
  rw [show (0 : Int32) = zI 0 from rfl, zI_lt ⟨by omega, by omega⟩ ⟨by decide, by decide⟩] at q
  omega
end JN
theorem aw_int : Cond.arrayClass .int ∈ jl_T := jl_in (by decide +kernel) (by decide +kernel)
theorem aw_long : Cond.arrayClass .long ∈ jl_T := jl_in (by decide +kernel) (by decide +kernel)
theorem aw_bool : Cond.arrayClass .boolean ∈ jl_T := jl_in (by decide +kernel) (by decide +kernel)
theorem ow_1 : Cond.instanceMethod Lib.objectInit ∈ jl_T := jl_in (by decide +kernel) (by decide +kernel)
theorem ow_2 : Cond.code Lib.objectInit ⟨#[0xb1]⟩ 1 none ∈ jl_T := jl_in (by decide +kernel) (by decide +kernel)
theorem ow_Cn_3 : Cond.methodLink "SiteswapStudio$Counter" 3 Lib.objectInit ∈ jl_T := jl_in (by decide +kernel) (by decide +kernel)
theorem ow_Cy_3 : Cond.methodLink "SiteswapStudio$CycleSearch" 3 Lib.objectInit ∈ jl_T := jl_in (by decide +kernel) (by decide +kernel)
theorem ow_Dr_3 : Cond.methodLink "SiteswapStudio$Draft" 3 Lib.objectInit ∈ jl_T := jl_in (by decide +kernel) (by decide +kernel)
theorem ow_Jo_3 : Cond.methodLink "SiteswapStudio$Joint" 3 Lib.objectInit ∈ jl_T := jl_in (by decide +kernel) (by decide +kernel)
theorem ow_Sg_3 : Cond.methodLink "SiteswapStudio$Stage" 3 Lib.objectInit ∈ jl_T := jl_in (by decide +kernel) (by decide +kernel)
theorem ow_St_3 : Cond.methodLink "SiteswapStudio" 3 Lib.objectInit ∈ jl_T := jl_in (by decide +kernel) (by decide +kernel)
theorem ow_Md_1 : Cond.methodLink "SiteswapStudioModel" 1 Lib.objectInit ∈ jl_T := jl_in (by decide +kernel) (by decide +kernel)
set_option maxHeartbeats 4000000 in
set_option maxRecDepth 100000 in
theorem k_D_rotateTo {l : Launch} {G : jl_G} {d n : Nat} {h : Nat → va_E} {Kr : Option Value → Nat → (Nat → va_E) → Prop} {Kx : String → Nat → (Nat → va_E) → Prop} (hl9 : l.stackTraces = false) (hdd : 2 ≤ d) {i : Nat} {m p : Int} {hs cs xs sc : Nat → Int} {a : Int} (hD : jD h i m p hs cs xs sc) (ok : jOk m p hs cs xs) (ha : 0 ≤ a ∧ a < 100) (hk : ∀ h' g, jD h' i m p (rt p a hs p.toNat) cs (jfill p.toNat 0 xs) g → jfr h h' i (i + 5) → Kr none n h') : jl_Call l G m_Dr_rotateTo d [.ref (i), .int (zI (a))] n h 0 0 Kr Kx := by
  refine jl_enter hl9 (by decide) rfl (by simp [Value.category]) (Nat.le_of_ble_eq_true rfl) ?_
  show jl_AW l G (jl_F G Kr Kx) m_Dr_rotateTo d 0 [some (.ref (i)), some (.int (zI (a))), none] [] n h 0 0
  obtain ⟨hd0, hd1, hd2, hd3, hd4⟩ := hD
  have hp := ok.2.1
  have lp2 : ∀ (k : Nat) (s : Int) (g : Nat → Int) (h2 : Nat → va_E), s + k = p → 0 ≤ s → (∀ t : Int, 0 ≤ t → t < p → g t.toNat = hs ((a + t) % p * 3).toNat) → jD h2 i m p (rt p a hs s.toNat) cs (jfill s.toNat 0 xs) g → jfr h h2 i (i + 5) → jl_AW l G (jl_F G Kr Kx) m_Dr_rotateTo d 31 [some (.ref (i)), some (.int (zI (a))), some (.int (zI (s)))] [] n h2 0 0 := by
    intro k
    induction k using Nat.strongRecOn with
    | ind k ih =>
      intro s g h2 hks hs0 hg hD2 hfr
      obtain ⟨f0, f1, f2, f3, f4⟩ := hD2
      refine jl_iload_n d_Dr_rotateTo_31 rfl rfl ?_
      refine jl_aload_n d_Dr_rotateTo_32 rfl rfl ?_
      refine jg_2 (q := 5) d_Dr_rotateTo_33 f0 rfl (by decide) fw_Dr_28 ?_
      refine jz_icmp_ge (tgt := 57) d_Dr_rotateTo_36 (by decide) ⟨by omega, by omega⟩ ⟨by omega, by omega⟩ (fun hc => ?_) (fun hc => ?_)
      · have es : s = p := by omega
        subst es
        exact jl_vret d_Dr_rotateTo_57 rfl (hk h2 g ⟨f0, f1, f2, f3, f4⟩ hfr)
      · refine jl_aload_n d_Dr_rotateTo_39 rfl rfl ?_
        refine jl_iload_n d_Dr_rotateTo_40 rfl rfl ?_
        refine jl_aload_n d_Dr_rotateTo_41 rfl rfl ?_
        refine jg_2 (q := 3) d_Dr_rotateTo_42 f0 rfl (by decide) fw_Dr_21 ?_
        refine jl_iload_n d_Dr_rotateTo_45 rfl rfl ?_
        refine jz_iald d_Dr_rotateTo_46 f4 (by omega) (by omega) (by omega) ?_
        refine jl_iconst (v := zI (0)) d_Dr_rotateTo_47 (by decide) ?_
        refine jl_invV (M' := m_Dr_setFirst) (d' := d - 1) (ck' := 0) (sk' := 0) (na := 3) (as := [.int (zI (s)), .int (zI (g (s).toNat)), .int (zI (0))]) (st := []) d_Dr_rotateTo_48 rfl f0 rfl mw_Dr_88 ww_Dr_setFirst sw_Dr_setFirst nw_Dr cw_Dr_setFirst rfl rfl rfl (by decide +kernel) (by omega) (Nat.le_of_ble_eq_true rfl) (Nat.le_of_ble_eq_true rfl) ?_
        refine k_D_setFirst hl9 (by omega) ⟨f0, f1, f2, f3, f4⟩ ⟨by omega, by omega⟩ ⟨by decide, by decide⟩ ?_
        obtain ⟨h3, eh3⟩ : ∃ z, z = va_up (va_up h2 (i + 1) (jI 48 (fun j => zI (va_up (rt p a hs s.toNat) (s * 3).toNat (g (s).toNat) j)))) (i + 3) (jI 16 (fun j => zI (va_up (jfill s.toNat 0 xs) (s).toNat (if (0 : Int) = 0 then 0 else 16) j))) := ⟨_, rfl⟩
        rw [← eh3]
        show jl_AW _ _ _ _ _ 51 [some (.ref (i)), some (.int (zI (a))), some (.int (zI (s)))] [] n h3 _ _
        refine jz_iinc (v := s + 1) (L' := [some (.ref (i)), some (.int (zI (a))), some (.int (zI (s + 1)))]) d_Dr_rotateTo_51 rfl (by omega) (by decide) rfl ?_
        refine jl_goto (tgt := 31) d_Dr_rotateTo_54 (by decide) ?_
        have e1 : va_up (rt p a hs s.toNat) (s * 3).toNat (g (s).toNat) = rt p a hs (s + 1).toNat := by rw [hg s hs0 (by omega)]; exact rt_s p a hs hs0
        have e2 : va_up (jfill s.toNat 0 xs) (s).toNat (if (0 : Int) = 0 then 0 else 16) = jfill (s + 1).toNat 0 xs := jfill_si hs0
        rw [e1, e2] at eh3
        refine ih (k - 1) (by omega) (s + 1) g h3 (by omega) (by omega) hg ⟨?_, ?_, ?_, ?_, ?_⟩ ?_
        · rw [eh3, va_up_ne _ _ (by omega), va_up_ne _ _ (by omega)]; exact f0
        · rw [eh3, va_up_ne _ _ (by omega), va_up_self]
        · rw [eh3, va_up_ne _ _ (by omega), va_up_ne _ _ (by omega)]; exact f2
        · rw [eh3, va_up_self]
        · rw [eh3, va_up_ne _ _ (by omega), va_up_ne _ _ (by omega)]; exact f4
        · intro y hy
          rw [eh3, va_up_ne _ _ (by omega), va_up_ne _ _ (by omega)]
          exact hfr y hy
  have lp1 : ∀ (k : Nat) (s : Int) (g : Nat → Int) (h2 : Nat → va_E), s + k = p → 0 ≤ s → (∀ t : Int, 0 ≤ t → t < s → g t.toNat = hs ((a + t) % p * 3).toNat) → h2 = va_up h (i + 4) (jI 16 (fun j => zI (g j))) → jl_AW l G (jl_F G Kr Kx) m_Dr_rotateTo d 2 [some (.ref (i)), some (.int (zI (a))), some (.int (zI (s)))] [] n h2 0 0 := by
    intro k
    induction k using Nat.strongRecOn with
    | ind k ih =>
      intro s g h2 hks hs0 hg eh2
      have f0 : h2 i = jO 2 [.ref (i + 1), .ref (i + 2), .ref (i + 3), .ref (i + 4), .int (zI m), .int (zI p)] := by rw [eh2, va_up_ne _ _ (by omega)]; exact hd0
      have f1 : h2 (i + 1) = jI 48 (fun j => zI (hs j)) := by rw [eh2, va_up_ne _ _ (by omega)]; exact hd1
      have f2 : h2 (i + 2) = jI 16 (fun j => zI (cs j)) := by rw [eh2, va_up_ne _ _ (by omega)]; exact hd2
      have f3 : h2 (i + 3) = jI 16 (fun j => zI (xs j)) := by rw [eh2, va_up_ne _ _ (by omega)]; exact hd3
      have f4 : h2 (i + 4) = jI 16 (fun j => zI (g j)) := by rw [eh2, va_up_self]
      refine jl_iload_n d_Dr_rotateTo_2 rfl rfl ?_
      refine jl_aload_n d_Dr_rotateTo_3 rfl rfl ?_
      refine jg_2 (q := 5) d_Dr_rotateTo_4 f0 rfl (by decide) fw_Dr_28 ?_
      refine jz_icmp_ge (tgt := 29) d_Dr_rotateTo_7 (by decide) ⟨by omega, by omega⟩ ⟨by omega, by omega⟩ (fun hc => ?_) (fun hc => ?_)
      · refine jl_iconst (v := zI (0)) d_Dr_rotateTo_29 (by decide) ?_
        refine jl_istore_n (L' := [some (.ref (i)), some (.int (zI (a))), some (.int (zI (0)))]) d_Dr_rotateTo_30 rfl (by decide) rfl ?_
        refine lp2 p.toNat 0 g h2 (by omega) (by omega) (fun t q1 q2 => hg t q1 (by omega)) ⟨f0, ?_, f2, ?_, f4⟩ ?_
        · rw [show (0 : Int).toNat = 0 from rfl, rt_0]; exact f1
        · rw [show (0 : Int).toNat = 0 from rfl, jfill_0]; exact f3
        · intro y hy; rw [eh2, va_up_ne _ _ (by omega)]
      · refine jl_aload_n d_Dr_rotateTo_10 rfl rfl ?_
        refine jg_2 (q := 3) d_Dr_rotateTo_11 f0 rfl (by decide) fw_Dr_21 ?_
        refine jl_iload_n d_Dr_rotateTo_14 rfl rfl ?_
        refine jl_aload_n d_Dr_rotateTo_15 rfl rfl ?_
        refine jl_iload_n d_Dr_rotateTo_16 rfl rfl ?_
        refine jl_iload_n d_Dr_rotateTo_17 rfl rfl ?_
        refine jz_iadd (v := a + s) d_Dr_rotateTo_18 (by omega) ?_
        refine jl_invV (M' := m_Dr_firstHeight) (d' := d - 1) (ck' := 0) (sk' := 0) (na := 1) (as := [.int (zI (a + s))]) (st := [.int (zI (s)), .ref (i + 4)]) d_Dr_rotateTo_19 rfl f0 rfl mw_Dr_75 ww_Dr_firstHeight sw_Dr_firstHeight nw_Dr cw_Dr_firstHeight rfl rfl rfl (by decide +kernel) (by omega) (Nat.le_of_ble_eq_true rfl) (Nat.le_of_ble_eq_true rfl) ?_
        refine k_D_firstHeight hl9 (by omega) ⟨f0, f1, f2, f3, f4⟩ ⟨by omega, by omega⟩ hp ?_
        show jl_AW _ _ _ _ _ 22 [some (.ref (i)), some (.int (zI (a))), some (.int (zI (s)))] [.int (zI (hs ((a + s) % p * 3).toNat)), .int (zI (s)), .ref (i + 4)] n h2 _ _
        refine jz_iasth d_Dr_rotateTo_22 f4 (by omega) (by omega) (by omega) (fun h1 eh1 => ?_)
        have jf2 : h1 (i + 4) = jI 16 (fun j => zI ((va_up g (s).toNat (hs ((a + s) % p * 3).toNat)) j)) := by rw [eh1, va_up_self]
        refine jz_iinc (v := s + 1) (L' := [some (.ref (i)), some (.int (zI (a))), some (.int (zI (s + 1)))]) d_Dr_rotateTo_23 rfl (by omega) (by decide) rfl ?_
        refine jl_goto (tgt := 2) d_Dr_rotateTo_26 (by decide) ?_
        refine ih (k - 1) (by omega) (s + 1) _ h1 (by omega) (by omega) ?_ (by rw [eh1, eh2, bx_uu])
        intro t q1 q2
        by_cases hts : t = s
        · subst hts; rw [va_up_self]
        · rw [va_up_ne _ _ (by omega)]; exact hg t q1 (by omega)
  refine jl_iconst (v := zI (0)) d_Dr_rotateTo_0 (by decide) ?_
  refine jl_istore_n (L' := [some (.ref (i)), some (.int (zI (a))), some (.int (zI (0)))]) d_Dr_rotateTo_1 rfl (by decide) rfl ?_
  exact lp1 p.toNat 0 sc h (by omega) (by omega) (fun t q1 q2 => by omega) (va_up_id hd4).symm
set_option maxHeartbeats 4000000 in
set_option maxRecDepth 100000 in
theorem k_D_init {l : Launch} {G : jl_G} {d i : Nat} {h : Nat → va_E} {Kr : Option Value → Nat → (Nat → va_E) → Prop} {Kx : String → Nat → (Nat → va_E) → Prop} (hl9 : l.stackTraces = false) (h0 : h i = jO 2 [.null, .null, .null, .null, .int (zI 0), .int (zI 0)]) (hk : ∀ h', jD h' i 0 1 (fun _ => 0) (va_up (fun _ => 0) (0 : Int).toNat 1) (fun _ => 0) (fun _ => 0) → (∀ y, y < i → h' y = h y) → Kr none (i + 5) h') : jl_Call l G m_Dr_init d [.ref i] (i + 1) h 4 96 Kr Kx := by
  refine jl_enter hl9 (by decide) rfl (by simp [Value.category]) (Nat.le_of_ble_eq_true rfl) ?_
  show jl_AW l G (jl_F G Kr Kx) m_Dr_init d 0 [some (.ref (i))] [] (i + 1) h (0 + 1 + 1 + 1 + 1) (0 + 16 + 16 + 16 + 48)
  refine jl_aload_n d_Dr_init_0 rfl rfl ?_
  refine jl_objInit d_Dr_init_1 ow_Dr_3 ow_1 ow_2 (Nat.le_of_ble_eq_true rfl) ?_
  refine jl_aload_n d_Dr_init_4 rfl rfl ?_
  refine jl_bipush (v := zI (48)) d_Dr_init_5 (by decide) ?_
  refine jz_newa (N' := 48) (by decide) d_Dr_init_7 aw_int (fun h1 eh1 => ?_)
  have eh1 : h1 = va_up h (i + 1) (jI 48 (fun j => zI ((fun _ => (0 : Int)) j))) := eh1
  have jf2 : h1 (i + 1) = jI 48 (fun j => zI ((fun _ => (0 : Int)) j)) := by rw [eh1, va_up_self]
  have jf3 : h1 (i) = jO 2 [.null, .null, .null, .null, .int (zI (0)), .int (zI (0))] := by rw [eh1, va_up_ne _ _ (by omega)]; exact h0
  refine jpf_2 (q := 0) (ty := (.array .int)) d_Dr_init_9 jf3 (by simp) (by decide) fw_Dr_9 rfl rfl rfl (by decide +kernel) (fun _ _ => rfl) (fun _ _ => rfl) (fun h4 eh4 => ?_)
  have eh4 : h4 = va_up h1 (i) (jO 2 [.ref (i + 1), .null, .null, .null, .int (zI (0)), .int (zI (0))]) := eh4
  have jf5 : h4 (i) = jO 2 [.ref (i + 1), .null, .null, .null, .int (zI (0)), .int (zI (0))] := by rw [eh4, va_up_self]
  refine jl_aload_n d_Dr_init_12 rfl rfl ?_
  refine jl_bipush (v := zI (16)) d_Dr_init_13 (by decide) ?_
  refine jz_newa (N' := 16) (by decide) d_Dr_init_15 aw_int (fun h6 eh6 => ?_)
  have eh6 : h6 = va_up h4 (i + 2) (jI 16 (fun j => zI ((fun _ => (0 : Int)) j))) := eh6
  have jf7 : h6 (i + 2) = jI 16 (fun j => zI ((fun _ => (0 : Int)) j)) := by rw [eh6, va_up_self]
  have jf8 : h6 (i) = jO 2 [.ref (i + 1), .null, .null, .null, .int (zI (0)), .int (zI (0))] := by rw [eh6, va_up_ne _ _ (by omega)]; exact jf5
  refine jpf_2 (q := 1) (ty := (.array .int)) d_Dr_init_17 jf8 (by simp) (by decide) fw_Dr_15 rfl rfl rfl (by decide +kernel) (fun _ _ => rfl) (fun _ _ => rfl) (fun h9 eh9 => ?_)
  have eh9 : h9 = va_up h6 (i) (jO 2 [.ref (i + 1), .ref (i + 2), .null, .null, .int (zI (0)), .int (zI (0))]) := eh9
  have jf10 : h9 (i) = jO 2 [.ref (i + 1), .ref (i + 2), .null, .null, .int (zI (0)), .int (zI (0))] := by rw [eh9, va_up_self]
  refine jl_aload_n d_Dr_init_20 rfl rfl ?_
  refine jl_bipush (v := zI (16)) d_Dr_init_21 (by decide) ?_
  refine jz_newa (N' := 16) (by decide) d_Dr_init_23 aw_int (fun h11 eh11 => ?_)
  have eh11 : h11 = va_up h9 (i + 3) (jI 16 (fun j => zI ((fun _ => (0 : Int)) j))) := eh11
  have jf12 : h11 (i + 3) = jI 16 (fun j => zI ((fun _ => (0 : Int)) j)) := by rw [eh11, va_up_self]
  have jf13 : h11 (i) = jO 2 [.ref (i + 1), .ref (i + 2), .null, .null, .int (zI (0)), .int (zI (0))] := by rw [eh11, va_up_ne _ _ (by omega)]; exact jf10
  refine jpf_2 (q := 2) (ty := (.array .int)) d_Dr_init_25 jf13 (by simp) (by decide) fw_Dr_18 rfl rfl rfl (by decide +kernel) (fun _ _ => rfl) (fun _ _ => rfl) (fun h14 eh14 => ?_)
  have eh14 : h14 = va_up h11 (i) (jO 2 [.ref (i + 1), .ref (i + 2), .ref (i + 3), .null, .int (zI (0)), .int (zI (0))]) := eh14
  have jf15 : h14 (i) = jO 2 [.ref (i + 1), .ref (i + 2), .ref (i + 3), .null, .int (zI (0)), .int (zI (0))] := by rw [eh14, va_up_self]
  refine jl_aload_n d_Dr_init_28 rfl rfl ?_
  refine jl_bipush (v := zI (16)) d_Dr_init_29 (by decide) ?_
  refine jz_newa (N' := 16) (by decide) d_Dr_init_31 aw_int (fun h16 eh16 => ?_)
  have eh16 : h16 = va_up h14 (i + 4) (jI 16 (fun j => zI ((fun _ => (0 : Int)) j))) := eh16
  have jf17 : h16 (i + 4) = jI 16 (fun j => zI ((fun _ => (0 : Int)) j)) := by rw [eh16, va_up_self]
  have jf18 : h16 (i) = jO 2 [.ref (i + 1), .ref (i + 2), .ref (i + 3), .null, .int (zI (0)), .int (zI (0))] := by rw [eh16, va_up_ne _ _ (by omega)]; exact jf15
  refine jpf_2 (q := 3) (ty := (.array .int)) d_Dr_init_33 jf18 (by simp) (by decide) fw_Dr_21 rfl rfl rfl (by decide +kernel) (fun _ _ => rfl) (fun _ _ => rfl) (fun h19 eh19 => ?_)
  have eh19 : h19 = va_up h16 (i) (jO 2 [.ref (i + 1), .ref (i + 2), .ref (i + 3), .ref (i + 4), .int (zI (0)), .int (zI (0))]) := eh19
  have jf20 : h19 (i) = jO 2 [.ref (i + 1), .ref (i + 2), .ref (i + 3), .ref (i + 4), .int (zI (0)), .int (zI (0))] := by rw [eh19, va_up_self]
  refine jl_aload_n d_Dr_init_36 rfl rfl ?_
  refine jl_iconst (v := zI (0)) d_Dr_init_37 (by decide) ?_
  refine jp_2 (q := 4) (ty := .int) d_Dr_init_38 jf20 (by simp) (by decide) fw_Dr_24 rfl (by decide +kernel) (fun _ _ => rfl) (fun _ _ => rfl) (fun h21 eh21 => ?_)
  have eh21 : h21 = va_up h19 (i) (jO 2 [.ref (i + 1), .ref (i + 2), .ref (i + 3), .ref (i + 4), .int (zI (0)), .int (zI (0))]) := eh21
  have jf22 : h21 (i) = jO 2 [.ref (i + 1), .ref (i + 2), .ref (i + 3), .ref (i + 4), .int (zI (0)), .int (zI (0))] := by rw [eh21, va_up_self]
  refine jl_aload_n d_Dr_init_41 rfl rfl ?_
  refine jl_iconst (v := zI (1)) d_Dr_init_42 (by decide) ?_
  refine jp_2 (q := 5) (ty := .int) d_Dr_init_43 jf22 (by simp) (by decide) fw_Dr_28 rfl (by decide +kernel) (fun _ _ => rfl) (fun _ _ => rfl) (fun h23 eh23 => ?_)
  have eh23 : h23 = va_up h21 (i) (jO 2 [.ref (i + 1), .ref (i + 2), .ref (i + 3), .ref (i + 4), .int (zI (0)), .int (zI (1))]) := eh23
  have jf24 : h23 (i) = jO 2 [.ref (i + 1), .ref (i + 2), .ref (i + 3), .ref (i + 4), .int (zI (0)), .int (zI (1))] := by rw [eh23, va_up_self]
  refine jl_aload_n d_Dr_init_46 rfl rfl ?_
  refine jg_2 (q := 1) d_Dr_init_47 jf24 rfl (by decide) fw_Dr_15 ?_
  refine jl_iconst (v := zI (0)) d_Dr_init_50 (by decide) ?_
  refine jl_iconst (v := zI (1)) d_Dr_init_51 (by decide) ?_
  have jf25 : h23 (i + 2) = jI 16 (fun j => zI ((fun _ => (0 : Int)) j)) := by rw [eh23, va_up_ne _ _ (by omega), eh21, va_up_ne _ _ (by omega), eh19, va_up_ne _ _ (by omega), eh16, va_up_ne _ _ (by omega), eh14, va_up_ne _ _ (by omega), eh11, va_up_ne _ _ (by omega), eh9, va_up_ne _ _ (by omega)]; exact jf7
  refine jz_iasth d_Dr_init_52 jf25 (by omega) (by omega) (by omega) (fun h26 eh26 => ?_)
  have jf27 : h26 (i + 2) = jI 16 (fun j => zI ((va_up ((fun _ => (0 : Int))) (0 : Int).toNat (1)) j)) := by rw [eh26, va_up_self]
  have jf28 : h26 (i) = jO 2 [.ref (i + 1), .ref (i + 2), .ref (i + 3), .ref (i + 4), .int (zI (0)), .int (zI (1))] := by rw [eh26, va_up_ne _ _ (by omega)]; exact jf24
  have jf29 : h26 (i + 1) = jI 48 (fun j => zI ((fun _ => (0 : Int)) j)) := by rw [eh26, va_up_ne _ _ (by omega), eh23, va_up_ne _ _ (by omega), eh21, va_up_ne _ _ (by omega), eh19, va_up_ne _ _ (by omega), eh16, va_up_ne _ _ (by omega), eh14, va_up_ne _ _ (by omega), eh11, va_up_ne _ _ (by omega), eh9, va_up_ne _ _ (by omega), eh6, va_up_ne _ _ (by omega), eh4, va_up_ne _ _ (by omega)]; exact jf2
  have jf30 : h26 (i + 3) = jI 16 (fun j => zI ((fun _ => (0 : Int)) j)) := by rw [eh26, va_up_ne _ _ (by omega), eh23, va_up_ne _ _ (by omega), eh21, va_up_ne _ _ (by omega), eh19, va_up_ne _ _ (by omega), eh16, va_up_ne _ _ (by omega), eh14, va_up_ne _ _ (by omega)]; exact jf12
  have jf31 : h26 (i + 4) = jI 16 (fun j => zI ((fun _ => (0 : Int)) j)) := by rw [eh26, va_up_ne _ _ (by omega), eh23, va_up_ne _ _ (by omega), eh21, va_up_ne _ _ (by omega), eh19, va_up_ne _ _ (by omega)]; exact jf17
  refine jl_vret d_Dr_init_53 rfl (hk _ ⟨jf28, jf29, jf27, jf30, jf31⟩ ?_)
  intro y hy
  rw [eh26, va_up_ne _ _ (by omega), eh23, va_up_ne _ _ (by omega), eh21, va_up_ne _ _ (by omega), eh19, va_up_ne _ _ (by omega), eh16, va_up_ne _ _ (by omega), eh14, va_up_ne _ _ (by omega), eh11, va_up_ne _ _ (by omega), eh9, va_up_ne _ _ (by omega), eh6, va_up_ne _ _ (by omega), eh4, va_up_ne _ _ (by omega), eh1, va_up_ne _ _ (by omega)]
