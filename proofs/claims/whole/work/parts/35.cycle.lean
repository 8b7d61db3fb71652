theorem zw_St_190 : ("SiteswapStudio", 190, "no such length or number of a cycle") ∈ jl_Z := by decide +kernel
theorem zw_St_195 : ("SiteswapStudio", 195, "there are not so many cycles") ∈ jl_Z := by decide +kernel
theorem dgo_lt {n s dv : Int} {hs : Nat → Int} (hd : dgo n s dv hs) (h : 0 ≤ s ∧ s ≤ 4) : dv < 10000 := by
  have h1 := hd.2.1
  rcases (show s = 0 ∨ s = 1 ∨ s = 2 ∨ s = 3 ∨ s = 4 by omega) with e | e | e | e | e <;> subst e
  · exact Int.lt_trans h1 (by decide)
  · exact Int.lt_trans h1 (by decide)
  · exact Int.lt_trans h1 (by decide)
  · exact Int.lt_trans h1 (by decide)
  · exact h1
theorem bd9 {f : Nat} {dv ht : Int} (hf : f ≤ 4) (hd : 0 ≤ dv ∧ dv < 10000) (hh : 0 ≤ ht ∧ ht ≤ 9) : (dv * 10 + ht) * ((10 ^ f : Nat) : Int) + ((10 ^ f : Nat) : Int) < 2000000000 := by
  have h8 : (10 : Nat) ^ f ≤ 10000 := Nat.pow_le_pow_right (n := 10) (by decide) hf
  obtain ⟨T9, eT⟩ : ∃ T9 : Nat, T9 = 10 ^ f := ⟨_, rfl⟩
  rw [← eT] at h8 ⊢
  have h9 : (T9 : Int) ≤ 10000 := by omega
  have h6 : (dv * 10 + ht) * (T9 : Int) ≤ 100009 * 10000 := Int.mul_le_mul (by omega) h9 (Int.natCast_nonneg _) (by decide)
  omega
theorem jOk_clear {m p m2 p2 : Int} {hs cs xs : Nat → Int} (ok : jOk m p hs cs xs) (hb : 1 ≤ p2 ∧ p2 ≤ 4) (hm : m2 = 0) : jOk m2 p2 (jfill 48 0 hs) (jfill 16 1 cs) (jfill 16 0 xs) := by
  obtain ⟨h1, h2, h3, h4, h5, h6⟩ := ok
  subst hm
  refine ⟨by decide, by omega, fun k => ?_, fun k => ?_, fun k => ?_, fun q => absurd q (by decide)⟩
  · unfold jfill
    split
    · exact ⟨by decide, by decide⟩
    · exact h3 k
  · unfold jfill
    split
    · exact ⟨by decide, by decide⟩
    · exact h4 k
  · unfold jfill
    split
    · exact Or.inl rfl
    · exact h5 k
set_option maxHeartbeats 4000000 in
set_option maxRecDepth 100000 in
theorem k_C_search {l : Launch} {G : jl_G} (hl9 : l.stackTraces = false) {n9 : Int} (hn9 : 1 ≤ n9 ∧ n9 ≤ 4) {cy : Nat} {cs sc : Nat → Int} : ∀ (f : Nat) {d n : Nat} {h : Nat → va_E} {Kr : Option Value → Nat → (Nat → va_E) → Prop} {Kx : String → Nat → (Nat → va_E) → Prop} {s dv tp : Int} {LD : Nat} {hs xs : Nat → Int}, f + 6 ≤ d → h cy = jO 1 [.ref (cy + 1), .int (zI tp)] → jD h (cy + 1) 0 n9 hs cs xs sc → jOk 0 n9 hs cs xs → s + ((f : Nat) : Int) = n9 → 0 ≤ s → (0 ≤ tp ∧ tp < 2147483648) → dgo n9 s dv hs → lmo n9 s LD hs → (∀ (hs' xs' : Nat → Int) (h' : Nat → va_E), h' cy = jO 1 [.ref (cy + 1), .int (zI (scn n9 (dv * ((10 ^ f : Nat) : Int)) (10 ^ f) tp).2)] → jD h' (cy + 1) 0 n9 hs' cs xs' sc → jOk 0 n9 hs' cs xs' → (∀ j : Int, 0 ≤ j → j < s → hs' (j * 3).toNat = hs (j * 3).toNat) → jfr h h' cy (cy + 6) → Kr (some (.int (zI (scn n9 (dv * ((10 ^ f : Nat) : Int)) (10 ^ f) tp).1))) n h') → jl_Call l G m_Cy_search d [.ref (cy), .int (zI (s)), .int (zI ((LD : Int))), .int (zI (dv))] n h 0 0 Kr Kx := by
  intro f
  induction f with
  | zero =>
    intro d n h Kr Kx s dv tp LD hs xs hdd hC hD ok hsf hs0 htp hdg hlm hk
    have hp := ok.2.1
    have hLD := hlm.1
    refine jl_enter hl9 (by decide) rfl (by simp [Value.category]) (Nat.le_of_ble_eq_true rfl) ?_
    show jl_AW l G (jl_F G Kr Kx) m_Cy_search d 0 [some (.ref (cy)), some (.int (zI (s))), some (.int (zI ((LD : Int)))), some (.int (zI (dv))), none, none, none, none] [] n h 0 0
    have es : s = n9 := by omega
    subst es
    obtain ⟨v01, v11, v21, v31, v41⟩ := id (hD)
    refine jl_aload_n d_Cy_search_0 rfl rfl ?_
    refine jg_1 (q := 0) d_Cy_search_1 hC rfl (by decide) fw_Cy_12 ?_
    refine jl_iload_n d_Cy_search_4 rfl rfl ?_
    refine jl_invV (M' := m_Dr_hasSite) (d' := d - 1) (ck' := 0) (sk' := 0) (na := 1) (as := [.int (zI (s))]) (st := []) d_Cy_search_5 rfl v01 rfl mw_Cy_30 ww_Dr_hasSite sw_Dr_hasSite nw_Dr cw_Dr_hasSite rfl rfl rfl (by decide +kernel) (by omega) (Nat.le_of_ble_eq_true rfl) (Nat.le_of_ble_eq_true rfl) ?_
    refine k_D_hasSite hl9 (by omega) hD ⟨by omega, by omega⟩ ok.2.1 (fun hin => ?_) (fun hin => ?_)
    · omega
    · show jl_AW _ _ _ _ _ 8 [some (.ref (cy)), some (.int (zI (s))), some (.int (zI ((LD : Int)))), some (.int (zI (dv))), none, none, none, none] [.int (zI (0))] n h _ _
      refine jz_if_ne (tgt := 46) d_Cy_search_8 (by decide) ⟨by omega, by omega⟩ (fun q1 => ?_) (fun q1 => ?_)
      · exact absurd rfl q1
      · refine jl_aload_n d_Cy_search_11 rfl rfl ?_
        refine jg_1 (q := 0) d_Cy_search_12 hC rfl (by decide) fw_Cy_12 ?_
        refine jl_invV (M' := m_Dr_isCycle) (d' := d - 1) (ck' := 0) (sk' := 0) (na := 0) (as := []) (st := []) d_Cy_search_15 rfl v01 rfl mw_Cy_34 ww_Dr_isCycle sw_Dr_isCycle nw_Dr cw_Dr_isCycle rfl rfl rfl (by decide +kernel) (by omega) (Nat.le_of_ble_eq_true rfl) (Nat.le_of_ble_eq_true rfl) ?_
        refine k_D_isCycle hl9 (by omega) hD ok (fun c hc => ?_)
        show jl_AW _ _ _ _ _ 18 [some (.ref (cy)), some (.int (zI (s))), some (.int (zI ((LD : Int)))), some (.int (zI (dv))), none, none, none, none] [.int (zI (c))] n h _ _
        have hc9 := sp_is_rg hc
        have hcy : cyP s (dgt s (dv * ((10 ^ 0 : Nat) : Int))) ↔ sp_cyc s hs := by
          have e0 : dv * ((10 ^ 0 : Nat) : Int) = dv := Int.mul_one dv
          rw [e0]
          have key : ∀ j : Int, 0 ≤ j → j < s → dgt s dv (j * 3).toNat = hs (j * 3).toNat := fun j r1 r2 => dgt_pre (f := 0) hdg (by omega) (by omega) hs0 (by rw [show (0 : Int).toNat = 0 from rfl, Int.pow_zero]; omega) (by rw [show (0 : Int).toNat = 0 from rfl, Int.pow_zero]; omega) ⟨r1, r2⟩
          exact ⟨fun q => (cyP_cg hp.1 key q).2, fun q => cyP_cg hp.1 (fun j r1 r2 => (key j r1 r2).symm) ⟨hlm.2.2, q⟩⟩
        have esc : scn s (dv * ((10 ^ 0 : Nat) : Int)) (10 ^ 0) tp = pIf (cyP s (dgt s (dv * ((10 ^ 0 : Nat) : Int)))) (if tp - 1 < 0 then (dv * ((10 ^ 0 : Nat) : Int), tp - 1) else (-1, tp - 1)) (-1, tp) := scn_1 _ _ 0 _
        have e0 : dv * ((10 ^ 0 : Nat) : Int) = dv := Int.mul_one dv
        refine jz_if_ne (tgt := 23) d_Cy_search_18 (by decide) ⟨by omega, by omega⟩ (fun q2 => ?_) (fun q2 => ?_)
        · have hcc : sp_cyc s hs := by rcases hc with ⟨-, q⟩ | ⟨q, -⟩; exact q; omega
          rw [pIf_t (hcy.mpr hcc)] at esc
          refine jl_aload_n d_Cy_search_23 rfl rfl ?_
          refine jl_dup d_Cy_search_24 rfl ?_
          refine jg_1 (q := 1) d_Cy_search_25 hC rfl (by decide) fw_Cy_22 ?_
          refine jl_iconst (v := zI (1)) d_Cy_search_28 (by decide) ?_
          refine jz_isub (v := tp - 1) d_Cy_search_29 (by omega) ?_
          refine jp_1 (q := 1) (ty := .int) d_Cy_search_30 hC (by simp) (by decide) fw_Cy_22 rfl (by decide +kernel) (fun _ _ => rfl) (fun _ _ => rfl) (fun h1 eh1 => ?_)
          have eh1 : h1 = va_up h (cy) (jO 1 [.ref (cy + 1), .int (zI (tp - 1))]) := eh1
          have jf2 : h1 (cy) = jO 1 [.ref (cy + 1), .int (zI (tp - 1))] := by rw [eh1, va_up_self]
          have hDn : jD h1 (cy + 1) 0 s hs cs xs sc := jD_fr (fun y r1 r2 => by rw [eh1, va_up_ne _ _ (by omega)]) hD
          refine jl_aload_n d_Cy_search_33 rfl rfl ?_
          refine jg_1 (q := 1) d_Cy_search_34 jf2 rfl (by decide) fw_Cy_22 ?_
          refine jz_if_ge (tgt := 44) d_Cy_search_37 (by decide) ⟨by omega, by omega⟩ (fun q3 => ?_) (fun q3 => ?_)
          · refine jl_iconst (v := zI (-1)) d_Cy_search_44 (by decide) ?_
            rw [if_neg (by omega)] at esc
            exact jl_iret d_Cy_search_45 rfl (by have h9 := hk hs xs h1 (by rw [esc]; exact jf2) hDn ok (fun j r1 r2 => rfl) (fun y hy => by rw [eh1, va_up_ne _ _ (by omega)]); rw [esc] at h9; exact h9)
          · refine jl_iload_n d_Cy_search_40 rfl rfl ?_
            refine jl_goto (tgt := 45) d_Cy_search_41 (by decide) ?_
            rw [if_pos (by omega), e0] at esc
            exact jl_iret d_Cy_search_45 rfl (by have h9 := hk hs xs h1 (by rw [e0, esc]; exact jf2) hDn ok (fun j r1 r2 => rfl) (fun y hy => by rw [eh1, va_up_ne _ _ (by omega)]); rw [e0, esc] at h9; exact h9)
        · have hcc : ¬ sp_cyc s hs := by rcases hc with ⟨q, -⟩ | ⟨-, q⟩; omega; exact q
          rw [pIf_f (fun q => hcc (hcy.mp q))] at esc
          refine jl_iconst (v := zI (-1)) d_Cy_search_21 (by decide) ?_
          exact jl_iret d_Cy_search_22 rfl (by have h9 := hk hs xs h (by rw [esc]; exact hC) hD ok (fun j r1 r2 => rfl) (fun y hy => rfl); rw [esc] at h9; exact h9)
  | succ f IH =>
    intro d n h Kr Kx s dv tp LD hs xs hdd hC hD ok hsf hs0 htp hdg hlm hk
    have hp := ok.2.1
    have hLD := hlm.1
    refine jl_enter hl9 (by decide) rfl (by simp [Value.category]) (Nat.le_of_ble_eq_true rfl) ?_
    show jl_AW l G (jl_F G Kr Kx) m_Cy_search d 0 [some (.ref (cy)), some (.int (zI (s))), some (.int (zI ((LD : Int)))), some (.int (zI (dv))), none, none, none, none] [] n h 0 0
    obtain ⟨LO, eLO⟩ : ∃ LO, LO = dv * ((10 ^ (f + 1) : Nat) : Int) := ⟨_, rfl⟩
    obtain ⟨T9, eT⟩ : ∃ T9 : Nat, T9 = 10 ^ f := ⟨_, rfl⟩
    have eT1 : 10 ^ (f + 1) = 10 * T9 := by rw [eT, Nat.pow_succ]; omega
    have eLT : LO = dv * 10 * (T9 : Int) := by rw [eLO, eT1, Int.natCast_mul, ← Int.mul_assoc]; rfl
    have hT0 : 1 ≤ T9 := by rw [eT]; exact Nat.pow_pos (by decide)
    have hdv := hdg.1
    have hLO : 0 ≤ LO := by rw [eLT]; exact Int.mul_nonneg (by omega) (by omega)
    have hd10 := dgo_lt hdg (by omega)
    rw [← eLO, eT1] at hk
    have lp1 : ∀ (k : Nat) (ht : Int) (hs2 xs2 : Nat → Int) (tp2 : Int) (h2 : Nat → va_E), ht + k = 10 → 0 ≤ ht → h2 cy = jO 1 [.ref (cy + 1), .int (zI (tp2))] → jD h2 (cy + 1) 0 n9 hs2 cs xs2 sc → jOk 0 n9 hs2 cs xs2 → (∀ j : Int, 0 ≤ j → j < s → hs2 (j * 3).toNat = hs (j * 3).toNat) → jfr h h2 cy (cy + 6) → scn n9 LO (ht.toNat * T9) tp = (-1, tp2) → (0 ≤ tp2 ∧ tp2 ≤ tp) → jl_AW l G (jl_F G Kr Kx) m_Cy_search d 68 [some (.ref (cy)), some (.int (zI (s))), some (.int (zI ((LD : Int)))), some (.int (zI (dv))), none, some (.int (zI (ht))), none, none] [] n h2 0 0 := by
      intro k
      induction k using Nat.strongRecOn with
      | ind k ih =>
        intro ht hs2 xs2 tp2 h2 hkt ht0 hC2 hD2 ok2 hag hfr2 hsc htp2
        have hdg2 := dgo_cg hdg hag
        have hlm2 := lmo_cg hlm hag
        obtain ⟨v02, v12, v22, v32, v42⟩ := id (hD2)
        refine jl_iload d_Cy_search_68 rfl ?_
        refine jl_bipush (v := zI (9)) d_Cy_search_70 (by decide) ?_
        refine jz_icmp_gt (tgt := 146) d_Cy_search_72 (by decide) ⟨by omega, by omega⟩ ⟨by omega, by omega⟩ (fun hc => ?_) (fun hc => ?_)
        · have et : ht = 10 := by omega
          subst et
          refine jl_iconst (v := zI (-1)) d_Cy_search_146 (by decide) ?_
          rw [show (10 : Int).toNat = 10 from rfl] at hsc
          exact jl_iret d_Cy_search_147 rfl (by have h9 := hk hs2 xs2 h2 (by rw [hsc]; exact hC2) hD2 ok2 hag hfr2; rw [hsc] at h9; exact h9)
        · have hm0 := Int.emod_nonneg (s + ht) (show n9 ≠ 0 by omega)
          have hm1 := Int.emod_lt_of_pos (s + ht) (show 0 < n9 by omega)
          refine jl_iconst (v := zI (1)) d_Cy_search_75 (by decide) ?_
          refine jl_iload_n d_Cy_search_76 rfl rfl ?_
          refine jl_iload d_Cy_search_77 rfl ?_
          refine jz_iadd (v := s + ht) d_Cy_search_79 (by omega) ?_
          refine jl_aload_n d_Cy_search_80 rfl rfl ?_
          refine jg_1 (q := 0) d_Cy_search_81 hC2 rfl (by decide) fw_Cy_12 ?_
          refine jgn_2 (q := 5) d_Cy_search_84 v02 rfl (by decide) fw_Cy_42 ?_
          refine jl_invSN0 (M' := m_St_wrap) (d' := d - 1) (ck' := 0) (sk' := 0) (na := 2) (as := [.int (zI (s + ht)), .int (zI (n9))]) (st := [.int (zI (1))]) d_Cy_search_87 rfl mw_Cy_45 ww_St_wrap nw_St cw_St_wrap rfl rfl (by decide +kernel) (by omega) (Nat.le_of_ble_eq_true rfl) (Nat.le_of_ble_eq_true rfl) ?_
          refine k_wrap hl9 (by omega) ⟨by omega, by omega⟩ ⟨by omega, by omega⟩ ?_
          show jl_AW _ _ _ _ _ 90 [some (.ref (cy)), some (.int (zI (s))), some (.int (zI ((LD : Int)))), some (.int (zI (dv))), none, some (.int (zI (ht))), none, none] [.int (zI ((s + ht) % n9)), .int (zI (1))] n h2 _ _
          obtain ⟨K, eK⟩ : ∃ K : Nat, (s + ht) % n9 = (K : Int) := ⟨((s + ht) % n9).toNat, by omega⟩
          rw [eK] at hm0 hm1 ⊢
          refine jl_ishl d_Cy_search_90 (jz_int (bg_2 K (by omega)) ?_)
          refine jl_istore (L' := [some (.ref (cy)), some (.int (zI (s))), some (.int (zI ((LD : Int)))), some (.int (zI (dv))), none, some (.int (zI (ht))), some (.int (zI (((2 ^ K : Nat) : Int)))), none]) d_Cy_search_91 (by decide) rfl ?_
          refine jl_iload_n d_Cy_search_93 rfl rfl ?_
          refine jl_iload d_Cy_search_94 rfl ?_
          refine jl_iand d_Cy_search_96 (jz_int (bg_3 LD (by omega) K (by omega)) ?_)
          have hl7 : (LD &&& 2 ^ K) ≤ LD := Nat.and_le_left
          have eN : (ht + 1).toNat * T9 = ht.toNat * T9 + T9 := by rw [show (ht + 1).toNat = ht.toNat + 1 by omega, Nat.succ_mul]
          have eLn : LO + ((ht.toNat * T9 : Nat) : Int) = (dv * 10 + ht) * ((10 ^ f : Nat) : Int) := by rw [← eT, eLT, Int.natCast_mul, ← Int.add_mul, show ((ht.toNat : Nat) : Int) = ht by omega]
          refine jz_if_ne (tgt := 140) d_Cy_search_97 (by decide) ⟨by omega, by omega⟩ (fun hc2 => ?_) (fun hc2 => ?_)
          · have hbad : scn n9 (LO + ((ht.toNat * T9 : Nat) : Int)) T9 tp2 = (-1, tp2) := by rw [eT]; exact scn_bad (ht := ht) hdg2 hp.1 hsf hs0 (by omega) (by rw [← eT]; rw [← eT] at eLn; exact eLn) (Or.inl (by have h9 := (hlm2.2.1 (K : Int) (by omega) (by omega)).mp (by rw [Int.toNat_natCast]; cases h8 : LD.testBit K with | true => rfl | false => exact absurd ((lm_1 LD hLD K (by omega)).mpr h8) (by omega)); obtain ⟨j, r1, r2, r3⟩ := h9; exact ⟨j, r1, r2, by rw [r3, eK]⟩))
            refine jz_iinc (v := ht + 1) (L' := [some (.ref (cy)), some (.int (zI (s))), some (.int (zI ((LD : Int)))), some (.int (zI (dv))), none, some (.int (zI (ht + 1))), some (.int (zI (((2 ^ K : Nat) : Int)))), none]) d_Cy_search_140 rfl (by omega) (by decide) rfl ?_
            refine jl_goto (tgt := 68) d_Cy_search_143 (by decide) ?_
            refine jl_less (L' := [some (.ref (cy)), some (.int (zI (s))), some (.int (zI ((LD : Int)))), some (.int (zI (dv))), none, some (.int (zI (ht + 1))), none, none]) ⟨rfl, rfl, rfl, rfl, rfl, trivial⟩ ?_
            refine ih (k - 1) (by omega) (ht + 1) hs2 xs2 tp2 h2 (by omega) (by omega) hC2 hD2 ok2 hag hfr2 (by rw [eN]; exact scn_step hLO hsc hbad) htp2
          · have h0 : (LD &&& 2 ^ K) = 0 := by omega
            refine jl_aload_n d_Cy_search_100 rfl rfl ?_
            refine jg_1 (q := 0) d_Cy_search_101 hC2 rfl (by decide) fw_Cy_12 ?_
            refine jl_iload_n d_Cy_search_104 rfl rfl ?_
            refine jl_iload d_Cy_search_105 rfl ?_
            refine jl_iconst (v := zI (0)) d_Cy_search_107 (by decide) ?_
            refine jl_invV (M' := m_Dr_setFirst) (d' := d - 1) (ck' := 0) (sk' := 0) (na := 3) (as := [.int (zI (s)), .int (zI (ht)), .int (zI (0))]) (st := []) d_Cy_search_108 rfl v02 rfl mw_Cy_49 ww_Dr_setFirst sw_Dr_setFirst nw_Dr cw_Dr_setFirst rfl rfl rfl (by decide +kernel) (by omega) (Nat.le_of_ble_eq_true rfl) (Nat.le_of_ble_eq_true rfl) ?_
            refine k_D_setFirst hl9 (by omega) hD2 ⟨by omega, by omega⟩ ⟨by decide, by decide⟩ ?_
            obtain ⟨h3, eh3⟩ : ∃ z, z = va_up (va_up h2 (cy + 1 + 1) (jI 48 (fun j => zI (va_up hs2 (s * 3).toNat (ht) j)))) (cy + 1 + 3) (jI 16 (fun j => zI (va_up xs2 (s).toNat (if (0 : Int) = 0 then 0 else 16) j))) := ⟨_, rfl⟩
            rw [← eh3]
            show jl_AW _ _ _ _ _ 111 [some (.ref (cy)), some (.int (zI (s))), some (.int (zI ((LD : Int)))), some (.int (zI (dv))), none, some (.int (zI (ht))), some (.int (zI (((2 ^ K : Nat) : Int)))), none] [] n h3 _ _
            have hD3 : jD h3 (cy + 1) 0 n9 (va_up hs2 (s * 3).toNat ht) cs (va_up xs2 s.toNat 0) sc := ⟨by rw [eh3, va_up_ne _ _ (by omega), va_up_ne _ _ (by omega)]; exact v02, by rw [eh3, va_up_ne _ _ (by omega), va_up_self], by rw [eh3, va_up_ne _ _ (by omega), va_up_ne _ _ (by omega)]; exact v22, by rw [eh3, va_up_self]; rfl, by rw [eh3, va_up_ne _ _ (by omega), va_up_ne _ _ (by omega)]; exact v42⟩
            have hC3 : h3 cy = jO 1 [.ref (cy + 1), .int (zI (tp2))] := by rw [eh3, va_up_ne _ _ (by omega), va_up_ne _ _ (by omega)]; exact hC2
            have hg1 := (lm_2 LD hLD K (by omega)).1
            refine jl_aload_n d_Cy_search_111 rfl rfl ?_
            refine jl_iload_n d_Cy_search_112 rfl rfl ?_
            refine jl_iconst (v := zI (1)) d_Cy_search_113 (by decide) ?_
            refine jz_iadd (v := s + 1) d_Cy_search_114 (by omega) ?_
            refine jl_iload_n d_Cy_search_115 rfl rfl ?_
            refine jl_iload d_Cy_search_116 rfl ?_
            refine jl_ior d_Cy_search_118 (jz_int (bg_4 LD (by omega) K (by omega)) ?_)
            refine jl_iload_n d_Cy_search_119 rfl rfl ?_
            refine jl_bipush (v := zI (10)) d_Cy_search_120 (by decide) ?_
            refine jz_imul (v := dv * 10) d_Cy_search_122 (by omega) ?_
            refine jl_iload d_Cy_search_123 rfl ?_
            refine jz_iadd (v := dv * 10 + ht) d_Cy_search_125 (by omega) ?_
            obtain ⟨R9, eR⟩ : ∃ R9, R9 = scn n9 ((dv * 10 + ht) * ((10 ^ f : Nat) : Int)) (10 ^ f) tp2 := ⟨_, rfl⟩
            have hRr := scn_rg (n := n9) (10 ^ f) ((dv * 10 + ht) * ((10 ^ f : Nat) : Int)) tp2 (Int.mul_nonneg (by omega) (Int.natCast_nonneg _))
            have hRt := scn_tp (n := n9) (10 ^ f) ((dv * 10 + ht) * ((10 ^ f : Nat) : Int)) tp2 htp2.1 (Int.mul_nonneg (by omega) (Int.natCast_nonneg _))
            have hbd := bd9 (f := f) (dv := dv) (ht := ht) (by omega) (by omega) (by omega)
            rw [← eR] at hRr hRt
            refine jl_invV (M' := m_Cy_search) (d' := d - 1) (ck' := 0) (sk' := 0) (na := 3) (as := [.int (zI (s + 1)), .int (zI (((LD ||| 2 ^ K : Nat) : Int))), .int (zI (dv * 10 + ht))]) (st := []) d_Cy_search_126 rfl hC3 rfl mw_Cy_26 ww_Cy_search sw_Cy_search nw_Cy cw_Cy_search rfl rfl rfl (by decide +kernel) (by omega) (Nat.le_of_ble_eq_true rfl) (Nat.le_of_ble_eq_true rfl) ?_
            refine IH (by omega) hC3 hD3 (jOk_set0 ok2 (by omega)) (by omega) (by omega) ⟨htp2.1, by omega⟩ (dgo_next hdg2 hs0 (by omega)) (lmo_next hlm2 hn9 hs0 eK h0) (fun hs4 xs4 h4 hC4 hD4 ok4 hag4 hfr4 => ?_)
            rw [← eR] at hC4 ⊢
            show jl_AW _ _ _ _ _ 129 [some (.ref (cy)), some (.int (zI (s))), some (.int (zI ((LD : Int)))), some (.int (zI (dv))), none, some (.int (zI (ht))), some (.int (zI (((2 ^ K : Nat) : Int)))), none] [.int (zI (R9.1))] n h4 _ _
            have hag5 : ∀ j : Int, 0 ≤ j → j < s → hs4 (j * 3).toNat = hs (j * 3).toNat := fun j r1 r2 => by rw [hag4 j r1 (by omega), va_up_ne _ _ (by omega)]; exact hag j r1 r2
            have hfr5 : jfr h h4 cy (cy + 6) := fun y hy => by rw [hfr4 y hy, eh3, va_up_ne _ _ (by omega), va_up_ne _ _ (by omega)]; exact hfr2 y hy
            have hst : scn n9 LO (ht.toNat * T9 + T9) tp = (R9.1, R9.2) := scn_step hLO hsc (by rw [eLn, eT]; exact eR.symm)
            refine jl_istore (L' := [some (.ref (cy)), some (.int (zI (s))), some (.int (zI ((LD : Int)))), some (.int (zI (dv))), none, some (.int (zI (ht))), some (.int (zI (((2 ^ K : Nat) : Int)))), some (.int (zI (R9.1)))]) d_Cy_search_129 (by decide) rfl ?_
            refine jl_iload d_Cy_search_131 rfl ?_
            refine jl_iconst (v := zI (-1)) d_Cy_search_133 (by decide) ?_
            refine jz_icmp_eq (tgt := 140) d_Cy_search_134 (by decide) ⟨by omega, by omega⟩ ⟨by omega, by omega⟩ (fun hc3 => ?_) (fun hc3 => ?_)
            · refine jz_iinc (v := ht + 1) (L' := [some (.ref (cy)), some (.int (zI (s))), some (.int (zI ((LD : Int)))), some (.int (zI (dv))), none, some (.int (zI (ht + 1))), some (.int (zI (((2 ^ K : Nat) : Int)))), some (.int (zI (R9.1)))]) d_Cy_search_140 rfl (by omega) (by decide) rfl ?_
              refine jl_goto (tgt := 68) d_Cy_search_143 (by decide) ?_
              refine jl_less (L' := [some (.ref (cy)), some (.int (zI (s))), some (.int (zI ((LD : Int)))), some (.int (zI (dv))), none, some (.int (zI (ht + 1))), none, none]) ⟨rfl, rfl, rfl, rfl, rfl, trivial⟩ ?_
              refine ih (k - 1) (by omega) (ht + 1) hs4 xs4 R9.2 h4 (by omega) (by omega) hC4 hD4 ok4 hag5 hfr5 (by rw [eN, hst, hc3]) ⟨(hRt hc3).1, by have := (hRt hc3).2; omega⟩
            · refine jl_iload d_Cy_search_137 rfl ?_
              have h9 : ht.toNat * T9 + T9 ≤ 10 * T9 := by rw [← eN]; exact Nat.mul_le_mul_right _ (by omega)
              have hfin : scn n9 LO (10 * T9) tp = (R9.1, R9.2) := by rw [show 10 * T9 = (ht.toNat * T9 + T9) + (10 * T9 - (ht.toNat * T9 + T9)) by omega]; exact scn_done hLO hst hc3
              exact jl_iret d_Cy_search_139 rfl (by have h9 := hk hs4 xs4 h4 (by rw [hfin]; exact hC4) hD4 ok4 hag5 hfr5; rw [hfin] at h9; exact h9)
    obtain ⟨v01, v11, v21, v31, v41⟩ := id (hD)
    refine jl_aload_n d_Cy_search_0 rfl rfl ?_
    refine jg_1 (q := 0) d_Cy_search_1 hC rfl (by decide) fw_Cy_12 ?_
    refine jl_iload_n d_Cy_search_4 rfl rfl ?_
    refine jl_invV (M' := m_Dr_hasSite) (d' := d - 1) (ck' := 0) (sk' := 0) (na := 1) (as := [.int (zI (s))]) (st := []) d_Cy_search_5 rfl v01 rfl mw_Cy_30 ww_Dr_hasSite sw_Dr_hasSite nw_Dr cw_Dr_hasSite rfl rfl rfl (by decide +kernel) (by omega) (Nat.le_of_ble_eq_true rfl) (Nat.le_of_ble_eq_true rfl) ?_
    refine k_D_hasSite hl9 (by omega) hD ⟨by omega, by omega⟩ ok.2.1 (fun hin => ?_) (fun hin => ?_)
    · show jl_AW _ _ _ _ _ 8 [some (.ref (cy)), some (.int (zI (s))), some (.int (zI ((LD : Int)))), some (.int (zI (dv))), none, none, none, none] [.int (zI (1))] n h _ _
      refine jz_if_ne (tgt := 46) d_Cy_search_8 (by decide) ⟨by omega, by omega⟩ (fun q1 => ?_) (fun q1 => ?_)
      · refine jl_iload_n d_Cy_search_46 rfl rfl ?_
        refine jz_if_ne (tgt := 54) d_Cy_search_47 (by decide) ⟨by omega, by omega⟩ (fun q2 => ?_) (fun q2 => ?_)
        · have hh0 := ok.2.2.1 0
          refine jl_aload_n d_Cy_search_54 rfl rfl ?_
          refine jg_1 (q := 0) d_Cy_search_55 hC rfl (by decide) fw_Cy_12 ?_
          refine jl_iconst (v := zI (0)) d_Cy_search_58 (by decide) ?_
          refine jl_invV (M' := m_Dr_firstHeight) (d' := d - 1) (ck' := 0) (sk' := 0) (na := 1) (as := [.int (zI (0))]) (st := []) d_Cy_search_59 rfl v01 rfl mw_Cy_38 ww_Dr_firstHeight sw_Dr_firstHeight nw_Dr cw_Dr_firstHeight rfl rfl rfl (by decide +kernel) (by omega) (Nat.le_of_ble_eq_true rfl) (Nat.le_of_ble_eq_true rfl) ?_
          refine k_D_firstHeight hl9 (by omega) hD ⟨by omega, by omega⟩ ok.2.1 ?_
          show jl_AW _ _ _ _ _ 62 [some (.ref (cy)), some (.int (zI (s))), some (.int (zI ((LD : Int)))), some (.int (zI (dv))), none, none, none, none] [.int (zI (hs ((0 : Int) % n9 * 3).toNat))] n h _ _
          rw [show ((0 : Int) % n9 * 3).toNat = 0 by rw [Int.zero_emod]; rfl]
          refine jl_istore (L' := [some (.ref (cy)), some (.int (zI (s))), some (.int (zI ((LD : Int)))), some (.int (zI (dv))), some (.int (zI (hs 0))), none, none, none]) d_Cy_search_62 (by decide) rfl ?_
          refine jl_iload d_Cy_search_64 rfl ?_
          refine jl_istore (L' := [some (.ref (cy)), some (.int (zI (s))), some (.int (zI ((LD : Int)))), some (.int (zI (dv))), some (.int (zI (hs 0))), some (.int (zI (hs 0))), none, none]) d_Cy_search_66 (by decide) rfl ?_
          refine jl_less (L' := [some (.ref (cy)), some (.int (zI (s))), some (.int (zI ((LD : Int)))), some (.int (zI (dv))), none, some (.int (zI (hs 0))), none, none]) ⟨rfl, rfl, rfl, rfl, rfl, trivial⟩ ?_
          exact lp1 (10 - hs 0).toNat (hs 0) hs xs tp h (by omega) (by omega) hC hD ok (fun j r1 r2 => rfl) (fun y hy => rfl) (by rw [eLO, eT]; exact scn_low hdg hp.1 hsf (by omega) (by omega) (hs 0).toNat (by omega)) ⟨htp.1, Int.le_refl _⟩
        · refine jl_iconst (v := zI (0)) d_Cy_search_50 (by decide) ?_
          refine jl_goto (tgt := 62) d_Cy_search_51 (by decide) ?_
          refine jl_istore (L' := [some (.ref (cy)), some (.int (zI (s))), some (.int (zI ((LD : Int)))), some (.int (zI (dv))), some (.int (zI (0))), none, none, none]) d_Cy_search_62 (by decide) rfl ?_
          refine jl_iload d_Cy_search_64 rfl ?_
          refine jl_istore (L' := [some (.ref (cy)), some (.int (zI (s))), some (.int (zI ((LD : Int)))), some (.int (zI (dv))), some (.int (zI (0))), some (.int (zI (0))), none, none]) d_Cy_search_66 (by decide) rfl ?_
          refine jl_less (L' := [some (.ref (cy)), some (.int (zI (s))), some (.int (zI ((LD : Int)))), some (.int (zI (dv))), none, some (.int (zI (0))), none, none]) ⟨rfl, rfl, rfl, rfl, rfl, trivial⟩ ?_
          exact lp1 10 0 hs xs tp h (by omega) (by omega) hC hD ok (fun j r1 r2 => rfl) (fun y hy => rfl) (by rw [show (0 : Int).toNat * T9 = 0 from Nat.zero_mul T9]; rfl) ⟨htp.1, Int.le_refl _⟩
      · exact absurd q1 (by decide)
    · omega
set_option maxHeartbeats 4000000 in
set_option maxRecDepth 100000 in
theorem k_C_find {l : Launch} {G : jl_G} {d n : Nat} {h : Nat → va_E} {Kr : Option Value → Nat → (Nat → va_E) → Prop} {Kx : String → Nat → (Nat → va_E) → Prop} (hl9 : l.stackTraces = false) (hdd : 12 ≤ d) {cy : Nat} {tq m p b c : Int} {hs cs xs sc : Nat → Int} (hC : h cy = jO 1 [.ref (cy + 1), .int (zI (tq))]) (hD : jD h (cy + 1) m p hs cs xs sc) (ok : jOk m p hs cs xs) (hb : 1 ≤ b ∧ b ≤ 4) (hc9 : 0 ≤ c ∧ c < 2147483648) (hk : ∀ (hs' cs' xs' sc' : Nat → Int) h', h' cy = jO 1 [.ref (cy + 1), .int (zI (scn b 0 (10 ^ b.toNat) c).2)] → jD h' (cy + 1) 0 b hs' cs' xs' sc' → jOk 0 b hs' cs' xs' → jfr h h' cy (cy + 6) → Kr (some (.int (zI (scn b 0 (10 ^ b.toNat) c).1))) n h') : jl_Call l G m_Cy_find d [.ref (cy), .int (zI (b)), .int (zI (c))] n h 0 0 Kr Kx := by
  refine jl_enter hl9 (by decide) rfl (by simp [Value.category]) (Nat.le_of_ble_eq_true rfl) ?_
  show jl_AW l G (jl_F G Kr Kx) m_Cy_find d 0 [some (.ref (cy)), some (.int (zI (b))), some (.int (zI (c)))] [] n h 0 0
  obtain ⟨v01, v11, v21, v31, v41⟩ := id (hD)
  refine jl_aload_n d_Cy_find_0 rfl rfl ?_
  refine jg_1 (q := 0) d_Cy_find_1 hC rfl (by decide) fw_Cy_12 ?_
  refine jl_iconst (v := zI (0)) d_Cy_find_4 (by decide) ?_
  refine jl_iload_n d_Cy_find_5 rfl rfl ?_
  refine jl_invV (M' := m_Dr_clear) (d' := d - 1) (ck' := 0) (sk' := 0) (na := 2) (as := [.int (zI (0)), .int (zI (b))]) (st := []) d_Cy_find_6 rfl v01 rfl mw_Cy_18 ww_Dr_clear sw_Dr_clear nw_Dr cw_Dr_clear rfl rfl rfl (by decide +kernel) (by omega) (Nat.le_of_ble_eq_true rfl) (Nat.le_of_ble_eq_true rfl) ?_
  refine k_D_clear hl9 (by omega) hD (fun h2 hD2 hf2 => ?_)
  show jl_AW _ _ _ _ _ 9 [some (.ref (cy)), some (.int (zI (b))), some (.int (zI (c)))] [] n h2 _ _
  have hC2 : h2 cy = jO 1 [.ref (cy + 1), .int (zI (tq))] := by rw [hf2 _ (by omega)]; exact hC
  refine jl_aload_n d_Cy_find_9 rfl rfl ?_
  refine jl_iload_n d_Cy_find_10 rfl rfl ?_
  refine jp_1 (q := 1) (ty := .int) d_Cy_find_11 hC2 (by simp) (by decide) fw_Cy_22 rfl (by decide +kernel) (fun _ _ => rfl) (fun _ _ => rfl) (fun h1 eh1 => ?_)
  have eh1 : h1 = va_up h2 (cy) (jO 1 [.ref (cy + 1), .int (zI (c))]) := eh1
  have jf2 : h1 (cy) = jO 1 [.ref (cy + 1), .int (zI (c))] := by rw [eh1, va_up_self]
  have hD3 := jD_fr (h' := h1) (fun y r1 r2 => by rw [eh1, va_up_ne _ _ (by omega)]) hD2
  refine jl_aload_n d_Cy_find_14 rfl rfl ?_
  refine jl_iconst (v := zI (0)) d_Cy_find_15 (by decide) ?_
  refine jl_iconst (v := zI (0)) d_Cy_find_16 (by decide) ?_
  refine jl_iconst (v := zI (0)) d_Cy_find_17 (by decide) ?_
  have ok3 : jOk 0 b (jfill 48 0 hs) (jfill 16 1 cs) (jfill 16 0 xs) := jOk_clear ok hb (by decide)
  refine jl_invV (M' := m_Cy_search) (d' := d - 1) (ck' := 0) (sk' := 0) (na := 3) (as := [.int (zI (0)), .int (zI (0)), .int (zI (0))]) (st := []) d_Cy_find_18 rfl jf2 rfl mw_Cy_26 ww_Cy_search sw_Cy_search nw_Cy cw_Cy_search rfl rfl rfl (by decide +kernel) (by omega) (Nat.le_of_ble_eq_true rfl) (Nat.le_of_ble_eq_true rfl) ?_
  refine k_C_search (dv := 0) (LD := 0) hl9 hb b.toNat (by omega) jf2 hD3 ok3 (by omega) (by decide) ⟨hc9.1, hc9.2⟩ ⟨by decide, by decide, fun j r1 r2 => by omega⟩ ⟨by decide, fun k r1 r2 => ⟨fun q => (by rw [Nat.zero_testBit] at q; cases q), fun ⟨j, r3, r4, _⟩ => by omega⟩, fun a b r1 r2 r3 => by omega⟩ (fun hs4 xs4 h4 hC4 hD4 ok4 hag4 hfr4 => ?_)
  rw [Int.zero_mul] at hC4 ⊢
  show jl_AW _ _ _ _ _ 21 [some (.ref (cy)), some (.int (zI (b))), some (.int (zI (c)))] [.int (zI ((scn b 0 (10 ^ b.toNat) c).1))] n h4 _ _
  exact jl_iret d_Cy_find_21 rfl (hk hs4 _ xs4 _ h4 hC4 hD4 ok4 (fun y hy => by rw [hfr4 y hy, eh1, va_up_ne _ _ (by omega)]; exact hf2 y (by omega)))
set_option maxHeartbeats 4000000 in
set_option maxRecDepth 100000 in
theorem k_cycle {l : Launch} {G : jl_G} {d n : Nat} {h : Nat → va_E} {Kr : Option Value → Nat → (Nat → va_E) → Prop} {Kx : String → Nat → (Nat → va_E) → Prop} (hl9 : l.stackTraces = false) (hdd : 13 ≤ d) {x i sh jo co g : Nat} {cy : Nat} {tq m p b c : Int} {hs cs xs sc : Nat → Int} (hS : h x = jO 5 [.ref (i), .ref (sh), .ref (jo), .ref (co), .ref (cy), .ref (g)]) (hC : h cy = jO 1 [.ref (cy + 1), .int (zI (tq))]) (hD : jD h (cy + 1) m p hs cs xs sc) (ok : jOk m p hs cs xs) (hb : zR b) (hc9 : zR c) (hk : ((1 ≤ b ∧ b ≤ 4) ∧ 0 ≤ c) → ¬ (scn b 0 (10 ^ b.toNat) c).1 = -1 → ∀ (hs' cs' xs' sc' : Nat → Int) (tq' : Int) h', h' cy = jO 1 [.ref (cy + 1), .int (zI tq')] → jD h' (cy + 1) 0 b hs' cs' xs' sc' → jOk 0 b hs' cs' xs' → jfr h h' cy (cy + 6) → Kr (some (.int (zI (scn b 0 (10 ^ b.toNat) c).1))) n h') (hx1 : ¬ ((1 ≤ b ∧ b ≤ 4) ∧ 0 ≤ c) → Kx "java/lang/IllegalArgumentException" n h) (hx2 : ((1 ≤ b ∧ b ≤ 4) ∧ 0 ≤ c) → (scn b 0 (10 ^ b.toNat) c).1 = -1 → ∀ (hs' cs' xs' sc' : Nat → Int) (tq' : Int) h', h' cy = jO 1 [.ref (cy + 1), .int (zI tq')] → jD h' (cy + 1) 0 b hs' cs' xs' sc' → jOk 0 b hs' cs' xs' → jfr h h' cy (cy + 6) → Kx "java/util/NoSuchElementException" n h') : jl_Call l G m_St_cycle d [.ref (x), .int (zI (b)), .int (zI (c))] n h 1 6 Kr Kx := by
  refine jl_enter hl9 (by decide) rfl (by simp [Value.category]) (Nat.le_of_ble_eq_true rfl) ?_
  show jl_AW l G (jl_F G Kr Kx) m_St_cycle d 0 [some (.ref (x)), some (.int (zI (b))), some (.int (zI (c))), none] [] n h 1 6
  refine jl_iload_n d_St_cycle_0 rfl rfl ?_
  refine jl_iconst (v := zI (1)) d_St_cycle_1 (by decide) ?_
  refine jz_icmp_lt (tgt := 14) d_St_cycle_2 (by decide) ⟨by omega, by omega⟩ ⟨by omega, by omega⟩ (fun q1 => ?_) (fun q1 => ?_)
  · exact jl_throw (B := []) (text := "no such length or number of a cycle") d_St_cycle_14 d_St_cycle_17 d_St_cycle_18 d_St_cycle_20 d_St_cycle_23 rfl (by decide) (by decide) kw_St_48 xw_IAE zw_St_190 tw_52.1 tw_52.2.1 (tg_52_48) (by decide) (Nat.le_of_ble_eq_true rfl) (hx1 (by omega))
  · refine jl_iload_n d_St_cycle_5 rfl rfl ?_
    refine jl_iconst (v := zI (4)) d_St_cycle_6 (by decide) ?_
    refine jz_icmp_gt (tgt := 14) d_St_cycle_7 (by decide) ⟨by omega, by omega⟩ ⟨by omega, by omega⟩ (fun q2 => ?_) (fun q2 => ?_)
    · exact jl_throw (B := []) (text := "no such length or number of a cycle") d_St_cycle_14 d_St_cycle_17 d_St_cycle_18 d_St_cycle_20 d_St_cycle_23 rfl (by decide) (by decide) kw_St_48 xw_IAE zw_St_190 tw_52.1 tw_52.2.1 (tg_52_48) (by decide) (Nat.le_of_ble_eq_true rfl) (hx1 (by omega))
    · refine jl_iload_n d_St_cycle_10 rfl rfl ?_
      refine jz_if_ge (tgt := 24) d_St_cycle_11 (by decide) ⟨by omega, by omega⟩ (fun q3 => ?_) (fun q3 => ?_)
      · refine jl_aload_n d_St_cycle_24 rfl rfl ?_
        refine jg_5 (q := 4) d_St_cycle_25 hS rfl (by decide) fw_St_37 ?_
        refine jl_iload_n d_St_cycle_28 rfl rfl ?_
        refine jl_iload_n d_St_cycle_29 rfl rfl ?_
        have hrg := scn_rg (n := b) (10 ^ b.toNat) 0 c (by decide)
        have hp4 : (10 : Nat) ^ b.toNat ≤ 10 ^ 4 := Nat.pow_le_pow_right (by decide) (by omega)
        have hp5 : (10 : Nat) ^ 4 = 10000 := by decide
        refine jl_invV (M' := m_Cy_find) (d' := d - 1) (ck' := 0) (sk' := 0) (na := 2) (as := [.int (zI (b)), .int (zI (c))]) (st := []) d_St_cycle_30 rfl hC rfl mw_St_192 ww_Cy_find sw_Cy_find nw_Cy cw_Cy_find rfl rfl rfl (by decide +kernel) (by omega) (Nat.le_of_ble_eq_true rfl) (Nat.le_of_ble_eq_true rfl) ?_
        refine k_C_find hl9 (by omega) hC hD ok ⟨by omega, by omega⟩ ⟨by omega, hc9.2⟩ (fun hs4 cs4 xs4 sc4 h4 hC4 hD4 ok4 hf4 => ?_)
        show jl_AW _ _ _ _ _ 33 [some (.ref (x)), some (.int (zI (b))), some (.int (zI (c))), none] [.int (zI ((scn b 0 (10 ^ b.toNat) c).1))] n h4 _ _
        refine jl_istore_n (L' := [some (.ref (x)), some (.int (zI (b))), some (.int (zI (c))), some (.int (zI ((scn b 0 (10 ^ b.toNat) c).1)))]) d_St_cycle_33 rfl (by decide) rfl ?_
        refine jl_iload_n d_St_cycle_34 rfl rfl ?_
        refine jl_iconst (v := zI (-1)) d_St_cycle_35 (by decide) ?_
        refine jz_icmp_ne (tgt := 49) d_St_cycle_36 (by decide) ⟨by omega, by omega⟩ ⟨by omega, by omega⟩ (fun q4 => ?_) (fun q4 => ?_)
        · refine jl_iload_n d_St_cycle_49 rfl rfl ?_
          exact jl_iret d_St_cycle_50 rfl (hk (by omega) q4 _ _ _ _ _ h4 hC4 hD4 ok4 hf4)
        · exact jl_throwX (ix := 13) (rx := prog_19_method_4_code) (by decide +kernel) (by decide +kernel) (by decide +kernel) (by decide +kernel) (B := []) (names := ["java/lang/RuntimeException", "java/lang/Exception"]) (text := "there are not so many cycles") d_St_cycle_39 d_St_cycle_42 d_St_cycle_43 d_St_cycle_45 d_St_cycle_48 rfl (by decide) (by decide) kw_St_151 xw_NSE zw_St_195 twx_155.1 twx_155.2 (hgx_155).1 hgx_155.2 (by decide) (Nat.le_of_ble_eq_true rfl) (hx2 (by omega) q4 _ _ _ _ _ h4 hC4 hD4 ok4 hf4)
      · exact jl_throw (B := []) (text := "no such length or number of a cycle") d_St_cycle_14 d_St_cycle_17 d_St_cycle_18 d_St_cycle_20 d_St_cycle_23 rfl (by decide) (by decide) kw_St_48 xw_IAE zw_St_190 tw_52.1 tw_52.2.1 (tg_52_48) (by decide) (Nat.le_of_ble_eq_true rfl) (hx1 (by omega))
