theorem zI_and31 (b : Int) : zI b &&& zI 31 = zI (b % 32) := by
  rw [pk_and (zI b) (m := zI 31) 5 (by decide)]
  have e : (zI b).toBitVec.toNat = (b % 4294967296).toNat := by
    show (BitVec.ofInt 32 b).toNat = _
    rw [BitVec.toNat_ofInt]
    rfl
  rw [e]
  show Int32.ofNat _ = Int32.ofInt _
  rw [← Int32.ofInt_eq_ofNat]
  congr 1
  omega
theorem LI_up {t n : Nat} {h : Nat → va_E} (H : LI t n h) : LI (t + 1) n h := by
  obtain ⟨M, a1, a2, a3, a4, a5, a6, a7, a8, a9, a10, a11⟩ := H
  exact ⟨M, a1, a2, a3, a4, a5, a6, a7, a8, a9, a10, lF_fr (fun _ _ _ => rfl) (sm5_rf M 7) ⟨rfl, rfl, rfl, rfl, rfl, rfl⟩ (by omega) a11⟩
section JNL
variable {l : Launch} {G : jl_G} {F : List Frame → Array Value → State → Nat → Nat → (Nat → Nat) → Nat → State → Prop} {M : jl_M} {d pc : Nat} {L : List (Option Value)} {st : List Value} {n : Nat} {h : Nat → va_E} {ck sk : Nat}
theorem jz_newl (hd : decode M.2.1 pc = .ok (.newarray .long, 2)) (k : ∀ h2, h2 = va_up h n (jJ 1 (fun _ => 0)) → jl_AW l G F M d (pc + 2) L (.ref n :: st) (n + 1) h2 ck sk) : jl_AW l G F M d pc L (.int (zI 1) :: st) n h (ck + 1) (sk + 1) := by
  refine jl_newa (t := 1) (ty := .long) (z := .inr (.inl (fun _ => 0))) hd rfl rfl aw_long (fun cA => rfl) (fun al => rfl) (fun f hf => by cases hf) (by decide) (by decide) (by decide) (k _ rfl)
end JNL
theorem lw_m0 : mOk (frM (mkM 0 (fun _ => 0) (fun _ => 0) (fun _ => 0) (fun _ => 0) (fun _ => 0) (-1) 0 0 (fun _ => 0) (fun _ => 0) 0 0 0 0 (fun _ => 0) (fun _ => 0) (fun _ => 0) (fun _ => 0) (fun _ => 0) (fun _ => 0)) 0 1 16) :=
  frM_ok ⟨fun _ => (show (0 : Int) ≤ 0 ∧ (0 : Int) ≤ 2 by decide), fun _ => (show (0 : Int) ≤ 0 ∧ (0 : Int) ≤ 16 by decide), fun _ => (show (0 : Int) ≤ 0 ∧ (0 : Int) ≤ 9 by decide), fun _ => (show (0 : Int) ≤ 0 ∧ (0 : Int) ≤ 3 by decide), fun _ => Or.inl rfl⟩ (by decide) (by decide)
theorem lw_d0 : dK 0 1 (fun _ => 0) (va_up (fun _ => 0) (0 : Int).toNat 1) (fun _ => 0) (frM (mkM 0 (fun _ => 0) (fun _ => 0) (fun _ => 0) (fun _ => 0) (fun _ => 0) (-1) 0 0 (fun _ => 0) (fun _ => 0) 0 0 0 0 (fun _ => 0) (fun _ => 0) (fun _ => 0) (fun _ => 0) (fun _ => 0) (fun _ => 0)) 0 1 16) 0 := by
  have e1 : ∀ s : Nat, (s : Int) < 1 → s = 0 := fun s hs => by omega
  refine dK_0 ⟨by decide, by decide, fun _ => (show (0 : Int) ≤ 0 ∧ (0 : Int) ≤ 9 by decide), va_up_P (P := fun v => 0 ≤ v ∧ v ≤ 3) (fun _ => (show (0 : Int) ≤ 0 ∧ (0 : Int) ≤ 3 by decide)) (by decide), fun _ => Or.inl rfl, fun q => absurd q (by decide)⟩ (fun s hs => ?_) (fun _ _ _ => rfl) ⟨fun _ _ => rfl, fun j hj => va_up_ne _ _ (fun q => by have : j = 0 := q; omega), fun _ _ => rfl⟩ (va_up_self (fun _ => (0 : Int)) (0 : Int).toNat 0) (va_up_self (fun _ => (0 : Int)) (0 : Int).toNat 1) (fun s hs => ?_)
  · rw [e1 s hs]
    exact ⟨by decide, by decide, fun _ => rfl⟩
  · rw [e1 s hs]
    refine ⟨rfl, rfl, fun k hk => ?_⟩
    have hk1 : (k : Int) < 1 := hk
    have ek : k = 0 := by omega
    subst ek
    rfl
theorem lw_p0x (k : Nat) : (frM (mkM 0 (fun _ => 0) (fun _ => 0) (fun _ => 0) (fun _ => 0) (fun _ => 0) (-1) 0 0 (fun _ => 0) (fun _ => 0) 0 0 0 0 (fun _ => 0) (fun _ => 0) (fun _ => 0) (fun _ => 0) (fun _ => 0) (fun _ => 0)) 0 1 16).pe (1 + (k : Int)).toNat = 0 := va_up_ne (fun _ => (0 : Int)) _ (fun q => by have : (1 + (k : Int)).toNat = 0 := q; omega)
theorem lw_p07 : (frM (mkM 0 (fun _ => 0) (fun _ => 0) (fun _ => 0) (fun _ => 0) (fun _ => 0) (-1) 0 0 (fun _ => 0) (fun _ => 0) 0 0 0 0 (fun _ => 0) (fun _ => 0) (fun _ => 0) (fun _ => 0) (fun _ => 0) (fun _ => 0)) 0 1 16).pe (7 : Int).toNat = 0 := rfl
set_option maxHeartbeats 4000000 in
set_option maxRecDepth 100000 in
theorem lw_loop {l : Launch} {G : jl_G} {F : List Frame → Array Value → State → Nat → Nat → (Nat → Nat) → Nat → State → Prop} {d : Nat} {z : UInt32} (hl9 : l.stackTraces = false) (hd9 : 20 ≤ d) (hlen : G.2.2.2.2.1 ≤ 2048) (hend : ∀ (L : List (Option Value)) (n : Nat) (h : Nat → va_E) (ck sk : Nat), jl_AW l G F m_Lw_law d 1412 L [.int (zI 1)] n h ck sk) : ∀ (k t n : Nat) (h : Nat → va_E), t + k = G.2.2.2.2.1 / 4 → LI t n h → jl_AW l G F m_Lw_law d 23 [some (.float (z)), some (.ref (0)), some (.ref (28)), some (.ref (42)), some (.int (zI (((4 * t : Nat) : Int)))), none, none] [] n h (6 * k) (108 * k) := by
  intro k
  induction k using Nat.strongRecOn with
  | ind k ih =>
    intro t n h hkt hI
    refine jl_iload d_Lw_law_23 rfl ?_
    refine jl_sload_n d_Lw_law_25 rfl rfl ?_
    refine jl_slen d_Lw_law_26 (jz_int (zI_nat _) ?_)
    refine jl_iconst (v := zI (4)) d_Lw_law_27 (by decide) ?_
    refine jz_isub (v := (G.2.2.2.2.1 : Int) - 4) d_Lw_law_28 (by omega) ?_
    refine jz_icmp_gt (tgt := 1411) d_Lw_law_29 (by decide) ⟨by omega, by omega⟩ ⟨by omega, by omega⟩ (fun hc => ?_) (fun hc => ?_)
    · refine jl_iconst (v := zI (1)) d_Lw_law_1411 (by decide) ?_
      exact hend _ _ _ _ _
    · obtain ⟨k2, ek⟩ : ∃ k2, k = k2 + 1 := ⟨k - 1, by omega⟩
      subst ek
      have hnext : ∀ n' h', LI (t + 1) n' h' → jl_AW l G F m_Lw_law d 1405 [some (.float (z)), some (.ref (0)), some (.ref (28)), some (.ref (42)), some (.int (zI (((4 * t : Nat) : Int)))), none, none] [] n' h' (6 * k2) (108 * k2) := by
        intro n' h' hI2
        refine jz_iinc (v := ((4 * (t + 1) : Nat) : Int)) (L' := [some (.float (z)), some (.ref (0)), some (.ref (28)), some (.ref (42)), some (.int (zI (((4 * (t + 1) : Nat) : Int)))), none, none]) d_Lw_law_1405 rfl (by omega) (by decide) rfl ?_
        refine jl_goto (tgt := 23) d_Lw_law_1408 (by decide) ?_
        exact ih k2 (by omega) (t + 1) n' h' (by omega) hI2
      have hcz := scr_z G (4 * t)
      refine jl_sload_n d_Lw_law_32 rfl rfl ?_
      refine jl_iload d_Lw_law_33 rfl ?_
      refine jz_sld (k9 := 4 * t) d_Lw_law_35 rfl (by omega) hlen ?_
      refine jl_bipush (v := zI (31)) d_Lw_law_36 (by decide) ?_
      refine jl_iand d_Lw_law_38 (jz_int (zI_and31 _) ?_)
      generalize hc9 : scr G (4 * t) % 32 = c9
      have hcr : 0 ≤ c9 ∧ c9 < 32 := by omega
      by_cases e0 : c9 = 0
      · exact jl_tabIn (off := 105) (tgt := 144) d_Lw_law_39 ⟨by omega, by omega⟩ (by omega) (by omega) (by rw [e0]; rfl) (by decide) (jl_AW_le (by omega) (by omega) (lw_begin hl9 hd9 hlen (by omega) hI hnext))
      by_cases e1 : c9 = 1
      · exact jl_tabIn (off := 173) (tgt := 212) d_Lw_law_39 ⟨by omega, by omega⟩ (by omega) (by omega) (by rw [e1]; rfl) (by decide) (jl_AW_le (by omega) (by omega) (lw_put hl9 hd9 hlen (by omega) hI hnext))
      by_cases e2 : c9 = 2
      · exact jl_tabIn (off := 269) (tgt := 308) d_Lw_law_39 ⟨by omega, by omega⟩ (by omega) (by omega) (by rw [e2]; rfl) (by decide) (jl_AW_le (by omega) (by omega) (lw_add hl9 hd9 hlen (by omega) hI hnext))
      by_cases e3 : c9 = 3
      · exact jl_tabIn (off := 337) (tgt := 376) d_Lw_law_39 ⟨by omega, by omega⟩ (by omega) (by omega) (by rw [e3]; rfl) (by decide) (jl_AW_le (by omega) (by omega) (lw_valid hl9 hd9 hlen (by omega) hI hnext))
      by_cases e4 : c9 = 4
      · exact jl_tabIn (off := 350) (tgt := 389) d_Lw_law_39 ⟨by omega, by omega⟩ (by omega) (by omega) (by rw [e4]; rfl) (by decide) (jl_AW_le (by omega) (by omega) (lw_clash hl9 hd9 hlen (by omega) hI hnext))
      by_cases e5 : c9 = 5
      · exact jl_tabIn (off := 363) (tgt := 402) d_Lw_law_39 ⟨by omega, by omega⟩ (by omega) (by omega) (by rw [e5]; rfl) (by decide) (jl_AW_le (by omega) (by omega) (lw_balls hl9 hd9 hlen (by omega) hI hnext))
      by_cases e6 : c9 = 6
      · exact jl_tabIn (off := 407) (tgt := 446) d_Lw_law_39 ⟨by omega, by omega⟩ (by omega) (by omega) (by rw [e6]; rfl) (by decide) (jl_AW_le (by omega) (by omega) (lw_state hl9 hd9 hlen (by omega) hI hnext))
      by_cases e7 : c9 = 7
      · exact jl_tabIn (off := 463) (tgt := 502) d_Lw_law_39 ⟨by omega, by omega⟩ (by omega) (by omega) (by rw [e7]; rfl) (by decide) (jl_AW_le (by omega) (by omega) (lw_swap hl9 hd9 hlen (by omega) hI hnext))
      by_cases e8 : c9 = 8
      · exact jl_tabIn (off := 538) (tgt := 577) d_Lw_law_39 ⟨by omega, by omega⟩ (by omega) (by omega) (by rw [e8]; rfl) (by decide) (jl_AW_le (by omega) (by omega) (lw_canonical hl9 hd9 hlen (by omega) hI hnext))
      by_cases e9 : c9 = 9
      · exact jl_tabIn (off := 582) (tgt := 621) d_Lw_law_39 ⟨by omega, by omega⟩ (by omega) (by omega) (by rw [e9]; rfl) (by decide) (jl_AW_le (by omega) (by omega) (lw_height hl9 hd9 hlen (by omega) hI hnext))
      by_cases e10 : c9 = 10
      · exact jl_tabIn (off := 650) (tgt := 689) d_Lw_law_39 ⟨by omega, by omega⟩ (by omega) (by omega) (by rw [e10]; rfl) (by decide) (jl_AW_le (by omega) (by omega) (lw_save hl9 hd9 hlen (by omega) hI hnext))
      by_cases e11 : c9 = 11
      · exact jl_tabIn (off := 713) (tgt := 752) d_Lw_law_39 ⟨by omega, by omega⟩ (by omega) (by omega) (by rw [e11]; rfl) (by decide) (jl_AW_le (by omega) (by omega) (lw_load hl9 hd9 hlen (by omega) hI hnext))
      by_cases e12 : c9 = 12
      · exact jl_tabIn (off := 769) (tgt := 808) d_Lw_law_39 ⟨by omega, by omega⟩ (by omega) (by omega) (by rw [e12]; rfl) (by decide) (jl_AW_le (by omega) (by omega) (lw_join hl9 hd9 hlen (by omega) hI hnext))
      by_cases e13 : c9 = 13
      · exact jl_tabIn (off := 837) (tgt := 876) d_Lw_law_39 ⟨by omega, by omega⟩ (by omega) (by omega) (by rw [e13]; rfl) (by decide) (jl_AW_le (by omega) (by omega) (lw_joinThrow hl9 hd9 hlen (by omega) hI hnext))
      by_cases e14 : c9 = 14
      · exact jl_tabIn (off := 893) (tgt := 932) d_Lw_law_39 ⟨by omega, by omega⟩ (by omega) (by omega) (by rw [e14]; rfl) (by decide) (jl_AW_le (by omega) (by omega) (lw_joinAt hl9 hd9 hlen (by omega) hI hnext))
      by_cases e15 : c9 = 15
      · exact jl_tabIn (off := 949) (tgt := 988) d_Lw_law_39 ⟨by omega, by omega⟩ (by omega) (by omega) (by rw [e15]; rfl) (by decide) (jl_AW_le (by omega) (by omega) (lw_countValid hl9 hd9 hlen (by omega) hI hnext))
      by_cases e16 : c9 = 16
      · exact jl_tabIn (off := 1017) (tgt := 1056) d_Lw_law_39 ⟨by omega, by omega⟩ (by omega) (by omega) (by rw [e16]; rfl) (by decide) (jl_AW_le (by omega) (by omega) (lw_cycle hl9 hd9 hlen (by omega) hI hnext))
      by_cases e17 : c9 = 17
      · exact jl_tabIn (off := 1085) (tgt := 1124) d_Lw_law_39 ⟨by omega, by omega⟩ (by omega) (by omega) (by rw [e17]; rfl) (by decide) (jl_AW_le (by omega) (by omega) (lw_show hl9 hd9 hlen (by omega) hI hnext))
      by_cases e18 : c9 = 18
      · exact jl_tabIn (off := 1129) (tgt := 1168) d_Lw_law_39 ⟨by omega, by omega⟩ (by omega) (by omega) (by rw [e18]; rfl) (by decide) (jl_AW_le (by omega) (by omega) (lw_run hl9 hd9 hlen (by omega) hI hnext))
      by_cases e19 : c9 = 19
      · exact jl_tabIn (off := 1185) (tgt := 1224) d_Lw_law_39 ⟨by omega, by omega⟩ (by omega) (by omega) (by rw [e19]; rfl) (by decide) (jl_AW_le (by omega) (by omega) (lw_ball hl9 hd9 hlen (by omega) hI hnext))
      by_cases e20 : c9 = 20
      · exact jl_tabIn (off := 1241) (tgt := 1280) d_Lw_law_39 ⟨by omega, by omega⟩ (by omega) (by omega) (by rw [e20]; rfl) (by decide) (jl_AW_le (by omega) (by omega) (lw_hand hl9 hd9 hlen (by omega) hI hnext))
      by_cases e21 : c9 = 21
      · exact jl_tabIn (off := 1297) (tgt := 1336) d_Lw_law_39 ⟨by omega, by omega⟩ (by omega) (by omega) (by rw [e21]; rfl) (by decide) (jl_AW_le (by omega) (by omega) (lw_highest hl9 hd9 hlen (by omega) hI hnext))
      by_cases e22 : c9 = 22
      · exact jl_tabIn (off := 1310) (tgt := 1349) d_Lw_law_39 ⟨by omega, by omega⟩ (by omega) (by omega) (by rw [e22]; rfl) (by decide) (jl_AW_le (by omega) (by omega) (lw_floor hl9 hd9 hlen (by omega) hI hnext))
      exact jl_tabOut (tgt := 1405) d_Lw_law_39 ⟨by omega, by omega⟩ (Or.inr (by omega)) (by decide) (jl_AW_le (by omega) (by omega) (hnext n h (LI_up hI)))
set_option maxHeartbeats 4000000 in
set_option maxRecDepth 100000 in
theorem lw_begins {l : Launch} {G : jl_G} {F : List Frame → Array Value → State → Nat → Nat → (Nat → Nat) → Nat → State → Prop} {d : Nat} {z : UInt32} {h : Nat → va_E} (hl9 : l.stackTraces = false) (hd9 : 20 ≤ d) (hlen : G.2.2.2.2.1 ≤ 2048) (hend : ∀ (L : List (Option Value)) (n : Nat) (h : Nat → va_E) (ck sk : Nat), jl_AW l G F m_Lw_law d 1412 L [.int (zI 1)] n h ck sk) : jl_AW l G F m_Lw_law d 0 [some (.float (z)), none, none, none, none, none, none] [] 0 h (3115) (70228) := by
  refine jl_new (ci := 5) (fs := [.null, .null, .null, .null, .null, .null]) d_Lw_law_0 rfl ij_St tk_St (fun j hj => by rcases (show j = 0 ∨ j = 1 ∨ j = 2 ∨ j = 3 ∨ j = 4 ∨ j = 5 by omega) with rfl | rfl | rfl | rfl | rfl | rfl <;> rfl) (fun _ _ => rfl) (by simp [jl_okv]) kw_Lw_8 vw_St nw_St ?_
  obtain ⟨h1, eh1⟩ : ∃ z, z = va_up h (0) (jO 5 [.null, .null, .null, .null, .null, .null]) := ⟨_, rfl⟩
  rw [← eh1]
  have jf2 : h1 (0) = jO 5 [.null, .null, .null, .null, .null, .null] := by rw [eh1, va_up_self]
  refine jl_dup d_Lw_law_3 rfl ?_
  refine jl_invI0 (M' := m_St_init) (d' := d - 1) (ck' := 27) (sk' := 5442) (na := 0) (as := []) (st := [.ref (0)]) d_Lw_law_4 rfl mw_Lw_83 ww_St_init rfl nw_St cw_St_init rfl rfl rfl (by decide +kernel) (by omega) (Nat.le_of_ble_eq_true rfl) (Nat.le_of_ble_eq_true rfl) ?_
  refine k_X_init (i := 0) hl9 (by omega) jf2 (fun hA hX0 _ => ?_)
  show jl_AW _ _ _ _ _ 7 [some (.float (z)), none, none, none, none, none, none] [.ref (0)] 28 hA _ _
  obtain ⟨x0, x1, x2, x3, x4, x5, x6, x7⟩ := hX0
  refine jl_astore_n (L' := [some (.float (z)), some (.ref (0)), none, none, none, none, none]) d_Lw_law_7 rfl (by decide) rfl ?_
  refine jl_new (ci := 6) (fs := [.int (zI (0)), .null, .null, .null, .null, .null, .int (zI (0)), .int (zI (0)), .int (zI (0)), .null, .null, .int (zI (0)), .int (zI (0)), .int (zI (0)), .int (zI (0)), .null, .null, .null, .null, .null, .null]) d_Lw_law_8 rfl ij_Md tk_Md (fun j hj => by rcases (show j = 0 ∨ j = 1 ∨ j = 2 ∨ j = 3 ∨ j = 4 ∨ j = 5 ∨ j = 6 ∨ j = 7 ∨ j = 8 ∨ j = 9 ∨ j = 10 ∨ j = 11 ∨ j = 12 ∨ j = 13 ∨ j = 14 ∨ j = 15 ∨ j = 16 ∨ j = 17 ∨ j = 18 ∨ j = 19 ∨ j = 20 by omega) with rfl | rfl | rfl | rfl | rfl | rfl | rfl | rfl | rfl | rfl | rfl | rfl | rfl | rfl | rfl | rfl | rfl | rfl | rfl | rfl | rfl <;> rfl) (fun _ _ => rfl) (by simp [jl_okv]) kw_Lw_84 vw_Md nw_Md ?_
  obtain ⟨h3, eh3⟩ : ∃ z, z = va_up hA (28) (jO 6 [.int (zI (0)), .null, .null, .null, .null, .null, .int (zI (0)), .int (zI (0)), .int (zI (0)), .null, .null, .int (zI (0)), .int (zI (0)), .int (zI (0)), .int (zI (0)), .null, .null, .null, .null, .null, .null]) := ⟨_, rfl⟩
  rw [← eh3]
  have jf4 : h3 (28) = jO 6 [.int (zI (0)), .null, .null, .null, .null, .null, .int (zI (0)), .int (zI (0)), .int (zI (0)), .null, .null, .int (zI (0)), .int (zI (0)), .int (zI (0)), .int (zI (0)), .null, .null, .null, .null, .null, .null] := by rw [eh3, va_up_self]
  refine jl_dup d_Lw_law_11 rfl ?_
  refine jl_invI0 (M' := m_Md_init) (d' := d - 1) (ck' := 13) (sk' := 9462) (na := 0) (as := []) (st := [.ref (28)]) d_Lw_law_12 rfl mw_Lw_86 ww_Md_init rfl nw_Md cw_Md_init rfl rfl rfl (by decide +kernel) (by omega) (Nat.le_of_ble_eq_true rfl) (Nat.le_of_ble_eq_true rfl) ?_
  refine k_M_init (u := 28) hl9 (by omega) jf4 (fun hB hM0 hfB => ?_)
  show jl_AW _ _ _ _ _ 15 [some (.float (z)), some (.ref (0)), none, none, none, none, none] [.ref (28)] 42 hB _ _
  have frA : ∀ y, y < 28 → hB y = hA y := fun y hy => by rw [hfB y hy, eh3, va_up_ne _ _ (by omega)]
  refine jl_astore_n (L' := [some (.float (z)), some (.ref (0)), some (.ref (28)), none, none, none, none]) d_Lw_law_15 rfl (by decide) rfl ?_
  refine jl_iconst (v := zI (1)) d_Lw_law_16 (by decide) ?_
  refine jz_newl d_Lw_law_17 (fun hC eC => ?_)
  refine jl_astore_n (L' := [some (.float (z)), some (.ref (0)), some (.ref (28)), some (.ref (42)), none, none, none]) d_Lw_law_19 rfl (by decide) rfl ?_
  refine jl_iconst (v := zI (0)) d_Lw_law_20 (by decide) ?_
  refine jl_istore (L' := [some (.float (z)), some (.ref (0)), some (.ref (28)), some (.ref (42)), some (.int (zI (0))), none, none]) d_Lw_law_21 (by decide) rfl ?_
  have frC : ∀ y, y ≠ 42 → hC y = hB y := fun y hy => by rw [eC]; exact va_up_ne _ _ hy
  have frX : ∀ y, y < 28 → hC y = hA y := fun y hy => by rw [frC y (by omega), frA y hy]
  have hM3 : jM hC 28 (frM (mkM 0 (fun _ => 0) (fun _ => 0) (fun _ => 0) (fun _ => 0) (fun _ => 0) (-1) 0 0 (fun _ => 0) (fun _ => 0) 0 0 0 0 (fun _ => 0) (fun _ => 0) (fun _ => 0) (fun _ => 0) (fun _ => 0) (fun _ => 0)) 0 1 16) := jM_fr (fun y q1 q2 => frC y (by omega)) hM0
  have hLI : LI 0 43 hC := ⟨_, hM3, lw_m0, fun j => (show (0 : Int) ≤ 0 ∧ (0 : Int) ≤ 9 by decide), (frX 0 (by decide)).trans x0, ⟨_, by rw [eC]; exact va_up_self _ _ _⟩, Nat.le_refl 43, ⟨0, 1, _, _, _, _, jD_fr (fun y q1 q2 => frX y (by omega)) x1, lw_d0⟩, ⟨fun _ => none, fun _ => 0, fun _ => 0, fun _ _ => 0, fun _ _ => 0, fun _ _ => 0, ⟨(frX 6 (by decide)).trans x2, fun k o q => (by cases q), fun k k2 o o2 q => (by cases q), fun k o q => (by cases q)⟩, fun k o q => (by cases q), fun k hk _ => lw_p0x k⟩, lJ_fr (fun y q1 q2 => frX y (by omega)) ⟨_, _, _, 0, 0, 0, 0, 0, x3, Or.inl ⟨rfl, rfl, rfl⟩⟩, lCt_fr (fun y q1 q2 => frX y (by omega)) ⟨x4.1, ⟨fun _ => 0, x4.2⟩, 0, 0, 1, _, _, _, _, x5.1, x5.2, lw_d0.1⟩, ⟨0, 0, [], _, 0, 1, _, _, _, _, jFl_fr (fun y hy => frX y (by omega)) x6, jD_fr (fun y q1 q2 => frX y (by omega)) x7, lw_d0.1, lw_d0.2.2.2.1, ⟨by decide, by decide⟩, Or.inl ⟨rfl, lw_p07, rfl, rfl⟩⟩⟩
  have hgo := lw_loop (z := z) hl9 hd9 hlen hend (G.2.2.2.2.1 / 4) 0 43 hC (by omega) hLI
  exact jl_AW_le (by omega) (by omega) hgo
