set_option maxHeartbeats 4000000 in
set_option maxRecDepth 100000 in
theorem k_M_show {l : Launch} {G : jl_G} {d n : Nat} {h : Nat → va_E} {Kr : Option Value → Nat → (Nat → va_E) → Prop} {Kx : String → Nat → (Nat → va_E) → Prop} (hl9 : l.stackTraces = false) (hdd : 4 ≤ d) {u : Nat} {M : MS} {m p : Int} {hs cs xs : Nat → Int} (hM9 : jM h u M) (ok : mOk M) (hR : dRl m p hs cs xs (M.mo (0 : Int).toNat) (M.pe (0 : Int).toNat) (hM M 0) (cM M 0) (xM M 0)) (ok7 : jOk m p hs cs xs) (hi : dIn m p cs) (hk1 : sp_ev (M.mo (0 : Int).toNat) (M.pe (0 : Int).toNat) (hM M 0) (cM M 0) (xM M 0) → ∀ (la ha : Nat → Int) (h' : Nat → va_E), mBl (mkM (cpM (M.wT 0) 0 7 16 48).T (cpM (M.wT 0) 0 7 16 48).mo (cpM (M.wT 0) 0 7 16 48).pe (cpM (M.wT 0) 0 7 16 48).co (cpM (M.wT 0) 0 7 16 48).he (cpM (M.wT 0) 0 7 16 48).cr (cpM (M.wT 0) 0 7 16 48).jn (cpM (M.wT 0) 0 7 16 48).ja (cpM (M.wT 0) 0 7 16 48).jb (cpM (M.wT 0) 0 7 16 48).wy (cpM (M.wT 0) 0 7 16 48).fa 0 ((moA m p hs cs xs 9).length : Int) 0 0 la ha (cpM (M.wT 0) 0 7 16 48).w1 (cpM (M.wT 0) 0 7 16 48).mr (cpM (M.wT 0) 0 7 16 48).rw (cpM (M.wT 0) 0 7 16 48).tu) (moA m p hs cs xs 9) → jM h' u (mkM (cpM (M.wT 0) 0 7 16 48).T (cpM (M.wT 0) 0 7 16 48).mo (cpM (M.wT 0) 0 7 16 48).pe (cpM (M.wT 0) 0 7 16 48).co (cpM (M.wT 0) 0 7 16 48).he (cpM (M.wT 0) 0 7 16 48).cr (cpM (M.wT 0) 0 7 16 48).jn (cpM (M.wT 0) 0 7 16 48).ja (cpM (M.wT 0) 0 7 16 48).jb (cpM (M.wT 0) 0 7 16 48).wy (cpM (M.wT 0) 0 7 16 48).fa 0 ((moA m p hs cs xs 9).length : Int) 0 0 la ha (cpM (M.wT 0) 0 7 16 48).w1 (cpM (M.wT 0) 0 7 16 48).mr (cpM (M.wT 0) 0 7 16 48).rw (cpM (M.wT 0) 0 7 16 48).tu) → jfr h h' u (u + 14) → Kr (some (.int (zI ((moA m p hs cs xs 9).length : Int)))) n h') (hk0 : ¬ sp_ev (M.mo (0 : Int).toNat) (M.pe (0 : Int).toNat) (hM M 0) (cM M 0) (xM M 0) → ∀ h', jM h' u (M.wT 1) → jfr h h' u (u + 14) → Kr (some (.int (zI (0)))) n h') : jl_Call l G m_Md_show d [.ref (u)] n h 0 0 Kr Kx := by
  refine jl_enter hl9 (by decide) rfl (by simp [Value.category]) (Nat.le_of_ble_eq_true rfl) ?_
  show jl_AW l G (jl_F G Kr Kx) m_Md_show d 0 [some (.ref (u)), none, none] [] n h 0 0
  have hp := ok7.2.1
  have hm9 := ok7.1
  obtain ⟨q0, q1, q2, q3, q4, q5, q6, q7, q8, q9, q10, q11, q12, q13⟩ := id (hM9)
  have p0 : h u = jO 6 [.int (zI (M.T)), .ref (u + 1), .ref (u + 2), .ref (u + 3), .ref (u + 4), .ref (u + 5), .int (zI (M.jn)), .int (zI (M.ja)), .int (zI (M.jb)), .ref (u + 6), .ref (u + 7), .int (zI (M.nw)), .int (zI (M.bl)), .int (zI (M.lt)), .int (zI (M.rt)), .ref (u + 8), .ref (u + 9), .ref (u + 10), .ref (u + 11), .ref (u + 12), .ref (u + 13)] := q0
  have p1 : h (u + 1) = jI 8 (fun j9 => zI (M.mo j9)) := q1
  have p2 : h (u + 2) = jI 8 (fun j9 => zI (M.pe j9)) := q2
  have p3 : h (u + 3) = jI 128 (fun j9 => zI (M.co j9)) := q3
  have p4 : h (u + 4) = jI 384 (fun j9 => zI (M.he j9)) := q4
  have p5 : h (u + 5) = jZ 128 (fun j9 => zI (M.cr j9)) := q5
  have p6 : h (u + 6) = jI 16 (fun j9 => zI (M.wy j9)) := q6
  have p7 : h (u + 7) = jI 512 (fun j9 => zI (M.fa j9)) := q7
  have p8 : h (u + 8) = jI 32 (fun j9 => zI (M.la j9)) := q8
  have p9 : h (u + 9) = jI 32 (fun j9 => zI (M.ha j9)) := q9
  have p10 : h (u + 10) = jI 4096 (fun j9 => zI (M.w1 j9)) := q10
  have p11 : h (u + 11) = jI 4096 (fun j9 => zI (M.mr j9)) := q11
  have p12 : h (u + 12) = jI 6 (fun j9 => zI (M.rw j9)) := q12
  have p13 : h (u + 13) = jI 16 (fun j9 => zI (M.tu j9)) := q13
  refine jl_aload_n d_Md_show_0 rfl rfl ?_
  refine jl_iconst (v := zI (0)) d_Md_show_1 (by decide) ?_
  refine jp_6 (q := 0) (ty := .int) d_Md_show_2 p0 (by simp) (by decide) fw_Md_58 rfl (by decide +kernel) (fun _ _ => rfl) (fun _ _ => rfl) (fun h1 eh1 => ?_)
  have eh1 : h1 = va_up h (u) (jO 6 [.int (zI (0)), .ref (u + 1), .ref (u + 2), .ref (u + 3), .ref (u + 4), .ref (u + 5), .int (zI (M.jn)), .int (zI (M.ja)), .int (zI (M.jb)), .ref (u + 6), .ref (u + 7), .int (zI (M.nw)), .int (zI (M.bl)), .int (zI (M.lt)), .int (zI (M.rt)), .ref (u + 8), .ref (u + 9), .ref (u + 10), .ref (u + 11), .ref (u + 12), .ref (u + 13)]) := eh1
  have jf2 : h1 (u) = jO 6 [.int (zI (0)), .ref (u + 1), .ref (u + 2), .ref (u + 3), .ref (u + 4), .ref (u + 5), .int (zI (M.jn)), .int (zI (M.ja)), .int (zI (M.jb)), .ref (u + 6), .ref (u + 7), .int (zI (M.nw)), .int (zI (M.bl)), .int (zI (M.lt)), .int (zI (M.rt)), .ref (u + 8), .ref (u + 9), .ref (u + 10), .ref (u + 11), .ref (u + 12), .ref (u + 13)] := by rw [eh1, va_up_self]
  have jf3 : h1 (u + 1) = jI 8 (fun j9 => zI (M.mo j9)) := by rw [eh1, va_up_ne _ _ (by omega)]; exact p1
  have jf4 : h1 (u + 2) = jI 8 (fun j9 => zI (M.pe j9)) := by rw [eh1, va_up_ne _ _ (by omega)]; exact p2
  have jf5 : h1 (u + 3) = jI 128 (fun j9 => zI (M.co j9)) := by rw [eh1, va_up_ne _ _ (by omega)]; exact p3
  have jf6 : h1 (u + 4) = jI 384 (fun j9 => zI (M.he j9)) := by rw [eh1, va_up_ne _ _ (by omega)]; exact p4
  have jf7 : h1 (u + 5) = jZ 128 (fun j9 => zI (M.cr j9)) := by rw [eh1, va_up_ne _ _ (by omega)]; exact p5
  have jf8 : h1 (u + 6) = jI 16 (fun j9 => zI (M.wy j9)) := by rw [eh1, va_up_ne _ _ (by omega)]; exact p6
  have jf9 : h1 (u + 7) = jI 512 (fun j9 => zI (M.fa j9)) := by rw [eh1, va_up_ne _ _ (by omega)]; exact p7
  have jf10 : h1 (u + 8) = jI 32 (fun j9 => zI (M.la j9)) := by rw [eh1, va_up_ne _ _ (by omega)]; exact p8
  have jf11 : h1 (u + 9) = jI 32 (fun j9 => zI (M.ha j9)) := by rw [eh1, va_up_ne _ _ (by omega)]; exact p9
  have jf12 : h1 (u + 10) = jI 4096 (fun j9 => zI (M.w1 j9)) := by rw [eh1, va_up_ne _ _ (by omega)]; exact p10
  have jf13 : h1 (u + 11) = jI 4096 (fun j9 => zI (M.mr j9)) := by rw [eh1, va_up_ne _ _ (by omega)]; exact p11
  have jf14 : h1 (u + 12) = jI 6 (fun j9 => zI (M.rw j9)) := by rw [eh1, va_up_ne _ _ (by omega)]; exact p12
  have jf15 : h1 (u + 13) = jI 16 (fun j9 => zI (M.tu j9)) := by rw [eh1, va_up_ne _ _ (by omega)]; exact p13
  have hM1 : jM h1 u (M.wT 0) := ⟨jf2, jf3, jf4, jf5, jf6, jf7, jf8, jf9, jf10, jf11, jf12, jf13, jf14, jf15⟩
  have hf1 : jfr h h1 u (u + 14) := (fun y hy => by rw [eh1, va_up_ne _ _ (by omega)])
  obtain ⟨q0a, q1a, q2a, q3a, q4a, q5a, q6a, q7a, q8a, q9a, q10a, q11a, q12a, q13a⟩ := id (hM1)
  have p0a : h1 u = jO 6 [.int (zI (0)), .ref (u + 1), .ref (u + 2), .ref (u + 3), .ref (u + 4), .ref (u + 5), .int (zI (M.jn)), .int (zI (M.ja)), .int (zI (M.jb)), .ref (u + 6), .ref (u + 7), .int (zI (M.nw)), .int (zI (M.bl)), .int (zI (M.lt)), .int (zI (M.rt)), .ref (u + 8), .ref (u + 9), .ref (u + 10), .ref (u + 11), .ref (u + 12), .ref (u + 13)] := q0a
  have p1a : h1 (u + 1) = jI 8 (fun j9 => zI (M.mo j9)) := q1a
  have p2a : h1 (u + 2) = jI 8 (fun j9 => zI (M.pe j9)) := q2a
  have p3a : h1 (u + 3) = jI 128 (fun j9 => zI (M.co j9)) := q3a
  have p4a : h1 (u + 4) = jI 384 (fun j9 => zI (M.he j9)) := q4a
  have p5a : h1 (u + 5) = jZ 128 (fun j9 => zI (M.cr j9)) := q5a
  have p6a : h1 (u + 6) = jI 16 (fun j9 => zI (M.wy j9)) := q6a
  have p7a : h1 (u + 7) = jI 512 (fun j9 => zI (M.fa j9)) := q7a
  have p8a : h1 (u + 8) = jI 32 (fun j9 => zI (M.la j9)) := q8a
  have p9a : h1 (u + 9) = jI 32 (fun j9 => zI (M.ha j9)) := q9a
  have p10a : h1 (u + 10) = jI 4096 (fun j9 => zI (M.w1 j9)) := q10a
  have p11a : h1 (u + 11) = jI 4096 (fun j9 => zI (M.mr j9)) := q11a
  have p12a : h1 (u + 12) = jI 6 (fun j9 => zI (M.rw j9)) := q12a
  have p13a : h1 (u + 13) = jI 16 (fun j9 => zI (M.tu j9)) := q13a
  refine jl_aload_n d_Md_show_5 rfl rfl ?_
  refine jl_iconst (v := zI (0)) d_Md_show_6 (by decide) ?_
  refine jl_invV (M' := m_Md_isValid) (d' := d - 1) (ck' := 0) (sk' := 0) (na := 1) (as := [.int (zI (0))]) (st := []) d_Md_show_7 rfl p0a rfl mw_Md_87 ww_Md_isValid sw_Md_isValid nw_Md cw_Md_isValid rfl rfl rfl (by decide +kernel) (by omega) (Nat.le_of_ble_eq_true rfl) (Nat.le_of_ble_eq_true rfl) ?_
  refine k_M_isValid hl9 (by omega) hM1 ok ⟨by decide, by decide⟩ (show 1 ≤ M.pe (0 : Int).toNat by have := hR.2.1; omega) (fun g hg => ?_)
  show jl_AW _ _ _ _ _ 10 [some (.ref (u)), none, none] [.int (zI (g))] n h1 _ _
  have hg8 := sp_is_rg hg
  refine jz_if_ne (tgt := 19) d_Md_show_10 (by decide) ⟨by omega, by omega⟩ (fun q1 => ?_) (fun q1 => ?_)
  · have hev : sp_ev (M.mo (0 : Int).toNat) (M.pe (0 : Int).toNat) (hM M 0) (cM M 0) (xM M 0) := by rcases hg with ⟨-, h8⟩ | ⟨h8, -⟩; exact h8; omega
    refine jl_aload_n d_Md_show_19 rfl rfl ?_
    refine jl_iconst (v := zI (0)) d_Md_show_20 (by decide) ?_
    refine jl_bipush (v := zI (7)) d_Md_show_21 (by decide) ?_
    refine jl_invV (M' := m_Md_copy) (d' := d - 1) (ck' := 0) (sk' := 0) (na := 2) (as := [.int (zI (0)), .int (zI (7))]) (st := []) d_Md_show_23 rfl p0a rfl mw_Md_100 ww_Md_copy sw_Md_copy nw_Md cw_Md_copy rfl rfl rfl (by decide +kernel) (by omega) (Nat.le_of_ble_eq_true rfl) (Nat.le_of_ble_eq_true rfl) ?_
    refine k_M_copy hl9 (by omega) hM1 ok ⟨by decide, by decide⟩ ⟨by decide, by decide⟩ (by decide) (fun h2 hM2 hf2 => ?_)
    show jl_AW _ _ _ _ _ 26 [some (.ref (u)), none, none] [] n h2 _ _
    have hcb := cpM_b (M := M.wT 0) (a := 0) (b := 7) (by decide) (by decide)
    have ok2 : mOk (cpM (M.wT 0) 0 7 16 48) := cpM_ok (M := M.wT 0) ok
    have hR2 : dRl m p hs cs xs ((cpM (M.wT 0) 0 7 16 48).mo (7 : Int).toNat) ((cpM (M.wT 0) 0 7 16 48).pe (7 : Int).toNat) (hM (cpM (M.wT 0) 0 7 16 48) 7) (cM (cpM (M.wT 0) 0 7 16 48) 7) (xM (cpM (M.wT 0) 0 7 16 48) 7) := by
      refine ⟨hcb.1.trans hR.1, hcb.2.1.trans hR.2.1, fun s hs9 => ⟨(hcb.2.2.2.1 s (by omega)).trans (hR.2.2 s hs9).1, (hcb.2.2.2.2 s (by omega)).trans (hR.2.2 s hs9).2.1, fun k hk9 => ?_⟩⟩
      have hd := hi s hs9
      exact (hcb.2.2.1 (s * 3 + k) (by omega)).trans ((hR.2.2 s hs9).2.2 k hk9)
    have hk1b := hk1 hev
    generalize cpM (M.wT 0) 0 7 16 48 = M2 at hM2 hR2 ok2 hk1b
    clear hcb
    obtain ⟨q0b, q1b, q2b, q3b, q4b, q5b, q6b, q7b, q8b, q9b, q10b, q11b, q12b, q13b⟩ := id (hM2)
    have p0b : h2 u = jO 6 [.int (zI (M2.T)), .ref (u + 1), .ref (u + 2), .ref (u + 3), .ref (u + 4), .ref (u + 5), .int (zI (M2.jn)), .int (zI (M2.ja)), .int (zI (M2.jb)), .ref (u + 6), .ref (u + 7), .int (zI (M2.nw)), .int (zI (M2.bl)), .int (zI (M2.lt)), .int (zI (M2.rt)), .ref (u + 8), .ref (u + 9), .ref (u + 10), .ref (u + 11), .ref (u + 12), .ref (u + 13)] := q0b
    have p1b : h2 (u + 1) = jI 8 (fun j9 => zI (M2.mo j9)) := q1b
    have p2b : h2 (u + 2) = jI 8 (fun j9 => zI (M2.pe j9)) := q2b
    have p3b : h2 (u + 3) = jI 128 (fun j9 => zI (M2.co j9)) := q3b
    have p4b : h2 (u + 4) = jI 384 (fun j9 => zI (M2.he j9)) := q4b
    have p5b : h2 (u + 5) = jZ 128 (fun j9 => zI (M2.cr j9)) := q5b
    have p6b : h2 (u + 6) = jI 16 (fun j9 => zI (M2.wy j9)) := q6b
    have p7b : h2 (u + 7) = jI 512 (fun j9 => zI (M2.fa j9)) := q7b
    have p8b : h2 (u + 8) = jI 32 (fun j9 => zI (M2.la j9)) := q8b
    have p9b : h2 (u + 9) = jI 32 (fun j9 => zI (M2.ha j9)) := q9b
    have p10b : h2 (u + 10) = jI 4096 (fun j9 => zI (M2.w1 j9)) := q10b
    have p11b : h2 (u + 11) = jI 4096 (fun j9 => zI (M2.mr j9)) := q11b
    have p12b : h2 (u + 12) = jI 6 (fun j9 => zI (M2.rw j9)) := q12b
    have p13b : h2 (u + 13) = jI 16 (fun j9 => zI (M2.tu j9)) := q13b
    refine jl_aload_n d_Md_show_26 rfl rfl ?_
    refine jl_iconst (v := zI (0)) d_Md_show_27 (by decide) ?_
    refine jp_6 (q := 12) (ty := .int) d_Md_show_28 p0b (by simp) (by decide) fw_Md_126 rfl (by decide +kernel) (fun _ _ => rfl) (fun _ _ => rfl) (fun h16 eh16 => ?_)
    have eh16 : h16 = va_up h2 (u) (jO 6 [.int (zI (M2.T)), .ref (u + 1), .ref (u + 2), .ref (u + 3), .ref (u + 4), .ref (u + 5), .int (zI (M2.jn)), .int (zI (M2.ja)), .int (zI (M2.jb)), .ref (u + 6), .ref (u + 7), .int (zI (M2.nw)), .int (zI (0)), .int (zI (M2.lt)), .int (zI (M2.rt)), .ref (u + 8), .ref (u + 9), .ref (u + 10), .ref (u + 11), .ref (u + 12), .ref (u + 13)]) := eh16
    have jf17 : h16 (u) = jO 6 [.int (zI (M2.T)), .ref (u + 1), .ref (u + 2), .ref (u + 3), .ref (u + 4), .ref (u + 5), .int (zI (M2.jn)), .int (zI (M2.ja)), .int (zI (M2.jb)), .ref (u + 6), .ref (u + 7), .int (zI (M2.nw)), .int (zI (0)), .int (zI (M2.lt)), .int (zI (M2.rt)), .ref (u + 8), .ref (u + 9), .ref (u + 10), .ref (u + 11), .ref (u + 12), .ref (u + 13)] := by rw [eh16, va_up_self]
    refine jl_aload_n d_Md_show_31 rfl rfl ?_
    refine jl_iconst (v := zI (0)) d_Md_show_32 (by decide) ?_
    refine jp_6 (q := 11) (ty := .int) d_Md_show_33 jf17 (by simp) (by decide) fw_Md_129 rfl (by decide +kernel) (fun _ _ => rfl) (fun _ _ => rfl) (fun h18 eh18 => ?_)
    have eh18 : h18 = va_up h16 (u) (jO 6 [.int (zI (M2.T)), .ref (u + 1), .ref (u + 2), .ref (u + 3), .ref (u + 4), .ref (u + 5), .int (zI (M2.jn)), .int (zI (M2.ja)), .int (zI (M2.jb)), .ref (u + 6), .ref (u + 7), .int (zI (0)), .int (zI (0)), .int (zI (M2.lt)), .int (zI (M2.rt)), .ref (u + 8), .ref (u + 9), .ref (u + 10), .ref (u + 11), .ref (u + 12), .ref (u + 13)]) := eh18
    have jf19 : h18 (u) = jO 6 [.int (zI (M2.T)), .ref (u + 1), .ref (u + 2), .ref (u + 3), .ref (u + 4), .ref (u + 5), .int (zI (M2.jn)), .int (zI (M2.ja)), .int (zI (M2.jb)), .ref (u + 6), .ref (u + 7), .int (zI (0)), .int (zI (0)), .int (zI (M2.lt)), .int (zI (M2.rt)), .ref (u + 8), .ref (u + 9), .ref (u + 10), .ref (u + 11), .ref (u + 12), .ref (u + 13)] := by rw [eh18, va_up_self]
    refine jl_aload_n d_Md_show_36 rfl rfl ?_
    refine jl_iconst (v := zI (0)) d_Md_show_37 (by decide) ?_
    refine jp_6 (q := 13) (ty := .int) d_Md_show_38 jf19 (by simp) (by decide) fw_Md_132 rfl (by decide +kernel) (fun _ _ => rfl) (fun _ _ => rfl) (fun h20 eh20 => ?_)
    have eh20 : h20 = va_up h18 (u) (jO 6 [.int (zI (M2.T)), .ref (u + 1), .ref (u + 2), .ref (u + 3), .ref (u + 4), .ref (u + 5), .int (zI (M2.jn)), .int (zI (M2.ja)), .int (zI (M2.jb)), .ref (u + 6), .ref (u + 7), .int (zI (0)), .int (zI (0)), .int (zI (0)), .int (zI (M2.rt)), .ref (u + 8), .ref (u + 9), .ref (u + 10), .ref (u + 11), .ref (u + 12), .ref (u + 13)]) := eh20
    have jf21 : h20 (u) = jO 6 [.int (zI (M2.T)), .ref (u + 1), .ref (u + 2), .ref (u + 3), .ref (u + 4), .ref (u + 5), .int (zI (M2.jn)), .int (zI (M2.ja)), .int (zI (M2.jb)), .ref (u + 6), .ref (u + 7), .int (zI (0)), .int (zI (0)), .int (zI (0)), .int (zI (M2.rt)), .ref (u + 8), .ref (u + 9), .ref (u + 10), .ref (u + 11), .ref (u + 12), .ref (u + 13)] := by rw [eh20, va_up_self]
    refine jl_aload_n d_Md_show_41 rfl rfl ?_
    refine jl_iconst (v := zI (0)) d_Md_show_42 (by decide) ?_
    refine jp_6 (q := 14) (ty := .int) d_Md_show_43 jf21 (by simp) (by decide) fw_Md_135 rfl (by decide +kernel) (fun _ _ => rfl) (fun _ _ => rfl) (fun h22 eh22 => ?_)
    have eh22 : h22 = va_up h20 (u) (jO 6 [.int (zI (M2.T)), .ref (u + 1), .ref (u + 2), .ref (u + 3), .ref (u + 4), .ref (u + 5), .int (zI (M2.jn)), .int (zI (M2.ja)), .int (zI (M2.jb)), .ref (u + 6), .ref (u + 7), .int (zI (0)), .int (zI (0)), .int (zI (0)), .int (zI (0)), .ref (u + 8), .ref (u + 9), .ref (u + 10), .ref (u + 11), .ref (u + 12), .ref (u + 13)]) := eh22
    have jf23 : h22 (u) = jO 6 [.int (zI (M2.T)), .ref (u + 1), .ref (u + 2), .ref (u + 3), .ref (u + 4), .ref (u + 5), .int (zI (M2.jn)), .int (zI (M2.ja)), .int (zI (M2.jb)), .ref (u + 6), .ref (u + 7), .int (zI (0)), .int (zI (0)), .int (zI (0)), .int (zI (0)), .ref (u + 8), .ref (u + 9), .ref (u + 10), .ref (u + 11), .ref (u + 12), .ref (u + 13)] := by rw [eh22, va_up_self]
    refine jl_iconst (v := zI (0)) d_Md_show_46 (by decide) ?_
    refine jl_istore_n (L' := [some (.ref (u)), some (.int (zI (0))), none]) d_Md_show_47 rfl (by decide) rfl ?_
    have jf24 : h22 (u + 1) = jI 8 (fun j9 => zI (M2.mo j9)) := by rw [eh22, va_up_ne _ _ (by omega), eh20, va_up_ne _ _ (by omega), eh18, va_up_ne _ _ (by omega), eh16, va_up_ne _ _ (by omega)]; exact p1b
    have jf25 : h22 (u + 2) = jI 8 (fun j9 => zI (M2.pe j9)) := by rw [eh22, va_up_ne _ _ (by omega), eh20, va_up_ne _ _ (by omega), eh18, va_up_ne _ _ (by omega), eh16, va_up_ne _ _ (by omega)]; exact p2b
    have jf26 : h22 (u + 3) = jI 128 (fun j9 => zI (M2.co j9)) := by rw [eh22, va_up_ne _ _ (by omega), eh20, va_up_ne _ _ (by omega), eh18, va_up_ne _ _ (by omega), eh16, va_up_ne _ _ (by omega)]; exact p3b
    have jf27 : h22 (u + 4) = jI 384 (fun j9 => zI (M2.he j9)) := by rw [eh22, va_up_ne _ _ (by omega), eh20, va_up_ne _ _ (by omega), eh18, va_up_ne _ _ (by omega), eh16, va_up_ne _ _ (by omega)]; exact p4b
    have jf28 : h22 (u + 5) = jZ 128 (fun j9 => zI (M2.cr j9)) := by rw [eh22, va_up_ne _ _ (by omega), eh20, va_up_ne _ _ (by omega), eh18, va_up_ne _ _ (by omega), eh16, va_up_ne _ _ (by omega)]; exact p5b
    have jf29 : h22 (u + 6) = jI 16 (fun j9 => zI (M2.wy j9)) := by rw [eh22, va_up_ne _ _ (by omega), eh20, va_up_ne _ _ (by omega), eh18, va_up_ne _ _ (by omega), eh16, va_up_ne _ _ (by omega)]; exact p6b
    have jf30 : h22 (u + 7) = jI 512 (fun j9 => zI (M2.fa j9)) := by rw [eh22, va_up_ne _ _ (by omega), eh20, va_up_ne _ _ (by omega), eh18, va_up_ne _ _ (by omega), eh16, va_up_ne _ _ (by omega)]; exact p7b
    have jf31 : h22 (u + 8) = jI 32 (fun j9 => zI (M2.la j9)) := by rw [eh22, va_up_ne _ _ (by omega), eh20, va_up_ne _ _ (by omega), eh18, va_up_ne _ _ (by omega), eh16, va_up_ne _ _ (by omega)]; exact p8b
    have jf32 : h22 (u + 9) = jI 32 (fun j9 => zI (M2.ha j9)) := by rw [eh22, va_up_ne _ _ (by omega), eh20, va_up_ne _ _ (by omega), eh18, va_up_ne _ _ (by omega), eh16, va_up_ne _ _ (by omega)]; exact p9b
    have jf33 : h22 (u + 10) = jI 4096 (fun j9 => zI (M2.w1 j9)) := by rw [eh22, va_up_ne _ _ (by omega), eh20, va_up_ne _ _ (by omega), eh18, va_up_ne _ _ (by omega), eh16, va_up_ne _ _ (by omega)]; exact p10b
    have jf34 : h22 (u + 11) = jI 4096 (fun j9 => zI (M2.mr j9)) := by rw [eh22, va_up_ne _ _ (by omega), eh20, va_up_ne _ _ (by omega), eh18, va_up_ne _ _ (by omega), eh16, va_up_ne _ _ (by omega)]; exact p11b
    have jf35 : h22 (u + 12) = jI 6 (fun j9 => zI (M2.rw j9)) := by rw [eh22, va_up_ne _ _ (by omega), eh20, va_up_ne _ _ (by omega), eh18, va_up_ne _ _ (by omega), eh16, va_up_ne _ _ (by omega)]; exact p12b
    have jf36 : h22 (u + 13) = jI 16 (fun j9 => zI (M2.tu j9)) := by rw [eh22, va_up_ne _ _ (by omega), eh20, va_up_ne _ _ (by omega), eh18, va_up_ne _ _ (by omega), eh16, va_up_ne _ _ (by omega)]; exact p13b
    have hM3 : jM h22 u (mkM M2.T M2.mo M2.pe M2.co M2.he M2.cr M2.jn M2.ja M2.jb M2.wy M2.fa 0 (0) 0 0 (M2.la) (M2.ha) M2.w1 M2.mr M2.rw M2.tu) := ⟨jf23, jf24, jf25, jf26, jf27, jf28, jf29, jf30, jf31, jf32, jf33, jf34, jf35, jf36⟩
    have hf3 : jfr h h22 u (u + 14) := jfr_tr (jfr_tr hf1 hf2) (fun y hy => by rw [eh22, va_up_ne _ _ (by omega), eh20, va_up_ne _ _ (by omega), eh18, va_up_ne _ _ (by omega), eh16, va_up_ne _ _ (by omega)])
    have hB0 : mBl (mkM M2.T M2.mo M2.pe M2.co M2.he M2.cr M2.jn M2.ja M2.jb M2.wy M2.fa 0 (0) 0 0 (M2.la) (M2.ha) M2.w1 M2.mr M2.rw M2.tu) (moA m p hs cs xs 0) := ⟨rfl, Nat.zero_le 27, fun j hj => absurd hj (Nat.not_lt_zero j)⟩
    have lp1 : ∀ (k : Nat) (g9 : Nat) (bl : Int) (la ha : Nat → Int) (h4 : Nat → va_E), g9 + k = 9 → jM h4 u (mkM M2.T M2.mo M2.pe M2.co M2.he M2.cr M2.jn M2.ja M2.jb M2.wy M2.fa 0 (bl) 0 0 (la) (ha) M2.w1 M2.mr M2.rw M2.tu) → mBl (mkM M2.T M2.mo M2.pe M2.co M2.he M2.cr M2.jn M2.ja M2.jb M2.wy M2.fa 0 (bl) 0 0 (la) (ha) M2.w1 M2.mr M2.rw M2.tu) (moA m p hs cs xs g9) → jfr h h4 u (u + 14) → jl_AW l G (jl_F G Kr Kx) m_Md_show d 48 [some (.ref (u)), some (.int (zI ((g9 : Int)))), none] [] n h4 0 0 := by
      intro k
      induction k using Nat.strongRecOn with
      | ind k ih =>
        intro g9 bl la ha h4 hkg hM4 hB4 hf4
        obtain ⟨q0z, q1z, q2z, q3z, q4z, q5z, q6z, q7z, q8z, q9z, q10z, q11z, q12z, q13z⟩ := id (hM4)
        have p0z : h4 u = jO 6 [.int (zI (M2.T)), .ref (u + 1), .ref (u + 2), .ref (u + 3), .ref (u + 4), .ref (u + 5), .int (zI (M2.jn)), .int (zI (M2.ja)), .int (zI (M2.jb)), .ref (u + 6), .ref (u + 7), .int (zI (0)), .int (zI (bl)), .int (zI (0)), .int (zI (0)), .ref (u + 8), .ref (u + 9), .ref (u + 10), .ref (u + 11), .ref (u + 12), .ref (u + 13)] := q0z
        have p1z : h4 (u + 1) = jI 8 (fun j9 => zI (M2.mo j9)) := q1z
        have p2z : h4 (u + 2) = jI 8 (fun j9 => zI (M2.pe j9)) := q2z
        have p3z : h4 (u + 3) = jI 128 (fun j9 => zI (M2.co j9)) := q3z
        have p4z : h4 (u + 4) = jI 384 (fun j9 => zI (M2.he j9)) := q4z
        have p5z : h4 (u + 5) = jZ 128 (fun j9 => zI (M2.cr j9)) := q5z
        have p6z : h4 (u + 6) = jI 16 (fun j9 => zI (M2.wy j9)) := q6z
        have p7z : h4 (u + 7) = jI 512 (fun j9 => zI (M2.fa j9)) := q7z
        have p8z : h4 (u + 8) = jI 32 (fun j9 => zI (la j9)) := q8z
        have p9z : h4 (u + 9) = jI 32 (fun j9 => zI (ha j9)) := q9z
        have p10z : h4 (u + 10) = jI 4096 (fun j9 => zI (M2.w1 j9)) := q10z
        have p11z : h4 (u + 11) = jI 4096 (fun j9 => zI (M2.mr j9)) := q11z
        have p12z : h4 (u + 12) = jI 6 (fun j9 => zI (M2.rw j9)) := q12z
        have p13z : h4 (u + 13) = jI 16 (fun j9 => zI (M2.tu j9)) := q13z
        have em : M2.mo (7 : Int).toNat = m := hR2.1
        refine jl_iload_n d_Md_show_48 rfl rfl ?_
        refine jl_bipush (v := zI (9)) d_Md_show_49 (by decide) ?_
        refine jz_icmp_ge (tgt := 94) d_Md_show_51 (by decide) ⟨by omega, by omega⟩ ⟨by omega, by omega⟩ (fun hc => ?_) (fun hc => ?_)
        · have eg : g9 = 9 := by omega
          refine jl_aload_n d_Md_show_94 rfl rfl ?_
          refine jg_6 (q := 12) d_Md_show_95 p0z rfl (by decide) fw_Md_126 ?_
          rw [eg] at hB4
          have ebl : bl = ((moA m p hs cs xs 9).length : Int) := hB4.1
          subst ebl
          exact jl_iret d_Md_show_98 rfl (hk1b la ha h4 hB4 hM4 hf4)
        · have hb27 := moA_27 ok7 hi (g := g9 + 1) (by omega)
          refine jl_iconst (v := zI (0)) d_Md_show_54 (by decide) ?_
          refine jl_istore_n (L' := [some (.ref (u)), some (.int (zI ((g9 : Int)))), some (.int (zI (0)))]) d_Md_show_55 rfl (by decide) rfl ?_
          refine jl_iload_n d_Md_show_56 rfl rfl ?_
          refine jl_aload_n d_Md_show_57 rfl rfl ?_
          refine jg_6 (q := 1) d_Md_show_58 p0z rfl (by decide) fw_Md_7 ?_
          refine jl_bipush (v := zI (7)) d_Md_show_61 (by decide) ?_
          refine jz_iald d_Md_show_63 p1z (by omega) (by omega) (by omega) ?_
          rw [em]
          refine jl_iconst (v := zI (2)) d_Md_show_64 (by decide) ?_
          refine jz_icmp_ne (tgt := 72) d_Md_show_65 (by decide) ⟨by omega, by omega⟩ ⟨by omega, by omega⟩ (fun q2 => ?_) (fun q2 => ?_)
          · rw [moA, if_neg q2] at hb27
            refine jl_iconst (v := zI (1)) d_Md_show_72 (by decide) ?_
            refine jz_icmp_ge (tgt := 88) d_Md_show_73 (by decide) ⟨by omega, by omega⟩ ⟨by omega, by omega⟩ (fun q3 => ?_) (fun q3 => ?_)
            · exact absurd q3 (by decide)
            · refine jl_aload_n d_Md_show_76 rfl rfl ?_
              refine jl_iload_n d_Md_show_77 rfl rfl ?_
              refine jl_iload_n d_Md_show_78 rfl rfl ?_
              refine jl_invV (M' := m_Md_enter) (d' := d - 1) (ck' := 0) (sk' := 0) (na := 2) (as := [.int (zI ((g9 : Int))), .int (zI (0))]) (st := []) d_Md_show_79 rfl p0z rfl mw_Md_138 ww_Md_enter sw_Md_enter nw_Md cw_Md_enter rfl rfl rfl (by decide +kernel) (by omega) (Nat.le_of_ble_eq_true rfl) (Nat.le_of_ble_eq_true rfl) ?_
              refine k_M_enter1 (M := mkM M2.T M2.mo M2.pe M2.co M2.he M2.cr M2.jn M2.ja M2.jb M2.wy M2.fa 0 (bl) 0 0 (la) (ha) M2.w1 M2.mr M2.rw M2.tu) (B := moA m p hs cs xs g9) hl9 (by omega) hM4 hR2 ok7 hi q2 ⟨by omega, by omega⟩ hB4 hb27 (fun h5 bl5 la5 ha5 hM5 hB5 hf5 => ?_)
              show jl_AW _ _ _ _ _ 82 [some (.ref (u)), some (.int (zI ((g9 : Int)))), some (.int (zI (0)))] [] n h5 _ _
              have hM6 : jM h5 u (mkM M2.T M2.mo M2.pe M2.co M2.he M2.cr M2.jn M2.ja M2.jb M2.wy M2.fa 0 (bl5) 0 0 (la5) (ha5) M2.w1 M2.mr M2.rw M2.tu) := hM5
              have hB6 : mBl (mkM M2.T M2.mo M2.pe M2.co M2.he M2.cr M2.jn M2.ja M2.jb M2.wy M2.fa 0 (bl5) 0 0 (la5) (ha5) M2.w1 M2.mr M2.rw M2.tu) (moA m p hs cs xs (g9 + 1)) := by rw [moA, if_neg q2]; exact hB5
              obtain ⟨q0y, q1y, q2y, q3y, q4y, q5y, q6y, q7y, q8y, q9y, q10y, q11y, q12y, q13y⟩ := id (hM6)
              have p0y : h5 u = jO 6 [.int (zI (M2.T)), .ref (u + 1), .ref (u + 2), .ref (u + 3), .ref (u + 4), .ref (u + 5), .int (zI (M2.jn)), .int (zI (M2.ja)), .int (zI (M2.jb)), .ref (u + 6), .ref (u + 7), .int (zI (0)), .int (zI (bl5)), .int (zI (0)), .int (zI (0)), .ref (u + 8), .ref (u + 9), .ref (u + 10), .ref (u + 11), .ref (u + 12), .ref (u + 13)] := q0y
              have p1y : h5 (u + 1) = jI 8 (fun j9 => zI (M2.mo j9)) := q1y
              have p2y : h5 (u + 2) = jI 8 (fun j9 => zI (M2.pe j9)) := q2y
              have p3y : h5 (u + 3) = jI 128 (fun j9 => zI (M2.co j9)) := q3y
              have p4y : h5 (u + 4) = jI 384 (fun j9 => zI (M2.he j9)) := q4y
              have p5y : h5 (u + 5) = jZ 128 (fun j9 => zI (M2.cr j9)) := q5y
              have p6y : h5 (u + 6) = jI 16 (fun j9 => zI (M2.wy j9)) := q6y
              have p7y : h5 (u + 7) = jI 512 (fun j9 => zI (M2.fa j9)) := q7y
              have p8y : h5 (u + 8) = jI 32 (fun j9 => zI (la5 j9)) := q8y
              have p9y : h5 (u + 9) = jI 32 (fun j9 => zI (ha5 j9)) := q9y
              have p10y : h5 (u + 10) = jI 4096 (fun j9 => zI (M2.w1 j9)) := q10y
              have p11y : h5 (u + 11) = jI 4096 (fun j9 => zI (M2.mr j9)) := q11y
              have p12y : h5 (u + 12) = jI 6 (fun j9 => zI (M2.rw j9)) := q12y
              have p13y : h5 (u + 13) = jI 16 (fun j9 => zI (M2.tu j9)) := q13y
              refine jz_iinc (v := 1) (L' := [some (.ref (u)), some (.int (zI ((g9 : Int)))), some (.int (zI (1)))]) d_Md_show_82 rfl (by omega) (by decide) rfl ?_
              refine jl_goto (tgt := 56) d_Md_show_85 (by decide) ?_
              refine jl_iload_n d_Md_show_56 rfl rfl ?_
              refine jl_aload_n d_Md_show_57 rfl rfl ?_
              refine jg_6 (q := 1) d_Md_show_58 p0y rfl (by decide) fw_Md_7 ?_
              refine jl_bipush (v := zI (7)) d_Md_show_61 (by decide) ?_
              refine jz_iald d_Md_show_63 p1y (by omega) (by omega) (by omega) ?_
              rw [em]
              refine jl_iconst (v := zI (2)) d_Md_show_64 (by decide) ?_
              refine jz_icmp_ne (tgt := 72) d_Md_show_65 (by decide) ⟨by omega, by omega⟩ ⟨by omega, by omega⟩ (fun q5 => ?_) (fun q5 => ?_)
              · refine jl_iconst (v := zI (1)) d_Md_show_72 (by decide) ?_
                refine jz_icmp_ge (tgt := 88) d_Md_show_73 (by decide) ⟨by omega, by omega⟩ ⟨by omega, by omega⟩ (fun q6 => ?_) (fun q6 => ?_)
                · refine jz_iinc (v := ((g9 + 1 : Nat) : Int)) (L' := [some (.ref (u)), some (.int (zI (((g9 + 1 : Nat) : Int)))), some (.int (zI (1)))]) d_Md_show_88 rfl (by omega) (by decide) rfl ?_
                  refine jl_goto (tgt := 48) d_Md_show_91 (by decide) ?_
                  refine jl_less (L' := [some (.ref (u)), some (.int (zI (((g9 + 1 : Nat) : Int)))), none]) ⟨rfl, rfl, trivial⟩ ?_
                  exact ih (k - 1) (by omega) (g9 + 1) bl5 la5 ha5 h5 (by omega) hM6 hB6 (jfr_tr hf4 hf5)
                · exact absurd (by decide) q6
              · exact absurd q5 q2
          · subst q2
            rw [moA, if_pos rfl] at hb27
            have hb26 : (moA 2 p hs cs xs g9 ++ itL 2 p hs cs xs (g9 : Int) 0 9).length ≤ 27 := by rw [List.length_append] at hb27; omega
            refine jl_iconst (v := zI (2)) d_Md_show_68 (by decide) ?_
            refine jl_goto (tgt := 73) d_Md_show_69 (by decide) ?_
            refine jz_icmp_ge (tgt := 88) d_Md_show_73 (by decide) ⟨by omega, by omega⟩ ⟨by omega, by omega⟩ (fun q3 => ?_) (fun q3 => ?_)
            · exact absurd q3 (by decide)
            · refine jl_aload_n d_Md_show_76 rfl rfl ?_
              refine jl_iload_n d_Md_show_77 rfl rfl ?_
              refine jl_iload_n d_Md_show_78 rfl rfl ?_
              refine jl_invV (M' := m_Md_enter) (d' := d - 1) (ck' := 0) (sk' := 0) (na := 2) (as := [.int (zI ((g9 : Int))), .int (zI (0))]) (st := []) d_Md_show_79 rfl p0z rfl mw_Md_138 ww_Md_enter sw_Md_enter nw_Md cw_Md_enter rfl rfl rfl (by decide +kernel) (by omega) (Nat.le_of_ble_eq_true rfl) (Nat.le_of_ble_eq_true rfl) ?_
              refine k_M_enter2 (M := mkM M2.T M2.mo M2.pe M2.co M2.he M2.cr M2.jn M2.ja M2.jb M2.wy M2.fa 0 (bl) 0 0 (la) (ha) M2.w1 M2.mr M2.rw M2.tu) (B := moA 2 p hs cs xs g9) hl9 (by omega) hM4 ok2 hR2 ok7 hi rfl ⟨by omega, by omega⟩ ⟨by decide, by decide⟩ hB4 hb26 (fun h5 bl5 la5 ha5 hM5 hB5 hf5 => ?_)
              show jl_AW _ _ _ _ _ 82 [some (.ref (u)), some (.int (zI ((g9 : Int)))), some (.int (zI (0)))] [] n h5 _ _
              have hM6 : jM h5 u (mkM M2.T M2.mo M2.pe M2.co M2.he M2.cr M2.jn M2.ja M2.jb M2.wy M2.fa 0 (bl5) 0 0 (la5) (ha5) M2.w1 M2.mr M2.rw M2.tu) := hM5
              have hB6 : mBl (mkM M2.T M2.mo M2.pe M2.co M2.he M2.cr M2.jn M2.ja M2.jb M2.wy M2.fa 0 (bl5) 0 0 (la5) (ha5) M2.w1 M2.mr M2.rw M2.tu) (moA 2 p hs cs xs g9 ++ itL 2 p hs cs xs (g9 : Int) 0 9) := hB5
              obtain ⟨q0y, q1y, q2y, q3y, q4y, q5y, q6y, q7y, q8y, q9y, q10y, q11y, q12y, q13y⟩ := id (hM6)
              have p0y : h5 u = jO 6 [.int (zI (M2.T)), .ref (u + 1), .ref (u + 2), .ref (u + 3), .ref (u + 4), .ref (u + 5), .int (zI (M2.jn)), .int (zI (M2.ja)), .int (zI (M2.jb)), .ref (u + 6), .ref (u + 7), .int (zI (0)), .int (zI (bl5)), .int (zI (0)), .int (zI (0)), .ref (u + 8), .ref (u + 9), .ref (u + 10), .ref (u + 11), .ref (u + 12), .ref (u + 13)] := q0y
              have p1y : h5 (u + 1) = jI 8 (fun j9 => zI (M2.mo j9)) := q1y
              have p2y : h5 (u + 2) = jI 8 (fun j9 => zI (M2.pe j9)) := q2y
              have p3y : h5 (u + 3) = jI 128 (fun j9 => zI (M2.co j9)) := q3y
              have p4y : h5 (u + 4) = jI 384 (fun j9 => zI (M2.he j9)) := q4y
              have p5y : h5 (u + 5) = jZ 128 (fun j9 => zI (M2.cr j9)) := q5y
              have p6y : h5 (u + 6) = jI 16 (fun j9 => zI (M2.wy j9)) := q6y
              have p7y : h5 (u + 7) = jI 512 (fun j9 => zI (M2.fa j9)) := q7y
              have p8y : h5 (u + 8) = jI 32 (fun j9 => zI (la5 j9)) := q8y
              have p9y : h5 (u + 9) = jI 32 (fun j9 => zI (ha5 j9)) := q9y
              have p10y : h5 (u + 10) = jI 4096 (fun j9 => zI (M2.w1 j9)) := q10y
              have p11y : h5 (u + 11) = jI 4096 (fun j9 => zI (M2.mr j9)) := q11y
              have p12y : h5 (u + 12) = jI 6 (fun j9 => zI (M2.rw j9)) := q12y
              have p13y : h5 (u + 13) = jI 16 (fun j9 => zI (M2.tu j9)) := q13y
              refine jz_iinc (v := 1) (L' := [some (.ref (u)), some (.int (zI ((g9 : Int)))), some (.int (zI (1)))]) d_Md_show_82 rfl (by omega) (by decide) rfl ?_
              refine jl_goto (tgt := 56) d_Md_show_85 (by decide) ?_
              refine jl_iload_n d_Md_show_56 rfl rfl ?_
              refine jl_aload_n d_Md_show_57 rfl rfl ?_
              refine jg_6 (q := 1) d_Md_show_58 p0y rfl (by decide) fw_Md_7 ?_
              refine jl_bipush (v := zI (7)) d_Md_show_61 (by decide) ?_
              refine jz_iald d_Md_show_63 p1y (by omega) (by omega) (by omega) ?_
              rw [em]
              refine jl_iconst (v := zI (2)) d_Md_show_64 (by decide) ?_
              refine jz_icmp_ne (tgt := 72) d_Md_show_65 (by decide) ⟨by omega, by omega⟩ ⟨by omega, by omega⟩ (fun q5 => ?_) (fun q5 => ?_)
              · exact absurd rfl q5
              · refine jl_iconst (v := zI (2)) d_Md_show_68 (by decide) ?_
                refine jl_goto (tgt := 73) d_Md_show_69 (by decide) ?_
                refine jz_icmp_ge (tgt := 88) d_Md_show_73 (by decide) ⟨by omega, by omega⟩ ⟨by omega, by omega⟩ (fun q7 => ?_) (fun q7 => ?_)
                · exact absurd q7 (by decide)
                · refine jl_aload_n d_Md_show_76 rfl rfl ?_
                  refine jl_iload_n d_Md_show_77 rfl rfl ?_
                  refine jl_iload_n d_Md_show_78 rfl rfl ?_
                  refine jl_invV (M' := m_Md_enter) (d' := d - 1) (ck' := 0) (sk' := 0) (na := 2) (as := [.int (zI ((g9 : Int))), .int (zI (1))]) (st := []) d_Md_show_79 rfl p0y rfl mw_Md_138 ww_Md_enter sw_Md_enter nw_Md cw_Md_enter rfl rfl rfl (by decide +kernel) (by omega) (Nat.le_of_ble_eq_true rfl) (Nat.le_of_ble_eq_true rfl) ?_
                  refine k_M_enter2 (M := mkM M2.T M2.mo M2.pe M2.co M2.he M2.cr M2.jn M2.ja M2.jb M2.wy M2.fa 0 (bl5) 0 0 (la5) (ha5) M2.w1 M2.mr M2.rw M2.tu) (B := moA 2 p hs cs xs g9 ++ itL 2 p hs cs xs (g9 : Int) 0 9) hl9 (by omega) hM6 ok2 hR2 ok7 hi rfl ⟨by omega, by omega⟩ ⟨by decide, by decide⟩ hB6 hb27 (fun h7 bl7 la7 ha7 hM7 hB7 hf7 => ?_)
                  show jl_AW _ _ _ _ _ 82 [some (.ref (u)), some (.int (zI ((g9 : Int)))), some (.int (zI (1)))] [] n h7 _ _
                  have hM8 : jM h7 u (mkM M2.T M2.mo M2.pe M2.co M2.he M2.cr M2.jn M2.ja M2.jb M2.wy M2.fa 0 (bl7) 0 0 (la7) (ha7) M2.w1 M2.mr M2.rw M2.tu) := hM7
                  have hB8 : mBl (mkM M2.T M2.mo M2.pe M2.co M2.he M2.cr M2.jn M2.ja M2.jb M2.wy M2.fa 0 (bl7) 0 0 (la7) (ha7) M2.w1 M2.mr M2.rw M2.tu) (moA 2 p hs cs xs (g9 + 1)) := by rw [moA, if_pos rfl]; exact hB7
                  obtain ⟨q0x, q1x, q2x, q3x, q4x, q5x, q6x, q7x, q8x, q9x, q10x, q11x, q12x, q13x⟩ := id (hM8)
                  have p0x : h7 u = jO 6 [.int (zI (M2.T)), .ref (u + 1), .ref (u + 2), .ref (u + 3), .ref (u + 4), .ref (u + 5), .int (zI (M2.jn)), .int (zI (M2.ja)), .int (zI (M2.jb)), .ref (u + 6), .ref (u + 7), .int (zI (0)), .int (zI (bl7)), .int (zI (0)), .int (zI (0)), .ref (u + 8), .ref (u + 9), .ref (u + 10), .ref (u + 11), .ref (u + 12), .ref (u + 13)] := q0x
                  have p1x : h7 (u + 1) = jI 8 (fun j9 => zI (M2.mo j9)) := q1x
                  have p2x : h7 (u + 2) = jI 8 (fun j9 => zI (M2.pe j9)) := q2x
                  have p3x : h7 (u + 3) = jI 128 (fun j9 => zI (M2.co j9)) := q3x
                  have p4x : h7 (u + 4) = jI 384 (fun j9 => zI (M2.he j9)) := q4x
                  have p5x : h7 (u + 5) = jZ 128 (fun j9 => zI (M2.cr j9)) := q5x
                  have p6x : h7 (u + 6) = jI 16 (fun j9 => zI (M2.wy j9)) := q6x
                  have p7x : h7 (u + 7) = jI 512 (fun j9 => zI (M2.fa j9)) := q7x
                  have p8x : h7 (u + 8) = jI 32 (fun j9 => zI (la7 j9)) := q8x
                  have p9x : h7 (u + 9) = jI 32 (fun j9 => zI (ha7 j9)) := q9x
                  have p10x : h7 (u + 10) = jI 4096 (fun j9 => zI (M2.w1 j9)) := q10x
                  have p11x : h7 (u + 11) = jI 4096 (fun j9 => zI (M2.mr j9)) := q11x
                  have p12x : h7 (u + 12) = jI 6 (fun j9 => zI (M2.rw j9)) := q12x
                  have p13x : h7 (u + 13) = jI 16 (fun j9 => zI (M2.tu j9)) := q13x
                  refine jz_iinc (v := 2) (L' := [some (.ref (u)), some (.int (zI ((g9 : Int)))), some (.int (zI (2)))]) d_Md_show_82 rfl (by omega) (by decide) rfl ?_
                  refine jl_goto (tgt := 56) d_Md_show_85 (by decide) ?_
                  refine jl_iload_n d_Md_show_56 rfl rfl ?_
                  refine jl_aload_n d_Md_show_57 rfl rfl ?_
                  refine jg_6 (q := 1) d_Md_show_58 p0x rfl (by decide) fw_Md_7 ?_
                  refine jl_bipush (v := zI (7)) d_Md_show_61 (by decide) ?_
                  refine jz_iald d_Md_show_63 p1x (by omega) (by omega) (by omega) ?_
                  rw [em]
                  refine jl_iconst (v := zI (2)) d_Md_show_64 (by decide) ?_
                  refine jz_icmp_ne (tgt := 72) d_Md_show_65 (by decide) ⟨by omega, by omega⟩ ⟨by omega, by omega⟩ (fun q8 => ?_) (fun q8 => ?_)
                  · exact absurd rfl q8
                  · refine jl_iconst (v := zI (2)) d_Md_show_68 (by decide) ?_
                    refine jl_goto (tgt := 73) d_Md_show_69 (by decide) ?_
                    refine jz_icmp_ge (tgt := 88) d_Md_show_73 (by decide) ⟨by omega, by omega⟩ ⟨by omega, by omega⟩ (fun q6 => ?_) (fun q6 => ?_)
                    · refine jz_iinc (v := ((g9 + 1 : Nat) : Int)) (L' := [some (.ref (u)), some (.int (zI (((g9 + 1 : Nat) : Int)))), some (.int (zI (2)))]) d_Md_show_88 rfl (by omega) (by decide) rfl ?_
                      refine jl_goto (tgt := 48) d_Md_show_91 (by decide) ?_
                      refine jl_less (L' := [some (.ref (u)), some (.int (zI (((g9 + 1 : Nat) : Int)))), none]) ⟨rfl, rfl, trivial⟩ ?_
                      exact ih (k - 1) (by omega) (g9 + 1) bl7 la7 ha7 h7 (by omega) hM8 hB8 (jfr_tr (jfr_tr hf4 hf5) hf7)
                    · exact absurd (by decide) q6
    exact lp1 9 0 0 M2.la M2.ha h22 (by omega) hM3 hB0 hf3
  · refine jl_aload_n d_Md_show_13 rfl rfl ?_
    refine jl_iconst (v := zI (1)) d_Md_show_14 (by decide) ?_
    refine jl_invV (M' := m_Md_fail) (d' := d - 1) (ck' := 0) (sk' := 0) (na := 1) (as := [.int (zI (1))]) (st := []) d_Md_show_15 rfl p0a rfl mw_Md_65 ww_Md_fail sw_Md_fail nw_Md cw_Md_fail rfl rfl rfl (by decide +kernel) (by omega) (Nat.le_of_ble_eq_true rfl) (Nat.le_of_ble_eq_true rfl) ?_
    refine k_M_fail hl9 (by omega) hM1 (fun h2 hM2 hf2 => ?_)
    show jl_AW _ _ _ _ _ 18 [some (.ref (u)), none, none] [.int (zI (0))] n h2 _ _
    exact jl_iret d_Md_show_18 rfl (hk0 (by rcases hg with ⟨h8, -⟩ | ⟨-, h8⟩; omega; exact h8) h2 hM2 (jfr_tr hf1 hf2))
set_option maxHeartbeats 4000000 in
set_option maxRecDepth 100000 in
theorem k_M_run {l : Launch} {G : jl_G} {d n : Nat} {h : Nat → va_E} {Kr : Option Value → Nat → (Nat → va_E) → Prop} {Kx : String → Nat → (Nat → va_E) → Prop} (hl9 : l.stackTraces = false) (hdd : 4 ≤ d) {u : Nat} {M : MS} {m p : Int} {hs cs xs : Nat → Int} {a : Int} {B : List (Int × Int)} {MD : Nat → Int} (hM9 : jM h u M) (ok : mOk M) (hfl : ¬ M.pe (7 : Int).toNat = 0 → dRl m p hs cs xs (M.mo (7 : Int).toNat) (M.pe (7 : Int).toNat) (hM M 7) (cM M 7) (xM M 7) ∧ jOk m p hs cs xs ∧ dIn m p cs ∧ sp_ev m p hs cs xs ∧ bI m p hs cs xs M.nw B ∧ mBl M B ∧ MD 0 = M.lt ∧ MD 1 = M.rt) (ha : zR a) (hnw : ¬ M.pe (7 : Int).toNat = 0 → 0 ≤ M.nw ∧ M.nw < 900000) (hk0 : 1 ≤ a ∧ a ≤ 100 → ¬ M.pe (7 : Int).toNat = 0 → ∀ (lt rt : Int) (la ha : Nat → Int) (h' : Nat → va_E), lt = (gos m p hs cs xs M.nw (B, MD, 0) a.toNat).2.1 0 → rt = (gos m p hs cs xs M.nw (B, MD, 0) a.toNat).2.1 1 → (gos m p hs cs xs M.nw (B, MD, 0) a.toNat).1.length = B.length → (∀ i, i < B.length → la i = ((gos m p hs cs xs M.nw (B, MD, 0) a.toNat).1.getD i (0, 0)).1 ∧ ha i = ((gos m p hs cs xs M.nw (B, MD, 0) a.toNat).1.getD i (0, 0)).2) → jM h' u (mkM (M.wT 0).T (M.wT 0).mo (M.wT 0).pe (M.wT 0).co (M.wT 0).he (M.wT 0).cr (M.wT 0).jn (M.wT 0).ja (M.wT 0).jb (M.wT 0).wy (M.wT 0).fa (M.nw + a) (M.bl) (lt) (rt) (la) (ha) (M.wT 0).w1 (M.wT 0).mr (M.wT 0).rw (M.wT 0).tu) → jfr h h' u (u + 14) → Kr (some (.int (zI ((gos m p hs cs xs M.nw (B, MD, 0) a.toNat).2.2)))) n h') (hk2 : 1 ≤ a ∧ a ≤ 100 → M.pe (7 : Int).toNat = 0 → ∀ h', jM h' u (M.wT 2) → jfr h h' u (u + 14) → Kr (some (.int (zI (0)))) n h') (hk1 : ¬ (1 ≤ a ∧ a ≤ 100) → ∀ h', jM h' u (M.wT 1) → jfr h h' u (u + 14) → Kr (some (.int (zI (0)))) n h') : jl_Call l G m_Md_run d [.ref (u), .int (zI (a))] n h 0 0 Kr Kx := by
  refine jl_enter hl9 (by decide) rfl (by simp [Value.category]) (Nat.le_of_ble_eq_true rfl) ?_
  show jl_AW l G (jl_F G Kr Kx) m_Md_run d 0 [some (.ref (u)), some (.int (zI (a))), none, none] [] n h 0 0
  obtain ⟨q0, q1, q2, q3, q4, q5, q6, q7, q8, q9, q10, q11, q12, q13⟩ := id (hM9)
  have p0 : h u = jO 6 [.int (zI (M.T)), .ref (u + 1), .ref (u + 2), .ref (u + 3), .ref (u + 4), .ref (u + 5), .int (zI (M.jn)), .int (zI (M.ja)), .int (zI (M.jb)), .ref (u + 6), .ref (u + 7), .int (zI (M.nw)), .int (zI (M.bl)), .int (zI (M.lt)), .int (zI (M.rt)), .ref (u + 8), .ref (u + 9), .ref (u + 10), .ref (u + 11), .ref (u + 12), .ref (u + 13)] := q0
  have p1 : h (u + 1) = jI 8 (fun j9 => zI (M.mo j9)) := q1
  have p2 : h (u + 2) = jI 8 (fun j9 => zI (M.pe j9)) := q2
  have p3 : h (u + 3) = jI 128 (fun j9 => zI (M.co j9)) := q3
  have p4 : h (u + 4) = jI 384 (fun j9 => zI (M.he j9)) := q4
  have p5 : h (u + 5) = jZ 128 (fun j9 => zI (M.cr j9)) := q5
  have p6 : h (u + 6) = jI 16 (fun j9 => zI (M.wy j9)) := q6
  have p7 : h (u + 7) = jI 512 (fun j9 => zI (M.fa j9)) := q7
  have p8 : h (u + 8) = jI 32 (fun j9 => zI (M.la j9)) := q8
  have p9 : h (u + 9) = jI 32 (fun j9 => zI (M.ha j9)) := q9
  have p10 : h (u + 10) = jI 4096 (fun j9 => zI (M.w1 j9)) := q10
  have p11 : h (u + 11) = jI 4096 (fun j9 => zI (M.mr j9)) := q11
  have p12 : h (u + 12) = jI 6 (fun j9 => zI (M.rw j9)) := q12
  have p13 : h (u + 13) = jI 16 (fun j9 => zI (M.tu j9)) := q13
  refine jl_aload_n d_Md_run_0 rfl rfl ?_
  refine jl_iconst (v := zI (0)) d_Md_run_1 (by decide) ?_
  refine jp_6 (q := 0) (ty := .int) d_Md_run_2 p0 (by simp) (by decide) fw_Md_58 rfl (by decide +kernel) (fun _ _ => rfl) (fun _ _ => rfl) (fun h1 eh1 => ?_)
  have eh1 : h1 = va_up h (u) (jO 6 [.int (zI (0)), .ref (u + 1), .ref (u + 2), .ref (u + 3), .ref (u + 4), .ref (u + 5), .int (zI (M.jn)), .int (zI (M.ja)), .int (zI (M.jb)), .ref (u + 6), .ref (u + 7), .int (zI (M.nw)), .int (zI (M.bl)), .int (zI (M.lt)), .int (zI (M.rt)), .ref (u + 8), .ref (u + 9), .ref (u + 10), .ref (u + 11), .ref (u + 12), .ref (u + 13)]) := eh1
  have jf2 : h1 (u) = jO 6 [.int (zI (0)), .ref (u + 1), .ref (u + 2), .ref (u + 3), .ref (u + 4), .ref (u + 5), .int (zI (M.jn)), .int (zI (M.ja)), .int (zI (M.jb)), .ref (u + 6), .ref (u + 7), .int (zI (M.nw)), .int (zI (M.bl)), .int (zI (M.lt)), .int (zI (M.rt)), .ref (u + 8), .ref (u + 9), .ref (u + 10), .ref (u + 11), .ref (u + 12), .ref (u + 13)] := by rw [eh1, va_up_self]
  have jf3 : h1 (u + 1) = jI 8 (fun j9 => zI (M.mo j9)) := by rw [eh1, va_up_ne _ _ (by omega)]; exact p1
  have jf4 : h1 (u + 2) = jI 8 (fun j9 => zI (M.pe j9)) := by rw [eh1, va_up_ne _ _ (by omega)]; exact p2
  have jf5 : h1 (u + 3) = jI 128 (fun j9 => zI (M.co j9)) := by rw [eh1, va_up_ne _ _ (by omega)]; exact p3
  have jf6 : h1 (u + 4) = jI 384 (fun j9 => zI (M.he j9)) := by rw [eh1, va_up_ne _ _ (by omega)]; exact p4
  have jf7 : h1 (u + 5) = jZ 128 (fun j9 => zI (M.cr j9)) := by rw [eh1, va_up_ne _ _ (by omega)]; exact p5
  have jf8 : h1 (u + 6) = jI 16 (fun j9 => zI (M.wy j9)) := by rw [eh1, va_up_ne _ _ (by omega)]; exact p6
  have jf9 : h1 (u + 7) = jI 512 (fun j9 => zI (M.fa j9)) := by rw [eh1, va_up_ne _ _ (by omega)]; exact p7
  have jf10 : h1 (u + 8) = jI 32 (fun j9 => zI (M.la j9)) := by rw [eh1, va_up_ne _ _ (by omega)]; exact p8
  have jf11 : h1 (u + 9) = jI 32 (fun j9 => zI (M.ha j9)) := by rw [eh1, va_up_ne _ _ (by omega)]; exact p9
  have jf12 : h1 (u + 10) = jI 4096 (fun j9 => zI (M.w1 j9)) := by rw [eh1, va_up_ne _ _ (by omega)]; exact p10
  have jf13 : h1 (u + 11) = jI 4096 (fun j9 => zI (M.mr j9)) := by rw [eh1, va_up_ne _ _ (by omega)]; exact p11
  have jf14 : h1 (u + 12) = jI 6 (fun j9 => zI (M.rw j9)) := by rw [eh1, va_up_ne _ _ (by omega)]; exact p12
  have jf15 : h1 (u + 13) = jI 16 (fun j9 => zI (M.tu j9)) := by rw [eh1, va_up_ne _ _ (by omega)]; exact p13
  have hM1 : jM h1 u (M.wT 0) := ⟨jf2, jf3, jf4, jf5, jf6, jf7, jf8, jf9, jf10, jf11, jf12, jf13, jf14, jf15⟩
  have hf1 : jfr h h1 u (u + 14) := (fun y hy => by rw [eh1, va_up_ne _ _ (by omega)])
  obtain ⟨q0a, q1a, q2a, q3a, q4a, q5a, q6a, q7a, q8a, q9a, q10a, q11a, q12a, q13a⟩ := id (hM1)
  have p0a : h1 u = jO 6 [.int (zI (0)), .ref (u + 1), .ref (u + 2), .ref (u + 3), .ref (u + 4), .ref (u + 5), .int (zI (M.jn)), .int (zI (M.ja)), .int (zI (M.jb)), .ref (u + 6), .ref (u + 7), .int (zI (M.nw)), .int (zI (M.bl)), .int (zI (M.lt)), .int (zI (M.rt)), .ref (u + 8), .ref (u + 9), .ref (u + 10), .ref (u + 11), .ref (u + 12), .ref (u + 13)] := q0a
  have p1a : h1 (u + 1) = jI 8 (fun j9 => zI (M.mo j9)) := q1a
  have p2a : h1 (u + 2) = jI 8 (fun j9 => zI (M.pe j9)) := q2a
  have p3a : h1 (u + 3) = jI 128 (fun j9 => zI (M.co j9)) := q3a
  have p4a : h1 (u + 4) = jI 384 (fun j9 => zI (M.he j9)) := q4a
  have p5a : h1 (u + 5) = jZ 128 (fun j9 => zI (M.cr j9)) := q5a
  have p6a : h1 (u + 6) = jI 16 (fun j9 => zI (M.wy j9)) := q6a
  have p7a : h1 (u + 7) = jI 512 (fun j9 => zI (M.fa j9)) := q7a
  have p8a : h1 (u + 8) = jI 32 (fun j9 => zI (M.la j9)) := q8a
  have p9a : h1 (u + 9) = jI 32 (fun j9 => zI (M.ha j9)) := q9a
  have p10a : h1 (u + 10) = jI 4096 (fun j9 => zI (M.w1 j9)) := q10a
  have p11a : h1 (u + 11) = jI 4096 (fun j9 => zI (M.mr j9)) := q11a
  have p12a : h1 (u + 12) = jI 6 (fun j9 => zI (M.rw j9)) := q12a
  have p13a : h1 (u + 13) = jI 16 (fun j9 => zI (M.tu j9)) := q13a
  refine jl_iload_n d_Md_run_5 rfl rfl ?_
  refine jl_iconst (v := zI (1)) d_Md_run_6 (by decide) ?_
  refine jl_bipush (v := zI (100)) d_Md_run_7 (by decide) ?_
  refine jl_invS (M' := m_Md_within) (d' := d - 1) (ck' := 0) (sk' := 0) (na := 3) (as := [.int (zI (a)), .int (zI (1)), .int (zI (100))]) (st := []) d_Md_run_9 rfl mw_Md_61 ww_Md_within nw_Md cw_Md_within rfl rfl rfl (by decide +kernel) (by omega) (Nat.le_of_ble_eq_true rfl) (Nat.le_of_ble_eq_true rfl) ?_
  refine k_M_within hl9 (by omega) ha ⟨by decide, by decide⟩ ⟨by decide, by decide⟩ (fun i1 => ?_) (fun i1 => ?_)
  · show jl_AW _ _ _ _ _ 12 [some (.ref (u)), some (.int (zI (a))), none, none] [.int (zI (1))] n h1 _ _
    refine jz_if_ne (tgt := 21) d_Md_run_12 (by decide) ⟨by decide, by decide⟩ (fun _ => ?_) (fun q9 => absurd q9 (by decide))
    have hp7 := ok.2.1 (7 : Int).toNat
    refine jl_aload_n d_Md_run_21 rfl rfl ?_
    refine jg_6 (q := 2) d_Md_run_22 p0a rfl (by decide) fw_Md_13 ?_
    refine jl_bipush (v := zI (7)) d_Md_run_25 (by decide) ?_
    refine jz_iald d_Md_run_27 p2a (by omega) (by omega) (by omega) ?_
    refine jz_if_ne (tgt := 37) d_Md_run_28 (by decide) ⟨by omega, by omega⟩ (fun q1 => ?_) (fun q1 => ?_)
    · obtain ⟨hR, ok7, hi, hev, hI, hB, hD0, hD1⟩ := hfl q1
      have hnw := hnw q1
      have lp1 : ∀ (k : Nat) (t : Nat) (lt rt : Int) (la ha : Nat → Int) (h2 : Nat → va_E), (t : Int) + k = a → lt = (gos m p hs cs xs M.nw (B, MD, 0) t).2.1 0 → rt = (gos m p hs cs xs M.nw (B, MD, 0) t).2.1 1 → (∀ i, i < B.length → la i = ((gos m p hs cs xs M.nw (B, MD, 0) t).1.getD i (0, 0)).1 ∧ ha i = ((gos m p hs cs xs M.nw (B, MD, 0) t).1.getD i (0, 0)).2) → jM h2 u (mkM (M.wT 0).T (M.wT 0).mo (M.wT 0).pe (M.wT 0).co (M.wT 0).he (M.wT 0).cr (M.wT 0).jn (M.wT 0).ja (M.wT 0).jb (M.wT 0).wy (M.wT 0).fa (M.nw + (t : Int)) (M.bl) (lt) (rt) (la) (ha) (M.wT 0).w1 (M.wT 0).mr (M.wT 0).rw (M.wT 0).tu) → jfr h h2 u (u + 14) → jl_AW l G (jl_F G Kr Kx) m_Md_run d 41 [some (.ref (u)), some (.int (zI (a))), some (.int (zI ((gos m p hs cs xs M.nw (B, MD, 0) t).2.2))), some (.int (zI ((t : Int))))] [] n h2 0 0 := by
        intro k
        induction k using Nat.strongRecOn with
        | ind k ih =>
          intro t lt rt la ha h2 hkt elt ert eA hM2 hf2
          have hI2 := gos_bI (MD := MD) ok7 hi hev hI t
          have hlen := gos_len (m := m) (p := p) (hs := hs) (cs := cs) (xs := xs) (nw := M.nw) (B := B) (MD := MD) t
          have hmb := gos_mb ok7 hi hev hI t (MD := MD) elt ert
          obtain ⟨q0z, q1z, q2z, q3z, q4z, q5z, q6z, q7z, q8z, q9z, q10z, q11z, q12z, q13z⟩ := id (hM2)
          have p0z : h2 u = jO 6 [.int (zI (0)), .ref (u + 1), .ref (u + 2), .ref (u + 3), .ref (u + 4), .ref (u + 5), .int (zI (M.jn)), .int (zI (M.ja)), .int (zI (M.jb)), .ref (u + 6), .ref (u + 7), .int (zI (M.nw + (t : Int))), .int (zI (M.bl)), .int (zI (lt)), .int (zI (rt)), .ref (u + 8), .ref (u + 9), .ref (u + 10), .ref (u + 11), .ref (u + 12), .ref (u + 13)] := q0z
          have p1z : h2 (u + 1) = jI 8 (fun j9 => zI (M.mo j9)) := q1z
          have p2z : h2 (u + 2) = jI 8 (fun j9 => zI (M.pe j9)) := q2z
          have p3z : h2 (u + 3) = jI 128 (fun j9 => zI (M.co j9)) := q3z
          have p4z : h2 (u + 4) = jI 384 (fun j9 => zI (M.he j9)) := q4z
          have p5z : h2 (u + 5) = jZ 128 (fun j9 => zI (M.cr j9)) := q5z
          have p6z : h2 (u + 6) = jI 16 (fun j9 => zI (M.wy j9)) := q6z
          have p7z : h2 (u + 7) = jI 512 (fun j9 => zI (M.fa j9)) := q7z
          have p8z : h2 (u + 8) = jI 32 (fun j9 => zI (la j9)) := q8z
          have p9z : h2 (u + 9) = jI 32 (fun j9 => zI (ha j9)) := q9z
          have p10z : h2 (u + 10) = jI 4096 (fun j9 => zI (M.w1 j9)) := q10z
          have p11z : h2 (u + 11) = jI 4096 (fun j9 => zI (M.mr j9)) := q11z
          have p12z : h2 (u + 12) = jI 6 (fun j9 => zI (M.rw j9)) := q12z
          have p13z : h2 (u + 13) = jI 16 (fun j9 => zI (M.tu j9)) := q13z
          refine jl_iload_n d_Md_run_41 rfl rfl ?_
          refine jl_iload_n d_Md_run_42 rfl rfl ?_
          refine jz_icmp_ge (tgt := 59) d_Md_run_43 (by decide) ⟨by omega, by omega⟩ ⟨by omega, by omega⟩ (fun hc => ?_) (fun hc => ?_)
          · have et : t = a.toNat := by omega
            rw [et] at hM2 elt ert eA hlen
            refine jl_iload_n d_Md_run_59 rfl rfl ?_
            rw [et]
            rw [show ((a.toNat : Nat) : Int) = a by omega] at hM2
            exact jl_iret d_Md_run_60 rfl (hk0 i1 q1 lt rt la ha h2 elt ert hlen eA hM2 hf2)
          · refine jl_iload_n d_Md_run_46 rfl rfl ?_
            refine jl_aload_n d_Md_run_47 rfl rfl ?_
            refine jl_invV (M' := m_Md_beat) (d' := d - 1) (ck' := 0) (sk' := 0) (na := 0) (as := []) (st := [.int (zI ((gos m p hs cs xs M.nw (B, MD, 0) t).2.2))]) d_Md_run_48 rfl p0z rfl mw_Md_147 ww_Md_beat sw_Md_beat nw_Md cw_Md_beat rfl rfl rfl (by decide +kernel) (by omega) (Nat.le_of_ble_eq_true rfl) (Nat.le_of_ble_eq_true rfl) ?_
            refine k_M_beat (M := (M.wT 0)) (B := (gos m p hs cs xs M.nw (B, MD, 0) t).1) hl9 (by omega) hM2 ok hR ok7 hi (by show M.bl = _; rw [hlen]; exact hB.1) (by rw [hlen]; exact hB.2.1) (fun j hj => eA j (by omega)) ⟨by omega, by omega⟩ hmb.2.2.2.2 (fun j hj => by rw [mb_ge j j (Nat.le_refl j)]; have := hI2.2 _ (mem_getD hj); exact ⟨by have := this.1; omega, by have := this.2.1; omega⟩) (fun h4 lt4 rt4 la4 ha4 e1 e2 e3 e4 hM4 hf4 => ?_)
            show jl_AW _ _ _ _ _ 51 [some (.ref (u)), some (.int (zI (a))), some (.int (zI ((gos m p hs cs xs M.nw (B, MD, 0) t).2.2))), some (.int (zI ((t : Int))))] [.int (zI ((mb m p hs cs xs (M.nw + (t : Int)) (gos m p hs cs xs M.nw (B, MD, 0) t).1 lt rt (gos m p hs cs xs M.nw (B, MD, 0) t).1.length).2.2.1)), .int (zI ((gos m p hs cs xs M.nw (B, MD, 0) t).2.2))] n h4 _ _
            refine jz_iadd (v := (gos m p hs cs xs M.nw (B, MD, 0) (t + 1)).2.2) d_Md_run_51 hmb.2.1 ?_
            refine jl_istore_n (L' := [some (.ref (u)), some (.int (zI (a))), some (.int (zI ((gos m p hs cs xs M.nw (B, MD, 0) (t + 1)).2.2))), some (.int (zI ((t : Int))))]) d_Md_run_52 rfl (by decide) rfl ?_
            refine jz_iinc (v := ((t + 1 : Nat) : Int)) (L' := [some (.ref (u)), some (.int (zI (a))), some (.int (zI ((gos m p hs cs xs M.nw (B, MD, 0) (t + 1)).2.2))), some (.int (zI (((t + 1 : Nat) : Int))))]) d_Md_run_53 rfl (by omega) (by decide) rfl ?_
            refine jl_goto (tgt := 41) d_Md_run_56 (by decide) ?_
            rw [hmb.2.2.1] at e1
            rw [hmb.2.2.2.1] at e2
            rw [hmb.1] at e4
            rw [show M.nw + (t : Int) + 1 = M.nw + ((t + 1 : Nat) : Int) by omega] at hM4
            exact ih (k - 1) (by omega) (t + 1) lt4 rt4 la4 ha4 h4 (by omega) e1 e2 (fun i hi9 => e4 i (by omega)) hM4 (jfr_tr hf2 hf4)
      refine jl_iconst (v := zI (0)) d_Md_run_37 (by decide) ?_
      refine jl_istore_n (L' := [some (.ref (u)), some (.int (zI (a))), some (.int (zI (0))), none]) d_Md_run_38 rfl (by decide) rfl ?_
      refine jl_iconst (v := zI (0)) d_Md_run_39 (by decide) ?_
      refine jl_istore_n (L' := [some (.ref (u)), some (.int (zI (a))), some (.int (zI (0))), some (.int (zI (0)))]) d_Md_run_40 rfl (by decide) rfl ?_
      have hM2 : jM h1 u (mkM (M.wT 0).T (M.wT 0).mo (M.wT 0).pe (M.wT 0).co (M.wT 0).he (M.wT 0).cr (M.wT 0).jn (M.wT 0).ja (M.wT 0).jb (M.wT 0).wy (M.wT 0).fa (M.nw + ((0 : Nat) : Int)) (M.bl) (M.lt) (M.rt) (M.la) (M.ha) (M.wT 0).w1 (M.wT 0).mr (M.wT 0).rw (M.wT 0).tu) := by rw [show M.nw + ((0 : Nat) : Int) = M.nw by omega]; exact hM1
      exact lp1 a.toNat 0 M.lt M.rt M.la M.ha h1 (by omega) hD0.symm hD1.symm hB.2.2 hM2 hf1
    · refine jl_aload_n d_Md_run_31 rfl rfl ?_
      refine jl_iconst (v := zI (2)) d_Md_run_32 (by decide) ?_
      refine jl_invV (M' := m_Md_fail) (d' := d - 1) (ck' := 0) (sk' := 0) (na := 1) (as := [.int (zI (2))]) (st := []) d_Md_run_33 rfl p0a rfl mw_Md_65 ww_Md_fail sw_Md_fail nw_Md cw_Md_fail rfl rfl rfl (by decide +kernel) (by omega) (Nat.le_of_ble_eq_true rfl) (Nat.le_of_ble_eq_true rfl) ?_
      refine k_M_fail hl9 (by omega) hM1 (fun h2 hM2 hf2 => ?_)
      show jl_AW _ _ _ _ _ 36 [some (.ref (u)), some (.int (zI (a))), none, none] [.int (zI (0))] n h2 _ _
      exact jl_iret d_Md_run_36 rfl (hk2 i1 q1 h2 hM2 (jfr_tr hf1 hf2))
  · show jl_AW _ _ _ _ _ 12 [some (.ref (u)), some (.int (zI (a))), none, none] [.int (zI (0))] n h1 _ _
    refine jz_if_ne (tgt := 21) d_Md_run_12 (by decide) ⟨by decide, by decide⟩ (fun q9 => absurd q9 (by decide)) (fun _ => ?_)
    refine jl_aload_n d_Md_run_15 rfl rfl ?_
    refine jl_iconst (v := zI (1)) d_Md_run_16 (by decide) ?_
    refine jl_invV (M' := m_Md_fail) (d' := d - 1) (ck' := 0) (sk' := 0) (na := 1) (as := [.int (zI (1))]) (st := []) d_Md_run_17 rfl p0a rfl mw_Md_65 ww_Md_fail sw_Md_fail nw_Md cw_Md_fail rfl rfl rfl (by decide +kernel) (by omega) (Nat.le_of_ble_eq_true rfl) (Nat.le_of_ble_eq_true rfl) ?_
    refine k_M_fail hl9 (by omega) hM1 (fun h2 hM2 hf2 => ?_)
    show jl_AW _ _ _ _ _ 20 [some (.ref (u)), some (.int (zI (a))), none, none] [.int (zI (0))] n h2 _ _
    exact jl_iret d_Md_run_20 rfl (hk1 i1 h2 hM2 (jfr_tr hf1 hf2))
set_option maxHeartbeats 4000000 in
set_option maxRecDepth 100000 in
theorem k_M_init {l : Launch} {G : jl_G} {d u : Nat} {h : Nat → va_E} {Kr : Option Value → Nat → (Nat → va_E) → Prop} {Kx : String → Nat → (Nat → va_E) → Prop} (hl9 : l.stackTraces = false) (hdd : 1 ≤ d) (h0 : h u = jO 6 [.int (zI (0)), .null, .null, .null, .null, .null, .int (zI (0)), .int (zI (0)), .int (zI (0)), .null, .null, .int (zI (0)), .int (zI (0)), .int (zI (0)), .int (zI (0)), .null, .null, .null, .null, .null, .null]) (hk : ∀ h', jM h' u (frM (mkM 0 (fun _ => 0) (fun _ => 0) (fun _ => 0) (fun _ => 0) (fun _ => 0) (-1) 0 0 (fun _ => 0) (fun _ => 0) 0 0 0 0 (fun _ => 0) (fun _ => 0) (fun _ => 0) (fun _ => 0) (fun _ => 0) (fun _ => 0)) 0 1 16) → (∀ y, y < u → h' y = h y) → Kr none (u + 14) h') : jl_Call l G m_Md_init d [.ref u] (u + 1) h 13 9462 Kr Kx := by
  refine jl_enter hl9 (by decide) rfl (by simp [Value.category]) (Nat.le_of_ble_eq_true rfl) ?_
  show jl_AW l G (jl_F G Kr Kx) m_Md_init d 0 [some (.ref (u))] [] (u + 1) h 13 9462
  refine jl_aload_n d_Md_init_0 rfl rfl ?_
  refine jl_objInit d_Md_init_1 ow_Md_1 ow_1 ow_2 (Nat.le_of_ble_eq_true rfl) ?_
  refine jl_aload_n d_Md_init_4 rfl rfl ?_
  refine jl_bipush (v := zI (8)) d_Md_init_5 (by decide) ?_
  refine jz_newa (N' := 8) (by decide) d_Md_init_7 aw_int (fun h1 eh1 => ?_)
  have eh1 : h1 = va_up h (u + 1) (jI 8 (fun j9 => zI ((fun _ => (0 : Int)) j9))) := eh1
  have jf2 : h1 (u + 1) = jI 8 (fun j9 => zI ((fun _ => (0 : Int)) j9)) := by rw [eh1, va_up_self]
  have jf3 : h1 (u) = jO 6 [.int (zI (0)), .null, .null, .null, .null, .null, .int (zI (0)), .int (zI (0)), .int (zI (0)), .null, .null, .int (zI (0)), .int (zI (0)), .int (zI (0)), .int (zI (0)), .null, .null, .null, .null, .null, .null] := by rw [eh1, va_up_ne _ _ (by omega)]; exact h0
  refine jpf_6 (q := 1) (ty := (.array .int)) d_Md_init_9 jf3 (by simp) (by decide) fw_Md_7 rfl rfl rfl (by decide +kernel) (fun _ _ => rfl) (fun _ _ => rfl) (fun h4 eh4 => ?_)
  have eh4 : h4 = va_up h1 (u) (jO 6 [.int (zI (0)), .ref (u + 1), .null, .null, .null, .null, .int (zI (0)), .int (zI (0)), .int (zI (0)), .null, .null, .int (zI (0)), .int (zI (0)), .int (zI (0)), .int (zI (0)), .null, .null, .null, .null, .null, .null]) := eh4
  have jf5 : h4 (u) = jO 6 [.int (zI (0)), .ref (u + 1), .null, .null, .null, .null, .int (zI (0)), .int (zI (0)), .int (zI (0)), .null, .null, .int (zI (0)), .int (zI (0)), .int (zI (0)), .int (zI (0)), .null, .null, .null, .null, .null, .null] := by rw [eh4, va_up_self]
  refine jl_aload_n d_Md_init_12 rfl rfl ?_
  refine jl_bipush (v := zI (8)) d_Md_init_13 (by decide) ?_
  refine jz_newa (N' := 8) (by decide) d_Md_init_15 aw_int (fun h6 eh6 => ?_)
  have eh6 : h6 = va_up h4 (u + 2) (jI 8 (fun j9 => zI ((fun _ => (0 : Int)) j9))) := eh6
  have jf7 : h6 (u + 2) = jI 8 (fun j9 => zI ((fun _ => (0 : Int)) j9)) := by rw [eh6, va_up_self]
  have jf8 : h6 (u) = jO 6 [.int (zI (0)), .ref (u + 1), .null, .null, .null, .null, .int (zI (0)), .int (zI (0)), .int (zI (0)), .null, .null, .int (zI (0)), .int (zI (0)), .int (zI (0)), .int (zI (0)), .null, .null, .null, .null, .null, .null] := by rw [eh6, va_up_ne _ _ (by omega)]; exact jf5
  refine jpf_6 (q := 2) (ty := (.array .int)) d_Md_init_17 jf8 (by simp) (by decide) fw_Md_13 rfl rfl rfl (by decide +kernel) (fun _ _ => rfl) (fun _ _ => rfl) (fun h9 eh9 => ?_)
  have eh9 : h9 = va_up h6 (u) (jO 6 [.int (zI (0)), .ref (u + 1), .ref (u + 2), .null, .null, .null, .int (zI (0)), .int (zI (0)), .int (zI (0)), .null, .null, .int (zI (0)), .int (zI (0)), .int (zI (0)), .int (zI (0)), .null, .null, .null, .null, .null, .null]) := eh9
  have jf10 : h9 (u) = jO 6 [.int (zI (0)), .ref (u + 1), .ref (u + 2), .null, .null, .null, .int (zI (0)), .int (zI (0)), .int (zI (0)), .null, .null, .int (zI (0)), .int (zI (0)), .int (zI (0)), .int (zI (0)), .null, .null, .null, .null, .null, .null] := by rw [eh9, va_up_self]
  refine jl_aload_n d_Md_init_20 rfl rfl ?_
  refine jl_sipush (v := zI (128)) d_Md_init_21 (by decide) ?_
  refine jz_newa (N' := 128) (by decide) d_Md_init_24 aw_int (fun h11 eh11 => ?_)
  have eh11 : h11 = va_up h9 (u + 3) (jI 128 (fun j9 => zI ((fun _ => (0 : Int)) j9))) := eh11
  have jf12 : h11 (u + 3) = jI 128 (fun j9 => zI ((fun _ => (0 : Int)) j9)) := by rw [eh11, va_up_self]
  have jf13 : h11 (u) = jO 6 [.int (zI (0)), .ref (u + 1), .ref (u + 2), .null, .null, .null, .int (zI (0)), .int (zI (0)), .int (zI (0)), .null, .null, .int (zI (0)), .int (zI (0)), .int (zI (0)), .int (zI (0)), .null, .null, .null, .null, .null, .null] := by rw [eh11, va_up_ne _ _ (by omega)]; exact jf10
  refine jpf_6 (q := 3) (ty := (.array .int)) d_Md_init_26 jf13 (by simp) (by decide) fw_Md_16 rfl rfl rfl (by decide +kernel) (fun _ _ => rfl) (fun _ _ => rfl) (fun h14 eh14 => ?_)
  have eh14 : h14 = va_up h11 (u) (jO 6 [.int (zI (0)), .ref (u + 1), .ref (u + 2), .ref (u + 3), .null, .null, .int (zI (0)), .int (zI (0)), .int (zI (0)), .null, .null, .int (zI (0)), .int (zI (0)), .int (zI (0)), .int (zI (0)), .null, .null, .null, .null, .null, .null]) := eh14
  have jf15 : h14 (u) = jO 6 [.int (zI (0)), .ref (u + 1), .ref (u + 2), .ref (u + 3), .null, .null, .int (zI (0)), .int (zI (0)), .int (zI (0)), .null, .null, .int (zI (0)), .int (zI (0)), .int (zI (0)), .int (zI (0)), .null, .null, .null, .null, .null, .null] := by rw [eh14, va_up_self]
  refine jl_aload_n d_Md_init_29 rfl rfl ?_
  refine jl_sipush (v := zI (384)) d_Md_init_30 (by decide) ?_
  refine jz_newa (N' := 384) (by decide) d_Md_init_33 aw_int (fun h16 eh16 => ?_)
  have eh16 : h16 = va_up h14 (u + 4) (jI 384 (fun j9 => zI ((fun _ => (0 : Int)) j9))) := eh16
  have jf17 : h16 (u + 4) = jI 384 (fun j9 => zI ((fun _ => (0 : Int)) j9)) := by rw [eh16, va_up_self]
  have jf18 : h16 (u) = jO 6 [.int (zI (0)), .ref (u + 1), .ref (u + 2), .ref (u + 3), .null, .null, .int (zI (0)), .int (zI (0)), .int (zI (0)), .null, .null, .int (zI (0)), .int (zI (0)), .int (zI (0)), .int (zI (0)), .null, .null, .null, .null, .null, .null] := by rw [eh16, va_up_ne _ _ (by omega)]; exact jf15
  refine jpf_6 (q := 4) (ty := (.array .int)) d_Md_init_35 jf18 (by simp) (by decide) fw_Md_19 rfl rfl rfl (by decide +kernel) (fun _ _ => rfl) (fun _ _ => rfl) (fun h19 eh19 => ?_)
  have eh19 : h19 = va_up h16 (u) (jO 6 [.int (zI (0)), .ref (u + 1), .ref (u + 2), .ref (u + 3), .ref (u + 4), .null, .int (zI (0)), .int (zI (0)), .int (zI (0)), .null, .null, .int (zI (0)), .int (zI (0)), .int (zI (0)), .int (zI (0)), .null, .null, .null, .null, .null, .null]) := eh19
  have jf20 : h19 (u) = jO 6 [.int (zI (0)), .ref (u + 1), .ref (u + 2), .ref (u + 3), .ref (u + 4), .null, .int (zI (0)), .int (zI (0)), .int (zI (0)), .null, .null, .int (zI (0)), .int (zI (0)), .int (zI (0)), .int (zI (0)), .null, .null, .null, .null, .null, .null] := by rw [eh19, va_up_self]
  refine jl_aload_n d_Md_init_38 rfl rfl ?_
  refine jl_sipush (v := zI (128)) d_Md_init_39 (by decide) ?_
  refine jz_newz (N' := 128) (by decide) d_Md_init_42 (fun h21 eh21 => ?_)
  have eh21 : h21 = va_up h19 (u + 5) (jZ 128 (fun j9 => zI ((fun _ => (0 : Int)) j9))) := eh21
  have jf22 : h21 (u + 5) = jZ 128 (fun j9 => zI ((fun _ => (0 : Int)) j9)) := by rw [eh21, va_up_self]
  have jf23 : h21 (u) = jO 6 [.int (zI (0)), .ref (u + 1), .ref (u + 2), .ref (u + 3), .ref (u + 4), .null, .int (zI (0)), .int (zI (0)), .int (zI (0)), .null, .null, .int (zI (0)), .int (zI (0)), .int (zI (0)), .int (zI (0)), .null, .null, .null, .null, .null, .null] := by rw [eh21, va_up_ne _ _ (by omega)]; exact jf20
  refine jpf_6 (q := 5) (ty := (.array .boolean)) d_Md_init_44 jf23 (by simp) (by decide) fw_Md_22 rfl rfl rfl (by decide +kernel) (fun _ _ => rfl) (fun _ _ => rfl) (fun h24 eh24 => ?_)
  have eh24 : h24 = va_up h21 (u) (jO 6 [.int (zI (0)), .ref (u + 1), .ref (u + 2), .ref (u + 3), .ref (u + 4), .ref (u + 5), .int (zI (0)), .int (zI (0)), .int (zI (0)), .null, .null, .int (zI (0)), .int (zI (0)), .int (zI (0)), .int (zI (0)), .null, .null, .null, .null, .null, .null]) := eh24
  have jf25 : h24 (u) = jO 6 [.int (zI (0)), .ref (u + 1), .ref (u + 2), .ref (u + 3), .ref (u + 4), .ref (u + 5), .int (zI (0)), .int (zI (0)), .int (zI (0)), .null, .null, .int (zI (0)), .int (zI (0)), .int (zI (0)), .int (zI (0)), .null, .null, .null, .null, .null, .null] := by rw [eh24, va_up_self]
  refine jl_aload_n d_Md_init_47 rfl rfl ?_
  refine jl_iconst (v := zI (-1)) d_Md_init_48 (by decide) ?_
  refine jp_6 (q := 6) (ty := .int) d_Md_init_49 jf25 (by simp) (by decide) fw_Md_26 rfl (by decide +kernel) (fun _ _ => rfl) (fun _ _ => rfl) (fun h26 eh26 => ?_)
  have eh26 : h26 = va_up h24 (u) (jO 6 [.int (zI (0)), .ref (u + 1), .ref (u + 2), .ref (u + 3), .ref (u + 4), .ref (u + 5), .int (zI (-1)), .int (zI (0)), .int (zI (0)), .null, .null, .int (zI (0)), .int (zI (0)), .int (zI (0)), .int (zI (0)), .null, .null, .null, .null, .null, .null]) := eh26
  have jf27 : h26 (u) = jO 6 [.int (zI (0)), .ref (u + 1), .ref (u + 2), .ref (u + 3), .ref (u + 4), .ref (u + 5), .int (zI (-1)), .int (zI (0)), .int (zI (0)), .null, .null, .int (zI (0)), .int (zI (0)), .int (zI (0)), .int (zI (0)), .null, .null, .null, .null, .null, .null] := by rw [eh26, va_up_self]
  refine jl_aload_n d_Md_init_52 rfl rfl ?_
  refine jl_bipush (v := zI (16)) d_Md_init_53 (by decide) ?_
  refine jz_newa (N' := 16) (by decide) d_Md_init_55 aw_int (fun h28 eh28 => ?_)
  have eh28 : h28 = va_up h26 (u + 6) (jI 16 (fun j9 => zI ((fun _ => (0 : Int)) j9))) := eh28
  have jf29 : h28 (u + 6) = jI 16 (fun j9 => zI ((fun _ => (0 : Int)) j9)) := by rw [eh28, va_up_self]
  have jf30 : h28 (u) = jO 6 [.int (zI (0)), .ref (u + 1), .ref (u + 2), .ref (u + 3), .ref (u + 4), .ref (u + 5), .int (zI (-1)), .int (zI (0)), .int (zI (0)), .null, .null, .int (zI (0)), .int (zI (0)), .int (zI (0)), .int (zI (0)), .null, .null, .null, .null, .null, .null] := by rw [eh28, va_up_ne _ _ (by omega)]; exact jf27
  refine jpf_6 (q := 9) (ty := (.array .int)) d_Md_init_57 jf30 (by simp) (by decide) fw_Md_30 rfl rfl rfl (by decide +kernel) (fun _ _ => rfl) (fun _ _ => rfl) (fun h31 eh31 => ?_)
  have eh31 : h31 = va_up h28 (u) (jO 6 [.int (zI (0)), .ref (u + 1), .ref (u + 2), .ref (u + 3), .ref (u + 4), .ref (u + 5), .int (zI (-1)), .int (zI (0)), .int (zI (0)), .ref (u + 6), .null, .int (zI (0)), .int (zI (0)), .int (zI (0)), .int (zI (0)), .null, .null, .null, .null, .null, .null]) := eh31
  have jf32 : h31 (u) = jO 6 [.int (zI (0)), .ref (u + 1), .ref (u + 2), .ref (u + 3), .ref (u + 4), .ref (u + 5), .int (zI (-1)), .int (zI (0)), .int (zI (0)), .ref (u + 6), .null, .int (zI (0)), .int (zI (0)), .int (zI (0)), .int (zI (0)), .null, .null, .null, .null, .null, .null] := by rw [eh31, va_up_self]
  refine jl_aload_n d_Md_init_60 rfl rfl ?_
  refine jl_sipush (v := zI (512)) d_Md_init_61 (by decide) ?_
  refine jz_newa (N' := 512) (by decide) d_Md_init_64 aw_int (fun h33 eh33 => ?_)
  have eh33 : h33 = va_up h31 (u + 7) (jI 512 (fun j9 => zI ((fun _ => (0 : Int)) j9))) := eh33
  have jf34 : h33 (u + 7) = jI 512 (fun j9 => zI ((fun _ => (0 : Int)) j9)) := by rw [eh33, va_up_self]
  have jf35 : h33 (u) = jO 6 [.int (zI (0)), .ref (u + 1), .ref (u + 2), .ref (u + 3), .ref (u + 4), .ref (u + 5), .int (zI (-1)), .int (zI (0)), .int (zI (0)), .ref (u + 6), .null, .int (zI (0)), .int (zI (0)), .int (zI (0)), .int (zI (0)), .null, .null, .null, .null, .null, .null] := by rw [eh33, va_up_ne _ _ (by omega)]; exact jf32
  refine jpf_6 (q := 10) (ty := (.array .int)) d_Md_init_66 jf35 (by simp) (by decide) fw_Md_33 rfl rfl rfl (by decide +kernel) (fun _ _ => rfl) (fun _ _ => rfl) (fun h36 eh36 => ?_)
  have eh36 : h36 = va_up h33 (u) (jO 6 [.int (zI (0)), .ref (u + 1), .ref (u + 2), .ref (u + 3), .ref (u + 4), .ref (u + 5), .int (zI (-1)), .int (zI (0)), .int (zI (0)), .ref (u + 6), .ref (u + 7), .int (zI (0)), .int (zI (0)), .int (zI (0)), .int (zI (0)), .null, .null, .null, .null, .null, .null]) := eh36
  have jf37 : h36 (u) = jO 6 [.int (zI (0)), .ref (u + 1), .ref (u + 2), .ref (u + 3), .ref (u + 4), .ref (u + 5), .int (zI (-1)), .int (zI (0)), .int (zI (0)), .ref (u + 6), .ref (u + 7), .int (zI (0)), .int (zI (0)), .int (zI (0)), .int (zI (0)), .null, .null, .null, .null, .null, .null] := by rw [eh36, va_up_self]
  refine jl_aload_n d_Md_init_69 rfl rfl ?_
  refine jl_bipush (v := zI (32)) d_Md_init_70 (by decide) ?_
  refine jz_newa (N' := 32) (by decide) d_Md_init_72 aw_int (fun h38 eh38 => ?_)
  have eh38 : h38 = va_up h36 (u + 8) (jI 32 (fun j9 => zI ((fun _ => (0 : Int)) j9))) := eh38
  have jf39 : h38 (u + 8) = jI 32 (fun j9 => zI ((fun _ => (0 : Int)) j9)) := by rw [eh38, va_up_self]
  have jf40 : h38 (u) = jO 6 [.int (zI (0)), .ref (u + 1), .ref (u + 2), .ref (u + 3), .ref (u + 4), .ref (u + 5), .int (zI (-1)), .int (zI (0)), .int (zI (0)), .ref (u + 6), .ref (u + 7), .int (zI (0)), .int (zI (0)), .int (zI (0)), .int (zI (0)), .null, .null, .null, .null, .null, .null] := by rw [eh38, va_up_ne _ _ (by omega)]; exact jf37
  refine jpf_6 (q := 15) (ty := (.array .int)) d_Md_init_74 jf40 (by simp) (by decide) fw_Md_36 rfl rfl rfl (by decide +kernel) (fun _ _ => rfl) (fun _ _ => rfl) (fun h41 eh41 => ?_)
  have eh41 : h41 = va_up h38 (u) (jO 6 [.int (zI (0)), .ref (u + 1), .ref (u + 2), .ref (u + 3), .ref (u + 4), .ref (u + 5), .int (zI (-1)), .int (zI (0)), .int (zI (0)), .ref (u + 6), .ref (u + 7), .int (zI (0)), .int (zI (0)), .int (zI (0)), .int (zI (0)), .ref (u + 8), .null, .null, .null, .null, .null]) := eh41
  have jf42 : h41 (u) = jO 6 [.int (zI (0)), .ref (u + 1), .ref (u + 2), .ref (u + 3), .ref (u + 4), .ref (u + 5), .int (zI (-1)), .int (zI (0)), .int (zI (0)), .ref (u + 6), .ref (u + 7), .int (zI (0)), .int (zI (0)), .int (zI (0)), .int (zI (0)), .ref (u + 8), .null, .null, .null, .null, .null] := by rw [eh41, va_up_self]
  refine jl_aload_n d_Md_init_77 rfl rfl ?_
  refine jl_bipush (v := zI (32)) d_Md_init_78 (by decide) ?_
  refine jz_newa (N' := 32) (by decide) d_Md_init_80 aw_int (fun h43 eh43 => ?_)
  have eh43 : h43 = va_up h41 (u + 9) (jI 32 (fun j9 => zI ((fun _ => (0 : Int)) j9))) := eh43
  have jf44 : h43 (u + 9) = jI 32 (fun j9 => zI ((fun _ => (0 : Int)) j9)) := by rw [eh43, va_up_self]
  have jf45 : h43 (u) = jO 6 [.int (zI (0)), .ref (u + 1), .ref (u + 2), .ref (u + 3), .ref (u + 4), .ref (u + 5), .int (zI (-1)), .int (zI (0)), .int (zI (0)), .ref (u + 6), .ref (u + 7), .int (zI (0)), .int (zI (0)), .int (zI (0)), .int (zI (0)), .ref (u + 8), .null, .null, .null, .null, .null] := by rw [eh43, va_up_ne _ _ (by omega)]; exact jf42
  refine jpf_6 (q := 16) (ty := (.array .int)) d_Md_init_82 jf45 (by simp) (by decide) fw_Md_39 rfl rfl rfl (by decide +kernel) (fun _ _ => rfl) (fun _ _ => rfl) (fun h46 eh46 => ?_)
  have eh46 : h46 = va_up h43 (u) (jO 6 [.int (zI (0)), .ref (u + 1), .ref (u + 2), .ref (u + 3), .ref (u + 4), .ref (u + 5), .int (zI (-1)), .int (zI (0)), .int (zI (0)), .ref (u + 6), .ref (u + 7), .int (zI (0)), .int (zI (0)), .int (zI (0)), .int (zI (0)), .ref (u + 8), .ref (u + 9), .null, .null, .null, .null]) := eh46
  have jf47 : h46 (u) = jO 6 [.int (zI (0)), .ref (u + 1), .ref (u + 2), .ref (u + 3), .ref (u + 4), .ref (u + 5), .int (zI (-1)), .int (zI (0)), .int (zI (0)), .ref (u + 6), .ref (u + 7), .int (zI (0)), .int (zI (0)), .int (zI (0)), .int (zI (0)), .ref (u + 8), .ref (u + 9), .null, .null, .null, .null] := by rw [eh46, va_up_self]
  refine jl_aload_n d_Md_init_85 rfl rfl ?_
  refine jl_sipush (v := zI (4096)) d_Md_init_86 (by decide) ?_
  refine jz_newa (N' := 4096) (by decide) d_Md_init_89 aw_int (fun h48 eh48 => ?_)
  have eh48 : h48 = va_up h46 (u + 10) (jI 4096 (fun j9 => zI ((fun _ => (0 : Int)) j9))) := eh48
  have jf49 : h48 (u + 10) = jI 4096 (fun j9 => zI ((fun _ => (0 : Int)) j9)) := by rw [eh48, va_up_self]
  have jf50 : h48 (u) = jO 6 [.int (zI (0)), .ref (u + 1), .ref (u + 2), .ref (u + 3), .ref (u + 4), .ref (u + 5), .int (zI (-1)), .int (zI (0)), .int (zI (0)), .ref (u + 6), .ref (u + 7), .int (zI (0)), .int (zI (0)), .int (zI (0)), .int (zI (0)), .ref (u + 8), .ref (u + 9), .null, .null, .null, .null] := by rw [eh48, va_up_ne _ _ (by omega)]; exact jf47
  refine jpf_6 (q := 17) (ty := (.array .int)) d_Md_init_91 jf50 (by simp) (by decide) fw_Md_42 rfl rfl rfl (by decide +kernel) (fun _ _ => rfl) (fun _ _ => rfl) (fun h51 eh51 => ?_)
  have eh51 : h51 = va_up h48 (u) (jO 6 [.int (zI (0)), .ref (u + 1), .ref (u + 2), .ref (u + 3), .ref (u + 4), .ref (u + 5), .int (zI (-1)), .int (zI (0)), .int (zI (0)), .ref (u + 6), .ref (u + 7), .int (zI (0)), .int (zI (0)), .int (zI (0)), .int (zI (0)), .ref (u + 8), .ref (u + 9), .ref (u + 10), .null, .null, .null]) := eh51
  have jf52 : h51 (u) = jO 6 [.int (zI (0)), .ref (u + 1), .ref (u + 2), .ref (u + 3), .ref (u + 4), .ref (u + 5), .int (zI (-1)), .int (zI (0)), .int (zI (0)), .ref (u + 6), .ref (u + 7), .int (zI (0)), .int (zI (0)), .int (zI (0)), .int (zI (0)), .ref (u + 8), .ref (u + 9), .ref (u + 10), .null, .null, .null] := by rw [eh51, va_up_self]
  refine jl_aload_n d_Md_init_94 rfl rfl ?_
  refine jl_sipush (v := zI (4096)) d_Md_init_95 (by decide) ?_
  refine jz_newa (N' := 4096) (by decide) d_Md_init_98 aw_int (fun h53 eh53 => ?_)
  have eh53 : h53 = va_up h51 (u + 11) (jI 4096 (fun j9 => zI ((fun _ => (0 : Int)) j9))) := eh53
  have jf54 : h53 (u + 11) = jI 4096 (fun j9 => zI ((fun _ => (0 : Int)) j9)) := by rw [eh53, va_up_self]
  have jf55 : h53 (u) = jO 6 [.int (zI (0)), .ref (u + 1), .ref (u + 2), .ref (u + 3), .ref (u + 4), .ref (u + 5), .int (zI (-1)), .int (zI (0)), .int (zI (0)), .ref (u + 6), .ref (u + 7), .int (zI (0)), .int (zI (0)), .int (zI (0)), .int (zI (0)), .ref (u + 8), .ref (u + 9), .ref (u + 10), .null, .null, .null] := by rw [eh53, va_up_ne _ _ (by omega)]; exact jf52
  refine jpf_6 (q := 18) (ty := (.array .int)) d_Md_init_100 jf55 (by simp) (by decide) fw_Md_45 rfl rfl rfl (by decide +kernel) (fun _ _ => rfl) (fun _ _ => rfl) (fun h56 eh56 => ?_)
  have eh56 : h56 = va_up h53 (u) (jO 6 [.int (zI (0)), .ref (u + 1), .ref (u + 2), .ref (u + 3), .ref (u + 4), .ref (u + 5), .int (zI (-1)), .int (zI (0)), .int (zI (0)), .ref (u + 6), .ref (u + 7), .int (zI (0)), .int (zI (0)), .int (zI (0)), .int (zI (0)), .ref (u + 8), .ref (u + 9), .ref (u + 10), .ref (u + 11), .null, .null]) := eh56
  have jf57 : h56 (u) = jO 6 [.int (zI (0)), .ref (u + 1), .ref (u + 2), .ref (u + 3), .ref (u + 4), .ref (u + 5), .int (zI (-1)), .int (zI (0)), .int (zI (0)), .ref (u + 6), .ref (u + 7), .int (zI (0)), .int (zI (0)), .int (zI (0)), .int (zI (0)), .ref (u + 8), .ref (u + 9), .ref (u + 10), .ref (u + 11), .null, .null] := by rw [eh56, va_up_self]
  refine jl_aload_n d_Md_init_103 rfl rfl ?_
  refine jl_bipush (v := zI (6)) d_Md_init_104 (by decide) ?_
  refine jz_newa (N' := 6) (by decide) d_Md_init_106 aw_int (fun h58 eh58 => ?_)
  have eh58 : h58 = va_up h56 (u + 12) (jI 6 (fun j9 => zI ((fun _ => (0 : Int)) j9))) := eh58
  have jf59 : h58 (u + 12) = jI 6 (fun j9 => zI ((fun _ => (0 : Int)) j9)) := by rw [eh58, va_up_self]
  have jf60 : h58 (u) = jO 6 [.int (zI (0)), .ref (u + 1), .ref (u + 2), .ref (u + 3), .ref (u + 4), .ref (u + 5), .int (zI (-1)), .int (zI (0)), .int (zI (0)), .ref (u + 6), .ref (u + 7), .int (zI (0)), .int (zI (0)), .int (zI (0)), .int (zI (0)), .ref (u + 8), .ref (u + 9), .ref (u + 10), .ref (u + 11), .null, .null] := by rw [eh58, va_up_ne _ _ (by omega)]; exact jf57
  refine jpf_6 (q := 19) (ty := (.array .int)) d_Md_init_108 jf60 (by simp) (by decide) fw_Md_48 rfl rfl rfl (by decide +kernel) (fun _ _ => rfl) (fun _ _ => rfl) (fun h61 eh61 => ?_)
  have eh61 : h61 = va_up h58 (u) (jO 6 [.int (zI (0)), .ref (u + 1), .ref (u + 2), .ref (u + 3), .ref (u + 4), .ref (u + 5), .int (zI (-1)), .int (zI (0)), .int (zI (0)), .ref (u + 6), .ref (u + 7), .int (zI (0)), .int (zI (0)), .int (zI (0)), .int (zI (0)), .ref (u + 8), .ref (u + 9), .ref (u + 10), .ref (u + 11), .ref (u + 12), .null]) := eh61
  have jf62 : h61 (u) = jO 6 [.int (zI (0)), .ref (u + 1), .ref (u + 2), .ref (u + 3), .ref (u + 4), .ref (u + 5), .int (zI (-1)), .int (zI (0)), .int (zI (0)), .ref (u + 6), .ref (u + 7), .int (zI (0)), .int (zI (0)), .int (zI (0)), .int (zI (0)), .ref (u + 8), .ref (u + 9), .ref (u + 10), .ref (u + 11), .ref (u + 12), .null] := by rw [eh61, va_up_self]
  refine jl_aload_n d_Md_init_111 rfl rfl ?_
  refine jl_bipush (v := zI (16)) d_Md_init_112 (by decide) ?_
  refine jz_newa (N' := 16) (by decide) d_Md_init_114 aw_int (fun h63 eh63 => ?_)
  have eh63 : h63 = va_up h61 (u + 13) (jI 16 (fun j9 => zI ((fun _ => (0 : Int)) j9))) := eh63
  have jf64 : h63 (u + 13) = jI 16 (fun j9 => zI ((fun _ => (0 : Int)) j9)) := by rw [eh63, va_up_self]
  have jf65 : h63 (u) = jO 6 [.int (zI (0)), .ref (u + 1), .ref (u + 2), .ref (u + 3), .ref (u + 4), .ref (u + 5), .int (zI (-1)), .int (zI (0)), .int (zI (0)), .ref (u + 6), .ref (u + 7), .int (zI (0)), .int (zI (0)), .int (zI (0)), .int (zI (0)), .ref (u + 8), .ref (u + 9), .ref (u + 10), .ref (u + 11), .ref (u + 12), .null] := by rw [eh63, va_up_ne _ _ (by omega)]; exact jf62
  refine jpf_6 (q := 20) (ty := (.array .int)) d_Md_init_116 jf65 (by simp) (by decide) fw_Md_51 rfl rfl rfl (by decide +kernel) (fun _ _ => rfl) (fun _ _ => rfl) (fun h66 eh66 => ?_)
  have eh66 : h66 = va_up h63 (u) (jO 6 [.int (zI (0)), .ref (u + 1), .ref (u + 2), .ref (u + 3), .ref (u + 4), .ref (u + 5), .int (zI (-1)), .int (zI (0)), .int (zI (0)), .ref (u + 6), .ref (u + 7), .int (zI (0)), .int (zI (0)), .int (zI (0)), .int (zI (0)), .ref (u + 8), .ref (u + 9), .ref (u + 10), .ref (u + 11), .ref (u + 12), .ref (u + 13)]) := eh66
  have jf67 : h66 (u) = jO 6 [.int (zI (0)), .ref (u + 1), .ref (u + 2), .ref (u + 3), .ref (u + 4), .ref (u + 5), .int (zI (-1)), .int (zI (0)), .int (zI (0)), .ref (u + 6), .ref (u + 7), .int (zI (0)), .int (zI (0)), .int (zI (0)), .int (zI (0)), .ref (u + 8), .ref (u + 9), .ref (u + 10), .ref (u + 11), .ref (u + 12), .ref (u + 13)] := by rw [eh66, va_up_self]
  have jf68 : h66 (u + 1) = jI 8 (fun j9 => zI ((fun _ => (0 : Int)) j9)) := by rw [eh66, va_up_ne _ _ (by omega), eh63, va_up_ne _ _ (by omega), eh61, va_up_ne _ _ (by omega), eh58, va_up_ne _ _ (by omega), eh56, va_up_ne _ _ (by omega), eh53, va_up_ne _ _ (by omega), eh51, va_up_ne _ _ (by omega), eh48, va_up_ne _ _ (by omega), eh46, va_up_ne _ _ (by omega), eh43, va_up_ne _ _ (by omega), eh41, va_up_ne _ _ (by omega), eh38, va_up_ne _ _ (by omega), eh36, va_up_ne _ _ (by omega), eh33, va_up_ne _ _ (by omega), eh31, va_up_ne _ _ (by omega), eh28, va_up_ne _ _ (by omega), eh26, va_up_ne _ _ (by omega), eh24, va_up_ne _ _ (by omega), eh21, va_up_ne _ _ (by omega), eh19, va_up_ne _ _ (by omega), eh16, va_up_ne _ _ (by omega), eh14, va_up_ne _ _ (by omega), eh11, va_up_ne _ _ (by omega), eh9, va_up_ne _ _ (by omega), eh6, va_up_ne _ _ (by omega), eh4, va_up_ne _ _ (by omega)]; exact jf2
  have jf69 : h66 (u + 2) = jI 8 (fun j9 => zI ((fun _ => (0 : Int)) j9)) := by rw [eh66, va_up_ne _ _ (by omega), eh63, va_up_ne _ _ (by omega), eh61, va_up_ne _ _ (by omega), eh58, va_up_ne _ _ (by omega), eh56, va_up_ne _ _ (by omega), eh53, va_up_ne _ _ (by omega), eh51, va_up_ne _ _ (by omega), eh48, va_up_ne _ _ (by omega), eh46, va_up_ne _ _ (by omega), eh43, va_up_ne _ _ (by omega), eh41, va_up_ne _ _ (by omega), eh38, va_up_ne _ _ (by omega), eh36, va_up_ne _ _ (by omega), eh33, va_up_ne _ _ (by omega), eh31, va_up_ne _ _ (by omega), eh28, va_up_ne _ _ (by omega), eh26, va_up_ne _ _ (by omega), eh24, va_up_ne _ _ (by omega), eh21, va_up_ne _ _ (by omega), eh19, va_up_ne _ _ (by omega), eh16, va_up_ne _ _ (by omega), eh14, va_up_ne _ _ (by omega), eh11, va_up_ne _ _ (by omega), eh9, va_up_ne _ _ (by omega)]; exact jf7
  have jf70 : h66 (u + 3) = jI 128 (fun j9 => zI ((fun _ => (0 : Int)) j9)) := by rw [eh66, va_up_ne _ _ (by omega), eh63, va_up_ne _ _ (by omega), eh61, va_up_ne _ _ (by omega), eh58, va_up_ne _ _ (by omega), eh56, va_up_ne _ _ (by omega), eh53, va_up_ne _ _ (by omega), eh51, va_up_ne _ _ (by omega), eh48, va_up_ne _ _ (by omega), eh46, va_up_ne _ _ (by omega), eh43, va_up_ne _ _ (by omega), eh41, va_up_ne _ _ (by omega), eh38, va_up_ne _ _ (by omega), eh36, va_up_ne _ _ (by omega), eh33, va_up_ne _ _ (by omega), eh31, va_up_ne _ _ (by omega), eh28, va_up_ne _ _ (by omega), eh26, va_up_ne _ _ (by omega), eh24, va_up_ne _ _ (by omega), eh21, va_up_ne _ _ (by omega), eh19, va_up_ne _ _ (by omega), eh16, va_up_ne _ _ (by omega), eh14, va_up_ne _ _ (by omega)]; exact jf12
  have jf71 : h66 (u + 4) = jI 384 (fun j9 => zI ((fun _ => (0 : Int)) j9)) := by rw [eh66, va_up_ne _ _ (by omega), eh63, va_up_ne _ _ (by omega), eh61, va_up_ne _ _ (by omega), eh58, va_up_ne _ _ (by omega), eh56, va_up_ne _ _ (by omega), eh53, va_up_ne _ _ (by omega), eh51, va_up_ne _ _ (by omega), eh48, va_up_ne _ _ (by omega), eh46, va_up_ne _ _ (by omega), eh43, va_up_ne _ _ (by omega), eh41, va_up_ne _ _ (by omega), eh38, va_up_ne _ _ (by omega), eh36, va_up_ne _ _ (by omega), eh33, va_up_ne _ _ (by omega), eh31, va_up_ne _ _ (by omega), eh28, va_up_ne _ _ (by omega), eh26, va_up_ne _ _ (by omega), eh24, va_up_ne _ _ (by omega), eh21, va_up_ne _ _ (by omega), eh19, va_up_ne _ _ (by omega)]; exact jf17
  have jf72 : h66 (u + 5) = jZ 128 (fun j9 => zI ((fun _ => (0 : Int)) j9)) := by rw [eh66, va_up_ne _ _ (by omega), eh63, va_up_ne _ _ (by omega), eh61, va_up_ne _ _ (by omega), eh58, va_up_ne _ _ (by omega), eh56, va_up_ne _ _ (by omega), eh53, va_up_ne _ _ (by omega), eh51, va_up_ne _ _ (by omega), eh48, va_up_ne _ _ (by omega), eh46, va_up_ne _ _ (by omega), eh43, va_up_ne _ _ (by omega), eh41, va_up_ne _ _ (by omega), eh38, va_up_ne _ _ (by omega), eh36, va_up_ne _ _ (by omega), eh33, va_up_ne _ _ (by omega), eh31, va_up_ne _ _ (by omega), eh28, va_up_ne _ _ (by omega), eh26, va_up_ne _ _ (by omega), eh24, va_up_ne _ _ (by omega)]; exact jf22
  have jf73 : h66 (u + 6) = jI 16 (fun j9 => zI ((fun _ => (0 : Int)) j9)) := by rw [eh66, va_up_ne _ _ (by omega), eh63, va_up_ne _ _ (by omega), eh61, va_up_ne _ _ (by omega), eh58, va_up_ne _ _ (by omega), eh56, va_up_ne _ _ (by omega), eh53, va_up_ne _ _ (by omega), eh51, va_up_ne _ _ (by omega), eh48, va_up_ne _ _ (by omega), eh46, va_up_ne _ _ (by omega), eh43, va_up_ne _ _ (by omega), eh41, va_up_ne _ _ (by omega), eh38, va_up_ne _ _ (by omega), eh36, va_up_ne _ _ (by omega), eh33, va_up_ne _ _ (by omega), eh31, va_up_ne _ _ (by omega)]; exact jf29
  have jf74 : h66 (u + 7) = jI 512 (fun j9 => zI ((fun _ => (0 : Int)) j9)) := by rw [eh66, va_up_ne _ _ (by omega), eh63, va_up_ne _ _ (by omega), eh61, va_up_ne _ _ (by omega), eh58, va_up_ne _ _ (by omega), eh56, va_up_ne _ _ (by omega), eh53, va_up_ne _ _ (by omega), eh51, va_up_ne _ _ (by omega), eh48, va_up_ne _ _ (by omega), eh46, va_up_ne _ _ (by omega), eh43, va_up_ne _ _ (by omega), eh41, va_up_ne _ _ (by omega), eh38, va_up_ne _ _ (by omega), eh36, va_up_ne _ _ (by omega)]; exact jf34
  have jf75 : h66 (u + 8) = jI 32 (fun j9 => zI ((fun _ => (0 : Int)) j9)) := by rw [eh66, va_up_ne _ _ (by omega), eh63, va_up_ne _ _ (by omega), eh61, va_up_ne _ _ (by omega), eh58, va_up_ne _ _ (by omega), eh56, va_up_ne _ _ (by omega), eh53, va_up_ne _ _ (by omega), eh51, va_up_ne _ _ (by omega), eh48, va_up_ne _ _ (by omega), eh46, va_up_ne _ _ (by omega), eh43, va_up_ne _ _ (by omega), eh41, va_up_ne _ _ (by omega)]; exact jf39
  have jf76 : h66 (u + 9) = jI 32 (fun j9 => zI ((fun _ => (0 : Int)) j9)) := by rw [eh66, va_up_ne _ _ (by omega), eh63, va_up_ne _ _ (by omega), eh61, va_up_ne _ _ (by omega), eh58, va_up_ne _ _ (by omega), eh56, va_up_ne _ _ (by omega), eh53, va_up_ne _ _ (by omega), eh51, va_up_ne _ _ (by omega), eh48, va_up_ne _ _ (by omega), eh46, va_up_ne _ _ (by omega)]; exact jf44
  have jf77 : h66 (u + 10) = jI 4096 (fun j9 => zI ((fun _ => (0 : Int)) j9)) := by rw [eh66, va_up_ne _ _ (by omega), eh63, va_up_ne _ _ (by omega), eh61, va_up_ne _ _ (by omega), eh58, va_up_ne _ _ (by omega), eh56, va_up_ne _ _ (by omega), eh53, va_up_ne _ _ (by omega), eh51, va_up_ne _ _ (by omega)]; exact jf49
  have jf78 : h66 (u + 11) = jI 4096 (fun j9 => zI ((fun _ => (0 : Int)) j9)) := by rw [eh66, va_up_ne _ _ (by omega), eh63, va_up_ne _ _ (by omega), eh61, va_up_ne _ _ (by omega), eh58, va_up_ne _ _ (by omega), eh56, va_up_ne _ _ (by omega)]; exact jf54
  have jf79 : h66 (u + 12) = jI 6 (fun j9 => zI ((fun _ => (0 : Int)) j9)) := by rw [eh66, va_up_ne _ _ (by omega), eh63, va_up_ne _ _ (by omega), eh61, va_up_ne _ _ (by omega)]; exact jf59
  have jf80 : h66 (u + 13) = jI 16 (fun j9 => zI ((fun _ => (0 : Int)) j9)) := by rw [eh66, va_up_ne _ _ (by omega)]; exact jf64
  have hM9 : jM h66 u (mkM 0 (fun _ => 0) (fun _ => 0) (fun _ => 0) (fun _ => 0) (fun _ => 0) (-1) 0 0 (fun _ => 0) (fun _ => 0) 0 0 0 0 (fun _ => 0) (fun _ => 0) (fun _ => 0) (fun _ => 0) (fun _ => 0) (fun _ => 0)) := ⟨jf67, jf68, jf69, jf70, jf71, jf72, jf73, jf74, jf75, jf76, jf77, jf78, jf79, jf80⟩
  refine jl_aload_n d_Md_init_119 rfl rfl ?_
  refine jl_iconst (v := zI (0)) d_Md_init_120 (by decide) ?_
  refine jl_iconst (v := zI (0)) d_Md_init_121 (by decide) ?_
  refine jl_iconst (v := zI (1)) d_Md_init_122 (by decide) ?_
  refine jl_invV (M' := m_Md_fresh) (d' := d - 1) (ck' := 0) (sk' := 0) (na := 3) (as := [.int (zI (0)), .int (zI (0)), .int (zI (1))]) (st := []) d_Md_init_123 rfl jf67 rfl mw_Md_54 ww_Md_fresh sw_Md_fresh nw_Md cw_Md_fresh rfl rfl rfl (by decide +kernel) (by omega) (Nat.le_of_ble_eq_true rfl) (Nat.le_of_ble_eq_true rfl) ?_
  refine k_M_fresh hl9 (by omega) hM9 (fun hz hMz hfr => ?_)
  show jl_AW _ _ _ _ _ 126 [some (.ref (u))] [] (u + 14) hz _ _
  exact jl_vret d_Md_init_126 rfl (hk hz hMz (fun y hy => by rw [hfr y (Or.inl hy), eh66, va_up_ne _ _ (by omega), eh63, va_up_ne _ _ (by omega), eh61, va_up_ne _ _ (by omega), eh58, va_up_ne _ _ (by omega), eh56, va_up_ne _ _ (by omega), eh53, va_up_ne _ _ (by omega), eh51, va_up_ne _ _ (by omega), eh48, va_up_ne _ _ (by omega), eh46, va_up_ne _ _ (by omega), eh43, va_up_ne _ _ (by omega), eh41, va_up_ne _ _ (by omega), eh38, va_up_ne _ _ (by omega), eh36, va_up_ne _ _ (by omega), eh33, va_up_ne _ _ (by omega), eh31, va_up_ne _ _ (by omega), eh28, va_up_ne _ _ (by omega), eh26, va_up_ne _ _ (by omega), eh24, va_up_ne _ _ (by omega), eh21, va_up_ne _ _ (by omega), eh19, va_up_ne _ _ (by omega), eh16, va_up_ne _ _ (by omega), eh14, va_up_ne _ _ (by omega), eh11, va_up_ne _ _ (by omega), eh9, va_up_ne _ _ (by omega), eh6, va_up_ne _ _ (by omega), eh4, va_up_ne _ _ (by omega), eh1, va_up_ne _ _ (by omega)]))
