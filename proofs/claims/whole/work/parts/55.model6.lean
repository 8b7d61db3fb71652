set_option maxHeartbeats 4000000 in
set_option maxRecDepth 100000 in
theorem k_M_join {l : Launch} {G : jl_G} {d n : Nat} {h : Nat → va_E} {Kr : Option Value → Nat → (Nat → va_E) → Prop} {Kx : String → Nat → (Nat → va_E) → Prop} (hl9 : l.stackTraces = false) (hdd : 4 ≤ d) {u : Nat} {M : MS} {a b : Int} (hM9 : jM h u M) (ok : mOk M) (ha : zR a) (hb : zR b) (hRe : (0 ≤ a ∧ a ≤ 5) ∧ (0 ≤ b ∧ b ≤ 5) → ¬ M.pe (1 + a).toNat = 0 ∧ ¬ M.pe (1 + b).toNat = 0 → (M.mo (1 + a).toNat = 0 ∧ M.mo (1 + b).toNat = 0) ∧ (sp_ev (M.mo (1 + a).toNat) (M.pe (1 + a).toNat) (hM M (1 + a)) (cM M (1 + a)) (xM M (1 + a)) ∧ sp_ev (M.mo (1 + b).toNat) (M.pe (1 + b).toNat) (hM M (1 + b)) (cM M (1 + b)) (xM M (1 + b))) ∧ sp_balls (M.pe (1 + a).toNat) (hM M (1 + a)) (cM M (1 + a)) = sp_balls (M.pe (1 + b).toNat) (hM M (1 + b)) (cM M (1 + b)) → ∀ s : Int, 0 ≤ s → s < M.pe (1 + a).toNat → rch (glS (M.pe (1 + b).toNat) (hM M (1 + b))) 9 (sp_st (M.pe (1 + a).toNat) (hM M (1 + a)) s)) (hk0 : (0 ≤ a ∧ a ≤ 5) ∧ (0 ≤ b ∧ b ≤ 5) → ¬ M.pe (1 + a).toNat = 0 ∧ ¬ M.pe (1 + b).toNat = 0 → (M.mo (1 + a).toNat = 0 ∧ M.mo (1 + b).toNat = 0) ∧ (sp_ev (M.mo (1 + a).toNat) (M.pe (1 + a).toNat) (hM M (1 + a)) (cM M (1 + a)) (xM M (1 + a)) ∧ sp_ev (M.mo (1 + b).toNat) (M.pe (1 + b).toNat) (hM M (1 + b)) (cM M (1 + b)) (xM M (1 + b))) ∧ sp_balls (M.pe (1 + a).toNat) (hM M (1 + a)) (cM M (1 + a)) = sp_balls (M.pe (1 + b).toNat) (hM M (1 + b)) (cM M (1 + b)) → ∀ (A : Int) (W : List Int) (z r : Int) (fa wy : Nat → Int) h', nst (glS (M.pe (1 + b).toNat) (hM M (1 + b))) (M.pe (1 + a).toNat) (hM M (1 + a)) A → (wlk (glS (M.pe (1 + b).toNat) (hM M (1 + b))) W.length (sp_st (M.pe (1 + a).toNat) (hM M (1 + a)) A) W z ∧ isD (glS (M.pe (1 + b).toNat) (hM M (1 + b))) (sp_st (M.pe (1 + a).toNat) (hM M (1 + a)) A) (W.length : Int)) → sp_first (M.pe (1 + b).toNat) (fun s => sp_st (M.pe (1 + b).toNat) (hM M (1 + b)) s = z) (fun _ => False) r → W.length ≤ 9 → (∀ j, j < W.length → wy j = W.getD j 0) → jM h' u ((((((M.wT 0).wjn ((W.length : Int))).wja (A)).wjb (r)).wwy (wy)).wfa (fa)) → jfr h h' u (u + 14) → Kr (some (.int (zI (W.length : Int)))) n h') (hk1 : ¬ ((0 ≤ a ∧ a ≤ 5) ∧ (0 ≤ b ∧ b ≤ 5)) → ∀ h', jM h' u (M.wT 1) → jfr h h' u (u + 14) → Kr (some (.int (zI (0)))) n h') (hk2 : (0 ≤ a ∧ a ≤ 5) ∧ (0 ≤ b ∧ b ≤ 5) → ¬ (¬ M.pe (1 + a).toNat = 0 ∧ ¬ M.pe (1 + b).toNat = 0) → ∀ h', jM h' u (M.wT 2) → jfr h h' u (u + 14) → Kr (some (.int (zI (0)))) n h') (hk3 : (0 ≤ a ∧ a ≤ 5) ∧ (0 ≤ b ∧ b ≤ 5) → ¬ M.pe (1 + a).toNat = 0 ∧ ¬ M.pe (1 + b).toNat = 0 → ¬ ((M.mo (1 + a).toNat = 0 ∧ M.mo (1 + b).toNat = 0) ∧ (sp_ev (M.mo (1 + a).toNat) (M.pe (1 + a).toNat) (hM M (1 + a)) (cM M (1 + a)) (xM M (1 + a)) ∧ sp_ev (M.mo (1 + b).toNat) (M.pe (1 + b).toNat) (hM M (1 + b)) (cM M (1 + b)) (xM M (1 + b))) ∧ sp_balls (M.pe (1 + a).toNat) (hM M (1 + a)) (cM M (1 + a)) = sp_balls (M.pe (1 + b).toNat) (hM M (1 + b)) (cM M (1 + b))) → ∀ h', jM h' u (M.wT 3) → jfr h h' u (u + 14) → Kr (some (.int (zI (0)))) n h') : jl_Call l G m_Md_join d [.ref (u), .int (zI (a)), .int (zI (b))] n h 0 0 Kr Kx := by
  refine jl_enter hl9 (by decide) rfl (by simp [Value.category]) (Nat.le_of_ble_eq_true rfl) ?_
  show jl_AW l G (jl_F G Kr Kx) m_Md_join d 0 [some (.ref (u)), some (.int (zI (a))), some (.int (zI (b))), none, none, none, none] [] n h 0 0
  obtain ⟨q0, q1, q2, q3, q4, q5, q6, q7, q8, q9, q10, q11, q12, q13⟩ := id (hM9)
  have p0 : h u = jO 6 [.int (zI (M.T)), .ref (u + 1), .ref (u + 2), .ref (u + 3), .ref (u + 4), .ref (u + 5), .int (zI (M.jn)), .int (zI (M.ja)), .int (zI (M.jb)), .ref (u + 6), .ref (u + 7), .int (zI (M.nw)), .int (zI (M.bl)), .int (zI (M.lt)), .int (zI (M.rt)), .ref (u + 8), .ref (u + 9), .ref (u + 10), .ref (u + 11), .ref (u + 12), .ref (u + 13)] := q0
  have p1 : h (u + 1) = jI 8 (fun j9 => zI (M.mo j9)) := q1
  have p2 : h (u + 2) = jI 8 (fun j9 => zI (M.pe j9)) := q2
  have p3 : h (u + 3) = jI 128 (fun j9 => zI (M.co j9)) := q3
  have p4 : h (u + 4) = jI 384 (fun j9 => zI (M.he j9)) := q4
  have p5 : h (u + 5) = jZ 128 (fun j9 => zI (M.cr j9)) := q5
  have p6 : h (u + 6) = jI 16 (fun j9 => zI (M.wy j9)) := q6
  have p7 : h (u + 7) = jI 512 (fun j9 => zI (M.fa j9)) := q7
  have p8 : h (u + 8) = jI 32 (fun j9 => zI (M.la j9)) := q8
  have p9 : h (u + 9) = jI 32 (fun j9 => zI (M.ha j9)) := q9
  have p10 : h (u + 10) = jI 4096 (fun j9 => zI (M.w1 j9)) := q10
  have p11 : h (u + 11) = jI 4096 (fun j9 => zI (M.mr j9)) := q11
  have p12 : h (u + 12) = jI 6 (fun j9 => zI (M.rw j9)) := q12
  have p13 : h (u + 13) = jI 16 (fun j9 => zI (M.tu j9)) := q13
  refine jl_aload_n d_Md_join_0 rfl rfl ?_
  refine jl_iconst (v := zI (0)) d_Md_join_1 (by decide) ?_
  refine jp_6 (q := 0) (ty := .int) d_Md_join_2 p0 (by simp) (by decide) fw_Md_58 rfl (by decide +kernel) (fun _ _ => rfl) (fun _ _ => rfl) (fun h1 eh1 => ?_)
  have eh1 : h1 = va_up h (u) (jO 6 [.int (zI (0)), .ref (u + 1), .ref (u + 2), .ref (u + 3), .ref (u + 4), .ref (u + 5), .int (zI (M.jn)), .int (zI (M.ja)), .int (zI (M.jb)), .ref (u + 6), .ref (u + 7), .int (zI (M.nw)), .int (zI (M.bl)), .int (zI (M.lt)), .int (zI (M.rt)), .ref (u + 8), .ref (u + 9), .ref (u + 10), .ref (u + 11), .ref (u + 12), .ref (u + 13)]) := eh1
  have jf2 : h1 (u) = jO 6 [.int (zI (0)), .ref (u + 1), .ref (u + 2), .ref (u + 3), .ref (u + 4), .ref (u + 5), .int (zI (M.jn)), .int (zI (M.ja)), .int (zI (M.jb)), .ref (u + 6), .ref (u + 7), .int (zI (M.nw)), .int (zI (M.bl)), .int (zI (M.lt)), .int (zI (M.rt)), .ref (u + 8), .ref (u + 9), .ref (u + 10), .ref (u + 11), .ref (u + 12), .ref (u + 13)] := by rw [eh1, va_up_self]
  have jf3 : h1 (u + 1) = jI 8 (fun j9 => zI (M.mo j9)) := by rw [eh1, va_up_ne _ _ (by omega)]; exact p1
  have jf4 : h1 (u + 2) = jI 8 (fun j9 => zI (M.pe j9)) := by rw [eh1, va_up_ne _ _ (by omega)]; exact p2
  have jf5 : h1 (u + 3) = jI 128 (fun j9 => zI (M.co j9)) := by rw [eh1, va_up_ne _ _ (by omega)]; exact p3
  have jf6 : h1 (u + 4) = jI 384 (fun j9 => zI (M.he j9)) := by rw [eh1, va_up_ne _ _ (by omega)]; exact p4
  have jf7 : h1 (u + 5) = jZ 128 (fun j9 => zI (M.cr j9)) := by rw [eh1, va_up_ne _ _ (by omega)]; exact p5
  have jf8 : h1 (u + 6) = jI 16 (fun j9 => zI (M.wy j9)) := by rw [eh1, va_up_ne _ _ (by omega)]; exact p6
  have jf9 : h1 (u + 7) = jI 512 (fun j9 => zI (M.fa j9)) := by rw [eh1, va_up_ne _ _ (by omega)]; exact p7
  have jf10 : h1 (u + 8) = jI 32 (fun j9 => zI (M.la j9)) := by rw [eh1, va_up_ne _ _ (by omega)]; exact p8
  have jf11 : h1 (u + 9) = jI 32 (fun j9 => zI (M.ha j9)) := by rw [eh1, va_up_ne _ _ (by omega)]; exact p9
  have jf12 : h1 (u + 10) = jI 4096 (fun j9 => zI (M.w1 j9)) := by rw [eh1, va_up_ne _ _ (by omega)]; exact p10
  have jf13 : h1 (u + 11) = jI 4096 (fun j9 => zI (M.mr j9)) := by rw [eh1, va_up_ne _ _ (by omega)]; exact p11
  have jf14 : h1 (u + 12) = jI 6 (fun j9 => zI (M.rw j9)) := by rw [eh1, va_up_ne _ _ (by omega)]; exact p12
  have jf15 : h1 (u + 13) = jI 16 (fun j9 => zI (M.tu j9)) := by rw [eh1, va_up_ne _ _ (by omega)]; exact p13
  have hM1 : jM h1 u (M.wT 0) := ⟨jf2, jf3, jf4, jf5, jf6, jf7, jf8, jf9, jf10, jf11, jf12, jf13, jf14, jf15⟩
  have hf1 : jfr h h1 u (u + 14) := (fun y hy => by rw [eh1, va_up_ne _ _ (by omega)])
  obtain ⟨q0a, q1a, q2a, q3a, q4a, q5a, q6a, q7a, q8a, q9a, q10a, q11a, q12a, q13a⟩ := id (hM1)
  have p0a : h1 u = jO 6 [.int (zI (0)), .ref (u + 1), .ref (u + 2), .ref (u + 3), .ref (u + 4), .ref (u + 5), .int (zI (M.jn)), .int (zI (M.ja)), .int (zI (M.jb)), .ref (u + 6), .ref (u + 7), .int (zI (M.nw)), .int (zI (M.bl)), .int (zI (M.lt)), .int (zI (M.rt)), .ref (u + 8), .ref (u + 9), .ref (u + 10), .ref (u + 11), .ref (u + 12), .ref (u + 13)] := q0a
  have p1a : h1 (u + 1) = jI 8 (fun j9 => zI (M.mo j9)) := q1a
  have p2a : h1 (u + 2) = jI 8 (fun j9 => zI (M.pe j9)) := q2a
  have p3a : h1 (u + 3) = jI 128 (fun j9 => zI (M.co j9)) := q3a
  have p4a : h1 (u + 4) = jI 384 (fun j9 => zI (M.he j9)) := q4a
  have p5a : h1 (u + 5) = jZ 128 (fun j9 => zI (M.cr j9)) := q5a
  have p6a : h1 (u + 6) = jI 16 (fun j9 => zI (M.wy j9)) := q6a
  have p7a : h1 (u + 7) = jI 512 (fun j9 => zI (M.fa j9)) := q7a
  have p8a : h1 (u + 8) = jI 32 (fun j9 => zI (M.la j9)) := q8a
  have p9a : h1 (u + 9) = jI 32 (fun j9 => zI (M.ha j9)) := q9a
  have p10a : h1 (u + 10) = jI 4096 (fun j9 => zI (M.w1 j9)) := q10a
  have p11a : h1 (u + 11) = jI 4096 (fun j9 => zI (M.mr j9)) := q11a
  have p12a : h1 (u + 12) = jI 6 (fun j9 => zI (M.rw j9)) := q12a
  have p13a : h1 (u + 13) = jI 16 (fun j9 => zI (M.tu j9)) := q13a
  refine jl_iload_n d_Md_join_5 rfl rfl ?_
  refine jl_iconst (v := zI (0)) d_Md_join_6 (by decide) ?_
  refine jl_iconst (v := zI (5)) d_Md_join_7 (by decide) ?_
  refine jl_invS (M' := m_Md_within) (d' := d - 1) (ck' := 0) (sk' := 0) (na := 3) (as := [.int (zI (a)), .int (zI (0)), .int (zI (5))]) (st := []) d_Md_join_8 rfl mw_Md_61 ww_Md_within nw_Md cw_Md_within rfl rfl rfl (by decide +kernel) (by omega) (Nat.le_of_ble_eq_true rfl) (Nat.le_of_ble_eq_true rfl) ?_
  refine k_M_within hl9 (by omega) ha ⟨by decide, by decide⟩ ⟨by decide, by decide⟩ (fun i1 => ?_) (fun i1 => ?_)
  · show jl_AW _ _ _ _ _ 11 [some (.ref (u)), some (.int (zI (a))), some (.int (zI (b))), none, none, none, none] [.int (zI (1))] n h1 _ _
    refine jz_if_eq (tgt := 23) d_Md_join_11 (by decide) ⟨by decide, by decide⟩ (fun q9 => absurd q9 (by decide)) (fun _ => ?_)
    refine jl_iload_n d_Md_join_14 rfl rfl ?_
    refine jl_iconst (v := zI (0)) d_Md_join_15 (by decide) ?_
    refine jl_iconst (v := zI (5)) d_Md_join_16 (by decide) ?_
    refine jl_invS (M' := m_Md_within) (d' := d - 1) (ck' := 0) (sk' := 0) (na := 3) (as := [.int (zI (b)), .int (zI (0)), .int (zI (5))]) (st := []) d_Md_join_17 rfl mw_Md_61 ww_Md_within nw_Md cw_Md_within rfl rfl rfl (by decide +kernel) (by omega) (Nat.le_of_ble_eq_true rfl) (Nat.le_of_ble_eq_true rfl) ?_
    refine k_M_within hl9 (by omega) hb ⟨by decide, by decide⟩ ⟨by decide, by decide⟩ (fun i2 => ?_) (fun i2 => ?_)
    · show jl_AW _ _ _ _ _ 20 [some (.ref (u)), some (.int (zI (a))), some (.int (zI (b))), none, none, none, none] [.int (zI (1))] n h1 _ _
      refine jz_if_ne (tgt := 29) d_Md_join_20 (by decide) ⟨by decide, by decide⟩ (fun _ => ?_) (fun q9 => absurd q9 (by decide))
      have hp1 := ok.2.1 (1 + a).toNat
      have hp2 := ok.2.1 (1 + b).toNat
      have hm1 := ok.1 (1 + a).toNat
      have hm2 := ok.1 (1 + b).toNat
      refine jl_iconst (v := zI (1)) d_Md_join_29 (by decide) ?_
      refine jl_iload_n d_Md_join_30 rfl rfl ?_
      refine jz_iadd (v := 1 + a) d_Md_join_31 (by omega) ?_
      refine jl_istore_n (L' := [some (.ref (u)), some (.int (zI (a))), some (.int (zI (b))), some (.int (zI (1 + a))), none, none, none]) d_Md_join_32 rfl (by decide) rfl ?_
      refine jl_iconst (v := zI (1)) d_Md_join_33 (by decide) ?_
      refine jl_iload_n d_Md_join_34 rfl rfl ?_
      refine jz_iadd (v := 1 + b) d_Md_join_35 (by omega) ?_
      refine jl_istore (L' := [some (.ref (u)), some (.int (zI (a))), some (.int (zI (b))), some (.int (zI (1 + a))), some (.int (zI (1 + b))), none, none]) d_Md_join_36 (by decide) rfl ?_
      refine jl_aload_n d_Md_join_38 rfl rfl ?_
      refine jg_6 (q := 2) d_Md_join_39 p0a rfl (by decide) fw_Md_13 ?_
      refine jl_iload_n d_Md_join_42 rfl rfl ?_
      refine jz_iald d_Md_join_43 p2a (by omega) (by omega) (by omega) ?_
      refine jz_if_eq (tgt := 57) d_Md_join_44 (by decide) ⟨by omega, by omega⟩ (fun q1 => ?_) (fun q1 => ?_)
      · refine jl_aload_n d_Md_join_57 rfl rfl ?_
        refine jl_iconst (v := zI (2)) d_Md_join_58 (by decide) ?_
        refine jl_invV (M' := m_Md_fail) (d' := d - 1) (ck' := 0) (sk' := 0) (na := 1) (as := [.int (zI (2))]) (st := []) d_Md_join_59 rfl p0a rfl mw_Md_65 ww_Md_fail sw_Md_fail nw_Md cw_Md_fail rfl rfl rfl (by decide +kernel) (by omega) (Nat.le_of_ble_eq_true rfl) (Nat.le_of_ble_eq_true rfl) ?_
        refine k_M_fail hl9 (by omega) hM1 (fun h2 hM2 hf2 => ?_)
        show jl_AW _ _ _ _ _ 62 [some (.ref (u)), some (.int (zI (a))), some (.int (zI (b))), some (.int (zI (1 + a))), some (.int (zI (1 + b))), none, none] [.int (zI (0))] n h2 _ _
        exact jl_iret d_Md_join_62 rfl (hk2 ⟨i1, i2⟩ (fun q => q.1 q1) h2 hM2 (jfr_tr hf1 hf2))
      · refine jl_aload_n d_Md_join_47 rfl rfl ?_
        refine jg_6 (q := 2) d_Md_join_48 p0a rfl (by decide) fw_Md_13 ?_
        refine jl_iload d_Md_join_51 rfl ?_
        refine jz_iald d_Md_join_53 p2a (by omega) (by omega) (by omega) ?_
        refine jz_if_ne (tgt := 63) d_Md_join_54 (by decide) ⟨by omega, by omega⟩ (fun q2 => ?_) (fun q2 => ?_)
        · have hpr : ¬ M.pe (1 + a).toNat = 0 ∧ ¬ M.pe (1 + b).toNat = 0 := ⟨q1, q2⟩
          have hsl : (0 ≤ a ∧ a ≤ 5) ∧ (0 ≤ b ∧ b ≤ 5) := ⟨i1, i2⟩
          refine jl_aload_n d_Md_join_63 rfl rfl ?_
          refine jg_6 (q := 1) d_Md_join_64 p0a rfl (by decide) fw_Md_7 ?_
          refine jl_iload_n d_Md_join_67 rfl rfl ?_
          refine jz_iald d_Md_join_68 p1a (by omega) (by omega) (by omega) ?_
          refine jz_if_ne (tgt := 113) d_Md_join_69 (by decide) ⟨by omega, by omega⟩ (fun q3 => ?_) (fun q3 => ?_)
          · refine jl_aload_n d_Md_join_113 rfl rfl ?_
            refine jl_iconst (v := zI (3)) d_Md_join_114 (by decide) ?_
            refine jl_invV (M' := m_Md_fail) (d' := d - 1) (ck' := 0) (sk' := 0) (na := 1) (as := [.int (zI (3))]) (st := []) d_Md_join_115 rfl p0a rfl mw_Md_65 ww_Md_fail sw_Md_fail nw_Md cw_Md_fail rfl rfl rfl (by decide +kernel) (by omega) (Nat.le_of_ble_eq_true rfl) (Nat.le_of_ble_eq_true rfl) ?_
            refine k_M_fail hl9 (by omega) hM1 (fun h2 hM2 hf2 => ?_)
            show jl_AW _ _ _ _ _ 118 [some (.ref (u)), some (.int (zI (a))), some (.int (zI (b))), some (.int (zI (1 + a))), some (.int (zI (1 + b))), none, none] [.int (zI (0))] n h2 _ _
            exact jl_iret d_Md_join_118 rfl (hk3 hsl hpr (fun q => q3 q.1.1) h2 hM2 (jfr_tr hf1 hf2))
          · refine jl_aload_n d_Md_join_72 rfl rfl ?_
            refine jg_6 (q := 1) d_Md_join_73 p0a rfl (by decide) fw_Md_7 ?_
            refine jl_iload d_Md_join_76 rfl ?_
            refine jz_iald d_Md_join_78 p1a (by omega) (by omega) (by omega) ?_
            refine jz_if_ne (tgt := 113) d_Md_join_79 (by decide) ⟨by omega, by omega⟩ (fun q4 => ?_) (fun q4 => ?_)
            · refine jl_aload_n d_Md_join_113 rfl rfl ?_
              refine jl_iconst (v := zI (3)) d_Md_join_114 (by decide) ?_
              refine jl_invV (M' := m_Md_fail) (d' := d - 1) (ck' := 0) (sk' := 0) (na := 1) (as := [.int (zI (3))]) (st := []) d_Md_join_115 rfl p0a rfl mw_Md_65 ww_Md_fail sw_Md_fail nw_Md cw_Md_fail rfl rfl rfl (by decide +kernel) (by omega) (Nat.le_of_ble_eq_true rfl) (Nat.le_of_ble_eq_true rfl) ?_
              refine k_M_fail hl9 (by omega) hM1 (fun h2 hM2 hf2 => ?_)
              show jl_AW _ _ _ _ _ 118 [some (.ref (u)), some (.int (zI (a))), some (.int (zI (b))), some (.int (zI (1 + a))), some (.int (zI (1 + b))), none, none] [.int (zI (0))] n h2 _ _
              exact jl_iret d_Md_join_118 rfl (hk3 hsl hpr (fun q => q4 q.1.2) h2 hM2 (jfr_tr hf1 hf2))
            · refine jl_aload_n d_Md_join_82 rfl rfl ?_
              refine jl_iload_n d_Md_join_83 rfl rfl ?_
              refine jl_invV (M' := m_Md_isValid) (d' := d - 1) (ck' := 0) (sk' := 0) (na := 1) (as := [.int (zI (1 + a))]) (st := []) d_Md_join_84 rfl p0a rfl mw_Md_87 ww_Md_isValid sw_Md_isValid nw_Md cw_Md_isValid rfl rfl rfl (by decide +kernel) (by omega) (Nat.le_of_ble_eq_true rfl) (Nat.le_of_ble_eq_true rfl) ?_
              refine k_M_isValid hl9 (by omega) hM1 ok ⟨by omega, by omega⟩ (show 1 ≤ M.pe (1 + a).toNat by omega) (fun g1 hg1 => ?_)
              show jl_AW _ _ _ _ _ 87 [some (.ref (u)), some (.int (zI (a))), some (.int (zI (b))), some (.int (zI (1 + a))), some (.int (zI (1 + b))), none, none] [.int (zI (g1))] n h1 _ _
              have hg8 := sp_is_rg hg1
              refine jz_if_eq (tgt := 113) d_Md_join_87 (by decide) ⟨by omega, by omega⟩ (fun q5 => ?_) (fun q5 => ?_)
              · refine jl_aload_n d_Md_join_113 rfl rfl ?_
                refine jl_iconst (v := zI (3)) d_Md_join_114 (by decide) ?_
                refine jl_invV (M' := m_Md_fail) (d' := d - 1) (ck' := 0) (sk' := 0) (na := 1) (as := [.int (zI (3))]) (st := []) d_Md_join_115 rfl p0a rfl mw_Md_65 ww_Md_fail sw_Md_fail nw_Md cw_Md_fail rfl rfl rfl (by decide +kernel) (by omega) (Nat.le_of_ble_eq_true rfl) (Nat.le_of_ble_eq_true rfl) ?_
                refine k_M_fail hl9 (by omega) hM1 (fun h2 hM2 hf2 => ?_)
                show jl_AW _ _ _ _ _ 118 [some (.ref (u)), some (.int (zI (a))), some (.int (zI (b))), some (.int (zI (1 + a))), some (.int (zI (1 + b))), none, none] [.int (zI (0))] n h2 _ _
                exact jl_iret d_Md_join_118 rfl (hk3 hsl hpr (fun q => by rcases hg1 with ⟨h8, -⟩ | ⟨-, h8⟩; omega; exact h8 q.2.1.1) h2 hM2 (jfr_tr hf1 hf2))
              · refine jl_aload_n d_Md_join_90 rfl rfl ?_
                refine jl_iload d_Md_join_91 rfl ?_
                refine jl_invV (M' := m_Md_isValid) (d' := d - 1) (ck' := 0) (sk' := 0) (na := 1) (as := [.int (zI (1 + b))]) (st := []) d_Md_join_93 rfl p0a rfl mw_Md_87 ww_Md_isValid sw_Md_isValid nw_Md cw_Md_isValid rfl rfl rfl (by decide +kernel) (by omega) (Nat.le_of_ble_eq_true rfl) (Nat.le_of_ble_eq_true rfl) ?_
                refine k_M_isValid hl9 (by omega) hM1 ok ⟨by omega, by omega⟩ (show 1 ≤ M.pe (1 + b).toNat by omega) (fun g2 hg2 => ?_)
                show jl_AW _ _ _ _ _ 96 [some (.ref (u)), some (.int (zI (a))), some (.int (zI (b))), some (.int (zI (1 + a))), some (.int (zI (1 + b))), none, none] [.int (zI (g2))] n h1 _ _
                have hg9 := sp_is_rg hg2
                refine jz_if_eq (tgt := 113) d_Md_join_96 (by decide) ⟨by omega, by omega⟩ (fun q6 => ?_) (fun q6 => ?_)
                · refine jl_aload_n d_Md_join_113 rfl rfl ?_
                  refine jl_iconst (v := zI (3)) d_Md_join_114 (by decide) ?_
                  refine jl_invV (M' := m_Md_fail) (d' := d - 1) (ck' := 0) (sk' := 0) (na := 1) (as := [.int (zI (3))]) (st := []) d_Md_join_115 rfl p0a rfl mw_Md_65 ww_Md_fail sw_Md_fail nw_Md cw_Md_fail rfl rfl rfl (by decide +kernel) (by omega) (Nat.le_of_ble_eq_true rfl) (Nat.le_of_ble_eq_true rfl) ?_
                  refine k_M_fail hl9 (by omega) hM1 (fun h2 hM2 hf2 => ?_)
                  show jl_AW _ _ _ _ _ 118 [some (.ref (u)), some (.int (zI (a))), some (.int (zI (b))), some (.int (zI (1 + a))), some (.int (zI (1 + b))), none, none] [.int (zI (0))] n h2 _ _
                  exact jl_iret d_Md_join_118 rfl (hk3 hsl hpr (fun q => by rcases hg2 with ⟨h8, -⟩ | ⟨-, h8⟩; omega; exact h8 q.2.1.2) h2 hM2 (jfr_tr hf1 hf2))
                · have hb1 := sp_balls_z (p := M.pe (1 + a).toNat) (hM_rg ok (1 + a)) (cM_rg ok (1 + a)) ⟨by omega, by omega⟩
                  have hb2 := sp_balls_z (p := M.pe (1 + b).toNat) (hM_rg ok (1 + b)) (cM_rg ok (1 + b)) ⟨by omega, by omega⟩
                  refine jl_aload_n d_Md_join_99 rfl rfl ?_
                  refine jl_iload_n d_Md_join_100 rfl rfl ?_
                  refine jl_invV (M' := m_Md_ballsOf) (d' := d - 1) (ck' := 0) (sk' := 0) (na := 1) (as := [.int (zI (1 + a))]) (st := []) d_Md_join_101 rfl p0a rfl mw_Md_90 ww_Md_ballsOf sw_Md_ballsOf nw_Md cw_Md_ballsOf rfl rfl rfl (by decide +kernel) (by omega) (Nat.le_of_ble_eq_true rfl) (Nat.le_of_ble_eq_true rfl) ?_
                  refine k_M_ballsOf hl9 (by omega) hM1 ok ⟨by omega, by omega⟩ (show 1 ≤ M.pe (1 + a).toNat by omega) ?_
                  show jl_AW _ _ _ _ _ 104 [some (.ref (u)), some (.int (zI (a))), some (.int (zI (b))), some (.int (zI (1 + a))), some (.int (zI (1 + b))), none, none] [.int (zI (sp_balls (M.pe (1 + a).toNat) (hM M (1 + a)) (cM M (1 + a))))] n h1 _ _
                  refine jl_aload_n d_Md_join_104 rfl rfl ?_
                  refine jl_iload d_Md_join_105 rfl ?_
                  refine jl_invV (M' := m_Md_ballsOf) (d' := d - 1) (ck' := 0) (sk' := 0) (na := 1) (as := [.int (zI (1 + b))]) (st := [.int (zI (sp_balls (M.pe (1 + a).toNat) (hM M (1 + a)) (cM M (1 + a))))]) d_Md_join_107 rfl p0a rfl mw_Md_90 ww_Md_ballsOf sw_Md_ballsOf nw_Md cw_Md_ballsOf rfl rfl rfl (by decide +kernel) (by omega) (Nat.le_of_ble_eq_true rfl) (Nat.le_of_ble_eq_true rfl) ?_
                  refine k_M_ballsOf hl9 (by omega) hM1 ok ⟨by omega, by omega⟩ (show 1 ≤ M.pe (1 + b).toNat by omega) ?_
                  show jl_AW _ _ _ _ _ 110 [some (.ref (u)), some (.int (zI (a))), some (.int (zI (b))), some (.int (zI (1 + a))), some (.int (zI (1 + b))), none, none] [.int (zI (sp_balls (M.pe (1 + b).toNat) (hM M (1 + b)) (cM M (1 + b)))), .int (zI (sp_balls (M.pe (1 + a).toNat) (hM M (1 + a)) (cM M (1 + a))))] n h1 _ _
                  refine jz_icmp_eq (tgt := 119) d_Md_join_110 (by decide) ⟨by omega, by omega⟩ ⟨by omega, by omega⟩ (fun q7 => ?_) (fun q7 => ?_)
                  · have hok : (M.mo (1 + a).toNat = 0 ∧ M.mo (1 + b).toNat = 0) ∧ (sp_ev (M.mo (1 + a).toNat) (M.pe (1 + a).toNat) (hM M (1 + a)) (cM M (1 + a)) (xM M (1 + a)) ∧ sp_ev (M.mo (1 + b).toNat) (M.pe (1 + b).toNat) (hM M (1 + b)) (cM M (1 + b)) (xM M (1 + b))) ∧ sp_balls (M.pe (1 + a).toNat) (hM M (1 + a)) (cM M (1 + a)) = sp_balls (M.pe (1 + b).toNat) (hM M (1 + b)) (cM M (1 + b)) := ⟨⟨q3, q4⟩, ⟨by rcases hg1 with ⟨-, h8⟩ | ⟨h8, -⟩; exact h8; omega, by rcases hg2 with ⟨-, h8⟩ | ⟨h8, -⟩; exact h8; omega⟩, q7⟩
                    refine jl_aload_n d_Md_join_119 rfl rfl ?_
                    refine jl_iload d_Md_join_120 rfl ?_
                    refine jl_invV (M' := m_Md_measure) (d' := d - 1) (ck' := 0) (sk' := 0) (na := 1) (as := [.int (zI (1 + b))]) (st := []) d_Md_join_122 rfl p0a rfl mw_Md_107 ww_Md_measure sw_Md_measure nw_Md cw_Md_measure rfl rfl rfl (by decide +kernel) (by omega) (Nat.le_of_ble_eq_true rfl) (Nat.le_of_ble_eq_true rfl) ?_
                    refine k_M_measure hl9 (by omega) hM1 ok ⟨by omega, by omega⟩ (show 1 ≤ M.pe (1 + b).toNat by omega) (fun fa h2 hfD hM2 hf2 => ?_)
                    show jl_AW _ _ _ _ _ 125 [some (.ref (u)), some (.int (zI (a))), some (.int (zI (b))), some (.int (zI (1 + a))), some (.int (zI (1 + b))), none, none] [] n h2 _ _
                    have hre : ∀ s : Int, 0 ≤ s → s < M.pe (1 + a).toNat → isD (glS (M.pe (1 + b).toNat) (hM M (1 + b))) (sp_st (M.pe (1 + a).toNat) (hM M (1 + a)) s) (fa (sp_st (M.pe (1 + a).toNat) (hM M (1 + a)) s).toNat) ∧ fa (sp_st (M.pe (1 + a).toNat) (hM M (1 + a)) s).toNat ≤ 9 := fun s r1 r2 => fD_rch hfD (sp_st_rg (hM_rg ok (1 + a)) s) (by decide) (hRe hsl hpr hok s r1 r2)
                    have hfr0 := jfr_tr hf1 hf2
                    obtain ⟨q0b, q1b, q2b, q3b, q4b, q5b, q6b, q7b, q8b, q9b, q10b, q11b, q12b, q13b⟩ := id (hM2)
                    have p0b : h2 u = jO 6 [.int (zI (0)), .ref (u + 1), .ref (u + 2), .ref (u + 3), .ref (u + 4), .ref (u + 5), .int (zI (M.jn)), .int (zI (M.ja)), .int (zI (M.jb)), .ref (u + 6), .ref (u + 7), .int (zI (M.nw)), .int (zI (M.bl)), .int (zI (M.lt)), .int (zI (M.rt)), .ref (u + 8), .ref (u + 9), .ref (u + 10), .ref (u + 11), .ref (u + 12), .ref (u + 13)] := q0b
                    have p1b : h2 (u + 1) = jI 8 (fun j9 => zI (M.mo j9)) := q1b
                    have p2b : h2 (u + 2) = jI 8 (fun j9 => zI (M.pe j9)) := q2b
                    have p3b : h2 (u + 3) = jI 128 (fun j9 => zI (M.co j9)) := q3b
                    have p4b : h2 (u + 4) = jI 384 (fun j9 => zI (M.he j9)) := q4b
                    have p5b : h2 (u + 5) = jZ 128 (fun j9 => zI (M.cr j9)) := q5b
                    have p6b : h2 (u + 6) = jI 16 (fun j9 => zI (M.wy j9)) := q6b
                    have p7b : h2 (u + 7) = jI 512 (fun j9 => zI (fa j9)) := q7b
                    have p8b : h2 (u + 8) = jI 32 (fun j9 => zI (M.la j9)) := q8b
                    have p9b : h2 (u + 9) = jI 32 (fun j9 => zI (M.ha j9)) := q9b
                    have p10b : h2 (u + 10) = jI 4096 (fun j9 => zI (M.w1 j9)) := q10b
                    have p11b : h2 (u + 11) = jI 4096 (fun j9 => zI (M.mr j9)) := q11b
                    have p12b : h2 (u + 12) = jI 6 (fun j9 => zI (M.rw j9)) := q12b
                    have p13b : h2 (u + 13) = jI 16 (fun j9 => zI (M.tu j9)) := q13b
                    refine jl_aload_n d_Md_join_125 rfl rfl ?_
                    refine jl_iconst (v := zI (0)) d_Md_join_126 (by decide) ?_
                    refine jp_6 (q := 7) (ty := .int) d_Md_join_127 p0b (by simp) (by decide) fw_Md_111 rfl (by decide +kernel) (fun _ _ => rfl) (fun _ _ => rfl) (fun h16 eh16 => ?_)
                    have eh16 : h16 = va_up h2 (u) (jO 6 [.int (zI (0)), .ref (u + 1), .ref (u + 2), .ref (u + 3), .ref (u + 4), .ref (u + 5), .int (zI (M.jn)), .int (zI (0)), .int (zI (M.jb)), .ref (u + 6), .ref (u + 7), .int (zI (M.nw)), .int (zI (M.bl)), .int (zI (M.lt)), .int (zI (M.rt)), .ref (u + 8), .ref (u + 9), .ref (u + 10), .ref (u + 11), .ref (u + 12), .ref (u + 13)]) := eh16
                    have jf17 : h16 (u) = jO 6 [.int (zI (0)), .ref (u + 1), .ref (u + 2), .ref (u + 3), .ref (u + 4), .ref (u + 5), .int (zI (M.jn)), .int (zI (0)), .int (zI (M.jb)), .ref (u + 6), .ref (u + 7), .int (zI (M.nw)), .int (zI (M.bl)), .int (zI (M.lt)), .int (zI (M.rt)), .ref (u + 8), .ref (u + 9), .ref (u + 10), .ref (u + 11), .ref (u + 12), .ref (u + 13)] := by rw [eh16, va_up_self]
                    have jf18 : h16 (u + 1) = jI 8 (fun j9 => zI (M.mo j9)) := by rw [eh16, va_up_ne _ _ (by omega)]; exact p1b
                    have jf19 : h16 (u + 2) = jI 8 (fun j9 => zI (M.pe j9)) := by rw [eh16, va_up_ne _ _ (by omega)]; exact p2b
                    have jf20 : h16 (u + 3) = jI 128 (fun j9 => zI (M.co j9)) := by rw [eh16, va_up_ne _ _ (by omega)]; exact p3b
                    have jf21 : h16 (u + 4) = jI 384 (fun j9 => zI (M.he j9)) := by rw [eh16, va_up_ne _ _ (by omega)]; exact p4b
                    have jf22 : h16 (u + 5) = jZ 128 (fun j9 => zI (M.cr j9)) := by rw [eh16, va_up_ne _ _ (by omega)]; exact p5b
                    have jf23 : h16 (u + 6) = jI 16 (fun j9 => zI (M.wy j9)) := by rw [eh16, va_up_ne _ _ (by omega)]; exact p6b
                    have jf24 : h16 (u + 7) = jI 512 (fun j9 => zI (fa j9)) := by rw [eh16, va_up_ne _ _ (by omega)]; exact p7b
                    have jf25 : h16 (u + 8) = jI 32 (fun j9 => zI (M.la j9)) := by rw [eh16, va_up_ne _ _ (by omega)]; exact p8b
                    have jf26 : h16 (u + 9) = jI 32 (fun j9 => zI (M.ha j9)) := by rw [eh16, va_up_ne _ _ (by omega)]; exact p9b
                    have jf27 : h16 (u + 10) = jI 4096 (fun j9 => zI (M.w1 j9)) := by rw [eh16, va_up_ne _ _ (by omega)]; exact p10b
                    have jf28 : h16 (u + 11) = jI 4096 (fun j9 => zI (M.mr j9)) := by rw [eh16, va_up_ne _ _ (by omega)]; exact p11b
                    have jf29 : h16 (u + 12) = jI 6 (fun j9 => zI (M.rw j9)) := by rw [eh16, va_up_ne _ _ (by omega)]; exact p12b
                    have jf30 : h16 (u + 13) = jI 16 (fun j9 => zI (M.tu j9)) := by rw [eh16, va_up_ne _ _ (by omega)]; exact p13b
                    have lpB : ∀ (W : List Int) (z : Int), (wlk (glS (M.pe (1 + b).toNat) (hM M (1 + b))) W.length (sp_st (M.pe (1 + a).toNat) (hM M (1 + a)) (nsf fa (M.pe (1 + a).toNat) (hM M (1 + a)) (M.pe (1 + a).toNat - 1).toNat)) W z ∧ isD (glS (M.pe (1 + b).toNat) (hM M (1 + b))) (sp_st (M.pe (1 + a).toNat) (hM M (1 + a)) (nsf fa (M.pe (1 + a).toNat) (hM M (1 + a)) (M.pe (1 + a).toNat - 1).toNat)) (W.length : Int)) → W.length ≤ 9 → (∃ s9 : Int, 0 ≤ s9 ∧ s9 < M.pe (1 + b).toNat ∧ sp_st (M.pe (1 + b).toNat) (hM M (1 + b)) s9 = z) → (0 ≤ z ∧ z < 512) → ∀ (k : Nat) (r : Nat) (wy : Nat → Int) (h4 : Nat → va_E), (∀ j, j < W.length → wy j = W.getD j 0) → (r : Int) + k = M.pe (1 + b).toNat → (∀ t : Int, 0 ≤ t → t < (r : Int) → ¬ sp_st (M.pe (1 + b).toNat) (hM M (1 + b)) t = z) → jM h4 u ((((((M.wT 0).wjn ((W.length : Int))).wja (nsf fa (M.pe (1 + a).toNat) (hM M (1 + a)) (M.pe (1 + a).toNat - 1).toNat)).wjb ((r : Int))).wwy (wy)).wfa (fa)) → jfr h h4 u (u + 14) → jl_AW l G (jl_F G Kr Kx) m_Md_join d 299 [some (.ref (u)), some (.int (zI (a))), some (.int (zI (b))), some (.int (zI (1 + a))), some (.int (zI (1 + b))), some (.int (zI (z))), none] [] n h4 0 0 := by
                      intro W z hW hW9 hex hz9 k
                      induction k using Nat.strongRecOn with
                      | ind k ih =>
                        intro r wy h4 hwy hkr hno hM4 hf4
                        have hrp : (r : Int) < M.pe (1 + b).toNat := by
                          obtain ⟨s9, r1, r2, r3⟩ := hex
                          rcases Int.lt_or_le s9 (r : Int) with w9 | w9
                          · exact absurd r3 (hno s9 r1 w9)
                          · omega
                        have hst := sp_st_rg (p := M.pe (1 + b).toNat) (hM_rg ok (1 + b)) (r : Int)
                        obtain ⟨q0z, q1z, q2z, q3z, q4z, q5z, q6z, q7z, q8z, q9z, q10z, q11z, q12z, q13z⟩ := id (hM4)
                        have p0z : h4 u = jO 6 [.int (zI (0)), .ref (u + 1), .ref (u + 2), .ref (u + 3), .ref (u + 4), .ref (u + 5), .int (zI ((W.length : Int))), .int (zI (nsf fa (M.pe (1 + a).toNat) (hM M (1 + a)) (M.pe (1 + a).toNat - 1).toNat)), .int (zI ((r : Int))), .ref (u + 6), .ref (u + 7), .int (zI (M.nw)), .int (zI (M.bl)), .int (zI (M.lt)), .int (zI (M.rt)), .ref (u + 8), .ref (u + 9), .ref (u + 10), .ref (u + 11), .ref (u + 12), .ref (u + 13)] := q0z
                        have p1z : h4 (u + 1) = jI 8 (fun j9 => zI (M.mo j9)) := q1z
                        have p2z : h4 (u + 2) = jI 8 (fun j9 => zI (M.pe j9)) := q2z
                        have p3z : h4 (u + 3) = jI 128 (fun j9 => zI (M.co j9)) := q3z
                        have p4z : h4 (u + 4) = jI 384 (fun j9 => zI (M.he j9)) := q4z
                        have p5z : h4 (u + 5) = jZ 128 (fun j9 => zI (M.cr j9)) := q5z
                        have p6z : h4 (u + 6) = jI 16 (fun j9 => zI (wy j9)) := q6z
                        have p7z : h4 (u + 7) = jI 512 (fun j9 => zI (fa j9)) := q7z
                        have p8z : h4 (u + 8) = jI 32 (fun j9 => zI (M.la j9)) := q8z
                        have p9z : h4 (u + 9) = jI 32 (fun j9 => zI (M.ha j9)) := q9z
                        have p10z : h4 (u + 10) = jI 4096 (fun j9 => zI (M.w1 j9)) := q10z
                        have p11z : h4 (u + 11) = jI 4096 (fun j9 => zI (M.mr j9)) := q11z
                        have p12z : h4 (u + 12) = jI 6 (fun j9 => zI (M.rw j9)) := q12z
                        have p13z : h4 (u + 13) = jI 16 (fun j9 => zI (M.tu j9)) := q13z
                        refine jl_aload_n d_Md_join_299 rfl rfl ?_
                        refine jl_iload d_Md_join_300 rfl ?_
                        refine jl_aload_n d_Md_join_302 rfl rfl ?_
                        refine jg_6 (q := 8) d_Md_join_303 p0z rfl (by decide) fw_Md_114 ?_
                        refine jl_invV (M' := m_Md_stateOf) (d' := d - 1) (ck' := 0) (sk' := 0) (na := 2) (as := [.int (zI (1 + b)), .int (zI ((r : Int)))]) (st := []) d_Md_join_306 rfl p0z rfl mw_Md_93 ww_Md_stateOf sw_Md_stateOf nw_Md cw_Md_stateOf rfl rfl rfl (by decide +kernel) (by omega) (Nat.le_of_ble_eq_true rfl) (Nat.le_of_ble_eq_true rfl) ?_
                        refine k_M_stateOf hl9 (by omega) hM4 ok ⟨by omega, by omega⟩ (show 1 ≤ M.pe (1 + b).toNat by omega) ⟨by omega, by omega⟩ ?_
                        show jl_AW _ _ _ _ _ 309 [some (.ref (u)), some (.int (zI (a))), some (.int (zI (b))), some (.int (zI (1 + a))), some (.int (zI (1 + b))), some (.int (zI (z))), none] [.int (zI (sp_st (M.pe (1 + b).toNat) (hM M (1 + b)) (r : Int)))] n h4 _ _
                        refine jl_iload d_Md_join_309 rfl ?_
                        refine jz_icmp_eq (tgt := 327) d_Md_join_311 (by decide) ⟨by omega, by omega⟩ ⟨by omega, by omega⟩ (fun q8 => ?_) (fun q8 => ?_)
                        · refine jl_aload_n d_Md_join_327 rfl rfl ?_
                          refine jg_6 (q := 6) d_Md_join_328 p0z rfl (by decide) fw_Md_26 ?_
                          exact jl_iret d_Md_join_331 rfl (hk0 hsl hpr hok (nsf fa (M.pe (1 + a).toNat) (hM M (1 + a)) (M.pe (1 + a).toNat - 1).toNat) W z (r : Int) fa wy h4 (nsf_st (by omega) (fun s r1 r2 => (hre s r1 r2).1)) hW (Or.inl ⟨by omega, by omega, q8, fun t r1 r2 => hno t r1 r2⟩) hW9 hwy hM4 hf4)
                        · refine jl_aload_n d_Md_join_314 rfl rfl ?_
                          refine jl_dup d_Md_join_315 rfl ?_
                          refine jg_6 (q := 8) d_Md_join_316 p0z rfl (by decide) fw_Md_114 ?_
                          refine jl_iconst (v := zI (1)) d_Md_join_319 (by decide) ?_
                          refine jz_iadd (v := ((r + 1 : Nat) : Int)) d_Md_join_320 (by omega) ?_
                          refine jp_6 (q := 8) (ty := .int) d_Md_join_321 p0z (by simp) (by decide) fw_Md_114 rfl (by decide +kernel) (fun _ _ => rfl) (fun _ _ => rfl) (fun h31 eh31 => ?_)
                          have eh31 : h31 = va_up h4 (u) (jO 6 [.int (zI (0)), .ref (u + 1), .ref (u + 2), .ref (u + 3), .ref (u + 4), .ref (u + 5), .int (zI ((W.length : Int))), .int (zI (nsf fa (M.pe (1 + a).toNat) (hM M (1 + a)) (M.pe (1 + a).toNat - 1).toNat)), .int (zI (((r + 1 : Nat) : Int))), .ref (u + 6), .ref (u + 7), .int (zI (M.nw)), .int (zI (M.bl)), .int (zI (M.lt)), .int (zI (M.rt)), .ref (u + 8), .ref (u + 9), .ref (u + 10), .ref (u + 11), .ref (u + 12), .ref (u + 13)]) := eh31
                          have jf32 : h31 (u) = jO 6 [.int (zI (0)), .ref (u + 1), .ref (u + 2), .ref (u + 3), .ref (u + 4), .ref (u + 5), .int (zI ((W.length : Int))), .int (zI (nsf fa (M.pe (1 + a).toNat) (hM M (1 + a)) (M.pe (1 + a).toNat - 1).toNat)), .int (zI (((r + 1 : Nat) : Int))), .ref (u + 6), .ref (u + 7), .int (zI (M.nw)), .int (zI (M.bl)), .int (zI (M.lt)), .int (zI (M.rt)), .ref (u + 8), .ref (u + 9), .ref (u + 10), .ref (u + 11), .ref (u + 12), .ref (u + 13)] := by rw [eh31, va_up_self]
                          refine jl_goto (tgt := 299) d_Md_join_324 (by decide) ?_
                          have jf33 : h31 (u + 1) = jI 8 (fun j9 => zI (M.mo j9)) := by rw [eh31, va_up_ne _ _ (by omega)]; exact p1z
                          have jf34 : h31 (u + 2) = jI 8 (fun j9 => zI (M.pe j9)) := by rw [eh31, va_up_ne _ _ (by omega)]; exact p2z
                          have jf35 : h31 (u + 3) = jI 128 (fun j9 => zI (M.co j9)) := by rw [eh31, va_up_ne _ _ (by omega)]; exact p3z
                          have jf36 : h31 (u + 4) = jI 384 (fun j9 => zI (M.he j9)) := by rw [eh31, va_up_ne _ _ (by omega)]; exact p4z
                          have jf37 : h31 (u + 5) = jZ 128 (fun j9 => zI (M.cr j9)) := by rw [eh31, va_up_ne _ _ (by omega)]; exact p5z
                          have jf38 : h31 (u + 6) = jI 16 (fun j9 => zI (wy j9)) := by rw [eh31, va_up_ne _ _ (by omega)]; exact p6z
                          have jf39 : h31 (u + 7) = jI 512 (fun j9 => zI (fa j9)) := by rw [eh31, va_up_ne _ _ (by omega)]; exact p7z
                          have jf40 : h31 (u + 8) = jI 32 (fun j9 => zI (M.la j9)) := by rw [eh31, va_up_ne _ _ (by omega)]; exact p8z
                          have jf41 : h31 (u + 9) = jI 32 (fun j9 => zI (M.ha j9)) := by rw [eh31, va_up_ne _ _ (by omega)]; exact p9z
                          have jf42 : h31 (u + 10) = jI 4096 (fun j9 => zI (M.w1 j9)) := by rw [eh31, va_up_ne _ _ (by omega)]; exact p10z
                          have jf43 : h31 (u + 11) = jI 4096 (fun j9 => zI (M.mr j9)) := by rw [eh31, va_up_ne _ _ (by omega)]; exact p11z
                          have jf44 : h31 (u + 12) = jI 6 (fun j9 => zI (M.rw j9)) := by rw [eh31, va_up_ne _ _ (by omega)]; exact p12z
                          have jf45 : h31 (u + 13) = jI 16 (fun j9 => zI (M.tu j9)) := by rw [eh31, va_up_ne _ _ (by omega)]; exact p13z
                          refine ih (k - 1) (by omega) (r + 1) wy h31 hwy (by omega) (fun t r1 r2 => ?_) ⟨jf32, jf33, jf34, jf35, jf36, jf37, jf38, jf39, jf40, jf41, jf42, jf43, jf44, jf45⟩ (fun y hy => by rw [eh31, va_up_ne _ _ (by omega)]; exact hf4 y hy)
                          by_cases e9 : t = (r : Int)
                          · rw [e9]; exact q8
                          · exact hno t r1 (by omega)
                    have lpW : ∀ (k : Nat) (r : List Int) (v : Int) (wy : Nat → Int) (h4 : Nat → va_E), wlp (glS (M.pe (1 + b).toNat) (hM M (1 + b))) k r (sp_st (M.pe (1 + a).toNat) (hM M (1 + a)) (nsf fa (M.pe (1 + a).toNat) (hM M (1 + a)) (M.pe (1 + a).toNat - 1).toNat)) v → isD (glS (M.pe (1 + b).toNat) (hM M (1 + b))) v (k : Int) → (0 ≤ v ∧ v < 512) → r.length + k ≤ 9 → r.length + k = (fa (sp_st (M.pe (1 + a).toNat) (hM M (1 + a)) (nsf fa (M.pe (1 + a).toNat) (hM M (1 + a)) (M.pe (1 + a).toNat - 1).toNat)).toNat).toNat → (∀ j, j < r.length → wy j = r.getD j 0) → jM h4 u ((((((M.wT 0).wjn ((r.length : Int))).wja (nsf fa (M.pe (1 + a).toNat) (hM M (1 + a)) (M.pe (1 + a).toNat - 1).toNat)).wjb (M.jb)).wwy (wy)).wfa (fa)) → jfr h h4 u (u + 14) → jl_AW l G (jl_F G Kr Kx) m_Md_join d 208 [some (.ref (u)), some (.int (zI (a))), some (.int (zI (b))), some (.int (zI (1 + a))), some (.int (zI (1 + b))), some (.int (zI (v))), none] [] n h4 0 0 := by
                      intro k
                      induction k using Nat.strongRecOn with
                      | ind k ih =>
                        intro r v wy h4 hwl hD hv5 hle hle2 hwy hM4 hf4
                        have hfv := hfD v hv5.1 hv5.2
                        obtain ⟨q0z, q1z, q2z, q3z, q4z, q5z, q6z, q7z, q8z, q9z, q10z, q11z, q12z, q13z⟩ := id (hM4)
                        have p0z : h4 u = jO 6 [.int (zI (0)), .ref (u + 1), .ref (u + 2), .ref (u + 3), .ref (u + 4), .ref (u + 5), .int (zI ((r.length : Int))), .int (zI (nsf fa (M.pe (1 + a).toNat) (hM M (1 + a)) (M.pe (1 + a).toNat - 1).toNat)), .int (zI (M.jb)), .ref (u + 6), .ref (u + 7), .int (zI (M.nw)), .int (zI (M.bl)), .int (zI (M.lt)), .int (zI (M.rt)), .ref (u + 8), .ref (u + 9), .ref (u + 10), .ref (u + 11), .ref (u + 12), .ref (u + 13)] := q0z
                        have p1z : h4 (u + 1) = jI 8 (fun j9 => zI (M.mo j9)) := q1z
                        have p2z : h4 (u + 2) = jI 8 (fun j9 => zI (M.pe j9)) := q2z
                        have p3z : h4 (u + 3) = jI 128 (fun j9 => zI (M.co j9)) := q3z
                        have p4z : h4 (u + 4) = jI 384 (fun j9 => zI (M.he j9)) := q4z
                        have p5z : h4 (u + 5) = jZ 128 (fun j9 => zI (M.cr j9)) := q5z
                        have p6z : h4 (u + 6) = jI 16 (fun j9 => zI (wy j9)) := q6z
                        have p7z : h4 (u + 7) = jI 512 (fun j9 => zI (fa j9)) := q7z
                        have p8z : h4 (u + 8) = jI 32 (fun j9 => zI (M.la j9)) := q8z
                        have p9z : h4 (u + 9) = jI 32 (fun j9 => zI (M.ha j9)) := q9z
                        have p10z : h4 (u + 10) = jI 4096 (fun j9 => zI (M.w1 j9)) := q10z
                        have p11z : h4 (u + 11) = jI 4096 (fun j9 => zI (M.mr j9)) := q11z
                        have p12z : h4 (u + 12) = jI 6 (fun j9 => zI (M.rw j9)) := q12z
                        have p13z : h4 (u + 13) = jI 16 (fun j9 => zI (M.tu j9)) := q13z
                        have hfe : fa v.toNat = (k : Int) := (hfv.2 (k : Int) (by omega) (by omega)).mpr hD
                        refine jl_aload_n d_Md_join_208 rfl rfl ?_
                        refine jg_6 (q := 10) d_Md_join_209 p0z rfl (by decide) fw_Md_33 ?_
                        refine jl_iload d_Md_join_212 rfl ?_
                        refine jz_iald d_Md_join_214 p7z (by omega) (by omega) (by omega) ?_
                        refine jz_if_le (tgt := 294) d_Md_join_215 (by decide) ⟨by omega, by omega⟩ (fun q10 => ?_) (fun q10 => ?_)
                        · have ek : k = 0 := by omega
                          rw [ek] at hwl hD
                          refine jl_aload_n d_Md_join_294 rfl rfl ?_
                          refine jl_iconst (v := zI (0)) d_Md_join_295 (by decide) ?_
                          refine jp_6 (q := 8) (ty := .int) d_Md_join_296 p0z (by simp) (by decide) fw_Md_114 rfl (by decide +kernel) (fun _ _ => rfl) (fun _ _ => rfl) (fun h31 eh31 => ?_)
                          have eh31 : h31 = va_up h4 (u) (jO 6 [.int (zI (0)), .ref (u + 1), .ref (u + 2), .ref (u + 3), .ref (u + 4), .ref (u + 5), .int (zI ((r.length : Int))), .int (zI (nsf fa (M.pe (1 + a).toNat) (hM M (1 + a)) (M.pe (1 + a).toNat - 1).toNat)), .int (zI (0)), .ref (u + 6), .ref (u + 7), .int (zI (M.nw)), .int (zI (M.bl)), .int (zI (M.lt)), .int (zI (M.rt)), .ref (u + 8), .ref (u + 9), .ref (u + 10), .ref (u + 11), .ref (u + 12), .ref (u + 13)]) := eh31
                          have jf32 : h31 (u) = jO 6 [.int (zI (0)), .ref (u + 1), .ref (u + 2), .ref (u + 3), .ref (u + 4), .ref (u + 5), .int (zI ((r.length : Int))), .int (zI (nsf fa (M.pe (1 + a).toNat) (hM M (1 + a)) (M.pe (1 + a).toNat - 1).toNat)), .int (zI (0)), .ref (u + 6), .ref (u + 7), .int (zI (M.nw)), .int (zI (M.bl)), .int (zI (M.lt)), .int (zI (M.rt)), .ref (u + 8), .ref (u + 9), .ref (u + 10), .ref (u + 11), .ref (u + 12), .ref (u + 13)] := by rw [eh31, va_up_self]
                          have jf33 : h31 (u + 1) = jI 8 (fun j9 => zI (M.mo j9)) := by rw [eh31, va_up_ne _ _ (by omega)]; exact p1z
                          have jf34 : h31 (u + 2) = jI 8 (fun j9 => zI (M.pe j9)) := by rw [eh31, va_up_ne _ _ (by omega)]; exact p2z
                          have jf35 : h31 (u + 3) = jI 128 (fun j9 => zI (M.co j9)) := by rw [eh31, va_up_ne _ _ (by omega)]; exact p3z
                          have jf36 : h31 (u + 4) = jI 384 (fun j9 => zI (M.he j9)) := by rw [eh31, va_up_ne _ _ (by omega)]; exact p4z
                          have jf37 : h31 (u + 5) = jZ 128 (fun j9 => zI (M.cr j9)) := by rw [eh31, va_up_ne _ _ (by omega)]; exact p5z
                          have jf38 : h31 (u + 6) = jI 16 (fun j9 => zI (wy j9)) := by rw [eh31, va_up_ne _ _ (by omega)]; exact p6z
                          have jf39 : h31 (u + 7) = jI 512 (fun j9 => zI (fa j9)) := by rw [eh31, va_up_ne _ _ (by omega)]; exact p7z
                          have jf40 : h31 (u + 8) = jI 32 (fun j9 => zI (M.la j9)) := by rw [eh31, va_up_ne _ _ (by omega)]; exact p8z
                          have jf41 : h31 (u + 9) = jI 32 (fun j9 => zI (M.ha j9)) := by rw [eh31, va_up_ne _ _ (by omega)]; exact p9z
                          have jf42 : h31 (u + 10) = jI 4096 (fun j9 => zI (M.w1 j9)) := by rw [eh31, va_up_ne _ _ (by omega)]; exact p10z
                          have jf43 : h31 (u + 11) = jI 4096 (fun j9 => zI (M.mr j9)) := by rw [eh31, va_up_ne _ _ (by omega)]; exact p11z
                          have jf44 : h31 (u + 12) = jI 6 (fun j9 => zI (M.rw j9)) := by rw [eh31, va_up_ne _ _ (by omega)]; exact p12z
                          have jf45 : h31 (u + 13) = jI 16 (fun j9 => zI (M.tu j9)) := by rw [eh31, va_up_ne _ _ (by omega)]; exact p13z
                          exact lpB r v ⟨wlp_0 r _ _ hwl, by rw [ek, Nat.add_zero] at hle2; have e8 : (r.length : Int) = fa (sp_st (M.pe (1 + a).toNat) (hM M (1 + a)) (nsf fa (M.pe (1 + a).toNat) (hM M (1 + a)) (M.pe (1 + a).toNat - 1).toNat)).toNat := (by have := (hre (nsf fa (M.pe (1 + a).toNat) (hM M (1 + a)) (M.pe (1 + a).toNat - 1).toNat) (nsf_rg fa (M.pe (1 + a).toNat) (hM M (1 + a)) (M.pe (1 + a).toNat - 1).toNat).1 (by have := (nsf_rg fa (M.pe (1 + a).toNat) (hM M (1 + a)) (M.pe (1 + a).toNat - 1).toNat).2; omega)).1.1; omega); rw [e8]; exact (hre (nsf fa (M.pe (1 + a).toNat) (hM M (1 + a)) (M.pe (1 + a).toNat - 1).toNat) (nsf_rg fa (M.pe (1 + a).toNat) (hM M (1 + a)) (M.pe (1 + a).toNat - 1).toNat).1 (by have := (nsf_rg fa (M.pe (1 + a).toNat) (hM M (1 + a)) (M.pe (1 + a).toNat - 1).toNat).2; omega)).1⟩ (by omega) hD.2.1 hv5 (M.pe (1 + b).toNat).toNat 0 wy h31 hwy (by omega) (fun t r1 r2 => by omega) ⟨jf32, jf33, jf34, jf35, jf36, jf37, jf38, jf39, jf40, jf41, jf42, jf43, jf44, jf45⟩ (fun y hy => by rw [eh31, va_up_ne _ _ (by omega)]; exact hf4 y hy)
                        · obtain ⟨T, eT⟩ : ∃ T : Nat, k = T + 1 := ⟨k - 1, by omega⟩
                          subst eT
                          have hD1 : isD (glS (M.pe (1 + b).toNat) (hM M (1 + b))) v ((T : Int) + 1) := hD
                          have lph : ∀ (k2 : Nat) (t : Nat), t + k2 = 10 → (∀ t9 : Int, 0 ≤ t9 → t9 < (t : Int) → ¬ (¬ sa v t9 = -1 ∧ isD (glS (M.pe (1 + b).toNat) (hM M (1 + b))) (sa v t9) (T : Int))) → jl_AW l G (jl_F G Kr Kx) m_Md_join d 221 [some (.ref (u)), some (.int (zI (a))), some (.int (zI (b))), some (.int (zI (1 + a))), some (.int (zI (1 + b))), some (.int (zI (v))), some (.int (zI ((t : Int))))] [] n h4 0 0 := by
                            intro k2
                            induction k2 using Nat.strongRecOn with
                            | ind k2 ih2 =>
                              intro t hkt hno
                              have ht9 : t ≤ 9 := by
                                obtain ⟨t9, r1, r2, r3, r4⟩ := isD_step hv5 (by omega) hD1
                                rcases Int.lt_or_le t9 (t : Int) with w9 | w9
                                · exact absurd ⟨r3, r4⟩ (hno t9 r1 w9)
                                · omega
                              have hsa := sa_rg (v := v) (h := (t : Int)) hv5 ⟨by omega, by omega⟩
                              refine jl_iload d_Md_join_221 rfl ?_
                              refine jl_iload d_Md_join_223 rfl ?_
                              refine jl_invS (M' := m_Md_behind) (d' := d - 1) (ck' := 0) (sk' := 0) (na := 2) (as := [.int (zI (v)), .int (zI ((t : Int)))]) (st := []) d_Md_join_225 rfl mw_Md_104 ww_Md_behind nw_Md cw_Md_behind rfl rfl rfl (by decide +kernel) (by omega) (Nat.le_of_ble_eq_true rfl) (Nat.le_of_ble_eq_true rfl) ?_
                              refine k_M_behind hl9 (by omega) ⟨by omega, by omega⟩ ⟨by omega, by omega⟩ ?_
                              show jl_AW _ _ _ _ _ 228 [some (.ref (u)), some (.int (zI (a))), some (.int (zI (b))), some (.int (zI (1 + a))), some (.int (zI (1 + b))), some (.int (zI (v))), some (.int (zI ((t : Int))))] [.int (zI (sa v (t : Int)))] n h4 _ _
                              refine jz_if_lt (tgt := 255) d_Md_join_228 (by decide) ⟨by omega, by omega⟩ (fun q8 => ?_) (fun q8 => ?_)
                              · refine jz_iinc (v := ((t + 1 : Nat) : Int)) (L' := [some (.ref (u)), some (.int (zI (a))), some (.int (zI (b))), some (.int (zI (1 + a))), some (.int (zI (1 + b))), some (.int (zI (v))), some (.int (zI (((t + 1 : Nat) : Int))))]) d_Md_join_255 rfl (by omega) (by decide) rfl ?_
                                refine jl_goto (tgt := 221) d_Md_join_258 (by decide) ?_
                                refine ih2 (k2 - 1) (by omega) (t + 1) (by omega) (fun t9 r1 r2 => ?_)
                                by_cases e9 : t9 = (t : Int)
                                · rw [e9]; exact (fun q9 => q9.1 (by omega))
                                · exact hno t9 r1 (by omega)
                              · have hsb : 0 ≤ sa v (t : Int) ∧ sa v (t : Int) < 512 := by omega
                                have hfw := hfD (sa v (t : Int)) hsb.1 hsb.2
                                obtain ⟨q0y, q1y, q2y, q3y, q4y, q5y, q6y, q7y, q8y, q9y, q10y, q11y, q12y, q13y⟩ := id (hM4)
                                have p0y : h4 u = jO 6 [.int (zI (0)), .ref (u + 1), .ref (u + 2), .ref (u + 3), .ref (u + 4), .ref (u + 5), .int (zI ((r.length : Int))), .int (zI (nsf fa (M.pe (1 + a).toNat) (hM M (1 + a)) (M.pe (1 + a).toNat - 1).toNat)), .int (zI (M.jb)), .ref (u + 6), .ref (u + 7), .int (zI (M.nw)), .int (zI (M.bl)), .int (zI (M.lt)), .int (zI (M.rt)), .ref (u + 8), .ref (u + 9), .ref (u + 10), .ref (u + 11), .ref (u + 12), .ref (u + 13)] := q0y
                                have p1y : h4 (u + 1) = jI 8 (fun j9 => zI (M.mo j9)) := q1y
                                have p2y : h4 (u + 2) = jI 8 (fun j9 => zI (M.pe j9)) := q2y
                                have p3y : h4 (u + 3) = jI 128 (fun j9 => zI (M.co j9)) := q3y
                                have p4y : h4 (u + 4) = jI 384 (fun j9 => zI (M.he j9)) := q4y
                                have p5y : h4 (u + 5) = jZ 128 (fun j9 => zI (M.cr j9)) := q5y
                                have p6y : h4 (u + 6) = jI 16 (fun j9 => zI (wy j9)) := q6y
                                have p7y : h4 (u + 7) = jI 512 (fun j9 => zI (fa j9)) := q7y
                                have p8y : h4 (u + 8) = jI 32 (fun j9 => zI (M.la j9)) := q8y
                                have p9y : h4 (u + 9) = jI 32 (fun j9 => zI (M.ha j9)) := q9y
                                have p10y : h4 (u + 10) = jI 4096 (fun j9 => zI (M.w1 j9)) := q10y
                                have p11y : h4 (u + 11) = jI 4096 (fun j9 => zI (M.mr j9)) := q11y
                                have p12y : h4 (u + 12) = jI 6 (fun j9 => zI (M.rw j9)) := q12y
                                have p13y : h4 (u + 13) = jI 16 (fun j9 => zI (M.tu j9)) := q13y
                                refine jl_aload_n d_Md_join_231 rfl rfl ?_
                                refine jg_6 (q := 10) d_Md_join_232 p0y rfl (by decide) fw_Md_33 ?_
                                refine jl_iload d_Md_join_235 rfl ?_
                                refine jl_iload d_Md_join_237 rfl ?_
                                refine jl_invS (M' := m_Md_behind) (d' := d - 1) (ck' := 0) (sk' := 0) (na := 2) (as := [.int (zI (v)), .int (zI ((t : Int)))]) (st := [.ref (u + 7)]) d_Md_join_239 rfl mw_Md_104 ww_Md_behind nw_Md cw_Md_behind rfl rfl rfl (by decide +kernel) (by omega) (Nat.le_of_ble_eq_true rfl) (Nat.le_of_ble_eq_true rfl) ?_
                                refine k_M_behind hl9 (by omega) ⟨by omega, by omega⟩ ⟨by omega, by omega⟩ ?_
                                show jl_AW _ _ _ _ _ 242 [some (.ref (u)), some (.int (zI (a))), some (.int (zI (b))), some (.int (zI (1 + a))), some (.int (zI (1 + b))), some (.int (zI (v))), some (.int (zI ((t : Int))))] [.int (zI (sa v (t : Int))), .ref (u + 7)] n h4 _ _
                                refine jz_iald d_Md_join_242 p7y (by omega) (by omega) (by omega) ?_
                                refine jl_aload_n d_Md_join_243 rfl rfl ?_
                                refine jg_6 (q := 10) d_Md_join_244 p0y rfl (by decide) fw_Md_33 ?_
                                refine jl_iload d_Md_join_247 rfl ?_
                                refine jz_iald d_Md_join_249 p7y (by omega) (by omega) (by omega) ?_
                                refine jl_iconst (v := zI (1)) d_Md_join_250 (by decide) ?_
                                refine jz_isub (v := fa v.toNat - 1) d_Md_join_251 (by omega) ?_
                                refine jz_icmp_eq (tgt := 261) d_Md_join_252 (by decide) ⟨by omega, by omega⟩ ⟨by omega, by omega⟩ (fun q9 => ?_) (fun q9 => ?_)
                                · have hlw : lws (glS (M.pe (1 + b).toNat) (hM M (1 + b))) v (T : Int) (t : Int) := ⟨by omega, by omega, ⟨by omega, (hfw.2 (T : Int) (by omega) (by omega)).mp (by omega)⟩, fun t9 r1 r2 => hno t9 r1 r2⟩
                                  refine jl_aload_n d_Md_join_261 rfl rfl ?_
                                  refine jg_6 (q := 9) d_Md_join_262 p0y rfl (by decide) fw_Md_30 ?_
                                  refine jl_aload_n d_Md_join_265 rfl rfl ?_
                                  refine jg_6 (q := 6) d_Md_join_266 p0y rfl (by decide) fw_Md_26 ?_
                                  refine jl_iload d_Md_join_269 rfl ?_
                                  refine jz_iasth d_Md_join_271 p6y (by omega) (by omega) (by omega) (fun h31 eh31 => ?_)
                                  have jf32 : h31 (u + 6) = jI 16 (fun j9 => zI ((va_up wy ((r.length : Int)).toNat ((t : Int))) j9)) := by rw [eh31, va_up_self]
                                  refine jl_aload_n d_Md_join_272 rfl rfl ?_
                                  refine jl_dup d_Md_join_273 rfl ?_
                                  have jf33 : h31 (u) = jO 6 [.int (zI (0)), .ref (u + 1), .ref (u + 2), .ref (u + 3), .ref (u + 4), .ref (u + 5), .int (zI ((r.length : Int))), .int (zI (nsf fa (M.pe (1 + a).toNat) (hM M (1 + a)) (M.pe (1 + a).toNat - 1).toNat)), .int (zI (M.jb)), .ref (u + 6), .ref (u + 7), .int (zI (M.nw)), .int (zI (M.bl)), .int (zI (M.lt)), .int (zI (M.rt)), .ref (u + 8), .ref (u + 9), .ref (u + 10), .ref (u + 11), .ref (u + 12), .ref (u + 13)] := by rw [eh31, va_up_ne _ _ (by omega)]; exact p0y
                                  refine jg_6 (q := 6) d_Md_join_274 jf33 rfl (by decide) fw_Md_26 ?_
                                  refine jl_iconst (v := zI (1)) d_Md_join_277 (by decide) ?_
                                  refine jz_iadd (v := ((r ++ [(t : Int)]).length : Int)) d_Md_join_278 (by rw [List.length_append, List.length_singleton]; omega) ?_
                                  refine jp_6 (q := 6) (ty := .int) d_Md_join_279 jf33 (by simp) (by decide) fw_Md_26 rfl (by decide +kernel) (fun _ _ => rfl) (fun _ _ => rfl) (fun h34 eh34 => ?_)
                                  have eh34 : h34 = va_up h31 (u) (jO 6 [.int (zI (0)), .ref (u + 1), .ref (u + 2), .ref (u + 3), .ref (u + 4), .ref (u + 5), .int (zI (((r ++ [(t : Int)]).length : Int))), .int (zI (nsf fa (M.pe (1 + a).toNat) (hM M (1 + a)) (M.pe (1 + a).toNat - 1).toNat)), .int (zI (M.jb)), .ref (u + 6), .ref (u + 7), .int (zI (M.nw)), .int (zI (M.bl)), .int (zI (M.lt)), .int (zI (M.rt)), .ref (u + 8), .ref (u + 9), .ref (u + 10), .ref (u + 11), .ref (u + 12), .ref (u + 13)]) := eh34
                                  have jf35 : h34 (u) = jO 6 [.int (zI (0)), .ref (u + 1), .ref (u + 2), .ref (u + 3), .ref (u + 4), .ref (u + 5), .int (zI (((r ++ [(t : Int)]).length : Int))), .int (zI (nsf fa (M.pe (1 + a).toNat) (hM M (1 + a)) (M.pe (1 + a).toNat - 1).toNat)), .int (zI (M.jb)), .ref (u + 6), .ref (u + 7), .int (zI (M.nw)), .int (zI (M.bl)), .int (zI (M.lt)), .int (zI (M.rt)), .ref (u + 8), .ref (u + 9), .ref (u + 10), .ref (u + 11), .ref (u + 12), .ref (u + 13)] := by rw [eh34, va_up_self]
                                  refine jl_iload d_Md_join_282 rfl ?_
                                  refine jl_iload d_Md_join_284 rfl ?_
                                  refine jl_invS (M' := m_Md_behind) (d' := d - 1) (ck' := 0) (sk' := 0) (na := 2) (as := [.int (zI (v)), .int (zI ((t : Int)))]) (st := []) d_Md_join_286 rfl mw_Md_104 ww_Md_behind nw_Md cw_Md_behind rfl rfl rfl (by decide +kernel) (by omega) (Nat.le_of_ble_eq_true rfl) (Nat.le_of_ble_eq_true rfl) ?_
                                  refine k_M_behind hl9 (by omega) ⟨by omega, by omega⟩ ⟨by omega, by omega⟩ ?_
                                  show jl_AW _ _ _ _ _ 289 [some (.ref (u)), some (.int (zI (a))), some (.int (zI (b))), some (.int (zI (1 + a))), some (.int (zI (1 + b))), some (.int (zI (v))), some (.int (zI ((t : Int))))] [.int (zI (sa v (t : Int)))] n h34 _ _
                                  refine jl_istore (L' := [some (.ref (u)), some (.int (zI (a))), some (.int (zI (b))), some (.int (zI (1 + a))), some (.int (zI (1 + b))), some (.int (zI (sa v (t : Int)))), some (.int (zI ((t : Int))))]) d_Md_join_289 (by decide) rfl ?_
                                  refine jl_goto (tgt := 208) d_Md_join_291 (by decide) ?_
                                  refine jl_less (L' := [some (.ref (u)), some (.int (zI (a))), some (.int (zI (b))), some (.int (zI (1 + a))), some (.int (zI (1 + b))), some (.int (zI (sa v (t : Int)))), none]) ⟨rfl, rfl, rfl, rfl, rfl, rfl, trivial⟩ ?_
                                  have jf36 : h34 (u + 1) = jI 8 (fun j9 => zI (M.mo j9)) := by rw [eh34, va_up_ne _ _ (by omega), eh31, va_up_ne _ _ (by omega)]; exact p1y
                                  have jf37 : h34 (u + 2) = jI 8 (fun j9 => zI (M.pe j9)) := by rw [eh34, va_up_ne _ _ (by omega), eh31, va_up_ne _ _ (by omega)]; exact p2y
                                  have jf38 : h34 (u + 3) = jI 128 (fun j9 => zI (M.co j9)) := by rw [eh34, va_up_ne _ _ (by omega), eh31, va_up_ne _ _ (by omega)]; exact p3y
                                  have jf39 : h34 (u + 4) = jI 384 (fun j9 => zI (M.he j9)) := by rw [eh34, va_up_ne _ _ (by omega), eh31, va_up_ne _ _ (by omega)]; exact p4y
                                  have jf40 : h34 (u + 5) = jZ 128 (fun j9 => zI (M.cr j9)) := by rw [eh34, va_up_ne _ _ (by omega), eh31, va_up_ne _ _ (by omega)]; exact p5y
                                  have jf41 : h34 (u + 6) = jI 16 (fun j9 => zI ((va_up wy ((r.length : Int)).toNat ((t : Int))) j9)) := by rw [eh34, va_up_ne _ _ (by omega)]; exact jf32
                                  have jf42 : h34 (u + 7) = jI 512 (fun j9 => zI (fa j9)) := by rw [eh34, va_up_ne _ _ (by omega), eh31, va_up_ne _ _ (by omega)]; exact p7y
                                  have jf43 : h34 (u + 8) = jI 32 (fun j9 => zI (M.la j9)) := by rw [eh34, va_up_ne _ _ (by omega), eh31, va_up_ne _ _ (by omega)]; exact p8y
                                  have jf44 : h34 (u + 9) = jI 32 (fun j9 => zI (M.ha j9)) := by rw [eh34, va_up_ne _ _ (by omega), eh31, va_up_ne _ _ (by omega)]; exact p9y
                                  have jf45 : h34 (u + 10) = jI 4096 (fun j9 => zI (M.w1 j9)) := by rw [eh34, va_up_ne _ _ (by omega), eh31, va_up_ne _ _ (by omega)]; exact p10y
                                  have jf46 : h34 (u + 11) = jI 4096 (fun j9 => zI (M.mr j9)) := by rw [eh34, va_up_ne _ _ (by omega), eh31, va_up_ne _ _ (by omega)]; exact p11y
                                  have jf47 : h34 (u + 12) = jI 6 (fun j9 => zI (M.rw j9)) := by rw [eh34, va_up_ne _ _ (by omega), eh31, va_up_ne _ _ (by omega)]; exact p12y
                                  have jf48 : h34 (u + 13) = jI 16 (fun j9 => zI (M.tu j9)) := by rw [eh34, va_up_ne _ _ (by omega), eh31, va_up_ne _ _ (by omega)]; exact p13y
                                  exact ih T (by omega) (r ++ [(t : Int)]) (sa v (t : Int)) _ h34 (wlp_app r _ _ hwl hlw) hlw.2.2.1.2 hsb (by rw [List.length_append, List.length_singleton]; omega) (by rw [List.length_append, List.length_singleton]; omega) (getD_app1 hwy) ⟨jf35, jf36, jf37, jf38, jf39, jf40, jf41, jf42, jf43, jf44, jf45, jf46, jf47, jf48⟩ (fun y hy => by rw [eh34, va_up_ne _ _ (by omega), eh31, va_up_ne _ _ (by omega)]; exact hf4 y hy)
                                · refine jz_iinc (v := ((t + 1 : Nat) : Int)) (L' := [some (.ref (u)), some (.int (zI (a))), some (.int (zI (b))), some (.int (zI (1 + a))), some (.int (zI (1 + b))), some (.int (zI (v))), some (.int (zI (((t + 1 : Nat) : Int))))]) d_Md_join_255 rfl (by omega) (by decide) rfl ?_
                                  refine jl_goto (tgt := 221) d_Md_join_258 (by decide) ?_
                                  refine ih2 (k2 - 1) (by omega) (t + 1) (by omega) (fun t9 r1 r2 => ?_)
                                  by_cases e9 : t9 = (t : Int)
                                  · rw [e9]; exact (fun q9 => (by have := (hfw.2 (T : Int) (by omega) (by omega)).mpr q9.2; omega))
                                  · exact hno t9 r1 (by omega)
                          refine jl_iconst (v := zI (0)) d_Md_join_218 (by decide) ?_
                          refine jl_istore (L' := [some (.ref (u)), some (.int (zI (a))), some (.int (zI (b))), some (.int (zI (1 + a))), some (.int (zI (1 + b))), some (.int (zI (v))), some (.int (zI (0)))]) d_Md_join_219 (by decide) rfl ?_
                          exact lph 10 0 (by omega) (fun t9 r1 r2 => by omega)
                    have lpN : ∀ (k : Nat) (s : Nat) (h4 : Nat → va_E), (s : Int) + 1 + k = M.pe (1 + a).toNat → jM h4 u (((M.wT 0).wja (nsf fa (M.pe (1 + a).toNat) (hM M (1 + a)) s)).wfa fa) → jfr h h4 u (u + 14) → jl_AW l G (jl_F G Kr Kx) m_Md_join d 133 [some (.ref (u)), some (.int (zI (a))), some (.int (zI (b))), some (.int (zI (1 + a))), some (.int (zI (1 + b))), some (.int (zI ((s : Int) + 1))), none] [] n h4 0 0 := by
                      intro k
                      induction k using Nat.strongRecOn with
                      | ind k ih =>
                        intro s h4 hks hM4 hf4
                        have hr9 := nsf_rg fa (M.pe (1 + a).toNat) (hM M (1 + a)) s
                        obtain ⟨q0z, q1z, q2z, q3z, q4z, q5z, q6z, q7z, q8z, q9z, q10z, q11z, q12z, q13z⟩ := id (hM4)
                        have p0z : h4 u = jO 6 [.int (zI (0)), .ref (u + 1), .ref (u + 2), .ref (u + 3), .ref (u + 4), .ref (u + 5), .int (zI (M.jn)), .int (zI (nsf fa (M.pe (1 + a).toNat) (hM M (1 + a)) s)), .int (zI (M.jb)), .ref (u + 6), .ref (u + 7), .int (zI (M.nw)), .int (zI (M.bl)), .int (zI (M.lt)), .int (zI (M.rt)), .ref (u + 8), .ref (u + 9), .ref (u + 10), .ref (u + 11), .ref (u + 12), .ref (u + 13)] := q0z
                        have p1z : h4 (u + 1) = jI 8 (fun j9 => zI (M.mo j9)) := q1z
                        have p2z : h4 (u + 2) = jI 8 (fun j9 => zI (M.pe j9)) := q2z
                        have p3z : h4 (u + 3) = jI 128 (fun j9 => zI (M.co j9)) := q3z
                        have p4z : h4 (u + 4) = jI 384 (fun j9 => zI (M.he j9)) := q4z
                        have p5z : h4 (u + 5) = jZ 128 (fun j9 => zI (M.cr j9)) := q5z
                        have p6z : h4 (u + 6) = jI 16 (fun j9 => zI (M.wy j9)) := q6z
                        have p7z : h4 (u + 7) = jI 512 (fun j9 => zI (fa j9)) := q7z
                        have p8z : h4 (u + 8) = jI 32 (fun j9 => zI (M.la j9)) := q8z
                        have p9z : h4 (u + 9) = jI 32 (fun j9 => zI (M.ha j9)) := q9z
                        have p10z : h4 (u + 10) = jI 4096 (fun j9 => zI (M.w1 j9)) := q10z
                        have p11z : h4 (u + 11) = jI 4096 (fun j9 => zI (M.mr j9)) := q11z
                        have p12z : h4 (u + 12) = jI 6 (fun j9 => zI (M.rw j9)) := q12z
                        have p13z : h4 (u + 13) = jI 16 (fun j9 => zI (M.tu j9)) := q13z
                        refine jl_iload d_Md_join_133 rfl ?_
                        refine jl_aload_n d_Md_join_135 rfl rfl ?_
                        refine jg_6 (q := 2) d_Md_join_136 p0z rfl (by decide) fw_Md_13 ?_
                        refine jl_iload_n d_Md_join_139 rfl rfl ?_
                        refine jz_iald d_Md_join_140 p2z (by omega) (by omega) (by omega) ?_
                        refine jz_icmp_ge (tgt := 192) d_Md_join_141 (by decide) ⟨by omega, by omega⟩ ⟨by omega, by omega⟩ (fun hc => ?_) (fun hc => ?_)
                        · have es : s = (M.pe (1 + a).toNat - 1).toNat := by omega
                          rw [es] at hM4 hr9
                          obtain ⟨q0y, q1y, q2y, q3y, q4y, q5y, q6y, q7y, q8y, q9y, q10y, q11y, q12y, q13y⟩ := id (hM4)
                          have p0y : h4 u = jO 6 [.int (zI (0)), .ref (u + 1), .ref (u + 2), .ref (u + 3), .ref (u + 4), .ref (u + 5), .int (zI (M.jn)), .int (zI (nsf fa (M.pe (1 + a).toNat) (hM M (1 + a)) (M.pe (1 + a).toNat - 1).toNat)), .int (zI (M.jb)), .ref (u + 6), .ref (u + 7), .int (zI (M.nw)), .int (zI (M.bl)), .int (zI (M.lt)), .int (zI (M.rt)), .ref (u + 8), .ref (u + 9), .ref (u + 10), .ref (u + 11), .ref (u + 12), .ref (u + 13)] := q0y
                          have p1y : h4 (u + 1) = jI 8 (fun j9 => zI (M.mo j9)) := q1y
                          have p2y : h4 (u + 2) = jI 8 (fun j9 => zI (M.pe j9)) := q2y
                          have p3y : h4 (u + 3) = jI 128 (fun j9 => zI (M.co j9)) := q3y
                          have p4y : h4 (u + 4) = jI 384 (fun j9 => zI (M.he j9)) := q4y
                          have p5y : h4 (u + 5) = jZ 128 (fun j9 => zI (M.cr j9)) := q5y
                          have p6y : h4 (u + 6) = jI 16 (fun j9 => zI (M.wy j9)) := q6y
                          have p7y : h4 (u + 7) = jI 512 (fun j9 => zI (fa j9)) := q7y
                          have p8y : h4 (u + 8) = jI 32 (fun j9 => zI (M.la j9)) := q8y
                          have p9y : h4 (u + 9) = jI 32 (fun j9 => zI (M.ha j9)) := q9y
                          have p10y : h4 (u + 10) = jI 4096 (fun j9 => zI (M.w1 j9)) := q10y
                          have p11y : h4 (u + 11) = jI 4096 (fun j9 => zI (M.mr j9)) := q11y
                          have p12y : h4 (u + 12) = jI 6 (fun j9 => zI (M.rw j9)) := q12y
                          have p13y : h4 (u + 13) = jI 16 (fun j9 => zI (M.tu j9)) := q13y
                          refine jl_aload_n d_Md_join_192 rfl rfl ?_
                          refine jl_iload_n d_Md_join_193 rfl rfl ?_
                          refine jl_aload_n d_Md_join_194 rfl rfl ?_
                          refine jg_6 (q := 7) d_Md_join_195 p0y rfl (by decide) fw_Md_111 ?_
                          refine jl_invV (M' := m_Md_stateOf) (d' := d - 1) (ck' := 0) (sk' := 0) (na := 2) (as := [.int (zI (1 + a)), .int (zI (nsf fa (M.pe (1 + a).toNat) (hM M (1 + a)) (M.pe (1 + a).toNat - 1).toNat))]) (st := []) d_Md_join_198 rfl p0y rfl mw_Md_93 ww_Md_stateOf sw_Md_stateOf nw_Md cw_Md_stateOf rfl rfl rfl (by decide +kernel) (by omega) (Nat.le_of_ble_eq_true rfl) (Nat.le_of_ble_eq_true rfl) ?_
                          refine k_M_stateOf hl9 (by omega) hM4 ok ⟨by omega, by omega⟩ (show 1 ≤ M.pe (1 + a).toNat by omega) ⟨by omega, by omega⟩ ?_
                          show jl_AW _ _ _ _ _ 201 [some (.ref (u)), some (.int (zI (a))), some (.int (zI (b))), some (.int (zI (1 + a))), some (.int (zI (1 + b))), some (.int (zI ((s : Int) + 1))), none] [.int (zI (sp_st (M.pe (1 + a).toNat) (hM M (1 + a)) (nsf fa (M.pe (1 + a).toNat) (hM M (1 + a)) (M.pe (1 + a).toNat - 1).toNat)))] n h4 _ _
                          refine jl_istore (L' := [some (.ref (u)), some (.int (zI (a))), some (.int (zI (b))), some (.int (zI (1 + a))), some (.int (zI (1 + b))), some (.int (zI (sp_st (M.pe (1 + a).toNat) (hM M (1 + a)) (nsf fa (M.pe (1 + a).toNat) (hM M (1 + a)) (M.pe (1 + a).toNat - 1).toNat)))), none]) d_Md_join_201 (by decide) rfl ?_
                          refine jl_aload_n d_Md_join_203 rfl rfl ?_
                          refine jl_iconst (v := zI (0)) d_Md_join_204 (by decide) ?_
                          refine jp_6 (q := 6) (ty := .int) d_Md_join_205 p0y (by simp) (by decide) fw_Md_26 rfl (by decide +kernel) (fun _ _ => rfl) (fun _ _ => rfl) (fun h31 eh31 => ?_)
                          have eh31 : h31 = va_up h4 (u) (jO 6 [.int (zI (0)), .ref (u + 1), .ref (u + 2), .ref (u + 3), .ref (u + 4), .ref (u + 5), .int (zI (0)), .int (zI (nsf fa (M.pe (1 + a).toNat) (hM M (1 + a)) (M.pe (1 + a).toNat - 1).toNat)), .int (zI (M.jb)), .ref (u + 6), .ref (u + 7), .int (zI (M.nw)), .int (zI (M.bl)), .int (zI (M.lt)), .int (zI (M.rt)), .ref (u + 8), .ref (u + 9), .ref (u + 10), .ref (u + 11), .ref (u + 12), .ref (u + 13)]) := eh31
                          have jf32 : h31 (u) = jO 6 [.int (zI (0)), .ref (u + 1), .ref (u + 2), .ref (u + 3), .ref (u + 4), .ref (u + 5), .int (zI (0)), .int (zI (nsf fa (M.pe (1 + a).toNat) (hM M (1 + a)) (M.pe (1 + a).toNat - 1).toNat)), .int (zI (M.jb)), .ref (u + 6), .ref (u + 7), .int (zI (M.nw)), .int (zI (M.bl)), .int (zI (M.lt)), .int (zI (M.rt)), .ref (u + 8), .ref (u + 9), .ref (u + 10), .ref (u + 11), .ref (u + 12), .ref (u + 13)] := by rw [eh31, va_up_self]
                          have hst := sp_st_rg (p := M.pe (1 + a).toNat) (hM_rg ok (1 + a)) (nsf fa (M.pe (1 + a).toNat) (hM M (1 + a)) (M.pe (1 + a).toNat - 1).toNat)
                          have hde := hre (nsf fa (M.pe (1 + a).toNat) (hM M (1 + a)) (M.pe (1 + a).toNat - 1).toNat) hr9.1 (by omega)
                          have hd0 := hde.1.1
                          have ec : ((fa (sp_st (M.pe (1 + a).toNat) (hM M (1 + a)) (nsf fa (M.pe (1 + a).toNat) (hM M (1 + a)) (M.pe (1 + a).toNat - 1).toNat)).toNat).toNat : Int) = fa (sp_st (M.pe (1 + a).toNat) (hM M (1 + a)) (nsf fa (M.pe (1 + a).toNat) (hM M (1 + a)) (M.pe (1 + a).toNat - 1).toNat)).toNat := by omega
                          have jf33 : h31 (u + 1) = jI 8 (fun j9 => zI (M.mo j9)) := by rw [eh31, va_up_ne _ _ (by omega)]; exact p1y
                          have jf34 : h31 (u + 2) = jI 8 (fun j9 => zI (M.pe j9)) := by rw [eh31, va_up_ne _ _ (by omega)]; exact p2y
                          have jf35 : h31 (u + 3) = jI 128 (fun j9 => zI (M.co j9)) := by rw [eh31, va_up_ne _ _ (by omega)]; exact p3y
                          have jf36 : h31 (u + 4) = jI 384 (fun j9 => zI (M.he j9)) := by rw [eh31, va_up_ne _ _ (by omega)]; exact p4y
                          have jf37 : h31 (u + 5) = jZ 128 (fun j9 => zI (M.cr j9)) := by rw [eh31, va_up_ne _ _ (by omega)]; exact p5y
                          have jf38 : h31 (u + 6) = jI 16 (fun j9 => zI (M.wy j9)) := by rw [eh31, va_up_ne _ _ (by omega)]; exact p6y
                          have jf39 : h31 (u + 7) = jI 512 (fun j9 => zI (fa j9)) := by rw [eh31, va_up_ne _ _ (by omega)]; exact p7y
                          have jf40 : h31 (u + 8) = jI 32 (fun j9 => zI (M.la j9)) := by rw [eh31, va_up_ne _ _ (by omega)]; exact p8y
                          have jf41 : h31 (u + 9) = jI 32 (fun j9 => zI (M.ha j9)) := by rw [eh31, va_up_ne _ _ (by omega)]; exact p9y
                          have jf42 : h31 (u + 10) = jI 4096 (fun j9 => zI (M.w1 j9)) := by rw [eh31, va_up_ne _ _ (by omega)]; exact p10y
                          have jf43 : h31 (u + 11) = jI 4096 (fun j9 => zI (M.mr j9)) := by rw [eh31, va_up_ne _ _ (by omega)]; exact p11y
                          have jf44 : h31 (u + 12) = jI 6 (fun j9 => zI (M.rw j9)) := by rw [eh31, va_up_ne _ _ (by omega)]; exact p12y
                          have jf45 : h31 (u + 13) = jI 16 (fun j9 => zI (M.tu j9)) := by rw [eh31, va_up_ne _ _ (by omega)]; exact p13y
                          exact lpW (fa (sp_st (M.pe (1 + a).toNat) (hM M (1 + a)) (nsf fa (M.pe (1 + a).toNat) (hM M (1 + a)) (M.pe (1 + a).toNat - 1).toNat)).toNat).toNat [] (sp_st (M.pe (1 + a).toNat) (hM M (1 + a)) (nsf fa (M.pe (1 + a).toNat) (hM M (1 + a)) (M.pe (1 + a).toNat - 1).toNat)) M.wy h31 rfl (by rw [ec]; exact hde.1) hst (by have := hde.2; show 0 + _ ≤ 9; omega) (by show 0 + _ = _; omega) (fun j hj => absurd hj (Nat.not_lt_zero j)) ⟨jf32, jf33, jf34, jf35, jf36, jf37, jf38, jf39, jf40, jf41, jf42, jf43, jf44, jf45⟩ (fun y hy => by rw [eh31, va_up_ne _ _ (by omega)]; exact hf4 y hy)
                        · have hs1 := sp_st_rg (p := M.pe (1 + a).toNat) (hM_rg ok (1 + a)) ((s : Int) + 1)
                          have hs2 := sp_st_rg (p := M.pe (1 + a).toNat) (hM_rg ok (1 + a)) (nsf fa (M.pe (1 + a).toNat) (hM M (1 + a)) s)
                          have hf5 := (hfD _ hs1.1 hs1.2).1
                          have hf6 := (hfD _ hs2.1 hs2.2).1
                          refine jl_aload_n d_Md_join_144 rfl rfl ?_
                          refine jl_aload_n d_Md_join_145 rfl rfl ?_
                          refine jg_6 (q := 10) d_Md_join_146 p0z rfl (by decide) fw_Md_33 ?_
                          refine jl_aload_n d_Md_join_149 rfl rfl ?_
                          refine jl_iload_n d_Md_join_150 rfl rfl ?_
                          refine jl_iload d_Md_join_151 rfl ?_
                          refine jl_invV (M' := m_Md_stateOf) (d' := d - 1) (ck' := 0) (sk' := 0) (na := 2) (as := [.int (zI (1 + a)), .int (zI ((s : Int) + 1))]) (st := [.ref (u + 7), .ref (u)]) d_Md_join_153 rfl p0z rfl mw_Md_93 ww_Md_stateOf sw_Md_stateOf nw_Md cw_Md_stateOf rfl rfl rfl (by decide +kernel) (by omega) (Nat.le_of_ble_eq_true rfl) (Nat.le_of_ble_eq_true rfl) ?_
                          refine k_M_stateOf hl9 (by omega) hM4 ok ⟨by omega, by omega⟩ (show 1 ≤ M.pe (1 + a).toNat by omega) ⟨by omega, by omega⟩ ?_
                          show jl_AW _ _ _ _ _ 156 [some (.ref (u)), some (.int (zI (a))), some (.int (zI (b))), some (.int (zI (1 + a))), some (.int (zI (1 + b))), some (.int (zI ((s : Int) + 1))), none] [.int (zI (sp_st (M.pe (1 + a).toNat) (hM M (1 + a)) ((s : Int) + 1))), .ref (u + 7), .ref (u)] n h4 _ _
                          refine jz_iald d_Md_join_156 p7z (by omega) (by omega) (by omega) ?_
                          refine jl_aload_n d_Md_join_157 rfl rfl ?_
                          refine jg_6 (q := 10) d_Md_join_158 p0z rfl (by decide) fw_Md_33 ?_
                          refine jl_aload_n d_Md_join_161 rfl rfl ?_
                          refine jl_iload_n d_Md_join_162 rfl rfl ?_
                          refine jl_aload_n d_Md_join_163 rfl rfl ?_
                          refine jg_6 (q := 7) d_Md_join_164 p0z rfl (by decide) fw_Md_111 ?_
                          refine jl_invV (M' := m_Md_stateOf) (d' := d - 1) (ck' := 0) (sk' := 0) (na := 2) (as := [.int (zI (1 + a)), .int (zI (nsf fa (M.pe (1 + a).toNat) (hM M (1 + a)) s))]) (st := [.ref (u + 7), .int (zI (fa (sp_st (M.pe (1 + a).toNat) (hM M (1 + a)) ((s : Int) + 1)).toNat)), .ref (u)]) d_Md_join_167 rfl p0z rfl mw_Md_93 ww_Md_stateOf sw_Md_stateOf nw_Md cw_Md_stateOf rfl rfl rfl (by decide +kernel) (by omega) (Nat.le_of_ble_eq_true rfl) (Nat.le_of_ble_eq_true rfl) ?_
                          refine k_M_stateOf hl9 (by omega) hM4 ok ⟨by omega, by omega⟩ (show 1 ≤ M.pe (1 + a).toNat by omega) ⟨by omega, by omega⟩ ?_
                          show jl_AW _ _ _ _ _ 170 [some (.ref (u)), some (.int (zI (a))), some (.int (zI (b))), some (.int (zI (1 + a))), some (.int (zI (1 + b))), some (.int (zI ((s : Int) + 1))), none] [.int (zI (sp_st (M.pe (1 + a).toNat) (hM M (1 + a)) (nsf fa (M.pe (1 + a).toNat) (hM M (1 + a)) s))), .ref (u + 7), .int (zI (fa (sp_st (M.pe (1 + a).toNat) (hM M (1 + a)) ((s : Int) + 1)).toNat)), .ref (u)] n h4 _ _
                          refine jz_iald d_Md_join_170 p7z (by omega) (by omega) (by omega) ?_
                          refine jz_icmp_ge (tgt := 179) d_Md_join_171 (by decide) ⟨by omega, by omega⟩ ⟨by omega, by omega⟩ (fun hc2 => ?_) (fun hc2 => ?_)
                          · refine jl_aload_n d_Md_join_179 rfl rfl ?_
                            refine jg_6 (q := 7) d_Md_join_180 p0z rfl (by decide) fw_Md_111 ?_
                            refine jp_6 (q := 7) (ty := .int) d_Md_join_183 p0z (by simp) (by decide) fw_Md_111 rfl (by decide +kernel) (fun _ _ => rfl) (fun _ _ => rfl) (fun h31 eh31 => ?_)
                            have eh31 : h31 = va_up h4 (u) (jO 6 [.int (zI (0)), .ref (u + 1), .ref (u + 2), .ref (u + 3), .ref (u + 4), .ref (u + 5), .int (zI (M.jn)), .int (zI (nsf fa (M.pe (1 + a).toNat) (hM M (1 + a)) s)), .int (zI (M.jb)), .ref (u + 6), .ref (u + 7), .int (zI (M.nw)), .int (zI (M.bl)), .int (zI (M.lt)), .int (zI (M.rt)), .ref (u + 8), .ref (u + 9), .ref (u + 10), .ref (u + 11), .ref (u + 12), .ref (u + 13)]) := eh31
                            have jf32 : h31 (u) = jO 6 [.int (zI (0)), .ref (u + 1), .ref (u + 2), .ref (u + 3), .ref (u + 4), .ref (u + 5), .int (zI (M.jn)), .int (zI (nsf fa (M.pe (1 + a).toNat) (hM M (1 + a)) s)), .int (zI (M.jb)), .ref (u + 6), .ref (u + 7), .int (zI (M.nw)), .int (zI (M.bl)), .int (zI (M.lt)), .int (zI (M.rt)), .ref (u + 8), .ref (u + 9), .ref (u + 10), .ref (u + 11), .ref (u + 12), .ref (u + 13)] := by rw [eh31, va_up_self]
                            refine jz_iinc (v := ((s + 1 : Nat) : Int) + 1) (L' := [some (.ref (u)), some (.int (zI (a))), some (.int (zI (b))), some (.int (zI (1 + a))), some (.int (zI (1 + b))), some (.int (zI (((s + 1 : Nat) : Int) + 1))), none]) d_Md_join_186 rfl (by omega) (by decide) rfl ?_
                            refine jl_goto (tgt := 133) d_Md_join_189 (by decide) ?_
                            refine ih (k - 1) (by omega) (s + 1) h31 (by omega) ?_ (fun y hy => by rw [eh31, va_up_ne _ _ (by omega)]; exact hf4 y hy)
                            rw [nsf, if_neg (by omega)]
                            have jf33 : h31 (u + 1) = jI 8 (fun j9 => zI (M.mo j9)) := by rw [eh31, va_up_ne _ _ (by omega)]; exact p1z
                            have jf34 : h31 (u + 2) = jI 8 (fun j9 => zI (M.pe j9)) := by rw [eh31, va_up_ne _ _ (by omega)]; exact p2z
                            have jf35 : h31 (u + 3) = jI 128 (fun j9 => zI (M.co j9)) := by rw [eh31, va_up_ne _ _ (by omega)]; exact p3z
                            have jf36 : h31 (u + 4) = jI 384 (fun j9 => zI (M.he j9)) := by rw [eh31, va_up_ne _ _ (by omega)]; exact p4z
                            have jf37 : h31 (u + 5) = jZ 128 (fun j9 => zI (M.cr j9)) := by rw [eh31, va_up_ne _ _ (by omega)]; exact p5z
                            have jf38 : h31 (u + 6) = jI 16 (fun j9 => zI (M.wy j9)) := by rw [eh31, va_up_ne _ _ (by omega)]; exact p6z
                            have jf39 : h31 (u + 7) = jI 512 (fun j9 => zI (fa j9)) := by rw [eh31, va_up_ne _ _ (by omega)]; exact p7z
                            have jf40 : h31 (u + 8) = jI 32 (fun j9 => zI (M.la j9)) := by rw [eh31, va_up_ne _ _ (by omega)]; exact p8z
                            have jf41 : h31 (u + 9) = jI 32 (fun j9 => zI (M.ha j9)) := by rw [eh31, va_up_ne _ _ (by omega)]; exact p9z
                            have jf42 : h31 (u + 10) = jI 4096 (fun j9 => zI (M.w1 j9)) := by rw [eh31, va_up_ne _ _ (by omega)]; exact p10z
                            have jf43 : h31 (u + 11) = jI 4096 (fun j9 => zI (M.mr j9)) := by rw [eh31, va_up_ne _ _ (by omega)]; exact p11z
                            have jf44 : h31 (u + 12) = jI 6 (fun j9 => zI (M.rw j9)) := by rw [eh31, va_up_ne _ _ (by omega)]; exact p12z
                            have jf45 : h31 (u + 13) = jI 16 (fun j9 => zI (M.tu j9)) := by rw [eh31, va_up_ne _ _ (by omega)]; exact p13z
                            exact ⟨jf32, jf33, jf34, jf35, jf36, jf37, jf38, jf39, jf40, jf41, jf42, jf43, jf44, jf45⟩
                          · refine jl_iload d_Md_join_174 rfl ?_
                            refine jl_goto (tgt := 183) d_Md_join_176 (by decide) ?_
                            refine jp_6 (q := 7) (ty := .int) d_Md_join_183 p0z (by simp) (by decide) fw_Md_111 rfl (by decide +kernel) (fun _ _ => rfl) (fun _ _ => rfl) (fun h31 eh31 => ?_)
                            have eh31 : h31 = va_up h4 (u) (jO 6 [.int (zI (0)), .ref (u + 1), .ref (u + 2), .ref (u + 3), .ref (u + 4), .ref (u + 5), .int (zI (M.jn)), .int (zI ((s : Int) + 1)), .int (zI (M.jb)), .ref (u + 6), .ref (u + 7), .int (zI (M.nw)), .int (zI (M.bl)), .int (zI (M.lt)), .int (zI (M.rt)), .ref (u + 8), .ref (u + 9), .ref (u + 10), .ref (u + 11), .ref (u + 12), .ref (u + 13)]) := eh31
                            have jf32 : h31 (u) = jO 6 [.int (zI (0)), .ref (u + 1), .ref (u + 2), .ref (u + 3), .ref (u + 4), .ref (u + 5), .int (zI (M.jn)), .int (zI ((s : Int) + 1)), .int (zI (M.jb)), .ref (u + 6), .ref (u + 7), .int (zI (M.nw)), .int (zI (M.bl)), .int (zI (M.lt)), .int (zI (M.rt)), .ref (u + 8), .ref (u + 9), .ref (u + 10), .ref (u + 11), .ref (u + 12), .ref (u + 13)] := by rw [eh31, va_up_self]
                            refine jz_iinc (v := ((s + 1 : Nat) : Int) + 1) (L' := [some (.ref (u)), some (.int (zI (a))), some (.int (zI (b))), some (.int (zI (1 + a))), some (.int (zI (1 + b))), some (.int (zI (((s + 1 : Nat) : Int) + 1))), none]) d_Md_join_186 rfl (by omega) (by decide) rfl ?_
                            refine jl_goto (tgt := 133) d_Md_join_189 (by decide) ?_
                            refine ih (k - 1) (by omega) (s + 1) h31 (by omega) ?_ (fun y hy => by rw [eh31, va_up_ne _ _ (by omega)]; exact hf4 y hy)
                            rw [nsf, if_pos (by omega)]
                            have jf33 : h31 (u + 1) = jI 8 (fun j9 => zI (M.mo j9)) := by rw [eh31, va_up_ne _ _ (by omega)]; exact p1z
                            have jf34 : h31 (u + 2) = jI 8 (fun j9 => zI (M.pe j9)) := by rw [eh31, va_up_ne _ _ (by omega)]; exact p2z
                            have jf35 : h31 (u + 3) = jI 128 (fun j9 => zI (M.co j9)) := by rw [eh31, va_up_ne _ _ (by omega)]; exact p3z
                            have jf36 : h31 (u + 4) = jI 384 (fun j9 => zI (M.he j9)) := by rw [eh31, va_up_ne _ _ (by omega)]; exact p4z
                            have jf37 : h31 (u + 5) = jZ 128 (fun j9 => zI (M.cr j9)) := by rw [eh31, va_up_ne _ _ (by omega)]; exact p5z
                            have jf38 : h31 (u + 6) = jI 16 (fun j9 => zI (M.wy j9)) := by rw [eh31, va_up_ne _ _ (by omega)]; exact p6z
                            have jf39 : h31 (u + 7) = jI 512 (fun j9 => zI (fa j9)) := by rw [eh31, va_up_ne _ _ (by omega)]; exact p7z
                            have jf40 : h31 (u + 8) = jI 32 (fun j9 => zI (M.la j9)) := by rw [eh31, va_up_ne _ _ (by omega)]; exact p8z
                            have jf41 : h31 (u + 9) = jI 32 (fun j9 => zI (M.ha j9)) := by rw [eh31, va_up_ne _ _ (by omega)]; exact p9z
                            have jf42 : h31 (u + 10) = jI 4096 (fun j9 => zI (M.w1 j9)) := by rw [eh31, va_up_ne _ _ (by omega)]; exact p10z
                            have jf43 : h31 (u + 11) = jI 4096 (fun j9 => zI (M.mr j9)) := by rw [eh31, va_up_ne _ _ (by omega)]; exact p11z
                            have jf44 : h31 (u + 12) = jI 6 (fun j9 => zI (M.rw j9)) := by rw [eh31, va_up_ne _ _ (by omega)]; exact p12z
                            have jf45 : h31 (u + 13) = jI 16 (fun j9 => zI (M.tu j9)) := by rw [eh31, va_up_ne _ _ (by omega)]; exact p13z
                            exact ⟨jf32, jf33, jf34, jf35, jf36, jf37, jf38, jf39, jf40, jf41, jf42, jf43, jf44, jf45⟩
                    refine jl_iconst (v := zI (1)) d_Md_join_130 (by decide) ?_
                    refine jl_istore (L' := [some (.ref (u)), some (.int (zI (a))), some (.int (zI (b))), some (.int (zI (1 + a))), some (.int (zI (1 + b))), some (.int (zI (1))), none]) d_Md_join_131 (by decide) rfl ?_
                    exact lpN (M.pe (1 + a).toNat - 1).toNat 0 h16 (by omega) ⟨jf17, jf18, jf19, jf20, jf21, jf22, jf23, jf24, jf25, jf26, jf27, jf28, jf29, jf30⟩ (fun y hy => by rw [eh16, va_up_ne _ _ (by omega)]; exact hfr0 y hy)
                  · refine jl_aload_n d_Md_join_113 rfl rfl ?_
                    refine jl_iconst (v := zI (3)) d_Md_join_114 (by decide) ?_
                    refine jl_invV (M' := m_Md_fail) (d' := d - 1) (ck' := 0) (sk' := 0) (na := 1) (as := [.int (zI (3))]) (st := []) d_Md_join_115 rfl p0a rfl mw_Md_65 ww_Md_fail sw_Md_fail nw_Md cw_Md_fail rfl rfl rfl (by decide +kernel) (by omega) (Nat.le_of_ble_eq_true rfl) (Nat.le_of_ble_eq_true rfl) ?_
                    refine k_M_fail hl9 (by omega) hM1 (fun h2 hM2 hf2 => ?_)
                    show jl_AW _ _ _ _ _ 118 [some (.ref (u)), some (.int (zI (a))), some (.int (zI (b))), some (.int (zI (1 + a))), some (.int (zI (1 + b))), none, none] [.int (zI (0))] n h2 _ _
                    exact jl_iret d_Md_join_118 rfl (hk3 hsl hpr (fun q => q7 q.2.2) h2 hM2 (jfr_tr hf1 hf2))
        · refine jl_aload_n d_Md_join_57 rfl rfl ?_
          refine jl_iconst (v := zI (2)) d_Md_join_58 (by decide) ?_
          refine jl_invV (M' := m_Md_fail) (d' := d - 1) (ck' := 0) (sk' := 0) (na := 1) (as := [.int (zI (2))]) (st := []) d_Md_join_59 rfl p0a rfl mw_Md_65 ww_Md_fail sw_Md_fail nw_Md cw_Md_fail rfl rfl rfl (by decide +kernel) (by omega) (Nat.le_of_ble_eq_true rfl) (Nat.le_of_ble_eq_true rfl) ?_
          refine k_M_fail hl9 (by omega) hM1 (fun h2 hM2 hf2 => ?_)
          show jl_AW _ _ _ _ _ 62 [some (.ref (u)), some (.int (zI (a))), some (.int (zI (b))), some (.int (zI (1 + a))), some (.int (zI (1 + b))), none, none] [.int (zI (0))] n h2 _ _
          exact jl_iret d_Md_join_62 rfl (hk2 ⟨i1, i2⟩ (fun q => q.2 q2) h2 hM2 (jfr_tr hf1 hf2))
    · show jl_AW _ _ _ _ _ 20 [some (.ref (u)), some (.int (zI (a))), some (.int (zI (b))), none, none, none, none] [.int (zI (0))] n h1 _ _
      refine jz_if_ne (tgt := 29) d_Md_join_20 (by decide) ⟨by decide, by decide⟩ (fun q9 => absurd q9 (by decide)) (fun _ => ?_)
      refine jl_aload_n d_Md_join_23 rfl rfl ?_
      refine jl_iconst (v := zI (1)) d_Md_join_24 (by decide) ?_
      refine jl_invV (M' := m_Md_fail) (d' := d - 1) (ck' := 0) (sk' := 0) (na := 1) (as := [.int (zI (1))]) (st := []) d_Md_join_25 rfl p0a rfl mw_Md_65 ww_Md_fail sw_Md_fail nw_Md cw_Md_fail rfl rfl rfl (by decide +kernel) (by omega) (Nat.le_of_ble_eq_true rfl) (Nat.le_of_ble_eq_true rfl) ?_
      refine k_M_fail hl9 (by omega) hM1 (fun h2 hM2 hf2 => ?_)
      show jl_AW _ _ _ _ _ 28 [some (.ref (u)), some (.int (zI (a))), some (.int (zI (b))), none, none, none, none] [.int (zI (0))] n h2 _ _
      exact jl_iret d_Md_join_28 rfl (hk1 (fun q => i2 q.2) h2 hM2 (jfr_tr hf1 hf2))
  · show jl_AW _ _ _ _ _ 11 [some (.ref (u)), some (.int (zI (a))), some (.int (zI (b))), none, none, none, none] [.int (zI (0))] n h1 _ _
    refine jz_if_eq (tgt := 23) d_Md_join_11 (by decide) ⟨by decide, by decide⟩ (fun _ => ?_) (fun q9 => absurd q9 (by decide))
    refine jl_aload_n d_Md_join_23 rfl rfl ?_
    refine jl_iconst (v := zI (1)) d_Md_join_24 (by decide) ?_
    refine jl_invV (M' := m_Md_fail) (d' := d - 1) (ck' := 0) (sk' := 0) (na := 1) (as := [.int (zI (1))]) (st := []) d_Md_join_25 rfl p0a rfl mw_Md_65 ww_Md_fail sw_Md_fail nw_Md cw_Md_fail rfl rfl rfl (by decide +kernel) (by omega) (Nat.le_of_ble_eq_true rfl) (Nat.le_of_ble_eq_true rfl) ?_
    refine k_M_fail hl9 (by omega) hM1 (fun h2 hM2 hf2 => ?_)
    show jl_AW _ _ _ _ _ 28 [some (.ref (u)), some (.int (zI (a))), some (.int (zI (b))), none, none, none, none] [.int (zI (0))] n h2 _ _
    exact jl_iret d_Md_join_28 rfl (hk1 (fun q => i1 q.1) h2 hM2 (jfr_tr hf1 hf2))
