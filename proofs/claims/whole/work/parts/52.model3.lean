def flV (M : MS) (a : Int) : Int := if a = 0 then M.nw else if a = 1 then M.lt else if a = 2 then M.rt else if a = 3 then M.bl else M.mo (7 : Int).toNat
set_option maxHeartbeats 4000000 in
set_option maxRecDepth 100000 in
theorem k_M_valid {l : Launch} {G : jl_G} {d n : Nat} {h : Nat → va_E} {Kr : Option Value → Nat → (Nat → va_E) → Prop} {Kx : String → Nat → (Nat → va_E) → Prop} (hl9 : l.stackTraces = false) (hdd : 4 ≤ d) {u : Nat} {M : MS} (hM9 : jM h u M) (ok : mOk M) (hpe : 1 ≤ M.pe (0 : Int).toNat) (hk : ∀ g, sp_is (sp_ev (M.mo (0 : Int).toNat) (M.pe (0 : Int).toNat) (hM M 0) (cM M 0) (xM M 0)) g → ∀ h', jM h' u (M.wT 0) → jfr h h' u (u + 14) → Kr (some (.int (zI (g)))) n h') : jl_Call l G m_Md_valid d [.ref (u)] n h 0 0 Kr Kx := by
  refine jl_enter hl9 (by decide) rfl (by simp [Value.category]) (Nat.le_of_ble_eq_true rfl) ?_
  show jl_AW l G (jl_F G Kr Kx) m_Md_valid d 0 [some (.ref (u))] [] n h 0 0
  obtain ⟨q0, q1, q2, q3, q4, q5, q6, q7, q8, q9, q10, q11, q12, q13⟩ := id (hM9)
  have p0 : h u = jO 6 [.int (zI (M.T)), .ref (u + 1), .ref (u + 2), .ref (u + 3), .ref (u + 4), .ref (u + 5), .int (zI (M.jn)), .int (zI (M.ja)), .int (zI (M.jb)), .ref (u + 6), .ref (u + 7), .int (zI (M.nw)), .int (zI (M.bl)), .int (zI (M.lt)), .int (zI (M.rt)), .ref (u + 8), .ref (u + 9), .ref (u + 10), .ref (u + 11), .ref (u + 12), .ref (u + 13)] := q0
  have p1 : h (u + 1) = jI 8 (fun j9 => zI (M.mo j9)) := q1
  have p2 : h (u + 2) = jI 8 (fun j9 => zI (M.pe j9)) := q2
  have p3 : h (u + 3) = jI 128 (fun j9 => zI (M.co j9)) := q3
  have p4 : h (u + 4) = jI 384 (fun j9 => zI (M.he j9)) := q4
  have p5 : h (u + 5) = jZ 128 (fun j9 => zI (M.cr j9)) := q5
  have p6 : h (u + 6) = jI 16 (fun j9 => zI (M.wy j9)) := q6
  have p7 : h (u + 7) = jI 512 (fun j9 => zI (M.fa j9)) := q7
  have p8 : h (u + 8) = jI 32 (fun j9 => zI (M.la j9)) := q8
  have p9 : h (u + 9) = jI 32 (fun j9 => zI (M.ha j9)) := q9
  have p10 : h (u + 10) = jI 4096 (fun j9 => zI (M.w1 j9)) := q10
  have p11 : h (u + 11) = jI 4096 (fun j9 => zI (M.mr j9)) := q11
  have p12 : h (u + 12) = jI 6 (fun j9 => zI (M.rw j9)) := q12
  have p13 : h (u + 13) = jI 16 (fun j9 => zI (M.tu j9)) := q13
  refine jl_aload_n d_Md_valid_0 rfl rfl ?_
  refine jl_iconst (v := zI (0)) d_Md_valid_1 (by decide) ?_
  refine jp_6 (q := 0) (ty := .int) d_Md_valid_2 p0 (by simp) (by decide) fw_Md_58 rfl (by decide +kernel) (fun _ _ => rfl) (fun _ _ => rfl) (fun h1 eh1 => ?_)
  have eh1 : h1 = va_up h (u) (jO 6 [.int (zI (0)), .ref (u + 1), .ref (u + 2), .ref (u + 3), .ref (u + 4), .ref (u + 5), .int (zI (M.jn)), .int (zI (M.ja)), .int (zI (M.jb)), .ref (u + 6), .ref (u + 7), .int (zI (M.nw)), .int (zI (M.bl)), .int (zI (M.lt)), .int (zI (M.rt)), .ref (u + 8), .ref (u + 9), .ref (u + 10), .ref (u + 11), .ref (u + 12), .ref (u + 13)]) := eh1
  have jf2 : h1 (u) = jO 6 [.int (zI (0)), .ref (u + 1), .ref (u + 2), .ref (u + 3), .ref (u + 4), .ref (u + 5), .int (zI (M.jn)), .int (zI (M.ja)), .int (zI (M.jb)), .ref (u + 6), .ref (u + 7), .int (zI (M.nw)), .int (zI (M.bl)), .int (zI (M.lt)), .int (zI (M.rt)), .ref (u + 8), .ref (u + 9), .ref (u + 10), .ref (u + 11), .ref (u + 12), .ref (u + 13)] := by rw [eh1, va_up_self]
  have jf3 : h1 (u + 1) = jI 8 (fun j9 => zI (M.mo j9)) := by rw [eh1, va_up_ne _ _ (by omega)]; exact p1
  have jf4 : h1 (u + 2) = jI 8 (fun j9 => zI (M.pe j9)) := by rw [eh1, va_up_ne _ _ (by omega)]; exact p2
  have jf5 : h1 (u + 3) = jI 128 (fun j9 => zI (M.co j9)) := by rw [eh1, va_up_ne _ _ (by omega)]; exact p3
  have jf6 : h1 (u + 4) = jI 384 (fun j9 => zI (M.he j9)) := by rw [eh1, va_up_ne _ _ (by omega)]; exact p4
  have jf7 : h1 (u + 5) = jZ 128 (fun j9 => zI (M.cr j9)) := by rw [eh1, va_up_ne _ _ (by omega)]; exact p5
  have jf8 : h1 (u + 6) = jI 16 (fun j9 => zI (M.wy j9)) := by rw [eh1, va_up_ne _ _ (by omega)]; exact p6
  have jf9 : h1 (u + 7) = jI 512 (fun j9 => zI (M.fa j9)) := by rw [eh1, va_up_ne _ _ (by omega)]; exact p7
  have jf10 : h1 (u + 8) = jI 32 (fun j9 => zI (M.la j9)) := by rw [eh1, va_up_ne _ _ (by omega)]; exact p8
  have jf11 : h1 (u + 9) = jI 32 (fun j9 => zI (M.ha j9)) := by rw [eh1, va_up_ne _ _ (by omega)]; exact p9
  have jf12 : h1 (u + 10) = jI 4096 (fun j9 => zI (M.w1 j9)) := by rw [eh1, va_up_ne _ _ (by omega)]; exact p10
  have jf13 : h1 (u + 11) = jI 4096 (fun j9 => zI (M.mr j9)) := by rw [eh1, va_up_ne _ _ (by omega)]; exact p11
  have jf14 : h1 (u + 12) = jI 6 (fun j9 => zI (M.rw j9)) := by rw [eh1, va_up_ne _ _ (by omega)]; exact p12
  have jf15 : h1 (u + 13) = jI 16 (fun j9 => zI (M.tu j9)) := by rw [eh1, va_up_ne _ _ (by omega)]; exact p13
  have hM1 : jM h1 u (M.wT 0) := ⟨jf2, jf3, jf4, jf5, jf6, jf7, jf8, jf9, jf10, jf11, jf12, jf13, jf14, jf15⟩
  have hf1 : jfr h h1 u (u + 14) := (fun y hy => by rw [eh1, va_up_ne _ _ (by omega)])
  obtain ⟨q0a, q1a, q2a, q3a, q4a, q5a, q6a, q7a, q8a, q9a, q10a, q11a, q12a, q13a⟩ := id (hM1)
  have p0a : h1 u = jO 6 [.int (zI (0)), .ref (u + 1), .ref (u + 2), .ref (u + 3), .ref (u + 4), .ref (u + 5), .int (zI (M.jn)), .int (zI (M.ja)), .int (zI (M.jb)), .ref (u + 6), .ref (u + 7), .int (zI (M.nw)), .int (zI (M.bl)), .int (zI (M.lt)), .int (zI (M.rt)), .ref (u + 8), .ref (u + 9), .ref (u + 10), .ref (u + 11), .ref (u + 12), .ref (u + 13)] := q0a
  have p1a : h1 (u + 1) = jI 8 (fun j9 => zI (M.mo j9)) := q1a
  have p2a : h1 (u + 2) = jI 8 (fun j9 => zI (M.pe j9)) := q2a
  have p3a : h1 (u + 3) = jI 128 (fun j9 => zI (M.co j9)) := q3a
  have p4a : h1 (u + 4) = jI 384 (fun j9 => zI (M.he j9)) := q4a
  have p5a : h1 (u + 5) = jZ 128 (fun j9 => zI (M.cr j9)) := q5a
  have p6a : h1 (u + 6) = jI 16 (fun j9 => zI (M.wy j9)) := q6a
  have p7a : h1 (u + 7) = jI 512 (fun j9 => zI (M.fa j9)) := q7a
  have p8a : h1 (u + 8) = jI 32 (fun j9 => zI (M.la j9)) := q8a
  have p9a : h1 (u + 9) = jI 32 (fun j9 => zI (M.ha j9)) := q9a
  have p10a : h1 (u + 10) = jI 4096 (fun j9 => zI (M.w1 j9)) := q10a
  have p11a : h1 (u + 11) = jI 4096 (fun j9 => zI (M.mr j9)) := q11a
  have p12a : h1 (u + 12) = jI 6 (fun j9 => zI (M.rw j9)) := q12a
  have p13a : h1 (u + 13) = jI 16 (fun j9 => zI (M.tu j9)) := q13a
  refine jl_aload_n d_Md_valid_5 rfl rfl ?_
  refine jl_iconst (v := zI (0)) d_Md_valid_6 (by decide) ?_
  refine jl_invV (M' := m_Md_isValid) (d' := d - 1) (ck' := 0) (sk' := 0) (na := 1) (as := [.int (zI (0))]) (st := []) d_Md_valid_7 rfl p0a rfl mw_Md_87 ww_Md_isValid sw_Md_isValid nw_Md cw_Md_isValid rfl rfl rfl (by decide +kernel) (by omega) (Nat.le_of_ble_eq_true rfl) (Nat.le_of_ble_eq_true rfl) ?_
  refine k_M_isValid hl9 (by omega) hM1 ok ⟨by decide, by decide⟩ hpe (fun g hg => ?_)
  show jl_AW _ _ _ _ _ 10 [some (.ref (u))] [.int (zI (g))] n h1 _ _
  exact jl_zret d_Md_valid_10 rfl (by rcases hg with ⟨h8, -⟩ | ⟨h8, -⟩ <;> subst h8 <;> decide) (hk g hg h1 hM1 hf1)
set_option maxHeartbeats 4000000 in
set_option maxRecDepth 100000 in
theorem k_M_balls {l : Launch} {G : jl_G} {d n : Nat} {h : Nat → va_E} {Kr : Option Value → Nat → (Nat → va_E) → Prop} {Kx : String → Nat → (Nat → va_E) → Prop} (hl9 : l.stackTraces = false) (hdd : 4 ≤ d) {u : Nat} {M : MS} (hM9 : jM h u M) (ok : mOk M) (hpe : 1 ≤ M.pe (0 : Int).toNat) (hk1 : sp_ev (M.mo (0 : Int).toNat) (M.pe (0 : Int).toNat) (hM M 0) (cM M 0) (xM M 0) → ∀ h', jM h' u (M.wT 0) → jfr h h' u (u + 14) → Kr (some (.int (zI (sp_balls (M.pe (0 : Int).toNat) (hM M 0) (cM M 0))))) n h') (hk0 : ¬ sp_ev (M.mo (0 : Int).toNat) (M.pe (0 : Int).toNat) (hM M 0) (cM M 0) (xM M 0) → ∀ h', jM h' u (M.wT 1) → jfr h h' u (u + 14) → Kr (some (.int (zI (0)))) n h') : jl_Call l G m_Md_balls d [.ref (u)] n h 0 0 Kr Kx := by
  refine jl_enter hl9 (by decide) rfl (by simp [Value.category]) (Nat.le_of_ble_eq_true rfl) ?_
  show jl_AW l G (jl_F G Kr Kx) m_Md_balls d 0 [some (.ref (u))] [] n h 0 0
  obtain ⟨q0, q1, q2, q3, q4, q5, q6, q7, q8, q9, q10, q11, q12, q13⟩ := id (hM9)
  have p0 : h u = jO 6 [.int (zI (M.T)), .ref (u + 1), .ref (u + 2), .ref (u + 3), .ref (u + 4), .ref (u + 5), .int (zI (M.jn)), .int (zI (M.ja)), .int (zI (M.jb)), .ref (u + 6), .ref (u + 7), .int (zI (M.nw)), .int (zI (M.bl)), .int (zI (M.lt)), .int (zI (M.rt)), .ref (u + 8), .ref (u + 9), .ref (u + 10), .ref (u + 11), .ref (u + 12), .ref (u + 13)] := q0
  have p1 : h (u + 1) = jI 8 (fun j9 => zI (M.mo j9)) := q1
  have p2 : h (u + 2) = jI 8 (fun j9 => zI (M.pe j9)) := q2
  have p3 : h (u + 3) = jI 128 (fun j9 => zI (M.co j9)) := q3
  have p4 : h (u + 4) = jI 384 (fun j9 => zI (M.he j9)) := q4
  have p5 : h (u + 5) = jZ 128 (fun j9 => zI (M.cr j9)) := q5
  have p6 : h (u + 6) = jI 16 (fun j9 => zI (M.wy j9)) := q6
  have p7 : h (u + 7) = jI 512 (fun j9 => zI (M.fa j9)) := q7
  have p8 : h (u + 8) = jI 32 (fun j9 => zI (M.la j9)) := q8
  have p9 : h (u + 9) = jI 32 (fun j9 => zI (M.ha j9)) := q9
  have p10 : h (u + 10) = jI 4096 (fun j9 => zI (M.w1 j9)) := q10
  have p11 : h (u + 11) = jI 4096 (fun j9 => zI (M.mr j9)) := q11
  have p12 : h (u + 12) = jI 6 (fun j9 => zI (M.rw j9)) := q12
  have p13 : h (u + 13) = jI 16 (fun j9 => zI (M.tu j9)) := q13
  refine jl_aload_n d_Md_balls_0 rfl rfl ?_
  refine jl_iconst (v := zI (0)) d_Md_balls_1 (by decide) ?_
  refine jp_6 (q := 0) (ty := .int) d_Md_balls_2 p0 (by simp) (by decide) fw_Md_58 rfl (by decide +kernel) (fun _ _ => rfl) (fun _ _ => rfl) (fun h1 eh1 => ?_)
  have eh1 : h1 = va_up h (u) (jO 6 [.int (zI (0)), .ref (u + 1), .ref (u + 2), .ref (u + 3), .ref (u + 4), .ref (u + 5), .int (zI (M.jn)), .int (zI (M.ja)), .int (zI (M.jb)), .ref (u + 6), .ref (u + 7), .int (zI (M.nw)), .int (zI (M.bl)), .int (zI (M.lt)), .int (zI (M.rt)), .ref (u + 8), .ref (u + 9), .ref (u + 10), .ref (u + 11), .ref (u + 12), .ref (u + 13)]) := eh1
  have jf2 : h1 (u) = jO 6 [.int (zI (0)), .ref (u + 1), .ref (u + 2), .ref (u + 3), .ref (u + 4), .ref (u + 5), .int (zI (M.jn)), .int (zI (M.ja)), .int (zI (M.jb)), .ref (u + 6), .ref (u + 7), .int (zI (M.nw)), .int (zI (M.bl)), .int (zI (M.lt)), .int (zI (M.rt)), .ref (u + 8), .ref (u + 9), .ref (u + 10), .ref (u + 11), .ref (u + 12), .ref (u + 13)] := by rw [eh1, va_up_self]
  have jf3 : h1 (u + 1) = jI 8 (fun j9 => zI (M.mo j9)) := by rw [eh1, va_up_ne _ _ (by omega)]; exact p1
  have jf4 : h1 (u + 2) = jI 8 (fun j9 => zI (M.pe j9)) := by rw [eh1, va_up_ne _ _ (by omega)]; exact p2
  have jf5 : h1 (u + 3) = jI 128 (fun j9 => zI (M.co j9)) := by rw [eh1, va_up_ne _ _ (by omega)]; exact p3
  have jf6 : h1 (u + 4) = jI 384 (fun j9 => zI (M.he j9)) := by rw [eh1, va_up_ne _ _ (by omega)]; exact p4
  have jf7 : h1 (u + 5) = jZ 128 (fun j9 => zI (M.cr j9)) := by rw [eh1, va_up_ne _ _ (by omega)]; exact p5
  have jf8 : h1 (u + 6) = jI 16 (fun j9 => zI (M.wy j9)) := by rw [eh1, va_up_ne _ _ (by omega)]; exact p6
  have jf9 : h1 (u + 7) = jI 512 (fun j9 => zI (M.fa j9)) := by rw [eh1, va_up_ne _ _ (by omega)]; exact p7
  have jf10 : h1 (u + 8) = jI 32 (fun j9 => zI (M.la j9)) := by rw [eh1, va_up_ne _ _ (by omega)]; exact p8
  have jf11 : h1 (u + 9) = jI 32 (fun j9 => zI (M.ha j9)) := by rw [eh1, va_up_ne _ _ (by omega)]; exact p9
  have jf12 : h1 (u + 10) = jI 4096 (fun j9 => zI (M.w1 j9)) := by rw [eh1, va_up_ne _ _ (by omega)]; exact p10
  have jf13 : h1 (u + 11) = jI 4096 (fun j9 => zI (M.mr j9)) := by rw [eh1, va_up_ne _ _ (by omega)]; exact p11
  have jf14 : h1 (u + 12) = jI 6 (fun j9 => zI (M.rw j9)) := by rw [eh1, va_up_ne _ _ (by omega)]; exact p12
  have jf15 : h1 (u + 13) = jI 16 (fun j9 => zI (M.tu j9)) := by rw [eh1, va_up_ne _ _ (by omega)]; exact p13
  have hM1 : jM h1 u (M.wT 0) := ⟨jf2, jf3, jf4, jf5, jf6, jf7, jf8, jf9, jf10, jf11, jf12, jf13, jf14, jf15⟩
  have hf1 : jfr h h1 u (u + 14) := (fun y hy => by rw [eh1, va_up_ne _ _ (by omega)])
  obtain ⟨q0a, q1a, q2a, q3a, q4a, q5a, q6a, q7a, q8a, q9a, q10a, q11a, q12a, q13a⟩ := id (hM1)
  have p0a : h1 u = jO 6 [.int (zI (0)), .ref (u + 1), .ref (u + 2), .ref (u + 3), .ref (u + 4), .ref (u + 5), .int (zI (M.jn)), .int (zI (M.ja)), .int (zI (M.jb)), .ref (u + 6), .ref (u + 7), .int (zI (M.nw)), .int (zI (M.bl)), .int (zI (M.lt)), .int (zI (M.rt)), .ref (u + 8), .ref (u + 9), .ref (u + 10), .ref (u + 11), .ref (u + 12), .ref (u + 13)] := q0a
  have p1a : h1 (u + 1) = jI 8 (fun j9 => zI (M.mo j9)) := q1a
  have p2a : h1 (u + 2) = jI 8 (fun j9 => zI (M.pe j9)) := q2a
  have p3a : h1 (u + 3) = jI 128 (fun j9 => zI (M.co j9)) := q3a
  have p4a : h1 (u + 4) = jI 384 (fun j9 => zI (M.he j9)) := q4a
  have p5a : h1 (u + 5) = jZ 128 (fun j9 => zI (M.cr j9)) := q5a
  have p6a : h1 (u + 6) = jI 16 (fun j9 => zI (M.wy j9)) := q6a
  have p7a : h1 (u + 7) = jI 512 (fun j9 => zI (M.fa j9)) := q7a
  have p8a : h1 (u + 8) = jI 32 (fun j9 => zI (M.la j9)) := q8a
  have p9a : h1 (u + 9) = jI 32 (fun j9 => zI (M.ha j9)) := q9a
  have p10a : h1 (u + 10) = jI 4096 (fun j9 => zI (M.w1 j9)) := q10a
  have p11a : h1 (u + 11) = jI 4096 (fun j9 => zI (M.mr j9)) := q11a
  have p12a : h1 (u + 12) = jI 6 (fun j9 => zI (M.rw j9)) := q12a
  have p13a : h1 (u + 13) = jI 16 (fun j9 => zI (M.tu j9)) := q13a
  refine jl_aload_n d_Md_balls_5 rfl rfl ?_
  refine jl_iconst (v := zI (0)) d_Md_balls_6 (by decide) ?_
  refine jl_invV (M' := m_Md_isValid) (d' := d - 1) (ck' := 0) (sk' := 0) (na := 1) (as := [.int (zI (0))]) (st := []) d_Md_balls_7 rfl p0a rfl mw_Md_87 ww_Md_isValid sw_Md_isValid nw_Md cw_Md_isValid rfl rfl rfl (by decide +kernel) (by omega) (Nat.le_of_ble_eq_true rfl) (Nat.le_of_ble_eq_true rfl) ?_
  refine k_M_isValid hl9 (by omega) hM1 ok ⟨by decide, by decide⟩ hpe (fun g hg => ?_)
  show jl_AW _ _ _ _ _ 10 [some (.ref (u))] [.int (zI (g))] n h1 _ _
  have hg8 := sp_is_rg hg
  refine jz_if_eq (tgt := 21) d_Md_balls_10 (by decide) ⟨by omega, by omega⟩ (fun q1 => ?_) (fun q1 => ?_)
  · refine jl_aload_n d_Md_balls_21 rfl rfl ?_
    refine jl_iconst (v := zI (1)) d_Md_balls_22 (by decide) ?_
    refine jl_invV (M' := m_Md_fail) (d' := d - 1) (ck' := 0) (sk' := 0) (na := 1) (as := [.int (zI (1))]) (st := []) d_Md_balls_23 rfl p0a rfl mw_Md_65 ww_Md_fail sw_Md_fail nw_Md cw_Md_fail rfl rfl rfl (by decide +kernel) (by omega) (Nat.le_of_ble_eq_true rfl) (Nat.le_of_ble_eq_true rfl) ?_
    refine k_M_fail hl9 (by omega) hM1 (fun h2 hM2 hf2 => ?_)
    show jl_AW _ _ _ _ _ 26 [some (.ref (u))] [.int (zI (0))] n h2 _ _
    exact jl_iret d_Md_balls_26 rfl (hk0 (by rcases hg with ⟨h8, -⟩ | ⟨-, h8⟩; omega; exact h8) h2 hM2 (jfr_tr hf1 hf2))
  · refine jl_aload_n d_Md_balls_13 rfl rfl ?_
    refine jl_iconst (v := zI (0)) d_Md_balls_14 (by decide) ?_
    refine jl_invV (M' := m_Md_ballsOf) (d' := d - 1) (ck' := 0) (sk' := 0) (na := 1) (as := [.int (zI (0))]) (st := []) d_Md_balls_15 rfl p0a rfl mw_Md_90 ww_Md_ballsOf sw_Md_ballsOf nw_Md cw_Md_ballsOf rfl rfl rfl (by decide +kernel) (by omega) (Nat.le_of_ble_eq_true rfl) (Nat.le_of_ble_eq_true rfl) ?_
    refine k_M_ballsOf hl9 (by omega) hM1 ok ⟨by decide, by decide⟩ hpe ?_
    show jl_AW _ _ _ _ _ 18 [some (.ref (u))] [.int (zI (sp_balls (M.pe (0 : Int).toNat) (hM M 0) (cM M 0)))] n h1 _ _
    refine jl_goto (tgt := 26) d_Md_balls_18 (by decide) ?_
    exact jl_iret d_Md_balls_26 rfl (hk1 (by rcases hg with ⟨-, h8⟩ | ⟨h8, -⟩; exact h8; omega) h1 hM1 hf1)
set_option maxHeartbeats 4000000 in
set_option maxRecDepth 100000 in
theorem k_M_state {l : Launch} {G : jl_G} {d n : Nat} {h : Nat → va_E} {Kr : Option Value → Nat → (Nat → va_E) → Prop} {Kx : String → Nat → (Nat → va_E) → Prop} (hl9 : l.stackTraces = false) (hdd : 4 ≤ d) {u : Nat} {M : MS} {a : Int} (hM9 : jM h u M) (ok : mOk M) (hpe : 1 ≤ M.pe (0 : Int).toNat) (ha : zR a) (hk0 : (M.mo (0 : Int).toNat = 0 ∧ sp_ev (M.mo (0 : Int).toNat) (M.pe (0 : Int).toNat) (hM M 0) (cM M 0) (xM M 0)) → 0 ≤ a ∧ a < M.pe (0 : Int).toNat → ∀ h', jM h' u (M.wT 0) → jfr h h' u (u + 14) → Kr (some (.int (zI (sp_st (M.pe (0 : Int).toNat) (hM M 0) a)))) n h') (hk1 : ¬ (M.mo (0 : Int).toNat = 0 ∧ sp_ev (M.mo (0 : Int).toNat) (M.pe (0 : Int).toNat) (hM M 0) (cM M 0) (xM M 0)) → ∀ h', jM h' u (M.wT 1) → jfr h h' u (u + 14) → Kr (some (.int (zI (0)))) n h') (hk2 : (M.mo (0 : Int).toNat = 0 ∧ sp_ev (M.mo (0 : Int).toNat) (M.pe (0 : Int).toNat) (hM M 0) (cM M 0) (xM M 0)) → ¬ (0 ≤ a ∧ a < M.pe (0 : Int).toNat) → ∀ h', jM h' u (M.wT 2) → jfr h h' u (u + 14) → Kr (some (.int (zI (0)))) n h') : jl_Call l G m_Md_state d [.ref (u), .int (zI (a))] n h 0 0 Kr Kx := by
  refine jl_enter hl9 (by decide) rfl (by simp [Value.category]) (Nat.le_of_ble_eq_true rfl) ?_
  show jl_AW l G (jl_F G Kr Kx) m_Md_state d 0 [some (.ref (u)), some (.int (zI (a)))] [] n h 0 0
  have hm0 := ok.1 (0 : Int).toNat
  have hp0 := ok.2.1 (0 : Int).toNat
  obtain ⟨q0, q1, q2, q3, q4, q5, q6, q7, q8, q9, q10, q11, q12, q13⟩ := id (hM9)
  have p0 : h u = jO 6 [.int (zI (M.T)), .ref (u + 1), .ref (u + 2), .ref (u + 3), .ref (u + 4), .ref (u + 5), .int (zI (M.jn)), .int (zI (M.ja)), .int (zI (M.jb)), .ref (u + 6), .ref (u + 7), .int (zI (M.nw)), .int (zI (M.bl)), .int (zI (M.lt)), .int (zI (M.rt)), .ref (u + 8), .ref (u + 9), .ref (u + 10), .ref (u + 11), .ref (u + 12), .ref (u + 13)] := q0
  have p1 : h (u + 1) = jI 8 (fun j9 => zI (M.mo j9)) := q1
  have p2 : h (u + 2) = jI 8 (fun j9 => zI (M.pe j9)) := q2
  have p3 : h (u + 3) = jI 128 (fun j9 => zI (M.co j9)) := q3
  have p4 : h (u + 4) = jI 384 (fun j9 => zI (M.he j9)) := q4
  have p5 : h (u + 5) = jZ 128 (fun j9 => zI (M.cr j9)) := q5
  have p6 : h (u + 6) = jI 16 (fun j9 => zI (M.wy j9)) := q6
  have p7 : h (u + 7) = jI 512 (fun j9 => zI (M.fa j9)) := q7
  have p8 : h (u + 8) = jI 32 (fun j9 => zI (M.la j9)) := q8
  have p9 : h (u + 9) = jI 32 (fun j9 => zI (M.ha j9)) := q9
  have p10 : h (u + 10) = jI 4096 (fun j9 => zI (M.w1 j9)) := q10
  have p11 : h (u + 11) = jI 4096 (fun j9 => zI (M.mr j9)) := q11
  have p12 : h (u + 12) = jI 6 (fun j9 => zI (M.rw j9)) := q12
  have p13 : h (u + 13) = jI 16 (fun j9 => zI (M.tu j9)) := q13
  refine jl_aload_n d_Md_state_0 rfl rfl ?_
  refine jl_iconst (v := zI (0)) d_Md_state_1 (by decide) ?_
  refine jp_6 (q := 0) (ty := .int) d_Md_state_2 p0 (by simp) (by decide) fw_Md_58 rfl (by decide +kernel) (fun _ _ => rfl) (fun _ _ => rfl) (fun h1 eh1 => ?_)
  have eh1 : h1 = va_up h (u) (jO 6 [.int (zI (0)), .ref (u + 1), .ref (u + 2), .ref (u + 3), .ref (u + 4), .ref (u + 5), .int (zI (M.jn)), .int (zI (M.ja)), .int (zI (M.jb)), .ref (u + 6), .ref (u + 7), .int (zI (M.nw)), .int (zI (M.bl)), .int (zI (M.lt)), .int (zI (M.rt)), .ref (u + 8), .ref (u + 9), .ref (u + 10), .ref (u + 11), .ref (u + 12), .ref (u + 13)]) := eh1
  have jf2 : h1 (u) = jO 6 [.int (zI (0)), .ref (u + 1), .ref (u + 2), .ref (u + 3), .ref (u + 4), .ref (u + 5), .int (zI (M.jn)), .int (zI (M.ja)), .int (zI (M.jb)), .ref (u + 6), .ref (u + 7), .int (zI (M.nw)), .int (zI (M.bl)), .int (zI (M.lt)), .int (zI (M.rt)), .ref (u + 8), .ref (u + 9), .ref (u + 10), .ref (u + 11), .ref (u + 12), .ref (u + 13)] := by rw [eh1, va_up_self]
  have jf3 : h1 (u + 1) = jI 8 (fun j9 => zI (M.mo j9)) := by rw [eh1, va_up_ne _ _ (by omega)]; exact p1
  have jf4 : h1 (u + 2) = jI 8 (fun j9 => zI (M.pe j9)) := by rw [eh1, va_up_ne _ _ (by omega)]; exact p2
  have jf5 : h1 (u + 3) = jI 128 (fun j9 => zI (M.co j9)) := by rw [eh1, va_up_ne _ _ (by omega)]; exact p3
  have jf6 : h1 (u + 4) = jI 384 (fun j9 => zI (M.he j9)) := by rw [eh1, va_up_ne _ _ (by omega)]; exact p4
  have jf7 : h1 (u + 5) = jZ 128 (fun j9 => zI (M.cr j9)) := by rw [eh1, va_up_ne _ _ (by omega)]; exact p5
  have jf8 : h1 (u + 6) = jI 16 (fun j9 => zI (M.wy j9)) := by rw [eh1, va_up_ne _ _ (by omega)]; exact p6
  have jf9 : h1 (u + 7) = jI 512 (fun j9 => zI (M.fa j9)) := by rw [eh1, va_up_ne _ _ (by omega)]; exact p7
  have jf10 : h1 (u + 8) = jI 32 (fun j9 => zI (M.la j9)) := by rw [eh1, va_up_ne _ _ (by omega)]; exact p8
  have jf11 : h1 (u + 9) = jI 32 (fun j9 => zI (M.ha j9)) := by rw [eh1, va_up_ne _ _ (by omega)]; exact p9
  have jf12 : h1 (u + 10) = jI 4096 (fun j9 => zI (M.w1 j9)) := by rw [eh1, va_up_ne _ _ (by omega)]; exact p10
  have jf13 : h1 (u + 11) = jI 4096 (fun j9 => zI (M.mr j9)) := by rw [eh1, va_up_ne _ _ (by omega)]; exact p11
  have jf14 : h1 (u + 12) = jI 6 (fun j9 => zI (M.rw j9)) := by rw [eh1, va_up_ne _ _ (by omega)]; exact p12
  have jf15 : h1 (u + 13) = jI 16 (fun j9 => zI (M.tu j9)) := by rw [eh1, va_up_ne _ _ (by omega)]; exact p13
  have hM1 : jM h1 u (M.wT 0) := ⟨jf2, jf3, jf4, jf5, jf6, jf7, jf8, jf9, jf10, jf11, jf12, jf13, jf14, jf15⟩
  have hf1 : jfr h h1 u (u + 14) := (fun y hy => by rw [eh1, va_up_ne _ _ (by omega)])
  obtain ⟨q0a, q1a, q2a, q3a, q4a, q5a, q6a, q7a, q8a, q9a, q10a, q11a, q12a, q13a⟩ := id (hM1)
  have p0a : h1 u = jO 6 [.int (zI (0)), .ref (u + 1), .ref (u + 2), .ref (u + 3), .ref (u + 4), .ref (u + 5), .int (zI (M.jn)), .int (zI (M.ja)), .int (zI (M.jb)), .ref (u + 6), .ref (u + 7), .int (zI (M.nw)), .int (zI (M.bl)), .int (zI (M.lt)), .int (zI (M.rt)), .ref (u + 8), .ref (u + 9), .ref (u + 10), .ref (u + 11), .ref (u + 12), .ref (u + 13)] := q0a
  have p1a : h1 (u + 1) = jI 8 (fun j9 => zI (M.mo j9)) := q1a
  have p2a : h1 (u + 2) = jI 8 (fun j9 => zI (M.pe j9)) := q2a
  have p3a : h1 (u + 3) = jI 128 (fun j9 => zI (M.co j9)) := q3a
  have p4a : h1 (u + 4) = jI 384 (fun j9 => zI (M.he j9)) := q4a
  have p5a : h1 (u + 5) = jZ 128 (fun j9 => zI (M.cr j9)) := q5a
  have p6a : h1 (u + 6) = jI 16 (fun j9 => zI (M.wy j9)) := q6a
  have p7a : h1 (u + 7) = jI 512 (fun j9 => zI (M.fa j9)) := q7a
  have p8a : h1 (u + 8) = jI 32 (fun j9 => zI (M.la j9)) := q8a
  have p9a : h1 (u + 9) = jI 32 (fun j9 => zI (M.ha j9)) := q9a
  have p10a : h1 (u + 10) = jI 4096 (fun j9 => zI (M.w1 j9)) := q10a
  have p11a : h1 (u + 11) = jI 4096 (fun j9 => zI (M.mr j9)) := q11a
  have p12a : h1 (u + 12) = jI 6 (fun j9 => zI (M.rw j9)) := q12a
  have p13a : h1 (u + 13) = jI 16 (fun j9 => zI (M.tu j9)) := q13a
  refine jl_aload_n d_Md_state_5 rfl rfl ?_
  refine jg_6 (q := 1) d_Md_state_6 p0a rfl (by decide) fw_Md_7 ?_
  refine jl_iconst (v := zI (0)) d_Md_state_9 (by decide) ?_
  refine jz_iald d_Md_state_10 p1a (by omega) (by omega) (by omega) ?_
  refine jz_if_ne (tgt := 22) d_Md_state_11 (by decide) ⟨by omega, by omega⟩ (fun q1 => ?_) (fun q1 => ?_)
  · refine jl_aload_n d_Md_state_22 rfl rfl ?_
    refine jl_iconst (v := zI (1)) d_Md_state_23 (by decide) ?_
    refine jl_invV (M' := m_Md_fail) (d' := d - 1) (ck' := 0) (sk' := 0) (na := 1) (as := [.int (zI (1))]) (st := []) d_Md_state_24 rfl p0a rfl mw_Md_65 ww_Md_fail sw_Md_fail nw_Md cw_Md_fail rfl rfl rfl (by decide +kernel) (by omega) (Nat.le_of_ble_eq_true rfl) (Nat.le_of_ble_eq_true rfl) ?_
    refine k_M_fail hl9 (by omega) hM1 (fun h2 hM2 hf2 => ?_)
    show jl_AW _ _ _ _ _ 27 [some (.ref (u)), some (.int (zI (a)))] [.int (zI (0))] n h2 _ _
    exact jl_iret d_Md_state_27 rfl (hk1 (fun q => q1 q.1) h2 hM2 (jfr_tr hf1 hf2))
  · refine jl_aload_n d_Md_state_14 rfl rfl ?_
    refine jl_iconst (v := zI (0)) d_Md_state_15 (by decide) ?_
    refine jl_invV (M' := m_Md_isValid) (d' := d - 1) (ck' := 0) (sk' := 0) (na := 1) (as := [.int (zI (0))]) (st := []) d_Md_state_16 rfl p0a rfl mw_Md_87 ww_Md_isValid sw_Md_isValid nw_Md cw_Md_isValid rfl rfl rfl (by decide +kernel) (by omega) (Nat.le_of_ble_eq_true rfl) (Nat.le_of_ble_eq_true rfl) ?_
    refine k_M_isValid hl9 (by omega) hM1 ok ⟨by decide, by decide⟩ hpe (fun g hg => ?_)
    show jl_AW _ _ _ _ _ 19 [some (.ref (u)), some (.int (zI (a)))] [.int (zI (g))] n h1 _ _
    have hg8 := sp_is_rg hg
    refine jz_if_ne (tgt := 28) d_Md_state_19 (by decide) ⟨by omega, by omega⟩ (fun q2 => ?_) (fun q2 => ?_)
    · have hv : M.mo (0 : Int).toNat = 0 ∧ sp_ev (M.mo (0 : Int).toNat) (M.pe (0 : Int).toNat) (hM M 0) (cM M 0) (xM M 0) := ⟨q1, by rcases hg with ⟨-, h8⟩ | ⟨h8, -⟩; exact h8; omega⟩
      refine jl_aload_n d_Md_state_28 rfl rfl ?_
      refine jl_iload_n d_Md_state_29 rfl rfl ?_
      refine jl_invV (M' := m_Md_noSite) (d' := d - 1) (ck' := 0) (sk' := 0) (na := 1) (as := [.int (zI (a))]) (st := []) d_Md_state_30 rfl p0a rfl mw_Md_69 ww_Md_noSite sw_Md_noSite nw_Md cw_Md_noSite rfl rfl rfl (by decide +kernel) (by omega) (Nat.le_of_ble_eq_true rfl) (Nat.le_of_ble_eq_true rfl) ?_
      refine k_M_noSite hl9 (by omega) hM1 ok ha (fun i1 => ?_) (fun i1 => ?_)
      · show jl_AW _ _ _ _ _ 33 [some (.ref (u)), some (.int (zI (a)))] [.int (zI (0))] n h1 _ _
        refine jz_if_eq (tgt := 44) d_Md_state_33 (by decide) ⟨by decide, by decide⟩ (fun _ => ?_) (fun q9 => absurd q9 (by decide))
        have i1 : 0 ≤ a ∧ a < M.pe (0 : Int).toNat := i1
        refine jl_aload_n d_Md_state_44 rfl rfl ?_
        refine jl_iconst (v := zI (0)) d_Md_state_45 (by decide) ?_
        refine jl_iload_n d_Md_state_46 rfl rfl ?_
        refine jl_invV (M' := m_Md_stateOf) (d' := d - 1) (ck' := 0) (sk' := 0) (na := 2) (as := [.int (zI (0)), .int (zI (a))]) (st := []) d_Md_state_47 rfl p0a rfl mw_Md_93 ww_Md_stateOf sw_Md_stateOf nw_Md cw_Md_stateOf rfl rfl rfl (by decide +kernel) (by omega) (Nat.le_of_ble_eq_true rfl) (Nat.le_of_ble_eq_true rfl) ?_
        refine k_M_stateOf hl9 (by omega) hM1 ok ⟨by decide, by decide⟩ hpe ⟨by omega, by omega⟩ ?_
        show jl_AW _ _ _ _ _ 50 [some (.ref (u)), some (.int (zI (a)))] [.int (zI (sp_st (M.pe (0 : Int).toNat) (hM M 0) a))] n h1 _ _
        exact jl_iret d_Md_state_50 rfl (hk0 hv i1 h1 hM1 hf1)
      · show jl_AW _ _ _ _ _ 33 [some (.ref (u)), some (.int (zI (a)))] [.int (zI (1))] n h1 _ _
        refine jz_if_eq (tgt := 44) d_Md_state_33 (by decide) ⟨by decide, by decide⟩ (fun q9 => absurd q9 (by decide)) (fun _ => ?_)
        have i1 : ¬ (0 ≤ a ∧ a < M.pe (0 : Int).toNat) := i1
        refine jl_aload_n d_Md_state_36 rfl rfl ?_
        refine jl_iconst (v := zI (2)) d_Md_state_37 (by decide) ?_
        refine jl_invV (M' := m_Md_fail) (d' := d - 1) (ck' := 0) (sk' := 0) (na := 1) (as := [.int (zI (2))]) (st := []) d_Md_state_38 rfl p0a rfl mw_Md_65 ww_Md_fail sw_Md_fail nw_Md cw_Md_fail rfl rfl rfl (by decide +kernel) (by omega) (Nat.le_of_ble_eq_true rfl) (Nat.le_of_ble_eq_true rfl) ?_
        refine k_M_fail hl9 (by omega) hM1 (fun h2 hM2 hf2 => ?_)
        show jl_AW _ _ _ _ _ 41 [some (.ref (u)), some (.int (zI (a)))] [.int (zI (0))] n h2 _ _
        refine jl_goto (tgt := 50) d_Md_state_41 (by decide) ?_
        exact jl_iret d_Md_state_50 rfl (hk2 hv i1 h2 hM2 (jfr_tr hf1 hf2))
    · refine jl_aload_n d_Md_state_22 rfl rfl ?_
      refine jl_iconst (v := zI (1)) d_Md_state_23 (by decide) ?_
      refine jl_invV (M' := m_Md_fail) (d' := d - 1) (ck' := 0) (sk' := 0) (na := 1) (as := [.int (zI (1))]) (st := []) d_Md_state_24 rfl p0a rfl mw_Md_65 ww_Md_fail sw_Md_fail nw_Md cw_Md_fail rfl rfl rfl (by decide +kernel) (by omega) (Nat.le_of_ble_eq_true rfl) (Nat.le_of_ble_eq_true rfl) ?_
      refine k_M_fail hl9 (by omega) hM1 (fun h2 hM2 hf2 => ?_)
      show jl_AW _ _ _ _ _ 27 [some (.ref (u)), some (.int (zI (a)))] [.int (zI (0))] n h2 _ _
      exact jl_iret d_Md_state_27 rfl (hk1 (fun q => by rcases hg with ⟨h8, -⟩ | ⟨-, h8⟩; omega; exact h8 q.2) h2 hM2 (jfr_tr hf1 hf2))
set_option maxHeartbeats 4000000 in
set_option maxRecDepth 100000 in
theorem k_M_swap {l : Launch} {G : jl_G} {d n : Nat} {h : Nat → va_E} {Kr : Option Value → Nat → (Nat → va_E) → Prop} {Kx : String → Nat → (Nat → va_E) → Prop} (hl9 : l.stackTraces = false) (hdd : 2 ≤ d) {u : Nat} {M : MS} {a b : Int} (hM9 : jM h u M) (ok : mOk M) (ha : zR a) (hb : zR b) (hk0 : M.mo (0 : Int).toNat = 0 → (0 ≤ a ∧ a < M.pe (0 : Int).toNat) ∧ (0 ≤ b ∧ b < M.pe (0 : Int).toNat) → (0 ≤ b + hM M 0 (b * 3 + 0).toNat - a ∧ b + hM M 0 (b * 3 + 0).toNat - a ≤ 9) ∧ (0 ≤ a + hM M 0 (a * 3 + 0).toNat - b ∧ a + hM M 0 (a * 3 + 0).toNat - b ≤ 9) → ∀ h', jM h' u ((M.wT 0).whe (va_up (va_up M.he (a * 3).toNat (b + hM M 0 (b * 3 + 0).toNat - a)) (b * 3).toNat (a + hM M 0 (a * 3 + 0).toNat - b))) → jfr h h' u (u + 14) → Kr (some (.int (zI (1)))) n h') (hk1 : ¬ M.mo (0 : Int).toNat = 0 → ∀ h', jM h' u (M.wT 1) → jfr h h' u (u + 14) → Kr (some (.int (zI (0)))) n h') (hk2 : M.mo (0 : Int).toNat = 0 → ¬ ((0 ≤ a ∧ a < M.pe (0 : Int).toNat) ∧ (0 ≤ b ∧ b < M.pe (0 : Int).toNat)) → ∀ h', jM h' u (M.wT 2) → jfr h h' u (u + 14) → Kr (some (.int (zI (0)))) n h') (hk3 : M.mo (0 : Int).toNat = 0 → (0 ≤ a ∧ a < M.pe (0 : Int).toNat) ∧ (0 ≤ b ∧ b < M.pe (0 : Int).toNat) → ¬ ((0 ≤ b + hM M 0 (b * 3 + 0).toNat - a ∧ b + hM M 0 (b * 3 + 0).toNat - a ≤ 9) ∧ (0 ≤ a + hM M 0 (a * 3 + 0).toNat - b ∧ a + hM M 0 (a * 3 + 0).toNat - b ≤ 9)) → ∀ h', jM h' u (M.wT 0) → jfr h h' u (u + 14) → Kr (some (.int (zI (0)))) n h') : jl_Call l G m_Md_swap d [.ref (u), .int (zI (a)), .int (zI (b))] n h 0 0 Kr Kx := by
  refine jl_enter hl9 (by decide) rfl (by simp [Value.category]) (Nat.le_of_ble_eq_true rfl) ?_
  show jl_AW l G (jl_F G Kr Kx) m_Md_swap d 0 [some (.ref (u)), some (.int (zI (a))), some (.int (zI (b))), none, none] [] n h 0 0
  have hm0 := ok.1 (0 : Int).toNat
  have hp0 := ok.2.1 (0 : Int).toNat
  obtain ⟨q0, q1, q2, q3, q4, q5, q6, q7, q8, q9, q10, q11, q12, q13⟩ := id (hM9)
  have p0 : h u = jO 6 [.int (zI (M.T)), .ref (u + 1), .ref (u + 2), .ref (u + 3), .ref (u + 4), .ref (u + 5), .int (zI (M.jn)), .int (zI (M.ja)), .int (zI (M.jb)), .ref (u + 6), .ref (u + 7), .int (zI (M.nw)), .int (zI (M.bl)), .int (zI (M.lt)), .int (zI (M.rt)), .ref (u + 8), .ref (u + 9), .ref (u + 10), .ref (u + 11), .ref (u + 12), .ref (u + 13)] := q0
  have p1 : h (u + 1) = jI 8 (fun j9 => zI (M.mo j9)) := q1
  have p2 : h (u + 2) = jI 8 (fun j9 => zI (M.pe j9)) := q2
  have p3 : h (u + 3) = jI 128 (fun j9 => zI (M.co j9)) := q3
  have p4 : h (u + 4) = jI 384 (fun j9 => zI (M.he j9)) := q4
  have p5 : h (u + 5) = jZ 128 (fun j9 => zI (M.cr j9)) := q5
  have p6 : h (u + 6) = jI 16 (fun j9 => zI (M.wy j9)) := q6
  have p7 : h (u + 7) = jI 512 (fun j9 => zI (M.fa j9)) := q7
  have p8 : h (u + 8) = jI 32 (fun j9 => zI (M.la j9)) := q8
  have p9 : h (u + 9) = jI 32 (fun j9 => zI (M.ha j9)) := q9
  have p10 : h (u + 10) = jI 4096 (fun j9 => zI (M.w1 j9)) := q10
  have p11 : h (u + 11) = jI 4096 (fun j9 => zI (M.mr j9)) := q11
  have p12 : h (u + 12) = jI 6 (fun j9 => zI (M.rw j9)) := q12
  have p13 : h (u + 13) = jI 16 (fun j9 => zI (M.tu j9)) := q13
  refine jl_aload_n d_Md_swap_0 rfl rfl ?_
  refine jl_iconst (v := zI (0)) d_Md_swap_1 (by decide) ?_
  refine jp_6 (q := 0) (ty := .int) d_Md_swap_2 p0 (by simp) (by decide) fw_Md_58 rfl (by decide +kernel) (fun _ _ => rfl) (fun _ _ => rfl) (fun h1 eh1 => ?_)
  have eh1 : h1 = va_up h (u) (jO 6 [.int (zI (0)), .ref (u + 1), .ref (u + 2), .ref (u + 3), .ref (u + 4), .ref (u + 5), .int (zI (M.jn)), .int (zI (M.ja)), .int (zI (M.jb)), .ref (u + 6), .ref (u + 7), .int (zI (M.nw)), .int (zI (M.bl)), .int (zI (M.lt)), .int (zI (M.rt)), .ref (u + 8), .ref (u + 9), .ref (u + 10), .ref (u + 11), .ref (u + 12), .ref (u + 13)]) := eh1
  have jf2 : h1 (u) = jO 6 [.int (zI (0)), .ref (u + 1), .ref (u + 2), .ref (u + 3), .ref (u + 4), .ref (u + 5), .int (zI (M.jn)), .int (zI (M.ja)), .int (zI (M.jb)), .ref (u + 6), .ref (u + 7), .int (zI (M.nw)), .int (zI (M.bl)), .int (zI (M.lt)), .int (zI (M.rt)), .ref (u + 8), .ref (u + 9), .ref (u + 10), .ref (u + 11), .ref (u + 12), .ref (u + 13)] := by rw [eh1, va_up_self]
  have jf3 : h1 (u + 1) = jI 8 (fun j9 => zI (M.mo j9)) := by rw [eh1, va_up_ne _ _ (by omega)]; exact p1
  have jf4 : h1 (u + 2) = jI 8 (fun j9 => zI (M.pe j9)) := by rw [eh1, va_up_ne _ _ (by omega)]; exact p2
  have jf5 : h1 (u + 3) = jI 128 (fun j9 => zI (M.co j9)) := by rw [eh1, va_up_ne _ _ (by omega)]; exact p3
  have jf6 : h1 (u + 4) = jI 384 (fun j9 => zI (M.he j9)) := by rw [eh1, va_up_ne _ _ (by omega)]; exact p4
  have jf7 : h1 (u + 5) = jZ 128 (fun j9 => zI (M.cr j9)) := by rw [eh1, va_up_ne _ _ (by omega)]; exact p5
  have jf8 : h1 (u + 6) = jI 16 (fun j9 => zI (M.wy j9)) := by rw [eh1, va_up_ne _ _ (by omega)]; exact p6
  have jf9 : h1 (u + 7) = jI 512 (fun j9 => zI (M.fa j9)) := by rw [eh1, va_up_ne _ _ (by omega)]; exact p7
  have jf10 : h1 (u + 8) = jI 32 (fun j9 => zI (M.la j9)) := by rw [eh1, va_up_ne _ _ (by omega)]; exact p8
  have jf11 : h1 (u + 9) = jI 32 (fun j9 => zI (M.ha j9)) := by rw [eh1, va_up_ne _ _ (by omega)]; exact p9
  have jf12 : h1 (u + 10) = jI 4096 (fun j9 => zI (M.w1 j9)) := by rw [eh1, va_up_ne _ _ (by omega)]; exact p10
  have jf13 : h1 (u + 11) = jI 4096 (fun j9 => zI (M.mr j9)) := by rw [eh1, va_up_ne _ _ (by omega)]; exact p11
  have jf14 : h1 (u + 12) = jI 6 (fun j9 => zI (M.rw j9)) := by rw [eh1, va_up_ne _ _ (by omega)]; exact p12
  have jf15 : h1 (u + 13) = jI 16 (fun j9 => zI (M.tu j9)) := by rw [eh1, va_up_ne _ _ (by omega)]; exact p13
  have hM1 : jM h1 u (M.wT 0) := ⟨jf2, jf3, jf4, jf5, jf6, jf7, jf8, jf9, jf10, jf11, jf12, jf13, jf14, jf15⟩
  have hf1 : jfr h h1 u (u + 14) := (fun y hy => by rw [eh1, va_up_ne _ _ (by omega)])
  obtain ⟨q0a, q1a, q2a, q3a, q4a, q5a, q6a, q7a, q8a, q9a, q10a, q11a, q12a, q13a⟩ := id (hM1)
  have p0a : h1 u = jO 6 [.int (zI (0)), .ref (u + 1), .ref (u + 2), .ref (u + 3), .ref (u + 4), .ref (u + 5), .int (zI (M.jn)), .int (zI (M.ja)), .int (zI (M.jb)), .ref (u + 6), .ref (u + 7), .int (zI (M.nw)), .int (zI (M.bl)), .int (zI (M.lt)), .int (zI (M.rt)), .ref (u + 8), .ref (u + 9), .ref (u + 10), .ref (u + 11), .ref (u + 12), .ref (u + 13)] := q0a
  have p1a : h1 (u + 1) = jI 8 (fun j9 => zI (M.mo j9)) := q1a
  have p2a : h1 (u + 2) = jI 8 (fun j9 => zI (M.pe j9)) := q2a
  have p3a : h1 (u + 3) = jI 128 (fun j9 => zI (M.co j9)) := q3a
  have p4a : h1 (u + 4) = jI 384 (fun j9 => zI (M.he j9)) := q4a
  have p5a : h1 (u + 5) = jZ 128 (fun j9 => zI (M.cr j9)) := q5a
  have p6a : h1 (u + 6) = jI 16 (fun j9 => zI (M.wy j9)) := q6a
  have p7a : h1 (u + 7) = jI 512 (fun j9 => zI (M.fa j9)) := q7a
  have p8a : h1 (u + 8) = jI 32 (fun j9 => zI (M.la j9)) := q8a
  have p9a : h1 (u + 9) = jI 32 (fun j9 => zI (M.ha j9)) := q9a
  have p10a : h1 (u + 10) = jI 4096 (fun j9 => zI (M.w1 j9)) := q10a
  have p11a : h1 (u + 11) = jI 4096 (fun j9 => zI (M.mr j9)) := q11a
  have p12a : h1 (u + 12) = jI 6 (fun j9 => zI (M.rw j9)) := q12a
  have p13a : h1 (u + 13) = jI 16 (fun j9 => zI (M.tu j9)) := q13a
  refine jl_aload_n d_Md_swap_5 rfl rfl ?_
  refine jg_6 (q := 1) d_Md_swap_6 p0a rfl (by decide) fw_Md_7 ?_
  refine jl_iconst (v := zI (0)) d_Md_swap_9 (by decide) ?_
  refine jz_iald d_Md_swap_10 p1a (by omega) (by omega) (by omega) ?_
  refine jz_if_eq (tgt := 28) d_Md_swap_11 (by decide) ⟨by omega, by omega⟩ (fun q1 => ?_) (fun q1 => ?_)
  · refine jl_aload_n d_Md_swap_28 rfl rfl ?_
    refine jl_iload_n d_Md_swap_29 rfl rfl ?_
    refine jl_invV (M' := m_Md_noSite) (d' := d - 1) (ck' := 0) (sk' := 0) (na := 1) (as := [.int (zI (a))]) (st := []) d_Md_swap_30 rfl p0a rfl mw_Md_69 ww_Md_noSite sw_Md_noSite nw_Md cw_Md_noSite rfl rfl rfl (by decide +kernel) (by omega) (Nat.le_of_ble_eq_true rfl) (Nat.le_of_ble_eq_true rfl) ?_
    refine k_M_noSite hl9 (by omega) hM1 ok ha (fun i1 => ?_) (fun i1 => ?_)
    · show jl_AW _ _ _ _ _ 33 [some (.ref (u)), some (.int (zI (a))), some (.int (zI (b))), none, none] [.int (zI (0))] n h1 _ _
      refine jz_if_ne (tgt := 44) d_Md_swap_33 (by decide) ⟨by decide, by decide⟩ (fun q9 => absurd q9 (by decide)) (fun _ => ?_)
      have i1 : 0 ≤ a ∧ a < M.pe (0 : Int).toNat := i1
      refine jl_aload_n d_Md_swap_36 rfl rfl ?_
      refine jl_iload_n d_Md_swap_37 rfl rfl ?_
      refine jl_invV (M' := m_Md_noSite) (d' := d - 1) (ck' := 0) (sk' := 0) (na := 1) (as := [.int (zI (b))]) (st := []) d_Md_swap_38 rfl p0a rfl mw_Md_69 ww_Md_noSite sw_Md_noSite nw_Md cw_Md_noSite rfl rfl rfl (by decide +kernel) (by omega) (Nat.le_of_ble_eq_true rfl) (Nat.le_of_ble_eq_true rfl) ?_
      refine k_M_noSite hl9 (by omega) hM1 ok hb (fun i2 => ?_) (fun i2 => ?_)
      · show jl_AW _ _ _ _ _ 41 [some (.ref (u)), some (.int (zI (a))), some (.int (zI (b))), none, none] [.int (zI (0))] n h1 _ _
        refine jz_if_eq (tgt := 58) d_Md_swap_41 (by decide) ⟨by decide, by decide⟩ (fun _ => ?_) (fun q9 => absurd q9 (by decide))
        have i2 : 0 ≤ b ∧ b < M.pe (0 : Int).toNat := i2
        have hh1 := hM_rg ok 0 (a * 3 + 0).toNat
        have hh2 := hM_rg ok 0 (b * 3 + 0).toNat
        refine jl_iload_n d_Md_swap_58 rfl rfl ?_
        refine jl_aload_n d_Md_swap_59 rfl rfl ?_
        refine jl_iconst (v := zI (0)) d_Md_swap_60 (by decide) ?_
        refine jl_iload_n d_Md_swap_61 rfl rfl ?_
        refine jl_iconst (v := zI (0)) d_Md_swap_62 (by decide) ?_
        refine jl_invV (M' := m_Md_tall) (d' := d - 1) (ck' := 0) (sk' := 0) (na := 3) (as := [.int (zI (0)), .int (zI (b)), .int (zI (0))]) (st := [.int (zI (b))]) d_Md_swap_63 rfl p0a rfl mw_Md_73 ww_Md_tall sw_Md_tall nw_Md cw_Md_tall rfl rfl rfl (by decide +kernel) (by omega) (Nat.le_of_ble_eq_true rfl) (Nat.le_of_ble_eq_true rfl) ?_
        refine k_M_tall hl9 (by omega) hM1 ⟨by decide, by decide⟩ ⟨by omega, by omega⟩ ⟨by decide, by decide⟩ ?_
        show jl_AW _ _ _ _ _ 66 [some (.ref (u)), some (.int (zI (a))), some (.int (zI (b))), none, none] [.int (zI (hM M 0 (b * 3 + 0).toNat)), .int (zI (b))] n h1 _ _
        refine jz_iadd (v := b + hM M 0 (b * 3 + 0).toNat) d_Md_swap_66 (by omega) ?_
        refine jl_iload_n d_Md_swap_67 rfl rfl ?_
        refine jz_isub (v := b + hM M 0 (b * 3 + 0).toNat - a) d_Md_swap_68 (by omega) ?_
        refine jl_istore_n (L' := [some (.ref (u)), some (.int (zI (a))), some (.int (zI (b))), some (.int (zI (b + hM M 0 (b * 3 + 0).toNat - a))), none]) d_Md_swap_69 rfl (by decide) rfl ?_
        refine jl_iload_n d_Md_swap_70 rfl rfl ?_
        refine jl_aload_n d_Md_swap_71 rfl rfl ?_
        refine jl_iconst (v := zI (0)) d_Md_swap_72 (by decide) ?_
        refine jl_iload_n d_Md_swap_73 rfl rfl ?_
        refine jl_iconst (v := zI (0)) d_Md_swap_74 (by decide) ?_
        refine jl_invV (M' := m_Md_tall) (d' := d - 1) (ck' := 0) (sk' := 0) (na := 3) (as := [.int (zI (0)), .int (zI (a)), .int (zI (0))]) (st := [.int (zI (a))]) d_Md_swap_75 rfl p0a rfl mw_Md_73 ww_Md_tall sw_Md_tall nw_Md cw_Md_tall rfl rfl rfl (by decide +kernel) (by omega) (Nat.le_of_ble_eq_true rfl) (Nat.le_of_ble_eq_true rfl) ?_
        refine k_M_tall hl9 (by omega) hM1 ⟨by decide, by decide⟩ ⟨by omega, by omega⟩ ⟨by decide, by decide⟩ ?_
        show jl_AW _ _ _ _ _ 78 [some (.ref (u)), some (.int (zI (a))), some (.int (zI (b))), some (.int (zI (b + hM M 0 (b * 3 + 0).toNat - a))), none] [.int (zI (hM M 0 (a * 3 + 0).toNat)), .int (zI (a))] n h1 _ _
        refine jz_iadd (v := a + hM M 0 (a * 3 + 0).toNat) d_Md_swap_78 (by omega) ?_
        refine jl_iload_n d_Md_swap_79 rfl rfl ?_
        refine jz_isub (v := a + hM M 0 (a * 3 + 0).toNat - b) d_Md_swap_80 (by omega) ?_
        refine jl_istore (L' := [some (.ref (u)), some (.int (zI (a))), some (.int (zI (b))), some (.int (zI (b + hM M 0 (b * 3 + 0).toNat - a))), some (.int (zI (a + hM M 0 (a * 3 + 0).toNat - b)))]) d_Md_swap_81 (by decide) rfl ?_
        refine jl_iload_n d_Md_swap_83 rfl rfl ?_
        refine jl_iconst (v := zI (0)) d_Md_swap_84 (by decide) ?_
        refine jl_bipush (v := zI (9)) d_Md_swap_85 (by decide) ?_
        refine jl_invS (M' := m_Md_within) (d' := d - 1) (ck' := 0) (sk' := 0) (na := 3) (as := [.int (zI (b + hM M 0 (b * 3 + 0).toNat - a)), .int (zI (0)), .int (zI (9))]) (st := []) d_Md_swap_87 rfl mw_Md_61 ww_Md_within nw_Md cw_Md_within rfl rfl rfl (by decide +kernel) (by omega) (Nat.le_of_ble_eq_true rfl) (Nat.le_of_ble_eq_true rfl) ?_
        refine k_M_within hl9 (by omega) ⟨by omega, by omega⟩ ⟨by decide, by decide⟩ ⟨by decide, by decide⟩ (fun i3 => ?_) (fun i3 => ?_)
        · show jl_AW _ _ _ _ _ 90 [some (.ref (u)), some (.int (zI (a))), some (.int (zI (b))), some (.int (zI (b + hM M 0 (b * 3 + 0).toNat - a))), some (.int (zI (a + hM M 0 (a * 3 + 0).toNat - b)))] [.int (zI (1))] n h1 _ _
          refine jz_if_eq (tgt := 104) d_Md_swap_90 (by decide) ⟨by decide, by decide⟩ (fun q9 => absurd q9 (by decide)) (fun _ => ?_)
          refine jl_iload d_Md_swap_93 rfl ?_
          refine jl_iconst (v := zI (0)) d_Md_swap_95 (by decide) ?_
          refine jl_bipush (v := zI (9)) d_Md_swap_96 (by decide) ?_
          refine jl_invS (M' := m_Md_within) (d' := d - 1) (ck' := 0) (sk' := 0) (na := 3) (as := [.int (zI (a + hM M 0 (a * 3 + 0).toNat - b)), .int (zI (0)), .int (zI (9))]) (st := []) d_Md_swap_98 rfl mw_Md_61 ww_Md_within nw_Md cw_Md_within rfl rfl rfl (by decide +kernel) (by omega) (Nat.le_of_ble_eq_true rfl) (Nat.le_of_ble_eq_true rfl) ?_
          refine k_M_within hl9 (by omega) ⟨by omega, by omega⟩ ⟨by decide, by decide⟩ ⟨by decide, by decide⟩ (fun i4 => ?_) (fun i4 => ?_)
          · show jl_AW _ _ _ _ _ 101 [some (.ref (u)), some (.int (zI (a))), some (.int (zI (b))), some (.int (zI (b + hM M 0 (b * 3 + 0).toNat - a))), some (.int (zI (a + hM M 0 (a * 3 + 0).toNat - b)))] [.int (zI (1))] n h1 _ _
            refine jz_if_ne (tgt := 106) d_Md_swap_101 (by decide) ⟨by decide, by decide⟩ (fun _ => ?_) (fun q9 => absurd q9 (by decide))
            refine jl_aload_n d_Md_swap_106 rfl rfl ?_
            refine jg_6 (q := 4) d_Md_swap_107 p0a rfl (by decide) fw_Md_19 ?_
            refine jl_iconst (v := zI (3)) d_Md_swap_110 (by decide) ?_
            refine jl_iload_n d_Md_swap_111 rfl rfl ?_
            refine jz_imul (v := a * 3) d_Md_swap_112 (by omega) ?_
            refine jl_iload_n d_Md_swap_113 rfl rfl ?_
            refine jz_iasth d_Md_swap_114 p4a (by omega) (by omega) (by omega) (fun h16 eh16 => ?_)
            have jf17 : h16 (u + 4) = jI 384 (fun j9 => zI ((va_up (M.he) (a * 3).toNat (b + hM M 0 (b * 3 + 0).toNat - a)) j9)) := by rw [eh16, va_up_self]
            refine jl_aload_n d_Md_swap_115 rfl rfl ?_
            have jf18 : h16 (u) = jO 6 [.int (zI (0)), .ref (u + 1), .ref (u + 2), .ref (u + 3), .ref (u + 4), .ref (u + 5), .int (zI (M.jn)), .int (zI (M.ja)), .int (zI (M.jb)), .ref (u + 6), .ref (u + 7), .int (zI (M.nw)), .int (zI (M.bl)), .int (zI (M.lt)), .int (zI (M.rt)), .ref (u + 8), .ref (u + 9), .ref (u + 10), .ref (u + 11), .ref (u + 12), .ref (u + 13)] := by rw [eh16, va_up_ne _ _ (by omega)]; exact p0a
            refine jg_6 (q := 4) d_Md_swap_116 jf18 rfl (by decide) fw_Md_19 ?_
            refine jl_iconst (v := zI (3)) d_Md_swap_119 (by decide) ?_
            refine jl_iload_n d_Md_swap_120 rfl rfl ?_
            refine jz_imul (v := b * 3) d_Md_swap_121 (by omega) ?_
            refine jl_iload d_Md_swap_122 rfl ?_
            refine jz_iasth d_Md_swap_124 jf17 (by omega) (by omega) (by omega) (fun h19 eh19 => ?_)
            have jf20 : h19 (u + 4) = jI 384 (fun j9 => zI ((va_up ((va_up (M.he) (a * 3).toNat (b + hM M 0 (b * 3 + 0).toNat - a))) (b * 3).toNat (a + hM M 0 (a * 3 + 0).toNat - b)) j9)) := by rw [eh19, va_up_self]
            refine jl_iconst (v := zI (1)) d_Md_swap_125 (by decide) ?_
            have jf21 : h19 (u) = jO 6 [.int (zI (0)), .ref (u + 1), .ref (u + 2), .ref (u + 3), .ref (u + 4), .ref (u + 5), .int (zI (M.jn)), .int (zI (M.ja)), .int (zI (M.jb)), .ref (u + 6), .ref (u + 7), .int (zI (M.nw)), .int (zI (M.bl)), .int (zI (M.lt)), .int (zI (M.rt)), .ref (u + 8), .ref (u + 9), .ref (u + 10), .ref (u + 11), .ref (u + 12), .ref (u + 13)] := by rw [eh19, va_up_ne _ _ (by omega)]; exact jf18
            have jf22 : h19 (u + 1) = jI 8 (fun j9 => zI (M.mo j9)) := by rw [eh19, va_up_ne _ _ (by omega), eh16, va_up_ne _ _ (by omega)]; exact p1a
            have jf23 : h19 (u + 2) = jI 8 (fun j9 => zI (M.pe j9)) := by rw [eh19, va_up_ne _ _ (by omega), eh16, va_up_ne _ _ (by omega)]; exact p2a
            have jf24 : h19 (u + 3) = jI 128 (fun j9 => zI (M.co j9)) := by rw [eh19, va_up_ne _ _ (by omega), eh16, va_up_ne _ _ (by omega)]; exact p3a
            have jf25 : h19 (u + 5) = jZ 128 (fun j9 => zI (M.cr j9)) := by rw [eh19, va_up_ne _ _ (by omega), eh16, va_up_ne _ _ (by omega)]; exact p5a
            have jf26 : h19 (u + 6) = jI 16 (fun j9 => zI (M.wy j9)) := by rw [eh19, va_up_ne _ _ (by omega), eh16, va_up_ne _ _ (by omega)]; exact p6a
            have jf27 : h19 (u + 7) = jI 512 (fun j9 => zI (M.fa j9)) := by rw [eh19, va_up_ne _ _ (by omega), eh16, va_up_ne _ _ (by omega)]; exact p7a
            have jf28 : h19 (u + 8) = jI 32 (fun j9 => zI (M.la j9)) := by rw [eh19, va_up_ne _ _ (by omega), eh16, va_up_ne _ _ (by omega)]; exact p8a
            have jf29 : h19 (u + 9) = jI 32 (fun j9 => zI (M.ha j9)) := by rw [eh19, va_up_ne _ _ (by omega), eh16, va_up_ne _ _ (by omega)]; exact p9a
            have jf30 : h19 (u + 10) = jI 4096 (fun j9 => zI (M.w1 j9)) := by rw [eh19, va_up_ne _ _ (by omega), eh16, va_up_ne _ _ (by omega)]; exact p10a
            have jf31 : h19 (u + 11) = jI 4096 (fun j9 => zI (M.mr j9)) := by rw [eh19, va_up_ne _ _ (by omega), eh16, va_up_ne _ _ (by omega)]; exact p11a
            have jf32 : h19 (u + 12) = jI 6 (fun j9 => zI (M.rw j9)) := by rw [eh19, va_up_ne _ _ (by omega), eh16, va_up_ne _ _ (by omega)]; exact p12a
            have jf33 : h19 (u + 13) = jI 16 (fun j9 => zI (M.tu j9)) := by rw [eh19, va_up_ne _ _ (by omega), eh16, va_up_ne _ _ (by omega)]; exact p13a
            exact jl_zret d_Md_swap_126 rfl (by decide) (hk0 q1 ⟨i1, i2⟩ ⟨i3, i4⟩ h19 ⟨jf21, jf22, jf23, jf24, jf20, jf25, jf26, jf27, jf28, jf29, jf30, jf31, jf32, jf33⟩ (jfr_tr hf1 (fun y hy => by rw [eh19, va_up_ne _ _ (by omega), eh16, va_up_ne _ _ (by omega)])))
          · show jl_AW _ _ _ _ _ 101 [some (.ref (u)), some (.int (zI (a))), some (.int (zI (b))), some (.int (zI (b + hM M 0 (b * 3 + 0).toNat - a))), some (.int (zI (a + hM M 0 (a * 3 + 0).toNat - b)))] [.int (zI (0))] n h1 _ _
            refine jz_if_ne (tgt := 106) d_Md_swap_101 (by decide) ⟨by decide, by decide⟩ (fun q9 => absurd q9 (by decide)) (fun _ => ?_)
            refine jl_iconst (v := zI (0)) d_Md_swap_104 (by decide) ?_
            exact jl_zret d_Md_swap_105 rfl (by decide) (hk3 q1 ⟨i1, i2⟩ (fun q => i4 q.2) h1 hM1 hf1)
        · show jl_AW _ _ _ _ _ 90 [some (.ref (u)), some (.int (zI (a))), some (.int (zI (b))), some (.int (zI (b + hM M 0 (b * 3 + 0).toNat - a))), some (.int (zI (a + hM M 0 (a * 3 + 0).toNat - b)))] [.int (zI (0))] n h1 _ _
          refine jz_if_eq (tgt := 104) d_Md_swap_90 (by decide) ⟨by decide, by decide⟩ (fun _ => ?_) (fun q9 => absurd q9 (by decide))
          refine jl_iconst (v := zI (0)) d_Md_swap_104 (by decide) ?_
          exact jl_zret d_Md_swap_105 rfl (by decide) (hk3 q1 ⟨i1, i2⟩ (fun q => i3 q.1) h1 hM1 hf1)
      · show jl_AW _ _ _ _ _ 41 [some (.ref (u)), some (.int (zI (a))), some (.int (zI (b))), none, none] [.int (zI (1))] n h1 _ _
        refine jz_if_eq (tgt := 58) d_Md_swap_41 (by decide) ⟨by decide, by decide⟩ (fun q9 => absurd q9 (by decide)) (fun _ => ?_)
        have i2 : ¬ (0 ≤ b ∧ b < M.pe (0 : Int).toNat) := i2
        refine jl_aload_n d_Md_swap_44 rfl rfl ?_
        refine jl_iconst (v := zI (2)) d_Md_swap_45 (by decide) ?_
        refine jl_invV (M' := m_Md_fail) (d' := d - 1) (ck' := 0) (sk' := 0) (na := 1) (as := [.int (zI (2))]) (st := []) d_Md_swap_46 rfl p0a rfl mw_Md_65 ww_Md_fail sw_Md_fail nw_Md cw_Md_fail rfl rfl rfl (by decide +kernel) (by omega) (Nat.le_of_ble_eq_true rfl) (Nat.le_of_ble_eq_true rfl) ?_
        refine k_M_fail hl9 (by omega) hM1 (fun h2 hM2 hf2 => ?_)
        show jl_AW _ _ _ _ _ 49 [some (.ref (u)), some (.int (zI (a))), some (.int (zI (b))), none, none] [.int (zI (0))] n h2 _ _
        refine jz_if_le (tgt := 56) d_Md_swap_49 (by decide) ⟨by decide, by decide⟩ (fun _ => ?_) (fun q9 => absurd q9 (by decide))
        refine jl_iconst (v := zI (0)) d_Md_swap_56 (by decide) ?_
        exact jl_zret d_Md_swap_57 rfl (by decide) (hk2 q1 (fun q => i2 q.2) h2 hM2 (jfr_tr hf1 hf2))
    · show jl_AW _ _ _ _ _ 33 [some (.ref (u)), some (.int (zI (a))), some (.int (zI (b))), none, none] [.int (zI (1))] n h1 _ _
      refine jz_if_ne (tgt := 44) d_Md_swap_33 (by decide) ⟨by decide, by decide⟩ (fun _ => ?_) (fun q9 => absurd q9 (by decide))
      have i1 : ¬ (0 ≤ a ∧ a < M.pe (0 : Int).toNat) := i1
      refine jl_aload_n d_Md_swap_44 rfl rfl ?_
      refine jl_iconst (v := zI (2)) d_Md_swap_45 (by decide) ?_
      refine jl_invV (M' := m_Md_fail) (d' := d - 1) (ck' := 0) (sk' := 0) (na := 1) (as := [.int (zI (2))]) (st := []) d_Md_swap_46 rfl p0a rfl mw_Md_65 ww_Md_fail sw_Md_fail nw_Md cw_Md_fail rfl rfl rfl (by decide +kernel) (by omega) (Nat.le_of_ble_eq_true rfl) (Nat.le_of_ble_eq_true rfl) ?_
      refine k_M_fail hl9 (by omega) hM1 (fun h2 hM2 hf2 => ?_)
      show jl_AW _ _ _ _ _ 49 [some (.ref (u)), some (.int (zI (a))), some (.int (zI (b))), none, none] [.int (zI (0))] n h2 _ _
      refine jz_if_le (tgt := 56) d_Md_swap_49 (by decide) ⟨by decide, by decide⟩ (fun _ => ?_) (fun q9 => absurd q9 (by decide))
      refine jl_iconst (v := zI (0)) d_Md_swap_56 (by decide) ?_
      exact jl_zret d_Md_swap_57 rfl (by decide) (hk2 q1 (fun q => i1 q.1) h2 hM2 (jfr_tr hf1 hf2))
  · refine jl_aload_n d_Md_swap_14 rfl rfl ?_
    refine jl_iconst (v := zI (1)) d_Md_swap_15 (by decide) ?_
    refine jl_invV (M' := m_Md_fail) (d' := d - 1) (ck' := 0) (sk' := 0) (na := 1) (as := [.int (zI (1))]) (st := []) d_Md_swap_16 rfl p0a rfl mw_Md_65 ww_Md_fail sw_Md_fail nw_Md cw_Md_fail rfl rfl rfl (by decide +kernel) (by omega) (Nat.le_of_ble_eq_true rfl) (Nat.le_of_ble_eq_true rfl) ?_
    refine k_M_fail hl9 (by omega) hM1 (fun h2 hM2 hf2 => ?_)
    show jl_AW _ _ _ _ _ 19 [some (.ref (u)), some (.int (zI (a))), some (.int (zI (b))), none, none] [.int (zI (0))] n h2 _ _
    refine jz_if_le (tgt := 26) d_Md_swap_19 (by decide) ⟨by decide, by decide⟩ (fun _ => ?_) (fun q9 => absurd q9 (by decide))
    refine jl_iconst (v := zI (0)) d_Md_swap_26 (by decide) ?_
    exact jl_zret d_Md_swap_27 rfl (by decide) (hk1 q1 h2 hM2 (jfr_tr hf1 hf2))
set_option maxHeartbeats 4000000 in
set_option maxRecDepth 100000 in
theorem k_M_lower {l : Launch} {G : jl_G} {d n : Nat} {h : Nat → va_E} {Kr : Option Value → Nat → (Nat → va_E) → Prop} {Kx : String → Nat → (Nat → va_E) → Prop} (hl9 : l.stackTraces = false) (hdd : 1 ≤ d) {u : Nat} {M : MS} {a b : Int} (hM9 : jM h u M) (ok : mOk M) (hpe : 1 ≤ M.pe (0 : Int).toNat) (ha : 0 ≤ a ∧ a < 16) (hb : 0 ≤ b ∧ b < 16) (hk : ∀ g, sp_is (sp_rl (M.pe (0 : Int).toNat) (hM M 0) a b) g → Kr (some (.int (zI (g)))) n h) : jl_Call l G m_Md_lower d [.ref (u), .int (zI (a)), .int (zI (b))] n h 0 0 Kr Kx := by
  refine jl_enter hl9 (by decide) rfl (by simp [Value.category]) (Nat.le_of_ble_eq_true rfl) ?_
  show jl_AW l G (jl_F G Kr Kx) m_Md_lower d 0 [some (.ref (u)), some (.int (zI (a))), some (.int (zI (b))), none, none, none, none] [] n h 0 0
  have hp0 := ok.2.1 (0 : Int).toNat
  obtain ⟨q0, q1, q2, q3, q4, q5, q6, q7, q8, q9, q10, q11, q12, q13⟩ := id (hM9)
  have p0 : h u = jO 6 [.int (zI (M.T)), .ref (u + 1), .ref (u + 2), .ref (u + 3), .ref (u + 4), .ref (u + 5), .int (zI (M.jn)), .int (zI (M.ja)), .int (zI (M.jb)), .ref (u + 6), .ref (u + 7), .int (zI (M.nw)), .int (zI (M.bl)), .int (zI (M.lt)), .int (zI (M.rt)), .ref (u + 8), .ref (u + 9), .ref (u + 10), .ref (u + 11), .ref (u + 12), .ref (u + 13)] := q0
  have p1 : h (u + 1) = jI 8 (fun j9 => zI (M.mo j9)) := q1
  have p2 : h (u + 2) = jI 8 (fun j9 => zI (M.pe j9)) := q2
  have p3 : h (u + 3) = jI 128 (fun j9 => zI (M.co j9)) := q3
  have p4 : h (u + 4) = jI 384 (fun j9 => zI (M.he j9)) := q4
  have p5 : h (u + 5) = jZ 128 (fun j9 => zI (M.cr j9)) := q5
  have p6 : h (u + 6) = jI 16 (fun j9 => zI (M.wy j9)) := q6
  have p7 : h (u + 7) = jI 512 (fun j9 => zI (M.fa j9)) := q7
  have p8 : h (u + 8) = jI 32 (fun j9 => zI (M.la j9)) := q8
  have p9 : h (u + 9) = jI 32 (fun j9 => zI (M.ha j9)) := q9
  have p10 : h (u + 10) = jI 4096 (fun j9 => zI (M.w1 j9)) := q10
  have p11 : h (u + 11) = jI 4096 (fun j9 => zI (M.mr j9)) := q11
  have p12 : h (u + 12) = jI 6 (fun j9 => zI (M.rw j9)) := q12
  have p13 : h (u + 13) = jI 16 (fun j9 => zI (M.tu j9)) := q13
  refine jl_aload_n d_Md_lower_0 rfl rfl ?_
  refine jg_6 (q := 2) d_Md_lower_1 p0 rfl (by decide) fw_Md_13 ?_
  refine jl_iconst (v := zI (0)) d_Md_lower_4 (by decide) ?_
  refine jz_iald d_Md_lower_5 p2 (by omega) (by omega) (by omega) ?_
  refine jl_istore_n (L' := [some (.ref (u)), some (.int (zI (a))), some (.int (zI (b))), some (.int (zI (M.pe (0 : Int).toNat))), none, none, none]) d_Md_lower_6 rfl (by decide) rfl ?_
  refine jl_iconst (v := zI (0)) d_Md_lower_7 (by decide) ?_
  refine jl_istore (L' := [some (.ref (u)), some (.int (zI (a))), some (.int (zI (b))), some (.int (zI (M.pe (0 : Int).toNat))), some (.int (zI (0))), none, none]) d_Md_lower_8 (by decide) rfl ?_
  have lp1 : ∀ (k : Nat) (k9 : Nat), (k9 : Int) + k = M.pe (0 : Int).toNat → (∀ j : Int, 0 ≤ j → j < (k9 : Int) → hM M 0 ((a + j) % M.pe (0 : Int).toNat * 3).toNat = hM M 0 ((b + j) % M.pe (0 : Int).toNat * 3).toNat) → jl_AW l G (jl_F G Kr Kx) m_Md_lower d 10 [some (.ref (u)), some (.int (zI (a))), some (.int (zI (b))), some (.int (zI (M.pe (0 : Int).toNat))), some (.int (zI ((k9 : Int)))), none, none] [] n h 0 0 := by
    intro k
    induction k using Nat.strongRecOn with
    | ind k ih =>
      intro k9 hk9 he
      obtain ⟨q0, q1, q2, q3, q4, q5, q6, q7, q8, q9, q10, q11, q12, q13⟩ := id (hM9)
      have p0 : h u = jO 6 [.int (zI (M.T)), .ref (u + 1), .ref (u + 2), .ref (u + 3), .ref (u + 4), .ref (u + 5), .int (zI (M.jn)), .int (zI (M.ja)), .int (zI (M.jb)), .ref (u + 6), .ref (u + 7), .int (zI (M.nw)), .int (zI (M.bl)), .int (zI (M.lt)), .int (zI (M.rt)), .ref (u + 8), .ref (u + 9), .ref (u + 10), .ref (u + 11), .ref (u + 12), .ref (u + 13)] := q0
      have p1 : h (u + 1) = jI 8 (fun j9 => zI (M.mo j9)) := q1
      have p2 : h (u + 2) = jI 8 (fun j9 => zI (M.pe j9)) := q2
      have p3 : h (u + 3) = jI 128 (fun j9 => zI (M.co j9)) := q3
      have p4 : h (u + 4) = jI 384 (fun j9 => zI (M.he j9)) := q4
      have p5 : h (u + 5) = jZ 128 (fun j9 => zI (M.cr j9)) := q5
      have p6 : h (u + 6) = jI 16 (fun j9 => zI (M.wy j9)) := q6
      have p7 : h (u + 7) = jI 512 (fun j9 => zI (M.fa j9)) := q7
      have p8 : h (u + 8) = jI 32 (fun j9 => zI (M.la j9)) := q8
      have p9 : h (u + 9) = jI 32 (fun j9 => zI (M.ha j9)) := q9
      have p10 : h (u + 10) = jI 4096 (fun j9 => zI (M.w1 j9)) := q10
      have p11 : h (u + 11) = jI 4096 (fun j9 => zI (M.mr j9)) := q11
      have p12 : h (u + 12) = jI 6 (fun j9 => zI (M.rw j9)) := q12
      have p13 : h (u + 13) = jI 16 (fun j9 => zI (M.tu j9)) := q13
      refine jl_iload d_Md_lower_10 rfl ?_
      refine jl_iload_n d_Md_lower_12 rfl rfl ?_
      refine jz_icmp_ge (tgt := 70) d_Md_lower_13 (by decide) ⟨by omega, by omega⟩ ⟨by omega, by omega⟩ (fun hc => ?_) (fun hc => ?_)
      · have ek : (k9 : Int) = M.pe (0 : Int).toNat := by omega
        refine jl_iconst (v := zI (0)) d_Md_lower_70 (by decide) ?_
        exact jl_zret d_Md_lower_71 rfl (by decide) (hk 0 (Or.inr ⟨rfl, sp_rl_eq (fun j r1 r2 => he j r1 (by omega))⟩))
      · have hm1a := Int.emod_nonneg (a + (k9 : Int)) (show M.pe (0 : Int).toNat ≠ 0 by omega)
        have hm2a := Int.emod_lt_of_pos (a + (k9 : Int)) (show 0 < M.pe (0 : Int).toNat by omega)
        have hha := hM_rg ok 0 ((a + (k9 : Int)) % M.pe (0 : Int).toNat * 3 + 0).toNat
        have hm1b := Int.emod_nonneg (b + (k9 : Int)) (show M.pe (0 : Int).toNat ≠ 0 by omega)
        have hm2b := Int.emod_lt_of_pos (b + (k9 : Int)) (show 0 < M.pe (0 : Int).toNat by omega)
        have hhb := hM_rg ok 0 ((b + (k9 : Int)) % M.pe (0 : Int).toNat * 3 + 0).toNat
        refine jl_aload_n d_Md_lower_16 rfl rfl ?_
        refine jl_iconst (v := zI (0)) d_Md_lower_17 (by decide) ?_
        refine jl_iload_n d_Md_lower_18 rfl rfl ?_
        refine jl_iload d_Md_lower_19 rfl ?_
        refine jz_iadd (v := a + (k9 : Int)) d_Md_lower_21 (by omega) ?_
        refine jl_iload_n d_Md_lower_22 rfl rfl ?_
        refine jz_irem (v := (a + (k9 : Int)) % M.pe (0 : Int).toNat) d_Md_lower_23 ⟨by omega, by omega⟩ ⟨by omega, by omega⟩ (by omega) (Int.tmod_eq_emod_of_nonneg (by omega)) ?_
        refine jl_iconst (v := zI (0)) d_Md_lower_24 (by decide) ?_
        refine jl_invV (M' := m_Md_tall) (d' := d - 1) (ck' := 0) (sk' := 0) (na := 3) (as := [.int (zI (0)), .int (zI ((a + (k9 : Int)) % M.pe (0 : Int).toNat)), .int (zI (0))]) (st := []) d_Md_lower_25 rfl p0 rfl mw_Md_73 ww_Md_tall sw_Md_tall nw_Md cw_Md_tall rfl rfl rfl (by decide +kernel) (by omega) (Nat.le_of_ble_eq_true rfl) (Nat.le_of_ble_eq_true rfl) ?_
        refine k_M_tall hl9 (by omega) hM9 ⟨by decide, by decide⟩ ⟨by omega, by omega⟩ ⟨by decide, by decide⟩ ?_
        show jl_AW _ _ _ _ _ 28 [some (.ref (u)), some (.int (zI (a))), some (.int (zI (b))), some (.int (zI (M.pe (0 : Int).toNat))), some (.int (zI ((k9 : Int)))), none, none] [.int (zI (hM M 0 ((a + (k9 : Int)) % M.pe (0 : Int).toNat * 3 + 0).toNat))] n h _ _
        refine jl_istore (L' := [some (.ref (u)), some (.int (zI (a))), some (.int (zI (b))), some (.int (zI (M.pe (0 : Int).toNat))), some (.int (zI ((k9 : Int)))), some (.int (zI (hM M 0 ((a + (k9 : Int)) % M.pe (0 : Int).toNat * 3 + 0).toNat))), none]) d_Md_lower_28 (by decide) rfl ?_
        refine jl_aload_n d_Md_lower_30 rfl rfl ?_
        refine jl_iconst (v := zI (0)) d_Md_lower_31 (by decide) ?_
        refine jl_iload_n d_Md_lower_32 rfl rfl ?_
        refine jl_iload d_Md_lower_33 rfl ?_
        refine jz_iadd (v := b + (k9 : Int)) d_Md_lower_35 (by omega) ?_
        refine jl_iload_n d_Md_lower_36 rfl rfl ?_
        refine jz_irem (v := (b + (k9 : Int)) % M.pe (0 : Int).toNat) d_Md_lower_37 ⟨by omega, by omega⟩ ⟨by omega, by omega⟩ (by omega) (Int.tmod_eq_emod_of_nonneg (by omega)) ?_
        refine jl_iconst (v := zI (0)) d_Md_lower_38 (by decide) ?_
        refine jl_invV (M' := m_Md_tall) (d' := d - 1) (ck' := 0) (sk' := 0) (na := 3) (as := [.int (zI (0)), .int (zI ((b + (k9 : Int)) % M.pe (0 : Int).toNat)), .int (zI (0))]) (st := []) d_Md_lower_39 rfl p0 rfl mw_Md_73 ww_Md_tall sw_Md_tall nw_Md cw_Md_tall rfl rfl rfl (by decide +kernel) (by omega) (Nat.le_of_ble_eq_true rfl) (Nat.le_of_ble_eq_true rfl) ?_
        refine k_M_tall hl9 (by omega) hM9 ⟨by decide, by decide⟩ ⟨by omega, by omega⟩ ⟨by decide, by decide⟩ ?_
        show jl_AW _ _ _ _ _ 42 [some (.ref (u)), some (.int (zI (a))), some (.int (zI (b))), some (.int (zI (M.pe (0 : Int).toNat))), some (.int (zI ((k9 : Int)))), some (.int (zI (hM M 0 ((a + (k9 : Int)) % M.pe (0 : Int).toNat * 3 + 0).toNat))), none] [.int (zI (hM M 0 ((b + (k9 : Int)) % M.pe (0 : Int).toNat * 3 + 0).toNat))] n h _ _
        refine jl_istore (L' := [some (.ref (u)), some (.int (zI (a))), some (.int (zI (b))), some (.int (zI (M.pe (0 : Int).toNat))), some (.int (zI ((k9 : Int)))), some (.int (zI (hM M 0 ((a + (k9 : Int)) % M.pe (0 : Int).toNat * 3 + 0).toNat))), some (.int (zI (hM M 0 ((b + (k9 : Int)) % M.pe (0 : Int).toNat * 3 + 0).toNat)))]) d_Md_lower_42 (by decide) rfl ?_
        refine jl_iload d_Md_lower_44 rfl ?_
        refine jl_iload d_Md_lower_46 rfl ?_
        refine jz_icmp_eq (tgt := 64) d_Md_lower_48 (by decide) ⟨by omega, by omega⟩ ⟨by omega, by omega⟩ (fun hc2 => ?_) (fun hc2 => ?_)
        · refine jz_iinc (v := ((k9 + 1 : Nat) : Int)) (L' := [some (.ref (u)), some (.int (zI (a))), some (.int (zI (b))), some (.int (zI (M.pe (0 : Int).toNat))), some (.int (zI (((k9 + 1 : Nat) : Int)))), some (.int (zI (hM M 0 ((a + (k9 : Int)) % M.pe (0 : Int).toNat * 3 + 0).toNat))), some (.int (zI (hM M 0 ((b + (k9 : Int)) % M.pe (0 : Int).toNat * 3 + 0).toNat)))]) d_Md_lower_64 rfl (by omega) (by decide) rfl ?_
          refine jl_goto (tgt := 10) d_Md_lower_67 (by decide) ?_
          refine jl_less (L' := [some (.ref (u)), some (.int (zI (a))), some (.int (zI (b))), some (.int (zI (M.pe (0 : Int).toNat))), some (.int (zI (((k9 + 1 : Nat) : Int)))), none, none]) ⟨rfl, rfl, rfl, rfl, rfl, trivial⟩ ?_
          refine ih (k - 1) (by omega) (k9 + 1) (by omega) (fun j r1 r2 => ?_)
          rw [Int.add_zero, Int.add_zero] at hc2
          by_cases e9 : j = (k9 : Int)
          · rw [e9]; exact hc2
          · exact he j r1 (by omega)
        · rw [Int.add_zero, Int.add_zero] at hc2
          refine jl_iload d_Md_lower_51 rfl ?_
          refine jl_iload d_Md_lower_53 rfl ?_
          refine jz_icmp_ge (tgt := 62) d_Md_lower_55 (by decide) ⟨by omega, by omega⟩ ⟨by omega, by omega⟩ (fun hc3 => ?_) (fun hc3 => ?_)
          · refine jl_iconst (v := zI (0)) d_Md_lower_62 (by decide) ?_
            rw [Int.add_zero, Int.add_zero] at hc3
            exact jl_zret d_Md_lower_63 rfl (by decide) (hk 0 (Or.inr ⟨rfl, sp_rl_no ⟨by omega, by omega⟩ he (by omega)⟩))
          · refine jl_iconst (v := zI (1)) d_Md_lower_58 (by decide) ?_
            refine jl_goto (tgt := 63) d_Md_lower_59 (by decide) ?_
            rw [Int.add_zero, Int.add_zero] at hc3
            exact jl_zret d_Md_lower_63 rfl (by decide) (hk 1 (Or.inl ⟨rfl, (k9 : Int), by omega, by omega, he, by omega⟩))
  exact lp1 (M.pe (0 : Int).toNat).toNat 0 (by omega) (fun j r1 r2 => by omega)
set_option maxHeartbeats 4000000 in
set_option maxRecDepth 100000 in
theorem k_M_height {l : Launch} {G : jl_G} {d n : Nat} {h : Nat → va_E} {Kr : Option Value → Nat → (Nat → va_E) → Prop} {Kx : String → Nat → (Nat → va_E) → Prop} (hl9 : l.stackTraces = false) (hdd : 2 ≤ d) {u : Nat} {M : MS} {a b : Int} (hM9 : jM h u M) (ok : mOk M) (ha : zR a) (hb : zR b) (hk0 : (0 ≤ a ∧ a < M.pe (0 : Int).toNat) ∧ 0 ≤ b ∧ b < M.co (a).toNat → ∀ h', jM h' u (M.wT 0) → jfr h h' u (u + 14) → Kr (some (.int (zI (hM M 0 (a * 3 + b).toNat + 16 * M.cr (a).toNat)))) n h') (hk1 : ¬ ((0 ≤ a ∧ a < M.pe (0 : Int).toNat) ∧ 0 ≤ b ∧ b < M.co (a).toNat) → ∀ h', jM h' u (M.wT 1) → jfr h h' u (u + 14) → Kr (some (.int (zI (0)))) n h') : jl_Call l G m_Md_height d [.ref (u), .int (zI (a)), .int (zI (b))] n h 0 0 Kr Kx := by
  refine jl_enter hl9 (by decide) rfl (by simp [Value.category]) (Nat.le_of_ble_eq_true rfl) ?_
  show jl_AW l G (jl_F G Kr Kx) m_Md_height d 0 [some (.ref (u)), some (.int (zI (a))), some (.int (zI (b)))] [] n h 0 0
  have hp0 := ok.2.1 (0 : Int).toNat
  have hco := ok.2.2.2.1 (a).toNat
  have hcr := ok.2.2.2.2 (a).toNat
  obtain ⟨q0, q1, q2, q3, q4, q5, q6, q7, q8, q9, q10, q11, q12, q13⟩ := id (hM9)
  have p0 : h u = jO 6 [.int (zI (M.T)), .ref (u + 1), .ref (u + 2), .ref (u + 3), .ref (u + 4), .ref (u + 5), .int (zI (M.jn)), .int (zI (M.ja)), .int (zI (M.jb)), .ref (u + 6), .ref (u + 7), .int (zI (M.nw)), .int (zI (M.bl)), .int (zI (M.lt)), .int (zI (M.rt)), .ref (u + 8), .ref (u + 9), .ref (u + 10), .ref (u + 11), .ref (u + 12), .ref (u + 13)] := q0
  have p1 : h (u + 1) = jI 8 (fun j9 => zI (M.mo j9)) := q1
  have p2 : h (u + 2) = jI 8 (fun j9 => zI (M.pe j9)) := q2
  have p3 : h (u + 3) = jI 128 (fun j9 => zI (M.co j9)) := q3
  have p4 : h (u + 4) = jI 384 (fun j9 => zI (M.he j9)) := q4
  have p5 : h (u + 5) = jZ 128 (fun j9 => zI (M.cr j9)) := q5
  have p6 : h (u + 6) = jI 16 (fun j9 => zI (M.wy j9)) := q6
  have p7 : h (u + 7) = jI 512 (fun j9 => zI (M.fa j9)) := q7
  have p8 : h (u + 8) = jI 32 (fun j9 => zI (M.la j9)) := q8
  have p9 : h (u + 9) = jI 32 (fun j9 => zI (M.ha j9)) := q9
  have p10 : h (u + 10) = jI 4096 (fun j9 => zI (M.w1 j9)) := q10
  have p11 : h (u + 11) = jI 4096 (fun j9 => zI (M.mr j9)) := q11
  have p12 : h (u + 12) = jI 6 (fun j9 => zI (M.rw j9)) := q12
  have p13 : h (u + 13) = jI 16 (fun j9 => zI (M.tu j9)) := q13
  refine jl_aload_n d_Md_height_0 rfl rfl ?_
  refine jl_iconst (v := zI (0)) d_Md_height_1 (by decide) ?_
  refine jp_6 (q := 0) (ty := .int) d_Md_height_2 p0 (by simp) (by decide) fw_Md_58 rfl (by decide +kernel) (fun _ _ => rfl) (fun _ _ => rfl) (fun h1 eh1 => ?_)
  have eh1 : h1 = va_up h (u) (jO 6 [.int (zI (0)), .ref (u + 1), .ref (u + 2), .ref (u + 3), .ref (u + 4), .ref (u + 5), .int (zI (M.jn)), .int (zI (M.ja)), .int (zI (M.jb)), .ref (u + 6), .ref (u + 7), .int (zI (M.nw)), .int (zI (M.bl)), .int (zI (M.lt)), .int (zI (M.rt)), .ref (u + 8), .ref (u + 9), .ref (u + 10), .ref (u + 11), .ref (u + 12), .ref (u + 13)]) := eh1
  have jf2 : h1 (u) = jO 6 [.int (zI (0)), .ref (u + 1), .ref (u + 2), .ref (u + 3), .ref (u + 4), .ref (u + 5), .int (zI (M.jn)), .int (zI (M.ja)), .int (zI (M.jb)), .ref (u + 6), .ref (u + 7), .int (zI (M.nw)), .int (zI (M.bl)), .int (zI (M.lt)), .int (zI (M.rt)), .ref (u + 8), .ref (u + 9), .ref (u + 10), .ref (u + 11), .ref (u + 12), .ref (u + 13)] := by rw [eh1, va_up_self]
  have jf3 : h1 (u + 1) = jI 8 (fun j9 => zI (M.mo j9)) := by rw [eh1, va_up_ne _ _ (by omega)]; exact p1
  have jf4 : h1 (u + 2) = jI 8 (fun j9 => zI (M.pe j9)) := by rw [eh1, va_up_ne _ _ (by omega)]; exact p2
  have jf5 : h1 (u + 3) = jI 128 (fun j9 => zI (M.co j9)) := by rw [eh1, va_up_ne _ _ (by omega)]; exact p3
  have jf6 : h1 (u + 4) = jI 384 (fun j9 => zI (M.he j9)) := by rw [eh1, va_up_ne _ _ (by omega)]; exact p4
  have jf7 : h1 (u + 5) = jZ 128 (fun j9 => zI (M.cr j9)) := by rw [eh1, va_up_ne _ _ (by omega)]; exact p5
  have jf8 : h1 (u + 6) = jI 16 (fun j9 => zI (M.wy j9)) := by rw [eh1, va_up_ne _ _ (by omega)]; exact p6
  have jf9 : h1 (u + 7) = jI 512 (fun j9 => zI (M.fa j9)) := by rw [eh1, va_up_ne _ _ (by omega)]; exact p7
  have jf10 : h1 (u + 8) = jI 32 (fun j9 => zI (M.la j9)) := by rw [eh1, va_up_ne _ _ (by omega)]; exact p8
  have jf11 : h1 (u + 9) = jI 32 (fun j9 => zI (M.ha j9)) := by rw [eh1, va_up_ne _ _ (by omega)]; exact p9
  have jf12 : h1 (u + 10) = jI 4096 (fun j9 => zI (M.w1 j9)) := by rw [eh1, va_up_ne _ _ (by omega)]; exact p10
  have jf13 : h1 (u + 11) = jI 4096 (fun j9 => zI (M.mr j9)) := by rw [eh1, va_up_ne _ _ (by omega)]; exact p11
  have jf14 : h1 (u + 12) = jI 6 (fun j9 => zI (M.rw j9)) := by rw [eh1, va_up_ne _ _ (by omega)]; exact p12
  have jf15 : h1 (u + 13) = jI 16 (fun j9 => zI (M.tu j9)) := by rw [eh1, va_up_ne _ _ (by omega)]; exact p13
  have hM1 : jM h1 u (M.wT 0) := ⟨jf2, jf3, jf4, jf5, jf6, jf7, jf8, jf9, jf10, jf11, jf12, jf13, jf14, jf15⟩
  have hf1 : jfr h h1 u (u + 14) := (fun y hy => by rw [eh1, va_up_ne _ _ (by omega)])
  obtain ⟨q0a, q1a, q2a, q3a, q4a, q5a, q6a, q7a, q8a, q9a, q10a, q11a, q12a, q13a⟩ := id (hM1)
  have p0a : h1 u = jO 6 [.int (zI (0)), .ref (u + 1), .ref (u + 2), .ref (u + 3), .ref (u + 4), .ref (u + 5), .int (zI (M.jn)), .int (zI (M.ja)), .int (zI (M.jb)), .ref (u + 6), .ref (u + 7), .int (zI (M.nw)), .int (zI (M.bl)), .int (zI (M.lt)), .int (zI (M.rt)), .ref (u + 8), .ref (u + 9), .ref (u + 10), .ref (u + 11), .ref (u + 12), .ref (u + 13)] := q0a
  have p1a : h1 (u + 1) = jI 8 (fun j9 => zI (M.mo j9)) := q1a
  have p2a : h1 (u + 2) = jI 8 (fun j9 => zI (M.pe j9)) := q2a
  have p3a : h1 (u + 3) = jI 128 (fun j9 => zI (M.co j9)) := q3a
  have p4a : h1 (u + 4) = jI 384 (fun j9 => zI (M.he j9)) := q4a
  have p5a : h1 (u + 5) = jZ 128 (fun j9 => zI (M.cr j9)) := q5a
  have p6a : h1 (u + 6) = jI 16 (fun j9 => zI (M.wy j9)) := q6a
  have p7a : h1 (u + 7) = jI 512 (fun j9 => zI (M.fa j9)) := q7a
  have p8a : h1 (u + 8) = jI 32 (fun j9 => zI (M.la j9)) := q8a
  have p9a : h1 (u + 9) = jI 32 (fun j9 => zI (M.ha j9)) := q9a
  have p10a : h1 (u + 10) = jI 4096 (fun j9 => zI (M.w1 j9)) := q10a
  have p11a : h1 (u + 11) = jI 4096 (fun j9 => zI (M.mr j9)) := q11a
  have p12a : h1 (u + 12) = jI 6 (fun j9 => zI (M.rw j9)) := q12a
  have p13a : h1 (u + 13) = jI 16 (fun j9 => zI (M.tu j9)) := q13a
  refine jl_aload_n d_Md_height_5 rfl rfl ?_
  refine jl_iload_n d_Md_height_6 rfl rfl ?_
  refine jl_invV (M' := m_Md_noSite) (d' := d - 1) (ck' := 0) (sk' := 0) (na := 1) (as := [.int (zI (a))]) (st := []) d_Md_height_7 rfl p0a rfl mw_Md_69 ww_Md_noSite sw_Md_noSite nw_Md cw_Md_noSite rfl rfl rfl (by decide +kernel) (by omega) (Nat.le_of_ble_eq_true rfl) (Nat.le_of_ble_eq_true rfl) ?_
  refine k_M_noSite hl9 (by omega) hM1 ok ha (fun i1 => ?_) (fun i1 => ?_)
  · show jl_AW _ _ _ _ _ 10 [some (.ref (u)), some (.int (zI (a))), some (.int (zI (b)))] [.int (zI (0))] n h1 _ _
    refine jz_if_ne (tgt := 29) d_Md_height_10 (by decide) ⟨by decide, by decide⟩ (fun q9 => absurd q9 (by decide)) (fun _ => ?_)
    have i1 : 0 ≤ a ∧ a < M.pe (0 : Int).toNat := i1
    refine jl_iload_n d_Md_height_13 rfl rfl ?_
    refine jl_iconst (v := zI (0)) d_Md_height_14 (by decide) ?_
    refine jl_aload_n d_Md_height_15 rfl rfl ?_
    refine jg_6 (q := 3) d_Md_height_16 p0a rfl (by decide) fw_Md_16 ?_
    refine jl_iload_n d_Md_height_19 rfl rfl ?_
    refine jz_iald d_Md_height_20 p3a (by omega) (by omega) (by omega) ?_
    refine jl_iconst (v := zI (1)) d_Md_height_21 (by decide) ?_
    refine jz_isub (v := (M.co (a).toNat) - (1)) d_Md_height_22 rfl ?_
    refine jl_invS (M' := m_Md_within) (d' := d - 1) (ck' := 0) (sk' := 0) (na := 3) (as := [.int (zI (b)), .int (zI (0)), .int (zI ((M.co (a).toNat) - (1)))]) (st := []) d_Md_height_23 rfl mw_Md_61 ww_Md_within nw_Md cw_Md_within rfl rfl rfl (by decide +kernel) (by omega) (Nat.le_of_ble_eq_true rfl) (Nat.le_of_ble_eq_true rfl) ?_
    refine k_M_within hl9 (by omega) hb ⟨by decide, by decide⟩ ⟨by omega, by omega⟩ (fun i2 => ?_) (fun i2 => ?_)
    · show jl_AW _ _ _ _ _ 26 [some (.ref (u)), some (.int (zI (a))), some (.int (zI (b)))] [.int (zI (1))] n h1 _ _
      refine jz_if_ne (tgt := 35) d_Md_height_26 (by decide) ⟨by decide, by decide⟩ (fun _ => ?_) (fun q9 => absurd q9 (by decide))
      have hh := hM_rg ok 0 (a * 3 + b).toNat
      refine jl_aload_n d_Md_height_35 rfl rfl ?_
      refine jl_iconst (v := zI (0)) d_Md_height_36 (by decide) ?_
      refine jl_iload_n d_Md_height_37 rfl rfl ?_
      refine jl_iload_n d_Md_height_38 rfl rfl ?_
      refine jl_invV (M' := m_Md_tall) (d' := d - 1) (ck' := 0) (sk' := 0) (na := 3) (as := [.int (zI (0)), .int (zI (a)), .int (zI (b))]) (st := []) d_Md_height_39 rfl p0a rfl mw_Md_73 ww_Md_tall sw_Md_tall nw_Md cw_Md_tall rfl rfl rfl (by decide +kernel) (by omega) (Nat.le_of_ble_eq_true rfl) (Nat.le_of_ble_eq_true rfl) ?_
      refine k_M_tall hl9 (by omega) hM1 ⟨by decide, by decide⟩ ⟨by omega, by omega⟩ ⟨by omega, by omega⟩ ?_
      show jl_AW _ _ _ _ _ 42 [some (.ref (u)), some (.int (zI (a))), some (.int (zI (b)))] [.int (zI (hM M 0 (a * 3 + b).toNat))] n h1 _ _
      refine jl_aload_n d_Md_height_42 rfl rfl ?_
      refine jg_6 (q := 5) d_Md_height_43 p0a rfl (by decide) fw_Md_22 ?_
      refine jl_iload_n d_Md_height_46 rfl rfl ?_
      refine jz_zald d_Md_height_47 p5a (by omega) (by omega) (by omega) ?_
      refine jz_if_eq (tgt := 56) d_Md_height_48 (by decide) ⟨by omega, by omega⟩ (fun q3 => ?_) (fun q3 => ?_)
      · refine jl_iconst (v := zI (0)) d_Md_height_56 (by decide) ?_
        refine jz_iadd (v := hM M 0 (a * 3 + b).toNat + 16 * M.cr (a).toNat) d_Md_height_57 (by omega) ?_
        exact jl_iret d_Md_height_58 rfl (hk0 ⟨i1, i2.1, by omega⟩ h1 hM1 hf1)
      · refine jl_bipush (v := zI (16)) d_Md_height_51 (by decide) ?_
        refine jl_goto (tgt := 57) d_Md_height_53 (by decide) ?_
        refine jz_iadd (v := hM M 0 (a * 3 + b).toNat + 16 * M.cr (a).toNat) d_Md_height_57 (by omega) ?_
        exact jl_iret d_Md_height_58 rfl (hk0 ⟨i1, i2.1, by omega⟩ h1 hM1 hf1)
    · show jl_AW _ _ _ _ _ 26 [some (.ref (u)), some (.int (zI (a))), some (.int (zI (b)))] [.int (zI (0))] n h1 _ _
      refine jz_if_ne (tgt := 35) d_Md_height_26 (by decide) ⟨by decide, by decide⟩ (fun q9 => absurd q9 (by decide)) (fun _ => ?_)
      refine jl_aload_n d_Md_height_29 rfl rfl ?_
      refine jl_iconst (v := zI (1)) d_Md_height_30 (by decide) ?_
      refine jl_invV (M' := m_Md_fail) (d' := d - 1) (ck' := 0) (sk' := 0) (na := 1) (as := [.int (zI (1))]) (st := []) d_Md_height_31 rfl p0a rfl mw_Md_65 ww_Md_fail sw_Md_fail nw_Md cw_Md_fail rfl rfl rfl (by decide +kernel) (by omega) (Nat.le_of_ble_eq_true rfl) (Nat.le_of_ble_eq_true rfl) ?_
      refine k_M_fail hl9 (by omega) hM1 (fun h2 hM2 hf2 => ?_)
      show jl_AW _ _ _ _ _ 34 [some (.ref (u)), some (.int (zI (a))), some (.int (zI (b)))] [.int (zI (0))] n h2 _ _
      exact jl_iret d_Md_height_34 rfl (hk1 (fun q => i2 ⟨q.2.1, by omega⟩) h2 hM2 (jfr_tr hf1 hf2))
  · show jl_AW _ _ _ _ _ 10 [some (.ref (u)), some (.int (zI (a))), some (.int (zI (b)))] [.int (zI (1))] n h1 _ _
    refine jz_if_ne (tgt := 29) d_Md_height_10 (by decide) ⟨by decide, by decide⟩ (fun _ => ?_) (fun q9 => absurd q9 (by decide))
    have i1 : ¬ (0 ≤ a ∧ a < M.pe (0 : Int).toNat) := i1
    refine jl_aload_n d_Md_height_29 rfl rfl ?_
    refine jl_iconst (v := zI (1)) d_Md_height_30 (by decide) ?_
    refine jl_invV (M' := m_Md_fail) (d' := d - 1) (ck' := 0) (sk' := 0) (na := 1) (as := [.int (zI (1))]) (st := []) d_Md_height_31 rfl p0a rfl mw_Md_65 ww_Md_fail sw_Md_fail nw_Md cw_Md_fail rfl rfl rfl (by decide +kernel) (by omega) (Nat.le_of_ble_eq_true rfl) (Nat.le_of_ble_eq_true rfl) ?_
    refine k_M_fail hl9 (by omega) hM1 (fun h2 hM2 hf2 => ?_)
    show jl_AW _ _ _ _ _ 34 [some (.ref (u)), some (.int (zI (a))), some (.int (zI (b)))] [.int (zI (0))] n h2 _ _
    exact jl_iret d_Md_height_34 rfl (hk1 (fun q => i1 q.1) h2 hM2 (jfr_tr hf1 hf2))
set_option maxHeartbeats 4000000 in
set_option maxRecDepth 100000 in
theorem k_M_save {l : Launch} {G : jl_G} {d n : Nat} {h : Nat → va_E} {Kr : Option Value → Nat → (Nat → va_E) → Prop} {Kx : String → Nat → (Nat → va_E) → Prop} (hl9 : l.stackTraces = false) (hdd : 2 ≤ d) {u : Nat} {M : MS} {a : Int} (hM9 : jM h u M) (ok : mOk M) (ha : zR a) (hk0 : 0 ≤ a ∧ a ≤ 5 → ¬ M.pe (1 + a).toNat = 0 → ∀ h', jM h' u (cpM (M.wT 0) 0 (1 + a) 16 48) → jfr h h' u (u + 14) → Kr (some (.int (zI (1)))) n h') (hk2 : 0 ≤ a ∧ a ≤ 5 → M.pe (1 + a).toNat = 0 → ∀ h', jM h' u (cpM (M.wT 0) 0 (1 + a) 16 48) → jfr h h' u (u + 14) → Kr (some (.int (zI (0)))) n h') (hk1 : ¬ (0 ≤ a ∧ a ≤ 5) → ∀ h', jM h' u (M.wT 1) → jfr h h' u (u + 14) → Kr (some (.int (zI (0)))) n h') : jl_Call l G m_Md_save d [.ref (u), .int (zI (a))] n h 0 0 Kr Kx := by
  refine jl_enter hl9 (by decide) rfl (by simp [Value.category]) (Nat.le_of_ble_eq_true rfl) ?_
  show jl_AW l G (jl_F G Kr Kx) m_Md_save d 0 [some (.ref (u)), some (.int (zI (a))), none] [] n h 0 0
  obtain ⟨q0, q1, q2, q3, q4, q5, q6, q7, q8, q9, q10, q11, q12, q13⟩ := id (hM9)
  have p0 : h u = jO 6 [.int (zI (M.T)), .ref (u + 1), .ref (u + 2), .ref (u + 3), .ref (u + 4), .ref (u + 5), .int (zI (M.jn)), .int (zI (M.ja)), .int (zI (M.jb)), .ref (u + 6), .ref (u + 7), .int (zI (M.nw)), .int (zI (M.bl)), .int (zI (M.lt)), .int (zI (M.rt)), .ref (u + 8), .ref (u + 9), .ref (u + 10), .ref (u + 11), .ref (u + 12), .ref (u + 13)] := q0
  have p1 : h (u + 1) = jI 8 (fun j9 => zI (M.mo j9)) := q1
  have p2 : h (u + 2) = jI 8 (fun j9 => zI (M.pe j9)) := q2
  have p3 : h (u + 3) = jI 128 (fun j9 => zI (M.co j9)) := q3
  have p4 : h (u + 4) = jI 384 (fun j9 => zI (M.he j9)) := q4
  have p5 : h (u + 5) = jZ 128 (fun j9 => zI (M.cr j9)) := q5
  have p6 : h (u + 6) = jI 16 (fun j9 => zI (M.wy j9)) := q6
  have p7 : h (u + 7) = jI 512 (fun j9 => zI (M.fa j9)) := q7
  have p8 : h (u + 8) = jI 32 (fun j9 => zI (M.la j9)) := q8
  have p9 : h (u + 9) = jI 32 (fun j9 => zI (M.ha j9)) := q9
  have p10 : h (u + 10) = jI 4096 (fun j9 => zI (M.w1 j9)) := q10
  have p11 : h (u + 11) = jI 4096 (fun j9 => zI (M.mr j9)) := q11
  have p12 : h (u + 12) = jI 6 (fun j9 => zI (M.rw j9)) := q12
  have p13 : h (u + 13) = jI 16 (fun j9 => zI (M.tu j9)) := q13
  refine jl_aload_n d_Md_save_0 rfl rfl ?_
  refine jl_iconst (v := zI (0)) d_Md_save_1 (by decide) ?_
  refine jp_6 (q := 0) (ty := .int) d_Md_save_2 p0 (by simp) (by decide) fw_Md_58 rfl (by decide +kernel) (fun _ _ => rfl) (fun _ _ => rfl) (fun h1 eh1 => ?_)
  have eh1 : h1 = va_up h (u) (jO 6 [.int (zI (0)), .ref (u + 1), .ref (u + 2), .ref (u + 3), .ref (u + 4), .ref (u + 5), .int (zI (M.jn)), .int (zI (M.ja)), .int (zI (M.jb)), .ref (u + 6), .ref (u + 7), .int (zI (M.nw)), .int (zI (M.bl)), .int (zI (M.lt)), .int (zI (M.rt)), .ref (u + 8), .ref (u + 9), .ref (u + 10), .ref (u + 11), .ref (u + 12), .ref (u + 13)]) := eh1
  have jf2 : h1 (u) = jO 6 [.int (zI (0)), .ref (u + 1), .ref (u + 2), .ref (u + 3), .ref (u + 4), .ref (u + 5), .int (zI (M.jn)), .int (zI (M.ja)), .int (zI (M.jb)), .ref (u + 6), .ref (u + 7), .int (zI (M.nw)), .int (zI (M.bl)), .int (zI (M.lt)), .int (zI (M.rt)), .ref (u + 8), .ref (u + 9), .ref (u + 10), .ref (u + 11), .ref (u + 12), .ref (u + 13)] := by rw [eh1, va_up_self]
  have jf3 : h1 (u + 1) = jI 8 (fun j9 => zI (M.mo j9)) := by rw [eh1, va_up_ne _ _ (by omega)]; exact p1
  have jf4 : h1 (u + 2) = jI 8 (fun j9 => zI (M.pe j9)) := by rw [eh1, va_up_ne _ _ (by omega)]; exact p2
  have jf5 : h1 (u + 3) = jI 128 (fun j9 => zI (M.co j9)) := by rw [eh1, va_up_ne _ _ (by omega)]; exact p3
  have jf6 : h1 (u + 4) = jI 384 (fun j9 => zI (M.he j9)) := by rw [eh1, va_up_ne _ _ (by omega)]; exact p4
  have jf7 : h1 (u + 5) = jZ 128 (fun j9 => zI (M.cr j9)) := by rw [eh1, va_up_ne _ _ (by omega)]; exact p5
  have jf8 : h1 (u + 6) = jI 16 (fun j9 => zI (M.wy j9)) := by rw [eh1, va_up_ne _ _ (by omega)]; exact p6
  have jf9 : h1 (u + 7) = jI 512 (fun j9 => zI (M.fa j9)) := by rw [eh1, va_up_ne _ _ (by omega)]; exact p7
  have jf10 : h1 (u + 8) = jI 32 (fun j9 => zI (M.la j9)) := by rw [eh1, va_up_ne _ _ (by omega)]; exact p8
  have jf11 : h1 (u + 9) = jI 32 (fun j9 => zI (M.ha j9)) := by rw [eh1, va_up_ne _ _ (by omega)]; exact p9
  have jf12 : h1 (u + 10) = jI 4096 (fun j9 => zI (M.w1 j9)) := by rw [eh1, va_up_ne _ _ (by omega)]; exact p10
  have jf13 : h1 (u + 11) = jI 4096 (fun j9 => zI (M.mr j9)) := by rw [eh1, va_up_ne _ _ (by omega)]; exact p11
  have jf14 : h1 (u + 12) = jI 6 (fun j9 => zI (M.rw j9)) := by rw [eh1, va_up_ne _ _ (by omega)]; exact p12
  have jf15 : h1 (u + 13) = jI 16 (fun j9 => zI (M.tu j9)) := by rw [eh1, va_up_ne _ _ (by omega)]; exact p13
  have hM1 : jM h1 u (M.wT 0) := ⟨jf2, jf3, jf4, jf5, jf6, jf7, jf8, jf9, jf10, jf11, jf12, jf13, jf14, jf15⟩
  have hf1 : jfr h h1 u (u + 14) := (fun y hy => by rw [eh1, va_up_ne _ _ (by omega)])
  obtain ⟨q0a, q1a, q2a, q3a, q4a, q5a, q6a, q7a, q8a, q9a, q10a, q11a, q12a, q13a⟩ := id (hM1)
  have p0a : h1 u = jO 6 [.int (zI (0)), .ref (u + 1), .ref (u + 2), .ref (u + 3), .ref (u + 4), .ref (u + 5), .int (zI (M.jn)), .int (zI (M.ja)), .int (zI (M.jb)), .ref (u + 6), .ref (u + 7), .int (zI (M.nw)), .int (zI (M.bl)), .int (zI (M.lt)), .int (zI (M.rt)), .ref (u + 8), .ref (u + 9), .ref (u + 10), .ref (u + 11), .ref (u + 12), .ref (u + 13)] := q0a
  have p1a : h1 (u + 1) = jI 8 (fun j9 => zI (M.mo j9)) := q1a
  have p2a : h1 (u + 2) = jI 8 (fun j9 => zI (M.pe j9)) := q2a
  have p3a : h1 (u + 3) = jI 128 (fun j9 => zI (M.co j9)) := q3a
  have p4a : h1 (u + 4) = jI 384 (fun j9 => zI (M.he j9)) := q4a
  have p5a : h1 (u + 5) = jZ 128 (fun j9 => zI (M.cr j9)) := q5a
  have p6a : h1 (u + 6) = jI 16 (fun j9 => zI (M.wy j9)) := q6a
  have p7a : h1 (u + 7) = jI 512 (fun j9 => zI (M.fa j9)) := q7a
  have p8a : h1 (u + 8) = jI 32 (fun j9 => zI (M.la j9)) := q8a
  have p9a : h1 (u + 9) = jI 32 (fun j9 => zI (M.ha j9)) := q9a
  have p10a : h1 (u + 10) = jI 4096 (fun j9 => zI (M.w1 j9)) := q10a
  have p11a : h1 (u + 11) = jI 4096 (fun j9 => zI (M.mr j9)) := q11a
  have p12a : h1 (u + 12) = jI 6 (fun j9 => zI (M.rw j9)) := q12a
  have p13a : h1 (u + 13) = jI 16 (fun j9 => zI (M.tu j9)) := q13a
  refine jl_iload_n d_Md_save_5 rfl rfl ?_
  refine jl_iconst (v := zI (0)) d_Md_save_6 (by decide) ?_
  refine jl_iconst (v := zI (5)) d_Md_save_7 (by decide) ?_
  refine jl_invS (M' := m_Md_within) (d' := d - 1) (ck' := 0) (sk' := 0) (na := 3) (as := [.int (zI (a)), .int (zI (0)), .int (zI (5))]) (st := []) d_Md_save_8 rfl mw_Md_61 ww_Md_within nw_Md cw_Md_within rfl rfl rfl (by decide +kernel) (by omega) (Nat.le_of_ble_eq_true rfl) (Nat.le_of_ble_eq_true rfl) ?_
  refine k_M_within hl9 (by omega) ha ⟨by decide, by decide⟩ ⟨by decide, by decide⟩ (fun i1 => ?_) (fun i1 => ?_)
  · show jl_AW _ _ _ _ _ 11 [some (.ref (u)), some (.int (zI (a))), none] [.int (zI (1))] n h1 _ _
    refine jz_if_ne (tgt := 28) d_Md_save_11 (by decide) ⟨by decide, by decide⟩ (fun _ => ?_) (fun q9 => absurd q9 (by decide))
    have hp0 := ok.2.1 (1 + a).toNat
    refine jl_aload_n d_Md_save_28 rfl rfl ?_
    refine jg_6 (q := 2) d_Md_save_29 p0a rfl (by decide) fw_Md_13 ?_
    refine jl_iconst (v := zI (1)) d_Md_save_32 (by decide) ?_
    refine jl_iload_n d_Md_save_33 rfl rfl ?_
    refine jz_iadd (v := 1 + a) d_Md_save_34 (by omega) ?_
    refine jz_iald d_Md_save_35 p2a (by omega) (by omega) (by omega) ?_
    refine jz_if_le (tgt := 43) d_Md_save_36 (by decide) ⟨by omega, by omega⟩ (fun q1 => ?_) (fun q1 => ?_)
    · refine jl_iconst (v := zI (0)) d_Md_save_43 (by decide) ?_
      refine jl_istore_n (L' := [some (.ref (u)), some (.int (zI (a))), some (.int (zI (0)))]) d_Md_save_44 rfl (by decide) rfl ?_
      refine jl_aload_n d_Md_save_45 rfl rfl ?_
      refine jl_iconst (v := zI (0)) d_Md_save_46 (by decide) ?_
      refine jl_iconst (v := zI (1)) d_Md_save_47 (by decide) ?_
      refine jl_iload_n d_Md_save_48 rfl rfl ?_
      refine jz_iadd (v := 1 + a) d_Md_save_49 (by omega) ?_
      refine jl_invV (M' := m_Md_copy) (d' := d - 1) (ck' := 0) (sk' := 0) (na := 2) (as := [.int (zI (0)), .int (zI (1 + a))]) (st := []) d_Md_save_50 rfl p0a rfl mw_Md_100 ww_Md_copy sw_Md_copy nw_Md cw_Md_copy rfl rfl rfl (by decide +kernel) (by omega) (Nat.le_of_ble_eq_true rfl) (Nat.le_of_ble_eq_true rfl) ?_
      refine k_M_copy hl9 (by omega) hM1 ok ⟨by decide, by decide⟩ ⟨by omega, by omega⟩ (by omega) (fun h2 hM2 hf2 => ?_)
      show jl_AW _ _ _ _ _ 53 [some (.ref (u)), some (.int (zI (a))), some (.int (zI (0)))] [] n h2 _ _
      refine jl_iload_n d_Md_save_53 rfl rfl ?_
      exact jl_zret d_Md_save_54 rfl (by decide) (hk2 i1 (by omega) h2 hM2 (jfr_tr hf1 hf2))
    · refine jl_iconst (v := zI (1)) d_Md_save_39 (by decide) ?_
      refine jl_goto (tgt := 44) d_Md_save_40 (by decide) ?_
      refine jl_istore_n (L' := [some (.ref (u)), some (.int (zI (a))), some (.int (zI (1)))]) d_Md_save_44 rfl (by decide) rfl ?_
      refine jl_aload_n d_Md_save_45 rfl rfl ?_
      refine jl_iconst (v := zI (0)) d_Md_save_46 (by decide) ?_
      refine jl_iconst (v := zI (1)) d_Md_save_47 (by decide) ?_
      refine jl_iload_n d_Md_save_48 rfl rfl ?_
      refine jz_iadd (v := 1 + a) d_Md_save_49 (by omega) ?_
      refine jl_invV (M' := m_Md_copy) (d' := d - 1) (ck' := 0) (sk' := 0) (na := 2) (as := [.int (zI (0)), .int (zI (1 + a))]) (st := []) d_Md_save_50 rfl p0a rfl mw_Md_100 ww_Md_copy sw_Md_copy nw_Md cw_Md_copy rfl rfl rfl (by decide +kernel) (by omega) (Nat.le_of_ble_eq_true rfl) (Nat.le_of_ble_eq_true rfl) ?_
      refine k_M_copy hl9 (by omega) hM1 ok ⟨by decide, by decide⟩ ⟨by omega, by omega⟩ (by omega) (fun h2 hM2 hf2 => ?_)
      show jl_AW _ _ _ _ _ 53 [some (.ref (u)), some (.int (zI (a))), some (.int (zI (1)))] [] n h2 _ _
      refine jl_iload_n d_Md_save_53 rfl rfl ?_
      exact jl_zret d_Md_save_54 rfl (by decide) (hk0 i1 (by omega) h2 hM2 (jfr_tr hf1 hf2))
  · show jl_AW _ _ _ _ _ 11 [some (.ref (u)), some (.int (zI (a))), none] [.int (zI (0))] n h1 _ _
    refine jz_if_ne (tgt := 28) d_Md_save_11 (by decide) ⟨by decide, by decide⟩ (fun q9 => absurd q9 (by decide)) (fun _ => ?_)
    refine jl_aload_n d_Md_save_14 rfl rfl ?_
    refine jl_iconst (v := zI (1)) d_Md_save_15 (by decide) ?_
    refine jl_invV (M' := m_Md_fail) (d' := d - 1) (ck' := 0) (sk' := 0) (na := 1) (as := [.int (zI (1))]) (st := []) d_Md_save_16 rfl p0a rfl mw_Md_65 ww_Md_fail sw_Md_fail nw_Md cw_Md_fail rfl rfl rfl (by decide +kernel) (by omega) (Nat.le_of_ble_eq_true rfl) (Nat.le_of_ble_eq_true rfl) ?_
    refine k_M_fail hl9 (by omega) hM1 (fun h2 hM2 hf2 => ?_)
    show jl_AW _ _ _ _ _ 19 [some (.ref (u)), some (.int (zI (a))), none] [.int (zI (0))] n h2 _ _
    refine jz_if_le (tgt := 26) d_Md_save_19 (by decide) ⟨by decide, by decide⟩ (fun _ => ?_) (fun q9 => absurd q9 (by decide))
    refine jl_iconst (v := zI (0)) d_Md_save_26 (by decide) ?_
    exact jl_zret d_Md_save_27 rfl (by decide) (hk1 i1 h2 hM2 (jfr_tr hf1 hf2))
set_option maxHeartbeats 4000000 in
set_option maxRecDepth 100000 in
theorem k_M_load {l : Launch} {G : jl_G} {d n : Nat} {h : Nat → va_E} {Kr : Option Value → Nat → (Nat → va_E) → Prop} {Kx : String → Nat → (Nat → va_E) → Prop} (hl9 : l.stackTraces = false) (hdd : 2 ≤ d) {u : Nat} {M : MS} {a : Int} (hM9 : jM h u M) (ok : mOk M) (ha : zR a) (hk0 : 0 ≤ a ∧ a ≤ 5 → ¬ M.pe (1 + a).toNat = 0 → ∀ h', jM h' u (cpM (M.wT 0) (1 + a) 0 16 48) → jfr h h' u (u + 14) → Kr (some (.int (zI ((cpM (M.wT 0) (1 + a) 0 16 48).pe (0 : Int).toNat)))) n h') (hk2 : 0 ≤ a ∧ a ≤ 5 → M.pe (1 + a).toNat = 0 → ∀ h', jM h' u (M.wT 2) → jfr h h' u (u + 14) → Kr (some (.int (zI (0)))) n h') (hk1 : ¬ (0 ≤ a ∧ a ≤ 5) → ∀ h', jM h' u (M.wT 1) → jfr h h' u (u + 14) → Kr (some (.int (zI (0)))) n h') : jl_Call l G m_Md_load d [.ref (u), .int (zI (a))] n h 0 0 Kr Kx := by
  refine jl_enter hl9 (by decide) rfl (by simp [Value.category]) (Nat.le_of_ble_eq_true rfl) ?_
  show jl_AW l G (jl_F G Kr Kx) m_Md_load d 0 [some (.ref (u)), some (.int (zI (a)))] [] n h 0 0
  obtain ⟨q0, q1, q2, q3, q4, q5, q6, q7, q8, q9, q10, q11, q12, q13⟩ := id (hM9)
  have p0 : h u = jO 6 [.int (zI (M.T)), .ref (u + 1), .ref (u + 2), .ref (u + 3), .ref (u + 4), .ref (u + 5), .int (zI (M.jn)), .int (zI (M.ja)), .int (zI (M.jb)), .ref (u + 6), .ref (u + 7), .int (zI (M.nw)), .int (zI (M.bl)), .int (zI (M.lt)), .int (zI (M.rt)), .ref (u + 8), .ref (u + 9), .ref (u + 10), .ref (u + 11), .ref (u + 12), .ref (u + 13)] := q0
  have p1 : h (u + 1) = jI 8 (fun j9 => zI (M.mo j9)) := q1
  have p2 : h (u + 2) = jI 8 (fun j9 => zI (M.pe j9)) := q2
  have p3 : h (u + 3) = jI 128 (fun j9 => zI (M.co j9)) := q3
  have p4 : h (u + 4) = jI 384 (fun j9 => zI (M.he j9)) := q4
  have p5 : h (u + 5) = jZ 128 (fun j9 => zI (M.cr j9)) := q5
  have p6 : h (u + 6) = jI 16 (fun j9 => zI (M.wy j9)) := q6
  have p7 : h (u + 7) = jI 512 (fun j9 => zI (M.fa j9)) := q7
  have p8 : h (u + 8) = jI 32 (fun j9 => zI (M.la j9)) := q8
  have p9 : h (u + 9) = jI 32 (fun j9 => zI (M.ha j9)) := q9
  have p10 : h (u + 10) = jI 4096 (fun j9 => zI (M.w1 j9)) := q10
  have p11 : h (u + 11) = jI 4096 (fun j9 => zI (M.mr j9)) := q11
  have p12 : h (u + 12) = jI 6 (fun j9 => zI (M.rw j9)) := q12
  have p13 : h (u + 13) = jI 16 (fun j9 => zI (M.tu j9)) := q13
  refine jl_aload_n d_Md_load_0 rfl rfl ?_
  refine jl_iconst (v := zI (0)) d_Md_load_1 (by decide) ?_
  refine jp_6 (q := 0) (ty := .int) d_Md_load_2 p0 (by simp) (by decide) fw_Md_58 rfl (by decide +kernel) (fun _ _ => rfl) (fun _ _ => rfl) (fun h1 eh1 => ?_)
  have eh1 : h1 = va_up h (u) (jO 6 [.int (zI (0)), .ref (u + 1), .ref (u + 2), .ref (u + 3), .ref (u + 4), .ref (u + 5), .int (zI (M.jn)), .int (zI (M.ja)), .int (zI (M.jb)), .ref (u + 6), .ref (u + 7), .int (zI (M.nw)), .int (zI (M.bl)), .int (zI (M.lt)), .int (zI (M.rt)), .ref (u + 8), .ref (u + 9), .ref (u + 10), .ref (u + 11), .ref (u + 12), .ref (u + 13)]) := eh1
  have jf2 : h1 (u) = jO 6 [.int (zI (0)), .ref (u + 1), .ref (u + 2), .ref (u + 3), .ref (u + 4), .ref (u + 5), .int (zI (M.jn)), .int (zI (M.ja)), .int (zI (M.jb)), .ref (u + 6), .ref (u + 7), .int (zI (M.nw)), .int (zI (M.bl)), .int (zI (M.lt)), .int (zI (M.rt)), .ref (u + 8), .ref (u + 9), .ref (u + 10), .ref (u + 11), .ref (u + 12), .ref (u + 13)] := by rw [eh1, va_up_self]
  have jf3 : h1 (u + 1) = jI 8 (fun j9 => zI (M.mo j9)) := by rw [eh1, va_up_ne _ _ (by omega)]; exact p1
  have jf4 : h1 (u + 2) = jI 8 (fun j9 => zI (M.pe j9)) := by rw [eh1, va_up_ne _ _ (by omega)]; exact p2
  have jf5 : h1 (u + 3) = jI 128 (fun j9 => zI (M.co j9)) := by rw [eh1, va_up_ne _ _ (by omega)]; exact p3
  have jf6 : h1 (u + 4) = jI 384 (fun j9 => zI (M.he j9)) := by rw [eh1, va_up_ne _ _ (by omega)]; exact p4
  have jf7 : h1 (u + 5) = jZ 128 (fun j9 => zI (M.cr j9)) := by rw [eh1, va_up_ne _ _ (by omega)]; exact p5
  have jf8 : h1 (u + 6) = jI 16 (fun j9 => zI (M.wy j9)) := by rw [eh1, va_up_ne _ _ (by omega)]; exact p6
  have jf9 : h1 (u + 7) = jI 512 (fun j9 => zI (M.fa j9)) := by rw [eh1, va_up_ne _ _ (by omega)]; exact p7
  have jf10 : h1 (u + 8) = jI 32 (fun j9 => zI (M.la j9)) := by rw [eh1, va_up_ne _ _ (by omega)]; exact p8
  have jf11 : h1 (u + 9) = jI 32 (fun j9 => zI (M.ha j9)) := by rw [eh1, va_up_ne _ _ (by omega)]; exact p9
  have jf12 : h1 (u + 10) = jI 4096 (fun j9 => zI (M.w1 j9)) := by rw [eh1, va_up_ne _ _ (by omega)]; exact p10
  have jf13 : h1 (u + 11) = jI 4096 (fun j9 => zI (M.mr j9)) := by rw [eh1, va_up_ne _ _ (by omega)]; exact p11
  have jf14 : h1 (u + 12) = jI 6 (fun j9 => zI (M.rw j9)) := by rw [eh1, va_up_ne _ _ (by omega)]; exact p12
  have jf15 : h1 (u + 13) = jI 16 (fun j9 => zI (M.tu j9)) := by rw [eh1, va_up_ne _ _ (by omega)]; exact p13
  have hM1 : jM h1 u (M.wT 0) := ⟨jf2, jf3, jf4, jf5, jf6, jf7, jf8, jf9, jf10, jf11, jf12, jf13, jf14, jf15⟩
  have hf1 : jfr h h1 u (u + 14) := (fun y hy => by rw [eh1, va_up_ne _ _ (by omega)])
  obtain ⟨q0a, q1a, q2a, q3a, q4a, q5a, q6a, q7a, q8a, q9a, q10a, q11a, q12a, q13a⟩ := id (hM1)
  have p0a : h1 u = jO 6 [.int (zI (0)), .ref (u + 1), .ref (u + 2), .ref (u + 3), .ref (u + 4), .ref (u + 5), .int (zI (M.jn)), .int (zI (M.ja)), .int (zI (M.jb)), .ref (u + 6), .ref (u + 7), .int (zI (M.nw)), .int (zI (M.bl)), .int (zI (M.lt)), .int (zI (M.rt)), .ref (u + 8), .ref (u + 9), .ref (u + 10), .ref (u + 11), .ref (u + 12), .ref (u + 13)] := q0a
  have p1a : h1 (u + 1) = jI 8 (fun j9 => zI (M.mo j9)) := q1a
  have p2a : h1 (u + 2) = jI 8 (fun j9 => zI (M.pe j9)) := q2a
  have p3a : h1 (u + 3) = jI 128 (fun j9 => zI (M.co j9)) := q3a
  have p4a : h1 (u + 4) = jI 384 (fun j9 => zI (M.he j9)) := q4a
  have p5a : h1 (u + 5) = jZ 128 (fun j9 => zI (M.cr j9)) := q5a
  have p6a : h1 (u + 6) = jI 16 (fun j9 => zI (M.wy j9)) := q6a
  have p7a : h1 (u + 7) = jI 512 (fun j9 => zI (M.fa j9)) := q7a
  have p8a : h1 (u + 8) = jI 32 (fun j9 => zI (M.la j9)) := q8a
  have p9a : h1 (u + 9) = jI 32 (fun j9 => zI (M.ha j9)) := q9a
  have p10a : h1 (u + 10) = jI 4096 (fun j9 => zI (M.w1 j9)) := q10a
  have p11a : h1 (u + 11) = jI 4096 (fun j9 => zI (M.mr j9)) := q11a
  have p12a : h1 (u + 12) = jI 6 (fun j9 => zI (M.rw j9)) := q12a
  have p13a : h1 (u + 13) = jI 16 (fun j9 => zI (M.tu j9)) := q13a
  refine jl_iload_n d_Md_load_5 rfl rfl ?_
  refine jl_iconst (v := zI (0)) d_Md_load_6 (by decide) ?_
  refine jl_iconst (v := zI (5)) d_Md_load_7 (by decide) ?_
  refine jl_invS (M' := m_Md_within) (d' := d - 1) (ck' := 0) (sk' := 0) (na := 3) (as := [.int (zI (a)), .int (zI (0)), .int (zI (5))]) (st := []) d_Md_load_8 rfl mw_Md_61 ww_Md_within nw_Md cw_Md_within rfl rfl rfl (by decide +kernel) (by omega) (Nat.le_of_ble_eq_true rfl) (Nat.le_of_ble_eq_true rfl) ?_
  refine k_M_within hl9 (by omega) ha ⟨by decide, by decide⟩ ⟨by decide, by decide⟩ (fun i1 => ?_) (fun i1 => ?_)
  · show jl_AW _ _ _ _ _ 11 [some (.ref (u)), some (.int (zI (a)))] [.int (zI (1))] n h1 _ _
    refine jz_if_ne (tgt := 20) d_Md_load_11 (by decide) ⟨by decide, by decide⟩ (fun _ => ?_) (fun q9 => absurd q9 (by decide))
    have hp0 := ok.2.1 (1 + a).toNat
    refine jl_aload_n d_Md_load_20 rfl rfl ?_
    refine jg_6 (q := 2) d_Md_load_21 p0a rfl (by decide) fw_Md_13 ?_
    refine jl_iconst (v := zI (1)) d_Md_load_24 (by decide) ?_
    refine jl_iload_n d_Md_load_25 rfl rfl ?_
    refine jz_iadd (v := 1 + a) d_Md_load_26 (by omega) ?_
    refine jz_iald d_Md_load_27 p2a (by omega) (by omega) (by omega) ?_
    refine jz_if_ne (tgt := 37) d_Md_load_28 (by decide) ⟨by omega, by omega⟩ (fun q1 => ?_) (fun q1 => ?_)
    · refine jl_aload_n d_Md_load_37 rfl rfl ?_
      refine jl_iconst (v := zI (1)) d_Md_load_38 (by decide) ?_
      refine jl_iload_n d_Md_load_39 rfl rfl ?_
      refine jz_iadd (v := 1 + a) d_Md_load_40 (by omega) ?_
      refine jl_iconst (v := zI (0)) d_Md_load_41 (by decide) ?_
      refine jl_invV (M' := m_Md_copy) (d' := d - 1) (ck' := 0) (sk' := 0) (na := 2) (as := [.int (zI (1 + a)), .int (zI (0))]) (st := []) d_Md_load_42 rfl p0a rfl mw_Md_100 ww_Md_copy sw_Md_copy nw_Md cw_Md_copy rfl rfl rfl (by decide +kernel) (by omega) (Nat.le_of_ble_eq_true rfl) (Nat.le_of_ble_eq_true rfl) ?_
      refine k_M_copy hl9 (by omega) hM1 ok ⟨by omega, by omega⟩ ⟨by decide, by decide⟩ (by omega) (fun h2 hM2 hf2 => ?_)
      show jl_AW _ _ _ _ _ 45 [some (.ref (u)), some (.int (zI (a)))] [] n h2 _ _
      obtain ⟨q0z, q1z, q2z, q3z, q4z, q5z, q6z, q7z, q8z, q9z, q10z, q11z, q12z, q13z⟩ := id (hM2)
      have p0z : h2 u = jO 6 [.int (zI (0)), .ref (u + 1), .ref (u + 2), .ref (u + 3), .ref (u + 4), .ref (u + 5), .int (zI (M.jn)), .int (zI (M.ja)), .int (zI (M.jb)), .ref (u + 6), .ref (u + 7), .int (zI (M.nw)), .int (zI (M.bl)), .int (zI (M.lt)), .int (zI (M.rt)), .ref (u + 8), .ref (u + 9), .ref (u + 10), .ref (u + 11), .ref (u + 12), .ref (u + 13)] := q0z
      have p1z : h2 (u + 1) = jI 8 (fun j9 => zI (((cpM (M.wT 0) (1 + a) 0 16 48).mo) j9)) := q1z
      have p2z : h2 (u + 2) = jI 8 (fun j9 => zI (((cpM (M.wT 0) (1 + a) 0 16 48).pe) j9)) := q2z
      have p3z : h2 (u + 3) = jI 128 (fun j9 => zI (((cpM (M.wT 0) (1 + a) 0 16 48).co) j9)) := q3z
      have p4z : h2 (u + 4) = jI 384 (fun j9 => zI (((cpM (M.wT 0) (1 + a) 0 16 48).he) j9)) := q4z
      have p5z : h2 (u + 5) = jZ 128 (fun j9 => zI (((cpM (M.wT 0) (1 + a) 0 16 48).cr) j9)) := q5z
      have p6z : h2 (u + 6) = jI 16 (fun j9 => zI (M.wy j9)) := q6z
      have p7z : h2 (u + 7) = jI 512 (fun j9 => zI (M.fa j9)) := q7z
      have p8z : h2 (u + 8) = jI 32 (fun j9 => zI (M.la j9)) := q8z
      have p9z : h2 (u + 9) = jI 32 (fun j9 => zI (M.ha j9)) := q9z
      have p10z : h2 (u + 10) = jI 4096 (fun j9 => zI (M.w1 j9)) := q10z
      have p11z : h2 (u + 11) = jI 4096 (fun j9 => zI (M.mr j9)) := q11z
      have p12z : h2 (u + 12) = jI 6 (fun j9 => zI (M.rw j9)) := q12z
      have p13z : h2 (u + 13) = jI 16 (fun j9 => zI (M.tu j9)) := q13z
      refine jl_aload_n d_Md_load_45 rfl rfl ?_
      refine jg_6 (q := 2) d_Md_load_46 p0z rfl (by decide) fw_Md_13 ?_
      refine jl_iconst (v := zI (0)) d_Md_load_49 (by decide) ?_
      refine jz_iald d_Md_load_50 p2z (by omega) (by omega) (by omega) ?_
      exact jl_iret d_Md_load_51 rfl (hk0 i1 q1 h2 hM2 (jfr_tr hf1 hf2))
    · refine jl_aload_n d_Md_load_31 rfl rfl ?_
      refine jl_iconst (v := zI (2)) d_Md_load_32 (by decide) ?_
      refine jl_invV (M' := m_Md_fail) (d' := d - 1) (ck' := 0) (sk' := 0) (na := 1) (as := [.int (zI (2))]) (st := []) d_Md_load_33 rfl p0a rfl mw_Md_65 ww_Md_fail sw_Md_fail nw_Md cw_Md_fail rfl rfl rfl (by decide +kernel) (by omega) (Nat.le_of_ble_eq_true rfl) (Nat.le_of_ble_eq_true rfl) ?_
      refine k_M_fail hl9 (by omega) hM1 (fun h2 hM2 hf2 => ?_)
      show jl_AW _ _ _ _ _ 36 [some (.ref (u)), some (.int (zI (a)))] [.int (zI (0))] n h2 _ _
      exact jl_iret d_Md_load_36 rfl (hk2 i1 q1 h2 hM2 (jfr_tr hf1 hf2))
  · show jl_AW _ _ _ _ _ 11 [some (.ref (u)), some (.int (zI (a)))] [.int (zI (0))] n h1 _ _
    refine jz_if_ne (tgt := 20) d_Md_load_11 (by decide) ⟨by decide, by decide⟩ (fun q9 => absurd q9 (by decide)) (fun _ => ?_)
    refine jl_aload_n d_Md_load_14 rfl rfl ?_
    refine jl_iconst (v := zI (1)) d_Md_load_15 (by decide) ?_
    refine jl_invV (M' := m_Md_fail) (d' := d - 1) (ck' := 0) (sk' := 0) (na := 1) (as := [.int (zI (1))]) (st := []) d_Md_load_16 rfl p0a rfl mw_Md_65 ww_Md_fail sw_Md_fail nw_Md cw_Md_fail rfl rfl rfl (by decide +kernel) (by omega) (Nat.le_of_ble_eq_true rfl) (Nat.le_of_ble_eq_true rfl) ?_
    refine k_M_fail hl9 (by omega) hM1 (fun h2 hM2 hf2 => ?_)
    show jl_AW _ _ _ _ _ 19 [some (.ref (u)), some (.int (zI (a)))] [.int (zI (0))] n h2 _ _
    exact jl_iret d_Md_load_19 rfl (hk1 i1 h2 hM2 (jfr_tr hf1 hf2))
set_option maxHeartbeats 4000000 in
set_option maxRecDepth 100000 in
theorem k_M_joinThrow {l : Launch} {G : jl_G} {d n : Nat} {h : Nat → va_E} {Kr : Option Value → Nat → (Nat → va_E) → Prop} {Kx : String → Nat → (Nat → va_E) → Prop} (hl9 : l.stackTraces = false) (hdd : 1 ≤ d) {u : Nat} {M : MS} {a : Int} (hM9 : jM h u M) (ha : zR a) (hjn : -1 ≤ M.jn ∧ M.jn ≤ 16) (hk0 : 0 ≤ a ∧ a < M.jn → ∀ h', jM h' u (M.wT 0) → jfr h h' u (u + 14) → Kr (some (.int (zI (M.wy (a).toNat)))) n h') (hk1 : ¬ (0 ≤ a ∧ a < M.jn) → ∀ h', jM h' u (M.wT 1) → jfr h h' u (u + 14) → Kr (some (.int (zI (0)))) n h') : jl_Call l G m_Md_joinThrow d [.ref (u), .int (zI (a))] n h 0 0 Kr Kx := by
  refine jl_enter hl9 (by decide) rfl (by simp [Value.category]) (Nat.le_of_ble_eq_true rfl) ?_
  show jl_AW l G (jl_F G Kr Kx) m_Md_joinThrow d 0 [some (.ref (u)), some (.int (zI (a)))] [] n h 0 0
  obtain ⟨q0, q1, q2, q3, q4, q5, q6, q7, q8, q9, q10, q11, q12, q13⟩ := id (hM9)
  have p0 : h u = jO 6 [.int (zI (M.T)), .ref (u + 1), .ref (u + 2), .ref (u + 3), .ref (u + 4), .ref (u + 5), .int (zI (M.jn)), .int (zI (M.ja)), .int (zI (M.jb)), .ref (u + 6), .ref (u + 7), .int (zI (M.nw)), .int (zI (M.bl)), .int (zI (M.lt)), .int (zI (M.rt)), .ref (u + 8), .ref (u + 9), .ref (u + 10), .ref (u + 11), .ref (u + 12), .ref (u + 13)] := q0
  have p1 : h (u + 1) = jI 8 (fun j9 => zI (M.mo j9)) := q1
  have p2 : h (u + 2) = jI 8 (fun j9 => zI (M.pe j9)) := q2
  have p3 : h (u + 3) = jI 128 (fun j9 => zI (M.co j9)) := q3
  have p4 : h (u + 4) = jI 384 (fun j9 => zI (M.he j9)) := q4
  have p5 : h (u + 5) = jZ 128 (fun j9 => zI (M.cr j9)) := q5
  have p6 : h (u + 6) = jI 16 (fun j9 => zI (M.wy j9)) := q6
  have p7 : h (u + 7) = jI 512 (fun j9 => zI (M.fa j9)) := q7
  have p8 : h (u + 8) = jI 32 (fun j9 => zI (M.la j9)) := q8
  have p9 : h (u + 9) = jI 32 (fun j9 => zI (M.ha j9)) := q9
  have p10 : h (u + 10) = jI 4096 (fun j9 => zI (M.w1 j9)) := q10
  have p11 : h (u + 11) = jI 4096 (fun j9 => zI (M.mr j9)) := q11
  have p12 : h (u + 12) = jI 6 (fun j9 => zI (M.rw j9)) := q12
  have p13 : h (u + 13) = jI 16 (fun j9 => zI (M.tu j9)) := q13
  refine jl_aload_n d_Md_joinThrow_0 rfl rfl ?_
  refine jl_iconst (v := zI (0)) d_Md_joinThrow_1 (by decide) ?_
  refine jp_6 (q := 0) (ty := .int) d_Md_joinThrow_2 p0 (by simp) (by decide) fw_Md_58 rfl (by decide +kernel) (fun _ _ => rfl) (fun _ _ => rfl) (fun h1 eh1 => ?_)
  have eh1 : h1 = va_up h (u) (jO 6 [.int (zI (0)), .ref (u + 1), .ref (u + 2), .ref (u + 3), .ref (u + 4), .ref (u + 5), .int (zI (M.jn)), .int (zI (M.ja)), .int (zI (M.jb)), .ref (u + 6), .ref (u + 7), .int (zI (M.nw)), .int (zI (M.bl)), .int (zI (M.lt)), .int (zI (M.rt)), .ref (u + 8), .ref (u + 9), .ref (u + 10), .ref (u + 11), .ref (u + 12), .ref (u + 13)]) := eh1
  have jf2 : h1 (u) = jO 6 [.int (zI (0)), .ref (u + 1), .ref (u + 2), .ref (u + 3), .ref (u + 4), .ref (u + 5), .int (zI (M.jn)), .int (zI (M.ja)), .int (zI (M.jb)), .ref (u + 6), .ref (u + 7), .int (zI (M.nw)), .int (zI (M.bl)), .int (zI (M.lt)), .int (zI (M.rt)), .ref (u + 8), .ref (u + 9), .ref (u + 10), .ref (u + 11), .ref (u + 12), .ref (u + 13)] := by rw [eh1, va_up_self]
  have jf3 : h1 (u + 1) = jI 8 (fun j9 => zI (M.mo j9)) := by rw [eh1, va_up_ne _ _ (by omega)]; exact p1
  have jf4 : h1 (u + 2) = jI 8 (fun j9 => zI (M.pe j9)) := by rw [eh1, va_up_ne _ _ (by omega)]; exact p2
  have jf5 : h1 (u + 3) = jI 128 (fun j9 => zI (M.co j9)) := by rw [eh1, va_up_ne _ _ (by omega)]; exact p3
  have jf6 : h1 (u + 4) = jI 384 (fun j9 => zI (M.he j9)) := by rw [eh1, va_up_ne _ _ (by omega)]; exact p4
  have jf7 : h1 (u + 5) = jZ 128 (fun j9 => zI (M.cr j9)) := by rw [eh1, va_up_ne _ _ (by omega)]; exact p5
  have jf8 : h1 (u + 6) = jI 16 (fun j9 => zI (M.wy j9)) := by rw [eh1, va_up_ne _ _ (by omega)]; exact p6
  have jf9 : h1 (u + 7) = jI 512 (fun j9 => zI (M.fa j9)) := by rw [eh1, va_up_ne _ _ (by omega)]; exact p7
  have jf10 : h1 (u + 8) = jI 32 (fun j9 => zI (M.la j9)) := by rw [eh1, va_up_ne _ _ (by omega)]; exact p8
  have jf11 : h1 (u + 9) = jI 32 (fun j9 => zI (M.ha j9)) := by rw [eh1, va_up_ne _ _ (by omega)]; exact p9
  have jf12 : h1 (u + 10) = jI 4096 (fun j9 => zI (M.w1 j9)) := by rw [eh1, va_up_ne _ _ (by omega)]; exact p10
  have jf13 : h1 (u + 11) = jI 4096 (fun j9 => zI (M.mr j9)) := by rw [eh1, va_up_ne _ _ (by omega)]; exact p11
  have jf14 : h1 (u + 12) = jI 6 (fun j9 => zI (M.rw j9)) := by rw [eh1, va_up_ne _ _ (by omega)]; exact p12
  have jf15 : h1 (u + 13) = jI 16 (fun j9 => zI (M.tu j9)) := by rw [eh1, va_up_ne _ _ (by omega)]; exact p13
  have hM1 : jM h1 u (M.wT 0) := ⟨jf2, jf3, jf4, jf5, jf6, jf7, jf8, jf9, jf10, jf11, jf12, jf13, jf14, jf15⟩
  have hf1 : jfr h h1 u (u + 14) := (fun y hy => by rw [eh1, va_up_ne _ _ (by omega)])
  obtain ⟨q0a, q1a, q2a, q3a, q4a, q5a, q6a, q7a, q8a, q9a, q10a, q11a, q12a, q13a⟩ := id (hM1)
  have p0a : h1 u = jO 6 [.int (zI (0)), .ref (u + 1), .ref (u + 2), .ref (u + 3), .ref (u + 4), .ref (u + 5), .int (zI (M.jn)), .int (zI (M.ja)), .int (zI (M.jb)), .ref (u + 6), .ref (u + 7), .int (zI (M.nw)), .int (zI (M.bl)), .int (zI (M.lt)), .int (zI (M.rt)), .ref (u + 8), .ref (u + 9), .ref (u + 10), .ref (u + 11), .ref (u + 12), .ref (u + 13)] := q0a
  have p1a : h1 (u + 1) = jI 8 (fun j9 => zI (M.mo j9)) := q1a
  have p2a : h1 (u + 2) = jI 8 (fun j9 => zI (M.pe j9)) := q2a
  have p3a : h1 (u + 3) = jI 128 (fun j9 => zI (M.co j9)) := q3a
  have p4a : h1 (u + 4) = jI 384 (fun j9 => zI (M.he j9)) := q4a
  have p5a : h1 (u + 5) = jZ 128 (fun j9 => zI (M.cr j9)) := q5a
  have p6a : h1 (u + 6) = jI 16 (fun j9 => zI (M.wy j9)) := q6a
  have p7a : h1 (u + 7) = jI 512 (fun j9 => zI (M.fa j9)) := q7a
  have p8a : h1 (u + 8) = jI 32 (fun j9 => zI (M.la j9)) := q8a
  have p9a : h1 (u + 9) = jI 32 (fun j9 => zI (M.ha j9)) := q9a
  have p10a : h1 (u + 10) = jI 4096 (fun j9 => zI (M.w1 j9)) := q10a
  have p11a : h1 (u + 11) = jI 4096 (fun j9 => zI (M.mr j9)) := q11a
  have p12a : h1 (u + 12) = jI 6 (fun j9 => zI (M.rw j9)) := q12a
  have p13a : h1 (u + 13) = jI 16 (fun j9 => zI (M.tu j9)) := q13a
  refine jl_iload_n d_Md_joinThrow_5 rfl rfl ?_
  refine jl_iconst (v := zI (0)) d_Md_joinThrow_6 (by decide) ?_
  refine jl_aload_n d_Md_joinThrow_7 rfl rfl ?_
  refine jg_6 (q := 6) d_Md_joinThrow_8 p0a rfl (by decide) fw_Md_26 ?_
  refine jl_iconst (v := zI (1)) d_Md_joinThrow_11 (by decide) ?_
  refine jz_isub (v := (M.jn) - (1)) d_Md_joinThrow_12 rfl ?_
  refine jl_invS (M' := m_Md_within) (d' := d - 1) (ck' := 0) (sk' := 0) (na := 3) (as := [.int (zI (a)), .int (zI (0)), .int (zI ((M.jn) - (1)))]) (st := []) d_Md_joinThrow_13 rfl mw_Md_61 ww_Md_within nw_Md cw_Md_within rfl rfl rfl (by decide +kernel) (by omega) (Nat.le_of_ble_eq_true rfl) (Nat.le_of_ble_eq_true rfl) ?_
  refine k_M_within hl9 (by omega) ha ⟨by decide, by decide⟩ ⟨by omega, by omega⟩ (fun i1 => ?_) (fun i1 => ?_)
  · show jl_AW _ _ _ _ _ 16 [some (.ref (u)), some (.int (zI (a)))] [.int (zI (1))] n h1 _ _
    refine jz_if_eq (tgt := 28) d_Md_joinThrow_16 (by decide) ⟨by decide, by decide⟩ (fun q9 => absurd q9 (by decide)) (fun _ => ?_)
    refine jl_aload_n d_Md_joinThrow_19 rfl rfl ?_
    refine jg_6 (q := 9) d_Md_joinThrow_20 p0a rfl (by decide) fw_Md_30 ?_
    refine jl_iload_n d_Md_joinThrow_23 rfl rfl ?_
    refine jz_iald d_Md_joinThrow_24 p6a (by omega) (by omega) (by omega) ?_
    refine jl_goto (tgt := 33) d_Md_joinThrow_25 (by decide) ?_
    exact jl_iret d_Md_joinThrow_33 rfl (hk0 ⟨i1.1, by omega⟩ h1 hM1 hf1)
  · show jl_AW _ _ _ _ _ 16 [some (.ref (u)), some (.int (zI (a)))] [.int (zI (0))] n h1 _ _
    refine jz_if_eq (tgt := 28) d_Md_joinThrow_16 (by decide) ⟨by decide, by decide⟩ (fun _ => ?_) (fun q9 => absurd q9 (by decide))
    refine jl_aload_n d_Md_joinThrow_28 rfl rfl ?_
    refine jl_iconst (v := zI (1)) d_Md_joinThrow_29 (by decide) ?_
    refine jl_invV (M' := m_Md_fail) (d' := d - 1) (ck' := 0) (sk' := 0) (na := 1) (as := [.int (zI (1))]) (st := []) d_Md_joinThrow_30 rfl p0a rfl mw_Md_65 ww_Md_fail sw_Md_fail nw_Md cw_Md_fail rfl rfl rfl (by decide +kernel) (by omega) (Nat.le_of_ble_eq_true rfl) (Nat.le_of_ble_eq_true rfl) ?_
    refine k_M_fail hl9 (by omega) hM1 (fun h2 hM2 hf2 => ?_)
    show jl_AW _ _ _ _ _ 33 [some (.ref (u)), some (.int (zI (a)))] [.int (zI (0))] n h2 _ _
    exact jl_iret d_Md_joinThrow_33 rfl (hk1 (fun q => i1 ⟨q.1, by omega⟩) h2 hM2 (jfr_tr hf1 hf2))
set_option maxHeartbeats 4000000 in
set_option maxRecDepth 100000 in
theorem k_M_joinAt {l : Launch} {G : jl_G} {d n : Nat} {h : Nat → va_E} {Kr : Option Value → Nat → (Nat → va_E) → Prop} {Kx : String → Nat → (Nat → va_E) → Prop} (hl9 : l.stackTraces = false) (hdd : 1 ≤ d) {u : Nat} {M : MS} {a : Int} (hM9 : jM h u M) (ha : zR a) (hjn : -1 ≤ M.jn ∧ M.jn ≤ 16) (hk0 : (0 ≤ a ∧ a ≤ 1) ∧ 0 ≤ M.jn → a = 0 → ∀ h', jM h' u (M.wT 0) → jfr h h' u (u + 14) → Kr (some (.int (zI (M.ja)))) n h') (hk2 : (0 ≤ a ∧ a ≤ 1) ∧ 0 ≤ M.jn → ¬ a = 0 → ∀ h', jM h' u (M.wT 0) → jfr h h' u (u + 14) → Kr (some (.int (zI (M.jb)))) n h') (hk1 : ¬ ((0 ≤ a ∧ a ≤ 1) ∧ 0 ≤ M.jn) → ∀ h', jM h' u (M.wT 1) → jfr h h' u (u + 14) → Kr (some (.int (zI (0)))) n h') : jl_Call l G m_Md_joinAt d [.ref (u), .int (zI (a))] n h 0 0 Kr Kx := by
  refine jl_enter hl9 (by decide) rfl (by simp [Value.category]) (Nat.le_of_ble_eq_true rfl) ?_
  show jl_AW l G (jl_F G Kr Kx) m_Md_joinAt d 0 [some (.ref (u)), some (.int (zI (a)))] [] n h 0 0
  obtain ⟨q0, q1, q2, q3, q4, q5, q6, q7, q8, q9, q10, q11, q12, q13⟩ := id (hM9)
  have p0 : h u = jO 6 [.int (zI (M.T)), .ref (u + 1), .ref (u + 2), .ref (u + 3), .ref (u + 4), .ref (u + 5), .int (zI (M.jn)), .int (zI (M.ja)), .int (zI (M.jb)), .ref (u + 6), .ref (u + 7), .int (zI (M.nw)), .int (zI (M.bl)), .int (zI (M.lt)), .int (zI (M.rt)), .ref (u + 8), .ref (u + 9), .ref (u + 10), .ref (u + 11), .ref (u + 12), .ref (u + 13)] := q0
  have p1 : h (u + 1) = jI 8 (fun j9 => zI (M.mo j9)) := q1
  have p2 : h (u + 2) = jI 8 (fun j9 => zI (M.pe j9)) := q2
  have p3 : h (u + 3) = jI 128 (fun j9 => zI (M.co j9)) := q3
  have p4 : h (u + 4) = jI 384 (fun j9 => zI (M.he j9)) := q4
  have p5 : h (u + 5) = jZ 128 (fun j9 => zI (M.cr j9)) := q5
  have p6 : h (u + 6) = jI 16 (fun j9 => zI (M.wy j9)) := q6
  have p7 : h (u + 7) = jI 512 (fun j9 => zI (M.fa j9)) := q7
  have p8 : h (u + 8) = jI 32 (fun j9 => zI (M.la j9)) := q8
  have p9 : h (u + 9) = jI 32 (fun j9 => zI (M.ha j9)) := q9
  have p10 : h (u + 10) = jI 4096 (fun j9 => zI (M.w1 j9)) := q10
  have p11 : h (u + 11) = jI 4096 (fun j9 => zI (M.mr j9)) := q11
  have p12 : h (u + 12) = jI 6 (fun j9 => zI (M.rw j9)) := q12
  have p13 : h (u + 13) = jI 16 (fun j9 => zI (M.tu j9)) := q13
  refine jl_aload_n d_Md_joinAt_0 rfl rfl ?_
  refine jl_iconst (v := zI (0)) d_Md_joinAt_1 (by decide) ?_
  refine jp_6 (q := 0) (ty := .int) d_Md_joinAt_2 p0 (by simp) (by decide) fw_Md_58 rfl (by decide +kernel) (fun _ _ => rfl) (fun _ _ => rfl) (fun h1 eh1 => ?_)
  have eh1 : h1 = va_up h (u) (jO 6 [.int (zI (0)), .ref (u + 1), .ref (u + 2), .ref (u + 3), .ref (u + 4), .ref (u + 5), .int (zI (M.jn)), .int (zI (M.ja)), .int (zI (M.jb)), .ref (u + 6), .ref (u + 7), .int (zI (M.nw)), .int (zI (M.bl)), .int (zI (M.lt)), .int (zI (M.rt)), .ref (u + 8), .ref (u + 9), .ref (u + 10), .ref (u + 11), .ref (u + 12), .ref (u + 13)]) := eh1
  have jf2 : h1 (u) = jO 6 [.int (zI (0)), .ref (u + 1), .ref (u + 2), .ref (u + 3), .ref (u + 4), .ref (u + 5), .int (zI (M.jn)), .int (zI (M.ja)), .int (zI (M.jb)), .ref (u + 6), .ref (u + 7), .int (zI (M.nw)), .int (zI (M.bl)), .int (zI (M.lt)), .int (zI (M.rt)), .ref (u + 8), .ref (u + 9), .ref (u + 10), .ref (u + 11), .ref (u + 12), .ref (u + 13)] := by rw [eh1, va_up_self]
  have jf3 : h1 (u + 1) = jI 8 (fun j9 => zI (M.mo j9)) := by rw [eh1, va_up_ne _ _ (by omega)]; exact p1
  have jf4 : h1 (u + 2) = jI 8 (fun j9 => zI (M.pe j9)) := by rw [eh1, va_up_ne _ _ (by omega)]; exact p2
  have jf5 : h1 (u + 3) = jI 128 (fun j9 => zI (M.co j9)) := by rw [eh1, va_up_ne _ _ (by omega)]; exact p3
  have jf6 : h1 (u + 4) = jI 384 (fun j9 => zI (M.he j9)) := by rw [eh1, va_up_ne _ _ (by omega)]; exact p4
  have jf7 : h1 (u + 5) = jZ 128 (fun j9 => zI (M.cr j9)) := by rw [eh1, va_up_ne _ _ (by omega)]; exact p5
  have jf8 : h1 (u + 6) = jI 16 (fun j9 => zI (M.wy j9)) := by rw [eh1, va_up_ne _ _ (by omega)]; exact p6
  have jf9 : h1 (u + 7) = jI 512 (fun j9 => zI (M.fa j9)) := by rw [eh1, va_up_ne _ _ (by omega)]; exact p7
  have jf10 : h1 (u + 8) = jI 32 (fun j9 => zI (M.la j9)) := by rw [eh1, va_up_ne _ _ (by omega)]; exact p8
  have jf11 : h1 (u + 9) = jI 32 (fun j9 => zI (M.ha j9)) := by rw [eh1, va_up_ne _ _ (by omega)]; exact p9
  have jf12 : h1 (u + 10) = jI 4096 (fun j9 => zI (M.w1 j9)) := by rw [eh1, va_up_ne _ _ (by omega)]; exact p10
  have jf13 : h1 (u + 11) = jI 4096 (fun j9 => zI (M.mr j9)) := by rw [eh1, va_up_ne _ _ (by omega)]; exact p11
  have jf14 : h1 (u + 12) = jI 6 (fun j9 => zI (M.rw j9)) := by rw [eh1, va_up_ne _ _ (by omega)]; exact p12
  have jf15 : h1 (u + 13) = jI 16 (fun j9 => zI (M.tu j9)) := by rw [eh1, va_up_ne _ _ (by omega)]; exact p13
  have hM1 : jM h1 u (M.wT 0) := ⟨jf2, jf3, jf4, jf5, jf6, jf7, jf8, jf9, jf10, jf11, jf12, jf13, jf14, jf15⟩
  have hf1 : jfr h h1 u (u + 14) := (fun y hy => by rw [eh1, va_up_ne _ _ (by omega)])
  obtain ⟨q0a, q1a, q2a, q3a, q4a, q5a, q6a, q7a, q8a, q9a, q10a, q11a, q12a, q13a⟩ := id (hM1)
  have p0a : h1 u = jO 6 [.int (zI (0)), .ref (u + 1), .ref (u + 2), .ref (u + 3), .ref (u + 4), .ref (u + 5), .int (zI (M.jn)), .int (zI (M.ja)), .int (zI (M.jb)), .ref (u + 6), .ref (u + 7), .int (zI (M.nw)), .int (zI (M.bl)), .int (zI (M.lt)), .int (zI (M.rt)), .ref (u + 8), .ref (u + 9), .ref (u + 10), .ref (u + 11), .ref (u + 12), .ref (u + 13)] := q0a
  have p1a : h1 (u + 1) = jI 8 (fun j9 => zI (M.mo j9)) := q1a
  have p2a : h1 (u + 2) = jI 8 (fun j9 => zI (M.pe j9)) := q2a
  have p3a : h1 (u + 3) = jI 128 (fun j9 => zI (M.co j9)) := q3a
  have p4a : h1 (u + 4) = jI 384 (fun j9 => zI (M.he j9)) := q4a
  have p5a : h1 (u + 5) = jZ 128 (fun j9 => zI (M.cr j9)) := q5a
  have p6a : h1 (u + 6) = jI 16 (fun j9 => zI (M.wy j9)) := q6a
  have p7a : h1 (u + 7) = jI 512 (fun j9 => zI (M.fa j9)) := q7a
  have p8a : h1 (u + 8) = jI 32 (fun j9 => zI (M.la j9)) := q8a
  have p9a : h1 (u + 9) = jI 32 (fun j9 => zI (M.ha j9)) := q9a
  have p10a : h1 (u + 10) = jI 4096 (fun j9 => zI (M.w1 j9)) := q10a
  have p11a : h1 (u + 11) = jI 4096 (fun j9 => zI (M.mr j9)) := q11a
  have p12a : h1 (u + 12) = jI 6 (fun j9 => zI (M.rw j9)) := q12a
  have p13a : h1 (u + 13) = jI 16 (fun j9 => zI (M.tu j9)) := q13a
  refine jl_iload_n d_Md_joinAt_5 rfl rfl ?_
  refine jl_iconst (v := zI (0)) d_Md_joinAt_6 (by decide) ?_
  refine jl_iconst (v := zI (1)) d_Md_joinAt_7 (by decide) ?_
  refine jl_invS (M' := m_Md_within) (d' := d - 1) (ck' := 0) (sk' := 0) (na := 3) (as := [.int (zI (a)), .int (zI (0)), .int (zI (1))]) (st := []) d_Md_joinAt_8 rfl mw_Md_61 ww_Md_within nw_Md cw_Md_within rfl rfl rfl (by decide +kernel) (by omega) (Nat.le_of_ble_eq_true rfl) (Nat.le_of_ble_eq_true rfl) ?_
  refine k_M_within hl9 (by omega) ha ⟨by decide, by decide⟩ ⟨by decide, by decide⟩ (fun i1 => ?_) (fun i1 => ?_)
  · show jl_AW _ _ _ _ _ 11 [some (.ref (u)), some (.int (zI (a)))] [.int (zI (1))] n h1 _ _
    refine jz_if_eq (tgt := 21) d_Md_joinAt_11 (by decide) ⟨by decide, by decide⟩ (fun q9 => absurd q9 (by decide)) (fun _ => ?_)
    refine jl_aload_n d_Md_joinAt_14 rfl rfl ?_
    refine jg_6 (q := 6) d_Md_joinAt_15 p0a rfl (by decide) fw_Md_26 ?_
    refine jz_if_ge (tgt := 27) d_Md_joinAt_18 (by decide) ⟨by omega, by omega⟩ (fun q1 => ?_) (fun q1 => ?_)
    · refine jl_iload_n d_Md_joinAt_27 rfl rfl ?_
      refine jz_if_ne (tgt := 38) d_Md_joinAt_28 (by decide) ⟨by omega, by omega⟩ (fun q2 => ?_) (fun q2 => ?_)
      · refine jl_aload_n d_Md_joinAt_38 rfl rfl ?_
        refine jg_6 (q := 8) d_Md_joinAt_39 p0a rfl (by decide) fw_Md_114 ?_
        exact jl_iret d_Md_joinAt_42 rfl (hk2 ⟨i1, by omega⟩ q2 h1 hM1 hf1)
      · refine jl_aload_n d_Md_joinAt_31 rfl rfl ?_
        refine jg_6 (q := 7) d_Md_joinAt_32 p0a rfl (by decide) fw_Md_111 ?_
        refine jl_goto (tgt := 42) d_Md_joinAt_35 (by decide) ?_
        exact jl_iret d_Md_joinAt_42 rfl (hk0 ⟨i1, by omega⟩ q2 h1 hM1 hf1)
    · refine jl_aload_n d_Md_joinAt_21 rfl rfl ?_
      refine jl_iconst (v := zI (1)) d_Md_joinAt_22 (by decide) ?_
      refine jl_invV (M' := m_Md_fail) (d' := d - 1) (ck' := 0) (sk' := 0) (na := 1) (as := [.int (zI (1))]) (st := []) d_Md_joinAt_23 rfl p0a rfl mw_Md_65 ww_Md_fail sw_Md_fail nw_Md cw_Md_fail rfl rfl rfl (by decide +kernel) (by omega) (Nat.le_of_ble_eq_true rfl) (Nat.le_of_ble_eq_true rfl) ?_
      refine k_M_fail hl9 (by omega) hM1 (fun h2 hM2 hf2 => ?_)
      show jl_AW _ _ _ _ _ 26 [some (.ref (u)), some (.int (zI (a)))] [.int (zI (0))] n h2 _ _
      exact jl_iret d_Md_joinAt_26 rfl (hk1 (fun q => by omega) h2 hM2 (jfr_tr hf1 hf2))
  · show jl_AW _ _ _ _ _ 11 [some (.ref (u)), some (.int (zI (a)))] [.int (zI (0))] n h1 _ _
    refine jz_if_eq (tgt := 21) d_Md_joinAt_11 (by decide) ⟨by decide, by decide⟩ (fun _ => ?_) (fun q9 => absurd q9 (by decide))
    refine jl_aload_n d_Md_joinAt_21 rfl rfl ?_
    refine jl_iconst (v := zI (1)) d_Md_joinAt_22 (by decide) ?_
    refine jl_invV (M' := m_Md_fail) (d' := d - 1) (ck' := 0) (sk' := 0) (na := 1) (as := [.int (zI (1))]) (st := []) d_Md_joinAt_23 rfl p0a rfl mw_Md_65 ww_Md_fail sw_Md_fail nw_Md cw_Md_fail rfl rfl rfl (by decide +kernel) (by omega) (Nat.le_of_ble_eq_true rfl) (Nat.le_of_ble_eq_true rfl) ?_
    refine k_M_fail hl9 (by omega) hM1 (fun h2 hM2 hf2 => ?_)
    show jl_AW _ _ _ _ _ 26 [some (.ref (u)), some (.int (zI (a)))] [.int (zI (0))] n h2 _ _
    exact jl_iret d_Md_joinAt_26 rfl (hk1 (fun q => i1 q.1) h2 hM2 (jfr_tr hf1 hf2))
set_option maxHeartbeats 4000000 in
set_option maxRecDepth 100000 in
theorem k_M_ball {l : Launch} {G : jl_G} {d n : Nat} {h : Nat → va_E} {Kr : Option Value → Nat → (Nat → va_E) → Prop} {Kx : String → Nat → (Nat → va_E) → Prop} (hl9 : l.stackTraces = false) (hdd : 1 ≤ d) {u : Nat} {M : MS} {a : Int} (hM9 : jM h u M) (ha : zR a) (hbl : 0 ≤ M.bl ∧ M.bl ≤ 27) (hk0 : 0 ≤ a ∧ a < M.bl → ∀ h', jM h' u (M.wT 0) → jfr h h' u (u + 14) → Kr (some (.int (zI (M.la (a).toNat - M.nw)))) n h') (hk1 : ¬ (0 ≤ a ∧ a < M.bl) → ∀ h', jM h' u (M.wT 1) → jfr h h' u (u + 14) → Kr (some (.int (zI (0)))) n h') : jl_Call l G m_Md_ball d [.ref (u), .int (zI (a))] n h 0 0 Kr Kx := by
  refine jl_enter hl9 (by decide) rfl (by simp [Value.category]) (Nat.le_of_ble_eq_true rfl) ?_
  show jl_AW l G (jl_F G Kr Kx) m_Md_ball d 0 [some (.ref (u)), some (.int (zI (a)))] [] n h 0 0
  obtain ⟨q0, q1, q2, q3, q4, q5, q6, q7, q8, q9, q10, q11, q12, q13⟩ := id (hM9)
  have p0 : h u = jO 6 [.int (zI (M.T)), .ref (u + 1), .ref (u + 2), .ref (u + 3), .ref (u + 4), .ref (u + 5), .int (zI (M.jn)), .int (zI (M.ja)), .int (zI (M.jb)), .ref (u + 6), .ref (u + 7), .int (zI (M.nw)), .int (zI (M.bl)), .int (zI (M.lt)), .int (zI (M.rt)), .ref (u + 8), .ref (u + 9), .ref (u + 10), .ref (u + 11), .ref (u + 12), .ref (u + 13)] := q0
  have p1 : h (u + 1) = jI 8 (fun j9 => zI (M.mo j9)) := q1
  have p2 : h (u + 2) = jI 8 (fun j9 => zI (M.pe j9)) := q2
  have p3 : h (u + 3) = jI 128 (fun j9 => zI (M.co j9)) := q3
  have p4 : h (u + 4) = jI 384 (fun j9 => zI (M.he j9)) := q4
  have p5 : h (u + 5) = jZ 128 (fun j9 => zI (M.cr j9)) := q5
  have p6 : h (u + 6) = jI 16 (fun j9 => zI (M.wy j9)) := q6
  have p7 : h (u + 7) = jI 512 (fun j9 => zI (M.fa j9)) := q7
  have p8 : h (u + 8) = jI 32 (fun j9 => zI (M.la j9)) := q8
  have p9 : h (u + 9) = jI 32 (fun j9 => zI (M.ha j9)) := q9
  have p10 : h (u + 10) = jI 4096 (fun j9 => zI (M.w1 j9)) := q10
  have p11 : h (u + 11) = jI 4096 (fun j9 => zI (M.mr j9)) := q11
  have p12 : h (u + 12) = jI 6 (fun j9 => zI (M.rw j9)) := q12
  have p13 : h (u + 13) = jI 16 (fun j9 => zI (M.tu j9)) := q13
  refine jl_aload_n d_Md_ball_0 rfl rfl ?_
  refine jl_iconst (v := zI (0)) d_Md_ball_1 (by decide) ?_
  refine jp_6 (q := 0) (ty := .int) d_Md_ball_2 p0 (by simp) (by decide) fw_Md_58 rfl (by decide +kernel) (fun _ _ => rfl) (fun _ _ => rfl) (fun h1 eh1 => ?_)
  have eh1 : h1 = va_up h (u) (jO 6 [.int (zI (0)), .ref (u + 1), .ref (u + 2), .ref (u + 3), .ref (u + 4), .ref (u + 5), .int (zI (M.jn)), .int (zI (M.ja)), .int (zI (M.jb)), .ref (u + 6), .ref (u + 7), .int (zI (M.nw)), .int (zI (M.bl)), .int (zI (M.lt)), .int (zI (M.rt)), .ref (u + 8), .ref (u + 9), .ref (u + 10), .ref (u + 11), .ref (u + 12), .ref (u + 13)]) := eh1
  have jf2 : h1 (u) = jO 6 [.int (zI (0)), .ref (u + 1), .ref (u + 2), .ref (u + 3), .ref (u + 4), .ref (u + 5), .int (zI (M.jn)), .int (zI (M.ja)), .int (zI (M.jb)), .ref (u + 6), .ref (u + 7), .int (zI (M.nw)), .int (zI (M.bl)), .int (zI (M.lt)), .int (zI (M.rt)), .ref (u + 8), .ref (u + 9), .ref (u + 10), .ref (u + 11), .ref (u + 12), .ref (u + 13)] := by rw [eh1, va_up_self]
  have jf3 : h1 (u + 1) = jI 8 (fun j9 => zI (M.mo j9)) := by rw [eh1, va_up_ne _ _ (by omega)]; exact p1
  have jf4 : h1 (u + 2) = jI 8 (fun j9 => zI (M.pe j9)) := by rw [eh1, va_up_ne _ _ (by omega)]; exact p2
  have jf5 : h1 (u + 3) = jI 128 (fun j9 => zI (M.co j9)) := by rw [eh1, va_up_ne _ _ (by omega)]; exact p3
  have jf6 : h1 (u + 4) = jI 384 (fun j9 => zI (M.he j9)) := by rw [eh1, va_up_ne _ _ (by omega)]; exact p4
  have jf7 : h1 (u + 5) = jZ 128 (fun j9 => zI (M.cr j9)) := by rw [eh1, va_up_ne _ _ (by omega)]; exact p5
  have jf8 : h1 (u + 6) = jI 16 (fun j9 => zI (M.wy j9)) := by rw [eh1, va_up_ne _ _ (by omega)]; exact p6
  have jf9 : h1 (u + 7) = jI 512 (fun j9 => zI (M.fa j9)) := by rw [eh1, va_up_ne _ _ (by omega)]; exact p7
  have jf10 : h1 (u + 8) = jI 32 (fun j9 => zI (M.la j9)) := by rw [eh1, va_up_ne _ _ (by omega)]; exact p8
  have jf11 : h1 (u + 9) = jI 32 (fun j9 => zI (M.ha j9)) := by rw [eh1, va_up_ne _ _ (by omega)]; exact p9
  have jf12 : h1 (u + 10) = jI 4096 (fun j9 => zI (M.w1 j9)) := by rw [eh1, va_up_ne _ _ (by omega)]; exact p10
  have jf13 : h1 (u + 11) = jI 4096 (fun j9 => zI (M.mr j9)) := by rw [eh1, va_up_ne _ _ (by omega)]; exact p11
  have jf14 : h1 (u + 12) = jI 6 (fun j9 => zI (M.rw j9)) := by rw [eh1, va_up_ne _ _ (by omega)]; exact p12
  have jf15 : h1 (u + 13) = jI 16 (fun j9 => zI (M.tu j9)) := by rw [eh1, va_up_ne _ _ (by omega)]; exact p13
  have hM1 : jM h1 u (M.wT 0) := ⟨jf2, jf3, jf4, jf5, jf6, jf7, jf8, jf9, jf10, jf11, jf12, jf13, jf14, jf15⟩
  have hf1 : jfr h h1 u (u + 14) := (fun y hy => by rw [eh1, va_up_ne _ _ (by omega)])
  obtain ⟨q0a, q1a, q2a, q3a, q4a, q5a, q6a, q7a, q8a, q9a, q10a, q11a, q12a, q13a⟩ := id (hM1)
  have p0a : h1 u = jO 6 [.int (zI (0)), .ref (u + 1), .ref (u + 2), .ref (u + 3), .ref (u + 4), .ref (u + 5), .int (zI (M.jn)), .int (zI (M.ja)), .int (zI (M.jb)), .ref (u + 6), .ref (u + 7), .int (zI (M.nw)), .int (zI (M.bl)), .int (zI (M.lt)), .int (zI (M.rt)), .ref (u + 8), .ref (u + 9), .ref (u + 10), .ref (u + 11), .ref (u + 12), .ref (u + 13)] := q0a
  have p1a : h1 (u + 1) = jI 8 (fun j9 => zI (M.mo j9)) := q1a
  have p2a : h1 (u + 2) = jI 8 (fun j9 => zI (M.pe j9)) := q2a
  have p3a : h1 (u + 3) = jI 128 (fun j9 => zI (M.co j9)) := q3a
  have p4a : h1 (u + 4) = jI 384 (fun j9 => zI (M.he j9)) := q4a
  have p5a : h1 (u + 5) = jZ 128 (fun j9 => zI (M.cr j9)) := q5a
  have p6a : h1 (u + 6) = jI 16 (fun j9 => zI (M.wy j9)) := q6a
  have p7a : h1 (u + 7) = jI 512 (fun j9 => zI (M.fa j9)) := q7a
  have p8a : h1 (u + 8) = jI 32 (fun j9 => zI (M.la j9)) := q8a
  have p9a : h1 (u + 9) = jI 32 (fun j9 => zI (M.ha j9)) := q9a
  have p10a : h1 (u + 10) = jI 4096 (fun j9 => zI (M.w1 j9)) := q10a
  have p11a : h1 (u + 11) = jI 4096 (fun j9 => zI (M.mr j9)) := q11a
  have p12a : h1 (u + 12) = jI 6 (fun j9 => zI (M.rw j9)) := q12a
  have p13a : h1 (u + 13) = jI 16 (fun j9 => zI (M.tu j9)) := q13a
  refine jl_iload_n d_Md_ball_5 rfl rfl ?_
  refine jl_iconst (v := zI (0)) d_Md_ball_6 (by decide) ?_
  refine jl_aload_n d_Md_ball_7 rfl rfl ?_
  refine jg_6 (q := 12) d_Md_ball_8 p0a rfl (by decide) fw_Md_126 ?_
  refine jl_iconst (v := zI (1)) d_Md_ball_11 (by decide) ?_
  refine jz_isub (v := (M.bl) - (1)) d_Md_ball_12 rfl ?_
  refine jl_invS (M' := m_Md_within) (d' := d - 1) (ck' := 0) (sk' := 0) (na := 3) (as := [.int (zI (a)), .int (zI (0)), .int (zI ((M.bl) - (1)))]) (st := []) d_Md_ball_13 rfl mw_Md_61 ww_Md_within nw_Md cw_Md_within rfl rfl rfl (by decide +kernel) (by omega) (Nat.le_of_ble_eq_true rfl) (Nat.le_of_ble_eq_true rfl) ?_
  refine k_M_within hl9 (by omega) ha ⟨by decide, by decide⟩ ⟨by omega, by omega⟩ (fun i1 => ?_) (fun i1 => ?_)
  · show jl_AW _ _ _ _ _ 16 [some (.ref (u)), some (.int (zI (a)))] [.int (zI (1))] n h1 _ _
    refine jz_if_eq (tgt := 33) d_Md_ball_16 (by decide) ⟨by decide, by decide⟩ (fun q9 => absurd q9 (by decide)) (fun _ => ?_)
    refine jl_aload_n d_Md_ball_19 rfl rfl ?_
    refine jg_6 (q := 15) d_Md_ball_20 p0a rfl (by decide) fw_Md_36 ?_
    refine jl_iload_n d_Md_ball_23 rfl rfl ?_
    refine jz_iald d_Md_ball_24 p8a (by omega) (by omega) (by omega) ?_
    refine jl_aload_n d_Md_ball_25 rfl rfl ?_
    refine jg_6 (q := 11) d_Md_ball_26 p0a rfl (by decide) fw_Md_129 ?_
    refine jz_isub (v := M.la (a).toNat - M.nw) d_Md_ball_29 (by omega) ?_
    refine jl_goto (tgt := 38) d_Md_ball_30 (by decide) ?_
    exact jl_iret d_Md_ball_38 rfl (hk0 ⟨i1.1, by omega⟩ h1 hM1 hf1)
  · show jl_AW _ _ _ _ _ 16 [some (.ref (u)), some (.int (zI (a)))] [.int (zI (0))] n h1 _ _
    refine jz_if_eq (tgt := 33) d_Md_ball_16 (by decide) ⟨by decide, by decide⟩ (fun _ => ?_) (fun q9 => absurd q9 (by decide))
    refine jl_aload_n d_Md_ball_33 rfl rfl ?_
    refine jl_iconst (v := zI (1)) d_Md_ball_34 (by decide) ?_
    refine jl_invV (M' := m_Md_fail) (d' := d - 1) (ck' := 0) (sk' := 0) (na := 1) (as := [.int (zI (1))]) (st := []) d_Md_ball_35 rfl p0a rfl mw_Md_65 ww_Md_fail sw_Md_fail nw_Md cw_Md_fail rfl rfl rfl (by decide +kernel) (by omega) (Nat.le_of_ble_eq_true rfl) (Nat.le_of_ble_eq_true rfl) ?_
    refine k_M_fail hl9 (by omega) hM1 (fun h2 hM2 hf2 => ?_)
    show jl_AW _ _ _ _ _ 38 [some (.ref (u)), some (.int (zI (a)))] [.int (zI (0))] n h2 _ _
    exact jl_iret d_Md_ball_38 rfl (hk1 (fun q => i1 ⟨q.1, by omega⟩) h2 hM2 (jfr_tr hf1 hf2))
set_option maxHeartbeats 4000000 in
set_option maxRecDepth 100000 in
theorem k_M_hand {l : Launch} {G : jl_G} {d n : Nat} {h : Nat → va_E} {Kr : Option Value → Nat → (Nat → va_E) → Prop} {Kx : String → Nat → (Nat → va_E) → Prop} (hl9 : l.stackTraces = false) (hdd : 1 ≤ d) {u : Nat} {M : MS} {a : Int} (hM9 : jM h u M) (ha : zR a) (hbl : 0 ≤ M.bl ∧ M.bl ≤ 27) (hk0 : 0 ≤ a ∧ a < M.bl → ∀ h', jM h' u (M.wT 0) → jfr h h' u (u + 14) → Kr (some (.int (zI (M.ha (a).toNat)))) n h') (hk1 : ¬ (0 ≤ a ∧ a < M.bl) → ∀ h', jM h' u (M.wT 1) → jfr h h' u (u + 14) → Kr (some (.int (zI (0)))) n h') : jl_Call l G m_Md_hand d [.ref (u), .int (zI (a))] n h 0 0 Kr Kx := by
  refine jl_enter hl9 (by decide) rfl (by simp [Value.category]) (Nat.le_of_ble_eq_true rfl) ?_
  show jl_AW l G (jl_F G Kr Kx) m_Md_hand d 0 [some (.ref (u)), some (.int (zI (a)))] [] n h 0 0
  obtain ⟨q0, q1, q2, q3, q4, q5, q6, q7, q8, q9, q10, q11, q12, q13⟩ := id (hM9)
  have p0 : h u = jO 6 [.int (zI (M.T)), .ref (u + 1), .ref (u + 2), .ref (u + 3), .ref (u + 4), .ref (u + 5), .int (zI (M.jn)), .int (zI (M.ja)), .int (zI (M.jb)), .ref (u + 6), .ref (u + 7), .int (zI (M.nw)), .int (zI (M.bl)), .int (zI (M.lt)), .int (zI (M.rt)), .ref (u + 8), .ref (u + 9), .ref (u + 10), .ref (u + 11), .ref (u + 12), .ref (u + 13)] := q0
  have p1 : h (u + 1) = jI 8 (fun j9 => zI (M.mo j9)) := q1
  have p2 : h (u + 2) = jI 8 (fun j9 => zI (M.pe j9)) := q2
  have p3 : h (u + 3) = jI 128 (fun j9 => zI (M.co j9)) := q3
  have p4 : h (u + 4) = jI 384 (fun j9 => zI (M.he j9)) := q4
  have p5 : h (u + 5) = jZ 128 (fun j9 => zI (M.cr j9)) := q5
  have p6 : h (u + 6) = jI 16 (fun j9 => zI (M.wy j9)) := q6
  have p7 : h (u + 7) = jI 512 (fun j9 => zI (M.fa j9)) := q7
  have p8 : h (u + 8) = jI 32 (fun j9 => zI (M.la j9)) := q8
  have p9 : h (u + 9) = jI 32 (fun j9 => zI (M.ha j9)) := q9
  have p10 : h (u + 10) = jI 4096 (fun j9 => zI (M.w1 j9)) := q10
  have p11 : h (u + 11) = jI 4096 (fun j9 => zI (M.mr j9)) := q11
  have p12 : h (u + 12) = jI 6 (fun j9 => zI (M.rw j9)) := q12
  have p13 : h (u + 13) = jI 16 (fun j9 => zI (M.tu j9)) := q13
  refine jl_aload_n d_Md_hand_0 rfl rfl ?_
  refine jl_iconst (v := zI (0)) d_Md_hand_1 (by decide) ?_
  refine jp_6 (q := 0) (ty := .int) d_Md_hand_2 p0 (by simp) (by decide) fw_Md_58 rfl (by decide +kernel) (fun _ _ => rfl) (fun _ _ => rfl) (fun h1 eh1 => ?_)
  have eh1 : h1 = va_up h (u) (jO 6 [.int (zI (0)), .ref (u + 1), .ref (u + 2), .ref (u + 3), .ref (u + 4), .ref (u + 5), .int (zI (M.jn)), .int (zI (M.ja)), .int (zI (M.jb)), .ref (u + 6), .ref (u + 7), .int (zI (M.nw)), .int (zI (M.bl)), .int (zI (M.lt)), .int (zI (M.rt)), .ref (u + 8), .ref (u + 9), .ref (u + 10), .ref (u + 11), .ref (u + 12), .ref (u + 13)]) := eh1
  have jf2 : h1 (u) = jO 6 [.int (zI (0)), .ref (u + 1), .ref (u + 2), .ref (u + 3), .ref (u + 4), .ref (u + 5), .int (zI (M.jn)), .int (zI (M.ja)), .int (zI (M.jb)), .ref (u + 6), .ref (u + 7), .int (zI (M.nw)), .int (zI (M.bl)), .int (zI (M.lt)), .int (zI (M.rt)), .ref (u + 8), .ref (u + 9), .ref (u + 10), .ref (u + 11), .ref (u + 12), .ref (u + 13)] := by rw [eh1, va_up_self]
  have jf3 : h1 (u + 1) = jI 8 (fun j9 => zI (M.mo j9)) := by rw [eh1, va_up_ne _ _ (by omega)]; exact p1
  have jf4 : h1 (u + 2) = jI 8 (fun j9 => zI (M.pe j9)) := by rw [eh1, va_up_ne _ _ (by omega)]; exact p2
  have jf5 : h1 (u + 3) = jI 128 (fun j9 => zI (M.co j9)) := by rw [eh1, va_up_ne _ _ (by omega)]; exact p3
  have jf6 : h1 (u + 4) = jI 384 (fun j9 => zI (M.he j9)) := by rw [eh1, va_up_ne _ _ (by omega)]; exact p4
  have jf7 : h1 (u + 5) = jZ 128 (fun j9 => zI (M.cr j9)) := by rw [eh1, va_up_ne _ _ (by omega)]; exact p5
  have jf8 : h1 (u + 6) = jI 16 (fun j9 => zI (M.wy j9)) := by rw [eh1, va_up_ne _ _ (by omega)]; exact p6
  have jf9 : h1 (u + 7) = jI 512 (fun j9 => zI (M.fa j9)) := by rw [eh1, va_up_ne _ _ (by omega)]; exact p7
  have jf10 : h1 (u + 8) = jI 32 (fun j9 => zI (M.la j9)) := by rw [eh1, va_up_ne _ _ (by omega)]; exact p8
  have jf11 : h1 (u + 9) = jI 32 (fun j9 => zI (M.ha j9)) := by rw [eh1, va_up_ne _ _ (by omega)]; exact p9
  have jf12 : h1 (u + 10) = jI 4096 (fun j9 => zI (M.w1 j9)) := by rw [eh1, va_up_ne _ _ (by omega)]; exact p10
  have jf13 : h1 (u + 11) = jI 4096 (fun j9 => zI (M.mr j9)) := by rw [eh1, va_up_ne _ _ (by omega)]; exact p11
  have jf14 : h1 (u + 12) = jI 6 (fun j9 => zI (M.rw j9)) := by rw [eh1, va_up_ne _ _ (by omega)]; exact p12
  have jf15 : h1 (u + 13) = jI 16 (fun j9 => zI (M.tu j9)) := by rw [eh1, va_up_ne _ _ (by omega)]; exact p13
  have hM1 : jM h1 u (M.wT 0) := ⟨jf2, jf3, jf4, jf5, jf6, jf7, jf8, jf9, jf10, jf11, jf12, jf13, jf14, jf15⟩
  have hf1 : jfr h h1 u (u + 14) := (fun y hy => by rw [eh1, va_up_ne _ _ (by omega)])
  obtain ⟨q0a, q1a, q2a, q3a, q4a, q5a, q6a, q7a, q8a, q9a, q10a, q11a, q12a, q13a⟩ := id (hM1)
  have p0a : h1 u = jO 6 [.int (zI (0)), .ref (u + 1), .ref (u + 2), .ref (u + 3), .ref (u + 4), .ref (u + 5), .int (zI (M.jn)), .int (zI (M.ja)), .int (zI (M.jb)), .ref (u + 6), .ref (u + 7), .int (zI (M.nw)), .int (zI (M.bl)), .int (zI (M.lt)), .int (zI (M.rt)), .ref (u + 8), .ref (u + 9), .ref (u + 10), .ref (u + 11), .ref (u + 12), .ref (u + 13)] := q0a
  have p1a : h1 (u + 1) = jI 8 (fun j9 => zI (M.mo j9)) := q1a
  have p2a : h1 (u + 2) = jI 8 (fun j9 => zI (M.pe j9)) := q2a
  have p3a : h1 (u + 3) = jI 128 (fun j9 => zI (M.co j9)) := q3a
  have p4a : h1 (u + 4) = jI 384 (fun j9 => zI (M.he j9)) := q4a
  have p5a : h1 (u + 5) = jZ 128 (fun j9 => zI (M.cr j9)) := q5a
  have p6a : h1 (u + 6) = jI 16 (fun j9 => zI (M.wy j9)) := q6a
  have p7a : h1 (u + 7) = jI 512 (fun j9 => zI (M.fa j9)) := q7a
  have p8a : h1 (u + 8) = jI 32 (fun j9 => zI (M.la j9)) := q8a
  have p9a : h1 (u + 9) = jI 32 (fun j9 => zI (M.ha j9)) := q9a
  have p10a : h1 (u + 10) = jI 4096 (fun j9 => zI (M.w1 j9)) := q10a
  have p11a : h1 (u + 11) = jI 4096 (fun j9 => zI (M.mr j9)) := q11a
  have p12a : h1 (u + 12) = jI 6 (fun j9 => zI (M.rw j9)) := q12a
  have p13a : h1 (u + 13) = jI 16 (fun j9 => zI (M.tu j9)) := q13a
  refine jl_iload_n d_Md_hand_5 rfl rfl ?_
  refine jl_iconst (v := zI (0)) d_Md_hand_6 (by decide) ?_
  refine jl_aload_n d_Md_hand_7 rfl rfl ?_
  refine jg_6 (q := 12) d_Md_hand_8 p0a rfl (by decide) fw_Md_126 ?_
  refine jl_iconst (v := zI (1)) d_Md_hand_11 (by decide) ?_
  refine jz_isub (v := (M.bl) - (1)) d_Md_hand_12 rfl ?_
  refine jl_invS (M' := m_Md_within) (d' := d - 1) (ck' := 0) (sk' := 0) (na := 3) (as := [.int (zI (a)), .int (zI (0)), .int (zI ((M.bl) - (1)))]) (st := []) d_Md_hand_13 rfl mw_Md_61 ww_Md_within nw_Md cw_Md_within rfl rfl rfl (by decide +kernel) (by omega) (Nat.le_of_ble_eq_true rfl) (Nat.le_of_ble_eq_true rfl) ?_
  refine k_M_within hl9 (by omega) ha ⟨by decide, by decide⟩ ⟨by omega, by omega⟩ (fun i1 => ?_) (fun i1 => ?_)
  · show jl_AW _ _ _ _ _ 16 [some (.ref (u)), some (.int (zI (a)))] [.int (zI (1))] n h1 _ _
    refine jz_if_eq (tgt := 28) d_Md_hand_16 (by decide) ⟨by decide, by decide⟩ (fun q9 => absurd q9 (by decide)) (fun _ => ?_)
    refine jl_aload_n d_Md_hand_19 rfl rfl ?_
    refine jg_6 (q := 16) d_Md_hand_20 p0a rfl (by decide) fw_Md_39 ?_
    refine jl_iload_n d_Md_hand_23 rfl rfl ?_
    refine jz_iald d_Md_hand_24 p9a (by omega) (by omega) (by omega) ?_
    refine jl_goto (tgt := 33) d_Md_hand_25 (by decide) ?_
    exact jl_iret d_Md_hand_33 rfl (hk0 ⟨i1.1, by omega⟩ h1 hM1 hf1)
  · show jl_AW _ _ _ _ _ 16 [some (.ref (u)), some (.int (zI (a)))] [.int (zI (0))] n h1 _ _
    refine jz_if_eq (tgt := 28) d_Md_hand_16 (by decide) ⟨by decide, by decide⟩ (fun _ => ?_) (fun q9 => absurd q9 (by decide))
    refine jl_aload_n d_Md_hand_28 rfl rfl ?_
    refine jl_iconst (v := zI (1)) d_Md_hand_29 (by decide) ?_
    refine jl_invV (M' := m_Md_fail) (d' := d - 1) (ck' := 0) (sk' := 0) (na := 1) (as := [.int (zI (1))]) (st := []) d_Md_hand_30 rfl p0a rfl mw_Md_65 ww_Md_fail sw_Md_fail nw_Md cw_Md_fail rfl rfl rfl (by decide +kernel) (by omega) (Nat.le_of_ble_eq_true rfl) (Nat.le_of_ble_eq_true rfl) ?_
    refine k_M_fail hl9 (by omega) hM1 (fun h2 hM2 hf2 => ?_)
    show jl_AW _ _ _ _ _ 33 [some (.ref (u)), some (.int (zI (a)))] [.int (zI (0))] n h2 _ _
    exact jl_iret d_Md_hand_33 rfl (hk1 (fun q => i1 ⟨q.1, by omega⟩) h2 hM2 (jfr_tr hf1 hf2))
set_option maxHeartbeats 4000000 in
set_option maxRecDepth 100000 in
theorem k_M_floor {l : Launch} {G : jl_G} {d n : Nat} {h : Nat → va_E} {Kr : Option Value → Nat → (Nat → va_E) → Prop} {Kx : String → Nat → (Nat → va_E) → Prop} (hl9 : l.stackTraces = false) (hdd : 1 ≤ d) {u : Nat} {M : MS} {a : Int} (hM9 : jM h u M) (ok : mOk M) (ha : zR a) (hk0 : 0 ≤ a ∧ a ≤ 4 → ¬ M.pe (7 : Int).toNat = 0 → ∀ h', jM h' u (M.wT 0) → jfr h h' u (u + 14) → Kr (some (.int (zI (flV M a)))) n h') (hk2 : 0 ≤ a ∧ a ≤ 4 → M.pe (7 : Int).toNat = 0 → ∀ h', jM h' u (M.wT 2) → jfr h h' u (u + 14) → Kr (some (.int (zI (0)))) n h') (hk1 : ¬ (0 ≤ a ∧ a ≤ 4) → ∀ h', jM h' u (M.wT 1) → jfr h h' u (u + 14) → Kr (some (.int (zI (0)))) n h') : jl_Call l G m_Md_floor d [.ref (u), .int (zI (a))] n h 0 0 Kr Kx := by
  refine jl_enter hl9 (by decide) rfl (by simp [Value.category]) (Nat.le_of_ble_eq_true rfl) ?_
  show jl_AW l G (jl_F G Kr Kx) m_Md_floor d 0 [some (.ref (u)), some (.int (zI (a)))] [] n h 0 0
  have hp7 := ok.2.1 (7 : Int).toNat
  obtain ⟨q0, q1, q2, q3, q4, q5, q6, q7, q8, q9, q10, q11, q12, q13⟩ := id (hM9)
  have p0 : h u = jO 6 [.int (zI (M.T)), .ref (u + 1), .ref (u + 2), .ref (u + 3), .ref (u + 4), .ref (u + 5), .int (zI (M.jn)), .int (zI (M.ja)), .int (zI (M.jb)), .ref (u + 6), .ref (u + 7), .int (zI (M.nw)), .int (zI (M.bl)), .int (zI (M.lt)), .int (zI (M.rt)), .ref (u + 8), .ref (u + 9), .ref (u + 10), .ref (u + 11), .ref (u + 12), .ref (u + 13)] := q0
  have p1 : h (u + 1) = jI 8 (fun j9 => zI (M.mo j9)) := q1
  have p2 : h (u + 2) = jI 8 (fun j9 => zI (M.pe j9)) := q2
  have p3 : h (u + 3) = jI 128 (fun j9 => zI (M.co j9)) := q3
  have p4 : h (u + 4) = jI 384 (fun j9 => zI (M.he j9)) := q4
  have p5 : h (u + 5) = jZ 128 (fun j9 => zI (M.cr j9)) := q5
  have p6 : h (u + 6) = jI 16 (fun j9 => zI (M.wy j9)) := q6
  have p7 : h (u + 7) = jI 512 (fun j9 => zI (M.fa j9)) := q7
  have p8 : h (u + 8) = jI 32 (fun j9 => zI (M.la j9)) := q8
  have p9 : h (u + 9) = jI 32 (fun j9 => zI (M.ha j9)) := q9
  have p10 : h (u + 10) = jI 4096 (fun j9 => zI (M.w1 j9)) := q10
  have p11 : h (u + 11) = jI 4096 (fun j9 => zI (M.mr j9)) := q11
  have p12 : h (u + 12) = jI 6 (fun j9 => zI (M.rw j9)) := q12
  have p13 : h (u + 13) = jI 16 (fun j9 => zI (M.tu j9)) := q13
  refine jl_aload_n d_Md_floor_0 rfl rfl ?_
  refine jl_iconst (v := zI (0)) d_Md_floor_1 (by decide) ?_
  refine jp_6 (q := 0) (ty := .int) d_Md_floor_2 p0 (by simp) (by decide) fw_Md_58 rfl (by decide +kernel) (fun _ _ => rfl) (fun _ _ => rfl) (fun h1 eh1 => ?_)
  have eh1 : h1 = va_up h (u) (jO 6 [.int (zI (0)), .ref (u + 1), .ref (u + 2), .ref (u + 3), .ref (u + 4), .ref (u + 5), .int (zI (M.jn)), .int (zI (M.ja)), .int (zI (M.jb)), .ref (u + 6), .ref (u + 7), .int (zI (M.nw)), .int (zI (M.bl)), .int (zI (M.lt)), .int (zI (M.rt)), .ref (u + 8), .ref (u + 9), .ref (u + 10), .ref (u + 11), .ref (u + 12), .ref (u + 13)]) := eh1
  have jf2 : h1 (u) = jO 6 [.int (zI (0)), .ref (u + 1), .ref (u + 2), .ref (u + 3), .ref (u + 4), .ref (u + 5), .int (zI (M.jn)), .int (zI (M.ja)), .int (zI (M.jb)), .ref (u + 6), .ref (u + 7), .int (zI (M.nw)), .int (zI (M.bl)), .int (zI (M.lt)), .int (zI (M.rt)), .ref (u + 8), .ref (u + 9), .ref (u + 10), .ref (u + 11), .ref (u + 12), .ref (u + 13)] := by rw [eh1, va_up_self]
  have jf3 : h1 (u + 1) = jI 8 (fun j9 => zI (M.mo j9)) := by rw [eh1, va_up_ne _ _ (by omega)]; exact p1
  have jf4 : h1 (u + 2) = jI 8 (fun j9 => zI (M.pe j9)) := by rw [eh1, va_up_ne _ _ (by omega)]; exact p2
  have jf5 : h1 (u + 3) = jI 128 (fun j9 => zI (M.co j9)) := by rw [eh1, va_up_ne _ _ (by omega)]; exact p3
  have jf6 : h1 (u + 4) = jI 384 (fun j9 => zI (M.he j9)) := by rw [eh1, va_up_ne _ _ (by omega)]; exact p4
  have jf7 : h1 (u + 5) = jZ 128 (fun j9 => zI (M.cr j9)) := by rw [eh1, va_up_ne _ _ (by omega)]; exact p5
  have jf8 : h1 (u + 6) = jI 16 (fun j9 => zI (M.wy j9)) := by rw [eh1, va_up_ne _ _ (by omega)]; exact p6
  have jf9 : h1 (u + 7) = jI 512 (fun j9 => zI (M.fa j9)) := by rw [eh1, va_up_ne _ _ (by omega)]; exact p7
  have jf10 : h1 (u + 8) = jI 32 (fun j9 => zI (M.la j9)) := by rw [eh1, va_up_ne _ _ (by omega)]; exact p8
  have jf11 : h1 (u + 9) = jI 32 (fun j9 => zI (M.ha j9)) := by rw [eh1, va_up_ne _ _ (by omega)]; exact p9
  have jf12 : h1 (u + 10) = jI 4096 (fun j9 => zI (M.w1 j9)) := by rw [eh1, va_up_ne _ _ (by omega)]; exact p10
  have jf13 : h1 (u + 11) = jI 4096 (fun j9 => zI (M.mr j9)) := by rw [eh1, va_up_ne _ _ (by omega)]; exact p11
  have jf14 : h1 (u + 12) = jI 6 (fun j9 => zI (M.rw j9)) := by rw [eh1, va_up_ne _ _ (by omega)]; exact p12
  have jf15 : h1 (u + 13) = jI 16 (fun j9 => zI (M.tu j9)) := by rw [eh1, va_up_ne _ _ (by omega)]; exact p13
  have hM1 : jM h1 u (M.wT 0) := ⟨jf2, jf3, jf4, jf5, jf6, jf7, jf8, jf9, jf10, jf11, jf12, jf13, jf14, jf15⟩
  have hf1 : jfr h h1 u (u + 14) := (fun y hy => by rw [eh1, va_up_ne _ _ (by omega)])
  obtain ⟨q0a, q1a, q2a, q3a, q4a, q5a, q6a, q7a, q8a, q9a, q10a, q11a, q12a, q13a⟩ := id (hM1)
  have p0a : h1 u = jO 6 [.int (zI (0)), .ref (u + 1), .ref (u + 2), .ref (u + 3), .ref (u + 4), .ref (u + 5), .int (zI (M.jn)), .int (zI (M.ja)), .int (zI (M.jb)), .ref (u + 6), .ref (u + 7), .int (zI (M.nw)), .int (zI (M.bl)), .int (zI (M.lt)), .int (zI (M.rt)), .ref (u + 8), .ref (u + 9), .ref (u + 10), .ref (u + 11), .ref (u + 12), .ref (u + 13)] := q0a
  have p1a : h1 (u + 1) = jI 8 (fun j9 => zI (M.mo j9)) := q1a
  have p2a : h1 (u + 2) = jI 8 (fun j9 => zI (M.pe j9)) := q2a
  have p3a : h1 (u + 3) = jI 128 (fun j9 => zI (M.co j9)) := q3a
  have p4a : h1 (u + 4) = jI 384 (fun j9 => zI (M.he j9)) := q4a
  have p5a : h1 (u + 5) = jZ 128 (fun j9 => zI (M.cr j9)) := q5a
  have p6a : h1 (u + 6) = jI 16 (fun j9 => zI (M.wy j9)) := q6a
  have p7a : h1 (u + 7) = jI 512 (fun j9 => zI (M.fa j9)) := q7a
  have p8a : h1 (u + 8) = jI 32 (fun j9 => zI (M.la j9)) := q8a
  have p9a : h1 (u + 9) = jI 32 (fun j9 => zI (M.ha j9)) := q9a
  have p10a : h1 (u + 10) = jI 4096 (fun j9 => zI (M.w1 j9)) := q10a
  have p11a : h1 (u + 11) = jI 4096 (fun j9 => zI (M.mr j9)) := q11a
  have p12a : h1 (u + 12) = jI 6 (fun j9 => zI (M.rw j9)) := q12a
  have p13a : h1 (u + 13) = jI 16 (fun j9 => zI (M.tu j9)) := q13a
  refine jl_iload_n d_Md_floor_5 rfl rfl ?_
  refine jl_iconst (v := zI (0)) d_Md_floor_6 (by decide) ?_
  refine jl_iconst (v := zI (4)) d_Md_floor_7 (by decide) ?_
  refine jl_invS (M' := m_Md_within) (d' := d - 1) (ck' := 0) (sk' := 0) (na := 3) (as := [.int (zI (a)), .int (zI (0)), .int (zI (4))]) (st := []) d_Md_floor_8 rfl mw_Md_61 ww_Md_within nw_Md cw_Md_within rfl rfl rfl (by decide +kernel) (by omega) (Nat.le_of_ble_eq_true rfl) (Nat.le_of_ble_eq_true rfl) ?_
  refine k_M_within hl9 (by omega) ha ⟨by decide, by decide⟩ ⟨by decide, by decide⟩ (fun i1 => ?_) (fun i1 => ?_)
  · show jl_AW _ _ _ _ _ 11 [some (.ref (u)), some (.int (zI (a)))] [.int (zI (1))] n h1 _ _
    refine jz_if_ne (tgt := 20) d_Md_floor_11 (by decide) ⟨by decide, by decide⟩ (fun _ => ?_) (fun q9 => absurd q9 (by decide))
    refine jl_aload_n d_Md_floor_20 rfl rfl ?_
    refine jg_6 (q := 2) d_Md_floor_21 p0a rfl (by decide) fw_Md_13 ?_
    refine jl_bipush (v := zI (7)) d_Md_floor_24 (by decide) ?_
    refine jz_iald d_Md_floor_26 p2a (by omega) (by omega) (by omega) ?_
    refine jz_if_ne (tgt := 36) d_Md_floor_27 (by decide) ⟨by omega, by omega⟩ (fun q1 => ?_) (fun q1 => ?_)
    · refine jl_iload_n d_Md_floor_36 rfl rfl ?_
      refine jl_iconst (v := zI (3)) d_Md_floor_37 (by decide) ?_
      refine jz_icmp_ge (tgt := 69) d_Md_floor_38 (by decide) ⟨by omega, by omega⟩ ⟨by omega, by omega⟩ (fun q2 => ?_) (fun q2 => ?_)
      · refine jl_iload_n d_Md_floor_69 rfl rfl ?_
        refine jl_iconst (v := zI (3)) d_Md_floor_70 (by decide) ?_
        refine jz_icmp_ne (tgt := 81) d_Md_floor_71 (by decide) ⟨by omega, by omega⟩ ⟨by omega, by omega⟩ (fun q3 => ?_) (fun q3 => ?_)
        · refine jl_aload_n d_Md_floor_81 rfl rfl ?_
          refine jg_6 (q := 1) d_Md_floor_82 p0a rfl (by decide) fw_Md_7 ?_
          refine jl_bipush (v := zI (7)) d_Md_floor_85 (by decide) ?_
          refine jz_iald d_Md_floor_87 p1a (by omega) (by omega) (by omega) ?_
          exact jl_iret d_Md_floor_88 rfl (by have h9 := hk0 i1 q1 h1 hM1 hf1; rw [flV, if_neg (by omega), if_neg (by omega), if_neg (by omega), if_neg q3] at h9; exact h9)
        · refine jl_aload_n d_Md_floor_74 rfl rfl ?_
          refine jg_6 (q := 12) d_Md_floor_75 p0a rfl (by decide) fw_Md_126 ?_
          refine jl_goto (tgt := 88) d_Md_floor_78 (by decide) ?_
          exact jl_iret d_Md_floor_88 rfl (by have h9 := hk0 i1 q1 h1 hM1 hf1; rw [flV, if_neg (by omega), if_neg (by omega), if_neg (by omega), if_pos q3] at h9; exact h9)
      · refine jl_iload_n d_Md_floor_41 rfl rfl ?_
        refine jz_if_ne (tgt := 52) d_Md_floor_42 (by decide) ⟨by omega, by omega⟩ (fun q3 => ?_) (fun q3 => ?_)
        · refine jl_iload_n d_Md_floor_52 rfl rfl ?_
          refine jl_iconst (v := zI (1)) d_Md_floor_53 (by decide) ?_
          refine jz_icmp_ne (tgt := 64) d_Md_floor_54 (by decide) ⟨by omega, by omega⟩ ⟨by omega, by omega⟩ (fun q4 => ?_) (fun q4 => ?_)
          · refine jl_aload_n d_Md_floor_64 rfl rfl ?_
            refine jg_6 (q := 14) d_Md_floor_65 p0a rfl (by decide) fw_Md_135 ?_
            exact jl_iret d_Md_floor_68 rfl (by have h9 := hk0 i1 q1 h1 hM1 hf1; rw [flV, if_neg (by omega), if_neg (by omega), if_pos (by omega)] at h9; exact h9)
          · refine jl_aload_n d_Md_floor_57 rfl rfl ?_
            refine jg_6 (q := 13) d_Md_floor_58 p0a rfl (by decide) fw_Md_132 ?_
            refine jl_goto (tgt := 68) d_Md_floor_61 (by decide) ?_
            exact jl_iret d_Md_floor_68 rfl (by have h9 := hk0 i1 q1 h1 hM1 hf1; rw [flV, if_neg (by omega), if_pos (by omega)] at h9; exact h9)
        · refine jl_aload_n d_Md_floor_45 rfl rfl ?_
          refine jg_6 (q := 11) d_Md_floor_46 p0a rfl (by decide) fw_Md_129 ?_
          refine jl_goto (tgt := 68) d_Md_floor_49 (by decide) ?_
          exact jl_iret d_Md_floor_68 rfl (by have h9 := hk0 i1 q1 h1 hM1 hf1; rw [flV, if_pos (by omega)] at h9; exact h9)
    · refine jl_aload_n d_Md_floor_30 rfl rfl ?_
      refine jl_iconst (v := zI (2)) d_Md_floor_31 (by decide) ?_
      refine jl_invV (M' := m_Md_fail) (d' := d - 1) (ck' := 0) (sk' := 0) (na := 1) (as := [.int (zI (2))]) (st := []) d_Md_floor_32 rfl p0a rfl mw_Md_65 ww_Md_fail sw_Md_fail nw_Md cw_Md_fail rfl rfl rfl (by decide +kernel) (by omega) (Nat.le_of_ble_eq_true rfl) (Nat.le_of_ble_eq_true rfl) ?_
      refine k_M_fail hl9 (by omega) hM1 (fun h2 hM2 hf2 => ?_)
      show jl_AW _ _ _ _ _ 35 [some (.ref (u)), some (.int (zI (a)))] [.int (zI (0))] n h2 _ _
      exact jl_iret d_Md_floor_35 rfl (hk2 i1 q1 h2 hM2 (jfr_tr hf1 hf2))
  · show jl_AW _ _ _ _ _ 11 [some (.ref (u)), some (.int (zI (a)))] [.int (zI (0))] n h1 _ _
    refine jz_if_ne (tgt := 20) d_Md_floor_11 (by decide) ⟨by decide, by decide⟩ (fun q9 => absurd q9 (by decide)) (fun _ => ?_)
    refine jl_aload_n d_Md_floor_14 rfl rfl ?_
    refine jl_iconst (v := zI (1)) d_Md_floor_15 (by decide) ?_
    refine jl_invV (M' := m_Md_fail) (d' := d - 1) (ck' := 0) (sk' := 0) (na := 1) (as := [.int (zI (1))]) (st := []) d_Md_floor_16 rfl p0a rfl mw_Md_65 ww_Md_fail sw_Md_fail nw_Md cw_Md_fail rfl rfl rfl (by decide +kernel) (by omega) (Nat.le_of_ble_eq_true rfl) (Nat.le_of_ble_eq_true rfl) ?_
    refine k_M_fail hl9 (by omega) hM1 (fun h2 hM2 hf2 => ?_)
    show jl_AW _ _ _ _ _ 19 [some (.ref (u)), some (.int (zI (a)))] [.int (zI (0))] n h2 _ _
    exact jl_iret d_Md_floor_19 rfl (hk1 i1 h2 hM2 (jfr_tr hf1 hf2))
set_option maxHeartbeats 4000000 in
set_option maxRecDepth 100000 in
theorem k_M_highest {l : Launch} {G : jl_G} {d n : Nat} {h : Nat → va_E} {Kr : Option Value → Nat → (Nat → va_E) → Prop} {Kx : String → Nat → (Nat → va_E) → Prop} (hl9 : l.stackTraces = false) (hdd : 0 ≤ d) {u : Nat} {M : MS} (hM9 : jM h u M) (hbl : 0 ≤ M.bl ∧ M.bl ≤ 27) (hla : ∀ j : Nat, (j : Int) < M.bl → zR (M.la j)) (hk : ∀ h', jM h' u (M.wT 0) → jfr h h' u (u + 14) → Kr (some (.int (zI (hiM M.la (M.bl).toNat)))) n h') : jl_Call l G m_Md_highest d [.ref (u)] n h 0 0 Kr Kx := by
  refine jl_enter hl9 (by decide) rfl (by simp [Value.category]) (Nat.le_of_ble_eq_true rfl) ?_
  show jl_AW l G (jl_F G Kr Kx) m_Md_highest d 0 [some (.ref (u)), none, none] [] n h 0 0
  obtain ⟨q0, q1, q2, q3, q4, q5, q6, q7, q8, q9, q10, q11, q12, q13⟩ := id (hM9)
  have p0 : h u = jO 6 [.int (zI (M.T)), .ref (u + 1), .ref (u + 2), .ref (u + 3), .ref (u + 4), .ref (u + 5), .int (zI (M.jn)), .int (zI (M.ja)), .int (zI (M.jb)), .ref (u + 6), .ref (u + 7), .int (zI (M.nw)), .int (zI (M.bl)), .int (zI (M.lt)), .int (zI (M.rt)), .ref (u + 8), .ref (u + 9), .ref (u + 10), .ref (u + 11), .ref (u + 12), .ref (u + 13)] := q0
  have p1 : h (u + 1) = jI 8 (fun j9 => zI (M.mo j9)) := q1
  have p2 : h (u + 2) = jI 8 (fun j9 => zI (M.pe j9)) := q2
  have p3 : h (u + 3) = jI 128 (fun j9 => zI (M.co j9)) := q3
  have p4 : h (u + 4) = jI 384 (fun j9 => zI (M.he j9)) := q4
  have p5 : h (u + 5) = jZ 128 (fun j9 => zI (M.cr j9)) := q5
  have p6 : h (u + 6) = jI 16 (fun j9 => zI (M.wy j9)) := q6
  have p7 : h (u + 7) = jI 512 (fun j9 => zI (M.fa j9)) := q7
  have p8 : h (u + 8) = jI 32 (fun j9 => zI (M.la j9)) := q8
  have p9 : h (u + 9) = jI 32 (fun j9 => zI (M.ha j9)) := q9
  have p10 : h (u + 10) = jI 4096 (fun j9 => zI (M.w1 j9)) := q10
  have p11 : h (u + 11) = jI 4096 (fun j9 => zI (M.mr j9)) := q11
  have p12 : h (u + 12) = jI 6 (fun j9 => zI (M.rw j9)) := q12
  have p13 : h (u + 13) = jI 16 (fun j9 => zI (M.tu j9)) := q13
  refine jl_aload_n d_Md_highest_0 rfl rfl ?_
  refine jl_iconst (v := zI (0)) d_Md_highest_1 (by decide) ?_
  refine jp_6 (q := 0) (ty := .int) d_Md_highest_2 p0 (by simp) (by decide) fw_Md_58 rfl (by decide +kernel) (fun _ _ => rfl) (fun _ _ => rfl) (fun h1 eh1 => ?_)
  have eh1 : h1 = va_up h (u) (jO 6 [.int (zI (0)), .ref (u + 1), .ref (u + 2), .ref (u + 3), .ref (u + 4), .ref (u + 5), .int (zI (M.jn)), .int (zI (M.ja)), .int (zI (M.jb)), .ref (u + 6), .ref (u + 7), .int (zI (M.nw)), .int (zI (M.bl)), .int (zI (M.lt)), .int (zI (M.rt)), .ref (u + 8), .ref (u + 9), .ref (u + 10), .ref (u + 11), .ref (u + 12), .ref (u + 13)]) := eh1
  have jf2 : h1 (u) = jO 6 [.int (zI (0)), .ref (u + 1), .ref (u + 2), .ref (u + 3), .ref (u + 4), .ref (u + 5), .int (zI (M.jn)), .int (zI (M.ja)), .int (zI (M.jb)), .ref (u + 6), .ref (u + 7), .int (zI (M.nw)), .int (zI (M.bl)), .int (zI (M.lt)), .int (zI (M.rt)), .ref (u + 8), .ref (u + 9), .ref (u + 10), .ref (u + 11), .ref (u + 12), .ref (u + 13)] := by rw [eh1, va_up_self]
  have jf3 : h1 (u + 1) = jI 8 (fun j9 => zI (M.mo j9)) := by rw [eh1, va_up_ne _ _ (by omega)]; exact p1
  have jf4 : h1 (u + 2) = jI 8 (fun j9 => zI (M.pe j9)) := by rw [eh1, va_up_ne _ _ (by omega)]; exact p2
  have jf5 : h1 (u + 3) = jI 128 (fun j9 => zI (M.co j9)) := by rw [eh1, va_up_ne _ _ (by omega)]; exact p3
  have jf6 : h1 (u + 4) = jI 384 (fun j9 => zI (M.he j9)) := by rw [eh1, va_up_ne _ _ (by omega)]; exact p4
  have jf7 : h1 (u + 5) = jZ 128 (fun j9 => zI (M.cr j9)) := by rw [eh1, va_up_ne _ _ (by omega)]; exact p5
  have jf8 : h1 (u + 6) = jI 16 (fun j9 => zI (M.wy j9)) := by rw [eh1, va_up_ne _ _ (by omega)]; exact p6
  have jf9 : h1 (u + 7) = jI 512 (fun j9 => zI (M.fa j9)) := by rw [eh1, va_up_ne _ _ (by omega)]; exact p7
  have jf10 : h1 (u + 8) = jI 32 (fun j9 => zI (M.la j9)) := by rw [eh1, va_up_ne _ _ (by omega)]; exact p8
  have jf11 : h1 (u + 9) = jI 32 (fun j9 => zI (M.ha j9)) := by rw [eh1, va_up_ne _ _ (by omega)]; exact p9
  have jf12 : h1 (u + 10) = jI 4096 (fun j9 => zI (M.w1 j9)) := by rw [eh1, va_up_ne _ _ (by omega)]; exact p10
  have jf13 : h1 (u + 11) = jI 4096 (fun j9 => zI (M.mr j9)) := by rw [eh1, va_up_ne _ _ (by omega)]; exact p11
  have jf14 : h1 (u + 12) = jI 6 (fun j9 => zI (M.rw j9)) := by rw [eh1, va_up_ne _ _ (by omega)]; exact p12
  have jf15 : h1 (u + 13) = jI 16 (fun j9 => zI (M.tu j9)) := by rw [eh1, va_up_ne _ _ (by omega)]; exact p13
  have hM1 : jM h1 u (M.wT 0) := ⟨jf2, jf3, jf4, jf5, jf6, jf7, jf8, jf9, jf10, jf11, jf12, jf13, jf14, jf15⟩
  have hf1 : jfr h h1 u (u + 14) := (fun y hy => by rw [eh1, va_up_ne _ _ (by omega)])
  obtain ⟨q0a, q1a, q2a, q3a, q4a, q5a, q6a, q7a, q8a, q9a, q10a, q11a, q12a, q13a⟩ := id (hM1)
  have p0a : h1 u = jO 6 [.int (zI (0)), .ref (u + 1), .ref (u + 2), .ref (u + 3), .ref (u + 4), .ref (u + 5), .int (zI (M.jn)), .int (zI (M.ja)), .int (zI (M.jb)), .ref (u + 6), .ref (u + 7), .int (zI (M.nw)), .int (zI (M.bl)), .int (zI (M.lt)), .int (zI (M.rt)), .ref (u + 8), .ref (u + 9), .ref (u + 10), .ref (u + 11), .ref (u + 12), .ref (u + 13)] := q0a
  have p1a : h1 (u + 1) = jI 8 (fun j9 => zI (M.mo j9)) := q1a
  have p2a : h1 (u + 2) = jI 8 (fun j9 => zI (M.pe j9)) := q2a
  have p3a : h1 (u + 3) = jI 128 (fun j9 => zI (M.co j9)) := q3a
  have p4a : h1 (u + 4) = jI 384 (fun j9 => zI (M.he j9)) := q4a
  have p5a : h1 (u + 5) = jZ 128 (fun j9 => zI (M.cr j9)) := q5a
  have p6a : h1 (u + 6) = jI 16 (fun j9 => zI (M.wy j9)) := q6a
  have p7a : h1 (u + 7) = jI 512 (fun j9 => zI (M.fa j9)) := q7a
  have p8a : h1 (u + 8) = jI 32 (fun j9 => zI (M.la j9)) := q8a
  have p9a : h1 (u + 9) = jI 32 (fun j9 => zI (M.ha j9)) := q9a
  have p10a : h1 (u + 10) = jI 4096 (fun j9 => zI (M.w1 j9)) := q10a
  have p11a : h1 (u + 11) = jI 4096 (fun j9 => zI (M.mr j9)) := q11a
  have p12a : h1 (u + 12) = jI 6 (fun j9 => zI (M.rw j9)) := q12a
  have p13a : h1 (u + 13) = jI 16 (fun j9 => zI (M.tu j9)) := q13a
  refine jl_iconst (v := zI (-1)) d_Md_highest_5 (by decide) ?_
  refine jl_istore_n (L' := [some (.ref (u)), some (.int (zI (-1))), none]) d_Md_highest_6 rfl (by decide) rfl ?_
  refine jl_iconst (v := zI (0)) d_Md_highest_7 (by decide) ?_
  refine jl_istore_n (L' := [some (.ref (u)), some (.int (zI (-1))), some (.int (zI (0)))]) d_Md_highest_8 rfl (by decide) rfl ?_
  have lp1 : ∀ (k : Nat) (k9 : Nat), (k9 : Int) + k = M.bl → jl_AW l G (jl_F G Kr Kx) m_Md_highest d 9 [some (.ref (u)), some (.int (zI (hiM M.la k9))), some (.int (zI ((k9 : Int))))] [] n h1 0 0 := by
    intro k
    induction k using Nat.strongRecOn with
    | ind k ih =>
      intro k9 hk9
      have hr9 := hiM_rg M.la k9
      obtain ⟨q0z, q1z, q2z, q3z, q4z, q5z, q6z, q7z, q8z, q9z, q10z, q11z, q12z, q13z⟩ := id (hM1)
      have p0z : h1 u = jO 6 [.int (zI (0)), .ref (u + 1), .ref (u + 2), .ref (u + 3), .ref (u + 4), .ref (u + 5), .int (zI (M.jn)), .int (zI (M.ja)), .int (zI (M.jb)), .ref (u + 6), .ref (u + 7), .int (zI (M.nw)), .int (zI (M.bl)), .int (zI (M.lt)), .int (zI (M.rt)), .ref (u + 8), .ref (u + 9), .ref (u + 10), .ref (u + 11), .ref (u + 12), .ref (u + 13)] := q0z
      have p1z : h1 (u + 1) = jI 8 (fun j9 => zI (M.mo j9)) := q1z
      have p2z : h1 (u + 2) = jI 8 (fun j9 => zI (M.pe j9)) := q2z
      have p3z : h1 (u + 3) = jI 128 (fun j9 => zI (M.co j9)) := q3z
      have p4z : h1 (u + 4) = jI 384 (fun j9 => zI (M.he j9)) := q4z
      have p5z : h1 (u + 5) = jZ 128 (fun j9 => zI (M.cr j9)) := q5z
      have p6z : h1 (u + 6) = jI 16 (fun j9 => zI (M.wy j9)) := q6z
      have p7z : h1 (u + 7) = jI 512 (fun j9 => zI (M.fa j9)) := q7z
      have p8z : h1 (u + 8) = jI 32 (fun j9 => zI (M.la j9)) := q8z
      have p9z : h1 (u + 9) = jI 32 (fun j9 => zI (M.ha j9)) := q9z
      have p10z : h1 (u + 10) = jI 4096 (fun j9 => zI (M.w1 j9)) := q10z
      have p11z : h1 (u + 11) = jI 4096 (fun j9 => zI (M.mr j9)) := q11z
      have p12z : h1 (u + 12) = jI 6 (fun j9 => zI (M.rw j9)) := q12z
      have p13z : h1 (u + 13) = jI 16 (fun j9 => zI (M.tu j9)) := q13z
      refine jl_iload_n d_Md_highest_9 rfl rfl ?_
      refine jl_aload_n d_Md_highest_10 rfl rfl ?_
      refine jg_6 (q := 12) d_Md_highest_11 p0z rfl (by decide) fw_Md_126 ?_
      refine jz_icmp_ge (tgt := 48) d_Md_highest_14 (by decide) ⟨by omega, by omega⟩ ⟨by omega, by omega⟩ (fun hc => ?_) (fun hc => ?_)
      · have ek : k9 = (M.bl).toNat := by omega
        refine jl_iload_n d_Md_highest_48 rfl rfl ?_
        rw [ek]
        exact jl_iret d_Md_highest_49 rfl (hk h1 hM1 hf1)
      · refine jl_iload_n d_Md_highest_17 rfl rfl ?_
        refine jz_if_lt (tgt := 36) d_Md_highest_18 (by decide) ⟨by omega, by omega⟩ (fun hc2 => ?_) (fun hc2 => ?_)
        · refine jl_iload_n d_Md_highest_36 rfl rfl ?_
          refine jl_goto (tgt := 41) d_Md_highest_37 (by decide) ?_
          refine jl_istore_n (L' := [some (.ref (u)), some (.int (zI ((k9 : Int)))), some (.int (zI ((k9 : Int))))]) d_Md_highest_41 rfl (by decide) rfl ?_
          refine jz_iinc (v := ((k9 + 1 : Nat) : Int)) (L' := [some (.ref (u)), some (.int (zI ((k9 : Int)))), some (.int (zI (((k9 + 1 : Nat) : Int))))]) d_Md_highest_42 rfl (by omega) (by decide) rfl ?_
          refine jl_goto (tgt := 9) d_Md_highest_45 (by decide) ?_
          have h9 := ih (k - 1) (by omega) (k9 + 1) (by omega)
          rw [hiM, if_pos (Or.inl hc2)] at h9
          exact h9
        · have hz1 := hla k9 (by omega)
          have hz2 := hla (hiM M.la k9).toNat (by omega)
          refine jl_aload_n d_Md_highest_21 rfl rfl ?_
          refine jg_6 (q := 15) d_Md_highest_22 p0z rfl (by decide) fw_Md_36 ?_
          refine jl_iload_n d_Md_highest_25 rfl rfl ?_
          refine jz_iald d_Md_highest_26 p8z (by omega) (by omega) (by omega) ?_
          refine jl_aload_n d_Md_highest_27 rfl rfl ?_
          refine jg_6 (q := 15) d_Md_highest_28 p0z rfl (by decide) fw_Md_36 ?_
          refine jl_iload_n d_Md_highest_31 rfl rfl ?_
          refine jz_iald d_Md_highest_32 p8z (by omega) (by omega) (by omega) ?_
          rw [Int.toNat_natCast]
          refine jz_icmp_le (tgt := 40) d_Md_highest_33 (by decide) (by first | exact hz1 | exact hz2) (by first | exact hz1 | exact hz2) (fun hc3 => ?_) (fun hc3 => ?_)
          · refine jl_iload_n d_Md_highest_40 rfl rfl ?_
            refine jl_istore_n (L' := [some (.ref (u)), some (.int (zI (hiM M.la k9))), some (.int (zI ((k9 : Int))))]) d_Md_highest_41 rfl (by decide) rfl ?_
            refine jz_iinc (v := ((k9 + 1 : Nat) : Int)) (L' := [some (.ref (u)), some (.int (zI (hiM M.la k9))), some (.int (zI (((k9 + 1 : Nat) : Int))))]) d_Md_highest_42 rfl (by omega) (by decide) rfl ?_
            refine jl_goto (tgt := 9) d_Md_highest_45 (by decide) ?_
            have h9 := ih (k - 1) (by omega) (k9 + 1) (by omega)
            rw [hiM, if_neg (by omega)] at h9
            exact h9
          · refine jl_iload_n d_Md_highest_36 rfl rfl ?_
            refine jl_goto (tgt := 41) d_Md_highest_37 (by decide) ?_
            refine jl_istore_n (L' := [some (.ref (u)), some (.int (zI ((k9 : Int)))), some (.int (zI ((k9 : Int))))]) d_Md_highest_41 rfl (by decide) rfl ?_
            refine jz_iinc (v := ((k9 + 1 : Nat) : Int)) (L' := [some (.ref (u)), some (.int (zI ((k9 : Int)))), some (.int (zI (((k9 + 1 : Nat) : Int))))]) d_Md_highest_42 rfl (by omega) (by decide) rfl ?_
            refine jl_goto (tgt := 9) d_Md_highest_45 (by decide) ?_
            have h9 := ih (k - 1) (by omega) (k9 + 1) (by omega)
            rw [hiM, if_pos (by omega)] at h9
            exact h9
  exact lp1 (M.bl).toNat 0 (by omega)
