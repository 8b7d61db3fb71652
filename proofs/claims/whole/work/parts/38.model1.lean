theorem sp_tgt_z {M : MS} (ok : mOk M) (d : Int) {s k : Int} (hpe : 1 ≤ M.pe d.toNat) (hs : 0 ≤ s ∧ s < 16) (hk : 0 ≤ k ∧ k ≤ 9) : zR (sp_tgt (M.mo d.toNat) (M.pe d.toNat) (xM M d) s k) := by
  have hp := ok.2.1 d.toNat
  have e1 := Int.emod_nonneg (s - s % 2 + k) (show M.pe d.toNat ≠ 0 by omega)
  have e2 := Int.emod_lt_of_pos (s - s % 2 + k) (show 0 < M.pe d.toNat by omega)
  have e3 := Int.emod_nonneg (s + k) (show M.pe d.toNat ≠ 0 by omega)
  have e4 := Int.emod_lt_of_pos (s + k) (show 0 < M.pe d.toNat by omega)
  unfold sp_tgt
  split
  · have := sp_land_rg (m := M.mo d.toNat) (xs := xM M d) (b := s) (k := s % 2) (g := s - s % 2 + k) (by omega)
    exact ⟨by omega, by omega⟩
  · exact ⟨by omega, by omega⟩
set_option maxHeartbeats 4000000 in
set_option maxRecDepth 100000 in
theorem k_M_within {l : Launch} {G : jl_G} {d n : Nat} {h : Nat → va_E} {Kr : Option Value → Nat → (Nat → va_E) → Prop} {Kx : String → Nat → (Nat → va_E) → Prop} (hl9 : l.stackTraces = false) (hdd : 0 ≤ d) {a b c : Int} (ha : zR a) (hb : zR b) (hc9 : zR c) (hk1 : b ≤ a ∧ a ≤ c → Kr (some (.int (zI (1)))) n h) (hk0 : ¬ (b ≤ a ∧ a ≤ c) → Kr (some (.int (zI (0)))) n h) : jl_Call l G m_Md_within d [.int (zI (a)), .int (zI (b)), .int (zI (c))] n h 0 0 Kr Kx := by
  refine jl_enter hl9 (by decide) rfl (by simp [Value.category]) (Nat.le_of_ble_eq_true rfl) ?_
  show jl_AW l G (jl_F G Kr Kx) m_Md_within d 0 [some (.int (zI (a))), some (.int (zI (b))), some (.int (zI (c)))] [] n h 0 0
  refine jl_iload_n d_Md_within_0 rfl rfl ?_
  refine jl_iload_n d_Md_within_1 rfl rfl ?_
  refine jz_icmp_lt (tgt := 14) d_Md_within_2 (by decide) ⟨by omega, by omega⟩ ⟨by omega, by omega⟩ (fun q1 => ?_) (fun q1 => ?_)
  · refine jl_iconst (v := zI (0)) d_Md_within_14 (by decide) ?_
    exact jl_zret d_Md_within_15 rfl (by decide) (hk0 (by omega))
  · refine jl_iload_n d_Md_within_5 rfl rfl ?_
    refine jl_iload_n d_Md_within_6 rfl rfl ?_
    refine jz_icmp_gt (tgt := 14) d_Md_within_7 (by decide) ⟨by omega, by omega⟩ ⟨by omega, by omega⟩ (fun q2 => ?_) (fun q2 => ?_)
    · refine jl_iconst (v := zI (0)) d_Md_within_14 (by decide) ?_
      exact jl_zret d_Md_within_15 rfl (by decide) (hk0 (by omega))
    · refine jl_iconst (v := zI (1)) d_Md_within_10 (by decide) ?_
      refine jl_goto (tgt := 15) d_Md_within_11 (by decide) ?_
      exact jl_zret d_Md_within_15 rfl (by decide) (hk1 (by omega))
set_option maxHeartbeats 4000000 in
set_option maxRecDepth 100000 in
theorem k_M_thrown {l : Launch} {G : jl_G} {d n : Nat} {h : Nat → va_E} {Kr : Option Value → Nat → (Nat → va_E) → Prop} {Kx : String → Nat → (Nat → va_E) → Prop} (hl9 : l.stackTraces = false) (hdd : 0 ≤ d) {u : Nat} {M : MS} (hM9 : jM h u M) (hk : Kr (some (.int (zI (M.T)))) n h) : jl_Call l G m_Md_thrown d [.ref (u)] n h 0 0 Kr Kx := by
  refine jl_enter hl9 (by decide) rfl (by simp [Value.category]) (Nat.le_of_ble_eq_true rfl) ?_
  show jl_AW l G (jl_F G Kr Kx) m_Md_thrown d 0 [some (.ref (u))] [] n h 0 0
  obtain ⟨q0, q1, q2, q3, q4, q5, q6, q7, q8, q9, q10, q11, q12, q13⟩ := id (hM9)
  have p0 : h u = jO 6 [.int (zI (M.T)), .ref (u + 1), .ref (u + 2), .ref (u + 3), .ref (u + 4), .ref (u + 5), .int (zI (M.jn)), .int (zI (M.ja)), .int (zI (M.jb)), .ref (u + 6), .ref (u + 7), .int (zI (M.nw)), .int (zI (M.bl)), .int (zI (M.lt)), .int (zI (M.rt)), .ref (u + 8), .ref (u + 9), .ref (u + 10), .ref (u + 11), .ref (u + 12), .ref (u + 13)] := q0
  have p1 : h (u + 1) = jI 8 (fun j9 => zI (M.mo j9)) := q1
  have p2 : h (u + 2) = jI 8 (fun j9 => zI (M.pe j9)) := q2
  have p3 : h (u + 3) = jI 128 (fun j9 => zI (M.co j9)) := q3
  have p4 : h (u + 4) = jI 384 (fun j9 => zI (M.he j9)) := q4
  have p5 : h (u + 5) = jZ 128 (fun j9 => zI (M.cr j9)) := q5
  have p6 : h (u + 6) = jI 16 (fun j9 => zI (M.wy j9)) := q6
  have p7 : h (u + 7) = jI 512 (fun j9 => zI (M.fa j9)) := q7
  have p8 : h (u + 8) = jI 32 (fun j9 => zI (M.la j9)) := q8
  have p9 : h (u + 9) = jI 32 (fun j9 => zI (M.ha j9)) := q9
  have p10 : h (u + 10) = jI 4096 (fun j9 => zI (M.w1 j9)) := q10
  have p11 : h (u + 11) = jI 4096 (fun j9 => zI (M.mr j9)) := q11
  have p12 : h (u + 12) = jI 6 (fun j9 => zI (M.rw j9)) := q12
  have p13 : h (u + 13) = jI 16 (fun j9 => zI (M.tu j9)) := q13
  refine jl_aload_n d_Md_thrown_0 rfl rfl ?_
  refine jg_6 (q := 0) d_Md_thrown_1 p0 rfl (by decide) fw_Md_58 ?_
  exact jl_iret d_Md_thrown_4 rfl hk
set_option maxHeartbeats 4000000 in
set_option maxRecDepth 100000 in
theorem k_M_fail {l : Launch} {G : jl_G} {d n : Nat} {h : Nat → va_E} {Kr : Option Value → Nat → (Nat → va_E) → Prop} {Kx : String → Nat → (Nat → va_E) → Prop} (hl9 : l.stackTraces = false) (hdd : 0 ≤ d) {u : Nat} {M : MS} {a : Int} (hM9 : jM h u M) (hk : ∀ h', jM h' u (M.wT a) → jfr h h' u (u + 14) → Kr (some (.int (zI (0)))) n h') : jl_Call l G m_Md_fail d [.ref (u), .int (zI (a))] n h 0 0 Kr Kx := by
  refine jl_enter hl9 (by decide) rfl (by simp [Value.category]) (Nat.le_of_ble_eq_true rfl) ?_
  show jl_AW l G (jl_F G Kr Kx) m_Md_fail d 0 [some (.ref (u)), some (.int (zI (a)))] [] n h 0 0
  obtain ⟨q0, q1, q2, q3, q4, q5, q6, q7, q8, q9, q10, q11, q12, q13⟩ := id (hM9)
  have p0 : h u = jO 6 [.int (zI (M.T)), .ref (u + 1), .ref (u + 2), .ref (u + 3), .ref (u + 4), .ref (u + 5), .int (zI (M.jn)), .int (zI (M.ja)), .int (zI (M.jb)), .ref (u + 6), .ref (u + 7), .int (zI (M.nw)), .int (zI (M.bl)), .int (zI (M.lt)), .int (zI (M.rt)), .ref (u + 8), .ref (u + 9), .ref (u + 10), .ref (u + 11), .ref (u + 12), .ref (u + 13)] := q0
  have p1 : h (u + 1) = jI 8 (fun j9 => zI (M.mo j9)) := q1
  have p2 : h (u + 2) = jI 8 (fun j9 => zI (M.pe j9)) := q2
  have p3 : h (u + 3) = jI 128 (fun j9 => zI (M.co j9)) := q3
  have p4 : h (u + 4) = jI 384 (fun j9 => zI (M.he j9)) := q4
  have p5 : h (u + 5) = jZ 128 (fun j9 => zI (M.cr j9)) := q5
  have p6 : h (u + 6) = jI 16 (fun j9 => zI (M.wy j9)) := q6
  have p7 : h (u + 7) = jI 512 (fun j9 => zI (M.fa j9)) := q7
  have p8 : h (u + 8) = jI 32 (fun j9 => zI (M.la j9)) := q8
  have p9 : h (u + 9) = jI 32 (fun j9 => zI (M.ha j9)) := q9
  have p10 : h (u + 10) = jI 4096 (fun j9 => zI (M.w1 j9)) := q10
  have p11 : h (u + 11) = jI 4096 (fun j9 => zI (M.mr j9)) := q11
  have p12 : h (u + 12) = jI 6 (fun j9 => zI (M.rw j9)) := q12
  have p13 : h (u + 13) = jI 16 (fun j9 => zI (M.tu j9)) := q13
  refine jl_aload_n d_Md_fail_0 rfl rfl ?_
  refine jl_iload_n d_Md_fail_1 rfl rfl ?_
  refine jp_6 (q := 0) (ty := .int) d_Md_fail_2 p0 (by simp) (by decide) fw_Md_58 rfl (by decide +kernel) (fun _ _ => rfl) (fun _ _ => rfl) (fun h1 eh1 => ?_)
  have eh1 : h1 = va_up h (u) (jO 6 [.int (zI (a)), .ref (u + 1), .ref (u + 2), .ref (u + 3), .ref (u + 4), .ref (u + 5), .int (zI (M.jn)), .int (zI (M.ja)), .int (zI (M.jb)), .ref (u + 6), .ref (u + 7), .int (zI (M.nw)), .int (zI (M.bl)), .int (zI (M.lt)), .int (zI (M.rt)), .ref (u + 8), .ref (u + 9), .ref (u + 10), .ref (u + 11), .ref (u + 12), .ref (u + 13)]) := eh1
  have jf2 : h1 (u) = jO 6 [.int (zI (a)), .ref (u + 1), .ref (u + 2), .ref (u + 3), .ref (u + 4), .ref (u + 5), .int (zI (M.jn)), .int (zI (M.ja)), .int (zI (M.jb)), .ref (u + 6), .ref (u + 7), .int (zI (M.nw)), .int (zI (M.bl)), .int (zI (M.lt)), .int (zI (M.rt)), .ref (u + 8), .ref (u + 9), .ref (u + 10), .ref (u + 11), .ref (u + 12), .ref (u + 13)] := by rw [eh1, va_up_self]
  have jf3 : h1 (u + 1) = jI 8 (fun j9 => zI (M.mo j9)) := by rw [eh1, va_up_ne _ _ (by omega)]; exact p1
  have jf4 : h1 (u + 2) = jI 8 (fun j9 => zI (M.pe j9)) := by rw [eh1, va_up_ne _ _ (by omega)]; exact p2
  have jf5 : h1 (u + 3) = jI 128 (fun j9 => zI (M.co j9)) := by rw [eh1, va_up_ne _ _ (by omega)]; exact p3
  have jf6 : h1 (u + 4) = jI 384 (fun j9 => zI (M.he j9)) := by rw [eh1, va_up_ne _ _ (by omega)]; exact p4
  have jf7 : h1 (u + 5) = jZ 128 (fun j9 => zI (M.cr j9)) := by rw [eh1, va_up_ne _ _ (by omega)]; exact p5
  have jf8 : h1 (u + 6) = jI 16 (fun j9 => zI (M.wy j9)) := by rw [eh1, va_up_ne _ _ (by omega)]; exact p6
  have jf9 : h1 (u + 7) = jI 512 (fun j9 => zI (M.fa j9)) := by rw [eh1, va_up_ne _ _ (by omega)]; exact p7
  have jf10 : h1 (u + 8) = jI 32 (fun j9 => zI (M.la j9)) := by rw [eh1, va_up_ne _ _ (by omega)]; exact p8
  have jf11 : h1 (u + 9) = jI 32 (fun j9 => zI (M.ha j9)) := by rw [eh1, va_up_ne _ _ (by omega)]; exact p9
  have jf12 : h1 (u + 10) = jI 4096 (fun j9 => zI (M.w1 j9)) := by rw [eh1, va_up_ne _ _ (by omega)]; exact p10
  have jf13 : h1 (u + 11) = jI 4096 (fun j9 => zI (M.mr j9)) := by rw [eh1, va_up_ne _ _ (by omega)]; exact p11
  have jf14 : h1 (u + 12) = jI 6 (fun j9 => zI (M.rw j9)) := by rw [eh1, va_up_ne _ _ (by omega)]; exact p12
  have jf15 : h1 (u + 13) = jI 16 (fun j9 => zI (M.tu j9)) := by rw [eh1, va_up_ne _ _ (by omega)]; exact p13
  refine jl_iconst (v := zI (0)) d_Md_fail_5 (by decide) ?_
  exact jl_iret d_Md_fail_6 rfl (hk _ ⟨jf2, jf3, jf4, jf5, jf6, jf7, jf8, jf9, jf10, jf11, jf12, jf13, jf14, jf15⟩ (fun y hy => by rw [eh1, va_up_ne _ _ (by omega)]))
set_option maxHeartbeats 4000000 in
set_option maxRecDepth 100000 in
theorem k_M_tall {l : Launch} {G : jl_G} {d n : Nat} {h : Nat → va_E} {Kr : Option Value → Nat → (Nat → va_E) → Prop} {Kx : String → Nat → (Nat → va_E) → Prop} (hl9 : l.stackTraces = false) (hdd : 0 ≤ d) {u : Nat} {M : MS} {d9 s k9 : Int} (hM9 : jM h u M) (hd9 : 0 ≤ d9 ∧ d9 < 8) (hs9 : 0 ≤ s ∧ s < 16) (hk9 : 0 ≤ k9 ∧ k9 < 3) (hk : Kr (some (.int (zI (hM M d9 (s * 3 + k9).toNat)))) n h) : jl_Call l G m_Md_tall d [.ref (u), .int (zI (d9)), .int (zI (s)), .int (zI (k9))] n h 0 0 Kr Kx := by
  refine jl_enter hl9 (by decide) rfl (by simp [Value.category]) (Nat.le_of_ble_eq_true rfl) ?_
  show jl_AW l G (jl_F G Kr Kx) m_Md_tall d 0 [some (.ref (u)), some (.int (zI (d9))), some (.int (zI (s))), some (.int (zI (k9)))] [] n h 0 0
  obtain ⟨q0, q1, q2, q3, q4, q5, q6, q7, q8, q9, q10, q11, q12, q13⟩ := id (hM9)
  have p0 : h u = jO 6 [.int (zI (M.T)), .ref (u + 1), .ref (u + 2), .ref (u + 3), .ref (u + 4), .ref (u + 5), .int (zI (M.jn)), .int (zI (M.ja)), .int (zI (M.jb)), .ref (u + 6), .ref (u + 7), .int (zI (M.nw)), .int (zI (M.bl)), .int (zI (M.lt)), .int (zI (M.rt)), .ref (u + 8), .ref (u + 9), .ref (u + 10), .ref (u + 11), .ref (u + 12), .ref (u + 13)] := q0
  have p1 : h (u + 1) = jI 8 (fun j9 => zI (M.mo j9)) := q1
  have p2 : h (u + 2) = jI 8 (fun j9 => zI (M.pe j9)) := q2
  have p3 : h (u + 3) = jI 128 (fun j9 => zI (M.co j9)) := q3
  have p4 : h (u + 4) = jI 384 (fun j9 => zI (M.he j9)) := q4
  have p5 : h (u + 5) = jZ 128 (fun j9 => zI (M.cr j9)) := q5
  have p6 : h (u + 6) = jI 16 (fun j9 => zI (M.wy j9)) := q6
  have p7 : h (u + 7) = jI 512 (fun j9 => zI (M.fa j9)) := q7
  have p8 : h (u + 8) = jI 32 (fun j9 => zI (M.la j9)) := q8
  have p9 : h (u + 9) = jI 32 (fun j9 => zI (M.ha j9)) := q9
  have p10 : h (u + 10) = jI 4096 (fun j9 => zI (M.w1 j9)) := q10
  have p11 : h (u + 11) = jI 4096 (fun j9 => zI (M.mr j9)) := q11
  have p12 : h (u + 12) = jI 6 (fun j9 => zI (M.rw j9)) := q12
  have p13 : h (u + 13) = jI 16 (fun j9 => zI (M.tu j9)) := q13
  refine jl_aload_n d_Md_tall_0 rfl rfl ?_
  refine jg_6 (q := 4) d_Md_tall_1 p0 rfl (by decide) fw_Md_19 ?_
  refine jl_iconst (v := zI (3)) d_Md_tall_4 (by decide) ?_
  refine jl_bipush (v := zI (16)) d_Md_tall_5 (by decide) ?_
  refine jl_iload_n d_Md_tall_7 rfl rfl ?_
  refine jz_imul (v := (16) * (d9)) d_Md_tall_8 rfl ?_
  refine jl_iload_n d_Md_tall_9 rfl rfl ?_
  refine jz_iadd (v := ((16) * (d9)) + (s)) d_Md_tall_10 rfl ?_
  refine jz_imul (v := (3) * (((16) * (d9)) + (s))) d_Md_tall_11 rfl ?_
  refine jl_iload_n d_Md_tall_12 rfl rfl ?_
  refine jz_iadd (v := 48 * d9 + s * 3 + k9) d_Md_tall_13 (by omega) ?_
  refine jz_iald d_Md_tall_14 p4 (by omega) (by omega) (by omega) ?_
  rw [hM_at (by omega)]
  exact jl_iret d_Md_tall_15 rfl hk
set_option maxHeartbeats 4000000 in
set_option maxRecDepth 100000 in
theorem k_M_noSite {l : Launch} {G : jl_G} {d n : Nat} {h : Nat → va_E} {Kr : Option Value → Nat → (Nat → va_E) → Prop} {Kx : String → Nat → (Nat → va_E) → Prop} (hl9 : l.stackTraces = false) (hdd : 1 ≤ d) {u : Nat} {M : MS} {s : Int} (hM9 : jM h u M) (ok : mOk M) (hs9 : zR s) (hk0 : 0 ≤ s ∧ s < M.pe (0 : Int).toNat → Kr (some (.int (zI (0)))) n h) (hk1 : ¬ (0 ≤ s ∧ s < M.pe (0 : Int).toNat) → Kr (some (.int (zI (1)))) n h) : jl_Call l G m_Md_noSite d [.ref (u), .int (zI (s))] n h 0 0 Kr Kx := by
  refine jl_enter hl9 (by decide) rfl (by simp [Value.category]) (Nat.le_of_ble_eq_true rfl) ?_
  show jl_AW l G (jl_F G Kr Kx) m_Md_noSite d 0 [some (.ref (u)), some (.int (zI (s)))] [] n h 0 0
  obtain ⟨q0, q1, q2, q3, q4, q5, q6, q7, q8, q9, q10, q11, q12, q13⟩ := id (hM9)
  have p0 : h u = jO 6 [.int (zI (M.T)), .ref (u + 1), .ref (u + 2), .ref (u + 3), .ref (u + 4), .ref (u + 5), .int (zI (M.jn)), .int (zI (M.ja)), .int (zI (M.jb)), .ref (u + 6), .ref (u + 7), .int (zI (M.nw)), .int (zI (M.bl)), .int (zI (M.lt)), .int (zI (M.rt)), .ref (u + 8), .ref (u + 9), .ref (u + 10), .ref (u + 11), .ref (u + 12), .ref (u + 13)] := q0
  have p1 : h (u + 1) = jI 8 (fun j9 => zI (M.mo j9)) := q1
  have p2 : h (u + 2) = jI 8 (fun j9 => zI (M.pe j9)) := q2
  have p3 : h (u + 3) = jI 128 (fun j9 => zI (M.co j9)) := q3
  have p4 : h (u + 4) = jI 384 (fun j9 => zI (M.he j9)) := q4
  have p5 : h (u + 5) = jZ 128 (fun j9 => zI (M.cr j9)) := q5
  have p6 : h (u + 6) = jI 16 (fun j9 => zI (M.wy j9)) := q6
  have p7 : h (u + 7) = jI 512 (fun j9 => zI (M.fa j9)) := q7
  have p8 : h (u + 8) = jI 32 (fun j9 => zI (M.la j9)) := q8
  have p9 : h (u + 9) = jI 32 (fun j9 => zI (M.ha j9)) := q9
  have p10 : h (u + 10) = jI 4096 (fun j9 => zI (M.w1 j9)) := q10
  have p11 : h (u + 11) = jI 4096 (fun j9 => zI (M.mr j9)) := q11
  have p12 : h (u + 12) = jI 6 (fun j9 => zI (M.rw j9)) := q12
  have p13 : h (u + 13) = jI 16 (fun j9 => zI (M.tu j9)) := q13
  have hp0 := ok.2.1 (0 : Int).toNat
  refine jl_iload_n d_Md_noSite_0 rfl rfl ?_
  refine jl_iconst (v := zI (0)) d_Md_noSite_1 (by decide) ?_
  refine jl_aload_n d_Md_noSite_2 rfl rfl ?_
  refine jg_6 (q := 2) d_Md_noSite_3 p0 rfl (by decide) fw_Md_13 ?_
  refine jl_iconst (v := zI (0)) d_Md_noSite_6 (by decide) ?_
  refine jz_iald d_Md_noSite_7 p2 (by omega) (by omega) (by omega) ?_
  refine jl_iconst (v := zI (1)) d_Md_noSite_8 (by decide) ?_
  refine jz_isub (v := (M.pe (0 : Int).toNat) - (1)) d_Md_noSite_9 rfl ?_
  refine jl_invS (M' := m_Md_within) (d' := d - 1) (ck' := 0) (sk' := 0) (na := 3) (as := [.int (zI (s)), .int (zI (0)), .int (zI ((M.pe (0 : Int).toNat) - (1)))]) (st := []) d_Md_noSite_10 rfl mw_Md_61 ww_Md_within nw_Md cw_Md_within rfl rfl rfl (by decide +kernel) (by omega) (Nat.le_of_ble_eq_true rfl) (Nat.le_of_ble_eq_true rfl) ?_
  refine k_M_within hl9 (by omega) hs9 ⟨by decide, by decide⟩ ⟨by omega, by omega⟩ (fun hin => ?_) (fun hin => ?_)
  · show jl_AW _ _ _ _ _ 13 [some (.ref (u)), some (.int (zI (s)))] [.int (zI (1))] n h _ _
    refine jz_if_ne (tgt := 20) d_Md_noSite_13 (by decide) ⟨by omega, by omega⟩ (fun q1 => ?_) (fun q1 => ?_)
    · refine jl_iconst (v := zI (0)) d_Md_noSite_20 (by decide) ?_
      exact jl_zret d_Md_noSite_21 rfl (by decide) (hk0 (by omega))
    · exact absurd q1 (by decide)
  · show jl_AW _ _ _ _ _ 13 [some (.ref (u)), some (.int (zI (s)))] [.int (zI (0))] n h _ _
    refine jz_if_ne (tgt := 20) d_Md_noSite_13 (by decide) ⟨by omega, by omega⟩ (fun q1 => ?_) (fun q1 => ?_)
    · exact absurd rfl q1
    · refine jl_iconst (v := zI (1)) d_Md_noSite_16 (by decide) ?_
      refine jl_goto (tgt := 21) d_Md_noSite_17 (by decide) ?_
      exact jl_zret d_Md_noSite_21 rfl (by decide) (hk1 (by omega))
set_option maxHeartbeats 4000000 in
set_option maxRecDepth 100000 in
theorem k_M_target {l : Launch} {G : jl_G} {d n : Nat} {h : Nat → va_E} {Kr : Option Value → Nat → (Nat → va_E) → Prop} {Kx : String → Nat → (Nat → va_E) → Prop} (hl9 : l.stackTraces = false) (hdd : 1 ≤ d) {u : Nat} {M : MS} {d9 s k9 : Int} (hM9 : jM h u M) (ok : mOk M) (hd9 : 0 ≤ d9 ∧ d9 < 8) (hpe : 1 ≤ M.pe d9.toNat) (hs9 : 0 ≤ s ∧ s < 16) (hk9 : 0 ≤ k9 ∧ k9 < 3) (hk : Kr (some (.int (zI (sp_tgt (M.mo d9.toNat) (M.pe d9.toNat) (xM M d9) s (hM M d9 (s * 3 + k9).toNat))))) n h) : jl_Call l G m_Md_target d [.ref (u), .int (zI (d9)), .int (zI (s)), .int (zI (k9))] n h 0 0 Kr Kx := by
  refine jl_enter hl9 (by decide) rfl (by simp [Value.category]) (Nat.le_of_ble_eq_true rfl) ?_
  show jl_AW l G (jl_F G Kr Kx) m_Md_target d 0 [some (.ref (u)), some (.int (zI (d9))), some (.int (zI (s))), some (.int (zI (k9))), none, none] [] n h 0 0
  have hm9 := ok.1 d9.toNat
  have hp9 := ok.2.1 d9.toNat
  have hh := hM_rg ok d9 (s * 3 + k9).toNat
  obtain ⟨q0, q1, q2, q3, q4, q5, q6, q7, q8, q9, q10, q11, q12, q13⟩ := id (hM9)
  have p0 : h u = jO 6 [.int (zI (M.T)), .ref (u + 1), .ref (u + 2), .ref (u + 3), .ref (u + 4), .ref (u + 5), .int (zI (M.jn)), .int (zI (M.ja)), .int (zI (M.jb)), .ref (u + 6), .ref (u + 7), .int (zI (M.nw)), .int (zI (M.bl)), .int (zI (M.lt)), .int (zI (M.rt)), .ref (u + 8), .ref (u + 9), .ref (u + 10), .ref (u + 11), .ref (u + 12), .ref (u + 13)] := q0
  have p1 : h (u + 1) = jI 8 (fun j9 => zI (M.mo j9)) := q1
  have p2 : h (u + 2) = jI 8 (fun j9 => zI (M.pe j9)) := q2
  have p3 : h (u + 3) = jI 128 (fun j9 => zI (M.co j9)) := q3
  have p4 : h (u + 4) = jI 384 (fun j9 => zI (M.he j9)) := q4
  have p5 : h (u + 5) = jZ 128 (fun j9 => zI (M.cr j9)) := q5
  have p6 : h (u + 6) = jI 16 (fun j9 => zI (M.wy j9)) := q6
  have p7 : h (u + 7) = jI 512 (fun j9 => zI (M.fa j9)) := q7
  have p8 : h (u + 8) = jI 32 (fun j9 => zI (M.la j9)) := q8
  have p9 : h (u + 9) = jI 32 (fun j9 => zI (M.ha j9)) := q9
  have p10 : h (u + 10) = jI 4096 (fun j9 => zI (M.w1 j9)) := q10
  have p11 : h (u + 11) = jI 4096 (fun j9 => zI (M.mr j9)) := q11
  have p12 : h (u + 12) = jI 6 (fun j9 => zI (M.rw j9)) := q12
  have p13 : h (u + 13) = jI 16 (fun j9 => zI (M.tu j9)) := q13
  refine jl_aload_n d_Md_target_0 rfl rfl ?_
  refine jg_6 (q := 2) d_Md_target_1 p0 rfl (by decide) fw_Md_13 ?_
  refine jl_iload_n d_Md_target_4 rfl rfl ?_
  refine jz_iald d_Md_target_5 p2 (by omega) (by omega) (by omega) ?_
  refine jl_istore (L' := [some (.ref (u)), some (.int (zI (d9))), some (.int (zI (s))), some (.int (zI (k9))), some (.int (zI (M.pe (d9).toNat))), none]) d_Md_target_6 (by decide) rfl ?_
  refine jl_aload_n d_Md_target_8 rfl rfl ?_
  refine jg_6 (q := 1) d_Md_target_9 p0 rfl (by decide) fw_Md_7 ?_
  refine jl_iload_n d_Md_target_12 rfl rfl ?_
  refine jz_iald d_Md_target_13 p1 (by omega) (by omega) (by omega) ?_
  refine jl_iconst (v := zI (2)) d_Md_target_14 (by decide) ?_
  refine jz_icmp_ge (tgt := 31) d_Md_target_15 (by decide) ⟨by omega, by omega⟩ ⟨by omega, by omega⟩ (fun q1 => ?_) (fun q1 => ?_)
  · have em : M.mo d9.toNat = 2 := by omega
    have hx9 := ok.2.2.2.2 (16 * d9 + s).toNat
    have ex : (xM M d9 s.toNat = 0) ↔ M.cr (16 * d9 + s).toNat = 0 := by unfold xM; rw [show ((s.toNat : Nat) : Int) = s by omega]; omega
    refine jl_aload_n d_Md_target_31 rfl rfl ?_
    refine jg_6 (q := 5) d_Md_target_32 p0 rfl (by decide) fw_Md_22 ?_
    refine jl_bipush (v := zI (16)) d_Md_target_35 (by decide) ?_
    refine jl_iload_n d_Md_target_37 rfl rfl ?_
    refine jz_imul (v := (16) * (d9)) d_Md_target_38 rfl ?_
    refine jl_iload_n d_Md_target_39 rfl rfl ?_
    refine jz_iadd (v := 16 * d9 + s) d_Md_target_40 (by omega) ?_
    refine jz_zald d_Md_target_41 p5 (by omega) (by omega) (by omega) ?_
    refine jz_if_eq (tgt := 53) d_Md_target_42 (by decide) ⟨by omega, by omega⟩ (fun q2 => ?_) (fun q2 => ?_)
    · refine jl_iload_n d_Md_target_53 rfl rfl ?_
      refine jl_iconst (v := zI (2)) d_Md_target_54 (by decide) ?_
      refine jz_irem (v := s % 2) d_Md_target_55 ⟨by omega, by omega⟩ ⟨by omega, by omega⟩ (by omega) (Int.tmod_eq_emod_of_nonneg (by omega)) ?_
      refine jl_istore (L' := [some (.ref (u)), some (.int (zI (d9))), some (.int (zI (s))), some (.int (zI (k9))), some (.int (zI (M.pe (d9).toNat))), some (.int (zI (s % 2)))]) d_Md_target_56 (by decide) rfl ?_
      refine jl_iload_n d_Md_target_58 rfl rfl ?_
      refine jl_iload_n d_Md_target_59 rfl rfl ?_
      refine jl_iconst (v := zI (2)) d_Md_target_60 (by decide) ?_
      refine jz_irem (v := s % 2) d_Md_target_61 ⟨by omega, by omega⟩ ⟨by omega, by omega⟩ (by omega) (Int.tmod_eq_emod_of_nonneg (by omega)) ?_
      refine jz_isub (v := s - s % 2) d_Md_target_62 (by omega) ?_
      refine jl_aload_n d_Md_target_63 rfl rfl ?_
      refine jl_iload_n d_Md_target_64 rfl rfl ?_
      refine jl_iload_n d_Md_target_65 rfl rfl ?_
      refine jl_iload_n d_Md_target_66 rfl rfl ?_
      refine jl_invV (M' := m_Md_tall) (d' := d - 1) (ck' := 0) (sk' := 0) (na := 3) (as := [.int (zI (d9)), .int (zI (s)), .int (zI (k9))]) (st := [.int (zI (s - s % 2))]) d_Md_target_67 rfl p0 rfl mw_Md_73 ww_Md_tall sw_Md_tall nw_Md cw_Md_tall rfl rfl rfl (by decide +kernel) (by omega) (Nat.le_of_ble_eq_true rfl) (Nat.le_of_ble_eq_true rfl) ?_
      refine k_M_tall hl9 (by omega) hM9 ⟨by omega, by omega⟩ ⟨by omega, by omega⟩ ⟨by omega, by omega⟩ ?_
      show jl_AW _ _ _ _ _ 70 [some (.ref (u)), some (.int (zI (d9))), some (.int (zI (s))), some (.int (zI (k9))), some (.int (zI (M.pe (d9).toNat))), some (.int (zI (s % 2)))] [.int (zI (hM M d9 (s * 3 + k9).toNat)), .int (zI (s - s % 2))] n h _ _
      refine jz_iadd (v := s - s % 2 + hM M d9 (s * 3 + k9).toNat) d_Md_target_70 (by omega) ?_
      refine jl_iload d_Md_target_71 rfl ?_
      refine jz_irem (v := (s - s % 2 + hM M d9 (s * 3 + k9).toNat) % M.pe d9.toNat) d_Md_target_73 ⟨by omega, by omega⟩ ⟨by omega, by omega⟩ (by omega) (Int.tmod_eq_emod_of_nonneg (by omega)) ?_
      refine jl_iload d_Md_target_74 rfl ?_
      refine jz_iadd (v := ((s - s % 2 + hM M d9 (s * 3 + k9).toNat) % M.pe d9.toNat) + (s % 2)) d_Md_target_76 rfl ?_
      exact jl_iret d_Md_target_77 rfl (by unfold sp_tgt sp_land at hk; rw [if_pos em, if_pos em, if_pos (ex.mpr q2)] at hk; exact hk)
    · refine jl_iconst (v := zI (1)) d_Md_target_45 (by decide) ?_
      refine jl_iload_n d_Md_target_46 rfl rfl ?_
      refine jl_iconst (v := zI (2)) d_Md_target_47 (by decide) ?_
      refine jz_irem (v := s % 2) d_Md_target_48 ⟨by omega, by omega⟩ ⟨by omega, by omega⟩ (by omega) (Int.tmod_eq_emod_of_nonneg (by omega)) ?_
      refine jz_isub (v := 1 - s % 2) d_Md_target_49 (by omega) ?_
      refine jl_goto (tgt := 56) d_Md_target_50 (by decide) ?_
      refine jl_istore (L' := [some (.ref (u)), some (.int (zI (d9))), some (.int (zI (s))), some (.int (zI (k9))), some (.int (zI (M.pe (d9).toNat))), some (.int (zI (1 - s % 2)))]) d_Md_target_56 (by decide) rfl ?_
      refine jl_iload_n d_Md_target_58 rfl rfl ?_
      refine jl_iload_n d_Md_target_59 rfl rfl ?_
      refine jl_iconst (v := zI (2)) d_Md_target_60 (by decide) ?_
      refine jz_irem (v := s % 2) d_Md_target_61 ⟨by omega, by omega⟩ ⟨by omega, by omega⟩ (by omega) (Int.tmod_eq_emod_of_nonneg (by omega)) ?_
      refine jz_isub (v := s - s % 2) d_Md_target_62 (by omega) ?_
      refine jl_aload_n d_Md_target_63 rfl rfl ?_
      refine jl_iload_n d_Md_target_64 rfl rfl ?_
      refine jl_iload_n d_Md_target_65 rfl rfl ?_
      refine jl_iload_n d_Md_target_66 rfl rfl ?_
      refine jl_invV (M' := m_Md_tall) (d' := d - 1) (ck' := 0) (sk' := 0) (na := 3) (as := [.int (zI (d9)), .int (zI (s)), .int (zI (k9))]) (st := [.int (zI (s - s % 2))]) d_Md_target_67 rfl p0 rfl mw_Md_73 ww_Md_tall sw_Md_tall nw_Md cw_Md_tall rfl rfl rfl (by decide +kernel) (by omega) (Nat.le_of_ble_eq_true rfl) (Nat.le_of_ble_eq_true rfl) ?_
      refine k_M_tall hl9 (by omega) hM9 ⟨by omega, by omega⟩ ⟨by omega, by omega⟩ ⟨by omega, by omega⟩ ?_
      show jl_AW _ _ _ _ _ 70 [some (.ref (u)), some (.int (zI (d9))), some (.int (zI (s))), some (.int (zI (k9))), some (.int (zI (M.pe (d9).toNat))), some (.int (zI (1 - s % 2)))] [.int (zI (hM M d9 (s * 3 + k9).toNat)), .int (zI (s - s % 2))] n h _ _
      refine jz_iadd (v := s - s % 2 + hM M d9 (s * 3 + k9).toNat) d_Md_target_70 (by omega) ?_
      refine jl_iload d_Md_target_71 rfl ?_
      refine jz_irem (v := (s - s % 2 + hM M d9 (s * 3 + k9).toNat) % M.pe d9.toNat) d_Md_target_73 ⟨by omega, by omega⟩ ⟨by omega, by omega⟩ (by omega) (Int.tmod_eq_emod_of_nonneg (by omega)) ?_
      refine jl_iload d_Md_target_74 rfl ?_
      refine jz_iadd (v := ((s - s % 2 + hM M d9 (s * 3 + k9).toNat) % M.pe d9.toNat) + (1 - s % 2)) d_Md_target_76 rfl ?_
      exact jl_iret d_Md_target_77 rfl (by unfold sp_tgt sp_land at hk; rw [if_pos em, if_pos em, if_neg (fun q => q2 (ex.mp q))] at hk; exact hk)
  · refine jl_iload_n d_Md_target_18 rfl rfl ?_
    refine jl_aload_n d_Md_target_19 rfl rfl ?_
    refine jl_iload_n d_Md_target_20 rfl rfl ?_
    refine jl_iload_n d_Md_target_21 rfl rfl ?_
    refine jl_iload_n d_Md_target_22 rfl rfl ?_
    refine jl_invV (M' := m_Md_tall) (d' := d - 1) (ck' := 0) (sk' := 0) (na := 3) (as := [.int (zI (d9)), .int (zI (s)), .int (zI (k9))]) (st := [.int (zI (s))]) d_Md_target_23 rfl p0 rfl mw_Md_73 ww_Md_tall sw_Md_tall nw_Md cw_Md_tall rfl rfl rfl (by decide +kernel) (by omega) (Nat.le_of_ble_eq_true rfl) (Nat.le_of_ble_eq_true rfl) ?_
    refine k_M_tall hl9 (by omega) hM9 ⟨by omega, by omega⟩ ⟨by omega, by omega⟩ ⟨by omega, by omega⟩ ?_
    show jl_AW _ _ _ _ _ 26 [some (.ref (u)), some (.int (zI (d9))), some (.int (zI (s))), some (.int (zI (k9))), some (.int (zI (M.pe (d9).toNat))), none] [.int (zI (hM M d9 (s * 3 + k9).toNat)), .int (zI (s))] n h _ _
    refine jz_iadd (v := (s) + (hM M d9 (s * 3 + k9).toNat)) d_Md_target_26 rfl ?_
    refine jl_iload d_Md_target_27 rfl ?_
    refine jz_irem (v := (s + hM M d9 (s * 3 + k9).toNat) % M.pe d9.toNat) d_Md_target_29 ⟨by omega, by omega⟩ ⟨by omega, by omega⟩ (by omega) (Int.tmod_eq_emod_of_nonneg (by omega)) ?_
    exact jl_iret d_Md_target_30 rfl (by unfold sp_tgt at hk; rw [if_neg (by omega)] at hk; exact hk)
set_option maxHeartbeats 4000000 in
set_option maxRecDepth 100000 in
theorem k_M_throwsAt {l : Launch} {G : jl_G} {d n : Nat} {h : Nat → va_E} {Kr : Option Value → Nat → (Nat → va_E) → Prop} {Kx : String → Nat → (Nat → va_E) → Prop} (hl9 : l.stackTraces = false) (hdd : 1 ≤ d) {u : Nat} {M : MS} {d9 s : Int} (hM9 : jM h u M) (ok : mOk M) (hd9 : 0 ≤ d9 ∧ d9 < 8) (hs9 : 0 ≤ s ∧ s < 16) (hk : Kr (some (.int (zI (th_w (hM M d9) s (cM M d9 s.toNat).toNat)))) n h) : jl_Call l G m_Md_throwsAt d [.ref (u), .int (zI (d9)), .int (zI (s))] n h 0 0 Kr Kx := by
  refine jl_enter hl9 (by decide) rfl (by simp [Value.category]) (Nat.le_of_ble_eq_true rfl) ?_
  show jl_AW l G (jl_F G Kr Kx) m_Md_throwsAt d 0 [some (.ref (u)), some (.int (zI (d9))), some (.int (zI (s))), none, none] [] n h 0 0
  have hc9 := cM_rg ok d9 s.toNat
  have lp1 : ∀ (k : Nat) (t : Nat), (t : Int) + k = cM M d9 s.toNat → jl_AW l G (jl_F G Kr Kx) m_Md_throwsAt d 5 [some (.ref (u)), some (.int (zI (d9))), some (.int (zI (s))), some (.int (zI (th_w (hM M d9) s t))), some (.int (zI ((t : Int))))] [] n h 0 0 := by
    intro k
    induction k using Nat.strongRecOn with
    | ind k ih =>
      intro t hkt
      obtain ⟨q0, q1, q2, q3, q4, q5, q6, q7, q8, q9, q10, q11, q12, q13⟩ := id (hM9)
      have p0 : h u = jO 6 [.int (zI (M.T)), .ref (u + 1), .ref (u + 2), .ref (u + 3), .ref (u + 4), .ref (u + 5), .int (zI (M.jn)), .int (zI (M.ja)), .int (zI (M.jb)), .ref (u + 6), .ref (u + 7), .int (zI (M.nw)), .int (zI (M.bl)), .int (zI (M.lt)), .int (zI (M.rt)), .ref (u + 8), .ref (u + 9), .ref (u + 10), .ref (u + 11), .ref (u + 12), .ref (u + 13)] := q0
      have p1 : h (u + 1) = jI 8 (fun j9 => zI (M.mo j9)) := q1
      have p2 : h (u + 2) = jI 8 (fun j9 => zI (M.pe j9)) := q2
      have p3 : h (u + 3) = jI 128 (fun j9 => zI (M.co j9)) := q3
      have p4 : h (u + 4) = jI 384 (fun j9 => zI (M.he j9)) := q4
      have p5 : h (u + 5) = jZ 128 (fun j9 => zI (M.cr j9)) := q5
      have p6 : h (u + 6) = jI 16 (fun j9 => zI (M.wy j9)) := q6
      have p7 : h (u + 7) = jI 512 (fun j9 => zI (M.fa j9)) := q7
      have p8 : h (u + 8) = jI 32 (fun j9 => zI (M.la j9)) := q8
      have p9 : h (u + 9) = jI 32 (fun j9 => zI (M.ha j9)) := q9
      have p10 : h (u + 10) = jI 4096 (fun j9 => zI (M.w1 j9)) := q10
      have p11 : h (u + 11) = jI 4096 (fun j9 => zI (M.mr j9)) := q11
      have p12 : h (u + 12) = jI 6 (fun j9 => zI (M.rw j9)) := q12
      have p13 : h (u + 13) = jI 16 (fun j9 => zI (M.tu j9)) := q13
      have ht9 := th_w_rg (hM M d9) s t
      refine jl_iload d_Md_throwsAt_5 rfl ?_
      refine jl_aload_n d_Md_throwsAt_7 rfl rfl ?_
      refine jg_6 (q := 3) d_Md_throwsAt_8 p0 rfl (by decide) fw_Md_16 ?_
      refine jl_bipush (v := zI (16)) d_Md_throwsAt_11 (by decide) ?_
      refine jl_iload_n d_Md_throwsAt_13 rfl rfl ?_
      refine jz_imul (v := (16) * (d9)) d_Md_throwsAt_14 rfl ?_
      refine jl_iload_n d_Md_throwsAt_15 rfl rfl ?_
      refine jz_iadd (v := 16 * d9 + s) d_Md_throwsAt_16 (by omega) ?_
      refine jz_iald d_Md_throwsAt_17 p3 (by omega) (by omega) (by omega) ?_
      rw [cM_at (by omega)]
      refine jz_icmp_ge (tgt := 46) d_Md_throwsAt_18 (by decide) ⟨by omega, by omega⟩ ⟨by omega, by omega⟩ (fun hc => ?_) (fun hc => ?_)
      · have et : t = (cM M d9 s.toNat).toNat := by omega
        refine jl_iload_n d_Md_throwsAt_46 rfl rfl ?_
        rw [et]
        exact jl_iret d_Md_throwsAt_47 rfl hk
      · have hh := hM_rg ok d9 (s * 3 + (t : Int)).toNat
        refine jl_iload_n d_Md_throwsAt_21 rfl rfl ?_
        refine jl_aload_n d_Md_throwsAt_22 rfl rfl ?_
        refine jl_iload_n d_Md_throwsAt_23 rfl rfl ?_
        refine jl_iload_n d_Md_throwsAt_24 rfl rfl ?_
        refine jl_iload d_Md_throwsAt_25 rfl ?_
        refine jl_invV (M' := m_Md_tall) (d' := d - 1) (ck' := 0) (sk' := 0) (na := 3) (as := [.int (zI (d9)), .int (zI (s)), .int (zI ((t : Int)))]) (st := [.int (zI (th_w (hM M d9) s t))]) d_Md_throwsAt_27 rfl p0 rfl mw_Md_73 ww_Md_tall sw_Md_tall nw_Md cw_Md_tall rfl rfl rfl (by decide +kernel) (by omega) (Nat.le_of_ble_eq_true rfl) (Nat.le_of_ble_eq_true rfl) ?_
        refine k_M_tall hl9 (by omega) hM9 ⟨by omega, by omega⟩ ⟨by omega, by omega⟩ ⟨by omega, by omega⟩ ?_
        show jl_AW _ _ _ _ _ 30 [some (.ref (u)), some (.int (zI (d9))), some (.int (zI (s))), some (.int (zI (th_w (hM M d9) s t))), some (.int (zI ((t : Int))))] [.int (zI (hM M d9 (s * 3 + (t : Int)).toNat)), .int (zI (th_w (hM M d9) s t))] n h _ _
        refine jz_if_le (tgt := 37) d_Md_throwsAt_30 (by decide) ⟨by omega, by omega⟩ (fun hc2 => ?_) (fun hc2 => ?_)
        · refine jl_iconst (v := zI (0)) d_Md_throwsAt_37 (by decide) ?_
          refine jz_iadd (v := th_w (hM M d9) s (t + 1)) d_Md_throwsAt_38 (by rw [th_w, if_neg (by omega)]) ?_
          refine jl_istore_n (L' := [some (.ref (u)), some (.int (zI (d9))), some (.int (zI (s))), some (.int (zI (th_w (hM M d9) s (t + 1)))), some (.int (zI ((t : Int))))]) d_Md_throwsAt_39 rfl (by decide) rfl ?_
          refine jz_iinc (v := ((t + 1 : Nat) : Int)) (L' := [some (.ref (u)), some (.int (zI (d9))), some (.int (zI (s))), some (.int (zI (th_w (hM M d9) s (t + 1)))), some (.int (zI (((t + 1 : Nat) : Int))))]) d_Md_throwsAt_40 rfl (by omega) (by decide) rfl ?_
          refine jl_goto (tgt := 5) d_Md_throwsAt_43 (by decide) ?_
          exact ih (k - 1) (by omega) (t + 1) (by omega)
        · refine jl_iconst (v := zI (1)) d_Md_throwsAt_33 (by decide) ?_
          refine jl_goto (tgt := 38) d_Md_throwsAt_34 (by decide) ?_
          refine jz_iadd (v := th_w (hM M d9) s (t + 1)) d_Md_throwsAt_38 (by rw [th_w, if_pos (by omega)]) ?_
          refine jl_istore_n (L' := [some (.ref (u)), some (.int (zI (d9))), some (.int (zI (s))), some (.int (zI (th_w (hM M d9) s (t + 1)))), some (.int (zI ((t : Int))))]) d_Md_throwsAt_39 rfl (by decide) rfl ?_
          refine jz_iinc (v := ((t + 1 : Nat) : Int)) (L' := [some (.ref (u)), some (.int (zI (d9))), some (.int (zI (s))), some (.int (zI (th_w (hM M d9) s (t + 1)))), some (.int (zI (((t + 1 : Nat) : Int))))]) d_Md_throwsAt_40 rfl (by omega) (by decide) rfl ?_
          refine jl_goto (tgt := 5) d_Md_throwsAt_43 (by decide) ?_
          exact ih (k - 1) (by omega) (t + 1) (by omega)
  refine jl_iconst (v := zI (0)) d_Md_throwsAt_0 (by decide) ?_
  refine jl_istore_n (L' := [some (.ref (u)), some (.int (zI (d9))), some (.int (zI (s))), some (.int (zI (0))), none]) d_Md_throwsAt_1 rfl (by decide) rfl ?_
  refine jl_iconst (v := zI (0)) d_Md_throwsAt_2 (by decide) ?_
  refine jl_istore (L' := [some (.ref (u)), some (.int (zI (d9))), some (.int (zI (s))), some (.int (zI (0))), some (.int (zI (0)))]) d_Md_throwsAt_3 (by decide) rfl ?_
  exact lp1 (cM M d9 s.toNat).toNat 0 (by omega)
set_option maxHeartbeats 4000000 in
set_option maxRecDepth 100000 in
theorem k_M_landing {l : Launch} {G : jl_G} {d n : Nat} {h : Nat → va_E} {Kr : Option Value → Nat → (Nat → va_E) → Prop} {Kx : String → Nat → (Nat → va_E) → Prop} (hl9 : l.stackTraces = false) (hdd : 2 ≤ d) {u : Nat} {M : MS} {d9 b : Int} (hM9 : jM h u M) (ok : mOk M) (hd9 : 0 ≤ d9 ∧ d9 < 8) (hpe : 1 ≤ M.pe d9.toNat) (hb : zR b) (hk : Kr (some (.int (zI (ld_s (M.mo d9.toNat) (M.pe d9.toNat) (hM M d9) (cM M d9) (xM M d9) b (M.pe d9.toNat).toNat)))) n h) : jl_Call l G m_Md_landing d [.ref (u), .int (zI (d9)), .int (zI (b))] n h 0 0 Kr Kx := by
  refine jl_enter hl9 (by decide) rfl (by simp [Value.category]) (Nat.le_of_ble_eq_true rfl) ?_
  show jl_AW l G (jl_F G Kr Kx) m_Md_landing d 0 [some (.ref (u)), some (.int (zI (d9))), some (.int (zI (b))), none, none, none] [] n h 0 0
  have hp9 := ok.2.1 d9.toNat
  have lp1 : ∀ (k : Nat) (s : Nat), (s : Int) + k = M.pe d9.toNat → jl_AW l G (jl_F G Kr Kx) m_Md_landing d 5 [some (.ref (u)), some (.int (zI (d9))), some (.int (zI (b))), some (.int (zI (ld_s (M.mo d9.toNat) (M.pe d9.toNat) (hM M d9) (cM M d9) (xM M d9) b s))), some (.int (zI ((s : Int)))), none] [] n h 0 0 := by
    intro k
    induction k using Nat.strongRecOn with
    | ind k ih =>
      intro s hks
      have lpi : ∀ (k2 : Nat) (t : Nat), (t : Int) + k2 = cM M d9 s → (s : Int) < M.pe d9.toNat → jl_AW l G (jl_F G Kr Kx) m_Md_landing d 19 [some (.ref (u)), some (.int (zI (d9))), some (.int (zI (b))), some (.int (zI (ld_s (M.mo d9.toNat) (M.pe d9.toNat) (hM M d9) (cM M d9) (xM M d9) b s + ld_w (M.mo d9.toNat) (M.pe d9.toNat) (hM M d9) (xM M d9) b (s : Int) t))), some (.int (zI ((s : Int)))), some (.int (zI ((t : Int))))] [] n h 0 0 := by
        intro k2
        induction k2 using Nat.strongRecOn with
        | ind k2 ih2 =>
          intro t hkt hsp
          have hc9 := cM_rg ok d9 s
          have hl8 := ld_w_rg (M.mo d9.toNat) (M.pe d9.toNat) (hM M d9) (xM M d9) b (s : Int) t
          obtain ⟨q0, q1, q2, q3, q4, q5, q6, q7, q8, q9, q10, q11, q12, q13⟩ := id (hM9)
          have p0 : h u = jO 6 [.int (zI (M.T)), .ref (u + 1), .ref (u + 2), .ref (u + 3), .ref (u + 4), .ref (u + 5), .int (zI (M.jn)), .int (zI (M.ja)), .int (zI (M.jb)), .ref (u + 6), .ref (u + 7), .int (zI (M.nw)), .int (zI (M.bl)), .int (zI (M.lt)), .int (zI (M.rt)), .ref (u + 8), .ref (u + 9), .ref (u + 10), .ref (u + 11), .ref (u + 12), .ref (u + 13)] := q0
          have p1 : h (u + 1) = jI 8 (fun j9 => zI (M.mo j9)) := q1
          have p2 : h (u + 2) = jI 8 (fun j9 => zI (M.pe j9)) := q2
          have p3 : h (u + 3) = jI 128 (fun j9 => zI (M.co j9)) := q3
          have p4 : h (u + 4) = jI 384 (fun j9 => zI (M.he j9)) := q4
          have p5 : h (u + 5) = jZ 128 (fun j9 => zI (M.cr j9)) := q5
          have p6 : h (u + 6) = jI 16 (fun j9 => zI (M.wy j9)) := q6
          have p7 : h (u + 7) = jI 512 (fun j9 => zI (M.fa j9)) := q7
          have p8 : h (u + 8) = jI 32 (fun j9 => zI (M.la j9)) := q8
          have p9 : h (u + 9) = jI 32 (fun j9 => zI (M.ha j9)) := q9
          have p10 : h (u + 10) = jI 4096 (fun j9 => zI (M.w1 j9)) := q10
          have p11 : h (u + 11) = jI 4096 (fun j9 => zI (M.mr j9)) := q11
          have p12 : h (u + 12) = jI 6 (fun j9 => zI (M.rw j9)) := q12
          have p13 : h (u + 13) = jI 16 (fun j9 => zI (M.tu j9)) := q13
          refine jl_iload d_Md_landing_19 rfl ?_
          refine jl_aload_n d_Md_landing_21 rfl rfl ?_
          refine jg_6 (q := 3) d_Md_landing_22 p0 rfl (by decide) fw_Md_16 ?_
          refine jl_bipush (v := zI (16)) d_Md_landing_25 (by decide) ?_
          refine jl_iload_n d_Md_landing_27 rfl rfl ?_
          refine jz_imul (v := (16) * (d9)) d_Md_landing_28 rfl ?_
          refine jl_iload d_Md_landing_29 rfl ?_
          refine jz_iadd (v := 16 * d9 + (s : Int)) d_Md_landing_31 (by omega) ?_
          refine jz_iald d_Md_landing_32 p3 (by omega) (by omega) (by omega) ?_
          rw [cM_at (by omega), Int.toNat_natCast]
          refine jz_icmp_ge (tgt := 75) d_Md_landing_33 (by decide) ⟨by omega, by omega⟩ ⟨by omega, by omega⟩ (fun hc => ?_) (fun hc => ?_)
          · have et : t = (cM M d9 s).toNat := by omega
            refine jz_iinc (v := ((s + 1 : Nat) : Int)) (L' := [some (.ref (u)), some (.int (zI (d9))), some (.int (zI (b))), some (.int (zI (ld_s (M.mo d9.toNat) (M.pe d9.toNat) (hM M d9) (cM M d9) (xM M d9) b s + ld_w (M.mo d9.toNat) (M.pe d9.toNat) (hM M d9) (xM M d9) b (s : Int) t))), some (.int (zI (((s + 1 : Nat) : Int)))), some (.int (zI ((t : Int))))]) d_Md_landing_75 rfl (by omega) (by decide) rfl ?_
            refine jl_goto (tgt := 5) d_Md_landing_78 (by decide) ?_
            refine jl_less (L' := [some (.ref (u)), some (.int (zI (d9))), some (.int (zI (b))), some (.int (zI (ld_s (M.mo d9.toNat) (M.pe d9.toNat) (hM M d9) (cM M d9) (xM M d9) b s + ld_w (M.mo d9.toNat) (M.pe d9.toNat) (hM M d9) (xM M d9) b (s : Int) t))), some (.int (zI (((s + 1 : Nat) : Int)))), none]) ⟨rfl, rfl, rfl, rfl, rfl, trivial⟩ ?_
            have h9 := ih (k - 1) (by omega) (s + 1) (by omega)
            rw [ld_s, ← et] at h9
            exact h9
          · have hh := hM_rg ok d9 ((s : Int) * 3 + (t : Int)).toNat
            refine jl_iload_n d_Md_landing_36 rfl rfl ?_
            refine jl_aload_n d_Md_landing_37 rfl rfl ?_
            refine jl_iload_n d_Md_landing_38 rfl rfl ?_
            refine jl_iload d_Md_landing_39 rfl ?_
            refine jl_iload d_Md_landing_41 rfl ?_
            refine jl_invV (M' := m_Md_tall) (d' := d - 1) (ck' := 0) (sk' := 0) (na := 3) (as := [.int (zI (d9)), .int (zI ((s : Int))), .int (zI ((t : Int)))]) (st := [.int (zI (ld_s (M.mo d9.toNat) (M.pe d9.toNat) (hM M d9) (cM M d9) (xM M d9) b s + ld_w (M.mo d9.toNat) (M.pe d9.toNat) (hM M d9) (xM M d9) b (s : Int) t))]) d_Md_landing_43 rfl p0 rfl mw_Md_73 ww_Md_tall sw_Md_tall nw_Md cw_Md_tall rfl rfl rfl (by decide +kernel) (by omega) (Nat.le_of_ble_eq_true rfl) (Nat.le_of_ble_eq_true rfl) ?_
            refine k_M_tall hl9 (by omega) hM9 ⟨by omega, by omega⟩ ⟨by omega, by omega⟩ ⟨by omega, by omega⟩ ?_
            show jl_AW _ _ _ _ _ 46 [some (.ref (u)), some (.int (zI (d9))), some (.int (zI (b))), some (.int (zI (ld_s (M.mo d9.toNat) (M.pe d9.toNat) (hM M d9) (cM M d9) (xM M d9) b s + ld_w (M.mo d9.toNat) (M.pe d9.toNat) (hM M d9) (xM M d9) b (s : Int) t))), some (.int (zI ((s : Int)))), some (.int (zI ((t : Int))))] [.int (zI (hM M d9 ((s : Int) * 3 + (t : Int)).toNat)), .int (zI (ld_s (M.mo d9.toNat) (M.pe d9.toNat) (hM M d9) (cM M d9) (xM M d9) b s + ld_w (M.mo d9.toNat) (M.pe d9.toNat) (hM M d9) (xM M d9) b (s : Int) t))] n h _ _
            refine jz_if_le (tgt := 66) d_Md_landing_46 (by decide) ⟨by omega, by omega⟩ (fun hc2 => ?_) (fun hc2 => ?_)
            · refine jl_iconst (v := zI (0)) d_Md_landing_66 (by decide) ?_
              refine jz_iadd (v := ld_s (M.mo d9.toNat) (M.pe d9.toNat) (hM M d9) (cM M d9) (xM M d9) b s + ld_w (M.mo d9.toNat) (M.pe d9.toNat) (hM M d9) (xM M d9) b (s : Int) (t + 1)) d_Md_landing_67 (by rw [ld_w, if_neg (fun q => by omega)]; omega) ?_
              refine jl_istore_n (L' := [some (.ref (u)), some (.int (zI (d9))), some (.int (zI (b))), some (.int (zI (ld_s (M.mo d9.toNat) (M.pe d9.toNat) (hM M d9) (cM M d9) (xM M d9) b s + ld_w (M.mo d9.toNat) (M.pe d9.toNat) (hM M d9) (xM M d9) b (s : Int) (t + 1)))), some (.int (zI ((s : Int)))), some (.int (zI ((t : Int))))]) d_Md_landing_68 rfl (by decide) rfl ?_
              refine jz_iinc (v := ((t + 1 : Nat) : Int)) (L' := [some (.ref (u)), some (.int (zI (d9))), some (.int (zI (b))), some (.int (zI (ld_s (M.mo d9.toNat) (M.pe d9.toNat) (hM M d9) (cM M d9) (xM M d9) b s + ld_w (M.mo d9.toNat) (M.pe d9.toNat) (hM M d9) (xM M d9) b (s : Int) (t + 1)))), some (.int (zI ((s : Int)))), some (.int (zI (((t + 1 : Nat) : Int))))]) d_Md_landing_69 rfl (by omega) (by decide) rfl ?_
              refine jl_goto (tgt := 19) d_Md_landing_72 (by decide) ?_
              exact ih2 (k2 - 1) (by omega) (t + 1) (by omega) hsp
            · have hz9 : zR (sp_tgt (M.mo d9.toNat) (M.pe d9.toNat) (xM M d9) (s : Int) (hM M d9 ((s : Int) * 3 + (t : Int)).toNat)) := sp_tgt_z ok d9 (by omega) (by omega) hh
              refine jl_aload_n d_Md_landing_49 rfl rfl ?_
              refine jl_iload_n d_Md_landing_50 rfl rfl ?_
              refine jl_iload d_Md_landing_51 rfl ?_
              refine jl_iload d_Md_landing_53 rfl ?_
              refine jl_invV (M' := m_Md_target) (d' := d - 1) (ck' := 0) (sk' := 0) (na := 3) (as := [.int (zI (d9)), .int (zI ((s : Int))), .int (zI ((t : Int)))]) (st := [.int (zI (ld_s (M.mo d9.toNat) (M.pe d9.toNat) (hM M d9) (cM M d9) (xM M d9) b s + ld_w (M.mo d9.toNat) (M.pe d9.toNat) (hM M d9) (xM M d9) b (s : Int) t))]) d_Md_landing_55 rfl p0 rfl mw_Md_77 ww_Md_target sw_Md_target nw_Md cw_Md_target rfl rfl rfl (by decide +kernel) (by omega) (Nat.le_of_ble_eq_true rfl) (Nat.le_of_ble_eq_true rfl) ?_
              refine k_M_target hl9 (by omega) hM9 ok hd9 hpe ⟨by omega, by omega⟩ ⟨by omega, by omega⟩ ?_
              show jl_AW _ _ _ _ _ 58 [some (.ref (u)), some (.int (zI (d9))), some (.int (zI (b))), some (.int (zI (ld_s (M.mo d9.toNat) (M.pe d9.toNat) (hM M d9) (cM M d9) (xM M d9) b s + ld_w (M.mo d9.toNat) (M.pe d9.toNat) (hM M d9) (xM M d9) b (s : Int) t))), some (.int (zI ((s : Int)))), some (.int (zI ((t : Int))))] [.int (zI (sp_tgt (M.mo d9.toNat) (M.pe d9.toNat) (xM M d9) (s : Int) (hM M d9 ((s : Int) * 3 + (t : Int)).toNat))), .int (zI (ld_s (M.mo d9.toNat) (M.pe d9.toNat) (hM M d9) (cM M d9) (xM M d9) b s + ld_w (M.mo d9.toNat) (M.pe d9.toNat) (hM M d9) (xM M d9) b (s : Int) t))] n h _ _
              refine jl_iload_n d_Md_landing_58 rfl rfl ?_
              refine jz_icmp_ne (tgt := 66) d_Md_landing_59 (by decide) (by first | exact hz9 | exact hb) (by first | exact hz9 | exact hb) (fun hc3 => ?_) (fun hc3 => ?_)
              · refine jl_iconst (v := zI (0)) d_Md_landing_66 (by decide) ?_
                refine jz_iadd (v := ld_s (M.mo d9.toNat) (M.pe d9.toNat) (hM M d9) (cM M d9) (xM M d9) b s + ld_w (M.mo d9.toNat) (M.pe d9.toNat) (hM M d9) (xM M d9) b (s : Int) (t + 1)) d_Md_landing_67 (by rw [ld_w, if_neg (fun q => hc3 q.2)]; omega) ?_
                refine jl_istore_n (L' := [some (.ref (u)), some (.int (zI (d9))), some (.int (zI (b))), some (.int (zI (ld_s (M.mo d9.toNat) (M.pe d9.toNat) (hM M d9) (cM M d9) (xM M d9) b s + ld_w (M.mo d9.toNat) (M.pe d9.toNat) (hM M d9) (xM M d9) b (s : Int) (t + 1)))), some (.int (zI ((s : Int)))), some (.int (zI ((t : Int))))]) d_Md_landing_68 rfl (by decide) rfl ?_
                refine jz_iinc (v := ((t + 1 : Nat) : Int)) (L' := [some (.ref (u)), some (.int (zI (d9))), some (.int (zI (b))), some (.int (zI (ld_s (M.mo d9.toNat) (M.pe d9.toNat) (hM M d9) (cM M d9) (xM M d9) b s + ld_w (M.mo d9.toNat) (M.pe d9.toNat) (hM M d9) (xM M d9) b (s : Int) (t + 1)))), some (.int (zI ((s : Int)))), some (.int (zI (((t + 1 : Nat) : Int))))]) d_Md_landing_69 rfl (by omega) (by decide) rfl ?_
                refine jl_goto (tgt := 19) d_Md_landing_72 (by decide) ?_
                exact ih2 (k2 - 1) (by omega) (t + 1) (by omega) hsp
              · refine jl_iconst (v := zI (1)) d_Md_landing_62 (by decide) ?_
                refine jl_goto (tgt := 67) d_Md_landing_63 (by decide) ?_
                refine jz_iadd (v := ld_s (M.mo d9.toNat) (M.pe d9.toNat) (hM M d9) (cM M d9) (xM M d9) b s + ld_w (M.mo d9.toNat) (M.pe d9.toNat) (hM M d9) (xM M d9) b (s : Int) (t + 1)) d_Md_landing_67 (by rw [ld_w, if_pos ⟨by omega, hc3⟩]; omega) ?_
                refine jl_istore_n (L' := [some (.ref (u)), some (.int (zI (d9))), some (.int (zI (b))), some (.int (zI (ld_s (M.mo d9.toNat) (M.pe d9.toNat) (hM M d9) (cM M d9) (xM M d9) b s + ld_w (M.mo d9.toNat) (M.pe d9.toNat) (hM M d9) (xM M d9) b (s : Int) (t + 1)))), some (.int (zI ((s : Int)))), some (.int (zI ((t : Int))))]) d_Md_landing_68 rfl (by decide) rfl ?_
                refine jz_iinc (v := ((t + 1 : Nat) : Int)) (L' := [some (.ref (u)), some (.int (zI (d9))), some (.int (zI (b))), some (.int (zI (ld_s (M.mo d9.toNat) (M.pe d9.toNat) (hM M d9) (cM M d9) (xM M d9) b s + ld_w (M.mo d9.toNat) (M.pe d9.toNat) (hM M d9) (xM M d9) b (s : Int) (t + 1)))), some (.int (zI ((s : Int)))), some (.int (zI (((t + 1 : Nat) : Int))))]) d_Md_landing_69 rfl (by omega) (by decide) rfl ?_
                refine jl_goto (tgt := 19) d_Md_landing_72 (by decide) ?_
                exact ih2 (k2 - 1) (by omega) (t + 1) (by omega) hsp
      have hc9 := cM_rg ok d9 s
      obtain ⟨q0, q1, q2, q3, q4, q5, q6, q7, q8, q9, q10, q11, q12, q13⟩ := id (hM9)
      have p0 : h u = jO 6 [.int (zI (M.T)), .ref (u + 1), .ref (u + 2), .ref (u + 3), .ref (u + 4), .ref (u + 5), .int (zI (M.jn)), .int (zI (M.ja)), .int (zI (M.jb)), .ref (u + 6), .ref (u + 7), .int (zI (M.nw)), .int (zI (M.bl)), .int (zI (M.lt)), .int (zI (M.rt)), .ref (u + 8), .ref (u + 9), .ref (u + 10), .ref (u + 11), .ref (u + 12), .ref (u + 13)] := q0
      have p1 : h (u + 1) = jI 8 (fun j9 => zI (M.mo j9)) := q1
      have p2 : h (u + 2) = jI 8 (fun j9 => zI (M.pe j9)) := q2
      have p3 : h (u + 3) = jI 128 (fun j9 => zI (M.co j9)) := q3
      have p4 : h (u + 4) = jI 384 (fun j9 => zI (M.he j9)) := q4
      have p5 : h (u + 5) = jZ 128 (fun j9 => zI (M.cr j9)) := q5
      have p6 : h (u + 6) = jI 16 (fun j9 => zI (M.wy j9)) := q6
      have p7 : h (u + 7) = jI 512 (fun j9 => zI (M.fa j9)) := q7
      have p8 : h (u + 8) = jI 32 (fun j9 => zI (M.la j9)) := q8
      have p9 : h (u + 9) = jI 32 (fun j9 => zI (M.ha j9)) := q9
      have p10 : h (u + 10) = jI 4096 (fun j9 => zI (M.w1 j9)) := q10
      have p11 : h (u + 11) = jI 4096 (fun j9 => zI (M.mr j9)) := q11
      have p12 : h (u + 12) = jI 6 (fun j9 => zI (M.rw j9)) := q12
      have p13 : h (u + 13) = jI 16 (fun j9 => zI (M.tu j9)) := q13
      refine jl_iload d_Md_landing_5 rfl ?_
      refine jl_aload_n d_Md_landing_7 rfl rfl ?_
      refine jg_6 (q := 2) d_Md_landing_8 p0 rfl (by decide) fw_Md_13 ?_
      refine jl_iload_n d_Md_landing_11 rfl rfl ?_
      refine jz_iald d_Md_landing_12 p2 (by omega) (by omega) (by omega) ?_
      refine jz_icmp_ge (tgt := 81) d_Md_landing_13 (by decide) ⟨by omega, by omega⟩ ⟨by omega, by omega⟩ (fun hc => ?_) (fun hc => ?_)
      · have es : s = (M.pe d9.toNat).toNat := by omega
        refine jl_iload_n d_Md_landing_81 rfl rfl ?_
        rw [es]
        exact jl_iret d_Md_landing_82 rfl hk
      · refine jl_iconst (v := zI (0)) d_Md_landing_16 (by decide) ?_
        refine jl_istore (L' := [some (.ref (u)), some (.int (zI (d9))), some (.int (zI (b))), some (.int (zI (ld_s (M.mo d9.toNat) (M.pe d9.toNat) (hM M d9) (cM M d9) (xM M d9) b s))), some (.int (zI ((s : Int)))), some (.int (zI (0)))]) d_Md_landing_17 (by decide) rfl ?_
        have h9 := lpi (cM M d9 s).toNat 0 (by omega) (by omega)
        rw [ld_w, Int.add_zero] at h9
        exact h9
  refine jl_iconst (v := zI (0)) d_Md_landing_0 (by decide) ?_
  refine jl_istore_n (L' := [some (.ref (u)), some (.int (zI (d9))), some (.int (zI (b))), some (.int (zI (0))), none, none]) d_Md_landing_1 rfl (by decide) rfl ?_
  refine jl_iconst (v := zI (0)) d_Md_landing_2 (by decide) ?_
  refine jl_istore (L' := [some (.ref (u)), some (.int (zI (d9))), some (.int (zI (b))), some (.int (zI (0))), some (.int (zI (0))), none]) d_Md_landing_3 (by decide) rfl ?_
  exact lp1 (M.pe d9.toNat).toNat 0 (by omega)
set_option maxHeartbeats 4000000 in
set_option maxRecDepth 100000 in
theorem k_M_isValid {l : Launch} {G : jl_G} {d n : Nat} {h : Nat → va_E} {Kr : Option Value → Nat → (Nat → va_E) → Prop} {Kx : String → Nat → (Nat → va_E) → Prop} (hl9 : l.stackTraces = false) (hdd : 3 ≤ d) {u : Nat} {M : MS} {d9 : Int} (hM9 : jM h u M) (ok : mOk M) (hd9 : 0 ≤ d9 ∧ d9 < 8) (hpe : 1 ≤ M.pe d9.toNat) (hk : ∀ g, sp_is (sp_ev (M.mo d9.toNat) (M.pe d9.toNat) (hM M d9) (cM M d9) (xM M d9)) g → Kr (some (.int (zI (g)))) n h) : jl_Call l G m_Md_isValid d [.ref (u), .int (zI (d9))] n h 0 0 Kr Kx := by
  refine jl_enter hl9 (by decide) rfl (by simp [Value.category]) (Nat.le_of_ble_eq_true rfl) ?_
  show jl_AW l G (jl_F G Kr Kx) m_Md_isValid d 0 [some (.ref (u)), some (.int (zI (d9))), none, none] [] n h 0 0
  have hp9 := ok.2.1 d9.toNat
  have lp1 : ∀ (k : Nat) (s g : Int), s + k = M.pe d9.toNat → 0 ≤ s → sp_is (∀ s9 : Int, 0 ≤ s9 → s9 < s → ld_s (M.mo d9.toNat) (M.pe d9.toNat) (hM M d9) (cM M d9) (xM M d9) s9 (M.pe d9.toNat).toNat = th_w (hM M d9) s9 (cM M d9 s9.toNat).toNat) g → jl_AW l G (jl_F G Kr Kx) m_Md_isValid d 4 [some (.ref (u)), some (.int (zI (d9))), some (.int (zI (g))), some (.int (zI (s)))] [] n h 0 0 := by
    intro k
    induction k using Nat.strongRecOn with
    | ind k ih =>
      intro s g hks hs0 hg
      have hg8 := sp_is_rg hg
      obtain ⟨q0, q1, q2, q3, q4, q5, q6, q7, q8, q9, q10, q11, q12, q13⟩ := id (hM9)
      have p0 : h u = jO 6 [.int (zI (M.T)), .ref (u + 1), .ref (u + 2), .ref (u + 3), .ref (u + 4), .ref (u + 5), .int (zI (M.jn)), .int (zI (M.ja)), .int (zI (M.jb)), .ref (u + 6), .ref (u + 7), .int (zI (M.nw)), .int (zI (M.bl)), .int (zI (M.lt)), .int (zI (M.rt)), .ref (u + 8), .ref (u + 9), .ref (u + 10), .ref (u + 11), .ref (u + 12), .ref (u + 13)] := q0
      have p1 : h (u + 1) = jI 8 (fun j9 => zI (M.mo j9)) := q1
      have p2 : h (u + 2) = jI 8 (fun j9 => zI (M.pe j9)) := q2
      have p3 : h (u + 3) = jI 128 (fun j9 => zI (M.co j9)) := q3
      have p4 : h (u + 4) = jI 384 (fun j9 => zI (M.he j9)) := q4
      have p5 : h (u + 5) = jZ 128 (fun j9 => zI (M.cr j9)) := q5
      have p6 : h (u + 6) = jI 16 (fun j9 => zI (M.wy j9)) := q6
      have p7 : h (u + 7) = jI 512 (fun j9 => zI (M.fa j9)) := q7
      have p8 : h (u + 8) = jI 32 (fun j9 => zI (M.la j9)) := q8
      have p9 : h (u + 9) = jI 32 (fun j9 => zI (M.ha j9)) := q9
      have p10 : h (u + 10) = jI 4096 (fun j9 => zI (M.w1 j9)) := q10
      have p11 : h (u + 11) = jI 4096 (fun j9 => zI (M.mr j9)) := q11
      have p12 : h (u + 12) = jI 6 (fun j9 => zI (M.rw j9)) := q12
      have p13 : h (u + 13) = jI 16 (fun j9 => zI (M.tu j9)) := q13
      refine jl_iload_n d_Md_isValid_4 rfl rfl ?_
      refine jl_aload_n d_Md_isValid_5 rfl rfl ?_
      refine jg_6 (q := 2) d_Md_isValid_6 p0 rfl (by decide) fw_Md_13 ?_
      refine jl_iload_n d_Md_isValid_9 rfl rfl ?_
      refine jz_iald d_Md_isValid_10 p2 (by omega) (by omega) (by omega) ?_
      refine jz_icmp_ge (tgt := 45) d_Md_isValid_11 (by decide) ⟨by omega, by omega⟩ ⟨by omega, by omega⟩ (fun hc => ?_) (fun hc => ?_)
      · have es : s = M.pe d9.toNat := by omega
        refine jl_iload_n d_Md_isValid_45 rfl rfl ?_
        subst es
        exact jl_zret d_Md_isValid_46 rfl (by rcases hg with ⟨h8, -⟩ | ⟨h8, -⟩ <;> subst h8 <;> decide) (hk g hg)
      · refine jl_iload_n d_Md_isValid_14 rfl rfl ?_
        refine jz_if_eq (tgt := 37) d_Md_isValid_15 (by decide) ⟨by omega, by omega⟩ (fun hc2 => ?_) (fun hc2 => ?_)
        · refine jl_iconst (v := zI (0)) d_Md_isValid_37 (by decide) ?_
          refine jl_istore_n (L' := [some (.ref (u)), some (.int (zI (d9))), some (.int (zI (0))), some (.int (zI (s)))]) d_Md_isValid_38 rfl (by decide) rfl ?_
          refine jz_iinc (v := s + 1) (L' := [some (.ref (u)), some (.int (zI (d9))), some (.int (zI (0))), some (.int (zI (s + 1)))]) d_Md_isValid_39 rfl (by omega) (by decide) rfl ?_
          refine jl_goto (tgt := 4) d_Md_isValid_42 (by decide) ?_
          exact ih (k - 1) (by omega) (s + 1) 0 (by omega) (by omega) (Or.inr ⟨rfl, fun q => (by rcases hg with ⟨h8, -⟩ | ⟨-, h8⟩; omega; exact h8 (fun s9 r1 r2 => q s9 r1 (by omega)))⟩)
        · have hl8 := ld_s_rg (m := M.mo d9.toNat) (p := M.pe d9.toNat) (hs := hM M d9) (xs := xM M d9) (cM_rg ok d9) s (M.pe d9.toNat).toNat
          have hc8 := cM_rg ok d9 s.toNat
          have ht8 := th_w_rg (hM M d9) s (cM M d9 s.toNat).toNat
          refine jl_aload_n d_Md_isValid_18 rfl rfl ?_
          refine jl_iload_n d_Md_isValid_19 rfl rfl ?_
          refine jl_iload_n d_Md_isValid_20 rfl rfl ?_
          refine jl_invV (M' := m_Md_landing) (d' := d - 1) (ck' := 0) (sk' := 0) (na := 2) (as := [.int (zI (d9)), .int (zI (s))]) (st := []) d_Md_isValid_21 rfl p0 rfl mw_Md_80 ww_Md_landing sw_Md_landing nw_Md cw_Md_landing rfl rfl rfl (by decide +kernel) (by omega) (Nat.le_of_ble_eq_true rfl) (Nat.le_of_ble_eq_true rfl) ?_
          refine k_M_landing hl9 (by omega) hM9 ok hd9 hpe ⟨by omega, by omega⟩ ?_
          show jl_AW _ _ _ _ _ 24 [some (.ref (u)), some (.int (zI (d9))), some (.int (zI (g))), some (.int (zI (s)))] [.int (zI (ld_s (M.mo d9.toNat) (M.pe d9.toNat) (hM M d9) (cM M d9) (xM M d9) s (M.pe d9.toNat).toNat))] n h _ _
          refine jl_aload_n d_Md_isValid_24 rfl rfl ?_
          refine jl_iload_n d_Md_isValid_25 rfl rfl ?_
          refine jl_iload_n d_Md_isValid_26 rfl rfl ?_
          refine jl_invV (M' := m_Md_throwsAt) (d' := d - 1) (ck' := 0) (sk' := 0) (na := 2) (as := [.int (zI (d9)), .int (zI (s))]) (st := [.int (zI (ld_s (M.mo d9.toNat) (M.pe d9.toNat) (hM M d9) (cM M d9) (xM M d9) s (M.pe d9.toNat).toNat))]) d_Md_isValid_27 rfl p0 rfl mw_Md_84 ww_Md_throwsAt sw_Md_throwsAt nw_Md cw_Md_throwsAt rfl rfl rfl (by decide +kernel) (by omega) (Nat.le_of_ble_eq_true rfl) (Nat.le_of_ble_eq_true rfl) ?_
          refine k_M_throwsAt hl9 (by omega) hM9 ok hd9 ⟨by omega, by omega⟩ ?_
          show jl_AW _ _ _ _ _ 30 [some (.ref (u)), some (.int (zI (d9))), some (.int (zI (g))), some (.int (zI (s)))] [.int (zI (th_w (hM M d9) s (cM M d9 s.toNat).toNat)), .int (zI (ld_s (M.mo d9.toNat) (M.pe d9.toNat) (hM M d9) (cM M d9) (xM M d9) s (M.pe d9.toNat).toNat))] n h _ _
          refine jz_icmp_ne (tgt := 37) d_Md_isValid_30 (by decide) ⟨by omega, by omega⟩ ⟨by omega, by omega⟩ (fun hc3 => ?_) (fun hc3 => ?_)
          · refine jl_iconst (v := zI (0)) d_Md_isValid_37 (by decide) ?_
            refine jl_istore_n (L' := [some (.ref (u)), some (.int (zI (d9))), some (.int (zI (0))), some (.int (zI (s)))]) d_Md_isValid_38 rfl (by decide) rfl ?_
            refine jz_iinc (v := s + 1) (L' := [some (.ref (u)), some (.int (zI (d9))), some (.int (zI (0))), some (.int (zI (s + 1)))]) d_Md_isValid_39 rfl (by omega) (by decide) rfl ?_
            refine jl_goto (tgt := 4) d_Md_isValid_42 (by decide) ?_
            exact ih (k - 1) (by omega) (s + 1) 0 (by omega) (by omega) (Or.inr ⟨rfl, fun q => (hc3 (q s hs0 (by omega)))⟩)
          · refine jl_iconst (v := zI (1)) d_Md_isValid_33 (by decide) ?_
            refine jl_goto (tgt := 38) d_Md_isValid_34 (by decide) ?_
            refine jl_istore_n (L' := [some (.ref (u)), some (.int (zI (d9))), some (.int (zI (1))), some (.int (zI (s)))]) d_Md_isValid_38 rfl (by decide) rfl ?_
            refine jz_iinc (v := s + 1) (L' := [some (.ref (u)), some (.int (zI (d9))), some (.int (zI (1))), some (.int (zI (s + 1)))]) d_Md_isValid_39 rfl (by omega) (by decide) rfl ?_
            refine jl_goto (tgt := 4) d_Md_isValid_42 (by decide) ?_
            exact ih (k - 1) (by omega) (s + 1) 1 (by omega) (by omega) (Or.inl ⟨rfl, fun s9 r1 r2 => (by by_cases e9 : s9 = s; subst e9; exact hc3; rcases hg with ⟨-, h8⟩ | ⟨h8, -⟩; exact h8 s9 r1 (by omega); omega)⟩)
  refine jl_iconst (v := zI (1)) d_Md_isValid_0 (by decide) ?_
  refine jl_istore_n (L' := [some (.ref (u)), some (.int (zI (d9))), some (.int (zI (1))), none]) d_Md_isValid_1 rfl (by decide) rfl ?_
  refine jl_iconst (v := zI (0)) d_Md_isValid_2 (by decide) ?_
  refine jl_istore_n (L' := [some (.ref (u)), some (.int (zI (d9))), some (.int (zI (1))), some (.int (zI (0)))]) d_Md_isValid_3 rfl (by decide) rfl ?_
  exact lp1 (M.pe d9.toNat).toNat 0 1 (by omega) (by omega) (Or.inl ⟨rfl, fun s9 r1 r2 => by omega⟩)
set_option maxHeartbeats 4000000 in
set_option maxRecDepth 100000 in
theorem k_M_ballsOf {l : Launch} {G : jl_G} {d n : Nat} {h : Nat → va_E} {Kr : Option Value → Nat → (Nat → va_E) → Prop} {Kx : String → Nat → (Nat → va_E) → Prop} (hl9 : l.stackTraces = false) (hdd : 1 ≤ d) {u : Nat} {M : MS} {d9 : Int} (hM9 : jM h u M) (ok : mOk M) (hd9 : 0 ≤ d9 ∧ d9 < 8) (hpe : 1 ≤ M.pe d9.toNat) (hk : Kr (some (.int (zI (sp_balls (M.pe d9.toNat) (hM M d9) (cM M d9))))) n h) : jl_Call l G m_Md_ballsOf d [.ref (u), .int (zI (d9))] n h 0 0 Kr Kx := by
  refine jl_enter hl9 (by decide) rfl (by simp [Value.category]) (Nat.le_of_ble_eq_true rfl) ?_
  show jl_AW l G (jl_F G Kr Kx) m_Md_ballsOf d 0 [some (.ref (u)), some (.int (zI (d9))), none, none, none] [] n h 0 0
  have hp9 := ok.2.1 d9.toNat
  have lp1 : ∀ (k : Nat) (s : Nat), (s : Int) + k = M.pe d9.toNat → jl_AW l G (jl_F G Kr Kx) m_Md_ballsOf d 4 [some (.ref (u)), some (.int (zI (d9))), some (.int (zI (bc_s (hM M d9) (cM M d9) s))), some (.int (zI ((s : Int)))), none] [] n h 0 0 := by
    intro k
    induction k using Nat.strongRecOn with
    | ind k ih =>
      intro s hks
      have lpi : ∀ (k2 : Nat) (t : Nat), (t : Int) + k2 = cM M d9 s → (s : Int) < M.pe d9.toNat → jl_AW l G (jl_F G Kr Kx) m_Md_ballsOf d 17 [some (.ref (u)), some (.int (zI (d9))), some (.int (zI (bc_s (hM M d9) (cM M d9) s + bc_w (hM M d9) (s : Int) t))), some (.int (zI ((s : Int)))), some (.int (zI ((t : Int))))] [] n h 0 0 := by
        intro k2
        induction k2 using Nat.strongRecOn with
        | ind k2 ih2 =>
          intro t hkt hsp
          have hc9 := cM_rg ok d9 s
          obtain ⟨q0, q1, q2, q3, q4, q5, q6, q7, q8, q9, q10, q11, q12, q13⟩ := id (hM9)
          have p0 : h u = jO 6 [.int (zI (M.T)), .ref (u + 1), .ref (u + 2), .ref (u + 3), .ref (u + 4), .ref (u + 5), .int (zI (M.jn)), .int (zI (M.ja)), .int (zI (M.jb)), .ref (u + 6), .ref (u + 7), .int (zI (M.nw)), .int (zI (M.bl)), .int (zI (M.lt)), .int (zI (M.rt)), .ref (u + 8), .ref (u + 9), .ref (u + 10), .ref (u + 11), .ref (u + 12), .ref (u + 13)] := q0
          have p1 : h (u + 1) = jI 8 (fun j9 => zI (M.mo j9)) := q1
          have p2 : h (u + 2) = jI 8 (fun j9 => zI (M.pe j9)) := q2
          have p3 : h (u + 3) = jI 128 (fun j9 => zI (M.co j9)) := q3
          have p4 : h (u + 4) = jI 384 (fun j9 => zI (M.he j9)) := q4
          have p5 : h (u + 5) = jZ 128 (fun j9 => zI (M.cr j9)) := q5
          have p6 : h (u + 6) = jI 16 (fun j9 => zI (M.wy j9)) := q6
          have p7 : h (u + 7) = jI 512 (fun j9 => zI (M.fa j9)) := q7
          have p8 : h (u + 8) = jI 32 (fun j9 => zI (M.la j9)) := q8
          have p9 : h (u + 9) = jI 32 (fun j9 => zI (M.ha j9)) := q9
          have p10 : h (u + 10) = jI 4096 (fun j9 => zI (M.w1 j9)) := q10
          have p11 : h (u + 11) = jI 4096 (fun j9 => zI (M.mr j9)) := q11
          have p12 : h (u + 12) = jI 6 (fun j9 => zI (M.rw j9)) := q12
          have p13 : h (u + 13) = jI 16 (fun j9 => zI (M.tu j9)) := q13
          refine jl_iload d_Md_ballsOf_17 rfl ?_
          refine jl_aload_n d_Md_ballsOf_19 rfl rfl ?_
          refine jg_6 (q := 3) d_Md_ballsOf_20 p0 rfl (by decide) fw_Md_16 ?_
          refine jl_bipush (v := zI (16)) d_Md_ballsOf_23 (by decide) ?_
          refine jl_iload_n d_Md_ballsOf_25 rfl rfl ?_
          refine jz_imul (v := (16) * (d9)) d_Md_ballsOf_26 rfl ?_
          refine jl_iload_n d_Md_ballsOf_27 rfl rfl ?_
          refine jz_iadd (v := 16 * d9 + (s : Int)) d_Md_ballsOf_28 (by omega) ?_
          refine jz_iald d_Md_ballsOf_29 p3 (by omega) (by omega) (by omega) ?_
          rw [cM_at (by omega), Int.toNat_natCast]
          refine jz_icmp_ge (tgt := 50) d_Md_ballsOf_30 (by decide) ⟨by omega, by omega⟩ ⟨by omega, by omega⟩ (fun hc => ?_) (fun hc => ?_)
          · have et : t = (cM M d9 s).toNat := by omega
            refine jz_iinc (v := ((s + 1 : Nat) : Int)) (L' := [some (.ref (u)), some (.int (zI (d9))), some (.int (zI (bc_s (hM M d9) (cM M d9) s + bc_w (hM M d9) (s : Int) t))), some (.int (zI (((s + 1 : Nat) : Int)))), some (.int (zI ((t : Int))))]) d_Md_ballsOf_50 rfl (by omega) (by decide) rfl ?_
            refine jl_goto (tgt := 4) d_Md_ballsOf_53 (by decide) ?_
            refine jl_less (L' := [some (.ref (u)), some (.int (zI (d9))), some (.int (zI (bc_s (hM M d9) (cM M d9) s + bc_w (hM M d9) (s : Int) t))), some (.int (zI (((s + 1 : Nat) : Int)))), none]) ⟨rfl, rfl, rfl, rfl, trivial⟩ ?_
            have h9 := ih (k - 1) (by omega) (s + 1) (by omega)
            rw [bc_s, ← et] at h9
            exact h9
          · refine jl_iload_n d_Md_ballsOf_33 rfl rfl ?_
            refine jl_aload_n d_Md_ballsOf_34 rfl rfl ?_
            refine jl_iload_n d_Md_ballsOf_35 rfl rfl ?_
            refine jl_iload_n d_Md_ballsOf_36 rfl rfl ?_
            refine jl_iload d_Md_ballsOf_37 rfl ?_
            refine jl_invV (M' := m_Md_tall) (d' := d - 1) (ck' := 0) (sk' := 0) (na := 3) (as := [.int (zI (d9)), .int (zI ((s : Int))), .int (zI ((t : Int)))]) (st := [.int (zI (bc_s (hM M d9) (cM M d9) s + bc_w (hM M d9) (s : Int) t))]) d_Md_ballsOf_39 rfl p0 rfl mw_Md_73 ww_Md_tall sw_Md_tall nw_Md cw_Md_tall rfl rfl rfl (by decide +kernel) (by omega) (Nat.le_of_ble_eq_true rfl) (Nat.le_of_ble_eq_true rfl) ?_
            refine k_M_tall hl9 (by omega) hM9 ⟨by omega, by omega⟩ ⟨by omega, by omega⟩ ⟨by omega, by omega⟩ ?_
            show jl_AW _ _ _ _ _ 42 [some (.ref (u)), some (.int (zI (d9))), some (.int (zI (bc_s (hM M d9) (cM M d9) s + bc_w (hM M d9) (s : Int) t))), some (.int (zI ((s : Int)))), some (.int (zI ((t : Int))))] [.int (zI (hM M d9 ((s : Int) * 3 + (t : Int)).toNat)), .int (zI (bc_s (hM M d9) (cM M d9) s + bc_w (hM M d9) (s : Int) t))] n h _ _
            refine jz_iadd (v := bc_s (hM M d9) (cM M d9) s + bc_w (hM M d9) (s : Int) (t + 1)) d_Md_ballsOf_42 (by rw [bc_w]; omega) ?_
            refine jl_istore_n (L' := [some (.ref (u)), some (.int (zI (d9))), some (.int (zI (bc_s (hM M d9) (cM M d9) s + bc_w (hM M d9) (s : Int) (t + 1)))), some (.int (zI ((s : Int)))), some (.int (zI ((t : Int))))]) d_Md_ballsOf_43 rfl (by decide) rfl ?_
            refine jz_iinc (v := ((t + 1 : Nat) : Int)) (L' := [some (.ref (u)), some (.int (zI (d9))), some (.int (zI (bc_s (hM M d9) (cM M d9) s + bc_w (hM M d9) (s : Int) (t + 1)))), some (.int (zI ((s : Int)))), some (.int (zI (((t + 1 : Nat) : Int))))]) d_Md_ballsOf_44 rfl (by omega) (by decide) rfl ?_
            refine jl_goto (tgt := 17) d_Md_ballsOf_47 (by decide) ?_
            exact ih2 (k2 - 1) (by omega) (t + 1) (by omega) hsp
      have hc9 := cM_rg ok d9 s
      obtain ⟨q0, q1, q2, q3, q4, q5, q6, q7, q8, q9, q10, q11, q12, q13⟩ := id (hM9)
      have p0 : h u = jO 6 [.int (zI (M.T)), .ref (u + 1), .ref (u + 2), .ref (u + 3), .ref (u + 4), .ref (u + 5), .int (zI (M.jn)), .int (zI (M.ja)), .int (zI (M.jb)), .ref (u + 6), .ref (u + 7), .int (zI (M.nw)), .int (zI (M.bl)), .int (zI (M.lt)), .int (zI (M.rt)), .ref (u + 8), .ref (u + 9), .ref (u + 10), .ref (u + 11), .ref (u + 12), .ref (u + 13)] := q0
      have p1 : h (u + 1) = jI 8 (fun j9 => zI (M.mo j9)) := q1
      have p2 : h (u + 2) = jI 8 (fun j9 => zI (M.pe j9)) := q2
      have p3 : h (u + 3) = jI 128 (fun j9 => zI (M.co j9)) := q3
      have p4 : h (u + 4) = jI 384 (fun j9 => zI (M.he j9)) := q4
      have p5 : h (u + 5) = jZ 128 (fun j9 => zI (M.cr j9)) := q5
      have p6 : h (u + 6) = jI 16 (fun j9 => zI (M.wy j9)) := q6
      have p7 : h (u + 7) = jI 512 (fun j9 => zI (M.fa j9)) := q7
      have p8 : h (u + 8) = jI 32 (fun j9 => zI (M.la j9)) := q8
      have p9 : h (u + 9) = jI 32 (fun j9 => zI (M.ha j9)) := q9
      have p10 : h (u + 10) = jI 4096 (fun j9 => zI (M.w1 j9)) := q10
      have p11 : h (u + 11) = jI 4096 (fun j9 => zI (M.mr j9)) := q11
      have p12 : h (u + 12) = jI 6 (fun j9 => zI (M.rw j9)) := q12
      have p13 : h (u + 13) = jI 16 (fun j9 => zI (M.tu j9)) := q13
      refine jl_iload_n d_Md_ballsOf_4 rfl rfl ?_
      refine jl_aload_n d_Md_ballsOf_5 rfl rfl ?_
      refine jg_6 (q := 2) d_Md_ballsOf_6 p0 rfl (by decide) fw_Md_13 ?_
      refine jl_iload_n d_Md_ballsOf_9 rfl rfl ?_
      refine jz_iald d_Md_ballsOf_10 p2 (by omega) (by omega) (by omega) ?_
      refine jz_icmp_ge (tgt := 56) d_Md_ballsOf_11 (by decide) ⟨by omega, by omega⟩ ⟨by omega, by omega⟩ (fun hc => ?_) (fun hc => ?_)
      · have es : s = (M.pe d9.toNat).toNat := by omega
        have hb8 := bc_s_rg (hM_rg ok d9) (cM_rg ok d9) s
        refine jl_iload_n d_Md_ballsOf_56 rfl rfl ?_
        refine jl_aload_n d_Md_ballsOf_57 rfl rfl ?_
        refine jg_6 (q := 2) d_Md_ballsOf_58 p0 rfl (by decide) fw_Md_13 ?_
        refine jl_iload_n d_Md_ballsOf_61 rfl rfl ?_
        refine jz_iald d_Md_ballsOf_62 p2 (by omega) (by omega) (by omega) ?_
        refine jz_idiv (v := sp_balls (M.pe d9.toNat) (hM M d9) (cM M d9)) d_Md_ballsOf_63 ⟨by omega, by omega⟩ ⟨by omega, by omega⟩ (by omega) (by unfold sp_balls; rw [es]) ?_
        exact jl_iret d_Md_ballsOf_64 rfl hk
      · refine jl_iconst (v := zI (0)) d_Md_ballsOf_14 (by decide) ?_
        refine jl_istore (L' := [some (.ref (u)), some (.int (zI (d9))), some (.int (zI (bc_s (hM M d9) (cM M d9) s))), some (.int (zI ((s : Int)))), some (.int (zI (0)))]) d_Md_ballsOf_15 (by decide) rfl ?_
        have h9 := lpi (cM M d9 s).toNat 0 (by omega) (by omega)
        rw [bc_w, Int.add_zero] at h9
        exact h9
  refine jl_iconst (v := zI (0)) d_Md_ballsOf_0 (by decide) ?_
  refine jl_istore_n (L' := [some (.ref (u)), some (.int (zI (d9))), some (.int (zI (0))), none, none]) d_Md_ballsOf_1 rfl (by decide) rfl ?_
  refine jl_iconst (v := zI (0)) d_Md_ballsOf_2 (by decide) ?_
  refine jl_istore_n (L' := [some (.ref (u)), some (.int (zI (d9))), some (.int (zI (0))), some (.int (zI (0))), none]) d_Md_ballsOf_3 rfl (by decide) rfl ?_
  exact lp1 (M.pe d9.toNat).toNat 0 (by omega)
set_option maxHeartbeats 4000000 in
set_option maxRecDepth 100000 in
theorem k_M_stateOf {l : Launch} {G : jl_G} {d n : Nat} {h : Nat → va_E} {Kr : Option Value → Nat → (Nat → va_E) → Prop} {Kx : String → Nat → (Nat → va_E) → Prop} (hl9 : l.stackTraces = false) (hdd : 1 ≤ d) {u : Nat} {M : MS} {d9 s : Int} (hM9 : jM h u M) (ok : mOk M) (hd9 : 0 ≤ d9 ∧ d9 < 8) (hpe : 1 ≤ M.pe d9.toNat) (hs9 : 0 ≤ s ∧ s < 16) (hk : Kr (some (.int (zI (sp_st (M.pe d9.toNat) (hM M d9) s)))) n h) : jl_Call l G m_Md_stateOf d [.ref (u), .int (zI (d9)), .int (zI (s))] n h 0 0 Kr Kx := by
  refine jl_enter hl9 (by decide) rfl (by simp [Value.category]) (Nat.le_of_ble_eq_true rfl) ?_
  show jl_AW l G (jl_F G Kr Kx) m_Md_stateOf d 0 [some (.ref (u)), some (.int (zI (d9))), some (.int (zI (s))), none, none, none] [] n h 0 0
  have hp9 := ok.2.1 d9.toNat
  have lp1 : ∀ (k : Nat) (a : Nat), a + k = 9 → jl_AW l G (jl_F G Kr Kx) m_Md_stateOf d 5 [some (.ref (u)), some (.int (zI (d9))), some (.int (zI (s))), some (.int (zI (((st_v (M.pe d9.toNat) (hM M d9) s a : Nat) : Int)))), some (.int (zI ((a : Int) + 1))), none] [] n h 0 0 := by
    intro k
    induction k using Nat.strongRecOn with
    | ind k ih =>
      intro a hka
      have hv := st_v_lt (p := M.pe d9.toNat) (hM_rg ok d9) s a
      obtain ⟨q0, q1, q2, q3, q4, q5, q6, q7, q8, q9, q10, q11, q12, q13⟩ := id (hM9)
      have p0 : h u = jO 6 [.int (zI (M.T)), .ref (u + 1), .ref (u + 2), .ref (u + 3), .ref (u + 4), .ref (u + 5), .int (zI (M.jn)), .int (zI (M.ja)), .int (zI (M.jb)), .ref (u + 6), .ref (u + 7), .int (zI (M.nw)), .int (zI (M.bl)), .int (zI (M.lt)), .int (zI (M.rt)), .ref (u + 8), .ref (u + 9), .ref (u + 10), .ref (u + 11), .ref (u + 12), .ref (u + 13)] := q0
      have p1 : h (u + 1) = jI 8 (fun j9 => zI (M.mo j9)) := q1
      have p2 : h (u + 2) = jI 8 (fun j9 => zI (M.pe j9)) := q2
      have p3 : h (u + 3) = jI 128 (fun j9 => zI (M.co j9)) := q3
      have p4 : h (u + 4) = jI 384 (fun j9 => zI (M.he j9)) := q4
      have p5 : h (u + 5) = jZ 128 (fun j9 => zI (M.cr j9)) := q5
      have p6 : h (u + 6) = jI 16 (fun j9 => zI (M.wy j9)) := q6
      have p7 : h (u + 7) = jI 512 (fun j9 => zI (M.fa j9)) := q7
      have p8 : h (u + 8) = jI 32 (fun j9 => zI (M.la j9)) := q8
      have p9 : h (u + 9) = jI 32 (fun j9 => zI (M.ha j9)) := q9
      have p10 : h (u + 10) = jI 4096 (fun j9 => zI (M.w1 j9)) := q10
      have p11 : h (u + 11) = jI 4096 (fun j9 => zI (M.mr j9)) := q11
      have p12 : h (u + 12) = jI 6 (fun j9 => zI (M.rw j9)) := q12
      have p13 : h (u + 13) = jI 16 (fun j9 => zI (M.tu j9)) := q13
      refine jl_iload d_Md_stateOf_5 rfl ?_
      refine jl_bipush (v := zI (9)) d_Md_stateOf_7 (by decide) ?_
      refine jz_icmp_gt (tgt := 64) d_Md_stateOf_9 (by decide) ⟨by omega, by omega⟩ ⟨by omega, by omega⟩ (fun hc => ?_) (fun hc => ?_)
      · have ea : a = 9 := by omega
        subst ea
        refine jl_iload_n d_Md_stateOf_64 rfl rfl ?_
        exact jl_iret d_Md_stateOf_65 rfl hk
      · have hm0 := Int.emod_nonneg (s - ((a : Int) + 1)) (show M.pe d9.toNat ≠ 0 by omega)
        have hm1 := Int.emod_lt_of_pos (s - ((a : Int) + 1)) (show 0 < M.pe d9.toNat by omega)
        refine jl_aload_n d_Md_stateOf_12 rfl rfl ?_
        refine jl_iload_n d_Md_stateOf_13 rfl rfl ?_
        refine jl_iload_n d_Md_stateOf_14 rfl rfl ?_
        refine jl_iload d_Md_stateOf_15 rfl ?_
        refine jz_isub (v := s - ((a : Int) + 1)) d_Md_stateOf_17 (by omega) ?_
        refine jl_bipush (v := zI (16)) d_Md_stateOf_18 (by decide) ?_
        refine jl_aload_n d_Md_stateOf_20 rfl rfl ?_
        refine jg_6 (q := 2) d_Md_stateOf_21 p0 rfl (by decide) fw_Md_13 ?_
        refine jl_iload_n d_Md_stateOf_24 rfl rfl ?_
        refine jz_iald d_Md_stateOf_25 p2 (by omega) (by omega) (by omega) ?_
        refine jz_imul (v := 16 * M.pe d9.toNat) d_Md_stateOf_26 (by omega) ?_
        refine jz_iadd (v := s - ((a : Int) + 1) + 16 * M.pe d9.toNat) d_Md_stateOf_27 (by omega) ?_
        refine jl_aload_n d_Md_stateOf_28 rfl rfl ?_
        refine jg_6 (q := 2) d_Md_stateOf_29 p0 rfl (by decide) fw_Md_13 ?_
        refine jl_iload_n d_Md_stateOf_32 rfl rfl ?_
        refine jz_iald d_Md_stateOf_33 p2 (by omega) (by omega) (by omega) ?_
        refine jz_irem (v := (s - ((a : Int) + 1)) % M.pe d9.toNat) d_Md_stateOf_34 ⟨by omega, by omega⟩ ⟨by omega, by omega⟩ (by omega) (by rw [Int.tmod_eq_emod_of_nonneg (by omega)]; exact Int.add_mul_emod_self_right _ _ _) ?_
        refine jl_iconst (v := zI (0)) d_Md_stateOf_35 (by decide) ?_
        refine jl_invV (M' := m_Md_tall) (d' := d - 1) (ck' := 0) (sk' := 0) (na := 3) (as := [.int (zI (d9)), .int (zI ((s - ((a : Int) + 1)) % M.pe d9.toNat)), .int (zI (0))]) (st := []) d_Md_stateOf_36 rfl p0 rfl mw_Md_73 ww_Md_tall sw_Md_tall nw_Md cw_Md_tall rfl rfl rfl (by decide +kernel) (by omega) (Nat.le_of_ble_eq_true rfl) (Nat.le_of_ble_eq_true rfl) ?_
        refine k_M_tall hl9 (by omega) hM9 ⟨by omega, by omega⟩ ⟨by omega, by omega⟩ ⟨by omega, by omega⟩ ?_
        show jl_AW _ _ _ _ _ 39 [some (.ref (u)), some (.int (zI (d9))), some (.int (zI (s))), some (.int (zI (((st_v (M.pe d9.toNat) (hM M d9) s a : Nat) : Int)))), some (.int (zI ((a : Int) + 1))), none] [.int (zI (hM M d9 ((s - ((a : Int) + 1)) % M.pe d9.toNat * 3 + 0).toNat))] n h _ _
        rw [show (s - ((a : Int) + 1)) % M.pe d9.toNat * 3 + 0 = (s - ((a : Int) + 1)) % M.pe d9.toNat * 3 from Int.add_zero _]
        have hh := hM_rg ok d9 ((s - ((a : Int) + 1)) % M.pe d9.toNat * 3).toNat
        have e1 : (((a + 1 : Nat) : Int)) = (a : Int) + 1 := by omega
        refine jl_istore (L' := [some (.ref (u)), some (.int (zI (d9))), some (.int (zI (s))), some (.int (zI (((st_v (M.pe d9.toNat) (hM M d9) s a : Nat) : Int)))), some (.int (zI ((a : Int) + 1))), some (.int (zI (hM M d9 ((s - ((a : Int) + 1)) % M.pe d9.toNat * 3).toNat)))]) d_Md_stateOf_39 (by decide) rfl ?_
        refine jl_iload d_Md_stateOf_41 rfl ?_
        refine jl_iload d_Md_stateOf_43 rfl ?_
        refine jz_icmp_lt (tgt := 58) d_Md_stateOf_45 (by decide) ⟨by omega, by omega⟩ ⟨by omega, by omega⟩ (fun hc2 => ?_) (fun hc2 => ?_)
        · refine jz_iinc (v := ((a + 1 : Nat) : Int) + 1) (L' := [some (.ref (u)), some (.int (zI (d9))), some (.int (zI (s))), some (.int (zI (((st_v (M.pe d9.toNat) (hM M d9) s a : Nat) : Int)))), some (.int (zI (((a + 1 : Nat) : Int) + 1))), some (.int (zI (hM M d9 ((s - ((a : Int) + 1)) % M.pe d9.toNat * 3).toNat)))]) d_Md_stateOf_58 rfl (by omega) (by decide) rfl ?_
          refine jl_goto (tgt := 5) d_Md_stateOf_61 (by decide) ?_
          refine jl_less (L' := [some (.ref (u)), some (.int (zI (d9))), some (.int (zI (s))), some (.int (zI (((st_v (M.pe d9.toNat) (hM M d9) s a : Nat) : Int)))), some (.int (zI (((a + 1 : Nat) : Int) + 1))), none]) ⟨rfl, rfl, rfl, rfl, rfl, trivial⟩ ?_
          have h9 := ih (k - 1) (by omega) (a + 1) (by omega)
          rw [st_v, if_neg (by omega)] at h9
          exact h9
        · refine jl_iload_n d_Md_stateOf_48 rfl rfl ?_
          refine jl_iconst (v := zI (1)) d_Md_stateOf_49 (by decide) ?_
          refine jl_iload d_Md_stateOf_50 rfl ?_
          refine jl_iload d_Md_stateOf_52 rfl ?_
          refine jz_isub (v := hM M d9 ((s - ((a : Int) + 1)) % M.pe d9.toNat * 3).toNat - ((a : Int) + 1)) d_Md_stateOf_54 (by omega) ?_
          refine jl_ishl d_Md_stateOf_55 (jl_ior d_Md_stateOf_56 (jz_int (bt_or hv ⟨by omega, by omega⟩) ?_))
          refine jl_istore_n (L' := [some (.ref (u)), some (.int (zI (d9))), some (.int (zI (s))), some (.int (zI (((st_v (M.pe d9.toNat) (hM M d9) s a ||| 2 ^ (hM M d9 ((s - ((a : Int) + 1)) % M.pe d9.toNat * 3).toNat - ((a : Int) + 1)).toNat : Nat) : Int)))), some (.int (zI ((a : Int) + 1))), some (.int (zI (hM M d9 ((s - ((a : Int) + 1)) % M.pe d9.toNat * 3).toNat)))]) d_Md_stateOf_57 rfl (by decide) rfl ?_
          refine jz_iinc (v := ((a + 1 : Nat) : Int) + 1) (L' := [some (.ref (u)), some (.int (zI (d9))), some (.int (zI (s))), some (.int (zI (((st_v (M.pe d9.toNat) (hM M d9) s a ||| 2 ^ (hM M d9 ((s - ((a : Int) + 1)) % M.pe d9.toNat * 3).toNat - ((a : Int) + 1)).toNat : Nat) : Int)))), some (.int (zI (((a + 1 : Nat) : Int) + 1))), some (.int (zI (hM M d9 ((s - ((a : Int) + 1)) % M.pe d9.toNat * 3).toNat)))]) d_Md_stateOf_58 rfl (by omega) (by decide) rfl ?_
          refine jl_goto (tgt := 5) d_Md_stateOf_61 (by decide) ?_
          refine jl_less (L' := [some (.ref (u)), some (.int (zI (d9))), some (.int (zI (s))), some (.int (zI (((st_v (M.pe d9.toNat) (hM M d9) s a ||| 2 ^ (hM M d9 ((s - ((a : Int) + 1)) % M.pe d9.toNat * 3).toNat - ((a : Int) + 1)).toNat : Nat) : Int)))), some (.int (zI (((a + 1 : Nat) : Int) + 1))), none]) ⟨rfl, rfl, rfl, rfl, rfl, trivial⟩ ?_
          have h9 := ih (k - 1) (by omega) (a + 1) (by omega)
          rw [st_v, if_pos (by omega)] at h9
          exact h9
  refine jl_iconst (v := zI (0)) d_Md_stateOf_0 (by decide) ?_
  refine jl_istore_n (L' := [some (.ref (u)), some (.int (zI (d9))), some (.int (zI (s))), some (.int (zI (0))), none, none]) d_Md_stateOf_1 rfl (by decide) rfl ?_
  refine jl_iconst (v := zI (1)) d_Md_stateOf_2 (by decide) ?_
  refine jl_istore (L' := [some (.ref (u)), some (.int (zI (d9))), some (.int (zI (s))), some (.int (zI (0))), some (.int (zI (1))), none]) d_Md_stateOf_3 (by decide) rfl ?_
  exact lp1 9 0 (by omega)
