theorem k_M_tall0 {l : Launch} {G : jl_G} {d n : Nat} {h : Nat → va_E} {Kr : Option Value → Nat → (Nat → va_E) → Prop} {Kx : String → Nat → (Nat → va_E) → Prop} (hl9 : l.stackTraces = false) (hdd : 0 ≤ d) {u : Nat} {M : MS} {d9 s : Int} (hM9 : jM h u M) (hd9 : 0 ≤ d9 ∧ d9 < 8) (hs9 : 0 ≤ s ∧ s < 16) (hk : Kr (some (.int (zI (hM M d9 (s * 3).toNat)))) n h) : jl_Call l G m_Md_tall d [.ref (u), .int (zI (d9)), .int (zI (s)), .int (zI (0))] n h 0 0 Kr Kx := by
  exact k_M_tall hl9 hdd hM9 hd9 hs9 ⟨by decide, by decide⟩ (by rw [Int.add_zero]; exact hk)
theorem k_M_target0 {l : Launch} {G : jl_G} {d n : Nat} {h : Nat → va_E} {Kr : Option Value → Nat → (Nat → va_E) → Prop} {Kx : String → Nat → (Nat → va_E) → Prop} (hl9 : l.stackTraces = false) (hdd : 1 ≤ d) {u : Nat} {M : MS} {d9 s : Int} (hM9 : jM h u M) (ok : mOk M) (hpe : 1 ≤ M.pe d9.toNat) (hd9 : 0 ≤ d9 ∧ d9 < 8) (hs9 : 0 ≤ s ∧ s < 16) (hk : Kr (some (.int (zI (sp_tgt (M.mo d9.toNat) (M.pe d9.toNat) (xM M d9) s (hM M d9 (s * 3).toNat))))) n h) : jl_Call l G m_Md_target d [.ref (u), .int (zI (d9)), .int (zI (s)), .int (zI (0))] n h 0 0 Kr Kx := by
  exact k_M_target hl9 hdd hM9 ok hd9 hpe hs9 ⟨by decide, by decide⟩ (by rw [Int.add_zero]; exact hk)
set_option maxHeartbeats 4000000 in
set_option maxRecDepth 100000 in
theorem k_M_clash {l : Launch} {G : jl_G} {d n : Nat} {h : Nat → va_E} {Kr : Option Value → Nat → (Nat → va_E) → Prop} {Kx : String → Nat → (Nat → va_E) → Prop} (hl9 : l.stackTraces = false) (hdd : 3 ≤ d) {u : Nat} {M : MS} (hM9 : jM h u M) (ok : mOk M) (hpe : 1 ≤ M.pe (0 : Int).toNat) (hk : ∀ r, mo_clash (M.mo (0 : Int).toNat) (M.pe (0 : Int).toNat) (hM M 0) (cM M 0) (xM M 0) r → ∀ h', jM h' u (M.wT 0) → jfr h h' u (u + 14) → Kr (some (.int (zI (r)))) n h') : jl_Call l G m_Md_clash d [.ref (u)] n h 0 0 Kr Kx := by
  refine jl_enter hl9 (by decide) rfl (by simp [Value.category]) (Nat.le_of_ble_eq_true rfl) ?_
  show jl_AW l G (jl_F G Kr Kx) m_Md_clash d 0 [some (.ref (u)), none, none, none] [] n h 0 0
  have hm0 := ok.1 (0 : Int).toNat
  have hp0 := ok.2.1 (0 : Int).toNat
  obtain ⟨q0, q1, q2, q3, q4, q5, q6, q7, q8, q9, q10, q11, q12, q13⟩ := id (hM9)
  have p0 : h u = jO 6 [.int (zI (M.T)), .ref (u + 1), .ref (u + 2), .ref (u + 3), .ref (u + 4), .ref (u + 5), .int (zI (M.jn)), .int (zI (M.ja)), .int (zI (M.jb)), .ref (u + 6), .ref (u + 7), .int (zI (M.nw)), .int (zI (M.bl)), .int (zI (M.lt)), .int (zI (M.rt)), .ref (u + 8), .ref (u + 9), .ref (u + 10), .ref (u + 11), .ref (u + 12), .ref (u + 13)] := q0
  have p1 : h (u + 1) = jI 8 (fun j9 => zI (M.mo j9)) := q1
  have p2 : h (u + 2) = jI 8 (fun j9 => zI (M.pe j9)) := q2
  have p3 : h (u + 3) = jI 128 (fun j9 => zI (M.co j9)) := q3
  have p4 : h (u + 4) = jI 384 (fun j9 => zI (M.he j9)) := q4
  have p5 : h (u + 5) = jZ 128 (fun j9 => zI (M.cr j9)) := q5
  have p6 : h (u + 6) = jI 16 (fun j9 => zI (M.wy j9)) := q6
  have p7 : h (u + 7) = jI 512 (fun j9 => zI (M.fa j9)) := q7
  have p8 : h (u + 8) = jI 32 (fun j9 => zI (M.la j9)) := q8
  have p9 : h (u + 9) = jI 32 (fun j9 => zI (M.ha j9)) := q9
  have p10 : h (u + 10) = jI 4096 (fun j9 => zI (M.w1 j9)) := q10
  have p11 : h (u + 11) = jI 4096 (fun j9 => zI (M.mr j9)) := q11
  have p12 : h (u + 12) = jI 6 (fun j9 => zI (M.rw j9)) := q12
  have p13 : h (u + 13) = jI 16 (fun j9 => zI (M.tu j9)) := q13
  refine jl_aload_n d_Md_clash_0 rfl rfl ?_
  refine jl_iconst (v := zI (0)) d_Md_clash_1 (by decide) ?_
  refine jp_6 (q := 0) (ty := .int) d_Md_clash_2 p0 (by simp) (by decide) fw_Md_58 rfl (by decide +kernel) (fun _ _ => rfl) (fun _ _ => rfl) (fun h1 eh1 => ?_)
  have eh1 : h1 = va_up h (u) (jO 6 [.int (zI (0)), .ref (u + 1), .ref (u + 2), .ref (u + 3), .ref (u + 4), .ref (u + 5), .int (zI (M.jn)), .int (zI (M.ja)), .int (zI (M.jb)), .ref (u + 6), .ref (u + 7), .int (zI (M.nw)), .int (zI (M.bl)), .int (zI (M.lt)), .int (zI (M.rt)), .ref (u + 8), .ref (u + 9), .ref (u + 10), .ref (u + 11), .ref (u + 12), .ref (u + 13)]) := eh1
  have jf2 : h1 (u) = jO 6 [.int (zI (0)), .ref (u + 1), .ref (u + 2), .ref (u + 3), .ref (u + 4), .ref (u + 5), .int (zI (M.jn)), .int (zI (M.ja)), .int (zI (M.jb)), .ref (u + 6), .ref (u + 7), .int (zI (M.nw)), .int (zI (M.bl)), .int (zI (M.lt)), .int (zI (M.rt)), .ref (u + 8), .ref (u + 9), .ref (u + 10), .ref (u + 11), .ref (u + 12), .ref (u + 13)] := by rw [eh1, va_up_self]
  have jf3 : h1 (u + 1) = jI 8 (fun j9 => zI (M.mo j9)) := by rw [eh1, va_up_ne _ _ (by omega)]; exact p1
  have jf4 : h1 (u + 2) = jI 8 (fun j9 => zI (M.pe j9)) := by rw [eh1, va_up_ne _ _ (by omega)]; exact p2
  have jf5 : h1 (u + 3) = jI 128 (fun j9 => zI (M.co j9)) := by rw [eh1, va_up_ne _ _ (by omega)]; exact p3
  have jf6 : h1 (u + 4) = jI 384 (fun j9 => zI (M.he j9)) := by rw [eh1, va_up_ne _ _ (by omega)]; exact p4
  have jf7 : h1 (u + 5) = jZ 128 (fun j9 => zI (M.cr j9)) := by rw [eh1, va_up_ne _ _ (by omega)]; exact p5
  have jf8 : h1 (u + 6) = jI 16 (fun j9 => zI (M.wy j9)) := by rw [eh1, va_up_ne _ _ (by omega)]; exact p6
  have jf9 : h1 (u + 7) = jI 512 (fun j9 => zI (M.fa j9)) := by rw [eh1, va_up_ne _ _ (by omega)]; exact p7
  have jf10 : h1 (u + 8) = jI 32 (fun j9 => zI (M.la j9)) := by rw [eh1, va_up_ne _ _ (by omega)]; exact p8
  have jf11 : h1 (u + 9) = jI 32 (fun j9 => zI (M.ha j9)) := by rw [eh1, va_up_ne _ _ (by omega)]; exact p9
  have jf12 : h1 (u + 10) = jI 4096 (fun j9 => zI (M.w1 j9)) := by rw [eh1, va_up_ne _ _ (by omega)]; exact p10
  have jf13 : h1 (u + 11) = jI 4096 (fun j9 => zI (M.mr j9)) := by rw [eh1, va_up_ne _ _ (by omega)]; exact p11
  have jf14 : h1 (u + 12) = jI 6 (fun j9 => zI (M.rw j9)) := by rw [eh1, va_up_ne _ _ (by omega)]; exact p12
  have jf15 : h1 (u + 13) = jI 16 (fun j9 => zI (M.tu j9)) := by rw [eh1, va_up_ne _ _ (by omega)]; exact p13
  have hM1 : jM h1 u (M.wT 0) := ⟨jf2, jf3, jf4, jf5, jf6, jf7, jf8, jf9, jf10, jf11, jf12, jf13, jf14, jf15⟩
  have hf1 : jfr h h1 u (u + 14) := (fun y hy => by rw [eh1, va_up_ne _ _ (by omega)])
  obtain ⟨q0a, q1a, q2a, q3a, q4a, q5a, q6a, q7a, q8a, q9a, q10a, q11a, q12a, q13a⟩ := id (hM1)
  have p0a : h1 u = jO 6 [.int (zI (0)), .ref (u + 1), .ref (u + 2), .ref (u + 3), .ref (u + 4), .ref (u + 5), .int (zI (M.jn)), .int (zI (M.ja)), .int (zI (M.jb)), .ref (u + 6), .ref (u + 7), .int (zI (M.nw)), .int (zI (M.bl)), .int (zI (M.lt)), .int (zI (M.rt)), .ref (u + 8), .ref (u + 9), .ref (u + 10), .ref (u + 11), .ref (u + 12), .ref (u + 13)] := q0a
  have p1a : h1 (u + 1) = jI 8 (fun j9 => zI (M.mo j9)) := q1a
  have p2a : h1 (u + 2) = jI 8 (fun j9 => zI (M.pe j9)) := q2a
  have p3a : h1 (u + 3) = jI 128 (fun j9 => zI (M.co j9)) := q3a
  have p4a : h1 (u + 4) = jI 384 (fun j9 => zI (M.he j9)) := q4a
  have p5a : h1 (u + 5) = jZ 128 (fun j9 => zI (M.cr j9)) := q5a
  have p6a : h1 (u + 6) = jI 16 (fun j9 => zI (M.wy j9)) := q6a
  have p7a : h1 (u + 7) = jI 512 (fun j9 => zI (M.fa j9)) := q7a
  have p8a : h1 (u + 8) = jI 32 (fun j9 => zI (M.la j9)) := q8a
  have p9a : h1 (u + 9) = jI 32 (fun j9 => zI (M.ha j9)) := q9a
  have p10a : h1 (u + 10) = jI 4096 (fun j9 => zI (M.w1 j9)) := q10a
  have p11a : h1 (u + 11) = jI 4096 (fun j9 => zI (M.mr j9)) := q11a
  have p12a : h1 (u + 12) = jI 6 (fun j9 => zI (M.rw j9)) := q12a
  have p13a : h1 (u + 13) = jI 16 (fun j9 => zI (M.tu j9)) := q13a
  refine jl_aload_n d_Md_clash_5 rfl rfl ?_
  refine jg_6 (q := 2) d_Md_clash_6 p0a rfl (by decide) fw_Md_13 ?_
  refine jl_iconst (v := zI (0)) d_Md_clash_9 (by decide) ?_
  refine jz_iald d_Md_clash_10 p2a (by omega) (by omega) (by omega) ?_
  refine jl_istore_n (L' := [some (.ref (u)), some (.int (zI (M.pe (0 : Int).toNat))), none, none]) d_Md_clash_11 rfl (by decide) rfl ?_
  refine jl_iconst (v := zI (0)) d_Md_clash_12 (by decide) ?_
  refine jl_istore_n (L' := [some (.ref (u)), some (.int (zI (M.pe (0 : Int).toNat))), some (.int (zI (0))), none]) d_Md_clash_13 rfl (by decide) rfl ?_
  have hlp2 : (∀ t : Int, 0 ≤ t → t < M.pe (0 : Int).toNat → (M.mo (0 : Int).toNat = 1 → ld_s (M.mo (0 : Int).toNat) (M.pe (0 : Int).toNat) (hM M 0) (cM M 0) (xM M 0) t (M.pe (0 : Int).toNat).toNat = th_w (hM M 0) t (cM M 0 (t).toNat).toNat) ∧ (¬ M.mo (0 : Int).toNat = 1 → ¬ sp_A (M.mo (0 : Int).toNat) (M.pe (0 : Int).toNat) (hM M 0) (xM M 0) t)) → ∀ (k : Nat) (s : Nat), (s : Int) + k = M.pe (0 : Int).toNat → (∀ t : Int, 0 ≤ t → t < (s : Int) → ¬ M.mo (0 : Int).toNat = 1 → ¬ (hM M 0 (t * 3).toNat = 0 ∧ 0 < ld_s (M.mo (0 : Int).toNat) (M.pe (0 : Int).toNat) (hM M 0) (cM M 0) (xM M 0) t (M.pe (0 : Int).toNat).toNat)) → jl_AW l G (jl_F G Kr Kx) m_Md_clash d 116 [some (.ref (u)), some (.int (zI (M.pe (0 : Int).toNat))), some (.int (zI ((s : Int)))), none] [] n h1 0 0 := by
    intro hI1 k
    induction k using Nat.strongRecOn with
    | ind k ih =>
      intro s hks hI2
      obtain ⟨q0z, q1z, q2z, q3z, q4z, q5z, q6z, q7z, q8z, q9z, q10z, q11z, q12z, q13z⟩ := id (hM1)
      have p0z : h1 u = jO 6 [.int (zI (0)), .ref (u + 1), .ref (u + 2), .ref (u + 3), .ref (u + 4), .ref (u + 5), .int (zI (M.jn)), .int (zI (M.ja)), .int (zI (M.jb)), .ref (u + 6), .ref (u + 7), .int (zI (M.nw)), .int (zI (M.bl)), .int (zI (M.lt)), .int (zI (M.rt)), .ref (u + 8), .ref (u + 9), .ref (u + 10), .ref (u + 11), .ref (u + 12), .ref (u + 13)] := q0z
      have p1z : h1 (u + 1) = jI 8 (fun j9 => zI (M.mo j9)) := q1z
      have p2z : h1 (u + 2) = jI 8 (fun j9 => zI (M.pe j9)) := q2z
      have p3z : h1 (u + 3) = jI 128 (fun j9 => zI (M.co j9)) := q3z
      have p4z : h1 (u + 4) = jI 384 (fun j9 => zI (M.he j9)) := q4z
      have p5z : h1 (u + 5) = jZ 128 (fun j9 => zI (M.cr j9)) := q5z
      have p6z : h1 (u + 6) = jI 16 (fun j9 => zI (M.wy j9)) := q6z
      have p7z : h1 (u + 7) = jI 512 (fun j9 => zI (M.fa j9)) := q7z
      have p8z : h1 (u + 8) = jI 32 (fun j9 => zI (M.la j9)) := q8z
      have p9z : h1 (u + 9) = jI 32 (fun j9 => zI (M.ha j9)) := q9z
      have p10z : h1 (u + 10) = jI 4096 (fun j9 => zI (M.w1 j9)) := q10z
      have p11z : h1 (u + 11) = jI 4096 (fun j9 => zI (M.mr j9)) := q11z
      have p12z : h1 (u + 12) = jI 6 (fun j9 => zI (M.rw j9)) := q12z
      have p13z : h1 (u + 13) = jI 16 (fun j9 => zI (M.tu j9)) := q13z
      refine jl_iload_n d_Md_clash_116 rfl rfl ?_
      refine jl_iload_n d_Md_clash_117 rfl rfl ?_
      refine jz_icmp_ge (tgt := 158) d_Md_clash_118 (by decide) ⟨by omega, by omega⟩ ⟨by omega, by omega⟩ (fun hc => ?_) (fun hc => ?_)
      · have es : (s : Int) = M.pe (0 : Int).toNat := by omega
        refine jl_iconst (v := zI (-1)) d_Md_clash_158 (by decide) ?_
        refine jl_iret d_Md_clash_159 rfl (hk (-1) ?_ h1 hM1 hf1)
        unfold mo_clash
        by_cases em : M.mo (0 : Int).toNat = 1
        · rw [if_pos em]; exact Or.inr ⟨fun t r1 r2 q => q ((hI1 t r1 r2).1 em), Or.inr ⟨fun t r1 r2 q => q, rfl⟩⟩
        · rw [if_neg em]; exact Or.inr ⟨fun t r1 r2 => (hI1 t r1 r2).2 em, Or.inr ⟨fun t r1 r2 => hI2 t r1 (by omega) em, rfl⟩⟩
      · refine jl_aload_n d_Md_clash_121 rfl rfl ?_
        refine jg_6 (q := 1) d_Md_clash_122 p0z rfl (by decide) fw_Md_7 ?_
        refine jl_iconst (v := zI (0)) d_Md_clash_125 (by decide) ?_
        refine jz_iald d_Md_clash_126 p1z (by omega) (by omega) (by omega) ?_
        refine jl_iconst (v := zI (1)) d_Md_clash_127 (by decide) ?_
        refine jz_icmp_eq (tgt := 152) d_Md_clash_128 (by decide) ⟨by omega, by omega⟩ ⟨by omega, by omega⟩ (fun q1 => ?_) (fun q1 => ?_)
        · refine jz_iinc (v := ((s + 1 : Nat) : Int)) (L' := [some (.ref (u)), some (.int (zI (M.pe (0 : Int).toNat))), some (.int (zI (((s + 1 : Nat) : Int)))), none]) d_Md_clash_152 rfl (by omega) (by decide) rfl ?_
          refine jl_goto (tgt := 116) d_Md_clash_155 (by decide) ?_
          refine ih (k - 1) (by omega) (s + 1) (by omega) (fun t r1 r2 em => ?_)
          by_cases e9 : t = (s : Int)
          · rw [e9]; exact absurd q1 em
          · exact hI2 t r1 (by omega) em
        · have hh := hM_rg ok 0 ((s : Int) * 3).toNat
          refine jl_aload_n d_Md_clash_131 rfl rfl ?_
          refine jl_iconst (v := zI (0)) d_Md_clash_132 (by decide) ?_
          refine jl_iload_n d_Md_clash_133 rfl rfl ?_
          refine jl_iconst (v := zI (0)) d_Md_clash_134 (by decide) ?_
          refine jl_invV (M' := m_Md_tall) (d' := d - 1) (ck' := 0) (sk' := 0) (na := 3) (as := [.int (zI (0)), .int (zI ((s : Int))), .int (zI (0))]) (st := []) d_Md_clash_135 rfl p0z rfl mw_Md_73 ww_Md_tall sw_Md_tall nw_Md cw_Md_tall rfl rfl rfl (by decide +kernel) (by omega) (Nat.le_of_ble_eq_true rfl) (Nat.le_of_ble_eq_true rfl) ?_
          refine k_M_tall0 hl9 (by omega) hM1 ⟨by decide, by decide⟩ ⟨by omega, by omega⟩ ?_
          show jl_AW _ _ _ _ _ 138 [some (.ref (u)), some (.int (zI (M.pe (0 : Int).toNat))), some (.int (zI ((s : Int)))), none] [.int (zI (hM M 0 ((s : Int) * 3).toNat))] n h1 _ _
          refine jz_if_ne (tgt := 152) d_Md_clash_138 (by decide) ⟨by omega, by omega⟩ (fun q2 => ?_) (fun q2 => ?_)
          · refine jz_iinc (v := ((s + 1 : Nat) : Int)) (L' := [some (.ref (u)), some (.int (zI (M.pe (0 : Int).toNat))), some (.int (zI (((s + 1 : Nat) : Int)))), none]) d_Md_clash_152 rfl (by omega) (by decide) rfl ?_
            refine jl_goto (tgt := 116) d_Md_clash_155 (by decide) ?_
            refine ih (k - 1) (by omega) (s + 1) (by omega) (fun t r1 r2 em => ?_)
            by_cases e9 : t = (s : Int)
            · rw [e9]; exact (fun q => q2 q.1)
            · exact hI2 t r1 (by omega) em
          · have hl8 := ld_s_rg (m := M.mo (0 : Int).toNat) (p := M.pe (0 : Int).toNat) (hs := hM M 0) (xs := xM M 0) (cM_rg ok 0) (s : Int) (M.pe (0 : Int).toNat).toNat
            refine jl_aload_n d_Md_clash_141 rfl rfl ?_
            refine jl_iconst (v := zI (0)) d_Md_clash_142 (by decide) ?_
            refine jl_iload_n d_Md_clash_143 rfl rfl ?_
            refine jl_invV (M' := m_Md_landing) (d' := d - 1) (ck' := 0) (sk' := 0) (na := 2) (as := [.int (zI (0)), .int (zI ((s : Int)))]) (st := []) d_Md_clash_144 rfl p0z rfl mw_Md_80 ww_Md_landing sw_Md_landing nw_Md cw_Md_landing rfl rfl rfl (by decide +kernel) (by omega) (Nat.le_of_ble_eq_true rfl) (Nat.le_of_ble_eq_true rfl) ?_
            refine k_M_landing hl9 (by omega) hM1 ok ⟨by decide, by decide⟩ hpe ⟨by omega, by omega⟩ ?_
            show jl_AW _ _ _ _ _ 147 [some (.ref (u)), some (.int (zI (M.pe (0 : Int).toNat))), some (.int (zI ((s : Int)))), none] [.int (zI (ld_s (M.mo (0 : Int).toNat) (M.pe (0 : Int).toNat) (hM M 0) (cM M 0) (xM M 0) (s : Int) (M.pe (0 : Int).toNat).toNat))] n h1 _ _
            refine jz_if_le (tgt := 152) d_Md_clash_147 (by decide) ⟨by omega, by omega⟩ (fun q3 => ?_) (fun q3 => ?_)
            · refine jz_iinc (v := ((s + 1 : Nat) : Int)) (L' := [some (.ref (u)), some (.int (zI (M.pe (0 : Int).toNat))), some (.int (zI (((s + 1 : Nat) : Int)))), none]) d_Md_clash_152 rfl (by omega) (by decide) rfl ?_
              refine jl_goto (tgt := 116) d_Md_clash_155 (by decide) ?_
              refine ih (k - 1) (by omega) (s + 1) (by omega) (fun t r1 r2 em => ?_)
              by_cases e9 : t = (s : Int)
              · rw [e9]; exact (fun q => by have := q.2; omega)
              · exact hI2 t r1 (by omega) em
            · refine jl_iload_n d_Md_clash_150 rfl rfl ?_
              refine jl_iret d_Md_clash_151 rfl (hk (s : Int) ?_ h1 hM1 hf1)
              unfold mo_clash
              rw [if_neg q1]
              exact Or.inr ⟨fun t r1 r2 => (hI1 t r1 r2).2 q1, Or.inl ⟨by omega, by omega, ⟨q2, by omega⟩, fun t r1 r2 => hI2 t r1 r2 q1⟩⟩
  have lp1 : ∀ (k : Nat) (s : Nat), (s : Int) + k = M.pe (0 : Int).toNat → (∀ t : Int, 0 ≤ t → t < (s : Int) → (M.mo (0 : Int).toNat = 1 → ld_s (M.mo (0 : Int).toNat) (M.pe (0 : Int).toNat) (hM M 0) (cM M 0) (xM M 0) t (M.pe (0 : Int).toNat).toNat = th_w (hM M 0) t (cM M 0 (t).toNat).toNat) ∧ (¬ M.mo (0 : Int).toNat = 1 → ¬ sp_A (M.mo (0 : Int).toNat) (M.pe (0 : Int).toNat) (hM M 0) (xM M 0) t)) → jl_AW l G (jl_F G Kr Kx) m_Md_clash d 14 [some (.ref (u)), some (.int (zI (M.pe (0 : Int).toNat))), some (.int (zI ((s : Int)))), none] [] n h1 0 0 := by
    intro k
    induction k using Nat.strongRecOn with
    | ind k ih =>
      intro s hks hI1
      have lpi : ∀ (k2 : Nat) (r : Nat), r + k2 = s → (s : Int) < M.pe (0 : Int).toNat → (M.mo (0 : Int).toNat = 1 → ld_s (M.mo (0 : Int).toNat) (M.pe (0 : Int).toNat) (hM M 0) (cM M 0) (xM M 0) (s : Int) (M.pe (0 : Int).toNat).toNat = th_w (hM M 0) (s : Int) (cM M 0 ((s : Int)).toNat).toNat) → (¬ M.mo (0 : Int).toNat = 1 → (∀ r9 : Int, 0 ≤ r9 → r9 < (r : Int) → ¬ (0 < hM M 0 ((s : Int) * 3).toNat ∧ 0 < hM M 0 (r9 * 3).toNat ∧ sp_tgt (M.mo (0 : Int).toNat) (M.pe (0 : Int).toNat) (xM M 0) r9 (hM M 0 (r9 * 3).toNat) = sp_tgt (M.mo (0 : Int).toNat) (M.pe (0 : Int).toNat) (xM M 0) (s : Int) (hM M 0 ((s : Int) * 3).toNat)))) → jl_AW l G (jl_F G Kr Kx) m_Md_clash d 48 [some (.ref (u)), some (.int (zI (M.pe (0 : Int).toNat))), some (.int (zI ((s : Int)))), some (.int (zI ((r : Int))))] [] n h1 0 0 := by
        intro k2
        induction k2 using Nat.strongRecOn with
        | ind k2 ih2 =>
          intro r hkr hsp hev hN
          obtain ⟨q0y, q1y, q2y, q3y, q4y, q5y, q6y, q7y, q8y, q9y, q10y, q11y, q12y, q13y⟩ := id (hM1)
          have p0y : h1 u = jO 6 [.int (zI (0)), .ref (u + 1), .ref (u + 2), .ref (u + 3), .ref (u + 4), .ref (u + 5), .int (zI (M.jn)), .int (zI (M.ja)), .int (zI (M.jb)), .ref (u + 6), .ref (u + 7), .int (zI (M.nw)), .int (zI (M.bl)), .int (zI (M.lt)), .int (zI (M.rt)), .ref (u + 8), .ref (u + 9), .ref (u + 10), .ref (u + 11), .ref (u + 12), .ref (u + 13)] := q0y
          have p1y : h1 (u + 1) = jI 8 (fun j9 => zI (M.mo j9)) := q1y
          have p2y : h1 (u + 2) = jI 8 (fun j9 => zI (M.pe j9)) := q2y
          have p3y : h1 (u + 3) = jI 128 (fun j9 => zI (M.co j9)) := q3y
          have p4y : h1 (u + 4) = jI 384 (fun j9 => zI (M.he j9)) := q4y
          have p5y : h1 (u + 5) = jZ 128 (fun j9 => zI (M.cr j9)) := q5y
          have p6y : h1 (u + 6) = jI 16 (fun j9 => zI (M.wy j9)) := q6y
          have p7y : h1 (u + 7) = jI 512 (fun j9 => zI (M.fa j9)) := q7y
          have p8y : h1 (u + 8) = jI 32 (fun j9 => zI (M.la j9)) := q8y
          have p9y : h1 (u + 9) = jI 32 (fun j9 => zI (M.ha j9)) := q9y
          have p10y : h1 (u + 10) = jI 4096 (fun j9 => zI (M.w1 j9)) := q10y
          have p11y : h1 (u + 11) = jI 4096 (fun j9 => zI (M.mr j9)) := q11y
          have p12y : h1 (u + 12) = jI 6 (fun j9 => zI (M.rw j9)) := q12y
          have p13y : h1 (u + 13) = jI 16 (fun j9 => zI (M.tu j9)) := q13y
          refine jl_iload_n d_Md_clash_48 rfl rfl ?_
          refine jl_iload_n d_Md_clash_49 rfl rfl ?_
          refine jz_icmp_ge (tgt := 108) d_Md_clash_50 (by decide) ⟨by omega, by omega⟩ ⟨by omega, by omega⟩ (fun hc => ?_) (fun hc => ?_)
          · refine jz_iinc (v := ((s + 1 : Nat) : Int)) (L' := [some (.ref (u)), some (.int (zI (M.pe (0 : Int).toNat))), some (.int (zI (((s + 1 : Nat) : Int)))), some (.int (zI ((r : Int))))]) d_Md_clash_108 rfl (by omega) (by decide) rfl ?_
            refine jl_goto (tgt := 14) d_Md_clash_111 (by decide) ?_
            refine jl_less (L' := [some (.ref (u)), some (.int (zI (M.pe (0 : Int).toNat))), some (.int (zI (((s + 1 : Nat) : Int)))), none]) ⟨rfl, rfl, rfl, trivial⟩ ?_
            refine ih (k - 1) (by omega) (s + 1) (by omega) (fun t r1 r2 => ?_)
            by_cases e9 : t = (s : Int)
            · rw [e9]; exact ⟨hev, fun em => fun ⟨q0, r9, q1, q2, q3, q4⟩ => hN em r9 q1 (by omega) ⟨q0, q3, q4⟩⟩
            · exact hI1 t r1 (by omega)
          · refine jl_aload_n d_Md_clash_53 rfl rfl ?_
            refine jg_6 (q := 1) d_Md_clash_54 p0y rfl (by decide) fw_Md_7 ?_
            refine jl_iconst (v := zI (0)) d_Md_clash_57 (by decide) ?_
            refine jz_iald d_Md_clash_58 p1y (by omega) (by omega) (by omega) ?_
            refine jl_iconst (v := zI (1)) d_Md_clash_59 (by decide) ?_
            refine jz_icmp_eq (tgt := 108) d_Md_clash_60 (by decide) ⟨by omega, by omega⟩ ⟨by omega, by omega⟩ (fun q1 => ?_) (fun q1 => ?_)
            · refine jz_iinc (v := ((s + 1 : Nat) : Int)) (L' := [some (.ref (u)), some (.int (zI (M.pe (0 : Int).toNat))), some (.int (zI (((s + 1 : Nat) : Int)))), some (.int (zI ((r : Int))))]) d_Md_clash_108 rfl (by omega) (by decide) rfl ?_
              refine jl_goto (tgt := 14) d_Md_clash_111 (by decide) ?_
              refine jl_less (L' := [some (.ref (u)), some (.int (zI (M.pe (0 : Int).toNat))), some (.int (zI (((s + 1 : Nat) : Int)))), none]) ⟨rfl, rfl, rfl, trivial⟩ ?_
              refine ih (k - 1) (by omega) (s + 1) (by omega) (fun t r1 r2 => ?_)
              by_cases e9 : t = (s : Int)
              · rw [e9]; exact ⟨hev, fun em => absurd q1 em⟩
              · exact hI1 t r1 (by omega)
            · have hh := hM_rg ok 0 ((s : Int) * 3).toNat
              have hh2 := hM_rg ok 0 ((r : Int) * 3).toNat
              refine jl_aload_n d_Md_clash_63 rfl rfl ?_
              refine jl_iconst (v := zI (0)) d_Md_clash_64 (by decide) ?_
              refine jl_iload_n d_Md_clash_65 rfl rfl ?_
              refine jl_iconst (v := zI (0)) d_Md_clash_66 (by decide) ?_
              refine jl_invV (M' := m_Md_tall) (d' := d - 1) (ck' := 0) (sk' := 0) (na := 3) (as := [.int (zI (0)), .int (zI ((s : Int))), .int (zI (0))]) (st := []) d_Md_clash_67 rfl p0y rfl mw_Md_73 ww_Md_tall sw_Md_tall nw_Md cw_Md_tall rfl rfl rfl (by decide +kernel) (by omega) (Nat.le_of_ble_eq_true rfl) (Nat.le_of_ble_eq_true rfl) ?_
              refine k_M_tall0 hl9 (by omega) hM1 ⟨by decide, by decide⟩ ⟨by omega, by omega⟩ ?_
              show jl_AW _ _ _ _ _ 70 [some (.ref (u)), some (.int (zI (M.pe (0 : Int).toNat))), some (.int (zI ((s : Int)))), some (.int (zI ((r : Int))))] [.int (zI (hM M 0 ((s : Int) * 3).toNat))] n h1 _ _
              refine jz_if_le (tgt := 102) d_Md_clash_70 (by decide) ⟨by omega, by omega⟩ (fun q2 => ?_) (fun q2 => ?_)
              · refine jz_iinc (v := ((r + 1 : Nat) : Int)) (L' := [some (.ref (u)), some (.int (zI (M.pe (0 : Int).toNat))), some (.int (zI ((s : Int)))), some (.int (zI (((r + 1 : Nat) : Int))))]) d_Md_clash_102 rfl (by omega) (by decide) rfl ?_
                refine jl_goto (tgt := 48) d_Md_clash_105 (by decide) ?_
                refine ih2 (k2 - 1) (by omega) (r + 1) (by omega) hsp hev (fun em r9 r1 r2 => ?_)
                by_cases e9 : r9 = (r : Int)
                · rw [e9]; exact (fun q => by have := q.1; omega)
                · exact hN em r9 r1 (by omega)
              · refine jl_aload_n d_Md_clash_73 rfl rfl ?_
                refine jl_iconst (v := zI (0)) d_Md_clash_74 (by decide) ?_
                refine jl_iload_n d_Md_clash_75 rfl rfl ?_
                refine jl_iconst (v := zI (0)) d_Md_clash_76 (by decide) ?_
                refine jl_invV (M' := m_Md_tall) (d' := d - 1) (ck' := 0) (sk' := 0) (na := 3) (as := [.int (zI (0)), .int (zI ((r : Int))), .int (zI (0))]) (st := []) d_Md_clash_77 rfl p0y rfl mw_Md_73 ww_Md_tall sw_Md_tall nw_Md cw_Md_tall rfl rfl rfl (by decide +kernel) (by omega) (Nat.le_of_ble_eq_true rfl) (Nat.le_of_ble_eq_true rfl) ?_
                refine k_M_tall0 hl9 (by omega) hM1 ⟨by decide, by decide⟩ ⟨by omega, by omega⟩ ?_
                show jl_AW _ _ _ _ _ 80 [some (.ref (u)), some (.int (zI (M.pe (0 : Int).toNat))), some (.int (zI ((s : Int)))), some (.int (zI ((r : Int))))] [.int (zI (hM M 0 ((r : Int) * 3).toNat))] n h1 _ _
                refine jz_if_le (tgt := 102) d_Md_clash_80 (by decide) ⟨by omega, by omega⟩ (fun q3 => ?_) (fun q3 => ?_)
                · refine jz_iinc (v := ((r + 1 : Nat) : Int)) (L' := [some (.ref (u)), some (.int (zI (M.pe (0 : Int).toNat))), some (.int (zI ((s : Int)))), some (.int (zI (((r + 1 : Nat) : Int))))]) d_Md_clash_102 rfl (by omega) (by decide) rfl ?_
                  refine jl_goto (tgt := 48) d_Md_clash_105 (by decide) ?_
                  refine ih2 (k2 - 1) (by omega) (r + 1) (by omega) hsp hev (fun em r9 r1 r2 => ?_)
                  by_cases e9 : r9 = (r : Int)
                  · rw [e9]; exact (fun q => by have := q.2.1; omega)
                  · exact hN em r9 r1 (by omega)
                · have hz1 : zR (sp_tgt (M.mo (0 : Int).toNat) (M.pe (0 : Int).toNat) (xM M 0) (s : Int) (hM M 0 ((s : Int) * 3).toNat)) := sp_tgt_z ok 0 hpe ⟨by omega, by omega⟩ hh
                  have hz2 : zR (sp_tgt (M.mo (0 : Int).toNat) (M.pe (0 : Int).toNat) (xM M 0) (r : Int) (hM M 0 ((r : Int) * 3).toNat)) := sp_tgt_z ok 0 hpe ⟨by omega, by omega⟩ hh2
                  refine jl_aload_n d_Md_clash_83 rfl rfl ?_
                  refine jl_iconst (v := zI (0)) d_Md_clash_84 (by decide) ?_
                  refine jl_iload_n d_Md_clash_85 rfl rfl ?_
                  refine jl_iconst (v := zI (0)) d_Md_clash_86 (by decide) ?_
                  refine jl_invV (M' := m_Md_target) (d' := d - 1) (ck' := 0) (sk' := 0) (na := 3) (as := [.int (zI (0)), .int (zI ((s : Int))), .int (zI (0))]) (st := []) d_Md_clash_87 rfl p0y rfl mw_Md_77 ww_Md_target sw_Md_target nw_Md cw_Md_target rfl rfl rfl (by decide +kernel) (by omega) (Nat.le_of_ble_eq_true rfl) (Nat.le_of_ble_eq_true rfl) ?_
                  refine k_M_target0 hl9 (by omega) hM1 ok hpe ⟨by decide, by decide⟩ ⟨by omega, by omega⟩ ?_
                  show jl_AW _ _ _ _ _ 90 [some (.ref (u)), some (.int (zI (M.pe (0 : Int).toNat))), some (.int (zI ((s : Int)))), some (.int (zI ((r : Int))))] [.int (zI (sp_tgt (M.mo (0 : Int).toNat) (M.pe (0 : Int).toNat) (xM M 0) (s : Int) (hM M 0 ((s : Int) * 3).toNat)))] n h1 _ _
                  refine jl_aload_n d_Md_clash_90 rfl rfl ?_
                  refine jl_iconst (v := zI (0)) d_Md_clash_91 (by decide) ?_
                  refine jl_iload_n d_Md_clash_92 rfl rfl ?_
                  refine jl_iconst (v := zI (0)) d_Md_clash_93 (by decide) ?_
                  refine jl_invV (M' := m_Md_target) (d' := d - 1) (ck' := 0) (sk' := 0) (na := 3) (as := [.int (zI (0)), .int (zI ((r : Int))), .int (zI (0))]) (st := [.int (zI (sp_tgt (M.mo (0 : Int).toNat) (M.pe (0 : Int).toNat) (xM M 0) (s : Int) (hM M 0 ((s : Int) * 3).toNat)))]) d_Md_clash_94 rfl p0y rfl mw_Md_77 ww_Md_target sw_Md_target nw_Md cw_Md_target rfl rfl rfl (by decide +kernel) (by omega) (Nat.le_of_ble_eq_true rfl) (Nat.le_of_ble_eq_true rfl) ?_
                  refine k_M_target0 hl9 (by omega) hM1 ok hpe ⟨by decide, by decide⟩ ⟨by omega, by omega⟩ ?_
                  show jl_AW _ _ _ _ _ 97 [some (.ref (u)), some (.int (zI (M.pe (0 : Int).toNat))), some (.int (zI ((s : Int)))), some (.int (zI ((r : Int))))] [.int (zI (sp_tgt (M.mo (0 : Int).toNat) (M.pe (0 : Int).toNat) (xM M 0) (r : Int) (hM M 0 ((r : Int) * 3).toNat))), .int (zI (sp_tgt (M.mo (0 : Int).toNat) (M.pe (0 : Int).toNat) (xM M 0) (s : Int) (hM M 0 ((s : Int) * 3).toNat)))] n h1 _ _
                  refine jz_icmp_ne (tgt := 102) d_Md_clash_97 (by decide) (by first | exact hz1 | exact hz2) (by first | exact hz1 | exact hz2) (fun q4 => ?_) (fun q4 => ?_)
                  · refine jz_iinc (v := ((r + 1 : Nat) : Int)) (L' := [some (.ref (u)), some (.int (zI (M.pe (0 : Int).toNat))), some (.int (zI ((s : Int)))), some (.int (zI (((r + 1 : Nat) : Int))))]) d_Md_clash_102 rfl (by omega) (by decide) rfl ?_
                    refine jl_goto (tgt := 48) d_Md_clash_105 (by decide) ?_
                    refine ih2 (k2 - 1) (by omega) (r + 1) (by omega) hsp hev (fun em r9 r1 r2 => ?_)
                    by_cases e9 : r9 = (r : Int)
                    · rw [e9]; exact (fun q => q4 q.2.2.symm)
                    · exact hN em r9 r1 (by omega)
                  · refine jl_iload_n d_Md_clash_100 rfl rfl ?_
                    refine jl_iret d_Md_clash_101 rfl (hk (s : Int) ?_ h1 hM1 hf1)
                    unfold mo_clash
                    rw [if_neg q1]
                    exact Or.inl ⟨by omega, by omega, ⟨by omega, (r : Int), by omega, by omega, by omega, q4.symm⟩, fun t r1 r2 => (hI1 t r1 r2).2 q1⟩
      obtain ⟨q0z, q1z, q2z, q3z, q4z, q5z, q6z, q7z, q8z, q9z, q10z, q11z, q12z, q13z⟩ := id (hM1)
      have p0z : h1 u = jO 6 [.int (zI (0)), .ref (u + 1), .ref (u + 2), .ref (u + 3), .ref (u + 4), .ref (u + 5), .int (zI (M.jn)), .int (zI (M.ja)), .int (zI (M.jb)), .ref (u + 6), .ref (u + 7), .int (zI (M.nw)), .int (zI (M.bl)), .int (zI (M.lt)), .int (zI (M.rt)), .ref (u + 8), .ref (u + 9), .ref (u + 10), .ref (u + 11), .ref (u + 12), .ref (u + 13)] := q0z
      have p1z : h1 (u + 1) = jI 8 (fun j9 => zI (M.mo j9)) := q1z
      have p2z : h1 (u + 2) = jI 8 (fun j9 => zI (M.pe j9)) := q2z
      have p3z : h1 (u + 3) = jI 128 (fun j9 => zI (M.co j9)) := q3z
      have p4z : h1 (u + 4) = jI 384 (fun j9 => zI (M.he j9)) := q4z
      have p5z : h1 (u + 5) = jZ 128 (fun j9 => zI (M.cr j9)) := q5z
      have p6z : h1 (u + 6) = jI 16 (fun j9 => zI (M.wy j9)) := q6z
      have p7z : h1 (u + 7) = jI 512 (fun j9 => zI (M.fa j9)) := q7z
      have p8z : h1 (u + 8) = jI 32 (fun j9 => zI (M.la j9)) := q8z
      have p9z : h1 (u + 9) = jI 32 (fun j9 => zI (M.ha j9)) := q9z
      have p10z : h1 (u + 10) = jI 4096 (fun j9 => zI (M.w1 j9)) := q10z
      have p11z : h1 (u + 11) = jI 4096 (fun j9 => zI (M.mr j9)) := q11z
      have p12z : h1 (u + 12) = jI 6 (fun j9 => zI (M.rw j9)) := q12z
      have p13z : h1 (u + 13) = jI 16 (fun j9 => zI (M.tu j9)) := q13z
      refine jl_iload_n d_Md_clash_14 rfl rfl ?_
      refine jl_iload_n d_Md_clash_15 rfl rfl ?_
      refine jz_icmp_ge (tgt := 114) d_Md_clash_16 (by decide) ⟨by omega, by omega⟩ ⟨by omega, by omega⟩ (fun hc => ?_) (fun hc => ?_)
      · have es : (s : Int) = M.pe (0 : Int).toNat := by omega
        refine jl_iconst (v := zI (0)) d_Md_clash_114 (by decide) ?_
        refine jl_istore_n (L' := [some (.ref (u)), some (.int (zI (M.pe (0 : Int).toNat))), some (.int (zI (0))), none]) d_Md_clash_115 rfl (by decide) rfl ?_
        exact hlp2 (fun t r1 r2 => hI1 t r1 (by omega)) (M.pe (0 : Int).toNat).toNat 0 (by omega) (fun t r1 r2 => by omega)
      · have hl8 := ld_s_rg (m := M.mo (0 : Int).toNat) (p := M.pe (0 : Int).toNat) (hs := hM M 0) (xs := xM M 0) (cM_rg ok 0) (s : Int) (M.pe (0 : Int).toNat).toNat
        have hc8 := cM_rg ok 0 ((s : Int)).toNat
        have ht8 := th_w_rg (hM M 0) (s : Int) (cM M 0 ((s : Int)).toNat).toNat
        refine jl_aload_n d_Md_clash_19 rfl rfl ?_
        refine jg_6 (q := 1) d_Md_clash_20 p0z rfl (by decide) fw_Md_7 ?_
        refine jl_iconst (v := zI (0)) d_Md_clash_23 (by decide) ?_
        refine jz_iald d_Md_clash_24 p1z (by omega) (by omega) (by omega) ?_
        refine jl_iconst (v := zI (1)) d_Md_clash_25 (by decide) ?_
        refine jz_icmp_ne (tgt := 46) d_Md_clash_26 (by decide) ⟨by omega, by omega⟩ ⟨by omega, by omega⟩ (fun q1 => ?_) (fun q1 => ?_)
        · refine jl_iconst (v := zI (0)) d_Md_clash_46 (by decide) ?_
          refine jl_istore_n (L' := [some (.ref (u)), some (.int (zI (M.pe (0 : Int).toNat))), some (.int (zI ((s : Int)))), some (.int (zI (0)))]) d_Md_clash_47 rfl (by decide) rfl ?_
          exact lpi s 0 (by omega) (by omega) (fun em => absurd em q1) (fun em r9 r1 r2 => by omega)
        · refine jl_aload_n d_Md_clash_29 rfl rfl ?_
          refine jl_iconst (v := zI (0)) d_Md_clash_30 (by decide) ?_
          refine jl_iload_n d_Md_clash_31 rfl rfl ?_
          refine jl_invV (M' := m_Md_landing) (d' := d - 1) (ck' := 0) (sk' := 0) (na := 2) (as := [.int (zI (0)), .int (zI ((s : Int)))]) (st := []) d_Md_clash_32 rfl p0z rfl mw_Md_80 ww_Md_landing sw_Md_landing nw_Md cw_Md_landing rfl rfl rfl (by decide +kernel) (by omega) (Nat.le_of_ble_eq_true rfl) (Nat.le_of_ble_eq_true rfl) ?_
          refine k_M_landing hl9 (by omega) hM1 ok ⟨by decide, by decide⟩ hpe ⟨by omega, by omega⟩ ?_
          show jl_AW _ _ _ _ _ 35 [some (.ref (u)), some (.int (zI (M.pe (0 : Int).toNat))), some (.int (zI ((s : Int)))), none] [.int (zI (ld_s (M.mo (0 : Int).toNat) (M.pe (0 : Int).toNat) (hM M 0) (cM M 0) (xM M 0) (s : Int) (M.pe (0 : Int).toNat).toNat))] n h1 _ _
          refine jl_aload_n d_Md_clash_35 rfl rfl ?_
          refine jl_iconst (v := zI (0)) d_Md_clash_36 (by decide) ?_
          refine jl_iload_n d_Md_clash_37 rfl rfl ?_
          refine jl_invV (M' := m_Md_throwsAt) (d' := d - 1) (ck' := 0) (sk' := 0) (na := 2) (as := [.int (zI (0)), .int (zI ((s : Int)))]) (st := [.int (zI (ld_s (M.mo (0 : Int).toNat) (M.pe (0 : Int).toNat) (hM M 0) (cM M 0) (xM M 0) (s : Int) (M.pe (0 : Int).toNat).toNat))]) d_Md_clash_38 rfl p0z rfl mw_Md_84 ww_Md_throwsAt sw_Md_throwsAt nw_Md cw_Md_throwsAt rfl rfl rfl (by decide +kernel) (by omega) (Nat.le_of_ble_eq_true rfl) (Nat.le_of_ble_eq_true rfl) ?_
          refine k_M_throwsAt hl9 (by omega) hM1 ok ⟨by decide, by decide⟩ ⟨by omega, by omega⟩ ?_
          show jl_AW _ _ _ _ _ 41 [some (.ref (u)), some (.int (zI (M.pe (0 : Int).toNat))), some (.int (zI ((s : Int)))), none] [.int (zI (th_w (hM M 0) (s : Int) (cM M 0 ((s : Int)).toNat).toNat)), .int (zI (ld_s (M.mo (0 : Int).toNat) (M.pe (0 : Int).toNat) (hM M 0) (cM M 0) (xM M 0) (s : Int) (M.pe (0 : Int).toNat).toNat))] n h1 _ _
          refine jz_icmp_eq (tgt := 46) d_Md_clash_41 (by decide) ⟨by omega, by omega⟩ ⟨by omega, by omega⟩ (fun q2 => ?_) (fun q2 => ?_)
          · refine jl_iconst (v := zI (0)) d_Md_clash_46 (by decide) ?_
            refine jl_istore_n (L' := [some (.ref (u)), some (.int (zI (M.pe (0 : Int).toNat))), some (.int (zI ((s : Int)))), some (.int (zI (0)))]) d_Md_clash_47 rfl (by decide) rfl ?_
            exact lpi s 0 (by omega) (by omega) (fun em => q2) (fun em r9 r1 r2 => by omega)
          · refine jl_iload_n d_Md_clash_44 rfl rfl ?_
            refine jl_iret d_Md_clash_45 rfl (hk (s : Int) ?_ h1 hM1 hf1)
            unfold mo_clash
            rw [if_pos q1]
            exact Or.inl ⟨by omega, by omega, q2, fun t r1 r2 q => q ((hI1 t r1 r2).1 q1)⟩
  exact lp1 (M.pe (0 : Int).toNat).toNat 0 (by omega) (fun t r1 r2 => by omega)
set_option maxHeartbeats 4000000 in
set_option maxRecDepth 100000 in
theorem k_M_canonical {l : Launch} {G : jl_G} {d n : Nat} {h : Nat → va_E} {Kr : Option Value → Nat → (Nat → va_E) → Prop} {Kx : String → Nat → (Nat → va_E) → Prop} (hl9 : l.stackTraces = false) (hdd : 2 ≤ d) {u : Nat} {M : MS} (hM9 : jM h u M) (ok : mOk M) (hpe : 1 ≤ M.pe (0 : Int).toNat) (hk0 : M.mo (0 : Int).toNat = 0 → ∀ h', jM h' u (((M.wT 0).whe (rt (M.pe (0 : Int).toNat) (sp_lr (M.pe (0 : Int).toNat) (hM M 0) (M.pe (0 : Int).toNat - 1).toNat) M.he (M.pe (0 : Int).toNat).toNat)).wtu (tuN (M.pe (0 : Int).toNat) (sp_lr (M.pe (0 : Int).toNat) (hM M 0) (M.pe (0 : Int).toNat - 1).toNat) (hM M 0) (M.pe (0 : Int).toNat).toNat M.tu)) → jfr h h' u (u + 14) → Kr (some (.int (zI (sp_lr (M.pe (0 : Int).toNat) (hM M 0) (M.pe (0 : Int).toNat - 1).toNat)))) n h') (hk1 : ¬ M.mo (0 : Int).toNat = 0 → ∀ h', jM h' u (M.wT 1) → jfr h h' u (u + 14) → Kr (some (.int (zI (0)))) n h') : jl_Call l G m_Md_canonical d [.ref (u)] n h 0 0 Kr Kx := by
  refine jl_enter hl9 (by decide) rfl (by simp [Value.category]) (Nat.le_of_ble_eq_true rfl) ?_
  show jl_AW l G (jl_F G Kr Kx) m_Md_canonical d 0 [some (.ref (u)), none, none, none] [] n h 0 0
  have hm0 := ok.1 (0 : Int).toNat
  have hp0 := ok.2.1 (0 : Int).toNat
  obtain ⟨q0, q1, q2, q3, q4, q5, q6, q7, q8, q9, q10, q11, q12, q13⟩ := id (hM9)
  have p0 : h u = jO 6 [.int (zI (M.T)), .ref (u + 1), .ref (u + 2), .ref (u + 3), .ref (u + 4), .ref (u + 5), .int (zI (M.jn)), .int (zI (M.ja)), .int (zI (M.jb)), .ref (u + 6), .ref (u + 7), .int (zI (M.nw)), .int (zI (M.bl)), .int (zI (M.lt)), .int (zI (M.rt)), .ref (u + 8), .ref (u + 9), .ref (u + 10), .ref (u + 11), .ref (u + 12), .ref (u + 13)] := q0
  have p1 : h (u + 1) = jI 8 (fun j9 => zI (M.mo j9)) := q1
  have p2 : h (u + 2) = jI 8 (fun j9 => zI (M.pe j9)) := q2
  have p3 : h (u + 3) = jI 128 (fun j9 => zI (M.co j9)) := q3
  have p4 : h (u + 4) = jI 384 (fun j9 => zI (M.he j9)) := q4
  have p5 : h (u + 5) = jZ 128 (fun j9 => zI (M.cr j9)) := q5
  have p6 : h (u + 6) = jI 16 (fun j9 => zI (M.wy j9)) := q6
  have p7 : h (u + 7) = jI 512 (fun j9 => zI (M.fa j9)) := q7
  have p8 : h (u + 8) = jI 32 (fun j9 => zI (M.la j9)) := q8
  have p9 : h (u + 9) = jI 32 (fun j9 => zI (M.ha j9)) := q9
  have p10 : h (u + 10) = jI 4096 (fun j9 => zI (M.w1 j9)) := q10
  have p11 : h (u + 11) = jI 4096 (fun j9 => zI (M.mr j9)) := q11
  have p12 : h (u + 12) = jI 6 (fun j9 => zI (M.rw j9)) := q12
  have p13 : h (u + 13) = jI 16 (fun j9 => zI (M.tu j9)) := q13
  refine jl_aload_n d_Md_canonical_0 rfl rfl ?_
  refine jl_iconst (v := zI (0)) d_Md_canonical_1 (by decide) ?_
  refine jp_6 (q := 0) (ty := .int) d_Md_canonical_2 p0 (by simp) (by decide) fw_Md_58 rfl (by decide +kernel) (fun _ _ => rfl) (fun _ _ => rfl) (fun h1 eh1 => ?_)
  have eh1 : h1 = va_up h (u) (jO 6 [.int (zI (0)), .ref (u + 1), .ref (u + 2), .ref (u + 3), .ref (u + 4), .ref (u + 5), .int (zI (M.jn)), .int (zI (M.ja)), .int (zI (M.jb)), .ref (u + 6), .ref (u + 7), .int (zI (M.nw)), .int (zI (M.bl)), .int (zI (M.lt)), .int (zI (M.rt)), .ref (u + 8), .ref (u + 9), .ref (u + 10), .ref (u + 11), .ref (u + 12), .ref (u + 13)]) := eh1
  have jf2 : h1 (u) = jO 6 [.int (zI (0)), .ref (u + 1), .ref (u + 2), .ref (u + 3), .ref (u + 4), .ref (u + 5), .int (zI (M.jn)), .int (zI (M.ja)), .int (zI (M.jb)), .ref (u + 6), .ref (u + 7), .int (zI (M.nw)), .int (zI (M.bl)), .int (zI (M.lt)), .int (zI (M.rt)), .ref (u + 8), .ref (u + 9), .ref (u + 10), .ref (u + 11), .ref (u + 12), .ref (u + 13)] := by rw [eh1, va_up_self]
  have jf3 : h1 (u + 1) = jI 8 (fun j9 => zI (M.mo j9)) := by rw [eh1, va_up_ne _ _ (by omega)]; exact p1
  have jf4 : h1 (u + 2) = jI 8 (fun j9 => zI (M.pe j9)) := by rw [eh1, va_up_ne _ _ (by omega)]; exact p2
  have jf5 : h1 (u + 3) = jI 128 (fun j9 => zI (M.co j9)) := by rw [eh1, va_up_ne _ _ (by omega)]; exact p3
  have jf6 : h1 (u + 4) = jI 384 (fun j9 => zI (M.he j9)) := by rw [eh1, va_up_ne _ _ (by omega)]; exact p4
  have jf7 : h1 (u + 5) = jZ 128 (fun j9 => zI (M.cr j9)) := by rw [eh1, va_up_ne _ _ (by omega)]; exact p5
  have jf8 : h1 (u + 6) = jI 16 (fun j9 => zI (M.wy j9)) := by rw [eh1, va_up_ne _ _ (by omega)]; exact p6
  have jf9 : h1 (u + 7) = jI 512 (fun j9 => zI (M.fa j9)) := by rw [eh1, va_up_ne _ _ (by omega)]; exact p7
  have jf10 : h1 (u + 8) = jI 32 (fun j9 => zI (M.la j9)) := by rw [eh1, va_up_ne _ _ (by omega)]; exact p8
  have jf11 : h1 (u + 9) = jI 32 (fun j9 => zI (M.ha j9)) := by rw [eh1, va_up_ne _ _ (by omega)]; exact p9
  have jf12 : h1 (u + 10) = jI 4096 (fun j9 => zI (M.w1 j9)) := by rw [eh1, va_up_ne _ _ (by omega)]; exact p10
  have jf13 : h1 (u + 11) = jI 4096 (fun j9 => zI (M.mr j9)) := by rw [eh1, va_up_ne _ _ (by omega)]; exact p11
  have jf14 : h1 (u + 12) = jI 6 (fun j9 => zI (M.rw j9)) := by rw [eh1, va_up_ne _ _ (by omega)]; exact p12
  have jf15 : h1 (u + 13) = jI 16 (fun j9 => zI (M.tu j9)) := by rw [eh1, va_up_ne _ _ (by omega)]; exact p13
  have hM1 : jM h1 u (M.wT 0) := ⟨jf2, jf3, jf4, jf5, jf6, jf7, jf8, jf9, jf10, jf11, jf12, jf13, jf14, jf15⟩
  have hf1 : jfr h h1 u (u + 14) := (fun y hy => by rw [eh1, va_up_ne _ _ (by omega)])
  obtain ⟨q0a, q1a, q2a, q3a, q4a, q5a, q6a, q7a, q8a, q9a, q10a, q11a, q12a, q13a⟩ := id (hM1)
  have p0a : h1 u = jO 6 [.int (zI (0)), .ref (u + 1), .ref (u + 2), .ref (u + 3), .ref (u + 4), .ref (u + 5), .int (zI (M.jn)), .int (zI (M.ja)), .int (zI (M.jb)), .ref (u + 6), .ref (u + 7), .int (zI (M.nw)), .int (zI (M.bl)), .int (zI (M.lt)), .int (zI (M.rt)), .ref (u + 8), .ref (u + 9), .ref (u + 10), .ref (u + 11), .ref (u + 12), .ref (u + 13)] := q0a
  have p1a : h1 (u + 1) = jI 8 (fun j9 => zI (M.mo j9)) := q1a
  have p2a : h1 (u + 2) = jI 8 (fun j9 => zI (M.pe j9)) := q2a
  have p3a : h1 (u + 3) = jI 128 (fun j9 => zI (M.co j9)) := q3a
  have p4a : h1 (u + 4) = jI 384 (fun j9 => zI (M.he j9)) := q4a
  have p5a : h1 (u + 5) = jZ 128 (fun j9 => zI (M.cr j9)) := q5a
  have p6a : h1 (u + 6) = jI 16 (fun j9 => zI (M.wy j9)) := q6a
  have p7a : h1 (u + 7) = jI 512 (fun j9 => zI (M.fa j9)) := q7a
  have p8a : h1 (u + 8) = jI 32 (fun j9 => zI (M.la j9)) := q8a
  have p9a : h1 (u + 9) = jI 32 (fun j9 => zI (M.ha j9)) := q9a
  have p10a : h1 (u + 10) = jI 4096 (fun j9 => zI (M.w1 j9)) := q10a
  have p11a : h1 (u + 11) = jI 4096 (fun j9 => zI (M.mr j9)) := q11a
  have p12a : h1 (u + 12) = jI 6 (fun j9 => zI (M.rw j9)) := q12a
  have p13a : h1 (u + 13) = jI 16 (fun j9 => zI (M.tu j9)) := q13a
  refine jl_aload_n d_Md_canonical_5 rfl rfl ?_
  refine jg_6 (q := 1) d_Md_canonical_6 p0a rfl (by decide) fw_Md_7 ?_
  refine jl_iconst (v := zI (0)) d_Md_canonical_9 (by decide) ?_
  refine jz_iald d_Md_canonical_10 p1a (by omega) (by omega) (by omega) ?_
  refine jz_if_eq (tgt := 20) d_Md_canonical_11 (by decide) ⟨by omega, by omega⟩ (fun q1 => ?_) (fun q1 => ?_)
  · refine jl_aload_n d_Md_canonical_20 rfl rfl ?_
    refine jg_6 (q := 2) d_Md_canonical_21 p0a rfl (by decide) fw_Md_13 ?_
    refine jl_iconst (v := zI (0)) d_Md_canonical_24 (by decide) ?_
    refine jz_iald d_Md_canonical_25 p2a (by omega) (by omega) (by omega) ?_
    refine jl_istore_n (L' := [some (.ref (u)), some (.int (zI (M.pe (0 : Int).toNat))), none, none]) d_Md_canonical_26 rfl (by decide) rfl ?_
    refine jl_iconst (v := zI (0)) d_Md_canonical_27 (by decide) ?_
    refine jl_istore_n (L' := [some (.ref (u)), some (.int (zI (M.pe (0 : Int).toNat))), some (.int (zI (0))), none]) d_Md_canonical_28 rfl (by decide) rfl ?_
    refine jl_iconst (v := zI (1)) d_Md_canonical_29 (by decide) ?_
    refine jl_istore_n (L' := [some (.ref (u)), some (.int (zI (M.pe (0 : Int).toNat))), some (.int (zI (0))), some (.int (zI (1)))]) d_Md_canonical_30 rfl (by decide) rfl ?_
    have lp3 : ∀ (k : Nat) (s : Nat) (h2 : Nat → va_E), (s : Int) + k = M.pe (0 : Int).toNat → jM h2 u (((M.wT 0).whe (rt (M.pe (0 : Int).toNat) (sp_lr (M.pe (0 : Int).toNat) (hM M 0) (M.pe (0 : Int).toNat - 1).toNat) M.he (s))).wtu (tuN (M.pe (0 : Int).toNat) (sp_lr (M.pe (0 : Int).toNat) (hM M 0) (M.pe (0 : Int).toNat - 1).toNat) (hM M 0) ((M.pe (0 : Int).toNat).toNat) M.tu)) → jfr h h2 u (u + 14) → jl_AW l G (jl_F G Kr Kx) m_Md_canonical d 89 [some (.ref (u)), some (.int (zI (M.pe (0 : Int).toNat))), some (.int (zI (sp_lr (M.pe (0 : Int).toNat) (hM M 0) (M.pe (0 : Int).toNat - 1).toNat))), some (.int (zI ((s : Int))))] [] n h2 0 0 := by
      intro k
      induction k using Nat.strongRecOn with
      | ind k ih =>
        intro s h2 hks hM2 hf2
        have hr9 := sp_lr_rg (M.pe (0 : Int).toNat) (hM M 0) (M.pe (0 : Int).toNat - 1).toNat
        obtain ⟨q0z, q1z, q2z, q3z, q4z, q5z, q6z, q7z, q8z, q9z, q10z, q11z, q12z, q13z⟩ := id (hM2)
        have p0z : h2 u = jO 6 [.int (zI (0)), .ref (u + 1), .ref (u + 2), .ref (u + 3), .ref (u + 4), .ref (u + 5), .int (zI (M.jn)), .int (zI (M.ja)), .int (zI (M.jb)), .ref (u + 6), .ref (u + 7), .int (zI (M.nw)), .int (zI (M.bl)), .int (zI (M.lt)), .int (zI (M.rt)), .ref (u + 8), .ref (u + 9), .ref (u + 10), .ref (u + 11), .ref (u + 12), .ref (u + 13)] := q0z
        have p1z : h2 (u + 1) = jI 8 (fun j9 => zI (M.mo j9)) := q1z
        have p2z : h2 (u + 2) = jI 8 (fun j9 => zI (M.pe j9)) := q2z
        have p3z : h2 (u + 3) = jI 128 (fun j9 => zI (M.co j9)) := q3z
        have p4z : h2 (u + 4) = jI 384 (fun j9 => zI ((rt (M.pe (0 : Int).toNat) (sp_lr (M.pe (0 : Int).toNat) (hM M 0) (M.pe (0 : Int).toNat - 1).toNat) M.he (s)) j9)) := q4z
        have p5z : h2 (u + 5) = jZ 128 (fun j9 => zI (M.cr j9)) := q5z
        have p6z : h2 (u + 6) = jI 16 (fun j9 => zI (M.wy j9)) := q6z
        have p7z : h2 (u + 7) = jI 512 (fun j9 => zI (M.fa j9)) := q7z
        have p8z : h2 (u + 8) = jI 32 (fun j9 => zI (M.la j9)) := q8z
        have p9z : h2 (u + 9) = jI 32 (fun j9 => zI (M.ha j9)) := q9z
        have p10z : h2 (u + 10) = jI 4096 (fun j9 => zI (M.w1 j9)) := q10z
        have p11z : h2 (u + 11) = jI 4096 (fun j9 => zI (M.mr j9)) := q11z
        have p12z : h2 (u + 12) = jI 6 (fun j9 => zI (M.rw j9)) := q12z
        have p13z : h2 (u + 13) = jI 16 (fun j9 => zI ((tuN (M.pe (0 : Int).toNat) (sp_lr (M.pe (0 : Int).toNat) (hM M 0) (M.pe (0 : Int).toNat - 1).toNat) (hM M 0) ((M.pe (0 : Int).toNat).toNat) M.tu) j9)) := q13z
        refine jl_iload_n d_Md_canonical_89 rfl rfl ?_
        refine jl_iload_n d_Md_canonical_90 rfl rfl ?_
        refine jz_icmp_ge (tgt := 114) d_Md_canonical_91 (by decide) ⟨by omega, by omega⟩ ⟨by omega, by omega⟩ (fun hc => ?_) (fun hc => ?_)
        · have es : s = (M.pe (0 : Int).toNat).toNat := by omega
          refine jl_iload_n d_Md_canonical_114 rfl rfl ?_
          rw [es] at hM2
          exact jl_iret d_Md_canonical_115 rfl (hk0 q1 h2 hM2 hf2)
        · refine jl_aload_n d_Md_canonical_94 rfl rfl ?_
          refine jg_6 (q := 4) d_Md_canonical_95 p0z rfl (by decide) fw_Md_19 ?_
          refine jl_iconst (v := zI (3)) d_Md_canonical_98 (by decide) ?_
          refine jl_iload_n d_Md_canonical_99 rfl rfl ?_
          refine jz_imul (v := (s : Int) * 3) d_Md_canonical_100 (by omega) ?_
          refine jl_aload_n d_Md_canonical_101 rfl rfl ?_
          refine jg_6 (q := 20) d_Md_canonical_102 p0z rfl (by decide) fw_Md_51 ?_
          refine jl_iload_n d_Md_canonical_105 rfl rfl ?_
          refine jz_iald d_Md_canonical_106 p13z (by omega) (by omega) (by omega) ?_
          have e9 : tuN (M.pe (0 : Int).toNat) (sp_lr (M.pe (0 : Int).toNat) (hM M 0) (M.pe (0 : Int).toNat - 1).toNat) (hM M 0) (M.pe (0 : Int).toNat).toNat M.tu ((s : Int)).toNat = M.he ((sp_lr (M.pe (0 : Int).toNat) (hM M 0) (M.pe (0 : Int).toNat - 1).toNat + (s : Int)) % M.pe (0 : Int).toNat * 3).toNat := by unfold tuN; rw [if_pos (by omega), hM_0, Int.toNat_natCast]
          rw [e9]
          refine jz_iasth d_Md_canonical_107 p4z (by omega) (by omega) (by omega) (fun h16 eh16 => ?_)
          have jf17 : h16 (u + 4) = jI 384 (fun j9 => zI ((va_up ((rt (M.pe (0 : Int).toNat) (sp_lr (M.pe (0 : Int).toNat) (hM M 0) (M.pe (0 : Int).toNat - 1).toNat) M.he (s))) ((s : Int) * 3).toNat (M.he ((sp_lr (M.pe (0 : Int).toNat) (hM M 0) (M.pe (0 : Int).toNat - 1).toNat + (s : Int)) % M.pe (0 : Int).toNat * 3).toNat)) j9)) := by rw [eh16, va_up_self]
          refine jz_iinc (v := ((s + 1 : Nat) : Int)) (L' := [some (.ref (u)), some (.int (zI (M.pe (0 : Int).toNat))), some (.int (zI (sp_lr (M.pe (0 : Int).toNat) (hM M 0) (M.pe (0 : Int).toNat - 1).toNat))), some (.int (zI (((s + 1 : Nat) : Int))))]) d_Md_canonical_108 rfl (by omega) (by decide) rfl ?_
          refine jl_goto (tgt := 89) d_Md_canonical_111 (by decide) ?_
          have jf18 : h16 (u) = jO 6 [.int (zI (0)), .ref (u + 1), .ref (u + 2), .ref (u + 3), .ref (u + 4), .ref (u + 5), .int (zI (M.jn)), .int (zI (M.ja)), .int (zI (M.jb)), .ref (u + 6), .ref (u + 7), .int (zI (M.nw)), .int (zI (M.bl)), .int (zI (M.lt)), .int (zI (M.rt)), .ref (u + 8), .ref (u + 9), .ref (u + 10), .ref (u + 11), .ref (u + 12), .ref (u + 13)] := by rw [eh16, va_up_ne _ _ (by omega)]; exact p0z
          have jf19 : h16 (u + 1) = jI 8 (fun j9 => zI (M.mo j9)) := by rw [eh16, va_up_ne _ _ (by omega)]; exact p1z
          have jf20 : h16 (u + 2) = jI 8 (fun j9 => zI (M.pe j9)) := by rw [eh16, va_up_ne _ _ (by omega)]; exact p2z
          have jf21 : h16 (u + 3) = jI 128 (fun j9 => zI (M.co j9)) := by rw [eh16, va_up_ne _ _ (by omega)]; exact p3z
          have jf22 : h16 (u + 5) = jZ 128 (fun j9 => zI (M.cr j9)) := by rw [eh16, va_up_ne _ _ (by omega)]; exact p5z
          have jf23 : h16 (u + 6) = jI 16 (fun j9 => zI (M.wy j9)) := by rw [eh16, va_up_ne _ _ (by omega)]; exact p6z
          have jf24 : h16 (u + 7) = jI 512 (fun j9 => zI (M.fa j9)) := by rw [eh16, va_up_ne _ _ (by omega)]; exact p7z
          have jf25 : h16 (u + 8) = jI 32 (fun j9 => zI (M.la j9)) := by rw [eh16, va_up_ne _ _ (by omega)]; exact p8z
          have jf26 : h16 (u + 9) = jI 32 (fun j9 => zI (M.ha j9)) := by rw [eh16, va_up_ne _ _ (by omega)]; exact p9z
          have jf27 : h16 (u + 10) = jI 4096 (fun j9 => zI (M.w1 j9)) := by rw [eh16, va_up_ne _ _ (by omega)]; exact p10z
          have jf28 : h16 (u + 11) = jI 4096 (fun j9 => zI (M.mr j9)) := by rw [eh16, va_up_ne _ _ (by omega)]; exact p11z
          have jf29 : h16 (u + 12) = jI 6 (fun j9 => zI (M.rw j9)) := by rw [eh16, va_up_ne _ _ (by omega)]; exact p12z
          have jf30 : h16 (u + 13) = jI 16 (fun j9 => zI ((tuN (M.pe (0 : Int).toNat) (sp_lr (M.pe (0 : Int).toNat) (hM M 0) (M.pe (0 : Int).toNat - 1).toNat) (hM M 0) ((M.pe (0 : Int).toNat).toNat) M.tu) j9)) := by rw [eh16, va_up_ne _ _ (by omega)]; exact p13z
          have e8 := rt_s (M.pe (0 : Int).toNat) (sp_lr (M.pe (0 : Int).toNat) (hM M 0) (M.pe (0 : Int).toNat - 1).toNat) M.he (s := (s : Int)) (by omega)
          rw [Int.toNat_natCast, show ((s : Int) + 1).toNat = s + 1 by omega] at e8
          rw [e8] at jf17
          exact ih (k - 1) (by omega) (s + 1) h16 (by omega) ⟨jf18, jf19, jf20, jf21, jf17, jf22, jf23, jf24, jf25, jf26, jf27, jf28, jf29, jf30⟩ (fun y hy => by rw [eh16, va_up_ne _ _ (by omega)]; exact hf2 y hy)
    have lp2 : ∀ (k : Nat) (s : Nat) (h2 : Nat → va_E), (s : Int) + k = M.pe (0 : Int).toNat → jM h2 u (((M.wT 0).whe (rt (M.pe (0 : Int).toNat) (sp_lr (M.pe (0 : Int).toNat) (hM M 0) (M.pe (0 : Int).toNat - 1).toNat) M.he (0))).wtu (tuN (M.pe (0 : Int).toNat) (sp_lr (M.pe (0 : Int).toNat) (hM M 0) (M.pe (0 : Int).toNat - 1).toNat) (hM M 0) (s) M.tu)) → jfr h h2 u (u + 14) → jl_AW l G (jl_F G Kr Kx) m_Md_canonical d 59 [some (.ref (u)), some (.int (zI (M.pe (0 : Int).toNat))), some (.int (zI (sp_lr (M.pe (0 : Int).toNat) (hM M 0) (M.pe (0 : Int).toNat - 1).toNat))), some (.int (zI ((s : Int))))] [] n h2 0 0 := by
      intro k
      induction k using Nat.strongRecOn with
      | ind k ih =>
        intro s h2 hks hM2 hf2
        have hr9 := sp_lr_rg (M.pe (0 : Int).toNat) (hM M 0) (M.pe (0 : Int).toNat - 1).toNat
        have hM2' : jM h2 u (((M.wT 0).whe (rt (M.pe (0 : Int).toNat) (sp_lr (M.pe (0 : Int).toNat) (hM M 0) (M.pe (0 : Int).toNat - 1).toNat) M.he (0))).wtu (tuN (M.pe (0 : Int).toNat) (sp_lr (M.pe (0 : Int).toNat) (hM M 0) (M.pe (0 : Int).toNat - 1).toNat) (hM M 0) (s) M.tu)) := hM2
        obtain ⟨q0z, q1z, q2z, q3z, q4z, q5z, q6z, q7z, q8z, q9z, q10z, q11z, q12z, q13z⟩ := id (hM2)
        have p0z : h2 u = jO 6 [.int (zI (0)), .ref (u + 1), .ref (u + 2), .ref (u + 3), .ref (u + 4), .ref (u + 5), .int (zI (M.jn)), .int (zI (M.ja)), .int (zI (M.jb)), .ref (u + 6), .ref (u + 7), .int (zI (M.nw)), .int (zI (M.bl)), .int (zI (M.lt)), .int (zI (M.rt)), .ref (u + 8), .ref (u + 9), .ref (u + 10), .ref (u + 11), .ref (u + 12), .ref (u + 13)] := q0z
        have p1z : h2 (u + 1) = jI 8 (fun j9 => zI (M.mo j9)) := q1z
        have p2z : h2 (u + 2) = jI 8 (fun j9 => zI (M.pe j9)) := q2z
        have p3z : h2 (u + 3) = jI 128 (fun j9 => zI (M.co j9)) := q3z
        have p4z : h2 (u + 4) = jI 384 (fun j9 => zI ((rt (M.pe (0 : Int).toNat) (sp_lr (M.pe (0 : Int).toNat) (hM M 0) (M.pe (0 : Int).toNat - 1).toNat) M.he (0)) j9)) := q4z
        have p5z : h2 (u + 5) = jZ 128 (fun j9 => zI (M.cr j9)) := q5z
        have p6z : h2 (u + 6) = jI 16 (fun j9 => zI (M.wy j9)) := q6z
        have p7z : h2 (u + 7) = jI 512 (fun j9 => zI (M.fa j9)) := q7z
        have p8z : h2 (u + 8) = jI 32 (fun j9 => zI (M.la j9)) := q8z
        have p9z : h2 (u + 9) = jI 32 (fun j9 => zI (M.ha j9)) := q9z
        have p10z : h2 (u + 10) = jI 4096 (fun j9 => zI (M.w1 j9)) := q10z
        have p11z : h2 (u + 11) = jI 4096 (fun j9 => zI (M.mr j9)) := q11z
        have p12z : h2 (u + 12) = jI 6 (fun j9 => zI (M.rw j9)) := q12z
        have p13z : h2 (u + 13) = jI 16 (fun j9 => zI ((tuN (M.pe (0 : Int).toNat) (sp_lr (M.pe (0 : Int).toNat) (hM M 0) (M.pe (0 : Int).toNat - 1).toNat) (hM M 0) (s) M.tu) j9)) := q13z
        refine jl_iload_n d_Md_canonical_59 rfl rfl ?_
        refine jl_iload_n d_Md_canonical_60 rfl rfl ?_
        refine jz_icmp_ge (tgt := 87) d_Md_canonical_61 (by decide) ⟨by omega, by omega⟩ ⟨by omega, by omega⟩ (fun hc => ?_) (fun hc => ?_)
        · have es : s = (M.pe (0 : Int).toNat).toNat := by omega
          refine jl_iconst (v := zI (0)) d_Md_canonical_87 (by decide) ?_
          refine jl_istore_n (L' := [some (.ref (u)), some (.int (zI (M.pe (0 : Int).toNat))), some (.int (zI (sp_lr (M.pe (0 : Int).toNat) (hM M 0) (M.pe (0 : Int).toNat - 1).toNat))), some (.int (zI (0)))]) d_Md_canonical_88 rfl (by decide) rfl ?_
          rw [es] at hM2
          exact lp3 (M.pe (0 : Int).toNat).toNat 0 h2 (by omega) hM2 hf2
        · have hm1 := Int.emod_nonneg (sp_lr (M.pe (0 : Int).toNat) (hM M 0) (M.pe (0 : Int).toNat - 1).toNat + (s : Int)) (show M.pe (0 : Int).toNat ≠ 0 by omega)
          have hm2 := Int.emod_lt_of_pos (sp_lr (M.pe (0 : Int).toNat) (hM M 0) (M.pe (0 : Int).toNat - 1).toNat + (s : Int)) (show 0 < M.pe (0 : Int).toNat by omega)
          refine jl_aload_n d_Md_canonical_64 rfl rfl ?_
          refine jg_6 (q := 20) d_Md_canonical_65 p0z rfl (by decide) fw_Md_51 ?_
          refine jl_iload_n d_Md_canonical_68 rfl rfl ?_
          refine jl_aload_n d_Md_canonical_69 rfl rfl ?_
          refine jl_iconst (v := zI (0)) d_Md_canonical_70 (by decide) ?_
          refine jl_iload_n d_Md_canonical_71 rfl rfl ?_
          refine jl_iload_n d_Md_canonical_72 rfl rfl ?_
          refine jz_iadd (v := sp_lr (M.pe (0 : Int).toNat) (hM M 0) (M.pe (0 : Int).toNat - 1).toNat + (s : Int)) d_Md_canonical_73 (by omega) ?_
          refine jl_iload_n d_Md_canonical_74 rfl rfl ?_
          refine jz_irem (v := (sp_lr (M.pe (0 : Int).toNat) (hM M 0) (M.pe (0 : Int).toNat - 1).toNat + (s : Int)) % M.pe (0 : Int).toNat) d_Md_canonical_75 ⟨by omega, by omega⟩ ⟨by omega, by omega⟩ (by omega) (Int.tmod_eq_emod_of_nonneg (by omega)) ?_
          refine jl_iconst (v := zI (0)) d_Md_canonical_76 (by decide) ?_
          refine jl_invV (M' := m_Md_tall) (d' := d - 1) (ck' := 0) (sk' := 0) (na := 3) (as := [.int (zI (0)), .int (zI ((sp_lr (M.pe (0 : Int).toNat) (hM M 0) (M.pe (0 : Int).toNat - 1).toNat + (s : Int)) % M.pe (0 : Int).toNat)), .int (zI (0))]) (st := [.int (zI ((s : Int))), .ref (u + 13)]) d_Md_canonical_77 rfl p0z rfl mw_Md_73 ww_Md_tall sw_Md_tall nw_Md cw_Md_tall rfl rfl rfl (by decide +kernel) (by omega) (Nat.le_of_ble_eq_true rfl) (Nat.le_of_ble_eq_true rfl) ?_
          refine k_M_tall0 hl9 (by omega) hM2 ⟨by decide, by decide⟩ ⟨by omega, by omega⟩ ?_
          have e9 : ∀ x, hM (((M.wT 0).whe (rt (M.pe (0 : Int).toNat) (sp_lr (M.pe (0 : Int).toNat) (hM M 0) (M.pe (0 : Int).toNat - 1).toNat) M.he (0))).wtu (tuN (M.pe (0 : Int).toNat) (sp_lr (M.pe (0 : Int).toNat) (hM M 0) (M.pe (0 : Int).toNat - 1).toNat) (hM M 0) (s) M.tu)) 0 x = hM M 0 x := fun x => by rw [hM_0, hM_0]; exact congrFun (rt_0 _ _ _) x
          rw [e9]
          show jl_AW _ _ _ _ _ 80 [some (.ref (u)), some (.int (zI (M.pe (0 : Int).toNat))), some (.int (zI (sp_lr (M.pe (0 : Int).toNat) (hM M 0) (M.pe (0 : Int).toNat - 1).toNat))), some (.int (zI ((s : Int))))] [.int (zI (hM M 0 ((sp_lr (M.pe (0 : Int).toNat) (hM M 0) (M.pe (0 : Int).toNat - 1).toNat + (s : Int)) % M.pe (0 : Int).toNat * 3).toNat)), .int (zI ((s : Int))), .ref (u + 13)] n h2 _ _
          refine jz_iasth d_Md_canonical_80 p13z (by omega) (by omega) (by omega) (fun h16 eh16 => ?_)
          have jf17 : h16 (u + 13) = jI 16 (fun j9 => zI ((va_up ((tuN (M.pe (0 : Int).toNat) (sp_lr (M.pe (0 : Int).toNat) (hM M 0) (M.pe (0 : Int).toNat - 1).toNat) (hM M 0) (s) M.tu)) ((s : Int)).toNat (hM M 0 ((sp_lr (M.pe (0 : Int).toNat) (hM M 0) (M.pe (0 : Int).toNat - 1).toNat + (s : Int)) % M.pe (0 : Int).toNat * 3).toNat)) j9)) := by rw [eh16, va_up_self]
          refine jz_iinc (v := ((s + 1 : Nat) : Int)) (L' := [some (.ref (u)), some (.int (zI (M.pe (0 : Int).toNat))), some (.int (zI (sp_lr (M.pe (0 : Int).toNat) (hM M 0) (M.pe (0 : Int).toNat - 1).toNat))), some (.int (zI (((s + 1 : Nat) : Int))))]) d_Md_canonical_81 rfl (by omega) (by decide) rfl ?_
          refine jl_goto (tgt := 59) d_Md_canonical_84 (by decide) ?_
          have jf18 : h16 (u) = jO 6 [.int (zI (0)), .ref (u + 1), .ref (u + 2), .ref (u + 3), .ref (u + 4), .ref (u + 5), .int (zI (M.jn)), .int (zI (M.ja)), .int (zI (M.jb)), .ref (u + 6), .ref (u + 7), .int (zI (M.nw)), .int (zI (M.bl)), .int (zI (M.lt)), .int (zI (M.rt)), .ref (u + 8), .ref (u + 9), .ref (u + 10), .ref (u + 11), .ref (u + 12), .ref (u + 13)] := by rw [eh16, va_up_ne _ _ (by omega)]; exact p0z
          have jf19 : h16 (u + 1) = jI 8 (fun j9 => zI (M.mo j9)) := by rw [eh16, va_up_ne _ _ (by omega)]; exact p1z
          have jf20 : h16 (u + 2) = jI 8 (fun j9 => zI (M.pe j9)) := by rw [eh16, va_up_ne _ _ (by omega)]; exact p2z
          have jf21 : h16 (u + 3) = jI 128 (fun j9 => zI (M.co j9)) := by rw [eh16, va_up_ne _ _ (by omega)]; exact p3z
          have jf22 : h16 (u + 4) = jI 384 (fun j9 => zI ((rt (M.pe (0 : Int).toNat) (sp_lr (M.pe (0 : Int).toNat) (hM M 0) (M.pe (0 : Int).toNat - 1).toNat) M.he (0)) j9)) := by rw [eh16, va_up_ne _ _ (by omega)]; exact p4z
          have jf23 : h16 (u + 5) = jZ 128 (fun j9 => zI (M.cr j9)) := by rw [eh16, va_up_ne _ _ (by omega)]; exact p5z
          have jf24 : h16 (u + 6) = jI 16 (fun j9 => zI (M.wy j9)) := by rw [eh16, va_up_ne _ _ (by omega)]; exact p6z
          have jf25 : h16 (u + 7) = jI 512 (fun j9 => zI (M.fa j9)) := by rw [eh16, va_up_ne _ _ (by omega)]; exact p7z
          have jf26 : h16 (u + 8) = jI 32 (fun j9 => zI (M.la j9)) := by rw [eh16, va_up_ne _ _ (by omega)]; exact p8z
          have jf27 : h16 (u + 9) = jI 32 (fun j9 => zI (M.ha j9)) := by rw [eh16, va_up_ne _ _ (by omega)]; exact p9z
          have jf28 : h16 (u + 10) = jI 4096 (fun j9 => zI (M.w1 j9)) := by rw [eh16, va_up_ne _ _ (by omega)]; exact p10z
          have jf29 : h16 (u + 11) = jI 4096 (fun j9 => zI (M.mr j9)) := by rw [eh16, va_up_ne _ _ (by omega)]; exact p11z
          have jf30 : h16 (u + 12) = jI 6 (fun j9 => zI (M.rw j9)) := by rw [eh16, va_up_ne _ _ (by omega)]; exact p12z
          rw [tuN_s] at jf17
          exact ih (k - 1) (by omega) (s + 1) h16 (by omega) ⟨jf18, jf19, jf20, jf21, jf22, jf23, jf24, jf25, jf26, jf27, jf28, jf29, jf30, jf17⟩ (fun y hy => by rw [eh16, va_up_ne _ _ (by omega)]; exact hf2 y hy)
    have lp1 : ∀ (k : Nat) (s : Nat), (s : Int) + 1 + k = M.pe (0 : Int).toNat → jl_AW l G (jl_F G Kr Kx) m_Md_canonical d 31 [some (.ref (u)), some (.int (zI (M.pe (0 : Int).toNat))), some (.int (zI (sp_lr (M.pe (0 : Int).toNat) (hM M 0) s))), some (.int (zI ((s : Int) + 1)))] [] n h1 0 0 := by
      intro k
      induction k using Nat.strongRecOn with
      | ind k ih =>
        intro s hks
        have hr9 := sp_lr_rg (M.pe (0 : Int).toNat) (hM M 0) s
        obtain ⟨q0z, q1z, q2z, q3z, q4z, q5z, q6z, q7z, q8z, q9z, q10z, q11z, q12z, q13z⟩ := id (hM1)
        have p0z : h1 u = jO 6 [.int (zI (0)), .ref (u + 1), .ref (u + 2), .ref (u + 3), .ref (u + 4), .ref (u + 5), .int (zI (M.jn)), .int (zI (M.ja)), .int (zI (M.jb)), .ref (u + 6), .ref (u + 7), .int (zI (M.nw)), .int (zI (M.bl)), .int (zI (M.lt)), .int (zI (M.rt)), .ref (u + 8), .ref (u + 9), .ref (u + 10), .ref (u + 11), .ref (u + 12), .ref (u + 13)] := q0z
        have p1z : h1 (u + 1) = jI 8 (fun j9 => zI (M.mo j9)) := q1z
        have p2z : h1 (u + 2) = jI 8 (fun j9 => zI (M.pe j9)) := q2z
        have p3z : h1 (u + 3) = jI 128 (fun j9 => zI (M.co j9)) := q3z
        have p4z : h1 (u + 4) = jI 384 (fun j9 => zI (M.he j9)) := q4z
        have p5z : h1 (u + 5) = jZ 128 (fun j9 => zI (M.cr j9)) := q5z
        have p6z : h1 (u + 6) = jI 16 (fun j9 => zI (M.wy j9)) := q6z
        have p7z : h1 (u + 7) = jI 512 (fun j9 => zI (M.fa j9)) := q7z
        have p8z : h1 (u + 8) = jI 32 (fun j9 => zI (M.la j9)) := q8z
        have p9z : h1 (u + 9) = jI 32 (fun j9 => zI (M.ha j9)) := q9z
        have p10z : h1 (u + 10) = jI 4096 (fun j9 => zI (M.w1 j9)) := q10z
        have p11z : h1 (u + 11) = jI 4096 (fun j9 => zI (M.mr j9)) := q11z
        have p12z : h1 (u + 12) = jI 6 (fun j9 => zI (M.rw j9)) := q12z
        have p13z : h1 (u + 13) = jI 16 (fun j9 => zI (M.tu j9)) := q13z
        refine jl_iload_n d_Md_canonical_31 rfl rfl ?_
        refine jl_iload_n d_Md_canonical_32 rfl rfl ?_
        refine jz_icmp_ge (tgt := 57) d_Md_canonical_33 (by decide) ⟨by omega, by omega⟩ ⟨by omega, by omega⟩ (fun hc => ?_) (fun hc => ?_)
        · have es : s = (M.pe (0 : Int).toNat - 1).toNat := by omega
          refine jl_iconst (v := zI (0)) d_Md_canonical_57 (by decide) ?_
          refine jl_istore_n (L' := [some (.ref (u)), some (.int (zI (M.pe (0 : Int).toNat))), some (.int (zI (sp_lr (M.pe (0 : Int).toNat) (hM M 0) s))), some (.int (zI (0)))]) d_Md_canonical_58 rfl (by decide) rfl ?_
          rw [es]
          refine lp2 (M.pe (0 : Int).toNat).toNat 0 h1 (by omega) ?_ hf1
          rw [tuN_0, rt_0]
          exact hM1
        · refine jl_aload_n d_Md_canonical_36 rfl rfl ?_
          refine jl_iload_n d_Md_canonical_37 rfl rfl ?_
          refine jl_iload_n d_Md_canonical_38 rfl rfl ?_
          refine jl_invV (M' := m_Md_lower) (d' := d - 1) (ck' := 0) (sk' := 0) (na := 2) (as := [.int (zI ((s : Int) + 1)), .int (zI (sp_lr (M.pe (0 : Int).toNat) (hM M 0) s))]) (st := []) d_Md_canonical_39 rfl p0z rfl mw_Md_96 ww_Md_lower sw_Md_lower nw_Md cw_Md_lower rfl rfl rfl (by decide +kernel) (by omega) (Nat.le_of_ble_eq_true rfl) (Nat.le_of_ble_eq_true rfl) ?_
          refine k_M_lower hl9 (by omega) hM1 ok hpe ⟨by omega, by omega⟩ ⟨by omega, by omega⟩ (fun g hg => ?_)
          show jl_AW _ _ _ _ _ 42 [some (.ref (u)), some (.int (zI (M.pe (0 : Int).toNat))), some (.int (zI (sp_lr (M.pe (0 : Int).toNat) (hM M 0) s))), some (.int (zI ((s : Int) + 1)))] [.int (zI (g))] n h1 _ _
          have hg8 := sp_is_rg hg
          refine jz_if_eq (tgt := 49) d_Md_canonical_42 (by decide) ⟨by omega, by omega⟩ (fun q2 => ?_) (fun q2 => ?_)
          · refine jl_iload_n d_Md_canonical_49 rfl rfl ?_
            refine jl_istore_n (L' := [some (.ref (u)), some (.int (zI (M.pe (0 : Int).toNat))), some (.int (zI (sp_lr (M.pe (0 : Int).toNat) (hM M 0) s))), some (.int (zI ((s : Int) + 1)))]) d_Md_canonical_50 rfl (by decide) rfl ?_
            refine jz_iinc (v := ((s + 1 : Nat) : Int) + 1) (L' := [some (.ref (u)), some (.int (zI (M.pe (0 : Int).toNat))), some (.int (zI (sp_lr (M.pe (0 : Int).toNat) (hM M 0) s))), some (.int (zI (((s + 1 : Nat) : Int) + 1)))]) d_Md_canonical_51 rfl (by omega) (by decide) rfl ?_
            refine jl_goto (tgt := 31) d_Md_canonical_54 (by decide) ?_
            have h9 := ih (k - 1) (by omega) (s + 1) (by omega)
            rw [sp_lr, sp_ite_f (by rcases hg with ⟨h8, -⟩ | ⟨-, h8⟩; omega; exact h8)] at h9
            exact h9
          · refine jl_iload_n d_Md_canonical_45 rfl rfl ?_
            refine jl_goto (tgt := 50) d_Md_canonical_46 (by decide) ?_
            refine jl_istore_n (L' := [some (.ref (u)), some (.int (zI (M.pe (0 : Int).toNat))), some (.int (zI ((s : Int) + 1))), some (.int (zI ((s : Int) + 1)))]) d_Md_canonical_50 rfl (by decide) rfl ?_
            refine jz_iinc (v := ((s + 1 : Nat) : Int) + 1) (L' := [some (.ref (u)), some (.int (zI (M.pe (0 : Int).toNat))), some (.int (zI ((s : Int) + 1))), some (.int (zI (((s + 1 : Nat) : Int) + 1)))]) d_Md_canonical_51 rfl (by omega) (by decide) rfl ?_
            refine jl_goto (tgt := 31) d_Md_canonical_54 (by decide) ?_
            have h9 := ih (k - 1) (by omega) (s + 1) (by omega)
            rw [sp_lr, sp_ite_t (by rcases hg with ⟨-, h8⟩ | ⟨h8, -⟩; exact h8; omega)] at h9
            exact h9
    exact lp1 (M.pe (0 : Int).toNat - 1).toNat 0 (by omega)
  · refine jl_aload_n d_Md_canonical_14 rfl rfl ?_
    refine jl_iconst (v := zI (1)) d_Md_canonical_15 (by decide) ?_
    refine jl_invV (M' := m_Md_fail) (d' := d - 1) (ck' := 0) (sk' := 0) (na := 1) (as := [.int (zI (1))]) (st := []) d_Md_canonical_16 rfl p0a rfl mw_Md_65 ww_Md_fail sw_Md_fail nw_Md cw_Md_fail rfl rfl rfl (by decide +kernel) (by omega) (Nat.le_of_ble_eq_true rfl) (Nat.le_of_ble_eq_true rfl) ?_
    refine k_M_fail hl9 (by omega) hM1 (fun h2 hM2 hf2 => ?_)
    show jl_AW _ _ _ _ _ 19 [some (.ref (u)), none, none, none] [.int (zI (0))] n h2 _ _
    exact jl_iret d_Md_canonical_19 rfl (hk1 q1 h2 hM2 (jfr_tr hf1 hf2))
