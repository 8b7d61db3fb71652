set_option maxHeartbeats 4000000 in
set_option maxRecDepth 100000 in
theorem k_M_countValid {l : Launch} {G : jl_G} {d n : Nat} {h : Nat → va_E} {Kr : Option Value → Nat → (Nat → va_E) → Prop} {Kx : String → Nat → (Nat → va_E) → Prop} (hl9 : l.stackTraces = false) (hdd : 1 ≤ d) {u : Nat} {M : MS} {a b : Int} (hM9 : jM h u M) (ha : zR a) (hb : zR b) (hk0 : (1 ≤ a ∧ a ≤ 6) ∧ (0 ≤ b ∧ b ≤ 9) → ∀ (w1 mr : Nat → Int) h', jM h' u (((M.wT 0).ww1 (w1)).wmr (mr)) → jfr h h' u (u + 14) → Kr (some (.int (zI (wyS a.toNat a.toNat (64 * (2 ^ a.toNat - 1) + b.toNat * a.toNat))))) n h') (hk1 : ¬ ((1 ≤ a ∧ a ≤ 6) ∧ (0 ≤ b ∧ b ≤ 9)) → ∀ h', jM h' u (M.wT 1) → jfr h h' u (u + 14) → Kr (some (.int (zI (0)))) n h') : jl_Call l G m_Md_countValid d [.ref (u), .int (zI (a)), .int (zI (b))] n h 0 0 Kr Kx := by
  refine jl_enter hl9 (by decide) rfl (by simp [Value.category]) (Nat.le_of_ble_eq_true rfl) ?_
  show jl_AW l G (jl_F G Kr Kx) m_Md_countValid d 0 [some (.ref (u)), some (.int (zI (a))), some (.int (zI (b))), none, none, none, none] [] n h 0 0
  obtain ⟨q0, q1, q2, q3, q4, q5, q6, q7, q8, q9, q10, q11, q12, q13⟩ := id (hM9)
  have p0 : h u = jO 6 [.int (zI (M.T)), .ref (u + 1), .ref (u + 2), .ref (u + 3), .ref (u + 4), .ref (u + 5), .int (zI (M.jn)), .int (zI (M.ja)), .int (zI (M.jb)), .ref (u + 6), .ref (u + 7), .int (zI (M.nw)), .int (zI (M.bl)), .int (zI (M.lt)), .int (zI (M.rt)), .ref (u + 8), .ref (u + 9), .ref (u + 10), .ref (u + 11), .ref (u + 12), .ref (u + 13)] := q0
  have p1 : h (u + 1) = jI 8 (fun j9 => zI (M.mo j9)) := q1
  have p2 : h (u + 2) = jI 8 (fun j9 => zI (M.pe j9)) := q2
  have p3 : h (u + 3) = jI 128 (fun j9 => zI (M.co j9)) := q3
  have p4 : h (u + 4) = jI 384 (fun j9 => zI (M.he j9)) := q4
  have p5 : h (u + 5) = jZ 128 (fun j9 => zI (M.cr j9)) := q5
  have p6 : h (u + 6) = jI 16 (fun j9 => zI (M.wy j9)) := q6
  have p7 : h (u + 7) = jI 512 (fun j9 => zI (M.fa j9)) := q7
  have p8 : h (u + 8) = jI 32 (fun j9 => zI (M.la j9)) := q8
  have p9 : h (u + 9) = jI 32 (fun j9 => zI (M.ha j9)) := q9
  have p10 : h (u + 10) = jI 4096 (fun j9 => zI (M.w1 j9)) := q10
  have p11 : h (u + 11) = jI 4096 (fun j9 => zI (M.mr j9)) := q11
  have p12 : h (u + 12) = jI 6 (fun j9 => zI (M.rw j9)) := q12
  have p13 : h (u + 13) = jI 16 (fun j9 => zI (M.tu j9)) := q13
  refine jl_aload_n d_Md_countValid_0 rfl rfl ?_
  refine jl_iconst (v := zI (0)) d_Md_countValid_1 (by decide) ?_
  refine jp_6 (q := 0) (ty := .int) d_Md_countValid_2 p0 (by simp) (by decide) fw_Md_58 rfl (by decide +kernel) (fun _ _ => rfl) (fun _ _ => rfl) (fun h1 eh1 => ?_)
  have eh1 : h1 = va_up h (u) (jO 6 [.int (zI (0)), .ref (u + 1), .ref (u + 2), .ref (u + 3), .ref (u + 4), .ref (u + 5), .int (zI (M.jn)), .int (zI (M.ja)), .int (zI (M.jb)), .ref (u + 6), .ref (u + 7), .int (zI (M.nw)), .int (zI (M.bl)), .int (zI (M.lt)), .int (zI (M.rt)), .ref (u + 8), .ref (u + 9), .ref (u + 10), .ref (u + 11), .ref (u + 12), .ref (u + 13)]) := eh1
  have jf2 : h1 (u) = jO 6 [.int (zI (0)), .ref (u + 1), .ref (u + 2), .ref (u + 3), .ref (u + 4), .ref (u + 5), .int (zI (M.jn)), .int (zI (M.ja)), .int (zI (M.jb)), .ref (u + 6), .ref (u + 7), .int (zI (M.nw)), .int (zI (M.bl)), .int (zI (M.lt)), .int (zI (M.rt)), .ref (u + 8), .ref (u + 9), .ref (u + 10), .ref (u + 11), .ref (u + 12), .ref (u + 13)] := by rw [eh1, va_up_self]
  have jf3 : h1 (u + 1) = jI 8 (fun j9 => zI (M.mo j9)) := by rw [eh1, va_up_ne _ _ (by omega)]; exact p1
  have jf4 : h1 (u + 2) = jI 8 (fun j9 => zI (M.pe j9)) := by rw [eh1, va_up_ne _ _ (by omega)]; exact p2
  have jf5 : h1 (u + 3) = jI 128 (fun j9 => zI (M.co j9)) := by rw [eh1, va_up_ne _ _ (by omega)]; exact p3
  have jf6 : h1 (u + 4) = jI 384 (fun j9 => zI (M.he j9)) := by rw [eh1, va_up_ne _ _ (by omega)]; exact p4
  have jf7 : h1 (u + 5) = jZ 128 (fun j9 => zI (M.cr j9)) := by rw [eh1, va_up_ne _ _ (by omega)]; exact p5
  have jf8 : h1 (u + 6) = jI 16 (fun j9 => zI (M.wy j9)) := by rw [eh1, va_up_ne _ _ (by omega)]; exact p6
  have jf9 : h1 (u + 7) = jI 512 (fun j9 => zI (M.fa j9)) := by rw [eh1, va_up_ne _ _ (by omega)]; exact p7
  have jf10 : h1 (u + 8) = jI 32 (fun j9 => zI (M.la j9)) := by rw [eh1, va_up_ne _ _ (by omega)]; exact p8
  have jf11 : h1 (u + 9) = jI 32 (fun j9 => zI (M.ha j9)) := by rw [eh1, va_up_ne _ _ (by omega)]; exact p9
  have jf12 : h1 (u + 10) = jI 4096 (fun j9 => zI (M.w1 j9)) := by rw [eh1, va_up_ne _ _ (by omega)]; exact p10
  have jf13 : h1 (u + 11) = jI 4096 (fun j9 => zI (M.mr j9)) := by rw [eh1, va_up_ne _ _ (by omega)]; exact p11
  have jf14 : h1 (u + 12) = jI 6 (fun j9 => zI (M.rw j9)) := by rw [eh1, va_up_ne _ _ (by omega)]; exact p12
  have jf15 : h1 (u + 13) = jI 16 (fun j9 => zI (M.tu j9)) := by rw [eh1, va_up_ne _ _ (by omega)]; exact p13
  have hM1 : jM h1 u (M.wT 0) := ⟨jf2, jf3, jf4, jf5, jf6, jf7, jf8, jf9, jf10, jf11, jf12, jf13, jf14, jf15⟩
  have hf1 : jfr h h1 u (u + 14) := (fun y hy => by rw [eh1, va_up_ne _ _ (by omega)])
  obtain ⟨q0a, q1a, q2a, q3a, q4a, q5a, q6a, q7a, q8a, q9a, q10a, q11a, q12a, q13a⟩ := id (hM1)
  have p0a : h1 u = jO 6 [.int (zI (0)), .ref (u + 1), .ref (u + 2), .ref (u + 3), .ref (u + 4), .ref (u + 5), .int (zI (M.jn)), .int (zI (M.ja)), .int (zI (M.jb)), .ref (u + 6), .ref (u + 7), .int (zI (M.nw)), .int (zI (M.bl)), .int (zI (M.lt)), .int (zI (M.rt)), .ref (u + 8), .ref (u + 9), .ref (u + 10), .ref (u + 11), .ref (u + 12), .ref (u + 13)] := q0a
  have p1a : h1 (u + 1) = jI 8 (fun j9 => zI (M.mo j9)) := q1a
  have p2a : h1 (u + 2) = jI 8 (fun j9 => zI (M.pe j9)) := q2a
  have p3a : h1 (u + 3) = jI 128 (fun j9 => zI (M.co j9)) := q3a
  have p4a : h1 (u + 4) = jI 384 (fun j9 => zI (M.he j9)) := q4a
  have p5a : h1 (u + 5) = jZ 128 (fun j9 => zI (M.cr j9)) := q5a
  have p6a : h1 (u + 6) = jI 16 (fun j9 => zI (M.wy j9)) := q6a
  have p7a : h1 (u + 7) = jI 512 (fun j9 => zI (M.fa j9)) := q7a
  have p8a : h1 (u + 8) = jI 32 (fun j9 => zI (M.la j9)) := q8a
  have p9a : h1 (u + 9) = jI 32 (fun j9 => zI (M.ha j9)) := q9a
  have p10a : h1 (u + 10) = jI 4096 (fun j9 => zI (M.w1 j9)) := q10a
  have p11a : h1 (u + 11) = jI 4096 (fun j9 => zI (M.mr j9)) := q11a
  have p12a : h1 (u + 12) = jI 6 (fun j9 => zI (M.rw j9)) := q12a
  have p13a : h1 (u + 13) = jI 16 (fun j9 => zI (M.tu j9)) := q13a
  refine jl_iload_n d_Md_countValid_5 rfl rfl ?_
  refine jl_iconst (v := zI (1)) d_Md_countValid_6 (by decide) ?_
  refine jl_bipush (v := zI (6)) d_Md_countValid_7 (by decide) ?_
  refine jl_invS (M' := m_Md_within) (d' := d - 1) (ck' := 0) (sk' := 0) (na := 3) (as := [.int (zI (a)), .int (zI (1)), .int (zI (6))]) (st := []) d_Md_countValid_9 rfl mw_Md_61 ww_Md_within nw_Md cw_Md_within rfl rfl rfl (by decide +kernel) (by omega) (Nat.le_of_ble_eq_true rfl) (Nat.le_of_ble_eq_true rfl) ?_
  refine k_M_within hl9 (by omega) ha ⟨by decide, by decide⟩ ⟨by decide, by decide⟩ (fun i1 => ?_) (fun i1 => ?_)
  · show jl_AW _ _ _ _ _ 12 [some (.ref (u)), some (.int (zI (a))), some (.int (zI (b))), none, none, none, none] [.int (zI (1))] n h1 _ _
    refine jz_if_eq (tgt := 25) d_Md_countValid_12 (by decide) ⟨by decide, by decide⟩ (fun q9 => absurd q9 (by decide)) (fun _ => ?_)
    refine jl_iload_n d_Md_countValid_15 rfl rfl ?_
    refine jl_iconst (v := zI (0)) d_Md_countValid_16 (by decide) ?_
    refine jl_bipush (v := zI (9)) d_Md_countValid_17 (by decide) ?_
    refine jl_invS (M' := m_Md_within) (d' := d - 1) (ck' := 0) (sk' := 0) (na := 3) (as := [.int (zI (b)), .int (zI (0)), .int (zI (9))]) (st := []) d_Md_countValid_19 rfl mw_Md_61 ww_Md_within nw_Md cw_Md_within rfl rfl rfl (by decide +kernel) (by omega) (Nat.le_of_ble_eq_true rfl) (Nat.le_of_ble_eq_true rfl) ?_
    refine k_M_within hl9 (by omega) hb ⟨by decide, by decide⟩ ⟨by decide, by decide⟩ (fun i2 => ?_) (fun i2 => ?_)
    · show jl_AW _ _ _ _ _ 22 [some (.ref (u)), some (.int (zI (a))), some (.int (zI (b))), none, none, none, none] [.int (zI (1))] n h1 _ _
      refine jz_if_ne (tgt := 31) d_Md_countValid_22 (by decide) ⟨by decide, by decide⟩ (fun _ => ?_) (fun q9 => absurd q9 (by decide))
      obtain ⟨P, eP⟩ : ∃ P : Nat, a = (P : Int) := ⟨a.toNat, by omega⟩
      subst eP
      have hP : 1 ≤ P ∧ P ≤ 6 := by omega
      have lps : ∀ (k : Nat) (s : Nat) (w1 mr : Nat → Int) (h2 : Nat → va_E), (s : Int) + k = (P : Int) → (∀ j, j < 4096 → w1 j = wyS P s j) → jM h2 u (((M.wT 0).ww1 (w1)).wmr (mr)) → jfr h h2 u (u + 14) → jl_AW l G (jl_F G Kr Kx) m_Md_countValid d 62 [some (.ref (u)), some (.int (zI ((P : Int)))), some (.int (zI (b))), some (.int (zI ((s : Int)))), none, none, none] [] n h2 0 0 := by
        intro k
        induction k using Nat.strongRecOn with
        | ind k ih =>
          intro s w1 mr h2 hks hW hM2 hf2
          have lpc : (s : Int) < (P : Int) → ∀ mr : Nat → Int, (∀ j, j < 4096 → mr j = mrE P s (wyS P s) 4096 0 j) → ∀ (k2 : Nat) (k9 : Nat) (h3 : Nat → va_E), k9 + k2 = 4096 → jM h3 u (((M.wT 0).ww1 (jcpy k9 mr w1)).wmr (mr)) → jfr h h3 u (u + 14) → jl_AW l G (jl_F G Kr Kx) m_Md_countValid d 198 [some (.ref (u)), some (.int (zI ((P : Int)))), some (.int (zI (b))), some (.int (zI ((s : Int)))), some (.int (zI ((k9 : Int)))), none, none] [] n h3 0 0 := by
            intro hsP mr hmr k2
            induction k2 using Nat.strongRecOn with
            | ind k2 ih2 =>
              intro k9 h3 hkk hM3 hf3
              obtain ⟨q0y, q1y, q2y, q3y, q4y, q5y, q6y, q7y, q8y, q9y, q10y, q11y, q12y, q13y⟩ := id (hM3)
              have p0y : h3 u = jO 6 [.int (zI (0)), .ref (u + 1), .ref (u + 2), .ref (u + 3), .ref (u + 4), .ref (u + 5), .int (zI (M.jn)), .int (zI (M.ja)), .int (zI (M.jb)), .ref (u + 6), .ref (u + 7), .int (zI (M.nw)), .int (zI (M.bl)), .int (zI (M.lt)), .int (zI (M.rt)), .ref (u + 8), .ref (u + 9), .ref (u + 10), .ref (u + 11), .ref (u + 12), .ref (u + 13)] := q0y
              have p1y : h3 (u + 1) = jI 8 (fun j9 => zI (M.mo j9)) := q1y
              have p2y : h3 (u + 2) = jI 8 (fun j9 => zI (M.pe j9)) := q2y
              have p3y : h3 (u + 3) = jI 128 (fun j9 => zI (M.co j9)) := q3y
              have p4y : h3 (u + 4) = jI 384 (fun j9 => zI (M.he j9)) := q4y
              have p5y : h3 (u + 5) = jZ 128 (fun j9 => zI (M.cr j9)) := q5y
              have p6y : h3 (u + 6) = jI 16 (fun j9 => zI (M.wy j9)) := q6y
              have p7y : h3 (u + 7) = jI 512 (fun j9 => zI (M.fa j9)) := q7y
              have p8y : h3 (u + 8) = jI 32 (fun j9 => zI (M.la j9)) := q8y
              have p9y : h3 (u + 9) = jI 32 (fun j9 => zI (M.ha j9)) := q9y
              have p10y : h3 (u + 10) = jI 4096 (fun j9 => zI ((jcpy k9 mr w1) j9)) := q10y
              have p11y : h3 (u + 11) = jI 4096 (fun j9 => zI (mr j9)) := q11y
              have p12y : h3 (u + 12) = jI 6 (fun j9 => zI (M.rw j9)) := q12y
              have p13y : h3 (u + 13) = jI 16 (fun j9 => zI (M.tu j9)) := q13y
              refine jl_iload d_Md_countValid_198 rfl ?_
              refine jl_sipush (v := zI (4096)) d_Md_countValid_200 (by decide) ?_
              refine jz_icmp_ge (tgt := 226) d_Md_countValid_203 (by decide) ⟨by omega, by omega⟩ ⟨by omega, by omega⟩ (fun hc => ?_) (fun hc => ?_)
              · have ek : k9 = 4096 := by omega
                rw [ek] at hM3
                refine jz_iinc (v := ((s + 1 : Nat) : Int)) (L' := [some (.ref (u)), some (.int (zI ((P : Int)))), some (.int (zI (b))), some (.int (zI (((s + 1 : Nat) : Int)))), some (.int (zI ((k9 : Int)))), none, none]) d_Md_countValid_226 rfl (by omega) (by decide) rfl ?_
                refine jl_goto (tgt := 62) d_Md_countValid_229 (by decide) ?_
                refine jl_less (L' := [some (.ref (u)), some (.int (zI ((P : Int)))), some (.int (zI (b))), some (.int (zI (((s + 1 : Nat) : Int)))), none, none, none]) ⟨rfl, rfl, rfl, rfl, trivial⟩ ?_
                refine ih (k - 1) (by omega) (s + 1) _ mr h3 (by omega) (fun j hj => ?_) hM3 hf3
                unfold jcpy
                rw [if_pos hj, hmr j hj, mrE_end hj]
                rfl
              · refine jl_aload_n d_Md_countValid_206 rfl rfl ?_
                refine jg_6 (q := 17) d_Md_countValid_207 p0y rfl (by decide) fw_Md_42 ?_
                refine jl_iload d_Md_countValid_210 rfl ?_
                refine jl_aload_n d_Md_countValid_212 rfl rfl ?_
                refine jg_6 (q := 18) d_Md_countValid_213 p0y rfl (by decide) fw_Md_45 ?_
                refine jl_iload d_Md_countValid_216 rfl ?_
                refine jz_iald d_Md_countValid_218 p11y (by omega) (by omega) (by omega) ?_
                rw [Int.toNat_natCast]
                refine jz_iasth d_Md_countValid_219 p10y (by omega) (by omega) (by omega) (fun h16 eh16 => ?_)
                have jf17 : h16 (u + 10) = jI 4096 (fun j9 => zI ((va_up ((jcpy k9 mr w1)) ((k9 : Int)).toNat (mr k9)) j9)) := by rw [eh16, va_up_self]
                refine jz_iinc (v := ((k9 + 1 : Nat) : Int)) (L' := [some (.ref (u)), some (.int (zI ((P : Int)))), some (.int (zI (b))), some (.int (zI ((s : Int)))), some (.int (zI (((k9 + 1 : Nat) : Int)))), none, none]) d_Md_countValid_220 rfl (by omega) (by decide) rfl ?_
                refine jl_goto (tgt := 198) d_Md_countValid_223 (by decide) ?_
                have jf18 : h16 (u) = jO 6 [.int (zI (0)), .ref (u + 1), .ref (u + 2), .ref (u + 3), .ref (u + 4), .ref (u + 5), .int (zI (M.jn)), .int (zI (M.ja)), .int (zI (M.jb)), .ref (u + 6), .ref (u + 7), .int (zI (M.nw)), .int (zI (M.bl)), .int (zI (M.lt)), .int (zI (M.rt)), .ref (u + 8), .ref (u + 9), .ref (u + 10), .ref (u + 11), .ref (u + 12), .ref (u + 13)] := by rw [eh16, va_up_ne _ _ (by omega)]; exact p0y
                have jf19 : h16 (u + 1) = jI 8 (fun j9 => zI (M.mo j9)) := by rw [eh16, va_up_ne _ _ (by omega)]; exact p1y
                have jf20 : h16 (u + 2) = jI 8 (fun j9 => zI (M.pe j9)) := by rw [eh16, va_up_ne _ _ (by omega)]; exact p2y
                have jf21 : h16 (u + 3) = jI 128 (fun j9 => zI (M.co j9)) := by rw [eh16, va_up_ne _ _ (by omega)]; exact p3y
                have jf22 : h16 (u + 4) = jI 384 (fun j9 => zI (M.he j9)) := by rw [eh16, va_up_ne _ _ (by omega)]; exact p4y
                have jf23 : h16 (u + 5) = jZ 128 (fun j9 => zI (M.cr j9)) := by rw [eh16, va_up_ne _ _ (by omega)]; exact p5y
                have jf24 : h16 (u + 6) = jI 16 (fun j9 => zI (M.wy j9)) := by rw [eh16, va_up_ne _ _ (by omega)]; exact p6y
                have jf25 : h16 (u + 7) = jI 512 (fun j9 => zI (M.fa j9)) := by rw [eh16, va_up_ne _ _ (by omega)]; exact p7y
                have jf26 : h16 (u + 8) = jI 32 (fun j9 => zI (M.la j9)) := by rw [eh16, va_up_ne _ _ (by omega)]; exact p8y
                have jf27 : h16 (u + 9) = jI 32 (fun j9 => zI (M.ha j9)) := by rw [eh16, va_up_ne _ _ (by omega)]; exact p9y
                have jf28 : h16 (u + 11) = jI 4096 (fun j9 => zI (mr j9)) := by rw [eh16, va_up_ne _ _ (by omega)]; exact p11y
                have jf29 : h16 (u + 12) = jI 6 (fun j9 => zI (M.rw j9)) := by rw [eh16, va_up_ne _ _ (by omega)]; exact p12y
                have jf30 : h16 (u + 13) = jI 16 (fun j9 => zI (M.tu j9)) := by rw [eh16, va_up_ne _ _ (by omega)]; exact p13y
                rw [Int.toNat_natCast, jcpy_s] at jf17
                exact ih2 (k2 - 1) (by omega) (k9 + 1) h16 (by omega) ⟨jf18, jf19, jf20, jf21, jf22, jf23, jf24, jf25, jf26, jf27, jf17, jf28, jf29, jf30⟩ (fun y hy => by rw [eh16, va_up_ne _ _ (by omega)]; exact hf3 y hy)
          have lpk : (s : Int) < (P : Int) → ∀ (kk : Nat) (k9 : Nat) (mr : Nat → Int) (h3 : Nat → va_E), k9 + kk = 4096 → (∀ j, j < 4096 → mr j = mrE P s (wyS P s) k9 0 j) → jM h3 u (((M.wT 0).ww1 (w1)).wmr (mr)) → jfr h h3 u (u + 14) → jl_AW l G (jl_F G Kr Kx) m_Md_countValid d 95 [some (.ref (u)), some (.int (zI ((P : Int)))), some (.int (zI (b))), some (.int (zI ((s : Int)))), some (.int (zI ((k9 : Int)))), none, none] [] n h3 0 0 := by
            intro hsP kk
            induction kk using Nat.strongRecOn with
            | ind kk ihk =>
              intro k9 mr h3 hkk hmr hM3 hf3
              have lph : k9 < 4096 → ∀ (kh : Nat) (hh : Nat) (mr : Nat → Int) (h3 : Nat → va_E), hh + kh = 10 → (∀ j, j < 4096 → mr j = mrE P s (wyS P s) k9 hh j) → jM h3 u (((M.wT 0).ww1 (w1)).wmr (mr)) → jfr h h3 u (u + 14) → jl_AW l G (jl_F G Kr Kx) m_Md_countValid d 106 [some (.ref (u)), some (.int (zI ((P : Int)))), some (.int (zI (b))), some (.int (zI ((s : Int)))), some (.int (zI ((k9 : Int)))), some (.int (zI ((hh : Int)))), none] [] n h3 0 0 := by
                intro hk9 kh
                induction kh using Nat.strongRecOn with
                | ind kh ihh =>
                  intro hh mr h3 hkh hmr hM3 hf3
                  have hwb := wyS_bd P s k9
                  have hw10 : (10 : Int) ^ s ≤ 10 ^ 6 := by have := Nat.pow_le_pow_right (show 0 < 10 by decide) (show s ≤ 6 by omega); exact_mod_cast this
                  have hwe := hW k9 hk9
                  obtain ⟨q0y, q1y, q2y, q3y, q4y, q5y, q6y, q7y, q8y, q9y, q10y, q11y, q12y, q13y⟩ := id (hM3)
                  have p0y : h3 u = jO 6 [.int (zI (0)), .ref (u + 1), .ref (u + 2), .ref (u + 3), .ref (u + 4), .ref (u + 5), .int (zI (M.jn)), .int (zI (M.ja)), .int (zI (M.jb)), .ref (u + 6), .ref (u + 7), .int (zI (M.nw)), .int (zI (M.bl)), .int (zI (M.lt)), .int (zI (M.rt)), .ref (u + 8), .ref (u + 9), .ref (u + 10), .ref (u + 11), .ref (u + 12), .ref (u + 13)] := q0y
                  have p1y : h3 (u + 1) = jI 8 (fun j9 => zI (M.mo j9)) := q1y
                  have p2y : h3 (u + 2) = jI 8 (fun j9 => zI (M.pe j9)) := q2y
                  have p3y : h3 (u + 3) = jI 128 (fun j9 => zI (M.co j9)) := q3y
                  have p4y : h3 (u + 4) = jI 384 (fun j9 => zI (M.he j9)) := q4y
                  have p5y : h3 (u + 5) = jZ 128 (fun j9 => zI (M.cr j9)) := q5y
                  have p6y : h3 (u + 6) = jI 16 (fun j9 => zI (M.wy j9)) := q6y
                  have p7y : h3 (u + 7) = jI 512 (fun j9 => zI (M.fa j9)) := q7y
                  have p8y : h3 (u + 8) = jI 32 (fun j9 => zI (M.la j9)) := q8y
                  have p9y : h3 (u + 9) = jI 32 (fun j9 => zI (M.ha j9)) := q9y
                  have p10y : h3 (u + 10) = jI 4096 (fun j9 => zI (w1 j9)) := q10y
                  have p11y : h3 (u + 11) = jI 4096 (fun j9 => zI (mr j9)) := q11y
                  have p12y : h3 (u + 12) = jI 6 (fun j9 => zI (M.rw j9)) := q12y
                  have p13y : h3 (u + 13) = jI 16 (fun j9 => zI (M.tu j9)) := q13y
                  refine jl_iload d_Md_countValid_106 rfl ?_
                  refine jl_bipush (v := zI (9)) d_Md_countValid_108 (by decide) ?_
                  refine jz_icmp_gt (tgt := 189) d_Md_countValid_110 (by decide) ⟨by omega, by omega⟩ ⟨by omega, by omega⟩ (fun hc => ?_) (fun hc => ?_)
                  · have eh : hh = 10 := by omega
                    refine jz_iinc (v := ((k9 + 1 : Nat) : Int)) (L' := [some (.ref (u)), some (.int (zI ((P : Int)))), some (.int (zI (b))), some (.int (zI ((s : Int)))), some (.int (zI (((k9 + 1 : Nat) : Int)))), some (.int (zI ((hh : Int)))), none]) d_Md_countValid_189 rfl (by omega) (by decide) rfl ?_
                    refine jl_goto (tgt := 95) d_Md_countValid_192 (by decide) ?_
                    refine jl_less (L' := [some (.ref (u)), some (.int (zI ((P : Int)))), some (.int (zI (b))), some (.int (zI ((s : Int)))), some (.int (zI (((k9 + 1 : Nat) : Int)))), none, none]) ⟨rfl, rfl, rfl, rfl, rfl, trivial⟩ ?_
                    exact ihk (kk - 1) (by omega) (k9 + 1) mr h3 (by omega) (fun j hj => by rw [hmr j hj, eh, mrE_next]) hM3 hf3
                  · refine jl_aload_n d_Md_countValid_113 rfl rfl ?_
                    refine jg_6 (q := 17) d_Md_countValid_114 p0y rfl (by decide) fw_Md_42 ?_
                    refine jl_iload d_Md_countValid_117 rfl ?_
                    refine jz_iald d_Md_countValid_119 p10y (by omega) (by omega) (by omega) ?_
                    rw [Int.toNat_natCast, hwe]
                    refine jz_if_le (tgt := 189) d_Md_countValid_120 (by decide) ⟨by omega, by omega⟩ (fun q1 => ?_) (fun q1 => ?_)
                    · refine jz_iinc (v := ((k9 + 1 : Nat) : Int)) (L' := [some (.ref (u)), some (.int (zI ((P : Int)))), some (.int (zI (b))), some (.int (zI ((s : Int)))), some (.int (zI (((k9 + 1 : Nat) : Int)))), some (.int (zI ((hh : Int)))), none]) d_Md_countValid_189 rfl (by omega) (by decide) rfl ?_
                      refine jl_goto (tgt := 95) d_Md_countValid_192 (by decide) ?_
                      refine jl_less (L' := [some (.ref (u)), some (.int (zI ((P : Int)))), some (.int (zI (b))), some (.int (zI ((s : Int)))), some (.int (zI (((k9 + 1 : Nat) : Int)))), none, none]) ⟨rfl, rfl, rfl, rfl, rfl, trivial⟩ ?_
                      exact ihk (kk - 1) (by omega) (k9 + 1) mr h3 (by omega) (fun j hj => by rw [hmr j hj, mrE_skip (by omega), mrE_next]) hM3 hf3
                    · have hk6 : (s + hh) % P < 6 := Nat.lt_of_lt_of_le (Nat.mod_lt _ (by omega)) hP.2
                      have e8 := bg_2 ((s + hh) % P) (by omega)
                      have e7 := bg_3 (k9 / 64) (by omega) ((s + hh) % P) (by omega)
                      have hpw : 2 ^ ((s + hh) % P) ≤ 2 ^ 5 := Nat.pow_le_pow_right (by decide) (by omega)
                      refine jl_iconst (v := zI (1)) d_Md_countValid_123 (by decide) ?_
                      refine jl_iload_n d_Md_countValid_124 rfl rfl ?_
                      refine jl_iload d_Md_countValid_125 rfl ?_
                      refine jz_iadd (v := ((s + hh : Nat) : Int)) d_Md_countValid_127 (by omega) ?_
                      refine jl_iload_n d_Md_countValid_128 rfl rfl ?_
                      refine jz_irem (v := (((s + hh) % P : Nat) : Int)) d_Md_countValid_129 ⟨by omega, by omega⟩ ⟨by omega, by omega⟩ (by omega) (by rw [Int.tmod_eq_emod_of_nonneg (by omega)]; rfl) ?_
                      refine jl_ishl d_Md_countValid_130 (jz_int e8 ?_)
                      refine jl_istore (L' := [some (.ref (u)), some (.int (zI ((P : Int)))), some (.int (zI (b))), some (.int (zI ((s : Int)))), some (.int (zI ((k9 : Int)))), some (.int (zI ((hh : Int)))), some (.int (zI (((2 ^ ((s + hh) % P) : Nat) : Int))))]) d_Md_countValid_131 (by decide) rfl ?_
                      refine jl_iload d_Md_countValid_133 rfl ?_
                      refine jl_bipush (v := zI (64)) d_Md_countValid_135 (by decide) ?_
                      refine jz_idiv (v := ((k9 / 64 : Nat) : Int)) d_Md_countValid_137 ⟨by omega, by omega⟩ ⟨by decide, by decide⟩ (by decide) (by rw [Int.tdiv_eq_ediv_of_nonneg (by omega)]; rfl) ?_
                      refine jl_iload d_Md_countValid_138 rfl ?_
                      refine jl_iand d_Md_countValid_140 (jz_int e7 ?_)
                      have hand : k9 / 64 &&& 2 ^ ((s + hh) % P) ≤ k9 / 64 := Nat.and_le_left
                      refine jz_if_ne (tgt := 183) d_Md_countValid_141 (by decide) ⟨by omega, by omega⟩ (fun q2 => ?_) (fun q2 => ?_)
                      · refine jz_iinc (v := ((hh + 1 : Nat) : Int)) (L' := [some (.ref (u)), some (.int (zI ((P : Int)))), some (.int (zI (b))), some (.int (zI ((s : Int)))), some (.int (zI ((k9 : Int)))), some (.int (zI (((hh + 1 : Nat) : Int)))), some (.int (zI (((2 ^ ((s + hh) % P) : Nat) : Int))))]) d_Md_countValid_183 rfl (by omega) (by decide) rfl ?_
                        refine jl_goto (tgt := 106) d_Md_countValid_186 (by decide) ?_
                        refine jl_less (L' := [some (.ref (u)), some (.int (zI ((P : Int)))), some (.int (zI (b))), some (.int (zI ((s : Int)))), some (.int (zI ((k9 : Int)))), some (.int (zI (((hh + 1 : Nat) : Int)))), none]) ⟨rfl, rfl, rfl, rfl, rfl, rfl, trivial⟩ ?_
                        exact ihh (kh - 1) (by omega) (hh + 1) mr h3 (by omega) (fun j hj => by rw [hmr j hj, mrE_bar hP (fun q => q2 (by omega)) j hj]) hM3 hf3
                      · refine jl_iload d_Md_countValid_144 rfl ?_
                        refine jl_bipush (v := zI (64)) d_Md_countValid_146 (by decide) ?_
                        refine jz_irem (v := ((k9 % 64 : Nat) : Int)) d_Md_countValid_148 ⟨by omega, by omega⟩ ⟨by decide, by decide⟩ (by decide) (by rw [Int.tmod_eq_emod_of_nonneg (by omega)]; rfl) ?_
                        refine jl_iload d_Md_countValid_149 rfl ?_
                        refine jz_iadd (v := (((k9 % 64 : Nat) : Int)) + ((hh : Int))) d_Md_countValid_151 rfl ?_
                        refine jl_bipush (v := zI (64)) d_Md_countValid_152 (by decide) ?_
                        refine jz_icmp_ge (tgt := 183) d_Md_countValid_154 (by decide) ⟨by omega, by omega⟩ ⟨by omega, by omega⟩ (fun q3 => ?_) (fun q3 => ?_)
                        · refine jz_iinc (v := ((hh + 1 : Nat) : Int)) (L' := [some (.ref (u)), some (.int (zI ((P : Int)))), some (.int (zI (b))), some (.int (zI ((s : Int)))), some (.int (zI ((k9 : Int)))), some (.int (zI (((hh + 1 : Nat) : Int)))), some (.int (zI (((2 ^ ((s + hh) % P) : Nat) : Int))))]) d_Md_countValid_183 rfl (by omega) (by decide) rfl ?_
                          refine jl_goto (tgt := 106) d_Md_countValid_186 (by decide) ?_
                          refine jl_less (L' := [some (.ref (u)), some (.int (zI ((P : Int)))), some (.int (zI (b))), some (.int (zI ((s : Int)))), some (.int (zI ((k9 : Int)))), some (.int (zI (((hh + 1 : Nat) : Int)))), none]) ⟨rfl, rfl, rfl, rfl, rfl, rfl, trivial⟩ ?_
                          exact ihh (kh - 1) (by omega) (hh + 1) mr h3 (by omega) (fun j hj => by rw [hmr j hj, mrE_bar hP (fun q => by omega) j hj]) hM3 hf3
                        · have hf9 : (k9 / 64 &&& 2 ^ ((s + hh) % P)) = 0 := by omega
                          have hhit := mrE_hit (W := wyS P s) (s := s) (k := k9) (hh := hh) hP hk9 (by omega) hf9 (by omega)
                          have hlt := (hhit 0 (by decide)).1
                          refine jl_aload_n d_Md_countValid_157 rfl rfl ?_
                          refine jg_6 (q := 18) d_Md_countValid_158 p0y rfl (by decide) fw_Md_45 ?_
                          refine jl_iload d_Md_countValid_161 rfl ?_
                          refine jl_bipush (v := zI (64)) d_Md_countValid_163 (by decide) ?_
                          refine jl_iload d_Md_countValid_165 rfl ?_
                          refine jz_imul (v := ((64 * 2 ^ ((s + hh) % P) : Nat) : Int)) d_Md_countValid_167 (by omega) ?_
                          refine jz_iadd (v := ((k9 + 64 * 2 ^ ((s + hh) % P) : Nat) : Int)) d_Md_countValid_168 (by omega) ?_
                          refine jl_iload d_Md_countValid_169 rfl ?_
                          refine jz_iadd (v := ((k9 + 64 * 2 ^ ((s + hh) % P) + hh : Nat) : Int)) d_Md_countValid_171 (by omega) ?_
                          refine jl_dup2 d_Md_countValid_172 rfl rfl ?_
                          refine jz_iald d_Md_countValid_173 p11y (by omega) (by omega) (by omega) ?_
                          refine jl_aload_n d_Md_countValid_174 rfl rfl ?_
                          refine jg_6 (q := 17) d_Md_countValid_175 p0y rfl (by decide) fw_Md_42 ?_
                          refine jl_iload d_Md_countValid_178 rfl ?_
                          refine jz_iald d_Md_countValid_180 p10y (by omega) (by omega) (by omega) ?_
                          refine jz_iadd (v := (mr (((k9 + 64 * 2 ^ ((s + hh) % P) + hh : Nat) : Int)).toNat) + (w1 ((k9 : Int)).toNat)) d_Md_countValid_181 rfl ?_
                          refine jz_iasth d_Md_countValid_182 p11y (by omega) (by omega) (by omega) (fun h16 eh16 => ?_)
                          have jf17 : h16 (u + 11) = jI 4096 (fun j9 => zI ((va_up mr (((k9 + 64 * 2 ^ ((s + hh) % P) + hh : Nat) : Int)).toNat ((mr (((k9 + 64 * 2 ^ ((s + hh) % P) + hh : Nat) : Int)).toNat) + (w1 ((k9 : Int)).toNat))) j9)) := by rw [eh16, va_up_self]
                          have jf18 : h16 (u) = jO 6 [.int (zI (0)), .ref (u + 1), .ref (u + 2), .ref (u + 3), .ref (u + 4), .ref (u + 5), .int (zI (M.jn)), .int (zI (M.ja)), .int (zI (M.jb)), .ref (u + 6), .ref (u + 7), .int (zI (M.nw)), .int (zI (M.bl)), .int (zI (M.lt)), .int (zI (M.rt)), .ref (u + 8), .ref (u + 9), .ref (u + 10), .ref (u + 11), .ref (u + 12), .ref (u + 13)] := by rw [eh16, va_up_ne _ _ (by omega)]; exact p0y
                          have jf19 : h16 (u + 1) = jI 8 (fun j9 => zI (M.mo j9)) := by rw [eh16, va_up_ne _ _ (by omega)]; exact p1y
                          have jf20 : h16 (u + 2) = jI 8 (fun j9 => zI (M.pe j9)) := by rw [eh16, va_up_ne _ _ (by omega)]; exact p2y
                          have jf21 : h16 (u + 3) = jI 128 (fun j9 => zI (M.co j9)) := by rw [eh16, va_up_ne _ _ (by omega)]; exact p3y
                          have jf22 : h16 (u + 4) = jI 384 (fun j9 => zI (M.he j9)) := by rw [eh16, va_up_ne _ _ (by omega)]; exact p4y
                          have jf23 : h16 (u + 5) = jZ 128 (fun j9 => zI (M.cr j9)) := by rw [eh16, va_up_ne _ _ (by omega)]; exact p5y
                          have jf24 : h16 (u + 6) = jI 16 (fun j9 => zI (M.wy j9)) := by rw [eh16, va_up_ne _ _ (by omega)]; exact p6y
                          have jf25 : h16 (u + 7) = jI 512 (fun j9 => zI (M.fa j9)) := by rw [eh16, va_up_ne _ _ (by omega)]; exact p7y
                          have jf26 : h16 (u + 8) = jI 32 (fun j9 => zI (M.la j9)) := by rw [eh16, va_up_ne _ _ (by omega)]; exact p8y
                          have jf27 : h16 (u + 9) = jI 32 (fun j9 => zI (M.ha j9)) := by rw [eh16, va_up_ne _ _ (by omega)]; exact p9y
                          have jf28 : h16 (u + 10) = jI 4096 (fun j9 => zI (w1 j9)) := by rw [eh16, va_up_ne _ _ (by omega)]; exact p10y
                          have jf29 : h16 (u + 12) = jI 6 (fun j9 => zI (M.rw j9)) := by rw [eh16, va_up_ne _ _ (by omega)]; exact p12y
                          have jf30 : h16 (u + 13) = jI 16 (fun j9 => zI (M.tu j9)) := by rw [eh16, va_up_ne _ _ (by omega)]; exact p13y
                          have hnew : ∀ j, j < 4096 → (va_up mr (((k9 + 64 * 2 ^ ((s + hh) % P) + hh : Nat) : Int)).toNat ((mr (((k9 + 64 * 2 ^ ((s + hh) % P) + hh : Nat) : Int)).toNat) + (w1 ((k9 : Int)).toNat))) j = mrE P s (wyS P s) k9 (hh + 1) j := by
                            intro j hj
                            rw [Int.toNat_natCast, Int.toNat_natCast, (hhit j hj).2]
                            by_cases e9 : j = k9 + 64 * 2 ^ ((s + hh) % P) + hh
                            · rw [if_pos e9, e9, va_up_self, hmr _ hlt, hwe]
                            · rw [if_neg e9, va_up_ne _ _ e9, hmr j hj]
                          refine jz_iinc (v := ((hh + 1 : Nat) : Int)) (L' := [some (.ref (u)), some (.int (zI ((P : Int)))), some (.int (zI (b))), some (.int (zI ((s : Int)))), some (.int (zI ((k9 : Int)))), some (.int (zI (((hh + 1 : Nat) : Int)))), some (.int (zI (((2 ^ ((s + hh) % P) : Nat) : Int))))]) d_Md_countValid_183 rfl (by omega) (by decide) rfl ?_
                          refine jl_goto (tgt := 106) d_Md_countValid_186 (by decide) ?_
                          refine jl_less (L' := [some (.ref (u)), some (.int (zI ((P : Int)))), some (.int (zI (b))), some (.int (zI ((s : Int)))), some (.int (zI ((k9 : Int)))), some (.int (zI (((hh + 1 : Nat) : Int)))), none]) ⟨rfl, rfl, rfl, rfl, rfl, rfl, trivial⟩ ?_
                          exact ihh (kh - 1) (by omega) (hh + 1) (va_up mr (((k9 + 64 * 2 ^ ((s + hh) % P) + hh : Nat) : Int)).toNat ((mr (((k9 + 64 * 2 ^ ((s + hh) % P) + hh : Nat) : Int)).toNat) + (w1 ((k9 : Int)).toNat))) h16 (by omega) (fun j hj => hnew j hj) ⟨jf18, jf19, jf20, jf21, jf22, jf23, jf24, jf25, jf26, jf27, jf28, jf17, jf29, jf30⟩ (fun y hy => by rw [eh16, va_up_ne _ _ (by omega)]; exact hf3 y hy)
              refine jl_iload d_Md_countValid_95 rfl ?_
              refine jl_sipush (v := zI (4096)) d_Md_countValid_97 (by decide) ?_
              refine jz_icmp_ge (tgt := 195) d_Md_countValid_100 (by decide) ⟨by omega, by omega⟩ ⟨by omega, by omega⟩ (fun hc => ?_) (fun hc => ?_)
              · have ek : k9 = 4096 := by omega
                refine jl_iconst (v := zI (0)) d_Md_countValid_195 (by decide) ?_
                refine jl_istore (L' := [some (.ref (u)), some (.int (zI ((P : Int)))), some (.int (zI (b))), some (.int (zI ((s : Int)))), some (.int (zI (0))), none, none]) d_Md_countValid_196 (by decide) rfl ?_
                exact lpc hsP mr (fun j hj => by rw [hmr j hj, ek]) 4096 0 h3 (by omega) (by rw [jcpy_0]; exact hM3) hf3
              · refine jl_iconst (v := zI (0)) d_Md_countValid_103 (by decide) ?_
                refine jl_istore (L' := [some (.ref (u)), some (.int (zI ((P : Int)))), some (.int (zI (b))), some (.int (zI ((s : Int)))), some (.int (zI ((k9 : Int)))), some (.int (zI (0))), none]) d_Md_countValid_104 (by decide) rfl ?_
                exact lph (by omega) 10 0 mr h3 (by omega) hmr hM3 hf3
          have lpf : ∀ (k2 : Nat) (k9 : Nat) (h3 : Nat → va_E), k9 + k2 = 4096 → (s : Int) < (P : Int) → jM h3 u (((M.wT 0).ww1 (w1)).wmr (jfill k9 0 mr)) → jfr h h3 u (u + 14) → jl_AW l G (jl_F G Kr Kx) m_Md_countValid d 70 [some (.ref (u)), some (.int (zI ((P : Int)))), some (.int (zI (b))), some (.int (zI ((s : Int)))), some (.int (zI ((k9 : Int)))), none, none] [] n h3 0 0 := by
            intro k2
            induction k2 using Nat.strongRecOn with
            | ind k2 ih2 =>
              intro k9 h3 hkk hsP hM3 hf3
              obtain ⟨q0y, q1y, q2y, q3y, q4y, q5y, q6y, q7y, q8y, q9y, q10y, q11y, q12y, q13y⟩ := id (hM3)
              have p0y : h3 u = jO 6 [.int (zI (0)), .ref (u + 1), .ref (u + 2), .ref (u + 3), .ref (u + 4), .ref (u + 5), .int (zI (M.jn)), .int (zI (M.ja)), .int (zI (M.jb)), .ref (u + 6), .ref (u + 7), .int (zI (M.nw)), .int (zI (M.bl)), .int (zI (M.lt)), .int (zI (M.rt)), .ref (u + 8), .ref (u + 9), .ref (u + 10), .ref (u + 11), .ref (u + 12), .ref (u + 13)] := q0y
              have p1y : h3 (u + 1) = jI 8 (fun j9 => zI (M.mo j9)) := q1y
              have p2y : h3 (u + 2) = jI 8 (fun j9 => zI (M.pe j9)) := q2y
              have p3y : h3 (u + 3) = jI 128 (fun j9 => zI (M.co j9)) := q3y
              have p4y : h3 (u + 4) = jI 384 (fun j9 => zI (M.he j9)) := q4y
              have p5y : h3 (u + 5) = jZ 128 (fun j9 => zI (M.cr j9)) := q5y
              have p6y : h3 (u + 6) = jI 16 (fun j9 => zI (M.wy j9)) := q6y
              have p7y : h3 (u + 7) = jI 512 (fun j9 => zI (M.fa j9)) := q7y
              have p8y : h3 (u + 8) = jI 32 (fun j9 => zI (M.la j9)) := q8y
              have p9y : h3 (u + 9) = jI 32 (fun j9 => zI (M.ha j9)) := q9y
              have p10y : h3 (u + 10) = jI 4096 (fun j9 => zI (w1 j9)) := q10y
              have p11y : h3 (u + 11) = jI 4096 (fun j9 => zI ((jfill k9 0 mr) j9)) := q11y
              have p12y : h3 (u + 12) = jI 6 (fun j9 => zI (M.rw j9)) := q12y
              have p13y : h3 (u + 13) = jI 16 (fun j9 => zI (M.tu j9)) := q13y
              refine jl_iload d_Md_countValid_70 rfl ?_
              refine jl_sipush (v := zI (4096)) d_Md_countValid_72 (by decide) ?_
              refine jz_icmp_ge (tgt := 92) d_Md_countValid_75 (by decide) ⟨by omega, by omega⟩ ⟨by omega, by omega⟩ (fun hc => ?_) (fun hc => ?_)
              · have ek : k9 = 4096 := by omega
                rw [ek] at hM3
                refine jl_iconst (v := zI (0)) d_Md_countValid_92 (by decide) ?_
                refine jl_istore (L' := [some (.ref (u)), some (.int (zI ((P : Int)))), some (.int (zI (b))), some (.int (zI ((s : Int)))), some (.int (zI (0))), none, none]) d_Md_countValid_93 (by decide) rfl ?_
                refine lpk hsP 4096 0 _ h3 (by omega) (fun j hj => ?_) hM3 hf3
                rw [mrE_0]
                unfold jfill
                rw [if_pos hj]
              · refine jl_aload_n d_Md_countValid_78 rfl rfl ?_
                refine jg_6 (q := 18) d_Md_countValid_79 p0y rfl (by decide) fw_Md_45 ?_
                refine jl_iload d_Md_countValid_82 rfl ?_
                refine jl_iconst (v := zI (0)) d_Md_countValid_84 (by decide) ?_
                refine jz_iasth d_Md_countValid_85 p11y (by omega) (by omega) (by omega) (fun h16 eh16 => ?_)
                have jf17 : h16 (u + 11) = jI 4096 (fun j9 => zI ((va_up ((jfill k9 0 mr)) ((k9 : Int)).toNat (0)) j9)) := by rw [eh16, va_up_self]
                refine jz_iinc (v := ((k9 + 1 : Nat) : Int)) (L' := [some (.ref (u)), some (.int (zI ((P : Int)))), some (.int (zI (b))), some (.int (zI ((s : Int)))), some (.int (zI (((k9 + 1 : Nat) : Int)))), none, none]) d_Md_countValid_86 rfl (by omega) (by decide) rfl ?_
                refine jl_goto (tgt := 70) d_Md_countValid_89 (by decide) ?_
                have jf18 : h16 (u) = jO 6 [.int (zI (0)), .ref (u + 1), .ref (u + 2), .ref (u + 3), .ref (u + 4), .ref (u + 5), .int (zI (M.jn)), .int (zI (M.ja)), .int (zI (M.jb)), .ref (u + 6), .ref (u + 7), .int (zI (M.nw)), .int (zI (M.bl)), .int (zI (M.lt)), .int (zI (M.rt)), .ref (u + 8), .ref (u + 9), .ref (u + 10), .ref (u + 11), .ref (u + 12), .ref (u + 13)] := by rw [eh16, va_up_ne _ _ (by omega)]; exact p0y
                have jf19 : h16 (u + 1) = jI 8 (fun j9 => zI (M.mo j9)) := by rw [eh16, va_up_ne _ _ (by omega)]; exact p1y
                have jf20 : h16 (u + 2) = jI 8 (fun j9 => zI (M.pe j9)) := by rw [eh16, va_up_ne _ _ (by omega)]; exact p2y
                have jf21 : h16 (u + 3) = jI 128 (fun j9 => zI (M.co j9)) := by rw [eh16, va_up_ne _ _ (by omega)]; exact p3y
                have jf22 : h16 (u + 4) = jI 384 (fun j9 => zI (M.he j9)) := by rw [eh16, va_up_ne _ _ (by omega)]; exact p4y
                have jf23 : h16 (u + 5) = jZ 128 (fun j9 => zI (M.cr j9)) := by rw [eh16, va_up_ne _ _ (by omega)]; exact p5y
                have jf24 : h16 (u + 6) = jI 16 (fun j9 => zI (M.wy j9)) := by rw [eh16, va_up_ne _ _ (by omega)]; exact p6y
                have jf25 : h16 (u + 7) = jI 512 (fun j9 => zI (M.fa j9)) := by rw [eh16, va_up_ne _ _ (by omega)]; exact p7y
                have jf26 : h16 (u + 8) = jI 32 (fun j9 => zI (M.la j9)) := by rw [eh16, va_up_ne _ _ (by omega)]; exact p8y
                have jf27 : h16 (u + 9) = jI 32 (fun j9 => zI (M.ha j9)) := by rw [eh16, va_up_ne _ _ (by omega)]; exact p9y
                have jf28 : h16 (u + 10) = jI 4096 (fun j9 => zI (w1 j9)) := by rw [eh16, va_up_ne _ _ (by omega)]; exact p10y
                have jf29 : h16 (u + 12) = jI 6 (fun j9 => zI (M.rw j9)) := by rw [eh16, va_up_ne _ _ (by omega)]; exact p12y
                have jf30 : h16 (u + 13) = jI 16 (fun j9 => zI (M.tu j9)) := by rw [eh16, va_up_ne _ _ (by omega)]; exact p13y
                rw [Int.toNat_natCast, jfill_s] at jf17
                exact ih2 (k2 - 1) (by omega) (k9 + 1) h16 (by omega) hsP ⟨jf18, jf19, jf20, jf21, jf22, jf23, jf24, jf25, jf26, jf27, jf28, jf17, jf29, jf30⟩ (fun y hy => by rw [eh16, va_up_ne _ _ (by omega)]; exact hf3 y hy)
          obtain ⟨q0z, q1z, q2z, q3z, q4z, q5z, q6z, q7z, q8z, q9z, q10z, q11z, q12z, q13z⟩ := id (hM2)
          have p0z : h2 u = jO 6 [.int (zI (0)), .ref (u + 1), .ref (u + 2), .ref (u + 3), .ref (u + 4), .ref (u + 5), .int (zI (M.jn)), .int (zI (M.ja)), .int (zI (M.jb)), .ref (u + 6), .ref (u + 7), .int (zI (M.nw)), .int (zI (M.bl)), .int (zI (M.lt)), .int (zI (M.rt)), .ref (u + 8), .ref (u + 9), .ref (u + 10), .ref (u + 11), .ref (u + 12), .ref (u + 13)] := q0z
          have p1z : h2 (u + 1) = jI 8 (fun j9 => zI (M.mo j9)) := q1z
          have p2z : h2 (u + 2) = jI 8 (fun j9 => zI (M.pe j9)) := q2z
          have p3z : h2 (u + 3) = jI 128 (fun j9 => zI (M.co j9)) := q3z
          have p4z : h2 (u + 4) = jI 384 (fun j9 => zI (M.he j9)) := q4z
          have p5z : h2 (u + 5) = jZ 128 (fun j9 => zI (M.cr j9)) := q5z
          have p6z : h2 (u + 6) = jI 16 (fun j9 => zI (M.wy j9)) := q6z
          have p7z : h2 (u + 7) = jI 512 (fun j9 => zI (M.fa j9)) := q7z
          have p8z : h2 (u + 8) = jI 32 (fun j9 => zI (M.la j9)) := q8z
          have p9z : h2 (u + 9) = jI 32 (fun j9 => zI (M.ha j9)) := q9z
          have p10z : h2 (u + 10) = jI 4096 (fun j9 => zI (w1 j9)) := q10z
          have p11z : h2 (u + 11) = jI 4096 (fun j9 => zI (mr j9)) := q11z
          have p12z : h2 (u + 12) = jI 6 (fun j9 => zI (M.rw j9)) := q12z
          have p13z : h2 (u + 13) = jI 16 (fun j9 => zI (M.tu j9)) := q13z
          refine jl_iload_n d_Md_countValid_62 rfl rfl ?_
          refine jl_iload_n d_Md_countValid_63 rfl rfl ?_
          refine jz_icmp_ge (tgt := 232) d_Md_countValid_64 (by decide) ⟨by omega, by omega⟩ ⟨by omega, by omega⟩ (fun hc => ?_) (fun hc => ?_)
          · have es : s = P := by omega
            rw [es] at hW
            have hp7 : 2 ^ P ≤ 2 ^ 6 := Nat.pow_le_pow_right (by decide) hP.2
            have hp8 := Nat.two_pow_pos P
            have e8 := bg_2 P (by omega)
            have hbP : b.toNat * P ≤ 9 * 6 := Nat.mul_le_mul (by omega) hP.2
            have hbe : b * (P : Int) = ((b.toNat * P : Nat) : Int) := by rw [Int.natCast_mul, show ((b.toNat : Nat) : Int) = b by omega]
            refine jl_aload_n d_Md_countValid_232 rfl rfl ?_
            refine jg_6 (q := 17) d_Md_countValid_233 p0z rfl (by decide) fw_Md_42 ?_
            refine jl_bipush (v := zI (64)) d_Md_countValid_236 (by decide) ?_
            refine jl_iconst (v := zI (1)) d_Md_countValid_238 (by decide) ?_
            refine jl_iload_n d_Md_countValid_239 rfl rfl ?_
            refine jl_ishl d_Md_countValid_240 (jz_int e8 ?_)
            refine jl_iconst (v := zI (1)) d_Md_countValid_241 (by decide) ?_
            refine jz_isub (v := ((2 ^ P - 1 : Nat) : Int)) d_Md_countValid_242 (by omega) ?_
            refine jz_imul (v := ((64 * (2 ^ P - 1) : Nat) : Int)) d_Md_countValid_243 (by omega) ?_
            refine jl_iload_n d_Md_countValid_244 rfl rfl ?_
            refine jl_iload_n d_Md_countValid_245 rfl rfl ?_
            refine jz_imul (v := ((b.toNat * P : Nat) : Int)) d_Md_countValid_246 hbe ?_
            refine jz_iadd (v := ((64 * (2 ^ P - 1) + b.toNat * P : Nat) : Int)) d_Md_countValid_247 (by omega) ?_
            refine jz_iald d_Md_countValid_248 p10z (by omega) (by omega) (by omega) ?_
            rw [Int.toNat_natCast, hW _ (by omega)]
            exact jl_iret d_Md_countValid_249 rfl (hk0 ⟨i1, i2⟩ w1 mr h2 hM2 hf2)
          · refine jl_iconst (v := zI (0)) d_Md_countValid_67 (by decide) ?_
            refine jl_istore (L' := [some (.ref (u)), some (.int (zI ((P : Int)))), some (.int (zI (b))), some (.int (zI ((s : Int)))), some (.int (zI (0))), none, none]) d_Md_countValid_68 (by decide) rfl ?_
            exact lpf 4096 0 h2 (by omega) (by omega) (by rw [jfill_0]; exact hM2) hf2
      have lp0 : ∀ (k : Nat) (k9 : Nat) (h2 : Nat → va_E), k9 + k = 4096 → jM h2 u ((M.wT 0).ww1 (jfill k9 0 M.w1)) → jfr h h2 u (u + 14) → jl_AW l G (jl_F G Kr Kx) m_Md_countValid d 33 [some (.ref (u)), some (.int (zI ((P : Int)))), some (.int (zI (b))), some (.int (zI ((k9 : Int)))), none, none, none] [] n h2 0 0 := by
        intro k
        induction k using Nat.strongRecOn with
        | ind k ih =>
          intro k9 h2 hkk hM2 hf2
          obtain ⟨q0z, q1z, q2z, q3z, q4z, q5z, q6z, q7z, q8z, q9z, q10z, q11z, q12z, q13z⟩ := id (hM2)
          have p0z : h2 u = jO 6 [.int (zI (0)), .ref (u + 1), .ref (u + 2), .ref (u + 3), .ref (u + 4), .ref (u + 5), .int (zI (M.jn)), .int (zI (M.ja)), .int (zI (M.jb)), .ref (u + 6), .ref (u + 7), .int (zI (M.nw)), .int (zI (M.bl)), .int (zI (M.lt)), .int (zI (M.rt)), .ref (u + 8), .ref (u + 9), .ref (u + 10), .ref (u + 11), .ref (u + 12), .ref (u + 13)] := q0z
          have p1z : h2 (u + 1) = jI 8 (fun j9 => zI (M.mo j9)) := q1z
          have p2z : h2 (u + 2) = jI 8 (fun j9 => zI (M.pe j9)) := q2z
          have p3z : h2 (u + 3) = jI 128 (fun j9 => zI (M.co j9)) := q3z
          have p4z : h2 (u + 4) = jI 384 (fun j9 => zI (M.he j9)) := q4z
          have p5z : h2 (u + 5) = jZ 128 (fun j9 => zI (M.cr j9)) := q5z
          have p6z : h2 (u + 6) = jI 16 (fun j9 => zI (M.wy j9)) := q6z
          have p7z : h2 (u + 7) = jI 512 (fun j9 => zI (M.fa j9)) := q7z
          have p8z : h2 (u + 8) = jI 32 (fun j9 => zI (M.la j9)) := q8z
          have p9z : h2 (u + 9) = jI 32 (fun j9 => zI (M.ha j9)) := q9z
          have p10z : h2 (u + 10) = jI 4096 (fun j9 => zI ((jfill k9 0 M.w1) j9)) := q10z
          have p11z : h2 (u + 11) = jI 4096 (fun j9 => zI (M.mr j9)) := q11z
          have p12z : h2 (u + 12) = jI 6 (fun j9 => zI (M.rw j9)) := q12z
          have p13z : h2 (u + 13) = jI 16 (fun j9 => zI (M.tu j9)) := q13z
          refine jl_iload_n d_Md_countValid_33 rfl rfl ?_
          refine jl_sipush (v := zI (4096)) d_Md_countValid_34 (by decide) ?_
          refine jz_icmp_ge (tgt := 53) d_Md_countValid_37 (by decide) ⟨by omega, by omega⟩ ⟨by omega, by omega⟩ (fun hc => ?_) (fun hc => ?_)
          · have ek : k9 = 4096 := by omega
            refine jl_less (L' := [some (.ref (u)), some (.int (zI ((P : Int)))), some (.int (zI (b))), none, none, none, none]) ⟨rfl, rfl, rfl, trivial⟩ ?_
            refine jl_aload_n d_Md_countValid_53 rfl rfl ?_
            refine jg_6 (q := 17) d_Md_countValid_54 p0z rfl (by decide) fw_Md_42 ?_
            refine jl_iconst (v := zI (0)) d_Md_countValid_57 (by decide) ?_
            refine jl_iconst (v := zI (1)) d_Md_countValid_58 (by decide) ?_
            refine jz_iasth d_Md_countValid_59 p10z (by omega) (by omega) (by omega) (fun h16 eh16 => ?_)
            have jf17 : h16 (u + 10) = jI 4096 (fun j9 => zI ((va_up ((jfill k9 0 M.w1)) (0 : Int).toNat (1)) j9)) := by rw [eh16, va_up_self]
            refine jl_iconst (v := zI (0)) d_Md_countValid_60 (by decide) ?_
            refine jl_istore_n (L' := [some (.ref (u)), some (.int (zI ((P : Int)))), some (.int (zI (b))), some (.int (zI (0))), none, none, none]) d_Md_countValid_61 rfl (by decide) rfl ?_
            have jf18 : h16 (u) = jO 6 [.int (zI (0)), .ref (u + 1), .ref (u + 2), .ref (u + 3), .ref (u + 4), .ref (u + 5), .int (zI (M.jn)), .int (zI (M.ja)), .int (zI (M.jb)), .ref (u + 6), .ref (u + 7), .int (zI (M.nw)), .int (zI (M.bl)), .int (zI (M.lt)), .int (zI (M.rt)), .ref (u + 8), .ref (u + 9), .ref (u + 10), .ref (u + 11), .ref (u + 12), .ref (u + 13)] := by rw [eh16, va_up_ne _ _ (by omega)]; exact p0z
            have jf19 : h16 (u + 1) = jI 8 (fun j9 => zI (M.mo j9)) := by rw [eh16, va_up_ne _ _ (by omega)]; exact p1z
            have jf20 : h16 (u + 2) = jI 8 (fun j9 => zI (M.pe j9)) := by rw [eh16, va_up_ne _ _ (by omega)]; exact p2z
            have jf21 : h16 (u + 3) = jI 128 (fun j9 => zI (M.co j9)) := by rw [eh16, va_up_ne _ _ (by omega)]; exact p3z
            have jf22 : h16 (u + 4) = jI 384 (fun j9 => zI (M.he j9)) := by rw [eh16, va_up_ne _ _ (by omega)]; exact p4z
            have jf23 : h16 (u + 5) = jZ 128 (fun j9 => zI (M.cr j9)) := by rw [eh16, va_up_ne _ _ (by omega)]; exact p5z
            have jf24 : h16 (u + 6) = jI 16 (fun j9 => zI (M.wy j9)) := by rw [eh16, va_up_ne _ _ (by omega)]; exact p6z
            have jf25 : h16 (u + 7) = jI 512 (fun j9 => zI (M.fa j9)) := by rw [eh16, va_up_ne _ _ (by omega)]; exact p7z
            have jf26 : h16 (u + 8) = jI 32 (fun j9 => zI (M.la j9)) := by rw [eh16, va_up_ne _ _ (by omega)]; exact p8z
            have jf27 : h16 (u + 9) = jI 32 (fun j9 => zI (M.ha j9)) := by rw [eh16, va_up_ne _ _ (by omega)]; exact p9z
            have jf28 : h16 (u + 11) = jI 4096 (fun j9 => zI (M.mr j9)) := by rw [eh16, va_up_ne _ _ (by omega)]; exact p11z
            have jf29 : h16 (u + 12) = jI 6 (fun j9 => zI (M.rw j9)) := by rw [eh16, va_up_ne _ _ (by omega)]; exact p12z
            have jf30 : h16 (u + 13) = jI 16 (fun j9 => zI (M.tu j9)) := by rw [eh16, va_up_ne _ _ (by omega)]; exact p13z
            refine lps P 0 (va_up ((jfill k9 0 M.w1)) (0 : Int).toNat (1)) M.mr h16 (by omega) (fun j hj => ?_) ⟨jf18, jf19, jf20, jf21, jf22, jf23, jf24, jf25, jf26, jf27, jf17, jf28, jf29, jf30⟩ (fun y hy => by rw [eh16, va_up_ne _ _ (by omega)]; exact hf2 y hy)
            unfold wyS
            by_cases e9 : j = 0
            · rw [e9, if_pos rfl]; exact va_up_self _ _ _
            · rw [if_neg e9, va_up_ne _ _ (by show ¬ j = 0; exact e9)]; unfold jfill; rw [if_pos (by omega)]
          · refine jl_aload_n d_Md_countValid_40 rfl rfl ?_
            refine jg_6 (q := 17) d_Md_countValid_41 p0z rfl (by decide) fw_Md_42 ?_
            refine jl_iload_n d_Md_countValid_44 rfl rfl ?_
            refine jl_iconst (v := zI (0)) d_Md_countValid_45 (by decide) ?_
            refine jz_iasth d_Md_countValid_46 p10z (by omega) (by omega) (by omega) (fun h16 eh16 => ?_)
            have jf17 : h16 (u + 10) = jI 4096 (fun j9 => zI ((va_up ((jfill k9 0 M.w1)) ((k9 : Int)).toNat (0)) j9)) := by rw [eh16, va_up_self]
            refine jz_iinc (v := ((k9 + 1 : Nat) : Int)) (L' := [some (.ref (u)), some (.int (zI ((P : Int)))), some (.int (zI (b))), some (.int (zI (((k9 + 1 : Nat) : Int)))), none, none, none]) d_Md_countValid_47 rfl (by omega) (by decide) rfl ?_
            refine jl_goto (tgt := 33) d_Md_countValid_50 (by decide) ?_
            have jf18 : h16 (u) = jO 6 [.int (zI (0)), .ref (u + 1), .ref (u + 2), .ref (u + 3), .ref (u + 4), .ref (u + 5), .int (zI (M.jn)), .int (zI (M.ja)), .int (zI (M.jb)), .ref (u + 6), .ref (u + 7), .int (zI (M.nw)), .int (zI (M.bl)), .int (zI (M.lt)), .int (zI (M.rt)), .ref (u + 8), .ref (u + 9), .ref (u + 10), .ref (u + 11), .ref (u + 12), .ref (u + 13)] := by rw [eh16, va_up_ne _ _ (by omega)]; exact p0z
            have jf19 : h16 (u + 1) = jI 8 (fun j9 => zI (M.mo j9)) := by rw [eh16, va_up_ne _ _ (by omega)]; exact p1z
            have jf20 : h16 (u + 2) = jI 8 (fun j9 => zI (M.pe j9)) := by rw [eh16, va_up_ne _ _ (by omega)]; exact p2z
            have jf21 : h16 (u + 3) = jI 128 (fun j9 => zI (M.co j9)) := by rw [eh16, va_up_ne _ _ (by omega)]; exact p3z
            have jf22 : h16 (u + 4) = jI 384 (fun j9 => zI (M.he j9)) := by rw [eh16, va_up_ne _ _ (by omega)]; exact p4z
            have jf23 : h16 (u + 5) = jZ 128 (fun j9 => zI (M.cr j9)) := by rw [eh16, va_up_ne _ _ (by omega)]; exact p5z
            have jf24 : h16 (u + 6) = jI 16 (fun j9 => zI (M.wy j9)) := by rw [eh16, va_up_ne _ _ (by omega)]; exact p6z
            have jf25 : h16 (u + 7) = jI 512 (fun j9 => zI (M.fa j9)) := by rw [eh16, va_up_ne _ _ (by omega)]; exact p7z
            have jf26 : h16 (u + 8) = jI 32 (fun j9 => zI (M.la j9)) := by rw [eh16, va_up_ne _ _ (by omega)]; exact p8z
            have jf27 : h16 (u + 9) = jI 32 (fun j9 => zI (M.ha j9)) := by rw [eh16, va_up_ne _ _ (by omega)]; exact p9z
            have jf28 : h16 (u + 11) = jI 4096 (fun j9 => zI (M.mr j9)) := by rw [eh16, va_up_ne _ _ (by omega)]; exact p11z
            have jf29 : h16 (u + 12) = jI 6 (fun j9 => zI (M.rw j9)) := by rw [eh16, va_up_ne _ _ (by omega)]; exact p12z
            have jf30 : h16 (u + 13) = jI 16 (fun j9 => zI (M.tu j9)) := by rw [eh16, va_up_ne _ _ (by omega)]; exact p13z
            rw [Int.toNat_natCast, jfill_s] at jf17
            exact ih (k - 1) (by omega) (k9 + 1) h16 (by omega) ⟨jf18, jf19, jf20, jf21, jf22, jf23, jf24, jf25, jf26, jf27, jf17, jf28, jf29, jf30⟩ (fun y hy => by rw [eh16, va_up_ne _ _ (by omega)]; exact hf2 y hy)
      refine jl_iconst (v := zI (0)) d_Md_countValid_31 (by decide) ?_
      refine jl_istore_n (L' := [some (.ref (u)), some (.int (zI ((P : Int)))), some (.int (zI (b))), some (.int (zI (0))), none, none, none]) d_Md_countValid_32 rfl (by decide) rfl ?_
      exact lp0 4096 0 h1 (by omega) (by rw [jfill_0]; exact hM1) hf1
    · show jl_AW _ _ _ _ _ 22 [some (.ref (u)), some (.int (zI (a))), some (.int (zI (b))), none, none, none, none] [.int (zI (0))] n h1 _ _
      refine jz_if_ne (tgt := 31) d_Md_countValid_22 (by decide) ⟨by decide, by decide⟩ (fun q9 => absurd q9 (by decide)) (fun _ => ?_)
      refine jl_aload_n d_Md_countValid_25 rfl rfl ?_
      refine jl_iconst (v := zI (1)) d_Md_countValid_26 (by decide) ?_
      refine jl_invV (M' := m_Md_fail) (d' := d - 1) (ck' := 0) (sk' := 0) (na := 1) (as := [.int (zI (1))]) (st := []) d_Md_countValid_27 rfl p0a rfl mw_Md_65 ww_Md_fail sw_Md_fail nw_Md cw_Md_fail rfl rfl rfl (by decide +kernel) (by omega) (Nat.le_of_ble_eq_true rfl) (Nat.le_of_ble_eq_true rfl) ?_
      refine k_M_fail hl9 (by omega) hM1 (fun h2 hM2 hf2 => ?_)
      show jl_AW _ _ _ _ _ 30 [some (.ref (u)), some (.int (zI (a))), some (.int (zI (b))), none, none, none, none] [.int (zI (0))] n h2 _ _
      exact jl_iret d_Md_countValid_30 rfl (hk1 (fun q => i2 q.2) h2 hM2 (jfr_tr hf1 hf2))
  · show jl_AW _ _ _ _ _ 12 [some (.ref (u)), some (.int (zI (a))), some (.int (zI (b))), none, none, none, none] [.int (zI (0))] n h1 _ _
    refine jz_if_eq (tgt := 25) d_Md_countValid_12 (by decide) ⟨by decide, by decide⟩ (fun _ => ?_) (fun q9 => absurd q9 (by decide))
    refine jl_aload_n d_Md_countValid_25 rfl rfl ?_
    refine jl_iconst (v := zI (1)) d_Md_countValid_26 (by decide) ?_
    refine jl_invV (M' := m_Md_fail) (d' := d - 1) (ck' := 0) (sk' := 0) (na := 1) (as := [.int (zI (1))]) (st := []) d_Md_countValid_27 rfl p0a rfl mw_Md_65 ww_Md_fail sw_Md_fail nw_Md cw_Md_fail rfl rfl rfl (by decide +kernel) (by omega) (Nat.le_of_ble_eq_true rfl) (Nat.le_of_ble_eq_true rfl) ?_
    refine k_M_fail hl9 (by omega) hM1 (fun h2 hM2 hf2 => ?_)
    show jl_AW _ _ _ _ _ 30 [some (.ref (u)), some (.int (zI (a))), some (.int (zI (b))), none, none, none, none] [.int (zI (0))] n h2 _ _
    exact jl_iret d_Md_countValid_30 rfl (hk1 (fun q => i1 q.1) h2 hM2 (jfr_tr hf1 hf2))
