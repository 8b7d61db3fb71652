theorem jfr_tr {h h1 h2 : Nat → va_E} {lo hi : Nat} (a : jfr h h1 lo hi) (b : jfr h1 h2 lo hi) : jfr h h2 lo hi := fun y hy => (b y hy).trans (a y hy)
set_option maxHeartbeats 4000000 in
set_option maxRecDepth 100000 in
theorem k_M_fresh {l : Launch} {G : jl_G} {d n : Nat} {h : Nat → va_E} {Kr : Option Value → Nat → (Nat → va_E) → Prop} {Kx : String → Nat → (Nat → va_E) → Prop} (hl9 : l.stackTraces = false) (hdd : 0 ≤ d) {u : Nat} {M : MS} {a b : Int} (hM9 : jM h u M) (hk : ∀ h', jM h' u (frM M a b 16) → jfr h h' u (u + 14) → Kr none n h') : jl_Call l G m_Md_fresh d [.ref (u), .int (zI (0)), .int (zI (a)), .int (zI (b))] n h 0 0 Kr Kx := by
  refine jl_enter hl9 (by decide) rfl (by simp [Value.category]) (Nat.le_of_ble_eq_true rfl) ?_
  show jl_AW l G (jl_F G Kr Kx) m_Md_fresh d 0 [some (.ref (u)), some (.int (zI (0))), some (.int (zI (a))), some (.int (zI (b))), none] [] n h 0 0
  obtain ⟨q0, q1, q2, q3, q4, q5, q6, q7, q8, q9, q10, q11, q12, q13⟩ := id (hM9)
  have p0 : h u = jO 6 [.int (zI (M.T)), .ref (u + 1), .ref (u + 2), .ref (u + 3), .ref (u + 4), .ref (u + 5), .int (zI (M.jn)), .int (zI (M.ja)), .int (zI (M.jb)), .ref (u + 6), .ref (u + 7), .int (zI (M.nw)), .int (zI (M.bl)), .int (zI (M.lt)), .int (zI (M.rt)), .ref (u + 8), .ref (u + 9), .ref (u + 10), .ref (u + 11), .ref (u + 12), .ref (u + 13)] := q0
  have p1 : h (u + 1) = jI 8 (fun j9 => zI (M.mo j9)) := q1
  have p2 : h (u + 2) = jI 8 (fun j9 => zI (M.pe j9)) := q2
  have p3 : h (u + 3) = jI 128 (fun j9 => zI (M.co j9)) := q3
  have p4 : h (u + 4) = jI 384 (fun j9 => zI (M.he j9)) := q4
  have p5 : h (u + 5) = jZ 128 (fun j9 => zI (M.cr j9)) := q5
  have p6 : h (u + 6) = jI 16 (fun j9 => zI (M.wy j9)) := q6
  have p7 : h (u + 7) = jI 512 (fun j9 => zI (M.fa j9)) := q7
  have p8 : h (u + 8) = jI 32 (fun j9 => zI (M.la j9)) := q8
  have p9 : h (u + 9) = jI 32 (fun j9 => zI (M.ha j9)) := q9
  have p10 : h (u + 10) = jI 4096 (fun j9 => zI (M.w1 j9)) := q10
  have p11 : h (u + 11) = jI 4096 (fun j9 => zI (M.mr j9)) := q11
  have p12 : h (u + 12) = jI 6 (fun j9 => zI (M.rw j9)) := q12
  have p13 : h (u + 13) = jI 16 (fun j9 => zI (M.tu j9)) := q13
  refine jl_aload_n d_Md_fresh_0 rfl rfl ?_
  refine jg_6 (q := 1) d_Md_fresh_1 p0 rfl (by decide) fw_Md_7 ?_
  refine jl_iload_n d_Md_fresh_4 rfl rfl ?_
  refine jl_iload_n d_Md_fresh_5 rfl rfl ?_
  refine jz_iasth d_Md_fresh_6 p1 (by omega) (by omega) (by omega) (fun h1 eh1 => ?_)
  have jf2 : h1 (u + 1) = jI 8 (fun j9 => zI ((va_up (M.mo) (0 : Int).toNat (a)) j9)) := by rw [eh1, va_up_self]
  refine jl_aload_n d_Md_fresh_7 rfl rfl ?_
  have jf3 : h1 (u) = jO 6 [.int (zI (M.T)), .ref (u + 1), .ref (u + 2), .ref (u + 3), .ref (u + 4), .ref (u + 5), .int (zI (M.jn)), .int (zI (M.ja)), .int (zI (M.jb)), .ref (u + 6), .ref (u + 7), .int (zI (M.nw)), .int (zI (M.bl)), .int (zI (M.lt)), .int (zI (M.rt)), .ref (u + 8), .ref (u + 9), .ref (u + 10), .ref (u + 11), .ref (u + 12), .ref (u + 13)] := by rw [eh1, va_up_ne _ _ (by omega)]; exact p0
  refine jg_6 (q := 2) d_Md_fresh_8 jf3 rfl (by decide) fw_Md_13 ?_
  refine jl_iload_n d_Md_fresh_11 rfl rfl ?_
  refine jl_iload_n d_Md_fresh_12 rfl rfl ?_
  have jf4 : h1 (u + 2) = jI 8 (fun j9 => zI (M.pe j9)) := by rw [eh1, va_up_ne _ _ (by omega)]; exact p2
  refine jz_iasth d_Md_fresh_13 jf4 (by omega) (by omega) (by omega) (fun h5 eh5 => ?_)
  have jf6 : h5 (u + 2) = jI 8 (fun j9 => zI ((va_up (M.pe) (0 : Int).toNat (b)) j9)) := by rw [eh5, va_up_self]
  refine jl_iconst (v := zI (0)) d_Md_fresh_14 (by decide) ?_
  refine jl_istore (L' := [some (.ref (u)), some (.int (zI (0))), some (.int (zI (a))), some (.int (zI (b))), some (.int (zI (0)))]) d_Md_fresh_15 (by decide) rfl ?_
  have jf7 : h5 (u) = jO 6 [.int (zI (M.T)), .ref (u + 1), .ref (u + 2), .ref (u + 3), .ref (u + 4), .ref (u + 5), .int (zI (M.jn)), .int (zI (M.ja)), .int (zI (M.jb)), .ref (u + 6), .ref (u + 7), .int (zI (M.nw)), .int (zI (M.bl)), .int (zI (M.lt)), .int (zI (M.rt)), .ref (u + 8), .ref (u + 9), .ref (u + 10), .ref (u + 11), .ref (u + 12), .ref (u + 13)] := by rw [eh5, va_up_ne _ _ (by omega)]; exact jf3
  have jf8 : h5 (u + 1) = jI 8 (fun j9 => zI ((va_up (M.mo) (0 : Int).toNat (a)) j9)) := by rw [eh5, va_up_ne _ _ (by omega)]; exact jf2
  have jf9 : h5 (u + 3) = jI 128 (fun j9 => zI (M.co j9)) := by rw [eh5, va_up_ne _ _ (by omega), eh1, va_up_ne _ _ (by omega)]; exact p3
  have jf10 : h5 (u + 4) = jI 384 (fun j9 => zI (M.he j9)) := by rw [eh5, va_up_ne _ _ (by omega), eh1, va_up_ne _ _ (by omega)]; exact p4
  have jf11 : h5 (u + 5) = jZ 128 (fun j9 => zI (M.cr j9)) := by rw [eh5, va_up_ne _ _ (by omega), eh1, va_up_ne _ _ (by omega)]; exact p5
  have jf12 : h5 (u + 6) = jI 16 (fun j9 => zI (M.wy j9)) := by rw [eh5, va_up_ne _ _ (by omega), eh1, va_up_ne _ _ (by omega)]; exact p6
  have jf13 : h5 (u + 7) = jI 512 (fun j9 => zI (M.fa j9)) := by rw [eh5, va_up_ne _ _ (by omega), eh1, va_up_ne _ _ (by omega)]; exact p7
  have jf14 : h5 (u + 8) = jI 32 (fun j9 => zI (M.la j9)) := by rw [eh5, va_up_ne _ _ (by omega), eh1, va_up_ne _ _ (by omega)]; exact p8
  have jf15 : h5 (u + 9) = jI 32 (fun j9 => zI (M.ha j9)) := by rw [eh5, va_up_ne _ _ (by omega), eh1, va_up_ne _ _ (by omega)]; exact p9
  have jf16 : h5 (u + 10) = jI 4096 (fun j9 => zI (M.w1 j9)) := by rw [eh5, va_up_ne _ _ (by omega), eh1, va_up_ne _ _ (by omega)]; exact p10
  have jf17 : h5 (u + 11) = jI 4096 (fun j9 => zI (M.mr j9)) := by rw [eh5, va_up_ne _ _ (by omega), eh1, va_up_ne _ _ (by omega)]; exact p11
  have jf18 : h5 (u + 12) = jI 6 (fun j9 => zI (M.rw j9)) := by rw [eh5, va_up_ne _ _ (by omega), eh1, va_up_ne _ _ (by omega)]; exact p12
  have jf19 : h5 (u + 13) = jI 16 (fun j9 => zI (M.tu j9)) := by rw [eh5, va_up_ne _ _ (by omega), eh1, va_up_ne _ _ (by omega)]; exact p13
  have lp1 : ∀ (k : Nat) (s : Nat) (h2 : Nat → va_E), s + k = 16 → jM h2 u (frM M a b s) → jfr h h2 u (u + 14) → jl_AW l G (jl_F G Kr Kx) m_Md_fresh d 17 [some (.ref (u)), some (.int (zI (0))), some (.int (zI (a))), some (.int (zI (b))), some (.int (zI ((s : Int))))] [] n h2 0 0 := by
    intro k
    induction k using Nat.strongRecOn with
    | ind k ih =>
      intro s h2 hks hM2 hfr
      obtain ⟨q0z, q1z, q2z, q3z, q4z, q5z, q6z, q7z, q8z, q9z, q10z, q11z, q12z, q13z⟩ := id (hM2)
      have p0z : h2 u = jO 6 [.int (zI (M.T)), .ref (u + 1), .ref (u + 2), .ref (u + 3), .ref (u + 4), .ref (u + 5), .int (zI (M.jn)), .int (zI (M.ja)), .int (zI (M.jb)), .ref (u + 6), .ref (u + 7), .int (zI (M.nw)), .int (zI (M.bl)), .int (zI (M.lt)), .int (zI (M.rt)), .ref (u + 8), .ref (u + 9), .ref (u + 10), .ref (u + 11), .ref (u + 12), .ref (u + 13)] := q0z
      have p1z : h2 (u + 1) = jI 8 (fun j9 => zI ((va_up M.mo (0 : Int).toNat (a)) j9)) := q1z
      have p2z : h2 (u + 2) = jI 8 (fun j9 => zI ((va_up M.pe (0 : Int).toNat (b)) j9)) := q2z
      have p3z : h2 (u + 3) = jI 128 (fun j9 => zI ((jfill s 1 M.co) j9)) := q3z
      have p4z : h2 (u + 4) = jI 384 (fun j9 => zI ((frH s M.he) j9)) := q4z
      have p5z : h2 (u + 5) = jZ 128 (fun j9 => zI ((jfill s 0 M.cr) j9)) := q5z
      have p6z : h2 (u + 6) = jI 16 (fun j9 => zI (M.wy j9)) := q6z
      have p7z : h2 (u + 7) = jI 512 (fun j9 => zI (M.fa j9)) := q7z
      have p8z : h2 (u + 8) = jI 32 (fun j9 => zI (M.la j9)) := q8z
      have p9z : h2 (u + 9) = jI 32 (fun j9 => zI (M.ha j9)) := q9z
      have p10z : h2 (u + 10) = jI 4096 (fun j9 => zI (M.w1 j9)) := q10z
      have p11z : h2 (u + 11) = jI 4096 (fun j9 => zI (M.mr j9)) := q11z
      have p12z : h2 (u + 12) = jI 6 (fun j9 => zI (M.rw j9)) := q12z
      have p13z : h2 (u + 13) = jI 16 (fun j9 => zI (M.tu j9)) := q13z
      refine jl_iload d_Md_fresh_17 rfl ?_
      refine jl_bipush (v := zI (16)) d_Md_fresh_19 (by decide) ?_
      refine jz_icmp_ge (tgt := 71) d_Md_fresh_21 (by decide) ⟨by omega, by omega⟩ ⟨by omega, by omega⟩ (fun hc => ?_) (fun hc => ?_)
      · have es : s = 16 := by omega
        subst es
        exact jl_vret d_Md_fresh_71 rfl (hk h2 hM2 hfr)
      · refine jl_aload_n d_Md_fresh_24 rfl rfl ?_
        refine jg_6 (q := 3) d_Md_fresh_25 p0z rfl (by decide) fw_Md_16 ?_
        refine jl_bipush (v := zI (16)) d_Md_fresh_28 (by decide) ?_
        refine jl_iload_n d_Md_fresh_30 rfl rfl ?_
        refine jz_imul (v := 0) d_Md_fresh_31 (by omega) ?_
        refine jl_iload d_Md_fresh_32 rfl ?_
        refine jz_iadd (v := (s : Int)) d_Md_fresh_34 (by omega) ?_
        refine jl_iconst (v := zI (1)) d_Md_fresh_35 (by decide) ?_
        refine jz_iasth d_Md_fresh_36 p3z (by omega) (by omega) (by omega) (fun h20 eh20 => ?_)
        have jf21 : h20 (u + 3) = jI 128 (fun j9 => zI ((va_up ((jfill s 1 M.co)) ((s : Int)).toNat (1)) j9)) := by rw [eh20, va_up_self]
        refine jl_aload_n d_Md_fresh_37 rfl rfl ?_
        have jf22 : h20 (u) = jO 6 [.int (zI (M.T)), .ref (u + 1), .ref (u + 2), .ref (u + 3), .ref (u + 4), .ref (u + 5), .int (zI (M.jn)), .int (zI (M.ja)), .int (zI (M.jb)), .ref (u + 6), .ref (u + 7), .int (zI (M.nw)), .int (zI (M.bl)), .int (zI (M.lt)), .int (zI (M.rt)), .ref (u + 8), .ref (u + 9), .ref (u + 10), .ref (u + 11), .ref (u + 12), .ref (u + 13)] := by rw [eh20, va_up_ne _ _ (by omega)]; exact p0z
        refine jg_6 (q := 5) d_Md_fresh_38 jf22 rfl (by decide) fw_Md_22 ?_
        refine jl_bipush (v := zI (16)) d_Md_fresh_41 (by decide) ?_
        refine jl_iload_n d_Md_fresh_43 rfl rfl ?_
        refine jz_imul (v := 0) d_Md_fresh_44 (by omega) ?_
        refine jl_iload d_Md_fresh_45 rfl ?_
        refine jz_iadd (v := (s : Int)) d_Md_fresh_47 (by omega) ?_
        refine jl_iconst (v := zI (0)) d_Md_fresh_48 (by decide) ?_
        have jf23 : h20 (u + 5) = jZ 128 (fun j9 => zI ((jfill s 0 M.cr) j9)) := by rw [eh20, va_up_ne _ _ (by omega)]; exact p5z
        refine jz_zasth (Or.inl rfl) d_Md_fresh_49 jf23 (by omega) (by omega) (by omega) (fun h24 eh24 => ?_)
        have jf25 : h24 (u + 5) = jZ 128 (fun j9 => zI ((va_up ((jfill s 0 M.cr)) ((s : Int)).toNat (0)) j9)) := by rw [eh24, va_up_self]
        refine jl_aload_n d_Md_fresh_50 rfl rfl ?_
        have jf26 : h24 (u) = jO 6 [.int (zI (M.T)), .ref (u + 1), .ref (u + 2), .ref (u + 3), .ref (u + 4), .ref (u + 5), .int (zI (M.jn)), .int (zI (M.ja)), .int (zI (M.jb)), .ref (u + 6), .ref (u + 7), .int (zI (M.nw)), .int (zI (M.bl)), .int (zI (M.lt)), .int (zI (M.rt)), .ref (u + 8), .ref (u + 9), .ref (u + 10), .ref (u + 11), .ref (u + 12), .ref (u + 13)] := by rw [eh24, va_up_ne _ _ (by omega)]; exact jf22
        refine jg_6 (q := 4) d_Md_fresh_51 jf26 rfl (by decide) fw_Md_19 ?_
        refine jl_iconst (v := zI (3)) d_Md_fresh_54 (by decide) ?_
        refine jl_bipush (v := zI (16)) d_Md_fresh_55 (by decide) ?_
        refine jl_iload_n d_Md_fresh_57 rfl rfl ?_
        refine jz_imul (v := 0) d_Md_fresh_58 (by omega) ?_
        refine jl_iload d_Md_fresh_59 rfl ?_
        refine jz_iadd (v := (s : Int)) d_Md_fresh_61 (by omega) ?_
        refine jz_imul (v := 3 * (s : Int)) d_Md_fresh_62 (by omega) ?_
        refine jl_iconst (v := zI (0)) d_Md_fresh_63 (by decide) ?_
        have jf27 : h24 (u + 4) = jI 384 (fun j9 => zI ((frH s M.he) j9)) := by rw [eh24, va_up_ne _ _ (by omega), eh20, va_up_ne _ _ (by omega)]; exact p4z
        refine jz_iasth d_Md_fresh_64 jf27 (by omega) (by omega) (by omega) (fun h28 eh28 => ?_)
        have jf29 : h28 (u + 4) = jI 384 (fun j9 => zI ((va_up ((frH s M.he)) (3 * (s : Int)).toNat (0)) j9)) := by rw [eh28, va_up_self]
        refine jz_iinc (v := ((s + 1 : Nat) : Int)) (L' := [some (.ref (u)), some (.int (zI (0))), some (.int (zI (a))), some (.int (zI (b))), some (.int (zI (((s + 1 : Nat) : Int))))]) d_Md_fresh_65 rfl (by omega) (by decide) rfl ?_
        refine jl_goto (tgt := 17) d_Md_fresh_68 (by decide) ?_
        have jf30 : h28 (u) = jO 6 [.int (zI (M.T)), .ref (u + 1), .ref (u + 2), .ref (u + 3), .ref (u + 4), .ref (u + 5), .int (zI (M.jn)), .int (zI (M.ja)), .int (zI (M.jb)), .ref (u + 6), .ref (u + 7), .int (zI (M.nw)), .int (zI (M.bl)), .int (zI (M.lt)), .int (zI (M.rt)), .ref (u + 8), .ref (u + 9), .ref (u + 10), .ref (u + 11), .ref (u + 12), .ref (u + 13)] := by rw [eh28, va_up_ne _ _ (by omega)]; exact jf26
        have jf31 : h28 (u + 1) = jI 8 (fun j9 => zI ((va_up M.mo (0 : Int).toNat (a)) j9)) := by rw [eh28, va_up_ne _ _ (by omega), eh24, va_up_ne _ _ (by omega), eh20, va_up_ne _ _ (by omega)]; exact p1z
        have jf32 : h28 (u + 2) = jI 8 (fun j9 => zI ((va_up M.pe (0 : Int).toNat (b)) j9)) := by rw [eh28, va_up_ne _ _ (by omega), eh24, va_up_ne _ _ (by omega), eh20, va_up_ne _ _ (by omega)]; exact p2z
        have jf33 : h28 (u + 3) = jI 128 (fun j9 => zI ((va_up ((jfill s 1 M.co)) ((s : Int)).toNat (1)) j9)) := by rw [eh28, va_up_ne _ _ (by omega), eh24, va_up_ne _ _ (by omega)]; exact jf21
        have jf34 : h28 (u + 5) = jZ 128 (fun j9 => zI ((va_up ((jfill s 0 M.cr)) ((s : Int)).toNat (0)) j9)) := by rw [eh28, va_up_ne _ _ (by omega)]; exact jf25
        have jf35 : h28 (u + 6) = jI 16 (fun j9 => zI (M.wy j9)) := by rw [eh28, va_up_ne _ _ (by omega), eh24, va_up_ne _ _ (by omega), eh20, va_up_ne _ _ (by omega)]; exact p6z
        have jf36 : h28 (u + 7) = jI 512 (fun j9 => zI (M.fa j9)) := by rw [eh28, va_up_ne _ _ (by omega), eh24, va_up_ne _ _ (by omega), eh20, va_up_ne _ _ (by omega)]; exact p7z
        have jf37 : h28 (u + 8) = jI 32 (fun j9 => zI (M.la j9)) := by rw [eh28, va_up_ne _ _ (by omega), eh24, va_up_ne _ _ (by omega), eh20, va_up_ne _ _ (by omega)]; exact p8z
        have jf38 : h28 (u + 9) = jI 32 (fun j9 => zI (M.ha j9)) := by rw [eh28, va_up_ne _ _ (by omega), eh24, va_up_ne _ _ (by omega), eh20, va_up_ne _ _ (by omega)]; exact p9z
        have jf39 : h28 (u + 10) = jI 4096 (fun j9 => zI (M.w1 j9)) := by rw [eh28, va_up_ne _ _ (by omega), eh24, va_up_ne _ _ (by omega), eh20, va_up_ne _ _ (by omega)]; exact p10z
        have jf40 : h28 (u + 11) = jI 4096 (fun j9 => zI (M.mr j9)) := by rw [eh28, va_up_ne _ _ (by omega), eh24, va_up_ne _ _ (by omega), eh20, va_up_ne _ _ (by omega)]; exact p11z
        have jf41 : h28 (u + 12) = jI 6 (fun j9 => zI (M.rw j9)) := by rw [eh28, va_up_ne _ _ (by omega), eh24, va_up_ne _ _ (by omega), eh20, va_up_ne _ _ (by omega)]; exact p12z
        have jf42 : h28 (u + 13) = jI 16 (fun j9 => zI (M.tu j9)) := by rw [eh28, va_up_ne _ _ (by omega), eh24, va_up_ne _ _ (by omega), eh20, va_up_ne _ _ (by omega)]; exact p13z
        rw [Int.toNat_natCast, jfill_s] at jf33
        rw [frH_s] at jf29
        rw [Int.toNat_natCast, jfill_s] at jf34
        exact ih (k - 1) (by omega) (s + 1) h28 (by omega) ⟨jf30, jf31, jf32, jf33, jf29, jf34, jf35, jf36, jf37, jf38, jf39, jf40, jf41, jf42⟩ (fun y hy => by rw [eh28, va_up_ne _ _ (by omega), eh24, va_up_ne _ _ (by omega), eh20, va_up_ne _ _ (by omega)]; exact hfr y hy)
  have hM3 : jM h5 u (frM M a b 0) := by
    unfold frM
    rw [jfill_0, jfill_0, frH_0]
    exact ⟨jf7, jf8, jf6, jf9, jf10, jf11, jf12, jf13, jf14, jf15, jf16, jf17, jf18, jf19⟩
  exact lp1 16 0 h5 (by omega) hM3 (fun y hy => by rw [eh5, va_up_ne _ _ (by omega), eh1, va_up_ne _ _ (by omega)])
set_option maxHeartbeats 4000000 in
set_option maxRecDepth 100000 in
theorem k_M_copy {l : Launch} {G : jl_G} {d n : Nat} {h : Nat → va_E} {Kr : Option Value → Nat → (Nat → va_E) → Prop} {Kx : String → Nat → (Nat → va_E) → Prop} (hl9 : l.stackTraces = false) (hdd : 0 ≤ d) {u : Nat} {M : MS} {a b : Int} (hM9 : jM h u M) (ok : mOk M) (ha : 0 ≤ a ∧ a < 8) (hb : 0 ≤ b ∧ b < 8) (hab : ¬ a = b) (hk : ∀ h', jM h' u (cpM M a b 16 48) → jfr h h' u (u + 14) → Kr none n h') : jl_Call l G m_Md_copy d [.ref (u), .int (zI (a)), .int (zI (b))] n h 0 0 Kr Kx := by
  refine jl_enter hl9 (by decide) rfl (by simp [Value.category]) (Nat.le_of_ble_eq_true rfl) ?_
  show jl_AW l G (jl_F G Kr Kx) m_Md_copy d 0 [some (.ref (u)), some (.int (zI (a))), some (.int (zI (b))), none, none] [] n h 0 0
  obtain ⟨q0, q1, q2, q3, q4, q5, q6, q7, q8, q9, q10, q11, q12, q13⟩ := id (hM9)
  have p0 : h u = jO 6 [.int (zI (M.T)), .ref (u + 1), .ref (u + 2), .ref (u + 3), .ref (u + 4), .ref (u + 5), .int (zI (M.jn)), .int (zI (M.ja)), .int (zI (M.jb)), .ref (u + 6), .ref (u + 7), .int (zI (M.nw)), .int (zI (M.bl)), .int (zI (M.lt)), .int (zI (M.rt)), .ref (u + 8), .ref (u + 9), .ref (u + 10), .ref (u + 11), .ref (u + 12), .ref (u + 13)] := q0
  have p1 : h (u + 1) = jI 8 (fun j9 => zI (M.mo j9)) := q1
  have p2 : h (u + 2) = jI 8 (fun j9 => zI (M.pe j9)) := q2
  have p3 : h (u + 3) = jI 128 (fun j9 => zI (M.co j9)) := q3
  have p4 : h (u + 4) = jI 384 (fun j9 => zI (M.he j9)) := q4
  have p5 : h (u + 5) = jZ 128 (fun j9 => zI (M.cr j9)) := q5
  have p6 : h (u + 6) = jI 16 (fun j9 => zI (M.wy j9)) := q6
  have p7 : h (u + 7) = jI 512 (fun j9 => zI (M.fa j9)) := q7
  have p8 : h (u + 8) = jI 32 (fun j9 => zI (M.la j9)) := q8
  have p9 : h (u + 9) = jI 32 (fun j9 => zI (M.ha j9)) := q9
  have p10 : h (u + 10) = jI 4096 (fun j9 => zI (M.w1 j9)) := q10
  have p11 : h (u + 11) = jI 4096 (fun j9 => zI (M.mr j9)) := q11
  have p12 : h (u + 12) = jI 6 (fun j9 => zI (M.rw j9)) := q12
  have p13 : h (u + 13) = jI 16 (fun j9 => zI (M.tu j9)) := q13
  refine jl_aload_n d_Md_copy_0 rfl rfl ?_
  refine jg_6 (q := 1) d_Md_copy_1 p0 rfl (by decide) fw_Md_7 ?_
  refine jl_iload_n d_Md_copy_4 rfl rfl ?_
  refine jl_aload_n d_Md_copy_5 rfl rfl ?_
  refine jg_6 (q := 1) d_Md_copy_6 p0 rfl (by decide) fw_Md_7 ?_
  refine jl_iload_n d_Md_copy_9 rfl rfl ?_
  refine jz_iald d_Md_copy_10 p1 (by omega) (by omega) (by omega) ?_
  refine jz_iasth d_Md_copy_11 p1 (by omega) (by omega) (by omega) (fun h1 eh1 => ?_)
  have jf2 : h1 (u + 1) = jI 8 (fun j9 => zI ((va_up (M.mo) (b).toNat (M.mo (a).toNat)) j9)) := by rw [eh1, va_up_self]
  refine jl_aload_n d_Md_copy_12 rfl rfl ?_
  have jf3 : h1 (u) = jO 6 [.int (zI (M.T)), .ref (u + 1), .ref (u + 2), .ref (u + 3), .ref (u + 4), .ref (u + 5), .int (zI (M.jn)), .int (zI (M.ja)), .int (zI (M.jb)), .ref (u + 6), .ref (u + 7), .int (zI (M.nw)), .int (zI (M.bl)), .int (zI (M.lt)), .int (zI (M.rt)), .ref (u + 8), .ref (u + 9), .ref (u + 10), .ref (u + 11), .ref (u + 12), .ref (u + 13)] := by rw [eh1, va_up_ne _ _ (by omega)]; exact p0
  refine jg_6 (q := 2) d_Md_copy_13 jf3 rfl (by decide) fw_Md_13 ?_
  refine jl_iload_n d_Md_copy_16 rfl rfl ?_
  refine jl_aload_n d_Md_copy_17 rfl rfl ?_
  refine jg_6 (q := 2) d_Md_copy_18 jf3 rfl (by decide) fw_Md_13 ?_
  refine jl_iload_n d_Md_copy_21 rfl rfl ?_
  have jf4 : h1 (u + 2) = jI 8 (fun j9 => zI (M.pe j9)) := by rw [eh1, va_up_ne _ _ (by omega)]; exact p2
  refine jz_iald d_Md_copy_22 jf4 (by omega) (by omega) (by omega) ?_
  refine jz_iasth d_Md_copy_23 jf4 (by omega) (by omega) (by omega) (fun h5 eh5 => ?_)
  have jf6 : h5 (u + 2) = jI 8 (fun j9 => zI ((va_up (M.pe) (b).toNat (M.pe (a).toNat)) j9)) := by rw [eh5, va_up_self]
  refine jl_iconst (v := zI (0)) d_Md_copy_24 (by decide) ?_
  refine jl_istore_n (L' := [some (.ref (u)), some (.int (zI (a))), some (.int (zI (b))), some (.int (zI (0))), none]) d_Md_copy_25 rfl (by decide) rfl ?_
  have jf7 : h5 (u) = jO 6 [.int (zI (M.T)), .ref (u + 1), .ref (u + 2), .ref (u + 3), .ref (u + 4), .ref (u + 5), .int (zI (M.jn)), .int (zI (M.ja)), .int (zI (M.jb)), .ref (u + 6), .ref (u + 7), .int (zI (M.nw)), .int (zI (M.bl)), .int (zI (M.lt)), .int (zI (M.rt)), .ref (u + 8), .ref (u + 9), .ref (u + 10), .ref (u + 11), .ref (u + 12), .ref (u + 13)] := by rw [eh5, va_up_ne _ _ (by omega)]; exact jf3
  have jf8 : h5 (u + 1) = jI 8 (fun j9 => zI ((va_up (M.mo) (b).toNat (M.mo (a).toNat)) j9)) := by rw [eh5, va_up_ne _ _ (by omega)]; exact jf2
  have jf9 : h5 (u + 3) = jI 128 (fun j9 => zI (M.co j9)) := by rw [eh5, va_up_ne _ _ (by omega), eh1, va_up_ne _ _ (by omega)]; exact p3
  have jf10 : h5 (u + 4) = jI 384 (fun j9 => zI (M.he j9)) := by rw [eh5, va_up_ne _ _ (by omega), eh1, va_up_ne _ _ (by omega)]; exact p4
  have jf11 : h5 (u + 5) = jZ 128 (fun j9 => zI (M.cr j9)) := by rw [eh5, va_up_ne _ _ (by omega), eh1, va_up_ne _ _ (by omega)]; exact p5
  have jf12 : h5 (u + 6) = jI 16 (fun j9 => zI (M.wy j9)) := by rw [eh5, va_up_ne _ _ (by omega), eh1, va_up_ne _ _ (by omega)]; exact p6
  have jf13 : h5 (u + 7) = jI 512 (fun j9 => zI (M.fa j9)) := by rw [eh5, va_up_ne _ _ (by omega), eh1, va_up_ne _ _ (by omega)]; exact p7
  have jf14 : h5 (u + 8) = jI 32 (fun j9 => zI (M.la j9)) := by rw [eh5, va_up_ne _ _ (by omega), eh1, va_up_ne _ _ (by omega)]; exact p8
  have jf15 : h5 (u + 9) = jI 32 (fun j9 => zI (M.ha j9)) := by rw [eh5, va_up_ne _ _ (by omega), eh1, va_up_ne _ _ (by omega)]; exact p9
  have jf16 : h5 (u + 10) = jI 4096 (fun j9 => zI (M.w1 j9)) := by rw [eh5, va_up_ne _ _ (by omega), eh1, va_up_ne _ _ (by omega)]; exact p10
  have jf17 : h5 (u + 11) = jI 4096 (fun j9 => zI (M.mr j9)) := by rw [eh5, va_up_ne _ _ (by omega), eh1, va_up_ne _ _ (by omega)]; exact p11
  have jf18 : h5 (u + 12) = jI 6 (fun j9 => zI (M.rw j9)) := by rw [eh5, va_up_ne _ _ (by omega), eh1, va_up_ne _ _ (by omega)]; exact p12
  have jf19 : h5 (u + 13) = jI 16 (fun j9 => zI (M.tu j9)) := by rw [eh5, va_up_ne _ _ (by omega), eh1, va_up_ne _ _ (by omega)]; exact p13
  have lp1 : ∀ (k : Nat) (s : Nat) (h2 : Nat → va_E), s + k = 16 → jM h2 u (cpM M a b s (3 * s)) → jfr h h2 u (u + 14) → jl_AW l G (jl_F G Kr Kx) m_Md_copy d 26 [some (.ref (u)), some (.int (zI (a))), some (.int (zI (b))), some (.int (zI ((s : Int)))), none] [] n h2 0 0 := by
    intro k
    induction k using Nat.strongRecOn with
    | ind k ih =>
      intro s h2 hks hM2 hfr
      have lpi : ∀ (k2 : Nat) (t : Nat) (h3 : Nat → va_E), t + k2 = 3 → s < 16 → jM h3 u (cpM M a b (s + 1) (3 * s + t)) → jfr h h3 u (u + 14) → jl_AW l G (jl_F G Kr Kx) m_Md_copy d 79 [some (.ref (u)), some (.int (zI (a))), some (.int (zI (b))), some (.int (zI ((s : Int)))), some (.int (zI ((t : Int))))] [] n h3 0 0 := by
        intro k2
        induction k2 using Nat.strongRecOn with
        | ind k2 ih2 =>
          intro t h3 hkt hs16 hM3 hfr3
          obtain ⟨q0y, q1y, q2y, q3y, q4y, q5y, q6y, q7y, q8y, q9y, q10y, q11y, q12y, q13y⟩ := id (hM3)
          have p0y : h3 u = jO 6 [.int (zI (M.T)), .ref (u + 1), .ref (u + 2), .ref (u + 3), .ref (u + 4), .ref (u + 5), .int (zI (M.jn)), .int (zI (M.ja)), .int (zI (M.jb)), .ref (u + 6), .ref (u + 7), .int (zI (M.nw)), .int (zI (M.bl)), .int (zI (M.lt)), .int (zI (M.rt)), .ref (u + 8), .ref (u + 9), .ref (u + 10), .ref (u + 11), .ref (u + 12), .ref (u + 13)] := q0y
          have p1y : h3 (u + 1) = jI 8 (fun j9 => zI ((va_up M.mo (b).toNat (M.mo (a).toNat)) j9)) := q1y
          have p2y : h3 (u + 2) = jI 8 (fun j9 => zI ((va_up M.pe (b).toNat (M.pe (a).toNat)) j9)) := q2y
          have p3y : h3 (u + 3) = jI 128 (fun j9 => zI ((cpC (16 * a) (16 * b) (s + 1) M.co) j9)) := q3y
          have p4y : h3 (u + 4) = jI 384 (fun j9 => zI ((cpC (48 * a) (48 * b) (3 * s + t) M.he) j9)) := q4y
          have p5y : h3 (u + 5) = jZ 128 (fun j9 => zI ((cpC (16 * a) (16 * b) (s + 1) M.cr) j9)) := q5y
          have p6y : h3 (u + 6) = jI 16 (fun j9 => zI (M.wy j9)) := q6y
          have p7y : h3 (u + 7) = jI 512 (fun j9 => zI (M.fa j9)) := q7y
          have p8y : h3 (u + 8) = jI 32 (fun j9 => zI (M.la j9)) := q8y
          have p9y : h3 (u + 9) = jI 32 (fun j9 => zI (M.ha j9)) := q9y
          have p10y : h3 (u + 10) = jI 4096 (fun j9 => zI (M.w1 j9)) := q10y
          have p11y : h3 (u + 11) = jI 4096 (fun j9 => zI (M.mr j9)) := q11y
          have p12y : h3 (u + 12) = jI 6 (fun j9 => zI (M.rw j9)) := q12y
          have p13y : h3 (u + 13) = jI 16 (fun j9 => zI (M.tu j9)) := q13y
          refine jl_iload d_Md_copy_79 rfl ?_
          refine jl_iconst (v := zI (3)) d_Md_copy_81 (by decide) ?_
          refine jz_icmp_ge (tgt := 123) d_Md_copy_82 (by decide) ⟨by omega, by omega⟩ ⟨by omega, by omega⟩ (fun hc2 => ?_) (fun hc2 => ?_)
          · have et : t = 3 := by omega
            refine jz_iinc (v := ((s + 1 : Nat) : Int)) (L' := [some (.ref (u)), some (.int (zI (a))), some (.int (zI (b))), some (.int (zI (((s + 1 : Nat) : Int)))), some (.int (zI ((t : Int))))]) d_Md_copy_123 rfl (by omega) (by decide) rfl ?_
            refine jl_goto (tgt := 26) d_Md_copy_126 (by decide) ?_
            refine jl_less (L' := [some (.ref (u)), some (.int (zI (a))), some (.int (zI (b))), some (.int (zI (((s + 1 : Nat) : Int)))), none]) ⟨rfl, rfl, rfl, rfl, trivial⟩ ?_
            exact ih (k - 1) (by omega) (s + 1) h3 (by omega) (by rw [show 3 * (s + 1) = 3 * s + t by omega]; exact hM3) hfr3
          · refine jl_aload_n d_Md_copy_85 rfl rfl ?_
            refine jg_6 (q := 4) d_Md_copy_86 p0y rfl (by decide) fw_Md_19 ?_
            refine jl_iconst (v := zI (3)) d_Md_copy_89 (by decide) ?_
            refine jl_bipush (v := zI (16)) d_Md_copy_90 (by decide) ?_
            refine jl_iload_n d_Md_copy_92 rfl rfl ?_
            refine jz_imul (v := 16 * b) d_Md_copy_93 (by omega) ?_
            refine jl_iload_n d_Md_copy_94 rfl rfl ?_
            refine jz_iadd (v := 16 * b + (s : Int)) d_Md_copy_95 (by omega) ?_
            refine jz_imul (v := 48 * b + 3 * (s : Int)) d_Md_copy_96 (by omega) ?_
            refine jl_iload d_Md_copy_97 rfl ?_
            refine jz_iadd (v := 48 * b + ((3 * s + t : Nat) : Int)) d_Md_copy_99 (by omega) ?_
            refine jl_aload_n d_Md_copy_100 rfl rfl ?_
            refine jg_6 (q := 4) d_Md_copy_101 p0y rfl (by decide) fw_Md_19 ?_
            refine jl_iconst (v := zI (3)) d_Md_copy_104 (by decide) ?_
            refine jl_bipush (v := zI (16)) d_Md_copy_105 (by decide) ?_
            refine jl_iload_n d_Md_copy_107 rfl rfl ?_
            refine jz_imul (v := 16 * a) d_Md_copy_108 (by omega) ?_
            refine jl_iload_n d_Md_copy_109 rfl rfl ?_
            refine jz_iadd (v := 16 * a + (s : Int)) d_Md_copy_110 (by omega) ?_
            refine jz_imul (v := 48 * a + 3 * (s : Int)) d_Md_copy_111 (by omega) ?_
            refine jl_iload d_Md_copy_112 rfl ?_
            refine jz_iadd (v := 48 * a + ((3 * s + t : Nat) : Int)) d_Md_copy_114 (by omega) ?_
            refine jz_iald d_Md_copy_115 p4y (by omega) (by omega) (by omega) ?_
            refine jz_iasth d_Md_copy_116 p4y (by omega) (by omega) (by omega) (fun h20 eh20 => ?_)
            have jf21 : h20 (u + 4) = jI 384 (fun j9 => zI ((va_up ((cpC (48 * a) (48 * b) (3 * s + t) M.he)) (48 * b + ((3 * s + t : Nat) : Int)).toNat ((cpC (48 * a) (48 * b) (3 * s + t) M.he) (48 * a + ((3 * s + t : Nat) : Int)).toNat)) j9)) := by rw [eh20, va_up_self]
            refine jz_iinc (v := ((t + 1 : Nat) : Int)) (L' := [some (.ref (u)), some (.int (zI (a))), some (.int (zI (b))), some (.int (zI ((s : Int)))), some (.int (zI (((t + 1 : Nat) : Int))))]) d_Md_copy_117 rfl (by omega) (by decide) rfl ?_
            refine jl_goto (tgt := 79) d_Md_copy_120 (by decide) ?_
            have jf22 : h20 (u) = jO 6 [.int (zI (M.T)), .ref (u + 1), .ref (u + 2), .ref (u + 3), .ref (u + 4), .ref (u + 5), .int (zI (M.jn)), .int (zI (M.ja)), .int (zI (M.jb)), .ref (u + 6), .ref (u + 7), .int (zI (M.nw)), .int (zI (M.bl)), .int (zI (M.lt)), .int (zI (M.rt)), .ref (u + 8), .ref (u + 9), .ref (u + 10), .ref (u + 11), .ref (u + 12), .ref (u + 13)] := by rw [eh20, va_up_ne _ _ (by omega)]; exact p0y
            have jf23 : h20 (u + 1) = jI 8 (fun j9 => zI ((va_up M.mo (b).toNat (M.mo (a).toNat)) j9)) := by rw [eh20, va_up_ne _ _ (by omega)]; exact p1y
            have jf24 : h20 (u + 2) = jI 8 (fun j9 => zI ((va_up M.pe (b).toNat (M.pe (a).toNat)) j9)) := by rw [eh20, va_up_ne _ _ (by omega)]; exact p2y
            have jf25 : h20 (u + 3) = jI 128 (fun j9 => zI ((cpC (16 * a) (16 * b) (s + 1) M.co) j9)) := by rw [eh20, va_up_ne _ _ (by omega)]; exact p3y
            have jf26 : h20 (u + 5) = jZ 128 (fun j9 => zI ((cpC (16 * a) (16 * b) (s + 1) M.cr) j9)) := by rw [eh20, va_up_ne _ _ (by omega)]; exact p5y
            have jf27 : h20 (u + 6) = jI 16 (fun j9 => zI (M.wy j9)) := by rw [eh20, va_up_ne _ _ (by omega)]; exact p6y
            have jf28 : h20 (u + 7) = jI 512 (fun j9 => zI (M.fa j9)) := by rw [eh20, va_up_ne _ _ (by omega)]; exact p7y
            have jf29 : h20 (u + 8) = jI 32 (fun j9 => zI (M.la j9)) := by rw [eh20, va_up_ne _ _ (by omega)]; exact p8y
            have jf30 : h20 (u + 9) = jI 32 (fun j9 => zI (M.ha j9)) := by rw [eh20, va_up_ne _ _ (by omega)]; exact p9y
            have jf31 : h20 (u + 10) = jI 4096 (fun j9 => zI (M.w1 j9)) := by rw [eh20, va_up_ne _ _ (by omega)]; exact p10y
            have jf32 : h20 (u + 11) = jI 4096 (fun j9 => zI (M.mr j9)) := by rw [eh20, va_up_ne _ _ (by omega)]; exact p11y
            have jf33 : h20 (u + 12) = jI 6 (fun j9 => zI (M.rw j9)) := by rw [eh20, va_up_ne _ _ (by omega)]; exact p12y
            have jf34 : h20 (u + 13) = jI 16 (fun j9 => zI (M.tu j9)) := by rw [eh20, va_up_ne _ _ (by omega)]; exact p13y
            rw [cpC_s _ (by omega) (by omega) (by omega)] at jf21
            exact ih2 (k2 - 1) (by omega) (t + 1) h20 (by omega) (by omega) ⟨jf22, jf23, jf24, jf25, jf21, jf26, jf27, jf28, jf29, jf30, jf31, jf32, jf33, jf34⟩ (fun y hy => by rw [eh20, va_up_ne _ _ (by omega)]; exact hfr3 y hy)
      obtain ⟨q0z, q1z, q2z, q3z, q4z, q5z, q6z, q7z, q8z, q9z, q10z, q11z, q12z, q13z⟩ := id (hM2)
      have p0z : h2 u = jO 6 [.int (zI (M.T)), .ref (u + 1), .ref (u + 2), .ref (u + 3), .ref (u + 4), .ref (u + 5), .int (zI (M.jn)), .int (zI (M.ja)), .int (zI (M.jb)), .ref (u + 6), .ref (u + 7), .int (zI (M.nw)), .int (zI (M.bl)), .int (zI (M.lt)), .int (zI (M.rt)), .ref (u + 8), .ref (u + 9), .ref (u + 10), .ref (u + 11), .ref (u + 12), .ref (u + 13)] := q0z
      have p1z : h2 (u + 1) = jI 8 (fun j9 => zI ((va_up M.mo (b).toNat (M.mo (a).toNat)) j9)) := q1z
      have p2z : h2 (u + 2) = jI 8 (fun j9 => zI ((va_up M.pe (b).toNat (M.pe (a).toNat)) j9)) := q2z
      have p3z : h2 (u + 3) = jI 128 (fun j9 => zI ((cpC (16 * a) (16 * b) (s) M.co) j9)) := q3z
      have p4z : h2 (u + 4) = jI 384 (fun j9 => zI ((cpC (48 * a) (48 * b) (3 * s) M.he) j9)) := q4z
      have p5z : h2 (u + 5) = jZ 128 (fun j9 => zI ((cpC (16 * a) (16 * b) (s) M.cr) j9)) := q5z
      have p6z : h2 (u + 6) = jI 16 (fun j9 => zI (M.wy j9)) := q6z
      have p7z : h2 (u + 7) = jI 512 (fun j9 => zI (M.fa j9)) := q7z
      have p8z : h2 (u + 8) = jI 32 (fun j9 => zI (M.la j9)) := q8z
      have p9z : h2 (u + 9) = jI 32 (fun j9 => zI (M.ha j9)) := q9z
      have p10z : h2 (u + 10) = jI 4096 (fun j9 => zI (M.w1 j9)) := q10z
      have p11z : h2 (u + 11) = jI 4096 (fun j9 => zI (M.mr j9)) := q11z
      have p12z : h2 (u + 12) = jI 6 (fun j9 => zI (M.rw j9)) := q12z
      have p13z : h2 (u + 13) = jI 16 (fun j9 => zI (M.tu j9)) := q13z
      refine jl_iload_n d_Md_copy_26 rfl rfl ?_
      refine jl_bipush (v := zI (16)) d_Md_copy_27 (by decide) ?_
      refine jz_icmp_ge (tgt := 129) d_Md_copy_29 (by decide) ⟨by omega, by omega⟩ ⟨by omega, by omega⟩ (fun hc => ?_) (fun hc => ?_)
      · have es : s = 16 := by omega
        subst es
        exact jl_vret d_Md_copy_129 rfl (hk h2 hM2 hfr)
      · have hz9 := ok.2.2.2.2
        refine jl_aload_n d_Md_copy_32 rfl rfl ?_
        refine jg_6 (q := 3) d_Md_copy_33 p0z rfl (by decide) fw_Md_16 ?_
        refine jl_bipush (v := zI (16)) d_Md_copy_36 (by decide) ?_
        refine jl_iload_n d_Md_copy_38 rfl rfl ?_
        refine jz_imul (v := 16 * b) d_Md_copy_39 (by omega) ?_
        refine jl_iload_n d_Md_copy_40 rfl rfl ?_
        refine jz_iadd (v := 16 * b + (s : Int)) d_Md_copy_41 (by omega) ?_
        refine jl_aload_n d_Md_copy_42 rfl rfl ?_
        refine jg_6 (q := 3) d_Md_copy_43 p0z rfl (by decide) fw_Md_16 ?_
        refine jl_bipush (v := zI (16)) d_Md_copy_46 (by decide) ?_
        refine jl_iload_n d_Md_copy_48 rfl rfl ?_
        refine jz_imul (v := 16 * a) d_Md_copy_49 (by omega) ?_
        refine jl_iload_n d_Md_copy_50 rfl rfl ?_
        refine jz_iadd (v := 16 * a + (s : Int)) d_Md_copy_51 (by omega) ?_
        refine jz_iald d_Md_copy_52 p3z (by omega) (by omega) (by omega) ?_
        refine jz_iasth d_Md_copy_53 p3z (by omega) (by omega) (by omega) (fun h20 eh20 => ?_)
        have jf21 : h20 (u + 3) = jI 128 (fun j9 => zI ((va_up ((cpC (16 * a) (16 * b) (s) M.co)) (16 * b + (s : Int)).toNat ((cpC (16 * a) (16 * b) (s) M.co) (16 * a + (s : Int)).toNat)) j9)) := by rw [eh20, va_up_self]
        refine jl_aload_n d_Md_copy_54 rfl rfl ?_
        have jf22 : h20 (u) = jO 6 [.int (zI (M.T)), .ref (u + 1), .ref (u + 2), .ref (u + 3), .ref (u + 4), .ref (u + 5), .int (zI (M.jn)), .int (zI (M.ja)), .int (zI (M.jb)), .ref (u + 6), .ref (u + 7), .int (zI (M.nw)), .int (zI (M.bl)), .int (zI (M.lt)), .int (zI (M.rt)), .ref (u + 8), .ref (u + 9), .ref (u + 10), .ref (u + 11), .ref (u + 12), .ref (u + 13)] := by rw [eh20, va_up_ne _ _ (by omega)]; exact p0z
        refine jg_6 (q := 5) d_Md_copy_55 jf22 rfl (by decide) fw_Md_22 ?_
        refine jl_bipush (v := zI (16)) d_Md_copy_58 (by decide) ?_
        refine jl_iload_n d_Md_copy_60 rfl rfl ?_
        refine jz_imul (v := 16 * b) d_Md_copy_61 (by omega) ?_
        refine jl_iload_n d_Md_copy_62 rfl rfl ?_
        refine jz_iadd (v := 16 * b + (s : Int)) d_Md_copy_63 (by omega) ?_
        refine jl_aload_n d_Md_copy_64 rfl rfl ?_
        refine jg_6 (q := 5) d_Md_copy_65 jf22 rfl (by decide) fw_Md_22 ?_
        refine jl_bipush (v := zI (16)) d_Md_copy_68 (by decide) ?_
        refine jl_iload_n d_Md_copy_70 rfl rfl ?_
        refine jz_imul (v := 16 * a) d_Md_copy_71 (by omega) ?_
        refine jl_iload_n d_Md_copy_72 rfl rfl ?_
        refine jz_iadd (v := 16 * a + (s : Int)) d_Md_copy_73 (by omega) ?_
        have jf23 : h20 (u + 5) = jZ 128 (fun j9 => zI ((cpC (16 * a) (16 * b) (s) M.cr) j9)) := by rw [eh20, va_up_ne _ _ (by omega)]; exact p5z
        refine jz_zald d_Md_copy_74 jf23 (by omega) (by omega) (by omega) ?_
        refine jz_zasth (cpC_P (P := fun v => v = 0 ∨ v = 1) hz9 _) d_Md_copy_75 jf23 (by omega) (by omega) (by omega) (fun h24 eh24 => ?_)
        have jf25 : h24 (u + 5) = jZ 128 (fun j9 => zI ((va_up ((cpC (16 * a) (16 * b) (s) M.cr)) (16 * b + (s : Int)).toNat ((cpC (16 * a) (16 * b) (s) M.cr) (16 * a + (s : Int)).toNat)) j9)) := by rw [eh24, va_up_self]
        refine jl_iconst (v := zI (0)) d_Md_copy_76 (by decide) ?_
        refine jl_istore (L' := [some (.ref (u)), some (.int (zI (a))), some (.int (zI (b))), some (.int (zI ((s : Int)))), some (.int (zI (0)))]) d_Md_copy_77 (by decide) rfl ?_
        have jf26 : h24 (u) = jO 6 [.int (zI (M.T)), .ref (u + 1), .ref (u + 2), .ref (u + 3), .ref (u + 4), .ref (u + 5), .int (zI (M.jn)), .int (zI (M.ja)), .int (zI (M.jb)), .ref (u + 6), .ref (u + 7), .int (zI (M.nw)), .int (zI (M.bl)), .int (zI (M.lt)), .int (zI (M.rt)), .ref (u + 8), .ref (u + 9), .ref (u + 10), .ref (u + 11), .ref (u + 12), .ref (u + 13)] := by rw [eh24, va_up_ne _ _ (by omega)]; exact jf22
        have jf27 : h24 (u + 1) = jI 8 (fun j9 => zI ((va_up M.mo (b).toNat (M.mo (a).toNat)) j9)) := by rw [eh24, va_up_ne _ _ (by omega), eh20, va_up_ne _ _ (by omega)]; exact p1z
        have jf28 : h24 (u + 2) = jI 8 (fun j9 => zI ((va_up M.pe (b).toNat (M.pe (a).toNat)) j9)) := by rw [eh24, va_up_ne _ _ (by omega), eh20, va_up_ne _ _ (by omega)]; exact p2z
        have jf29 : h24 (u + 3) = jI 128 (fun j9 => zI ((va_up ((cpC (16 * a) (16 * b) (s) M.co)) (16 * b + (s : Int)).toNat ((cpC (16 * a) (16 * b) (s) M.co) (16 * a + (s : Int)).toNat)) j9)) := by rw [eh24, va_up_ne _ _ (by omega)]; exact jf21
        have jf30 : h24 (u + 4) = jI 384 (fun j9 => zI ((cpC (48 * a) (48 * b) (3 * s) M.he) j9)) := by rw [eh24, va_up_ne _ _ (by omega), eh20, va_up_ne _ _ (by omega)]; exact p4z
        have jf31 : h24 (u + 6) = jI 16 (fun j9 => zI (M.wy j9)) := by rw [eh24, va_up_ne _ _ (by omega), eh20, va_up_ne _ _ (by omega)]; exact p6z
        have jf32 : h24 (u + 7) = jI 512 (fun j9 => zI (M.fa j9)) := by rw [eh24, va_up_ne _ _ (by omega), eh20, va_up_ne _ _ (by omega)]; exact p7z
        have jf33 : h24 (u + 8) = jI 32 (fun j9 => zI (M.la j9)) := by rw [eh24, va_up_ne _ _ (by omega), eh20, va_up_ne _ _ (by omega)]; exact p8z
        have jf34 : h24 (u + 9) = jI 32 (fun j9 => zI (M.ha j9)) := by rw [eh24, va_up_ne _ _ (by omega), eh20, va_up_ne _ _ (by omega)]; exact p9z
        have jf35 : h24 (u + 10) = jI 4096 (fun j9 => zI (M.w1 j9)) := by rw [eh24, va_up_ne _ _ (by omega), eh20, va_up_ne _ _ (by omega)]; exact p10z
        have jf36 : h24 (u + 11) = jI 4096 (fun j9 => zI (M.mr j9)) := by rw [eh24, va_up_ne _ _ (by omega), eh20, va_up_ne _ _ (by omega)]; exact p11z
        have jf37 : h24 (u + 12) = jI 6 (fun j9 => zI (M.rw j9)) := by rw [eh24, va_up_ne _ _ (by omega), eh20, va_up_ne _ _ (by omega)]; exact p12z
        have jf38 : h24 (u + 13) = jI 16 (fun j9 => zI (M.tu j9)) := by rw [eh24, va_up_ne _ _ (by omega), eh20, va_up_ne _ _ (by omega)]; exact p13z
        rw [cpC_s _ (by omega) (by omega) (by omega)] at jf29
        rw [cpC_s _ (by omega) (by omega) (by omega)] at jf25
        exact lpi 3 0 h24 (by omega) (by omega) ⟨jf26, jf27, jf28, jf29, jf30, jf25, jf31, jf32, jf33, jf34, jf35, jf36, jf37, jf38⟩ (fun y hy => by rw [eh24, va_up_ne _ _ (by omega), eh20, va_up_ne _ _ (by omega)]; exact hfr y hy)
  have hM3 : jM h5 u (cpM M a b 0 (3 * 0)) := by
    unfold cpM
    rw [Nat.mul_zero, cpC_0, cpC_0, cpC_0]
    exact ⟨jf7, jf8, jf6, jf9, jf10, jf11, jf12, jf13, jf14, jf15, jf16, jf17, jf18, jf19⟩
  exact lp1 16 0 h5 (by omega) hM3 (fun y hy => by rw [eh5, va_up_ne _ _ (by omega), eh1, va_up_ne _ _ (by omega)])
set_option maxHeartbeats 4000000 in
set_option maxRecDepth 100000 in
theorem k_M_begin {l : Launch} {G : jl_G} {d n : Nat} {h : Nat → va_E} {Kr : Option Value → Nat → (Nat → va_E) → Prop} {Kx : String → Nat → (Nat → va_E) → Prop} (hl9 : l.stackTraces = false) (hdd : 1 ≤ d) {u : Nat} {M : MS} {a b : Int} (hM9 : jM h u M) (ha : zR a) (hb : zR b) (hk1 : (0 ≤ a ∧ a ≤ 2) ∧ (1 ≤ b ∧ b ≤ 16) ∧ ¬ (a = 2 ∧ b % 2 = 1) → ∀ h', jM h' u (frM (M.wT 0) a b 16) → jfr h h' u (u + 14) → Kr (some (.int (zI (M.pe (0 : Int).toNat)))) n h') (hk0 : ¬ ((0 ≤ a ∧ a ≤ 2) ∧ (1 ≤ b ∧ b ≤ 16) ∧ ¬ (a = 2 ∧ b % 2 = 1)) → ∀ h', jM h' u (M.wT 1) → jfr h h' u (u + 14) → Kr (some (.int (zI (0)))) n h') : jl_Call l G m_Md_begin d [.ref (u), .int (zI (a)), .int (zI (b))] n h 0 0 Kr Kx := by
  refine jl_enter hl9 (by decide) rfl (by simp [Value.category]) (Nat.le_of_ble_eq_true rfl) ?_
  show jl_AW l G (jl_F G Kr Kx) m_Md_begin d 0 [some (.ref (u)), some (.int (zI (a))), some (.int (zI (b))), none] [] n h 0 0
  obtain ⟨q0, q1, q2, q3, q4, q5, q6, q7, q8, q9, q10, q11, q12, q13⟩ := id (hM9)
  have p0 : h u = jO 6 [.int (zI (M.T)), .ref (u + 1), .ref (u + 2), .ref (u + 3), .ref (u + 4), .ref (u + 5), .int (zI (M.jn)), .int (zI (M.ja)), .int (zI (M.jb)), .ref (u + 6), .ref (u + 7), .int (zI (M.nw)), .int (zI (M.bl)), .int (zI (M.lt)), .int (zI (M.rt)), .ref (u + 8), .ref (u + 9), .ref (u + 10), .ref (u + 11), .ref (u + 12), .ref (u + 13)] := q0
  have p1 : h (u + 1) = jI 8 (fun j9 => zI (M.mo j9)) := q1
  have p2 : h (u + 2) = jI 8 (fun j9 => zI (M.pe j9)) := q2
  have p3 : h (u + 3) = jI 128 (fun j9 => zI (M.co j9)) := q3
  have p4 : h (u + 4) = jI 384 (fun j9 => zI (M.he j9)) := q4
  have p5 : h (u + 5) = jZ 128 (fun j9 => zI (M.cr j9)) := q5
  have p6 : h (u + 6) = jI 16 (fun j9 => zI (M.wy j9)) := q6
  have p7 : h (u + 7) = jI 512 (fun j9 => zI (M.fa j9)) := q7
  have p8 : h (u + 8) = jI 32 (fun j9 => zI (M.la j9)) := q8
  have p9 : h (u + 9) = jI 32 (fun j9 => zI (M.ha j9)) := q9
  have p10 : h (u + 10) = jI 4096 (fun j9 => zI (M.w1 j9)) := q10
  have p11 : h (u + 11) = jI 4096 (fun j9 => zI (M.mr j9)) := q11
  have p12 : h (u + 12) = jI 6 (fun j9 => zI (M.rw j9)) := q12
  have p13 : h (u + 13) = jI 16 (fun j9 => zI (M.tu j9)) := q13
  refine jl_aload_n d_Md_begin_0 rfl rfl ?_
  refine jl_iconst (v := zI (0)) d_Md_begin_1 (by decide) ?_
  refine jp_6 (q := 0) (ty := .int) d_Md_begin_2 p0 (by simp) (by decide) fw_Md_58 rfl (by decide +kernel) (fun _ _ => rfl) (fun _ _ => rfl) (fun h1 eh1 => ?_)
  have eh1 : h1 = va_up h (u) (jO 6 [.int (zI (0)), .ref (u + 1), .ref (u + 2), .ref (u + 3), .ref (u + 4), .ref (u + 5), .int (zI (M.jn)), .int (zI (M.ja)), .int (zI (M.jb)), .ref (u + 6), .ref (u + 7), .int (zI (M.nw)), .int (zI (M.bl)), .int (zI (M.lt)), .int (zI (M.rt)), .ref (u + 8), .ref (u + 9), .ref (u + 10), .ref (u + 11), .ref (u + 12), .ref (u + 13)]) := eh1
  have jf2 : h1 (u) = jO 6 [.int (zI (0)), .ref (u + 1), .ref (u + 2), .ref (u + 3), .ref (u + 4), .ref (u + 5), .int (zI (M.jn)), .int (zI (M.ja)), .int (zI (M.jb)), .ref (u + 6), .ref (u + 7), .int (zI (M.nw)), .int (zI (M.bl)), .int (zI (M.lt)), .int (zI (M.rt)), .ref (u + 8), .ref (u + 9), .ref (u + 10), .ref (u + 11), .ref (u + 12), .ref (u + 13)] := by rw [eh1, va_up_self]
  have jf3 : h1 (u + 1) = jI 8 (fun j9 => zI (M.mo j9)) := by rw [eh1, va_up_ne _ _ (by omega)]; exact p1
  have jf4 : h1 (u + 2) = jI 8 (fun j9 => zI (M.pe j9)) := by rw [eh1, va_up_ne _ _ (by omega)]; exact p2
  have jf5 : h1 (u + 3) = jI 128 (fun j9 => zI (M.co j9)) := by rw [eh1, va_up_ne _ _ (by omega)]; exact p3
  have jf6 : h1 (u + 4) = jI 384 (fun j9 => zI (M.he j9)) := by rw [eh1, va_up_ne _ _ (by omega)]; exact p4
  have jf7 : h1 (u + 5) = jZ 128 (fun j9 => zI (M.cr j9)) := by rw [eh1, va_up_ne _ _ (by omega)]; exact p5
  have jf8 : h1 (u + 6) = jI 16 (fun j9 => zI (M.wy j9)) := by rw [eh1, va_up_ne _ _ (by omega)]; exact p6
  have jf9 : h1 (u + 7) = jI 512 (fun j9 => zI (M.fa j9)) := by rw [eh1, va_up_ne _ _ (by omega)]; exact p7
  have jf10 : h1 (u + 8) = jI 32 (fun j9 => zI (M.la j9)) := by rw [eh1, va_up_ne _ _ (by omega)]; exact p8
  have jf11 : h1 (u + 9) = jI 32 (fun j9 => zI (M.ha j9)) := by rw [eh1, va_up_ne _ _ (by omega)]; exact p9
  have jf12 : h1 (u + 10) = jI 4096 (fun j9 => zI (M.w1 j9)) := by rw [eh1, va_up_ne _ _ (by omega)]; exact p10
  have jf13 : h1 (u + 11) = jI 4096 (fun j9 => zI (M.mr j9)) := by rw [eh1, va_up_ne _ _ (by omega)]; exact p11
  have jf14 : h1 (u + 12) = jI 6 (fun j9 => zI (M.rw j9)) := by rw [eh1, va_up_ne _ _ (by omega)]; exact p12
  have jf15 : h1 (u + 13) = jI 16 (fun j9 => zI (M.tu j9)) := by rw [eh1, va_up_ne _ _ (by omega)]; exact p13
  have hM1 : jM h1 u (M.wT 0) := ⟨jf2, jf3, jf4, jf5, jf6, jf7, jf8, jf9, jf10, jf11, jf12, jf13, jf14, jf15⟩
  have hf1 : jfr h h1 u (u + 14) := (fun y hy => by rw [eh1, va_up_ne _ _ (by omega)])
  obtain ⟨q0a, q1a, q2a, q3a, q4a, q5a, q6a, q7a, q8a, q9a, q10a, q11a, q12a, q13a⟩ := id (hM1)
  have p0a : h1 u = jO 6 [.int (zI (0)), .ref (u + 1), .ref (u + 2), .ref (u + 3), .ref (u + 4), .ref (u + 5), .int (zI (M.jn)), .int (zI (M.ja)), .int (zI (M.jb)), .ref (u + 6), .ref (u + 7), .int (zI (M.nw)), .int (zI (M.bl)), .int (zI (M.lt)), .int (zI (M.rt)), .ref (u + 8), .ref (u + 9), .ref (u + 10), .ref (u + 11), .ref (u + 12), .ref (u + 13)] := q0a
  have p1a : h1 (u + 1) = jI 8 (fun j9 => zI (M.mo j9)) := q1a
  have p2a : h1 (u + 2) = jI 8 (fun j9 => zI (M.pe j9)) := q2a
  have p3a : h1 (u + 3) = jI 128 (fun j9 => zI (M.co j9)) := q3a
  have p4a : h1 (u + 4) = jI 384 (fun j9 => zI (M.he j9)) := q4a
  have p5a : h1 (u + 5) = jZ 128 (fun j9 => zI (M.cr j9)) := q5a
  have p6a : h1 (u + 6) = jI 16 (fun j9 => zI (M.wy j9)) := q6a
  have p7a : h1 (u + 7) = jI 512 (fun j9 => zI (M.fa j9)) := q7a
  have p8a : h1 (u + 8) = jI 32 (fun j9 => zI (M.la j9)) := q8a
  have p9a : h1 (u + 9) = jI 32 (fun j9 => zI (M.ha j9)) := q9a
  have p10a : h1 (u + 10) = jI 4096 (fun j9 => zI (M.w1 j9)) := q10a
  have p11a : h1 (u + 11) = jI 4096 (fun j9 => zI (M.mr j9)) := q11a
  have p12a : h1 (u + 12) = jI 6 (fun j9 => zI (M.rw j9)) := q12a
  have p13a : h1 (u + 13) = jI 16 (fun j9 => zI (M.tu j9)) := q13a
  refine jl_iload_n d_Md_begin_5 rfl rfl ?_
  refine jl_iconst (v := zI (0)) d_Md_begin_6 (by decide) ?_
  refine jl_iconst (v := zI (2)) d_Md_begin_7 (by decide) ?_
  refine jl_invS (M' := m_Md_within) (d' := d - 1) (ck' := 0) (sk' := 0) (na := 3) (as := [.int (zI (a)), .int (zI (0)), .int (zI (2))]) (st := []) d_Md_begin_8 rfl mw_Md_61 ww_Md_within nw_Md cw_Md_within rfl rfl rfl (by decide +kernel) (by omega) (Nat.le_of_ble_eq_true rfl) (Nat.le_of_ble_eq_true rfl) ?_
  refine k_M_within hl9 (by omega) ⟨by omega, by omega⟩ ⟨by decide, by decide⟩ ⟨by decide, by decide⟩ (fun i1 => ?_) (fun i1 => ?_)
  · show jl_AW _ _ _ _ _ 11 [some (.ref (u)), some (.int (zI (a))), some (.int (zI (b))), none] [.int (zI (1))] n h1 _ _
    refine jz_if_eq (tgt := 36) d_Md_begin_11 (by decide) ⟨by decide, by decide⟩ (fun q9 => absurd q9 (by decide)) (fun _ => ?_)
    refine jl_iload_n d_Md_begin_14 rfl rfl ?_
    refine jl_iconst (v := zI (1)) d_Md_begin_15 (by decide) ?_
    refine jl_bipush (v := zI (16)) d_Md_begin_16 (by decide) ?_
    refine jl_invS (M' := m_Md_within) (d' := d - 1) (ck' := 0) (sk' := 0) (na := 3) (as := [.int (zI (b)), .int (zI (1)), .int (zI (16))]) (st := []) d_Md_begin_18 rfl mw_Md_61 ww_Md_within nw_Md cw_Md_within rfl rfl rfl (by decide +kernel) (by omega) (Nat.le_of_ble_eq_true rfl) (Nat.le_of_ble_eq_true rfl) ?_
    refine k_M_within hl9 (by omega) ⟨by omega, by omega⟩ ⟨by decide, by decide⟩ ⟨by decide, by decide⟩ (fun i2 => ?_) (fun i2 => ?_)
    · show jl_AW _ _ _ _ _ 21 [some (.ref (u)), some (.int (zI (a))), some (.int (zI (b))), none] [.int (zI (1))] n h1 _ _
      refine jz_if_eq (tgt := 36) d_Md_begin_21 (by decide) ⟨by decide, by decide⟩ (fun q9 => absurd q9 (by decide)) (fun _ => ?_)
      refine jl_iload_n d_Md_begin_24 rfl rfl ?_
      refine jl_iconst (v := zI (2)) d_Md_begin_25 (by decide) ?_
      refine jz_icmp_ne (tgt := 42) d_Md_begin_26 (by decide) ⟨by omega, by omega⟩ ⟨by omega, by omega⟩ (fun q1 => ?_) (fun q1 => ?_)
      · refine jl_aload_n d_Md_begin_42 rfl rfl ?_
        refine jg_6 (q := 2) d_Md_begin_43 p0a rfl (by decide) fw_Md_13 ?_
        refine jl_iconst (v := zI (0)) d_Md_begin_46 (by decide) ?_
        refine jz_iald d_Md_begin_47 p2a (by omega) (by omega) (by omega) ?_
        refine jl_istore_n (L' := [some (.ref (u)), some (.int (zI (a))), some (.int (zI (b))), some (.int (zI (M.pe (0 : Int).toNat)))]) d_Md_begin_48 rfl (by decide) rfl ?_
        refine jl_aload_n d_Md_begin_49 rfl rfl ?_
        refine jl_iconst (v := zI (0)) d_Md_begin_50 (by decide) ?_
        refine jl_iload_n d_Md_begin_51 rfl rfl ?_
        refine jl_iload_n d_Md_begin_52 rfl rfl ?_
        refine jl_invV (M' := m_Md_fresh) (d' := d - 1) (ck' := 0) (sk' := 0) (na := 3) (as := [.int (zI (0)), .int (zI (a)), .int (zI (b))]) (st := []) d_Md_begin_53 rfl p0a rfl mw_Md_54 ww_Md_fresh sw_Md_fresh nw_Md cw_Md_fresh rfl rfl rfl (by decide +kernel) (by omega) (Nat.le_of_ble_eq_true rfl) (Nat.le_of_ble_eq_true rfl) ?_
        refine k_M_fresh hl9 (by omega) hM1 (fun h2 hM2 hf2 => ?_)
        show jl_AW _ _ _ _ _ 56 [some (.ref (u)), some (.int (zI (a))), some (.int (zI (b))), some (.int (zI (M.pe (0 : Int).toNat)))] [] n h2 _ _
        refine jl_iload_n d_Md_begin_56 rfl rfl ?_
        exact jl_iret d_Md_begin_57 rfl (hk1 ⟨i1, i2, fun q => q1 q.1⟩ h2 hM2 (jfr_tr hf1 hf2))
      · refine jl_iload_n d_Md_begin_29 rfl rfl ?_
        refine jl_iconst (v := zI (2)) d_Md_begin_30 (by decide) ?_
        refine jz_irem (v := b % 2) d_Md_begin_31 ⟨by omega, by omega⟩ ⟨by omega, by omega⟩ (by omega) (Int.tmod_eq_emod_of_nonneg (by omega)) ?_
        refine jl_iconst (v := zI (1)) d_Md_begin_32 (by decide) ?_
        refine jz_icmp_ne (tgt := 42) d_Md_begin_33 (by decide) ⟨by omega, by omega⟩ ⟨by omega, by omega⟩ (fun q2 => ?_) (fun q2 => ?_)
        · refine jl_aload_n d_Md_begin_42 rfl rfl ?_
          refine jg_6 (q := 2) d_Md_begin_43 p0a rfl (by decide) fw_Md_13 ?_
          refine jl_iconst (v := zI (0)) d_Md_begin_46 (by decide) ?_
          refine jz_iald d_Md_begin_47 p2a (by omega) (by omega) (by omega) ?_
          refine jl_istore_n (L' := [some (.ref (u)), some (.int (zI (a))), some (.int (zI (b))), some (.int (zI (M.pe (0 : Int).toNat)))]) d_Md_begin_48 rfl (by decide) rfl ?_
          refine jl_aload_n d_Md_begin_49 rfl rfl ?_
          refine jl_iconst (v := zI (0)) d_Md_begin_50 (by decide) ?_
          refine jl_iload_n d_Md_begin_51 rfl rfl ?_
          refine jl_iload_n d_Md_begin_52 rfl rfl ?_
          refine jl_invV (M' := m_Md_fresh) (d' := d - 1) (ck' := 0) (sk' := 0) (na := 3) (as := [.int (zI (0)), .int (zI (a)), .int (zI (b))]) (st := []) d_Md_begin_53 rfl p0a rfl mw_Md_54 ww_Md_fresh sw_Md_fresh nw_Md cw_Md_fresh rfl rfl rfl (by decide +kernel) (by omega) (Nat.le_of_ble_eq_true rfl) (Nat.le_of_ble_eq_true rfl) ?_
          refine k_M_fresh hl9 (by omega) hM1 (fun h2 hM2 hf2 => ?_)
          show jl_AW _ _ _ _ _ 56 [some (.ref (u)), some (.int (zI (a))), some (.int (zI (b))), some (.int (zI (M.pe (0 : Int).toNat)))] [] n h2 _ _
          refine jl_iload_n d_Md_begin_56 rfl rfl ?_
          exact jl_iret d_Md_begin_57 rfl (hk1 ⟨i1, i2, fun q => q2 q.2⟩ h2 hM2 (jfr_tr hf1 hf2))
        · refine jl_aload_n d_Md_begin_36 rfl rfl ?_
          refine jl_iconst (v := zI (1)) d_Md_begin_37 (by decide) ?_
          refine jl_invV (M' := m_Md_fail) (d' := d - 1) (ck' := 0) (sk' := 0) (na := 1) (as := [.int (zI (1))]) (st := []) d_Md_begin_38 rfl p0a rfl mw_Md_65 ww_Md_fail sw_Md_fail nw_Md cw_Md_fail rfl rfl rfl (by decide +kernel) (by omega) (Nat.le_of_ble_eq_true rfl) (Nat.le_of_ble_eq_true rfl) ?_
          refine k_M_fail hl9 (by omega) hM1 (fun h2 hM2 hf2 => ?_)
          show jl_AW _ _ _ _ _ 41 [some (.ref (u)), some (.int (zI (a))), some (.int (zI (b))), none] [.int (zI (0))] n h2 _ _
          exact jl_iret d_Md_begin_41 rfl (hk0 (fun q => q.2.2 ⟨q1, q2⟩) h2 hM2 (jfr_tr hf1 hf2))
    · show jl_AW _ _ _ _ _ 21 [some (.ref (u)), some (.int (zI (a))), some (.int (zI (b))), none] [.int (zI (0))] n h1 _ _
      refine jz_if_eq (tgt := 36) d_Md_begin_21 (by decide) ⟨by decide, by decide⟩ (fun _ => ?_) (fun q9 => absurd q9 (by decide))
      refine jl_aload_n d_Md_begin_36 rfl rfl ?_
      refine jl_iconst (v := zI (1)) d_Md_begin_37 (by decide) ?_
      refine jl_invV (M' := m_Md_fail) (d' := d - 1) (ck' := 0) (sk' := 0) (na := 1) (as := [.int (zI (1))]) (st := []) d_Md_begin_38 rfl p0a rfl mw_Md_65 ww_Md_fail sw_Md_fail nw_Md cw_Md_fail rfl rfl rfl (by decide +kernel) (by omega) (Nat.le_of_ble_eq_true rfl) (Nat.le_of_ble_eq_true rfl) ?_
      refine k_M_fail hl9 (by omega) hM1 (fun h2 hM2 hf2 => ?_)
      show jl_AW _ _ _ _ _ 41 [some (.ref (u)), some (.int (zI (a))), some (.int (zI (b))), none] [.int (zI (0))] n h2 _ _
      exact jl_iret d_Md_begin_41 rfl (hk0 (fun q => i2 q.2.1) h2 hM2 (jfr_tr hf1 hf2))
  · show jl_AW _ _ _ _ _ 11 [some (.ref (u)), some (.int (zI (a))), some (.int (zI (b))), none] [.int (zI (0))] n h1 _ _
    refine jz_if_eq (tgt := 36) d_Md_begin_11 (by decide) ⟨by decide, by decide⟩ (fun _ => ?_) (fun q9 => absurd q9 (by decide))
    refine jl_aload_n d_Md_begin_36 rfl rfl ?_
    refine jl_iconst (v := zI (1)) d_Md_begin_37 (by decide) ?_
    refine jl_invV (M' := m_Md_fail) (d' := d - 1) (ck' := 0) (sk' := 0) (na := 1) (as := [.int (zI (1))]) (st := []) d_Md_begin_38 rfl p0a rfl mw_Md_65 ww_Md_fail sw_Md_fail nw_Md cw_Md_fail rfl rfl rfl (by decide +kernel) (by omega) (Nat.le_of_ble_eq_true rfl) (Nat.le_of_ble_eq_true rfl) ?_
    refine k_M_fail hl9 (by omega) hM1 (fun h2 hM2 hf2 => ?_)
    show jl_AW _ _ _ _ _ 41 [some (.ref (u)), some (.int (zI (a))), some (.int (zI (b))), none] [.int (zI (0))] n h2 _ _
    exact jl_iret d_Md_begin_41 rfl (hk0 (fun q => i1 q.1) h2 hM2 (jfr_tr hf1 hf2))
set_option maxHeartbeats 4000000 in
set_option maxRecDepth 100000 in
theorem k_M_put {l : Launch} {G : jl_G} {d n : Nat} {h : Nat → va_E} {Kr : Option Value → Nat → (Nat → va_E) → Prop} {Kx : String → Nat → (Nat → va_E) → Prop} (hl9 : l.stackTraces = false) (hdd : 2 ≤ d) {u : Nat} {M : MS} {a b c : Int} (hM9 : jM h u M) (ok : mOk M) (ha : zR a) (hb : zR b) (hc9 : c = 0 ∨ c = 1) (hk0 : 0 ≤ a ∧ a < M.pe (0 : Int).toNat → (0 ≤ b ∧ b ≤ 9) ∧ ¬ (M.mo (0 : Int).toNat = 2 ∧ b % 2 = 1) ∧ ¬ (¬ c = 0 ∧ ¬ M.mo (0 : Int).toNat = 2) → ∀ h', jM h' u (((M.wT 0).whe (va_up M.he (a * 3).toNat b)).wcr (va_up M.cr (a).toNat c)) → jfr h h' u (u + 14) → Kr (some (.int (zI (hM M 0 (a * 3 + 0).toNat)))) n h') (hk1 : ¬ (0 ≤ a ∧ a < M.pe (0 : Int).toNat) → ∀ h', jM h' u (M.wT 1) → jfr h h' u (u + 14) → Kr (some (.int (zI (0)))) n h') (hk2 : 0 ≤ a ∧ a < M.pe (0 : Int).toNat → ¬ ((0 ≤ b ∧ b ≤ 9) ∧ ¬ (M.mo (0 : Int).toNat = 2 ∧ b % 2 = 1) ∧ ¬ (¬ c = 0 ∧ ¬ M.mo (0 : Int).toNat = 2)) → ∀ h', jM h' u (M.wT 2) → jfr h h' u (u + 14) → Kr (some (.int (zI (0)))) n h') : jl_Call l G m_Md_put d [.ref (u), .int (zI (a)), .int (zI (b)), .int (zI (c))] n h 0 0 Kr Kx := by
  refine jl_enter hl9 (by decide) rfl (by simp [Value.category]) (Nat.le_of_ble_eq_true rfl) ?_
  show jl_AW l G (jl_F G Kr Kx) m_Md_put d 0 [some (.ref (u)), some (.int (zI (a))), some (.int (zI (b))), some (.int (zI (c))), none] [] n h 0 0
  have hm0 := ok.1 (0 : Int).toNat
  have hp0 := ok.2.1 (0 : Int).toNat
  obtain ⟨q0, q1, q2, q3, q4, q5, q6, q7, q8, q9, q10, q11, q12, q13⟩ := id (hM9)
  have p0 : h u = jO 6 [.int (zI (M.T)), .ref (u + 1), .ref (u + 2), .ref (u + 3), .ref (u + 4), .ref (u + 5), .int (zI (M.jn)), .int (zI (M.ja)), .int (zI (M.jb)), .ref (u + 6), .ref (u + 7), .int (zI (M.nw)), .int (zI (M.bl)), .int (zI (M.lt)), .int (zI (M.rt)), .ref (u + 8), .ref (u + 9), .ref (u + 10), .ref (u + 11), .ref (u + 12), .ref (u + 13)] := q0
  have p1 : h (u + 1) = jI 8 (fun j9 => zI (M.mo j9)) := q1
  have p2 : h (u + 2) = jI 8 (fun j9 => zI (M.pe j9)) := q2
  have p3 : h (u + 3) = jI 128 (fun j9 => zI (M.co j9)) := q3
  have p4 : h (u + 4) = jI 384 (fun j9 => zI (M.he j9)) := q4
  have p5 : h (u + 5) = jZ 128 (fun j9 => zI (M.cr j9)) := q5
  have p6 : h (u + 6) = jI 16 (fun j9 => zI (M.wy j9)) := q6
  have p7 : h (u + 7) = jI 512 (fun j9 => zI (M.fa j9)) := q7
  have p8 : h (u + 8) = jI 32 (fun j9 => zI (M.la j9)) := q8
  have p9 : h (u + 9) = jI 32 (fun j9 => zI (M.ha j9)) := q9
  have p10 : h (u + 10) = jI 4096 (fun j9 => zI (M.w1 j9)) := q10
  have p11 : h (u + 11) = jI 4096 (fun j9 => zI (M.mr j9)) := q11
  have p12 : h (u + 12) = jI 6 (fun j9 => zI (M.rw j9)) := q12
  have p13 : h (u + 13) = jI 16 (fun j9 => zI (M.tu j9)) := q13
  refine jl_aload_n d_Md_put_0 rfl rfl ?_
  refine jl_iconst (v := zI (0)) d_Md_put_1 (by decide) ?_
  refine jp_6 (q := 0) (ty := .int) d_Md_put_2 p0 (by simp) (by decide) fw_Md_58 rfl (by decide +kernel) (fun _ _ => rfl) (fun _ _ => rfl) (fun h1 eh1 => ?_)
  have eh1 : h1 = va_up h (u) (jO 6 [.int (zI (0)), .ref (u + 1), .ref (u + 2), .ref (u + 3), .ref (u + 4), .ref (u + 5), .int (zI (M.jn)), .int (zI (M.ja)), .int (zI (M.jb)), .ref (u + 6), .ref (u + 7), .int (zI (M.nw)), .int (zI (M.bl)), .int (zI (M.lt)), .int (zI (M.rt)), .ref (u + 8), .ref (u + 9), .ref (u + 10), .ref (u + 11), .ref (u + 12), .ref (u + 13)]) := eh1
  have jf2 : h1 (u) = jO 6 [.int (zI (0)), .ref (u + 1), .ref (u + 2), .ref (u + 3), .ref (u + 4), .ref (u + 5), .int (zI (M.jn)), .int (zI (M.ja)), .int (zI (M.jb)), .ref (u + 6), .ref (u + 7), .int (zI (M.nw)), .int (zI (M.bl)), .int (zI (M.lt)), .int (zI (M.rt)), .ref (u + 8), .ref (u + 9), .ref (u + 10), .ref (u + 11), .ref (u + 12), .ref (u + 13)] := by rw [eh1, va_up_self]
  have jf3 : h1 (u + 1) = jI 8 (fun j9 => zI (M.mo j9)) := by rw [eh1, va_up_ne _ _ (by omega)]; exact p1
  have jf4 : h1 (u + 2) = jI 8 (fun j9 => zI (M.pe j9)) := by rw [eh1, va_up_ne _ _ (by omega)]; exact p2
  have jf5 : h1 (u + 3) = jI 128 (fun j9 => zI (M.co j9)) := by rw [eh1, va_up_ne _ _ (by omega)]; exact p3
  have jf6 : h1 (u + 4) = jI 384 (fun j9 => zI (M.he j9)) := by rw [eh1, va_up_ne _ _ (by omega)]; exact p4
  have jf7 : h1 (u + 5) = jZ 128 (fun j9 => zI (M.cr j9)) := by rw [eh1, va_up_ne _ _ (by omega)]; exact p5
  have jf8 : h1 (u + 6) = jI 16 (fun j9 => zI (M.wy j9)) := by rw [eh1, va_up_ne _ _ (by omega)]; exact p6
  have jf9 : h1 (u + 7) = jI 512 (fun j9 => zI (M.fa j9)) := by rw [eh1, va_up_ne _ _ (by omega)]; exact p7
  have jf10 : h1 (u + 8) = jI 32 (fun j9 => zI (M.la j9)) := by rw [eh1, va_up_ne _ _ (by omega)]; exact p8
  have jf11 : h1 (u + 9) = jI 32 (fun j9 => zI (M.ha j9)) := by rw [eh1, va_up_ne _ _ (by omega)]; exact p9
  have jf12 : h1 (u + 10) = jI 4096 (fun j9 => zI (M.w1 j9)) := by rw [eh1, va_up_ne _ _ (by omega)]; exact p10
  have jf13 : h1 (u + 11) = jI 4096 (fun j9 => zI (M.mr j9)) := by rw [eh1, va_up_ne _ _ (by omega)]; exact p11
  have jf14 : h1 (u + 12) = jI 6 (fun j9 => zI (M.rw j9)) := by rw [eh1, va_up_ne _ _ (by omega)]; exact p12
  have jf15 : h1 (u + 13) = jI 16 (fun j9 => zI (M.tu j9)) := by rw [eh1, va_up_ne _ _ (by omega)]; exact p13
  have hM1 : jM h1 u (M.wT 0) := ⟨jf2, jf3, jf4, jf5, jf6, jf7, jf8, jf9, jf10, jf11, jf12, jf13, jf14, jf15⟩
  have hf1 : jfr h h1 u (u + 14) := (fun y hy => by rw [eh1, va_up_ne _ _ (by omega)])
  obtain ⟨q0a, q1a, q2a, q3a, q4a, q5a, q6a, q7a, q8a, q9a, q10a, q11a, q12a, q13a⟩ := id (hM1)
  have p0a : h1 u = jO 6 [.int (zI (0)), .ref (u + 1), .ref (u + 2), .ref (u + 3), .ref (u + 4), .ref (u + 5), .int (zI (M.jn)), .int (zI (M.ja)), .int (zI (M.jb)), .ref (u + 6), .ref (u + 7), .int (zI (M.nw)), .int (zI (M.bl)), .int (zI (M.lt)), .int (zI (M.rt)), .ref (u + 8), .ref (u + 9), .ref (u + 10), .ref (u + 11), .ref (u + 12), .ref (u + 13)] := q0a
  have p1a : h1 (u + 1) = jI 8 (fun j9 => zI (M.mo j9)) := q1a
  have p2a : h1 (u + 2) = jI 8 (fun j9 => zI (M.pe j9)) := q2a
  have p3a : h1 (u + 3) = jI 128 (fun j9 => zI (M.co j9)) := q3a
  have p4a : h1 (u + 4) = jI 384 (fun j9 => zI (M.he j9)) := q4a
  have p5a : h1 (u + 5) = jZ 128 (fun j9 => zI (M.cr j9)) := q5a
  have p6a : h1 (u + 6) = jI 16 (fun j9 => zI (M.wy j9)) := q6a
  have p7a : h1 (u + 7) = jI 512 (fun j9 => zI (M.fa j9)) := q7a
  have p8a : h1 (u + 8) = jI 32 (fun j9 => zI (M.la j9)) := q8a
  have p9a : h1 (u + 9) = jI 32 (fun j9 => zI (M.ha j9)) := q9a
  have p10a : h1 (u + 10) = jI 4096 (fun j9 => zI (M.w1 j9)) := q10a
  have p11a : h1 (u + 11) = jI 4096 (fun j9 => zI (M.mr j9)) := q11a
  have p12a : h1 (u + 12) = jI 6 (fun j9 => zI (M.rw j9)) := q12a
  have p13a : h1 (u + 13) = jI 16 (fun j9 => zI (M.tu j9)) := q13a
  refine jl_aload_n d_Md_put_5 rfl rfl ?_
  refine jl_iload_n d_Md_put_6 rfl rfl ?_
  refine jl_invV (M' := m_Md_noSite) (d' := d - 1) (ck' := 0) (sk' := 0) (na := 1) (as := [.int (zI (a))]) (st := []) d_Md_put_7 rfl p0a rfl mw_Md_69 ww_Md_noSite sw_Md_noSite nw_Md cw_Md_noSite rfl rfl rfl (by decide +kernel) (by omega) (Nat.le_of_ble_eq_true rfl) (Nat.le_of_ble_eq_true rfl) ?_
  refine k_M_noSite hl9 (by omega) hM1 ok ha (fun i1 => ?_) (fun i1 => ?_)
  · show jl_AW _ _ _ _ _ 10 [some (.ref (u)), some (.int (zI (a))), some (.int (zI (b))), some (.int (zI (c))), none] [.int (zI (0))] n h1 _ _
    refine jz_if_eq (tgt := 19) d_Md_put_10 (by decide) ⟨by decide, by decide⟩ (fun _ => ?_) (fun q9 => absurd q9 (by decide))
    have i1 : 0 ≤ a ∧ a < M.pe (0 : Int).toNat := i1
    refine jl_iload_n d_Md_put_19 rfl rfl ?_
    refine jl_iconst (v := zI (0)) d_Md_put_20 (by decide) ?_
    refine jl_bipush (v := zI (9)) d_Md_put_21 (by decide) ?_
    refine jl_invS (M' := m_Md_within) (d' := d - 1) (ck' := 0) (sk' := 0) (na := 3) (as := [.int (zI (b)), .int (zI (0)), .int (zI (9))]) (st := []) d_Md_put_23 rfl mw_Md_61 ww_Md_within nw_Md cw_Md_within rfl rfl rfl (by decide +kernel) (by omega) (Nat.le_of_ble_eq_true rfl) (Nat.le_of_ble_eq_true rfl) ?_
    refine k_M_within hl9 (by omega) hb ⟨by decide, by decide⟩ ⟨by decide, by decide⟩ (fun i2 => ?_) (fun i2 => ?_)
    · show jl_AW _ _ _ _ _ 26 [some (.ref (u)), some (.int (zI (a))), some (.int (zI (b))), some (.int (zI (c))), none] [.int (zI (1))] n h1 _ _
      refine jz_if_eq (tgt := 60) d_Md_put_26 (by decide) ⟨by decide, by decide⟩ (fun q9 => absurd q9 (by decide)) (fun _ => ?_)
      refine jl_aload_n d_Md_put_29 rfl rfl ?_
      refine jg_6 (q := 1) d_Md_put_30 p0a rfl (by decide) fw_Md_7 ?_
      refine jl_iconst (v := zI (0)) d_Md_put_33 (by decide) ?_
      refine jz_iald d_Md_put_34 p1a (by omega) (by omega) (by omega) ?_
      refine jl_iconst (v := zI (2)) d_Md_put_35 (by decide) ?_
      refine jz_icmp_ne (tgt := 46) d_Md_put_36 (by decide) ⟨by omega, by omega⟩ ⟨by omega, by omega⟩ (fun q1 => ?_) (fun q1 => ?_)
      · refine jl_iload_n d_Md_put_46 rfl rfl ?_
        refine jz_if_eq (tgt := 66) d_Md_put_47 (by decide) ⟨by omega, by omega⟩ (fun q3 => ?_) (fun q3 => ?_)
        · refine jl_aload_n d_Md_put_66 rfl rfl ?_
          refine jl_iconst (v := zI (0)) d_Md_put_67 (by decide) ?_
          refine jl_iload_n d_Md_put_68 rfl rfl ?_
          refine jl_iconst (v := zI (0)) d_Md_put_69 (by decide) ?_
          refine jl_invV (M' := m_Md_tall) (d' := d - 1) (ck' := 0) (sk' := 0) (na := 3) (as := [.int (zI (0)), .int (zI (a)), .int (zI (0))]) (st := []) d_Md_put_70 rfl p0a rfl mw_Md_73 ww_Md_tall sw_Md_tall nw_Md cw_Md_tall rfl rfl rfl (by decide +kernel) (by omega) (Nat.le_of_ble_eq_true rfl) (Nat.le_of_ble_eq_true rfl) ?_
          refine k_M_tall hl9 (by omega) hM1 ⟨by omega, by omega⟩ ⟨by omega, by omega⟩ ⟨by omega, by omega⟩ ?_
          show jl_AW _ _ _ _ _ 73 [some (.ref (u)), some (.int (zI (a))), some (.int (zI (b))), some (.int (zI (c))), none] [.int (zI (hM M 0 (a * 3 + 0).toNat))] n h1 _ _
          refine jl_istore (L' := [some (.ref (u)), some (.int (zI (a))), some (.int (zI (b))), some (.int (zI (c))), some (.int (zI (hM M 0 (a * 3 + 0).toNat)))]) d_Md_put_73 (by decide) rfl ?_
          refine jl_aload_n d_Md_put_75 rfl rfl ?_
          refine jg_6 (q := 4) d_Md_put_76 p0a rfl (by decide) fw_Md_19 ?_
          refine jl_iconst (v := zI (3)) d_Md_put_79 (by decide) ?_
          refine jl_iload_n d_Md_put_80 rfl rfl ?_
          refine jz_imul (v := a * 3) d_Md_put_81 (by omega) ?_
          refine jl_iload_n d_Md_put_82 rfl rfl ?_
          refine jz_iasth d_Md_put_83 p4a (by omega) (by omega) (by omega) (fun h16 eh16 => ?_)
          have jf17 : h16 (u + 4) = jI 384 (fun j9 => zI ((va_up (M.he) (a * 3).toNat (b)) j9)) := by rw [eh16, va_up_self]
          refine jl_aload_n d_Md_put_84 rfl rfl ?_
          have jf18 : h16 (u) = jO 6 [.int (zI (0)), .ref (u + 1), .ref (u + 2), .ref (u + 3), .ref (u + 4), .ref (u + 5), .int (zI (M.jn)), .int (zI (M.ja)), .int (zI (M.jb)), .ref (u + 6), .ref (u + 7), .int (zI (M.nw)), .int (zI (M.bl)), .int (zI (M.lt)), .int (zI (M.rt)), .ref (u + 8), .ref (u + 9), .ref (u + 10), .ref (u + 11), .ref (u + 12), .ref (u + 13)] := by rw [eh16, va_up_ne _ _ (by omega)]; exact p0a
          refine jg_6 (q := 5) d_Md_put_85 jf18 rfl (by decide) fw_Md_22 ?_
          refine jl_iload_n d_Md_put_88 rfl rfl ?_
          refine jl_iload_n d_Md_put_89 rfl rfl ?_
          have jf19 : h16 (u + 5) = jZ 128 (fun j9 => zI (M.cr j9)) := by rw [eh16, va_up_ne _ _ (by omega)]; exact p5a
          refine jz_zasth hc9 d_Md_put_90 jf19 (by omega) (by omega) (by omega) (fun h20 eh20 => ?_)
          have jf21 : h20 (u + 5) = jZ 128 (fun j9 => zI ((va_up M.cr (a).toNat (c)) j9)) := by rw [eh20, va_up_self]
          refine jl_iload d_Md_put_91 rfl ?_
          have jf22 : h20 (u) = jO 6 [.int (zI (0)), .ref (u + 1), .ref (u + 2), .ref (u + 3), .ref (u + 4), .ref (u + 5), .int (zI (M.jn)), .int (zI (M.ja)), .int (zI (M.jb)), .ref (u + 6), .ref (u + 7), .int (zI (M.nw)), .int (zI (M.bl)), .int (zI (M.lt)), .int (zI (M.rt)), .ref (u + 8), .ref (u + 9), .ref (u + 10), .ref (u + 11), .ref (u + 12), .ref (u + 13)] := by rw [eh20, va_up_ne _ _ (by omega)]; exact jf18
          have jf23 : h20 (u + 1) = jI 8 (fun j9 => zI (M.mo j9)) := by rw [eh20, va_up_ne _ _ (by omega), eh16, va_up_ne _ _ (by omega)]; exact p1a
          have jf24 : h20 (u + 2) = jI 8 (fun j9 => zI (M.pe j9)) := by rw [eh20, va_up_ne _ _ (by omega), eh16, va_up_ne _ _ (by omega)]; exact p2a
          have jf25 : h20 (u + 3) = jI 128 (fun j9 => zI (M.co j9)) := by rw [eh20, va_up_ne _ _ (by omega), eh16, va_up_ne _ _ (by omega)]; exact p3a
          have jf26 : h20 (u + 4) = jI 384 (fun j9 => zI ((va_up (M.he) (a * 3).toNat (b)) j9)) := by rw [eh20, va_up_ne _ _ (by omega)]; exact jf17
          have jf27 : h20 (u + 6) = jI 16 (fun j9 => zI (M.wy j9)) := by rw [eh20, va_up_ne _ _ (by omega), eh16, va_up_ne _ _ (by omega)]; exact p6a
          have jf28 : h20 (u + 7) = jI 512 (fun j9 => zI (M.fa j9)) := by rw [eh20, va_up_ne _ _ (by omega), eh16, va_up_ne _ _ (by omega)]; exact p7a
          have jf29 : h20 (u + 8) = jI 32 (fun j9 => zI (M.la j9)) := by rw [eh20, va_up_ne _ _ (by omega), eh16, va_up_ne _ _ (by omega)]; exact p8a
          have jf30 : h20 (u + 9) = jI 32 (fun j9 => zI (M.ha j9)) := by rw [eh20, va_up_ne _ _ (by omega), eh16, va_up_ne _ _ (by omega)]; exact p9a
          have jf31 : h20 (u + 10) = jI 4096 (fun j9 => zI (M.w1 j9)) := by rw [eh20, va_up_ne _ _ (by omega), eh16, va_up_ne _ _ (by omega)]; exact p10a
          have jf32 : h20 (u + 11) = jI 4096 (fun j9 => zI (M.mr j9)) := by rw [eh20, va_up_ne _ _ (by omega), eh16, va_up_ne _ _ (by omega)]; exact p11a
          have jf33 : h20 (u + 12) = jI 6 (fun j9 => zI (M.rw j9)) := by rw [eh20, va_up_ne _ _ (by omega), eh16, va_up_ne _ _ (by omega)]; exact p12a
          have jf34 : h20 (u + 13) = jI 16 (fun j9 => zI (M.tu j9)) := by rw [eh20, va_up_ne _ _ (by omega), eh16, va_up_ne _ _ (by omega)]; exact p13a
          exact jl_iret d_Md_put_93 rfl (hk0 i1 ⟨i2, (fun q => q1 q.1), fun q => q.1 q3⟩ h20 ⟨jf22, jf23, jf24, jf25, jf26, jf21, jf27, jf28, jf29, jf30, jf31, jf32, jf33, jf34⟩ (jfr_tr hf1 (fun y hy => by rw [eh20, va_up_ne _ _ (by omega), eh16, va_up_ne _ _ (by omega)])))
        · refine jl_aload_n d_Md_put_50 rfl rfl ?_
          refine jg_6 (q := 1) d_Md_put_51 p0a rfl (by decide) fw_Md_7 ?_
          refine jl_iconst (v := zI (0)) d_Md_put_54 (by decide) ?_
          refine jz_iald d_Md_put_55 p1a (by omega) (by omega) (by omega) ?_
          refine jl_iconst (v := zI (2)) d_Md_put_56 (by decide) ?_
          refine jz_icmp_eq (tgt := 66) d_Md_put_57 (by decide) ⟨by omega, by omega⟩ ⟨by omega, by omega⟩ (fun q4 => ?_) (fun q4 => ?_)
          · refine jl_aload_n d_Md_put_66 rfl rfl ?_
            refine jl_iconst (v := zI (0)) d_Md_put_67 (by decide) ?_
            refine jl_iload_n d_Md_put_68 rfl rfl ?_
            refine jl_iconst (v := zI (0)) d_Md_put_69 (by decide) ?_
            refine jl_invV (M' := m_Md_tall) (d' := d - 1) (ck' := 0) (sk' := 0) (na := 3) (as := [.int (zI (0)), .int (zI (a)), .int (zI (0))]) (st := []) d_Md_put_70 rfl p0a rfl mw_Md_73 ww_Md_tall sw_Md_tall nw_Md cw_Md_tall rfl rfl rfl (by decide +kernel) (by omega) (Nat.le_of_ble_eq_true rfl) (Nat.le_of_ble_eq_true rfl) ?_
            refine k_M_tall hl9 (by omega) hM1 ⟨by omega, by omega⟩ ⟨by omega, by omega⟩ ⟨by omega, by omega⟩ ?_
            show jl_AW _ _ _ _ _ 73 [some (.ref (u)), some (.int (zI (a))), some (.int (zI (b))), some (.int (zI (c))), none] [.int (zI (hM M 0 (a * 3 + 0).toNat))] n h1 _ _
            refine jl_istore (L' := [some (.ref (u)), some (.int (zI (a))), some (.int (zI (b))), some (.int (zI (c))), some (.int (zI (hM M 0 (a * 3 + 0).toNat)))]) d_Md_put_73 (by decide) rfl ?_
            refine jl_aload_n d_Md_put_75 rfl rfl ?_
            refine jg_6 (q := 4) d_Md_put_76 p0a rfl (by decide) fw_Md_19 ?_
            refine jl_iconst (v := zI (3)) d_Md_put_79 (by decide) ?_
            refine jl_iload_n d_Md_put_80 rfl rfl ?_
            refine jz_imul (v := a * 3) d_Md_put_81 (by omega) ?_
            refine jl_iload_n d_Md_put_82 rfl rfl ?_
            refine jz_iasth d_Md_put_83 p4a (by omega) (by omega) (by omega) (fun h16 eh16 => ?_)
            have jf17 : h16 (u + 4) = jI 384 (fun j9 => zI ((va_up (M.he) (a * 3).toNat (b)) j9)) := by rw [eh16, va_up_self]
            refine jl_aload_n d_Md_put_84 rfl rfl ?_
            have jf18 : h16 (u) = jO 6 [.int (zI (0)), .ref (u + 1), .ref (u + 2), .ref (u + 3), .ref (u + 4), .ref (u + 5), .int (zI (M.jn)), .int (zI (M.ja)), .int (zI (M.jb)), .ref (u + 6), .ref (u + 7), .int (zI (M.nw)), .int (zI (M.bl)), .int (zI (M.lt)), .int (zI (M.rt)), .ref (u + 8), .ref (u + 9), .ref (u + 10), .ref (u + 11), .ref (u + 12), .ref (u + 13)] := by rw [eh16, va_up_ne _ _ (by omega)]; exact p0a
            refine jg_6 (q := 5) d_Md_put_85 jf18 rfl (by decide) fw_Md_22 ?_
            refine jl_iload_n d_Md_put_88 rfl rfl ?_
            refine jl_iload_n d_Md_put_89 rfl rfl ?_
            have jf19 : h16 (u + 5) = jZ 128 (fun j9 => zI (M.cr j9)) := by rw [eh16, va_up_ne _ _ (by omega)]; exact p5a
            refine jz_zasth hc9 d_Md_put_90 jf19 (by omega) (by omega) (by omega) (fun h20 eh20 => ?_)
            have jf21 : h20 (u + 5) = jZ 128 (fun j9 => zI ((va_up M.cr (a).toNat (c)) j9)) := by rw [eh20, va_up_self]
            refine jl_iload d_Md_put_91 rfl ?_
            have jf22 : h20 (u) = jO 6 [.int (zI (0)), .ref (u + 1), .ref (u + 2), .ref (u + 3), .ref (u + 4), .ref (u + 5), .int (zI (M.jn)), .int (zI (M.ja)), .int (zI (M.jb)), .ref (u + 6), .ref (u + 7), .int (zI (M.nw)), .int (zI (M.bl)), .int (zI (M.lt)), .int (zI (M.rt)), .ref (u + 8), .ref (u + 9), .ref (u + 10), .ref (u + 11), .ref (u + 12), .ref (u + 13)] := by rw [eh20, va_up_ne _ _ (by omega)]; exact jf18
            have jf23 : h20 (u + 1) = jI 8 (fun j9 => zI (M.mo j9)) := by rw [eh20, va_up_ne _ _ (by omega), eh16, va_up_ne _ _ (by omega)]; exact p1a
            have jf24 : h20 (u + 2) = jI 8 (fun j9 => zI (M.pe j9)) := by rw [eh20, va_up_ne _ _ (by omega), eh16, va_up_ne _ _ (by omega)]; exact p2a
            have jf25 : h20 (u + 3) = jI 128 (fun j9 => zI (M.co j9)) := by rw [eh20, va_up_ne _ _ (by omega), eh16, va_up_ne _ _ (by omega)]; exact p3a
            have jf26 : h20 (u + 4) = jI 384 (fun j9 => zI ((va_up (M.he) (a * 3).toNat (b)) j9)) := by rw [eh20, va_up_ne _ _ (by omega)]; exact jf17
            have jf27 : h20 (u + 6) = jI 16 (fun j9 => zI (M.wy j9)) := by rw [eh20, va_up_ne _ _ (by omega), eh16, va_up_ne _ _ (by omega)]; exact p6a
            have jf28 : h20 (u + 7) = jI 512 (fun j9 => zI (M.fa j9)) := by rw [eh20, va_up_ne _ _ (by omega), eh16, va_up_ne _ _ (by omega)]; exact p7a
            have jf29 : h20 (u + 8) = jI 32 (fun j9 => zI (M.la j9)) := by rw [eh20, va_up_ne _ _ (by omega), eh16, va_up_ne _ _ (by omega)]; exact p8a
            have jf30 : h20 (u + 9) = jI 32 (fun j9 => zI (M.ha j9)) := by rw [eh20, va_up_ne _ _ (by omega), eh16, va_up_ne _ _ (by omega)]; exact p9a
            have jf31 : h20 (u + 10) = jI 4096 (fun j9 => zI (M.w1 j9)) := by rw [eh20, va_up_ne _ _ (by omega), eh16, va_up_ne _ _ (by omega)]; exact p10a
            have jf32 : h20 (u + 11) = jI 4096 (fun j9 => zI (M.mr j9)) := by rw [eh20, va_up_ne _ _ (by omega), eh16, va_up_ne _ _ (by omega)]; exact p11a
            have jf33 : h20 (u + 12) = jI 6 (fun j9 => zI (M.rw j9)) := by rw [eh20, va_up_ne _ _ (by omega), eh16, va_up_ne _ _ (by omega)]; exact p12a
            have jf34 : h20 (u + 13) = jI 16 (fun j9 => zI (M.tu j9)) := by rw [eh20, va_up_ne _ _ (by omega), eh16, va_up_ne _ _ (by omega)]; exact p13a
            exact jl_iret d_Md_put_93 rfl (hk0 i1 ⟨i2, (fun q => q1 q.1), fun q => q.2 q4⟩ h20 ⟨jf22, jf23, jf24, jf25, jf26, jf21, jf27, jf28, jf29, jf30, jf31, jf32, jf33, jf34⟩ (jfr_tr hf1 (fun y hy => by rw [eh20, va_up_ne _ _ (by omega), eh16, va_up_ne _ _ (by omega)])))
          · refine jl_aload_n d_Md_put_60 rfl rfl ?_
            refine jl_iconst (v := zI (2)) d_Md_put_61 (by decide) ?_
            refine jl_invV (M' := m_Md_fail) (d' := d - 1) (ck' := 0) (sk' := 0) (na := 1) (as := [.int (zI (2))]) (st := []) d_Md_put_62 rfl p0a rfl mw_Md_65 ww_Md_fail sw_Md_fail nw_Md cw_Md_fail rfl rfl rfl (by decide +kernel) (by omega) (Nat.le_of_ble_eq_true rfl) (Nat.le_of_ble_eq_true rfl) ?_
            refine k_M_fail hl9 (by omega) hM1 (fun h2 hM2 hf2 => ?_)
            show jl_AW _ _ _ _ _ 65 [some (.ref (u)), some (.int (zI (a))), some (.int (zI (b))), some (.int (zI (c))), none] [.int (zI (0))] n h2 _ _
            exact jl_iret d_Md_put_65 rfl (hk2 i1 (fun q => q.2.2 ⟨q3, q4⟩) h2 hM2 (jfr_tr hf1 hf2))
      · refine jl_iload_n d_Md_put_39 rfl rfl ?_
        refine jl_iconst (v := zI (2)) d_Md_put_40 (by decide) ?_
        refine jz_irem (v := b % 2) d_Md_put_41 ⟨by omega, by omega⟩ ⟨by omega, by omega⟩ (by omega) (Int.tmod_eq_emod_of_nonneg (by omega)) ?_
        refine jl_iconst (v := zI (1)) d_Md_put_42 (by decide) ?_
        refine jz_icmp_eq (tgt := 60) d_Md_put_43 (by decide) ⟨by omega, by omega⟩ ⟨by omega, by omega⟩ (fun q2 => ?_) (fun q2 => ?_)
        · refine jl_aload_n d_Md_put_60 rfl rfl ?_
          refine jl_iconst (v := zI (2)) d_Md_put_61 (by decide) ?_
          refine jl_invV (M' := m_Md_fail) (d' := d - 1) (ck' := 0) (sk' := 0) (na := 1) (as := [.int (zI (2))]) (st := []) d_Md_put_62 rfl p0a rfl mw_Md_65 ww_Md_fail sw_Md_fail nw_Md cw_Md_fail rfl rfl rfl (by decide +kernel) (by omega) (Nat.le_of_ble_eq_true rfl) (Nat.le_of_ble_eq_true rfl) ?_
          refine k_M_fail hl9 (by omega) hM1 (fun h2 hM2 hf2 => ?_)
          show jl_AW _ _ _ _ _ 65 [some (.ref (u)), some (.int (zI (a))), some (.int (zI (b))), some (.int (zI (c))), none] [.int (zI (0))] n h2 _ _
          exact jl_iret d_Md_put_65 rfl (hk2 i1 (fun q => q.2.1 ⟨q1, q2⟩) h2 hM2 (jfr_tr hf1 hf2))
        · refine jl_iload_n d_Md_put_46 rfl rfl ?_
          refine jz_if_eq (tgt := 66) d_Md_put_47 (by decide) ⟨by omega, by omega⟩ (fun q3 => ?_) (fun q3 => ?_)
          · refine jl_aload_n d_Md_put_66 rfl rfl ?_
            refine jl_iconst (v := zI (0)) d_Md_put_67 (by decide) ?_
            refine jl_iload_n d_Md_put_68 rfl rfl ?_
            refine jl_iconst (v := zI (0)) d_Md_put_69 (by decide) ?_
            refine jl_invV (M' := m_Md_tall) (d' := d - 1) (ck' := 0) (sk' := 0) (na := 3) (as := [.int (zI (0)), .int (zI (a)), .int (zI (0))]) (st := []) d_Md_put_70 rfl p0a rfl mw_Md_73 ww_Md_tall sw_Md_tall nw_Md cw_Md_tall rfl rfl rfl (by decide +kernel) (by omega) (Nat.le_of_ble_eq_true rfl) (Nat.le_of_ble_eq_true rfl) ?_
            refine k_M_tall hl9 (by omega) hM1 ⟨by omega, by omega⟩ ⟨by omega, by omega⟩ ⟨by omega, by omega⟩ ?_
            show jl_AW _ _ _ _ _ 73 [some (.ref (u)), some (.int (zI (a))), some (.int (zI (b))), some (.int (zI (c))), none] [.int (zI (hM M 0 (a * 3 + 0).toNat))] n h1 _ _
            refine jl_istore (L' := [some (.ref (u)), some (.int (zI (a))), some (.int (zI (b))), some (.int (zI (c))), some (.int (zI (hM M 0 (a * 3 + 0).toNat)))]) d_Md_put_73 (by decide) rfl ?_
            refine jl_aload_n d_Md_put_75 rfl rfl ?_
            refine jg_6 (q := 4) d_Md_put_76 p0a rfl (by decide) fw_Md_19 ?_
            refine jl_iconst (v := zI (3)) d_Md_put_79 (by decide) ?_
            refine jl_iload_n d_Md_put_80 rfl rfl ?_
            refine jz_imul (v := a * 3) d_Md_put_81 (by omega) ?_
            refine jl_iload_n d_Md_put_82 rfl rfl ?_
            refine jz_iasth d_Md_put_83 p4a (by omega) (by omega) (by omega) (fun h16 eh16 => ?_)
            have jf17 : h16 (u + 4) = jI 384 (fun j9 => zI ((va_up (M.he) (a * 3).toNat (b)) j9)) := by rw [eh16, va_up_self]
            refine jl_aload_n d_Md_put_84 rfl rfl ?_
            have jf18 : h16 (u) = jO 6 [.int (zI (0)), .ref (u + 1), .ref (u + 2), .ref (u + 3), .ref (u + 4), .ref (u + 5), .int (zI (M.jn)), .int (zI (M.ja)), .int (zI (M.jb)), .ref (u + 6), .ref (u + 7), .int (zI (M.nw)), .int (zI (M.bl)), .int (zI (M.lt)), .int (zI (M.rt)), .ref (u + 8), .ref (u + 9), .ref (u + 10), .ref (u + 11), .ref (u + 12), .ref (u + 13)] := by rw [eh16, va_up_ne _ _ (by omega)]; exact p0a
            refine jg_6 (q := 5) d_Md_put_85 jf18 rfl (by decide) fw_Md_22 ?_
            refine jl_iload_n d_Md_put_88 rfl rfl ?_
            refine jl_iload_n d_Md_put_89 rfl rfl ?_
            have jf19 : h16 (u + 5) = jZ 128 (fun j9 => zI (M.cr j9)) := by rw [eh16, va_up_ne _ _ (by omega)]; exact p5a
            refine jz_zasth hc9 d_Md_put_90 jf19 (by omega) (by omega) (by omega) (fun h20 eh20 => ?_)
            have jf21 : h20 (u + 5) = jZ 128 (fun j9 => zI ((va_up M.cr (a).toNat (c)) j9)) := by rw [eh20, va_up_self]
            refine jl_iload d_Md_put_91 rfl ?_
            have jf22 : h20 (u) = jO 6 [.int (zI (0)), .ref (u + 1), .ref (u + 2), .ref (u + 3), .ref (u + 4), .ref (u + 5), .int (zI (M.jn)), .int (zI (M.ja)), .int (zI (M.jb)), .ref (u + 6), .ref (u + 7), .int (zI (M.nw)), .int (zI (M.bl)), .int (zI (M.lt)), .int (zI (M.rt)), .ref (u + 8), .ref (u + 9), .ref (u + 10), .ref (u + 11), .ref (u + 12), .ref (u + 13)] := by rw [eh20, va_up_ne _ _ (by omega)]; exact jf18
            have jf23 : h20 (u + 1) = jI 8 (fun j9 => zI (M.mo j9)) := by rw [eh20, va_up_ne _ _ (by omega), eh16, va_up_ne _ _ (by omega)]; exact p1a
            have jf24 : h20 (u + 2) = jI 8 (fun j9 => zI (M.pe j9)) := by rw [eh20, va_up_ne _ _ (by omega), eh16, va_up_ne _ _ (by omega)]; exact p2a
            have jf25 : h20 (u + 3) = jI 128 (fun j9 => zI (M.co j9)) := by rw [eh20, va_up_ne _ _ (by omega), eh16, va_up_ne _ _ (by omega)]; exact p3a
            have jf26 : h20 (u + 4) = jI 384 (fun j9 => zI ((va_up (M.he) (a * 3).toNat (b)) j9)) := by rw [eh20, va_up_ne _ _ (by omega)]; exact jf17
            have jf27 : h20 (u + 6) = jI 16 (fun j9 => zI (M.wy j9)) := by rw [eh20, va_up_ne _ _ (by omega), eh16, va_up_ne _ _ (by omega)]; exact p6a
            have jf28 : h20 (u + 7) = jI 512 (fun j9 => zI (M.fa j9)) := by rw [eh20, va_up_ne _ _ (by omega), eh16, va_up_ne _ _ (by omega)]; exact p7a
            have jf29 : h20 (u + 8) = jI 32 (fun j9 => zI (M.la j9)) := by rw [eh20, va_up_ne _ _ (by omega), eh16, va_up_ne _ _ (by omega)]; exact p8a
            have jf30 : h20 (u + 9) = jI 32 (fun j9 => zI (M.ha j9)) := by rw [eh20, va_up_ne _ _ (by omega), eh16, va_up_ne _ _ (by omega)]; exact p9a
            have jf31 : h20 (u + 10) = jI 4096 (fun j9 => zI (M.w1 j9)) := by rw [eh20, va_up_ne _ _ (by omega), eh16, va_up_ne _ _ (by omega)]; exact p10a
            have jf32 : h20 (u + 11) = jI 4096 (fun j9 => zI (M.mr j9)) := by rw [eh20, va_up_ne _ _ (by omega), eh16, va_up_ne _ _ (by omega)]; exact p11a
            have jf33 : h20 (u + 12) = jI 6 (fun j9 => zI (M.rw j9)) := by rw [eh20, va_up_ne _ _ (by omega), eh16, va_up_ne _ _ (by omega)]; exact p12a
            have jf34 : h20 (u + 13) = jI 16 (fun j9 => zI (M.tu j9)) := by rw [eh20, va_up_ne _ _ (by omega), eh16, va_up_ne _ _ (by omega)]; exact p13a
            exact jl_iret d_Md_put_93 rfl (hk0 i1 ⟨i2, (fun q => q2 q.2), fun q => q.1 q3⟩ h20 ⟨jf22, jf23, jf24, jf25, jf26, jf21, jf27, jf28, jf29, jf30, jf31, jf32, jf33, jf34⟩ (jfr_tr hf1 (fun y hy => by rw [eh20, va_up_ne _ _ (by omega), eh16, va_up_ne _ _ (by omega)])))
          · refine jl_aload_n d_Md_put_50 rfl rfl ?_
            refine jg_6 (q := 1) d_Md_put_51 p0a rfl (by decide) fw_Md_7 ?_
            refine jl_iconst (v := zI (0)) d_Md_put_54 (by decide) ?_
            refine jz_iald d_Md_put_55 p1a (by omega) (by omega) (by omega) ?_
            refine jl_iconst (v := zI (2)) d_Md_put_56 (by decide) ?_
            refine jz_icmp_eq (tgt := 66) d_Md_put_57 (by decide) ⟨by omega, by omega⟩ ⟨by omega, by omega⟩ (fun q4 => ?_) (fun q4 => ?_)
            · refine jl_aload_n d_Md_put_66 rfl rfl ?_
              refine jl_iconst (v := zI (0)) d_Md_put_67 (by decide) ?_
              refine jl_iload_n d_Md_put_68 rfl rfl ?_
              refine jl_iconst (v := zI (0)) d_Md_put_69 (by decide) ?_
              refine jl_invV (M' := m_Md_tall) (d' := d - 1) (ck' := 0) (sk' := 0) (na := 3) (as := [.int (zI (0)), .int (zI (a)), .int (zI (0))]) (st := []) d_Md_put_70 rfl p0a rfl mw_Md_73 ww_Md_tall sw_Md_tall nw_Md cw_Md_tall rfl rfl rfl (by decide +kernel) (by omega) (Nat.le_of_ble_eq_true rfl) (Nat.le_of_ble_eq_true rfl) ?_
              refine k_M_tall hl9 (by omega) hM1 ⟨by omega, by omega⟩ ⟨by omega, by omega⟩ ⟨by omega, by omega⟩ ?_
              show jl_AW _ _ _ _ _ 73 [some (.ref (u)), some (.int (zI (a))), some (.int (zI (b))), some (.int (zI (c))), none] [.int (zI (hM M 0 (a * 3 + 0).toNat))] n h1 _ _
              refine jl_istore (L' := [some (.ref (u)), some (.int (zI (a))), some (.int (zI (b))), some (.int (zI (c))), some (.int (zI (hM M 0 (a * 3 + 0).toNat)))]) d_Md_put_73 (by decide) rfl ?_
              refine jl_aload_n d_Md_put_75 rfl rfl ?_
              refine jg_6 (q := 4) d_Md_put_76 p0a rfl (by decide) fw_Md_19 ?_
              refine jl_iconst (v := zI (3)) d_Md_put_79 (by decide) ?_
              refine jl_iload_n d_Md_put_80 rfl rfl ?_
              refine jz_imul (v := a * 3) d_Md_put_81 (by omega) ?_
              refine jl_iload_n d_Md_put_82 rfl rfl ?_
              refine jz_iasth d_Md_put_83 p4a (by omega) (by omega) (by omega) (fun h16 eh16 => ?_)
              have jf17 : h16 (u + 4) = jI 384 (fun j9 => zI ((va_up (M.he) (a * 3).toNat (b)) j9)) := by rw [eh16, va_up_self]
              refine jl_aload_n d_Md_put_84 rfl rfl ?_
              have jf18 : h16 (u) = jO 6 [.int (zI (0)), .ref (u + 1), .ref (u + 2), .ref (u + 3), .ref (u + 4), .ref (u + 5), .int (zI (M.jn)), .int (zI (M.ja)), .int (zI (M.jb)), .ref (u + 6), .ref (u + 7), .int (zI (M.nw)), .int (zI (M.bl)), .int (zI (M.lt)), .int (zI (M.rt)), .ref (u + 8), .ref (u + 9), .ref (u + 10), .ref (u + 11), .ref (u + 12), .ref (u + 13)] := by rw [eh16, va_up_ne _ _ (by omega)]; exact p0a
              refine jg_6 (q := 5) d_Md_put_85 jf18 rfl (by decide) fw_Md_22 ?_
              refine jl_iload_n d_Md_put_88 rfl rfl ?_
              refine jl_iload_n d_Md_put_89 rfl rfl ?_
              have jf19 : h16 (u + 5) = jZ 128 (fun j9 => zI (M.cr j9)) := by rw [eh16, va_up_ne _ _ (by omega)]; exact p5a
              refine jz_zasth hc9 d_Md_put_90 jf19 (by omega) (by omega) (by omega) (fun h20 eh20 => ?_)
              have jf21 : h20 (u + 5) = jZ 128 (fun j9 => zI ((va_up M.cr (a).toNat (c)) j9)) := by rw [eh20, va_up_self]
              refine jl_iload d_Md_put_91 rfl ?_
              have jf22 : h20 (u) = jO 6 [.int (zI (0)), .ref (u + 1), .ref (u + 2), .ref (u + 3), .ref (u + 4), .ref (u + 5), .int (zI (M.jn)), .int (zI (M.ja)), .int (zI (M.jb)), .ref (u + 6), .ref (u + 7), .int (zI (M.nw)), .int (zI (M.bl)), .int (zI (M.lt)), .int (zI (M.rt)), .ref (u + 8), .ref (u + 9), .ref (u + 10), .ref (u + 11), .ref (u + 12), .ref (u + 13)] := by rw [eh20, va_up_ne _ _ (by omega)]; exact jf18
              have jf23 : h20 (u + 1) = jI 8 (fun j9 => zI (M.mo j9)) := by rw [eh20, va_up_ne _ _ (by omega), eh16, va_up_ne _ _ (by omega)]; exact p1a
              have jf24 : h20 (u + 2) = jI 8 (fun j9 => zI (M.pe j9)) := by rw [eh20, va_up_ne _ _ (by omega), eh16, va_up_ne _ _ (by omega)]; exact p2a
              have jf25 : h20 (u + 3) = jI 128 (fun j9 => zI (M.co j9)) := by rw [eh20, va_up_ne _ _ (by omega), eh16, va_up_ne _ _ (by omega)]; exact p3a
              have jf26 : h20 (u + 4) = jI 384 (fun j9 => zI ((va_up (M.he) (a * 3).toNat (b)) j9)) := by rw [eh20, va_up_ne _ _ (by omega)]; exact jf17
              have jf27 : h20 (u + 6) = jI 16 (fun j9 => zI (M.wy j9)) := by rw [eh20, va_up_ne _ _ (by omega), eh16, va_up_ne _ _ (by omega)]; exact p6a
              have jf28 : h20 (u + 7) = jI 512 (fun j9 => zI (M.fa j9)) := by rw [eh20, va_up_ne _ _ (by omega), eh16, va_up_ne _ _ (by omega)]; exact p7a
              have jf29 : h20 (u + 8) = jI 32 (fun j9 => zI (M.la j9)) := by rw [eh20, va_up_ne _ _ (by omega), eh16, va_up_ne _ _ (by omega)]; exact p8a
              have jf30 : h20 (u + 9) = jI 32 (fun j9 => zI (M.ha j9)) := by rw [eh20, va_up_ne _ _ (by omega), eh16, va_up_ne _ _ (by omega)]; exact p9a
              have jf31 : h20 (u + 10) = jI 4096 (fun j9 => zI (M.w1 j9)) := by rw [eh20, va_up_ne _ _ (by omega), eh16, va_up_ne _ _ (by omega)]; exact p10a
              have jf32 : h20 (u + 11) = jI 4096 (fun j9 => zI (M.mr j9)) := by rw [eh20, va_up_ne _ _ (by omega), eh16, va_up_ne _ _ (by omega)]; exact p11a
              have jf33 : h20 (u + 12) = jI 6 (fun j9 => zI (M.rw j9)) := by rw [eh20, va_up_ne _ _ (by omega), eh16, va_up_ne _ _ (by omega)]; exact p12a
              have jf34 : h20 (u + 13) = jI 16 (fun j9 => zI (M.tu j9)) := by rw [eh20, va_up_ne _ _ (by omega), eh16, va_up_ne _ _ (by omega)]; exact p13a
              exact jl_iret d_Md_put_93 rfl (hk0 i1 ⟨i2, (fun q => q2 q.2), fun q => q.2 q4⟩ h20 ⟨jf22, jf23, jf24, jf25, jf26, jf21, jf27, jf28, jf29, jf30, jf31, jf32, jf33, jf34⟩ (jfr_tr hf1 (fun y hy => by rw [eh20, va_up_ne _ _ (by omega), eh16, va_up_ne _ _ (by omega)])))
            · refine jl_aload_n d_Md_put_60 rfl rfl ?_
              refine jl_iconst (v := zI (2)) d_Md_put_61 (by decide) ?_
              refine jl_invV (M' := m_Md_fail) (d' := d - 1) (ck' := 0) (sk' := 0) (na := 1) (as := [.int (zI (2))]) (st := []) d_Md_put_62 rfl p0a rfl mw_Md_65 ww_Md_fail sw_Md_fail nw_Md cw_Md_fail rfl rfl rfl (by decide +kernel) (by omega) (Nat.le_of_ble_eq_true rfl) (Nat.le_of_ble_eq_true rfl) ?_
              refine k_M_fail hl9 (by omega) hM1 (fun h2 hM2 hf2 => ?_)
              show jl_AW _ _ _ _ _ 65 [some (.ref (u)), some (.int (zI (a))), some (.int (zI (b))), some (.int (zI (c))), none] [.int (zI (0))] n h2 _ _
              exact jl_iret d_Md_put_65 rfl (hk2 i1 (fun q => q.2.2 ⟨q3, q4⟩) h2 hM2 (jfr_tr hf1 hf2))
    · show jl_AW _ _ _ _ _ 26 [some (.ref (u)), some (.int (zI (a))), some (.int (zI (b))), some (.int (zI (c))), none] [.int (zI (0))] n h1 _ _
      refine jz_if_eq (tgt := 60) d_Md_put_26 (by decide) ⟨by decide, by decide⟩ (fun _ => ?_) (fun q9 => absurd q9 (by decide))
      refine jl_aload_n d_Md_put_60 rfl rfl ?_
      refine jl_iconst (v := zI (2)) d_Md_put_61 (by decide) ?_
      refine jl_invV (M' := m_Md_fail) (d' := d - 1) (ck' := 0) (sk' := 0) (na := 1) (as := [.int (zI (2))]) (st := []) d_Md_put_62 rfl p0a rfl mw_Md_65 ww_Md_fail sw_Md_fail nw_Md cw_Md_fail rfl rfl rfl (by decide +kernel) (by omega) (Nat.le_of_ble_eq_true rfl) (Nat.le_of_ble_eq_true rfl) ?_
      refine k_M_fail hl9 (by omega) hM1 (fun h2 hM2 hf2 => ?_)
      show jl_AW _ _ _ _ _ 65 [some (.ref (u)), some (.int (zI (a))), some (.int (zI (b))), some (.int (zI (c))), none] [.int (zI (0))] n h2 _ _
      exact jl_iret d_Md_put_65 rfl (hk2 i1 (fun q => i2 q.1) h2 hM2 (jfr_tr hf1 hf2))
  · show jl_AW _ _ _ _ _ 10 [some (.ref (u)), some (.int (zI (a))), some (.int (zI (b))), some (.int (zI (c))), none] [.int (zI (1))] n h1 _ _
    refine jz_if_eq (tgt := 19) d_Md_put_10 (by decide) ⟨by decide, by decide⟩ (fun q9 => absurd q9 (by decide)) (fun _ => ?_)
    have i1 : ¬ (0 ≤ a ∧ a < M.pe (0 : Int).toNat) := i1
    refine jl_aload_n d_Md_put_13 rfl rfl ?_
    refine jl_iconst (v := zI (1)) d_Md_put_14 (by decide) ?_
    refine jl_invV (M' := m_Md_fail) (d' := d - 1) (ck' := 0) (sk' := 0) (na := 1) (as := [.int (zI (1))]) (st := []) d_Md_put_15 rfl p0a rfl mw_Md_65 ww_Md_fail sw_Md_fail nw_Md cw_Md_fail rfl rfl rfl (by decide +kernel) (by omega) (Nat.le_of_ble_eq_true rfl) (Nat.le_of_ble_eq_true rfl) ?_
    refine k_M_fail hl9 (by omega) hM1 (fun h2 hM2 hf2 => ?_)
    show jl_AW _ _ _ _ _ 18 [some (.ref (u)), some (.int (zI (a))), some (.int (zI (b))), some (.int (zI (c))), none] [.int (zI (0))] n h2 _ _
    exact jl_iret d_Md_put_18 rfl (hk1 i1 h2 hM2 (jfr_tr hf1 hf2))
set_option maxHeartbeats 4000000 in
set_option maxRecDepth 100000 in
theorem k_M_add {l : Launch} {G : jl_G} {d n : Nat} {h : Nat → va_E} {Kr : Option Value → Nat → (Nat → va_E) → Prop} {Kx : String → Nat → (Nat → va_E) → Prop} (hl9 : l.stackTraces = false) (hdd : 2 ≤ d) {u : Nat} {M : MS} {a b : Int} (hM9 : jM h u M) (ok : mOk M) (ha : zR a) (hb : zR b) (hk0 : M.mo (0 : Int).toNat = 1 → 0 ≤ a ∧ a < M.pe (0 : Int).toNat → ¬ M.co (a).toNat = 3 → 0 ≤ b ∧ b ≤ 9 → ∀ h', jM h' u (((M.wT 0).wco (va_up M.co (a).toNat (M.co (a).toNat + 1))).whe (va_up M.he (a * 3 + M.co (a).toNat).toNat b)) → jfr h h' u (u + 14) → Kr (some (.int (zI (M.co (a).toNat + 1)))) n h') (hk1 : ¬ M.mo (0 : Int).toNat = 1 → ∀ h', jM h' u (M.wT 1) → jfr h h' u (u + 14) → Kr (some (.int (zI (0)))) n h') (hk2 : M.mo (0 : Int).toNat = 1 → ¬ (0 ≤ a ∧ a < M.pe (0 : Int).toNat) → ∀ h', jM h' u (M.wT 2) → jfr h h' u (u + 14) → Kr (some (.int (zI (0)))) n h') (hk3 : M.mo (0 : Int).toNat = 1 → 0 ≤ a ∧ a < M.pe (0 : Int).toNat → M.co (a).toNat = 3 → ∀ h', jM h' u (M.wT 1) → jfr h h' u (u + 14) → Kr (some (.int (zI (0)))) n h') (hk4 : M.mo (0 : Int).toNat = 1 → 0 ≤ a ∧ a < M.pe (0 : Int).toNat → ¬ M.co (a).toNat = 3 → ¬ (0 ≤ b ∧ b ≤ 9) → ∀ h', jM h' u (M.wT 3) → jfr h h' u (u + 14) → Kr (some (.int (zI (0)))) n h') : jl_Call l G m_Md_add d [.ref (u), .int (zI (a)), .int (zI (b))] n h 0 0 Kr Kx := by
  refine jl_enter hl9 (by decide) rfl (by simp [Value.category]) (Nat.le_of_ble_eq_true rfl) ?_
  show jl_AW l G (jl_F G Kr Kx) m_Md_add d 0 [some (.ref (u)), some (.int (zI (a))), some (.int (zI (b)))] [] n h 0 0
  have hm0 := ok.1 (0 : Int).toNat
  have hp0 := ok.2.1 (0 : Int).toNat
  have hco := ok.2.2.2.1 (a).toNat
  obtain ⟨q0, q1, q2, q3, q4, q5, q6, q7, q8, q9, q10, q11, q12, q13⟩ := id (hM9)
  have p0 : h u = jO 6 [.int (zI (M.T)), .ref (u + 1), .ref (u + 2), .ref (u + 3), .ref (u + 4), .ref (u + 5), .int (zI (M.jn)), .int (zI (M.ja)), .int (zI (M.jb)), .ref (u + 6), .ref (u + 7), .int (zI (M.nw)), .int (zI (M.bl)), .int (zI (M.lt)), .int (zI (M.rt)), .ref (u + 8), .ref (u + 9), .ref (u + 10), .ref (u + 11), .ref (u + 12), .ref (u + 13)] := q0
  have p1 : h (u + 1) = jI 8 (fun j9 => zI (M.mo j9)) := q1
  have p2 : h (u + 2) = jI 8 (fun j9 => zI (M.pe j9)) := q2
  have p3 : h (u + 3) = jI 128 (fun j9 => zI (M.co j9)) := q3
  have p4 : h (u + 4) = jI 384 (fun j9 => zI (M.he j9)) := q4
  have p5 : h (u + 5) = jZ 128 (fun j9 => zI (M.cr j9)) := q5
  have p6 : h (u + 6) = jI 16 (fun j9 => zI (M.wy j9)) := q6
  have p7 : h (u + 7) = jI 512 (fun j9 => zI (M.fa j9)) := q7
  have p8 : h (u + 8) = jI 32 (fun j9 => zI (M.la j9)) := q8
  have p9 : h (u + 9) = jI 32 (fun j9 => zI (M.ha j9)) := q9
  have p10 : h (u + 10) = jI 4096 (fun j9 => zI (M.w1 j9)) := q10
  have p11 : h (u + 11) = jI 4096 (fun j9 => zI (M.mr j9)) := q11
  have p12 : h (u + 12) = jI 6 (fun j9 => zI (M.rw j9)) := q12
  have p13 : h (u + 13) = jI 16 (fun j9 => zI (M.tu j9)) := q13
  refine jl_aload_n d_Md_add_0 rfl rfl ?_
  refine jl_iconst (v := zI (0)) d_Md_add_1 (by decide) ?_
  refine jp_6 (q := 0) (ty := .int) d_Md_add_2 p0 (by simp) (by decide) fw_Md_58 rfl (by decide +kernel) (fun _ _ => rfl) (fun _ _ => rfl) (fun h1 eh1 => ?_)
  have eh1 : h1 = va_up h (u) (jO 6 [.int (zI (0)), .ref (u + 1), .ref (u + 2), .ref (u + 3), .ref (u + 4), .ref (u + 5), .int (zI (M.jn)), .int (zI (M.ja)), .int (zI (M.jb)), .ref (u + 6), .ref (u + 7), .int (zI (M.nw)), .int (zI (M.bl)), .int (zI (M.lt)), .int (zI (M.rt)), .ref (u + 8), .ref (u + 9), .ref (u + 10), .ref (u + 11), .ref (u + 12), .ref (u + 13)]) := eh1
  have jf2 : h1 (u) = jO 6 [.int (zI (0)), .ref (u + 1), .ref (u + 2), .ref (u + 3), .ref (u + 4), .ref (u + 5), .int (zI (M.jn)), .int (zI (M.ja)), .int (zI (M.jb)), .ref (u + 6), .ref (u + 7), .int (zI (M.nw)), .int (zI (M.bl)), .int (zI (M.lt)), .int (zI (M.rt)), .ref (u + 8), .ref (u + 9), .ref (u + 10), .ref (u + 11), .ref (u + 12), .ref (u + 13)] := by rw [eh1, va_up_self]
  have jf3 : h1 (u + 1) = jI 8 (fun j9 => zI (M.mo j9)) := by rw [eh1, va_up_ne _ _ (by omega)]; exact p1
  have jf4 : h1 (u + 2) = jI 8 (fun j9 => zI (M.pe j9)) := by rw [eh1, va_up_ne _ _ (by omega)]; exact p2
  have jf5 : h1 (u + 3) = jI 128 (fun j9 => zI (M.co j9)) := by rw [eh1, va_up_ne _ _ (by omega)]; exact p3
  have jf6 : h1 (u + 4) = jI 384 (fun j9 => zI (M.he j9)) := by rw [eh1, va_up_ne _ _ (by omega)]; exact p4
  have jf7 : h1 (u + 5) = jZ 128 (fun j9 => zI (M.cr j9)) := by rw [eh1, va_up_ne _ _ (by omega)]; exact p5
  have jf8 : h1 (u + 6) = jI 16 (fun j9 => zI (M.wy j9)) := by rw [eh1, va_up_ne _ _ (by omega)]; exact p6
  have jf9 : h1 (u + 7) = jI 512 (fun j9 => zI (M.fa j9)) := by rw [eh1, va_up_ne _ _ (by omega)]; exact p7
  have jf10 : h1 (u + 8) = jI 32 (fun j9 => zI (M.la j9)) := by rw [eh1, va_up_ne _ _ (by omega)]; exact p8
  have jf11 : h1 (u + 9) = jI 32 (fun j9 => zI (M.ha j9)) := by rw [eh1, va_up_ne _ _ (by omega)]; exact p9
  have jf12 : h1 (u + 10) = jI 4096 (fun j9 => zI (M.w1 j9)) := by rw [eh1, va_up_ne _ _ (by omega)]; exact p10
  have jf13 : h1 (u + 11) = jI 4096 (fun j9 => zI (M.mr j9)) := by rw [eh1, va_up_ne _ _ (by omega)]; exact p11
  have jf14 : h1 (u + 12) = jI 6 (fun j9 => zI (M.rw j9)) := by rw [eh1, va_up_ne _ _ (by omega)]; exact p12
  have jf15 : h1 (u + 13) = jI 16 (fun j9 => zI (M.tu j9)) := by rw [eh1, va_up_ne _ _ (by omega)]; exact p13
  have hM1 : jM h1 u (M.wT 0) := ⟨jf2, jf3, jf4, jf5, jf6, jf7, jf8, jf9, jf10, jf11, jf12, jf13, jf14, jf15⟩
  have hf1 : jfr h h1 u (u + 14) := (fun y hy => by rw [eh1, va_up_ne _ _ (by omega)])
  obtain ⟨q0a, q1a, q2a, q3a, q4a, q5a, q6a, q7a, q8a, q9a, q10a, q11a, q12a, q13a⟩ := id (hM1)
  have p0a : h1 u = jO 6 [.int (zI (0)), .ref (u + 1), .ref (u + 2), .ref (u + 3), .ref (u + 4), .ref (u + 5), .int (zI (M.jn)), .int (zI (M.ja)), .int (zI (M.jb)), .ref (u + 6), .ref (u + 7), .int (zI (M.nw)), .int (zI (M.bl)), .int (zI (M.lt)), .int (zI (M.rt)), .ref (u + 8), .ref (u + 9), .ref (u + 10), .ref (u + 11), .ref (u + 12), .ref (u + 13)] := q0a
  have p1a : h1 (u + 1) = jI 8 (fun j9 => zI (M.mo j9)) := q1a
  have p2a : h1 (u + 2) = jI 8 (fun j9 => zI (M.pe j9)) := q2a
  have p3a : h1 (u + 3) = jI 128 (fun j9 => zI (M.co j9)) := q3a
  have p4a : h1 (u + 4) = jI 384 (fun j9 => zI (M.he j9)) := q4a
  have p5a : h1 (u + 5) = jZ 128 (fun j9 => zI (M.cr j9)) := q5a
  have p6a : h1 (u + 6) = jI 16 (fun j9 => zI (M.wy j9)) := q6a
  have p7a : h1 (u + 7) = jI 512 (fun j9 => zI (M.fa j9)) := q7a
  have p8a : h1 (u + 8) = jI 32 (fun j9 => zI (M.la j9)) := q8a
  have p9a : h1 (u + 9) = jI 32 (fun j9 => zI (M.ha j9)) := q9a
  have p10a : h1 (u + 10) = jI 4096 (fun j9 => zI (M.w1 j9)) := q10a
  have p11a : h1 (u + 11) = jI 4096 (fun j9 => zI (M.mr j9)) := q11a
  have p12a : h1 (u + 12) = jI 6 (fun j9 => zI (M.rw j9)) := q12a
  have p13a : h1 (u + 13) = jI 16 (fun j9 => zI (M.tu j9)) := q13a
  refine jl_aload_n d_Md_add_5 rfl rfl ?_
  refine jg_6 (q := 1) d_Md_add_6 p0a rfl (by decide) fw_Md_7 ?_
  refine jl_iconst (v := zI (0)) d_Md_add_9 (by decide) ?_
  refine jz_iald d_Md_add_10 p1a (by omega) (by omega) (by omega) ?_
  refine jl_iconst (v := zI (1)) d_Md_add_11 (by decide) ?_
  refine jz_icmp_eq (tgt := 21) d_Md_add_12 (by decide) ⟨by omega, by omega⟩ ⟨by omega, by omega⟩ (fun q1 => ?_) (fun q1 => ?_)
  · refine jl_aload_n d_Md_add_21 rfl rfl ?_
    refine jl_iload_n d_Md_add_22 rfl rfl ?_
    refine jl_invV (M' := m_Md_noSite) (d' := d - 1) (ck' := 0) (sk' := 0) (na := 1) (as := [.int (zI (a))]) (st := []) d_Md_add_23 rfl p0a rfl mw_Md_69 ww_Md_noSite sw_Md_noSite nw_Md cw_Md_noSite rfl rfl rfl (by decide +kernel) (by omega) (Nat.le_of_ble_eq_true rfl) (Nat.le_of_ble_eq_true rfl) ?_
    refine k_M_noSite hl9 (by omega) hM1 ok ha (fun i1 => ?_) (fun i1 => ?_)
    · show jl_AW _ _ _ _ _ 26 [some (.ref (u)), some (.int (zI (a))), some (.int (zI (b)))] [.int (zI (0))] n h1 _ _
      refine jz_if_eq (tgt := 35) d_Md_add_26 (by decide) ⟨by decide, by decide⟩ (fun _ => ?_) (fun q9 => absurd q9 (by decide))
      have i1 : 0 ≤ a ∧ a < M.pe (0 : Int).toNat := i1
      refine jl_aload_n d_Md_add_35 rfl rfl ?_
      refine jg_6 (q := 3) d_Md_add_36 p0a rfl (by decide) fw_Md_16 ?_
      refine jl_iload_n d_Md_add_39 rfl rfl ?_
      refine jz_iald d_Md_add_40 p3a (by omega) (by omega) (by omega) ?_
      refine jl_iconst (v := zI (3)) d_Md_add_41 (by decide) ?_
      refine jz_icmp_ne (tgt := 51) d_Md_add_42 (by decide) ⟨by omega, by omega⟩ ⟨by omega, by omega⟩ (fun q2 => ?_) (fun q2 => ?_)
      · refine jl_iload_n d_Md_add_51 rfl rfl ?_
        refine jl_iconst (v := zI (0)) d_Md_add_52 (by decide) ?_
        refine jl_bipush (v := zI (9)) d_Md_add_53 (by decide) ?_
        refine jl_invS (M' := m_Md_within) (d' := d - 1) (ck' := 0) (sk' := 0) (na := 3) (as := [.int (zI (b)), .int (zI (0)), .int (zI (9))]) (st := []) d_Md_add_55 rfl mw_Md_61 ww_Md_within nw_Md cw_Md_within rfl rfl rfl (by decide +kernel) (by omega) (Nat.le_of_ble_eq_true rfl) (Nat.le_of_ble_eq_true rfl) ?_
        refine k_M_within hl9 (by omega) hb ⟨by decide, by decide⟩ ⟨by decide, by decide⟩ (fun i2 => ?_) (fun i2 => ?_)
        · show jl_AW _ _ _ _ _ 58 [some (.ref (u)), some (.int (zI (a))), some (.int (zI (b)))] [.int (zI (1))] n h1 _ _
          refine jz_if_ne (tgt := 67) d_Md_add_58 (by decide) ⟨by decide, by decide⟩ (fun _ => ?_) (fun q9 => absurd q9 (by decide))
          refine jl_aload_n d_Md_add_67 rfl rfl ?_
          refine jg_6 (q := 4) d_Md_add_68 p0a rfl (by decide) fw_Md_19 ?_
          refine jl_iconst (v := zI (3)) d_Md_add_71 (by decide) ?_
          refine jl_iload_n d_Md_add_72 rfl rfl ?_
          refine jz_imul (v := a * 3) d_Md_add_73 (by omega) ?_
          refine jl_aload_n d_Md_add_74 rfl rfl ?_
          refine jg_6 (q := 3) d_Md_add_75 p0a rfl (by decide) fw_Md_16 ?_
          refine jl_iload_n d_Md_add_78 rfl rfl ?_
          refine jz_iald d_Md_add_79 p3a (by omega) (by omega) (by omega) ?_
          refine jz_iadd (v := a * 3 + M.co (a).toNat) d_Md_add_80 (by omega) ?_
          refine jl_iload_n d_Md_add_81 rfl rfl ?_
          refine jz_iasth d_Md_add_82 p4a (by omega) (by omega) (by omega) (fun h16 eh16 => ?_)
          have jf17 : h16 (u + 4) = jI 384 (fun j9 => zI ((va_up (M.he) (a * 3 + M.co (a).toNat).toNat (b)) j9)) := by rw [eh16, va_up_self]
          refine jl_aload_n d_Md_add_83 rfl rfl ?_
          have jf18 : h16 (u) = jO 6 [.int (zI (0)), .ref (u + 1), .ref (u + 2), .ref (u + 3), .ref (u + 4), .ref (u + 5), .int (zI (M.jn)), .int (zI (M.ja)), .int (zI (M.jb)), .ref (u + 6), .ref (u + 7), .int (zI (M.nw)), .int (zI (M.bl)), .int (zI (M.lt)), .int (zI (M.rt)), .ref (u + 8), .ref (u + 9), .ref (u + 10), .ref (u + 11), .ref (u + 12), .ref (u + 13)] := by rw [eh16, va_up_ne _ _ (by omega)]; exact p0a
          refine jg_6 (q := 3) d_Md_add_84 jf18 rfl (by decide) fw_Md_16 ?_
          refine jl_iload_n d_Md_add_87 rfl rfl ?_
          refine jl_dup2 d_Md_add_88 rfl rfl ?_
          have jf19 : h16 (u + 3) = jI 128 (fun j9 => zI (M.co j9)) := by rw [eh16, va_up_ne _ _ (by omega)]; exact p3a
          refine jz_iald d_Md_add_89 jf19 (by omega) (by omega) (by omega) ?_
          refine jl_iconst (v := zI (1)) d_Md_add_90 (by decide) ?_
          refine jz_iadd (v := (M.co (a).toNat) + (1)) d_Md_add_91 rfl ?_
          refine jz_iasth d_Md_add_92 jf19 (by omega) (by omega) (by omega) (fun h20 eh20 => ?_)
          have jf21 : h20 (u + 3) = jI 128 (fun j9 => zI ((va_up (M.co) (a).toNat ((M.co (a).toNat) + (1))) j9)) := by rw [eh20, va_up_self]
          refine jl_aload_n d_Md_add_93 rfl rfl ?_
          have jf22 : h20 (u) = jO 6 [.int (zI (0)), .ref (u + 1), .ref (u + 2), .ref (u + 3), .ref (u + 4), .ref (u + 5), .int (zI (M.jn)), .int (zI (M.ja)), .int (zI (M.jb)), .ref (u + 6), .ref (u + 7), .int (zI (M.nw)), .int (zI (M.bl)), .int (zI (M.lt)), .int (zI (M.rt)), .ref (u + 8), .ref (u + 9), .ref (u + 10), .ref (u + 11), .ref (u + 12), .ref (u + 13)] := by rw [eh20, va_up_ne _ _ (by omega)]; exact jf18
          refine jg_6 (q := 3) d_Md_add_94 jf22 rfl (by decide) fw_Md_16 ?_
          refine jl_iload_n d_Md_add_97 rfl rfl ?_
          refine jz_iald d_Md_add_98 jf21 (by omega) (by omega) (by omega) ?_
          rw [va_up_self]
          have jf23 : h20 (u + 1) = jI 8 (fun j9 => zI (M.mo j9)) := by rw [eh20, va_up_ne _ _ (by omega), eh16, va_up_ne _ _ (by omega)]; exact p1a
          have jf24 : h20 (u + 2) = jI 8 (fun j9 => zI (M.pe j9)) := by rw [eh20, va_up_ne _ _ (by omega), eh16, va_up_ne _ _ (by omega)]; exact p2a
          have jf25 : h20 (u + 4) = jI 384 (fun j9 => zI ((va_up (M.he) (a * 3 + M.co (a).toNat).toNat (b)) j9)) := by rw [eh20, va_up_ne _ _ (by omega)]; exact jf17
          have jf26 : h20 (u + 5) = jZ 128 (fun j9 => zI (M.cr j9)) := by rw [eh20, va_up_ne _ _ (by omega), eh16, va_up_ne _ _ (by omega)]; exact p5a
          have jf27 : h20 (u + 6) = jI 16 (fun j9 => zI (M.wy j9)) := by rw [eh20, va_up_ne _ _ (by omega), eh16, va_up_ne _ _ (by omega)]; exact p6a
          have jf28 : h20 (u + 7) = jI 512 (fun j9 => zI (M.fa j9)) := by rw [eh20, va_up_ne _ _ (by omega), eh16, va_up_ne _ _ (by omega)]; exact p7a
          have jf29 : h20 (u + 8) = jI 32 (fun j9 => zI (M.la j9)) := by rw [eh20, va_up_ne _ _ (by omega), eh16, va_up_ne _ _ (by omega)]; exact p8a
          have jf30 : h20 (u + 9) = jI 32 (fun j9 => zI (M.ha j9)) := by rw [eh20, va_up_ne _ _ (by omega), eh16, va_up_ne _ _ (by omega)]; exact p9a
          have jf31 : h20 (u + 10) = jI 4096 (fun j9 => zI (M.w1 j9)) := by rw [eh20, va_up_ne _ _ (by omega), eh16, va_up_ne _ _ (by omega)]; exact p10a
          have jf32 : h20 (u + 11) = jI 4096 (fun j9 => zI (M.mr j9)) := by rw [eh20, va_up_ne _ _ (by omega), eh16, va_up_ne _ _ (by omega)]; exact p11a
          have jf33 : h20 (u + 12) = jI 6 (fun j9 => zI (M.rw j9)) := by rw [eh20, va_up_ne _ _ (by omega), eh16, va_up_ne _ _ (by omega)]; exact p12a
          have jf34 : h20 (u + 13) = jI 16 (fun j9 => zI (M.tu j9)) := by rw [eh20, va_up_ne _ _ (by omega), eh16, va_up_ne _ _ (by omega)]; exact p13a
          exact jl_iret d_Md_add_99 rfl (hk0 q1 i1 q2 i2 h20 ⟨jf22, jf23, jf24, jf21, jf25, jf26, jf27, jf28, jf29, jf30, jf31, jf32, jf33, jf34⟩ (jfr_tr hf1 (fun y hy => by rw [eh20, va_up_ne _ _ (by omega), eh16, va_up_ne _ _ (by omega)])))
        · show jl_AW _ _ _ _ _ 58 [some (.ref (u)), some (.int (zI (a))), some (.int (zI (b)))] [.int (zI (0))] n h1 _ _
          refine jz_if_ne (tgt := 67) d_Md_add_58 (by decide) ⟨by decide, by decide⟩ (fun q9 => absurd q9 (by decide)) (fun _ => ?_)
          refine jl_aload_n d_Md_add_61 rfl rfl ?_
          refine jl_iconst (v := zI (3)) d_Md_add_62 (by decide) ?_
          refine jl_invV (M' := m_Md_fail) (d' := d - 1) (ck' := 0) (sk' := 0) (na := 1) (as := [.int (zI (3))]) (st := []) d_Md_add_63 rfl p0a rfl mw_Md_65 ww_Md_fail sw_Md_fail nw_Md cw_Md_fail rfl rfl rfl (by decide +kernel) (by omega) (Nat.le_of_ble_eq_true rfl) (Nat.le_of_ble_eq_true rfl) ?_
          refine k_M_fail hl9 (by omega) hM1 (fun h2 hM2 hf2 => ?_)
          show jl_AW _ _ _ _ _ 66 [some (.ref (u)), some (.int (zI (a))), some (.int (zI (b)))] [.int (zI (0))] n h2 _ _
          exact jl_iret d_Md_add_66 rfl (hk4 q1 i1 q2 i2 h2 hM2 (jfr_tr hf1 hf2))
      · refine jl_aload_n d_Md_add_45 rfl rfl ?_
        refine jl_iconst (v := zI (1)) d_Md_add_46 (by decide) ?_
        refine jl_invV (M' := m_Md_fail) (d' := d - 1) (ck' := 0) (sk' := 0) (na := 1) (as := [.int (zI (1))]) (st := []) d_Md_add_47 rfl p0a rfl mw_Md_65 ww_Md_fail sw_Md_fail nw_Md cw_Md_fail rfl rfl rfl (by decide +kernel) (by omega) (Nat.le_of_ble_eq_true rfl) (Nat.le_of_ble_eq_true rfl) ?_
        refine k_M_fail hl9 (by omega) hM1 (fun h2 hM2 hf2 => ?_)
        show jl_AW _ _ _ _ _ 50 [some (.ref (u)), some (.int (zI (a))), some (.int (zI (b)))] [.int (zI (0))] n h2 _ _
        exact jl_iret d_Md_add_50 rfl (hk3 q1 i1 q2 h2 hM2 (jfr_tr hf1 hf2))
    · show jl_AW _ _ _ _ _ 26 [some (.ref (u)), some (.int (zI (a))), some (.int (zI (b)))] [.int (zI (1))] n h1 _ _
      refine jz_if_eq (tgt := 35) d_Md_add_26 (by decide) ⟨by decide, by decide⟩ (fun q9 => absurd q9 (by decide)) (fun _ => ?_)
      have i1 : ¬ (0 ≤ a ∧ a < M.pe (0 : Int).toNat) := i1
      refine jl_aload_n d_Md_add_29 rfl rfl ?_
      refine jl_iconst (v := zI (2)) d_Md_add_30 (by decide) ?_
      refine jl_invV (M' := m_Md_fail) (d' := d - 1) (ck' := 0) (sk' := 0) (na := 1) (as := [.int (zI (2))]) (st := []) d_Md_add_31 rfl p0a rfl mw_Md_65 ww_Md_fail sw_Md_fail nw_Md cw_Md_fail rfl rfl rfl (by decide +kernel) (by omega) (Nat.le_of_ble_eq_true rfl) (Nat.le_of_ble_eq_true rfl) ?_
      refine k_M_fail hl9 (by omega) hM1 (fun h2 hM2 hf2 => ?_)
      show jl_AW _ _ _ _ _ 34 [some (.ref (u)), some (.int (zI (a))), some (.int (zI (b)))] [.int (zI (0))] n h2 _ _
      exact jl_iret d_Md_add_34 rfl (hk2 q1 i1 h2 hM2 (jfr_tr hf1 hf2))
  · refine jl_aload_n d_Md_add_15 rfl rfl ?_
    refine jl_iconst (v := zI (1)) d_Md_add_16 (by decide) ?_
    refine jl_invV (M' := m_Md_fail) (d' := d - 1) (ck' := 0) (sk' := 0) (na := 1) (as := [.int (zI (1))]) (st := []) d_Md_add_17 rfl p0a rfl mw_Md_65 ww_Md_fail sw_Md_fail nw_Md cw_Md_fail rfl rfl rfl (by decide +kernel) (by omega) (Nat.le_of_ble_eq_true rfl) (Nat.le_of_ble_eq_true rfl) ?_
    refine k_M_fail hl9 (by omega) hM1 (fun h2 hM2 hf2 => ?_)
    show jl_AW _ _ _ _ _ 20 [some (.ref (u)), some (.int (zI (a))), some (.int (zI (b)))] [.int (zI (0))] n h2 _ _
    exact jl_iret d_Md_add_20 rfl (hk1 q1 h2 hM2 (jfr_tr hf1 hf2))
