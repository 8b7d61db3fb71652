def mkM (T : Int) (mo pe co he cr : Nat → Int) (jn ja jb : Int) (wy fa : Nat → Int) (nw bl lt rt : Int) (la ha w1 mr rw9 tu : Nat → Int) : MS := (T, mo, pe, co, he, cr, jn, ja, jb, wy, fa, nw, bl, lt, rt, la, ha, w1, mr, rw9, tu)
theorem sp_tgt_nn {M : MS} (ok : mOk M) (d : Int) {s k : Int} (hpe : 1 ≤ M.pe d.toNat) (hs : 0 ≤ s ∧ s < 16) (hk : 0 ≤ k ∧ k ≤ 9) : 0 ≤ sp_tgt (M.mo d.toNat) (M.pe d.toNat) (xM M d) s k ∧ sp_tgt (M.mo d.toNat) (M.pe d.toNat) (xM M d) s k < 100 := by
  have hp := ok.2.1 d.toNat
  have e1 := Int.emod_nonneg (s - s % 2 + k) (show M.pe d.toNat ≠ 0 by omega)
  have e2 := Int.emod_lt_of_pos (s - s % 2 + k) (show 0 < M.pe d.toNat by omega)
  have e3 := Int.emod_nonneg (s + k) (show M.pe d.toNat ≠ 0 by omega)
  have e4 := Int.emod_lt_of_pos (s + k) (show 0 < M.pe d.toNat by omega)
  unfold sp_tgt
  split
  · have := sp_land_rg (m := M.mo d.toNat) (xs := xM M d) (b := s) (k := s % 2) (g := s - s % 2 + k) (by omega)
    omega
  · omega
set_option maxHeartbeats 4000000 in
set_option maxRecDepth 100000 in
theorem k_M_fly {l : Launch} {G : jl_G} {d n : Nat} {h : Nat → va_E} {Kr : Option Value → Nat → (Nat → va_E) → Prop} {Kx : String → Nat → (Nat → va_E) → Prop} (hl9 : l.stackTraces = false) (hdd : 2 ≤ d) {u : Nat} {M : MS} {nw lt rt : Int} {la ha : Nat → Int} {b s k9 : Int} (hM9 : jM h u (mkM M.T M.mo M.pe M.co M.he M.cr M.jn M.ja M.jb M.wy M.fa (nw) (M.bl) (lt) (rt) (la) (ha) M.w1 M.mr M.rw M.tu)) (ok : mOk M) (hpe : 1 ≤ M.pe (7 : Int).toNat) (hb : 0 ≤ b ∧ b < 27) (hs9 : 0 ≤ s ∧ s < 16) (hk9 : 0 ≤ k9 ∧ k9 < 3) (hnw : 0 ≤ nw ∧ nw < 1000000) (hk : ∀ (h' : Nat → va_E) (lt' rt' : Int) (la' ha' : Nat → Int), lt' = (if mG (M.mo (7 : Int).toNat) nw s = 0 then lt + 1 else lt) → rt' = (if mG (M.mo (7 : Int).toNat) nw s = 0 then rt else rt + 1) → la' = va_up la b.toNat (nw + hM M 7 (s * 3 + k9).toNat) → ha' = va_up ha b.toNat (if M.mo (7 : Int).toNat = 2 then sp_tgt (M.mo (7 : Int).toNat) (M.pe (7 : Int).toNat) (xM M 7) s (hM M 7 (s * 3 + k9).toNat) % 2 else (nw + hM M 7 (s * 3 + k9).toNat) % 2) → jM h' u (mkM M.T M.mo M.pe M.co M.he M.cr M.jn M.ja M.jb M.wy M.fa (nw) (M.bl) (lt') (rt') (la') (ha') M.w1 M.mr M.rw M.tu) → jfr h h' u (u + 14) → Kr none n h') : jl_Call l G m_Md_fly d [.ref (u), .int (zI (b)), .int (zI (s)), .int (zI (k9))] n h 0 0 Kr Kx := by
  refine jl_enter hl9 (by decide) rfl (by simp [Value.category]) (Nat.le_of_ble_eq_true rfl) ?_
  show jl_AW l G (jl_F G Kr Kx) m_Md_fly d 0 [some (.ref (u)), some (.int (zI (b))), some (.int (zI (s))), some (.int (zI (k9))), none] [] n h 0 0
  have hm7 := ok.1 (7 : Int).toNat
  have hh := hM_rg ok 7 (s * 3 + k9).toNat
  have htz := sp_tgt_z ok 7 hpe hs9 hh
  have hgz : 0 ≤ mG (M.mo (7 : Int).toNat) nw s ∧ mG (M.mo (7 : Int).toNat) nw s ≤ 1 := by unfold mG; split <;> omega
  obtain ⟨q0, q1, q2, q3, q4, q5, q6, q7, q8, q9, q10, q11, q12, q13⟩ := id (hM9)
  have p0 : h u = jO 6 [.int (zI (M.T)), .ref (u + 1), .ref (u + 2), .ref (u + 3), .ref (u + 4), .ref (u + 5), .int (zI (M.jn)), .int (zI (M.ja)), .int (zI (M.jb)), .ref (u + 6), .ref (u + 7), .int (zI (nw)), .int (zI (M.bl)), .int (zI (lt)), .int (zI (rt)), .ref (u + 8), .ref (u + 9), .ref (u + 10), .ref (u + 11), .ref (u + 12), .ref (u + 13)] := q0
  have p1 : h (u + 1) = jI 8 (fun j9 => zI (M.mo j9)) := q1
  have p2 : h (u + 2) = jI 8 (fun j9 => zI (M.pe j9)) := q2
  have p3 : h (u + 3) = jI 128 (fun j9 => zI (M.co j9)) := q3
  have p4 : h (u + 4) = jI 384 (fun j9 => zI (M.he j9)) := q4
  have p5 : h (u + 5) = jZ 128 (fun j9 => zI (M.cr j9)) := q5
  have p6 : h (u + 6) = jI 16 (fun j9 => zI (M.wy j9)) := q6
  have p7 : h (u + 7) = jI 512 (fun j9 => zI (M.fa j9)) := q7
  have p8 : h (u + 8) = jI 32 (fun j9 => zI (la j9)) := q8
  have p9 : h (u + 9) = jI 32 (fun j9 => zI (ha j9)) := q9
  have p10 : h (u + 10) = jI 4096 (fun j9 => zI (M.w1 j9)) := q10
  have p11 : h (u + 11) = jI 4096 (fun j9 => zI (M.mr j9)) := q11
  have p12 : h (u + 12) = jI 6 (fun j9 => zI (M.rw j9)) := q12
  have p13 : h (u + 13) = jI 16 (fun j9 => zI (M.tu j9)) := q13
  refine jl_aload_n d_Md_fly_0 rfl rfl ?_
  refine jl_iload_n d_Md_fly_1 rfl rfl ?_
  refine jl_aload_n d_Md_fly_2 rfl rfl ?_
  refine jg_6 (q := 11) d_Md_fly_3 p0 rfl (by decide) fw_Md_129 ?_
  refine jl_invV (M' := m_Md_handOf) (d' := d - 1) (ck' := 0) (sk' := 0) (na := 2) (as := [.int (zI (s)), .int (zI (nw))]) (st := []) d_Md_fly_6 rfl p0 rfl mw_Md_141 ww_Md_handOf sw_Md_handOf nw_Md cw_Md_handOf rfl rfl rfl (by decide +kernel) (by omega) (Nat.le_of_ble_eq_true rfl) (Nat.le_of_ble_eq_true rfl) ?_
  refine k_M_handOf hl9 (by omega) hM9 ok ⟨by omega, by omega⟩ ⟨by omega, by omega⟩ ?_
  show jl_AW _ _ _ _ _ 9 [some (.ref (u)), some (.int (zI (b))), some (.int (zI (s))), some (.int (zI (k9))), none] [.int (zI (mG (M.mo (7 : Int).toNat) nw s))] n h _ _
  refine jz_if_ne (tgt := 25) d_Md_fly_9 (by decide) ⟨by omega, by omega⟩ (fun q1 => ?_) (fun q1 => ?_)
  · refine jl_aload_n d_Md_fly_25 rfl rfl ?_
    refine jl_dup d_Md_fly_26 rfl ?_
    refine jg_6 (q := 14) d_Md_fly_27 p0 rfl (by decide) fw_Md_135 ?_
    refine jl_iconst (v := zI (1)) d_Md_fly_30 (by decide) ?_
    refine jz_iadd (v := rt + 1) d_Md_fly_31 (by omega) ?_
    refine jp_6 (q := 14) (ty := .int) d_Md_fly_32 p0 (by simp) (by decide) fw_Md_135 rfl (by decide +kernel) (fun _ _ => rfl) (fun _ _ => rfl) (fun h1 eh1 => ?_)
    have eh1 : h1 = va_up h (u) (jO 6 [.int (zI (M.T)), .ref (u + 1), .ref (u + 2), .ref (u + 3), .ref (u + 4), .ref (u + 5), .int (zI (M.jn)), .int (zI (M.ja)), .int (zI (M.jb)), .ref (u + 6), .ref (u + 7), .int (zI (nw)), .int (zI (M.bl)), .int (zI (lt)), .int (zI (rt + 1)), .ref (u + 8), .ref (u + 9), .ref (u + 10), .ref (u + 11), .ref (u + 12), .ref (u + 13)]) := eh1
    have jf2 : h1 (u) = jO 6 [.int (zI (M.T)), .ref (u + 1), .ref (u + 2), .ref (u + 3), .ref (u + 4), .ref (u + 5), .int (zI (M.jn)), .int (zI (M.ja)), .int (zI (M.jb)), .ref (u + 6), .ref (u + 7), .int (zI (nw)), .int (zI (M.bl)), .int (zI (lt)), .int (zI (rt + 1)), .ref (u + 8), .ref (u + 9), .ref (u + 10), .ref (u + 11), .ref (u + 12), .ref (u + 13)] := by rw [eh1, va_up_self]
    have jf3 : h1 (u + 1) = jI 8 (fun j9 => zI (M.mo j9)) := by rw [eh1, va_up_ne _ _ (by omega)]; exact p1
    have jf4 : h1 (u + 2) = jI 8 (fun j9 => zI (M.pe j9)) := by rw [eh1, va_up_ne _ _ (by omega)]; exact p2
    have jf5 : h1 (u + 3) = jI 128 (fun j9 => zI (M.co j9)) := by rw [eh1, va_up_ne _ _ (by omega)]; exact p3
    have jf6 : h1 (u + 4) = jI 384 (fun j9 => zI (M.he j9)) := by rw [eh1, va_up_ne _ _ (by omega)]; exact p4
    have jf7 : h1 (u + 5) = jZ 128 (fun j9 => zI (M.cr j9)) := by rw [eh1, va_up_ne _ _ (by omega)]; exact p5
    have jf8 : h1 (u + 6) = jI 16 (fun j9 => zI (M.wy j9)) := by rw [eh1, va_up_ne _ _ (by omega)]; exact p6
    have jf9 : h1 (u + 7) = jI 512 (fun j9 => zI (M.fa j9)) := by rw [eh1, va_up_ne _ _ (by omega)]; exact p7
    have jf10 : h1 (u + 8) = jI 32 (fun j9 => zI (la j9)) := by rw [eh1, va_up_ne _ _ (by omega)]; exact p8
    have jf11 : h1 (u + 9) = jI 32 (fun j9 => zI (ha j9)) := by rw [eh1, va_up_ne _ _ (by omega)]; exact p9
    have jf12 : h1 (u + 10) = jI 4096 (fun j9 => zI (M.w1 j9)) := by rw [eh1, va_up_ne _ _ (by omega)]; exact p10
    have jf13 : h1 (u + 11) = jI 4096 (fun j9 => zI (M.mr j9)) := by rw [eh1, va_up_ne _ _ (by omega)]; exact p11
    have jf14 : h1 (u + 12) = jI 6 (fun j9 => zI (M.rw j9)) := by rw [eh1, va_up_ne _ _ (by omega)]; exact p12
    have jf15 : h1 (u + 13) = jI 16 (fun j9 => zI (M.tu j9)) := by rw [eh1, va_up_ne _ _ (by omega)]; exact p13
    have hM2 : jM h1 u (mkM M.T M.mo M.pe M.co M.he M.cr M.jn M.ja M.jb M.wy M.fa (nw) (M.bl) (lt) (rt + 1) (la) (ha) M.w1 M.mr M.rw M.tu) := ⟨jf2, jf3, jf4, jf5, jf6, jf7, jf8, jf9, jf10, jf11, jf12, jf13, jf14, jf15⟩
    have hf2 : jfr h h1 u (u + 14) := (fun y hy => by rw [eh1, va_up_ne _ _ (by omega)])
    obtain ⟨q0z, q1z, q2z, q3z, q4z, q5z, q6z, q7z, q8z, q9z, q10z, q11z, q12z, q13z⟩ := id (hM2)
    have p0z : h1 u = jO 6 [.int (zI (M.T)), .ref (u + 1), .ref (u + 2), .ref (u + 3), .ref (u + 4), .ref (u + 5), .int (zI (M.jn)), .int (zI (M.ja)), .int (zI (M.jb)), .ref (u + 6), .ref (u + 7), .int (zI (nw)), .int (zI (M.bl)), .int (zI (lt)), .int (zI (rt + 1)), .ref (u + 8), .ref (u + 9), .ref (u + 10), .ref (u + 11), .ref (u + 12), .ref (u + 13)] := q0z
    have p1z : h1 (u + 1) = jI 8 (fun j9 => zI (M.mo j9)) := q1z
    have p2z : h1 (u + 2) = jI 8 (fun j9 => zI (M.pe j9)) := q2z
    have p3z : h1 (u + 3) = jI 128 (fun j9 => zI (M.co j9)) := q3z
    have p4z : h1 (u + 4) = jI 384 (fun j9 => zI (M.he j9)) := q4z
    have p5z : h1 (u + 5) = jZ 128 (fun j9 => zI (M.cr j9)) := q5z
    have p6z : h1 (u + 6) = jI 16 (fun j9 => zI (M.wy j9)) := q6z
    have p7z : h1 (u + 7) = jI 512 (fun j9 => zI (M.fa j9)) := q7z
    have p8z : h1 (u + 8) = jI 32 (fun j9 => zI (la j9)) := q8z
    have p9z : h1 (u + 9) = jI 32 (fun j9 => zI (ha j9)) := q9z
    have p10z : h1 (u + 10) = jI 4096 (fun j9 => zI (M.w1 j9)) := q10z
    have p11z : h1 (u + 11) = jI 4096 (fun j9 => zI (M.mr j9)) := q11z
    have p12z : h1 (u + 12) = jI 6 (fun j9 => zI (M.rw j9)) := q12z
    have p13z : h1 (u + 13) = jI 16 (fun j9 => zI (M.tu j9)) := q13z
    refine jl_aload_n d_Md_fly_35 rfl rfl ?_
    refine jl_bipush (v := zI (7)) d_Md_fly_36 (by decide) ?_
    refine jl_iload_n d_Md_fly_38 rfl rfl ?_
    refine jl_iload_n d_Md_fly_39 rfl rfl ?_
    refine jl_invV (M' := m_Md_tall) (d' := d - 1) (ck' := 0) (sk' := 0) (na := 3) (as := [.int (zI (7)), .int (zI (s)), .int (zI (k9))]) (st := []) d_Md_fly_40 rfl p0z rfl mw_Md_73 ww_Md_tall sw_Md_tall nw_Md cw_Md_tall rfl rfl rfl (by decide +kernel) (by omega) (Nat.le_of_ble_eq_true rfl) (Nat.le_of_ble_eq_true rfl) ?_
    refine k_M_tall hl9 (by omega) hM2 ⟨by decide, by decide⟩ hs9 hk9 ?_
    show jl_AW _ _ _ _ _ 43 [some (.ref (u)), some (.int (zI (b))), some (.int (zI (s))), some (.int (zI (k9))), none] [.int (zI (hM M 7 (s * 3 + k9).toNat))] n h1 _ _
    refine jl_istore (L' := [some (.ref (u)), some (.int (zI (b))), some (.int (zI (s))), some (.int (zI (k9))), some (.int (zI (hM M 7 (s * 3 + k9).toNat)))]) d_Md_fly_43 (by decide) rfl ?_
    refine jl_aload_n d_Md_fly_45 rfl rfl ?_
    refine jg_6 (q := 15) d_Md_fly_46 p0z rfl (by decide) fw_Md_36 ?_
    refine jl_iload_n d_Md_fly_49 rfl rfl ?_
    refine jl_aload_n d_Md_fly_50 rfl rfl ?_
    refine jg_6 (q := 11) d_Md_fly_51 p0z rfl (by decide) fw_Md_129 ?_
    refine jl_iload d_Md_fly_54 rfl ?_
    refine jz_iadd (v := nw + hM M 7 (s * 3 + k9).toNat) d_Md_fly_56 (by omega) ?_
    refine jz_iasth d_Md_fly_57 p8z (by omega) (by omega) (by omega) (fun h16 eh16 => ?_)
    have jf17 : h16 (u + 8) = jI 32 (fun j9 => zI ((va_up la (b).toNat (nw + hM M 7 (s * 3 + k9).toNat)) j9)) := by rw [eh16, va_up_self]
    refine jl_aload_n d_Md_fly_58 rfl rfl ?_
    have jf18 : h16 (u) = jO 6 [.int (zI (M.T)), .ref (u + 1), .ref (u + 2), .ref (u + 3), .ref (u + 4), .ref (u + 5), .int (zI (M.jn)), .int (zI (M.ja)), .int (zI (M.jb)), .ref (u + 6), .ref (u + 7), .int (zI (nw)), .int (zI (M.bl)), .int (zI (lt)), .int (zI (rt + 1)), .ref (u + 8), .ref (u + 9), .ref (u + 10), .ref (u + 11), .ref (u + 12), .ref (u + 13)] := by rw [eh16, va_up_ne _ _ (by omega)]; exact p0z
    refine jg_6 (q := 16) d_Md_fly_59 jf18 rfl (by decide) fw_Md_39 ?_
    refine jl_iload_n d_Md_fly_62 rfl rfl ?_
    refine jl_aload_n d_Md_fly_63 rfl rfl ?_
    refine jg_6 (q := 1) d_Md_fly_64 jf18 rfl (by decide) fw_Md_7 ?_
    refine jl_bipush (v := zI (7)) d_Md_fly_67 (by decide) ?_
    have jf19 : h16 (u + 1) = jI 8 (fun j9 => zI (M.mo j9)) := by rw [eh16, va_up_ne _ _ (by omega)]; exact p1z
    refine jz_iald d_Md_fly_69 jf19 (by omega) (by omega) (by omega) ?_
    refine jl_iconst (v := zI (2)) d_Md_fly_70 (by decide) ?_
    refine jz_icmp_ne (tgt := 87) d_Md_fly_71 (by decide) ⟨by omega, by omega⟩ ⟨by omega, by omega⟩ (fun q2 => ?_) (fun q2 => ?_)
    · refine jl_aload_n d_Md_fly_87 rfl rfl ?_
      refine jg_6 (q := 11) d_Md_fly_88 jf18 rfl (by decide) fw_Md_129 ?_
      refine jl_iload d_Md_fly_91 rfl ?_
      refine jz_iadd (v := nw + hM M 7 (s * 3 + k9).toNat) d_Md_fly_93 (by omega) ?_
      refine jl_iconst (v := zI (2)) d_Md_fly_94 (by decide) ?_
      refine jz_irem (v := (nw + hM M 7 (s * 3 + k9).toNat) % 2) d_Md_fly_95 ⟨by omega, by omega⟩ ⟨by decide, by decide⟩ (by decide) (Int.tmod_eq_emod_of_nonneg (by omega)) ?_
      have jf20 : h16 (u + 9) = jI 32 (fun j9 => zI (ha j9)) := by rw [eh16, va_up_ne _ _ (by omega)]; exact p9z
      refine jz_iasth d_Md_fly_96 jf20 (by omega) (by omega) (by omega) (fun h21 eh21 => ?_)
      have jf22 : h21 (u + 9) = jI 32 (fun j9 => zI ((va_up ha (b).toNat ((nw + hM M 7 (s * 3 + k9).toNat) % 2)) j9)) := by rw [eh21, va_up_self]
      have jf23 : h21 (u) = jO 6 [.int (zI (M.T)), .ref (u + 1), .ref (u + 2), .ref (u + 3), .ref (u + 4), .ref (u + 5), .int (zI (M.jn)), .int (zI (M.ja)), .int (zI (M.jb)), .ref (u + 6), .ref (u + 7), .int (zI (nw)), .int (zI (M.bl)), .int (zI (lt)), .int (zI (rt + 1)), .ref (u + 8), .ref (u + 9), .ref (u + 10), .ref (u + 11), .ref (u + 12), .ref (u + 13)] := by rw [eh21, va_up_ne _ _ (by omega)]; exact jf18
      have jf24 : h21 (u + 1) = jI 8 (fun j9 => zI (M.mo j9)) := by rw [eh21, va_up_ne _ _ (by omega)]; exact jf19
      have jf25 : h21 (u + 2) = jI 8 (fun j9 => zI (M.pe j9)) := by rw [eh21, va_up_ne _ _ (by omega), eh16, va_up_ne _ _ (by omega)]; exact p2z
      have jf26 : h21 (u + 3) = jI 128 (fun j9 => zI (M.co j9)) := by rw [eh21, va_up_ne _ _ (by omega), eh16, va_up_ne _ _ (by omega)]; exact p3z
      have jf27 : h21 (u + 4) = jI 384 (fun j9 => zI (M.he j9)) := by rw [eh21, va_up_ne _ _ (by omega), eh16, va_up_ne _ _ (by omega)]; exact p4z
      have jf28 : h21 (u + 5) = jZ 128 (fun j9 => zI (M.cr j9)) := by rw [eh21, va_up_ne _ _ (by omega), eh16, va_up_ne _ _ (by omega)]; exact p5z
      have jf29 : h21 (u + 6) = jI 16 (fun j9 => zI (M.wy j9)) := by rw [eh21, va_up_ne _ _ (by omega), eh16, va_up_ne _ _ (by omega)]; exact p6z
      have jf30 : h21 (u + 7) = jI 512 (fun j9 => zI (M.fa j9)) := by rw [eh21, va_up_ne _ _ (by omega), eh16, va_up_ne _ _ (by omega)]; exact p7z
      have jf31 : h21 (u + 8) = jI 32 (fun j9 => zI ((va_up la (b).toNat (nw + hM M 7 (s * 3 + k9).toNat)) j9)) := by rw [eh21, va_up_ne _ _ (by omega)]; exact jf17
      have jf32 : h21 (u + 10) = jI 4096 (fun j9 => zI (M.w1 j9)) := by rw [eh21, va_up_ne _ _ (by omega), eh16, va_up_ne _ _ (by omega)]; exact p10z
      have jf33 : h21 (u + 11) = jI 4096 (fun j9 => zI (M.mr j9)) := by rw [eh21, va_up_ne _ _ (by omega), eh16, va_up_ne _ _ (by omega)]; exact p11z
      have jf34 : h21 (u + 12) = jI 6 (fun j9 => zI (M.rw j9)) := by rw [eh21, va_up_ne _ _ (by omega), eh16, va_up_ne _ _ (by omega)]; exact p12z
      have jf35 : h21 (u + 13) = jI 16 (fun j9 => zI (M.tu j9)) := by rw [eh21, va_up_ne _ _ (by omega), eh16, va_up_ne _ _ (by omega)]; exact p13z
      obtain ⟨LA, eLA⟩ : ∃ f, f = va_up la b.toNat (nw + hM M 7 (s * 3 + k9).toNat) := ⟨_, rfl⟩
      obtain ⟨HA, eHA⟩ : ∃ f, f = va_up ha b.toNat ((nw + hM M 7 (s * 3 + k9).toNat) % 2) := ⟨_, rfl⟩
      rw [← eLA] at jf31
      rw [← eHA] at jf22
      exact jl_vret d_Md_fly_97 rfl (hk h21 (lt) (rt + 1) LA HA (by rw [if_neg q1]) (by rw [if_neg q1]) eLA (by rw [eHA, if_neg q2]) ⟨jf23, jf24, jf25, jf26, jf27, jf28, jf29, jf30, jf31, jf22, jf32, jf33, jf34, jf35⟩ (jfr_tr hf2 (fun y hy => by rw [eh21, va_up_ne _ _ (by omega), eh16, va_up_ne _ _ (by omega)])))
    · refine jl_aload_n d_Md_fly_74 rfl rfl ?_
      refine jl_bipush (v := zI (7)) d_Md_fly_75 (by decide) ?_
      refine jl_iload_n d_Md_fly_77 rfl rfl ?_
      refine jl_iload_n d_Md_fly_78 rfl rfl ?_
      have jf20 : h16 (u + 2) = jI 8 (fun j9 => zI (M.pe j9)) := by rw [eh16, va_up_ne _ _ (by omega)]; exact p2z
      have jf21 : h16 (u + 3) = jI 128 (fun j9 => zI (M.co j9)) := by rw [eh16, va_up_ne _ _ (by omega)]; exact p3z
      have jf22 : h16 (u + 4) = jI 384 (fun j9 => zI (M.he j9)) := by rw [eh16, va_up_ne _ _ (by omega)]; exact p4z
      have jf23 : h16 (u + 5) = jZ 128 (fun j9 => zI (M.cr j9)) := by rw [eh16, va_up_ne _ _ (by omega)]; exact p5z
      have jf24 : h16 (u + 6) = jI 16 (fun j9 => zI (M.wy j9)) := by rw [eh16, va_up_ne _ _ (by omega)]; exact p6z
      have jf25 : h16 (u + 7) = jI 512 (fun j9 => zI (M.fa j9)) := by rw [eh16, va_up_ne _ _ (by omega)]; exact p7z
      have jf26 : h16 (u + 9) = jI 32 (fun j9 => zI (ha j9)) := by rw [eh16, va_up_ne _ _ (by omega)]; exact p9z
      have jf27 : h16 (u + 10) = jI 4096 (fun j9 => zI (M.w1 j9)) := by rw [eh16, va_up_ne _ _ (by omega)]; exact p10z
      have jf28 : h16 (u + 11) = jI 4096 (fun j9 => zI (M.mr j9)) := by rw [eh16, va_up_ne _ _ (by omega)]; exact p11z
      have jf29 : h16 (u + 12) = jI 6 (fun j9 => zI (M.rw j9)) := by rw [eh16, va_up_ne _ _ (by omega)]; exact p12z
      have jf30 : h16 (u + 13) = jI 16 (fun j9 => zI (M.tu j9)) := by rw [eh16, va_up_ne _ _ (by omega)]; exact p13z
      have hM3 : jM h16 u (mkM M.T M.mo M.pe M.co M.he M.cr M.jn M.ja M.jb M.wy M.fa (nw) (M.bl) (lt) (rt + 1) ((va_up la b.toNat (nw + hM M 7 (s * 3 + k9).toNat))) (ha) M.w1 M.mr M.rw M.tu) := ⟨jf18, jf19, jf20, jf21, jf22, jf23, jf24, jf25, jf17, jf26, jf27, jf28, jf29, jf30⟩
      refine jl_invV (M' := m_Md_target) (d' := d - 1) (ck' := 0) (sk' := 0) (na := 3) (as := [.int (zI (7)), .int (zI (s)), .int (zI (k9))]) (st := [.int (zI (b)), .ref (u + 9)]) d_Md_fly_79 rfl jf18 rfl mw_Md_77 ww_Md_target sw_Md_target nw_Md cw_Md_target rfl rfl rfl (by decide +kernel) (by omega) (Nat.le_of_ble_eq_true rfl) (Nat.le_of_ble_eq_true rfl) ?_
      refine k_M_target hl9 (by omega) hM3 ok ⟨by decide, by decide⟩ hpe hs9 hk9 ?_
      show jl_AW _ _ _ _ _ 82 [some (.ref (u)), some (.int (zI (b))), some (.int (zI (s))), some (.int (zI (k9))), some (.int (zI (hM M 7 (s * 3 + k9).toNat)))] [.int (zI (sp_tgt (M.mo (7 : Int).toNat) (M.pe (7 : Int).toNat) (xM M 7) s (hM M 7 (s * 3 + k9).toNat))), .int (zI (b)), .ref (u + 9)] n h16 _ _
      refine jl_iconst (v := zI (2)) d_Md_fly_82 (by decide) ?_
      have htp := sp_tgt_nn ok 7 hpe hs9 hh
      refine jz_irem (v := sp_tgt (M.mo (7 : Int).toNat) (M.pe (7 : Int).toNat) (xM M 7) s (hM M 7 (s * 3 + k9).toNat) % 2) d_Md_fly_83 ⟨by omega, by omega⟩ ⟨by decide, by decide⟩ (by decide) (Int.tmod_eq_emod_of_nonneg (by omega)) ?_
      refine jl_goto (tgt := 96) d_Md_fly_84 (by decide) ?_
      refine jz_iasth d_Md_fly_96 jf26 (by omega) (by omega) (by omega) (fun h31 eh31 => ?_)
      have jf32 : h31 (u + 9) = jI 32 (fun j9 => zI ((va_up ha (b).toNat (sp_tgt (M.mo (7 : Int).toNat) (M.pe (7 : Int).toNat) (xM M 7) s (hM M 7 (s * 3 + k9).toNat) % 2)) j9)) := by rw [eh31, va_up_self]
      have jf33 : h31 (u) = jO 6 [.int (zI (M.T)), .ref (u + 1), .ref (u + 2), .ref (u + 3), .ref (u + 4), .ref (u + 5), .int (zI (M.jn)), .int (zI (M.ja)), .int (zI (M.jb)), .ref (u + 6), .ref (u + 7), .int (zI (nw)), .int (zI (M.bl)), .int (zI (lt)), .int (zI (rt + 1)), .ref (u + 8), .ref (u + 9), .ref (u + 10), .ref (u + 11), .ref (u + 12), .ref (u + 13)] := by rw [eh31, va_up_ne _ _ (by omega)]; exact jf18
      have jf34 : h31 (u + 1) = jI 8 (fun j9 => zI (M.mo j9)) := by rw [eh31, va_up_ne _ _ (by omega)]; exact jf19
      have jf35 : h31 (u + 2) = jI 8 (fun j9 => zI (M.pe j9)) := by rw [eh31, va_up_ne _ _ (by omega)]; exact jf20
      have jf36 : h31 (u + 3) = jI 128 (fun j9 => zI (M.co j9)) := by rw [eh31, va_up_ne _ _ (by omega)]; exact jf21
      have jf37 : h31 (u + 4) = jI 384 (fun j9 => zI (M.he j9)) := by rw [eh31, va_up_ne _ _ (by omega)]; exact jf22
      have jf38 : h31 (u + 5) = jZ 128 (fun j9 => zI (M.cr j9)) := by rw [eh31, va_up_ne _ _ (by omega)]; exact jf23
      have jf39 : h31 (u + 6) = jI 16 (fun j9 => zI (M.wy j9)) := by rw [eh31, va_up_ne _ _ (by omega)]; exact jf24
      have jf40 : h31 (u + 7) = jI 512 (fun j9 => zI (M.fa j9)) := by rw [eh31, va_up_ne _ _ (by omega)]; exact jf25
      have jf41 : h31 (u + 8) = jI 32 (fun j9 => zI ((va_up la (b).toNat (nw + hM M 7 (s * 3 + k9).toNat)) j9)) := by rw [eh31, va_up_ne _ _ (by omega)]; exact jf17
      have jf42 : h31 (u + 10) = jI 4096 (fun j9 => zI (M.w1 j9)) := by rw [eh31, va_up_ne _ _ (by omega)]; exact jf27
      have jf43 : h31 (u + 11) = jI 4096 (fun j9 => zI (M.mr j9)) := by rw [eh31, va_up_ne _ _ (by omega)]; exact jf28
      have jf44 : h31 (u + 12) = jI 6 (fun j9 => zI (M.rw j9)) := by rw [eh31, va_up_ne _ _ (by omega)]; exact jf29
      have jf45 : h31 (u + 13) = jI 16 (fun j9 => zI (M.tu j9)) := by rw [eh31, va_up_ne _ _ (by omega)]; exact jf30
      obtain ⟨LA, eLA⟩ : ∃ f, f = va_up la b.toNat (nw + hM M 7 (s * 3 + k9).toNat) := ⟨_, rfl⟩
      obtain ⟨HA, eHA⟩ : ∃ f, f = va_up ha b.toNat (sp_tgt (M.mo (7 : Int).toNat) (M.pe (7 : Int).toNat) (xM M 7) s (hM M 7 (s * 3 + k9).toNat) % 2) := ⟨_, rfl⟩
      rw [← eLA] at jf41
      rw [← eHA] at jf32
      exact jl_vret d_Md_fly_97 rfl (hk h31 (lt) (rt + 1) LA HA (by rw [if_neg q1]) (by rw [if_neg q1]) eLA (by rw [eHA, if_pos q2]) ⟨jf33, jf34, jf35, jf36, jf37, jf38, jf39, jf40, jf41, jf32, jf42, jf43, jf44, jf45⟩ (jfr_tr hf2 (fun y hy => by rw [eh31, va_up_ne _ _ (by omega), eh16, va_up_ne _ _ (by omega)])))
  · refine jl_aload_n d_Md_fly_12 rfl rfl ?_
    refine jl_dup d_Md_fly_13 rfl ?_
    refine jg_6 (q := 13) d_Md_fly_14 p0 rfl (by decide) fw_Md_132 ?_
    refine jl_iconst (v := zI (1)) d_Md_fly_17 (by decide) ?_
    refine jz_iadd (v := lt + 1) d_Md_fly_18 (by omega) ?_
    refine jp_6 (q := 13) (ty := .int) d_Md_fly_19 p0 (by simp) (by decide) fw_Md_132 rfl (by decide +kernel) (fun _ _ => rfl) (fun _ _ => rfl) (fun h1 eh1 => ?_)
    have eh1 : h1 = va_up h (u) (jO 6 [.int (zI (M.T)), .ref (u + 1), .ref (u + 2), .ref (u + 3), .ref (u + 4), .ref (u + 5), .int (zI (M.jn)), .int (zI (M.ja)), .int (zI (M.jb)), .ref (u + 6), .ref (u + 7), .int (zI (nw)), .int (zI (M.bl)), .int (zI (lt + 1)), .int (zI (rt)), .ref (u + 8), .ref (u + 9), .ref (u + 10), .ref (u + 11), .ref (u + 12), .ref (u + 13)]) := eh1
    have jf2 : h1 (u) = jO 6 [.int (zI (M.T)), .ref (u + 1), .ref (u + 2), .ref (u + 3), .ref (u + 4), .ref (u + 5), .int (zI (M.jn)), .int (zI (M.ja)), .int (zI (M.jb)), .ref (u + 6), .ref (u + 7), .int (zI (nw)), .int (zI (M.bl)), .int (zI (lt + 1)), .int (zI (rt)), .ref (u + 8), .ref (u + 9), .ref (u + 10), .ref (u + 11), .ref (u + 12), .ref (u + 13)] := by rw [eh1, va_up_self]
    refine jl_goto (tgt := 35) d_Md_fly_22 (by decide) ?_
    have jf3 : h1 (u + 1) = jI 8 (fun j9 => zI (M.mo j9)) := by rw [eh1, va_up_ne _ _ (by omega)]; exact p1
    have jf4 : h1 (u + 2) = jI 8 (fun j9 => zI (M.pe j9)) := by rw [eh1, va_up_ne _ _ (by omega)]; exact p2
    have jf5 : h1 (u + 3) = jI 128 (fun j9 => zI (M.co j9)) := by rw [eh1, va_up_ne _ _ (by omega)]; exact p3
    have jf6 : h1 (u + 4) = jI 384 (fun j9 => zI (M.he j9)) := by rw [eh1, va_up_ne _ _ (by omega)]; exact p4
    have jf7 : h1 (u + 5) = jZ 128 (fun j9 => zI (M.cr j9)) := by rw [eh1, va_up_ne _ _ (by omega)]; exact p5
    have jf8 : h1 (u + 6) = jI 16 (fun j9 => zI (M.wy j9)) := by rw [eh1, va_up_ne _ _ (by omega)]; exact p6
    have jf9 : h1 (u + 7) = jI 512 (fun j9 => zI (M.fa j9)) := by rw [eh1, va_up_ne _ _ (by omega)]; exact p7
    have jf10 : h1 (u + 8) = jI 32 (fun j9 => zI (la j9)) := by rw [eh1, va_up_ne _ _ (by omega)]; exact p8
    have jf11 : h1 (u + 9) = jI 32 (fun j9 => zI (ha j9)) := by rw [eh1, va_up_ne _ _ (by omega)]; exact p9
    have jf12 : h1 (u + 10) = jI 4096 (fun j9 => zI (M.w1 j9)) := by rw [eh1, va_up_ne _ _ (by omega)]; exact p10
    have jf13 : h1 (u + 11) = jI 4096 (fun j9 => zI (M.mr j9)) := by rw [eh1, va_up_ne _ _ (by omega)]; exact p11
    have jf14 : h1 (u + 12) = jI 6 (fun j9 => zI (M.rw j9)) := by rw [eh1, va_up_ne _ _ (by omega)]; exact p12
    have jf15 : h1 (u + 13) = jI 16 (fun j9 => zI (M.tu j9)) := by rw [eh1, va_up_ne _ _ (by omega)]; exact p13
    have hM2 : jM h1 u (mkM M.T M.mo M.pe M.co M.he M.cr M.jn M.ja M.jb M.wy M.fa (nw) (M.bl) (lt + 1) (rt) (la) (ha) M.w1 M.mr M.rw M.tu) := ⟨jf2, jf3, jf4, jf5, jf6, jf7, jf8, jf9, jf10, jf11, jf12, jf13, jf14, jf15⟩
    have hf2 : jfr h h1 u (u + 14) := (fun y hy => by rw [eh1, va_up_ne _ _ (by omega)])
    obtain ⟨q0z, q1z, q2z, q3z, q4z, q5z, q6z, q7z, q8z, q9z, q10z, q11z, q12z, q13z⟩ := id (hM2)
    have p0z : h1 u = jO 6 [.int (zI (M.T)), .ref (u + 1), .ref (u + 2), .ref (u + 3), .ref (u + 4), .ref (u + 5), .int (zI (M.jn)), .int (zI (M.ja)), .int (zI (M.jb)), .ref (u + 6), .ref (u + 7), .int (zI (nw)), .int (zI (M.bl)), .int (zI (lt + 1)), .int (zI (rt)), .ref (u + 8), .ref (u + 9), .ref (u + 10), .ref (u + 11), .ref (u + 12), .ref (u + 13)] := q0z
    have p1z : h1 (u + 1) = jI 8 (fun j9 => zI (M.mo j9)) := q1z
    have p2z : h1 (u + 2) = jI 8 (fun j9 => zI (M.pe j9)) := q2z
    have p3z : h1 (u + 3) = jI 128 (fun j9 => zI (M.co j9)) := q3z
    have p4z : h1 (u + 4) = jI 384 (fun j9 => zI (M.he j9)) := q4z
    have p5z : h1 (u + 5) = jZ 128 (fun j9 => zI (M.cr j9)) := q5z
    have p6z : h1 (u + 6) = jI 16 (fun j9 => zI (M.wy j9)) := q6z
    have p7z : h1 (u + 7) = jI 512 (fun j9 => zI (M.fa j9)) := q7z
    have p8z : h1 (u + 8) = jI 32 (fun j9 => zI (la j9)) := q8z
    have p9z : h1 (u + 9) = jI 32 (fun j9 => zI (ha j9)) := q9z
    have p10z : h1 (u + 10) = jI 4096 (fun j9 => zI (M.w1 j9)) := q10z
    have p11z : h1 (u + 11) = jI 4096 (fun j9 => zI (M.mr j9)) := q11z
    have p12z : h1 (u + 12) = jI 6 (fun j9 => zI (M.rw j9)) := q12z
    have p13z : h1 (u + 13) = jI 16 (fun j9 => zI (M.tu j9)) := q13z
    refine jl_aload_n d_Md_fly_35 rfl rfl ?_
    refine jl_bipush (v := zI (7)) d_Md_fly_36 (by decide) ?_
    refine jl_iload_n d_Md_fly_38 rfl rfl ?_
    refine jl_iload_n d_Md_fly_39 rfl rfl ?_
    refine jl_invV (M' := m_Md_tall) (d' := d - 1) (ck' := 0) (sk' := 0) (na := 3) (as := [.int (zI (7)), .int (zI (s)), .int (zI (k9))]) (st := []) d_Md_fly_40 rfl p0z rfl mw_Md_73 ww_Md_tall sw_Md_tall nw_Md cw_Md_tall rfl rfl rfl (by decide +kernel) (by omega) (Nat.le_of_ble_eq_true rfl) (Nat.le_of_ble_eq_true rfl) ?_
    refine k_M_tall hl9 (by omega) hM2 ⟨by decide, by decide⟩ hs9 hk9 ?_
    show jl_AW _ _ _ _ _ 43 [some (.ref (u)), some (.int (zI (b))), some (.int (zI (s))), some (.int (zI (k9))), none] [.int (zI (hM M 7 (s * 3 + k9).toNat))] n h1 _ _
    refine jl_istore (L' := [some (.ref (u)), some (.int (zI (b))), some (.int (zI (s))), some (.int (zI (k9))), some (.int (zI (hM M 7 (s * 3 + k9).toNat)))]) d_Md_fly_43 (by decide) rfl ?_
    refine jl_aload_n d_Md_fly_45 rfl rfl ?_
    refine jg_6 (q := 15) d_Md_fly_46 p0z rfl (by decide) fw_Md_36 ?_
    refine jl_iload_n d_Md_fly_49 rfl rfl ?_
    refine jl_aload_n d_Md_fly_50 rfl rfl ?_
    refine jg_6 (q := 11) d_Md_fly_51 p0z rfl (by decide) fw_Md_129 ?_
    refine jl_iload d_Md_fly_54 rfl ?_
    refine jz_iadd (v := nw + hM M 7 (s * 3 + k9).toNat) d_Md_fly_56 (by omega) ?_
    refine jz_iasth d_Md_fly_57 p8z (by omega) (by omega) (by omega) (fun h16 eh16 => ?_)
    have jf17 : h16 (u + 8) = jI 32 (fun j9 => zI ((va_up la (b).toNat (nw + hM M 7 (s * 3 + k9).toNat)) j9)) := by rw [eh16, va_up_self]
    refine jl_aload_n d_Md_fly_58 rfl rfl ?_
    have jf18 : h16 (u) = jO 6 [.int (zI (M.T)), .ref (u + 1), .ref (u + 2), .ref (u + 3), .ref (u + 4), .ref (u + 5), .int (zI (M.jn)), .int (zI (M.ja)), .int (zI (M.jb)), .ref (u + 6), .ref (u + 7), .int (zI (nw)), .int (zI (M.bl)), .int (zI (lt + 1)), .int (zI (rt)), .ref (u + 8), .ref (u + 9), .ref (u + 10), .ref (u + 11), .ref (u + 12), .ref (u + 13)] := by rw [eh16, va_up_ne _ _ (by omega)]; exact p0z
    refine jg_6 (q := 16) d_Md_fly_59 jf18 rfl (by decide) fw_Md_39 ?_
    refine jl_iload_n d_Md_fly_62 rfl rfl ?_
    refine jl_aload_n d_Md_fly_63 rfl rfl ?_
    refine jg_6 (q := 1) d_Md_fly_64 jf18 rfl (by decide) fw_Md_7 ?_
    refine jl_bipush (v := zI (7)) d_Md_fly_67 (by decide) ?_
    have jf19 : h16 (u + 1) = jI 8 (fun j9 => zI (M.mo j9)) := by rw [eh16, va_up_ne _ _ (by omega)]; exact p1z
    refine jz_iald d_Md_fly_69 jf19 (by omega) (by omega) (by omega) ?_
    refine jl_iconst (v := zI (2)) d_Md_fly_70 (by decide) ?_
    refine jz_icmp_ne (tgt := 87) d_Md_fly_71 (by decide) ⟨by omega, by omega⟩ ⟨by omega, by omega⟩ (fun q2 => ?_) (fun q2 => ?_)
    · refine jl_aload_n d_Md_fly_87 rfl rfl ?_
      refine jg_6 (q := 11) d_Md_fly_88 jf18 rfl (by decide) fw_Md_129 ?_
      refine jl_iload d_Md_fly_91 rfl ?_
      refine jz_iadd (v := nw + hM M 7 (s * 3 + k9).toNat) d_Md_fly_93 (by omega) ?_
      refine jl_iconst (v := zI (2)) d_Md_fly_94 (by decide) ?_
      refine jz_irem (v := (nw + hM M 7 (s * 3 + k9).toNat) % 2) d_Md_fly_95 ⟨by omega, by omega⟩ ⟨by decide, by decide⟩ (by decide) (Int.tmod_eq_emod_of_nonneg (by omega)) ?_
      have jf20 : h16 (u + 9) = jI 32 (fun j9 => zI (ha j9)) := by rw [eh16, va_up_ne _ _ (by omega)]; exact p9z
      refine jz_iasth d_Md_fly_96 jf20 (by omega) (by omega) (by omega) (fun h21 eh21 => ?_)
      have jf22 : h21 (u + 9) = jI 32 (fun j9 => zI ((va_up ha (b).toNat ((nw + hM M 7 (s * 3 + k9).toNat) % 2)) j9)) := by rw [eh21, va_up_self]
      have jf23 : h21 (u) = jO 6 [.int (zI (M.T)), .ref (u + 1), .ref (u + 2), .ref (u + 3), .ref (u + 4), .ref (u + 5), .int (zI (M.jn)), .int (zI (M.ja)), .int (zI (M.jb)), .ref (u + 6), .ref (u + 7), .int (zI (nw)), .int (zI (M.bl)), .int (zI (lt + 1)), .int (zI (rt)), .ref (u + 8), .ref (u + 9), .ref (u + 10), .ref (u + 11), .ref (u + 12), .ref (u + 13)] := by rw [eh21, va_up_ne _ _ (by omega)]; exact jf18
      have jf24 : h21 (u + 1) = jI 8 (fun j9 => zI (M.mo j9)) := by rw [eh21, va_up_ne _ _ (by omega)]; exact jf19
      have jf25 : h21 (u + 2) = jI 8 (fun j9 => zI (M.pe j9)) := by rw [eh21, va_up_ne _ _ (by omega), eh16, va_up_ne _ _ (by omega)]; exact p2z
      have jf26 : h21 (u + 3) = jI 128 (fun j9 => zI (M.co j9)) := by rw [eh21, va_up_ne _ _ (by omega), eh16, va_up_ne _ _ (by omega)]; exact p3z
      have jf27 : h21 (u + 4) = jI 384 (fun j9 => zI (M.he j9)) := by rw [eh21, va_up_ne _ _ (by omega), eh16, va_up_ne _ _ (by omega)]; exact p4z
      have jf28 : h21 (u + 5) = jZ 128 (fun j9 => zI (M.cr j9)) := by rw [eh21, va_up_ne _ _ (by omega), eh16, va_up_ne _ _ (by omega)]; exact p5z
      have jf29 : h21 (u + 6) = jI 16 (fun j9 => zI (M.wy j9)) := by rw [eh21, va_up_ne _ _ (by omega), eh16, va_up_ne _ _ (by omega)]; exact p6z
      have jf30 : h21 (u + 7) = jI 512 (fun j9 => zI (M.fa j9)) := by rw [eh21, va_up_ne _ _ (by omega), eh16, va_up_ne _ _ (by omega)]; exact p7z
      have jf31 : h21 (u + 8) = jI 32 (fun j9 => zI ((va_up la (b).toNat (nw + hM M 7 (s * 3 + k9).toNat)) j9)) := by rw [eh21, va_up_ne _ _ (by omega)]; exact jf17
      have jf32 : h21 (u + 10) = jI 4096 (fun j9 => zI (M.w1 j9)) := by rw [eh21, va_up_ne _ _ (by omega), eh16, va_up_ne _ _ (by omega)]; exact p10z
      have jf33 : h21 (u + 11) = jI 4096 (fun j9 => zI (M.mr j9)) := by rw [eh21, va_up_ne _ _ (by omega), eh16, va_up_ne _ _ (by omega)]; exact p11z
      have jf34 : h21 (u + 12) = jI 6 (fun j9 => zI (M.rw j9)) := by rw [eh21, va_up_ne _ _ (by omega), eh16, va_up_ne _ _ (by omega)]; exact p12z
      have jf35 : h21 (u + 13) = jI 16 (fun j9 => zI (M.tu j9)) := by rw [eh21, va_up_ne _ _ (by omega), eh16, va_up_ne _ _ (by omega)]; exact p13z
      obtain ⟨LA, eLA⟩ : ∃ f, f = va_up la b.toNat (nw + hM M 7 (s * 3 + k9).toNat) := ⟨_, rfl⟩
      obtain ⟨HA, eHA⟩ : ∃ f, f = va_up ha b.toNat ((nw + hM M 7 (s * 3 + k9).toNat) % 2) := ⟨_, rfl⟩
      rw [← eLA] at jf31
      rw [← eHA] at jf22
      exact jl_vret d_Md_fly_97 rfl (hk h21 (lt + 1) (rt) LA HA (by rw [if_pos q1]) (by rw [if_pos q1]) eLA (by rw [eHA, if_neg q2]) ⟨jf23, jf24, jf25, jf26, jf27, jf28, jf29, jf30, jf31, jf22, jf32, jf33, jf34, jf35⟩ (jfr_tr hf2 (fun y hy => by rw [eh21, va_up_ne _ _ (by omega), eh16, va_up_ne _ _ (by omega)])))
    · refine jl_aload_n d_Md_fly_74 rfl rfl ?_
      refine jl_bipush (v := zI (7)) d_Md_fly_75 (by decide) ?_
      refine jl_iload_n d_Md_fly_77 rfl rfl ?_
      refine jl_iload_n d_Md_fly_78 rfl rfl ?_
      have jf20 : h16 (u + 2) = jI 8 (fun j9 => zI (M.pe j9)) := by rw [eh16, va_up_ne _ _ (by omega)]; exact p2z
      have jf21 : h16 (u + 3) = jI 128 (fun j9 => zI (M.co j9)) := by rw [eh16, va_up_ne _ _ (by omega)]; exact p3z
      have jf22 : h16 (u + 4) = jI 384 (fun j9 => zI (M.he j9)) := by rw [eh16, va_up_ne _ _ (by omega)]; exact p4z
      have jf23 : h16 (u + 5) = jZ 128 (fun j9 => zI (M.cr j9)) := by rw [eh16, va_up_ne _ _ (by omega)]; exact p5z
      have jf24 : h16 (u + 6) = jI 16 (fun j9 => zI (M.wy j9)) := by rw [eh16, va_up_ne _ _ (by omega)]; exact p6z
      have jf25 : h16 (u + 7) = jI 512 (fun j9 => zI (M.fa j9)) := by rw [eh16, va_up_ne _ _ (by omega)]; exact p7z
      have jf26 : h16 (u + 9) = jI 32 (fun j9 => zI (ha j9)) := by rw [eh16, va_up_ne _ _ (by omega)]; exact p9z
      have jf27 : h16 (u + 10) = jI 4096 (fun j9 => zI (M.w1 j9)) := by rw [eh16, va_up_ne _ _ (by omega)]; exact p10z
      have jf28 : h16 (u + 11) = jI 4096 (fun j9 => zI (M.mr j9)) := by rw [eh16, va_up_ne _ _ (by omega)]; exact p11z
      have jf29 : h16 (u + 12) = jI 6 (fun j9 => zI (M.rw j9)) := by rw [eh16, va_up_ne _ _ (by omega)]; exact p12z
      have jf30 : h16 (u + 13) = jI 16 (fun j9 => zI (M.tu j9)) := by rw [eh16, va_up_ne _ _ (by omega)]; exact p13z
      have hM3 : jM h16 u (mkM M.T M.mo M.pe M.co M.he M.cr M.jn M.ja M.jb M.wy M.fa (nw) (M.bl) (lt + 1) (rt) ((va_up la b.toNat (nw + hM M 7 (s * 3 + k9).toNat))) (ha) M.w1 M.mr M.rw M.tu) := ⟨jf18, jf19, jf20, jf21, jf22, jf23, jf24, jf25, jf17, jf26, jf27, jf28, jf29, jf30⟩
      refine jl_invV (M' := m_Md_target) (d' := d - 1) (ck' := 0) (sk' := 0) (na := 3) (as := [.int (zI (7)), .int (zI (s)), .int (zI (k9))]) (st := [.int (zI (b)), .ref (u + 9)]) d_Md_fly_79 rfl jf18 rfl mw_Md_77 ww_Md_target sw_Md_target nw_Md cw_Md_target rfl rfl rfl (by decide +kernel) (by omega) (Nat.le_of_ble_eq_true rfl) (Nat.le_of_ble_eq_true rfl) ?_
      refine k_M_target hl9 (by omega) hM3 ok ⟨by decide, by decide⟩ hpe hs9 hk9 ?_
      show jl_AW _ _ _ _ _ 82 [some (.ref (u)), some (.int (zI (b))), some (.int (zI (s))), some (.int (zI (k9))), some (.int (zI (hM M 7 (s * 3 + k9).toNat)))] [.int (zI (sp_tgt (M.mo (7 : Int).toNat) (M.pe (7 : Int).toNat) (xM M 7) s (hM M 7 (s * 3 + k9).toNat))), .int (zI (b)), .ref (u + 9)] n h16 _ _
      refine jl_iconst (v := zI (2)) d_Md_fly_82 (by decide) ?_
      have htp := sp_tgt_nn ok 7 hpe hs9 hh
      refine jz_irem (v := sp_tgt (M.mo (7 : Int).toNat) (M.pe (7 : Int).toNat) (xM M 7) s (hM M 7 (s * 3 + k9).toNat) % 2) d_Md_fly_83 ⟨by omega, by omega⟩ ⟨by decide, by decide⟩ (by decide) (Int.tmod_eq_emod_of_nonneg (by omega)) ?_
      refine jl_goto (tgt := 96) d_Md_fly_84 (by decide) ?_
      refine jz_iasth d_Md_fly_96 jf26 (by omega) (by omega) (by omega) (fun h31 eh31 => ?_)
      have jf32 : h31 (u + 9) = jI 32 (fun j9 => zI ((va_up ha (b).toNat (sp_tgt (M.mo (7 : Int).toNat) (M.pe (7 : Int).toNat) (xM M 7) s (hM M 7 (s * 3 + k9).toNat) % 2)) j9)) := by rw [eh31, va_up_self]
      have jf33 : h31 (u) = jO 6 [.int (zI (M.T)), .ref (u + 1), .ref (u + 2), .ref (u + 3), .ref (u + 4), .ref (u + 5), .int (zI (M.jn)), .int (zI (M.ja)), .int (zI (M.jb)), .ref (u + 6), .ref (u + 7), .int (zI (nw)), .int (zI (M.bl)), .int (zI (lt + 1)), .int (zI (rt)), .ref (u + 8), .ref (u + 9), .ref (u + 10), .ref (u + 11), .ref (u + 12), .ref (u + 13)] := by rw [eh31, va_up_ne _ _ (by omega)]; exact jf18
      have jf34 : h31 (u + 1) = jI 8 (fun j9 => zI (M.mo j9)) := by rw [eh31, va_up_ne _ _ (by omega)]; exact jf19
      have jf35 : h31 (u + 2) = jI 8 (fun j9 => zI (M.pe j9)) := by rw [eh31, va_up_ne _ _ (by omega)]; exact jf20
      have jf36 : h31 (u + 3) = jI 128 (fun j9 => zI (M.co j9)) := by rw [eh31, va_up_ne _ _ (by omega)]; exact jf21
      have jf37 : h31 (u + 4) = jI 384 (fun j9 => zI (M.he j9)) := by rw [eh31, va_up_ne _ _ (by omega)]; exact jf22
      have jf38 : h31 (u + 5) = jZ 128 (fun j9 => zI (M.cr j9)) := by rw [eh31, va_up_ne _ _ (by omega)]; exact jf23
      have jf39 : h31 (u + 6) = jI 16 (fun j9 => zI (M.wy j9)) := by rw [eh31, va_up_ne _ _ (by omega)]; exact jf24
      have jf40 : h31 (u + 7) = jI 512 (fun j9 => zI (M.fa j9)) := by rw [eh31, va_up_ne _ _ (by omega)]; exact jf25
      have jf41 : h31 (u + 8) = jI 32 (fun j9 => zI ((va_up la (b).toNat (nw + hM M 7 (s * 3 + k9).toNat)) j9)) := by rw [eh31, va_up_ne _ _ (by omega)]; exact jf17
      have jf42 : h31 (u + 10) = jI 4096 (fun j9 => zI (M.w1 j9)) := by rw [eh31, va_up_ne _ _ (by omega)]; exact jf27
      have jf43 : h31 (u + 11) = jI 4096 (fun j9 => zI (M.mr j9)) := by rw [eh31, va_up_ne _ _ (by omega)]; exact jf28
      have jf44 : h31 (u + 12) = jI 6 (fun j9 => zI (M.rw j9)) := by rw [eh31, va_up_ne _ _ (by omega)]; exact jf29
      have jf45 : h31 (u + 13) = jI 16 (fun j9 => zI (M.tu j9)) := by rw [eh31, va_up_ne _ _ (by omega)]; exact jf30
      obtain ⟨LA, eLA⟩ : ∃ f, f = va_up la b.toNat (nw + hM M 7 (s * 3 + k9).toNat) := ⟨_, rfl⟩
      obtain ⟨HA, eHA⟩ : ∃ f, f = va_up ha b.toNat (sp_tgt (M.mo (7 : Int).toNat) (M.pe (7 : Int).toNat) (xM M 7) s (hM M 7 (s * 3 + k9).toNat) % 2) := ⟨_, rfl⟩
      rw [← eLA] at jf41
      rw [← eHA] at jf32
      exact jl_vret d_Md_fly_97 rfl (hk h31 (lt + 1) (rt) LA HA (by rw [if_pos q1]) (by rw [if_pos q1]) eLA (by rw [eHA, if_pos q2]) ⟨jf33, jf34, jf35, jf36, jf37, jf38, jf39, jf40, jf41, jf32, jf42, jf43, jf44, jf45⟩ (jfr_tr hf2 (fun y hy => by rw [eh31, va_up_ne _ _ (by omega), eh16, va_up_ne _ _ (by omega)])))
set_option maxHeartbeats 4000000 in
set_option maxRecDepth 100000 in
theorem k_M_beat {l : Launch} {G : jl_G} {d n : Nat} {h : Nat → va_E} {Kr : Option Value → Nat → (Nat → va_E) → Prop} {Kx : String → Nat → (Nat → va_E) → Prop} (hl9 : l.stackTraces = false) (hdd : 3 ≤ d) {u : Nat} {M : MS} {nw lt rt : Int} {la ha : Nat → Int} {m p : Int} {hs cs xs : Nat → Int} {B : List (Int × Int)} (hM9 : jM h u (mkM M.T M.mo M.pe M.co M.he M.cr M.jn M.ja M.jb M.wy M.fa (nw) (M.bl) (lt) (rt) (la) (ha) M.w1 M.mr M.rw M.tu)) (ok : mOk M) (hR : dRl m p hs cs xs (M.mo (7 : Int).toNat) (M.pe (7 : Int).toNat) (hM M 7) (cM M 7) (xM M 7)) (ok7 : jOk m p hs cs xs) (hi : dIn m p cs) (hbl : M.bl = (B.length : Int)) (hb27 : B.length ≤ 27) (hA : ∀ j, j < B.length → la j = (B.getD j (0, 0)).1 ∧ ha j = (B.getD j (0, 0)).2) (hnw : 0 ≤ nw ∧ nw < 1000000) (hG : ∀ j, j < B.length → mbG m p hs cs nw j (mb m p hs cs xs nw B lt rt j)) (hz : ∀ j, j < B.length → zR (((mb m p hs cs xs nw B lt rt j).1.getD j (0, 0)).1)) (hk : ∀ (h' : Nat → va_E) (lt' rt' : Int) (la' ha' : Nat → Int), lt' = (mb m p hs cs xs nw B lt rt B.length).2.2.2.1 → rt' = (mb m p hs cs xs nw B lt rt B.length).2.2.2.2 → (mb m p hs cs xs nw B lt rt B.length).1.length = B.length → (∀ i, i < B.length → la' i = ((mb m p hs cs xs nw B lt rt B.length).1.getD i (0, 0)).1 ∧ ha' i = ((mb m p hs cs xs nw B lt rt B.length).1.getD i (0, 0)).2) → jM h' u (mkM M.T M.mo M.pe M.co M.he M.cr M.jn M.ja M.jb M.wy M.fa (nw + 1) (M.bl) (lt') (rt') (la') (ha') M.w1 M.mr M.rw M.tu) → jfr h h' u (u + 14) → Kr (some (.int (zI ((mb m p hs cs xs nw B lt rt B.length).2.2.1)))) n h') : jl_Call l G m_Md_beat d [.ref (u)] n h 0 0 Kr Kx := by
  refine jl_enter hl9 (by decide) rfl (by simp [Value.category]) (Nat.le_of_ble_eq_true rfl) ?_
  show jl_AW l G (jl_F G Kr Kx) m_Md_beat d 0 [some (.ref (u)), none, none, none, none] [] n h 0 0
  have em : M.mo (7 : Int).toNat = m := hR.1
  have ep : M.pe (7 : Int).toNat = p := hR.2.1
  have hp := ok7.2.1
  have hm9 := ok7.1
  have hsm : 0 ≤ nw % p ∧ nw % p < p := ⟨Int.emod_nonneg _ (by omega), Int.emod_lt_of_pos _ (by omega)⟩
  obtain ⟨q0, q1, q2, q3, q4, q5, q6, q7, q8, q9, q10, q11, q12, q13⟩ := id (hM9)
  have p0 : h u = jO 6 [.int (zI (M.T)), .ref (u + 1), .ref (u + 2), .ref (u + 3), .ref (u + 4), .ref (u + 5), .int (zI (M.jn)), .int (zI (M.ja)), .int (zI (M.jb)), .ref (u + 6), .ref (u + 7), .int (zI (nw)), .int (zI (M.bl)), .int (zI (lt)), .int (zI (rt)), .ref (u + 8), .ref (u + 9), .ref (u + 10), .ref (u + 11), .ref (u + 12), .ref (u + 13)] := q0
  have p1 : h (u + 1) = jI 8 (fun j9 => zI (M.mo j9)) := q1
  have p2 : h (u + 2) = jI 8 (fun j9 => zI (M.pe j9)) := q2
  have p3 : h (u + 3) = jI 128 (fun j9 => zI (M.co j9)) := q3
  have p4 : h (u + 4) = jI 384 (fun j9 => zI (M.he j9)) := q4
  have p5 : h (u + 5) = jZ 128 (fun j9 => zI (M.cr j9)) := q5
  have p6 : h (u + 6) = jI 16 (fun j9 => zI (M.wy j9)) := q6
  have p7 : h (u + 7) = jI 512 (fun j9 => zI (M.fa j9)) := q7
  have p8 : h (u + 8) = jI 32 (fun j9 => zI (la j9)) := q8
  have p9 : h (u + 9) = jI 32 (fun j9 => zI (ha j9)) := q9
  have p10 : h (u + 10) = jI 4096 (fun j9 => zI (M.w1 j9)) := q10
  have p11 : h (u + 11) = jI 4096 (fun j9 => zI (M.mr j9)) := q11
  have p12 : h (u + 12) = jI 6 (fun j9 => zI (M.rw j9)) := q12
  have p13 : h (u + 13) = jI 16 (fun j9 => zI (M.tu j9)) := q13
  refine jl_aload_n d_Md_beat_0 rfl rfl ?_
  refine jg_6 (q := 11) d_Md_beat_1 p0 rfl (by decide) fw_Md_129 ?_
  refine jl_aload_n d_Md_beat_4 rfl rfl ?_
  refine jg_6 (q := 2) d_Md_beat_5 p0 rfl (by decide) fw_Md_13 ?_
  refine jl_bipush (v := zI (7)) d_Md_beat_8 (by decide) ?_
  refine jz_iald d_Md_beat_10 p2 (by omega) (by omega) (by omega) ?_
  rw [ep]
  refine jz_irem (v := nw % p) d_Md_beat_11 ⟨by omega, by omega⟩ ⟨by omega, by omega⟩ (by omega) (Int.tmod_eq_emod_of_nonneg (by omega)) ?_
  refine jl_istore_n (L' := [some (.ref (u)), some (.int (zI (nw % p))), none, none, none]) d_Md_beat_12 rfl (by decide) rfl ?_
  refine jl_iconst (v := zI (0)) d_Md_beat_13 (by decide) ?_
  refine jl_istore_n (L' := [some (.ref (u)), some (.int (zI (nw % p))), some (.int (zI (0))), none, none]) d_Md_beat_14 rfl (by decide) rfl ?_
  refine jl_iconst (v := zI (0)) d_Md_beat_15 (by decide) ?_
  refine jl_istore_n (L' := [some (.ref (u)), some (.int (zI (nw % p))), some (.int (zI (0))), some (.int (zI (0))), none]) d_Md_beat_16 rfl (by decide) rfl ?_
  refine jl_iconst (v := zI (0)) d_Md_beat_17 (by decide) ?_
  refine jl_istore (L' := [some (.ref (u)), some (.int (zI (nw % p))), some (.int (zI (0))), some (.int (zI (0))), some (.int (zI (0)))]) d_Md_beat_18 (by decide) rfl ?_
  have lp1 : ∀ (k : Nat) (j : Nat) (lt' rt' : Int) (la' ha' : Nat → Int) (h2 : Nat → va_E), j + k = B.length → (mb m p hs cs xs nw B lt rt j).1.length = B.length → lt' = (mb m p hs cs xs nw B lt rt j).2.2.2.1 → rt' = (mb m p hs cs xs nw B lt rt j).2.2.2.2 → (∀ i, i < B.length → la' i = ((mb m p hs cs xs nw B lt rt j).1.getD i (0, 0)).1 ∧ ha' i = ((mb m p hs cs xs nw B lt rt j).1.getD i (0, 0)).2) → jM h2 u (mkM M.T M.mo M.pe M.co M.he M.cr M.jn M.ja M.jb M.wy M.fa (nw) (M.bl) (lt') (rt') (la') (ha') M.w1 M.mr M.rw M.tu) → jfr h h2 u (u + 14) → jl_AW l G (jl_F G Kr Kx) m_Md_beat d 20 [some (.ref (u)), some (.int (zI (nw % p))), some (.int (zI ((mb m p hs cs xs nw B lt rt j).2.2.1))), some (.int (zI ((mb m p hs cs xs nw B lt rt j).2.1))), some (.int (zI ((j : Int))))] [] n h2 0 0 := by
    intro k
    induction k using Nat.strongRecOn with
    | ind k ih =>
      intro j lt' rt' la' ha' h2 hkj hlen elt ert eA hM2 hf2
      have hlenj : (mb m p hs cs xs nw B lt rt j).1.length = B.length := hlen
      obtain ⟨q0z, q1z, q2z, q3z, q4z, q5z, q6z, q7z, q8z, q9z, q10z, q11z, q12z, q13z⟩ := id (hM2)
      have p0z : h2 u = jO 6 [.int (zI (M.T)), .ref (u + 1), .ref (u + 2), .ref (u + 3), .ref (u + 4), .ref (u + 5), .int (zI (M.jn)), .int (zI (M.ja)), .int (zI (M.jb)), .ref (u + 6), .ref (u + 7), .int (zI (nw)), .int (zI (M.bl)), .int (zI (lt')), .int (zI (rt')), .ref (u + 8), .ref (u + 9), .ref (u + 10), .ref (u + 11), .ref (u + 12), .ref (u + 13)] := q0z
      have p1z : h2 (u + 1) = jI 8 (fun j9 => zI (M.mo j9)) := q1z
      have p2z : h2 (u + 2) = jI 8 (fun j9 => zI (M.pe j9)) := q2z
      have p3z : h2 (u + 3) = jI 128 (fun j9 => zI (M.co j9)) := q3z
      have p4z : h2 (u + 4) = jI 384 (fun j9 => zI (M.he j9)) := q4z
      have p5z : h2 (u + 5) = jZ 128 (fun j9 => zI (M.cr j9)) := q5z
      have p6z : h2 (u + 6) = jI 16 (fun j9 => zI (M.wy j9)) := q6z
      have p7z : h2 (u + 7) = jI 512 (fun j9 => zI (M.fa j9)) := q7z
      have p8z : h2 (u + 8) = jI 32 (fun j9 => zI ((la') j9)) := q8z
      have p9z : h2 (u + 9) = jI 32 (fun j9 => zI ((ha') j9)) := q9z
      have p10z : h2 (u + 10) = jI 4096 (fun j9 => zI (M.w1 j9)) := q10z
      have p11z : h2 (u + 11) = jI 4096 (fun j9 => zI (M.mr j9)) := q11z
      have p12z : h2 (u + 12) = jI 6 (fun j9 => zI (M.rw j9)) := q12z
      have p13z : h2 (u + 13) = jI 16 (fun j9 => zI (M.tu j9)) := q13z
      refine jl_iload d_Md_beat_20 rfl ?_
      refine jl_aload_n d_Md_beat_22 rfl rfl ?_
      refine jg_6 (q := 12) d_Md_beat_23 p0z rfl (by decide) fw_Md_126 ?_
      rw [hbl]
      refine jz_icmp_ge (tgt := 125) d_Md_beat_26 (by decide) ⟨by omega, by omega⟩ ⟨by omega, by omega⟩ (fun hc => ?_) (fun hc => ?_)
      · have ej : j = B.length := by omega
        refine jl_aload_n d_Md_beat_125 rfl rfl ?_
        refine jl_dup d_Md_beat_126 rfl ?_
        refine jg_6 (q := 11) d_Md_beat_127 p0z rfl (by decide) fw_Md_129 ?_
        refine jl_iconst (v := zI (1)) d_Md_beat_130 (by decide) ?_
        refine jz_iadd (v := nw + 1) d_Md_beat_131 (by omega) ?_
        refine jp_6 (q := 11) (ty := .int) d_Md_beat_132 p0z (by simp) (by decide) fw_Md_129 rfl (by decide +kernel) (fun _ _ => rfl) (fun _ _ => rfl) (fun h1 eh1 => ?_)
        have eh1 : h1 = va_up h2 (u) (jO 6 [.int (zI (M.T)), .ref (u + 1), .ref (u + 2), .ref (u + 3), .ref (u + 4), .ref (u + 5), .int (zI (M.jn)), .int (zI (M.ja)), .int (zI (M.jb)), .ref (u + 6), .ref (u + 7), .int (zI (nw + 1)), .int (zI (M.bl)), .int (zI (lt')), .int (zI (rt')), .ref (u + 8), .ref (u + 9), .ref (u + 10), .ref (u + 11), .ref (u + 12), .ref (u + 13)]) := eh1
        have jf2 : h1 (u) = jO 6 [.int (zI (M.T)), .ref (u + 1), .ref (u + 2), .ref (u + 3), .ref (u + 4), .ref (u + 5), .int (zI (M.jn)), .int (zI (M.ja)), .int (zI (M.jb)), .ref (u + 6), .ref (u + 7), .int (zI (nw + 1)), .int (zI (M.bl)), .int (zI (lt')), .int (zI (rt')), .ref (u + 8), .ref (u + 9), .ref (u + 10), .ref (u + 11), .ref (u + 12), .ref (u + 13)] := by rw [eh1, va_up_self]
        refine jl_iload_n d_Md_beat_135 rfl rfl ?_
        rw [ej] at elt ert eA
        rw [ej]
        have jf3 : h1 (u + 1) = jI 8 (fun j9 => zI (M.mo j9)) := by rw [eh1, va_up_ne _ _ (by omega)]; exact p1z
        have jf4 : h1 (u + 2) = jI 8 (fun j9 => zI (M.pe j9)) := by rw [eh1, va_up_ne _ _ (by omega)]; exact p2z
        have jf5 : h1 (u + 3) = jI 128 (fun j9 => zI (M.co j9)) := by rw [eh1, va_up_ne _ _ (by omega)]; exact p3z
        have jf6 : h1 (u + 4) = jI 384 (fun j9 => zI (M.he j9)) := by rw [eh1, va_up_ne _ _ (by omega)]; exact p4z
        have jf7 : h1 (u + 5) = jZ 128 (fun j9 => zI (M.cr j9)) := by rw [eh1, va_up_ne _ _ (by omega)]; exact p5z
        have jf8 : h1 (u + 6) = jI 16 (fun j9 => zI (M.wy j9)) := by rw [eh1, va_up_ne _ _ (by omega)]; exact p6z
        have jf9 : h1 (u + 7) = jI 512 (fun j9 => zI (M.fa j9)) := by rw [eh1, va_up_ne _ _ (by omega)]; exact p7z
        have jf10 : h1 (u + 8) = jI 32 (fun j9 => zI ((la') j9)) := by rw [eh1, va_up_ne _ _ (by omega)]; exact p8z
        have jf11 : h1 (u + 9) = jI 32 (fun j9 => zI ((ha') j9)) := by rw [eh1, va_up_ne _ _ (by omega)]; exact p9z
        have jf12 : h1 (u + 10) = jI 4096 (fun j9 => zI (M.w1 j9)) := by rw [eh1, va_up_ne _ _ (by omega)]; exact p10z
        have jf13 : h1 (u + 11) = jI 4096 (fun j9 => zI (M.mr j9)) := by rw [eh1, va_up_ne _ _ (by omega)]; exact p11z
        have jf14 : h1 (u + 12) = jI 6 (fun j9 => zI (M.rw j9)) := by rw [eh1, va_up_ne _ _ (by omega)]; exact p12z
        have jf15 : h1 (u + 13) = jI 16 (fun j9 => zI (M.tu j9)) := by rw [eh1, va_up_ne _ _ (by omega)]; exact p13z
        exact jl_iret d_Md_beat_136 rfl (hk h1 lt' rt' la' ha' elt ert (by rw [ej] at hlenj; exact hlenj) (fun i hi => eA i hi) ⟨jf2, jf3, jf4, jf5, jf6, jf7, jf8, jf9, jf10, jf11, jf12, jf13, jf14, jf15⟩ (fun y hy => by rw [eh1, va_up_ne _ _ (by omega)]; exact hf2 y hy))
      · have hjB : j < B.length := by omega
        have hAj := eA j hjB
        have hGj := hG j hjB
        obtain ⟨hk0, hk3, hGc⟩ := hGj
        have hzj := hz j hjB
        refine jl_aload_n d_Md_beat_29 rfl rfl ?_
        refine jg_6 (q := 15) d_Md_beat_30 p0z rfl (by decide) fw_Md_36 ?_
        refine jl_iload d_Md_beat_33 rfl ?_
        refine jz_iald d_Md_beat_35 p8z (by omega) (by omega) (by omega) ?_
        rw [Int.toNat_natCast, hAj.1]
        refine jl_aload_n d_Md_beat_36 rfl rfl ?_
        refine jg_6 (q := 11) d_Md_beat_37 p0z rfl (by decide) fw_Md_129 ?_
        refine jz_icmp_ne (tgt := 119) d_Md_beat_40 (by decide) ⟨by omega, by omega⟩ ⟨by omega, by omega⟩ (fun q1 => ?_) (fun q1 => ?_)
        · have es : mb m p hs cs xs nw B lt rt (j + 1) = mb m p hs cs xs nw B lt rt j := by
            show mbS m p hs cs xs nw j (mb m p hs cs xs nw B lt rt j) = _
            unfold mbS
            rw [if_neg q1]
          refine jz_iinc (v := ((j + 1 : Nat) : Int)) (L' := [some (.ref (u)), some (.int (zI (nw % p))), some (.int (zI ((mb m p hs cs xs nw B lt rt j).2.2.1))), some (.int (zI ((mb m p hs cs xs nw B lt rt j).2.1))), some (.int (zI (((j + 1 : Nat) : Int))))]) d_Md_beat_119 rfl (by omega) (by decide) rfl ?_
          refine jl_goto (tgt := 20) d_Md_beat_122 (by decide) ?_
          have h9 := ih (k - 1) (by omega) (j + 1) lt' rt' la' ha' h2 (by omega)
          rw [es] at h9
          exact h9 hlen elt ert eA hM2 hf2
        · obtain ⟨hS1, hS2, hW⟩ := hGc q1
          have hsl : 0 ≤ mS m p nw ((mb m p hs cs xs nw B lt rt j).1.getD j (0, 0)) ∧ mS m p nw ((mb m p hs cs xs nw B lt rt j).1.getD j (0, 0)) < 16 := by omega
          obtain ⟨hr1, hr2, hr3⟩ := dRl_s hR hS1.1 hS1.2
          have hdn := hi (mS m p nw ((mb m p hs cs xs nw B lt rt j).1.getD j (0, 0))).toNat (by omega)
          have es : mb m p hs cs xs nw B lt rt (j + 1) = ((mb m p hs cs xs nw B lt rt j).1.set j (mF m p xs nw (mS m p nw ((mb m p hs cs xs nw B lt rt j).1.getD j (0, 0))) (hs (mS m p nw ((mb m p hs cs xs nw B lt rt j).1.getD j (0, 0)) * 3 + mW m p hs cs nw ((mb m p hs cs xs nw B lt rt j).1.getD j (0, 0)) (mb m p hs cs xs nw B lt rt j).2.1).toNat)), (if m = 1 then mW m p hs cs nw ((mb m p hs cs xs nw B lt rt j).1.getD j (0, 0)) (mb m p hs cs xs nw B lt rt j).2.1 + 1 else (mb m p hs cs xs nw B lt rt j).2.1), (mb m p hs cs xs nw B lt rt j).2.2.1 + 1, (if mG m nw (mS m p nw ((mb m p hs cs xs nw B lt rt j).1.getD j (0, 0))) = 0 then (mb m p hs cs xs nw B lt rt j).2.2.2.1 + 1 else (mb m p hs cs xs nw B lt rt j).2.2.2.1), (if mG m nw (mS m p nw ((mb m p hs cs xs nw B lt rt j).1.getD j (0, 0))) = 0 then (mb m p hs cs xs nw B lt rt j).2.2.2.2 else (mb m p hs cs xs nw B lt rt j).2.2.2.2 + 1)) := by
            show mbS m p hs cs xs nw j (mb m p hs cs xs nw B lt rt j) = _
            unfold mbS
            rw [if_pos q1]
          refine jl_aload_n d_Md_beat_43 rfl rfl ?_
          refine jg_6 (q := 1) d_Md_beat_44 p0z rfl (by decide) fw_Md_7 ?_
          refine jl_bipush (v := zI (7)) d_Md_beat_47 (by decide) ?_
          refine jz_iald d_Md_beat_49 p1z (by omega) (by omega) (by omega) ?_
          rw [em]
          refine jl_iconst (v := zI (1)) d_Md_beat_50 (by decide) ?_
          refine jz_icmp_ne (tgt := 85) d_Md_beat_51 (by decide) ⟨by omega, by omega⟩ ⟨by omega, by omega⟩ (fun q2 => ?_) (fun q2 => ?_)
          · refine jl_aload_n d_Md_beat_85 rfl rfl ?_
            refine jl_iload d_Md_beat_86 rfl ?_
            refine jl_aload_n d_Md_beat_88 rfl rfl ?_
            refine jg_6 (q := 1) d_Md_beat_89 p0z rfl (by decide) fw_Md_7 ?_
            refine jl_bipush (v := zI (7)) d_Md_beat_92 (by decide) ?_
            refine jz_iald d_Md_beat_94 p1z (by omega) (by omega) (by omega) ?_
            rw [em]
            refine jl_iconst (v := zI (2)) d_Md_beat_95 (by decide) ?_
            refine jz_icmp_ne (tgt := 111) d_Md_beat_96 (by decide) ⟨by omega, by omega⟩ ⟨by omega, by omega⟩ (fun q3 => ?_) (fun q3 => ?_)
            · have eS : mS m p nw ((mb m p hs cs xs nw B lt rt j).1.getD j (0, 0)) = nw % p := by unfold mS; rw [if_neg q3]
              have eW : mW m p hs cs nw ((mb m p hs cs xs nw B lt rt j).1.getD j (0, 0)) (mb m p hs cs xs nw B lt rt j).2.1 = 0 := by unfold mW; rw [if_neg q2]
              refine jl_iload_n d_Md_beat_111 rfl rfl ?_
              refine jl_iconst (v := zI (0)) d_Md_beat_112 (by decide) ?_
              refine jl_invV (M' := m_Md_fly) (d' := d - 1) (ck' := 0) (sk' := 0) (na := 3) (as := [.int (zI ((j : Int))), .int (zI (nw % p)), .int (zI (0))]) (st := []) d_Md_beat_113 rfl p0z rfl mw_Md_144 ww_Md_fly sw_Md_fly nw_Md cw_Md_fly rfl rfl rfl (by decide +kernel) (by omega) (Nat.le_of_ble_eq_true rfl) (Nat.le_of_ble_eq_true rfl) ?_
              refine k_M_fly hl9 (by omega) hM2 ok (by omega) ⟨by omega, by omega⟩ ⟨by omega, by omega⟩ ⟨by omega, by omega⟩ hnw (fun h4 lt4 rt4 la4 ha4 e1 e2 e3 e4 hM4 hf4 => ?_)
              show jl_AW _ _ _ _ _ 116 [some (.ref (u)), some (.int (zI (nw % p))), some (.int (zI ((mb m p hs cs xs nw B lt rt j).2.2.1))), some (.int (zI ((mb m p hs cs xs nw B lt rt j).2.1))), some (.int (zI ((j : Int))))] [] n h4 _ _
              have hH : hM M 7 ((nw % p) * 3 + (0 : Int)).toNat = hs ((nw % p) * 3 + (0 : Int)).toNat := by
                have h8 := hr3 ((0 : Int)).toNat (by omega)
                rw [show ((((0 : Int)).toNat : Nat) : Int) = (0 : Int) by omega, eS] at h8
                exact h8
              have hT : sp_tgt (M.mo (7 : Int).toNat) (M.pe (7 : Int).toNat) (xM M 7) ((nw % p)) (hM M 7 ((nw % p) * 3 + (0 : Int)).toNat) = sp_tgt m p xs ((nw % p)) (hs ((nw % p) * 3 + (0 : Int)).toNat) := by rw [em, ep, hH]; unfold sp_tgt sp_land; rw [eS] at hr2; rw [hr2]
              rw [hH] at e3
              rw [hT, em, hH] at e4
              rw [em] at e1 e2
              rw [eS, eW] at es
              rw [elt] at e1
              rw [ert] at e2
              have eF : mF m p xs nw ((nw % p)) (hs ((nw % p) * 3 + (0 : Int)).toNat) = (nw + hs ((nw % p) * 3 + (0 : Int)).toNat, if m = 2 then sp_tgt m p xs ((nw % p)) (hs ((nw % p) * 3 + (0 : Int)).toNat) % 2 else (nw + hs ((nw % p) * 3 + (0 : Int)).toNat) % 2) := rfl
              have hset := jB_set (B := (mb m p hs cs xs nw B lt rt j).1) (LA := la') (LI := ha') (k := j) (a := nw + hs ((nw % p) * 3 + (0 : Int)).toNat) (b := if m = 2 then sp_tgt m p xs ((nw % p)) (hs ((nw % p) * 3 + (0 : Int)).toNat) % 2 else (nw + hs ((nw % p) * 3 + (0 : Int)).toNat) % 2) (by omega) (fun i hi => eA i (by omega))
              rw [Int.toNat_natCast] at e3 e4
              rw [← e3, ← e4, ← eF] at hset
              refine jz_iinc (v := (mb m p hs cs xs nw B lt rt j).2.2.1 + 1) (L' := [some (.ref (u)), some (.int (zI (nw % p))), some (.int (zI ((mb m p hs cs xs nw B lt rt j).2.2.1 + 1))), some (.int (zI ((mb m p hs cs xs nw B lt rt j).2.1))), some (.int (zI ((j : Int))))]) d_Md_beat_116 rfl rfl (by decide) rfl ?_
              refine jz_iinc (v := ((j + 1 : Nat) : Int)) (L' := [some (.ref (u)), some (.int (zI (nw % p))), some (.int (zI ((mb m p hs cs xs nw B lt rt j).2.2.1 + 1))), some (.int (zI ((mb m p hs cs xs nw B lt rt j).2.1))), some (.int (zI (((j + 1 : Nat) : Int))))]) d_Md_beat_119 rfl (by omega) (by decide) rfl ?_
              refine jl_goto (tgt := 20) d_Md_beat_122 (by decide) ?_
              have h9 := ih (k - 1) (by omega) (j + 1) lt4 rt4 la4 ha4 h4 (by omega)
              rw [es] at h9
              rw [if_neg q2] at h9
              exact h9 (by rw [List.length_set]; exact hlenj) e1 e2 (fun i hi => hset i (by rw [List.length_set, hlenj]; exact hi)) hM4 (jfr_tr hf2 hf4)
            · have eS : mS m p nw ((mb m p hs cs xs nw B lt rt j).1.getD j (0, 0)) = nw % p + ((mb m p hs cs xs nw B lt rt j).1.getD j (0, 0)).2 := by unfold mS; rw [if_pos q3]
              have eW : mW m p hs cs nw ((mb m p hs cs xs nw B lt rt j).1.getD j (0, 0)) (mb m p hs cs xs nw B lt rt j).2.1 = 0 := by unfold mW; rw [if_neg q2]
              refine jl_iload_n d_Md_beat_99 rfl rfl ?_
              refine jl_aload_n d_Md_beat_100 rfl rfl ?_
              refine jg_6 (q := 16) d_Md_beat_101 p0z rfl (by decide) fw_Md_39 ?_
              refine jl_iload d_Md_beat_104 rfl ?_
              refine jz_iald d_Md_beat_106 p9z (by omega) (by omega) (by omega) ?_
              rw [Int.toNat_natCast, hAj.2]
              refine jz_iadd (v := nw % p + ((mb m p hs cs xs nw B lt rt j).1.getD j (0, 0)).2) d_Md_beat_107 (by omega) ?_
              refine jl_goto (tgt := 112) d_Md_beat_108 (by decide) ?_
              refine jl_iconst (v := zI (0)) d_Md_beat_112 (by decide) ?_
              refine jl_invV (M' := m_Md_fly) (d' := d - 1) (ck' := 0) (sk' := 0) (na := 3) (as := [.int (zI ((j : Int))), .int (zI (nw % p + ((mb m p hs cs xs nw B lt rt j).1.getD j (0, 0)).2)), .int (zI (0))]) (st := []) d_Md_beat_113 rfl p0z rfl mw_Md_144 ww_Md_fly sw_Md_fly nw_Md cw_Md_fly rfl rfl rfl (by decide +kernel) (by omega) (Nat.le_of_ble_eq_true rfl) (Nat.le_of_ble_eq_true rfl) ?_
              refine k_M_fly hl9 (by omega) hM2 ok (by omega) ⟨by omega, by omega⟩ ⟨by omega, by omega⟩ ⟨by omega, by omega⟩ hnw (fun h4 lt4 rt4 la4 ha4 e1 e2 e3 e4 hM4 hf4 => ?_)
              show jl_AW _ _ _ _ _ 116 [some (.ref (u)), some (.int (zI (nw % p))), some (.int (zI ((mb m p hs cs xs nw B lt rt j).2.2.1))), some (.int (zI ((mb m p hs cs xs nw B lt rt j).2.1))), some (.int (zI ((j : Int))))] [] n h4 _ _
              have hH : hM M 7 ((nw % p + ((mb m p hs cs xs nw B lt rt j).1.getD j (0, 0)).2) * 3 + (0 : Int)).toNat = hs ((nw % p + ((mb m p hs cs xs nw B lt rt j).1.getD j (0, 0)).2) * 3 + (0 : Int)).toNat := by
                have h8 := hr3 ((0 : Int)).toNat (by omega)
                rw [show ((((0 : Int)).toNat : Nat) : Int) = (0 : Int) by omega, eS] at h8
                exact h8
              have hT : sp_tgt (M.mo (7 : Int).toNat) (M.pe (7 : Int).toNat) (xM M 7) ((nw % p + ((mb m p hs cs xs nw B lt rt j).1.getD j (0, 0)).2)) (hM M 7 ((nw % p + ((mb m p hs cs xs nw B lt rt j).1.getD j (0, 0)).2) * 3 + (0 : Int)).toNat) = sp_tgt m p xs ((nw % p + ((mb m p hs cs xs nw B lt rt j).1.getD j (0, 0)).2)) (hs ((nw % p + ((mb m p hs cs xs nw B lt rt j).1.getD j (0, 0)).2) * 3 + (0 : Int)).toNat) := by rw [em, ep, hH]; unfold sp_tgt sp_land; rw [eS] at hr2; rw [hr2]
              rw [hH] at e3
              rw [hT, em, hH] at e4
              rw [em] at e1 e2
              rw [eS, eW] at es
              rw [elt] at e1
              rw [ert] at e2
              have eF : mF m p xs nw ((nw % p + ((mb m p hs cs xs nw B lt rt j).1.getD j (0, 0)).2)) (hs ((nw % p + ((mb m p hs cs xs nw B lt rt j).1.getD j (0, 0)).2) * 3 + (0 : Int)).toNat) = (nw + hs ((nw % p + ((mb m p hs cs xs nw B lt rt j).1.getD j (0, 0)).2) * 3 + (0 : Int)).toNat, if m = 2 then sp_tgt m p xs ((nw % p + ((mb m p hs cs xs nw B lt rt j).1.getD j (0, 0)).2)) (hs ((nw % p + ((mb m p hs cs xs nw B lt rt j).1.getD j (0, 0)).2) * 3 + (0 : Int)).toNat) % 2 else (nw + hs ((nw % p + ((mb m p hs cs xs nw B lt rt j).1.getD j (0, 0)).2) * 3 + (0 : Int)).toNat) % 2) := rfl
              have hset := jB_set (B := (mb m p hs cs xs nw B lt rt j).1) (LA := la') (LI := ha') (k := j) (a := nw + hs ((nw % p + ((mb m p hs cs xs nw B lt rt j).1.getD j (0, 0)).2) * 3 + (0 : Int)).toNat) (b := if m = 2 then sp_tgt m p xs ((nw % p + ((mb m p hs cs xs nw B lt rt j).1.getD j (0, 0)).2)) (hs ((nw % p + ((mb m p hs cs xs nw B lt rt j).1.getD j (0, 0)).2) * 3 + (0 : Int)).toNat) % 2 else (nw + hs ((nw % p + ((mb m p hs cs xs nw B lt rt j).1.getD j (0, 0)).2) * 3 + (0 : Int)).toNat) % 2) (by omega) (fun i hi => eA i (by omega))
              rw [Int.toNat_natCast] at e3 e4
              rw [← e3, ← e4, ← eF] at hset
              refine jz_iinc (v := (mb m p hs cs xs nw B lt rt j).2.2.1 + 1) (L' := [some (.ref (u)), some (.int (zI (nw % p))), some (.int (zI ((mb m p hs cs xs nw B lt rt j).2.2.1 + 1))), some (.int (zI ((mb m p hs cs xs nw B lt rt j).2.1))), some (.int (zI ((j : Int))))]) d_Md_beat_116 rfl rfl (by decide) rfl ?_
              refine jz_iinc (v := ((j + 1 : Nat) : Int)) (L' := [some (.ref (u)), some (.int (zI (nw % p))), some (.int (zI ((mb m p hs cs xs nw B lt rt j).2.2.1 + 1))), some (.int (zI ((mb m p hs cs xs nw B lt rt j).2.1))), some (.int (zI (((j + 1 : Nat) : Int))))]) d_Md_beat_119 rfl (by omega) (by decide) rfl ?_
              refine jl_goto (tgt := 20) d_Md_beat_122 (by decide) ?_
              have h9 := ih (k - 1) (by omega) (j + 1) lt4 rt4 la4 ha4 h4 (by omega)
              rw [es] at h9
              rw [if_neg q2] at h9
              exact h9 (by rw [List.length_set]; exact hlenj) e1 e2 (fun i hi => hset i (by rw [List.length_set, hlenj]; exact hi)) hM4 (jfr_tr hf2 hf4)
          · have eS : mS m p nw ((mb m p hs cs xs nw B lt rt j).1.getD j (0, 0)) = nw % p := by unfold mS; rw [if_neg (by omega)]
            obtain ⟨hw1, hw2⟩ := hW q2
            have eWn : mW m p hs cs nw ((mb m p hs cs xs nw B lt rt j).1.getD j (0, 0)) (mb m p hs cs xs nw B lt rt j).2.1 = nx hs (nw % p) (cs (nw % p).toNat - (mb m p hs cs xs nw B lt rt j).2.1).toNat ((mb m p hs cs xs nw B lt rt j).2.1) := by unfold mW; rw [if_pos q2, eS]
            rw [eS] at hw2
            have hc9 := ok7.2.2.2.1 (nw % p).toNat
            have lpw : ∀ (f9 : Nat) (k8 : Int), k8 + (f9 : Int) = cs (nw % p).toNat → 0 ≤ k8 → nx hs (nw % p) f9 k8 = mW m p hs cs nw ((mb m p hs cs xs nw B lt rt j).1.getD j (0, 0)) (mb m p hs cs xs nw B lt rt j).2.1 → jl_AW l G (jl_F G Kr Kx) m_Md_beat d 54 [some (.ref (u)), some (.int (zI (nw % p))), some (.int (zI ((mb m p hs cs xs nw B lt rt j).2.2.1))), some (.int (zI (k8))), some (.int (zI ((j : Int))))] [] n h2 0 0 := by
              intro f9
              induction f9 using Nat.strongRecOn with
              | ind f9 ih3 =>
                intro k8 hkf hk8 hnx
                have hf0 : 0 < f9 := by
                  rcases Nat.eq_zero_or_pos f9 with e0 | e0
                  · rw [e0] at hnx; have : nx hs (nw % p) 0 k8 = -1 := rfl; omega
                  · exact e0
                obtain ⟨f8, ef⟩ : ∃ f8, f9 = f8 + 1 := ⟨f9 - 1, by omega⟩
                subst ef
                unfold nx at hnx
                have hH0 : hM M 7 (nw % p * 3 + k8).toNat = hs (nw % p * 3 + k8).toNat := by
                  have h8 := hr3 k8.toNat (by rw [eS]; omega)
                  rw [show ((k8.toNat : Nat) : Int) = k8 by omega, eS] at h8
                  exact h8
                have hhx := ok7.2.2.1 (nw % p * 3 + k8).toNat
                obtain ⟨q0y, q1y, q2y, q3y, q4y, q5y, q6y, q7y, q8y, q9y, q10y, q11y, q12y, q13y⟩ := id (hM2)
                have p0y : h2 u = jO 6 [.int (zI (M.T)), .ref (u + 1), .ref (u + 2), .ref (u + 3), .ref (u + 4), .ref (u + 5), .int (zI (M.jn)), .int (zI (M.ja)), .int (zI (M.jb)), .ref (u + 6), .ref (u + 7), .int (zI (nw)), .int (zI (M.bl)), .int (zI (lt')), .int (zI (rt')), .ref (u + 8), .ref (u + 9), .ref (u + 10), .ref (u + 11), .ref (u + 12), .ref (u + 13)] := q0y
                have p1y : h2 (u + 1) = jI 8 (fun j9 => zI (M.mo j9)) := q1y
                have p2y : h2 (u + 2) = jI 8 (fun j9 => zI (M.pe j9)) := q2y
                have p3y : h2 (u + 3) = jI 128 (fun j9 => zI (M.co j9)) := q3y
                have p4y : h2 (u + 4) = jI 384 (fun j9 => zI (M.he j9)) := q4y
                have p5y : h2 (u + 5) = jZ 128 (fun j9 => zI (M.cr j9)) := q5y
                have p6y : h2 (u + 6) = jI 16 (fun j9 => zI (M.wy j9)) := q6y
                have p7y : h2 (u + 7) = jI 512 (fun j9 => zI (M.fa j9)) := q7y
                have p8y : h2 (u + 8) = jI 32 (fun j9 => zI ((la') j9)) := q8y
                have p9y : h2 (u + 9) = jI 32 (fun j9 => zI ((ha') j9)) := q9y
                have p10y : h2 (u + 10) = jI 4096 (fun j9 => zI (M.w1 j9)) := q10y
                have p11y : h2 (u + 11) = jI 4096 (fun j9 => zI (M.mr j9)) := q11y
                have p12y : h2 (u + 12) = jI 6 (fun j9 => zI (M.rw j9)) := q12y
                have p13y : h2 (u + 13) = jI 16 (fun j9 => zI (M.tu j9)) := q13y
                refine jl_aload_n d_Md_beat_54 rfl rfl ?_
                refine jl_bipush (v := zI (7)) d_Md_beat_55 (by decide) ?_
                refine jl_iload_n d_Md_beat_57 rfl rfl ?_
                refine jl_iload_n d_Md_beat_58 rfl rfl ?_
                refine jl_invV (M' := m_Md_tall) (d' := d - 1) (ck' := 0) (sk' := 0) (na := 3) (as := [.int (zI (7)), .int (zI (nw % p)), .int (zI (k8))]) (st := []) d_Md_beat_59 rfl p0y rfl mw_Md_73 ww_Md_tall sw_Md_tall nw_Md cw_Md_tall rfl rfl rfl (by decide +kernel) (by omega) (Nat.le_of_ble_eq_true rfl) (Nat.le_of_ble_eq_true rfl) ?_
                refine k_M_tall hl9 (by omega) hM2 ⟨by decide, by decide⟩ ⟨by omega, by omega⟩ ⟨by omega, by omega⟩ ?_
                have e9 : hM (mkM M.T M.mo M.pe M.co M.he M.cr M.jn M.ja M.jb M.wy M.fa (nw) (M.bl) (lt') (rt') (la') (ha') M.w1 M.mr M.rw M.tu) 7 (nw % p * 3 + k8).toNat = hs (nw % p * 3 + k8).toNat := hH0
                rw [e9]
                show jl_AW _ _ _ _ _ 62 [some (.ref (u)), some (.int (zI (nw % p))), some (.int (zI ((mb m p hs cs xs nw B lt rt j).2.2.1))), some (.int (zI (k8))), some (.int (zI ((j : Int))))] [.int (zI (hs (nw % p * 3 + k8).toNat))] n h2 _ _
                refine jz_if_ne (tgt := 71) d_Md_beat_62 (by decide) ⟨by omega, by omega⟩ (fun q4 => ?_) (fun q4 => ?_)
                · rw [if_pos (by omega)] at hnx
                  have eW : mW m p hs cs nw ((mb m p hs cs xs nw B lt rt j).1.getD j (0, 0)) (mb m p hs cs xs nw B lt rt j).2.1 = k8 := hnx.symm
                  refine jl_aload_n d_Md_beat_71 rfl rfl ?_
                  refine jl_iload d_Md_beat_72 rfl ?_
                  refine jl_iload_n d_Md_beat_74 rfl rfl ?_
                  refine jl_iload_n d_Md_beat_75 rfl rfl ?_
                  refine jl_invV (M' := m_Md_fly) (d' := d - 1) (ck' := 0) (sk' := 0) (na := 3) (as := [.int (zI ((j : Int))), .int (zI (nw % p)), .int (zI (k8))]) (st := []) d_Md_beat_76 rfl p0y rfl mw_Md_144 ww_Md_fly sw_Md_fly nw_Md cw_Md_fly rfl rfl rfl (by decide +kernel) (by omega) (Nat.le_of_ble_eq_true rfl) (Nat.le_of_ble_eq_true rfl) ?_
                  refine k_M_fly hl9 (by omega) hM2 ok (by omega) ⟨by omega, by omega⟩ ⟨by omega, by omega⟩ ⟨by omega, by omega⟩ hnw (fun h4 lt4 rt4 la4 ha4 e1 e2 e3 e4 hM4 hf4 => ?_)
                  show jl_AW _ _ _ _ _ 79 [some (.ref (u)), some (.int (zI (nw % p))), some (.int (zI ((mb m p hs cs xs nw B lt rt j).2.2.1))), some (.int (zI (k8))), some (.int (zI ((j : Int))))] [] n h4 _ _
                  have hH : hM M 7 ((nw % p) * 3 + k8).toNat = hs ((nw % p) * 3 + k8).toNat := by
                    have h8 := hr3 (k8).toNat (by omega)
                    rw [show (((k8).toNat : Nat) : Int) = k8 by omega, eS] at h8
                    exact h8
                  have hT : sp_tgt (M.mo (7 : Int).toNat) (M.pe (7 : Int).toNat) (xM M 7) ((nw % p)) (hM M 7 ((nw % p) * 3 + k8).toNat) = sp_tgt m p xs ((nw % p)) (hs ((nw % p) * 3 + k8).toNat) := by rw [em, ep, hH]; unfold sp_tgt sp_land; rw [eS] at hr2; rw [hr2]
                  rw [hH] at e3
                  rw [hT, em, hH] at e4
                  rw [em] at e1 e2
                  rw [eS, eW] at es
                  rw [elt] at e1
                  rw [ert] at e2
                  have eF : mF m p xs nw ((nw % p)) (hs ((nw % p) * 3 + k8).toNat) = (nw + hs ((nw % p) * 3 + k8).toNat, if m = 2 then sp_tgt m p xs ((nw % p)) (hs ((nw % p) * 3 + k8).toNat) % 2 else (nw + hs ((nw % p) * 3 + k8).toNat) % 2) := rfl
                  have hset := jB_set (B := (mb m p hs cs xs nw B lt rt j).1) (LA := la') (LI := ha') (k := j) (a := nw + hs ((nw % p) * 3 + k8).toNat) (b := if m = 2 then sp_tgt m p xs ((nw % p)) (hs ((nw % p) * 3 + k8).toNat) % 2 else (nw + hs ((nw % p) * 3 + k8).toNat) % 2) (by omega) (fun i hi => eA i (by omega))
                  rw [Int.toNat_natCast] at e3 e4
                  rw [← e3, ← e4, ← eF] at hset
                  refine jz_iinc (v := k8 + 1) (L' := [some (.ref (u)), some (.int (zI (nw % p))), some (.int (zI ((mb m p hs cs xs nw B lt rt j).2.2.1))), some (.int (zI (k8 + 1))), some (.int (zI ((j : Int))))]) d_Md_beat_79 rfl (by omega) (by decide) rfl ?_
                  refine jl_goto (tgt := 116) d_Md_beat_82 (by decide) ?_
                  refine jz_iinc (v := (mb m p hs cs xs nw B lt rt j).2.2.1 + 1) (L' := [some (.ref (u)), some (.int (zI (nw % p))), some (.int (zI ((mb m p hs cs xs nw B lt rt j).2.2.1 + 1))), some (.int (zI (k8 + 1))), some (.int (zI ((j : Int))))]) d_Md_beat_116 rfl rfl (by decide) rfl ?_
                  refine jz_iinc (v := ((j + 1 : Nat) : Int)) (L' := [some (.ref (u)), some (.int (zI (nw % p))), some (.int (zI ((mb m p hs cs xs nw B lt rt j).2.2.1 + 1))), some (.int (zI (k8 + 1))), some (.int (zI (((j + 1 : Nat) : Int))))]) d_Md_beat_119 rfl (by omega) (by decide) rfl ?_
                  refine jl_goto (tgt := 20) d_Md_beat_122 (by decide) ?_
                  have h9 := ih (k - 1) (by omega) (j + 1) lt4 rt4 la4 ha4 h4 (by omega)
                  rw [es] at h9
                  rw [if_pos q2] at h9
                  exact h9 (by rw [List.length_set]; exact hlenj) e1 e2 (fun i hi => hset i (by rw [List.length_set, hlenj]; exact hi)) hM4 (jfr_tr hf2 hf4)
                · rw [if_neg (by omega)] at hnx
                  refine jz_iinc (v := k8 + 1) (L' := [some (.ref (u)), some (.int (zI (nw % p))), some (.int (zI ((mb m p hs cs xs nw B lt rt j).2.2.1))), some (.int (zI (k8 + 1))), some (.int (zI ((j : Int))))]) d_Md_beat_65 rfl (by omega) (by decide) rfl ?_
                  refine jl_goto (tgt := 54) d_Md_beat_68 (by decide) ?_
                  exact ih3 f8 (by omega) (k8 + 1) (by omega) (by omega) hnx
            exact lpw (cs (nw % p).toNat - (mb m p hs cs xs nw B lt rt j).2.1).toNat ((mb m p hs cs xs nw B lt rt j).2.1) (by omega) hk0 eWn.symm
  exact lp1 B.length 0 lt rt la ha h (by omega) rfl rfl rfl hA hM9 (fun _ _ => rfl)
