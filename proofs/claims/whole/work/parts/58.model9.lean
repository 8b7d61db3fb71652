set_option maxHeartbeats 4000000 in
set_option maxRecDepth 100000 in
theorem k_M_handOf {l : Launch} {G : jl_G} {d n : Nat} {h : Nat → va_E} {Kr : Option Value → Nat → (Nat → va_E) → Prop} {Kx : String → Nat → (Nat → va_E) → Prop} (hl9 : l.stackTraces = false) (hdd : 0 ≤ d) {u : Nat} {M : MS} {s b : Int} (hM9 : jM h u M) (ok : mOk M) (hs9 : 0 ≤ s ∧ s < 1000) (hb : 0 ≤ b ∧ b < 2147483648) (hk : Kr (some (.int (zI (mG (M.mo (7 : Int).toNat) b s)))) n h) : jl_Call l G m_Md_handOf d [.ref (u), .int (zI (s)), .int (zI (b))] n h 0 0 Kr Kx := by
  refine jl_enter hl9 (by decide) rfl (by simp [Value.category]) (Nat.le_of_ble_eq_true rfl) ?_
  show jl_AW l G (jl_F G Kr Kx) m_Md_handOf d 0 [some (.ref (u)), some (.int (zI (s))), some (.int (zI (b)))] [] n h 0 0
  have hm7 := ok.1 (7 : Int).toNat
  obtain ⟨q0, q1, q2, q3, q4, q5, q6, q7, q8, q9, q10, q11, q12, q13⟩ := id (hM9)
  have p0 : h u = jO 6 [.int (zI (M.T)), .ref (u + 1), .ref (u + 2), .ref (u + 3), .ref (u + 4), .ref (u + 5), .int (zI (M.jn)), .int (zI (M.ja)), .int (zI (M.jb)), .ref (u + 6), .ref (u + 7), .int (zI (M.nw)), .int (zI (M.bl)), .int (zI (M.lt)), .int (zI (M.rt)), .ref (u + 8), .ref (u + 9), .ref (u + 10), .ref (u + 11), .ref (u + 12), .ref (u + 13)] := q0
  have p1 : h (u + 1) = jI 8 (fun j9 => zI (M.mo j9)) := q1
  have p2 : h (u + 2) = jI 8 (fun j9 => zI (M.pe j9)) := q2
  have p3 : h (u + 3) = jI 128 (fun j9 => zI (M.co j9)) := q3
  have p4 : h (u + 4) = jI 384 (fun j9 => zI (M.he j9)) := q4
  have p5 : h (u + 5) = jZ 128 (fun j9 => zI (M.cr j9)) := q5
  have p6 : h (u + 6) = jI 16 (fun j9 => zI (M.wy j9)) := q6
  have p7 : h (u + 7) = jI 512 (fun j9 => zI (M.fa j9)) := q7
  have p8 : h (u + 8) = jI 32 (fun j9 => zI (M.la j9)) := q8
  have p9 : h (u + 9) = jI 32 (fun j9 => zI (M.ha j9)) := q9
  have p10 : h (u + 10) = jI 4096 (fun j9 => zI (M.w1 j9)) := q10
  have p11 : h (u + 11) = jI 4096 (fun j9 => zI (M.mr j9)) := q11
  have p12 : h (u + 12) = jI 6 (fun j9 => zI (M.rw j9)) := q12
  have p13 : h (u + 13) = jI 16 (fun j9 => zI (M.tu j9)) := q13
  refine jl_aload_n d_Md_handOf_0 rfl rfl ?_
  refine jg_6 (q := 1) d_Md_handOf_1 p0 rfl (by decide) fw_Md_7 ?_
  refine jl_bipush (v := zI (7)) d_Md_handOf_4 (by decide) ?_
  refine jz_iald d_Md_handOf_6 p1 (by omega) (by omega) (by omega) ?_
  refine jl_iconst (v := zI (2)) d_Md_handOf_7 (by decide) ?_
  refine jz_icmp_ne (tgt := 17) d_Md_handOf_8 (by decide) ⟨by omega, by omega⟩ ⟨by omega, by omega⟩ (fun q1 => ?_) (fun q1 => ?_)
  · refine jl_iload_n d_Md_handOf_17 rfl rfl ?_
    refine jl_iconst (v := zI (2)) d_Md_handOf_18 (by decide) ?_
    refine jz_irem (v := b % 2) d_Md_handOf_19 ⟨by omega, by omega⟩ ⟨by decide, by decide⟩ (by decide) (Int.tmod_eq_emod_of_nonneg (by omega)) ?_
    exact jl_iret d_Md_handOf_20 rfl (by unfold mG at hk; rw [if_neg q1] at hk; exact hk)
  · refine jl_iload_n d_Md_handOf_11 rfl rfl ?_
    refine jl_iconst (v := zI (2)) d_Md_handOf_12 (by decide) ?_
    refine jz_irem (v := s % 2) d_Md_handOf_13 ⟨by omega, by omega⟩ ⟨by decide, by decide⟩ (by decide) (Int.tmod_eq_emod_of_nonneg (by omega)) ?_
    refine jl_goto (tgt := 20) d_Md_handOf_14 (by decide) ?_
    exact jl_iret d_Md_handOf_20 rfl (by unfold mG at hk; rw [if_pos q1] at hk; exact hk)
set_option maxHeartbeats 4000000 in
set_option maxRecDepth 100000 in
theorem k_M_comes {l : Launch} {G : jl_G} {d n : Nat} {h : Nat → va_E} {Kr : Option Value → Nat → (Nat → va_E) → Prop} {Kx : String → Nat → (Nat → va_E) → Prop} (hl9 : l.stackTraces = false) (hdd : 0 ≤ d) {u : Nat} {M : MS} {a b : Int} {B : List (Int × Int)} {bl : Int} {la ha : Nat → Int} (hM9 : jM h u (((M.wbl (bl)).wla (la)).wha (ha))) (hB : mBl (((M.wbl (bl)).wla (la)).wha (ha)) B) (hl : B.length < 27) (hk : ∀ (h' : Nat → va_E) (bl' : Int) (la' ha' : Nat → Int), jM h' u (((M.wbl (bl')).wla (la')).wha (ha')) → mBl (((M.wbl (bl')).wla (la')).wha (ha')) (B ++ [(a, b)]) → jfr h h' u (u + 14) → Kr none n h') : jl_Call l G m_Md_comes d [.ref (u), .int (zI (a)), .int (zI (b))] n h 0 0 Kr Kx := by
  refine jl_enter hl9 (by decide) rfl (by simp [Value.category]) (Nat.le_of_ble_eq_true rfl) ?_
  show jl_AW l G (jl_F G Kr Kx) m_Md_comes d 0 [some (.ref (u)), some (.int (zI (a))), some (.int (zI (b)))] [] n h 0 0
  have hbl : bl = (B.length : Int) := hB.1
  obtain ⟨q0, q1, q2, q3, q4, q5, q6, q7, q8, q9, q10, q11, q12, q13⟩ := id (hM9)
  have p0 : h u = jO 6 [.int (zI (M.T)), .ref (u + 1), .ref (u + 2), .ref (u + 3), .ref (u + 4), .ref (u + 5), .int (zI (M.jn)), .int (zI (M.ja)), .int (zI (M.jb)), .ref (u + 6), .ref (u + 7), .int (zI (M.nw)), .int (zI (bl)), .int (zI (M.lt)), .int (zI (M.rt)), .ref (u + 8), .ref (u + 9), .ref (u + 10), .ref (u + 11), .ref (u + 12), .ref (u + 13)] := q0
  have p1 : h (u + 1) = jI 8 (fun j9 => zI (M.mo j9)) := q1
  have p2 : h (u + 2) = jI 8 (fun j9 => zI (M.pe j9)) := q2
  have p3 : h (u + 3) = jI 128 (fun j9 => zI (M.co j9)) := q3
  have p4 : h (u + 4) = jI 384 (fun j9 => zI (M.he j9)) := q4
  have p5 : h (u + 5) = jZ 128 (fun j9 => zI (M.cr j9)) := q5
  have p6 : h (u + 6) = jI 16 (fun j9 => zI (M.wy j9)) := q6
  have p7 : h (u + 7) = jI 512 (fun j9 => zI (M.fa j9)) := q7
  have p8 : h (u + 8) = jI 32 (fun j9 => zI (la j9)) := q8
  have p9 : h (u + 9) = jI 32 (fun j9 => zI (ha j9)) := q9
  have p10 : h (u + 10) = jI 4096 (fun j9 => zI (M.w1 j9)) := q10
  have p11 : h (u + 11) = jI 4096 (fun j9 => zI (M.mr j9)) := q11
  have p12 : h (u + 12) = jI 6 (fun j9 => zI (M.rw j9)) := q12
  have p13 : h (u + 13) = jI 16 (fun j9 => zI (M.tu j9)) := q13
  refine jl_aload_n d_Md_comes_0 rfl rfl ?_
  refine jg_6 (q := 15) d_Md_comes_1 p0 rfl (by decide) fw_Md_36 ?_
  refine jl_aload_n d_Md_comes_4 rfl rfl ?_
  refine jg_6 (q := 12) d_Md_comes_5 p0 rfl (by decide) fw_Md_126 ?_
  refine jl_iload_n d_Md_comes_8 rfl rfl ?_
  refine jz_iasth d_Md_comes_9 p8 (by omega) (by omega) (by omega) (fun h1 eh1 => ?_)
  have jf2 : h1 (u + 8) = jI 32 (fun j9 => zI ((va_up la (bl).toNat (a)) j9)) := by rw [eh1, va_up_self]
  refine jl_aload_n d_Md_comes_10 rfl rfl ?_
  have jf3 : h1 (u) = jO 6 [.int (zI (M.T)), .ref (u + 1), .ref (u + 2), .ref (u + 3), .ref (u + 4), .ref (u + 5), .int (zI (M.jn)), .int (zI (M.ja)), .int (zI (M.jb)), .ref (u + 6), .ref (u + 7), .int (zI (M.nw)), .int (zI (bl)), .int (zI (M.lt)), .int (zI (M.rt)), .ref (u + 8), .ref (u + 9), .ref (u + 10), .ref (u + 11), .ref (u + 12), .ref (u + 13)] := by rw [eh1, va_up_ne _ _ (by omega)]; exact p0
  refine jg_6 (q := 16) d_Md_comes_11 jf3 rfl (by decide) fw_Md_39 ?_
  refine jl_aload_n d_Md_comes_14 rfl rfl ?_
  refine jg_6 (q := 12) d_Md_comes_15 jf3 rfl (by decide) fw_Md_126 ?_
  refine jl_iload_n d_Md_comes_18 rfl rfl ?_
  have jf4 : h1 (u + 9) = jI 32 (fun j9 => zI (ha j9)) := by rw [eh1, va_up_ne _ _ (by omega)]; exact p9
  refine jz_iasth d_Md_comes_19 jf4 (by omega) (by omega) (by omega) (fun h5 eh5 => ?_)
  have jf6 : h5 (u + 9) = jI 32 (fun j9 => zI ((va_up ha (bl).toNat (b)) j9)) := by rw [eh5, va_up_self]
  refine jl_aload_n d_Md_comes_20 rfl rfl ?_
  refine jl_dup d_Md_comes_21 rfl ?_
  have jf7 : h5 (u) = jO 6 [.int (zI (M.T)), .ref (u + 1), .ref (u + 2), .ref (u + 3), .ref (u + 4), .ref (u + 5), .int (zI (M.jn)), .int (zI (M.ja)), .int (zI (M.jb)), .ref (u + 6), .ref (u + 7), .int (zI (M.nw)), .int (zI (bl)), .int (zI (M.lt)), .int (zI (M.rt)), .ref (u + 8), .ref (u + 9), .ref (u + 10), .ref (u + 11), .ref (u + 12), .ref (u + 13)] := by rw [eh5, va_up_ne _ _ (by omega)]; exact jf3
  refine jg_6 (q := 12) d_Md_comes_22 jf7 rfl (by decide) fw_Md_126 ?_
  refine jl_iconst (v := zI (1)) d_Md_comes_25 (by decide) ?_
  refine jz_iadd (v := bl + 1) d_Md_comes_26 (by omega) ?_
  refine jp_6 (q := 12) (ty := .int) d_Md_comes_27 jf7 (by simp) (by decide) fw_Md_126 rfl (by decide +kernel) (fun _ _ => rfl) (fun _ _ => rfl) (fun h8 eh8 => ?_)
  have eh8 : h8 = va_up h5 (u) (jO 6 [.int (zI (M.T)), .ref (u + 1), .ref (u + 2), .ref (u + 3), .ref (u + 4), .ref (u + 5), .int (zI (M.jn)), .int (zI (M.ja)), .int (zI (M.jb)), .ref (u + 6), .ref (u + 7), .int (zI (M.nw)), .int (zI (bl + 1)), .int (zI (M.lt)), .int (zI (M.rt)), .ref (u + 8), .ref (u + 9), .ref (u + 10), .ref (u + 11), .ref (u + 12), .ref (u + 13)]) := eh8
  have jf9 : h8 (u) = jO 6 [.int (zI (M.T)), .ref (u + 1), .ref (u + 2), .ref (u + 3), .ref (u + 4), .ref (u + 5), .int (zI (M.jn)), .int (zI (M.ja)), .int (zI (M.jb)), .ref (u + 6), .ref (u + 7), .int (zI (M.nw)), .int (zI (bl + 1)), .int (zI (M.lt)), .int (zI (M.rt)), .ref (u + 8), .ref (u + 9), .ref (u + 10), .ref (u + 11), .ref (u + 12), .ref (u + 13)] := by rw [eh8, va_up_self]
  have jf10 : h8 (u + 1) = jI 8 (fun j9 => zI (M.mo j9)) := by rw [eh8, va_up_ne _ _ (by omega), eh5, va_up_ne _ _ (by omega), eh1, va_up_ne _ _ (by omega)]; exact p1
  have jf11 : h8 (u + 2) = jI 8 (fun j9 => zI (M.pe j9)) := by rw [eh8, va_up_ne _ _ (by omega), eh5, va_up_ne _ _ (by omega), eh1, va_up_ne _ _ (by omega)]; exact p2
  have jf12 : h8 (u + 3) = jI 128 (fun j9 => zI (M.co j9)) := by rw [eh8, va_up_ne _ _ (by omega), eh5, va_up_ne _ _ (by omega), eh1, va_up_ne _ _ (by omega)]; exact p3
  have jf13 : h8 (u + 4) = jI 384 (fun j9 => zI (M.he j9)) := by rw [eh8, va_up_ne _ _ (by omega), eh5, va_up_ne _ _ (by omega), eh1, va_up_ne _ _ (by omega)]; exact p4
  have jf14 : h8 (u + 5) = jZ 128 (fun j9 => zI (M.cr j9)) := by rw [eh8, va_up_ne _ _ (by omega), eh5, va_up_ne _ _ (by omega), eh1, va_up_ne _ _ (by omega)]; exact p5
  have jf15 : h8 (u + 6) = jI 16 (fun j9 => zI (M.wy j9)) := by rw [eh8, va_up_ne _ _ (by omega), eh5, va_up_ne _ _ (by omega), eh1, va_up_ne _ _ (by omega)]; exact p6
  have jf16 : h8 (u + 7) = jI 512 (fun j9 => zI (M.fa j9)) := by rw [eh8, va_up_ne _ _ (by omega), eh5, va_up_ne _ _ (by omega), eh1, va_up_ne _ _ (by omega)]; exact p7
  have jf17 : h8 (u + 8) = jI 32 (fun j9 => zI ((va_up la (bl).toNat (a)) j9)) := by rw [eh8, va_up_ne _ _ (by omega), eh5, va_up_ne _ _ (by omega)]; exact jf2
  have jf18 : h8 (u + 9) = jI 32 (fun j9 => zI ((va_up ha (bl).toNat (b)) j9)) := by rw [eh8, va_up_ne _ _ (by omega)]; exact jf6
  have jf19 : h8 (u + 10) = jI 4096 (fun j9 => zI (M.w1 j9)) := by rw [eh8, va_up_ne _ _ (by omega), eh5, va_up_ne _ _ (by omega), eh1, va_up_ne _ _ (by omega)]; exact p10
  have jf20 : h8 (u + 11) = jI 4096 (fun j9 => zI (M.mr j9)) := by rw [eh8, va_up_ne _ _ (by omega), eh5, va_up_ne _ _ (by omega), eh1, va_up_ne _ _ (by omega)]; exact p11
  have jf21 : h8 (u + 12) = jI 6 (fun j9 => zI (M.rw j9)) := by rw [eh8, va_up_ne _ _ (by omega), eh5, va_up_ne _ _ (by omega), eh1, va_up_ne _ _ (by omega)]; exact p12
  have jf22 : h8 (u + 13) = jI 16 (fun j9 => zI (M.tu j9)) := by rw [eh8, va_up_ne _ _ (by omega), eh5, va_up_ne _ _ (by omega), eh1, va_up_ne _ _ (by omega)]; exact p13
  have hz : bl.toNat = B.length := by omega
  have hA : ∀ j, j < (B ++ [(a, b)]).length → va_up la bl.toNat a j = ((B ++ [(a, b)]).getD j (0, 0)).1 ∧ va_up ha bl.toNat b j = ((B ++ [(a, b)]).getD j (0, 0)).2 := by
    rw [hz]
    exact jB_app (LA := la) (LI := ha) hB.2.2
  have hl1 : bl + 1 = ((B ++ [(a, b)]).length : Int) := by rw [List.length_append, List.length_singleton]; omega
  have hl2 : (B ++ [(a, b)]).length ≤ 27 := by rw [List.length_append, List.length_singleton]; omega
  obtain ⟨BL, eBL⟩ : ∃ v, v = bl + 1 := ⟨_, rfl⟩
  obtain ⟨LA, eLA⟩ : ∃ f, f = va_up la bl.toNat a := ⟨_, rfl⟩
  obtain ⟨HA, eHA⟩ : ∃ f, f = va_up ha bl.toNat b := ⟨_, rfl⟩
  rw [← eLA, ← eHA] at hA
  rw [← eBL] at hl1 jf9
  rw [← eLA] at jf17
  rw [← eHA] at jf18
  exact jl_vret d_Md_comes_30 rfl (hk h8 BL LA HA ⟨jf9, jf10, jf11, jf12, jf13, jf14, jf15, jf16, jf17, jf18, jf19, jf20, jf21, jf22⟩ ⟨hl1, hl2, hA⟩ (fun y hy => by rw [eh8, va_up_ne _ _ (by omega), eh5, va_up_ne _ _ (by omega), eh1, va_up_ne _ _ (by omega)]))
set_option maxHeartbeats 4000000 in
set_option maxRecDepth 100000 in
theorem k_M_enter1 {l : Launch} {G : jl_G} {d n : Nat} {h : Nat → va_E} {Kr : Option Value → Nat → (Nat → va_E) → Prop} {Kx : String → Nat → (Nat → va_E) → Prop} (hl9 : l.stackTraces = false) (hdd : 1 ≤ d) {u : Nat} {M : MS} {m p : Int} {hs cs xs : Nat → Int} {g b : Int} {B : List (Int × Int)} (hM9 : jM h u M) (hR : dRl m p hs cs xs (M.mo (7 : Int).toNat) (M.pe (7 : Int).toNat) (hM M 7) (cM M 7) (xM M 7)) (ok7 : jOk m p hs cs xs) (hi : dIn m p cs) (hm2 : ¬ m = 2) (hg : 0 ≤ g ∧ g ≤ 8) (hB : mBl M B) (hL9 : (B ++ itL m p hs cs xs g (g % 2) 9).length ≤ 27) (hk : ∀ (h' : Nat → va_E) (bl : Int) (la ha : Nat → Int), jM h' u (((M.wbl (bl)).wla (la)).wha (ha)) → mBl (((M.wbl (bl)).wla (la)).wha (ha)) (B ++ itL m p hs cs xs g (g % 2) 9) → jfr h h' u (u + 14) → Kr none n h') : jl_Call l G m_Md_enter d [.ref (u), .int (zI (g)), .int (zI (b))] n h 0 0 Kr Kx := by
  refine jl_enter hl9 (by decide) rfl (by simp [Value.category]) (Nat.le_of_ble_eq_true rfl) ?_
  show jl_AW l G (jl_F G Kr Kx) m_Md_enter d 0 [some (.ref (u)), some (.int (zI (g))), some (.int (zI (b))), none, none, none, none, none] [] n h 0 0
  have em : M.mo (7 : Int).toNat = m := hR.1
  have ep : M.pe (7 : Int).toNat = p := hR.2.1
  have hp := ok7.2.1
  have hm9 := ok7.1
  have hmod : ∀ x : Int, 0 ≤ x % p ∧ x % p < p := fun x => ⟨Int.emod_nonneg _ (by omega), Int.emod_lt_of_pos _ (by omega)⟩
  have h0 := hM9
  obtain ⟨q0, q1, q2, q3, q4, q5, q6, q7, q8, q9, q10, q11, q12, q13⟩ := id (hM9)
  have p0 : h u = jO 6 [.int (zI (M.T)), .ref (u + 1), .ref (u + 2), .ref (u + 3), .ref (u + 4), .ref (u + 5), .int (zI (M.jn)), .int (zI (M.ja)), .int (zI (M.jb)), .ref (u + 6), .ref (u + 7), .int (zI (M.nw)), .int (zI (M.bl)), .int (zI (M.lt)), .int (zI (M.rt)), .ref (u + 8), .ref (u + 9), .ref (u + 10), .ref (u + 11), .ref (u + 12), .ref (u + 13)] := q0
  have p1 : h (u + 1) = jI 8 (fun j9 => zI (M.mo j9)) := q1
  have p2 : h (u + 2) = jI 8 (fun j9 => zI (M.pe j9)) := q2
  have p3 : h (u + 3) = jI 128 (fun j9 => zI (M.co j9)) := q3
  have p4 : h (u + 4) = jI 384 (fun j9 => zI (M.he j9)) := q4
  have p5 : h (u + 5) = jZ 128 (fun j9 => zI (M.cr j9)) := q5
  have p6 : h (u + 6) = jI 16 (fun j9 => zI (M.wy j9)) := q6
  have p7 : h (u + 7) = jI 512 (fun j9 => zI (M.fa j9)) := q7
  have p8 : h (u + 8) = jI 32 (fun j9 => zI (M.la j9)) := q8
  have p9 : h (u + 9) = jI 32 (fun j9 => zI (M.ha j9)) := q9
  have p10 : h (u + 10) = jI 4096 (fun j9 => zI (M.w1 j9)) := q10
  have p11 : h (u + 11) = jI 4096 (fun j9 => zI (M.mr j9)) := q11
  have p12 : h (u + 12) = jI 6 (fun j9 => zI (M.rw j9)) := q12
  have p13 : h (u + 13) = jI 16 (fun j9 => zI (M.tu j9)) := q13
  refine jl_aload_n d_Md_enter_0 rfl rfl ?_
  refine jg_6 (q := 2) d_Md_enter_1 p0 rfl (by decide) fw_Md_13 ?_
  refine jl_bipush (v := zI (7)) d_Md_enter_4 (by decide) ?_
  refine jz_iald d_Md_enter_6 p2 (by omega) (by omega) (by omega) ?_
  rw [ep]
  refine jl_istore_n (L' := [some (.ref (u)), some (.int (zI (g))), some (.int (zI (b))), some (.int (zI (p))), none, none, none, none]) d_Md_enter_7 rfl (by decide) rfl ?_
  refine jl_iconst (v := zI (-1)) d_Md_enter_8 (by decide) ?_
  refine jl_istore (L' := [some (.ref (u)), some (.int (zI (g))), some (.int (zI (b))), some (.int (zI (p))), some (.int (zI (-1))), none, none, none]) d_Md_enter_9 (by decide) rfl ?_
  have lp1 : ∀ (k : Nat) (t : Nat) (bl : Int) (la ha : Nat → Int) (h2 : Nat → va_E), t + k = 9 → jM h2 u (((M.wbl (bl)).wla (la)).wha (ha)) → mBl (((M.wbl (bl)).wla (la)).wha (ha)) (B ++ itL m p hs cs xs g (g % 2) t) → jfr h h2 u (u + 14) → jl_AW l G (jl_F G Kr Kx) m_Md_enter d 11 [some (.ref (u)), some (.int (zI (g))), some (.int (zI (b))), some (.int (zI (p))), some (.int (zI (-((t : Int) + 1)))), none, none, none] [] n h2 0 0 := by
    intro k
    induction k using Nat.strongRecOn with
    | ind k ih =>
      intro t bl la ha h2 hkt hM2 hB2 hf2
      have lpi : ∀ (k2 : Nat) (w9 : Nat) (bl : Int) (la ha : Nat → Int) (h3 : Nat → va_E), (w9 : Int) + k2 = cs ((-((t : Int) + 1)) % p).toNat → t < 9 → jM h3 u (((M.wbl (bl)).wla (la)).wha (ha)) → mBl (((M.wbl (bl)).wla (la)).wha (ha)) (B ++ itL m p hs cs xs g (g % 2) t ++ itW hs ((-((t : Int) + 1)) % p) (g + ((t : Int) + 1)) (g, g % 2) w9) → jfr h h3 u (u + 14) → jl_AW l G (jl_F G Kr Kx) m_Md_enter d 43 [some (.ref (u)), some (.int (zI (g))), some (.int (zI (b))), some (.int (zI (p))), some (.int (zI (-((t : Int) + 1)))), some (.int (zI ((-((t : Int) + 1)) % p))), some (.int (zI ((w9 : Int)))), none] [] n h3 0 0 := by
        intro k2
        induction k2 using Nat.strongRecOn with
        | ind k2 ih2 =>
          intro w9 bl la ha h3 hkw hst hM3 hB3 hf3
          have hsm := hmod (-((t : Int) + 1))
          have hc9 := ok7.2.2.2.1 ((-((t : Int) + 1)) % p).toNat
          obtain ⟨hr1, hr2, hr3⟩ := dRl_s hR hsm.1 hsm.2
          obtain ⟨q0y, q1y, q2y, q3y, q4y, q5y, q6y, q7y, q8y, q9y, q10y, q11y, q12y, q13y⟩ := id (hM3)
          have p0y : h3 u = jO 6 [.int (zI (M.T)), .ref (u + 1), .ref (u + 2), .ref (u + 3), .ref (u + 4), .ref (u + 5), .int (zI (M.jn)), .int (zI (M.ja)), .int (zI (M.jb)), .ref (u + 6), .ref (u + 7), .int (zI (M.nw)), .int (zI (bl)), .int (zI (M.lt)), .int (zI (M.rt)), .ref (u + 8), .ref (u + 9), .ref (u + 10), .ref (u + 11), .ref (u + 12), .ref (u + 13)] := q0y
          have p1y : h3 (u + 1) = jI 8 (fun j9 => zI (M.mo j9)) := q1y
          have p2y : h3 (u + 2) = jI 8 (fun j9 => zI (M.pe j9)) := q2y
          have p3y : h3 (u + 3) = jI 128 (fun j9 => zI (M.co j9)) := q3y
          have p4y : h3 (u + 4) = jI 384 (fun j9 => zI (M.he j9)) := q4y
          have p5y : h3 (u + 5) = jZ 128 (fun j9 => zI (M.cr j9)) := q5y
          have p6y : h3 (u + 6) = jI 16 (fun j9 => zI (M.wy j9)) := q6y
          have p7y : h3 (u + 7) = jI 512 (fun j9 => zI (M.fa j9)) := q7y
          have p8y : h3 (u + 8) = jI 32 (fun j9 => zI (la j9)) := q8y
          have p9y : h3 (u + 9) = jI 32 (fun j9 => zI (ha j9)) := q9y
          have p10y : h3 (u + 10) = jI 4096 (fun j9 => zI (M.w1 j9)) := q10y
          have p11y : h3 (u + 11) = jI 4096 (fun j9 => zI (M.mr j9)) := q11y
          have p12y : h3 (u + 12) = jI 6 (fun j9 => zI (M.rw j9)) := q12y
          have p13y : h3 (u + 13) = jI 16 (fun j9 => zI (M.tu j9)) := q13y
          refine jl_iload d_Md_enter_43 rfl ?_
          refine jl_aload_n d_Md_enter_45 rfl rfl ?_
          refine jg_6 (q := 3) d_Md_enter_46 p0y rfl (by decide) fw_Md_16 ?_
          refine jl_bipush (v := zI (112)) d_Md_enter_49 (by decide) ?_
          refine jl_iload d_Md_enter_51 rfl ?_
          refine jz_iadd (v := 16 * 7 + (-((t : Int) + 1)) % p) d_Md_enter_53 (by omega) ?_
          refine jz_iald d_Md_enter_54 p3y (by omega) (by omega) (by omega) ?_
          rw [cM_at hsm.1, hr1]
          refine jz_icmp_ge (tgt := 102) d_Md_enter_55 (by decide) ⟨by omega, by omega⟩ ⟨by omega, by omega⟩ (fun hc => ?_) (fun hc => ?_)
          · have ew : w9 = (cs ((-((t : Int) + 1)) % p).toNat).toNat := by omega
            refine jl_goto (tgt := 179) d_Md_enter_102 (by decide) ?_
            refine jz_iinc (v := -(((t + 1 : Nat) : Int) + 1)) (L' := [some (.ref (u)), some (.int (zI (g))), some (.int (zI (b))), some (.int (zI (p))), some (.int (zI (-(((t + 1 : Nat) : Int) + 1)))), some (.int (zI ((-((t : Int) + 1)) % p))), some (.int (zI ((w9 : Int)))), none]) d_Md_enter_179 rfl (by omega) (by decide) rfl ?_
            refine jl_goto (tgt := 11) d_Md_enter_182 (by decide) ?_
            refine jl_less (L' := [some (.ref (u)), some (.int (zI (g))), some (.int (zI (b))), some (.int (zI (p))), some (.int (zI (-(((t + 1 : Nat) : Int) + 1)))), none, none, none]) ⟨rfl, rfl, rfl, rfl, rfl, trivial⟩ ?_
            refine ih (k - 1) (by omega) (t + 1) bl la ha h3 (by omega) hM3 ?_ hf3
            rw [ew, List.append_assoc, ← itL_1 hp.1 hm2] at hB3
            exact hB3
          · have hh := ok7.2.2.1 ((-((t : Int) + 1)) % p * 3 + (w9 : Int)).toNat
            have hrw := hr3 w9 (by omega)
            refine jl_aload_n d_Md_enter_58 rfl rfl ?_
            refine jl_bipush (v := zI (7)) d_Md_enter_59 (by decide) ?_
            refine jl_iload d_Md_enter_61 rfl ?_
            refine jl_iload d_Md_enter_63 rfl ?_
            refine jl_invV (M' := m_Md_tall) (d' := d - 1) (ck' := 0) (sk' := 0) (na := 3) (as := [.int (zI (7)), .int (zI ((-((t : Int) + 1)) % p)), .int (zI ((w9 : Int)))]) (st := []) d_Md_enter_65 rfl p0y rfl mw_Md_73 ww_Md_tall sw_Md_tall nw_Md cw_Md_tall rfl rfl rfl (by decide +kernel) (by omega) (Nat.le_of_ble_eq_true rfl) (Nat.le_of_ble_eq_true rfl) ?_
            refine k_M_tall hl9 (by omega) hM3 ⟨by decide, by decide⟩ ⟨by omega, by omega⟩ ⟨by omega, by omega⟩ ?_
            have e9 : hM (((M.wbl (bl)).wla (la)).wha (ha)) 7 ((-((t : Int) + 1)) % p * 3 + (w9 : Int)).toNat = hs ((-((t : Int) + 1)) % p * 3 + (w9 : Int)).toNat := hrw
            rw [e9]
            show jl_AW _ _ _ _ _ 68 [some (.ref (u)), some (.int (zI (g))), some (.int (zI (b))), some (.int (zI (p))), some (.int (zI (-((t : Int) + 1)))), some (.int (zI ((-((t : Int) + 1)) % p))), some (.int (zI ((w9 : Int)))), none] [.int (zI (hs ((-((t : Int) + 1)) % p * 3 + (w9 : Int)).toNat))] n h3 _ _
            refine jz_if_le (tgt := 96) d_Md_enter_68 (by decide) ⟨by omega, by omega⟩ (fun q1 => ?_) (fun q1 => ?_)
            · refine jz_iinc (v := ((w9 + 1 : Nat) : Int)) (L' := [some (.ref (u)), some (.int (zI (g))), some (.int (zI (b))), some (.int (zI (p))), some (.int (zI (-((t : Int) + 1)))), some (.int (zI ((-((t : Int) + 1)) % p))), some (.int (zI (((w9 + 1 : Nat) : Int)))), none]) d_Md_enter_96 rfl (by omega) (by decide) rfl ?_
              refine jl_goto (tgt := 43) d_Md_enter_99 (by decide) ?_
              refine ih2 (k2 - 1) (by omega) (w9 + 1) bl la ha h3 (by omega) hst hM3 ?_ hf3
              rw [itW, if_neg (by omega)]
              exact (by rw [List.append_nil]; exact hB3)
            · refine jl_iload d_Md_enter_71 rfl ?_
              refine jl_aload_n d_Md_enter_73 rfl rfl ?_
              refine jl_bipush (v := zI (7)) d_Md_enter_74 (by decide) ?_
              refine jl_iload d_Md_enter_76 rfl ?_
              refine jl_iload d_Md_enter_78 rfl ?_
              refine jl_invV (M' := m_Md_tall) (d' := d - 1) (ck' := 0) (sk' := 0) (na := 3) (as := [.int (zI (7)), .int (zI ((-((t : Int) + 1)) % p)), .int (zI ((w9 : Int)))]) (st := [.int (zI (-((t : Int) + 1)))]) d_Md_enter_80 rfl p0y rfl mw_Md_73 ww_Md_tall sw_Md_tall nw_Md cw_Md_tall rfl rfl rfl (by decide +kernel) (by omega) (Nat.le_of_ble_eq_true rfl) (Nat.le_of_ble_eq_true rfl) ?_
              refine k_M_tall hl9 (by omega) hM3 ⟨by decide, by decide⟩ ⟨by omega, by omega⟩ ⟨by omega, by omega⟩ ?_
              have e9 : hM (((M.wbl (bl)).wla (la)).wha (ha)) 7 ((-((t : Int) + 1)) % p * 3 + (w9 : Int)).toNat = hs ((-((t : Int) + 1)) % p * 3 + (w9 : Int)).toNat := hrw
              rw [e9]
              show jl_AW _ _ _ _ _ 83 [some (.ref (u)), some (.int (zI (g))), some (.int (zI (b))), some (.int (zI (p))), some (.int (zI (-((t : Int) + 1)))), some (.int (zI ((-((t : Int) + 1)) % p))), some (.int (zI ((w9 : Int)))), none] [.int (zI (hs ((-((t : Int) + 1)) % p * 3 + (w9 : Int)).toNat)), .int (zI (-((t : Int) + 1)))] n h3 _ _
              refine jz_iadd (v := -((t : Int) + 1) + hs ((-((t : Int) + 1)) % p * 3 + (w9 : Int)).toNat) d_Md_enter_83 (by omega) ?_
              refine jl_iload_n d_Md_enter_84 rfl rfl ?_
              refine jz_icmp_ne (tgt := 96) d_Md_enter_85 (by decide) ⟨by omega, by omega⟩ ⟨by omega, by omega⟩ (fun q2 => ?_) (fun q2 => ?_)
              · refine jz_iinc (v := ((w9 + 1 : Nat) : Int)) (L' := [some (.ref (u)), some (.int (zI (g))), some (.int (zI (b))), some (.int (zI (p))), some (.int (zI (-((t : Int) + 1)))), some (.int (zI ((-((t : Int) + 1)) % p))), some (.int (zI (((w9 + 1 : Nat) : Int)))), none]) d_Md_enter_96 rfl (by omega) (by decide) rfl ?_
                refine jl_goto (tgt := 43) d_Md_enter_99 (by decide) ?_
                refine ih2 (k2 - 1) (by omega) (w9 + 1) bl la ha h3 (by omega) hst hM3 ?_ hf3
                rw [itW, if_neg (by omega)]
                exact (by rw [List.append_nil]; exact hB3)
              · have hlen := hB3.2.1
                have hmono := itL_mono (m := m) (p := p) (hs := hs) (cs := cs) (xs := xs) (g := g) (k := g % 2) (a := t + 1) (9 - (t + 1))
                rw [show t + 1 + (9 - (t + 1)) = 9 by omega, itL_1 hp.1 hm2, List.length_append] at hmono
                have hmw := itW_mono (hs := hs) (s := (-((t : Int) + 1)) % p) (ht := g + ((t : Int) + 1)) (x := (g, g % 2)) (w := w9 + 1) ((cs ((-((t : Int) + 1)) % p).toNat).toNat - (w9 + 1))
                rw [show w9 + 1 + ((cs ((-((t : Int) + 1)) % p).toNat).toNat - (w9 + 1)) = (cs ((-((t : Int) + 1)) % p).toNat).toNat by omega, itW, if_pos (by omega), List.length_append, List.length_singleton] at hmw
                rw [List.length_append] at hL9
                have hl27 : (B ++ itL m p hs cs xs g (g % 2) t ++ itW hs ((-((t : Int) + 1)) % p) (g + ((t : Int) + 1)) (g, g % 2) w9).length < 27 := by rw [List.length_append, List.length_append]; omega
                refine jl_aload_n d_Md_enter_88 rfl rfl ?_
                refine jl_iload_n d_Md_enter_89 rfl rfl ?_
                refine jl_iload_n d_Md_enter_90 rfl rfl ?_
                refine jl_iconst (v := zI (2)) d_Md_enter_91 (by decide) ?_
                refine jz_irem (v := g % 2) d_Md_enter_92 ⟨by omega, by omega⟩ ⟨by decide, by decide⟩ (by decide) (Int.tmod_eq_emod_of_nonneg (by omega)) ?_
                refine jl_invV (M' := m_Md_comes) (d' := d - 1) (ck' := 0) (sk' := 0) (na := 2) (as := [.int (zI (g)), .int (zI (g % 2))]) (st := []) d_Md_enter_93 rfl p0y rfl mw_Md_123 ww_Md_comes sw_Md_comes nw_Md cw_Md_comes rfl rfl rfl (by decide +kernel) (by omega) (Nat.le_of_ble_eq_true rfl) (Nat.le_of_ble_eq_true rfl) ?_
                refine k_M_comes hl9 (by omega) hM3 hB3 hl27 (fun h4 bl4 la4 ha4 hM4 hB4 hf4 => ?_)
                show jl_AW _ _ _ _ _ 96 [some (.ref (u)), some (.int (zI (g))), some (.int (zI (b))), some (.int (zI (p))), some (.int (zI (-((t : Int) + 1)))), some (.int (zI ((-((t : Int) + 1)) % p))), some (.int (zI ((w9 : Int)))), none] [] n h4 _ _
                refine jz_iinc (v := ((w9 + 1 : Nat) : Int)) (L' := [some (.ref (u)), some (.int (zI (g))), some (.int (zI (b))), some (.int (zI (p))), some (.int (zI (-((t : Int) + 1)))), some (.int (zI ((-((t : Int) + 1)) % p))), some (.int (zI (((w9 + 1 : Nat) : Int)))), none]) d_Md_enter_96 rfl (by omega) (by decide) rfl ?_
                refine jl_goto (tgt := 43) d_Md_enter_99 (by decide) ?_
                refine ih2 (k2 - 1) (by omega) (w9 + 1) bl4 la4 ha4 h4 (by omega) hst hM4 ?_ (jfr_tr hf3 hf4)
                rw [itW, if_pos (by omega)]
                exact (by rw [← List.append_assoc]; exact hB4)
      have hc9 := ok7.2.2.2.1 ((-((t : Int) + 1)) % p).toNat
      obtain ⟨q0z, q1z, q2z, q3z, q4z, q5z, q6z, q7z, q8z, q9z, q10z, q11z, q12z, q13z⟩ := id (hM2)
      have p0z : h2 u = jO 6 [.int (zI (M.T)), .ref (u + 1), .ref (u + 2), .ref (u + 3), .ref (u + 4), .ref (u + 5), .int (zI (M.jn)), .int (zI (M.ja)), .int (zI (M.jb)), .ref (u + 6), .ref (u + 7), .int (zI (M.nw)), .int (zI (bl)), .int (zI (M.lt)), .int (zI (M.rt)), .ref (u + 8), .ref (u + 9), .ref (u + 10), .ref (u + 11), .ref (u + 12), .ref (u + 13)] := q0z
      have p1z : h2 (u + 1) = jI 8 (fun j9 => zI (M.mo j9)) := q1z
      have p2z : h2 (u + 2) = jI 8 (fun j9 => zI (M.pe j9)) := q2z
      have p3z : h2 (u + 3) = jI 128 (fun j9 => zI (M.co j9)) := q3z
      have p4z : h2 (u + 4) = jI 384 (fun j9 => zI (M.he j9)) := q4z
      have p5z : h2 (u + 5) = jZ 128 (fun j9 => zI (M.cr j9)) := q5z
      have p6z : h2 (u + 6) = jI 16 (fun j9 => zI (M.wy j9)) := q6z
      have p7z : h2 (u + 7) = jI 512 (fun j9 => zI (M.fa j9)) := q7z
      have p8z : h2 (u + 8) = jI 32 (fun j9 => zI (la j9)) := q8z
      have p9z : h2 (u + 9) = jI 32 (fun j9 => zI (ha j9)) := q9z
      have p10z : h2 (u + 10) = jI 4096 (fun j9 => zI (M.w1 j9)) := q10z
      have p11z : h2 (u + 11) = jI 4096 (fun j9 => zI (M.mr j9)) := q11z
      have p12z : h2 (u + 12) = jI 6 (fun j9 => zI (M.rw j9)) := q12z
      have p13z : h2 (u + 13) = jI 16 (fun j9 => zI (M.tu j9)) := q13z
      refine jl_iload d_Md_enter_11 rfl ?_
      refine jl_bipush (v := zI (-9)) d_Md_enter_13 (by decide) ?_
      refine jz_icmp_lt (tgt := 185) d_Md_enter_15 (by decide) ⟨by omega, by omega⟩ ⟨by omega, by omega⟩ (fun hc => ?_) (fun hc => ?_)
      · have et : t = 9 := by omega
        subst et
        exact jl_vret d_Md_enter_185 rfl (hk h2 bl la ha hM2 hB2 hf2)
      · have hsm := hmod (-((t : Int) + 1))
        refine jl_iload d_Md_enter_18 rfl ?_
        refine jl_bipush (v := zI (16)) d_Md_enter_20 (by decide) ?_
        refine jl_iload_n d_Md_enter_22 rfl rfl ?_
        refine jz_imul (v := 16 * p) d_Md_enter_23 (by omega) ?_
        refine jz_iadd (v := -((t : Int) + 1) + 16 * p) d_Md_enter_24 (by omega) ?_
        refine jl_iload_n d_Md_enter_25 rfl rfl ?_
        refine jz_irem (v := (-((t : Int) + 1)) % p) d_Md_enter_26 ⟨by omega, by omega⟩ ⟨by omega, by omega⟩ (by omega) (by rw [Int.tmod_eq_emod_of_nonneg (by omega)]; exact Int.add_mul_emod_self_right _ _ _) ?_
        refine jl_istore (L' := [some (.ref (u)), some (.int (zI (g))), some (.int (zI (b))), some (.int (zI (p))), some (.int (zI (-((t : Int) + 1)))), some (.int (zI ((-((t : Int) + 1)) % p))), none, none]) d_Md_enter_27 (by decide) rfl ?_
        refine jl_aload_n d_Md_enter_29 rfl rfl ?_
        refine jg_6 (q := 1) d_Md_enter_30 p0z rfl (by decide) fw_Md_7 ?_
        refine jl_bipush (v := zI (7)) d_Md_enter_33 (by decide) ?_
        refine jz_iald d_Md_enter_35 p1z (by omega) (by omega) (by omega) ?_
        rw [em]
        refine jl_iconst (v := zI (2)) d_Md_enter_36 (by decide) ?_
        refine jz_icmp_ge (tgt := 105) d_Md_enter_37 (by decide) ⟨by omega, by omega⟩ ⟨by omega, by omega⟩ (fun q1 => ?_) (fun q1 => ?_)
        · omega
        · refine jl_iconst (v := zI (0)) d_Md_enter_40 (by decide) ?_
          refine jl_istore (L' := [some (.ref (u)), some (.int (zI (g))), some (.int (zI (b))), some (.int (zI (p))), some (.int (zI (-((t : Int) + 1)))), some (.int (zI ((-((t : Int) + 1)) % p))), some (.int (zI (0))), none]) d_Md_enter_41 (by decide) rfl ?_
          exact lpi (cs ((-((t : Int) + 1)) % p).toNat).toNat 0 bl la ha h2 (by omega) (by omega) hM2 (by rw [itW, List.append_nil]; exact hB2) hf2
  exact lp1 9 0 M.bl M.la M.ha h (by omega) hM9 (by rw [itL, List.append_nil]; exact hB) (fun _ _ => rfl)
set_option maxHeartbeats 4000000 in
set_option maxRecDepth 100000 in
theorem k_M_enter2 {l : Launch} {G : jl_G} {d n : Nat} {h : Nat → va_E} {Kr : Option Value → Nat → (Nat → va_E) → Prop} {Kx : String → Nat → (Nat → va_E) → Prop} (hl9 : l.stackTraces = false) (hdd : 2 ≤ d) {u : Nat} {M : MS} {m p : Int} {hs cs xs : Nat → Int} {g b : Int} {B : List (Int × Int)} (hM9 : jM h u M) (ok : mOk M) (hR : dRl m p hs cs xs (M.mo (7 : Int).toNat) (M.pe (7 : Int).toNat) (hM M 7) (cM M 7) (xM M 7)) (ok7 : jOk m p hs cs xs) (hi : dIn m p cs) (hm2 : m = 2) (hg : 0 ≤ g ∧ g ≤ 8) (hb9 : 0 ≤ b ∧ b ≤ 1) (hB : mBl M B) (hL9 : (B ++ itL m p hs cs xs g b 9).length ≤ 27) (hk : ∀ (h' : Nat → va_E) (bl : Int) (la ha : Nat → Int), jM h' u (((M.wbl (bl)).wla (la)).wha (ha)) → mBl (((M.wbl (bl)).wla (la)).wha (ha)) (B ++ itL m p hs cs xs g b 9) → jfr h h' u (u + 14) → Kr none n h') : jl_Call l G m_Md_enter d [.ref (u), .int (zI (g)), .int (zI (b))] n h 0 0 Kr Kx := by
  refine jl_enter hl9 (by decide) rfl (by simp [Value.category]) (Nat.le_of_ble_eq_true rfl) ?_
  show jl_AW l G (jl_F G Kr Kx) m_Md_enter d 0 [some (.ref (u)), some (.int (zI (g))), some (.int (zI (b))), none, none, none, none, none] [] n h 0 0
  subst hm2
  have em : M.mo (7 : Int).toNat = 2 := hR.1
  have ep : M.pe (7 : Int).toNat = p := hR.2.1
  have hp := ok7.2.1
  have hm9 := ok7.1
  have hmod : ∀ x : Int, 0 ≤ x % p ∧ x % p < p := fun x => ⟨Int.emod_nonneg _ (by omega), Int.emod_lt_of_pos _ (by omega)⟩
  have hp2 := (ok7.2.2.2.2.2 rfl).1
  obtain ⟨q0, q1, q2, q3, q4, q5, q6, q7, q8, q9, q10, q11, q12, q13⟩ := id (hM9)
  have p0 : h u = jO 6 [.int (zI (M.T)), .ref (u + 1), .ref (u + 2), .ref (u + 3), .ref (u + 4), .ref (u + 5), .int (zI (M.jn)), .int (zI (M.ja)), .int (zI (M.jb)), .ref (u + 6), .ref (u + 7), .int (zI (M.nw)), .int (zI (M.bl)), .int (zI (M.lt)), .int (zI (M.rt)), .ref (u + 8), .ref (u + 9), .ref (u + 10), .ref (u + 11), .ref (u + 12), .ref (u + 13)] := q0
  have p1 : h (u + 1) = jI 8 (fun j9 => zI (M.mo j9)) := q1
  have p2 : h (u + 2) = jI 8 (fun j9 => zI (M.pe j9)) := q2
  have p3 : h (u + 3) = jI 128 (fun j9 => zI (M.co j9)) := q3
  have p4 : h (u + 4) = jI 384 (fun j9 => zI (M.he j9)) := q4
  have p5 : h (u + 5) = jZ 128 (fun j9 => zI (M.cr j9)) := q5
  have p6 : h (u + 6) = jI 16 (fun j9 => zI (M.wy j9)) := q6
  have p7 : h (u + 7) = jI 512 (fun j9 => zI (M.fa j9)) := q7
  have p8 : h (u + 8) = jI 32 (fun j9 => zI (M.la j9)) := q8
  have p9 : h (u + 9) = jI 32 (fun j9 => zI (M.ha j9)) := q9
  have p10 : h (u + 10) = jI 4096 (fun j9 => zI (M.w1 j9)) := q10
  have p11 : h (u + 11) = jI 4096 (fun j9 => zI (M.mr j9)) := q11
  have p12 : h (u + 12) = jI 6 (fun j9 => zI (M.rw j9)) := q12
  have p13 : h (u + 13) = jI 16 (fun j9 => zI (M.tu j9)) := q13
  refine jl_aload_n d_Md_enter_0 rfl rfl ?_
  refine jg_6 (q := 2) d_Md_enter_1 p0 rfl (by decide) fw_Md_13 ?_
  refine jl_bipush (v := zI (7)) d_Md_enter_4 (by decide) ?_
  refine jz_iald d_Md_enter_6 p2 (by omega) (by omega) (by omega) ?_
  rw [ep]
  refine jl_istore_n (L' := [some (.ref (u)), some (.int (zI (g))), some (.int (zI (b))), some (.int (zI (p))), none, none, none, none]) d_Md_enter_7 rfl (by decide) rfl ?_
  refine jl_iconst (v := zI (-1)) d_Md_enter_8 (by decide) ?_
  refine jl_istore (L' := [some (.ref (u)), some (.int (zI (g))), some (.int (zI (b))), some (.int (zI (p))), some (.int (zI (-1))), none, none, none]) d_Md_enter_9 (by decide) rfl ?_
  have lp1 : ∀ (k : Nat) (t : Nat) (bl : Int) (la ha : Nat → Int) (h2 : Nat → va_E), t + k = 9 → jM h2 u (((M.wbl (bl)).wla (la)).wha (ha)) → mBl (((M.wbl (bl)).wla (la)).wha (ha)) (B ++ itL 2 p hs cs xs g b t) → jfr h h2 u (u + 14) → jl_AW l G (jl_F G Kr Kx) m_Md_enter d 11 [some (.ref (u)), some (.int (zI (g))), some (.int (zI (b))), some (.int (zI (p))), some (.int (zI (-((t : Int) + 1)))), none, none, none] [] n h2 0 0 := by
    intro k
    induction k using Nat.strongRecOn with
    | ind k ih =>
      intro t bl la ha h2 hkt hM2 hB2 hf2
      obtain ⟨q0z, q1z, q2z, q3z, q4z, q5z, q6z, q7z, q8z, q9z, q10z, q11z, q12z, q13z⟩ := id (hM2)
      have p0z : h2 u = jO 6 [.int (zI (M.T)), .ref (u + 1), .ref (u + 2), .ref (u + 3), .ref (u + 4), .ref (u + 5), .int (zI (M.jn)), .int (zI (M.ja)), .int (zI (M.jb)), .ref (u + 6), .ref (u + 7), .int (zI (M.nw)), .int (zI (bl)), .int (zI (M.lt)), .int (zI (M.rt)), .ref (u + 8), .ref (u + 9), .ref (u + 10), .ref (u + 11), .ref (u + 12), .ref (u + 13)] := q0z
      have p1z : h2 (u + 1) = jI 8 (fun j9 => zI (M.mo j9)) := q1z
      have p2z : h2 (u + 2) = jI 8 (fun j9 => zI (M.pe j9)) := q2z
      have p3z : h2 (u + 3) = jI 128 (fun j9 => zI (M.co j9)) := q3z
      have p4z : h2 (u + 4) = jI 384 (fun j9 => zI (M.he j9)) := q4z
      have p5z : h2 (u + 5) = jZ 128 (fun j9 => zI (M.cr j9)) := q5z
      have p6z : h2 (u + 6) = jI 16 (fun j9 => zI (M.wy j9)) := q6z
      have p7z : h2 (u + 7) = jI 512 (fun j9 => zI (M.fa j9)) := q7z
      have p8z : h2 (u + 8) = jI 32 (fun j9 => zI (la j9)) := q8z
      have p9z : h2 (u + 9) = jI 32 (fun j9 => zI (ha j9)) := q9z
      have p10z : h2 (u + 10) = jI 4096 (fun j9 => zI (M.w1 j9)) := q10z
      have p11z : h2 (u + 11) = jI 4096 (fun j9 => zI (M.mr j9)) := q11z
      have p12z : h2 (u + 12) = jI 6 (fun j9 => zI (M.rw j9)) := q12z
      have p13z : h2 (u + 13) = jI 16 (fun j9 => zI (M.tu j9)) := q13z
      refine jl_iload d_Md_enter_11 rfl ?_
      refine jl_bipush (v := zI (-9)) d_Md_enter_13 (by decide) ?_
      refine jz_icmp_lt (tgt := 185) d_Md_enter_15 (by decide) ⟨by omega, by omega⟩ ⟨by omega, by omega⟩ (fun hc => ?_) (fun hc => ?_)
      · have et : t = 9 := by omega
        subst et
        exact jl_vret d_Md_enter_185 rfl (hk h2 bl la ha hM2 hB2 hf2)
      · have hsm := hmod (-((t : Int) + 1))
        refine jl_iload d_Md_enter_18 rfl ?_
        refine jl_bipush (v := zI (16)) d_Md_enter_20 (by decide) ?_
        refine jl_iload_n d_Md_enter_22 rfl rfl ?_
        refine jz_imul (v := 16 * p) d_Md_enter_23 (by omega) ?_
        refine jz_iadd (v := -((t : Int) + 1) + 16 * p) d_Md_enter_24 (by omega) ?_
        refine jl_iload_n d_Md_enter_25 rfl rfl ?_
        refine jz_irem (v := (-((t : Int) + 1)) % p) d_Md_enter_26 ⟨by omega, by omega⟩ ⟨by omega, by omega⟩ (by omega) (by rw [Int.tmod_eq_emod_of_nonneg (by omega)]; exact Int.add_mul_emod_self_right _ _ _) ?_
        refine jl_istore (L' := [some (.ref (u)), some (.int (zI (g))), some (.int (zI (b))), some (.int (zI (p))), some (.int (zI (-((t : Int) + 1)))), some (.int (zI ((-((t : Int) + 1)) % p))), none, none]) d_Md_enter_27 (by decide) rfl ?_
        refine jl_aload_n d_Md_enter_29 rfl rfl ?_
        refine jg_6 (q := 1) d_Md_enter_30 p0z rfl (by decide) fw_Md_7 ?_
        refine jl_bipush (v := zI (7)) d_Md_enter_33 (by decide) ?_
        refine jz_iald d_Md_enter_35 p1z (by omega) (by omega) (by omega) ?_
        rw [em]
        refine jl_iconst (v := zI (2)) d_Md_enter_36 (by decide) ?_
        refine jz_icmp_ge (tgt := 105) d_Md_enter_37 (by decide) ⟨by omega, by omega⟩ ⟨by omega, by omega⟩ (fun q1 => ?_) (fun q1 => ?_)
        · refine jl_iload d_Md_enter_105 rfl ?_
          refine jl_iconst (v := zI (2)) d_Md_enter_107 (by decide) ?_
          refine jz_irem (v := -(((t : Int) + 1) % 2)) d_Md_enter_108 ⟨by omega, by omega⟩ ⟨by decide, by decide⟩ (by decide) (by rw [Int.neg_tmod, Int.tmod_eq_emod_of_nonneg (by omega)]) ?_
          refine jz_if_ne (tgt := 179) d_Md_enter_109 (by decide) ⟨by omega, by omega⟩ (fun q2 => ?_) (fun q2 => ?_)
          · refine jz_iinc (v := -(((t + 1 : Nat) : Int) + 1)) (L' := [some (.ref (u)), some (.int (zI (g))), some (.int (zI (b))), some (.int (zI (p))), some (.int (zI (-(((t + 1 : Nat) : Int) + 1)))), some (.int (zI ((-((t : Int) + 1)) % p))), none, none]) d_Md_enter_179 rfl (by omega) (by decide) rfl ?_
            refine jl_goto (tgt := 11) d_Md_enter_182 (by decide) ?_
            refine jl_less (L' := [some (.ref (u)), some (.int (zI (g))), some (.int (zI (b))), some (.int (zI (p))), some (.int (zI (-(((t + 1 : Nat) : Int) + 1)))), none, none, none]) ⟨rfl, rfl, rfl, rfl, rfl, trivial⟩ ?_
            exact ih (k - 1) (by omega) (t + 1) bl la ha h2 (by omega) hM2 (by rw [itL_2o (by omega)]; exact hB2) hf2
          · have hse : ((-((t : Int) + 1)) % p) % 2 = 0 := by rw [Int.emod_emod_of_dvd _ (Int.dvd_of_emod_eq_zero hp2)]; omega
            have hmono := itL_mono (m := 2) (p := p) (hs := hs) (cs := cs) (xs := xs) (g := g) (k := b) (a := t + 1) (9 - (t + 1))
            rw [show t + 1 + (9 - (t + 1)) = 9 by omega, itL_2 ok7 hi (by omega), List.length_append, List.length_append] at hmono
            rw [List.length_append] at hL9
            have hlB := hB2.2.1
            rw [List.length_append] at hlB
            refine jl_iconst (v := zI (0)) d_Md_enter_112 (by decide) ?_
            refine jl_istore (L' := [some (.ref (u)), some (.int (zI (g))), some (.int (zI (b))), some (.int (zI (p))), some (.int (zI (-((t : Int) + 1)))), some (.int (zI ((-((t : Int) + 1)) % p))), some (.int (zI (0))), none]) d_Md_enter_113 (by decide) rfl ?_
            obtain ⟨hr1a, hr2a, hr3a⟩ := dRl_s hR (s := (-((t : Int) + 1)) % p + 0) (by omega) (by omega)
            have hcsa := (hi ((-((t : Int) + 1)) % p + 0).toNat (by omega)).2.2 (by decide)
            have hxa : hM M 7 (((-((t : Int) + 1)) % p + 0) * 3).toNat = hs (((-((t : Int) + 1)) % p + 0) * 3).toNat := by have := hr3a 0 (by omega); rwa [show ((-((t : Int) + 1)) % p + 0) * 3 + ((0 : Nat) : Int) = ((-((t : Int) + 1)) % p + 0) * 3 by omega] at this
            have hha := ok7.2.2.1 (((-((t : Int) + 1)) % p + 0) * 3).toNat
            have htga : sp_tgt (M.mo (7 : Int).toNat) (M.pe (7 : Int).toNat) (xM M 7) ((-((t : Int) + 1)) % p + 0) (hM M 7 (((-((t : Int) + 1)) % p + 0) * 3).toNat) = sp_tgt 2 p xs ((-((t : Int) + 1)) % p + 0) (hs (((-((t : Int) + 1)) % p + 0) * 3).toNat) := by rw [em, ep, hxa]; unfold sp_tgt sp_land; rw [hr2a]
            have hrga := sp_tgt_rg ok7 (s := (-((t : Int) + 1)) % p + 0) (k := hs (((-((t : Int) + 1)) % p + 0) * 3).toNat) (fun _ => by have := (ok7.2.2.2.2.2 rfl).2 ((-((t : Int) + 1)) % p + 0).toNat; rwa [show 3 * ((-((t : Int) + 1)) % p + 0).toNat = (((-((t : Int) + 1)) % p + 0) * 3).toNat by omega] at this)
            refine jl_iload d_Md_enter_115 rfl ?_
            refine jl_iconst (v := zI (2)) d_Md_enter_117 (by decide) ?_
            refine jz_icmp_ge (tgt := 179) d_Md_enter_118 (by decide) ⟨by omega, by omega⟩ ⟨by omega, by omega⟩ (fun qs0 => ?_) (fun qs0 => ?_)
            · exact absurd qs0 (by decide)
            · refine jl_aload_n d_Md_enter_121 rfl rfl ?_
              refine jl_bipush (v := zI (7)) d_Md_enter_122 (by decide) ?_
              refine jl_iload d_Md_enter_124 rfl ?_
              refine jl_iload d_Md_enter_126 rfl ?_
              refine jz_iadd (v := (-((t : Int) + 1)) % p + 0) d_Md_enter_128 (by omega) ?_
              refine jl_iconst (v := zI (0)) d_Md_enter_129 (by decide) ?_
              refine jl_invV (M' := m_Md_tall) (d' := d - 1) (ck' := 0) (sk' := 0) (na := 3) (as := [.int (zI (7)), .int (zI ((-((t : Int) + 1)) % p + 0)), .int (zI (0))]) (st := []) d_Md_enter_130 rfl p0z rfl mw_Md_73 ww_Md_tall sw_Md_tall nw_Md cw_Md_tall rfl rfl rfl (by decide +kernel) (by omega) (Nat.le_of_ble_eq_true rfl) (Nat.le_of_ble_eq_true rfl) ?_
              refine k_M_tall0 hl9 (by omega) hM2 ⟨by decide, by decide⟩ ⟨by omega, by omega⟩ ?_
              have e9a : hM (((M.wbl (bl)).wla (la)).wha (ha)) 7 (((-((t : Int) + 1)) % p + 0) * 3).toNat = hs (((-((t : Int) + 1)) % p + 0) * 3).toNat := hxa
              rw [e9a]
              show jl_AW _ _ _ _ _ 133 [some (.ref (u)), some (.int (zI (g))), some (.int (zI (b))), some (.int (zI (p))), some (.int (zI (-((t : Int) + 1)))), some (.int (zI ((-((t : Int) + 1)) % p))), some (.int (zI (0))), none] [.int (zI (hs (((-((t : Int) + 1)) % p + 0) * 3).toNat))] n h2 _ _
              refine jl_istore (L' := [some (.ref (u)), some (.int (zI (g))), some (.int (zI (b))), some (.int (zI (p))), some (.int (zI (-((t : Int) + 1)))), some (.int (zI ((-((t : Int) + 1)) % p))), some (.int (zI (0))), some (.int (zI (hs (((-((t : Int) + 1)) % p + 0) * 3).toNat)))]) d_Md_enter_133 (by decide) rfl ?_
              refine jl_iload d_Md_enter_135 rfl ?_
              refine jz_if_le (tgt := 173) d_Md_enter_137 (by decide) ⟨by omega, by omega⟩ (fun qa0 => ?_) (fun qa0 => ?_)
              · refine jz_iinc (v := 1) (L' := [some (.ref (u)), some (.int (zI (g))), some (.int (zI (b))), some (.int (zI (p))), some (.int (zI (-((t : Int) + 1)))), some (.int (zI ((-((t : Int) + 1)) % p))), some (.int (zI (1))), some (.int (zI (hs (((-((t : Int) + 1)) % p + 0) * 3).toNat)))]) d_Md_enter_173 rfl (by omega) (by decide) rfl ?_
                refine jl_goto (tgt := 115) d_Md_enter_176 (by decide) ?_
                refine jl_less (L' := [some (.ref (u)), some (.int (zI (g))), some (.int (zI (b))), some (.int (zI (p))), some (.int (zI (-((t : Int) + 1)))), some (.int (zI ((-((t : Int) + 1)) % p))), some (.int (zI (1))), none]) ⟨rfl, rfl, rfl, rfl, rfl, rfl, rfl, trivial⟩ ?_
                have hB3 : mBl (((M.wbl (bl)).wla (la)).wha (ha)) (B ++ itL 2 p hs cs xs g b t ++ it2 p hs xs g b ((t : Int) + 1) ((-((t : Int) + 1)) % p + 0)) := (by rw [show it2 p hs xs g b ((t : Int) + 1) ((-((t : Int) + 1)) % p + 0) = [] from if_neg (fun q9 => by have := q9.1; omega), List.append_nil]; exact hB2)
                have hM3 : jM h2 u (((M.wbl (bl)).wla (la)).wha (ha)) := hM2
                obtain ⟨q0s, q1s, q2s, q3s, q4s, q5s, q6s, q7s, q8s, q9s, q10s, q11s, q12s, q13s⟩ := id (hM3)
                have p0s : h2 u = jO 6 [.int (zI (M.T)), .ref (u + 1), .ref (u + 2), .ref (u + 3), .ref (u + 4), .ref (u + 5), .int (zI (M.jn)), .int (zI (M.ja)), .int (zI (M.jb)), .ref (u + 6), .ref (u + 7), .int (zI (M.nw)), .int (zI (bl)), .int (zI (M.lt)), .int (zI (M.rt)), .ref (u + 8), .ref (u + 9), .ref (u + 10), .ref (u + 11), .ref (u + 12), .ref (u + 13)] := q0s
                have p1s : h2 (u + 1) = jI 8 (fun j9 => zI (M.mo j9)) := q1s
                have p2s : h2 (u + 2) = jI 8 (fun j9 => zI (M.pe j9)) := q2s
                have p3s : h2 (u + 3) = jI 128 (fun j9 => zI (M.co j9)) := q3s
                have p4s : h2 (u + 4) = jI 384 (fun j9 => zI (M.he j9)) := q4s
                have p5s : h2 (u + 5) = jZ 128 (fun j9 => zI (M.cr j9)) := q5s
                have p6s : h2 (u + 6) = jI 16 (fun j9 => zI (M.wy j9)) := q6s
                have p7s : h2 (u + 7) = jI 512 (fun j9 => zI (M.fa j9)) := q7s
                have p8s : h2 (u + 8) = jI 32 (fun j9 => zI (la j9)) := q8s
                have p9s : h2 (u + 9) = jI 32 (fun j9 => zI (ha j9)) := q9s
                have p10s : h2 (u + 10) = jI 4096 (fun j9 => zI (M.w1 j9)) := q10s
                have p11s : h2 (u + 11) = jI 4096 (fun j9 => zI (M.mr j9)) := q11s
                have p12s : h2 (u + 12) = jI 6 (fun j9 => zI (M.rw j9)) := q12s
                have p13s : h2 (u + 13) = jI 16 (fun j9 => zI (M.tu j9)) := q13s
                obtain ⟨hr1b, hr2b, hr3b⟩ := dRl_s hR (s := (-((t : Int) + 1)) % p + 1) (by omega) (by omega)
                have hcsb := (hi ((-((t : Int) + 1)) % p + 1).toNat (by omega)).2.2 (by decide)
                have hxb : hM M 7 (((-((t : Int) + 1)) % p + 1) * 3).toNat = hs (((-((t : Int) + 1)) % p + 1) * 3).toNat := by have := hr3b 0 (by omega); rwa [show ((-((t : Int) + 1)) % p + 1) * 3 + ((0 : Nat) : Int) = ((-((t : Int) + 1)) % p + 1) * 3 by omega] at this
                have hhb := ok7.2.2.1 (((-((t : Int) + 1)) % p + 1) * 3).toNat
                have htgb : sp_tgt (M.mo (7 : Int).toNat) (M.pe (7 : Int).toNat) (xM M 7) ((-((t : Int) + 1)) % p + 1) (hM M 7 (((-((t : Int) + 1)) % p + 1) * 3).toNat) = sp_tgt 2 p xs ((-((t : Int) + 1)) % p + 1) (hs (((-((t : Int) + 1)) % p + 1) * 3).toNat) := by rw [em, ep, hxb]; unfold sp_tgt sp_land; rw [hr2b]
                have hrgb := sp_tgt_rg ok7 (s := (-((t : Int) + 1)) % p + 1) (k := hs (((-((t : Int) + 1)) % p + 1) * 3).toNat) (fun _ => by have := (ok7.2.2.2.2.2 rfl).2 ((-((t : Int) + 1)) % p + 1).toNat; rwa [show 3 * ((-((t : Int) + 1)) % p + 1).toNat = (((-((t : Int) + 1)) % p + 1) * 3).toNat by omega] at this)
                refine jl_iload d_Md_enter_115 rfl ?_
                refine jl_iconst (v := zI (2)) d_Md_enter_117 (by decide) ?_
                refine jz_icmp_ge (tgt := 179) d_Md_enter_118 (by decide) ⟨by omega, by omega⟩ ⟨by omega, by omega⟩ (fun qs1 => ?_) (fun qs1 => ?_)
                · exact absurd qs1 (by decide)
                · refine jl_aload_n d_Md_enter_121 rfl rfl ?_
                  refine jl_bipush (v := zI (7)) d_Md_enter_122 (by decide) ?_
                  refine jl_iload d_Md_enter_124 rfl ?_
                  refine jl_iload d_Md_enter_126 rfl ?_
                  refine jz_iadd (v := (-((t : Int) + 1)) % p + 1) d_Md_enter_128 (by omega) ?_
                  refine jl_iconst (v := zI (0)) d_Md_enter_129 (by decide) ?_
                  refine jl_invV (M' := m_Md_tall) (d' := d - 1) (ck' := 0) (sk' := 0) (na := 3) (as := [.int (zI (7)), .int (zI ((-((t : Int) + 1)) % p + 1)), .int (zI (0))]) (st := []) d_Md_enter_130 rfl p0s rfl mw_Md_73 ww_Md_tall sw_Md_tall nw_Md cw_Md_tall rfl rfl rfl (by decide +kernel) (by omega) (Nat.le_of_ble_eq_true rfl) (Nat.le_of_ble_eq_true rfl) ?_
                  refine k_M_tall0 hl9 (by omega) hM3 ⟨by decide, by decide⟩ ⟨by omega, by omega⟩ ?_
                  have e9b : hM (((M.wbl (bl)).wla (la)).wha (ha)) 7 (((-((t : Int) + 1)) % p + 1) * 3).toNat = hs (((-((t : Int) + 1)) % p + 1) * 3).toNat := hxb
                  rw [e9b]
                  show jl_AW _ _ _ _ _ 133 [some (.ref (u)), some (.int (zI (g))), some (.int (zI (b))), some (.int (zI (p))), some (.int (zI (-((t : Int) + 1)))), some (.int (zI ((-((t : Int) + 1)) % p))), some (.int (zI (1))), none] [.int (zI (hs (((-((t : Int) + 1)) % p + 1) * 3).toNat))] n h2 _ _
                  refine jl_istore (L' := [some (.ref (u)), some (.int (zI (g))), some (.int (zI (b))), some (.int (zI (p))), some (.int (zI (-((t : Int) + 1)))), some (.int (zI ((-((t : Int) + 1)) % p))), some (.int (zI (1))), some (.int (zI (hs (((-((t : Int) + 1)) % p + 1) * 3).toNat)))]) d_Md_enter_133 (by decide) rfl ?_
                  refine jl_iload d_Md_enter_135 rfl ?_
                  refine jz_if_le (tgt := 173) d_Md_enter_137 (by decide) ⟨by omega, by omega⟩ (fun qa1 => ?_) (fun qa1 => ?_)
                  · refine jz_iinc (v := 2) (L' := [some (.ref (u)), some (.int (zI (g))), some (.int (zI (b))), some (.int (zI (p))), some (.int (zI (-((t : Int) + 1)))), some (.int (zI ((-((t : Int) + 1)) % p))), some (.int (zI (2))), some (.int (zI (hs (((-((t : Int) + 1)) % p + 1) * 3).toNat)))]) d_Md_enter_173 rfl (by omega) (by decide) rfl ?_
                    refine jl_goto (tgt := 115) d_Md_enter_176 (by decide) ?_
                    have hB4 : mBl (((M.wbl (bl)).wla (la)).wha (ha)) (B ++ itL 2 p hs cs xs g b t ++ it2 p hs xs g b ((t : Int) + 1) ((-((t : Int) + 1)) % p + 0) ++ it2 p hs xs g b ((t : Int) + 1) ((-((t : Int) + 1)) % p + 1)) := (by rw [show it2 p hs xs g b ((t : Int) + 1) ((-((t : Int) + 1)) % p + 1) = [] from if_neg (fun q9 => by have := q9.1; omega), List.append_nil]; exact hB3)
                    refine jl_iload d_Md_enter_115 rfl ?_
                    refine jl_iconst (v := zI (2)) d_Md_enter_117 (by decide) ?_
                    refine jz_icmp_ge (tgt := 179) d_Md_enter_118 (by decide) ⟨by omega, by omega⟩ ⟨by omega, by omega⟩ (fun qe => ?_) (fun qe => ?_)
                    · refine jz_iinc (v := -(((t + 1 : Nat) : Int) + 1)) (L' := [some (.ref (u)), some (.int (zI (g))), some (.int (zI (b))), some (.int (zI (p))), some (.int (zI (-(((t + 1 : Nat) : Int) + 1)))), some (.int (zI ((-((t : Int) + 1)) % p))), some (.int (zI (2))), some (.int (zI (hs (((-((t : Int) + 1)) % p + 1) * 3).toNat)))]) d_Md_enter_179 rfl (by omega) (by decide) rfl ?_
                      refine jl_goto (tgt := 11) d_Md_enter_182 (by decide) ?_
                      refine jl_less (L' := [some (.ref (u)), some (.int (zI (g))), some (.int (zI (b))), some (.int (zI (p))), some (.int (zI (-(((t + 1 : Nat) : Int) + 1)))), none, none, none]) ⟨rfl, rfl, rfl, rfl, rfl, trivial⟩ ?_
                      exact ih (k - 1) (by omega) (t + 1) bl la ha h2 (by omega) hM3 (by rw [itL_2 ok7 hi (by omega), ← List.append_assoc, ← List.append_assoc]; exact hB4) hf2
                    · exact absurd (by decide) qe
                  · refine jl_iload d_Md_enter_140 rfl ?_
                    refine jl_iload d_Md_enter_142 rfl ?_
                    refine jz_iadd (v := -((t : Int) + 1) + hs (((-((t : Int) + 1)) % p + 1) * 3).toNat) d_Md_enter_144 (by omega) ?_
                    refine jl_iload_n d_Md_enter_145 rfl rfl ?_
                    refine jz_icmp_ne (tgt := 173) d_Md_enter_146 (by decide) ⟨by omega, by omega⟩ ⟨by omega, by omega⟩ (fun qb1 => ?_) (fun qb1 => ?_)
                    · refine jz_iinc (v := 2) (L' := [some (.ref (u)), some (.int (zI (g))), some (.int (zI (b))), some (.int (zI (p))), some (.int (zI (-((t : Int) + 1)))), some (.int (zI ((-((t : Int) + 1)) % p))), some (.int (zI (2))), some (.int (zI (hs (((-((t : Int) + 1)) % p + 1) * 3).toNat)))]) d_Md_enter_173 rfl (by omega) (by decide) rfl ?_
                      refine jl_goto (tgt := 115) d_Md_enter_176 (by decide) ?_
                      have hB4 : mBl (((M.wbl (bl)).wla (la)).wha (ha)) (B ++ itL 2 p hs cs xs g b t ++ it2 p hs xs g b ((t : Int) + 1) ((-((t : Int) + 1)) % p + 0) ++ it2 p hs xs g b ((t : Int) + 1) ((-((t : Int) + 1)) % p + 1)) := (by rw [show it2 p hs xs g b ((t : Int) + 1) ((-((t : Int) + 1)) % p + 1) = [] from if_neg (fun q9 => by have := q9.1; omega), List.append_nil]; exact hB3)
                      refine jl_iload d_Md_enter_115 rfl ?_
                      refine jl_iconst (v := zI (2)) d_Md_enter_117 (by decide) ?_
                      refine jz_icmp_ge (tgt := 179) d_Md_enter_118 (by decide) ⟨by omega, by omega⟩ ⟨by omega, by omega⟩ (fun qe => ?_) (fun qe => ?_)
                      · refine jz_iinc (v := -(((t + 1 : Nat) : Int) + 1)) (L' := [some (.ref (u)), some (.int (zI (g))), some (.int (zI (b))), some (.int (zI (p))), some (.int (zI (-(((t + 1 : Nat) : Int) + 1)))), some (.int (zI ((-((t : Int) + 1)) % p))), some (.int (zI (2))), some (.int (zI (hs (((-((t : Int) + 1)) % p + 1) * 3).toNat)))]) d_Md_enter_179 rfl (by omega) (by decide) rfl ?_
                        refine jl_goto (tgt := 11) d_Md_enter_182 (by decide) ?_
                        refine jl_less (L' := [some (.ref (u)), some (.int (zI (g))), some (.int (zI (b))), some (.int (zI (p))), some (.int (zI (-(((t + 1 : Nat) : Int) + 1)))), none, none, none]) ⟨rfl, rfl, rfl, rfl, rfl, trivial⟩ ?_
                        exact ih (k - 1) (by omega) (t + 1) bl la ha h2 (by omega) hM3 (by rw [itL_2 ok7 hi (by omega), ← List.append_assoc, ← List.append_assoc]; exact hB4) hf2
                      · exact absurd (by decide) qe
                    · refine jl_aload_n d_Md_enter_149 rfl rfl ?_
                      refine jl_bipush (v := zI (7)) d_Md_enter_150 (by decide) ?_
                      refine jl_iload d_Md_enter_152 rfl ?_
                      refine jl_iload d_Md_enter_154 rfl ?_
                      refine jz_iadd (v := (-((t : Int) + 1)) % p + 1) d_Md_enter_156 (by omega) ?_
                      refine jl_iconst (v := zI (0)) d_Md_enter_157 (by decide) ?_
                      refine jl_invV (M' := m_Md_target) (d' := d - 1) (ck' := 0) (sk' := 0) (na := 3) (as := [.int (zI (7)), .int (zI ((-((t : Int) + 1)) % p + 1)), .int (zI (0))]) (st := []) d_Md_enter_158 rfl p0s rfl mw_Md_77 ww_Md_target sw_Md_target nw_Md cw_Md_target rfl rfl rfl (by decide +kernel) (by omega) (Nat.le_of_ble_eq_true rfl) (Nat.le_of_ble_eq_true rfl) ?_
                      refine k_M_target0 hl9 (by omega) hM3 ok (show 1 ≤ M.pe (7 : Int).toNat by omega) ⟨by decide, by decide⟩ ⟨by omega, by omega⟩ ?_
                      have e8b : sp_tgt (M.mo (7 : Int).toNat) (M.pe (7 : Int).toNat) (xM (((M.wbl (bl)).wla (la)).wha (ha)) 7) ((-((t : Int) + 1)) % p + 1) (hM (((M.wbl (bl)).wla (la)).wha (ha)) 7 (((-((t : Int) + 1)) % p + 1) * 3).toNat) = sp_tgt 2 p xs ((-((t : Int) + 1)) % p + 1) (hs (((-((t : Int) + 1)) % p + 1) * 3).toNat) := htgb
                      show jl_AW _ _ _ _ _ 161 [some (.ref (u)), some (.int (zI (g))), some (.int (zI (b))), some (.int (zI (p))), some (.int (zI (-((t : Int) + 1)))), some (.int (zI ((-((t : Int) + 1)) % p))), some (.int (zI (1))), some (.int (zI (hs (((-((t : Int) + 1)) % p + 1) * 3).toNat)))] [.int (zI (sp_tgt (M.mo (7 : Int).toNat) (M.pe (7 : Int).toNat) (xM (((M.wbl (bl)).wla (la)).wha (ha)) 7) ((-((t : Int) + 1)) % p + 1) (hM (((M.wbl (bl)).wla (la)).wha (ha)) 7 (((-((t : Int) + 1)) % p + 1) * 3).toNat)))] n h2 _ _
                      rw [e8b]
                      refine jl_iconst (v := zI (2)) d_Md_enter_161 (by decide) ?_
                      refine jz_irem (v := sp_tgt 2 p xs ((-((t : Int) + 1)) % p + 1) (hs (((-((t : Int) + 1)) % p + 1) * 3).toNat) % 2) d_Md_enter_162 ⟨by omega, by omega⟩ ⟨by decide, by decide⟩ (by decide) (Int.tmod_eq_emod_of_nonneg (by omega)) ?_
                      refine jl_iload_n d_Md_enter_163 rfl rfl ?_
                      refine jz_icmp_ne (tgt := 173) d_Md_enter_164 (by decide) ⟨by omega, by omega⟩ ⟨by omega, by omega⟩ (fun qc1 => ?_) (fun qc1 => ?_)
                      · refine jz_iinc (v := 2) (L' := [some (.ref (u)), some (.int (zI (g))), some (.int (zI (b))), some (.int (zI (p))), some (.int (zI (-((t : Int) + 1)))), some (.int (zI ((-((t : Int) + 1)) % p))), some (.int (zI (2))), some (.int (zI (hs (((-((t : Int) + 1)) % p + 1) * 3).toNat)))]) d_Md_enter_173 rfl (by omega) (by decide) rfl ?_
                        refine jl_goto (tgt := 115) d_Md_enter_176 (by decide) ?_
                        have hB4 : mBl (((M.wbl (bl)).wla (la)).wha (ha)) (B ++ itL 2 p hs cs xs g b t ++ it2 p hs xs g b ((t : Int) + 1) ((-((t : Int) + 1)) % p + 0) ++ it2 p hs xs g b ((t : Int) + 1) ((-((t : Int) + 1)) % p + 1)) := (by rw [show it2 p hs xs g b ((t : Int) + 1) ((-((t : Int) + 1)) % p + 1) = [] from if_neg (fun q9 => qc1 q9.2), List.append_nil]; exact hB3)
                        refine jl_iload d_Md_enter_115 rfl ?_
                        refine jl_iconst (v := zI (2)) d_Md_enter_117 (by decide) ?_
                        refine jz_icmp_ge (tgt := 179) d_Md_enter_118 (by decide) ⟨by omega, by omega⟩ ⟨by omega, by omega⟩ (fun qe => ?_) (fun qe => ?_)
                        · refine jz_iinc (v := -(((t + 1 : Nat) : Int) + 1)) (L' := [some (.ref (u)), some (.int (zI (g))), some (.int (zI (b))), some (.int (zI (p))), some (.int (zI (-(((t + 1 : Nat) : Int) + 1)))), some (.int (zI ((-((t : Int) + 1)) % p))), some (.int (zI (2))), some (.int (zI (hs (((-((t : Int) + 1)) % p + 1) * 3).toNat)))]) d_Md_enter_179 rfl (by omega) (by decide) rfl ?_
                          refine jl_goto (tgt := 11) d_Md_enter_182 (by decide) ?_
                          refine jl_less (L' := [some (.ref (u)), some (.int (zI (g))), some (.int (zI (b))), some (.int (zI (p))), some (.int (zI (-(((t + 1 : Nat) : Int) + 1)))), none, none, none]) ⟨rfl, rfl, rfl, rfl, rfl, trivial⟩ ?_
                          exact ih (k - 1) (by omega) (t + 1) bl la ha h2 (by omega) hM3 (by rw [itL_2 ok7 hi (by omega), ← List.append_assoc, ← List.append_assoc]; exact hB4) hf2
                        · exact absurd (by decide) qe
                      · have eib : it2 p hs xs g b ((t : Int) + 1) ((-((t : Int) + 1)) % p + 1) = [(g, b)] := by rw [it2, if_pos ⟨by omega, qc1⟩]
                        have hlnb : (it2 p hs xs g b ((t : Int) + 1) ((-((t : Int) + 1)) % p + 1)).length = 1 := by rw [eib]; rfl
                        have hl27b : (B ++ itL 2 p hs cs xs g b t ++ it2 p hs xs g b ((t : Int) + 1) ((-((t : Int) + 1)) % p + 0)).length < 27 := by simp only [List.length_append] at hmono hlB ⊢; omega
                        refine jl_aload_n d_Md_enter_167 rfl rfl ?_
                        refine jl_iload_n d_Md_enter_168 rfl rfl ?_
                        refine jl_iload_n d_Md_enter_169 rfl rfl ?_
                        refine jl_invV (M' := m_Md_comes) (d' := d - 1) (ck' := 0) (sk' := 0) (na := 2) (as := [.int (zI (g)), .int (zI (b))]) (st := []) d_Md_enter_170 rfl p0s rfl mw_Md_123 ww_Md_comes sw_Md_comes nw_Md cw_Md_comes rfl rfl rfl (by decide +kernel) (by omega) (Nat.le_of_ble_eq_true rfl) (Nat.le_of_ble_eq_true rfl) ?_
                        refine k_M_comes hl9 (by omega) hM3 hB3 hl27b (fun h6 bl1 la1 ha1 hMn1 hBn1 hfn1 => ?_)
                        show jl_AW _ _ _ _ _ 173 [some (.ref (u)), some (.int (zI (g))), some (.int (zI (b))), some (.int (zI (p))), some (.int (zI (-((t : Int) + 1)))), some (.int (zI ((-((t : Int) + 1)) % p))), some (.int (zI (1))), some (.int (zI (hs (((-((t : Int) + 1)) % p + 1) * 3).toNat)))] [] n h6 _ _
                        refine jz_iinc (v := 2) (L' := [some (.ref (u)), some (.int (zI (g))), some (.int (zI (b))), some (.int (zI (p))), some (.int (zI (-((t : Int) + 1)))), some (.int (zI ((-((t : Int) + 1)) % p))), some (.int (zI (2))), some (.int (zI (hs (((-((t : Int) + 1)) % p + 1) * 3).toNat)))]) d_Md_enter_173 rfl (by omega) (by decide) rfl ?_
                        refine jl_goto (tgt := 115) d_Md_enter_176 (by decide) ?_
                        have hB4 : mBl (((M.wbl (bl1)).wla (la1)).wha (ha1)) (B ++ itL 2 p hs cs xs g b t ++ it2 p hs xs g b ((t : Int) + 1) ((-((t : Int) + 1)) % p + 0) ++ it2 p hs xs g b ((t : Int) + 1) ((-((t : Int) + 1)) % p + 1)) := (by rw [eib]; exact hBn1)
                        refine jl_iload d_Md_enter_115 rfl ?_
                        refine jl_iconst (v := zI (2)) d_Md_enter_117 (by decide) ?_
                        refine jz_icmp_ge (tgt := 179) d_Md_enter_118 (by decide) ⟨by omega, by omega⟩ ⟨by omega, by omega⟩ (fun qe => ?_) (fun qe => ?_)
                        · refine jz_iinc (v := -(((t + 1 : Nat) : Int) + 1)) (L' := [some (.ref (u)), some (.int (zI (g))), some (.int (zI (b))), some (.int (zI (p))), some (.int (zI (-(((t + 1 : Nat) : Int) + 1)))), some (.int (zI ((-((t : Int) + 1)) % p))), some (.int (zI (2))), some (.int (zI (hs (((-((t : Int) + 1)) % p + 1) * 3).toNat)))]) d_Md_enter_179 rfl (by omega) (by decide) rfl ?_
                          refine jl_goto (tgt := 11) d_Md_enter_182 (by decide) ?_
                          refine jl_less (L' := [some (.ref (u)), some (.int (zI (g))), some (.int (zI (b))), some (.int (zI (p))), some (.int (zI (-(((t + 1 : Nat) : Int) + 1)))), none, none, none]) ⟨rfl, rfl, rfl, rfl, rfl, trivial⟩ ?_
                          exact ih (k - 1) (by omega) (t + 1) bl1 la1 ha1 h6 (by omega) hMn1 (by rw [itL_2 ok7 hi (by omega), ← List.append_assoc, ← List.append_assoc]; exact hB4) (jfr_tr hf2 hfn1)
                        · exact absurd (by decide) qe
              · refine jl_iload d_Md_enter_140 rfl ?_
                refine jl_iload d_Md_enter_142 rfl ?_
                refine jz_iadd (v := -((t : Int) + 1) + hs (((-((t : Int) + 1)) % p + 0) * 3).toNat) d_Md_enter_144 (by omega) ?_
                refine jl_iload_n d_Md_enter_145 rfl rfl ?_
                refine jz_icmp_ne (tgt := 173) d_Md_enter_146 (by decide) ⟨by omega, by omega⟩ ⟨by omega, by omega⟩ (fun qb0 => ?_) (fun qb0 => ?_)
                · refine jz_iinc (v := 1) (L' := [some (.ref (u)), some (.int (zI (g))), some (.int (zI (b))), some (.int (zI (p))), some (.int (zI (-((t : Int) + 1)))), some (.int (zI ((-((t : Int) + 1)) % p))), some (.int (zI (1))), some (.int (zI (hs (((-((t : Int) + 1)) % p + 0) * 3).toNat)))]) d_Md_enter_173 rfl (by omega) (by decide) rfl ?_
                  refine jl_goto (tgt := 115) d_Md_enter_176 (by decide) ?_
                  refine jl_less (L' := [some (.ref (u)), some (.int (zI (g))), some (.int (zI (b))), some (.int (zI (p))), some (.int (zI (-((t : Int) + 1)))), some (.int (zI ((-((t : Int) + 1)) % p))), some (.int (zI (1))), none]) ⟨rfl, rfl, rfl, rfl, rfl, rfl, rfl, trivial⟩ ?_
                  have hB3 : mBl (((M.wbl (bl)).wla (la)).wha (ha)) (B ++ itL 2 p hs cs xs g b t ++ it2 p hs xs g b ((t : Int) + 1) ((-((t : Int) + 1)) % p + 0)) := (by rw [show it2 p hs xs g b ((t : Int) + 1) ((-((t : Int) + 1)) % p + 0) = [] from if_neg (fun q9 => by have := q9.1; omega), List.append_nil]; exact hB2)
                  have hM3 : jM h2 u (((M.wbl (bl)).wla (la)).wha (ha)) := hM2
                  obtain ⟨q0s, q1s, q2s, q3s, q4s, q5s, q6s, q7s, q8s, q9s, q10s, q11s, q12s, q13s⟩ := id (hM3)
                  have p0s : h2 u = jO 6 [.int (zI (M.T)), .ref (u + 1), .ref (u + 2), .ref (u + 3), .ref (u + 4), .ref (u + 5), .int (zI (M.jn)), .int (zI (M.ja)), .int (zI (M.jb)), .ref (u + 6), .ref (u + 7), .int (zI (M.nw)), .int (zI (bl)), .int (zI (M.lt)), .int (zI (M.rt)), .ref (u + 8), .ref (u + 9), .ref (u + 10), .ref (u + 11), .ref (u + 12), .ref (u + 13)] := q0s
                  have p1s : h2 (u + 1) = jI 8 (fun j9 => zI (M.mo j9)) := q1s
                  have p2s : h2 (u + 2) = jI 8 (fun j9 => zI (M.pe j9)) := q2s
                  have p3s : h2 (u + 3) = jI 128 (fun j9 => zI (M.co j9)) := q3s
                  have p4s : h2 (u + 4) = jI 384 (fun j9 => zI (M.he j9)) := q4s
                  have p5s : h2 (u + 5) = jZ 128 (fun j9 => zI (M.cr j9)) := q5s
                  have p6s : h2 (u + 6) = jI 16 (fun j9 => zI (M.wy j9)) := q6s
                  have p7s : h2 (u + 7) = jI 512 (fun j9 => zI (M.fa j9)) := q7s
                  have p8s : h2 (u + 8) = jI 32 (fun j9 => zI (la j9)) := q8s
                  have p9s : h2 (u + 9) = jI 32 (fun j9 => zI (ha j9)) := q9s
                  have p10s : h2 (u + 10) = jI 4096 (fun j9 => zI (M.w1 j9)) := q10s
                  have p11s : h2 (u + 11) = jI 4096 (fun j9 => zI (M.mr j9)) := q11s
                  have p12s : h2 (u + 12) = jI 6 (fun j9 => zI (M.rw j9)) := q12s
                  have p13s : h2 (u + 13) = jI 16 (fun j9 => zI (M.tu j9)) := q13s
                  obtain ⟨hr1b, hr2b, hr3b⟩ := dRl_s hR (s := (-((t : Int) + 1)) % p + 1) (by omega) (by omega)
                  have hcsb := (hi ((-((t : Int) + 1)) % p + 1).toNat (by omega)).2.2 (by decide)
                  have hxb : hM M 7 (((-((t : Int) + 1)) % p + 1) * 3).toNat = hs (((-((t : Int) + 1)) % p + 1) * 3).toNat := by have := hr3b 0 (by omega); rwa [show ((-((t : Int) + 1)) % p + 1) * 3 + ((0 : Nat) : Int) = ((-((t : Int) + 1)) % p + 1) * 3 by omega] at this
                  have hhb := ok7.2.2.1 (((-((t : Int) + 1)) % p + 1) * 3).toNat
                  have htgb : sp_tgt (M.mo (7 : Int).toNat) (M.pe (7 : Int).toNat) (xM M 7) ((-((t : Int) + 1)) % p + 1) (hM M 7 (((-((t : Int) + 1)) % p + 1) * 3).toNat) = sp_tgt 2 p xs ((-((t : Int) + 1)) % p + 1) (hs (((-((t : Int) + 1)) % p + 1) * 3).toNat) := by rw [em, ep, hxb]; unfold sp_tgt sp_land; rw [hr2b]
                  have hrgb := sp_tgt_rg ok7 (s := (-((t : Int) + 1)) % p + 1) (k := hs (((-((t : Int) + 1)) % p + 1) * 3).toNat) (fun _ => by have := (ok7.2.2.2.2.2 rfl).2 ((-((t : Int) + 1)) % p + 1).toNat; rwa [show 3 * ((-((t : Int) + 1)) % p + 1).toNat = (((-((t : Int) + 1)) % p + 1) * 3).toNat by omega] at this)
                  refine jl_iload d_Md_enter_115 rfl ?_
                  refine jl_iconst (v := zI (2)) d_Md_enter_117 (by decide) ?_
                  refine jz_icmp_ge (tgt := 179) d_Md_enter_118 (by decide) ⟨by omega, by omega⟩ ⟨by omega, by omega⟩ (fun qs1 => ?_) (fun qs1 => ?_)
                  · exact absurd qs1 (by decide)
                  · refine jl_aload_n d_Md_enter_121 rfl rfl ?_
                    refine jl_bipush (v := zI (7)) d_Md_enter_122 (by decide) ?_
                    refine jl_iload d_Md_enter_124 rfl ?_
                    refine jl_iload d_Md_enter_126 rfl ?_
                    refine jz_iadd (v := (-((t : Int) + 1)) % p + 1) d_Md_enter_128 (by omega) ?_
                    refine jl_iconst (v := zI (0)) d_Md_enter_129 (by decide) ?_
                    refine jl_invV (M' := m_Md_tall) (d' := d - 1) (ck' := 0) (sk' := 0) (na := 3) (as := [.int (zI (7)), .int (zI ((-((t : Int) + 1)) % p + 1)), .int (zI (0))]) (st := []) d_Md_enter_130 rfl p0s rfl mw_Md_73 ww_Md_tall sw_Md_tall nw_Md cw_Md_tall rfl rfl rfl (by decide +kernel) (by omega) (Nat.le_of_ble_eq_true rfl) (Nat.le_of_ble_eq_true rfl) ?_
                    refine k_M_tall0 hl9 (by omega) hM3 ⟨by decide, by decide⟩ ⟨by omega, by omega⟩ ?_
                    have e9b : hM (((M.wbl (bl)).wla (la)).wha (ha)) 7 (((-((t : Int) + 1)) % p + 1) * 3).toNat = hs (((-((t : Int) + 1)) % p + 1) * 3).toNat := hxb
                    rw [e9b]
                    show jl_AW _ _ _ _ _ 133 [some (.ref (u)), some (.int (zI (g))), some (.int (zI (b))), some (.int (zI (p))), some (.int (zI (-((t : Int) + 1)))), some (.int (zI ((-((t : Int) + 1)) % p))), some (.int (zI (1))), none] [.int (zI (hs (((-((t : Int) + 1)) % p + 1) * 3).toNat))] n h2 _ _
                    refine jl_istore (L' := [some (.ref (u)), some (.int (zI (g))), some (.int (zI (b))), some (.int (zI (p))), some (.int (zI (-((t : Int) + 1)))), some (.int (zI ((-((t : Int) + 1)) % p))), some (.int (zI (1))), some (.int (zI (hs (((-((t : Int) + 1)) % p + 1) * 3).toNat)))]) d_Md_enter_133 (by decide) rfl ?_
                    refine jl_iload d_Md_enter_135 rfl ?_
                    refine jz_if_le (tgt := 173) d_Md_enter_137 (by decide) ⟨by omega, by omega⟩ (fun qa1 => ?_) (fun qa1 => ?_)
                    · refine jz_iinc (v := 2) (L' := [some (.ref (u)), some (.int (zI (g))), some (.int (zI (b))), some (.int (zI (p))), some (.int (zI (-((t : Int) + 1)))), some (.int (zI ((-((t : Int) + 1)) % p))), some (.int (zI (2))), some (.int (zI (hs (((-((t : Int) + 1)) % p + 1) * 3).toNat)))]) d_Md_enter_173 rfl (by omega) (by decide) rfl ?_
                      refine jl_goto (tgt := 115) d_Md_enter_176 (by decide) ?_
                      have hB4 : mBl (((M.wbl (bl)).wla (la)).wha (ha)) (B ++ itL 2 p hs cs xs g b t ++ it2 p hs xs g b ((t : Int) + 1) ((-((t : Int) + 1)) % p + 0) ++ it2 p hs xs g b ((t : Int) + 1) ((-((t : Int) + 1)) % p + 1)) := (by rw [show it2 p hs xs g b ((t : Int) + 1) ((-((t : Int) + 1)) % p + 1) = [] from if_neg (fun q9 => by have := q9.1; omega), List.append_nil]; exact hB3)
                      refine jl_iload d_Md_enter_115 rfl ?_
                      refine jl_iconst (v := zI (2)) d_Md_enter_117 (by decide) ?_
                      refine jz_icmp_ge (tgt := 179) d_Md_enter_118 (by decide) ⟨by omega, by omega⟩ ⟨by omega, by omega⟩ (fun qe => ?_) (fun qe => ?_)
                      · refine jz_iinc (v := -(((t + 1 : Nat) : Int) + 1)) (L' := [some (.ref (u)), some (.int (zI (g))), some (.int (zI (b))), some (.int (zI (p))), some (.int (zI (-(((t + 1 : Nat) : Int) + 1)))), some (.int (zI ((-((t : Int) + 1)) % p))), some (.int (zI (2))), some (.int (zI (hs (((-((t : Int) + 1)) % p + 1) * 3).toNat)))]) d_Md_enter_179 rfl (by omega) (by decide) rfl ?_
                        refine jl_goto (tgt := 11) d_Md_enter_182 (by decide) ?_
                        refine jl_less (L' := [some (.ref (u)), some (.int (zI (g))), some (.int (zI (b))), some (.int (zI (p))), some (.int (zI (-(((t + 1 : Nat) : Int) + 1)))), none, none, none]) ⟨rfl, rfl, rfl, rfl, rfl, trivial⟩ ?_
                        exact ih (k - 1) (by omega) (t + 1) bl la ha h2 (by omega) hM3 (by rw [itL_2 ok7 hi (by omega), ← List.append_assoc, ← List.append_assoc]; exact hB4) hf2
                      · exact absurd (by decide) qe
                    · refine jl_iload d_Md_enter_140 rfl ?_
                      refine jl_iload d_Md_enter_142 rfl ?_
                      refine jz_iadd (v := -((t : Int) + 1) + hs (((-((t : Int) + 1)) % p + 1) * 3).toNat) d_Md_enter_144 (by omega) ?_
                      refine jl_iload_n d_Md_enter_145 rfl rfl ?_
                      refine jz_icmp_ne (tgt := 173) d_Md_enter_146 (by decide) ⟨by omega, by omega⟩ ⟨by omega, by omega⟩ (fun qb1 => ?_) (fun qb1 => ?_)
                      · refine jz_iinc (v := 2) (L' := [some (.ref (u)), some (.int (zI (g))), some (.int (zI (b))), some (.int (zI (p))), some (.int (zI (-((t : Int) + 1)))), some (.int (zI ((-((t : Int) + 1)) % p))), some (.int (zI (2))), some (.int (zI (hs (((-((t : Int) + 1)) % p + 1) * 3).toNat)))]) d_Md_enter_173 rfl (by omega) (by decide) rfl ?_
                        refine jl_goto (tgt := 115) d_Md_enter_176 (by decide) ?_
                        have hB4 : mBl (((M.wbl (bl)).wla (la)).wha (ha)) (B ++ itL 2 p hs cs xs g b t ++ it2 p hs xs g b ((t : Int) + 1) ((-((t : Int) + 1)) % p + 0) ++ it2 p hs xs g b ((t : Int) + 1) ((-((t : Int) + 1)) % p + 1)) := (by rw [show it2 p hs xs g b ((t : Int) + 1) ((-((t : Int) + 1)) % p + 1) = [] from if_neg (fun q9 => by have := q9.1; omega), List.append_nil]; exact hB3)
                        refine jl_iload d_Md_enter_115 rfl ?_
                        refine jl_iconst (v := zI (2)) d_Md_enter_117 (by decide) ?_
                        refine jz_icmp_ge (tgt := 179) d_Md_enter_118 (by decide) ⟨by omega, by omega⟩ ⟨by omega, by omega⟩ (fun qe => ?_) (fun qe => ?_)
                        · refine jz_iinc (v := -(((t + 1 : Nat) : Int) + 1)) (L' := [some (.ref (u)), some (.int (zI (g))), some (.int (zI (b))), some (.int (zI (p))), some (.int (zI (-(((t + 1 : Nat) : Int) + 1)))), some (.int (zI ((-((t : Int) + 1)) % p))), some (.int (zI (2))), some (.int (zI (hs (((-((t : Int) + 1)) % p + 1) * 3).toNat)))]) d_Md_enter_179 rfl (by omega) (by decide) rfl ?_
                          refine jl_goto (tgt := 11) d_Md_enter_182 (by decide) ?_
                          refine jl_less (L' := [some (.ref (u)), some (.int (zI (g))), some (.int (zI (b))), some (.int (zI (p))), some (.int (zI (-(((t + 1 : Nat) : Int) + 1)))), none, none, none]) ⟨rfl, rfl, rfl, rfl, rfl, trivial⟩ ?_
                          exact ih (k - 1) (by omega) (t + 1) bl la ha h2 (by omega) hM3 (by rw [itL_2 ok7 hi (by omega), ← List.append_assoc, ← List.append_assoc]; exact hB4) hf2
                        · exact absurd (by decide) qe
                      · refine jl_aload_n d_Md_enter_149 rfl rfl ?_
                        refine jl_bipush (v := zI (7)) d_Md_enter_150 (by decide) ?_
                        refine jl_iload d_Md_enter_152 rfl ?_
                        refine jl_iload d_Md_enter_154 rfl ?_
                        refine jz_iadd (v := (-((t : Int) + 1)) % p + 1) d_Md_enter_156 (by omega) ?_
                        refine jl_iconst (v := zI (0)) d_Md_enter_157 (by decide) ?_
                        refine jl_invV (M' := m_Md_target) (d' := d - 1) (ck' := 0) (sk' := 0) (na := 3) (as := [.int (zI (7)), .int (zI ((-((t : Int) + 1)) % p + 1)), .int (zI (0))]) (st := []) d_Md_enter_158 rfl p0s rfl mw_Md_77 ww_Md_target sw_Md_target nw_Md cw_Md_target rfl rfl rfl (by decide +kernel) (by omega) (Nat.le_of_ble_eq_true rfl) (Nat.le_of_ble_eq_true rfl) ?_
                        refine k_M_target0 hl9 (by omega) hM3 ok (show 1 ≤ M.pe (7 : Int).toNat by omega) ⟨by decide, by decide⟩ ⟨by omega, by omega⟩ ?_
                        have e8b : sp_tgt (M.mo (7 : Int).toNat) (M.pe (7 : Int).toNat) (xM (((M.wbl (bl)).wla (la)).wha (ha)) 7) ((-((t : Int) + 1)) % p + 1) (hM (((M.wbl (bl)).wla (la)).wha (ha)) 7 (((-((t : Int) + 1)) % p + 1) * 3).toNat) = sp_tgt 2 p xs ((-((t : Int) + 1)) % p + 1) (hs (((-((t : Int) + 1)) % p + 1) * 3).toNat) := htgb
                        show jl_AW _ _ _ _ _ 161 [some (.ref (u)), some (.int (zI (g))), some (.int (zI (b))), some (.int (zI (p))), some (.int (zI (-((t : Int) + 1)))), some (.int (zI ((-((t : Int) + 1)) % p))), some (.int (zI (1))), some (.int (zI (hs (((-((t : Int) + 1)) % p + 1) * 3).toNat)))] [.int (zI (sp_tgt (M.mo (7 : Int).toNat) (M.pe (7 : Int).toNat) (xM (((M.wbl (bl)).wla (la)).wha (ha)) 7) ((-((t : Int) + 1)) % p + 1) (hM (((M.wbl (bl)).wla (la)).wha (ha)) 7 (((-((t : Int) + 1)) % p + 1) * 3).toNat)))] n h2 _ _
                        rw [e8b]
                        refine jl_iconst (v := zI (2)) d_Md_enter_161 (by decide) ?_
                        refine jz_irem (v := sp_tgt 2 p xs ((-((t : Int) + 1)) % p + 1) (hs (((-((t : Int) + 1)) % p + 1) * 3).toNat) % 2) d_Md_enter_162 ⟨by omega, by omega⟩ ⟨by decide, by decide⟩ (by decide) (Int.tmod_eq_emod_of_nonneg (by omega)) ?_
                        refine jl_iload_n d_Md_enter_163 rfl rfl ?_
                        refine jz_icmp_ne (tgt := 173) d_Md_enter_164 (by decide) ⟨by omega, by omega⟩ ⟨by omega, by omega⟩ (fun qc1 => ?_) (fun qc1 => ?_)
                        · refine jz_iinc (v := 2) (L' := [some (.ref (u)), some (.int (zI (g))), some (.int (zI (b))), some (.int (zI (p))), some (.int (zI (-((t : Int) + 1)))), some (.int (zI ((-((t : Int) + 1)) % p))), some (.int (zI (2))), some (.int (zI (hs (((-((t : Int) + 1)) % p + 1) * 3).toNat)))]) d_Md_enter_173 rfl (by omega) (by decide) rfl ?_
                          refine jl_goto (tgt := 115) d_Md_enter_176 (by decide) ?_
                          have hB4 : mBl (((M.wbl (bl)).wla (la)).wha (ha)) (B ++ itL 2 p hs cs xs g b t ++ it2 p hs xs g b ((t : Int) + 1) ((-((t : Int) + 1)) % p + 0) ++ it2 p hs xs g b ((t : Int) + 1) ((-((t : Int) + 1)) % p + 1)) := (by rw [show it2 p hs xs g b ((t : Int) + 1) ((-((t : Int) + 1)) % p + 1) = [] from if_neg (fun q9 => qc1 q9.2), List.append_nil]; exact hB3)
                          refine jl_iload d_Md_enter_115 rfl ?_
                          refine jl_iconst (v := zI (2)) d_Md_enter_117 (by decide) ?_
                          refine jz_icmp_ge (tgt := 179) d_Md_enter_118 (by decide) ⟨by omega, by omega⟩ ⟨by omega, by omega⟩ (fun qe => ?_) (fun qe => ?_)
                          · refine jz_iinc (v := -(((t + 1 : Nat) : Int) + 1)) (L' := [some (.ref (u)), some (.int (zI (g))), some (.int (zI (b))), some (.int (zI (p))), some (.int (zI (-(((t + 1 : Nat) : Int) + 1)))), some (.int (zI ((-((t : Int) + 1)) % p))), some (.int (zI (2))), some (.int (zI (hs (((-((t : Int) + 1)) % p + 1) * 3).toNat)))]) d_Md_enter_179 rfl (by omega) (by decide) rfl ?_
                            refine jl_goto (tgt := 11) d_Md_enter_182 (by decide) ?_
                            refine jl_less (L' := [some (.ref (u)), some (.int (zI (g))), some (.int (zI (b))), some (.int (zI (p))), some (.int (zI (-(((t + 1 : Nat) : Int) + 1)))), none, none, none]) ⟨rfl, rfl, rfl, rfl, rfl, trivial⟩ ?_
                            exact ih (k - 1) (by omega) (t + 1) bl la ha h2 (by omega) hM3 (by rw [itL_2 ok7 hi (by omega), ← List.append_assoc, ← List.append_assoc]; exact hB4) hf2
                          · exact absurd (by decide) qe
                        · have eib : it2 p hs xs g b ((t : Int) + 1) ((-((t : Int) + 1)) % p + 1) = [(g, b)] := by rw [it2, if_pos ⟨by omega, qc1⟩]
                          have hlnb : (it2 p hs xs g b ((t : Int) + 1) ((-((t : Int) + 1)) % p + 1)).length = 1 := by rw [eib]; rfl
                          have hl27b : (B ++ itL 2 p hs cs xs g b t ++ it2 p hs xs g b ((t : Int) + 1) ((-((t : Int) + 1)) % p + 0)).length < 27 := by simp only [List.length_append] at hmono hlB ⊢; omega
                          refine jl_aload_n d_Md_enter_167 rfl rfl ?_
                          refine jl_iload_n d_Md_enter_168 rfl rfl ?_
                          refine jl_iload_n d_Md_enter_169 rfl rfl ?_
                          refine jl_invV (M' := m_Md_comes) (d' := d - 1) (ck' := 0) (sk' := 0) (na := 2) (as := [.int (zI (g)), .int (zI (b))]) (st := []) d_Md_enter_170 rfl p0s rfl mw_Md_123 ww_Md_comes sw_Md_comes nw_Md cw_Md_comes rfl rfl rfl (by decide +kernel) (by omega) (Nat.le_of_ble_eq_true rfl) (Nat.le_of_ble_eq_true rfl) ?_
                          refine k_M_comes hl9 (by omega) hM3 hB3 hl27b (fun h6 bl1 la1 ha1 hMn1 hBn1 hfn1 => ?_)
                          show jl_AW _ _ _ _ _ 173 [some (.ref (u)), some (.int (zI (g))), some (.int (zI (b))), some (.int (zI (p))), some (.int (zI (-((t : Int) + 1)))), some (.int (zI ((-((t : Int) + 1)) % p))), some (.int (zI (1))), some (.int (zI (hs (((-((t : Int) + 1)) % p + 1) * 3).toNat)))] [] n h6 _ _
                          refine jz_iinc (v := 2) (L' := [some (.ref (u)), some (.int (zI (g))), some (.int (zI (b))), some (.int (zI (p))), some (.int (zI (-((t : Int) + 1)))), some (.int (zI ((-((t : Int) + 1)) % p))), some (.int (zI (2))), some (.int (zI (hs (((-((t : Int) + 1)) % p + 1) * 3).toNat)))]) d_Md_enter_173 rfl (by omega) (by decide) rfl ?_
                          refine jl_goto (tgt := 115) d_Md_enter_176 (by decide) ?_
                          have hB4 : mBl (((M.wbl (bl1)).wla (la1)).wha (ha1)) (B ++ itL 2 p hs cs xs g b t ++ it2 p hs xs g b ((t : Int) + 1) ((-((t : Int) + 1)) % p + 0) ++ it2 p hs xs g b ((t : Int) + 1) ((-((t : Int) + 1)) % p + 1)) := (by rw [eib]; exact hBn1)
                          refine jl_iload d_Md_enter_115 rfl ?_
                          refine jl_iconst (v := zI (2)) d_Md_enter_117 (by decide) ?_
                          refine jz_icmp_ge (tgt := 179) d_Md_enter_118 (by decide) ⟨by omega, by omega⟩ ⟨by omega, by omega⟩ (fun qe => ?_) (fun qe => ?_)
                          · refine jz_iinc (v := -(((t + 1 : Nat) : Int) + 1)) (L' := [some (.ref (u)), some (.int (zI (g))), some (.int (zI (b))), some (.int (zI (p))), some (.int (zI (-(((t + 1 : Nat) : Int) + 1)))), some (.int (zI ((-((t : Int) + 1)) % p))), some (.int (zI (2))), some (.int (zI (hs (((-((t : Int) + 1)) % p + 1) * 3).toNat)))]) d_Md_enter_179 rfl (by omega) (by decide) rfl ?_
                            refine jl_goto (tgt := 11) d_Md_enter_182 (by decide) ?_
                            refine jl_less (L' := [some (.ref (u)), some (.int (zI (g))), some (.int (zI (b))), some (.int (zI (p))), some (.int (zI (-(((t + 1 : Nat) : Int) + 1)))), none, none, none]) ⟨rfl, rfl, rfl, rfl, rfl, trivial⟩ ?_
                            exact ih (k - 1) (by omega) (t + 1) bl1 la1 ha1 h6 (by omega) hMn1 (by rw [itL_2 ok7 hi (by omega), ← List.append_assoc, ← List.append_assoc]; exact hB4) (jfr_tr hf2 hfn1)
                          · exact absurd (by decide) qe
                · refine jl_aload_n d_Md_enter_149 rfl rfl ?_
                  refine jl_bipush (v := zI (7)) d_Md_enter_150 (by decide) ?_
                  refine jl_iload d_Md_enter_152 rfl ?_
                  refine jl_iload d_Md_enter_154 rfl ?_
                  refine jz_iadd (v := (-((t : Int) + 1)) % p + 0) d_Md_enter_156 (by omega) ?_
                  refine jl_iconst (v := zI (0)) d_Md_enter_157 (by decide) ?_
                  refine jl_invV (M' := m_Md_target) (d' := d - 1) (ck' := 0) (sk' := 0) (na := 3) (as := [.int (zI (7)), .int (zI ((-((t : Int) + 1)) % p + 0)), .int (zI (0))]) (st := []) d_Md_enter_158 rfl p0z rfl mw_Md_77 ww_Md_target sw_Md_target nw_Md cw_Md_target rfl rfl rfl (by decide +kernel) (by omega) (Nat.le_of_ble_eq_true rfl) (Nat.le_of_ble_eq_true rfl) ?_
                  refine k_M_target0 hl9 (by omega) hM2 ok (show 1 ≤ M.pe (7 : Int).toNat by omega) ⟨by decide, by decide⟩ ⟨by omega, by omega⟩ ?_
                  have e8a : sp_tgt (M.mo (7 : Int).toNat) (M.pe (7 : Int).toNat) (xM (((M.wbl (bl)).wla (la)).wha (ha)) 7) ((-((t : Int) + 1)) % p + 0) (hM (((M.wbl (bl)).wla (la)).wha (ha)) 7 (((-((t : Int) + 1)) % p + 0) * 3).toNat) = sp_tgt 2 p xs ((-((t : Int) + 1)) % p + 0) (hs (((-((t : Int) + 1)) % p + 0) * 3).toNat) := htga
                  show jl_AW _ _ _ _ _ 161 [some (.ref (u)), some (.int (zI (g))), some (.int (zI (b))), some (.int (zI (p))), some (.int (zI (-((t : Int) + 1)))), some (.int (zI ((-((t : Int) + 1)) % p))), some (.int (zI (0))), some (.int (zI (hs (((-((t : Int) + 1)) % p + 0) * 3).toNat)))] [.int (zI (sp_tgt (M.mo (7 : Int).toNat) (M.pe (7 : Int).toNat) (xM (((M.wbl (bl)).wla (la)).wha (ha)) 7) ((-((t : Int) + 1)) % p + 0) (hM (((M.wbl (bl)).wla (la)).wha (ha)) 7 (((-((t : Int) + 1)) % p + 0) * 3).toNat)))] n h2 _ _
                  rw [e8a]
                  refine jl_iconst (v := zI (2)) d_Md_enter_161 (by decide) ?_
                  refine jz_irem (v := sp_tgt 2 p xs ((-((t : Int) + 1)) % p + 0) (hs (((-((t : Int) + 1)) % p + 0) * 3).toNat) % 2) d_Md_enter_162 ⟨by omega, by omega⟩ ⟨by decide, by decide⟩ (by decide) (Int.tmod_eq_emod_of_nonneg (by omega)) ?_
                  refine jl_iload_n d_Md_enter_163 rfl rfl ?_
                  refine jz_icmp_ne (tgt := 173) d_Md_enter_164 (by decide) ⟨by omega, by omega⟩ ⟨by omega, by omega⟩ (fun qc0 => ?_) (fun qc0 => ?_)
                  · refine jz_iinc (v := 1) (L' := [some (.ref (u)), some (.int (zI (g))), some (.int (zI (b))), some (.int (zI (p))), some (.int (zI (-((t : Int) + 1)))), some (.int (zI ((-((t : Int) + 1)) % p))), some (.int (zI (1))), some (.int (zI (hs (((-((t : Int) + 1)) % p + 0) * 3).toNat)))]) d_Md_enter_173 rfl (by omega) (by decide) rfl ?_
                    refine jl_goto (tgt := 115) d_Md_enter_176 (by decide) ?_
                    refine jl_less (L' := [some (.ref (u)), some (.int (zI (g))), some (.int (zI (b))), some (.int (zI (p))), some (.int (zI (-((t : Int) + 1)))), some (.int (zI ((-((t : Int) + 1)) % p))), some (.int (zI (1))), none]) ⟨rfl, rfl, rfl, rfl, rfl, rfl, rfl, trivial⟩ ?_
                    have hB3 : mBl (((M.wbl (bl)).wla (la)).wha (ha)) (B ++ itL 2 p hs cs xs g b t ++ it2 p hs xs g b ((t : Int) + 1) ((-((t : Int) + 1)) % p + 0)) := (by rw [show it2 p hs xs g b ((t : Int) + 1) ((-((t : Int) + 1)) % p + 0) = [] from if_neg (fun q9 => qc0 q9.2), List.append_nil]; exact hB2)
                    have hM3 : jM h2 u (((M.wbl (bl)).wla (la)).wha (ha)) := hM2
                    obtain ⟨q0s, q1s, q2s, q3s, q4s, q5s, q6s, q7s, q8s, q9s, q10s, q11s, q12s, q13s⟩ := id (hM3)
                    have p0s : h2 u = jO 6 [.int (zI (M.T)), .ref (u + 1), .ref (u + 2), .ref (u + 3), .ref (u + 4), .ref (u + 5), .int (zI (M.jn)), .int (zI (M.ja)), .int (zI (M.jb)), .ref (u + 6), .ref (u + 7), .int (zI (M.nw)), .int (zI (bl)), .int (zI (M.lt)), .int (zI (M.rt)), .ref (u + 8), .ref (u + 9), .ref (u + 10), .ref (u + 11), .ref (u + 12), .ref (u + 13)] := q0s
                    have p1s : h2 (u + 1) = jI 8 (fun j9 => zI (M.mo j9)) := q1s
                    have p2s : h2 (u + 2) = jI 8 (fun j9 => zI (M.pe j9)) := q2s
                    have p3s : h2 (u + 3) = jI 128 (fun j9 => zI (M.co j9)) := q3s
                    have p4s : h2 (u + 4) = jI 384 (fun j9 => zI (M.he j9)) := q4s
                    have p5s : h2 (u + 5) = jZ 128 (fun j9 => zI (M.cr j9)) := q5s
                    have p6s : h2 (u + 6) = jI 16 (fun j9 => zI (M.wy j9)) := q6s
                    have p7s : h2 (u + 7) = jI 512 (fun j9 => zI (M.fa j9)) := q7s
                    have p8s : h2 (u + 8) = jI 32 (fun j9 => zI (la j9)) := q8s
                    have p9s : h2 (u + 9) = jI 32 (fun j9 => zI (ha j9)) := q9s
                    have p10s : h2 (u + 10) = jI 4096 (fun j9 => zI (M.w1 j9)) := q10s
                    have p11s : h2 (u + 11) = jI 4096 (fun j9 => zI (M.mr j9)) := q11s
                    have p12s : h2 (u + 12) = jI 6 (fun j9 => zI (M.rw j9)) := q12s
                    have p13s : h2 (u + 13) = jI 16 (fun j9 => zI (M.tu j9)) := q13s
                    obtain ⟨hr1b, hr2b, hr3b⟩ := dRl_s hR (s := (-((t : Int) + 1)) % p + 1) (by omega) (by omega)
                    have hcsb := (hi ((-((t : Int) + 1)) % p + 1).toNat (by omega)).2.2 (by decide)
                    have hxb : hM M 7 (((-((t : Int) + 1)) % p + 1) * 3).toNat = hs (((-((t : Int) + 1)) % p + 1) * 3).toNat := by have := hr3b 0 (by omega); rwa [show ((-((t : Int) + 1)) % p + 1) * 3 + ((0 : Nat) : Int) = ((-((t : Int) + 1)) % p + 1) * 3 by omega] at this
                    have hhb := ok7.2.2.1 (((-((t : Int) + 1)) % p + 1) * 3).toNat
                    have htgb : sp_tgt (M.mo (7 : Int).toNat) (M.pe (7 : Int).toNat) (xM M 7) ((-((t : Int) + 1)) % p + 1) (hM M 7 (((-((t : Int) + 1)) % p + 1) * 3).toNat) = sp_tgt 2 p xs ((-((t : Int) + 1)) % p + 1) (hs (((-((t : Int) + 1)) % p + 1) * 3).toNat) := by rw [em, ep, hxb]; unfold sp_tgt sp_land; rw [hr2b]
                    have hrgb := sp_tgt_rg ok7 (s := (-((t : Int) + 1)) % p + 1) (k := hs (((-((t : Int) + 1)) % p + 1) * 3).toNat) (fun _ => by have := (ok7.2.2.2.2.2 rfl).2 ((-((t : Int) + 1)) % p + 1).toNat; rwa [show 3 * ((-((t : Int) + 1)) % p + 1).toNat = (((-((t : Int) + 1)) % p + 1) * 3).toNat by omega] at this)
                    refine jl_iload d_Md_enter_115 rfl ?_
                    refine jl_iconst (v := zI (2)) d_Md_enter_117 (by decide) ?_
                    refine jz_icmp_ge (tgt := 179) d_Md_enter_118 (by decide) ⟨by omega, by omega⟩ ⟨by omega, by omega⟩ (fun qs1 => ?_) (fun qs1 => ?_)
                    · exact absurd qs1 (by decide)
                    · refine jl_aload_n d_Md_enter_121 rfl rfl ?_
                      refine jl_bipush (v := zI (7)) d_Md_enter_122 (by decide) ?_
                      refine jl_iload d_Md_enter_124 rfl ?_
                      refine jl_iload d_Md_enter_126 rfl ?_
                      refine jz_iadd (v := (-((t : Int) + 1)) % p + 1) d_Md_enter_128 (by omega) ?_
                      refine jl_iconst (v := zI (0)) d_Md_enter_129 (by decide) ?_
                      refine jl_invV (M' := m_Md_tall) (d' := d - 1) (ck' := 0) (sk' := 0) (na := 3) (as := [.int (zI (7)), .int (zI ((-((t : Int) + 1)) % p + 1)), .int (zI (0))]) (st := []) d_Md_enter_130 rfl p0s rfl mw_Md_73 ww_Md_tall sw_Md_tall nw_Md cw_Md_tall rfl rfl rfl (by decide +kernel) (by omega) (Nat.le_of_ble_eq_true rfl) (Nat.le_of_ble_eq_true rfl) ?_
                      refine k_M_tall0 hl9 (by omega) hM3 ⟨by decide, by decide⟩ ⟨by omega, by omega⟩ ?_
                      have e9b : hM (((M.wbl (bl)).wla (la)).wha (ha)) 7 (((-((t : Int) + 1)) % p + 1) * 3).toNat = hs (((-((t : Int) + 1)) % p + 1) * 3).toNat := hxb
                      rw [e9b]
                      show jl_AW _ _ _ _ _ 133 [some (.ref (u)), some (.int (zI (g))), some (.int (zI (b))), some (.int (zI (p))), some (.int (zI (-((t : Int) + 1)))), some (.int (zI ((-((t : Int) + 1)) % p))), some (.int (zI (1))), none] [.int (zI (hs (((-((t : Int) + 1)) % p + 1) * 3).toNat))] n h2 _ _
                      refine jl_istore (L' := [some (.ref (u)), some (.int (zI (g))), some (.int (zI (b))), some (.int (zI (p))), some (.int (zI (-((t : Int) + 1)))), some (.int (zI ((-((t : Int) + 1)) % p))), some (.int (zI (1))), some (.int (zI (hs (((-((t : Int) + 1)) % p + 1) * 3).toNat)))]) d_Md_enter_133 (by decide) rfl ?_
                      refine jl_iload d_Md_enter_135 rfl ?_
                      refine jz_if_le (tgt := 173) d_Md_enter_137 (by decide) ⟨by omega, by omega⟩ (fun qa1 => ?_) (fun qa1 => ?_)
                      · refine jz_iinc (v := 2) (L' := [some (.ref (u)), some (.int (zI (g))), some (.int (zI (b))), some (.int (zI (p))), some (.int (zI (-((t : Int) + 1)))), some (.int (zI ((-((t : Int) + 1)) % p))), some (.int (zI (2))), some (.int (zI (hs (((-((t : Int) + 1)) % p + 1) * 3).toNat)))]) d_Md_enter_173 rfl (by omega) (by decide) rfl ?_
                        refine jl_goto (tgt := 115) d_Md_enter_176 (by decide) ?_
                        have hB4 : mBl (((M.wbl (bl)).wla (la)).wha (ha)) (B ++ itL 2 p hs cs xs g b t ++ it2 p hs xs g b ((t : Int) + 1) ((-((t : Int) + 1)) % p + 0) ++ it2 p hs xs g b ((t : Int) + 1) ((-((t : Int) + 1)) % p + 1)) := (by rw [show it2 p hs xs g b ((t : Int) + 1) ((-((t : Int) + 1)) % p + 1) = [] from if_neg (fun q9 => by have := q9.1; omega), List.append_nil]; exact hB3)
                        refine jl_iload d_Md_enter_115 rfl ?_
                        refine jl_iconst (v := zI (2)) d_Md_enter_117 (by decide) ?_
                        refine jz_icmp_ge (tgt := 179) d_Md_enter_118 (by decide) ⟨by omega, by omega⟩ ⟨by omega, by omega⟩ (fun qe => ?_) (fun qe => ?_)
                        · refine jz_iinc (v := -(((t + 1 : Nat) : Int) + 1)) (L' := [some (.ref (u)), some (.int (zI (g))), some (.int (zI (b))), some (.int (zI (p))), some (.int (zI (-(((t + 1 : Nat) : Int) + 1)))), some (.int (zI ((-((t : Int) + 1)) % p))), some (.int (zI (2))), some (.int (zI (hs (((-((t : Int) + 1)) % p + 1) * 3).toNat)))]) d_Md_enter_179 rfl (by omega) (by decide) rfl ?_
                          refine jl_goto (tgt := 11) d_Md_enter_182 (by decide) ?_
                          refine jl_less (L' := [some (.ref (u)), some (.int (zI (g))), some (.int (zI (b))), some (.int (zI (p))), some (.int (zI (-(((t + 1 : Nat) : Int) + 1)))), none, none, none]) ⟨rfl, rfl, rfl, rfl, rfl, trivial⟩ ?_
                          exact ih (k - 1) (by omega) (t + 1) bl la ha h2 (by omega) hM3 (by rw [itL_2 ok7 hi (by omega), ← List.append_assoc, ← List.append_assoc]; exact hB4) hf2
                        · exact absurd (by decide) qe
                      · refine jl_iload d_Md_enter_140 rfl ?_
                        refine jl_iload d_Md_enter_142 rfl ?_
                        refine jz_iadd (v := -((t : Int) + 1) + hs (((-((t : Int) + 1)) % p + 1) * 3).toNat) d_Md_enter_144 (by omega) ?_
                        refine jl_iload_n d_Md_enter_145 rfl rfl ?_
                        refine jz_icmp_ne (tgt := 173) d_Md_enter_146 (by decide) ⟨by omega, by omega⟩ ⟨by omega, by omega⟩ (fun qb1 => ?_) (fun qb1 => ?_)
                        · refine jz_iinc (v := 2) (L' := [some (.ref (u)), some (.int (zI (g))), some (.int (zI (b))), some (.int (zI (p))), some (.int (zI (-((t : Int) + 1)))), some (.int (zI ((-((t : Int) + 1)) % p))), some (.int (zI (2))), some (.int (zI (hs (((-((t : Int) + 1)) % p + 1) * 3).toNat)))]) d_Md_enter_173 rfl (by omega) (by decide) rfl ?_
                          refine jl_goto (tgt := 115) d_Md_enter_176 (by decide) ?_
                          have hB4 : mBl (((M.wbl (bl)).wla (la)).wha (ha)) (B ++ itL 2 p hs cs xs g b t ++ it2 p hs xs g b ((t : Int) + 1) ((-((t : Int) + 1)) % p + 0) ++ it2 p hs xs g b ((t : Int) + 1) ((-((t : Int) + 1)) % p + 1)) := (by rw [show it2 p hs xs g b ((t : Int) + 1) ((-((t : Int) + 1)) % p + 1) = [] from if_neg (fun q9 => by have := q9.1; omega), List.append_nil]; exact hB3)
                          refine jl_iload d_Md_enter_115 rfl ?_
                          refine jl_iconst (v := zI (2)) d_Md_enter_117 (by decide) ?_
                          refine jz_icmp_ge (tgt := 179) d_Md_enter_118 (by decide) ⟨by omega, by omega⟩ ⟨by omega, by omega⟩ (fun qe => ?_) (fun qe => ?_)
                          · refine jz_iinc (v := -(((t + 1 : Nat) : Int) + 1)) (L' := [some (.ref (u)), some (.int (zI (g))), some (.int (zI (b))), some (.int (zI (p))), some (.int (zI (-(((t + 1 : Nat) : Int) + 1)))), some (.int (zI ((-((t : Int) + 1)) % p))), some (.int (zI (2))), some (.int (zI (hs (((-((t : Int) + 1)) % p + 1) * 3).toNat)))]) d_Md_enter_179 rfl (by omega) (by decide) rfl ?_
                            refine jl_goto (tgt := 11) d_Md_enter_182 (by decide) ?_
                            refine jl_less (L' := [some (.ref (u)), some (.int (zI (g))), some (.int (zI (b))), some (.int (zI (p))), some (.int (zI (-(((t + 1 : Nat) : Int) + 1)))), none, none, none]) ⟨rfl, rfl, rfl, rfl, rfl, trivial⟩ ?_
                            exact ih (k - 1) (by omega) (t + 1) bl la ha h2 (by omega) hM3 (by rw [itL_2 ok7 hi (by omega), ← List.append_assoc, ← List.append_assoc]; exact hB4) hf2
                          · exact absurd (by decide) qe
                        · refine jl_aload_n d_Md_enter_149 rfl rfl ?_
                          refine jl_bipush (v := zI (7)) d_Md_enter_150 (by decide) ?_
                          refine jl_iload d_Md_enter_152 rfl ?_
                          refine jl_iload d_Md_enter_154 rfl ?_
                          refine jz_iadd (v := (-((t : Int) + 1)) % p + 1) d_Md_enter_156 (by omega) ?_
                          refine jl_iconst (v := zI (0)) d_Md_enter_157 (by decide) ?_
                          refine jl_invV (M' := m_Md_target) (d' := d - 1) (ck' := 0) (sk' := 0) (na := 3) (as := [.int (zI (7)), .int (zI ((-((t : Int) + 1)) % p + 1)), .int (zI (0))]) (st := []) d_Md_enter_158 rfl p0s rfl mw_Md_77 ww_Md_target sw_Md_target nw_Md cw_Md_target rfl rfl rfl (by decide +kernel) (by omega) (Nat.le_of_ble_eq_true rfl) (Nat.le_of_ble_eq_true rfl) ?_
                          refine k_M_target0 hl9 (by omega) hM3 ok (show 1 ≤ M.pe (7 : Int).toNat by omega) ⟨by decide, by decide⟩ ⟨by omega, by omega⟩ ?_
                          have e8b : sp_tgt (M.mo (7 : Int).toNat) (M.pe (7 : Int).toNat) (xM (((M.wbl (bl)).wla (la)).wha (ha)) 7) ((-((t : Int) + 1)) % p + 1) (hM (((M.wbl (bl)).wla (la)).wha (ha)) 7 (((-((t : Int) + 1)) % p + 1) * 3).toNat) = sp_tgt 2 p xs ((-((t : Int) + 1)) % p + 1) (hs (((-((t : Int) + 1)) % p + 1) * 3).toNat) := htgb
                          show jl_AW _ _ _ _ _ 161 [some (.ref (u)), some (.int (zI (g))), some (.int (zI (b))), some (.int (zI (p))), some (.int (zI (-((t : Int) + 1)))), some (.int (zI ((-((t : Int) + 1)) % p))), some (.int (zI (1))), some (.int (zI (hs (((-((t : Int) + 1)) % p + 1) * 3).toNat)))] [.int (zI (sp_tgt (M.mo (7 : Int).toNat) (M.pe (7 : Int).toNat) (xM (((M.wbl (bl)).wla (la)).wha (ha)) 7) ((-((t : Int) + 1)) % p + 1) (hM (((M.wbl (bl)).wla (la)).wha (ha)) 7 (((-((t : Int) + 1)) % p + 1) * 3).toNat)))] n h2 _ _
                          rw [e8b]
                          refine jl_iconst (v := zI (2)) d_Md_enter_161 (by decide) ?_
                          refine jz_irem (v := sp_tgt 2 p xs ((-((t : Int) + 1)) % p + 1) (hs (((-((t : Int) + 1)) % p + 1) * 3).toNat) % 2) d_Md_enter_162 ⟨by omega, by omega⟩ ⟨by decide, by decide⟩ (by decide) (Int.tmod_eq_emod_of_nonneg (by omega)) ?_
                          refine jl_iload_n d_Md_enter_163 rfl rfl ?_
                          refine jz_icmp_ne (tgt := 173) d_Md_enter_164 (by decide) ⟨by omega, by omega⟩ ⟨by omega, by omega⟩ (fun qc1 => ?_) (fun qc1 => ?_)
                          · refine jz_iinc (v := 2) (L' := [some (.ref (u)), some (.int (zI (g))), some (.int (zI (b))), some (.int (zI (p))), some (.int (zI (-((t : Int) + 1)))), some (.int (zI ((-((t : Int) + 1)) % p))), some (.int (zI (2))), some (.int (zI (hs (((-((t : Int) + 1)) % p + 1) * 3).toNat)))]) d_Md_enter_173 rfl (by omega) (by decide) rfl ?_
                            refine jl_goto (tgt := 115) d_Md_enter_176 (by decide) ?_
                            have hB4 : mBl (((M.wbl (bl)).wla (la)).wha (ha)) (B ++ itL 2 p hs cs xs g b t ++ it2 p hs xs g b ((t : Int) + 1) ((-((t : Int) + 1)) % p + 0) ++ it2 p hs xs g b ((t : Int) + 1) ((-((t : Int) + 1)) % p + 1)) := (by rw [show it2 p hs xs g b ((t : Int) + 1) ((-((t : Int) + 1)) % p + 1) = [] from if_neg (fun q9 => qc1 q9.2), List.append_nil]; exact hB3)
                            refine jl_iload d_Md_enter_115 rfl ?_
                            refine jl_iconst (v := zI (2)) d_Md_enter_117 (by decide) ?_
                            refine jz_icmp_ge (tgt := 179) d_Md_enter_118 (by decide) ⟨by omega, by omega⟩ ⟨by omega, by omega⟩ (fun qe => ?_) (fun qe => ?_)
                            · refine jz_iinc (v := -(((t + 1 : Nat) : Int) + 1)) (L' := [some (.ref (u)), some (.int (zI (g))), some (.int (zI (b))), some (.int (zI (p))), some (.int (zI (-(((t + 1 : Nat) : Int) + 1)))), some (.int (zI ((-((t : Int) + 1)) % p))), some (.int (zI (2))), some (.int (zI (hs (((-((t : Int) + 1)) % p + 1) * 3).toNat)))]) d_Md_enter_179 rfl (by omega) (by decide) rfl ?_
                              refine jl_goto (tgt := 11) d_Md_enter_182 (by decide) ?_
                              refine jl_less (L' := [some (.ref (u)), some (.int (zI (g))), some (.int (zI (b))), some (.int (zI (p))), some (.int (zI (-(((t + 1 : Nat) : Int) + 1)))), none, none, none]) ⟨rfl, rfl, rfl, rfl, rfl, trivial⟩ ?_
                              exact ih (k - 1) (by omega) (t + 1) bl la ha h2 (by omega) hM3 (by rw [itL_2 ok7 hi (by omega), ← List.append_assoc, ← List.append_assoc]; exact hB4) hf2
                            · exact absurd (by decide) qe
                          · have eib : it2 p hs xs g b ((t : Int) + 1) ((-((t : Int) + 1)) % p + 1) = [(g, b)] := by rw [it2, if_pos ⟨by omega, qc1⟩]
                            have hlnb : (it2 p hs xs g b ((t : Int) + 1) ((-((t : Int) + 1)) % p + 1)).length = 1 := by rw [eib]; rfl
                            have hl27b : (B ++ itL 2 p hs cs xs g b t ++ it2 p hs xs g b ((t : Int) + 1) ((-((t : Int) + 1)) % p + 0)).length < 27 := by simp only [List.length_append] at hmono hlB ⊢; omega
                            refine jl_aload_n d_Md_enter_167 rfl rfl ?_
                            refine jl_iload_n d_Md_enter_168 rfl rfl ?_
                            refine jl_iload_n d_Md_enter_169 rfl rfl ?_
                            refine jl_invV (M' := m_Md_comes) (d' := d - 1) (ck' := 0) (sk' := 0) (na := 2) (as := [.int (zI (g)), .int (zI (b))]) (st := []) d_Md_enter_170 rfl p0s rfl mw_Md_123 ww_Md_comes sw_Md_comes nw_Md cw_Md_comes rfl rfl rfl (by decide +kernel) (by omega) (Nat.le_of_ble_eq_true rfl) (Nat.le_of_ble_eq_true rfl) ?_
                            refine k_M_comes hl9 (by omega) hM3 hB3 hl27b (fun h6 bl1 la1 ha1 hMn1 hBn1 hfn1 => ?_)
                            show jl_AW _ _ _ _ _ 173 [some (.ref (u)), some (.int (zI (g))), some (.int (zI (b))), some (.int (zI (p))), some (.int (zI (-((t : Int) + 1)))), some (.int (zI ((-((t : Int) + 1)) % p))), some (.int (zI (1))), some (.int (zI (hs (((-((t : Int) + 1)) % p + 1) * 3).toNat)))] [] n h6 _ _
                            refine jz_iinc (v := 2) (L' := [some (.ref (u)), some (.int (zI (g))), some (.int (zI (b))), some (.int (zI (p))), some (.int (zI (-((t : Int) + 1)))), some (.int (zI ((-((t : Int) + 1)) % p))), some (.int (zI (2))), some (.int (zI (hs (((-((t : Int) + 1)) % p + 1) * 3).toNat)))]) d_Md_enter_173 rfl (by omega) (by decide) rfl ?_
                            refine jl_goto (tgt := 115) d_Md_enter_176 (by decide) ?_
                            have hB4 : mBl (((M.wbl (bl1)).wla (la1)).wha (ha1)) (B ++ itL 2 p hs cs xs g b t ++ it2 p hs xs g b ((t : Int) + 1) ((-((t : Int) + 1)) % p + 0) ++ it2 p hs xs g b ((t : Int) + 1) ((-((t : Int) + 1)) % p + 1)) := (by rw [eib]; exact hBn1)
                            refine jl_iload d_Md_enter_115 rfl ?_
                            refine jl_iconst (v := zI (2)) d_Md_enter_117 (by decide) ?_
                            refine jz_icmp_ge (tgt := 179) d_Md_enter_118 (by decide) ⟨by omega, by omega⟩ ⟨by omega, by omega⟩ (fun qe => ?_) (fun qe => ?_)
                            · refine jz_iinc (v := -(((t + 1 : Nat) : Int) + 1)) (L' := [some (.ref (u)), some (.int (zI (g))), some (.int (zI (b))), some (.int (zI (p))), some (.int (zI (-(((t + 1 : Nat) : Int) + 1)))), some (.int (zI ((-((t : Int) + 1)) % p))), some (.int (zI (2))), some (.int (zI (hs (((-((t : Int) + 1)) % p + 1) * 3).toNat)))]) d_Md_enter_179 rfl (by omega) (by decide) rfl ?_
                              refine jl_goto (tgt := 11) d_Md_enter_182 (by decide) ?_
                              refine jl_less (L' := [some (.ref (u)), some (.int (zI (g))), some (.int (zI (b))), some (.int (zI (p))), some (.int (zI (-(((t + 1 : Nat) : Int) + 1)))), none, none, none]) ⟨rfl, rfl, rfl, rfl, rfl, trivial⟩ ?_
                              exact ih (k - 1) (by omega) (t + 1) bl1 la1 ha1 h6 (by omega) hMn1 (by rw [itL_2 ok7 hi (by omega), ← List.append_assoc, ← List.append_assoc]; exact hB4) (jfr_tr hf2 hfn1)
                            · exact absurd (by decide) qe
                  · have eia : it2 p hs xs g b ((t : Int) + 1) ((-((t : Int) + 1)) % p + 0) = [(g, b)] := by rw [it2, if_pos ⟨by omega, qc0⟩]
                    have hlna : (it2 p hs xs g b ((t : Int) + 1) ((-((t : Int) + 1)) % p + 0)).length = 1 := by rw [eia]; rfl
                    have hl27a : (B ++ itL 2 p hs cs xs g b t).length < 27 := by simp only [List.length_append] at hmono hlB ⊢; omega
                    refine jl_aload_n d_Md_enter_167 rfl rfl ?_
                    refine jl_iload_n d_Md_enter_168 rfl rfl ?_
                    refine jl_iload_n d_Md_enter_169 rfl rfl ?_
                    refine jl_invV (M' := m_Md_comes) (d' := d - 1) (ck' := 0) (sk' := 0) (na := 2) (as := [.int (zI (g)), .int (zI (b))]) (st := []) d_Md_enter_170 rfl p0z rfl mw_Md_123 ww_Md_comes sw_Md_comes nw_Md cw_Md_comes rfl rfl rfl (by decide +kernel) (by omega) (Nat.le_of_ble_eq_true rfl) (Nat.le_of_ble_eq_true rfl) ?_
                    refine k_M_comes hl9 (by omega) hM2 hB2 hl27a (fun h5 bl0 la0 ha0 hMn0 hBn0 hfn0 => ?_)
                    show jl_AW _ _ _ _ _ 173 [some (.ref (u)), some (.int (zI (g))), some (.int (zI (b))), some (.int (zI (p))), some (.int (zI (-((t : Int) + 1)))), some (.int (zI ((-((t : Int) + 1)) % p))), some (.int (zI (0))), some (.int (zI (hs (((-((t : Int) + 1)) % p + 0) * 3).toNat)))] [] n h5 _ _
                    refine jz_iinc (v := 1) (L' := [some (.ref (u)), some (.int (zI (g))), some (.int (zI (b))), some (.int (zI (p))), some (.int (zI (-((t : Int) + 1)))), some (.int (zI ((-((t : Int) + 1)) % p))), some (.int (zI (1))), some (.int (zI (hs (((-((t : Int) + 1)) % p + 0) * 3).toNat)))]) d_Md_enter_173 rfl (by omega) (by decide) rfl ?_
                    refine jl_goto (tgt := 115) d_Md_enter_176 (by decide) ?_
                    refine jl_less (L' := [some (.ref (u)), some (.int (zI (g))), some (.int (zI (b))), some (.int (zI (p))), some (.int (zI (-((t : Int) + 1)))), some (.int (zI ((-((t : Int) + 1)) % p))), some (.int (zI (1))), none]) ⟨rfl, rfl, rfl, rfl, rfl, rfl, rfl, trivial⟩ ?_
                    have hB3 : mBl (((M.wbl (bl0)).wla (la0)).wha (ha0)) (B ++ itL 2 p hs cs xs g b t ++ it2 p hs xs g b ((t : Int) + 1) ((-((t : Int) + 1)) % p + 0)) := (by rw [eia]; exact hBn0)
                    have hM3 : jM h5 u (((M.wbl (bl0)).wla (la0)).wha (ha0)) := hMn0
                    obtain ⟨q0s, q1s, q2s, q3s, q4s, q5s, q6s, q7s, q8s, q9s, q10s, q11s, q12s, q13s⟩ := id (hM3)
                    have p0s : h5 u = jO 6 [.int (zI (M.T)), .ref (u + 1), .ref (u + 2), .ref (u + 3), .ref (u + 4), .ref (u + 5), .int (zI (M.jn)), .int (zI (M.ja)), .int (zI (M.jb)), .ref (u + 6), .ref (u + 7), .int (zI (M.nw)), .int (zI (bl0)), .int (zI (M.lt)), .int (zI (M.rt)), .ref (u + 8), .ref (u + 9), .ref (u + 10), .ref (u + 11), .ref (u + 12), .ref (u + 13)] := q0s
                    have p1s : h5 (u + 1) = jI 8 (fun j9 => zI (M.mo j9)) := q1s
                    have p2s : h5 (u + 2) = jI 8 (fun j9 => zI (M.pe j9)) := q2s
                    have p3s : h5 (u + 3) = jI 128 (fun j9 => zI (M.co j9)) := q3s
                    have p4s : h5 (u + 4) = jI 384 (fun j9 => zI (M.he j9)) := q4s
                    have p5s : h5 (u + 5) = jZ 128 (fun j9 => zI (M.cr j9)) := q5s
                    have p6s : h5 (u + 6) = jI 16 (fun j9 => zI (M.wy j9)) := q6s
                    have p7s : h5 (u + 7) = jI 512 (fun j9 => zI (M.fa j9)) := q7s
                    have p8s : h5 (u + 8) = jI 32 (fun j9 => zI (la0 j9)) := q8s
                    have p9s : h5 (u + 9) = jI 32 (fun j9 => zI (ha0 j9)) := q9s
                    have p10s : h5 (u + 10) = jI 4096 (fun j9 => zI (M.w1 j9)) := q10s
                    have p11s : h5 (u + 11) = jI 4096 (fun j9 => zI (M.mr j9)) := q11s
                    have p12s : h5 (u + 12) = jI 6 (fun j9 => zI (M.rw j9)) := q12s
                    have p13s : h5 (u + 13) = jI 16 (fun j9 => zI (M.tu j9)) := q13s
                    obtain ⟨hr1b, hr2b, hr3b⟩ := dRl_s hR (s := (-((t : Int) + 1)) % p + 1) (by omega) (by omega)
                    have hcsb := (hi ((-((t : Int) + 1)) % p + 1).toNat (by omega)).2.2 (by decide)
                    have hxb : hM M 7 (((-((t : Int) + 1)) % p + 1) * 3).toNat = hs (((-((t : Int) + 1)) % p + 1) * 3).toNat := by have := hr3b 0 (by omega); rwa [show ((-((t : Int) + 1)) % p + 1) * 3 + ((0 : Nat) : Int) = ((-((t : Int) + 1)) % p + 1) * 3 by omega] at this
                    have hhb := ok7.2.2.1 (((-((t : Int) + 1)) % p + 1) * 3).toNat
                    have htgb : sp_tgt (M.mo (7 : Int).toNat) (M.pe (7 : Int).toNat) (xM M 7) ((-((t : Int) + 1)) % p + 1) (hM M 7 (((-((t : Int) + 1)) % p + 1) * 3).toNat) = sp_tgt 2 p xs ((-((t : Int) + 1)) % p + 1) (hs (((-((t : Int) + 1)) % p + 1) * 3).toNat) := by rw [em, ep, hxb]; unfold sp_tgt sp_land; rw [hr2b]
                    have hrgb := sp_tgt_rg ok7 (s := (-((t : Int) + 1)) % p + 1) (k := hs (((-((t : Int) + 1)) % p + 1) * 3).toNat) (fun _ => by have := (ok7.2.2.2.2.2 rfl).2 ((-((t : Int) + 1)) % p + 1).toNat; rwa [show 3 * ((-((t : Int) + 1)) % p + 1).toNat = (((-((t : Int) + 1)) % p + 1) * 3).toNat by omega] at this)
                    refine jl_iload d_Md_enter_115 rfl ?_
                    refine jl_iconst (v := zI (2)) d_Md_enter_117 (by decide) ?_
                    refine jz_icmp_ge (tgt := 179) d_Md_enter_118 (by decide) ⟨by omega, by omega⟩ ⟨by omega, by omega⟩ (fun qs1 => ?_) (fun qs1 => ?_)
                    · exact absurd qs1 (by decide)
                    · refine jl_aload_n d_Md_enter_121 rfl rfl ?_
                      refine jl_bipush (v := zI (7)) d_Md_enter_122 (by decide) ?_
                      refine jl_iload d_Md_enter_124 rfl ?_
                      refine jl_iload d_Md_enter_126 rfl ?_
                      refine jz_iadd (v := (-((t : Int) + 1)) % p + 1) d_Md_enter_128 (by omega) ?_
                      refine jl_iconst (v := zI (0)) d_Md_enter_129 (by decide) ?_
                      refine jl_invV (M' := m_Md_tall) (d' := d - 1) (ck' := 0) (sk' := 0) (na := 3) (as := [.int (zI (7)), .int (zI ((-((t : Int) + 1)) % p + 1)), .int (zI (0))]) (st := []) d_Md_enter_130 rfl p0s rfl mw_Md_73 ww_Md_tall sw_Md_tall nw_Md cw_Md_tall rfl rfl rfl (by decide +kernel) (by omega) (Nat.le_of_ble_eq_true rfl) (Nat.le_of_ble_eq_true rfl) ?_
                      refine k_M_tall0 hl9 (by omega) hM3 ⟨by decide, by decide⟩ ⟨by omega, by omega⟩ ?_
                      have e9b : hM (((M.wbl (bl0)).wla (la0)).wha (ha0)) 7 (((-((t : Int) + 1)) % p + 1) * 3).toNat = hs (((-((t : Int) + 1)) % p + 1) * 3).toNat := hxb
                      rw [e9b]
                      show jl_AW _ _ _ _ _ 133 [some (.ref (u)), some (.int (zI (g))), some (.int (zI (b))), some (.int (zI (p))), some (.int (zI (-((t : Int) + 1)))), some (.int (zI ((-((t : Int) + 1)) % p))), some (.int (zI (1))), none] [.int (zI (hs (((-((t : Int) + 1)) % p + 1) * 3).toNat))] n h5 _ _
                      refine jl_istore (L' := [some (.ref (u)), some (.int (zI (g))), some (.int (zI (b))), some (.int (zI (p))), some (.int (zI (-((t : Int) + 1)))), some (.int (zI ((-((t : Int) + 1)) % p))), some (.int (zI (1))), some (.int (zI (hs (((-((t : Int) + 1)) % p + 1) * 3).toNat)))]) d_Md_enter_133 (by decide) rfl ?_
                      refine jl_iload d_Md_enter_135 rfl ?_
                      refine jz_if_le (tgt := 173) d_Md_enter_137 (by decide) ⟨by omega, by omega⟩ (fun qa1 => ?_) (fun qa1 => ?_)
                      · refine jz_iinc (v := 2) (L' := [some (.ref (u)), some (.int (zI (g))), some (.int (zI (b))), some (.int (zI (p))), some (.int (zI (-((t : Int) + 1)))), some (.int (zI ((-((t : Int) + 1)) % p))), some (.int (zI (2))), some (.int (zI (hs (((-((t : Int) + 1)) % p + 1) * 3).toNat)))]) d_Md_enter_173 rfl (by omega) (by decide) rfl ?_
                        refine jl_goto (tgt := 115) d_Md_enter_176 (by decide) ?_
                        have hB4 : mBl (((M.wbl (bl0)).wla (la0)).wha (ha0)) (B ++ itL 2 p hs cs xs g b t ++ it2 p hs xs g b ((t : Int) + 1) ((-((t : Int) + 1)) % p + 0) ++ it2 p hs xs g b ((t : Int) + 1) ((-((t : Int) + 1)) % p + 1)) := (by rw [show it2 p hs xs g b ((t : Int) + 1) ((-((t : Int) + 1)) % p + 1) = [] from if_neg (fun q9 => by have := q9.1; omega), List.append_nil]; exact hB3)
                        refine jl_iload d_Md_enter_115 rfl ?_
                        refine jl_iconst (v := zI (2)) d_Md_enter_117 (by decide) ?_
                        refine jz_icmp_ge (tgt := 179) d_Md_enter_118 (by decide) ⟨by omega, by omega⟩ ⟨by omega, by omega⟩ (fun qe => ?_) (fun qe => ?_)
                        · refine jz_iinc (v := -(((t + 1 : Nat) : Int) + 1)) (L' := [some (.ref (u)), some (.int (zI (g))), some (.int (zI (b))), some (.int (zI (p))), some (.int (zI (-(((t + 1 : Nat) : Int) + 1)))), some (.int (zI ((-((t : Int) + 1)) % p))), some (.int (zI (2))), some (.int (zI (hs (((-((t : Int) + 1)) % p + 1) * 3).toNat)))]) d_Md_enter_179 rfl (by omega) (by decide) rfl ?_
                          refine jl_goto (tgt := 11) d_Md_enter_182 (by decide) ?_
                          refine jl_less (L' := [some (.ref (u)), some (.int (zI (g))), some (.int (zI (b))), some (.int (zI (p))), some (.int (zI (-(((t + 1 : Nat) : Int) + 1)))), none, none, none]) ⟨rfl, rfl, rfl, rfl, rfl, trivial⟩ ?_
                          exact ih (k - 1) (by omega) (t + 1) bl0 la0 ha0 h5 (by omega) hM3 (by rw [itL_2 ok7 hi (by omega), ← List.append_assoc, ← List.append_assoc]; exact hB4) (jfr_tr hf2 hfn0)
                        · exact absurd (by decide) qe
                      · refine jl_iload d_Md_enter_140 rfl ?_
                        refine jl_iload d_Md_enter_142 rfl ?_
                        refine jz_iadd (v := -((t : Int) + 1) + hs (((-((t : Int) + 1)) % p + 1) * 3).toNat) d_Md_enter_144 (by omega) ?_
                        refine jl_iload_n d_Md_enter_145 rfl rfl ?_
                        refine jz_icmp_ne (tgt := 173) d_Md_enter_146 (by decide) ⟨by omega, by omega⟩ ⟨by omega, by omega⟩ (fun qb1 => ?_) (fun qb1 => ?_)
                        · refine jz_iinc (v := 2) (L' := [some (.ref (u)), some (.int (zI (g))), some (.int (zI (b))), some (.int (zI (p))), some (.int (zI (-((t : Int) + 1)))), some (.int (zI ((-((t : Int) + 1)) % p))), some (.int (zI (2))), some (.int (zI (hs (((-((t : Int) + 1)) % p + 1) * 3).toNat)))]) d_Md_enter_173 rfl (by omega) (by decide) rfl ?_
                          refine jl_goto (tgt := 115) d_Md_enter_176 (by decide) ?_
                          have hB4 : mBl (((M.wbl (bl0)).wla (la0)).wha (ha0)) (B ++ itL 2 p hs cs xs g b t ++ it2 p hs xs g b ((t : Int) + 1) ((-((t : Int) + 1)) % p + 0) ++ it2 p hs xs g b ((t : Int) + 1) ((-((t : Int) + 1)) % p + 1)) := (by rw [show it2 p hs xs g b ((t : Int) + 1) ((-((t : Int) + 1)) % p + 1) = [] from if_neg (fun q9 => by have := q9.1; omega), List.append_nil]; exact hB3)
                          refine jl_iload d_Md_enter_115 rfl ?_
                          refine jl_iconst (v := zI (2)) d_Md_enter_117 (by decide) ?_
                          refine jz_icmp_ge (tgt := 179) d_Md_enter_118 (by decide) ⟨by omega, by omega⟩ ⟨by omega, by omega⟩ (fun qe => ?_) (fun qe => ?_)
                          · refine jz_iinc (v := -(((t + 1 : Nat) : Int) + 1)) (L' := [some (.ref (u)), some (.int (zI (g))), some (.int (zI (b))), some (.int (zI (p))), some (.int (zI (-(((t + 1 : Nat) : Int) + 1)))), some (.int (zI ((-((t : Int) + 1)) % p))), some (.int (zI (2))), some (.int (zI (hs (((-((t : Int) + 1)) % p + 1) * 3).toNat)))]) d_Md_enter_179 rfl (by omega) (by decide) rfl ?_
                            refine jl_goto (tgt := 11) d_Md_enter_182 (by decide) ?_
                            refine jl_less (L' := [some (.ref (u)), some (.int (zI (g))), some (.int (zI (b))), some (.int (zI (p))), some (.int (zI (-(((t + 1 : Nat) : Int) + 1)))), none, none, none]) ⟨rfl, rfl, rfl, rfl, rfl, trivial⟩ ?_
                            exact ih (k - 1) (by omega) (t + 1) bl0 la0 ha0 h5 (by omega) hM3 (by rw [itL_2 ok7 hi (by omega), ← List.append_assoc, ← List.append_assoc]; exact hB4) (jfr_tr hf2 hfn0)
                          · exact absurd (by decide) qe
                        · refine jl_aload_n d_Md_enter_149 rfl rfl ?_
                          refine jl_bipush (v := zI (7)) d_Md_enter_150 (by decide) ?_
                          refine jl_iload d_Md_enter_152 rfl ?_
                          refine jl_iload d_Md_enter_154 rfl ?_
                          refine jz_iadd (v := (-((t : Int) + 1)) % p + 1) d_Md_enter_156 (by omega) ?_
                          refine jl_iconst (v := zI (0)) d_Md_enter_157 (by decide) ?_
                          refine jl_invV (M' := m_Md_target) (d' := d - 1) (ck' := 0) (sk' := 0) (na := 3) (as := [.int (zI (7)), .int (zI ((-((t : Int) + 1)) % p + 1)), .int (zI (0))]) (st := []) d_Md_enter_158 rfl p0s rfl mw_Md_77 ww_Md_target sw_Md_target nw_Md cw_Md_target rfl rfl rfl (by decide +kernel) (by omega) (Nat.le_of_ble_eq_true rfl) (Nat.le_of_ble_eq_true rfl) ?_
                          refine k_M_target0 hl9 (by omega) hM3 ok (show 1 ≤ M.pe (7 : Int).toNat by omega) ⟨by decide, by decide⟩ ⟨by omega, by omega⟩ ?_
                          have e8b : sp_tgt (M.mo (7 : Int).toNat) (M.pe (7 : Int).toNat) (xM (((M.wbl (bl0)).wla (la0)).wha (ha0)) 7) ((-((t : Int) + 1)) % p + 1) (hM (((M.wbl (bl0)).wla (la0)).wha (ha0)) 7 (((-((t : Int) + 1)) % p + 1) * 3).toNat) = sp_tgt 2 p xs ((-((t : Int) + 1)) % p + 1) (hs (((-((t : Int) + 1)) % p + 1) * 3).toNat) := htgb
                          show jl_AW _ _ _ _ _ 161 [some (.ref (u)), some (.int (zI (g))), some (.int (zI (b))), some (.int (zI (p))), some (.int (zI (-((t : Int) + 1)))), some (.int (zI ((-((t : Int) + 1)) % p))), some (.int (zI (1))), some (.int (zI (hs (((-((t : Int) + 1)) % p + 1) * 3).toNat)))] [.int (zI (sp_tgt (M.mo (7 : Int).toNat) (M.pe (7 : Int).toNat) (xM (((M.wbl (bl0)).wla (la0)).wha (ha0)) 7) ((-((t : Int) + 1)) % p + 1) (hM (((M.wbl (bl0)).wla (la0)).wha (ha0)) 7 (((-((t : Int) + 1)) % p + 1) * 3).toNat)))] n h5 _ _
                          rw [e8b]
                          refine jl_iconst (v := zI (2)) d_Md_enter_161 (by decide) ?_
                          refine jz_irem (v := sp_tgt 2 p xs ((-((t : Int) + 1)) % p + 1) (hs (((-((t : Int) + 1)) % p + 1) * 3).toNat) % 2) d_Md_enter_162 ⟨by omega, by omega⟩ ⟨by decide, by decide⟩ (by decide) (Int.tmod_eq_emod_of_nonneg (by omega)) ?_
                          refine jl_iload_n d_Md_enter_163 rfl rfl ?_
                          refine jz_icmp_ne (tgt := 173) d_Md_enter_164 (by decide) ⟨by omega, by omega⟩ ⟨by omega, by omega⟩ (fun qc1 => ?_) (fun qc1 => ?_)
                          · refine jz_iinc (v := 2) (L' := [some (.ref (u)), some (.int (zI (g))), some (.int (zI (b))), some (.int (zI (p))), some (.int (zI (-((t : Int) + 1)))), some (.int (zI ((-((t : Int) + 1)) % p))), some (.int (zI (2))), some (.int (zI (hs (((-((t : Int) + 1)) % p + 1) * 3).toNat)))]) d_Md_enter_173 rfl (by omega) (by decide) rfl ?_
                            refine jl_goto (tgt := 115) d_Md_enter_176 (by decide) ?_
                            have hB4 : mBl (((M.wbl (bl0)).wla (la0)).wha (ha0)) (B ++ itL 2 p hs cs xs g b t ++ it2 p hs xs g b ((t : Int) + 1) ((-((t : Int) + 1)) % p + 0) ++ it2 p hs xs g b ((t : Int) + 1) ((-((t : Int) + 1)) % p + 1)) := (by rw [show it2 p hs xs g b ((t : Int) + 1) ((-((t : Int) + 1)) % p + 1) = [] from if_neg (fun q9 => qc1 q9.2), List.append_nil]; exact hB3)
                            refine jl_iload d_Md_enter_115 rfl ?_
                            refine jl_iconst (v := zI (2)) d_Md_enter_117 (by decide) ?_
                            refine jz_icmp_ge (tgt := 179) d_Md_enter_118 (by decide) ⟨by omega, by omega⟩ ⟨by omega, by omega⟩ (fun qe => ?_) (fun qe => ?_)
                            · refine jz_iinc (v := -(((t + 1 : Nat) : Int) + 1)) (L' := [some (.ref (u)), some (.int (zI (g))), some (.int (zI (b))), some (.int (zI (p))), some (.int (zI (-(((t + 1 : Nat) : Int) + 1)))), some (.int (zI ((-((t : Int) + 1)) % p))), some (.int (zI (2))), some (.int (zI (hs (((-((t : Int) + 1)) % p + 1) * 3).toNat)))]) d_Md_enter_179 rfl (by omega) (by decide) rfl ?_
                              refine jl_goto (tgt := 11) d_Md_enter_182 (by decide) ?_
                              refine jl_less (L' := [some (.ref (u)), some (.int (zI (g))), some (.int (zI (b))), some (.int (zI (p))), some (.int (zI (-(((t + 1 : Nat) : Int) + 1)))), none, none, none]) ⟨rfl, rfl, rfl, rfl, rfl, trivial⟩ ?_
                              exact ih (k - 1) (by omega) (t + 1) bl0 la0 ha0 h5 (by omega) hM3 (by rw [itL_2 ok7 hi (by omega), ← List.append_assoc, ← List.append_assoc]; exact hB4) (jfr_tr hf2 hfn0)
                            · exact absurd (by decide) qe
                          · have eib : it2 p hs xs g b ((t : Int) + 1) ((-((t : Int) + 1)) % p + 1) = [(g, b)] := by rw [it2, if_pos ⟨by omega, qc1⟩]
                            have hlnb : (it2 p hs xs g b ((t : Int) + 1) ((-((t : Int) + 1)) % p + 1)).length = 1 := by rw [eib]; rfl
                            have hl27b : (B ++ itL 2 p hs cs xs g b t ++ it2 p hs xs g b ((t : Int) + 1) ((-((t : Int) + 1)) % p + 0)).length < 27 := by simp only [List.length_append] at hmono hlB ⊢; omega
                            refine jl_aload_n d_Md_enter_167 rfl rfl ?_
                            refine jl_iload_n d_Md_enter_168 rfl rfl ?_
                            refine jl_iload_n d_Md_enter_169 rfl rfl ?_
                            refine jl_invV (M' := m_Md_comes) (d' := d - 1) (ck' := 0) (sk' := 0) (na := 2) (as := [.int (zI (g)), .int (zI (b))]) (st := []) d_Md_enter_170 rfl p0s rfl mw_Md_123 ww_Md_comes sw_Md_comes nw_Md cw_Md_comes rfl rfl rfl (by decide +kernel) (by omega) (Nat.le_of_ble_eq_true rfl) (Nat.le_of_ble_eq_true rfl) ?_
                            refine k_M_comes hl9 (by omega) hM3 hB3 hl27b (fun h6 bl1 la1 ha1 hMn1 hBn1 hfn1 => ?_)
                            show jl_AW _ _ _ _ _ 173 [some (.ref (u)), some (.int (zI (g))), some (.int (zI (b))), some (.int (zI (p))), some (.int (zI (-((t : Int) + 1)))), some (.int (zI ((-((t : Int) + 1)) % p))), some (.int (zI (1))), some (.int (zI (hs (((-((t : Int) + 1)) % p + 1) * 3).toNat)))] [] n h6 _ _
                            refine jz_iinc (v := 2) (L' := [some (.ref (u)), some (.int (zI (g))), some (.int (zI (b))), some (.int (zI (p))), some (.int (zI (-((t : Int) + 1)))), some (.int (zI ((-((t : Int) + 1)) % p))), some (.int (zI (2))), some (.int (zI (hs (((-((t : Int) + 1)) % p + 1) * 3).toNat)))]) d_Md_enter_173 rfl (by omega) (by decide) rfl ?_
                            refine jl_goto (tgt := 115) d_Md_enter_176 (by decide) ?_
                            have hB4 : mBl (((M.wbl (bl1)).wla (la1)).wha (ha1)) (B ++ itL 2 p hs cs xs g b t ++ it2 p hs xs g b ((t : Int) + 1) ((-((t : Int) + 1)) % p + 0) ++ it2 p hs xs g b ((t : Int) + 1) ((-((t : Int) + 1)) % p + 1)) := (by rw [eib]; exact hBn1)
                            refine jl_iload d_Md_enter_115 rfl ?_
                            refine jl_iconst (v := zI (2)) d_Md_enter_117 (by decide) ?_
                            refine jz_icmp_ge (tgt := 179) d_Md_enter_118 (by decide) ⟨by omega, by omega⟩ ⟨by omega, by omega⟩ (fun qe => ?_) (fun qe => ?_)
                            · refine jz_iinc (v := -(((t + 1 : Nat) : Int) + 1)) (L' := [some (.ref (u)), some (.int (zI (g))), some (.int (zI (b))), some (.int (zI (p))), some (.int (zI (-(((t + 1 : Nat) : Int) + 1)))), some (.int (zI ((-((t : Int) + 1)) % p))), some (.int (zI (2))), some (.int (zI (hs (((-((t : Int) + 1)) % p + 1) * 3).toNat)))]) d_Md_enter_179 rfl (by omega) (by decide) rfl ?_
                              refine jl_goto (tgt := 11) d_Md_enter_182 (by decide) ?_
                              refine jl_less (L' := [some (.ref (u)), some (.int (zI (g))), some (.int (zI (b))), some (.int (zI (p))), some (.int (zI (-(((t + 1 : Nat) : Int) + 1)))), none, none, none]) ⟨rfl, rfl, rfl, rfl, rfl, trivial⟩ ?_
                              exact ih (k - 1) (by omega) (t + 1) bl1 la1 ha1 h6 (by omega) hMn1 (by rw [itL_2 ok7 hi (by omega), ← List.append_assoc, ← List.append_assoc]; exact hB4) (jfr_tr (jfr_tr hf2 hfn0) hfn1)
                            · exact absurd (by decide) qe
        · exact absurd q1 (by decide)
  exact lp1 9 0 M.bl M.la M.ha h (by omega) hM9 (by rw [itL, List.append_nil]; exact hB) (fun _ _ => rfl)
