set_option maxHeartbeats 4000000 in
set_option maxRecDepth 100000 in
theorem k_M_behind {l : Launch} {G : jl_G} {d n : Nat} {h : Nat → va_E} {Kr : Option Value → Nat → (Nat → va_E) → Prop} {Kx : String → Nat → (Nat → va_E) → Prop} (hl9 : l.stackTraces = false) (hdd : 0 ≤ d) {v k9 : Int} (hv : 0 ≤ v ∧ v < 512) (hh : 0 ≤ k9 ∧ k9 ≤ 9) (hk : Kr (some (.int (zI (sa v k9)))) n h) : jl_Call l G m_Md_behind d [.int (zI (v)), .int (zI (k9))] n h 0 0 Kr Kx := by
  refine jl_enter hl9 (by decide) rfl (by simp [Value.category]) (Nat.le_of_ble_eq_true rfl) ?_
  show jl_AW l G (jl_F G Kr Kx) m_Md_behind d 0 [some (.int (zI (v))), some (.int (zI (k9))), none] [] n h 0 0
  refine jl_iload_n d_Md_behind_0 rfl rfl ?_
  refine jl_iconst (v := zI (2)) d_Md_behind_1 (by decide) ?_
  refine jz_idiv (v := v / 2) d_Md_behind_2 ⟨by omega, by omega⟩ ⟨by decide, by decide⟩ (by decide) (Int.tdiv_eq_ediv_of_nonneg (by omega)) ?_
  refine jl_istore_n (L' := [some (.int (zI (v))), some (.int (zI (k9))), some (.int (zI (v / 2)))]) d_Md_behind_3 rfl (by decide) rfl ?_
  refine jl_iload_n d_Md_behind_4 rfl rfl ?_
  refine jl_iconst (v := zI (2)) d_Md_behind_5 (by decide) ?_
  refine jz_irem (v := v % 2) d_Md_behind_6 ⟨by omega, by omega⟩ ⟨by decide, by decide⟩ (by decide) (Int.tmod_eq_emod_of_nonneg (by omega)) ?_
  refine jz_if_ne (tgt := 20) d_Md_behind_7 (by decide) ⟨by omega, by omega⟩ (fun q1 => ?_) (fun q1 => ?_)
  · refine jl_iload_n d_Md_behind_20 rfl rfl ?_
    refine jz_if_eq (tgt := 35) d_Md_behind_21 (by decide) ⟨by omega, by omega⟩ (fun q2 => ?_) (fun q2 => ?_)
    · refine jl_iconst (v := zI (-1)) d_Md_behind_35 (by decide) ?_
      refine jl_goto (tgt := 46) d_Md_behind_36 (by decide) ?_
      exact jl_iret d_Md_behind_46 rfl (by rw [sa_b hv hh, if_neg q1, if_pos q2] at hk; exact hk)
    · have e9 := bh_1 (v / 2).toNat (by omega) (k9 - 1).toNat (by omega)
      rw [show (((v / 2).toNat : Nat) : Int) = v / 2 by omega, show (((k9 - 1).toNat : Nat) : Int) = k9 - 1 by omega] at e9
      refine jl_iload_n d_Md_behind_24 rfl rfl ?_
      refine jl_iload_n d_Md_behind_25 rfl rfl ?_
      refine jl_iconst (v := zI (1)) d_Md_behind_26 (by decide) ?_
      refine jz_isub (v := k9 - 1) d_Md_behind_27 (by omega) ?_
      refine jl_ishr d_Md_behind_28 (jl_iconst (v := zI (1)) d_Md_behind_29 (by decide) (jl_iand d_Md_behind_30 (jz_int e9 ?_)))
      refine jl_iconst (v := zI (1)) d_Md_behind_31 (by decide) ?_
      refine jz_icmp_ne (tgt := 39) d_Md_behind_32 (by decide) ⟨by omega, by omega⟩ ⟨by omega, by omega⟩ (fun q3 => ?_) (fun q3 => ?_)
      · have e8 := bg_2 (k9 - 1).toNat (by omega)
        have e7 := bg_4 (v / 2).toNat (by omega) (k9 - 1).toNat (by omega)
        rw [show (((v / 2).toNat : Nat) : Int) = v / 2 by omega] at e7
        rw [show (((k9 - 1).toNat : Nat) : Int) = k9 - 1 by omega] at e8
        refine jl_iload_n d_Md_behind_39 rfl rfl ?_
        refine jl_iconst (v := zI (1)) d_Md_behind_40 (by decide) ?_
        refine jl_iload_n d_Md_behind_41 rfl rfl ?_
        refine jl_iconst (v := zI (1)) d_Md_behind_42 (by decide) ?_
        refine jz_isub (v := k9 - 1) d_Md_behind_43 (by omega) ?_
        refine jl_ishl d_Md_behind_44 (jz_int e8 (jl_ior d_Md_behind_45 (jz_int e7 ?_)))
        exact jl_iret d_Md_behind_46 rfl (by rw [sa_b hv hh, if_neg q1, if_neg q2, if_neg (by omega)] at hk; exact hk)
      · refine jl_iconst (v := zI (-1)) d_Md_behind_35 (by decide) ?_
        refine jl_goto (tgt := 46) d_Md_behind_36 (by decide) ?_
        exact jl_iret d_Md_behind_46 rfl (by rw [sa_b hv hh, if_neg q1, if_neg q2, if_pos (by omega)] at hk; exact hk)
  · refine jl_iload_n d_Md_behind_10 rfl rfl ?_
    refine jz_if_ne (tgt := 18) d_Md_behind_11 (by decide) ⟨by omega, by omega⟩ (fun q2 => ?_) (fun q2 => ?_)
    · refine jl_iconst (v := zI (-1)) d_Md_behind_18 (by decide) ?_
      exact jl_iret d_Md_behind_19 rfl (by rw [sa_b hv hh, if_pos q1, if_neg q2] at hk; exact hk)
    · refine jl_iload_n d_Md_behind_14 rfl rfl ?_
      refine jl_goto (tgt := 19) d_Md_behind_15 (by decide) ?_
      exact jl_iret d_Md_behind_19 rfl (by rw [sa_b hv hh, if_pos q1, if_pos q2] at hk; exact hk)
set_option maxHeartbeats 4000000 in
set_option maxRecDepth 100000 in
theorem k_M_measure {l : Launch} {G : jl_G} {d n : Nat} {h : Nat → va_E} {Kr : Option Value → Nat → (Nat → va_E) → Prop} {Kx : String → Nat → (Nat → va_E) → Prop} (hl9 : l.stackTraces = false) (hdd : 2 ≤ d) {u : Nat} {M : MS} {d9 : Int} (hM9 : jM h u M) (ok : mOk M) (hd9 : 0 ≤ d9 ∧ d9 < 8) (hpe : 1 ≤ M.pe d9.toNat) (hk : ∀ fa h', fD (glS (M.pe d9.toNat) (hM M d9)) fa → jM h' u (M.wfa fa) → jfr h h' u (u + 14) → Kr none n h') : jl_Call l G m_Md_measure d [.ref (u), .int (zI (d9))] n h 0 0 Kr Kx := by
  refine jl_enter hl9 (by decide) rfl (by simp [Value.category]) (Nat.le_of_ble_eq_true rfl) ?_
  show jl_AW l G (jl_F G Kr Kx) m_Md_measure d 0 [some (.ref (u)), some (.int (zI (d9))), none, none, none, none] [] n h 0 0
  have hp9 := ok.2.1 d9.toNat
  have lpp : ∀ (k : Nat) (fa : Nat → Int) (h2 : Nat → va_E), smI fa 512 ≤ k → fI (glS (M.pe d9.toNat) (hM M d9)) fa → jM h2 u (M.wfa fa) → jfr h h2 u (u + 14) → jl_AW l G (jl_F G Kr Kx) m_Md_measure d 60 [some (.ref (u)), some (.int (zI (d9))), none, none, none, none] [] n h2 0 0 := by
    intro k
    induction k using Nat.strongRecOn with
    | ind k ih =>
      intro fa h2 hS2 hI2 hM2 hf2
      have lpv : ∀ (kv : Nat) (v : Nat) (c : Int) (fb : Nat → Int) (h3 : Nat → va_E), v + kv = 512 → fI (glS (M.pe d9.toNat) (hM M d9)) fb → smI fb 512 + c ≤ k → (c = 0 ∨ c = 1) → (c = 0 → fP fb (v : Int) 0) → jM h3 u (M.wfa fb) → jfr h h3 u (u + 14) → jl_AW l G (jl_F G Kr Kx) m_Md_measure d 64 [some (.ref (u)), some (.int (zI (d9))), some (.int (zI (c))), some (.int (zI ((v : Int)))), none, none] [] n h3 0 0 := by
        intro kv
        induction kv using Nat.strongRecOn with
        | ind kv ihv =>
          intro v c fb h3 hkv hI3 hS3 hc3 hP3 hM3 hf3
          have lph : ∀ (kh : Nat) (t : Nat) (c : Int) (fb : Nat → Int) (h3 : Nat → va_E), t + kh = 10 → v < 512 → fI (glS (M.pe d9.toNat) (hM M d9)) fb → smI fb 512 + c ≤ k → (c = 0 ∨ c = 1) → (c = 0 → fP fb (v : Int) (t : Int)) → jM h3 u (M.wfa fb) → jfr h h3 u (u + 14) → jl_AW l G (jl_F G Kr Kx) m_Md_measure d 74 [some (.ref (u)), some (.int (zI (d9))), some (.int (zI (c))), some (.int (zI ((v : Int)))), some (.int (zI ((t : Int)))), none] [] n h3 0 0 := by
            intro kh
            induction kh using Nat.strongRecOn with
            | ind kh ihh =>
              intro t c fb h3 hkt hv5 hI3 hS3 hc3 hP3 hM3 hf3
              have hg1 := fI_rg hI3 (v := (v : Int)) (by omega) (by omega)
              obtain ⟨q0y, q1y, q2y, q3y, q4y, q5y, q6y, q7y, q8y, q9y, q10y, q11y, q12y, q13y⟩ := id (hM3)
              have p0y : h3 u = jO 6 [.int (zI (M.T)), .ref (u + 1), .ref (u + 2), .ref (u + 3), .ref (u + 4), .ref (u + 5), .int (zI (M.jn)), .int (zI (M.ja)), .int (zI (M.jb)), .ref (u + 6), .ref (u + 7), .int (zI (M.nw)), .int (zI (M.bl)), .int (zI (M.lt)), .int (zI (M.rt)), .ref (u + 8), .ref (u + 9), .ref (u + 10), .ref (u + 11), .ref (u + 12), .ref (u + 13)] := q0y
              have p1y : h3 (u + 1) = jI 8 (fun j9 => zI (M.mo j9)) := q1y
              have p2y : h3 (u + 2) = jI 8 (fun j9 => zI (M.pe j9)) := q2y
              have p3y : h3 (u + 3) = jI 128 (fun j9 => zI (M.co j9)) := q3y
              have p4y : h3 (u + 4) = jI 384 (fun j9 => zI (M.he j9)) := q4y
              have p5y : h3 (u + 5) = jZ 128 (fun j9 => zI (M.cr j9)) := q5y
              have p6y : h3 (u + 6) = jI 16 (fun j9 => zI (M.wy j9)) := q6y
              have p7y : h3 (u + 7) = jI 512 (fun j9 => zI (fb j9)) := q7y
              have p8y : h3 (u + 8) = jI 32 (fun j9 => zI (M.la j9)) := q8y
              have p9y : h3 (u + 9) = jI 32 (fun j9 => zI (M.ha j9)) := q9y
              have p10y : h3 (u + 10) = jI 4096 (fun j9 => zI (M.w1 j9)) := q10y
              have p11y : h3 (u + 11) = jI 4096 (fun j9 => zI (M.mr j9)) := q11y
              have p12y : h3 (u + 12) = jI 6 (fun j9 => zI (M.rw j9)) := q12y
              have p13y : h3 (u + 13) = jI 16 (fun j9 => zI (M.tu j9)) := q13y
              refine jl_iload d_Md_measure_74 rfl ?_
              refine jl_bipush (v := zI (9)) d_Md_measure_76 (by decide) ?_
              refine jz_icmp_gt (tgt := 135) d_Md_measure_78 (by decide) ⟨by omega, by omega⟩ ⟨by omega, by omega⟩ (fun hc => ?_) (fun hc => ?_)
              · have et : t = 10 := by omega
                refine jz_iinc (v := ((v + 1 : Nat) : Int)) (L' := [some (.ref (u)), some (.int (zI (d9))), some (.int (zI (c))), some (.int (zI (((v + 1 : Nat) : Int)))), some (.int (zI ((t : Int)))), none]) d_Md_measure_135 rfl (by omega) (by decide) rfl ?_
                refine jl_goto (tgt := 64) d_Md_measure_138 (by decide) ?_
                refine jl_less (L' := [some (.ref (u)), some (.int (zI (d9))), some (.int (zI (c))), some (.int (zI (((v + 1 : Nat) : Int)))), none, none]) ⟨rfl, rfl, rfl, rfl, trivial⟩ ?_
                exact ihv (kv - 1) (by omega) (v + 1) c fb h3 (by omega) hI3 hS3 hc3 (fun e9 => by have h8 := hP3 e9; rw [et] at h8; have h7 := fP_v h8; rw [show ((v + 1 : Nat) : Int) = (v : Int) + 1 by omega]; exact h7) hM3 hf3
              · refine jl_iload_n d_Md_measure_81 rfl rfl ?_
                refine jl_iload d_Md_measure_82 rfl ?_
                refine jl_invS (M' := m_Md_behind) (d' := d - 1) (ck' := 0) (sk' := 0) (na := 2) (as := [.int (zI ((v : Int))), .int (zI ((t : Int)))]) (st := []) d_Md_measure_84 rfl mw_Md_104 ww_Md_behind nw_Md cw_Md_behind rfl rfl rfl (by decide +kernel) (by omega) (Nat.le_of_ble_eq_true rfl) (Nat.le_of_ble_eq_true rfl) ?_
                refine k_M_behind hl9 (by omega) ⟨by omega, by omega⟩ ⟨by omega, by omega⟩ ?_
                show jl_AW _ _ _ _ _ 87 [some (.ref (u)), some (.int (zI (d9))), some (.int (zI (c))), some (.int (zI ((v : Int)))), some (.int (zI ((t : Int)))), none] [.int (zI (sa (v : Int) (t : Int)))] n h3 _ _
                have hsa := sa_rg (v := (v : Int)) (h := (t : Int)) ⟨by omega, by omega⟩ ⟨by omega, by omega⟩
                refine jl_istore (L' := [some (.ref (u)), some (.int (zI (d9))), some (.int (zI (c))), some (.int (zI ((v : Int)))), some (.int (zI ((t : Int)))), some (.int (zI (sa (v : Int) (t : Int))))]) d_Md_measure_87 (by decide) rfl ?_
                refine jl_iload d_Md_measure_89 rfl ?_
                refine jz_if_lt (tgt := 129) d_Md_measure_91 (by decide) ⟨by omega, by omega⟩ (fun q1 => ?_) (fun q1 => ?_)
                · refine jz_iinc (v := ((t + 1 : Nat) : Int)) (L' := [some (.ref (u)), some (.int (zI (d9))), some (.int (zI (c))), some (.int (zI ((v : Int)))), some (.int (zI (((t + 1 : Nat) : Int)))), some (.int (zI (sa (v : Int) (t : Int))))]) d_Md_measure_129 rfl (by omega) (by decide) rfl ?_
                  refine jl_goto (tgt := 74) d_Md_measure_132 (by decide) ?_
                  refine jl_less (L' := [some (.ref (u)), some (.int (zI (d9))), some (.int (zI (c))), some (.int (zI ((v : Int)))), some (.int (zI (((t + 1 : Nat) : Int)))), none]) ⟨rfl, rfl, rfl, rfl, rfl, trivial⟩ ?_
                  exact ihh (kh - 1) (by omega) (t + 1) c fb h3 (by omega) hv5 hI3 hS3 (by omega) (fun e9 => by have h8 := fP_s (hP3 e9) (fun w9 => absurd (show sa (v : Int) (t : Int) = -1 by omega) w9); rw [show ((t + 1 : Nat) : Int) = (t : Int) + 1 by omega]; exact h8) hM3 hf3
                · have hsb : 0 ≤ sa (v : Int) (t : Int) ∧ sa (v : Int) (t : Int) < 512 := by omega
                  have hg2 := fI_rg hI3 hsb.1 hsb.2
                  refine jl_aload_n d_Md_measure_94 rfl rfl ?_
                  refine jg_6 (q := 10) d_Md_measure_95 p0y rfl (by decide) fw_Md_33 ?_
                  refine jl_iload d_Md_measure_98 rfl ?_
                  refine jz_iald d_Md_measure_100 p7y (by omega) (by omega) (by omega) ?_
                  refine jl_iconst (v := zI (1)) d_Md_measure_101 (by decide) ?_
                  refine jz_iadd (v := fb (sa (v : Int) (t : Int)).toNat + 1) d_Md_measure_102 (by omega) ?_
                  refine jl_aload_n d_Md_measure_103 rfl rfl ?_
                  refine jg_6 (q := 10) d_Md_measure_104 p0y rfl (by decide) fw_Md_33 ?_
                  refine jl_iload_n d_Md_measure_107 rfl rfl ?_
                  refine jz_iald d_Md_measure_108 p7y (by omega) (by omega) (by omega) ?_
                  refine jz_icmp_ge (tgt := 129) d_Md_measure_109 (by decide) ⟨by omega, by omega⟩ ⟨by omega, by omega⟩ (fun q2 => ?_) (fun q2 => ?_)
                  · refine jz_iinc (v := ((t + 1 : Nat) : Int)) (L' := [some (.ref (u)), some (.int (zI (d9))), some (.int (zI (c))), some (.int (zI ((v : Int)))), some (.int (zI (((t + 1 : Nat) : Int)))), some (.int (zI (sa (v : Int) (t : Int))))]) d_Md_measure_129 rfl (by omega) (by decide) rfl ?_
                    refine jl_goto (tgt := 74) d_Md_measure_132 (by decide) ?_
                    refine jl_less (L' := [some (.ref (u)), some (.int (zI (d9))), some (.int (zI (c))), some (.int (zI ((v : Int)))), some (.int (zI (((t + 1 : Nat) : Int)))), none]) ⟨rfl, rfl, rfl, rfl, rfl, trivial⟩ ?_
                    exact ihh (kh - 1) (by omega) (t + 1) c fb h3 (by omega) hv5 hI3 hS3 (by omega) (fun e9 => by have h8 := fP_s (hP3 e9) (fun w9 => (by omega)); rw [show ((t + 1 : Nat) : Int) = (t : Int) + 1 by omega]; exact h8) hM3 hf3
                  · have hput := fI_put hI3 (v := (v : Int)) (t := (t : Int)) ⟨by omega, by omega⟩ ⟨by omega, by omega⟩ (by omega) (by omega)
                    refine jl_aload_n d_Md_measure_112 rfl rfl ?_
                    refine jg_6 (q := 10) d_Md_measure_113 p0y rfl (by decide) fw_Md_33 ?_
                    refine jl_iload_n d_Md_measure_116 rfl rfl ?_
                    refine jl_aload_n d_Md_measure_117 rfl rfl ?_
                    refine jg_6 (q := 10) d_Md_measure_118 p0y rfl (by decide) fw_Md_33 ?_
                    refine jl_iload d_Md_measure_121 rfl ?_
                    refine jz_iald d_Md_measure_123 p7y (by omega) (by omega) (by omega) ?_
                    refine jl_iconst (v := zI (1)) d_Md_measure_124 (by decide) ?_
                    refine jz_iadd (v := fb (sa (v : Int) (t : Int)).toNat + 1) d_Md_measure_125 (by omega) ?_
                    refine jz_iasth d_Md_measure_126 p7y (by omega) (by omega) (by omega) (fun h1 eh1 => ?_)
                    have jf2 : h1 (u + 7) = jI 512 (fun j9 => zI ((va_up fb ((v : Int)).toNat (fb (sa (v : Int) (t : Int)).toNat + 1)) j9)) := by rw [eh1, va_up_self]
                    refine jl_iconst (v := zI (1)) d_Md_measure_127 (by decide) ?_
                    refine jl_istore_n (L' := [some (.ref (u)), some (.int (zI (d9))), some (.int (zI (1))), some (.int (zI ((v : Int)))), some (.int (zI ((t : Int)))), some (.int (zI (sa (v : Int) (t : Int))))]) d_Md_measure_128 rfl (by decide) rfl ?_
                    have jf3 : h1 (u) = jO 6 [.int (zI (M.T)), .ref (u + 1), .ref (u + 2), .ref (u + 3), .ref (u + 4), .ref (u + 5), .int (zI (M.jn)), .int (zI (M.ja)), .int (zI (M.jb)), .ref (u + 6), .ref (u + 7), .int (zI (M.nw)), .int (zI (M.bl)), .int (zI (M.lt)), .int (zI (M.rt)), .ref (u + 8), .ref (u + 9), .ref (u + 10), .ref (u + 11), .ref (u + 12), .ref (u + 13)] := by rw [eh1, va_up_ne _ _ (by omega)]; exact p0y
                    have jf4 : h1 (u + 1) = jI 8 (fun j9 => zI (M.mo j9)) := by rw [eh1, va_up_ne _ _ (by omega)]; exact p1y
                    have jf5 : h1 (u + 2) = jI 8 (fun j9 => zI (M.pe j9)) := by rw [eh1, va_up_ne _ _ (by omega)]; exact p2y
                    have jf6 : h1 (u + 3) = jI 128 (fun j9 => zI (M.co j9)) := by rw [eh1, va_up_ne _ _ (by omega)]; exact p3y
                    have jf7 : h1 (u + 4) = jI 384 (fun j9 => zI (M.he j9)) := by rw [eh1, va_up_ne _ _ (by omega)]; exact p4y
                    have jf8 : h1 (u + 5) = jZ 128 (fun j9 => zI (M.cr j9)) := by rw [eh1, va_up_ne _ _ (by omega)]; exact p5y
                    have jf9 : h1 (u + 6) = jI 16 (fun j9 => zI (M.wy j9)) := by rw [eh1, va_up_ne _ _ (by omega)]; exact p6y
                    have jf10 : h1 (u + 8) = jI 32 (fun j9 => zI (M.la j9)) := by rw [eh1, va_up_ne _ _ (by omega)]; exact p8y
                    have jf11 : h1 (u + 9) = jI 32 (fun j9 => zI (M.ha j9)) := by rw [eh1, va_up_ne _ _ (by omega)]; exact p9y
                    have jf12 : h1 (u + 10) = jI 4096 (fun j9 => zI (M.w1 j9)) := by rw [eh1, va_up_ne _ _ (by omega)]; exact p10y
                    have jf13 : h1 (u + 11) = jI 4096 (fun j9 => zI (M.mr j9)) := by rw [eh1, va_up_ne _ _ (by omega)]; exact p11y
                    have jf14 : h1 (u + 12) = jI 6 (fun j9 => zI (M.rw j9)) := by rw [eh1, va_up_ne _ _ (by omega)]; exact p12y
                    have jf15 : h1 (u + 13) = jI 16 (fun j9 => zI (M.tu j9)) := by rw [eh1, va_up_ne _ _ (by omega)]; exact p13y
                    refine jz_iinc (v := ((t + 1 : Nat) : Int)) (L' := [some (.ref (u)), some (.int (zI (d9))), some (.int (zI (1))), some (.int (zI ((v : Int)))), some (.int (zI (((t + 1 : Nat) : Int)))), some (.int (zI (sa (v : Int) (t : Int))))]) d_Md_measure_129 rfl (by omega) (by decide) rfl ?_
                    refine jl_goto (tgt := 74) d_Md_measure_132 (by decide) ?_
                    refine jl_less (L' := [some (.ref (u)), some (.int (zI (d9))), some (.int (zI (1))), some (.int (zI ((v : Int)))), some (.int (zI (((t + 1 : Nat) : Int)))), none]) ⟨rfl, rfl, rfl, rfl, rfl, trivial⟩ ?_
                    exact ihh (kh - 1) (by omega) (t + 1) 1 (va_up fb ((v : Int)).toNat (fb (sa (v : Int) (t : Int)).toNat + 1)) h1 (by omega) hv5 hput.1 (by have := hput.2; omega) (by omega) (fun e9 => absurd e9 (by decide)) ⟨jf3, jf4, jf5, jf6, jf7, jf8, jf9, jf2, jf10, jf11, jf12, jf13, jf14, jf15⟩ (fun y hy => by rw [eh1, va_up_ne _ _ (by omega)]; exact hf3 y hy)
          have hz3 : 0 ≤ c ∧ c ≤ 1 := by omega
          refine jl_iload_n d_Md_measure_64 rfl rfl ?_
          refine jl_sipush (v := zI (512)) d_Md_measure_65 (by decide) ?_
          refine jz_icmp_ge (tgt := 141) d_Md_measure_68 (by decide) ⟨by omega, by omega⟩ ⟨by omega, by omega⟩ (fun hc => ?_) (fun hc => ?_)
          · have ev : v = 512 := by omega
            refine jl_goto (tgt := 56) d_Md_measure_141 (by decide) ?_
            refine jl_iload_n d_Md_measure_56 rfl rfl ?_
            refine jz_if_eq (tgt := 144) d_Md_measure_57 (by decide) ⟨by omega, by omega⟩ (fun q1 => ?_) (fun q1 => ?_)
            · exact jl_vret d_Md_measure_144 rfl (hk fb h3 (fI_end hI3 (by have h8 := hP3 q1; rw [ev] at h8; exact h8)) hM3 hf3)
            · have hnn := fI_nn hI3
              have e1 : c = 1 := by omega
              refine jl_less (L' := [some (.ref (u)), some (.int (zI (d9))), none, none, none, none]) ⟨rfl, rfl, trivial⟩ ?_
              exact ih (k - 1) (by omega) fb h3 (by omega) hI3 hM3 hf3
          · refine jl_iconst (v := zI (0)) d_Md_measure_71 (by decide) ?_
            refine jl_istore (L' := [some (.ref (u)), some (.int (zI (d9))), some (.int (zI (c))), some (.int (zI ((v : Int)))), some (.int (zI (0))), none]) d_Md_measure_72 (by decide) rfl ?_
            exact lph 10 0 c fb h3 (by omega) (by omega) hI3 hS3 hc3 hP3 hM3 hf3
      refine jl_iconst (v := zI (0)) d_Md_measure_60 (by decide) ?_
      refine jl_istore_n (L' := [some (.ref (u)), some (.int (zI (d9))), some (.int (zI (0))), none, none, none]) d_Md_measure_61 rfl (by decide) rfl ?_
      refine jl_iconst (v := zI (0)) d_Md_measure_62 (by decide) ?_
      refine jl_istore_n (L' := [some (.ref (u)), some (.int (zI (d9))), some (.int (zI (0))), some (.int (zI (0))), none, none]) d_Md_measure_63 rfl (by decide) rfl ?_
      exact lpv 512 0 0 fa h2 (by omega) hI2 (by omega) (Or.inl rfl) (fun _ => fP_0 fa) hM2 hf2
  have lp2 : ∀ (k : Nat) (s : Nat) (fa : Nat → Int) (h2 : Nat → va_E), (s : Int) + k = M.pe d9.toNat → fS (M.pe d9.toNat) (hM M d9) (s : Int) fa → jM h2 u (M.wfa fa) → jfr h h2 u (u + 14) → jl_AW l G (jl_F G Kr Kx) m_Md_measure d 26 [some (.ref (u)), some (.int (zI (d9))), some (.int (zI ((s : Int)))), none, none, none] [] n h2 0 0 := by
    intro k
    induction k using Nat.strongRecOn with
    | ind k ih =>
      intro s fa h2 hks hS hM2 hf2
      obtain ⟨q0z, q1z, q2z, q3z, q4z, q5z, q6z, q7z, q8z, q9z, q10z, q11z, q12z, q13z⟩ := id (hM2)
      have p0z : h2 u = jO 6 [.int (zI (M.T)), .ref (u + 1), .ref (u + 2), .ref (u + 3), .ref (u + 4), .ref (u + 5), .int (zI (M.jn)), .int (zI (M.ja)), .int (zI (M.jb)), .ref (u + 6), .ref (u + 7), .int (zI (M.nw)), .int (zI (M.bl)), .int (zI (M.lt)), .int (zI (M.rt)), .ref (u + 8), .ref (u + 9), .ref (u + 10), .ref (u + 11), .ref (u + 12), .ref (u + 13)] := q0z
      have p1z : h2 (u + 1) = jI 8 (fun j9 => zI (M.mo j9)) := q1z
      have p2z : h2 (u + 2) = jI 8 (fun j9 => zI (M.pe j9)) := q2z
      have p3z : h2 (u + 3) = jI 128 (fun j9 => zI (M.co j9)) := q3z
      have p4z : h2 (u + 4) = jI 384 (fun j9 => zI (M.he j9)) := q4z
      have p5z : h2 (u + 5) = jZ 128 (fun j9 => zI (M.cr j9)) := q5z
      have p6z : h2 (u + 6) = jI 16 (fun j9 => zI (M.wy j9)) := q6z
      have p7z : h2 (u + 7) = jI 512 (fun j9 => zI (fa j9)) := q7z
      have p8z : h2 (u + 8) = jI 32 (fun j9 => zI (M.la j9)) := q8z
      have p9z : h2 (u + 9) = jI 32 (fun j9 => zI (M.ha j9)) := q9z
      have p10z : h2 (u + 10) = jI 4096 (fun j9 => zI (M.w1 j9)) := q10z
      have p11z : h2 (u + 11) = jI 4096 (fun j9 => zI (M.mr j9)) := q11z
      have p12z : h2 (u + 12) = jI 6 (fun j9 => zI (M.rw j9)) := q12z
      have p13z : h2 (u + 13) = jI 16 (fun j9 => zI (M.tu j9)) := q13z
      have hst := sp_st_rg (p := M.pe d9.toNat) (hM_rg ok d9) (s : Int)
      refine jl_iload_n d_Md_measure_26 rfl rfl ?_
      refine jl_aload_n d_Md_measure_27 rfl rfl ?_
      refine jg_6 (q := 2) d_Md_measure_28 p0z rfl (by decide) fw_Md_13 ?_
      refine jl_iload_n d_Md_measure_31 rfl rfl ?_
      refine jz_iald d_Md_measure_32 p2z (by omega) (by omega) (by omega) ?_
      refine jz_icmp_ge (tgt := 54) d_Md_measure_33 (by decide) ⟨by omega, by omega⟩ ⟨by omega, by omega⟩ (fun hc => ?_) (fun hc => ?_)
      · have es : (s : Int) = M.pe d9.toNat := by omega
        rw [es] at hS
        refine jl_iconst (v := zI (1)) d_Md_measure_54 (by decide) ?_
        refine jl_istore_n (L' := [some (.ref (u)), some (.int (zI (d9))), some (.int (zI (1))), none, none, none]) d_Md_measure_55 rfl (by decide) rfl ?_
        refine jl_iload_n d_Md_measure_56 rfl rfl ?_
        refine jz_if_eq (tgt := 144) d_Md_measure_57 (by decide) ⟨by decide, by decide⟩ (fun q9 => absurd q9 (by decide)) (fun _ => ?_)
        refine jl_less (L' := [some (.ref (u)), some (.int (zI (d9))), none, none, none, none]) ⟨rfl, rfl, trivial⟩ ?_
        exact lpp 512000 fa h2 (by have := fI_le (fS_I hS); omega) (fS_I hS) hM2 hf2
      · refine jl_aload_n d_Md_measure_36 rfl rfl ?_
        refine jg_6 (q := 10) d_Md_measure_37 p0z rfl (by decide) fw_Md_33 ?_
        refine jl_aload_n d_Md_measure_40 rfl rfl ?_
        refine jl_iload_n d_Md_measure_41 rfl rfl ?_
        refine jl_iload_n d_Md_measure_42 rfl rfl ?_
        refine jl_invV (M' := m_Md_stateOf) (d' := d - 1) (ck' := 0) (sk' := 0) (na := 2) (as := [.int (zI (d9)), .int (zI ((s : Int)))]) (st := [.ref (u + 7)]) d_Md_measure_43 rfl p0z rfl mw_Md_93 ww_Md_stateOf sw_Md_stateOf nw_Md cw_Md_stateOf rfl rfl rfl (by decide +kernel) (by omega) (Nat.le_of_ble_eq_true rfl) (Nat.le_of_ble_eq_true rfl) ?_
        refine k_M_stateOf hl9 (by omega) hM2 ok hd9 hpe ⟨by omega, by omega⟩ ?_
        show jl_AW _ _ _ _ _ 46 [some (.ref (u)), some (.int (zI (d9))), some (.int (zI ((s : Int)))), none, none, none] [.int (zI (sp_st (M.pe d9.toNat) (hM M d9) (s : Int))), .ref (u + 7)] n h2 _ _
        refine jl_iconst (v := zI (0)) d_Md_measure_46 (by decide) ?_
        refine jz_iasth d_Md_measure_47 p7z (by omega) (by omega) (by omega) (fun h1 eh1 => ?_)
        have jf2 : h1 (u + 7) = jI 512 (fun j9 => zI ((va_up fa (sp_st (M.pe d9.toNat) (hM M d9) (s : Int)).toNat (0)) j9)) := by rw [eh1, va_up_self]
        refine jz_iinc (v := ((s + 1 : Nat) : Int)) (L' := [some (.ref (u)), some (.int (zI (d9))), some (.int (zI (((s + 1 : Nat) : Int)))), none, none, none]) d_Md_measure_48 rfl (by omega) (by decide) rfl ?_
        refine jl_goto (tgt := 26) d_Md_measure_51 (by decide) ?_
        have jf3 : h1 (u) = jO 6 [.int (zI (M.T)), .ref (u + 1), .ref (u + 2), .ref (u + 3), .ref (u + 4), .ref (u + 5), .int (zI (M.jn)), .int (zI (M.ja)), .int (zI (M.jb)), .ref (u + 6), .ref (u + 7), .int (zI (M.nw)), .int (zI (M.bl)), .int (zI (M.lt)), .int (zI (M.rt)), .ref (u + 8), .ref (u + 9), .ref (u + 10), .ref (u + 11), .ref (u + 12), .ref (u + 13)] := by rw [eh1, va_up_ne _ _ (by omega)]; exact p0z
        have jf4 : h1 (u + 1) = jI 8 (fun j9 => zI (M.mo j9)) := by rw [eh1, va_up_ne _ _ (by omega)]; exact p1z
        have jf5 : h1 (u + 2) = jI 8 (fun j9 => zI (M.pe j9)) := by rw [eh1, va_up_ne _ _ (by omega)]; exact p2z
        have jf6 : h1 (u + 3) = jI 128 (fun j9 => zI (M.co j9)) := by rw [eh1, va_up_ne _ _ (by omega)]; exact p3z
        have jf7 : h1 (u + 4) = jI 384 (fun j9 => zI (M.he j9)) := by rw [eh1, va_up_ne _ _ (by omega)]; exact p4z
        have jf8 : h1 (u + 5) = jZ 128 (fun j9 => zI (M.cr j9)) := by rw [eh1, va_up_ne _ _ (by omega)]; exact p5z
        have jf9 : h1 (u + 6) = jI 16 (fun j9 => zI (M.wy j9)) := by rw [eh1, va_up_ne _ _ (by omega)]; exact p6z
        have jf10 : h1 (u + 8) = jI 32 (fun j9 => zI (M.la j9)) := by rw [eh1, va_up_ne _ _ (by omega)]; exact p8z
        have jf11 : h1 (u + 9) = jI 32 (fun j9 => zI (M.ha j9)) := by rw [eh1, va_up_ne _ _ (by omega)]; exact p9z
        have jf12 : h1 (u + 10) = jI 4096 (fun j9 => zI (M.w1 j9)) := by rw [eh1, va_up_ne _ _ (by omega)]; exact p10z
        have jf13 : h1 (u + 11) = jI 4096 (fun j9 => zI (M.mr j9)) := by rw [eh1, va_up_ne _ _ (by omega)]; exact p11z
        have jf14 : h1 (u + 12) = jI 6 (fun j9 => zI (M.rw j9)) := by rw [eh1, va_up_ne _ _ (by omega)]; exact p12z
        have jf15 : h1 (u + 13) = jI 16 (fun j9 => zI (M.tu j9)) := by rw [eh1, va_up_ne _ _ (by omega)]; exact p13z
        exact ih (k - 1) (by omega) (s + 1) _ h1 (by omega) (fS_s (hM_rg ok d9) hS (by omega)) ⟨jf3, jf4, jf5, jf6, jf7, jf8, jf9, jf2, jf10, jf11, jf12, jf13, jf14, jf15⟩ (fun y hy => by rw [eh1, va_up_ne _ _ (by omega)]; exact hf2 y hy)
  have lp1 : ∀ (k : Nat) (s : Nat) (h2 : Nat → va_E), s + k = 512 → jM h2 u (M.wfa (jfill s 1000 M.fa)) → jfr h h2 u (u + 14) → jl_AW l G (jl_F G Kr Kx) m_Md_measure d 2 [some (.ref (u)), some (.int (zI (d9))), some (.int (zI ((s : Int)))), none, none, none] [] n h2 0 0 := by
    intro k
    induction k using Nat.strongRecOn with
    | ind k ih =>
      intro s h2 hks hM2 hf2
      obtain ⟨q0z, q1z, q2z, q3z, q4z, q5z, q6z, q7z, q8z, q9z, q10z, q11z, q12z, q13z⟩ := id (hM2)
      have p0z : h2 u = jO 6 [.int (zI (M.T)), .ref (u + 1), .ref (u + 2), .ref (u + 3), .ref (u + 4), .ref (u + 5), .int (zI (M.jn)), .int (zI (M.ja)), .int (zI (M.jb)), .ref (u + 6), .ref (u + 7), .int (zI (M.nw)), .int (zI (M.bl)), .int (zI (M.lt)), .int (zI (M.rt)), .ref (u + 8), .ref (u + 9), .ref (u + 10), .ref (u + 11), .ref (u + 12), .ref (u + 13)] := q0z
      have p1z : h2 (u + 1) = jI 8 (fun j9 => zI (M.mo j9)) := q1z
      have p2z : h2 (u + 2) = jI 8 (fun j9 => zI (M.pe j9)) := q2z
      have p3z : h2 (u + 3) = jI 128 (fun j9 => zI (M.co j9)) := q3z
      have p4z : h2 (u + 4) = jI 384 (fun j9 => zI (M.he j9)) := q4z
      have p5z : h2 (u + 5) = jZ 128 (fun j9 => zI (M.cr j9)) := q5z
      have p6z : h2 (u + 6) = jI 16 (fun j9 => zI (M.wy j9)) := q6z
      have p7z : h2 (u + 7) = jI 512 (fun j9 => zI ((jfill s 1000 M.fa) j9)) := q7z
      have p8z : h2 (u + 8) = jI 32 (fun j9 => zI (M.la j9)) := q8z
      have p9z : h2 (u + 9) = jI 32 (fun j9 => zI (M.ha j9)) := q9z
      have p10z : h2 (u + 10) = jI 4096 (fun j9 => zI (M.w1 j9)) := q10z
      have p11z : h2 (u + 11) = jI 4096 (fun j9 => zI (M.mr j9)) := q11z
      have p12z : h2 (u + 12) = jI 6 (fun j9 => zI (M.rw j9)) := q12z
      have p13z : h2 (u + 13) = jI 16 (fun j9 => zI (M.tu j9)) := q13z
      refine jl_iload_n d_Md_measure_2 rfl rfl ?_
      refine jl_sipush (v := zI (512)) d_Md_measure_3 (by decide) ?_
      refine jz_icmp_ge (tgt := 24) d_Md_measure_6 (by decide) ⟨by omega, by omega⟩ ⟨by omega, by omega⟩ (fun hc => ?_) (fun hc => ?_)
      · have es : s = 512 := by omega
        subst es
        refine jl_iconst (v := zI (0)) d_Md_measure_24 (by decide) ?_
        refine jl_istore_n (L' := [some (.ref (u)), some (.int (zI (d9))), some (.int (zI (0))), none, none, none]) d_Md_measure_25 rfl (by decide) rfl ?_
        refine lp2 (M.pe d9.toNat).toNat 0 _ h2 (by omega) ⟨fun v r1 r2 => Or.inl ?_, fun t r1 r2 => by omega⟩ hM2 hf2
        unfold jfill
        rw [if_pos (by omega)]
      · refine jl_aload_n d_Md_measure_9 rfl rfl ?_
        refine jg_6 (q := 10) d_Md_measure_10 p0z rfl (by decide) fw_Md_33 ?_
        refine jl_iload_n d_Md_measure_13 rfl rfl ?_
        refine jl_sipush (v := zI (1000)) d_Md_measure_14 (by decide) ?_
        refine jz_iasth d_Md_measure_17 p7z (by omega) (by omega) (by omega) (fun h1 eh1 => ?_)
        have jf2 : h1 (u + 7) = jI 512 (fun j9 => zI ((va_up ((jfill s 1000 M.fa)) ((s : Int)).toNat (1000)) j9)) := by rw [eh1, va_up_self]
        refine jz_iinc (v := ((s + 1 : Nat) : Int)) (L' := [some (.ref (u)), some (.int (zI (d9))), some (.int (zI (((s + 1 : Nat) : Int)))), none, none, none]) d_Md_measure_18 rfl (by omega) (by decide) rfl ?_
        refine jl_goto (tgt := 2) d_Md_measure_21 (by decide) ?_
        have jf3 : h1 (u) = jO 6 [.int (zI (M.T)), .ref (u + 1), .ref (u + 2), .ref (u + 3), .ref (u + 4), .ref (u + 5), .int (zI (M.jn)), .int (zI (M.ja)), .int (zI (M.jb)), .ref (u + 6), .ref (u + 7), .int (zI (M.nw)), .int (zI (M.bl)), .int (zI (M.lt)), .int (zI (M.rt)), .ref (u + 8), .ref (u + 9), .ref (u + 10), .ref (u + 11), .ref (u + 12), .ref (u + 13)] := by rw [eh1, va_up_ne _ _ (by omega)]; exact p0z
        have jf4 : h1 (u + 1) = jI 8 (fun j9 => zI (M.mo j9)) := by rw [eh1, va_up_ne _ _ (by omega)]; exact p1z
        have jf5 : h1 (u + 2) = jI 8 (fun j9 => zI (M.pe j9)) := by rw [eh1, va_up_ne _ _ (by omega)]; exact p2z
        have jf6 : h1 (u + 3) = jI 128 (fun j9 => zI (M.co j9)) := by rw [eh1, va_up_ne _ _ (by omega)]; exact p3z
        have jf7 : h1 (u + 4) = jI 384 (fun j9 => zI (M.he j9)) := by rw [eh1, va_up_ne _ _ (by omega)]; exact p4z
        have jf8 : h1 (u + 5) = jZ 128 (fun j9 => zI (M.cr j9)) := by rw [eh1, va_up_ne _ _ (by omega)]; exact p5z
        have jf9 : h1 (u + 6) = jI 16 (fun j9 => zI (M.wy j9)) := by rw [eh1, va_up_ne _ _ (by omega)]; exact p6z
        have jf10 : h1 (u + 8) = jI 32 (fun j9 => zI (M.la j9)) := by rw [eh1, va_up_ne _ _ (by omega)]; exact p8z
        have jf11 : h1 (u + 9) = jI 32 (fun j9 => zI (M.ha j9)) := by rw [eh1, va_up_ne _ _ (by omega)]; exact p9z
        have jf12 : h1 (u + 10) = jI 4096 (fun j9 => zI (M.w1 j9)) := by rw [eh1, va_up_ne _ _ (by omega)]; exact p10z
        have jf13 : h1 (u + 11) = jI 4096 (fun j9 => zI (M.mr j9)) := by rw [eh1, va_up_ne _ _ (by omega)]; exact p11z
        have jf14 : h1 (u + 12) = jI 6 (fun j9 => zI (M.rw j9)) := by rw [eh1, va_up_ne _ _ (by omega)]; exact p12z
        have jf15 : h1 (u + 13) = jI 16 (fun j9 => zI (M.tu j9)) := by rw [eh1, va_up_ne _ _ (by omega)]; exact p13z
        rw [Int.toNat_natCast, jfill_s] at jf2
        exact ih (k - 1) (by omega) (s + 1) h1 (by omega) ⟨jf3, jf4, jf5, jf6, jf7, jf8, jf9, jf2, jf10, jf11, jf12, jf13, jf14, jf15⟩ (fun y hy => by rw [eh1, va_up_ne _ _ (by omega)]; exact hf2 y hy)
  refine jl_iconst (v := zI (0)) d_Md_measure_0 (by decide) ?_
  refine jl_istore_n (L' := [some (.ref (u)), some (.int (zI (d9))), some (.int (zI (0))), none, none, none]) d_Md_measure_1 rfl (by decide) rfl ?_
  exact lp1 512 0 h (by omega) (by rw [jfill_0]; exact hM9) (fun _ _ => rfl)
