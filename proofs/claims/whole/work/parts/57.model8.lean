set_option maxHeartbeats 4000000 in
set_option maxRecDepth 100000 in
theorem k_M_rowState {l : Launch} {G : jl_G} {d n : Nat} {h : Nat → va_E} {Kr : Option Value → Nat → (Nat → va_E) → Prop} {Kx : String → Nat → (Nat → va_E) → Prop} (hl9 : l.stackTraces = false) (hdd : 0 ≤ d) {u : Nat} {M : MS} {a s : Int} (hM9 : jM h u M) (hrw : ∀ j, 0 ≤ M.rw j ∧ M.rw j ≤ 9) (hn9 : 1 ≤ a ∧ a ≤ 4) (hs9 : 0 ≤ s ∧ s < 16) (hk : Kr (some (.int (zI (sp_st a (rwH M.rw) s)))) n h) : jl_Call l G m_Md_rowState d [.ref (u), .int (zI (a)), .int (zI (s))] n h 0 0 Kr Kx := by
  refine jl_enter hl9 (by decide) rfl (by simp [Value.category]) (Nat.le_of_ble_eq_true rfl) ?_
  show jl_AW l G (jl_F G Kr Kx) m_Md_rowState d 0 [some (.ref (u)), some (.int (zI (a))), some (.int (zI (s))), none, none, none] [] n h 0 0
  have hrh : ∀ j, 0 ≤ rwH M.rw j ∧ rwH M.rw j ≤ 9 := fun j => hrw _
  have lp1 : ∀ (k : Nat) (t : Nat), t + k = 9 → jl_AW l G (jl_F G Kr Kx) m_Md_rowState d 5 [some (.ref (u)), some (.int (zI (a))), some (.int (zI (s))), some (.int (zI (((st_v a (rwH M.rw) s t : Nat) : Int)))), some (.int (zI ((t : Int) + 1))), none] [] n h 0 0 := by
    intro k
    induction k using Nat.strongRecOn with
    | ind k ih =>
      intro t hkt
      have hv := st_v_lt (p := a) hrh s t
      obtain ⟨q0, q1, q2, q3, q4, q5, q6, q7, q8, q9, q10, q11, q12, q13⟩ := id (hM9)
      have p0 : h u = jO 6 [.int (zI (M.T)), .ref (u + 1), .ref (u + 2), .ref (u + 3), .ref (u + 4), .ref (u + 5), .int (zI (M.jn)), .int (zI (M.ja)), .int (zI (M.jb)), .ref (u + 6), .ref (u + 7), .int (zI (M.nw)), .int (zI (M.bl)), .int (zI (M.lt)), .int (zI (M.rt)), .ref (u + 8), .ref (u + 9), .ref (u + 10), .ref (u + 11), .ref (u + 12), .ref (u + 13)] := q0
      have p1 : h (u + 1) = jI 8 (fun j9 => zI (M.mo j9)) := q1
      have p2 : h (u + 2) = jI 8 (fun j9 => zI (M.pe j9)) := q2
      have p3 : h (u + 3) = jI 128 (fun j9 => zI (M.co j9)) := q3
      have p4 : h (u + 4) = jI 384 (fun j9 => zI (M.he j9)) := q4
      have p5 : h (u + 5) = jZ 128 (fun j9 => zI (M.cr j9)) := q5
      have p6 : h (u + 6) = jI 16 (fun j9 => zI (M.wy j9)) := q6
      have p7 : h (u + 7) = jI 512 (fun j9 => zI (M.fa j9)) := q7
      have p8 : h (u + 8) = jI 32 (fun j9 => zI (M.la j9)) := q8
      have p9 : h (u + 9) = jI 32 (fun j9 => zI (M.ha j9)) := q9
      have p10 : h (u + 10) = jI 4096 (fun j9 => zI (M.w1 j9)) := q10
      have p11 : h (u + 11) = jI 4096 (fun j9 => zI (M.mr j9)) := q11
      have p12 : h (u + 12) = jI 6 (fun j9 => zI (M.rw j9)) := q12
      have p13 : h (u + 13) = jI 16 (fun j9 => zI (M.tu j9)) := q13
      refine jl_iload d_Md_rowState_5 rfl ?_
      refine jl_bipush (v := zI (9)) d_Md_rowState_7 (by decide) ?_
      refine jz_icmp_gt (tgt := 51) d_Md_rowState_9 (by decide) ⟨by omega, by omega⟩ ⟨by omega, by omega⟩ (fun hc => ?_) (fun hc => ?_)
      · have ea : t = 9 := by omega
        subst ea
        refine jl_iload_n d_Md_rowState_51 rfl rfl ?_
        exact jl_iret d_Md_rowState_52 rfl hk
      · have hm0 := Int.emod_nonneg (s - ((t : Int) + 1)) (show a ≠ 0 by omega)
        have hm1 := Int.emod_lt_of_pos (s - ((t : Int) + 1)) (show 0 < a by omega)
        refine jl_aload_n d_Md_rowState_12 rfl rfl ?_
        refine jg_6 (q := 19) d_Md_rowState_13 p0 rfl (by decide) fw_Md_48 ?_
        refine jl_iload_n d_Md_rowState_16 rfl rfl ?_
        refine jl_iload d_Md_rowState_17 rfl ?_
        refine jz_isub (v := s - ((t : Int) + 1)) d_Md_rowState_19 (by omega) ?_
        refine jl_bipush (v := zI (12)) d_Md_rowState_20 (by decide) ?_
        refine jz_iadd (v := s - ((t : Int) + 1) + 12) d_Md_rowState_22 (by omega) ?_
        refine jl_iload_n d_Md_rowState_23 rfl rfl ?_
        refine jz_irem (v := (s - ((t : Int) + 1)) % a) d_Md_rowState_24 ⟨by omega, by omega⟩ ⟨by omega, by omega⟩ (by omega) (by rw [Int.tmod_eq_emod_of_nonneg (by omega)]; exact rs12 hn9) ?_
        refine jz_iald d_Md_rowState_25 p12 (by omega) (by omega) (by omega) ?_
        have hrx := rwH_at (rw9 := M.rw) (s := (s - ((t : Int) + 1)) % a)
        rw [← hrx]
        have hh := hrh ((s - ((t : Int) + 1)) % a * 3).toNat
        have e1 : (((t + 1 : Nat) : Int)) = (t : Int) + 1 := by omega
        refine jl_istore (L' := [some (.ref (u)), some (.int (zI (a))), some (.int (zI (s))), some (.int (zI (((st_v a (rwH M.rw) s t : Nat) : Int)))), some (.int (zI ((t : Int) + 1))), some (.int (zI (rwH M.rw ((s - ((t : Int) + 1)) % a * 3).toNat)))]) d_Md_rowState_26 (by decide) rfl ?_
        refine jl_iload d_Md_rowState_28 rfl ?_
        refine jl_iload d_Md_rowState_30 rfl ?_
        refine jz_icmp_lt (tgt := 45) d_Md_rowState_32 (by decide) ⟨by omega, by omega⟩ ⟨by omega, by omega⟩ (fun hc2 => ?_) (fun hc2 => ?_)
        · refine jz_iinc (v := ((t + 1 : Nat) : Int) + 1) (L' := [some (.ref (u)), some (.int (zI (a))), some (.int (zI (s))), some (.int (zI (((st_v a (rwH M.rw) s t : Nat) : Int)))), some (.int (zI (((t + 1 : Nat) : Int) + 1))), some (.int (zI (rwH M.rw ((s - ((t : Int) + 1)) % a * 3).toNat)))]) d_Md_rowState_45 rfl (by omega) (by decide) rfl ?_
          refine jl_goto (tgt := 5) d_Md_rowState_48 (by decide) ?_
          refine jl_less (L' := [some (.ref (u)), some (.int (zI (a))), some (.int (zI (s))), some (.int (zI (((st_v a (rwH M.rw) s t : Nat) : Int)))), some (.int (zI (((t + 1 : Nat) : Int) + 1))), none]) ⟨rfl, rfl, rfl, rfl, rfl, trivial⟩ ?_
          have h9 := ih (k - 1) (by omega) (t + 1) (by omega)
          rw [st_v, if_neg (by omega)] at h9
          exact h9
        · refine jl_iload_n d_Md_rowState_35 rfl rfl ?_
          refine jl_iconst (v := zI (1)) d_Md_rowState_36 (by decide) ?_
          refine jl_iload d_Md_rowState_37 rfl ?_
          refine jl_iload d_Md_rowState_39 rfl ?_
          refine jz_isub (v := rwH M.rw ((s - ((t : Int) + 1)) % a * 3).toNat - ((t : Int) + 1)) d_Md_rowState_41 (by omega) ?_
          refine jl_ishl d_Md_rowState_42 (jl_ior d_Md_rowState_43 (jz_int (bt_or hv ⟨by omega, by omega⟩) ?_))
          refine jl_istore_n (L' := [some (.ref (u)), some (.int (zI (a))), some (.int (zI (s))), some (.int (zI (((st_v a (rwH M.rw) s t ||| 2 ^ (rwH M.rw ((s - ((t : Int) + 1)) % a * 3).toNat - ((t : Int) + 1)).toNat : Nat) : Int)))), some (.int (zI ((t : Int) + 1))), some (.int (zI (rwH M.rw ((s - ((t : Int) + 1)) % a * 3).toNat)))]) d_Md_rowState_44 rfl (by decide) rfl ?_
          refine jz_iinc (v := ((t + 1 : Nat) : Int) + 1) (L' := [some (.ref (u)), some (.int (zI (a))), some (.int (zI (s))), some (.int (zI (((st_v a (rwH M.rw) s t ||| 2 ^ (rwH M.rw ((s - ((t : Int) + 1)) % a * 3).toNat - ((t : Int) + 1)).toNat : Nat) : Int)))), some (.int (zI (((t + 1 : Nat) : Int) + 1))), some (.int (zI (rwH M.rw ((s - ((t : Int) + 1)) % a * 3).toNat)))]) d_Md_rowState_45 rfl (by omega) (by decide) rfl ?_
          refine jl_goto (tgt := 5) d_Md_rowState_48 (by decide) ?_
          refine jl_less (L' := [some (.ref (u)), some (.int (zI (a))), some (.int (zI (s))), some (.int (zI (((st_v a (rwH M.rw) s t ||| 2 ^ (rwH M.rw ((s - ((t : Int) + 1)) % a * 3).toNat - ((t : Int) + 1)).toNat : Nat) : Int)))), some (.int (zI (((t + 1 : Nat) : Int) + 1))), none]) ⟨rfl, rfl, rfl, rfl, rfl, trivial⟩ ?_
          have h9 := ih (k - 1) (by omega) (t + 1) (by omega)
          rw [st_v, if_pos (by omega)] at h9
          exact h9
  refine jl_iconst (v := zI (0)) d_Md_rowState_0 (by decide) ?_
  refine jl_istore_n (L' := [some (.ref (u)), some (.int (zI (a))), some (.int (zI (s))), some (.int (zI (0))), none, none]) d_Md_rowState_1 rfl (by decide) rfl ?_
  refine jl_iconst (v := zI (1)) d_Md_rowState_2 (by decide) ?_
  refine jl_istore (L' := [some (.ref (u)), some (.int (zI (a))), some (.int (zI (s))), some (.int (zI (0))), some (.int (zI (1))), none]) d_Md_rowState_3 (by decide) rfl ?_
  exact lp1 9 0 (by omega)
set_option maxHeartbeats 4000000 in
set_option maxRecDepth 100000 in
theorem k_M_rowIsCycle {l : Launch} {G : jl_G} {d n : Nat} {h : Nat → va_E} {Kr : Option Value → Nat → (Nat → va_E) → Prop} {Kx : String → Nat → (Nat → va_E) → Prop} (hl9 : l.stackTraces = false) (hdd : 1 ≤ d) {u : Nat} {M : MS} {a : Int} (hM9 : jM h u M) (hrw : ∀ j, 0 ≤ M.rw j ∧ M.rw j ≤ 9) (hn9 : 1 ≤ a ∧ a ≤ 4) (hk : ∀ g, sp_is (cyP a (rwH M.rw)) g → Kr (some (.int (zI (g)))) n h) : jl_Call l G m_Md_rowIsCycle d [.ref (u), .int (zI (a))] n h 0 0 Kr Kx := by
  refine jl_enter hl9 (by decide) rfl (by simp [Value.category]) (Nat.le_of_ble_eq_true rfl) ?_
  show jl_AW l G (jl_F G Kr Kx) m_Md_rowIsCycle d 0 [some (.ref (u)), some (.int (zI (a))), none, none, none, none, none, none] [] n h 0 0
  have hrh : ∀ j, 0 ≤ rwH M.rw j ∧ rwH M.rw j ≤ 9 := fun j => hrw _
  have hiff := cyP_iff (n := a) (hs := rwH M.rw) hn9
  have hmod : ∀ x : Int, 0 ≤ x % a ∧ x % a < a := fun x => ⟨Int.emod_nonneg _ (by omega), Int.emod_lt_of_pos _ (by omega)⟩
  have htk : ∀ s : Nat, tkT a (rwH M.rw) s < 4 := fun s => by unfold tkT; have := hmod ((s : Int) + rwH M.rw ((s : Int) * 3).toNat); omega
  have htl : ∀ s : Nat, tkN (tkT a (rwH M.rw)) s < 16 := fun s => tkN_lt s (fun i _ => htk i)
  have lps : ∀ (k : Nat) (s : Nat) (g : Int), (s : Int) + k = a → ((g = 1 ∧ tkN (tkT a (rwH M.rw)) a.toNat = 2 ^ a.toNat - 1 ∧ cyA a (rwH M.rw) (s : Int)) ∨ (g = 0 ∧ ¬ cyP a (rwH M.rw))) → jl_AW l G (jl_F G Kr Kx) m_Md_rowIsCycle d 48 [some (.ref (u)), some (.int (zI (a))), some (.int (zI (((tkN (tkT a (rwH M.rw)) a.toNat : Nat) : Int)))), some (.int (zI (g))), some (.int (zI ((s : Int)))), none, none, none] [] n h 0 0 := by
    intro k
    induction k using Nat.strongRecOn with
    | ind k ih =>
      intro s g hks hG
      have lpk : ∀ (k3 : Nat) (k9 : Nat) (sm g2 : Int), (k9 : Int) + k3 = a → tkN (tkT a (rwH M.rw)) a.toNat = 2 ^ a.toNat - 1 → cyA a (rwH M.rw) (s : Int) → (s : Int) < a → (0 ≤ sm ∧ sm ≤ 1) → ((g2 = 0 ∧ ¬ cyP a (rwH M.rw)) ∨ ((∀ r : Int, 0 ≤ r → r < (s : Int) → ¬ sp_st a (rwH M.rw) (s : Int) = sp_st a (rwH M.rw) r) ∧ cmI a (rwH M.rw) (s : Int) (k9 : Int) sm g2)) → jl_AW l G (jl_F G Kr Kx) m_Md_rowIsCycle d 107 [some (.ref (u)), some (.int (zI (a))), some (.int (zI (((tkN (tkT a (rwH M.rw)) a.toNat : Nat) : Int)))), some (.int (zI (g2))), some (.int (zI ((s : Int)))), some (.int (zI (sm))), some (.int (zI ((k9 : Int)))), none] [] n h 0 0 := by
        intro k3
        induction k3 using Nat.strongRecOn with
        | ind k3 ih3 =>
          intro k9 sm g2 hkk hT hA hsa hsm hI
          have hz2 : 0 ≤ g2 ∧ g2 ≤ 1 := by rcases hI with ⟨w1, -⟩ | ⟨-, ⟨w1, w2, -⟩ | ⟨w1, w2, -⟩ | ⟨w1, w2, -⟩⟩ <;> omega
          obtain ⟨q0, q1, q2, q3, q4, q5, q6, q7, q8, q9, q10, q11, q12, q13⟩ := id (hM9)
          have p0 : h u = jO 6 [.int (zI (M.T)), .ref (u + 1), .ref (u + 2), .ref (u + 3), .ref (u + 4), .ref (u + 5), .int (zI (M.jn)), .int (zI (M.ja)), .int (zI (M.jb)), .ref (u + 6), .ref (u + 7), .int (zI (M.nw)), .int (zI (M.bl)), .int (zI (M.lt)), .int (zI (M.rt)), .ref (u + 8), .ref (u + 9), .ref (u + 10), .ref (u + 11), .ref (u + 12), .ref (u + 13)] := q0
          have p1 : h (u + 1) = jI 8 (fun j9 => zI (M.mo j9)) := q1
          have p2 : h (u + 2) = jI 8 (fun j9 => zI (M.pe j9)) := q2
          have p3 : h (u + 3) = jI 128 (fun j9 => zI (M.co j9)) := q3
          have p4 : h (u + 4) = jI 384 (fun j9 => zI (M.he j9)) := q4
          have p5 : h (u + 5) = jZ 128 (fun j9 => zI (M.cr j9)) := q5
          have p6 : h (u + 6) = jI 16 (fun j9 => zI (M.wy j9)) := q6
          have p7 : h (u + 7) = jI 512 (fun j9 => zI (M.fa j9)) := q7
          have p8 : h (u + 8) = jI 32 (fun j9 => zI (M.la j9)) := q8
          have p9 : h (u + 9) = jI 32 (fun j9 => zI (M.ha j9)) := q9
          have p10 : h (u + 10) = jI 4096 (fun j9 => zI (M.w1 j9)) := q10
          have p11 : h (u + 11) = jI 4096 (fun j9 => zI (M.mr j9)) := q11
          have p12 : h (u + 12) = jI 6 (fun j9 => zI (M.rw j9)) := q12
          have p13 : h (u + 13) = jI 16 (fun j9 => zI (M.tu j9)) := q13
          refine jl_iload d_Md_rowIsCycle_107 rfl ?_
          refine jl_iload_n d_Md_rowIsCycle_109 rfl rfl ?_
          refine jz_icmp_ge (tgt := 179) d_Md_rowIsCycle_110 (by decide) ⟨by omega, by omega⟩ ⟨by omega, by omega⟩ (fun hc => ?_) (fun hc => ?_)
          · refine jz_iinc (v := ((s + 1 : Nat) : Int)) (L' := [some (.ref (u)), some (.int (zI (a))), some (.int (zI (((tkN (tkT a (rwH M.rw)) a.toNat : Nat) : Int)))), some (.int (zI (g2))), some (.int (zI (((s + 1 : Nat) : Int)))), some (.int (zI (sm))), some (.int (zI ((k9 : Int)))), none]) d_Md_rowIsCycle_179 rfl (by omega) (by decide) rfl ?_
            refine jl_goto (tgt := 48) d_Md_rowIsCycle_182 (by decide) ?_
            refine jl_less (L' := [some (.ref (u)), some (.int (zI (a))), some (.int (zI (((tkN (tkT a (rwH M.rw)) a.toNat : Nat) : Int)))), some (.int (zI (g2))), some (.int (zI (((s + 1 : Nat) : Int)))), none, none, none]) ⟨rfl, rfl, rfl, rfl, rfl, trivial⟩ ?_
            refine ih (k - 1) (by omega) (s + 1) g2 (by omega) ?_
            rcases hI with w9 | ⟨w1, w2⟩
            · exact Or.inr w9
            · rcases w2 with ⟨w3, w4, w5⟩ | ⟨w3, w4, w5⟩ | ⟨w3, w4, w5⟩
              · exact Or.inl ⟨w4, hT, by rw [show ((s + 1 : Nat) : Int) = (s : Int) + 1 by omega]; exact cyA_s hA w1 (sp_rl_eq (fun j r1 r2 => w5 j r1 (by omega)))⟩
              · exact Or.inl ⟨w4, hT, by rw [show ((s + 1 : Nat) : Int) = (s : Int) + 1 by omega]; exact cyA_s hA w1 w5⟩
              · exact Or.inr ⟨w4, fun q9 => ((hiff.mp q9).2 (s : Int) (by omega) (by omega)).2 w5⟩
          · refine jl_iload d_Md_rowIsCycle_113 rfl ?_
            refine jz_if_eq (tgt := 179) d_Md_rowIsCycle_115 (by decide) ⟨by omega, by omega⟩ (fun q1 => ?_) (fun q1 => ?_)
            · refine jz_iinc (v := ((s + 1 : Nat) : Int)) (L' := [some (.ref (u)), some (.int (zI (a))), some (.int (zI (((tkN (tkT a (rwH M.rw)) a.toNat : Nat) : Int)))), some (.int (zI (g2))), some (.int (zI (((s + 1 : Nat) : Int)))), some (.int (zI (sm))), some (.int (zI ((k9 : Int)))), none]) d_Md_rowIsCycle_179 rfl (by omega) (by decide) rfl ?_
              refine jl_goto (tgt := 48) d_Md_rowIsCycle_182 (by decide) ?_
              refine jl_less (L' := [some (.ref (u)), some (.int (zI (a))), some (.int (zI (((tkN (tkT a (rwH M.rw)) a.toNat : Nat) : Int)))), some (.int (zI (g2))), some (.int (zI (((s + 1 : Nat) : Int)))), none, none, none]) ⟨rfl, rfl, rfl, rfl, rfl, trivial⟩ ?_
              refine ih (k - 1) (by omega) (s + 1) g2 (by omega) ?_
              rcases hI with w9 | ⟨w1, w2⟩
              · exact Or.inr w9
              · rcases w2 with ⟨w3, w4, w5⟩ | ⟨w3, w4, w5⟩ | ⟨w3, w4, w5⟩
                · omega
                · exact Or.inl ⟨w4, hT, by rw [show ((s + 1 : Nat) : Int) = (s : Int) + 1 by omega]; exact cyA_s hA w1 w5⟩
                · exact Or.inr ⟨w4, fun q9 => ((hiff.mp q9).2 (s : Int) (by omega) (by omega)).2 w5⟩
            · refine jl_iload_n d_Md_rowIsCycle_118 rfl rfl ?_
              refine jz_if_eq (tgt := 179) d_Md_rowIsCycle_119 (by decide) ⟨by omega, by omega⟩ (fun q2 => ?_) (fun q2 => ?_)
              · refine jz_iinc (v := ((s + 1 : Nat) : Int)) (L' := [some (.ref (u)), some (.int (zI (a))), some (.int (zI (((tkN (tkT a (rwH M.rw)) a.toNat : Nat) : Int)))), some (.int (zI (g2))), some (.int (zI (((s + 1 : Nat) : Int)))), some (.int (zI (sm))), some (.int (zI ((k9 : Int)))), none]) d_Md_rowIsCycle_179 rfl (by omega) (by decide) rfl ?_
                refine jl_goto (tgt := 48) d_Md_rowIsCycle_182 (by decide) ?_
                refine jl_less (L' := [some (.ref (u)), some (.int (zI (a))), some (.int (zI (((tkN (tkT a (rwH M.rw)) a.toNat : Nat) : Int)))), some (.int (zI (g2))), some (.int (zI (((s + 1 : Nat) : Int)))), none, none, none]) ⟨rfl, rfl, rfl, rfl, rfl, trivial⟩ ?_
                refine ih (k - 1) (by omega) (s + 1) g2 (by omega) ?_
                rcases hI with w9 | ⟨w1, w2⟩
                · exact Or.inr w9
                · rcases w2 with ⟨w3, w4, w5⟩ | ⟨w3, w4, w5⟩ | ⟨w3, w4, w5⟩
                  · omega
                  · exact Or.inl ⟨w4, hT, by rw [show ((s + 1 : Nat) : Int) = (s : Int) + 1 by omega]; exact cyA_s hA w1 w5⟩
                  · exact Or.inr ⟨w4, fun q9 => ((hiff.mp q9).2 (s : Int) (by omega) (by omega)).2 w5⟩
              · have hst : (∀ r : Int, 0 ≤ r → r < (s : Int) → ¬ sp_st a (rwH M.rw) (s : Int) = sp_st a (rwH M.rw) r) ∧ ∀ j : Int, 0 ≤ j → j < (k9 : Int) → rwH M.rw (((s : Int) + j) % a * 3).toNat = rwH M.rw ((0 + j) % a * 3).toNat := by
                  rcases hI with ⟨w1, -⟩ | ⟨w0, ⟨w1, w2, w3⟩ | ⟨w1, w2, -⟩ | ⟨w1, w2, -⟩⟩
                  · omega
                  · exact ⟨w0, w3⟩
                  · omega
                  · omega
                have hm9 := hmod ((s : Int) + (k9 : Int))
                have hcs := cmI_s (n := a) (hs := rwH M.rw) (s := (s : Int)) (k := (k9 : Int)) ⟨by omega, by omega⟩ hst.2
                rw [rwH_at, rwH_at] at hcs
                have hr1 := hrw (((s : Int) + (k9 : Int)) % a).toNat
                have hr2 := hrw ((k9 : Int)).toNat
                refine jl_aload_n d_Md_rowIsCycle_122 rfl rfl ?_
                refine jg_6 (q := 19) d_Md_rowIsCycle_123 p0 rfl (by decide) fw_Md_48 ?_
                refine jl_iload d_Md_rowIsCycle_126 rfl ?_
                refine jl_iload d_Md_rowIsCycle_128 rfl ?_
                refine jz_iadd (v := (s : Int) + (k9 : Int)) d_Md_rowIsCycle_130 (by omega) ?_
                refine jl_iload_n d_Md_rowIsCycle_131 rfl rfl ?_
                refine jz_irem (v := ((s : Int) + (k9 : Int)) % a) d_Md_rowIsCycle_132 ⟨by omega, by omega⟩ ⟨by omega, by omega⟩ (by omega) (Int.tmod_eq_emod_of_nonneg (by omega)) ?_
                refine jz_iald d_Md_rowIsCycle_133 p12 (by omega) (by omega) (by omega) ?_
                refine jl_istore (L' := [some (.ref (u)), some (.int (zI (a))), some (.int (zI (((tkN (tkT a (rwH M.rw)) a.toNat : Nat) : Int)))), some (.int (zI (g2))), some (.int (zI ((s : Int)))), some (.int (zI (sm))), some (.int (zI ((k9 : Int)))), some (.int (zI (M.rw (((s : Int) + (k9 : Int)) % a).toNat)))]) d_Md_rowIsCycle_134 (by decide) rfl ?_
                refine jl_iload d_Md_rowIsCycle_136 rfl ?_
                refine jl_aload_n d_Md_rowIsCycle_138 rfl rfl ?_
                refine jg_6 (q := 19) d_Md_rowIsCycle_139 p0 rfl (by decide) fw_Md_48 ?_
                refine jl_iload d_Md_rowIsCycle_142 rfl ?_
                refine jz_iald d_Md_rowIsCycle_144 p12 (by omega) (by omega) (by omega) ?_
                refine jz_icmp_ne (tgt := 152) d_Md_rowIsCycle_145 (by decide) ⟨by omega, by omega⟩ ⟨by omega, by omega⟩ (fun q3 => ?_) (fun q3 => ?_)
                · refine jl_iconst (v := zI (0)) d_Md_rowIsCycle_152 (by decide) ?_
                  refine jl_istore (L' := [some (.ref (u)), some (.int (zI (a))), some (.int (zI (((tkN (tkT a (rwH M.rw)) a.toNat : Nat) : Int)))), some (.int (zI (g2))), some (.int (zI ((s : Int)))), some (.int (zI (0))), some (.int (zI ((k9 : Int)))), some (.int (zI (M.rw (((s : Int) + (k9 : Int)) % a).toNat)))]) d_Md_rowIsCycle_153 (by decide) rfl ?_
                  refine jl_iload d_Md_rowIsCycle_155 rfl ?_
                  refine jl_aload_n d_Md_rowIsCycle_157 rfl rfl ?_
                  refine jg_6 (q := 19) d_Md_rowIsCycle_158 p0 rfl (by decide) fw_Md_48 ?_
                  refine jl_iload d_Md_rowIsCycle_161 rfl ?_
                  refine jz_iald d_Md_rowIsCycle_163 p12 (by omega) (by omega) (by omega) ?_
                  refine jz_icmp_lt (tgt := 171) d_Md_rowIsCycle_164 (by decide) ⟨by omega, by omega⟩ ⟨by omega, by omega⟩ (fun q4 => ?_) (fun q4 => ?_)
                  · refine jl_iconst (v := zI (0)) d_Md_rowIsCycle_171 (by decide) ?_
                    refine jl_istore_n (L' := [some (.ref (u)), some (.int (zI (a))), some (.int (zI (((tkN (tkT a (rwH M.rw)) a.toNat : Nat) : Int)))), some (.int (zI (0))), some (.int (zI ((s : Int)))), some (.int (zI (0))), some (.int (zI ((k9 : Int)))), some (.int (zI (M.rw (((s : Int) + (k9 : Int)) % a).toNat)))]) d_Md_rowIsCycle_172 rfl (by decide) rfl ?_
                    refine jz_iinc (v := ((k9 + 1 : Nat) : Int)) (L' := [some (.ref (u)), some (.int (zI (a))), some (.int (zI (((tkN (tkT a (rwH M.rw)) a.toNat : Nat) : Int)))), some (.int (zI (0))), some (.int (zI ((s : Int)))), some (.int (zI (0))), some (.int (zI (((k9 + 1 : Nat) : Int)))), some (.int (zI (M.rw (((s : Int) + (k9 : Int)) % a).toNat)))]) d_Md_rowIsCycle_173 rfl (by omega) (by decide) rfl ?_
                    refine jl_goto (tgt := 107) d_Md_rowIsCycle_176 (by decide) ?_
                    refine jl_less (L' := [some (.ref (u)), some (.int (zI (a))), some (.int (zI (((tkN (tkT a (rwH M.rw)) a.toNat : Nat) : Int)))), some (.int (zI (0))), some (.int (zI ((s : Int)))), some (.int (zI (0))), some (.int (zI (((k9 + 1 : Nat) : Int)))), none]) ⟨rfl, rfl, rfl, rfl, rfl, rfl, rfl, trivial⟩ ?_
                    rw [if_neg q3, if_neg (by omega)] at hcs
                    exact ih3 (k3 - 1) (by omega) (k9 + 1) 0 0 (by omega) hT hA hsa (by decide) (Or.inr ⟨hst.1, by rw [show ((k9 + 1 : Nat) : Int) = (k9 : Int) + 1 by omega]; exact hcs⟩)
                  · refine jl_iconst (v := zI (1)) d_Md_rowIsCycle_167 (by decide) ?_
                    refine jl_goto (tgt := 172) d_Md_rowIsCycle_168 (by decide) ?_
                    refine jl_istore_n (L' := [some (.ref (u)), some (.int (zI (a))), some (.int (zI (((tkN (tkT a (rwH M.rw)) a.toNat : Nat) : Int)))), some (.int (zI (1))), some (.int (zI ((s : Int)))), some (.int (zI (0))), some (.int (zI ((k9 : Int)))), some (.int (zI (M.rw (((s : Int) + (k9 : Int)) % a).toNat)))]) d_Md_rowIsCycle_172 rfl (by decide) rfl ?_
                    refine jz_iinc (v := ((k9 + 1 : Nat) : Int)) (L' := [some (.ref (u)), some (.int (zI (a))), some (.int (zI (((tkN (tkT a (rwH M.rw)) a.toNat : Nat) : Int)))), some (.int (zI (1))), some (.int (zI ((s : Int)))), some (.int (zI (0))), some (.int (zI (((k9 + 1 : Nat) : Int)))), some (.int (zI (M.rw (((s : Int) + (k9 : Int)) % a).toNat)))]) d_Md_rowIsCycle_173 rfl (by omega) (by decide) rfl ?_
                    refine jl_goto (tgt := 107) d_Md_rowIsCycle_176 (by decide) ?_
                    refine jl_less (L' := [some (.ref (u)), some (.int (zI (a))), some (.int (zI (((tkN (tkT a (rwH M.rw)) a.toNat : Nat) : Int)))), some (.int (zI (1))), some (.int (zI ((s : Int)))), some (.int (zI (0))), some (.int (zI (((k9 + 1 : Nat) : Int)))), none]) ⟨rfl, rfl, rfl, rfl, rfl, rfl, rfl, trivial⟩ ?_
                    rw [if_neg q3, if_pos (by omega)] at hcs
                    exact ih3 (k3 - 1) (by omega) (k9 + 1) 0 1 (by omega) hT hA hsa (by decide) (Or.inr ⟨hst.1, by rw [show ((k9 + 1 : Nat) : Int) = (k9 : Int) + 1 by omega]; exact hcs⟩)
                · refine jl_iconst (v := zI (1)) d_Md_rowIsCycle_148 (by decide) ?_
                  refine jl_goto (tgt := 153) d_Md_rowIsCycle_149 (by decide) ?_
                  refine jl_istore (L' := [some (.ref (u)), some (.int (zI (a))), some (.int (zI (((tkN (tkT a (rwH M.rw)) a.toNat : Nat) : Int)))), some (.int (zI (g2))), some (.int (zI ((s : Int)))), some (.int (zI (1))), some (.int (zI ((k9 : Int)))), some (.int (zI (M.rw (((s : Int) + (k9 : Int)) % a).toNat)))]) d_Md_rowIsCycle_153 (by decide) rfl ?_
                  refine jl_iload d_Md_rowIsCycle_155 rfl ?_
                  refine jl_aload_n d_Md_rowIsCycle_157 rfl rfl ?_
                  refine jg_6 (q := 19) d_Md_rowIsCycle_158 p0 rfl (by decide) fw_Md_48 ?_
                  refine jl_iload d_Md_rowIsCycle_161 rfl ?_
                  refine jz_iald d_Md_rowIsCycle_163 p12 (by omega) (by omega) (by omega) ?_
                  refine jz_icmp_lt (tgt := 171) d_Md_rowIsCycle_164 (by decide) ⟨by omega, by omega⟩ ⟨by omega, by omega⟩ (fun q4 => ?_) (fun q4 => ?_)
                  · refine jl_iconst (v := zI (0)) d_Md_rowIsCycle_171 (by decide) ?_
                    refine jl_istore_n (L' := [some (.ref (u)), some (.int (zI (a))), some (.int (zI (((tkN (tkT a (rwH M.rw)) a.toNat : Nat) : Int)))), some (.int (zI (0))), some (.int (zI ((s : Int)))), some (.int (zI (1))), some (.int (zI ((k9 : Int)))), some (.int (zI (M.rw (((s : Int) + (k9 : Int)) % a).toNat)))]) d_Md_rowIsCycle_172 rfl (by decide) rfl ?_
                    refine jz_iinc (v := ((k9 + 1 : Nat) : Int)) (L' := [some (.ref (u)), some (.int (zI (a))), some (.int (zI (((tkN (tkT a (rwH M.rw)) a.toNat : Nat) : Int)))), some (.int (zI (0))), some (.int (zI ((s : Int)))), some (.int (zI (1))), some (.int (zI (((k9 + 1 : Nat) : Int)))), some (.int (zI (M.rw (((s : Int) + (k9 : Int)) % a).toNat)))]) d_Md_rowIsCycle_173 rfl (by omega) (by decide) rfl ?_
                    refine jl_goto (tgt := 107) d_Md_rowIsCycle_176 (by decide) ?_
                    refine jl_less (L' := [some (.ref (u)), some (.int (zI (a))), some (.int (zI (((tkN (tkT a (rwH M.rw)) a.toNat : Nat) : Int)))), some (.int (zI (0))), some (.int (zI ((s : Int)))), some (.int (zI (1))), some (.int (zI (((k9 + 1 : Nat) : Int)))), none]) ⟨rfl, rfl, rfl, rfl, rfl, rfl, rfl, trivial⟩ ?_
                    rw [if_pos q3, if_neg (by omega)] at hcs
                    exact ih3 (k3 - 1) (by omega) (k9 + 1) 1 0 (by omega) hT hA hsa (by decide) (Or.inr ⟨hst.1, by rw [show ((k9 + 1 : Nat) : Int) = (k9 : Int) + 1 by omega]; exact hcs⟩)
                  · refine jl_iconst (v := zI (1)) d_Md_rowIsCycle_167 (by decide) ?_
                    refine jl_goto (tgt := 172) d_Md_rowIsCycle_168 (by decide) ?_
                    refine jl_istore_n (L' := [some (.ref (u)), some (.int (zI (a))), some (.int (zI (((tkN (tkT a (rwH M.rw)) a.toNat : Nat) : Int)))), some (.int (zI (1))), some (.int (zI ((s : Int)))), some (.int (zI (1))), some (.int (zI ((k9 : Int)))), some (.int (zI (M.rw (((s : Int) + (k9 : Int)) % a).toNat)))]) d_Md_rowIsCycle_172 rfl (by decide) rfl ?_
                    refine jz_iinc (v := ((k9 + 1 : Nat) : Int)) (L' := [some (.ref (u)), some (.int (zI (a))), some (.int (zI (((tkN (tkT a (rwH M.rw)) a.toNat : Nat) : Int)))), some (.int (zI (1))), some (.int (zI ((s : Int)))), some (.int (zI (1))), some (.int (zI (((k9 + 1 : Nat) : Int)))), some (.int (zI (M.rw (((s : Int) + (k9 : Int)) % a).toNat)))]) d_Md_rowIsCycle_173 rfl (by omega) (by decide) rfl ?_
                    refine jl_goto (tgt := 107) d_Md_rowIsCycle_176 (by decide) ?_
                    refine jl_less (L' := [some (.ref (u)), some (.int (zI (a))), some (.int (zI (((tkN (tkT a (rwH M.rw)) a.toNat : Nat) : Int)))), some (.int (zI (1))), some (.int (zI ((s : Int)))), some (.int (zI (1))), some (.int (zI (((k9 + 1 : Nat) : Int)))), none]) ⟨rfl, rfl, rfl, rfl, rfl, rfl, rfl, trivial⟩ ?_
                    rw [if_pos q3, if_pos (by omega)] at hcs
                    exact ih3 (k3 - 1) (by omega) (k9 + 1) 1 1 (by omega) hT hA hsa (by decide) (Or.inr ⟨hst.1, by rw [show ((k9 + 1 : Nat) : Int) = (k9 : Int) + 1 by omega]; exact hcs⟩)
      have lpr : ∀ (k2 : Nat) (r : Nat) (g2 : Int), r + k2 = s → tkN (tkT a (rwH M.rw)) a.toNat = 2 ^ a.toNat - 1 → cyA a (rwH M.rw) (s : Int) → (s : Int) < a → ((g2 = 1 ∧ ∀ r9 : Int, 0 ≤ r9 → r9 < (r : Int) → ¬ sp_st a (rwH M.rw) (s : Int) = sp_st a (rwH M.rw) r9) ∨ (g2 = 0 ∧ ¬ cyP a (rwH M.rw))) → jl_AW l G (jl_F G Kr Kx) m_Md_rowIsCycle d 61 [some (.ref (u)), some (.int (zI (a))), some (.int (zI (((tkN (tkT a (rwH M.rw)) a.toNat : Nat) : Int)))), some (.int (zI (g2))), some (.int (zI ((s : Int)))), some (.int (zI ((r : Int)))), none, none] [] n h 0 0 := by
        intro k2
        induction k2 using Nat.strongRecOn with
        | ind k2 ih2 =>
          intro r g2 hkr hT hA hsa hI
          have hz2 : 0 ≤ g2 ∧ g2 ≤ 1 := by rcases hI with ⟨w1, -⟩ | ⟨w1, -⟩ <;> omega
          obtain ⟨q0, q1, q2, q3, q4, q5, q6, q7, q8, q9, q10, q11, q12, q13⟩ := id (hM9)
          have p0 : h u = jO 6 [.int (zI (M.T)), .ref (u + 1), .ref (u + 2), .ref (u + 3), .ref (u + 4), .ref (u + 5), .int (zI (M.jn)), .int (zI (M.ja)), .int (zI (M.jb)), .ref (u + 6), .ref (u + 7), .int (zI (M.nw)), .int (zI (M.bl)), .int (zI (M.lt)), .int (zI (M.rt)), .ref (u + 8), .ref (u + 9), .ref (u + 10), .ref (u + 11), .ref (u + 12), .ref (u + 13)] := q0
          have p1 : h (u + 1) = jI 8 (fun j9 => zI (M.mo j9)) := q1
          have p2 : h (u + 2) = jI 8 (fun j9 => zI (M.pe j9)) := q2
          have p3 : h (u + 3) = jI 128 (fun j9 => zI (M.co j9)) := q3
          have p4 : h (u + 4) = jI 384 (fun j9 => zI (M.he j9)) := q4
          have p5 : h (u + 5) = jZ 128 (fun j9 => zI (M.cr j9)) := q5
          have p6 : h (u + 6) = jI 16 (fun j9 => zI (M.wy j9)) := q6
          have p7 : h (u + 7) = jI 512 (fun j9 => zI (M.fa j9)) := q7
          have p8 : h (u + 8) = jI 32 (fun j9 => zI (M.la j9)) := q8
          have p9 : h (u + 9) = jI 32 (fun j9 => zI (M.ha j9)) := q9
          have p10 : h (u + 10) = jI 4096 (fun j9 => zI (M.w1 j9)) := q10
          have p11 : h (u + 11) = jI 4096 (fun j9 => zI (M.mr j9)) := q11
          have p12 : h (u + 12) = jI 6 (fun j9 => zI (M.rw j9)) := q12
          have p13 : h (u + 13) = jI 16 (fun j9 => zI (M.tu j9)) := q13
          refine jl_iload d_Md_rowIsCycle_61 rfl ?_
          refine jl_iload d_Md_rowIsCycle_63 rfl ?_
          refine jz_icmp_ge (tgt := 101) d_Md_rowIsCycle_65 (by decide) ⟨by omega, by omega⟩ ⟨by omega, by omega⟩ (fun hc => ?_) (fun hc => ?_)
          · have er : r = s := by omega
            refine jl_iconst (v := zI (1)) d_Md_rowIsCycle_101 (by decide) ?_
            refine jl_istore (L' := [some (.ref (u)), some (.int (zI (a))), some (.int (zI (((tkN (tkT a (rwH M.rw)) a.toNat : Nat) : Int)))), some (.int (zI (g2))), some (.int (zI ((s : Int)))), some (.int (zI (1))), none, none]) d_Md_rowIsCycle_102 (by decide) rfl ?_
            refine jl_iconst (v := zI (0)) d_Md_rowIsCycle_104 (by decide) ?_
            refine jl_istore (L' := [some (.ref (u)), some (.int (zI (a))), some (.int (zI (((tkN (tkT a (rwH M.rw)) a.toNat : Nat) : Int)))), some (.int (zI (g2))), some (.int (zI ((s : Int)))), some (.int (zI (1))), some (.int (zI (0))), none]) d_Md_rowIsCycle_105 (by decide) rfl ?_
            refine jl_less (L' := [some (.ref (u)), some (.int (zI (a))), some (.int (zI (((tkN (tkT a (rwH M.rw)) a.toNat : Nat) : Int)))), some (.int (zI (g2))), some (.int (zI ((s : Int)))), some (.int (zI (1))), some (.int (zI (0))), none]) ⟨rfl, rfl, rfl, rfl, rfl, rfl, rfl, trivial⟩ ?_
            refine lpk a.toNat 0 1 g2 (by omega) hT hA hsa (by decide) ?_
            rcases hI with ⟨w1, w2⟩ | w9
            · exact Or.inr ⟨fun r9 r1 r2 => w2 r9 r1 (by omega), Or.inl ⟨rfl, w1, fun j r1 r2 => by omega⟩⟩
            · exact Or.inl w9
          · refine jl_iload_n d_Md_rowIsCycle_68 rfl rfl ?_
            refine jz_if_eq (tgt := 93) d_Md_rowIsCycle_69 (by decide) ⟨by omega, by omega⟩ (fun q1 => ?_) (fun q1 => ?_)
            · refine jl_iconst (v := zI (0)) d_Md_rowIsCycle_93 (by decide) ?_
              refine jl_istore_n (L' := [some (.ref (u)), some (.int (zI (a))), some (.int (zI (((tkN (tkT a (rwH M.rw)) a.toNat : Nat) : Int)))), some (.int (zI (0))), some (.int (zI ((s : Int)))), some (.int (zI ((r : Int)))), none, none]) d_Md_rowIsCycle_94 rfl (by decide) rfl ?_
              refine jz_iinc (v := ((r + 1 : Nat) : Int)) (L' := [some (.ref (u)), some (.int (zI (a))), some (.int (zI (((tkN (tkT a (rwH M.rw)) a.toNat : Nat) : Int)))), some (.int (zI (0))), some (.int (zI ((s : Int)))), some (.int (zI (((r + 1 : Nat) : Int)))), none, none]) d_Md_rowIsCycle_95 rfl (by omega) (by decide) rfl ?_
              refine jl_goto (tgt := 61) d_Md_rowIsCycle_98 (by decide) ?_
              refine ih2 (k2 - 1) (by omega) (r + 1) 0 (by omega) hT hA hsa ?_
              rcases hI with ⟨w1, -⟩ | w9; omega; exact Or.inr ⟨rfl, w9.2⟩
            · have hs1 := sp_st_rg (p := a) hrh (s : Int)
              have hs2 := sp_st_rg (p := a) hrh (r : Int)
              refine jl_aload_n d_Md_rowIsCycle_72 rfl rfl ?_
              refine jl_iload_n d_Md_rowIsCycle_73 rfl rfl ?_
              refine jl_iload d_Md_rowIsCycle_74 rfl ?_
              refine jl_invV (M' := m_Md_rowState) (d' := d - 1) (ck' := 0) (sk' := 0) (na := 2) (as := [.int (zI (a)), .int (zI ((s : Int)))]) (st := []) d_Md_rowIsCycle_76 rfl p0 rfl mw_Md_117 ww_Md_rowState sw_Md_rowState nw_Md cw_Md_rowState rfl rfl rfl (by decide +kernel) (by omega) (Nat.le_of_ble_eq_true rfl) (Nat.le_of_ble_eq_true rfl) ?_
              refine k_M_rowState hl9 (by omega) hM9 hrw hn9 ⟨by omega, by omega⟩ ?_
              show jl_AW _ _ _ _ _ 79 [some (.ref (u)), some (.int (zI (a))), some (.int (zI (((tkN (tkT a (rwH M.rw)) a.toNat : Nat) : Int)))), some (.int (zI (g2))), some (.int (zI ((s : Int)))), some (.int (zI ((r : Int)))), none, none] [.int (zI (sp_st a (rwH M.rw) (s : Int)))] n h _ _
              refine jl_aload_n d_Md_rowIsCycle_79 rfl rfl ?_
              refine jl_iload_n d_Md_rowIsCycle_80 rfl rfl ?_
              refine jl_iload d_Md_rowIsCycle_81 rfl ?_
              refine jl_invV (M' := m_Md_rowState) (d' := d - 1) (ck' := 0) (sk' := 0) (na := 2) (as := [.int (zI (a)), .int (zI ((r : Int)))]) (st := [.int (zI (sp_st a (rwH M.rw) (s : Int)))]) d_Md_rowIsCycle_83 rfl p0 rfl mw_Md_117 ww_Md_rowState sw_Md_rowState nw_Md cw_Md_rowState rfl rfl rfl (by decide +kernel) (by omega) (Nat.le_of_ble_eq_true rfl) (Nat.le_of_ble_eq_true rfl) ?_
              refine k_M_rowState hl9 (by omega) hM9 hrw hn9 ⟨by omega, by omega⟩ ?_
              show jl_AW _ _ _ _ _ 86 [some (.ref (u)), some (.int (zI (a))), some (.int (zI (((tkN (tkT a (rwH M.rw)) a.toNat : Nat) : Int)))), some (.int (zI (g2))), some (.int (zI ((s : Int)))), some (.int (zI ((r : Int)))), none, none] [.int (zI (sp_st a (rwH M.rw) (r : Int))), .int (zI (sp_st a (rwH M.rw) (s : Int)))] n h _ _
              refine jz_icmp_eq (tgt := 93) d_Md_rowIsCycle_86 (by decide) ⟨by omega, by omega⟩ ⟨by omega, by omega⟩ (fun q2 => ?_) (fun q2 => ?_)
              · refine jl_iconst (v := zI (0)) d_Md_rowIsCycle_93 (by decide) ?_
                refine jl_istore_n (L' := [some (.ref (u)), some (.int (zI (a))), some (.int (zI (((tkN (tkT a (rwH M.rw)) a.toNat : Nat) : Int)))), some (.int (zI (0))), some (.int (zI ((s : Int)))), some (.int (zI ((r : Int)))), none, none]) d_Md_rowIsCycle_94 rfl (by decide) rfl ?_
                refine jz_iinc (v := ((r + 1 : Nat) : Int)) (L' := [some (.ref (u)), some (.int (zI (a))), some (.int (zI (((tkN (tkT a (rwH M.rw)) a.toNat : Nat) : Int)))), some (.int (zI (0))), some (.int (zI ((s : Int)))), some (.int (zI (((r + 1 : Nat) : Int)))), none, none]) d_Md_rowIsCycle_95 rfl (by omega) (by decide) rfl ?_
                refine jl_goto (tgt := 61) d_Md_rowIsCycle_98 (by decide) ?_
                refine ih2 (k2 - 1) (by omega) (r + 1) 0 (by omega) hT hA hsa ?_
                exact Or.inr ⟨rfl, fun q9 => ((hiff.mp q9).2 (s : Int) (by omega) (by omega)).1 (r : Int) (by omega) (by omega) q2⟩
              · refine jl_iconst (v := zI (1)) d_Md_rowIsCycle_89 (by decide) ?_
                refine jl_goto (tgt := 94) d_Md_rowIsCycle_90 (by decide) ?_
                refine jl_istore_n (L' := [some (.ref (u)), some (.int (zI (a))), some (.int (zI (((tkN (tkT a (rwH M.rw)) a.toNat : Nat) : Int)))), some (.int (zI (1))), some (.int (zI ((s : Int)))), some (.int (zI ((r : Int)))), none, none]) d_Md_rowIsCycle_94 rfl (by decide) rfl ?_
                refine jz_iinc (v := ((r + 1 : Nat) : Int)) (L' := [some (.ref (u)), some (.int (zI (a))), some (.int (zI (((tkN (tkT a (rwH M.rw)) a.toNat : Nat) : Int)))), some (.int (zI (1))), some (.int (zI ((s : Int)))), some (.int (zI (((r + 1 : Nat) : Int)))), none, none]) d_Md_rowIsCycle_95 rfl (by omega) (by decide) rfl ?_
                refine jl_goto (tgt := 61) d_Md_rowIsCycle_98 (by decide) ?_
                refine ih2 (k2 - 1) (by omega) (r + 1) 1 (by omega) hT hA hsa ?_
                exact Or.inl ⟨rfl, fun r9 r1 r2 => by by_cases e9 : r9 = (r : Int); rw [e9]; exact q2; rcases hI with ⟨-, w2⟩ | ⟨w1, -⟩; exact w2 r9 r1 (by omega); omega⟩
      have hz1 : 0 ≤ g ∧ g ≤ 1 := by rcases hG with ⟨w1, -⟩ | ⟨w1, -⟩ <;> omega
      obtain ⟨q0, q1, q2, q3, q4, q5, q6, q7, q8, q9, q10, q11, q12, q13⟩ := id (hM9)
      have p0 : h u = jO 6 [.int (zI (M.T)), .ref (u + 1), .ref (u + 2), .ref (u + 3), .ref (u + 4), .ref (u + 5), .int (zI (M.jn)), .int (zI (M.ja)), .int (zI (M.jb)), .ref (u + 6), .ref (u + 7), .int (zI (M.nw)), .int (zI (M.bl)), .int (zI (M.lt)), .int (zI (M.rt)), .ref (u + 8), .ref (u + 9), .ref (u + 10), .ref (u + 11), .ref (u + 12), .ref (u + 13)] := q0
      have p1 : h (u + 1) = jI 8 (fun j9 => zI (M.mo j9)) := q1
      have p2 : h (u + 2) = jI 8 (fun j9 => zI (M.pe j9)) := q2
      have p3 : h (u + 3) = jI 128 (fun j9 => zI (M.co j9)) := q3
      have p4 : h (u + 4) = jI 384 (fun j9 => zI (M.he j9)) := q4
      have p5 : h (u + 5) = jZ 128 (fun j9 => zI (M.cr j9)) := q5
      have p6 : h (u + 6) = jI 16 (fun j9 => zI (M.wy j9)) := q6
      have p7 : h (u + 7) = jI 512 (fun j9 => zI (M.fa j9)) := q7
      have p8 : h (u + 8) = jI 32 (fun j9 => zI (M.la j9)) := q8
      have p9 : h (u + 9) = jI 32 (fun j9 => zI (M.ha j9)) := q9
      have p10 : h (u + 10) = jI 4096 (fun j9 => zI (M.w1 j9)) := q10
      have p11 : h (u + 11) = jI 4096 (fun j9 => zI (M.mr j9)) := q11
      have p12 : h (u + 12) = jI 6 (fun j9 => zI (M.rw j9)) := q12
      have p13 : h (u + 13) = jI 16 (fun j9 => zI (M.tu j9)) := q13
      refine jl_iload d_Md_rowIsCycle_48 rfl ?_
      refine jl_iload_n d_Md_rowIsCycle_50 rfl rfl ?_
      refine jz_icmp_ge (tgt := 185) d_Md_rowIsCycle_51 (by decide) ⟨by omega, by omega⟩ ⟨by omega, by omega⟩ (fun hc => ?_) (fun hc => ?_)
      · have es : (s : Int) = a := by omega
        refine jl_iload_n d_Md_rowIsCycle_185 rfl rfl ?_
        refine jl_zret d_Md_rowIsCycle_186 rfl (by rcases (show g = 0 ∨ g = 1 by omega) with w9 | w9 <;> subst w9 <;> decide) (hk g ?_)
        rcases hG with ⟨w1, w2, w3⟩ | w9
        · exact Or.inl ⟨w1, hiff.mpr ⟨w2, by rw [es] at w3; exact w3⟩⟩
        · exact Or.inr w9
      · refine jl_iload_n d_Md_rowIsCycle_54 rfl rfl ?_
        refine jz_if_eq (tgt := 185) d_Md_rowIsCycle_55 (by decide) ⟨by omega, by omega⟩ (fun q1 => ?_) (fun q1 => ?_)
        · refine jl_iload_n d_Md_rowIsCycle_185 rfl rfl ?_
          refine jl_zret d_Md_rowIsCycle_186 rfl (by rcases (show g = 0 ∨ g = 1 by omega) with w9 | w9 <;> subst w9 <;> decide) (hk g (Or.inr ?_))
          rcases hG with ⟨w1, -⟩ | w9
          · omega
          · exact w9
        · have hG2 : tkN (tkT a (rwH M.rw)) a.toNat = 2 ^ a.toNat - 1 ∧ cyA a (rwH M.rw) (s : Int) := by rcases hG with ⟨-, w2, w3⟩ | ⟨w1, -⟩; exact ⟨w2, w3⟩; omega
          have eg : g = 1 := by omega
          refine jl_iconst (v := zI (0)) d_Md_rowIsCycle_58 (by decide) ?_
          refine jl_istore (L' := [some (.ref (u)), some (.int (zI (a))), some (.int (zI (((tkN (tkT a (rwH M.rw)) a.toNat : Nat) : Int)))), some (.int (zI (g))), some (.int (zI ((s : Int)))), some (.int (zI (0))), none, none]) d_Md_rowIsCycle_59 (by decide) rfl ?_
          refine jl_less (L' := [some (.ref (u)), some (.int (zI (a))), some (.int (zI (((tkN (tkT a (rwH M.rw)) a.toNat : Nat) : Int)))), some (.int (zI (g))), some (.int (zI ((s : Int)))), some (.int (zI (0))), none, none]) ⟨rfl, rfl, rfl, rfl, rfl, rfl, trivial⟩ ?_
          exact lpr s 0 g (by omega) hG2.1 hG2.2 (by omega) (Or.inl ⟨eg, fun r9 r1 r2 => by omega⟩)
  have lp1 : ∀ (k : Nat) (s : Nat), (s : Int) + k = a → jl_AW l G (jl_F G Kr Kx) m_Md_rowIsCycle d 4 [some (.ref (u)), some (.int (zI (a))), some (.int (zI (((tkN (tkT a (rwH M.rw)) s : Nat) : Int)))), some (.int (zI ((s : Int)))), none, none, none, none] [] n h 0 0 := by
    intro k
    induction k using Nat.strongRecOn with
    | ind k ih =>
      intro s hks
      have ht9 := htl s
      obtain ⟨q0, q1, q2, q3, q4, q5, q6, q7, q8, q9, q10, q11, q12, q13⟩ := id (hM9)
      have p0 : h u = jO 6 [.int (zI (M.T)), .ref (u + 1), .ref (u + 2), .ref (u + 3), .ref (u + 4), .ref (u + 5), .int (zI (M.jn)), .int (zI (M.ja)), .int (zI (M.jb)), .ref (u + 6), .ref (u + 7), .int (zI (M.nw)), .int (zI (M.bl)), .int (zI (M.lt)), .int (zI (M.rt)), .ref (u + 8), .ref (u + 9), .ref (u + 10), .ref (u + 11), .ref (u + 12), .ref (u + 13)] := q0
      have p1 : h (u + 1) = jI 8 (fun j9 => zI (M.mo j9)) := q1
      have p2 : h (u + 2) = jI 8 (fun j9 => zI (M.pe j9)) := q2
      have p3 : h (u + 3) = jI 128 (fun j9 => zI (M.co j9)) := q3
      have p4 : h (u + 4) = jI 384 (fun j9 => zI (M.he j9)) := q4
      have p5 : h (u + 5) = jZ 128 (fun j9 => zI (M.cr j9)) := q5
      have p6 : h (u + 6) = jI 16 (fun j9 => zI (M.wy j9)) := q6
      have p7 : h (u + 7) = jI 512 (fun j9 => zI (M.fa j9)) := q7
      have p8 : h (u + 8) = jI 32 (fun j9 => zI (M.la j9)) := q8
      have p9 : h (u + 9) = jI 32 (fun j9 => zI (M.ha j9)) := q9
      have p10 : h (u + 10) = jI 4096 (fun j9 => zI (M.w1 j9)) := q10
      have p11 : h (u + 11) = jI 4096 (fun j9 => zI (M.mr j9)) := q11
      have p12 : h (u + 12) = jI 6 (fun j9 => zI (M.rw j9)) := q12
      have p13 : h (u + 13) = jI 16 (fun j9 => zI (M.tu j9)) := q13
      refine jl_iload_n d_Md_rowIsCycle_4 rfl rfl ?_
      refine jl_iload_n d_Md_rowIsCycle_5 rfl rfl ?_
      refine jz_icmp_ge (tgt := 30) d_Md_rowIsCycle_6 (by decide) ⟨by omega, by omega⟩ ⟨by omega, by omega⟩ (fun hc => ?_) (fun hc => ?_)
      · have es : s = a.toNat := by omega
        rw [es]
        have e8 := bg_2 a.toNat (by omega)
        rw [show ((a.toNat : Nat) : Int) = a by omega] at e8
        have hp7 : 2 ^ a.toNat ≤ 2 ^ 4 := Nat.pow_le_pow_right (by decide) (by omega)
        have hp8 := Nat.two_pow_pos a.toNat
        have ht8 := htl a.toNat
        refine jl_less (L' := [some (.ref (u)), some (.int (zI (a))), some (.int (zI (((tkN (tkT a (rwH M.rw)) a.toNat : Nat) : Int)))), none, none, none, none, none]) ⟨rfl, rfl, rfl, trivial⟩ ?_
        refine jl_iload_n d_Md_rowIsCycle_30 rfl rfl ?_
        refine jl_iconst (v := zI (1)) d_Md_rowIsCycle_31 (by decide) ?_
        refine jl_iload_n d_Md_rowIsCycle_32 rfl rfl ?_
        refine jl_ishl d_Md_rowIsCycle_33 (jz_int e8 ?_)
        refine jl_iconst (v := zI (1)) d_Md_rowIsCycle_34 (by decide) ?_
        refine jz_isub (v := ((2 ^ a.toNat - 1 : Nat) : Int)) d_Md_rowIsCycle_35 (by omega) ?_
        refine jz_icmp_ne (tgt := 43) d_Md_rowIsCycle_36 (by decide) ⟨by omega, by omega⟩ ⟨by omega, by omega⟩ (fun q1 => ?_) (fun q1 => ?_)
        · refine jl_iconst (v := zI (0)) d_Md_rowIsCycle_43 (by decide) ?_
          refine jl_istore_n (L' := [some (.ref (u)), some (.int (zI (a))), some (.int (zI (((tkN (tkT a (rwH M.rw)) a.toNat : Nat) : Int)))), some (.int (zI (0))), none, none, none, none]) d_Md_rowIsCycle_44 rfl (by decide) rfl ?_
          refine jl_iconst (v := zI (0)) d_Md_rowIsCycle_45 (by decide) ?_
          refine jl_istore (L' := [some (.ref (u)), some (.int (zI (a))), some (.int (zI (((tkN (tkT a (rwH M.rw)) a.toNat : Nat) : Int)))), some (.int (zI (0))), some (.int (zI (0))), none, none, none]) d_Md_rowIsCycle_46 (by decide) rfl ?_
          exact lps a.toNat 0 0 (by omega) (Or.inr ⟨rfl, fun q9 => q1 (by have := (hiff.mp q9).1; omega)⟩)
        · refine jl_iconst (v := zI (1)) d_Md_rowIsCycle_39 (by decide) ?_
          refine jl_goto (tgt := 44) d_Md_rowIsCycle_40 (by decide) ?_
          refine jl_istore_n (L' := [some (.ref (u)), some (.int (zI (a))), some (.int (zI (((tkN (tkT a (rwH M.rw)) a.toNat : Nat) : Int)))), some (.int (zI (1))), none, none, none, none]) d_Md_rowIsCycle_44 rfl (by decide) rfl ?_
          refine jl_iconst (v := zI (0)) d_Md_rowIsCycle_45 (by decide) ?_
          refine jl_istore (L' := [some (.ref (u)), some (.int (zI (a))), some (.int (zI (((tkN (tkT a (rwH M.rw)) a.toNat : Nat) : Int)))), some (.int (zI (1))), some (.int (zI (0))), none, none, none]) d_Md_rowIsCycle_46 (by decide) rfl ?_
          exact lps a.toNat 0 1 (by omega) (Or.inl ⟨rfl, by omega, fun s9 r1 r2 => by omega⟩)
      · have hm9 := hmod ((s : Int) + M.rw ((s : Int)).toNat)
        have hr1 := hrw ((s : Int)).toNat
        refine jl_iload_n d_Md_rowIsCycle_9 rfl rfl ?_
        refine jl_iconst (v := zI (1)) d_Md_rowIsCycle_10 (by decide) ?_
        refine jl_iload_n d_Md_rowIsCycle_11 rfl rfl ?_
        refine jl_aload_n d_Md_rowIsCycle_12 rfl rfl ?_
        refine jg_6 (q := 19) d_Md_rowIsCycle_13 p0 rfl (by decide) fw_Md_48 ?_
        refine jl_iload_n d_Md_rowIsCycle_16 rfl rfl ?_
        refine jz_iald d_Md_rowIsCycle_17 p12 (by omega) (by omega) (by omega) ?_
        refine jz_iadd (v := (s : Int) + M.rw ((s : Int)).toNat) d_Md_rowIsCycle_18 (by omega) ?_
        refine jl_iload_n d_Md_rowIsCycle_19 rfl rfl ?_
        refine jz_irem (v := ((s : Int) + M.rw ((s : Int)).toNat) % a) d_Md_rowIsCycle_20 ⟨by omega, by omega⟩ ⟨by omega, by omega⟩ (by omega) (Int.tmod_eq_emod_of_nonneg (by omega)) ?_
        refine jl_ishl d_Md_rowIsCycle_21 (jl_ior d_Md_rowIsCycle_22 (jz_int (bt_or (show tkN (tkT a (rwH M.rw)) s < 512 by omega) ⟨by omega, by omega⟩) ?_))
        refine jl_istore_n (L' := [some (.ref (u)), some (.int (zI (a))), some (.int (zI (((tkN (tkT a (rwH M.rw)) s ||| 2 ^ (((s : Int) + M.rw ((s : Int)).toNat) % a).toNat : Nat) : Int)))), some (.int (zI ((s : Int)))), none, none, none, none]) d_Md_rowIsCycle_23 rfl (by decide) rfl ?_
        refine jz_iinc (v := ((s + 1 : Nat) : Int)) (L' := [some (.ref (u)), some (.int (zI (a))), some (.int (zI (((tkN (tkT a (rwH M.rw)) s ||| 2 ^ (((s : Int) + M.rw ((s : Int)).toNat) % a).toNat : Nat) : Int)))), some (.int (zI (((s + 1 : Nat) : Int)))), none, none, none, none]) d_Md_rowIsCycle_24 rfl (by omega) (by decide) rfl ?_
        refine jl_goto (tgt := 4) d_Md_rowIsCycle_27 (by decide) ?_
        have e9 : tkN (tkT a (rwH M.rw)) (s + 1) = tkN (tkT a (rwH M.rw)) s ||| 2 ^ (((s : Int) + M.rw ((s : Int)).toNat) % a).toNat := by rw [tkN]; unfold tkT; rw [rwH_at]
        have h9 := ih (k - 1) (by omega) (s + 1) (by omega)
        rw [e9] at h9
        exact h9
  refine jl_iconst (v := zI (0)) d_Md_rowIsCycle_0 (by decide) ?_
  refine jl_istore_n (L' := [some (.ref (u)), some (.int (zI (a))), some (.int (zI (0))), none, none, none, none, none]) d_Md_rowIsCycle_1 rfl (by decide) rfl ?_
  refine jl_iconst (v := zI (0)) d_Md_rowIsCycle_2 (by decide) ?_
  refine jl_istore_n (L' := [some (.ref (u)), some (.int (zI (a))), some (.int (zI (0))), some (.int (zI (0))), none, none, none, none]) d_Md_rowIsCycle_3 rfl (by decide) rfl ?_
  exact lp1 a.toNat 0 (by omega)
set_option maxHeartbeats 4000000 in
set_option maxRecDepth 100000 in
theorem k_M_cycle {l : Launch} {G : jl_G} {d n : Nat} {h : Nat → va_E} {Kr : Option Value → Nat → (Nat → va_E) → Prop} {Kx : String → Nat → (Nat → va_E) → Prop} (hl9 : l.stackTraces = false) (hdd : 3 ≤ d) {u : Nat} {M : MS} {a b : Int} (hM9 : jM h u M) (hrw : ∀ j, 0 ≤ M.rw j ∧ M.rw j ≤ 9) (ha : zR a) (hb : zR b) (hk0 : (1 ≤ a ∧ a ≤ 4) ∧ 0 ≤ b → ¬ (scn a 0 (10 ^ a.toNat) b).1 = -1 → ∀ (rw8 : Nat → Int) h', (∀ j, 0 ≤ rw8 j ∧ rw8 j ≤ 9) → jM h' u ((M.wT 0).wrw rw8) → jfr h h' u (u + 14) → Kr (some (.int (zI ((scn a 0 (10 ^ a.toNat) b).1)))) n h') (hk2 : (1 ≤ a ∧ a ≤ 4) ∧ 0 ≤ b → (scn a 0 (10 ^ a.toNat) b).1 = -1 → ∀ (rw8 : Nat → Int) h', (∀ j, 0 ≤ rw8 j ∧ rw8 j ≤ 9) → jM h' u ((M.wT 2).wrw rw8) → jfr h h' u (u + 14) → Kr (some (.int (zI (0)))) n h') (hk1 : ¬ ((1 ≤ a ∧ a ≤ 4) ∧ 0 ≤ b) → ∀ h', jM h' u (M.wT 1) → jfr h h' u (u + 14) → Kr (some (.int (zI (0)))) n h') : jl_Call l G m_Md_cycle d [.ref (u), .int (zI (a)), .int (zI (b))] n h 0 0 Kr Kx := by
  refine jl_enter hl9 (by decide) rfl (by simp [Value.category]) (Nat.le_of_ble_eq_true rfl) ?_
  show jl_AW l G (jl_F G Kr Kx) m_Md_cycle d 0 [some (.ref (u)), some (.int (zI (a))), some (.int (zI (b))), none, none, none, none, none] [] n h 0 0
  obtain ⟨q0, q1, q2, q3, q4, q5, q6, q7, q8, q9, q10, q11, q12, q13⟩ := id (hM9)
  have p0 : h u = jO 6 [.int (zI (M.T)), .ref (u + 1), .ref (u + 2), .ref (u + 3), .ref (u + 4), .ref (u + 5), .int (zI (M.jn)), .int (zI (M.ja)), .int (zI (M.jb)), .ref (u + 6), .ref (u + 7), .int (zI (M.nw)), .int (zI (M.bl)), .int (zI (M.lt)), .int (zI (M.rt)), .ref (u + 8), .ref (u + 9), .ref (u + 10), .ref (u + 11), .ref (u + 12), .ref (u + 13)] := q0
  have p1 : h (u + 1) = jI 8 (fun j9 => zI (M.mo j9)) := q1
  have p2 : h (u + 2) = jI 8 (fun j9 => zI (M.pe j9)) := q2
  have p3 : h (u + 3) = jI 128 (fun j9 => zI (M.co j9)) := q3
  have p4 : h (u + 4) = jI 384 (fun j9 => zI (M.he j9)) := q4
  have p5 : h (u + 5) = jZ 128 (fun j9 => zI (M.cr j9)) := q5
  have p6 : h (u + 6) = jI 16 (fun j9 => zI (M.wy j9)) := q6
  have p7 : h (u + 7) = jI 512 (fun j9 => zI (M.fa j9)) := q7
  have p8 : h (u + 8) = jI 32 (fun j9 => zI (M.la j9)) := q8
  have p9 : h (u + 9) = jI 32 (fun j9 => zI (M.ha j9)) := q9
  have p10 : h (u + 10) = jI 4096 (fun j9 => zI (M.w1 j9)) := q10
  have p11 : h (u + 11) = jI 4096 (fun j9 => zI (M.mr j9)) := q11
  have p12 : h (u + 12) = jI 6 (fun j9 => zI (M.rw j9)) := q12
  have p13 : h (u + 13) = jI 16 (fun j9 => zI (M.tu j9)) := q13
  refine jl_aload_n d_Md_cycle_0 rfl rfl ?_
  refine jl_iconst (v := zI (0)) d_Md_cycle_1 (by decide) ?_
  refine jp_6 (q := 0) (ty := .int) d_Md_cycle_2 p0 (by simp) (by decide) fw_Md_58 rfl (by decide +kernel) (fun _ _ => rfl) (fun _ _ => rfl) (fun h1 eh1 => ?_)
  have eh1 : h1 = va_up h (u) (jO 6 [.int (zI (0)), .ref (u + 1), .ref (u + 2), .ref (u + 3), .ref (u + 4), .ref (u + 5), .int (zI (M.jn)), .int (zI (M.ja)), .int (zI (M.jb)), .ref (u + 6), .ref (u + 7), .int (zI (M.nw)), .int (zI (M.bl)), .int (zI (M.lt)), .int (zI (M.rt)), .ref (u + 8), .ref (u + 9), .ref (u + 10), .ref (u + 11), .ref (u + 12), .ref (u + 13)]) := eh1
  have jf2 : h1 (u) = jO 6 [.int (zI (0)), .ref (u + 1), .ref (u + 2), .ref (u + 3), .ref (u + 4), .ref (u + 5), .int (zI (M.jn)), .int (zI (M.ja)), .int (zI (M.jb)), .ref (u + 6), .ref (u + 7), .int (zI (M.nw)), .int (zI (M.bl)), .int (zI (M.lt)), .int (zI (M.rt)), .ref (u + 8), .ref (u + 9), .ref (u + 10), .ref (u + 11), .ref (u + 12), .ref (u + 13)] := by rw [eh1, va_up_self]
  have jf3 : h1 (u + 1) = jI 8 (fun j9 => zI (M.mo j9)) := by rw [eh1, va_up_ne _ _ (by omega)]; exact p1
  have jf4 : h1 (u + 2) = jI 8 (fun j9 => zI (M.pe j9)) := by rw [eh1, va_up_ne _ _ (by omega)]; exact p2
  have jf5 : h1 (u + 3) = jI 128 (fun j9 => zI (M.co j9)) := by rw [eh1, va_up_ne _ _ (by omega)]; exact p3
  have jf6 : h1 (u + 4) = jI 384 (fun j9 => zI (M.he j9)) := by rw [eh1, va_up_ne _ _ (by omega)]; exact p4
  have jf7 : h1 (u + 5) = jZ 128 (fun j9 => zI (M.cr j9)) := by rw [eh1, va_up_ne _ _ (by omega)]; exact p5
  have jf8 : h1 (u + 6) = jI 16 (fun j9 => zI (M.wy j9)) := by rw [eh1, va_up_ne _ _ (by omega)]; exact p6
  have jf9 : h1 (u + 7) = jI 512 (fun j9 => zI (M.fa j9)) := by rw [eh1, va_up_ne _ _ (by omega)]; exact p7
  have jf10 : h1 (u + 8) = jI 32 (fun j9 => zI (M.la j9)) := by rw [eh1, va_up_ne _ _ (by omega)]; exact p8
  have jf11 : h1 (u + 9) = jI 32 (fun j9 => zI (M.ha j9)) := by rw [eh1, va_up_ne _ _ (by omega)]; exact p9
  have jf12 : h1 (u + 10) = jI 4096 (fun j9 => zI (M.w1 j9)) := by rw [eh1, va_up_ne _ _ (by omega)]; exact p10
  have jf13 : h1 (u + 11) = jI 4096 (fun j9 => zI (M.mr j9)) := by rw [eh1, va_up_ne _ _ (by omega)]; exact p11
  have jf14 : h1 (u + 12) = jI 6 (fun j9 => zI (M.rw j9)) := by rw [eh1, va_up_ne _ _ (by omega)]; exact p12
  have jf15 : h1 (u + 13) = jI 16 (fun j9 => zI (M.tu j9)) := by rw [eh1, va_up_ne _ _ (by omega)]; exact p13
  have hM1 : jM h1 u (M.wT 0) := ⟨jf2, jf3, jf4, jf5, jf6, jf7, jf8, jf9, jf10, jf11, jf12, jf13, jf14, jf15⟩
  have hf1 : jfr h h1 u (u + 14) := (fun y hy => by rw [eh1, va_up_ne _ _ (by omega)])
  obtain ⟨q0a, q1a, q2a, q3a, q4a, q5a, q6a, q7a, q8a, q9a, q10a, q11a, q12a, q13a⟩ := id (hM1)
  have p0a : h1 u = jO 6 [.int (zI (0)), .ref (u + 1), .ref (u + 2), .ref (u + 3), .ref (u + 4), .ref (u + 5), .int (zI (M.jn)), .int (zI (M.ja)), .int (zI (M.jb)), .ref (u + 6), .ref (u + 7), .int (zI (M.nw)), .int (zI (M.bl)), .int (zI (M.lt)), .int (zI (M.rt)), .ref (u + 8), .ref (u + 9), .ref (u + 10), .ref (u + 11), .ref (u + 12), .ref (u + 13)] := q0a
  have p1a : h1 (u + 1) = jI 8 (fun j9 => zI (M.mo j9)) := q1a
  have p2a : h1 (u + 2) = jI 8 (fun j9 => zI (M.pe j9)) := q2a
  have p3a : h1 (u + 3) = jI 128 (fun j9 => zI (M.co j9)) := q3a
  have p4a : h1 (u + 4) = jI 384 (fun j9 => zI (M.he j9)) := q4a
  have p5a : h1 (u + 5) = jZ 128 (fun j9 => zI (M.cr j9)) := q5a
  have p6a : h1 (u + 6) = jI 16 (fun j9 => zI (M.wy j9)) := q6a
  have p7a : h1 (u + 7) = jI 512 (fun j9 => zI (M.fa j9)) := q7a
  have p8a : h1 (u + 8) = jI 32 (fun j9 => zI (M.la j9)) := q8a
  have p9a : h1 (u + 9) = jI 32 (fun j9 => zI (M.ha j9)) := q9a
  have p10a : h1 (u + 10) = jI 4096 (fun j9 => zI (M.w1 j9)) := q10a
  have p11a : h1 (u + 11) = jI 4096 (fun j9 => zI (M.mr j9)) := q11a
  have p12a : h1 (u + 12) = jI 6 (fun j9 => zI (M.rw j9)) := q12a
  have p13a : h1 (u + 13) = jI 16 (fun j9 => zI (M.tu j9)) := q13a
  refine jl_iload_n d_Md_cycle_5 rfl rfl ?_
  refine jl_iconst (v := zI (1)) d_Md_cycle_6 (by decide) ?_
  refine jl_iconst (v := zI (4)) d_Md_cycle_7 (by decide) ?_
  refine jl_invS (M' := m_Md_within) (d' := d - 1) (ck' := 0) (sk' := 0) (na := 3) (as := [.int (zI (a)), .int (zI (1)), .int (zI (4))]) (st := []) d_Md_cycle_8 rfl mw_Md_61 ww_Md_within nw_Md cw_Md_within rfl rfl rfl (by decide +kernel) (by omega) (Nat.le_of_ble_eq_true rfl) (Nat.le_of_ble_eq_true rfl) ?_
  refine k_M_within hl9 (by omega) ha ⟨by decide, by decide⟩ ⟨by decide, by decide⟩ (fun i1 => ?_) (fun i1 => ?_)
  · show jl_AW _ _ _ _ _ 11 [some (.ref (u)), some (.int (zI (a))), some (.int (zI (b))), none, none, none, none, none] [.int (zI (1))] n h1 _ _
    refine jz_if_eq (tgt := 18) d_Md_cycle_11 (by decide) ⟨by decide, by decide⟩ (fun q9 => absurd q9 (by decide)) (fun _ => ?_)
    refine jl_iload_n d_Md_cycle_14 rfl rfl ?_
    refine jz_if_ge (tgt := 24) d_Md_cycle_15 (by decide) ⟨by omega, by omega⟩ (fun q1 => ?_) (fun q1 => ?_)
    · have hpa : (10 : Int) ^ a.toNat ≤ 10 ^ 4 := by have := Nat.pow_le_pow_right (show 0 < 10 by decide) (show a.toNat ≤ 4 by omega); exact_mod_cast this
      have hpc : (((10 : Nat) ^ a.toNat : Nat) : Int) = (10 : Int) ^ a.toNat := by push_cast; rfl
      have lpv : ∀ (k : Nat) (v : Nat) (lf : Int) (rw8 : Nat → Int) (h2 : Nat → va_E), (v : Int) + k = 10 ^ a.toNat → (0 ≤ lf ∧ lf < 2147483648) → scn a (v : Int) k lf = scn a 0 (10 ^ a.toNat) b → (∀ j, 0 ≤ rw8 j ∧ rw8 j ≤ 9) → jM h2 u ((M.wT 0).wrw rw8) → jfr h h2 u (u + 14) → jl_AW l G (jl_F G Kr Kx) m_Md_cycle d 52 [some (.ref (u)), some (.int (zI (a))), some (.int (zI (b))), some (.int (zI ((10 : Int) ^ a.toNat))), some (.int (zI (lf))), some (.int (zI ((v : Int)))), none, none] [] n h2 0 0 := by
        intro k
        induction k using Nat.strongRecOn with
        | ind k ih =>
          intro v lf rw8 h2 hkv hlf hsc hr8 hM2 hf2
          have lpd : ∀ (k2 : Nat) (s : Int) (rw9 : Nat → Int) (h3 : Nat → va_E), s + 1 = k2 → s < a → 0 < k → (∀ j : Int, s < j → j < a → rw9 j.toNat = (v : Int) / 10 ^ (a - 1 - j).toNat % 10) → (∀ j, 0 ≤ rw9 j ∧ rw9 j ≤ 9) → jM h3 u ((M.wT 0).wrw rw9) → jfr h h3 u (u + 14) → jl_AW l G (jl_F G Kr Kx) m_Md_cycle d 67 [some (.ref (u)), some (.int (zI (a))), some (.int (zI (b))), some (.int (zI ((10 : Int) ^ a.toNat))), some (.int (zI (lf))), some (.int (zI ((v : Int)))), some (.int (zI ((v : Int) / 10 ^ (a - 1 - s).toNat))), some (.int (zI (s)))] [] n h3 0 0 := by
            intro k2
            induction k2 using Nat.strongRecOn with
            | ind k2 ih2 =>
              intro s rw9 h3 hks hsa hk9 hd9 hr9 hM3 hf3
              have hq0 : 0 ≤ (v : Int) / 10 ^ (a - 1 - s).toNat ∧ (v : Int) / 10 ^ (a - 1 - s).toNat ≤ (v : Int) := ⟨Int.ediv_nonneg (by omega) (Int.pow_nonneg (by decide)), Int.ediv_le_self _ (by omega)⟩
              obtain ⟨q0y, q1y, q2y, q3y, q4y, q5y, q6y, q7y, q8y, q9y, q10y, q11y, q12y, q13y⟩ := id (hM3)
              have p0y : h3 u = jO 6 [.int (zI (0)), .ref (u + 1), .ref (u + 2), .ref (u + 3), .ref (u + 4), .ref (u + 5), .int (zI (M.jn)), .int (zI (M.ja)), .int (zI (M.jb)), .ref (u + 6), .ref (u + 7), .int (zI (M.nw)), .int (zI (M.bl)), .int (zI (M.lt)), .int (zI (M.rt)), .ref (u + 8), .ref (u + 9), .ref (u + 10), .ref (u + 11), .ref (u + 12), .ref (u + 13)] := q0y
              have p1y : h3 (u + 1) = jI 8 (fun j9 => zI (M.mo j9)) := q1y
              have p2y : h3 (u + 2) = jI 8 (fun j9 => zI (M.pe j9)) := q2y
              have p3y : h3 (u + 3) = jI 128 (fun j9 => zI (M.co j9)) := q3y
              have p4y : h3 (u + 4) = jI 384 (fun j9 => zI (M.he j9)) := q4y
              have p5y : h3 (u + 5) = jZ 128 (fun j9 => zI (M.cr j9)) := q5y
              have p6y : h3 (u + 6) = jI 16 (fun j9 => zI (M.wy j9)) := q6y
              have p7y : h3 (u + 7) = jI 512 (fun j9 => zI (M.fa j9)) := q7y
              have p8y : h3 (u + 8) = jI 32 (fun j9 => zI (M.la j9)) := q8y
              have p9y : h3 (u + 9) = jI 32 (fun j9 => zI (M.ha j9)) := q9y
              have p10y : h3 (u + 10) = jI 4096 (fun j9 => zI (M.w1 j9)) := q10y
              have p11y : h3 (u + 11) = jI 4096 (fun j9 => zI (M.mr j9)) := q11y
              have p12y : h3 (u + 12) = jI 6 (fun j9 => zI (rw9 j9)) := q12y
              have p13y : h3 (u + 13) = jI 16 (fun j9 => zI (M.tu j9)) := q13y
              refine jl_iload d_Md_cycle_67 rfl ?_
              refine jz_if_lt (tgt := 97) d_Md_cycle_69 (by decide) ⟨by omega, by omega⟩ (fun hc => ?_) (fun hc => ?_)
              · have hdg : ∀ s9 : Int, 0 ≤ s9 → s9 < a → rwH rw9 (s9 * 3).toNat = dgt a (v : Int) (s9 * 3).toNat := fun s9 r1 r2 => by rw [rwH_at, dg_step ⟨r1, r2⟩, hd9 s9 (by omega) r2]
                refine jl_aload_n d_Md_cycle_97 rfl rfl ?_
                refine jl_iload_n d_Md_cycle_98 rfl rfl ?_
                refine jl_invV (M' := m_Md_rowIsCycle) (d' := d - 1) (ck' := 0) (sk' := 0) (na := 1) (as := [.int (zI (a))]) (st := []) d_Md_cycle_99 rfl p0y rfl mw_Md_120 ww_Md_rowIsCycle sw_Md_rowIsCycle nw_Md cw_Md_rowIsCycle rfl rfl rfl (by decide +kernel) (by omega) (Nat.le_of_ble_eq_true rfl) (Nat.le_of_ble_eq_true rfl) ?_
                refine k_M_rowIsCycle hl9 (by omega) hM3 hr9 ⟨by omega, by omega⟩ (fun g hg => ?_)
                show jl_AW _ _ _ _ _ 102 [some (.ref (u)), some (.int (zI (a))), some (.int (zI (b))), some (.int (zI ((10 : Int) ^ a.toNat))), some (.int (zI (lf))), some (.int (zI ((v : Int)))), some (.int (zI ((v : Int) / 10 ^ (a - 1 - s).toNat))), some (.int (zI (s)))] [.int (zI (g))] n h3 _ _
                have hg8 := sp_is_rg hg
                have hg : sp_is (cyP a (rwH rw9)) g := hg
                refine jz_if_eq (tgt := 116) d_Md_cycle_102 (by decide) ⟨by omega, by omega⟩ (fun q2 => ?_) (fun q2 => ?_)
                · refine jz_iinc (v := ((v + 1 : Nat) : Int)) (L' := [some (.ref (u)), some (.int (zI (a))), some (.int (zI (b))), some (.int (zI ((10 : Int) ^ a.toNat))), some (.int (zI (lf))), some (.int (zI (((v + 1 : Nat) : Int)))), some (.int (zI ((v : Int) / 10 ^ (a - 1 - s).toNat))), some (.int (zI (s)))]) d_Md_cycle_116 rfl (by omega) (by decide) rfl ?_
                  refine jl_goto (tgt := 52) d_Md_cycle_119 (by decide) ?_
                  refine jl_less (L' := [some (.ref (u)), some (.int (zI (a))), some (.int (zI (b))), some (.int (zI ((10 : Int) ^ a.toNat))), some (.int (zI (lf))), some (.int (zI (((v + 1 : Nat) : Int)))), none, none]) ⟨rfl, rfl, rfl, rfl, rfl, rfl, trivial⟩ ?_
                  refine ih (k - 1) (by omega) (v + 1) (lf) rw9 h3 (by omega) (by omega) ?_ hr9 hM3 hf3
                  rw [← hsc, show k = (k - 1) + 1 by omega, scn_1, pIf_f (fun q9 => by rcases hg with ⟨w1, -⟩ | ⟨-, w2⟩; omega; exact w2 (cyP_cg (by omega) (fun s9 r1 r2 => (hdg s9 r1 r2).symm) q9))]
                  rw [show ((v + 1 : Nat) : Int) = (v : Int) + 1 by omega, show k - 1 + 1 - 1 = k - 1 by omega]
                · have hcy : cyP a (dgt a (v : Int)) := by rcases hg with ⟨-, w2⟩ | ⟨w1, -⟩; exact cyP_cg (by omega) hdg w2; omega
                  refine jl_iload d_Md_cycle_105 rfl ?_
                  refine jz_if_ne (tgt := 113) d_Md_cycle_107 (by decide) ⟨by omega, by omega⟩ (fun q3 => ?_) (fun q3 => ?_)
                  · refine jz_iinc (v := lf - 1) (L' := [some (.ref (u)), some (.int (zI (a))), some (.int (zI (b))), some (.int (zI ((10 : Int) ^ a.toNat))), some (.int (zI (lf - 1))), some (.int (zI ((v : Int)))), some (.int (zI ((v : Int) / 10 ^ (a - 1 - s).toNat))), some (.int (zI (s)))]) d_Md_cycle_113 rfl (by omega) (by decide) rfl ?_
                    refine jz_iinc (v := ((v + 1 : Nat) : Int)) (L' := [some (.ref (u)), some (.int (zI (a))), some (.int (zI (b))), some (.int (zI ((10 : Int) ^ a.toNat))), some (.int (zI (lf - 1))), some (.int (zI (((v + 1 : Nat) : Int)))), some (.int (zI ((v : Int) / 10 ^ (a - 1 - s).toNat))), some (.int (zI (s)))]) d_Md_cycle_116 rfl (by omega) (by decide) rfl ?_
                    refine jl_goto (tgt := 52) d_Md_cycle_119 (by decide) ?_
                    refine jl_less (L' := [some (.ref (u)), some (.int (zI (a))), some (.int (zI (b))), some (.int (zI ((10 : Int) ^ a.toNat))), some (.int (zI (lf - 1))), some (.int (zI (((v + 1 : Nat) : Int)))), none, none]) ⟨rfl, rfl, rfl, rfl, rfl, rfl, trivial⟩ ?_
                    refine ih (k - 1) (by omega) (v + 1) (lf - 1) rw9 h3 (by omega) (by omega) ?_ hr9 hM3 hf3
                    rw [← hsc, show k = (k - 1) + 1 by omega, scn_1, pIf_t hcy, if_neg (by omega)]
                    rw [show ((v + 1 : Nat) : Int) = (v : Int) + 1 by omega, show k - 1 + 1 - 1 = k - 1 by omega]
                  · refine jl_iload d_Md_cycle_110 rfl ?_
                    have hsr : scn a 0 (10 ^ a.toNat) b = ((v : Int), lf - 1) := by rw [← hsc, show k = (k - 1) + 1 by omega, scn_1, pIf_t hcy, if_pos (by omega)]
                    exact jl_iret d_Md_cycle_112 rfl (by have h9 := hk0 ⟨i1, by omega⟩ (by rw [hsr]; show ¬ (v : Int) = -1; omega) rw9 h3 hr9 hM3 hf3; rw [hsr] at h9; exact h9)
              · refine jl_aload_n d_Md_cycle_72 rfl rfl ?_
                refine jg_6 (q := 19) d_Md_cycle_73 p0y rfl (by decide) fw_Md_48 ?_
                refine jl_iload d_Md_cycle_76 rfl ?_
                refine jl_iload d_Md_cycle_78 rfl ?_
                refine jl_bipush (v := zI (10)) d_Md_cycle_80 (by decide) ?_
                refine jz_irem (v := (v : Int) / 10 ^ (a - 1 - s).toNat % 10) d_Md_cycle_82 ⟨by omega, by omega⟩ ⟨by decide, by decide⟩ (by decide) (Int.tmod_eq_emod_of_nonneg (by omega)) ?_
                refine jz_iasth d_Md_cycle_83 p12y (by omega) (by omega) (by omega) (fun h16 eh16 => ?_)
                have jf17 : h16 (u + 12) = jI 6 (fun j9 => zI ((va_up rw9 (s).toNat ((v : Int) / 10 ^ (a - 1 - s).toNat % 10)) j9)) := by rw [eh16, va_up_self]
                refine jl_iload d_Md_cycle_84 rfl ?_
                refine jl_bipush (v := zI (10)) d_Md_cycle_86 (by decide) ?_
                refine jz_idiv (v := (v : Int) / 10 ^ (a - 1 - s).toNat / 10) d_Md_cycle_88 ⟨by omega, by omega⟩ ⟨by decide, by decide⟩ (by decide) (Int.tdiv_eq_ediv_of_nonneg (by omega)) ?_
                refine jl_istore (L' := [some (.ref (u)), some (.int (zI (a))), some (.int (zI (b))), some (.int (zI ((10 : Int) ^ a.toNat))), some (.int (zI (lf))), some (.int (zI ((v : Int)))), some (.int (zI ((v : Int) / 10 ^ (a - 1 - s).toNat / 10))), some (.int (zI (s)))]) d_Md_cycle_89 (by decide) rfl ?_
                refine jz_iinc (v := s - 1) (L' := [some (.ref (u)), some (.int (zI (a))), some (.int (zI (b))), some (.int (zI ((10 : Int) ^ a.toNat))), some (.int (zI (lf))), some (.int (zI ((v : Int)))), some (.int (zI ((v : Int) / 10 ^ (a - 1 - s).toNat / 10))), some (.int (zI (s - 1)))]) d_Md_cycle_91 rfl (by omega) (by decide) rfl ?_
                refine jl_goto (tgt := 67) d_Md_cycle_94 (by decide) ?_
                have e9 : (v : Int) / 10 ^ (a - 1 - (s - 1)).toNat = (v : Int) / 10 ^ (a - 1 - s).toNat / 10 := by rw [show (a - 1 - (s - 1)).toNat = (a - 1 - s).toNat + 1 by omega, dg_rest]
                have jf18 : h16 (u) = jO 6 [.int (zI (0)), .ref (u + 1), .ref (u + 2), .ref (u + 3), .ref (u + 4), .ref (u + 5), .int (zI (M.jn)), .int (zI (M.ja)), .int (zI (M.jb)), .ref (u + 6), .ref (u + 7), .int (zI (M.nw)), .int (zI (M.bl)), .int (zI (M.lt)), .int (zI (M.rt)), .ref (u + 8), .ref (u + 9), .ref (u + 10), .ref (u + 11), .ref (u + 12), .ref (u + 13)] := by rw [eh16, va_up_ne _ _ (by omega)]; exact p0y
                have jf19 : h16 (u + 1) = jI 8 (fun j9 => zI (M.mo j9)) := by rw [eh16, va_up_ne _ _ (by omega)]; exact p1y
                have jf20 : h16 (u + 2) = jI 8 (fun j9 => zI (M.pe j9)) := by rw [eh16, va_up_ne _ _ (by omega)]; exact p2y
                have jf21 : h16 (u + 3) = jI 128 (fun j9 => zI (M.co j9)) := by rw [eh16, va_up_ne _ _ (by omega)]; exact p3y
                have jf22 : h16 (u + 4) = jI 384 (fun j9 => zI (M.he j9)) := by rw [eh16, va_up_ne _ _ (by omega)]; exact p4y
                have jf23 : h16 (u + 5) = jZ 128 (fun j9 => zI (M.cr j9)) := by rw [eh16, va_up_ne _ _ (by omega)]; exact p5y
                have jf24 : h16 (u + 6) = jI 16 (fun j9 => zI (M.wy j9)) := by rw [eh16, va_up_ne _ _ (by omega)]; exact p6y
                have jf25 : h16 (u + 7) = jI 512 (fun j9 => zI (M.fa j9)) := by rw [eh16, va_up_ne _ _ (by omega)]; exact p7y
                have jf26 : h16 (u + 8) = jI 32 (fun j9 => zI (M.la j9)) := by rw [eh16, va_up_ne _ _ (by omega)]; exact p8y
                have jf27 : h16 (u + 9) = jI 32 (fun j9 => zI (M.ha j9)) := by rw [eh16, va_up_ne _ _ (by omega)]; exact p9y
                have jf28 : h16 (u + 10) = jI 4096 (fun j9 => zI (M.w1 j9)) := by rw [eh16, va_up_ne _ _ (by omega)]; exact p10y
                have jf29 : h16 (u + 11) = jI 4096 (fun j9 => zI (M.mr j9)) := by rw [eh16, va_up_ne _ _ (by omega)]; exact p11y
                have jf30 : h16 (u + 13) = jI 16 (fun j9 => zI (M.tu j9)) := by rw [eh16, va_up_ne _ _ (by omega)]; exact p13y
                have hdn : ∀ j : Int, s - 1 < j → j < a → (va_up rw9 (s).toNat ((v : Int) / 10 ^ (a - 1 - s).toNat % 10)) j.toNat = (v : Int) / 10 ^ (a - 1 - j).toNat % 10 := by
                  intro j r1 r2
                  by_cases e8 : j = s
                  · rw [e8, va_up_self]
                  · rw [va_up_ne _ _ (by omega)]; exact hd9 j (by omega) r2
                have h9 := ih2 (k2 - 1) (by omega) (s - 1) (va_up rw9 (s).toNat ((v : Int) / 10 ^ (a - 1 - s).toNat % 10)) h16 (by omega) (by omega) (by omega) hdn (va_up_P (P := fun v9 => 0 ≤ v9 ∧ v9 ≤ 9) hr9 (by omega)) ⟨jf18, jf19, jf20, jf21, jf22, jf23, jf24, jf25, jf26, jf27, jf28, jf29, jf17, jf30⟩ (fun y hy => by rw [eh16, va_up_ne _ _ (by omega)]; exact hf3 y hy)
                rw [e9] at h9
                exact h9
          have hp9 : (0 : Int) < 10 ^ a.toNat := Int.pow_pos (by decide)
          refine jl_iload d_Md_cycle_52 rfl ?_
          refine jl_iload_n d_Md_cycle_54 rfl rfl ?_
          refine jz_icmp_ge (tgt := 122) d_Md_cycle_55 (by decide) ⟨by omega, by omega⟩ ⟨by omega, by omega⟩ (fun hc => ?_) (fun hc => ?_)
          · have ek : k = 0 := by omega
            have hsr : scn a 0 (10 ^ a.toNat) b = (-1, lf) := by rw [← hsc, ek]; rfl
            obtain ⟨q0w, q1w, q2w, q3w, q4w, q5w, q6w, q7w, q8w, q9w, q10w, q11w, q12w, q13w⟩ := id (hM2)
            have p0w : h2 u = jO 6 [.int (zI (0)), .ref (u + 1), .ref (u + 2), .ref (u + 3), .ref (u + 4), .ref (u + 5), .int (zI (M.jn)), .int (zI (M.ja)), .int (zI (M.jb)), .ref (u + 6), .ref (u + 7), .int (zI (M.nw)), .int (zI (M.bl)), .int (zI (M.lt)), .int (zI (M.rt)), .ref (u + 8), .ref (u + 9), .ref (u + 10), .ref (u + 11), .ref (u + 12), .ref (u + 13)] := q0w
            have p1w : h2 (u + 1) = jI 8 (fun j9 => zI (M.mo j9)) := q1w
            have p2w : h2 (u + 2) = jI 8 (fun j9 => zI (M.pe j9)) := q2w
            have p3w : h2 (u + 3) = jI 128 (fun j9 => zI (M.co j9)) := q3w
            have p4w : h2 (u + 4) = jI 384 (fun j9 => zI (M.he j9)) := q4w
            have p5w : h2 (u + 5) = jZ 128 (fun j9 => zI (M.cr j9)) := q5w
            have p6w : h2 (u + 6) = jI 16 (fun j9 => zI (M.wy j9)) := q6w
            have p7w : h2 (u + 7) = jI 512 (fun j9 => zI (M.fa j9)) := q7w
            have p8w : h2 (u + 8) = jI 32 (fun j9 => zI (M.la j9)) := q8w
            have p9w : h2 (u + 9) = jI 32 (fun j9 => zI (M.ha j9)) := q9w
            have p10w : h2 (u + 10) = jI 4096 (fun j9 => zI (M.w1 j9)) := q10w
            have p11w : h2 (u + 11) = jI 4096 (fun j9 => zI (M.mr j9)) := q11w
            have p12w : h2 (u + 12) = jI 6 (fun j9 => zI (rw8 j9)) := q12w
            have p13w : h2 (u + 13) = jI 16 (fun j9 => zI (M.tu j9)) := q13w
            refine jl_aload_n d_Md_cycle_122 rfl rfl ?_
            refine jl_iconst (v := zI (2)) d_Md_cycle_123 (by decide) ?_
            refine jl_invV (M' := m_Md_fail) (d' := d - 1) (ck' := 0) (sk' := 0) (na := 1) (as := [.int (zI (2))]) (st := []) d_Md_cycle_124 rfl p0w rfl mw_Md_65 ww_Md_fail sw_Md_fail nw_Md cw_Md_fail rfl rfl rfl (by decide +kernel) (by omega) (Nat.le_of_ble_eq_true rfl) (Nat.le_of_ble_eq_true rfl) ?_
            refine k_M_fail hl9 (by omega) hM2 (fun h3 hM3 hf3 => ?_)
            show jl_AW _ _ _ _ _ 127 [some (.ref (u)), some (.int (zI (a))), some (.int (zI (b))), some (.int (zI ((10 : Int) ^ a.toNat))), some (.int (zI (lf))), some (.int (zI ((v : Int)))), none, none] [.int (zI (0))] n h3 _ _
            exact jl_iret d_Md_cycle_127 rfl (hk2 ⟨i1, by omega⟩ (by rw [hsr]) rw8 h3 hr8 hM3 (jfr_tr hf2 hf3))
          · refine jl_iload d_Md_cycle_58 rfl ?_
            refine jl_istore (L' := [some (.ref (u)), some (.int (zI (a))), some (.int (zI (b))), some (.int (zI ((10 : Int) ^ a.toNat))), some (.int (zI (lf))), some (.int (zI ((v : Int)))), some (.int (zI ((v : Int)))), none]) d_Md_cycle_60 (by decide) rfl ?_
            refine jl_iload_n d_Md_cycle_62 rfl rfl ?_
            refine jl_iconst (v := zI (1)) d_Md_cycle_63 (by decide) ?_
            refine jz_isub (v := a - 1) d_Md_cycle_64 (by omega) ?_
            refine jl_istore (L' := [some (.ref (u)), some (.int (zI (a))), some (.int (zI (b))), some (.int (zI ((10 : Int) ^ a.toNat))), some (.int (zI (lf))), some (.int (zI ((v : Int)))), some (.int (zI ((v : Int)))), some (.int (zI (a - 1)))]) d_Md_cycle_65 (by decide) rfl ?_
            have h9 := lpd a.toNat (a - 1) rw8 h2 (by omega) (by omega) (by omega) (fun j r1 r2 => by omega) hr8 hM2 hf2
            rw [show (a - 1 - (a - 1)).toNat = 0 by omega, Int.pow_zero, Int.ediv_one] at h9
            exact h9
      have lp1 : ∀ (k : Nat) (s : Nat), (s : Int) + k = a → jl_AW l G (jl_F G Kr Kx) m_Md_cycle d 29 [some (.ref (u)), some (.int (zI (a))), some (.int (zI (b))), some (.int (zI ((10 : Int) ^ s))), some (.int (zI ((s : Int)))), none, none, none] [] n h1 0 0 := by
        intro k
        induction k using Nat.strongRecOn with
        | ind k ih =>
          intro s hks
          have hps : (10 : Int) ^ s ≤ 10 ^ 4 := by have := Nat.pow_le_pow_right (show 0 < 10 by decide) (show s ≤ 4 by omega); exact_mod_cast this
          refine jl_iload d_Md_cycle_29 rfl ?_
          refine jl_iload_n d_Md_cycle_31 rfl rfl ?_
          refine jz_icmp_ge (tgt := 46) d_Md_cycle_32 (by decide) ⟨by omega, by omega⟩ ⟨by omega, by omega⟩ (fun hc => ?_) (fun hc => ?_)
          · have es : s = a.toNat := by omega
            rw [es]
            refine jl_iload_n d_Md_cycle_46 rfl rfl ?_
            refine jl_istore (L' := [some (.ref (u)), some (.int (zI (a))), some (.int (zI (b))), some (.int (zI ((10 : Int) ^ a.toNat))), some (.int (zI (b))), none, none, none]) d_Md_cycle_47 (by decide) rfl ?_
            refine jl_iconst (v := zI (0)) d_Md_cycle_49 (by decide) ?_
            refine jl_istore (L' := [some (.ref (u)), some (.int (zI (a))), some (.int (zI (b))), some (.int (zI ((10 : Int) ^ a.toNat))), some (.int (zI (b))), some (.int (zI (0))), none, none]) d_Md_cycle_50 (by decide) rfl ?_
            exact lpv (10 ^ a.toNat) 0 b M.rw h1 (by rw [hpc]; omega) (by omega) rfl hrw hM1 hf1
          · refine jl_iload_n d_Md_cycle_35 rfl rfl ?_
            refine jl_bipush (v := zI (10)) d_Md_cycle_36 (by decide) ?_
            refine jz_imul (v := (10 : Int) ^ (s + 1)) d_Md_cycle_38 (by rw [Int.pow_succ]) ?_
            refine jl_istore_n (L' := [some (.ref (u)), some (.int (zI (a))), some (.int (zI (b))), some (.int (zI ((10 : Int) ^ (s + 1)))), some (.int (zI ((s : Int)))), none, none, none]) d_Md_cycle_39 rfl (by decide) rfl ?_
            refine jz_iinc (v := ((s + 1 : Nat) : Int)) (L' := [some (.ref (u)), some (.int (zI (a))), some (.int (zI (b))), some (.int (zI ((10 : Int) ^ (s + 1)))), some (.int (zI (((s + 1 : Nat) : Int)))), none, none, none]) d_Md_cycle_40 rfl (by omega) (by decide) rfl ?_
            refine jl_goto (tgt := 29) d_Md_cycle_43 (by decide) ?_
            exact ih (k - 1) (by omega) (s + 1) (by omega)
      refine jl_iconst (v := zI (1)) d_Md_cycle_24 (by decide) ?_
      refine jl_istore_n (L' := [some (.ref (u)), some (.int (zI (a))), some (.int (zI (b))), some (.int (zI (1))), none, none, none, none]) d_Md_cycle_25 rfl (by decide) rfl ?_
      refine jl_iconst (v := zI (0)) d_Md_cycle_26 (by decide) ?_
      refine jl_istore (L' := [some (.ref (u)), some (.int (zI (a))), some (.int (zI (b))), some (.int (zI (1))), some (.int (zI (0))), none, none, none]) d_Md_cycle_27 (by decide) rfl ?_
      exact lp1 a.toNat 0 (by omega)
    · refine jl_aload_n d_Md_cycle_18 rfl rfl ?_
      refine jl_iconst (v := zI (1)) d_Md_cycle_19 (by decide) ?_
      refine jl_invV (M' := m_Md_fail) (d' := d - 1) (ck' := 0) (sk' := 0) (na := 1) (as := [.int (zI (1))]) (st := []) d_Md_cycle_20 rfl p0a rfl mw_Md_65 ww_Md_fail sw_Md_fail nw_Md cw_Md_fail rfl rfl rfl (by decide +kernel) (by omega) (Nat.le_of_ble_eq_true rfl) (Nat.le_of_ble_eq_true rfl) ?_
      refine k_M_fail hl9 (by omega) hM1 (fun h2 hM2 hf2 => ?_)
      show jl_AW _ _ _ _ _ 23 [some (.ref (u)), some (.int (zI (a))), some (.int (zI (b))), none, none, none, none, none] [.int (zI (0))] n h2 _ _
      exact jl_iret d_Md_cycle_23 rfl (hk1 (fun q => by omega) h2 hM2 (jfr_tr hf1 hf2))
  · show jl_AW _ _ _ _ _ 11 [some (.ref (u)), some (.int (zI (a))), some (.int (zI (b))), none, none, none, none, none] [.int (zI (0))] n h1 _ _
    refine jz_if_eq (tgt := 18) d_Md_cycle_11 (by decide) ⟨by decide, by decide⟩ (fun _ => ?_) (fun q9 => absurd q9 (by decide))
    refine jl_aload_n d_Md_cycle_18 rfl rfl ?_
    refine jl_iconst (v := zI (1)) d_Md_cycle_19 (by decide) ?_
    refine jl_invV (M' := m_Md_fail) (d' := d - 1) (ck' := 0) (sk' := 0) (na := 1) (as := [.int (zI (1))]) (st := []) d_Md_cycle_20 rfl p0a rfl mw_Md_65 ww_Md_fail sw_Md_fail nw_Md cw_Md_fail rfl rfl rfl (by decide +kernel) (by omega) (Nat.le_of_ble_eq_true rfl) (Nat.le_of_ble_eq_true rfl) ?_
    refine k_M_fail hl9 (by omega) hM1 (fun h2 hM2 hf2 => ?_)
    show jl_AW _ _ _ _ _ 23 [some (.ref (u)), some (.int (zI (a))), some (.int (zI (b))), none, none, none, none, none] [.int (zI (0))] n h2 _ _
    exact jl_iret d_Md_cycle_23 rfl (hk1 (fun q => i1 q.1) h2 hM2 (jfr_tr hf1 hf2))
