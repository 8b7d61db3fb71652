theorem hi_ll {B : List (Int × Int)} {la : Nat → Int} (h : ∀ j, j < B.length → la j = (B.getD j (0, 0)).1) : ∀ k, k ≤ B.length → hiM la k = ll B k
  | 0, _ => rfl
  | k + 1, hk => by
    have ih := hi_ll h k (by omega)
    have hr := ll_rg B k (by omega)
    unfold hiM ll
    rw [ih, h k (by omega)]
    by_cases q : ll B k = -1
    · rw [if_pos (Or.inl (by omega)), if_pos (Or.inl q)]
    · rw [h (ll B k).toNat (by omega)]
      by_cases w : (B.getD (ll B k).toNat (0, 0)).1 < (B.getD k (0, 0)).1
      · rw [if_pos (Or.inr w), if_pos (Or.inr w)]
      · rw [if_neg (by omega), if_neg (by omega)]
set_option maxHeartbeats 4000000 in
set_option maxRecDepth 100000 in
theorem lw_joinThrow {l : Launch} {G : jl_G} {F : List Frame → Array Value → State → Nat → Nat → (Nat → Nat) → Nat → State → Prop} {d n t ck sk : Nat} {h : Nat → va_E} {z : UInt32} (hl9 : l.stackTraces = false) (hd9 : 20 ≤ d) (hlen : G.2.2.2.2.1 ≤ 2048) (ht : 4 * t + 4 ≤ G.2.2.2.2.1) (hI : LI t n h) (hnext : ∀ n' h', LI (t + 1) n' h' → jl_AW l G F m_Lw_law d 1405 [some (.float (z)), some (.ref (0)), some (.ref (28)), some (.ref (42)), some (.int (zI (((4 * t : Nat) : Int)))), none, none] [] n' h' ck sk) : jl_AW l G F m_Lw_law d 876 [some (.float (z)), some (.ref (0)), some (.ref (28)), some (.ref (42)), some (.int (zI (((4 * t : Nat) : Int)))), none, none] [] n h (ck + 1) (sk + 6) := by
  obtain ⟨M, hQ, okM, hrw, hX, ⟨f, hO⟩, hn, hlD, hlS, hlJ, hlC, hlF⟩ := hI
  have hz1 := scr_z G (4 * t + 1)
  have hz2 := scr_z G (4 * t + 2)
  have hz3 := scr_z G (4 * t + 3)
  obtain ⟨DS, QU, WA, qd, ln, md, fs, ts, hJ, hj⟩ := id hlJ
  have hjr : (0 ≤ ln ∧ ln ≤ 511) ∧ (-1 ≤ M.jn ∧ M.jn ≤ 16) ∧ ∀ b : Int, (0 ≤ b ∧ b < ln) ↔ (0 ≤ b ∧ b < M.jn) := by
    rcases hj with ⟨j1, j2, j3⟩ | ⟨j1, j2, j3, -⟩
    · exact ⟨by omega, by omega, fun b => by omega⟩
    · exact ⟨by omega, by omega, fun b => by omega⟩
  have hwa : ∀ b : Int, 0 ≤ b → b < ln → WA b.toNat = M.wy b.toNat := by
    intro b q1 q2
    rcases hj with ⟨j1, j2, j3⟩ | ⟨j1, j2, j3, j4, -⟩
    · omega
    · exact j4 _ (by omega)
  refine jl_aload_n d_Lw_law_876 rfl rfl ?_
  refine jl_sload_n d_Lw_law_877 rfl rfl ?_
  refine jl_iload d_Lw_law_878 rfl ?_
  refine jl_iconst (v := zI (1)) d_Lw_law_880 (by decide) ?_
  refine jz_iadd (v := ((4 * t + 1 : Nat) : Int)) d_Lw_law_881 (by omega) ?_
  refine jz_sld (k9 := 4 * t + 1) d_Lw_law_882 rfl (by omega) hlen ?_
  refine jl_aload_n d_Lw_law_883 rfl rfl ?_
  refine jl_invSH (M' := m_Lw_joinThrow) (d' := d - 1) (ck' := 1) (sk' := 6) (ck := ck) (sk := sk) (na := 3) (as := [.ref (0), .int (zI (scr G (4 * t + 1))), .ref (42)]) (st := []) d_Lw_law_884 rfl mw_Lw_138 ww_Lw_joinThrow nw_Lw cw_Lw_joinThrow rfl rfl (by decide +kernel) (by omega) (Nat.le_of_ble_eq_true rfl) (Nat.le_of_ble_eq_true rfl) ?_
  refine k_Lw_joinThrow hl9 (d' := d - 2) (by omega) hX ?_
  refine k_joinThrow hl9 (by omega) hX hJ hjr.1 hz1 (fun hin => ⟨WA (scr G (4 * t + 1)).toNat, f, rfl, hO, ?_⟩) (fun hno => ⟨rfl, ?_⟩)
  · obtain ⟨h2, eh2⟩ : ∃ z9, z9 = va_up h 42 (jJ 1 (vp_updL f (zI 0).toNatClampNeg ((zI (WA (scr G (4 * t + 1)).toNat)).toInt64))) := ⟨_, rfl⟩
    rw [← eh2]
    have oh2 : h2 42 = jJ 1 (vp_updL f (zI 0).toNatClampNeg ((zI (WA (scr G (4 * t + 1)).toNat)).toInt64)) := by rw [eh2, va_up_self]
    have gh2 : ∀ y, y ≠ 42 → h2 y = h y := fun y hy => by rw [eh2, va_up_ne _ _ hy]
    show jl_AW _ _ _ _ _ 887 [some (.float (z)), some (.ref (0)), some (.ref (28)), some (.ref (42)), some (.int (zI (((4 * t : Nat) : Int)))), none, none] [.int (zI (0))] n h2 _ _
    have hM2 : jM h2 28 M := jM_fr (fun y q1 q2 => gh2 y (by omega)) hQ
    refine jl_istore (L' := [some (.float (z)), some (.ref (0)), some (.ref (28)), some (.ref (42)), some (.int (zI (((4 * t : Nat) : Int)))), some (.int (zI (0))), none]) d_Lw_law_887 (by decide) rfl ?_
    refine jl_aload_n d_Lw_law_889 rfl rfl ?_
    refine jl_sload_n d_Lw_law_890 rfl rfl ?_
    refine jl_iload d_Lw_law_891 rfl ?_
    refine jl_iconst (v := zI (1)) d_Lw_law_893 (by decide) ?_
    refine jz_iadd (v := ((4 * t + 1 : Nat) : Int)) d_Lw_law_894 (by omega) ?_
    refine jz_sld (k9 := 4 * t + 1) d_Lw_law_895 rfl (by omega) hlen ?_
    refine jl_invV0 (M' := m_Md_joinThrow) (d' := d - 1) (ck' := 0) (sk' := 0) (na := 1) (as := [.int (zI (scr G (4 * t + 1)))]) (st := []) (x := 28) d_Lw_law_896 rfl (hM2).1 rfl mw_Lw_140 ww_Md_joinThrow sw_Md_joinThrow nw_Md cw_Md_joinThrow rfl rfl (by decide +kernel) (by omega) (Nat.le_of_ble_eq_true rfl) (Nat.le_of_ble_eq_true rfl) ?_
    refine k_M_joinThrow hl9 (by omega) hM2 hz1 hjr.2.1 (fun _ h3 hM3 hf3 => ?_) (fun q => absurd ((hjr.2.2 _).mp hin) q)
    show jl_AW _ _ _ _ _ 899 [some (.float (z)), some (.ref (0)), some (.ref (28)), some (.ref (42)), some (.int (zI (((4 * t : Nat) : Int)))), some (.int (zI (0))), none] [.int (zI (M.wy (scr G (4 * t + 1)).toNat))] n h3 _ _
    have o3 : h3 42 = jJ 1 (vp_updL f (zI 0).toNatClampNeg ((zI (WA (scr G (4 * t + 1)).toNat)).toInt64)) := by rw [hf3 42 (by omega)]; exact oh2
    have fr : ∀ y, (y < 28 ∨ 43 ≤ y) → h3 y = h y := fun y q2 => by rw [hf3 y (by omega), gh2 y (by omega)]
    refine jl_istore (L' := [some (.float (z)), some (.ref (0)), some (.ref (28)), some (.ref (42)), some (.int (zI (((4 * t : Nat) : Int)))), some (.int (zI (0))), some (.int (zI (M.wy (scr G (4 * t + 1)).toNat)))]) d_Lw_law_899 (by decide) rfl ?_
    refine jl_aload_n d_Lw_law_901 rfl rfl ?_
    refine jl_invV0 (M' := m_Md_thrown) (d' := d - 1) (ck' := 0) (sk' := 0) (na := 0) (as := []) (st := []) (x := 28) d_Lw_law_902 rfl (hM3).1 rfl mw_Lw_93 ww_Md_thrown sw_Md_thrown nw_Md cw_Md_thrown rfl rfl (by decide +kernel) (by omega) (Nat.le_of_ble_eq_true rfl) (Nat.le_of_ble_eq_true rfl) ?_
    refine k_M_thrown hl9 (by omega) hM3 ?_
    show jl_AW _ _ _ _ _ 905 [some (.float (z)), some (.ref (0)), some (.ref (28)), some (.ref (42)), some (.int (zI (((4 * t : Nat) : Int)))), some (.int (zI (0))), some (.int (zI (M.wy (scr G (4 * t + 1)).toNat)))] [.int (zI (0))] n h3 _ _
    refine jl_iload d_Lw_law_905 rfl ?_
    refine jz_icmp_eq (tgt := 912) d_Lw_law_907 (by decide) ⟨by decide, by decide⟩ ⟨by decide, by decide⟩ (fun _ => ?_) (fun q9 => absurd rfl q9)
    refine jl_iload d_Lw_law_912 rfl ?_
    refine jz_if_ne (tgt := 929) d_Lw_law_914 (by decide) ⟨by decide, by decide⟩ (fun q9 => absurd q9 (by decide)) (fun _ => ?_)
    refine jl_aload_n d_Lw_law_917 rfl rfl ?_
    refine jl_iconst (v := zI (0)) d_Lw_law_918 (by decide) ?_
    refine jl_lald d_Lw_law_919 o3 (zI_in (by decide) (by decide) (by decide)) ?_
    refine jl_iload d_Lw_law_920 rfl ?_
    refine jl_i2l d_Lw_law_922 ?_
    refine jz_lcmp0 d_Lw_law_923 (by unfold vp_updL; rw [if_pos rfl]; rw [hwa _ hin.1 hin.2]) ?_
    refine jz_if_eq (tgt := 929) d_Lw_law_924 (by decide) ⟨by decide, by decide⟩ (fun _ => ?_) (fun q9 => absurd q9 (by decide))
    refine jl_goto (tgt := 1405) d_Lw_law_929 (by decide) ?_
    refine jl_less (L' := [some (.float (z)), some (.ref (0)), some (.ref (28)), some (.ref (42)), some (.int (zI (((4 * t : Nat) : Int)))), none, none]) ⟨rfl, rfl, rfl, rfl, rfl, trivial⟩ ?_
    exact hnext n h3 ⟨_, hM3, okM, hrw, (fr 0 (by omega)).trans hX, ⟨_, o3⟩, hn, lD_fr (fun y q1 q2 => fr y (by omega)) ⟨rfl, rfl, fun _ _ => rfl, fun _ _ => rfl, fun _ _ => rfl⟩ hlD, lS_fr (fun y hy => fr y (by omega)) (fun _ _ _ => ⟨rfl, rfl, fun _ _ => rfl, fun _ _ => rfl, fun _ _ => rfl⟩) hlS, lJ_fr (fun y q1 q2 => fr y (by omega)) hlJ, lCt_fr (fun y q1 q2 => fr y (by omega)) hlC, lF_fr (fun y q1 q2 => fr y (by omega)) ⟨rfl, rfl, fun _ _ => rfl, fun _ _ => rfl, fun _ _ => rfl⟩ ⟨rfl, rfl, rfl, rfl, rfl, rfl⟩ (by omega) hlF⟩
  · show jl_AW _ _ _ _ _ 887 [some (.float (z)), some (.ref (0)), some (.ref (28)), some (.ref (42)), some (.int (zI (((4 * t : Nat) : Int)))), none, none] [.int (zI (1))] n h _ _
    refine jl_istore (L' := [some (.float (z)), some (.ref (0)), some (.ref (28)), some (.ref (42)), some (.int (zI (((4 * t : Nat) : Int)))), some (.int (zI (1))), none]) d_Lw_law_887 (by decide) rfl ?_
    refine jl_aload_n d_Lw_law_889 rfl rfl ?_
    refine jl_sload_n d_Lw_law_890 rfl rfl ?_
    refine jl_iload d_Lw_law_891 rfl ?_
    refine jl_iconst (v := zI (1)) d_Lw_law_893 (by decide) ?_
    refine jz_iadd (v := ((4 * t + 1 : Nat) : Int)) d_Lw_law_894 (by omega) ?_
    refine jz_sld (k9 := 4 * t + 1) d_Lw_law_895 rfl (by omega) hlen ?_
    refine jl_invV0 (M' := m_Md_joinThrow) (d' := d - 1) (ck' := 0) (sk' := 0) (na := 1) (as := [.int (zI (scr G (4 * t + 1)))]) (st := []) (x := 28) d_Lw_law_896 rfl (hQ).1 rfl mw_Lw_140 ww_Md_joinThrow sw_Md_joinThrow nw_Md cw_Md_joinThrow rfl rfl (by decide +kernel) (by omega) (Nat.le_of_ble_eq_true rfl) (Nat.le_of_ble_eq_true rfl) ?_
    refine k_M_joinThrow hl9 (by omega) hQ hz1 hjr.2.1 (fun q => absurd ((hjr.2.2 _).mpr q) hno) (fun _ h3 hM3 hf3 => ?_)
    show jl_AW _ _ _ _ _ 899 [some (.float (z)), some (.ref (0)), some (.ref (28)), some (.ref (42)), some (.int (zI (((4 * t : Nat) : Int)))), some (.int (zI (1))), none] [.int (zI (0))] n h3 _ _
    have fr : ∀ y, (y < 28 ∨ 42 ≤ y) → h3 y = h y := fun y q2 => hf3 y (by omega)
    refine jl_istore (L' := [some (.float (z)), some (.ref (0)), some (.ref (28)), some (.ref (42)), some (.int (zI (((4 * t : Nat) : Int)))), some (.int (zI (1))), some (.int (zI (0)))]) d_Lw_law_899 (by decide) rfl ?_
    refine jl_aload_n d_Lw_law_901 rfl rfl ?_
    refine jl_invV0 (M' := m_Md_thrown) (d' := d - 1) (ck' := 0) (sk' := 0) (na := 0) (as := []) (st := []) (x := 28) d_Lw_law_902 rfl (hM3).1 rfl mw_Lw_93 ww_Md_thrown sw_Md_thrown nw_Md cw_Md_thrown rfl rfl (by decide +kernel) (by omega) (Nat.le_of_ble_eq_true rfl) (Nat.le_of_ble_eq_true rfl) ?_
    refine k_M_thrown hl9 (by omega) hM3 ?_
    show jl_AW _ _ _ _ _ 905 [some (.float (z)), some (.ref (0)), some (.ref (28)), some (.ref (42)), some (.int (zI (((4 * t : Nat) : Int)))), some (.int (zI (1))), some (.int (zI (0)))] [.int (zI (1))] n h3 _ _
    refine jl_iload d_Lw_law_905 rfl ?_
    refine jz_icmp_eq (tgt := 912) d_Lw_law_907 (by decide) ⟨by decide, by decide⟩ ⟨by decide, by decide⟩ (fun _ => ?_) (fun q9 => absurd rfl q9)
    refine jl_iload d_Lw_law_912 rfl ?_
    refine jz_if_ne (tgt := 929) d_Lw_law_914 (by decide) ⟨by decide, by decide⟩ (fun _ => ?_) (fun q9 => absurd q9 (by decide))
    refine jl_goto (tgt := 1405) d_Lw_law_929 (by decide) ?_
    refine jl_less (L' := [some (.float (z)), some (.ref (0)), some (.ref (28)), some (.ref (42)), some (.int (zI (((4 * t : Nat) : Int)))), none, none]) ⟨rfl, rfl, rfl, rfl, rfl, trivial⟩ ?_
    exact hnext n h3 ⟨_, hM3, okM, hrw, (fr 0 (by omega)).trans hX, ⟨f, (fr 42 (by omega)).trans hO⟩, hn, lD_fr (fun y q1 q2 => fr y (by omega)) ⟨rfl, rfl, fun _ _ => rfl, fun _ _ => rfl, fun _ _ => rfl⟩ hlD, lS_fr (fun y hy => fr y (by omega)) (fun _ _ _ => ⟨rfl, rfl, fun _ _ => rfl, fun _ _ => rfl, fun _ _ => rfl⟩) hlS, lJ_fr (fun y q1 q2 => fr y (by omega)) hlJ, lCt_fr (fun y q1 q2 => fr y (by omega)) hlC, lF_fr (fun y q1 q2 => fr y (by omega)) ⟨rfl, rfl, fun _ _ => rfl, fun _ _ => rfl, fun _ _ => rfl⟩ ⟨rfl, rfl, rfl, rfl, rfl, rfl⟩ (by omega) hlF⟩
set_option maxHeartbeats 4000000 in
set_option maxRecDepth 100000 in
theorem lw_joinAt {l : Launch} {G : jl_G} {F : List Frame → Array Value → State → Nat → Nat → (Nat → Nat) → Nat → State → Prop} {d n t ck sk : Nat} {h : Nat → va_E} {z : UInt32} (hl9 : l.stackTraces = false) (hd9 : 20 ≤ d) (hlen : G.2.2.2.2.1 ≤ 2048) (ht : 4 * t + 4 ≤ G.2.2.2.2.1) (hI : LI t n h) (hnext : ∀ n' h', LI (t + 1) n' h' → jl_AW l G F m_Lw_law d 1405 [some (.float (z)), some (.ref (0)), some (.ref (28)), some (.ref (42)), some (.int (zI (((4 * t : Nat) : Int)))), none, none] [] n' h' ck sk) : jl_AW l G F m_Lw_law d 932 [some (.float (z)), some (.ref (0)), some (.ref (28)), some (.ref (42)), some (.int (zI (((4 * t : Nat) : Int)))), none, none] [] n h (ck + 1) (sk + 6) := by
  obtain ⟨M, hQ, okM, hrw, hX, ⟨f, hO⟩, hn, hlD, hlS, hlJ, hlC, hlF⟩ := hI
  have hz1 := scr_z G (4 * t + 1)
  have hz2 := scr_z G (4 * t + 2)
  have hz3 := scr_z G (4 * t + 3)
  obtain ⟨DS, QU, WA, qd, ln, md, fs, ts, hJ, hj⟩ := id hlJ
  have hjr : zR md ∧ (-1 ≤ M.jn ∧ M.jn ≤ 16) ∧ ((¬ md = 0) ↔ 0 ≤ M.jn) ∧ (¬ md = 0 → fs = M.ja ∧ ts = M.jb) := by
    rcases hj with ⟨j1, j2, j3⟩ | ⟨j1, j2, j3, j4, j5, j6⟩
    · exact ⟨⟨by omega, by omega⟩, by omega, by omega, fun q => absurd j1 q⟩
    · exact ⟨⟨by omega, by omega⟩, by omega, by omega, fun q => ⟨j5, j6⟩⟩
  refine jl_aload_n d_Lw_law_932 rfl rfl ?_
  refine jl_sload_n d_Lw_law_933 rfl rfl ?_
  refine jl_iload d_Lw_law_934 rfl ?_
  refine jl_iconst (v := zI (1)) d_Lw_law_936 (by decide) ?_
  refine jz_iadd (v := ((4 * t + 1 : Nat) : Int)) d_Lw_law_937 (by omega) ?_
  refine jz_sld (k9 := 4 * t + 1) d_Lw_law_938 rfl (by omega) hlen ?_
  refine jl_aload_n d_Lw_law_939 rfl rfl ?_
  refine jl_invSH (M' := m_Lw_joinAt) (d' := d - 1) (ck' := 1) (sk' := 6) (ck := ck) (sk := sk) (na := 3) (as := [.ref (0), .int (zI (scr G (4 * t + 1))), .ref (42)]) (st := []) d_Lw_law_940 rfl mw_Lw_141 ww_Lw_joinAt nw_Lw cw_Lw_joinAt rfl rfl (by decide +kernel) (by omega) (Nat.le_of_ble_eq_true rfl) (Nat.le_of_ble_eq_true rfl) ?_
  refine k_Lw_joinAt hl9 (d' := d - 2) (by omega) hX ?_
  refine k_joinAt hl9 (by omega) hX hJ hjr.1 hz1 (fun hb hm => ⟨fs, f, rfl, hO, ?_⟩) (fun hb hm => ⟨ts, f, rfl, hO, ?_⟩) (fun hno => ⟨rfl, ?_⟩)
  · obtain ⟨h2, eh2⟩ : ∃ z9, z9 = va_up h 42 (jJ 1 (vp_updL f (zI 0).toNatClampNeg ((zI (fs)).toInt64))) := ⟨_, rfl⟩
    rw [← eh2]
    have oh2 : h2 42 = jJ 1 (vp_updL f (zI 0).toNatClampNeg ((zI (fs)).toInt64)) := by rw [eh2, va_up_self]
    have gh2 : ∀ y, y ≠ 42 → h2 y = h y := fun y hy => by rw [eh2, va_up_ne _ _ hy]
    show jl_AW _ _ _ _ _ 943 [some (.float (z)), some (.ref (0)), some (.ref (28)), some (.ref (42)), some (.int (zI (((4 * t : Nat) : Int)))), none, none] [.int (zI (0))] n h2 _ _
    have hM2 : jM h2 28 M := jM_fr (fun y q1 q2 => gh2 y (by omega)) hQ
    refine jl_istore (L' := [some (.float (z)), some (.ref (0)), some (.ref (28)), some (.ref (42)), some (.int (zI (((4 * t : Nat) : Int)))), some (.int (zI (0))), none]) d_Lw_law_943 (by decide) rfl ?_
    refine jl_aload_n d_Lw_law_945 rfl rfl ?_
    refine jl_sload_n d_Lw_law_946 rfl rfl ?_
    refine jl_iload d_Lw_law_947 rfl ?_
    refine jl_iconst (v := zI (1)) d_Lw_law_949 (by decide) ?_
    refine jz_iadd (v := ((4 * t + 1 : Nat) : Int)) d_Lw_law_950 (by omega) ?_
    refine jz_sld (k9 := 4 * t + 1) d_Lw_law_951 rfl (by omega) hlen ?_
    refine jl_invV0 (M' := m_Md_joinAt) (d' := d - 1) (ck' := 0) (sk' := 0) (na := 1) (as := [.int (zI (scr G (4 * t + 1)))]) (st := []) (x := 28) d_Lw_law_952 rfl (hM2).1 rfl mw_Lw_143 ww_Md_joinAt sw_Md_joinAt nw_Md cw_Md_joinAt rfl rfl (by decide +kernel) (by omega) (Nat.le_of_ble_eq_true rfl) (Nat.le_of_ble_eq_true rfl) ?_
    refine k_M_joinAt hl9 (by omega) hM2 hz1 hjr.2.1 (fun _ _ h3 hM3 hf3 => ?_) (fun _ q => absurd hb q) (fun q => absurd ⟨by omega, hjr.2.2.1.mp hm⟩ q)
    show jl_AW _ _ _ _ _ 955 [some (.float (z)), some (.ref (0)), some (.ref (28)), some (.ref (42)), some (.int (zI (((4 * t : Nat) : Int)))), some (.int (zI (0))), none] [.int (zI (M.ja))] n h3 _ _
    have o3 : h3 42 = jJ 1 (vp_updL f (zI 0).toNatClampNeg ((zI (fs)).toInt64)) := by rw [hf3 42 (by omega)]; exact oh2
    have fr : ∀ y, (y < 28 ∨ 43 ≤ y) → h3 y = h y := fun y q2 => by rw [hf3 y (by omega), gh2 y (by omega)]
    refine jl_istore (L' := [some (.float (z)), some (.ref (0)), some (.ref (28)), some (.ref (42)), some (.int (zI (((4 * t : Nat) : Int)))), some (.int (zI (0))), some (.int (zI (M.ja)))]) d_Lw_law_955 (by decide) rfl ?_
    refine jl_aload_n d_Lw_law_957 rfl rfl ?_
    refine jl_invV0 (M' := m_Md_thrown) (d' := d - 1) (ck' := 0) (sk' := 0) (na := 0) (as := []) (st := []) (x := 28) d_Lw_law_958 rfl (hM3).1 rfl mw_Lw_93 ww_Md_thrown sw_Md_thrown nw_Md cw_Md_thrown rfl rfl (by decide +kernel) (by omega) (Nat.le_of_ble_eq_true rfl) (Nat.le_of_ble_eq_true rfl) ?_
    refine k_M_thrown hl9 (by omega) hM3 ?_
    show jl_AW _ _ _ _ _ 961 [some (.float (z)), some (.ref (0)), some (.ref (28)), some (.ref (42)), some (.int (zI (((4 * t : Nat) : Int)))), some (.int (zI (0))), some (.int (zI (M.ja)))] [.int (zI (0))] n h3 _ _
    refine jl_iload d_Lw_law_961 rfl ?_
    refine jz_icmp_eq (tgt := 968) d_Lw_law_963 (by decide) ⟨by decide, by decide⟩ ⟨by decide, by decide⟩ (fun _ => ?_) (fun q9 => absurd rfl q9)
    refine jl_iload d_Lw_law_968 rfl ?_
    refine jz_if_ne (tgt := 985) d_Lw_law_970 (by decide) ⟨by decide, by decide⟩ (fun q9 => absurd q9 (by decide)) (fun _ => ?_)
    refine jl_aload_n d_Lw_law_973 rfl rfl ?_
    refine jl_iconst (v := zI (0)) d_Lw_law_974 (by decide) ?_
    refine jl_lald d_Lw_law_975 o3 (zI_in (by decide) (by decide) (by decide)) ?_
    refine jl_iload d_Lw_law_976 rfl ?_
    refine jl_i2l d_Lw_law_978 ?_
    refine jz_lcmp0 d_Lw_law_979 (by unfold vp_updL; rw [if_pos rfl]; rw [(hjr.2.2.2 hm).1]) ?_
    refine jz_if_eq (tgt := 985) d_Lw_law_980 (by decide) ⟨by decide, by decide⟩ (fun _ => ?_) (fun q9 => absurd q9 (by decide))
    refine jl_goto (tgt := 1405) d_Lw_law_985 (by decide) ?_
    refine jl_less (L' := [some (.float (z)), some (.ref (0)), some (.ref (28)), some (.ref (42)), some (.int (zI (((4 * t : Nat) : Int)))), none, none]) ⟨rfl, rfl, rfl, rfl, rfl, trivial⟩ ?_
    exact hnext n h3 ⟨_, hM3, okM, hrw, (fr 0 (by omega)).trans hX, ⟨_, o3⟩, hn, lD_fr (fun y q1 q2 => fr y (by omega)) ⟨rfl, rfl, fun _ _ => rfl, fun _ _ => rfl, fun _ _ => rfl⟩ hlD, lS_fr (fun y hy => fr y (by omega)) (fun _ _ _ => ⟨rfl, rfl, fun _ _ => rfl, fun _ _ => rfl, fun _ _ => rfl⟩) hlS, lJ_fr (fun y q1 q2 => fr y (by omega)) hlJ, lCt_fr (fun y q1 q2 => fr y (by omega)) hlC, lF_fr (fun y q1 q2 => fr y (by omega)) ⟨rfl, rfl, fun _ _ => rfl, fun _ _ => rfl, fun _ _ => rfl⟩ ⟨rfl, rfl, rfl, rfl, rfl, rfl⟩ (by omega) hlF⟩
  · obtain ⟨h2, eh2⟩ : ∃ z9, z9 = va_up h 42 (jJ 1 (vp_updL f (zI 0).toNatClampNeg ((zI (ts)).toInt64))) := ⟨_, rfl⟩
    rw [← eh2]
    have oh2 : h2 42 = jJ 1 (vp_updL f (zI 0).toNatClampNeg ((zI (ts)).toInt64)) := by rw [eh2, va_up_self]
    have gh2 : ∀ y, y ≠ 42 → h2 y = h y := fun y hy => by rw [eh2, va_up_ne _ _ hy]
    show jl_AW _ _ _ _ _ 943 [some (.float (z)), some (.ref (0)), some (.ref (28)), some (.ref (42)), some (.int (zI (((4 * t : Nat) : Int)))), none, none] [.int (zI (0))] n h2 _ _
    have hM2 : jM h2 28 M := jM_fr (fun y q1 q2 => gh2 y (by omega)) hQ
    refine jl_istore (L' := [some (.float (z)), some (.ref (0)), some (.ref (28)), some (.ref (42)), some (.int (zI (((4 * t : Nat) : Int)))), some (.int (zI (0))), none]) d_Lw_law_943 (by decide) rfl ?_
    refine jl_aload_n d_Lw_law_945 rfl rfl ?_
    refine jl_sload_n d_Lw_law_946 rfl rfl ?_
    refine jl_iload d_Lw_law_947 rfl ?_
    refine jl_iconst (v := zI (1)) d_Lw_law_949 (by decide) ?_
    refine jz_iadd (v := ((4 * t + 1 : Nat) : Int)) d_Lw_law_950 (by omega) ?_
    refine jz_sld (k9 := 4 * t + 1) d_Lw_law_951 rfl (by omega) hlen ?_
    refine jl_invV0 (M' := m_Md_joinAt) (d' := d - 1) (ck' := 0) (sk' := 0) (na := 1) (as := [.int (zI (scr G (4 * t + 1)))]) (st := []) (x := 28) d_Lw_law_952 rfl (hM2).1 rfl mw_Lw_143 ww_Md_joinAt sw_Md_joinAt nw_Md cw_Md_joinAt rfl rfl (by decide +kernel) (by omega) (Nat.le_of_ble_eq_true rfl) (Nat.le_of_ble_eq_true rfl) ?_
    refine k_M_joinAt hl9 (by omega) hM2 hz1 hjr.2.1 (fun _ q => absurd q (by omega)) (fun _ _ h3 hM3 hf3 => ?_) (fun q => absurd ⟨by omega, hjr.2.2.1.mp hm⟩ q)
    show jl_AW _ _ _ _ _ 955 [some (.float (z)), some (.ref (0)), some (.ref (28)), some (.ref (42)), some (.int (zI (((4 * t : Nat) : Int)))), some (.int (zI (0))), none] [.int (zI (M.jb))] n h3 _ _
    have o3 : h3 42 = jJ 1 (vp_updL f (zI 0).toNatClampNeg ((zI (ts)).toInt64)) := by rw [hf3 42 (by omega)]; exact oh2
    have fr : ∀ y, (y < 28 ∨ 43 ≤ y) → h3 y = h y := fun y q2 => by rw [hf3 y (by omega), gh2 y (by omega)]
    refine jl_istore (L' := [some (.float (z)), some (.ref (0)), some (.ref (28)), some (.ref (42)), some (.int (zI (((4 * t : Nat) : Int)))), some (.int (zI (0))), some (.int (zI (M.jb)))]) d_Lw_law_955 (by decide) rfl ?_
    refine jl_aload_n d_Lw_law_957 rfl rfl ?_
    refine jl_invV0 (M' := m_Md_thrown) (d' := d - 1) (ck' := 0) (sk' := 0) (na := 0) (as := []) (st := []) (x := 28) d_Lw_law_958 rfl (hM3).1 rfl mw_Lw_93 ww_Md_thrown sw_Md_thrown nw_Md cw_Md_thrown rfl rfl (by decide +kernel) (by omega) (Nat.le_of_ble_eq_true rfl) (Nat.le_of_ble_eq_true rfl) ?_
    refine k_M_thrown hl9 (by omega) hM3 ?_
    show jl_AW _ _ _ _ _ 961 [some (.float (z)), some (.ref (0)), some (.ref (28)), some (.ref (42)), some (.int (zI (((4 * t : Nat) : Int)))), some (.int (zI (0))), some (.int (zI (M.jb)))] [.int (zI (0))] n h3 _ _
    refine jl_iload d_Lw_law_961 rfl ?_
    refine jz_icmp_eq (tgt := 968) d_Lw_law_963 (by decide) ⟨by decide, by decide⟩ ⟨by decide, by decide⟩ (fun _ => ?_) (fun q9 => absurd rfl q9)
    refine jl_iload d_Lw_law_968 rfl ?_
    refine jz_if_ne (tgt := 985) d_Lw_law_970 (by decide) ⟨by decide, by decide⟩ (fun q9 => absurd q9 (by decide)) (fun _ => ?_)
    refine jl_aload_n d_Lw_law_973 rfl rfl ?_
    refine jl_iconst (v := zI (0)) d_Lw_law_974 (by decide) ?_
    refine jl_lald d_Lw_law_975 o3 (zI_in (by decide) (by decide) (by decide)) ?_
    refine jl_iload d_Lw_law_976 rfl ?_
    refine jl_i2l d_Lw_law_978 ?_
    refine jz_lcmp0 d_Lw_law_979 (by unfold vp_updL; rw [if_pos rfl]; rw [(hjr.2.2.2 hm).2]) ?_
    refine jz_if_eq (tgt := 985) d_Lw_law_980 (by decide) ⟨by decide, by decide⟩ (fun _ => ?_) (fun q9 => absurd q9 (by decide))
    refine jl_goto (tgt := 1405) d_Lw_law_985 (by decide) ?_
    refine jl_less (L' := [some (.float (z)), some (.ref (0)), some (.ref (28)), some (.ref (42)), some (.int (zI (((4 * t : Nat) : Int)))), none, none]) ⟨rfl, rfl, rfl, rfl, rfl, trivial⟩ ?_
    exact hnext n h3 ⟨_, hM3, okM, hrw, (fr 0 (by omega)).trans hX, ⟨_, o3⟩, hn, lD_fr (fun y q1 q2 => fr y (by omega)) ⟨rfl, rfl, fun _ _ => rfl, fun _ _ => rfl, fun _ _ => rfl⟩ hlD, lS_fr (fun y hy => fr y (by omega)) (fun _ _ _ => ⟨rfl, rfl, fun _ _ => rfl, fun _ _ => rfl, fun _ _ => rfl⟩) hlS, lJ_fr (fun y q1 q2 => fr y (by omega)) hlJ, lCt_fr (fun y q1 q2 => fr y (by omega)) hlC, lF_fr (fun y q1 q2 => fr y (by omega)) ⟨rfl, rfl, fun _ _ => rfl, fun _ _ => rfl, fun _ _ => rfl⟩ ⟨rfl, rfl, rfl, rfl, rfl, rfl⟩ (by omega) hlF⟩
  · show jl_AW _ _ _ _ _ 943 [some (.float (z)), some (.ref (0)), some (.ref (28)), some (.ref (42)), some (.int (zI (((4 * t : Nat) : Int)))), none, none] [.int (zI (1))] n h _ _
    refine jl_istore (L' := [some (.float (z)), some (.ref (0)), some (.ref (28)), some (.ref (42)), some (.int (zI (((4 * t : Nat) : Int)))), some (.int (zI (1))), none]) d_Lw_law_943 (by decide) rfl ?_
    refine jl_aload_n d_Lw_law_945 rfl rfl ?_
    refine jl_sload_n d_Lw_law_946 rfl rfl ?_
    refine jl_iload d_Lw_law_947 rfl ?_
    refine jl_iconst (v := zI (1)) d_Lw_law_949 (by decide) ?_
    refine jz_iadd (v := ((4 * t + 1 : Nat) : Int)) d_Lw_law_950 (by omega) ?_
    refine jz_sld (k9 := 4 * t + 1) d_Lw_law_951 rfl (by omega) hlen ?_
    refine jl_invV0 (M' := m_Md_joinAt) (d' := d - 1) (ck' := 0) (sk' := 0) (na := 1) (as := [.int (zI (scr G (4 * t + 1)))]) (st := []) (x := 28) d_Lw_law_952 rfl (hQ).1 rfl mw_Lw_143 ww_Md_joinAt sw_Md_joinAt nw_Md cw_Md_joinAt rfl rfl (by decide +kernel) (by omega) (Nat.le_of_ble_eq_true rfl) (Nat.le_of_ble_eq_true rfl) ?_
    refine k_M_joinAt hl9 (by omega) hQ hz1 hjr.2.1 (fun q => absurd ⟨q.1, hjr.2.2.1.mpr q.2⟩ hno) (fun q => absurd ⟨q.1, hjr.2.2.1.mpr q.2⟩ hno) (fun _ h3 hM3 hf3 => ?_)
    show jl_AW _ _ _ _ _ 955 [some (.float (z)), some (.ref (0)), some (.ref (28)), some (.ref (42)), some (.int (zI (((4 * t : Nat) : Int)))), some (.int (zI (1))), none] [.int (zI (0))] n h3 _ _
    have fr : ∀ y, (y < 28 ∨ 42 ≤ y) → h3 y = h y := fun y q2 => hf3 y (by omega)
    refine jl_istore (L' := [some (.float (z)), some (.ref (0)), some (.ref (28)), some (.ref (42)), some (.int (zI (((4 * t : Nat) : Int)))), some (.int (zI (1))), some (.int (zI (0)))]) d_Lw_law_955 (by decide) rfl ?_
    refine jl_aload_n d_Lw_law_957 rfl rfl ?_
    refine jl_invV0 (M' := m_Md_thrown) (d' := d - 1) (ck' := 0) (sk' := 0) (na := 0) (as := []) (st := []) (x := 28) d_Lw_law_958 rfl (hM3).1 rfl mw_Lw_93 ww_Md_thrown sw_Md_thrown nw_Md cw_Md_thrown rfl rfl (by decide +kernel) (by omega) (Nat.le_of_ble_eq_true rfl) (Nat.le_of_ble_eq_true rfl) ?_
    refine k_M_thrown hl9 (by omega) hM3 ?_
    show jl_AW _ _ _ _ _ 961 [some (.float (z)), some (.ref (0)), some (.ref (28)), some (.ref (42)), some (.int (zI (((4 * t : Nat) : Int)))), some (.int (zI (1))), some (.int (zI (0)))] [.int (zI (1))] n h3 _ _
    refine jl_iload d_Lw_law_961 rfl ?_
    refine jz_icmp_eq (tgt := 968) d_Lw_law_963 (by decide) ⟨by decide, by decide⟩ ⟨by decide, by decide⟩ (fun _ => ?_) (fun q9 => absurd rfl q9)
    refine jl_iload d_Lw_law_968 rfl ?_
    refine jz_if_ne (tgt := 985) d_Lw_law_970 (by decide) ⟨by decide, by decide⟩ (fun _ => ?_) (fun q9 => absurd q9 (by decide))
    refine jl_goto (tgt := 1405) d_Lw_law_985 (by decide) ?_
    refine jl_less (L' := [some (.float (z)), some (.ref (0)), some (.ref (28)), some (.ref (42)), some (.int (zI (((4 * t : Nat) : Int)))), none, none]) ⟨rfl, rfl, rfl, rfl, rfl, trivial⟩ ?_
    exact hnext n h3 ⟨_, hM3, okM, hrw, (fr 0 (by omega)).trans hX, ⟨f, (fr 42 (by omega)).trans hO⟩, hn, lD_fr (fun y q1 q2 => fr y (by omega)) ⟨rfl, rfl, fun _ _ => rfl, fun _ _ => rfl, fun _ _ => rfl⟩ hlD, lS_fr (fun y hy => fr y (by omega)) (fun _ _ _ => ⟨rfl, rfl, fun _ _ => rfl, fun _ _ => rfl, fun _ _ => rfl⟩) hlS, lJ_fr (fun y q1 q2 => fr y (by omega)) hlJ, lCt_fr (fun y q1 q2 => fr y (by omega)) hlC, lF_fr (fun y q1 q2 => fr y (by omega)) ⟨rfl, rfl, fun _ _ => rfl, fun _ _ => rfl, fun _ _ => rfl⟩ ⟨rfl, rfl, rfl, rfl, rfl, rfl⟩ (by omega) hlF⟩
set_option maxHeartbeats 4000000 in
set_option maxRecDepth 100000 in
theorem lw_countValid {l : Launch} {G : jl_G} {F : List Frame → Array Value → State → Nat → Nat → (Nat → Nat) → Nat → State → Prop} {d n t ck sk : Nat} {h : Nat → va_E} {z : UInt32} (hl9 : l.stackTraces = false) (hd9 : 20 ≤ d) (hlen : G.2.2.2.2.1 ≤ 2048) (ht : 4 * t + 4 ≤ G.2.2.2.2.1) (hI : LI t n h) (hnext : ∀ n' h', LI (t + 1) n' h' → jl_AW l G F m_Lw_law d 1405 [some (.float (z)), some (.ref (0)), some (.ref (28)), some (.ref (42)), some (.int (zI (((4 * t : Nat) : Int)))), none, none] [] n' h' ck sk) : jl_AW l G F m_Lw_law d 988 [some (.float (z)), some (.ref (0)), some (.ref (28)), some (.ref (42)), some (.int (zI (((4 * t : Nat) : Int)))), none, none] [] n h (ck + 1) (sk + 6) := by
  obtain ⟨M, hQ, okM, hrw, hX, ⟨f, hO⟩, hn, hlD, hlS, hlJ, hlC, hlF⟩ := hI
  have hz1 := scr_z G (4 * t + 1)
  have hz2 := scr_z G (4 * t + 2)
  have hz3 := scr_z G (4 * t + 3)
  obtain ⟨hc1, ⟨R, hc2⟩, hc3⟩ := id hlC
  refine jl_aload_n d_Lw_law_988 rfl rfl ?_
  refine jl_sload_n d_Lw_law_989 rfl rfl ?_
  refine jl_iload d_Lw_law_990 rfl ?_
  refine jl_iconst (v := zI (1)) d_Lw_law_992 (by decide) ?_
  refine jz_iadd (v := ((4 * t + 1 : Nat) : Int)) d_Lw_law_993 (by omega) ?_
  refine jz_sld (k9 := 4 * t + 1) d_Lw_law_994 rfl (by omega) hlen ?_
  refine jl_sload_n d_Lw_law_995 rfl rfl ?_
  refine jl_iload d_Lw_law_996 rfl ?_
  refine jl_iconst (v := zI (2)) d_Lw_law_998 (by decide) ?_
  refine jz_iadd (v := ((4 * t + 2 : Nat) : Int)) d_Lw_law_999 (by omega) ?_
  refine jz_sld (k9 := 4 * t + 2) d_Lw_law_1000 rfl (by omega) hlen ?_
  refine jl_aload_n d_Lw_law_1001 rfl rfl ?_
  refine jl_invSH (M' := m_Lw_countValid) (d' := d - 1) (ck' := 1) (sk' := 6) (ck := ck) (sk := sk) (na := 4) (as := [.ref (0), .int (zI (scr G (4 * t + 1))), .int (zI (scr G (4 * t + 2))), .ref (42)]) (st := []) d_Lw_law_1002 rfl mw_Lw_144 ww_Lw_countValid nw_Lw cw_Lw_countValid rfl rfl (by decide +kernel) (by omega) (Nat.le_of_ble_eq_true rfl) (Nat.le_of_ble_eq_true rfl) ?_
  refine k_Lw_countValid hl9 (d' := d - 2) (by omega) hX ?_
  refine k_countValid hl9 (by omega) hX hc1 hc2 hz1 hz2 (fun P eP hok h1 eh1 => ⟨cdr P R (2 ^ P - 1) (((2 ^ P - 1 : Nat) : Int) * 55 + (P : Int) * scr G (4 * t + 2)).toNat, f, rfl, by rw [eh1, va_up_ne _ _ (by decide)]; exact hO, ?_⟩) (fun hno => ⟨rfl, ?_⟩)
  · obtain ⟨h2, eh2⟩ : ∃ z9, z9 = va_up h1 42 (jJ 1 (vp_updL f (zI 0).toNatClampNeg ((zI (cdr P R (2 ^ P - 1) (((2 ^ P - 1 : Nat) : Int) * 55 + (P : Int) * scr G (4 * t + 2)).toNat)).toInt64))) := ⟨_, rfl⟩
    rw [← eh2]
    have oh2 : h2 42 = jJ 1 (vp_updL f (zI 0).toNatClampNeg ((zI (cdr P R (2 ^ P - 1) (((2 ^ P - 1 : Nat) : Int) * 55 + (P : Int) * scr G (4 * t + 2)).toNat)).toInt64)) := by rw [eh2, va_up_self]
    have gh2 : ∀ y, y ≠ 42 → h2 y = h1 y := fun y hy => by rw [eh2, va_up_ne _ _ hy]
    show jl_AW _ _ _ _ _ 1005 [some (.float (z)), some (.ref (0)), some (.ref (28)), some (.ref (42)), some (.int (zI (((4 * t : Nat) : Int)))), none, none] [.int (zI (0))] n h2 _ _
    have hs1 : ∀ y, y ≠ 12 → h1 y = h y := fun y hy => by rw [eh1]; exact va_up_ne _ _ hy
    have hM2 : jM h2 28 M := jM_fr (fun y q1 q2 => by rw [gh2 y (by omega), hs1 y (by omega)]) hQ
    have ea : (scr G (4 * t + 1)).toNat = P := by omega
    have hcw := cdr_wy (P := P) (R := R) (b := scr G (4 * t + 2)) (by omega) hok.2
    refine jl_istore (L' := [some (.float (z)), some (.ref (0)), some (.ref (28)), some (.ref (42)), some (.int (zI (((4 * t : Nat) : Int)))), some (.int (zI (0))), none]) d_Lw_law_1005 (by decide) rfl ?_
    refine jl_aload_n d_Lw_law_1007 rfl rfl ?_
    refine jl_sload_n d_Lw_law_1008 rfl rfl ?_
    refine jl_iload d_Lw_law_1009 rfl ?_
    refine jl_iconst (v := zI (1)) d_Lw_law_1011 (by decide) ?_
    refine jz_iadd (v := ((4 * t + 1 : Nat) : Int)) d_Lw_law_1012 (by omega) ?_
    refine jz_sld (k9 := 4 * t + 1) d_Lw_law_1013 rfl (by omega) hlen ?_
    refine jl_sload_n d_Lw_law_1014 rfl rfl ?_
    refine jl_iload d_Lw_law_1015 rfl ?_
    refine jl_iconst (v := zI (2)) d_Lw_law_1017 (by decide) ?_
    refine jz_iadd (v := ((4 * t + 2 : Nat) : Int)) d_Lw_law_1018 (by omega) ?_
    refine jz_sld (k9 := 4 * t + 2) d_Lw_law_1019 rfl (by omega) hlen ?_
    refine jl_invV0 (M' := m_Md_countValid) (d' := d - 1) (ck' := 0) (sk' := 0) (na := 2) (as := [.int (zI (scr G (4 * t + 1))), .int (zI (scr G (4 * t + 2)))]) (st := []) (x := 28) d_Lw_law_1020 rfl (hM2).1 rfl mw_Lw_146 ww_Md_countValid sw_Md_countValid nw_Md cw_Md_countValid rfl rfl (by decide +kernel) (by omega) (Nat.le_of_ble_eq_true rfl) (Nat.le_of_ble_eq_true rfl) ?_
    refine k_M_countValid hl9 (by omega) hM2 hz1 hz2 (fun _ w1 mr h3 hM3 hf3 => ?_) (fun q => absurd hok q)
    show jl_AW _ _ _ _ _ 1023 [some (.float (z)), some (.ref (0)), some (.ref (28)), some (.ref (42)), some (.int (zI (((4 * t : Nat) : Int)))), some (.int (zI (0))), none] [.int (zI (wyS (scr G (4 * t + 1)).toNat (scr G (4 * t + 1)).toNat (64 * (2 ^ (scr G (4 * t + 1)).toNat - 1) + (scr G (4 * t + 2)).toNat * (scr G (4 * t + 1)).toNat)))] n h3 _ _
    have o3 : h3 42 = jJ 1 (vp_updL f (zI 0).toNatClampNeg ((zI (cdr P R (2 ^ P - 1) (((2 ^ P - 1 : Nat) : Int) * 55 + (P : Int) * scr G (4 * t + 2)).toNat)).toInt64)) := by rw [hf3 42 (by omega)]; exact oh2
    have fr : ∀ y, y ≠ 12 → (y < 28 ∨ 43 ≤ y) → h3 y = h y := fun y q1 q2 => by rw [hf3 y (by omega), gh2 y (by omega), hs1 y q1]
    refine jl_istore (L' := [some (.float (z)), some (.ref (0)), some (.ref (28)), some (.ref (42)), some (.int (zI (((4 * t : Nat) : Int)))), some (.int (zI (0))), some (.int (zI (wyS (scr G (4 * t + 1)).toNat (scr G (4 * t + 1)).toNat (64 * (2 ^ (scr G (4 * t + 1)).toNat - 1) + (scr G (4 * t + 2)).toNat * (scr G (4 * t + 1)).toNat))))]) d_Lw_law_1023 (by decide) rfl ?_
    refine jl_aload_n d_Lw_law_1025 rfl rfl ?_
    refine jl_invV0 (M' := m_Md_thrown) (d' := d - 1) (ck' := 0) (sk' := 0) (na := 0) (as := []) (st := []) (x := 28) d_Lw_law_1026 rfl (hM3).1 rfl mw_Lw_93 ww_Md_thrown sw_Md_thrown nw_Md cw_Md_thrown rfl rfl (by decide +kernel) (by omega) (Nat.le_of_ble_eq_true rfl) (Nat.le_of_ble_eq_true rfl) ?_
    refine k_M_thrown hl9 (by omega) hM3 ?_
    show jl_AW _ _ _ _ _ 1029 [some (.float (z)), some (.ref (0)), some (.ref (28)), some (.ref (42)), some (.int (zI (((4 * t : Nat) : Int)))), some (.int (zI (0))), some (.int (zI (wyS (scr G (4 * t + 1)).toNat (scr G (4 * t + 1)).toNat (64 * (2 ^ (scr G (4 * t + 1)).toNat - 1) + (scr G (4 * t + 2)).toNat * (scr G (4 * t + 1)).toNat))))] [.int (zI (0))] n h3 _ _
    refine jl_iload d_Lw_law_1029 rfl ?_
    refine jz_icmp_eq (tgt := 1036) d_Lw_law_1031 (by decide) ⟨by decide, by decide⟩ ⟨by decide, by decide⟩ (fun _ => ?_) (fun q9 => absurd rfl q9)
    refine jl_iload d_Lw_law_1036 rfl ?_
    refine jz_if_ne (tgt := 1053) d_Lw_law_1038 (by decide) ⟨by decide, by decide⟩ (fun q9 => absurd q9 (by decide)) (fun _ => ?_)
    refine jl_aload_n d_Lw_law_1041 rfl rfl ?_
    refine jl_iconst (v := zI (0)) d_Lw_law_1042 (by decide) ?_
    refine jl_lald d_Lw_law_1043 o3 (zI_in (by decide) (by decide) (by decide)) ?_
    refine jl_iload d_Lw_law_1044 rfl ?_
    refine jl_i2l d_Lw_law_1046 ?_
    refine jz_lcmp0 d_Lw_law_1047 (by unfold vp_updL; rw [if_pos rfl]; rw [hcw, ea]) ?_
    refine jz_if_eq (tgt := 1053) d_Lw_law_1048 (by decide) ⟨by decide, by decide⟩ (fun _ => ?_) (fun q9 => absurd q9 (by decide))
    refine jl_goto (tgt := 1405) d_Lw_law_1053 (by decide) ?_
    refine jl_less (L' := [some (.float (z)), some (.ref (0)), some (.ref (28)), some (.ref (42)), some (.int (zI (((4 * t : Nat) : Int)))), none, none]) ⟨rfl, rfl, rfl, rfl, rfl, trivial⟩ ?_
    have hlC3 : lCt h3 := by
      obtain ⟨tq, m, p, hs, cs, xs, sc, a3, a4, a5⟩ := hc3
      exact ⟨(fr 11 (by decide) (by omega)).trans hc1, ⟨_, by rw [hf3 12 (by omega), gh2 12 (by decide), eh1]; exact va_up_self _ _ _⟩, tq, m, p, hs, cs, xs, sc, (fr 13 (by decide) (by omega)).trans a3, jD_fr (fun y q1 q2 => fr y (by omega) (by omega)) a4, a5⟩
    exact hnext n h3 ⟨_, hM3, okM, hrw, (fr 0 (by decide) (by omega)).trans hX, ⟨_, o3⟩, hn, lD_fr (fun y q1 q2 => fr y (by omega) (by omega)) ⟨rfl, rfl, fun _ _ => rfl, fun _ _ => rfl, fun _ _ => rfl⟩ hlD, lS_fr (fun y hy => fr y (by omega) (by omega)) (fun _ _ _ => ⟨rfl, rfl, fun _ _ => rfl, fun _ _ => rfl, fun _ _ => rfl⟩) hlS, lJ_fr (fun y q1 q2 => fr y (by omega) (by omega)) hlJ, hlC3, lF_fr (fun y q1 q2 => fr y (by omega) (by omega)) ⟨rfl, rfl, fun _ _ => rfl, fun _ _ => rfl, fun _ _ => rfl⟩ ⟨rfl, rfl, rfl, rfl, rfl, rfl⟩ (by omega) hlF⟩
  · show jl_AW _ _ _ _ _ 1005 [some (.float (z)), some (.ref (0)), some (.ref (28)), some (.ref (42)), some (.int (zI (((4 * t : Nat) : Int)))), none, none] [.int (zI (1))] n h _ _
    refine jl_istore (L' := [some (.float (z)), some (.ref (0)), some (.ref (28)), some (.ref (42)), some (.int (zI (((4 * t : Nat) : Int)))), some (.int (zI (1))), none]) d_Lw_law_1005 (by decide) rfl ?_
    refine jl_aload_n d_Lw_law_1007 rfl rfl ?_
    refine jl_sload_n d_Lw_law_1008 rfl rfl ?_
    refine jl_iload d_Lw_law_1009 rfl ?_
    refine jl_iconst (v := zI (1)) d_Lw_law_1011 (by decide) ?_
    refine jz_iadd (v := ((4 * t + 1 : Nat) : Int)) d_Lw_law_1012 (by omega) ?_
    refine jz_sld (k9 := 4 * t + 1) d_Lw_law_1013 rfl (by omega) hlen ?_
    refine jl_sload_n d_Lw_law_1014 rfl rfl ?_
    refine jl_iload d_Lw_law_1015 rfl ?_
    refine jl_iconst (v := zI (2)) d_Lw_law_1017 (by decide) ?_
    refine jz_iadd (v := ((4 * t + 2 : Nat) : Int)) d_Lw_law_1018 (by omega) ?_
    refine jz_sld (k9 := 4 * t + 2) d_Lw_law_1019 rfl (by omega) hlen ?_
    refine jl_invV0 (M' := m_Md_countValid) (d' := d - 1) (ck' := 0) (sk' := 0) (na := 2) (as := [.int (zI (scr G (4 * t + 1))), .int (zI (scr G (4 * t + 2)))]) (st := []) (x := 28) d_Lw_law_1020 rfl (hQ).1 rfl mw_Lw_146 ww_Md_countValid sw_Md_countValid nw_Md cw_Md_countValid rfl rfl (by decide +kernel) (by omega) (Nat.le_of_ble_eq_true rfl) (Nat.le_of_ble_eq_true rfl) ?_
    refine k_M_countValid hl9 (by omega) hQ hz1 hz2 (fun q => absurd q hno) (fun _ h3 hM3 hf3 => ?_)
    show jl_AW _ _ _ _ _ 1023 [some (.float (z)), some (.ref (0)), some (.ref (28)), some (.ref (42)), some (.int (zI (((4 * t : Nat) : Int)))), some (.int (zI (1))), none] [.int (zI (0))] n h3 _ _
    have fr : ∀ y, (y < 28 ∨ 42 ≤ y) → h3 y = h y := fun y q2 => hf3 y (by omega)
    refine jl_istore (L' := [some (.float (z)), some (.ref (0)), some (.ref (28)), some (.ref (42)), some (.int (zI (((4 * t : Nat) : Int)))), some (.int (zI (1))), some (.int (zI (0)))]) d_Lw_law_1023 (by decide) rfl ?_
    refine jl_aload_n d_Lw_law_1025 rfl rfl ?_
    refine jl_invV0 (M' := m_Md_thrown) (d' := d - 1) (ck' := 0) (sk' := 0) (na := 0) (as := []) (st := []) (x := 28) d_Lw_law_1026 rfl (hM3).1 rfl mw_Lw_93 ww_Md_thrown sw_Md_thrown nw_Md cw_Md_thrown rfl rfl (by decide +kernel) (by omega) (Nat.le_of_ble_eq_true rfl) (Nat.le_of_ble_eq_true rfl) ?_
    refine k_M_thrown hl9 (by omega) hM3 ?_
    show jl_AW _ _ _ _ _ 1029 [some (.float (z)), some (.ref (0)), some (.ref (28)), some (.ref (42)), some (.int (zI (((4 * t : Nat) : Int)))), some (.int (zI (1))), some (.int (zI (0)))] [.int (zI (1))] n h3 _ _
    refine jl_iload d_Lw_law_1029 rfl ?_
    refine jz_icmp_eq (tgt := 1036) d_Lw_law_1031 (by decide) ⟨by decide, by decide⟩ ⟨by decide, by decide⟩ (fun _ => ?_) (fun q9 => absurd rfl q9)
    refine jl_iload d_Lw_law_1036 rfl ?_
    refine jz_if_ne (tgt := 1053) d_Lw_law_1038 (by decide) ⟨by decide, by decide⟩ (fun _ => ?_) (fun q9 => absurd q9 (by decide))
    refine jl_goto (tgt := 1405) d_Lw_law_1053 (by decide) ?_
    refine jl_less (L' := [some (.float (z)), some (.ref (0)), some (.ref (28)), some (.ref (42)), some (.int (zI (((4 * t : Nat) : Int)))), none, none]) ⟨rfl, rfl, rfl, rfl, rfl, trivial⟩ ?_
    exact hnext n h3 ⟨_, hM3, okM, hrw, (fr 0 (by omega)).trans hX, ⟨f, (fr 42 (by omega)).trans hO⟩, hn, lD_fr (fun y q1 q2 => fr y (by omega)) ⟨rfl, rfl, fun _ _ => rfl, fun _ _ => rfl, fun _ _ => rfl⟩ hlD, lS_fr (fun y hy => fr y (by omega)) (fun _ _ _ => ⟨rfl, rfl, fun _ _ => rfl, fun _ _ => rfl, fun _ _ => rfl⟩) hlS, lJ_fr (fun y q1 q2 => fr y (by omega)) hlJ, lCt_fr (fun y q1 q2 => fr y (by omega)) hlC, lF_fr (fun y q1 q2 => fr y (by omega)) ⟨rfl, rfl, fun _ _ => rfl, fun _ _ => rfl, fun _ _ => rfl⟩ ⟨rfl, rfl, rfl, rfl, rfl, rfl⟩ (by omega) hlF⟩
set_option maxHeartbeats 4000000 in
set_option maxRecDepth 100000 in
theorem lw_cycle {l : Launch} {G : jl_G} {F : List Frame → Array Value → State → Nat → Nat → (Nat → Nat) → Nat → State → Prop} {d n t ck sk : Nat} {h : Nat → va_E} {z : UInt32} (hl9 : l.stackTraces = false) (hd9 : 20 ≤ d) (hlen : G.2.2.2.2.1 ≤ 2048) (ht : 4 * t + 4 ≤ G.2.2.2.2.1) (hI : LI t n h) (hnext : ∀ n' h', LI (t + 1) n' h' → jl_AW l G F m_Lw_law d 1405 [some (.float (z)), some (.ref (0)), some (.ref (28)), some (.ref (42)), some (.int (zI (((4 * t : Nat) : Int)))), none, none] [] n' h' ck sk) : jl_AW l G F m_Lw_law d 1056 [some (.float (z)), some (.ref (0)), some (.ref (28)), some (.ref (42)), some (.int (zI (((4 * t : Nat) : Int)))), none, none] [] n h (ck + 1) (sk + 6) := by
  obtain ⟨M, hQ, okM, hrw, hX, ⟨f, hO⟩, hn, hlD, hlS, hlJ, hlC, hlF⟩ := hI
  have hz1 := scr_z G (4 * t + 1)
  have hz2 := scr_z G (4 * t + 2)
  have hz3 := scr_z G (4 * t + 3)
  obtain ⟨hc1, hc2, tq, m, p, hs, cs, xs, sc, hc3, hc4, hc5⟩ := id hlC
  refine jl_aload_n d_Lw_law_1056 rfl rfl ?_
  refine jl_sload_n d_Lw_law_1057 rfl rfl ?_
  refine jl_iload d_Lw_law_1058 rfl ?_
  refine jl_iconst (v := zI (1)) d_Lw_law_1060 (by decide) ?_
  refine jz_iadd (v := ((4 * t + 1 : Nat) : Int)) d_Lw_law_1061 (by omega) ?_
  refine jz_sld (k9 := 4 * t + 1) d_Lw_law_1062 rfl (by omega) hlen ?_
  refine jl_sload_n d_Lw_law_1063 rfl rfl ?_
  refine jl_iload d_Lw_law_1064 rfl ?_
  refine jl_iconst (v := zI (2)) d_Lw_law_1066 (by decide) ?_
  refine jz_iadd (v := ((4 * t + 2 : Nat) : Int)) d_Lw_law_1067 (by omega) ?_
  refine jz_sld (k9 := 4 * t + 2) d_Lw_law_1068 rfl (by omega) hlen ?_
  refine jl_aload_n d_Lw_law_1069 rfl rfl ?_
  refine jl_invSH (M' := m_Lw_cycle) (d' := d - 1) (ck' := 1) (sk' := 6) (ck := ck) (sk := sk) (na := 4) (as := [.ref (0), .int (zI (scr G (4 * t + 1))), .int (zI (scr G (4 * t + 2))), .ref (42)]) (st := []) d_Lw_law_1070 rfl mw_Lw_147 ww_Lw_cycle nw_Lw cw_Lw_cycle rfl rfl (by decide +kernel) (by omega) (Nat.le_of_ble_eq_true rfl) (Nat.le_of_ble_eq_true rfl) ?_
  refine k_Lw_cycle hl9 (d' := d - 2) (by omega) hX ?_
  refine k_cycle hl9 (by omega) hX hc3 hc4 hc5 hz1 hz2 (fun hok hne hs2 cs2 xs2 sc2 tq2 h1 k1 k2 k3 hf1 => ⟨(scn (scr G (4 * t + 1)) 0 (10 ^ (scr G (4 * t + 1)).toNat) (scr G (4 * t + 2))).1, f, rfl, by rw [hf1 42 (by omega)]; exact hO, ?_⟩) (fun hno => Or.inl ⟨rfl, ?_⟩) (fun hok hne hs2 cs2 xs2 sc2 tq2 h1 k1 k2 k3 hf1 => Or.inr ⟨rfl, ?_⟩)
  · obtain ⟨h2, eh2⟩ : ∃ z9, z9 = va_up h1 42 (jJ 1 (vp_updL f (zI 0).toNatClampNeg ((zI ((scn (scr G (4 * t + 1)) 0 (10 ^ (scr G (4 * t + 1)).toNat) (scr G (4 * t + 2))).1)).toInt64))) := ⟨_, rfl⟩
    rw [← eh2]
    have oh2 : h2 42 = jJ 1 (vp_updL f (zI 0).toNatClampNeg ((zI ((scn (scr G (4 * t + 1)) 0 (10 ^ (scr G (4 * t + 1)).toNat) (scr G (4 * t + 2))).1)).toInt64)) := by rw [eh2, va_up_self]
    have gh2 : ∀ y, y ≠ 42 → h2 y = h1 y := fun y hy => by rw [eh2, va_up_ne _ _ hy]
    show jl_AW _ _ _ _ _ 1073 [some (.float (z)), some (.ref (0)), some (.ref (28)), some (.ref (42)), some (.int (zI (((4 * t : Nat) : Int)))), none, none] [.int (zI (0))] n h2 _ _
    have hM2 : jM h2 28 M := jM_fr (fun y q1 q2 => by rw [gh2 y (by omega), hf1 y (by omega)]) hQ
    refine jl_istore (L' := [some (.float (z)), some (.ref (0)), some (.ref (28)), some (.ref (42)), some (.int (zI (((4 * t : Nat) : Int)))), some (.int (zI (0))), none]) d_Lw_law_1073 (by decide) rfl ?_
    refine jl_aload_n d_Lw_law_1075 rfl rfl ?_
    refine jl_sload_n d_Lw_law_1076 rfl rfl ?_
    refine jl_iload d_Lw_law_1077 rfl ?_
    refine jl_iconst (v := zI (1)) d_Lw_law_1079 (by decide) ?_
    refine jz_iadd (v := ((4 * t + 1 : Nat) : Int)) d_Lw_law_1080 (by omega) ?_
    refine jz_sld (k9 := 4 * t + 1) d_Lw_law_1081 rfl (by omega) hlen ?_
    refine jl_sload_n d_Lw_law_1082 rfl rfl ?_
    refine jl_iload d_Lw_law_1083 rfl ?_
    refine jl_iconst (v := zI (2)) d_Lw_law_1085 (by decide) ?_
    refine jz_iadd (v := ((4 * t + 2 : Nat) : Int)) d_Lw_law_1086 (by omega) ?_
    refine jz_sld (k9 := 4 * t + 2) d_Lw_law_1087 rfl (by omega) hlen ?_
    refine jl_invV0 (M' := m_Md_cycle) (d' := d - 1) (ck' := 0) (sk' := 0) (na := 2) (as := [.int (zI (scr G (4 * t + 1))), .int (zI (scr G (4 * t + 2)))]) (st := []) (x := 28) d_Lw_law_1088 rfl (hM2).1 rfl mw_Lw_149 ww_Md_cycle sw_Md_cycle nw_Md cw_Md_cycle rfl rfl (by decide +kernel) (by omega) (Nat.le_of_ble_eq_true rfl) (Nat.le_of_ble_eq_true rfl) ?_
    refine k_M_cycle hl9 (by omega) hM2 hrw hz1 hz2 (fun _ _ rw8 h3 hr8 hM3 hf3 => ?_) (fun _ q => absurd q hne) (fun q => absurd hok q)
    show jl_AW _ _ _ _ _ 1091 [some (.float (z)), some (.ref (0)), some (.ref (28)), some (.ref (42)), some (.int (zI (((4 * t : Nat) : Int)))), some (.int (zI (0))), none] [.int (zI ((scn (scr G (4 * t + 1)) 0 (10 ^ (scr G (4 * t + 1)).toNat) (scr G (4 * t + 2))).1))] n h3 _ _
    have o3 : h3 42 = jJ 1 (vp_updL f (zI 0).toNatClampNeg ((zI ((scn (scr G (4 * t + 1)) 0 (10 ^ (scr G (4 * t + 1)).toNat) (scr G (4 * t + 2))).1)).toInt64)) := by rw [hf3 42 (by omega)]; exact oh2
    have fr : ∀ y, (y < 13 ∨ 19 ≤ y) → (y < 28 ∨ 43 ≤ y) → h3 y = h y := fun y q1 q2 => by rw [hf3 y (by omega), gh2 y (by omega), hf1 y (by omega)]
    have frc : ∀ y, 13 ≤ y → y < 19 → h3 y = h1 y := fun y q1 q2 => by rw [hf3 y (by omega), gh2 y (by omega)]
    refine jl_istore (L' := [some (.float (z)), some (.ref (0)), some (.ref (28)), some (.ref (42)), some (.int (zI (((4 * t : Nat) : Int)))), some (.int (zI (0))), some (.int (zI ((scn (scr G (4 * t + 1)) 0 (10 ^ (scr G (4 * t + 1)).toNat) (scr G (4 * t + 2))).1)))]) d_Lw_law_1091 (by decide) rfl ?_
    refine jl_aload_n d_Lw_law_1093 rfl rfl ?_
    refine jl_invV0 (M' := m_Md_thrown) (d' := d - 1) (ck' := 0) (sk' := 0) (na := 0) (as := []) (st := []) (x := 28) d_Lw_law_1094 rfl (hM3).1 rfl mw_Lw_93 ww_Md_thrown sw_Md_thrown nw_Md cw_Md_thrown rfl rfl (by decide +kernel) (by omega) (Nat.le_of_ble_eq_true rfl) (Nat.le_of_ble_eq_true rfl) ?_
    refine k_M_thrown hl9 (by omega) hM3 ?_
    show jl_AW _ _ _ _ _ 1097 [some (.float (z)), some (.ref (0)), some (.ref (28)), some (.ref (42)), some (.int (zI (((4 * t : Nat) : Int)))), some (.int (zI (0))), some (.int (zI ((scn (scr G (4 * t + 1)) 0 (10 ^ (scr G (4 * t + 1)).toNat) (scr G (4 * t + 2))).1)))] [.int (zI (0))] n h3 _ _
    refine jl_iload d_Lw_law_1097 rfl ?_
    refine jz_icmp_eq (tgt := 1104) d_Lw_law_1099 (by decide) ⟨by decide, by decide⟩ ⟨by decide, by decide⟩ (fun _ => ?_) (fun q9 => absurd rfl q9)
    refine jl_iload d_Lw_law_1104 rfl ?_
    refine jz_if_ne (tgt := 1121) d_Lw_law_1106 (by decide) ⟨by decide, by decide⟩ (fun q9 => absurd q9 (by decide)) (fun _ => ?_)
    refine jl_aload_n d_Lw_law_1109 rfl rfl ?_
    refine jl_iconst (v := zI (0)) d_Lw_law_1110 (by decide) ?_
    refine jl_lald d_Lw_law_1111 o3 (zI_in (by decide) (by decide) (by decide)) ?_
    refine jl_iload d_Lw_law_1112 rfl ?_
    refine jl_i2l d_Lw_law_1114 ?_
    refine jz_lcmp0 d_Lw_law_1115 (by unfold vp_updL; rw [if_pos rfl]) ?_
    refine jz_if_eq (tgt := 1121) d_Lw_law_1116 (by decide) ⟨by decide, by decide⟩ (fun _ => ?_) (fun q9 => absurd q9 (by decide))
    refine jl_goto (tgt := 1405) d_Lw_law_1121 (by decide) ?_
    refine jl_less (L' := [some (.float (z)), some (.ref (0)), some (.ref (28)), some (.ref (42)), some (.int (zI (((4 * t : Nat) : Int)))), none, none]) ⟨rfl, rfl, rfl, rfl, rfl, trivial⟩ ?_
    have hlC3 : lCt h3 := ⟨(fr 11 (by omega) (by omega)).trans hc1, hc2.imp (fun R q => (fr 12 (by omega) (by omega)).trans q), tq2, 0, scr G (4 * t + 1), hs2, cs2, xs2, sc2, (frc 13 (by omega) (by omega)).trans k1, jD_fr (fun y q1 q2 => frc y (by omega) (by omega)) k2, k3⟩
    exact hnext n h3 ⟨_, hM3, okM, hr8, (fr 0 (by omega) (by omega)).trans hX, ⟨_, o3⟩, hn, lD_fr (fun y q1 q2 => fr y (by omega) (by omega)) ⟨rfl, rfl, fun _ _ => rfl, fun _ _ => rfl, fun _ _ => rfl⟩ hlD, lS_fr (fun y hy => fr y (by omega) (by omega)) (fun _ _ _ => ⟨rfl, rfl, fun _ _ => rfl, fun _ _ => rfl, fun _ _ => rfl⟩) hlS, lJ_fr (fun y q1 q2 => fr y (by omega) (by omega)) hlJ, hlC3, lF_fr (fun y q1 q2 => fr y (by omega) (by omega)) ⟨rfl, rfl, fun _ _ => rfl, fun _ _ => rfl, fun _ _ => rfl⟩ ⟨rfl, rfl, rfl, rfl, rfl, rfl⟩ (by omega) hlF⟩
  · show jl_AW _ _ _ _ _ 1073 [some (.float (z)), some (.ref (0)), some (.ref (28)), some (.ref (42)), some (.int (zI (((4 * t : Nat) : Int)))), none, none] [.int (zI (1))] n h _ _
    refine jl_istore (L' := [some (.float (z)), some (.ref (0)), some (.ref (28)), some (.ref (42)), some (.int (zI (((4 * t : Nat) : Int)))), some (.int (zI (1))), none]) d_Lw_law_1073 (by decide) rfl ?_
    refine jl_aload_n d_Lw_law_1075 rfl rfl ?_
    refine jl_sload_n d_Lw_law_1076 rfl rfl ?_
    refine jl_iload d_Lw_law_1077 rfl ?_
    refine jl_iconst (v := zI (1)) d_Lw_law_1079 (by decide) ?_
    refine jz_iadd (v := ((4 * t + 1 : Nat) : Int)) d_Lw_law_1080 (by omega) ?_
    refine jz_sld (k9 := 4 * t + 1) d_Lw_law_1081 rfl (by omega) hlen ?_
    refine jl_sload_n d_Lw_law_1082 rfl rfl ?_
    refine jl_iload d_Lw_law_1083 rfl ?_
    refine jl_iconst (v := zI (2)) d_Lw_law_1085 (by decide) ?_
    refine jz_iadd (v := ((4 * t + 2 : Nat) : Int)) d_Lw_law_1086 (by omega) ?_
    refine jz_sld (k9 := 4 * t + 2) d_Lw_law_1087 rfl (by omega) hlen ?_
    refine jl_invV0 (M' := m_Md_cycle) (d' := d - 1) (ck' := 0) (sk' := 0) (na := 2) (as := [.int (zI (scr G (4 * t + 1))), .int (zI (scr G (4 * t + 2)))]) (st := []) (x := 28) d_Lw_law_1088 rfl (hQ).1 rfl mw_Lw_149 ww_Md_cycle sw_Md_cycle nw_Md cw_Md_cycle rfl rfl (by decide +kernel) (by omega) (Nat.le_of_ble_eq_true rfl) (Nat.le_of_ble_eq_true rfl) ?_
    refine k_M_cycle hl9 (by omega) hQ hrw hz1 hz2 (fun q => absurd q hno) (fun q => absurd q hno) (fun _ h3 hM3 hf3 => ?_)
    show jl_AW _ _ _ _ _ 1091 [some (.float (z)), some (.ref (0)), some (.ref (28)), some (.ref (42)), some (.int (zI (((4 * t : Nat) : Int)))), some (.int (zI (1))), none] [.int (zI (0))] n h3 _ _
    have fr : ∀ y, (y < 28 ∨ 42 ≤ y) → h3 y = h y := fun y q2 => hf3 y (by omega)
    refine jl_istore (L' := [some (.float (z)), some (.ref (0)), some (.ref (28)), some (.ref (42)), some (.int (zI (((4 * t : Nat) : Int)))), some (.int (zI (1))), some (.int (zI (0)))]) d_Lw_law_1091 (by decide) rfl ?_
    refine jl_aload_n d_Lw_law_1093 rfl rfl ?_
    refine jl_invV0 (M' := m_Md_thrown) (d' := d - 1) (ck' := 0) (sk' := 0) (na := 0) (as := []) (st := []) (x := 28) d_Lw_law_1094 rfl (hM3).1 rfl mw_Lw_93 ww_Md_thrown sw_Md_thrown nw_Md cw_Md_thrown rfl rfl (by decide +kernel) (by omega) (Nat.le_of_ble_eq_true rfl) (Nat.le_of_ble_eq_true rfl) ?_
    refine k_M_thrown hl9 (by omega) hM3 ?_
    show jl_AW _ _ _ _ _ 1097 [some (.float (z)), some (.ref (0)), some (.ref (28)), some (.ref (42)), some (.int (zI (((4 * t : Nat) : Int)))), some (.int (zI (1))), some (.int (zI (0)))] [.int (zI (1))] n h3 _ _
    refine jl_iload d_Lw_law_1097 rfl ?_
    refine jz_icmp_eq (tgt := 1104) d_Lw_law_1099 (by decide) ⟨by decide, by decide⟩ ⟨by decide, by decide⟩ (fun _ => ?_) (fun q9 => absurd rfl q9)
    refine jl_iload d_Lw_law_1104 rfl ?_
    refine jz_if_ne (tgt := 1121) d_Lw_law_1106 (by decide) ⟨by decide, by decide⟩ (fun _ => ?_) (fun q9 => absurd q9 (by decide))
    refine jl_goto (tgt := 1405) d_Lw_law_1121 (by decide) ?_
    refine jl_less (L' := [some (.float (z)), some (.ref (0)), some (.ref (28)), some (.ref (42)), some (.int (zI (((4 * t : Nat) : Int)))), none, none]) ⟨rfl, rfl, rfl, rfl, rfl, trivial⟩ ?_
    exact hnext n h3 ⟨_, hM3, okM, hrw, (fr 0 (by omega)).trans hX, ⟨f, (fr 42 (by omega)).trans hO⟩, hn, lD_fr (fun y q1 q2 => fr y (by omega)) ⟨rfl, rfl, fun _ _ => rfl, fun _ _ => rfl, fun _ _ => rfl⟩ hlD, lS_fr (fun y hy => fr y (by omega)) (fun _ _ _ => ⟨rfl, rfl, fun _ _ => rfl, fun _ _ => rfl, fun _ _ => rfl⟩) hlS, lJ_fr (fun y q1 q2 => fr y (by omega)) hlJ, lCt_fr (fun y q1 q2 => fr y (by omega)) hlC, lF_fr (fun y q1 q2 => fr y (by omega)) ⟨rfl, rfl, fun _ _ => rfl, fun _ _ => rfl, fun _ _ => rfl⟩ ⟨rfl, rfl, rfl, rfl, rfl, rfl⟩ (by omega) hlF⟩
  · show jl_AW _ _ _ _ _ 1073 [some (.float (z)), some (.ref (0)), some (.ref (28)), some (.ref (42)), some (.int (zI (((4 * t : Nat) : Int)))), none, none] [.int (zI (2))] n h1 _ _
    have hM2 : jM h1 28 M := jM_fr (fun y q1 q2 => hf1 y (by omega)) hQ
    refine jl_istore (L' := [some (.float (z)), some (.ref (0)), some (.ref (28)), some (.ref (42)), some (.int (zI (((4 * t : Nat) : Int)))), some (.int (zI (2))), none]) d_Lw_law_1073 (by decide) rfl ?_
    refine jl_aload_n d_Lw_law_1075 rfl rfl ?_
    refine jl_sload_n d_Lw_law_1076 rfl rfl ?_
    refine jl_iload d_Lw_law_1077 rfl ?_
    refine jl_iconst (v := zI (1)) d_Lw_law_1079 (by decide) ?_
    refine jz_iadd (v := ((4 * t + 1 : Nat) : Int)) d_Lw_law_1080 (by omega) ?_
    refine jz_sld (k9 := 4 * t + 1) d_Lw_law_1081 rfl (by omega) hlen ?_
    refine jl_sload_n d_Lw_law_1082 rfl rfl ?_
    refine jl_iload d_Lw_law_1083 rfl ?_
    refine jl_iconst (v := zI (2)) d_Lw_law_1085 (by decide) ?_
    refine jz_iadd (v := ((4 * t + 2 : Nat) : Int)) d_Lw_law_1086 (by omega) ?_
    refine jz_sld (k9 := 4 * t + 2) d_Lw_law_1087 rfl (by omega) hlen ?_
    refine jl_invV0 (M' := m_Md_cycle) (d' := d - 1) (ck' := 0) (sk' := 0) (na := 2) (as := [.int (zI (scr G (4 * t + 1))), .int (zI (scr G (4 * t + 2)))]) (st := []) (x := 28) d_Lw_law_1088 rfl (hM2).1 rfl mw_Lw_149 ww_Md_cycle sw_Md_cycle nw_Md cw_Md_cycle rfl rfl (by decide +kernel) (by omega) (Nat.le_of_ble_eq_true rfl) (Nat.le_of_ble_eq_true rfl) ?_
    refine k_M_cycle hl9 (by omega) hM2 hrw hz1 hz2 (fun _ q => absurd hne q) (fun _ _ rw8 h3 hr8 hM3 hf3 => ?_) (fun q => absurd hok q)
    show jl_AW _ _ _ _ _ 1091 [some (.float (z)), some (.ref (0)), some (.ref (28)), some (.ref (42)), some (.int (zI (((4 * t : Nat) : Int)))), some (.int (zI (2))), none] [.int (zI (0))] n h3 _ _
    have fr : ∀ y, (y < 13 ∨ 19 ≤ y) → (y < 28 ∨ 42 ≤ y) → h3 y = h y := fun y q1 q2 => by rw [hf3 y (by omega), hf1 y (by omega)]
    have frc : ∀ y, 13 ≤ y → y < 19 → h3 y = h1 y := fun y q1 q2 => hf3 y (by omega)
    refine jl_istore (L' := [some (.float (z)), some (.ref (0)), some (.ref (28)), some (.ref (42)), some (.int (zI (((4 * t : Nat) : Int)))), some (.int (zI (2))), some (.int (zI (0)))]) d_Lw_law_1091 (by decide) rfl ?_
    refine jl_aload_n d_Lw_law_1093 rfl rfl ?_
    refine jl_invV0 (M' := m_Md_thrown) (d' := d - 1) (ck' := 0) (sk' := 0) (na := 0) (as := []) (st := []) (x := 28) d_Lw_law_1094 rfl (hM3).1 rfl mw_Lw_93 ww_Md_thrown sw_Md_thrown nw_Md cw_Md_thrown rfl rfl (by decide +kernel) (by omega) (Nat.le_of_ble_eq_true rfl) (Nat.le_of_ble_eq_true rfl) ?_
    refine k_M_thrown hl9 (by omega) hM3 ?_
    show jl_AW _ _ _ _ _ 1097 [some (.float (z)), some (.ref (0)), some (.ref (28)), some (.ref (42)), some (.int (zI (((4 * t : Nat) : Int)))), some (.int (zI (2))), some (.int (zI (0)))] [.int (zI (2))] n h3 _ _
    refine jl_iload d_Lw_law_1097 rfl ?_
    refine jz_icmp_eq (tgt := 1104) d_Lw_law_1099 (by decide) ⟨by decide, by decide⟩ ⟨by decide, by decide⟩ (fun _ => ?_) (fun q9 => absurd rfl q9)
    refine jl_iload d_Lw_law_1104 rfl ?_
    refine jz_if_ne (tgt := 1121) d_Lw_law_1106 (by decide) ⟨by decide, by decide⟩ (fun _ => ?_) (fun q9 => absurd q9 (by decide))
    refine jl_goto (tgt := 1405) d_Lw_law_1121 (by decide) ?_
    refine jl_less (L' := [some (.float (z)), some (.ref (0)), some (.ref (28)), some (.ref (42)), some (.int (zI (((4 * t : Nat) : Int)))), none, none]) ⟨rfl, rfl, rfl, rfl, rfl, trivial⟩ ?_
    have hlC3 : lCt h3 := ⟨(fr 11 (by omega) (by omega)).trans hc1, hc2.imp (fun R q => (fr 12 (by omega) (by omega)).trans q), tq2, 0, scr G (4 * t + 1), hs2, cs2, xs2, sc2, (frc 13 (by omega) (by omega)).trans k1, jD_fr (fun y q1 q2 => frc y (by omega) (by omega)) k2, k3⟩
    exact hnext n h3 ⟨_, hM3, okM, hr8, (fr 0 (by omega) (by omega)).trans hX, ⟨f, (fr 42 (by omega) (by omega)).trans hO⟩, hn, lD_fr (fun y q1 q2 => fr y (by omega) (by omega)) ⟨rfl, rfl, fun _ _ => rfl, fun _ _ => rfl, fun _ _ => rfl⟩ hlD, lS_fr (fun y hy => fr y (by omega) (by omega)) (fun _ _ _ => ⟨rfl, rfl, fun _ _ => rfl, fun _ _ => rfl, fun _ _ => rfl⟩) hlS, lJ_fr (fun y q1 q2 => fr y (by omega) (by omega)) hlJ, hlC3, lF_fr (fun y q1 q2 => fr y (by omega) (by omega)) ⟨rfl, rfl, fun _ _ => rfl, fun _ _ => rfl, fun _ _ => rfl⟩ ⟨rfl, rfl, rfl, rfl, rfl, rfl⟩ (by omega) hlF⟩
set_option maxHeartbeats 4000000 in
set_option maxRecDepth 100000 in
theorem lw_ball {l : Launch} {G : jl_G} {F : List Frame → Array Value → State → Nat → Nat → (Nat → Nat) → Nat → State → Prop} {d n t ck sk : Nat} {h : Nat → va_E} {z : UInt32} (hl9 : l.stackTraces = false) (hd9 : 20 ≤ d) (hlen : G.2.2.2.2.1 ≤ 2048) (ht : 4 * t + 4 ≤ G.2.2.2.2.1) (hI : LI t n h) (hnext : ∀ n' h', LI (t + 1) n' h' → jl_AW l G F m_Lw_law d 1405 [some (.float (z)), some (.ref (0)), some (.ref (28)), some (.ref (42)), some (.int (zI (((4 * t : Nat) : Int)))), none, none] [] n' h' ck sk) : jl_AW l G F m_Lw_law d 1224 [some (.float (z)), some (.ref (0)), some (.ref (28)), some (.ref (42)), some (.int (zI (((4 * t : Nat) : Int)))), none, none] [] n h (ck + 1) (sk + 6) := by
  obtain ⟨M, hQ, okM, hrw, hX, ⟨f, hO⟩, hn, hlD, hlS, hlJ, hlC, hlF⟩ := hI
  have hz1 := scr_z G (4 * t + 1)
  have hz2 := scr_z G (4 * t + 2)
  have hz3 := scr_z G (4 * t + 3)
  obtain ⟨op, nw, B, MD, m, p, hs, cs, xs, sc, hF, hG, hGk, hGz, hnw, hfl⟩ := id hlF
  have hbl : M.bl = (B.length : Int) ∧ B.length ≤ 27 ∧ (∀ j, j < B.length → M.la j = (B.getD j (0, 0)).1 ∧ M.ha j = (B.getD j (0, 0)).2) ∧ (0 < B.length → nw = M.nw) ∧ (∀ j, j < B.length → zR (B.getD j (0, 0)).1) := by
    rcases hfl with ⟨q1, q2, q3, q4⟩ | ⟨q1, q2, q3, q4, q5, q6, -⟩
    · subst q3; exact ⟨q4, by decide, fun j hj => absurd hj (Nat.not_lt_zero j), fun hj => absurd hj (Nat.not_lt_zero 0), fun j hj => absurd hj (Nat.not_lt_zero j)⟩
    · exact ⟨q5.1, q5.2.1, q5.2.2, fun _ => q6, fun j hj => by have := q4.2 _ (mem_getD hj); exact ⟨by have := this.1; omega, by have := this.2.1; omega⟩⟩
  refine jl_aload_n d_Lw_law_1224 rfl rfl ?_
  refine jl_sload_n d_Lw_law_1225 rfl rfl ?_
  refine jl_iload d_Lw_law_1226 rfl ?_
  refine jl_iconst (v := zI (1)) d_Lw_law_1228 (by decide) ?_
  refine jz_iadd (v := ((4 * t + 1 : Nat) : Int)) d_Lw_law_1229 (by omega) ?_
  refine jz_sld (k9 := 4 * t + 1) d_Lw_law_1230 rfl (by omega) hlen ?_
  refine jl_aload_n d_Lw_law_1231 rfl rfl ?_
  refine jl_invSH (M' := m_Lw_ball) (d' := d - 1) (ck' := 1) (sk' := 6) (ck := ck) (sk := sk) (na := 3) (as := [.ref (0), .int (zI (scr G (4 * t + 1))), .ref (42)]) (st := []) d_Lw_law_1232 rfl mw_Lw_156 ww_Lw_ball nw_Lw cw_Lw_ball rfl rfl (by decide +kernel) (by omega) (Nat.le_of_ble_eq_true rfl) (Nat.le_of_ble_eq_true rfl) ?_
  refine k_Lw_ball hl9 (d' := d - 2) (by omega) hX ?_
  refine k_ball hl9 (by omega) hX hF hz1 (fun hin => ⟨(B.getD (scr G (4 * t + 1)).toNat (0, 0)).1 - nw, f, rfl, hO, ?_⟩) (fun hno => ⟨rfl, ?_⟩)
  · obtain ⟨h2, eh2⟩ : ∃ z9, z9 = va_up h 42 (jJ 1 (vp_updL f (zI 0).toNatClampNeg ((zI ((B.getD (scr G (4 * t + 1)).toNat (0, 0)).1 - nw)).toInt64))) := ⟨_, rfl⟩
    rw [← eh2]
    have oh2 : h2 42 = jJ 1 (vp_updL f (zI 0).toNatClampNeg ((zI ((B.getD (scr G (4 * t + 1)).toNat (0, 0)).1 - nw)).toInt64)) := by rw [eh2, va_up_self]
    have gh2 : ∀ y, y ≠ 42 → h2 y = h y := fun y hy => by rw [eh2, va_up_ne _ _ hy]
    show jl_AW _ _ _ _ _ 1235 [some (.float (z)), some (.ref (0)), some (.ref (28)), some (.ref (42)), some (.int (zI (((4 * t : Nat) : Int)))), none, none] [.int (zI (0))] n h2 _ _
    have hM2 : jM h2 28 M := jM_fr (fun y q1 q2 => gh2 y (by omega)) hQ
    refine jl_istore (L' := [some (.float (z)), some (.ref (0)), some (.ref (28)), some (.ref (42)), some (.int (zI (((4 * t : Nat) : Int)))), some (.int (zI (0))), none]) d_Lw_law_1235 (by decide) rfl ?_
    refine jl_aload_n d_Lw_law_1237 rfl rfl ?_
    refine jl_sload_n d_Lw_law_1238 rfl rfl ?_
    refine jl_iload d_Lw_law_1239 rfl ?_
    refine jl_iconst (v := zI (1)) d_Lw_law_1241 (by decide) ?_
    refine jz_iadd (v := ((4 * t + 1 : Nat) : Int)) d_Lw_law_1242 (by omega) ?_
    refine jz_sld (k9 := 4 * t + 1) d_Lw_law_1243 rfl (by omega) hlen ?_
    refine jl_invV0 (M' := m_Md_ball) (d' := d - 1) (ck' := 0) (sk' := 0) (na := 1) (as := [.int (zI (scr G (4 * t + 1)))]) (st := []) (x := 28) d_Lw_law_1244 rfl (hM2).1 rfl mw_Lw_158 ww_Md_ball sw_Md_ball nw_Md cw_Md_ball rfl rfl (by decide +kernel) (by omega) (Nat.le_of_ble_eq_true rfl) (Nat.le_of_ble_eq_true rfl) ?_
    refine k_M_ball hl9 (by omega) hM2 hz1 ⟨by omega, by omega⟩ (fun _ h3 hM3 hf3 => ?_) (fun q => absurd (by omega) q)
    show jl_AW _ _ _ _ _ 1247 [some (.float (z)), some (.ref (0)), some (.ref (28)), some (.ref (42)), some (.int (zI (((4 * t : Nat) : Int)))), some (.int (zI (0))), none] [.int (zI (M.la (scr G (4 * t + 1)).toNat - M.nw))] n h3 _ _
    have o3 : h3 42 = jJ 1 (vp_updL f (zI 0).toNatClampNeg ((zI ((B.getD (scr G (4 * t + 1)).toNat (0, 0)).1 - nw)).toInt64)) := by rw [hf3 42 (by omega)]; exact oh2
    have fr : ∀ y, (y < 28 ∨ 43 ≤ y) → h3 y = h y := fun y q2 => by rw [hf3 y (by omega), gh2 y (by omega)]
    refine jl_istore (L' := [some (.float (z)), some (.ref (0)), some (.ref (28)), some (.ref (42)), some (.int (zI (((4 * t : Nat) : Int)))), some (.int (zI (0))), some (.int (zI (M.la (scr G (4 * t + 1)).toNat - M.nw)))]) d_Lw_law_1247 (by decide) rfl ?_
    refine jl_aload_n d_Lw_law_1249 rfl rfl ?_
    refine jl_invV0 (M' := m_Md_thrown) (d' := d - 1) (ck' := 0) (sk' := 0) (na := 0) (as := []) (st := []) (x := 28) d_Lw_law_1250 rfl (hM3).1 rfl mw_Lw_93 ww_Md_thrown sw_Md_thrown nw_Md cw_Md_thrown rfl rfl (by decide +kernel) (by omega) (Nat.le_of_ble_eq_true rfl) (Nat.le_of_ble_eq_true rfl) ?_
    refine k_M_thrown hl9 (by omega) hM3 ?_
    show jl_AW _ _ _ _ _ 1253 [some (.float (z)), some (.ref (0)), some (.ref (28)), some (.ref (42)), some (.int (zI (((4 * t : Nat) : Int)))), some (.int (zI (0))), some (.int (zI (M.la (scr G (4 * t + 1)).toNat - M.nw)))] [.int (zI (0))] n h3 _ _
    refine jl_iload d_Lw_law_1253 rfl ?_
    refine jz_icmp_eq (tgt := 1260) d_Lw_law_1255 (by decide) ⟨by decide, by decide⟩ ⟨by decide, by decide⟩ (fun _ => ?_) (fun q9 => absurd rfl q9)
    refine jl_iload d_Lw_law_1260 rfl ?_
    refine jz_if_ne (tgt := 1277) d_Lw_law_1262 (by decide) ⟨by decide, by decide⟩ (fun q9 => absurd q9 (by decide)) (fun _ => ?_)
    refine jl_aload_n d_Lw_law_1265 rfl rfl ?_
    refine jl_iconst (v := zI (0)) d_Lw_law_1266 (by decide) ?_
    refine jl_lald d_Lw_law_1267 o3 (zI_in (by decide) (by decide) (by decide)) ?_
    refine jl_iload d_Lw_law_1268 rfl ?_
    refine jl_i2l d_Lw_law_1270 ?_
    refine jz_lcmp0 d_Lw_law_1271 (by unfold vp_updL; rw [if_pos rfl]; rw [(hbl.2.2.1 (scr G (4 * t + 1)).toNat (by omega)).1, hbl.2.2.2.1 (by omega)]) ?_
    refine jz_if_eq (tgt := 1277) d_Lw_law_1272 (by decide) ⟨by decide, by decide⟩ (fun _ => ?_) (fun q9 => absurd q9 (by decide))
    refine jl_goto (tgt := 1405) d_Lw_law_1277 (by decide) ?_
    refine jl_less (L' := [some (.float (z)), some (.ref (0)), some (.ref (28)), some (.ref (42)), some (.int (zI (((4 * t : Nat) : Int)))), none, none]) ⟨rfl, rfl, rfl, rfl, rfl, trivial⟩ ?_
    exact hnext n h3 ⟨_, hM3, okM, hrw, (fr 0 (by omega)).trans hX, ⟨_, o3⟩, hn, lD_fr (fun y q1 q2 => fr y (by omega)) ⟨rfl, rfl, fun _ _ => rfl, fun _ _ => rfl, fun _ _ => rfl⟩ hlD, lS_fr (fun y hy => fr y (by omega)) (fun _ _ _ => ⟨rfl, rfl, fun _ _ => rfl, fun _ _ => rfl, fun _ _ => rfl⟩) hlS, lJ_fr (fun y q1 q2 => fr y (by omega)) hlJ, lCt_fr (fun y q1 q2 => fr y (by omega)) hlC, lF_fr (fun y q1 q2 => fr y (by omega)) ⟨rfl, rfl, fun _ _ => rfl, fun _ _ => rfl, fun _ _ => rfl⟩ ⟨rfl, rfl, rfl, rfl, rfl, rfl⟩ (by omega) hlF⟩
  · show jl_AW _ _ _ _ _ 1235 [some (.float (z)), some (.ref (0)), some (.ref (28)), some (.ref (42)), some (.int (zI (((4 * t : Nat) : Int)))), none, none] [.int (zI (1))] n h _ _
    refine jl_istore (L' := [some (.float (z)), some (.ref (0)), some (.ref (28)), some (.ref (42)), some (.int (zI (((4 * t : Nat) : Int)))), some (.int (zI (1))), none]) d_Lw_law_1235 (by decide) rfl ?_
    refine jl_aload_n d_Lw_law_1237 rfl rfl ?_
    refine jl_sload_n d_Lw_law_1238 rfl rfl ?_
    refine jl_iload d_Lw_law_1239 rfl ?_
    refine jl_iconst (v := zI (1)) d_Lw_law_1241 (by decide) ?_
    refine jz_iadd (v := ((4 * t + 1 : Nat) : Int)) d_Lw_law_1242 (by omega) ?_
    refine jz_sld (k9 := 4 * t + 1) d_Lw_law_1243 rfl (by omega) hlen ?_
    refine jl_invV0 (M' := m_Md_ball) (d' := d - 1) (ck' := 0) (sk' := 0) (na := 1) (as := [.int (zI (scr G (4 * t + 1)))]) (st := []) (x := 28) d_Lw_law_1244 rfl (hQ).1 rfl mw_Lw_158 ww_Md_ball sw_Md_ball nw_Md cw_Md_ball rfl rfl (by decide +kernel) (by omega) (Nat.le_of_ble_eq_true rfl) (Nat.le_of_ble_eq_true rfl) ?_
    refine k_M_ball hl9 (by omega) hQ hz1 ⟨by omega, by omega⟩ (fun q => absurd (by omega) hno) (fun _ h3 hM3 hf3 => ?_)
    show jl_AW _ _ _ _ _ 1247 [some (.float (z)), some (.ref (0)), some (.ref (28)), some (.ref (42)), some (.int (zI (((4 * t : Nat) : Int)))), some (.int (zI (1))), none] [.int (zI (0))] n h3 _ _
    have fr : ∀ y, (y < 28 ∨ 42 ≤ y) → h3 y = h y := fun y q2 => hf3 y (by omega)
    refine jl_istore (L' := [some (.float (z)), some (.ref (0)), some (.ref (28)), some (.ref (42)), some (.int (zI (((4 * t : Nat) : Int)))), some (.int (zI (1))), some (.int (zI (0)))]) d_Lw_law_1247 (by decide) rfl ?_
    refine jl_aload_n d_Lw_law_1249 rfl rfl ?_
    refine jl_invV0 (M' := m_Md_thrown) (d' := d - 1) (ck' := 0) (sk' := 0) (na := 0) (as := []) (st := []) (x := 28) d_Lw_law_1250 rfl (hM3).1 rfl mw_Lw_93 ww_Md_thrown sw_Md_thrown nw_Md cw_Md_thrown rfl rfl (by decide +kernel) (by omega) (Nat.le_of_ble_eq_true rfl) (Nat.le_of_ble_eq_true rfl) ?_
    refine k_M_thrown hl9 (by omega) hM3 ?_
    show jl_AW _ _ _ _ _ 1253 [some (.float (z)), some (.ref (0)), some (.ref (28)), some (.ref (42)), some (.int (zI (((4 * t : Nat) : Int)))), some (.int (zI (1))), some (.int (zI (0)))] [.int (zI (1))] n h3 _ _
    refine jl_iload d_Lw_law_1253 rfl ?_
    refine jz_icmp_eq (tgt := 1260) d_Lw_law_1255 (by decide) ⟨by decide, by decide⟩ ⟨by decide, by decide⟩ (fun _ => ?_) (fun q9 => absurd rfl q9)
    refine jl_iload d_Lw_law_1260 rfl ?_
    refine jz_if_ne (tgt := 1277) d_Lw_law_1262 (by decide) ⟨by decide, by decide⟩ (fun _ => ?_) (fun q9 => absurd q9 (by decide))
    refine jl_goto (tgt := 1405) d_Lw_law_1277 (by decide) ?_
    refine jl_less (L' := [some (.float (z)), some (.ref (0)), some (.ref (28)), some (.ref (42)), some (.int (zI (((4 * t : Nat) : Int)))), none, none]) ⟨rfl, rfl, rfl, rfl, rfl, trivial⟩ ?_
    exact hnext n h3 ⟨_, hM3, okM, hrw, (fr 0 (by omega)).trans hX, ⟨f, (fr 42 (by omega)).trans hO⟩, hn, lD_fr (fun y q1 q2 => fr y (by omega)) ⟨rfl, rfl, fun _ _ => rfl, fun _ _ => rfl, fun _ _ => rfl⟩ hlD, lS_fr (fun y hy => fr y (by omega)) (fun _ _ _ => ⟨rfl, rfl, fun _ _ => rfl, fun _ _ => rfl, fun _ _ => rfl⟩) hlS, lJ_fr (fun y q1 q2 => fr y (by omega)) hlJ, lCt_fr (fun y q1 q2 => fr y (by omega)) hlC, lF_fr (fun y q1 q2 => fr y (by omega)) ⟨rfl, rfl, fun _ _ => rfl, fun _ _ => rfl, fun _ _ => rfl⟩ ⟨rfl, rfl, rfl, rfl, rfl, rfl⟩ (by omega) hlF⟩
set_option maxHeartbeats 4000000 in
set_option maxRecDepth 100000 in
theorem lw_hand {l : Launch} {G : jl_G} {F : List Frame → Array Value → State → Nat → Nat → (Nat → Nat) → Nat → State → Prop} {d n t ck sk : Nat} {h : Nat → va_E} {z : UInt32} (hl9 : l.stackTraces = false) (hd9 : 20 ≤ d) (hlen : G.2.2.2.2.1 ≤ 2048) (ht : 4 * t + 4 ≤ G.2.2.2.2.1) (hI : LI t n h) (hnext : ∀ n' h', LI (t + 1) n' h' → jl_AW l G F m_Lw_law d 1405 [some (.float (z)), some (.ref (0)), some (.ref (28)), some (.ref (42)), some (.int (zI (((4 * t : Nat) : Int)))), none, none] [] n' h' ck sk) : jl_AW l G F m_Lw_law d 1280 [some (.float (z)), some (.ref (0)), some (.ref (28)), some (.ref (42)), some (.int (zI (((4 * t : Nat) : Int)))), none, none] [] n h (ck + 1) (sk + 6) := by
  obtain ⟨M, hQ, okM, hrw, hX, ⟨f, hO⟩, hn, hlD, hlS, hlJ, hlC, hlF⟩ := hI
  have hz1 := scr_z G (4 * t + 1)
  have hz2 := scr_z G (4 * t + 2)
  have hz3 := scr_z G (4 * t + 3)
  obtain ⟨op, nw, B, MD, m, p, hs, cs, xs, sc, hF, hG, hGk, hGz, hnw, hfl⟩ := id hlF
  have hbl : M.bl = (B.length : Int) ∧ B.length ≤ 27 ∧ (∀ j, j < B.length → M.la j = (B.getD j (0, 0)).1 ∧ M.ha j = (B.getD j (0, 0)).2) ∧ (0 < B.length → nw = M.nw) ∧ (∀ j, j < B.length → zR (B.getD j (0, 0)).1) := by
    rcases hfl with ⟨q1, q2, q3, q4⟩ | ⟨q1, q2, q3, q4, q5, q6, -⟩
    · subst q3; exact ⟨q4, by decide, fun j hj => absurd hj (Nat.not_lt_zero j), fun hj => absurd hj (Nat.not_lt_zero 0), fun j hj => absurd hj (Nat.not_lt_zero j)⟩
    · exact ⟨q5.1, q5.2.1, q5.2.2, fun _ => q6, fun j hj => by have := q4.2 _ (mem_getD hj); exact ⟨by have := this.1; omega, by have := this.2.1; omega⟩⟩
  refine jl_aload_n d_Lw_law_1280 rfl rfl ?_
  refine jl_sload_n d_Lw_law_1281 rfl rfl ?_
  refine jl_iload d_Lw_law_1282 rfl ?_
  refine jl_iconst (v := zI (1)) d_Lw_law_1284 (by decide) ?_
  refine jz_iadd (v := ((4 * t + 1 : Nat) : Int)) d_Lw_law_1285 (by omega) ?_
  refine jz_sld (k9 := 4 * t + 1) d_Lw_law_1286 rfl (by omega) hlen ?_
  refine jl_aload_n d_Lw_law_1287 rfl rfl ?_
  refine jl_invSH (M' := m_Lw_hand) (d' := d - 1) (ck' := 1) (sk' := 6) (ck := ck) (sk := sk) (na := 3) (as := [.ref (0), .int (zI (scr G (4 * t + 1))), .ref (42)]) (st := []) d_Lw_law_1288 rfl mw_Lw_159 ww_Lw_hand nw_Lw cw_Lw_hand rfl rfl (by decide +kernel) (by omega) (Nat.le_of_ble_eq_true rfl) (Nat.le_of_ble_eq_true rfl) ?_
  refine k_Lw_hand hl9 (d' := d - 2) (by omega) hX ?_
  refine k_hand hl9 (by omega) hX hF hz1 (fun hin => ⟨(B.getD (scr G (4 * t + 1)).toNat (0, 0)).2, f, rfl, hO, ?_⟩) (fun hno => ⟨rfl, ?_⟩)
  · obtain ⟨h2, eh2⟩ : ∃ z9, z9 = va_up h 42 (jJ 1 (vp_updL f (zI 0).toNatClampNeg ((zI ((B.getD (scr G (4 * t + 1)).toNat (0, 0)).2)).toInt64))) := ⟨_, rfl⟩
    rw [← eh2]
    have oh2 : h2 42 = jJ 1 (vp_updL f (zI 0).toNatClampNeg ((zI ((B.getD (scr G (4 * t + 1)).toNat (0, 0)).2)).toInt64)) := by rw [eh2, va_up_self]
    have gh2 : ∀ y, y ≠ 42 → h2 y = h y := fun y hy => by rw [eh2, va_up_ne _ _ hy]
    show jl_AW _ _ _ _ _ 1291 [some (.float (z)), some (.ref (0)), some (.ref (28)), some (.ref (42)), some (.int (zI (((4 * t : Nat) : Int)))), none, none] [.int (zI (0))] n h2 _ _
    have hM2 : jM h2 28 M := jM_fr (fun y q1 q2 => gh2 y (by omega)) hQ
    refine jl_istore (L' := [some (.float (z)), some (.ref (0)), some (.ref (28)), some (.ref (42)), some (.int (zI (((4 * t : Nat) : Int)))), some (.int (zI (0))), none]) d_Lw_law_1291 (by decide) rfl ?_
    refine jl_aload_n d_Lw_law_1293 rfl rfl ?_
    refine jl_sload_n d_Lw_law_1294 rfl rfl ?_
    refine jl_iload d_Lw_law_1295 rfl ?_
    refine jl_iconst (v := zI (1)) d_Lw_law_1297 (by decide) ?_
    refine jz_iadd (v := ((4 * t + 1 : Nat) : Int)) d_Lw_law_1298 (by omega) ?_
    refine jz_sld (k9 := 4 * t + 1) d_Lw_law_1299 rfl (by omega) hlen ?_
    refine jl_invV0 (M' := m_Md_hand) (d' := d - 1) (ck' := 0) (sk' := 0) (na := 1) (as := [.int (zI (scr G (4 * t + 1)))]) (st := []) (x := 28) d_Lw_law_1300 rfl (hM2).1 rfl mw_Lw_161 ww_Md_hand sw_Md_hand nw_Md cw_Md_hand rfl rfl (by decide +kernel) (by omega) (Nat.le_of_ble_eq_true rfl) (Nat.le_of_ble_eq_true rfl) ?_
    refine k_M_hand hl9 (by omega) hM2 hz1 ⟨by omega, by omega⟩ (fun _ h3 hM3 hf3 => ?_) (fun q => absurd (by omega) q)
    show jl_AW _ _ _ _ _ 1303 [some (.float (z)), some (.ref (0)), some (.ref (28)), some (.ref (42)), some (.int (zI (((4 * t : Nat) : Int)))), some (.int (zI (0))), none] [.int (zI (M.ha (scr G (4 * t + 1)).toNat))] n h3 _ _
    have o3 : h3 42 = jJ 1 (vp_updL f (zI 0).toNatClampNeg ((zI ((B.getD (scr G (4 * t + 1)).toNat (0, 0)).2)).toInt64)) := by rw [hf3 42 (by omega)]; exact oh2
    have fr : ∀ y, (y < 28 ∨ 43 ≤ y) → h3 y = h y := fun y q2 => by rw [hf3 y (by omega), gh2 y (by omega)]
    refine jl_istore (L' := [some (.float (z)), some (.ref (0)), some (.ref (28)), some (.ref (42)), some (.int (zI (((4 * t : Nat) : Int)))), some (.int (zI (0))), some (.int (zI (M.ha (scr G (4 * t + 1)).toNat)))]) d_Lw_law_1303 (by decide) rfl ?_
    refine jl_aload_n d_Lw_law_1305 rfl rfl ?_
    refine jl_invV0 (M' := m_Md_thrown) (d' := d - 1) (ck' := 0) (sk' := 0) (na := 0) (as := []) (st := []) (x := 28) d_Lw_law_1306 rfl (hM3).1 rfl mw_Lw_93 ww_Md_thrown sw_Md_thrown nw_Md cw_Md_thrown rfl rfl (by decide +kernel) (by omega) (Nat.le_of_ble_eq_true rfl) (Nat.le_of_ble_eq_true rfl) ?_
    refine k_M_thrown hl9 (by omega) hM3 ?_
    show jl_AW _ _ _ _ _ 1309 [some (.float (z)), some (.ref (0)), some (.ref (28)), some (.ref (42)), some (.int (zI (((4 * t : Nat) : Int)))), some (.int (zI (0))), some (.int (zI (M.ha (scr G (4 * t + 1)).toNat)))] [.int (zI (0))] n h3 _ _
    refine jl_iload d_Lw_law_1309 rfl ?_
    refine jz_icmp_eq (tgt := 1316) d_Lw_law_1311 (by decide) ⟨by decide, by decide⟩ ⟨by decide, by decide⟩ (fun _ => ?_) (fun q9 => absurd rfl q9)
    refine jl_iload d_Lw_law_1316 rfl ?_
    refine jz_if_ne (tgt := 1333) d_Lw_law_1318 (by decide) ⟨by decide, by decide⟩ (fun q9 => absurd q9 (by decide)) (fun _ => ?_)
    refine jl_aload_n d_Lw_law_1321 rfl rfl ?_
    refine jl_iconst (v := zI (0)) d_Lw_law_1322 (by decide) ?_
    refine jl_lald d_Lw_law_1323 o3 (zI_in (by decide) (by decide) (by decide)) ?_
    refine jl_iload d_Lw_law_1324 rfl ?_
    refine jl_i2l d_Lw_law_1326 ?_
    refine jz_lcmp0 d_Lw_law_1327 (by unfold vp_updL; rw [if_pos rfl]; rw [(hbl.2.2.1 (scr G (4 * t + 1)).toNat (by omega)).2]) ?_
    refine jz_if_eq (tgt := 1333) d_Lw_law_1328 (by decide) ⟨by decide, by decide⟩ (fun _ => ?_) (fun q9 => absurd q9 (by decide))
    refine jl_goto (tgt := 1405) d_Lw_law_1333 (by decide) ?_
    refine jl_less (L' := [some (.float (z)), some (.ref (0)), some (.ref (28)), some (.ref (42)), some (.int (zI (((4 * t : Nat) : Int)))), none, none]) ⟨rfl, rfl, rfl, rfl, rfl, trivial⟩ ?_
    exact hnext n h3 ⟨_, hM3, okM, hrw, (fr 0 (by omega)).trans hX, ⟨_, o3⟩, hn, lD_fr (fun y q1 q2 => fr y (by omega)) ⟨rfl, rfl, fun _ _ => rfl, fun _ _ => rfl, fun _ _ => rfl⟩ hlD, lS_fr (fun y hy => fr y (by omega)) (fun _ _ _ => ⟨rfl, rfl, fun _ _ => rfl, fun _ _ => rfl, fun _ _ => rfl⟩) hlS, lJ_fr (fun y q1 q2 => fr y (by omega)) hlJ, lCt_fr (fun y q1 q2 => fr y (by omega)) hlC, lF_fr (fun y q1 q2 => fr y (by omega)) ⟨rfl, rfl, fun _ _ => rfl, fun _ _ => rfl, fun _ _ => rfl⟩ ⟨rfl, rfl, rfl, rfl, rfl, rfl⟩ (by omega) hlF⟩
  · show jl_AW _ _ _ _ _ 1291 [some (.float (z)), some (.ref (0)), some (.ref (28)), some (.ref (42)), some (.int (zI (((4 * t : Nat) : Int)))), none, none] [.int (zI (1))] n h _ _
    refine jl_istore (L' := [some (.float (z)), some (.ref (0)), some (.ref (28)), some (.ref (42)), some (.int (zI (((4 * t : Nat) : Int)))), some (.int (zI (1))), none]) d_Lw_law_1291 (by decide) rfl ?_
    refine jl_aload_n d_Lw_law_1293 rfl rfl ?_
    refine jl_sload_n d_Lw_law_1294 rfl rfl ?_
    refine jl_iload d_Lw_law_1295 rfl ?_
    refine jl_iconst (v := zI (1)) d_Lw_law_1297 (by decide) ?_
    refine jz_iadd (v := ((4 * t + 1 : Nat) : Int)) d_Lw_law_1298 (by omega) ?_
    refine jz_sld (k9 := 4 * t + 1) d_Lw_law_1299 rfl (by omega) hlen ?_
    refine jl_invV0 (M' := m_Md_hand) (d' := d - 1) (ck' := 0) (sk' := 0) (na := 1) (as := [.int (zI (scr G (4 * t + 1)))]) (st := []) (x := 28) d_Lw_law_1300 rfl (hQ).1 rfl mw_Lw_161 ww_Md_hand sw_Md_hand nw_Md cw_Md_hand rfl rfl (by decide +kernel) (by omega) (Nat.le_of_ble_eq_true rfl) (Nat.le_of_ble_eq_true rfl) ?_
    refine k_M_hand hl9 (by omega) hQ hz1 ⟨by omega, by omega⟩ (fun q => absurd (by omega) hno) (fun _ h3 hM3 hf3 => ?_)
    show jl_AW _ _ _ _ _ 1303 [some (.float (z)), some (.ref (0)), some (.ref (28)), some (.ref (42)), some (.int (zI (((4 * t : Nat) : Int)))), some (.int (zI (1))), none] [.int (zI (0))] n h3 _ _
    have fr : ∀ y, (y < 28 ∨ 42 ≤ y) → h3 y = h y := fun y q2 => hf3 y (by omega)
    refine jl_istore (L' := [some (.float (z)), some (.ref (0)), some (.ref (28)), some (.ref (42)), some (.int (zI (((4 * t : Nat) : Int)))), some (.int (zI (1))), some (.int (zI (0)))]) d_Lw_law_1303 (by decide) rfl ?_
    refine jl_aload_n d_Lw_law_1305 rfl rfl ?_
    refine jl_invV0 (M' := m_Md_thrown) (d' := d - 1) (ck' := 0) (sk' := 0) (na := 0) (as := []) (st := []) (x := 28) d_Lw_law_1306 rfl (hM3).1 rfl mw_Lw_93 ww_Md_thrown sw_Md_thrown nw_Md cw_Md_thrown rfl rfl (by decide +kernel) (by omega) (Nat.le_of_ble_eq_true rfl) (Nat.le_of_ble_eq_true rfl) ?_
    refine k_M_thrown hl9 (by omega) hM3 ?_
    show jl_AW _ _ _ _ _ 1309 [some (.float (z)), some (.ref (0)), some (.ref (28)), some (.ref (42)), some (.int (zI (((4 * t : Nat) : Int)))), some (.int (zI (1))), some (.int (zI (0)))] [.int (zI (1))] n h3 _ _
    refine jl_iload d_Lw_law_1309 rfl ?_
    refine jz_icmp_eq (tgt := 1316) d_Lw_law_1311 (by decide) ⟨by decide, by decide⟩ ⟨by decide, by decide⟩ (fun _ => ?_) (fun q9 => absurd rfl q9)
    refine jl_iload d_Lw_law_1316 rfl ?_
    refine jz_if_ne (tgt := 1333) d_Lw_law_1318 (by decide) ⟨by decide, by decide⟩ (fun _ => ?_) (fun q9 => absurd q9 (by decide))
    refine jl_goto (tgt := 1405) d_Lw_law_1333 (by decide) ?_
    refine jl_less (L' := [some (.float (z)), some (.ref (0)), some (.ref (28)), some (.ref (42)), some (.int (zI (((4 * t : Nat) : Int)))), none, none]) ⟨rfl, rfl, rfl, rfl, rfl, trivial⟩ ?_
    exact hnext n h3 ⟨_, hM3, okM, hrw, (fr 0 (by omega)).trans hX, ⟨f, (fr 42 (by omega)).trans hO⟩, hn, lD_fr (fun y q1 q2 => fr y (by omega)) ⟨rfl, rfl, fun _ _ => rfl, fun _ _ => rfl, fun _ _ => rfl⟩ hlD, lS_fr (fun y hy => fr y (by omega)) (fun _ _ _ => ⟨rfl, rfl, fun _ _ => rfl, fun _ _ => rfl, fun _ _ => rfl⟩) hlS, lJ_fr (fun y q1 q2 => fr y (by omega)) hlJ, lCt_fr (fun y q1 q2 => fr y (by omega)) hlC, lF_fr (fun y q1 q2 => fr y (by omega)) ⟨rfl, rfl, fun _ _ => rfl, fun _ _ => rfl, fun _ _ => rfl⟩ ⟨rfl, rfl, rfl, rfl, rfl, rfl⟩ (by omega) hlF⟩
set_option maxHeartbeats 4000000 in
set_option maxRecDepth 100000 in
theorem lw_highest {l : Launch} {G : jl_G} {F : List Frame → Array Value → State → Nat → Nat → (Nat → Nat) → Nat → State → Prop} {d n t ck sk : Nat} {h : Nat → va_E} {z : UInt32} (hl9 : l.stackTraces = false) (hd9 : 20 ≤ d) (hlen : G.2.2.2.2.1 ≤ 2048) (ht : 4 * t + 4 ≤ G.2.2.2.2.1) (hI : LI t n h) (hnext : ∀ n' h', LI (t + 1) n' h' → jl_AW l G F m_Lw_law d 1405 [some (.float (z)), some (.ref (0)), some (.ref (28)), some (.ref (42)), some (.int (zI (((4 * t : Nat) : Int)))), none, none] [] n' h' ck sk) : jl_AW l G F m_Lw_law d 1336 [some (.float (z)), some (.ref (0)), some (.ref (28)), some (.ref (42)), some (.int (zI (((4 * t : Nat) : Int)))), none, none] [] n h (ck + 0) (sk + 0) := by
  obtain ⟨M, hQ, okM, hrw, hX, ⟨f, hO⟩, hn, hlD, hlS, hlJ, hlC, hlF⟩ := hI
  have hz1 := scr_z G (4 * t + 1)
  have hz2 := scr_z G (4 * t + 2)
  have hz3 := scr_z G (4 * t + 3)
  obtain ⟨op, nw, B, MD, m, p, hs, cs, xs, sc, hF, hG, hGk, hGz, hnw, hfl⟩ := id hlF
  have hbl : M.bl = (B.length : Int) ∧ B.length ≤ 27 ∧ (∀ j, j < B.length → M.la j = (B.getD j (0, 0)).1 ∧ M.ha j = (B.getD j (0, 0)).2) ∧ (0 < B.length → nw = M.nw) ∧ (∀ j, j < B.length → zR (B.getD j (0, 0)).1) := by
    rcases hfl with ⟨q1, q2, q3, q4⟩ | ⟨q1, q2, q3, q4, q5, q6, -⟩
    · subst q3; exact ⟨q4, by decide, fun j hj => absurd hj (Nat.not_lt_zero j), fun hj => absurd hj (Nat.not_lt_zero 0), fun j hj => absurd hj (Nat.not_lt_zero j)⟩
    · exact ⟨q5.1, q5.2.1, q5.2.2, fun _ => q6, fun j hj => by have := q4.2 _ (mem_getD hj); exact ⟨by have := this.1; omega, by have := this.2.1; omega⟩⟩
  refine jl_aload_n d_Lw_law_1336 rfl rfl ?_
  refine jl_invV0 (M' := m_St_highest) (d' := d - 1) (ck' := 0) (sk' := 0) (na := 0) (as := []) (st := []) (x := 0) d_Lw_law_1337 rfl hX rfl mw_Lw_162 ww_St_highest sw_St_highest nw_St cw_St_highest rfl rfl (by decide +kernel) (by omega) (Nat.le_of_ble_eq_true rfl) (Nat.le_of_ble_eq_true rfl) ?_
  refine k_highest hl9 (by omega) hX hF hbl.2.2.2.2 ?_
  show jl_AW _ _ _ _ _ 1340 [some (.float (z)), some (.ref (0)), some (.ref (28)), some (.ref (42)), some (.int (zI (((4 * t : Nat) : Int)))), none, none] [.int (zI (ll B B.length))] n h _ _
  have hlr := ll_rg B B.length (Nat.le_refl _)
  refine jl_aload_n d_Lw_law_1340 rfl rfl ?_
  refine jl_invV0 (M' := m_Md_highest) (d' := d - 1) (ck' := 0) (sk' := 0) (na := 0) (as := []) (st := [.int (zI (ll B B.length))]) (x := 28) d_Lw_law_1341 rfl (hQ).1 rfl mw_Lw_165 ww_Md_highest sw_Md_highest nw_Md cw_Md_highest rfl rfl (by decide +kernel) (by omega) (Nat.le_of_ble_eq_true rfl) (Nat.le_of_ble_eq_true rfl) ?_
  refine k_M_highest hl9 (by omega) hQ ⟨by omega, by omega⟩ (fun j hj => by rw [(hbl.2.2.1 j (by omega)).1]; exact hbl.2.2.2.2 j (by omega)) (fun h3 hM3 hf3 => ?_)
  show jl_AW _ _ _ _ _ 1344 [some (.float (z)), some (.ref (0)), some (.ref (28)), some (.ref (42)), some (.int (zI (((4 * t : Nat) : Int)))), none, none] [.int (zI (hiM M.la (M.bl).toNat)), .int (zI (ll B B.length))] n h3 _ _
  have ev : hiM M.la (M.bl).toNat = ll B B.length := by rw [hbl.1, Int.toNat_natCast]; exact hi_ll (fun j hj => (hbl.2.2.1 j hj).1) _ (Nat.le_refl _)
  rw [ev]
  refine jz_icmp_eq (tgt := 1405) d_Lw_law_1344 (by decide) ⟨by omega, by omega⟩ ⟨by omega, by omega⟩ (fun _ => ?_) (fun q9 => absurd rfl q9)
  have fr : ∀ y, (y < 28 ∨ 42 ≤ y) → h3 y = h y := fun y q2 => hf3 y (by omega)
  exact hnext n h3 ⟨_, hM3, okM, hrw, (fr 0 (by omega)).trans hX, ⟨f, (fr 42 (by omega)).trans hO⟩, hn, lD_fr (fun y q1 q2 => fr y (by omega)) ⟨rfl, rfl, fun _ _ => rfl, fun _ _ => rfl, fun _ _ => rfl⟩ hlD, lS_fr (fun y hy => fr y (by omega)) (fun _ _ _ => ⟨rfl, rfl, fun _ _ => rfl, fun _ _ => rfl, fun _ _ => rfl⟩) hlS, lJ_fr (fun y q1 q2 => fr y (by omega)) hlJ, lCt_fr (fun y q1 q2 => fr y (by omega)) hlC, lF_fr (fun y q1 q2 => fr y (by omega)) ⟨rfl, rfl, fun _ _ => rfl, fun _ _ => rfl, fun _ _ => rfl⟩ ⟨rfl, rfl, rfl, rfl, rfl, rfl⟩ (by omega) hlF⟩
set_option maxHeartbeats 4000000 in
set_option maxRecDepth 100000 in
theorem lw_floor {l : Launch} {G : jl_G} {F : List Frame → Array Value → State → Nat → Nat → (Nat → Nat) → Nat → State → Prop} {d n t ck sk : Nat} {h : Nat → va_E} {z : UInt32} (hl9 : l.stackTraces = false) (hd9 : 20 ≤ d) (hlen : G.2.2.2.2.1 ≤ 2048) (ht : 4 * t + 4 ≤ G.2.2.2.2.1) (hI : LI t n h) (hnext : ∀ n' h', LI (t + 1) n' h' → jl_AW l G F m_Lw_law d 1405 [some (.float (z)), some (.ref (0)), some (.ref (28)), some (.ref (42)), some (.int (zI (((4 * t : Nat) : Int)))), none, none] [] n' h' ck sk) : jl_AW l G F m_Lw_law d 1349 [some (.float (z)), some (.ref (0)), some (.ref (28)), some (.ref (42)), some (.int (zI (((4 * t : Nat) : Int)))), none, none] [] n h (ck + 2) (sk + 12) := by
  obtain ⟨M, hQ, okM, hrw, hX, ⟨f, hO⟩, hn, hlD, hlS, hlJ, hlC, hlF⟩ := hI
  have hz1 := scr_z G (4 * t + 1)
  have hz2 := scr_z G (4 * t + 2)
  have hz3 := scr_z G (4 * t + 3)
  obtain ⟨op, nw, B, MD, m, p, hs, cs, xs, sc, hF, hG, hGk, hGz, hnw, hfl⟩ := id hlF
  have hbl : M.bl = (B.length : Int) ∧ B.length ≤ 27 ∧ (∀ j, j < B.length → M.la j = (B.getD j (0, 0)).1 ∧ M.ha j = (B.getD j (0, 0)).2) ∧ (0 < B.length → nw = M.nw) ∧ (∀ j, j < B.length → zR (B.getD j (0, 0)).1) := by
    rcases hfl with ⟨q1, q2, q3, q4⟩ | ⟨q1, q2, q3, q4, q5, q6, -⟩
    · subst q3; exact ⟨q4, by decide, fun j hj => absurd hj (Nat.not_lt_zero j), fun hj => absurd hj (Nat.not_lt_zero 0), fun j hj => absurd hj (Nat.not_lt_zero j)⟩
    · exact ⟨q5.1, q5.2.1, q5.2.2, fun _ => q6, fun j hj => by have := q4.2 _ (mem_getD hj); exact ⟨by have := this.1; omega, by have := this.2.1; omega⟩⟩
  have hop : zR op ∧ (op = 0 ↔ M.pe (7 : Int).toNat = 0) := by
    rcases hfl with ⟨q1, q2, q3, q4⟩ | ⟨q1, q2, -⟩
    · exact ⟨⟨by omega, by omega⟩, by omega⟩
    · have h8 := q2.2.2.2.2.2.1; have h9 := q2.1.2.1; exact ⟨⟨by omega, by omega⟩, by omega⟩
  have hfv : ¬ op = 0 → nw = M.nw ∧ MD (0 : Int).toNat = M.lt ∧ MD (1 : Int).toNat = M.rt ∧ m = M.mo (7 : Int).toNat := by
    intro q0
    rcases hfl with ⟨q1, -⟩ | ⟨q1, q2, q3, q4, q5, q6, q7, q8⟩
    · exact absurd q1 q0
    · exact ⟨q6, q7, q8, q2.2.2.2.2.1.symm⟩
  refine jl_aload_n d_Lw_law_1349 rfl rfl ?_
  refine jl_sload_n d_Lw_law_1350 rfl rfl ?_
  refine jl_iload d_Lw_law_1351 rfl ?_
  refine jl_iconst (v := zI (1)) d_Lw_law_1353 (by decide) ?_
  refine jz_iadd (v := ((4 * t + 1 : Nat) : Int)) d_Lw_law_1354 (by omega) ?_
  refine jz_sld (k9 := 4 * t + 1) d_Lw_law_1355 rfl (by omega) hlen ?_
  refine jl_aload_n d_Lw_law_1356 rfl rfl ?_
  refine jl_invSH (M' := m_Lw_floor) (d' := d - 1) (ck' := 2) (sk' := 12) (ck := ck) (sk := sk) (na := 3) (as := [.ref (0), .int (zI (scr G (4 * t + 1))), .ref (42)]) (st := []) d_Lw_law_1357 rfl mw_Lw_166 ww_Lw_floor nw_Lw cw_Lw_floor rfl rfl (by decide +kernel) (by omega) (Nat.le_of_ble_eq_true rfl) (Nat.le_of_ble_eq_true rfl) ?_
  refine k_Lw_floor hl9 (d' := d - 2) (by omega) hX ?_
  refine k_floor hl9 (by omega) hX hF hG hop.1 hz1 (fun hq hb => ⟨nw, f, rfl, hO, ?_⟩) (fun hq hb => ⟨MD (0 : Int).toNat, f, rfl, hO, ?_⟩) (fun hq hb => ⟨MD (1 : Int).toNat, f, rfl, hO, ?_⟩) (fun hq hb => ⟨(B.length : Int), f, rfl, hO, ?_⟩) (fun hq hb => ⟨m, f, rfl, hO, ?_⟩) (fun hno => Or.inl ⟨rfl, ?_⟩) (fun hin hq => Or.inr ⟨rfl, ?_⟩)
  · obtain ⟨h2, eh2⟩ : ∃ z9, z9 = va_up h 42 (jJ 1 (vp_updL f (zI 0).toNatClampNeg ((zI (nw)).toInt64))) := ⟨_, rfl⟩
    rw [← eh2]
    have oh2 : h2 42 = jJ 1 (vp_updL f (zI 0).toNatClampNeg ((zI (nw)).toInt64)) := by rw [eh2, va_up_self]
    have gh2 : ∀ y, y ≠ 42 → h2 y = h y := fun y hy => by rw [eh2, va_up_ne _ _ hy]
    show jl_AW _ _ _ _ _ 1360 [some (.float (z)), some (.ref (0)), some (.ref (28)), some (.ref (42)), some (.int (zI (((4 * t : Nat) : Int)))), none, none] [.int (zI (0))] n h2 _ _
    have hM2 : jM h2 28 M := jM_fr (fun y q1 q2 => gh2 y (by omega)) hQ
    refine jl_istore (L' := [some (.float (z)), some (.ref (0)), some (.ref (28)), some (.ref (42)), some (.int (zI (((4 * t : Nat) : Int)))), some (.int (zI (0))), none]) d_Lw_law_1360 (by decide) rfl ?_
    refine jl_aload_n d_Lw_law_1362 rfl rfl ?_
    refine jl_sload_n d_Lw_law_1363 rfl rfl ?_
    refine jl_iload d_Lw_law_1364 rfl ?_
    refine jl_iconst (v := zI (1)) d_Lw_law_1366 (by decide) ?_
    refine jz_iadd (v := ((4 * t + 1 : Nat) : Int)) d_Lw_law_1367 (by omega) ?_
    refine jz_sld (k9 := 4 * t + 1) d_Lw_law_1368 rfl (by omega) hlen ?_
    refine jl_invV0 (M' := m_Md_floor) (d' := d - 1) (ck' := 0) (sk' := 0) (na := 1) (as := [.int (zI (scr G (4 * t + 1)))]) (st := []) (x := 28) d_Lw_law_1369 rfl (hM2).1 rfl mw_Lw_168 ww_Md_floor sw_Md_floor nw_Md cw_Md_floor rfl rfl (by decide +kernel) (by omega) (Nat.le_of_ble_eq_true rfl) (Nat.le_of_ble_eq_true rfl) ?_
    refine k_M_floor hl9 (by omega) hM2 okM hz1 (fun _ _ h3 hM3 hf3 => ?_) (fun _ q => absurd (hop.2.mpr q) hq) (fun q => absurd (by omega) q)
    show jl_AW _ _ _ _ _ 1372 [some (.float (z)), some (.ref (0)), some (.ref (28)), some (.ref (42)), some (.int (zI (((4 * t : Nat) : Int)))), some (.int (zI (0))), none] [.int (zI (flV M (scr G (4 * t + 1))))] n h3 _ _
    have o3 : h3 42 = jJ 1 (vp_updL f (zI 0).toNatClampNeg ((zI (nw)).toInt64)) := by rw [hf3 42 (by omega)]; exact oh2
    have fr : ∀ y, (y < 28 ∨ 43 ≤ y) → h3 y = h y := fun y q2 => by rw [hf3 y (by omega), gh2 y (by omega)]
    refine jl_istore (L' := [some (.float (z)), some (.ref (0)), some (.ref (28)), some (.ref (42)), some (.int (zI (((4 * t : Nat) : Int)))), some (.int (zI (0))), some (.int (zI (flV M (scr G (4 * t + 1)))))]) d_Lw_law_1372 (by decide) rfl ?_
    refine jl_aload_n d_Lw_law_1374 rfl rfl ?_
    refine jl_invV0 (M' := m_Md_thrown) (d' := d - 1) (ck' := 0) (sk' := 0) (na := 0) (as := []) (st := []) (x := 28) d_Lw_law_1375 rfl (hM3).1 rfl mw_Lw_93 ww_Md_thrown sw_Md_thrown nw_Md cw_Md_thrown rfl rfl (by decide +kernel) (by omega) (Nat.le_of_ble_eq_true rfl) (Nat.le_of_ble_eq_true rfl) ?_
    refine k_M_thrown hl9 (by omega) hM3 ?_
    show jl_AW _ _ _ _ _ 1378 [some (.float (z)), some (.ref (0)), some (.ref (28)), some (.ref (42)), some (.int (zI (((4 * t : Nat) : Int)))), some (.int (zI (0))), some (.int (zI (flV M (scr G (4 * t + 1)))))] [.int (zI (0))] n h3 _ _
    refine jl_iload d_Lw_law_1378 rfl ?_
    refine jz_icmp_eq (tgt := 1385) d_Lw_law_1380 (by decide) ⟨by decide, by decide⟩ ⟨by decide, by decide⟩ (fun _ => ?_) (fun q9 => absurd rfl q9)
    refine jl_iload d_Lw_law_1385 rfl ?_
    refine jz_if_ne (tgt := 1402) d_Lw_law_1387 (by decide) ⟨by decide, by decide⟩ (fun q9 => absurd q9 (by decide)) (fun _ => ?_)
    refine jl_aload_n d_Lw_law_1390 rfl rfl ?_
    refine jl_iconst (v := zI (0)) d_Lw_law_1391 (by decide) ?_
    refine jl_lald d_Lw_law_1392 o3 (zI_in (by decide) (by decide) (by decide)) ?_
    refine jl_iload d_Lw_law_1393 rfl ?_
    refine jl_i2l d_Lw_law_1395 ?_
    refine jz_lcmp0 d_Lw_law_1396 (by unfold vp_updL; rw [if_pos rfl]; unfold flV; rw [if_pos (by omega), (hfv hq).1]) ?_
    refine jz_if_eq (tgt := 1402) d_Lw_law_1397 (by decide) ⟨by decide, by decide⟩ (fun _ => ?_) (fun q9 => absurd q9 (by decide))
    refine jl_goto (tgt := 1405) d_Lw_law_1402 (by decide) ?_
    refine jl_less (L' := [some (.float (z)), some (.ref (0)), some (.ref (28)), some (.ref (42)), some (.int (zI (((4 * t : Nat) : Int)))), none, none]) ⟨rfl, rfl, rfl, rfl, rfl, trivial⟩ ?_
    exact hnext n h3 ⟨_, hM3, okM, hrw, (fr 0 (by omega)).trans hX, ⟨_, o3⟩, hn, lD_fr (fun y q1 q2 => fr y (by omega)) ⟨rfl, rfl, fun _ _ => rfl, fun _ _ => rfl, fun _ _ => rfl⟩ hlD, lS_fr (fun y hy => fr y (by omega)) (fun _ _ _ => ⟨rfl, rfl, fun _ _ => rfl, fun _ _ => rfl, fun _ _ => rfl⟩) hlS, lJ_fr (fun y q1 q2 => fr y (by omega)) hlJ, lCt_fr (fun y q1 q2 => fr y (by omega)) hlC, lF_fr (fun y q1 q2 => fr y (by omega)) ⟨rfl, rfl, fun _ _ => rfl, fun _ _ => rfl, fun _ _ => rfl⟩ ⟨rfl, rfl, rfl, rfl, rfl, rfl⟩ (by omega) hlF⟩
  · obtain ⟨h2, eh2⟩ : ∃ z9, z9 = va_up h 42 (jJ 1 (vp_updL f (zI 0).toNatClampNeg ((zI (MD (0 : Int).toNat)).toInt64))) := ⟨_, rfl⟩
    rw [← eh2]
    have oh2 : h2 42 = jJ 1 (vp_updL f (zI 0).toNatClampNeg ((zI (MD (0 : Int).toNat)).toInt64)) := by rw [eh2, va_up_self]
    have gh2 : ∀ y, y ≠ 42 → h2 y = h y := fun y hy => by rw [eh2, va_up_ne _ _ hy]
    show jl_AW _ _ _ _ _ 1360 [some (.float (z)), some (.ref (0)), some (.ref (28)), some (.ref (42)), some (.int (zI (((4 * t : Nat) : Int)))), none, none] [.int (zI (0))] n h2 _ _
    have hM2 : jM h2 28 M := jM_fr (fun y q1 q2 => gh2 y (by omega)) hQ
    refine jl_istore (L' := [some (.float (z)), some (.ref (0)), some (.ref (28)), some (.ref (42)), some (.int (zI (((4 * t : Nat) : Int)))), some (.int (zI (0))), none]) d_Lw_law_1360 (by decide) rfl ?_
    refine jl_aload_n d_Lw_law_1362 rfl rfl ?_
    refine jl_sload_n d_Lw_law_1363 rfl rfl ?_
    refine jl_iload d_Lw_law_1364 rfl ?_
    refine jl_iconst (v := zI (1)) d_Lw_law_1366 (by decide) ?_
    refine jz_iadd (v := ((4 * t + 1 : Nat) : Int)) d_Lw_law_1367 (by omega) ?_
    refine jz_sld (k9 := 4 * t + 1) d_Lw_law_1368 rfl (by omega) hlen ?_
    refine jl_invV0 (M' := m_Md_floor) (d' := d - 1) (ck' := 0) (sk' := 0) (na := 1) (as := [.int (zI (scr G (4 * t + 1)))]) (st := []) (x := 28) d_Lw_law_1369 rfl (hM2).1 rfl mw_Lw_168 ww_Md_floor sw_Md_floor nw_Md cw_Md_floor rfl rfl (by decide +kernel) (by omega) (Nat.le_of_ble_eq_true rfl) (Nat.le_of_ble_eq_true rfl) ?_
    refine k_M_floor hl9 (by omega) hM2 okM hz1 (fun _ _ h3 hM3 hf3 => ?_) (fun _ q => absurd (hop.2.mpr q) hq) (fun q => absurd (by omega) q)
    show jl_AW _ _ _ _ _ 1372 [some (.float (z)), some (.ref (0)), some (.ref (28)), some (.ref (42)), some (.int (zI (((4 * t : Nat) : Int)))), some (.int (zI (0))), none] [.int (zI (flV M (scr G (4 * t + 1))))] n h3 _ _
    have o3 : h3 42 = jJ 1 (vp_updL f (zI 0).toNatClampNeg ((zI (MD (0 : Int).toNat)).toInt64)) := by rw [hf3 42 (by omega)]; exact oh2
    have fr : ∀ y, (y < 28 ∨ 43 ≤ y) → h3 y = h y := fun y q2 => by rw [hf3 y (by omega), gh2 y (by omega)]
    refine jl_istore (L' := [some (.float (z)), some (.ref (0)), some (.ref (28)), some (.ref (42)), some (.int (zI (((4 * t : Nat) : Int)))), some (.int (zI (0))), some (.int (zI (flV M (scr G (4 * t + 1)))))]) d_Lw_law_1372 (by decide) rfl ?_
    refine jl_aload_n d_Lw_law_1374 rfl rfl ?_
    refine jl_invV0 (M' := m_Md_thrown) (d' := d - 1) (ck' := 0) (sk' := 0) (na := 0) (as := []) (st := []) (x := 28) d_Lw_law_1375 rfl (hM3).1 rfl mw_Lw_93 ww_Md_thrown sw_Md_thrown nw_Md cw_Md_thrown rfl rfl (by decide +kernel) (by omega) (Nat.le_of_ble_eq_true rfl) (Nat.le_of_ble_eq_true rfl) ?_
    refine k_M_thrown hl9 (by omega) hM3 ?_
    show jl_AW _ _ _ _ _ 1378 [some (.float (z)), some (.ref (0)), some (.ref (28)), some (.ref (42)), some (.int (zI (((4 * t : Nat) : Int)))), some (.int (zI (0))), some (.int (zI (flV M (scr G (4 * t + 1)))))] [.int (zI (0))] n h3 _ _
    refine jl_iload d_Lw_law_1378 rfl ?_
    refine jz_icmp_eq (tgt := 1385) d_Lw_law_1380 (by decide) ⟨by decide, by decide⟩ ⟨by decide, by decide⟩ (fun _ => ?_) (fun q9 => absurd rfl q9)
    refine jl_iload d_Lw_law_1385 rfl ?_
    refine jz_if_ne (tgt := 1402) d_Lw_law_1387 (by decide) ⟨by decide, by decide⟩ (fun q9 => absurd q9 (by decide)) (fun _ => ?_)
    refine jl_aload_n d_Lw_law_1390 rfl rfl ?_
    refine jl_iconst (v := zI (0)) d_Lw_law_1391 (by decide) ?_
    refine jl_lald d_Lw_law_1392 o3 (zI_in (by decide) (by decide) (by decide)) ?_
    refine jl_iload d_Lw_law_1393 rfl ?_
    refine jl_i2l d_Lw_law_1395 ?_
    refine jz_lcmp0 d_Lw_law_1396 (by unfold vp_updL; rw [if_pos rfl]; unfold flV; rw [if_neg (by omega), if_pos (by omega), (hfv hq).2.1]) ?_
    refine jz_if_eq (tgt := 1402) d_Lw_law_1397 (by decide) ⟨by decide, by decide⟩ (fun _ => ?_) (fun q9 => absurd q9 (by decide))
    refine jl_goto (tgt := 1405) d_Lw_law_1402 (by decide) ?_
    refine jl_less (L' := [some (.float (z)), some (.ref (0)), some (.ref (28)), some (.ref (42)), some (.int (zI (((4 * t : Nat) : Int)))), none, none]) ⟨rfl, rfl, rfl, rfl, rfl, trivial⟩ ?_
    exact hnext n h3 ⟨_, hM3, okM, hrw, (fr 0 (by omega)).trans hX, ⟨_, o3⟩, hn, lD_fr (fun y q1 q2 => fr y (by omega)) ⟨rfl, rfl, fun _ _ => rfl, fun _ _ => rfl, fun _ _ => rfl⟩ hlD, lS_fr (fun y hy => fr y (by omega)) (fun _ _ _ => ⟨rfl, rfl, fun _ _ => rfl, fun _ _ => rfl, fun _ _ => rfl⟩) hlS, lJ_fr (fun y q1 q2 => fr y (by omega)) hlJ, lCt_fr (fun y q1 q2 => fr y (by omega)) hlC, lF_fr (fun y q1 q2 => fr y (by omega)) ⟨rfl, rfl, fun _ _ => rfl, fun _ _ => rfl, fun _ _ => rfl⟩ ⟨rfl, rfl, rfl, rfl, rfl, rfl⟩ (by omega) hlF⟩
  · obtain ⟨h2, eh2⟩ : ∃ z9, z9 = va_up h 42 (jJ 1 (vp_updL f (zI 0).toNatClampNeg ((zI (MD (1 : Int).toNat)).toInt64))) := ⟨_, rfl⟩
    rw [← eh2]
    have oh2 : h2 42 = jJ 1 (vp_updL f (zI 0).toNatClampNeg ((zI (MD (1 : Int).toNat)).toInt64)) := by rw [eh2, va_up_self]
    have gh2 : ∀ y, y ≠ 42 → h2 y = h y := fun y hy => by rw [eh2, va_up_ne _ _ hy]
    show jl_AW _ _ _ _ _ 1360 [some (.float (z)), some (.ref (0)), some (.ref (28)), some (.ref (42)), some (.int (zI (((4 * t : Nat) : Int)))), none, none] [.int (zI (0))] n h2 _ _
    have hM2 : jM h2 28 M := jM_fr (fun y q1 q2 => gh2 y (by omega)) hQ
    refine jl_istore (L' := [some (.float (z)), some (.ref (0)), some (.ref (28)), some (.ref (42)), some (.int (zI (((4 * t : Nat) : Int)))), some (.int (zI (0))), none]) d_Lw_law_1360 (by decide) rfl ?_
    refine jl_aload_n d_Lw_law_1362 rfl rfl ?_
    refine jl_sload_n d_Lw_law_1363 rfl rfl ?_
    refine jl_iload d_Lw_law_1364 rfl ?_
    refine jl_iconst (v := zI (1)) d_Lw_law_1366 (by decide) ?_
    refine jz_iadd (v := ((4 * t + 1 : Nat) : Int)) d_Lw_law_1367 (by omega) ?_
    refine jz_sld (k9 := 4 * t + 1) d_Lw_law_1368 rfl (by omega) hlen ?_
    refine jl_invV0 (M' := m_Md_floor) (d' := d - 1) (ck' := 0) (sk' := 0) (na := 1) (as := [.int (zI (scr G (4 * t + 1)))]) (st := []) (x := 28) d_Lw_law_1369 rfl (hM2).1 rfl mw_Lw_168 ww_Md_floor sw_Md_floor nw_Md cw_Md_floor rfl rfl (by decide +kernel) (by omega) (Nat.le_of_ble_eq_true rfl) (Nat.le_of_ble_eq_true rfl) ?_
    refine k_M_floor hl9 (by omega) hM2 okM hz1 (fun _ _ h3 hM3 hf3 => ?_) (fun _ q => absurd (hop.2.mpr q) hq) (fun q => absurd (by omega) q)
    show jl_AW _ _ _ _ _ 1372 [some (.float (z)), some (.ref (0)), some (.ref (28)), some (.ref (42)), some (.int (zI (((4 * t : Nat) : Int)))), some (.int (zI (0))), none] [.int (zI (flV M (scr G (4 * t + 1))))] n h3 _ _
    have o3 : h3 42 = jJ 1 (vp_updL f (zI 0).toNatClampNeg ((zI (MD (1 : Int).toNat)).toInt64)) := by rw [hf3 42 (by omega)]; exact oh2
    have fr : ∀ y, (y < 28 ∨ 43 ≤ y) → h3 y = h y := fun y q2 => by rw [hf3 y (by omega), gh2 y (by omega)]
    refine jl_istore (L' := [some (.float (z)), some (.ref (0)), some (.ref (28)), some (.ref (42)), some (.int (zI (((4 * t : Nat) : Int)))), some (.int (zI (0))), some (.int (zI (flV M (scr G (4 * t + 1)))))]) d_Lw_law_1372 (by decide) rfl ?_
    refine jl_aload_n d_Lw_law_1374 rfl rfl ?_
    refine jl_invV0 (M' := m_Md_thrown) (d' := d - 1) (ck' := 0) (sk' := 0) (na := 0) (as := []) (st := []) (x := 28) d_Lw_law_1375 rfl (hM3).1 rfl mw_Lw_93 ww_Md_thrown sw_Md_thrown nw_Md cw_Md_thrown rfl rfl (by decide +kernel) (by omega) (Nat.le_of_ble_eq_true rfl) (Nat.le_of_ble_eq_true rfl) ?_
    refine k_M_thrown hl9 (by omega) hM3 ?_
    show jl_AW _ _ _ _ _ 1378 [some (.float (z)), some (.ref (0)), some (.ref (28)), some (.ref (42)), some (.int (zI (((4 * t : Nat) : Int)))), some (.int (zI (0))), some (.int (zI (flV M (scr G (4 * t + 1)))))] [.int (zI (0))] n h3 _ _
    refine jl_iload d_Lw_law_1378 rfl ?_
    refine jz_icmp_eq (tgt := 1385) d_Lw_law_1380 (by decide) ⟨by decide, by decide⟩ ⟨by decide, by decide⟩ (fun _ => ?_) (fun q9 => absurd rfl q9)
    refine jl_iload d_Lw_law_1385 rfl ?_
    refine jz_if_ne (tgt := 1402) d_Lw_law_1387 (by decide) ⟨by decide, by decide⟩ (fun q9 => absurd q9 (by decide)) (fun _ => ?_)
    refine jl_aload_n d_Lw_law_1390 rfl rfl ?_
    refine jl_iconst (v := zI (0)) d_Lw_law_1391 (by decide) ?_
    refine jl_lald d_Lw_law_1392 o3 (zI_in (by decide) (by decide) (by decide)) ?_
    refine jl_iload d_Lw_law_1393 rfl ?_
    refine jl_i2l d_Lw_law_1395 ?_
    refine jz_lcmp0 d_Lw_law_1396 (by unfold vp_updL; rw [if_pos rfl]; unfold flV; rw [if_neg (by omega), if_neg (by omega), if_pos (by omega), (hfv hq).2.2.1]) ?_
    refine jz_if_eq (tgt := 1402) d_Lw_law_1397 (by decide) ⟨by decide, by decide⟩ (fun _ => ?_) (fun q9 => absurd q9 (by decide))
    refine jl_goto (tgt := 1405) d_Lw_law_1402 (by decide) ?_
    refine jl_less (L' := [some (.float (z)), some (.ref (0)), some (.ref (28)), some (.ref (42)), some (.int (zI (((4 * t : Nat) : Int)))), none, none]) ⟨rfl, rfl, rfl, rfl, rfl, trivial⟩ ?_
    exact hnext n h3 ⟨_, hM3, okM, hrw, (fr 0 (by omega)).trans hX, ⟨_, o3⟩, hn, lD_fr (fun y q1 q2 => fr y (by omega)) ⟨rfl, rfl, fun _ _ => rfl, fun _ _ => rfl, fun _ _ => rfl⟩ hlD, lS_fr (fun y hy => fr y (by omega)) (fun _ _ _ => ⟨rfl, rfl, fun _ _ => rfl, fun _ _ => rfl, fun _ _ => rfl⟩) hlS, lJ_fr (fun y q1 q2 => fr y (by omega)) hlJ, lCt_fr (fun y q1 q2 => fr y (by omega)) hlC, lF_fr (fun y q1 q2 => fr y (by omega)) ⟨rfl, rfl, fun _ _ => rfl, fun _ _ => rfl, fun _ _ => rfl⟩ ⟨rfl, rfl, rfl, rfl, rfl, rfl⟩ (by omega) hlF⟩
  · obtain ⟨h2, eh2⟩ : ∃ z9, z9 = va_up h 42 (jJ 1 (vp_updL f (zI 0).toNatClampNeg ((zI ((B.length : Int))).toInt64))) := ⟨_, rfl⟩
    rw [← eh2]
    have oh2 : h2 42 = jJ 1 (vp_updL f (zI 0).toNatClampNeg ((zI ((B.length : Int))).toInt64)) := by rw [eh2, va_up_self]
    have gh2 : ∀ y, y ≠ 42 → h2 y = h y := fun y hy => by rw [eh2, va_up_ne _ _ hy]
    show jl_AW _ _ _ _ _ 1360 [some (.float (z)), some (.ref (0)), some (.ref (28)), some (.ref (42)), some (.int (zI (((4 * t : Nat) : Int)))), none, none] [.int (zI (0))] n h2 _ _
    have hM2 : jM h2 28 M := jM_fr (fun y q1 q2 => gh2 y (by omega)) hQ
    refine jl_istore (L' := [some (.float (z)), some (.ref (0)), some (.ref (28)), some (.ref (42)), some (.int (zI (((4 * t : Nat) : Int)))), some (.int (zI (0))), none]) d_Lw_law_1360 (by decide) rfl ?_
    refine jl_aload_n d_Lw_law_1362 rfl rfl ?_
    refine jl_sload_n d_Lw_law_1363 rfl rfl ?_
    refine jl_iload d_Lw_law_1364 rfl ?_
    refine jl_iconst (v := zI (1)) d_Lw_law_1366 (by decide) ?_
    refine jz_iadd (v := ((4 * t + 1 : Nat) : Int)) d_Lw_law_1367 (by omega) ?_
    refine jz_sld (k9 := 4 * t + 1) d_Lw_law_1368 rfl (by omega) hlen ?_
    refine jl_invV0 (M' := m_Md_floor) (d' := d - 1) (ck' := 0) (sk' := 0) (na := 1) (as := [.int (zI (scr G (4 * t + 1)))]) (st := []) (x := 28) d_Lw_law_1369 rfl (hM2).1 rfl mw_Lw_168 ww_Md_floor sw_Md_floor nw_Md cw_Md_floor rfl rfl (by decide +kernel) (by omega) (Nat.le_of_ble_eq_true rfl) (Nat.le_of_ble_eq_true rfl) ?_
    refine k_M_floor hl9 (by omega) hM2 okM hz1 (fun _ _ h3 hM3 hf3 => ?_) (fun _ q => absurd (hop.2.mpr q) hq) (fun q => absurd (by omega) q)
    show jl_AW _ _ _ _ _ 1372 [some (.float (z)), some (.ref (0)), some (.ref (28)), some (.ref (42)), some (.int (zI (((4 * t : Nat) : Int)))), some (.int (zI (0))), none] [.int (zI (flV M (scr G (4 * t + 1))))] n h3 _ _
    have o3 : h3 42 = jJ 1 (vp_updL f (zI 0).toNatClampNeg ((zI ((B.length : Int))).toInt64)) := by rw [hf3 42 (by omega)]; exact oh2
    have fr : ∀ y, (y < 28 ∨ 43 ≤ y) → h3 y = h y := fun y q2 => by rw [hf3 y (by omega), gh2 y (by omega)]
    refine jl_istore (L' := [some (.float (z)), some (.ref (0)), some (.ref (28)), some (.ref (42)), some (.int (zI (((4 * t : Nat) : Int)))), some (.int (zI (0))), some (.int (zI (flV M (scr G (4 * t + 1)))))]) d_Lw_law_1372 (by decide) rfl ?_
    refine jl_aload_n d_Lw_law_1374 rfl rfl ?_
    refine jl_invV0 (M' := m_Md_thrown) (d' := d - 1) (ck' := 0) (sk' := 0) (na := 0) (as := []) (st := []) (x := 28) d_Lw_law_1375 rfl (hM3).1 rfl mw_Lw_93 ww_Md_thrown sw_Md_thrown nw_Md cw_Md_thrown rfl rfl (by decide +kernel) (by omega) (Nat.le_of_ble_eq_true rfl) (Nat.le_of_ble_eq_true rfl) ?_
    refine k_M_thrown hl9 (by omega) hM3 ?_
    show jl_AW _ _ _ _ _ 1378 [some (.float (z)), some (.ref (0)), some (.ref (28)), some (.ref (42)), some (.int (zI (((4 * t : Nat) : Int)))), some (.int (zI (0))), some (.int (zI (flV M (scr G (4 * t + 1)))))] [.int (zI (0))] n h3 _ _
    refine jl_iload d_Lw_law_1378 rfl ?_
    refine jz_icmp_eq (tgt := 1385) d_Lw_law_1380 (by decide) ⟨by decide, by decide⟩ ⟨by decide, by decide⟩ (fun _ => ?_) (fun q9 => absurd rfl q9)
    refine jl_iload d_Lw_law_1385 rfl ?_
    refine jz_if_ne (tgt := 1402) d_Lw_law_1387 (by decide) ⟨by decide, by decide⟩ (fun q9 => absurd q9 (by decide)) (fun _ => ?_)
    refine jl_aload_n d_Lw_law_1390 rfl rfl ?_
    refine jl_iconst (v := zI (0)) d_Lw_law_1391 (by decide) ?_
    refine jl_lald d_Lw_law_1392 o3 (zI_in (by decide) (by decide) (by decide)) ?_
    refine jl_iload d_Lw_law_1393 rfl ?_
    refine jl_i2l d_Lw_law_1395 ?_
    refine jz_lcmp0 d_Lw_law_1396 (by unfold vp_updL; rw [if_pos rfl]; unfold flV; rw [if_neg (by omega), if_neg (by omega), if_neg (by omega), if_pos (by omega), hbl.1.symm]) ?_
    refine jz_if_eq (tgt := 1402) d_Lw_law_1397 (by decide) ⟨by decide, by decide⟩ (fun _ => ?_) (fun q9 => absurd q9 (by decide))
    refine jl_goto (tgt := 1405) d_Lw_law_1402 (by decide) ?_
    refine jl_less (L' := [some (.float (z)), some (.ref (0)), some (.ref (28)), some (.ref (42)), some (.int (zI (((4 * t : Nat) : Int)))), none, none]) ⟨rfl, rfl, rfl, rfl, rfl, trivial⟩ ?_
    exact hnext n h3 ⟨_, hM3, okM, hrw, (fr 0 (by omega)).trans hX, ⟨_, o3⟩, hn, lD_fr (fun y q1 q2 => fr y (by omega)) ⟨rfl, rfl, fun _ _ => rfl, fun _ _ => rfl, fun _ _ => rfl⟩ hlD, lS_fr (fun y hy => fr y (by omega)) (fun _ _ _ => ⟨rfl, rfl, fun _ _ => rfl, fun _ _ => rfl, fun _ _ => rfl⟩) hlS, lJ_fr (fun y q1 q2 => fr y (by omega)) hlJ, lCt_fr (fun y q1 q2 => fr y (by omega)) hlC, lF_fr (fun y q1 q2 => fr y (by omega)) ⟨rfl, rfl, fun _ _ => rfl, fun _ _ => rfl, fun _ _ => rfl⟩ ⟨rfl, rfl, rfl, rfl, rfl, rfl⟩ (by omega) hlF⟩
  · obtain ⟨h2, eh2⟩ : ∃ z9, z9 = va_up h 42 (jJ 1 (vp_updL f (zI 0).toNatClampNeg ((zI (m)).toInt64))) := ⟨_, rfl⟩
    rw [← eh2]
    have oh2 : h2 42 = jJ 1 (vp_updL f (zI 0).toNatClampNeg ((zI (m)).toInt64)) := by rw [eh2, va_up_self]
    have gh2 : ∀ y, y ≠ 42 → h2 y = h y := fun y hy => by rw [eh2, va_up_ne _ _ hy]
    show jl_AW _ _ _ _ _ 1360 [some (.float (z)), some (.ref (0)), some (.ref (28)), some (.ref (42)), some (.int (zI (((4 * t : Nat) : Int)))), none, none] [.int (zI (0))] n h2 _ _
    have hM2 : jM h2 28 M := jM_fr (fun y q1 q2 => gh2 y (by omega)) hQ
    refine jl_istore (L' := [some (.float (z)), some (.ref (0)), some (.ref (28)), some (.ref (42)), some (.int (zI (((4 * t : Nat) : Int)))), some (.int (zI (0))), none]) d_Lw_law_1360 (by decide) rfl ?_
    refine jl_aload_n d_Lw_law_1362 rfl rfl ?_
    refine jl_sload_n d_Lw_law_1363 rfl rfl ?_
    refine jl_iload d_Lw_law_1364 rfl ?_
    refine jl_iconst (v := zI (1)) d_Lw_law_1366 (by decide) ?_
    refine jz_iadd (v := ((4 * t + 1 : Nat) : Int)) d_Lw_law_1367 (by omega) ?_
    refine jz_sld (k9 := 4 * t + 1) d_Lw_law_1368 rfl (by omega) hlen ?_
    refine jl_invV0 (M' := m_Md_floor) (d' := d - 1) (ck' := 0) (sk' := 0) (na := 1) (as := [.int (zI (scr G (4 * t + 1)))]) (st := []) (x := 28) d_Lw_law_1369 rfl (hM2).1 rfl mw_Lw_168 ww_Md_floor sw_Md_floor nw_Md cw_Md_floor rfl rfl (by decide +kernel) (by omega) (Nat.le_of_ble_eq_true rfl) (Nat.le_of_ble_eq_true rfl) ?_
    refine k_M_floor hl9 (by omega) hM2 okM hz1 (fun _ _ h3 hM3 hf3 => ?_) (fun _ q => absurd (hop.2.mpr q) hq) (fun q => absurd (by omega) q)
    show jl_AW _ _ _ _ _ 1372 [some (.float (z)), some (.ref (0)), some (.ref (28)), some (.ref (42)), some (.int (zI (((4 * t : Nat) : Int)))), some (.int (zI (0))), none] [.int (zI (flV M (scr G (4 * t + 1))))] n h3 _ _
    have o3 : h3 42 = jJ 1 (vp_updL f (zI 0).toNatClampNeg ((zI (m)).toInt64)) := by rw [hf3 42 (by omega)]; exact oh2
    have fr : ∀ y, (y < 28 ∨ 43 ≤ y) → h3 y = h y := fun y q2 => by rw [hf3 y (by omega), gh2 y (by omega)]
    refine jl_istore (L' := [some (.float (z)), some (.ref (0)), some (.ref (28)), some (.ref (42)), some (.int (zI (((4 * t : Nat) : Int)))), some (.int (zI (0))), some (.int (zI (flV M (scr G (4 * t + 1)))))]) d_Lw_law_1372 (by decide) rfl ?_
    refine jl_aload_n d_Lw_law_1374 rfl rfl ?_
    refine jl_invV0 (M' := m_Md_thrown) (d' := d - 1) (ck' := 0) (sk' := 0) (na := 0) (as := []) (st := []) (x := 28) d_Lw_law_1375 rfl (hM3).1 rfl mw_Lw_93 ww_Md_thrown sw_Md_thrown nw_Md cw_Md_thrown rfl rfl (by decide +kernel) (by omega) (Nat.le_of_ble_eq_true rfl) (Nat.le_of_ble_eq_true rfl) ?_
    refine k_M_thrown hl9 (by omega) hM3 ?_
    show jl_AW _ _ _ _ _ 1378 [some (.float (z)), some (.ref (0)), some (.ref (28)), some (.ref (42)), some (.int (zI (((4 * t : Nat) : Int)))), some (.int (zI (0))), some (.int (zI (flV M (scr G (4 * t + 1)))))] [.int (zI (0))] n h3 _ _
    refine jl_iload d_Lw_law_1378 rfl ?_
    refine jz_icmp_eq (tgt := 1385) d_Lw_law_1380 (by decide) ⟨by decide, by decide⟩ ⟨by decide, by decide⟩ (fun _ => ?_) (fun q9 => absurd rfl q9)
    refine jl_iload d_Lw_law_1385 rfl ?_
    refine jz_if_ne (tgt := 1402) d_Lw_law_1387 (by decide) ⟨by decide, by decide⟩ (fun q9 => absurd q9 (by decide)) (fun _ => ?_)
    refine jl_aload_n d_Lw_law_1390 rfl rfl ?_
    refine jl_iconst (v := zI (0)) d_Lw_law_1391 (by decide) ?_
    refine jl_lald d_Lw_law_1392 o3 (zI_in (by decide) (by decide) (by decide)) ?_
    refine jl_iload d_Lw_law_1393 rfl ?_
    refine jl_i2l d_Lw_law_1395 ?_
    refine jz_lcmp0 d_Lw_law_1396 (by unfold vp_updL; rw [if_pos rfl]; unfold flV; rw [if_neg (by omega), if_neg (by omega), if_neg (by omega), if_neg (by omega), (hfv hq).2.2.2]) ?_
    refine jz_if_eq (tgt := 1402) d_Lw_law_1397 (by decide) ⟨by decide, by decide⟩ (fun _ => ?_) (fun q9 => absurd q9 (by decide))
    refine jl_goto (tgt := 1405) d_Lw_law_1402 (by decide) ?_
    refine jl_less (L' := [some (.float (z)), some (.ref (0)), some (.ref (28)), some (.ref (42)), some (.int (zI (((4 * t : Nat) : Int)))), none, none]) ⟨rfl, rfl, rfl, rfl, rfl, trivial⟩ ?_
    exact hnext n h3 ⟨_, hM3, okM, hrw, (fr 0 (by omega)).trans hX, ⟨_, o3⟩, hn, lD_fr (fun y q1 q2 => fr y (by omega)) ⟨rfl, rfl, fun _ _ => rfl, fun _ _ => rfl, fun _ _ => rfl⟩ hlD, lS_fr (fun y hy => fr y (by omega)) (fun _ _ _ => ⟨rfl, rfl, fun _ _ => rfl, fun _ _ => rfl, fun _ _ => rfl⟩) hlS, lJ_fr (fun y q1 q2 => fr y (by omega)) hlJ, lCt_fr (fun y q1 q2 => fr y (by omega)) hlC, lF_fr (fun y q1 q2 => fr y (by omega)) ⟨rfl, rfl, fun _ _ => rfl, fun _ _ => rfl, fun _ _ => rfl⟩ ⟨rfl, rfl, rfl, rfl, rfl, rfl⟩ (by omega) hlF⟩
  · show jl_AW _ _ _ _ _ 1360 [some (.float (z)), some (.ref (0)), some (.ref (28)), some (.ref (42)), some (.int (zI (((4 * t : Nat) : Int)))), none, none] [.int (zI (1))] n h _ _
    refine jl_istore (L' := [some (.float (z)), some (.ref (0)), some (.ref (28)), some (.ref (42)), some (.int (zI (((4 * t : Nat) : Int)))), some (.int (zI (1))), none]) d_Lw_law_1360 (by decide) rfl ?_
    refine jl_aload_n d_Lw_law_1362 rfl rfl ?_
    refine jl_sload_n d_Lw_law_1363 rfl rfl ?_
    refine jl_iload d_Lw_law_1364 rfl ?_
    refine jl_iconst (v := zI (1)) d_Lw_law_1366 (by decide) ?_
    refine jz_iadd (v := ((4 * t + 1 : Nat) : Int)) d_Lw_law_1367 (by omega) ?_
    refine jz_sld (k9 := 4 * t + 1) d_Lw_law_1368 rfl (by omega) hlen ?_
    refine jl_invV0 (M' := m_Md_floor) (d' := d - 1) (ck' := 0) (sk' := 0) (na := 1) (as := [.int (zI (scr G (4 * t + 1)))]) (st := []) (x := 28) d_Lw_law_1369 rfl (hQ).1 rfl mw_Lw_168 ww_Md_floor sw_Md_floor nw_Md cw_Md_floor rfl rfl (by decide +kernel) (by omega) (Nat.le_of_ble_eq_true rfl) (Nat.le_of_ble_eq_true rfl) ?_
    refine k_M_floor hl9 (by omega) hQ okM hz1 (fun q => absurd q hno) (fun q => absurd q hno) (fun _ h3 hM3 hf3 => ?_)
    show jl_AW _ _ _ _ _ 1372 [some (.float (z)), some (.ref (0)), some (.ref (28)), some (.ref (42)), some (.int (zI (((4 * t : Nat) : Int)))), some (.int (zI (1))), none] [.int (zI (0))] n h3 _ _
    have fr : ∀ y, (y < 28 ∨ 42 ≤ y) → h3 y = h y := fun y q2 => hf3 y (by omega)
    refine jl_istore (L' := [some (.float (z)), some (.ref (0)), some (.ref (28)), some (.ref (42)), some (.int (zI (((4 * t : Nat) : Int)))), some (.int (zI (1))), some (.int (zI (0)))]) d_Lw_law_1372 (by decide) rfl ?_
    refine jl_aload_n d_Lw_law_1374 rfl rfl ?_
    refine jl_invV0 (M' := m_Md_thrown) (d' := d - 1) (ck' := 0) (sk' := 0) (na := 0) (as := []) (st := []) (x := 28) d_Lw_law_1375 rfl (hM3).1 rfl mw_Lw_93 ww_Md_thrown sw_Md_thrown nw_Md cw_Md_thrown rfl rfl (by decide +kernel) (by omega) (Nat.le_of_ble_eq_true rfl) (Nat.le_of_ble_eq_true rfl) ?_
    refine k_M_thrown hl9 (by omega) hM3 ?_
    show jl_AW _ _ _ _ _ 1378 [some (.float (z)), some (.ref (0)), some (.ref (28)), some (.ref (42)), some (.int (zI (((4 * t : Nat) : Int)))), some (.int (zI (1))), some (.int (zI (0)))] [.int (zI (1))] n h3 _ _
    refine jl_iload d_Lw_law_1378 rfl ?_
    refine jz_icmp_eq (tgt := 1385) d_Lw_law_1380 (by decide) ⟨by decide, by decide⟩ ⟨by decide, by decide⟩ (fun _ => ?_) (fun q9 => absurd rfl q9)
    refine jl_iload d_Lw_law_1385 rfl ?_
    refine jz_if_ne (tgt := 1402) d_Lw_law_1387 (by decide) ⟨by decide, by decide⟩ (fun _ => ?_) (fun q9 => absurd q9 (by decide))
    refine jl_goto (tgt := 1405) d_Lw_law_1402 (by decide) ?_
    refine jl_less (L' := [some (.float (z)), some (.ref (0)), some (.ref (28)), some (.ref (42)), some (.int (zI (((4 * t : Nat) : Int)))), none, none]) ⟨rfl, rfl, rfl, rfl, rfl, trivial⟩ ?_
    exact hnext n h3 ⟨_, hM3, okM, hrw, (fr 0 (by omega)).trans hX, ⟨f, (fr 42 (by omega)).trans hO⟩, hn, lD_fr (fun y q1 q2 => fr y (by omega)) ⟨rfl, rfl, fun _ _ => rfl, fun _ _ => rfl, fun _ _ => rfl⟩ hlD, lS_fr (fun y hy => fr y (by omega)) (fun _ _ _ => ⟨rfl, rfl, fun _ _ => rfl, fun _ _ => rfl, fun _ _ => rfl⟩) hlS, lJ_fr (fun y q1 q2 => fr y (by omega)) hlJ, lCt_fr (fun y q1 q2 => fr y (by omega)) hlC, lF_fr (fun y q1 q2 => fr y (by omega)) ⟨rfl, rfl, fun _ _ => rfl, fun _ _ => rfl, fun _ _ => rfl⟩ ⟨rfl, rfl, rfl, rfl, rfl, rfl⟩ (by omega) hlF⟩
  · show jl_AW _ _ _ _ _ 1360 [some (.float (z)), some (.ref (0)), some (.ref (28)), some (.ref (42)), some (.int (zI (((4 * t : Nat) : Int)))), none, none] [.int (zI (2))] n h _ _
    refine jl_istore (L' := [some (.float (z)), some (.ref (0)), some (.ref (28)), some (.ref (42)), some (.int (zI (((4 * t : Nat) : Int)))), some (.int (zI (2))), none]) d_Lw_law_1360 (by decide) rfl ?_
    refine jl_aload_n d_Lw_law_1362 rfl rfl ?_
    refine jl_sload_n d_Lw_law_1363 rfl rfl ?_
    refine jl_iload d_Lw_law_1364 rfl ?_
    refine jl_iconst (v := zI (1)) d_Lw_law_1366 (by decide) ?_
    refine jz_iadd (v := ((4 * t + 1 : Nat) : Int)) d_Lw_law_1367 (by omega) ?_
    refine jz_sld (k9 := 4 * t + 1) d_Lw_law_1368 rfl (by omega) hlen ?_
    refine jl_invV0 (M' := m_Md_floor) (d' := d - 1) (ck' := 0) (sk' := 0) (na := 1) (as := [.int (zI (scr G (4 * t + 1)))]) (st := []) (x := 28) d_Lw_law_1369 rfl (hQ).1 rfl mw_Lw_168 ww_Md_floor sw_Md_floor nw_Md cw_Md_floor rfl rfl (by decide +kernel) (by omega) (Nat.le_of_ble_eq_true rfl) (Nat.le_of_ble_eq_true rfl) ?_
    refine k_M_floor hl9 (by omega) hQ okM hz1 (fun _ q => absurd (hop.2.mp hq) q) (fun _ _ h3 hM3 hf3 => ?_) (fun q => absurd hin q)
    show jl_AW _ _ _ _ _ 1372 [some (.float (z)), some (.ref (0)), some (.ref (28)), some (.ref (42)), some (.int (zI (((4 * t : Nat) : Int)))), some (.int (zI (2))), none] [.int (zI (0))] n h3 _ _
    have fr : ∀ y, (y < 28 ∨ 42 ≤ y) → h3 y = h y := fun y q2 => hf3 y (by omega)
    refine jl_istore (L' := [some (.float (z)), some (.ref (0)), some (.ref (28)), some (.ref (42)), some (.int (zI (((4 * t : Nat) : Int)))), some (.int (zI (2))), some (.int (zI (0)))]) d_Lw_law_1372 (by decide) rfl ?_
    refine jl_aload_n d_Lw_law_1374 rfl rfl ?_
    refine jl_invV0 (M' := m_Md_thrown) (d' := d - 1) (ck' := 0) (sk' := 0) (na := 0) (as := []) (st := []) (x := 28) d_Lw_law_1375 rfl (hM3).1 rfl mw_Lw_93 ww_Md_thrown sw_Md_thrown nw_Md cw_Md_thrown rfl rfl (by decide +kernel) (by omega) (Nat.le_of_ble_eq_true rfl) (Nat.le_of_ble_eq_true rfl) ?_
    refine k_M_thrown hl9 (by omega) hM3 ?_
    show jl_AW _ _ _ _ _ 1378 [some (.float (z)), some (.ref (0)), some (.ref (28)), some (.ref (42)), some (.int (zI (((4 * t : Nat) : Int)))), some (.int (zI (2))), some (.int (zI (0)))] [.int (zI (2))] n h3 _ _
    refine jl_iload d_Lw_law_1378 rfl ?_
    refine jz_icmp_eq (tgt := 1385) d_Lw_law_1380 (by decide) ⟨by decide, by decide⟩ ⟨by decide, by decide⟩ (fun _ => ?_) (fun q9 => absurd rfl q9)
    refine jl_iload d_Lw_law_1385 rfl ?_
    refine jz_if_ne (tgt := 1402) d_Lw_law_1387 (by decide) ⟨by decide, by decide⟩ (fun _ => ?_) (fun q9 => absurd q9 (by decide))
    refine jl_goto (tgt := 1405) d_Lw_law_1402 (by decide) ?_
    refine jl_less (L' := [some (.float (z)), some (.ref (0)), some (.ref (28)), some (.ref (42)), some (.int (zI (((4 * t : Nat) : Int)))), none, none]) ⟨rfl, rfl, rfl, rfl, rfl, trivial⟩ ?_
    exact hnext n h3 ⟨_, hM3, okM, hrw, (fr 0 (by omega)).trans hX, ⟨f, (fr 42 (by omega)).trans hO⟩, hn, lD_fr (fun y q1 q2 => fr y (by omega)) ⟨rfl, rfl, fun _ _ => rfl, fun _ _ => rfl, fun _ _ => rfl⟩ hlD, lS_fr (fun y hy => fr y (by omega)) (fun _ _ _ => ⟨rfl, rfl, fun _ _ => rfl, fun _ _ => rfl, fun _ _ => rfl⟩) hlS, lJ_fr (fun y q1 q2 => fr y (by omega)) hlJ, lCt_fr (fun y q1 q2 => fr y (by omega)) hlC, lF_fr (fun y q1 q2 => fr y (by omega)) ⟨rfl, rfl, fun _ _ => rfl, fun _ _ => rfl, fun _ _ => rfl⟩ ⟨rfl, rfl, rfl, rfl, rfl, rfl⟩ (by omega) hlF⟩
