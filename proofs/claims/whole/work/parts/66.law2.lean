theorem lD_sc {h : Nat → va_E} {M : MS} {g : Nat → Int} (H : lD h M) : lD (va_up h (1 + 4) (jI 16 (fun j => zI (g j)))) M := by
  obtain ⟨m, p, hs, cs, xs, sc, ⟨a0, a1, a2, a3, a4⟩, b⟩ := H
  exact ⟨m, p, hs, cs, xs, g, ⟨by rw [va_up_ne _ _ (by decide)]; exact a0, by rw [va_up_ne _ _ (by decide)]; exact a1, by rw [va_up_ne _ _ (by decide)]; exact a2, by rw [va_up_ne _ _ (by decide)]; exact a3, va_up_self _ _ _⟩, b⟩
theorem sp_is_u {P Q : Prop} {a b : Int} (ha : sp_is P a) (hb : sp_is Q b) (h : P ↔ Q) : a = b := by
  rcases ha with ⟨a1, a2⟩ | ⟨a1, a2⟩ <;> rcases hb with ⟨b1, b2⟩ | ⟨b1, b2⟩
  · rw [a1, b1]
  · exact absurd (h.mp a2) b2
  · exact absurd (h.mpr b2) a2
  · rw [a1, b1]
set_option maxHeartbeats 4000000 in
set_option maxRecDepth 100000 in
theorem lw_begin {l : Launch} {G : jl_G} {F : List Frame → Array Value → State → Nat → Nat → (Nat → Nat) → Nat → State → Prop} {d n t ck sk : Nat} {h : Nat → va_E} {z : UInt32} (hl9 : l.stackTraces = false) (hd9 : 20 ≤ d) (hlen : G.2.2.2.2.1 ≤ 2048) (ht : 4 * t + 4 ≤ G.2.2.2.2.1) (hI : LI t n h) (hnext : ∀ n' h', LI (t + 1) n' h' → jl_AW l G F m_Lw_law d 1405 [some (.float (z)), some (.ref (0)), some (.ref (28)), some (.ref (42)), some (.int (zI (((4 * t : Nat) : Int)))), none, none] [] n' h' ck sk) : jl_AW l G F m_Lw_law d 144 [some (.float (z)), some (.ref (0)), some (.ref (28)), some (.ref (42)), some (.int (zI (((4 * t : Nat) : Int)))), none, none] [] n h (ck + 1) (sk + 6) := by
  obtain ⟨M, hQ, okM, hrw, hX, ⟨f, hO⟩, hn, hlD, hlS, hlJ, hlC, hlF⟩ := hI
  have hz1 := scr_z G (4 * t + 1)
  have hz2 := scr_z G (4 * t + 2)
  have hz3 := scr_z G (4 * t + 3)
  obtain ⟨m, p, hs, cs, xs, sc, hD, hK⟩ := id hlD
  have hr := dK_r hK
  refine jl_aload_n d_Lw_law_144 rfl rfl ?_
  refine jl_sload_n d_Lw_law_145 rfl rfl ?_
  refine jl_iload d_Lw_law_146 rfl ?_
  refine jl_iconst (v := zI (1)) d_Lw_law_148 (by decide) ?_
  refine jz_iadd (v := ((4 * t + 1 : Nat) : Int)) d_Lw_law_149 (by omega) ?_
  refine jz_sld (k9 := 4 * t + 1) d_Lw_law_150 rfl (by omega) hlen ?_
  refine jl_sload_n d_Lw_law_151 rfl rfl ?_
  refine jl_iload d_Lw_law_152 rfl ?_
  refine jl_iconst (v := zI (2)) d_Lw_law_154 (by decide) ?_
  refine jz_iadd (v := ((4 * t + 2 : Nat) : Int)) d_Lw_law_155 (by omega) ?_
  refine jz_sld (k9 := 4 * t + 2) d_Lw_law_156 rfl (by omega) hlen ?_
  refine jl_aload_n d_Lw_law_157 rfl rfl ?_
  refine jl_invSH (M' := m_Lw_begin) (d' := d - 1) (ck' := 1) (sk' := 6) (ck := ck) (sk := sk) (na := 4) (as := [.ref (0), .int (zI (scr G (4 * t + 1))), .int (zI (scr G (4 * t + 2))), .ref (42)]) (st := []) d_Lw_law_158 rfl mw_Lw_87 ww_Lw_begin nw_Lw cw_Lw_begin rfl rfl (by decide +kernel) (by omega) (Nat.le_of_ble_eq_true rfl) (Nat.le_of_ble_eq_true rfl) ?_
  refine k_Lw_begin hl9 (d' := d - 2) (by omega) hX ?_
  refine k_begin hl9 (by omega) hX (Or.inl (by decide)) hD hz1 hz2 (fun hin h1 hD1 hf1 => ⟨p, f, rfl, by rw [hf1 42 (by omega)]; exact hO, ?_⟩) (fun hno => ⟨rfl, ?_⟩)
  · obtain ⟨h2, eh2⟩ : ∃ z9, z9 = va_up h1 42 (jJ 1 (vp_updL f (zI 0).toNatClampNeg ((zI p).toInt64))) := ⟨_, rfl⟩
    rw [← eh2]
    have oh2 : h2 42 = jJ 1 (vp_updL f (zI 0).toNatClampNeg ((zI p).toInt64)) := by rw [eh2, va_up_self]
    have gh2 : ∀ y, y ≠ 42 → h2 y = h1 y := fun y hy => by rw [eh2, va_up_ne _ _ hy]
    show jl_AW _ _ _ _ _ 161 [some (.float (z)), some (.ref (0)), some (.ref (28)), some (.ref (42)), some (.int (zI (((4 * t : Nat) : Int)))), none, none] [.int (zI (0))] n h2 _ _
    have hM2 : jM h2 28 M := jM_fr (fun y q1 q2 => by rw [gh2 y (by omega), hf1 y (by omega)]) hQ
    refine jl_istore (L' := [some (.float (z)), some (.ref (0)), some (.ref (28)), some (.ref (42)), some (.int (zI (((4 * t : Nat) : Int)))), some (.int (zI (0))), none]) d_Lw_law_161 (by decide) rfl ?_
    refine jl_aload_n d_Lw_law_163 rfl rfl ?_
    refine jl_sload_n d_Lw_law_164 rfl rfl ?_
    refine jl_iload d_Lw_law_165 rfl ?_
    refine jl_iconst (v := zI (1)) d_Lw_law_167 (by decide) ?_
    refine jz_iadd (v := ((4 * t + 1 : Nat) : Int)) d_Lw_law_168 (by omega) ?_
    refine jz_sld (k9 := 4 * t + 1) d_Lw_law_169 rfl (by omega) hlen ?_
    refine jl_sload_n d_Lw_law_170 rfl rfl ?_
    refine jl_iload d_Lw_law_171 rfl ?_
    refine jl_iconst (v := zI (2)) d_Lw_law_173 (by decide) ?_
    refine jz_iadd (v := ((4 * t + 2 : Nat) : Int)) d_Lw_law_174 (by omega) ?_
    refine jz_sld (k9 := 4 * t + 2) d_Lw_law_175 rfl (by omega) hlen ?_
    refine jl_invV0 (M' := m_Md_begin) (d' := d - 1) (ck' := 0) (sk' := 0) (na := 2) (as := [.int (zI (scr G (4 * t + 1))), .int (zI (scr G (4 * t + 2)))]) (st := []) (x := 28) d_Lw_law_176 rfl (hM2).1 rfl mw_Lw_92 ww_Md_begin sw_Md_begin nw_Md cw_Md_begin rfl rfl (by decide +kernel) (by omega) (Nat.le_of_ble_eq_true rfl) (Nat.le_of_ble_eq_true rfl) ?_
    refine k_M_begin hl9 (by omega) hM2 hz1 hz2 (fun hin2 h3 hM3 hf3 => ?_) (fun hno2 => absurd ⟨hin.1, hin.2.1, fun q => by have := hin.2.2 q.1; omega⟩ hno2)
    show jl_AW _ _ _ _ _ 179 [some (.float (z)), some (.ref (0)), some (.ref (28)), some (.ref (42)), some (.int (zI (((4 * t : Nat) : Int)))), some (.int (zI (0))), none] [.int (zI (M.pe (0 : Int).toNat))] n h3 _ _
    have o3 : h3 42 = jJ 1 (vp_updL f (zI 0).toNatClampNeg ((zI p).toInt64)) := by rw [hf3 42 (by omega)]; exact oh2
    have fr : ∀ y, (y < 1 ∨ 6 ≤ y) → (y < 28 ∨ 43 ≤ y) → h3 y = h y := fun y q1 q2 => by rw [hf3 y (by omega), gh2 y (by omega), hf1 y q1]
    refine jl_istore (L' := [some (.float (z)), some (.ref (0)), some (.ref (28)), some (.ref (42)), some (.int (zI (((4 * t : Nat) : Int)))), some (.int (zI (0))), some (.int (zI (M.pe (0 : Int).toNat)))]) d_Lw_law_179 (by decide) rfl ?_
    refine jl_aload_n d_Lw_law_181 rfl rfl ?_
    refine jl_invV0 (M' := m_Md_thrown) (d' := d - 1) (ck' := 0) (sk' := 0) (na := 0) (as := []) (st := []) (x := 28) d_Lw_law_182 rfl (hM3).1 rfl mw_Lw_93 ww_Md_thrown sw_Md_thrown nw_Md cw_Md_thrown rfl rfl (by decide +kernel) (by omega) (Nat.le_of_ble_eq_true rfl) (Nat.le_of_ble_eq_true rfl) ?_
    refine k_M_thrown hl9 (by omega) hM3 ?_
    show jl_AW _ _ _ _ _ 185 [some (.float (z)), some (.ref (0)), some (.ref (28)), some (.ref (42)), some (.int (zI (((4 * t : Nat) : Int)))), some (.int (zI (0))), some (.int (zI (M.pe (0 : Int).toNat)))] [.int (zI (0))] n h3 _ _
    refine jl_iload d_Lw_law_185 rfl ?_
    refine jz_icmp_eq (tgt := 192) d_Lw_law_187 (by decide) ⟨by decide, by decide⟩ ⟨by decide, by decide⟩ (fun _ => ?_) (fun q9 => absurd rfl q9)
    refine jl_iload d_Lw_law_192 rfl ?_
    refine jz_if_ne (tgt := 209) d_Lw_law_194 (by decide) ⟨by decide, by decide⟩ (fun q9 => absurd q9 (by decide)) (fun _ => ?_)
    refine jl_aload_n d_Lw_law_197 rfl rfl ?_
    refine jl_iconst (v := zI (0)) d_Lw_law_198 (by decide) ?_
    refine jl_lald d_Lw_law_199 o3 (zI_in (by decide) (by decide) (by decide)) ?_
    refine jl_iload d_Lw_law_200 rfl ?_
    refine jl_i2l d_Lw_law_202 ?_
    refine jz_lcmp0 d_Lw_law_203 (by unfold vp_updL; rw [if_pos rfl]; rw [hr.2.1]) ?_
    refine jz_if_eq (tgt := 209) d_Lw_law_204 (by decide) ⟨by decide, by decide⟩ (fun _ => ?_) (fun q9 => absurd q9 (by decide))
    refine jl_goto (tgt := 1405) d_Lw_law_209 (by decide) ?_
    refine jl_less (L' := [some (.float (z)), some (.ref (0)), some (.ref (28)), some (.ref (42)), some (.int (zI (((4 * t : Nat) : Int)))), none, none]) ⟨rfl, rfl, rfl, rfl, rfl, trivial⟩ ?_
    exact hnext n h3 ⟨_, hM3, frM_ok (M := M.wT 0) okM hin.1 ⟨by omega, hin.2.1.2⟩, hrw, (fr 0 (by omega) (by omega)).trans hX, ⟨_, o3⟩, hn, ⟨_, _, _, _, _, sc, jD_fr (fun y q1 q2 => by rw [hf3 y (by omega), gh2 y (by omega)]) hD1, dK_begin (M := M.wT 0) hK.2.2.2.1 hin.1 hin.2.1 hin.2.2⟩, lS_fr (fun y hy => fr y (by omega) (by omega)) (fun d9 q1 q2 => sm5_fr (M := M.wT 0) q1) hlS, lJ_fr (fun y q1 q2 => fr y (by omega) (by omega)) hlJ, lCt_fr (fun y q1 q2 => fr y (by omega) (by omega)) hlC, lF_fr (fun y q1 q2 => fr y (by omega) (by omega)) (sm5_fr (M := M.wT 0) (by decide)) ⟨rfl, rfl, rfl, rfl, rfl, rfl⟩ (by omega) hlF⟩
  · show jl_AW _ _ _ _ _ 161 [some (.float (z)), some (.ref (0)), some (.ref (28)), some (.ref (42)), some (.int (zI (((4 * t : Nat) : Int)))), none, none] [.int (zI (1))] n h _ _
    refine jl_istore (L' := [some (.float (z)), some (.ref (0)), some (.ref (28)), some (.ref (42)), some (.int (zI (((4 * t : Nat) : Int)))), some (.int (zI (1))), none]) d_Lw_law_161 (by decide) rfl ?_
    refine jl_aload_n d_Lw_law_163 rfl rfl ?_
    refine jl_sload_n d_Lw_law_164 rfl rfl ?_
    refine jl_iload d_Lw_law_165 rfl ?_
    refine jl_iconst (v := zI (1)) d_Lw_law_167 (by decide) ?_
    refine jz_iadd (v := ((4 * t + 1 : Nat) : Int)) d_Lw_law_168 (by omega) ?_
    refine jz_sld (k9 := 4 * t + 1) d_Lw_law_169 rfl (by omega) hlen ?_
    refine jl_sload_n d_Lw_law_170 rfl rfl ?_
    refine jl_iload d_Lw_law_171 rfl ?_
    refine jl_iconst (v := zI (2)) d_Lw_law_173 (by decide) ?_
    refine jz_iadd (v := ((4 * t + 2 : Nat) : Int)) d_Lw_law_174 (by omega) ?_
    refine jz_sld (k9 := 4 * t + 2) d_Lw_law_175 rfl (by omega) hlen ?_
    refine jl_invV0 (M' := m_Md_begin) (d' := d - 1) (ck' := 0) (sk' := 0) (na := 2) (as := [.int (zI (scr G (4 * t + 1))), .int (zI (scr G (4 * t + 2)))]) (st := []) (x := 28) d_Lw_law_176 rfl (hQ).1 rfl mw_Lw_92 ww_Md_begin sw_Md_begin nw_Md cw_Md_begin rfl rfl (by decide +kernel) (by omega) (Nat.le_of_ble_eq_true rfl) (Nat.le_of_ble_eq_true rfl) ?_
    refine k_M_begin hl9 (by omega) hQ hz1 hz2 (fun hin2 => absurd ⟨hin2.1, hin2.2.1, fun q => by have := hin2.2.2; omega⟩ hno) (fun hno2 h3 hM3 hf3 => ?_)
    show jl_AW _ _ _ _ _ 179 [some (.float (z)), some (.ref (0)), some (.ref (28)), some (.ref (42)), some (.int (zI (((4 * t : Nat) : Int)))), some (.int (zI (1))), none] [.int (zI (0))] n h3 _ _
    have fr : ∀ y, (y < 1 ∨ 6 ≤ y) → (y < 28 ∨ 43 ≤ y) → h3 y = h y := fun y q1 q2 => hf3 y (by omega)
    have fr : ∀ y, (y < 28 ∨ 42 ≤ y) → True → h3 y = h y := fun y q1 _ => hf3 y (by omega)
    refine jl_istore (L' := [some (.float (z)), some (.ref (0)), some (.ref (28)), some (.ref (42)), some (.int (zI (((4 * t : Nat) : Int)))), some (.int (zI (1))), some (.int (zI (0)))]) d_Lw_law_179 (by decide) rfl ?_
    refine jl_aload_n d_Lw_law_181 rfl rfl ?_
    refine jl_invV0 (M' := m_Md_thrown) (d' := d - 1) (ck' := 0) (sk' := 0) (na := 0) (as := []) (st := []) (x := 28) d_Lw_law_182 rfl (hM3).1 rfl mw_Lw_93 ww_Md_thrown sw_Md_thrown nw_Md cw_Md_thrown rfl rfl (by decide +kernel) (by omega) (Nat.le_of_ble_eq_true rfl) (Nat.le_of_ble_eq_true rfl) ?_
    refine k_M_thrown hl9 (by omega) hM3 ?_
    show jl_AW _ _ _ _ _ 185 [some (.float (z)), some (.ref (0)), some (.ref (28)), some (.ref (42)), some (.int (zI (((4 * t : Nat) : Int)))), some (.int (zI (1))), some (.int (zI (0)))] [.int (zI (1))] n h3 _ _
    refine jl_iload d_Lw_law_185 rfl ?_
    refine jz_icmp_eq (tgt := 192) d_Lw_law_187 (by decide) ⟨by decide, by decide⟩ ⟨by decide, by decide⟩ (fun _ => ?_) (fun q9 => absurd rfl q9)
    refine jl_iload d_Lw_law_192 rfl ?_
    refine jz_if_ne (tgt := 209) d_Lw_law_194 (by decide) ⟨by decide, by decide⟩ (fun _ => ?_) (fun q9 => absurd q9 (by decide))
    refine jl_goto (tgt := 1405) d_Lw_law_209 (by decide) ?_
    refine jl_less (L' := [some (.float (z)), some (.ref (0)), some (.ref (28)), some (.ref (42)), some (.int (zI (((4 * t : Nat) : Int)))), none, none]) ⟨rfl, rfl, rfl, rfl, rfl, trivial⟩ ?_
    exact hnext n h3 ⟨_, hM3, okM, hrw, (fr 0 (by omega) trivial).trans hX, ⟨f, (fr 42 (by omega) trivial).trans hO⟩, hn, lD_fr (fun y q1 q2 => fr y (by omega) trivial) ⟨rfl, rfl, fun _ _ => rfl, fun _ _ => rfl, fun _ _ => rfl⟩ hlD, lS_fr (fun y hy => fr y (by omega) trivial) (fun _ _ _ => ⟨rfl, rfl, fun _ _ => rfl, fun _ _ => rfl, fun _ _ => rfl⟩) hlS, lJ_fr (fun y q1 q2 => fr y (by omega) trivial) hlJ, lCt_fr (fun y q1 q2 => fr y (by omega) trivial) hlC, lF_fr (fun y q1 q2 => fr y (by omega) trivial) ⟨rfl, rfl, fun _ _ => rfl, fun _ _ => rfl, fun _ _ => rfl⟩ ⟨rfl, rfl, rfl, rfl, rfl, rfl⟩ (by omega) hlF⟩
set_option maxHeartbeats 4000000 in
set_option maxRecDepth 100000 in
theorem lw_put {l : Launch} {G : jl_G} {F : List Frame → Array Value → State → Nat → Nat → (Nat → Nat) → Nat → State → Prop} {d n t ck sk : Nat} {h : Nat → va_E} {z : UInt32} (hl9 : l.stackTraces = false) (hd9 : 20 ≤ d) (hlen : G.2.2.2.2.1 ≤ 2048) (ht : 4 * t + 4 ≤ G.2.2.2.2.1) (hI : LI t n h) (hnext : ∀ n' h', LI (t + 1) n' h' → jl_AW l G F m_Lw_law d 1405 [some (.float (z)), some (.ref (0)), some (.ref (28)), some (.ref (42)), some (.int (zI (((4 * t : Nat) : Int)))), none, none] [] n' h' ck sk) : jl_AW l G F m_Lw_law d 212 [some (.float (z)), some (.ref (0)), some (.ref (28)), some (.ref (42)), some (.int (zI (((4 * t : Nat) : Int)))), none, none] [] n h (ck + 3) (sk + 18) := by
  obtain ⟨M, hQ, okM, hrw, hX, ⟨f, hO⟩, hn, hlD, hlS, hlJ, hlC, hlF⟩ := hI
  have hz1 := scr_z G (4 * t + 1)
  have hz2 := scr_z G (4 * t + 2)
  have hz3 := scr_z G (4 * t + 3)
  obtain ⟨m, p, hs, cs, xs, sc, hD, hK⟩ := id hlD
  have hr := dK_r hK
  have h0 := dK_h0 hK
  have hp := hK.1.2.1
  refine jl_aload_n d_Lw_law_212 rfl rfl ?_
  refine jl_sload_n d_Lw_law_213 rfl rfl ?_
  refine jl_iload d_Lw_law_214 rfl ?_
  refine jl_iconst (v := zI (1)) d_Lw_law_216 (by decide) ?_
  refine jz_iadd (v := ((4 * t + 1 : Nat) : Int)) d_Lw_law_217 (by omega) ?_
  refine jz_sld (k9 := 4 * t + 1) d_Lw_law_218 rfl (by omega) hlen ?_
  refine jl_sload_n d_Lw_law_219 rfl rfl ?_
  refine jl_iload d_Lw_law_220 rfl ?_
  refine jl_iconst (v := zI (2)) d_Lw_law_222 (by decide) ?_
  refine jz_iadd (v := ((4 * t + 2 : Nat) : Int)) d_Lw_law_223 (by omega) ?_
  refine jz_sld (k9 := 4 * t + 2) d_Lw_law_224 rfl (by omega) hlen ?_
  refine jl_sload_n d_Lw_law_225 rfl rfl ?_
  refine jl_iload d_Lw_law_226 rfl ?_
  refine jl_iconst (v := zI (3)) d_Lw_law_228 (by decide) ?_
  refine jz_iadd (v := ((4 * t + 3 : Nat) : Int)) d_Lw_law_229 (by omega) ?_
  refine jz_sld (k9 := 4 * t + 3) d_Lw_law_230 rfl (by omega) hlen ?_
  refine jz_if_eq (tgt := 238) d_Lw_law_231 (by decide) hz3 (fun q0 => ?_) (fun q0 => ?_)
  · refine jl_iconst (v := zI (0)) d_Lw_law_238 (by decide) ?_
    refine jl_aload_n d_Lw_law_239 rfl rfl ?_
    refine jl_invSH (M' := m_Lw_put) (d' := d - 1) (ck' := 3) (sk' := 18) (ck := ck) (sk := sk) (na := 5) (as := [.ref (0), .int (zI (scr G (4 * t + 1))), .int (zI (scr G (4 * t + 2))), .int (zI (0)), .ref (42)]) (st := []) d_Lw_law_240 rfl mw_Lw_96 ww_Lw_put nw_Lw cw_Lw_put rfl rfl (by decide +kernel) (by omega) (Nat.le_of_ble_eq_true rfl) (Nat.le_of_ble_eq_true rfl) ?_
    refine k_Lw_put hl9 (d' := d - 2) (by omega) hX ?_
    refine k_put (c := 0) hl9 (by omega) hX (Or.inl (by decide)) hD hK.1 hz1 hz2 ⟨by decide, by decide⟩ (fun hin hok h1 hD1 hf1 => ⟨hs (scr G (4 * t + 1) * 3).toNat, f, rfl, by rw [hf1 42 (by omega)]; exact hO, ?_⟩) (fun hno => Or.inl ⟨rfl, ?_⟩) (fun hin hno => Or.inr ⟨rfl, ?_⟩)
    · obtain ⟨h2, eh2⟩ : ∃ z9, z9 = va_up h1 42 (jJ 1 (vp_updL f (zI 0).toNatClampNeg ((zI (hs (scr G (4 * t + 1) * 3).toNat)).toInt64))) := ⟨_, rfl⟩
      rw [← eh2]
      have oh2 : h2 42 = jJ 1 (vp_updL f (zI 0).toNatClampNeg ((zI (hs (scr G (4 * t + 1) * 3).toNat)).toInt64)) := by rw [eh2, va_up_self]
      have gh2 : ∀ y, y ≠ 42 → h2 y = h1 y := fun y hy => by rw [eh2, va_up_ne _ _ hy]
      show jl_AW _ _ _ _ _ 243 [some (.float (z)), some (.ref (0)), some (.ref (28)), some (.ref (42)), some (.int (zI (((4 * t : Nat) : Int)))), none, none] [.int (zI (0))] n h2 _ _
      have hM2 : jM h2 28 M := jM_fr (fun y q1 q2 => by rw [gh2 y (by omega), hf1 y (by omega)]) hQ
      have hin2 : 0 ≤ scr G (4 * t + 1) ∧ scr G (4 * t + 1) < M.pe (0 : Int).toNat := by rw [hr.2.1]; exact hin
      refine jl_istore (L' := [some (.float (z)), some (.ref (0)), some (.ref (28)), some (.ref (42)), some (.int (zI (((4 * t : Nat) : Int)))), some (.int (zI (0))), none]) d_Lw_law_243 (by decide) rfl ?_
      refine jl_aload_n d_Lw_law_245 rfl rfl ?_
      refine jl_sload_n d_Lw_law_246 rfl rfl ?_
      refine jl_iload d_Lw_law_247 rfl ?_
      refine jl_iconst (v := zI (1)) d_Lw_law_249 (by decide) ?_
      refine jz_iadd (v := ((4 * t + 1 : Nat) : Int)) d_Lw_law_250 (by omega) ?_
      refine jz_sld (k9 := 4 * t + 1) d_Lw_law_251 rfl (by omega) hlen ?_
      refine jl_sload_n d_Lw_law_252 rfl rfl ?_
      refine jl_iload d_Lw_law_253 rfl ?_
      refine jl_iconst (v := zI (2)) d_Lw_law_255 (by decide) ?_
      refine jz_iadd (v := ((4 * t + 2 : Nat) : Int)) d_Lw_law_256 (by omega) ?_
      refine jz_sld (k9 := 4 * t + 2) d_Lw_law_257 rfl (by omega) hlen ?_
      refine jl_sload_n d_Lw_law_258 rfl rfl ?_
      refine jl_iload d_Lw_law_259 rfl ?_
      refine jl_iconst (v := zI (3)) d_Lw_law_261 (by decide) ?_
      refine jz_iadd (v := ((4 * t + 3 : Nat) : Int)) d_Lw_law_262 (by omega) ?_
      refine jz_sld (k9 := 4 * t + 3) d_Lw_law_263 rfl (by omega) hlen ?_
      refine jz_if_eq (tgt := 271) d_Lw_law_264 (by decide) hz3 (fun q9 => ?_) (fun q9 => ?_)
      · refine jl_iconst (v := zI (0)) d_Lw_law_271 (by decide) ?_
        refine jl_invV0 (M' := m_Md_put) (d' := d - 1) (ck' := 0) (sk' := 0) (na := 3) (as := [.int (zI (scr G (4 * t + 1))), .int (zI (scr G (4 * t + 2))), .int (zI (0))]) (st := []) (x := 28) d_Lw_law_272 rfl (hM2).1 rfl mw_Lw_99 ww_Md_put sw_Md_put nw_Md cw_Md_put rfl rfl (by decide +kernel) (by omega) (Nat.le_of_ble_eq_true rfl) (Nat.le_of_ble_eq_true rfl) ?_
        refine k_M_put (c := 0) hl9 (by omega) hM2 okM hz1 hz2 (by decide) (fun _ _ h3 hM3 hf3 => ?_) (fun hno => absurd hin2 hno) (fun _ hno => absurd (by rw [hr.1]; exact ⟨hok.1, fun q => by have := hok.2.1 q.1; omega, fun q => absurd (hok.2.2 q.2) (by have := q.1; omega)⟩) hno)
        show jl_AW _ _ _ _ _ 275 [some (.float (z)), some (.ref (0)), some (.ref (28)), some (.ref (42)), some (.int (zI (((4 * t : Nat) : Int)))), some (.int (zI (0))), none] [.int (zI (hM M 0 (scr G (4 * t + 1) * 3 + 0).toNat))] n h3 _ _
        have o3 : h3 42 = jJ 1 (vp_updL f (zI 0).toNatClampNeg ((zI (hs (scr G (4 * t + 1) * 3).toNat)).toInt64)) := by rw [hf3 42 (by omega)]; exact oh2
        have fr : ∀ y, (y < 1 ∨ 6 ≤ y) → (y < 28 ∨ 43 ≤ y) → h3 y = h y := fun y q1 q2 => by rw [hf3 y (by omega), gh2 y (by omega), hf1 y q1]
        refine jl_istore (L' := [some (.float (z)), some (.ref (0)), some (.ref (28)), some (.ref (42)), some (.int (zI (((4 * t : Nat) : Int)))), some (.int (zI (0))), some (.int (zI (hM M 0 (scr G (4 * t + 1) * 3 + 0).toNat)))]) d_Lw_law_275 (by decide) rfl ?_
        refine jl_aload_n d_Lw_law_277 rfl rfl ?_
        refine jl_invV0 (M' := m_Md_thrown) (d' := d - 1) (ck' := 0) (sk' := 0) (na := 0) (as := []) (st := []) (x := 28) d_Lw_law_278 rfl (hM3).1 rfl mw_Lw_93 ww_Md_thrown sw_Md_thrown nw_Md cw_Md_thrown rfl rfl (by decide +kernel) (by omega) (Nat.le_of_ble_eq_true rfl) (Nat.le_of_ble_eq_true rfl) ?_
        refine k_M_thrown hl9 (by omega) hM3 ?_
        show jl_AW _ _ _ _ _ 281 [some (.float (z)), some (.ref (0)), some (.ref (28)), some (.ref (42)), some (.int (zI (((4 * t : Nat) : Int)))), some (.int (zI (0))), some (.int (zI (hM M 0 (scr G (4 * t + 1) * 3 + 0).toNat)))] [.int (zI (0))] n h3 _ _
        refine jl_iload d_Lw_law_281 rfl ?_
        refine jz_icmp_eq (tgt := 288) d_Lw_law_283 (by decide) ⟨by decide, by decide⟩ ⟨by decide, by decide⟩ (fun _ => ?_) (fun q9 => absurd rfl q9)
        refine jl_iload d_Lw_law_288 rfl ?_
        refine jz_if_ne (tgt := 305) d_Lw_law_290 (by decide) ⟨by decide, by decide⟩ (fun q9 => absurd q9 (by decide)) (fun _ => ?_)
        refine jl_aload_n d_Lw_law_293 rfl rfl ?_
        refine jl_iconst (v := zI (0)) d_Lw_law_294 (by decide) ?_
        refine jl_lald d_Lw_law_295 o3 (zI_in (by decide) (by decide) (by decide)) ?_
        refine jl_iload d_Lw_law_296 rfl ?_
        refine jl_i2l d_Lw_law_298 ?_
        refine jz_lcmp0 d_Lw_law_299 (by unfold vp_updL; rw [if_pos rfl]; rw [Int.add_zero, h0 _ hin.1 hin.2]) ?_
        refine jz_if_eq (tgt := 305) d_Lw_law_300 (by decide) ⟨by decide, by decide⟩ (fun _ => ?_) (fun q9 => absurd q9 (by decide))
        refine jl_goto (tgt := 1405) d_Lw_law_305 (by decide) ?_
        refine jl_less (L' := [some (.float (z)), some (.ref (0)), some (.ref (28)), some (.ref (42)), some (.int (zI (((4 * t : Nat) : Int)))), none, none]) ⟨rfl, rfl, rfl, rfl, rfl, trivial⟩ ?_
        have hS5 : ∀ d9 : Int, 1 ≤ d9 → sm5 M (((M.wT 0).whe (va_up M.he (scr G (4 * t + 1) * 3).toNat (scr G (4 * t + 2)))).wcr (va_up M.cr (scr G (4 * t + 1)).toNat 0)) d9 := by
          intro d9 q1
          refine sm5_0 (fun j hj => ?_) (fun j hj => ?_) (fun j hj => ?_) (fun j hj => ?_) (fun j hj => ?_) q1
          · rfl
          · rfl
          · exact (show va_up M.he (scr G (4 * t + 1) * 3).toNat (scr G (4 * t + 2)) j = M.he j from va_up_ne _ _ (by omega))
          · rfl
          · exact (show va_up M.cr (scr G (4 * t + 1)).toNat 0 j = M.cr j from va_up_ne _ _ (by omega))
        have hdk := dK_put (a := scr G (4 * t + 1)) (b := scr G (4 * t + 2)) (c := 0) hK hin hok.1 hok.2.1 (by decide) hok.2.2
        exact hnext n h3 ⟨_, hM3, ⟨okM.1, okM.2.1, va_up_P (P := fun v => 0 ≤ v ∧ v ≤ 9) okM.2.2.1 hok.1, okM.2.2.2.1, va_up_P (P := fun v => v = 0 ∨ v = 1) okM.2.2.2.2 (by decide)⟩, hrw, (fr 0 (by omega) (by omega)).trans hX, ⟨_, o3⟩, hn, ⟨_, _, _, _, _, sc, jD_fr (fun y q1 q2 => by rw [hf3 y (by omega), gh2 y (by omega)]) hD1, hdk⟩, lS_fr (fun y hy => fr y (by omega) (by omega)) (fun d9 q1 q2 => hS5 _ q1) hlS, lJ_fr (fun y q1 q2 => fr y (by omega) (by omega)) hlJ, lCt_fr (fun y q1 q2 => fr y (by omega) (by omega)) hlC, lF_fr (fun y q1 q2 => fr y (by omega) (by omega)) (hS5 _ (by decide)) ⟨rfl, rfl, rfl, rfl, rfl, rfl⟩ (by omega) hlF⟩
      · exact absurd q0 q9
    · show jl_AW _ _ _ _ _ 243 [some (.float (z)), some (.ref (0)), some (.ref (28)), some (.ref (42)), some (.int (zI (((4 * t : Nat) : Int)))), none, none] [.int (zI (1))] n h _ _
      refine jl_istore (L' := [some (.float (z)), some (.ref (0)), some (.ref (28)), some (.ref (42)), some (.int (zI (((4 * t : Nat) : Int)))), some (.int (zI (1))), none]) d_Lw_law_243 (by decide) rfl ?_
      refine jl_aload_n d_Lw_law_245 rfl rfl ?_
      refine jl_sload_n d_Lw_law_246 rfl rfl ?_
      refine jl_iload d_Lw_law_247 rfl ?_
      refine jl_iconst (v := zI (1)) d_Lw_law_249 (by decide) ?_
      refine jz_iadd (v := ((4 * t + 1 : Nat) : Int)) d_Lw_law_250 (by omega) ?_
      refine jz_sld (k9 := 4 * t + 1) d_Lw_law_251 rfl (by omega) hlen ?_
      refine jl_sload_n d_Lw_law_252 rfl rfl ?_
      refine jl_iload d_Lw_law_253 rfl ?_
      refine jl_iconst (v := zI (2)) d_Lw_law_255 (by decide) ?_
      refine jz_iadd (v := ((4 * t + 2 : Nat) : Int)) d_Lw_law_256 (by omega) ?_
      refine jz_sld (k9 := 4 * t + 2) d_Lw_law_257 rfl (by omega) hlen ?_
      refine jl_sload_n d_Lw_law_258 rfl rfl ?_
      refine jl_iload d_Lw_law_259 rfl ?_
      refine jl_iconst (v := zI (3)) d_Lw_law_261 (by decide) ?_
      refine jz_iadd (v := ((4 * t + 3 : Nat) : Int)) d_Lw_law_262 (by omega) ?_
      refine jz_sld (k9 := 4 * t + 3) d_Lw_law_263 rfl (by omega) hlen ?_
      refine jz_if_eq (tgt := 271) d_Lw_law_264 (by decide) hz3 (fun q9 => ?_) (fun q9 => ?_)
      · refine jl_iconst (v := zI (0)) d_Lw_law_271 (by decide) ?_
        refine jl_invV0 (M' := m_Md_put) (d' := d - 1) (ck' := 0) (sk' := 0) (na := 3) (as := [.int (zI (scr G (4 * t + 1))), .int (zI (scr G (4 * t + 2))), .int (zI (0))]) (st := []) (x := 28) d_Lw_law_272 rfl (hQ).1 rfl mw_Lw_99 ww_Md_put sw_Md_put nw_Md cw_Md_put rfl rfl (by decide +kernel) (by omega) (Nat.le_of_ble_eq_true rfl) (Nat.le_of_ble_eq_true rfl) ?_
        refine k_M_put (c := 0) hl9 (by omega) hQ okM hz1 hz2 (by decide) (fun hin2 => absurd (by rw [hr.2.1] at hin2; exact hin2) hno) (fun _ h3 hM3 hf3 => ?_) (fun hin2 => absurd (by rw [hr.2.1] at hin2; exact hin2) hno)
        show jl_AW _ _ _ _ _ 275 [some (.float (z)), some (.ref (0)), some (.ref (28)), some (.ref (42)), some (.int (zI (((4 * t : Nat) : Int)))), some (.int (zI (1))), none] [.int (zI (0))] n h3 _ _
        have fr : ∀ y, (y < 28 ∨ 42 ≤ y) → True → h3 y = h y := fun y q1 _ => hf3 y (by omega)
        refine jl_istore (L' := [some (.float (z)), some (.ref (0)), some (.ref (28)), some (.ref (42)), some (.int (zI (((4 * t : Nat) : Int)))), some (.int (zI (1))), some (.int (zI (0)))]) d_Lw_law_275 (by decide) rfl ?_
        refine jl_aload_n d_Lw_law_277 rfl rfl ?_
        refine jl_invV0 (M' := m_Md_thrown) (d' := d - 1) (ck' := 0) (sk' := 0) (na := 0) (as := []) (st := []) (x := 28) d_Lw_law_278 rfl (hM3).1 rfl mw_Lw_93 ww_Md_thrown sw_Md_thrown nw_Md cw_Md_thrown rfl rfl (by decide +kernel) (by omega) (Nat.le_of_ble_eq_true rfl) (Nat.le_of_ble_eq_true rfl) ?_
        refine k_M_thrown hl9 (by omega) hM3 ?_
        show jl_AW _ _ _ _ _ 281 [some (.float (z)), some (.ref (0)), some (.ref (28)), some (.ref (42)), some (.int (zI (((4 * t : Nat) : Int)))), some (.int (zI (1))), some (.int (zI (0)))] [.int (zI (1))] n h3 _ _
        refine jl_iload d_Lw_law_281 rfl ?_
        refine jz_icmp_eq (tgt := 288) d_Lw_law_283 (by decide) ⟨by decide, by decide⟩ ⟨by decide, by decide⟩ (fun _ => ?_) (fun q9 => absurd rfl q9)
        refine jl_iload d_Lw_law_288 rfl ?_
        refine jz_if_ne (tgt := 305) d_Lw_law_290 (by decide) ⟨by decide, by decide⟩ (fun _ => ?_) (fun q9 => absurd q9 (by decide))
        refine jl_goto (tgt := 1405) d_Lw_law_305 (by decide) ?_
        refine jl_less (L' := [some (.float (z)), some (.ref (0)), some (.ref (28)), some (.ref (42)), some (.int (zI (((4 * t : Nat) : Int)))), none, none]) ⟨rfl, rfl, rfl, rfl, rfl, trivial⟩ ?_
        exact hnext n h3 ⟨_, hM3, okM, hrw, (fr 0 (by omega) trivial).trans hX, ⟨f, (fr 42 (by omega) trivial).trans hO⟩, hn, lD_fr (fun y q1 q2 => fr y (by omega) trivial) ⟨rfl, rfl, fun _ _ => rfl, fun _ _ => rfl, fun _ _ => rfl⟩ hlD, lS_fr (fun y hy => fr y (by omega) trivial) (fun _ _ _ => ⟨rfl, rfl, fun _ _ => rfl, fun _ _ => rfl, fun _ _ => rfl⟩) hlS, lJ_fr (fun y q1 q2 => fr y (by omega) trivial) hlJ, lCt_fr (fun y q1 q2 => fr y (by omega) trivial) hlC, lF_fr (fun y q1 q2 => fr y (by omega) trivial) ⟨rfl, rfl, fun _ _ => rfl, fun _ _ => rfl, fun _ _ => rfl⟩ ⟨rfl, rfl, rfl, rfl, rfl, rfl⟩ (by omega) hlF⟩
      · exact absurd q0 q9
    · show jl_AW _ _ _ _ _ 243 [some (.float (z)), some (.ref (0)), some (.ref (28)), some (.ref (42)), some (.int (zI (((4 * t : Nat) : Int)))), none, none] [.int (zI (2))] n h _ _
      refine jl_istore (L' := [some (.float (z)), some (.ref (0)), some (.ref (28)), some (.ref (42)), some (.int (zI (((4 * t : Nat) : Int)))), some (.int (zI (2))), none]) d_Lw_law_243 (by decide) rfl ?_
      refine jl_aload_n d_Lw_law_245 rfl rfl ?_
      refine jl_sload_n d_Lw_law_246 rfl rfl ?_
      refine jl_iload d_Lw_law_247 rfl ?_
      refine jl_iconst (v := zI (1)) d_Lw_law_249 (by decide) ?_
      refine jz_iadd (v := ((4 * t + 1 : Nat) : Int)) d_Lw_law_250 (by omega) ?_
      refine jz_sld (k9 := 4 * t + 1) d_Lw_law_251 rfl (by omega) hlen ?_
      refine jl_sload_n d_Lw_law_252 rfl rfl ?_
      refine jl_iload d_Lw_law_253 rfl ?_
      refine jl_iconst (v := zI (2)) d_Lw_law_255 (by decide) ?_
      refine jz_iadd (v := ((4 * t + 2 : Nat) : Int)) d_Lw_law_256 (by omega) ?_
      refine jz_sld (k9 := 4 * t + 2) d_Lw_law_257 rfl (by omega) hlen ?_
      refine jl_sload_n d_Lw_law_258 rfl rfl ?_
      refine jl_iload d_Lw_law_259 rfl ?_
      refine jl_iconst (v := zI (3)) d_Lw_law_261 (by decide) ?_
      refine jz_iadd (v := ((4 * t + 3 : Nat) : Int)) d_Lw_law_262 (by omega) ?_
      refine jz_sld (k9 := 4 * t + 3) d_Lw_law_263 rfl (by omega) hlen ?_
      refine jz_if_eq (tgt := 271) d_Lw_law_264 (by decide) hz3 (fun q9 => ?_) (fun q9 => ?_)
      · refine jl_iconst (v := zI (0)) d_Lw_law_271 (by decide) ?_
        refine jl_invV0 (M' := m_Md_put) (d' := d - 1) (ck' := 0) (sk' := 0) (na := 3) (as := [.int (zI (scr G (4 * t + 1))), .int (zI (scr G (4 * t + 2))), .int (zI (0))]) (st := []) (x := 28) d_Lw_law_272 rfl (hQ).1 rfl mw_Lw_99 ww_Md_put sw_Md_put nw_Md cw_Md_put rfl rfl (by decide +kernel) (by omega) (Nat.le_of_ble_eq_true rfl) (Nat.le_of_ble_eq_true rfl) ?_
        refine k_M_put (c := 0) hl9 (by omega) hQ okM hz1 hz2 (by decide) (fun _ hok2 => absurd ⟨hok2.1, fun q => by have := hok2.2.1; rw [hr.1] at this; omega, fun q => Classical.byContradiction (fun q8 => hok2.2.2 ⟨q8, by rw [hr.1]; exact q⟩)⟩ hno) (fun hno2 => absurd (by rw [hr.2.1]; exact hin) hno2) (fun _ _ h3 hM3 hf3 => ?_)
        show jl_AW _ _ _ _ _ 275 [some (.float (z)), some (.ref (0)), some (.ref (28)), some (.ref (42)), some (.int (zI (((4 * t : Nat) : Int)))), some (.int (zI (2))), none] [.int (zI (0))] n h3 _ _
        have fr : ∀ y, (y < 28 ∨ 42 ≤ y) → True → h3 y = h y := fun y q1 _ => hf3 y (by omega)
        refine jl_istore (L' := [some (.float (z)), some (.ref (0)), some (.ref (28)), some (.ref (42)), some (.int (zI (((4 * t : Nat) : Int)))), some (.int (zI (2))), some (.int (zI (0)))]) d_Lw_law_275 (by decide) rfl ?_
        refine jl_aload_n d_Lw_law_277 rfl rfl ?_
        refine jl_invV0 (M' := m_Md_thrown) (d' := d - 1) (ck' := 0) (sk' := 0) (na := 0) (as := []) (st := []) (x := 28) d_Lw_law_278 rfl (hM3).1 rfl mw_Lw_93 ww_Md_thrown sw_Md_thrown nw_Md cw_Md_thrown rfl rfl (by decide +kernel) (by omega) (Nat.le_of_ble_eq_true rfl) (Nat.le_of_ble_eq_true rfl) ?_
        refine k_M_thrown hl9 (by omega) hM3 ?_
        show jl_AW _ _ _ _ _ 281 [some (.float (z)), some (.ref (0)), some (.ref (28)), some (.ref (42)), some (.int (zI (((4 * t : Nat) : Int)))), some (.int (zI (2))), some (.int (zI (0)))] [.int (zI (2))] n h3 _ _
        refine jl_iload d_Lw_law_281 rfl ?_
        refine jz_icmp_eq (tgt := 288) d_Lw_law_283 (by decide) ⟨by decide, by decide⟩ ⟨by decide, by decide⟩ (fun _ => ?_) (fun q9 => absurd rfl q9)
        refine jl_iload d_Lw_law_288 rfl ?_
        refine jz_if_ne (tgt := 305) d_Lw_law_290 (by decide) ⟨by decide, by decide⟩ (fun _ => ?_) (fun q9 => absurd q9 (by decide))
        refine jl_goto (tgt := 1405) d_Lw_law_305 (by decide) ?_
        refine jl_less (L' := [some (.float (z)), some (.ref (0)), some (.ref (28)), some (.ref (42)), some (.int (zI (((4 * t : Nat) : Int)))), none, none]) ⟨rfl, rfl, rfl, rfl, rfl, trivial⟩ ?_
        exact hnext n h3 ⟨_, hM3, okM, hrw, (fr 0 (by omega) trivial).trans hX, ⟨f, (fr 42 (by omega) trivial).trans hO⟩, hn, lD_fr (fun y q1 q2 => fr y (by omega) trivial) ⟨rfl, rfl, fun _ _ => rfl, fun _ _ => rfl, fun _ _ => rfl⟩ hlD, lS_fr (fun y hy => fr y (by omega) trivial) (fun _ _ _ => ⟨rfl, rfl, fun _ _ => rfl, fun _ _ => rfl, fun _ _ => rfl⟩) hlS, lJ_fr (fun y q1 q2 => fr y (by omega) trivial) hlJ, lCt_fr (fun y q1 q2 => fr y (by omega) trivial) hlC, lF_fr (fun y q1 q2 => fr y (by omega) trivial) ⟨rfl, rfl, fun _ _ => rfl, fun _ _ => rfl, fun _ _ => rfl⟩ ⟨rfl, rfl, rfl, rfl, rfl, rfl⟩ (by omega) hlF⟩
      · exact absurd q0 q9
  · refine jl_iconst (v := zI (1)) d_Lw_law_234 (by decide) ?_
    refine jl_goto (tgt := 239) d_Lw_law_235 (by decide) ?_
    refine jl_aload_n d_Lw_law_239 rfl rfl ?_
    refine jl_invSH (M' := m_Lw_put) (d' := d - 1) (ck' := 3) (sk' := 18) (ck := ck) (sk := sk) (na := 5) (as := [.ref (0), .int (zI (scr G (4 * t + 1))), .int (zI (scr G (4 * t + 2))), .int (zI (1)), .ref (42)]) (st := []) d_Lw_law_240 rfl mw_Lw_96 ww_Lw_put nw_Lw cw_Lw_put rfl rfl (by decide +kernel) (by omega) (Nat.le_of_ble_eq_true rfl) (Nat.le_of_ble_eq_true rfl) ?_
    refine k_Lw_put hl9 (d' := d - 2) (by omega) hX ?_
    refine k_put (c := 1) hl9 (by omega) hX (Or.inl (by decide)) hD hK.1 hz1 hz2 ⟨by decide, by decide⟩ (fun hin hok h1 hD1 hf1 => ⟨hs (scr G (4 * t + 1) * 3).toNat, f, rfl, by rw [hf1 42 (by omega)]; exact hO, ?_⟩) (fun hno => Or.inl ⟨rfl, ?_⟩) (fun hin hno => Or.inr ⟨rfl, ?_⟩)
    · obtain ⟨h2, eh2⟩ : ∃ z9, z9 = va_up h1 42 (jJ 1 (vp_updL f (zI 0).toNatClampNeg ((zI (hs (scr G (4 * t + 1) * 3).toNat)).toInt64))) := ⟨_, rfl⟩
      rw [← eh2]
      have oh2 : h2 42 = jJ 1 (vp_updL f (zI 0).toNatClampNeg ((zI (hs (scr G (4 * t + 1) * 3).toNat)).toInt64)) := by rw [eh2, va_up_self]
      have gh2 : ∀ y, y ≠ 42 → h2 y = h1 y := fun y hy => by rw [eh2, va_up_ne _ _ hy]
      show jl_AW _ _ _ _ _ 243 [some (.float (z)), some (.ref (0)), some (.ref (28)), some (.ref (42)), some (.int (zI (((4 * t : Nat) : Int)))), none, none] [.int (zI (0))] n h2 _ _
      have hM2 : jM h2 28 M := jM_fr (fun y q1 q2 => by rw [gh2 y (by omega), hf1 y (by omega)]) hQ
      have hin2 : 0 ≤ scr G (4 * t + 1) ∧ scr G (4 * t + 1) < M.pe (0 : Int).toNat := by rw [hr.2.1]; exact hin
      refine jl_istore (L' := [some (.float (z)), some (.ref (0)), some (.ref (28)), some (.ref (42)), some (.int (zI (((4 * t : Nat) : Int)))), some (.int (zI (0))), none]) d_Lw_law_243 (by decide) rfl ?_
      refine jl_aload_n d_Lw_law_245 rfl rfl ?_
      refine jl_sload_n d_Lw_law_246 rfl rfl ?_
      refine jl_iload d_Lw_law_247 rfl ?_
      refine jl_iconst (v := zI (1)) d_Lw_law_249 (by decide) ?_
      refine jz_iadd (v := ((4 * t + 1 : Nat) : Int)) d_Lw_law_250 (by omega) ?_
      refine jz_sld (k9 := 4 * t + 1) d_Lw_law_251 rfl (by omega) hlen ?_
      refine jl_sload_n d_Lw_law_252 rfl rfl ?_
      refine jl_iload d_Lw_law_253 rfl ?_
      refine jl_iconst (v := zI (2)) d_Lw_law_255 (by decide) ?_
      refine jz_iadd (v := ((4 * t + 2 : Nat) : Int)) d_Lw_law_256 (by omega) ?_
      refine jz_sld (k9 := 4 * t + 2) d_Lw_law_257 rfl (by omega) hlen ?_
      refine jl_sload_n d_Lw_law_258 rfl rfl ?_
      refine jl_iload d_Lw_law_259 rfl ?_
      refine jl_iconst (v := zI (3)) d_Lw_law_261 (by decide) ?_
      refine jz_iadd (v := ((4 * t + 3 : Nat) : Int)) d_Lw_law_262 (by omega) ?_
      refine jz_sld (k9 := 4 * t + 3) d_Lw_law_263 rfl (by omega) hlen ?_
      refine jz_if_eq (tgt := 271) d_Lw_law_264 (by decide) hz3 (fun q9 => ?_) (fun q9 => ?_)
      · exact absurd q9 q0
      · refine jl_iconst (v := zI (1)) d_Lw_law_267 (by decide) ?_
        refine jl_goto (tgt := 272) d_Lw_law_268 (by decide) ?_
        refine jl_invV0 (M' := m_Md_put) (d' := d - 1) (ck' := 0) (sk' := 0) (na := 3) (as := [.int (zI (scr G (4 * t + 1))), .int (zI (scr G (4 * t + 2))), .int (zI (1))]) (st := []) (x := 28) d_Lw_law_272 rfl (hM2).1 rfl mw_Lw_99 ww_Md_put sw_Md_put nw_Md cw_Md_put rfl rfl (by decide +kernel) (by omega) (Nat.le_of_ble_eq_true rfl) (Nat.le_of_ble_eq_true rfl) ?_
        refine k_M_put (c := 1) hl9 (by omega) hM2 okM hz1 hz2 (by decide) (fun _ _ h3 hM3 hf3 => ?_) (fun hno => absurd hin2 hno) (fun _ hno => absurd (by rw [hr.1]; exact ⟨hok.1, fun q => by have := hok.2.1 q.1; omega, fun q => absurd (hok.2.2 q.2) (by have := q.1; omega)⟩) hno)
        show jl_AW _ _ _ _ _ 275 [some (.float (z)), some (.ref (0)), some (.ref (28)), some (.ref (42)), some (.int (zI (((4 * t : Nat) : Int)))), some (.int (zI (0))), none] [.int (zI (hM M 0 (scr G (4 * t + 1) * 3 + 0).toNat))] n h3 _ _
        have o3 : h3 42 = jJ 1 (vp_updL f (zI 0).toNatClampNeg ((zI (hs (scr G (4 * t + 1) * 3).toNat)).toInt64)) := by rw [hf3 42 (by omega)]; exact oh2
        have fr : ∀ y, (y < 1 ∨ 6 ≤ y) → (y < 28 ∨ 43 ≤ y) → h3 y = h y := fun y q1 q2 => by rw [hf3 y (by omega), gh2 y (by omega), hf1 y q1]
        refine jl_istore (L' := [some (.float (z)), some (.ref (0)), some (.ref (28)), some (.ref (42)), some (.int (zI (((4 * t : Nat) : Int)))), some (.int (zI (0))), some (.int (zI (hM M 0 (scr G (4 * t + 1) * 3 + 0).toNat)))]) d_Lw_law_275 (by decide) rfl ?_
        refine jl_aload_n d_Lw_law_277 rfl rfl ?_
        refine jl_invV0 (M' := m_Md_thrown) (d' := d - 1) (ck' := 0) (sk' := 0) (na := 0) (as := []) (st := []) (x := 28) d_Lw_law_278 rfl (hM3).1 rfl mw_Lw_93 ww_Md_thrown sw_Md_thrown nw_Md cw_Md_thrown rfl rfl (by decide +kernel) (by omega) (Nat.le_of_ble_eq_true rfl) (Nat.le_of_ble_eq_true rfl) ?_
        refine k_M_thrown hl9 (by omega) hM3 ?_
        show jl_AW _ _ _ _ _ 281 [some (.float (z)), some (.ref (0)), some (.ref (28)), some (.ref (42)), some (.int (zI (((4 * t : Nat) : Int)))), some (.int (zI (0))), some (.int (zI (hM M 0 (scr G (4 * t + 1) * 3 + 0).toNat)))] [.int (zI (0))] n h3 _ _
        refine jl_iload d_Lw_law_281 rfl ?_
        refine jz_icmp_eq (tgt := 288) d_Lw_law_283 (by decide) ⟨by decide, by decide⟩ ⟨by decide, by decide⟩ (fun _ => ?_) (fun q9 => absurd rfl q9)
        refine jl_iload d_Lw_law_288 rfl ?_
        refine jz_if_ne (tgt := 305) d_Lw_law_290 (by decide) ⟨by decide, by decide⟩ (fun q9 => absurd q9 (by decide)) (fun _ => ?_)
        refine jl_aload_n d_Lw_law_293 rfl rfl ?_
        refine jl_iconst (v := zI (0)) d_Lw_law_294 (by decide) ?_
        refine jl_lald d_Lw_law_295 o3 (zI_in (by decide) (by decide) (by decide)) ?_
        refine jl_iload d_Lw_law_296 rfl ?_
        refine jl_i2l d_Lw_law_298 ?_
        refine jz_lcmp0 d_Lw_law_299 (by unfold vp_updL; rw [if_pos rfl]; rw [Int.add_zero, h0 _ hin.1 hin.2]) ?_
        refine jz_if_eq (tgt := 305) d_Lw_law_300 (by decide) ⟨by decide, by decide⟩ (fun _ => ?_) (fun q9 => absurd q9 (by decide))
        refine jl_goto (tgt := 1405) d_Lw_law_305 (by decide) ?_
        refine jl_less (L' := [some (.float (z)), some (.ref (0)), some (.ref (28)), some (.ref (42)), some (.int (zI (((4 * t : Nat) : Int)))), none, none]) ⟨rfl, rfl, rfl, rfl, rfl, trivial⟩ ?_
        have hS5 : ∀ d9 : Int, 1 ≤ d9 → sm5 M (((M.wT 0).whe (va_up M.he (scr G (4 * t + 1) * 3).toNat (scr G (4 * t + 2)))).wcr (va_up M.cr (scr G (4 * t + 1)).toNat 1)) d9 := by
          intro d9 q1
          refine sm5_0 (fun j hj => ?_) (fun j hj => ?_) (fun j hj => ?_) (fun j hj => ?_) (fun j hj => ?_) q1
          · rfl
          · rfl
          · exact (show va_up M.he (scr G (4 * t + 1) * 3).toNat (scr G (4 * t + 2)) j = M.he j from va_up_ne _ _ (by omega))
          · rfl
          · exact (show va_up M.cr (scr G (4 * t + 1)).toNat 1 j = M.cr j from va_up_ne _ _ (by omega))
        have hdk := dK_put (a := scr G (4 * t + 1)) (b := scr G (4 * t + 2)) (c := 1) hK hin hok.1 hok.2.1 (by decide) hok.2.2
        exact hnext n h3 ⟨_, hM3, ⟨okM.1, okM.2.1, va_up_P (P := fun v => 0 ≤ v ∧ v ≤ 9) okM.2.2.1 hok.1, okM.2.2.2.1, va_up_P (P := fun v => v = 0 ∨ v = 1) okM.2.2.2.2 (by decide)⟩, hrw, (fr 0 (by omega) (by omega)).trans hX, ⟨_, o3⟩, hn, ⟨_, _, _, _, _, sc, jD_fr (fun y q1 q2 => by rw [hf3 y (by omega), gh2 y (by omega)]) hD1, hdk⟩, lS_fr (fun y hy => fr y (by omega) (by omega)) (fun d9 q1 q2 => hS5 _ q1) hlS, lJ_fr (fun y q1 q2 => fr y (by omega) (by omega)) hlJ, lCt_fr (fun y q1 q2 => fr y (by omega) (by omega)) hlC, lF_fr (fun y q1 q2 => fr y (by omega) (by omega)) (hS5 _ (by decide)) ⟨rfl, rfl, rfl, rfl, rfl, rfl⟩ (by omega) hlF⟩
    · show jl_AW _ _ _ _ _ 243 [some (.float (z)), some (.ref (0)), some (.ref (28)), some (.ref (42)), some (.int (zI (((4 * t : Nat) : Int)))), none, none] [.int (zI (1))] n h _ _
      refine jl_istore (L' := [some (.float (z)), some (.ref (0)), some (.ref (28)), some (.ref (42)), some (.int (zI (((4 * t : Nat) : Int)))), some (.int (zI (1))), none]) d_Lw_law_243 (by decide) rfl ?_
      refine jl_aload_n d_Lw_law_245 rfl rfl ?_
      refine jl_sload_n d_Lw_law_246 rfl rfl ?_
      refine jl_iload d_Lw_law_247 rfl ?_
      refine jl_iconst (v := zI (1)) d_Lw_law_249 (by decide) ?_
      refine jz_iadd (v := ((4 * t + 1 : Nat) : Int)) d_Lw_law_250 (by omega) ?_
      refine jz_sld (k9 := 4 * t + 1) d_Lw_law_251 rfl (by omega) hlen ?_
      refine jl_sload_n d_Lw_law_252 rfl rfl ?_
      refine jl_iload d_Lw_law_253 rfl ?_
      refine jl_iconst (v := zI (2)) d_Lw_law_255 (by decide) ?_
      refine jz_iadd (v := ((4 * t + 2 : Nat) : Int)) d_Lw_law_256 (by omega) ?_
      refine jz_sld (k9 := 4 * t + 2) d_Lw_law_257 rfl (by omega) hlen ?_
      refine jl_sload_n d_Lw_law_258 rfl rfl ?_
      refine jl_iload d_Lw_law_259 rfl ?_
      refine jl_iconst (v := zI (3)) d_Lw_law_261 (by decide) ?_
      refine jz_iadd (v := ((4 * t + 3 : Nat) : Int)) d_Lw_law_262 (by omega) ?_
      refine jz_sld (k9 := 4 * t + 3) d_Lw_law_263 rfl (by omega) hlen ?_
      refine jz_if_eq (tgt := 271) d_Lw_law_264 (by decide) hz3 (fun q9 => ?_) (fun q9 => ?_)
      · exact absurd q9 q0
      · refine jl_iconst (v := zI (1)) d_Lw_law_267 (by decide) ?_
        refine jl_goto (tgt := 272) d_Lw_law_268 (by decide) ?_
        refine jl_invV0 (M' := m_Md_put) (d' := d - 1) (ck' := 0) (sk' := 0) (na := 3) (as := [.int (zI (scr G (4 * t + 1))), .int (zI (scr G (4 * t + 2))), .int (zI (1))]) (st := []) (x := 28) d_Lw_law_272 rfl (hQ).1 rfl mw_Lw_99 ww_Md_put sw_Md_put nw_Md cw_Md_put rfl rfl (by decide +kernel) (by omega) (Nat.le_of_ble_eq_true rfl) (Nat.le_of_ble_eq_true rfl) ?_
        refine k_M_put (c := 1) hl9 (by omega) hQ okM hz1 hz2 (by decide) (fun hin2 => absurd (by rw [hr.2.1] at hin2; exact hin2) hno) (fun _ h3 hM3 hf3 => ?_) (fun hin2 => absurd (by rw [hr.2.1] at hin2; exact hin2) hno)
        show jl_AW _ _ _ _ _ 275 [some (.float (z)), some (.ref (0)), some (.ref (28)), some (.ref (42)), some (.int (zI (((4 * t : Nat) : Int)))), some (.int (zI (1))), none] [.int (zI (0))] n h3 _ _
        have fr : ∀ y, (y < 28 ∨ 42 ≤ y) → True → h3 y = h y := fun y q1 _ => hf3 y (by omega)
        refine jl_istore (L' := [some (.float (z)), some (.ref (0)), some (.ref (28)), some (.ref (42)), some (.int (zI (((4 * t : Nat) : Int)))), some (.int (zI (1))), some (.int (zI (0)))]) d_Lw_law_275 (by decide) rfl ?_
        refine jl_aload_n d_Lw_law_277 rfl rfl ?_
        refine jl_invV0 (M' := m_Md_thrown) (d' := d - 1) (ck' := 0) (sk' := 0) (na := 0) (as := []) (st := []) (x := 28) d_Lw_law_278 rfl (hM3).1 rfl mw_Lw_93 ww_Md_thrown sw_Md_thrown nw_Md cw_Md_thrown rfl rfl (by decide +kernel) (by omega) (Nat.le_of_ble_eq_true rfl) (Nat.le_of_ble_eq_true rfl) ?_
        refine k_M_thrown hl9 (by omega) hM3 ?_
        show jl_AW _ _ _ _ _ 281 [some (.float (z)), some (.ref (0)), some (.ref (28)), some (.ref (42)), some (.int (zI (((4 * t : Nat) : Int)))), some (.int (zI (1))), some (.int (zI (0)))] [.int (zI (1))] n h3 _ _
        refine jl_iload d_Lw_law_281 rfl ?_
        refine jz_icmp_eq (tgt := 288) d_Lw_law_283 (by decide) ⟨by decide, by decide⟩ ⟨by decide, by decide⟩ (fun _ => ?_) (fun q9 => absurd rfl q9)
        refine jl_iload d_Lw_law_288 rfl ?_
        refine jz_if_ne (tgt := 305) d_Lw_law_290 (by decide) ⟨by decide, by decide⟩ (fun _ => ?_) (fun q9 => absurd q9 (by decide))
        refine jl_goto (tgt := 1405) d_Lw_law_305 (by decide) ?_
        refine jl_less (L' := [some (.float (z)), some (.ref (0)), some (.ref (28)), some (.ref (42)), some (.int (zI (((4 * t : Nat) : Int)))), none, none]) ⟨rfl, rfl, rfl, rfl, rfl, trivial⟩ ?_
        exact hnext n h3 ⟨_, hM3, okM, hrw, (fr 0 (by omega) trivial).trans hX, ⟨f, (fr 42 (by omega) trivial).trans hO⟩, hn, lD_fr (fun y q1 q2 => fr y (by omega) trivial) ⟨rfl, rfl, fun _ _ => rfl, fun _ _ => rfl, fun _ _ => rfl⟩ hlD, lS_fr (fun y hy => fr y (by omega) trivial) (fun _ _ _ => ⟨rfl, rfl, fun _ _ => rfl, fun _ _ => rfl, fun _ _ => rfl⟩) hlS, lJ_fr (fun y q1 q2 => fr y (by omega) trivial) hlJ, lCt_fr (fun y q1 q2 => fr y (by omega) trivial) hlC, lF_fr (fun y q1 q2 => fr y (by omega) trivial) ⟨rfl, rfl, fun _ _ => rfl, fun _ _ => rfl, fun _ _ => rfl⟩ ⟨rfl, rfl, rfl, rfl, rfl, rfl⟩ (by omega) hlF⟩
    · show jl_AW _ _ _ _ _ 243 [some (.float (z)), some (.ref (0)), some (.ref (28)), some (.ref (42)), some (.int (zI (((4 * t : Nat) : Int)))), none, none] [.int (zI (2))] n h _ _
      refine jl_istore (L' := [some (.float (z)), some (.ref (0)), some (.ref (28)), some (.ref (42)), some (.int (zI (((4 * t : Nat) : Int)))), some (.int (zI (2))), none]) d_Lw_law_243 (by decide) rfl ?_
      refine jl_aload_n d_Lw_law_245 rfl rfl ?_
      refine jl_sload_n d_Lw_law_246 rfl rfl ?_
      refine jl_iload d_Lw_law_247 rfl ?_
      refine jl_iconst (v := zI (1)) d_Lw_law_249 (by decide) ?_
      refine jz_iadd (v := ((4 * t + 1 : Nat) : Int)) d_Lw_law_250 (by omega) ?_
      refine jz_sld (k9 := 4 * t + 1) d_Lw_law_251 rfl (by omega) hlen ?_
      refine jl_sload_n d_Lw_law_252 rfl rfl ?_
      refine jl_iload d_Lw_law_253 rfl ?_
      refine jl_iconst (v := zI (2)) d_Lw_law_255 (by decide) ?_
      refine jz_iadd (v := ((4 * t + 2 : Nat) : Int)) d_Lw_law_256 (by omega) ?_
      refine jz_sld (k9 := 4 * t + 2) d_Lw_law_257 rfl (by omega) hlen ?_
      refine jl_sload_n d_Lw_law_258 rfl rfl ?_
      refine jl_iload d_Lw_law_259 rfl ?_
      refine jl_iconst (v := zI (3)) d_Lw_law_261 (by decide) ?_
      refine jz_iadd (v := ((4 * t + 3 : Nat) : Int)) d_Lw_law_262 (by omega) ?_
      refine jz_sld (k9 := 4 * t + 3) d_Lw_law_263 rfl (by omega) hlen ?_
      refine jz_if_eq (tgt := 271) d_Lw_law_264 (by decide) hz3 (fun q9 => ?_) (fun q9 => ?_)
      · exact absurd q9 q0
      · refine jl_iconst (v := zI (1)) d_Lw_law_267 (by decide) ?_
        refine jl_goto (tgt := 272) d_Lw_law_268 (by decide) ?_
        refine jl_invV0 (M' := m_Md_put) (d' := d - 1) (ck' := 0) (sk' := 0) (na := 3) (as := [.int (zI (scr G (4 * t + 1))), .int (zI (scr G (4 * t + 2))), .int (zI (1))]) (st := []) (x := 28) d_Lw_law_272 rfl (hQ).1 rfl mw_Lw_99 ww_Md_put sw_Md_put nw_Md cw_Md_put rfl rfl (by decide +kernel) (by omega) (Nat.le_of_ble_eq_true rfl) (Nat.le_of_ble_eq_true rfl) ?_
        refine k_M_put (c := 1) hl9 (by omega) hQ okM hz1 hz2 (by decide) (fun _ hok2 => absurd ⟨hok2.1, fun q => by have := hok2.2.1; rw [hr.1] at this; omega, fun q => Classical.byContradiction (fun q8 => hok2.2.2 ⟨q8, by rw [hr.1]; exact q⟩)⟩ hno) (fun hno2 => absurd (by rw [hr.2.1]; exact hin) hno2) (fun _ _ h3 hM3 hf3 => ?_)
        show jl_AW _ _ _ _ _ 275 [some (.float (z)), some (.ref (0)), some (.ref (28)), some (.ref (42)), some (.int (zI (((4 * t : Nat) : Int)))), some (.int (zI (2))), none] [.int (zI (0))] n h3 _ _
        have fr : ∀ y, (y < 28 ∨ 42 ≤ y) → True → h3 y = h y := fun y q1 _ => hf3 y (by omega)
        refine jl_istore (L' := [some (.float (z)), some (.ref (0)), some (.ref (28)), some (.ref (42)), some (.int (zI (((4 * t : Nat) : Int)))), some (.int (zI (2))), some (.int (zI (0)))]) d_Lw_law_275 (by decide) rfl ?_
        refine jl_aload_n d_Lw_law_277 rfl rfl ?_
        refine jl_invV0 (M' := m_Md_thrown) (d' := d - 1) (ck' := 0) (sk' := 0) (na := 0) (as := []) (st := []) (x := 28) d_Lw_law_278 rfl (hM3).1 rfl mw_Lw_93 ww_Md_thrown sw_Md_thrown nw_Md cw_Md_thrown rfl rfl (by decide +kernel) (by omega) (Nat.le_of_ble_eq_true rfl) (Nat.le_of_ble_eq_true rfl) ?_
        refine k_M_thrown hl9 (by omega) hM3 ?_
        show jl_AW _ _ _ _ _ 281 [some (.float (z)), some (.ref (0)), some (.ref (28)), some (.ref (42)), some (.int (zI (((4 * t : Nat) : Int)))), some (.int (zI (2))), some (.int (zI (0)))] [.int (zI (2))] n h3 _ _
        refine jl_iload d_Lw_law_281 rfl ?_
        refine jz_icmp_eq (tgt := 288) d_Lw_law_283 (by decide) ⟨by decide, by decide⟩ ⟨by decide, by decide⟩ (fun _ => ?_) (fun q9 => absurd rfl q9)
        refine jl_iload d_Lw_law_288 rfl ?_
        refine jz_if_ne (tgt := 305) d_Lw_law_290 (by decide) ⟨by decide, by decide⟩ (fun _ => ?_) (fun q9 => absurd q9 (by decide))
        refine jl_goto (tgt := 1405) d_Lw_law_305 (by decide) ?_
        refine jl_less (L' := [some (.float (z)), some (.ref (0)), some (.ref (28)), some (.ref (42)), some (.int (zI (((4 * t : Nat) : Int)))), none, none]) ⟨rfl, rfl, rfl, rfl, rfl, trivial⟩ ?_
        exact hnext n h3 ⟨_, hM3, okM, hrw, (fr 0 (by omega) trivial).trans hX, ⟨f, (fr 42 (by omega) trivial).trans hO⟩, hn, lD_fr (fun y q1 q2 => fr y (by omega) trivial) ⟨rfl, rfl, fun _ _ => rfl, fun _ _ => rfl, fun _ _ => rfl⟩ hlD, lS_fr (fun y hy => fr y (by omega) trivial) (fun _ _ _ => ⟨rfl, rfl, fun _ _ => rfl, fun _ _ => rfl, fun _ _ => rfl⟩) hlS, lJ_fr (fun y q1 q2 => fr y (by omega) trivial) hlJ, lCt_fr (fun y q1 q2 => fr y (by omega) trivial) hlC, lF_fr (fun y q1 q2 => fr y (by omega) trivial) ⟨rfl, rfl, fun _ _ => rfl, fun _ _ => rfl, fun _ _ => rfl⟩ ⟨rfl, rfl, rfl, rfl, rfl, rfl⟩ (by omega) hlF⟩
set_option maxHeartbeats 4000000 in
set_option maxRecDepth 100000 in
theorem lw_add {l : Launch} {G : jl_G} {F : List Frame → Array Value → State → Nat → Nat → (Nat → Nat) → Nat → State → Prop} {d n t ck sk : Nat} {h : Nat → va_E} {z : UInt32} (hl9 : l.stackTraces = false) (hd9 : 20 ≤ d) (hlen : G.2.2.2.2.1 ≤ 2048) (ht : 4 * t + 4 ≤ G.2.2.2.2.1) (hI : LI t n h) (hnext : ∀ n' h', LI (t + 1) n' h' → jl_AW l G F m_Lw_law d 1405 [some (.float (z)), some (.ref (0)), some (.ref (28)), some (.ref (42)), some (.int (zI (((4 * t : Nat) : Int)))), none, none] [] n' h' ck sk) : jl_AW l G F m_Lw_law d 308 [some (.float (z)), some (.ref (0)), some (.ref (28)), some (.ref (42)), some (.int (zI (((4 * t : Nat) : Int)))), none, none] [] n h (ck + 3) (sk + 18) := by
  obtain ⟨M, hQ, okM, hrw, hX, ⟨f, hO⟩, hn, hlD, hlS, hlJ, hlC, hlF⟩ := hI
  have hz1 := scr_z G (4 * t + 1)
  have hz2 := scr_z G (4 * t + 2)
  have hz3 := scr_z G (4 * t + 3)
  obtain ⟨m, p, hs, cs, xs, sc, hD, hK⟩ := id hlD
  have hr := dK_r hK
  have hp := hK.1.2.1
  refine jl_aload_n d_Lw_law_308 rfl rfl ?_
  refine jl_sload_n d_Lw_law_309 rfl rfl ?_
  refine jl_iload d_Lw_law_310 rfl ?_
  refine jl_iconst (v := zI (1)) d_Lw_law_312 (by decide) ?_
  refine jz_iadd (v := ((4 * t + 1 : Nat) : Int)) d_Lw_law_313 (by omega) ?_
  refine jz_sld (k9 := 4 * t + 1) d_Lw_law_314 rfl (by omega) hlen ?_
  refine jl_sload_n d_Lw_law_315 rfl rfl ?_
  refine jl_iload d_Lw_law_316 rfl ?_
  refine jl_iconst (v := zI (2)) d_Lw_law_318 (by decide) ?_
  refine jz_iadd (v := ((4 * t + 2 : Nat) : Int)) d_Lw_law_319 (by omega) ?_
  refine jz_sld (k9 := 4 * t + 2) d_Lw_law_320 rfl (by omega) hlen ?_
  refine jl_aload_n d_Lw_law_321 rfl rfl ?_
  refine jl_invSH (M' := m_Lw_add) (d' := d - 1) (ck' := 3) (sk' := 18) (ck := ck) (sk := sk) (na := 4) (as := [.ref (0), .int (zI (scr G (4 * t + 1))), .int (zI (scr G (4 * t + 2))), .ref (42)]) (st := []) d_Lw_law_322 rfl mw_Lw_100 ww_Lw_add nw_Lw cw_Lw_add rfl rfl (by decide +kernel) (by omega) (Nat.le_of_ble_eq_true rfl) (Nat.le_of_ble_eq_true rfl) ?_
  refine k_Lw_add hl9 (d' := d - 2) (by omega) hX ?_
  refine k_add hl9 (by omega) hX (Or.inl (by decide)) hD hK.1 hz1 hz2 (fun hm hin hc hb9 h1 hD1 hf1 => ⟨cs (scr G (4 * t + 1)).toNat + 1, f, rfl, by rw [hf1 42 (by omega)]; exact hO, ?_⟩) (fun hm => Or.inl ⟨rfl, ?_⟩) (fun hm hno => Or.inr (Or.inl ⟨rfl, ?_⟩)) (fun hm hin hc => Or.inl ⟨rfl, ?_⟩) (fun hm hin hc hb9 => Or.inr (Or.inr ⟨rfl, ?_⟩))
  · subst hm
    obtain ⟨h2, eh2⟩ : ∃ z9, z9 = va_up h1 42 (jJ 1 (vp_updL f (zI 0).toNatClampNeg ((zI (cs (scr G (4 * t + 1)).toNat + 1)).toInt64))) := ⟨_, rfl⟩
    rw [← eh2]
    have oh2 : h2 42 = jJ 1 (vp_updL f (zI 0).toNatClampNeg ((zI (cs (scr G (4 * t + 1)).toNat + 1)).toInt64)) := by rw [eh2, va_up_self]
    have gh2 : ∀ y, y ≠ 42 → h2 y = h1 y := fun y hy => by rw [eh2, va_up_ne _ _ hy]
    show jl_AW _ _ _ _ _ 325 [some (.float (z)), some (.ref (0)), some (.ref (28)), some (.ref (42)), some (.int (zI (((4 * t : Nat) : Int)))), none, none] [.int (zI (0))] n h2 _ _
    have hM2 : jM h2 28 M := jM_fr (fun y q1 q2 => by rw [gh2 y (by omega), hf1 y (by omega)]) hQ
    have hco := (hr.2.2 (scr G (4 * t + 1)).toNat (by omega)).1
    have hin2 : 0 ≤ scr G (4 * t + 1) ∧ scr G (4 * t + 1) < M.pe (0 : Int).toNat := by rw [hr.2.1]; exact hin
    refine jl_istore (L' := [some (.float (z)), some (.ref (0)), some (.ref (28)), some (.ref (42)), some (.int (zI (((4 * t : Nat) : Int)))), some (.int (zI (0))), none]) d_Lw_law_325 (by decide) rfl ?_
    refine jl_aload_n d_Lw_law_327 rfl rfl ?_
    refine jl_sload_n d_Lw_law_328 rfl rfl ?_
    refine jl_iload d_Lw_law_329 rfl ?_
    refine jl_iconst (v := zI (1)) d_Lw_law_331 (by decide) ?_
    refine jz_iadd (v := ((4 * t + 1 : Nat) : Int)) d_Lw_law_332 (by omega) ?_
    refine jz_sld (k9 := 4 * t + 1) d_Lw_law_333 rfl (by omega) hlen ?_
    refine jl_sload_n d_Lw_law_334 rfl rfl ?_
    refine jl_iload d_Lw_law_335 rfl ?_
    refine jl_iconst (v := zI (2)) d_Lw_law_337 (by decide) ?_
    refine jz_iadd (v := ((4 * t + 2 : Nat) : Int)) d_Lw_law_338 (by omega) ?_
    refine jz_sld (k9 := 4 * t + 2) d_Lw_law_339 rfl (by omega) hlen ?_
    refine jl_invV0 (M' := m_Md_add) (d' := d - 1) (ck' := 0) (sk' := 0) (na := 2) (as := [.int (zI (scr G (4 * t + 1))), .int (zI (scr G (4 * t + 2)))]) (st := []) (x := 28) d_Lw_law_340 rfl (hM2).1 rfl mw_Lw_102 ww_Md_add sw_Md_add nw_Md cw_Md_add rfl rfl (by decide +kernel) (by omega) (Nat.le_of_ble_eq_true rfl) (Nat.le_of_ble_eq_true rfl) ?_
    refine k_M_add hl9 (by omega) hM2 okM hz1 hz2 (fun _ _ _ _ h3 hM3 hf3 => ?_) (fun q => absurd hr.1 q) (fun _ q => absurd hin2 q) (fun _ _ q => by rw [hco] at q; omega) (fun _ _ _ q => absurd hb9 q)
    show jl_AW _ _ _ _ _ 343 [some (.float (z)), some (.ref (0)), some (.ref (28)), some (.ref (42)), some (.int (zI (((4 * t : Nat) : Int)))), some (.int (zI (0))), none] [.int (zI (M.co (scr G (4 * t + 1)).toNat + 1))] n h3 _ _
    have o3 : h3 42 = jJ 1 (vp_updL f (zI 0).toNatClampNeg ((zI (cs (scr G (4 * t + 1)).toNat + 1)).toInt64)) := by rw [hf3 42 (by omega)]; exact oh2
    have fr : ∀ y, (y < 1 ∨ 6 ≤ y) → (y < 28 ∨ 43 ≤ y) → h3 y = h y := fun y q1 q2 => by rw [hf3 y (by omega), gh2 y (by omega), hf1 y q1]
    refine jl_istore (L' := [some (.float (z)), some (.ref (0)), some (.ref (28)), some (.ref (42)), some (.int (zI (((4 * t : Nat) : Int)))), some (.int (zI (0))), some (.int (zI (M.co (scr G (4 * t + 1)).toNat + 1)))]) d_Lw_law_343 (by decide) rfl ?_
    refine jl_aload_n d_Lw_law_345 rfl rfl ?_
    refine jl_invV0 (M' := m_Md_thrown) (d' := d - 1) (ck' := 0) (sk' := 0) (na := 0) (as := []) (st := []) (x := 28) d_Lw_law_346 rfl (hM3).1 rfl mw_Lw_93 ww_Md_thrown sw_Md_thrown nw_Md cw_Md_thrown rfl rfl (by decide +kernel) (by omega) (Nat.le_of_ble_eq_true rfl) (Nat.le_of_ble_eq_true rfl) ?_
    refine k_M_thrown hl9 (by omega) hM3 ?_
    show jl_AW _ _ _ _ _ 349 [some (.float (z)), some (.ref (0)), some (.ref (28)), some (.ref (42)), some (.int (zI (((4 * t : Nat) : Int)))), some (.int (zI (0))), some (.int (zI (M.co (scr G (4 * t + 1)).toNat + 1)))] [.int (zI (0))] n h3 _ _
    refine jl_iload d_Lw_law_349 rfl ?_
    refine jz_icmp_eq (tgt := 356) d_Lw_law_351 (by decide) ⟨by decide, by decide⟩ ⟨by decide, by decide⟩ (fun _ => ?_) (fun q9 => absurd rfl q9)
    refine jl_iload d_Lw_law_356 rfl ?_
    refine jz_if_ne (tgt := 373) d_Lw_law_358 (by decide) ⟨by decide, by decide⟩ (fun q9 => absurd q9 (by decide)) (fun _ => ?_)
    refine jl_aload_n d_Lw_law_361 rfl rfl ?_
    refine jl_iconst (v := zI (0)) d_Lw_law_362 (by decide) ?_
    refine jl_lald d_Lw_law_363 o3 (zI_in (by decide) (by decide) (by decide)) ?_
    refine jl_iload d_Lw_law_364 rfl ?_
    refine jl_i2l d_Lw_law_366 ?_
    refine jz_lcmp0 d_Lw_law_367 (by unfold vp_updL; rw [if_pos rfl]; rw [hco]) ?_
    refine jz_if_eq (tgt := 373) d_Lw_law_368 (by decide) ⟨by decide, by decide⟩ (fun _ => ?_) (fun q9 => absurd q9 (by decide))
    refine jl_goto (tgt := 1405) d_Lw_law_373 (by decide) ?_
    refine jl_less (L' := [some (.float (z)), some (.ref (0)), some (.ref (28)), some (.ref (42)), some (.int (zI (((4 * t : Nat) : Int)))), none, none]) ⟨rfl, rfl, rfl, rfl, rfl, trivial⟩ ?_
    have hca := hK.2.1 (scr G (4 * t + 1)).toNat (by omega)
    have hS5 : ∀ d9 : Int, 1 ≤ d9 → sm5 M (((M.wT 0).wco (va_up M.co (scr G (4 * t + 1)).toNat (M.co (scr G (4 * t + 1)).toNat + 1))).whe (va_up M.he (scr G (4 * t + 1) * 3 + M.co (scr G (4 * t + 1)).toNat).toNat (scr G (4 * t + 2)))) d9 := by
      intro d9 q1
      refine sm5_0 (fun j hj => ?_) (fun j hj => ?_) (fun j hj => ?_) (fun j hj => ?_) (fun j hj => ?_) q1
      · rfl
      · rfl
      · exact (show va_up M.he (scr G (4 * t + 1) * 3 + M.co (scr G (4 * t + 1)).toNat).toNat (scr G (4 * t + 2)) j = M.he j from va_up_ne _ _ (by rw [hco]; omega))
      · exact (show va_up M.co (scr G (4 * t + 1)).toNat (M.co (scr G (4 * t + 1)).toNat + 1) j = M.co j from va_up_ne _ _ (by omega))
      · rfl
    have hdk := dK_add (a := scr G (4 * t + 1)) (b := scr G (4 * t + 2)) hK hin hb9 hc
    exact hnext n h3 ⟨_, hM3, ⟨okM.1, okM.2.1, va_up_P (P := fun v => 0 ≤ v ∧ v ≤ 9) okM.2.2.1 hb9, va_up_P (P := fun v => 0 ≤ v ∧ v ≤ 3) okM.2.2.2.1 (by rw [hco]; omega), okM.2.2.2.2⟩, hrw, (fr 0 (by omega) (by omega)).trans hX, ⟨_, o3⟩, hn, ⟨_, _, _, _, _, sc, jD_fr (fun y q1 q2 => by rw [hf3 y (by omega), gh2 y (by omega)]) hD1, hdk⟩, lS_fr (fun y hy => fr y (by omega) (by omega)) (fun d9 q1 q2 => hS5 _ q1) hlS, lJ_fr (fun y q1 q2 => fr y (by omega) (by omega)) hlJ, lCt_fr (fun y q1 q2 => fr y (by omega) (by omega)) hlC, lF_fr (fun y q1 q2 => fr y (by omega) (by omega)) (hS5 _ (by decide)) ⟨rfl, rfl, rfl, rfl, rfl, rfl⟩ (by omega) hlF⟩
  · show jl_AW _ _ _ _ _ 325 [some (.float (z)), some (.ref (0)), some (.ref (28)), some (.ref (42)), some (.int (zI (((4 * t : Nat) : Int)))), none, none] [.int (zI (1))] n h _ _
    refine jl_istore (L' := [some (.float (z)), some (.ref (0)), some (.ref (28)), some (.ref (42)), some (.int (zI (((4 * t : Nat) : Int)))), some (.int (zI (1))), none]) d_Lw_law_325 (by decide) rfl ?_
    refine jl_aload_n d_Lw_law_327 rfl rfl ?_
    refine jl_sload_n d_Lw_law_328 rfl rfl ?_
    refine jl_iload d_Lw_law_329 rfl ?_
    refine jl_iconst (v := zI (1)) d_Lw_law_331 (by decide) ?_
    refine jz_iadd (v := ((4 * t + 1 : Nat) : Int)) d_Lw_law_332 (by omega) ?_
    refine jz_sld (k9 := 4 * t + 1) d_Lw_law_333 rfl (by omega) hlen ?_
    refine jl_sload_n d_Lw_law_334 rfl rfl ?_
    refine jl_iload d_Lw_law_335 rfl ?_
    refine jl_iconst (v := zI (2)) d_Lw_law_337 (by decide) ?_
    refine jz_iadd (v := ((4 * t + 2 : Nat) : Int)) d_Lw_law_338 (by omega) ?_
    refine jz_sld (k9 := 4 * t + 2) d_Lw_law_339 rfl (by omega) hlen ?_
    refine jl_invV0 (M' := m_Md_add) (d' := d - 1) (ck' := 0) (sk' := 0) (na := 2) (as := [.int (zI (scr G (4 * t + 1))), .int (zI (scr G (4 * t + 2)))]) (st := []) (x := 28) d_Lw_law_340 rfl (hQ).1 rfl mw_Lw_102 ww_Md_add sw_Md_add nw_Md cw_Md_add rfl rfl (by decide +kernel) (by omega) (Nat.le_of_ble_eq_true rfl) (Nat.le_of_ble_eq_true rfl) ?_
    refine k_M_add hl9 (by omega) hQ okM hz1 hz2 (fun q => absurd (hr.1.symm.trans q) hm) (fun _ h3 hM3 hf3 => ?_) (fun q => absurd (hr.1.symm.trans q) hm) (fun q => absurd (hr.1.symm.trans q) hm) (fun q => absurd (hr.1.symm.trans q) hm)
    show jl_AW _ _ _ _ _ 343 [some (.float (z)), some (.ref (0)), some (.ref (28)), some (.ref (42)), some (.int (zI (((4 * t : Nat) : Int)))), some (.int (zI (1))), none] [.int (zI (0))] n h3 _ _
    have fr : ∀ y, (y < 28 ∨ 42 ≤ y) → True → h3 y = h y := fun y q1 _ => hf3 y (by omega)
    refine jl_istore (L' := [some (.float (z)), some (.ref (0)), some (.ref (28)), some (.ref (42)), some (.int (zI (((4 * t : Nat) : Int)))), some (.int (zI (1))), some (.int (zI (0)))]) d_Lw_law_343 (by decide) rfl ?_
    refine jl_aload_n d_Lw_law_345 rfl rfl ?_
    refine jl_invV0 (M' := m_Md_thrown) (d' := d - 1) (ck' := 0) (sk' := 0) (na := 0) (as := []) (st := []) (x := 28) d_Lw_law_346 rfl (hM3).1 rfl mw_Lw_93 ww_Md_thrown sw_Md_thrown nw_Md cw_Md_thrown rfl rfl (by decide +kernel) (by omega) (Nat.le_of_ble_eq_true rfl) (Nat.le_of_ble_eq_true rfl) ?_
    refine k_M_thrown hl9 (by omega) hM3 ?_
    show jl_AW _ _ _ _ _ 349 [some (.float (z)), some (.ref (0)), some (.ref (28)), some (.ref (42)), some (.int (zI (((4 * t : Nat) : Int)))), some (.int (zI (1))), some (.int (zI (0)))] [.int (zI (1))] n h3 _ _
    refine jl_iload d_Lw_law_349 rfl ?_
    refine jz_icmp_eq (tgt := 356) d_Lw_law_351 (by decide) ⟨by decide, by decide⟩ ⟨by decide, by decide⟩ (fun _ => ?_) (fun q9 => absurd rfl q9)
    refine jl_iload d_Lw_law_356 rfl ?_
    refine jz_if_ne (tgt := 373) d_Lw_law_358 (by decide) ⟨by decide, by decide⟩ (fun _ => ?_) (fun q9 => absurd q9 (by decide))
    refine jl_goto (tgt := 1405) d_Lw_law_373 (by decide) ?_
    refine jl_less (L' := [some (.float (z)), some (.ref (0)), some (.ref (28)), some (.ref (42)), some (.int (zI (((4 * t : Nat) : Int)))), none, none]) ⟨rfl, rfl, rfl, rfl, rfl, trivial⟩ ?_
    exact hnext n h3 ⟨_, hM3, okM, hrw, (fr 0 (by omega) trivial).trans hX, ⟨f, (fr 42 (by omega) trivial).trans hO⟩, hn, lD_fr (fun y q1 q2 => fr y (by omega) trivial) ⟨rfl, rfl, fun _ _ => rfl, fun _ _ => rfl, fun _ _ => rfl⟩ hlD, lS_fr (fun y hy => fr y (by omega) trivial) (fun _ _ _ => ⟨rfl, rfl, fun _ _ => rfl, fun _ _ => rfl, fun _ _ => rfl⟩) hlS, lJ_fr (fun y q1 q2 => fr y (by omega) trivial) hlJ, lCt_fr (fun y q1 q2 => fr y (by omega) trivial) hlC, lF_fr (fun y q1 q2 => fr y (by omega) trivial) ⟨rfl, rfl, fun _ _ => rfl, fun _ _ => rfl, fun _ _ => rfl⟩ ⟨rfl, rfl, rfl, rfl, rfl, rfl⟩ (by omega) hlF⟩
  · show jl_AW _ _ _ _ _ 325 [some (.float (z)), some (.ref (0)), some (.ref (28)), some (.ref (42)), some (.int (zI (((4 * t : Nat) : Int)))), none, none] [.int (zI (2))] n h _ _
    refine jl_istore (L' := [some (.float (z)), some (.ref (0)), some (.ref (28)), some (.ref (42)), some (.int (zI (((4 * t : Nat) : Int)))), some (.int (zI (2))), none]) d_Lw_law_325 (by decide) rfl ?_
    refine jl_aload_n d_Lw_law_327 rfl rfl ?_
    refine jl_sload_n d_Lw_law_328 rfl rfl ?_
    refine jl_iload d_Lw_law_329 rfl ?_
    refine jl_iconst (v := zI (1)) d_Lw_law_331 (by decide) ?_
    refine jz_iadd (v := ((4 * t + 1 : Nat) : Int)) d_Lw_law_332 (by omega) ?_
    refine jz_sld (k9 := 4 * t + 1) d_Lw_law_333 rfl (by omega) hlen ?_
    refine jl_sload_n d_Lw_law_334 rfl rfl ?_
    refine jl_iload d_Lw_law_335 rfl ?_
    refine jl_iconst (v := zI (2)) d_Lw_law_337 (by decide) ?_
    refine jz_iadd (v := ((4 * t + 2 : Nat) : Int)) d_Lw_law_338 (by omega) ?_
    refine jz_sld (k9 := 4 * t + 2) d_Lw_law_339 rfl (by omega) hlen ?_
    refine jl_invV0 (M' := m_Md_add) (d' := d - 1) (ck' := 0) (sk' := 0) (na := 2) (as := [.int (zI (scr G (4 * t + 1))), .int (zI (scr G (4 * t + 2)))]) (st := []) (x := 28) d_Lw_law_340 rfl (hQ).1 rfl mw_Lw_102 ww_Md_add sw_Md_add nw_Md cw_Md_add rfl rfl (by decide +kernel) (by omega) (Nat.le_of_ble_eq_true rfl) (Nat.le_of_ble_eq_true rfl) ?_
    refine k_M_add hl9 (by omega) hQ okM hz1 hz2 (fun _ q => absurd (by rw [hr.2.1] at q; exact q) hno) (fun q => absurd (hr.1.trans hm) q) (fun _ _ h3 hM3 hf3 => ?_) (fun _ q => absurd (by rw [hr.2.1] at q; exact q) hno) (fun _ q => absurd (by rw [hr.2.1] at q; exact q) hno)
    show jl_AW _ _ _ _ _ 343 [some (.float (z)), some (.ref (0)), some (.ref (28)), some (.ref (42)), some (.int (zI (((4 * t : Nat) : Int)))), some (.int (zI (2))), none] [.int (zI (0))] n h3 _ _
    have fr : ∀ y, (y < 28 ∨ 42 ≤ y) → True → h3 y = h y := fun y q1 _ => hf3 y (by omega)
    refine jl_istore (L' := [some (.float (z)), some (.ref (0)), some (.ref (28)), some (.ref (42)), some (.int (zI (((4 * t : Nat) : Int)))), some (.int (zI (2))), some (.int (zI (0)))]) d_Lw_law_343 (by decide) rfl ?_
    refine jl_aload_n d_Lw_law_345 rfl rfl ?_
    refine jl_invV0 (M' := m_Md_thrown) (d' := d - 1) (ck' := 0) (sk' := 0) (na := 0) (as := []) (st := []) (x := 28) d_Lw_law_346 rfl (hM3).1 rfl mw_Lw_93 ww_Md_thrown sw_Md_thrown nw_Md cw_Md_thrown rfl rfl (by decide +kernel) (by omega) (Nat.le_of_ble_eq_true rfl) (Nat.le_of_ble_eq_true rfl) ?_
    refine k_M_thrown hl9 (by omega) hM3 ?_
    show jl_AW _ _ _ _ _ 349 [some (.float (z)), some (.ref (0)), some (.ref (28)), some (.ref (42)), some (.int (zI (((4 * t : Nat) : Int)))), some (.int (zI (2))), some (.int (zI (0)))] [.int (zI (2))] n h3 _ _
    refine jl_iload d_Lw_law_349 rfl ?_
    refine jz_icmp_eq (tgt := 356) d_Lw_law_351 (by decide) ⟨by decide, by decide⟩ ⟨by decide, by decide⟩ (fun _ => ?_) (fun q9 => absurd rfl q9)
    refine jl_iload d_Lw_law_356 rfl ?_
    refine jz_if_ne (tgt := 373) d_Lw_law_358 (by decide) ⟨by decide, by decide⟩ (fun _ => ?_) (fun q9 => absurd q9 (by decide))
    refine jl_goto (tgt := 1405) d_Lw_law_373 (by decide) ?_
    refine jl_less (L' := [some (.float (z)), some (.ref (0)), some (.ref (28)), some (.ref (42)), some (.int (zI (((4 * t : Nat) : Int)))), none, none]) ⟨rfl, rfl, rfl, rfl, rfl, trivial⟩ ?_
    exact hnext n h3 ⟨_, hM3, okM, hrw, (fr 0 (by omega) trivial).trans hX, ⟨f, (fr 42 (by omega) trivial).trans hO⟩, hn, lD_fr (fun y q1 q2 => fr y (by omega) trivial) ⟨rfl, rfl, fun _ _ => rfl, fun _ _ => rfl, fun _ _ => rfl⟩ hlD, lS_fr (fun y hy => fr y (by omega) trivial) (fun _ _ _ => ⟨rfl, rfl, fun _ _ => rfl, fun _ _ => rfl, fun _ _ => rfl⟩) hlS, lJ_fr (fun y q1 q2 => fr y (by omega) trivial) hlJ, lCt_fr (fun y q1 q2 => fr y (by omega) trivial) hlC, lF_fr (fun y q1 q2 => fr y (by omega) trivial) ⟨rfl, rfl, fun _ _ => rfl, fun _ _ => rfl, fun _ _ => rfl⟩ ⟨rfl, rfl, rfl, rfl, rfl, rfl⟩ (by omega) hlF⟩
  · show jl_AW _ _ _ _ _ 325 [some (.float (z)), some (.ref (0)), some (.ref (28)), some (.ref (42)), some (.int (zI (((4 * t : Nat) : Int)))), none, none] [.int (zI (1))] n h _ _
    have hco := (hr.2.2 (scr G (4 * t + 1)).toNat (by omega)).1
    refine jl_istore (L' := [some (.float (z)), some (.ref (0)), some (.ref (28)), some (.ref (42)), some (.int (zI (((4 * t : Nat) : Int)))), some (.int (zI (1))), none]) d_Lw_law_325 (by decide) rfl ?_
    refine jl_aload_n d_Lw_law_327 rfl rfl ?_
    refine jl_sload_n d_Lw_law_328 rfl rfl ?_
    refine jl_iload d_Lw_law_329 rfl ?_
    refine jl_iconst (v := zI (1)) d_Lw_law_331 (by decide) ?_
    refine jz_iadd (v := ((4 * t + 1 : Nat) : Int)) d_Lw_law_332 (by omega) ?_
    refine jz_sld (k9 := 4 * t + 1) d_Lw_law_333 rfl (by omega) hlen ?_
    refine jl_sload_n d_Lw_law_334 rfl rfl ?_
    refine jl_iload d_Lw_law_335 rfl ?_
    refine jl_iconst (v := zI (2)) d_Lw_law_337 (by decide) ?_
    refine jz_iadd (v := ((4 * t + 2 : Nat) : Int)) d_Lw_law_338 (by omega) ?_
    refine jz_sld (k9 := 4 * t + 2) d_Lw_law_339 rfl (by omega) hlen ?_
    refine jl_invV0 (M' := m_Md_add) (d' := d - 1) (ck' := 0) (sk' := 0) (na := 2) (as := [.int (zI (scr G (4 * t + 1))), .int (zI (scr G (4 * t + 2)))]) (st := []) (x := 28) d_Lw_law_340 rfl (hQ).1 rfl mw_Lw_102 ww_Md_add sw_Md_add nw_Md cw_Md_add rfl rfl (by decide +kernel) (by omega) (Nat.le_of_ble_eq_true rfl) (Nat.le_of_ble_eq_true rfl) ?_
    refine k_M_add hl9 (by omega) hQ okM hz1 hz2 (fun _ _ q => absurd (by rw [hco]; have := hK.2.1 (scr G (4 * t + 1)).toNat (by omega); omega) q) (fun q => absurd (hr.1.trans hm) q) (fun _ q => absurd (show 0 ≤ scr G (4 * t + 1) ∧ scr G (4 * t + 1) < M.pe (0 : Int).toNat by rw [hr.2.1]; exact hin) q) (fun _ _ _ h3 hM3 hf3 => ?_) (fun _ _ q => absurd (by rw [hco]; have := hK.2.1 (scr G (4 * t + 1)).toNat (by omega); omega) q)
    show jl_AW _ _ _ _ _ 343 [some (.float (z)), some (.ref (0)), some (.ref (28)), some (.ref (42)), some (.int (zI (((4 * t : Nat) : Int)))), some (.int (zI (1))), none] [.int (zI (0))] n h3 _ _
    have fr : ∀ y, (y < 28 ∨ 42 ≤ y) → True → h3 y = h y := fun y q1 _ => hf3 y (by omega)
    refine jl_istore (L' := [some (.float (z)), some (.ref (0)), some (.ref (28)), some (.ref (42)), some (.int (zI (((4 * t : Nat) : Int)))), some (.int (zI (1))), some (.int (zI (0)))]) d_Lw_law_343 (by decide) rfl ?_
    refine jl_aload_n d_Lw_law_345 rfl rfl ?_
    refine jl_invV0 (M' := m_Md_thrown) (d' := d - 1) (ck' := 0) (sk' := 0) (na := 0) (as := []) (st := []) (x := 28) d_Lw_law_346 rfl (hM3).1 rfl mw_Lw_93 ww_Md_thrown sw_Md_thrown nw_Md cw_Md_thrown rfl rfl (by decide +kernel) (by omega) (Nat.le_of_ble_eq_true rfl) (Nat.le_of_ble_eq_true rfl) ?_
    refine k_M_thrown hl9 (by omega) hM3 ?_
    show jl_AW _ _ _ _ _ 349 [some (.float (z)), some (.ref (0)), some (.ref (28)), some (.ref (42)), some (.int (zI (((4 * t : Nat) : Int)))), some (.int (zI (1))), some (.int (zI (0)))] [.int (zI (1))] n h3 _ _
    refine jl_iload d_Lw_law_349 rfl ?_
    refine jz_icmp_eq (tgt := 356) d_Lw_law_351 (by decide) ⟨by decide, by decide⟩ ⟨by decide, by decide⟩ (fun _ => ?_) (fun q9 => absurd rfl q9)
    refine jl_iload d_Lw_law_356 rfl ?_
    refine jz_if_ne (tgt := 373) d_Lw_law_358 (by decide) ⟨by decide, by decide⟩ (fun _ => ?_) (fun q9 => absurd q9 (by decide))
    refine jl_goto (tgt := 1405) d_Lw_law_373 (by decide) ?_
    refine jl_less (L' := [some (.float (z)), some (.ref (0)), some (.ref (28)), some (.ref (42)), some (.int (zI (((4 * t : Nat) : Int)))), none, none]) ⟨rfl, rfl, rfl, rfl, rfl, trivial⟩ ?_
    exact hnext n h3 ⟨_, hM3, okM, hrw, (fr 0 (by omega) trivial).trans hX, ⟨f, (fr 42 (by omega) trivial).trans hO⟩, hn, lD_fr (fun y q1 q2 => fr y (by omega) trivial) ⟨rfl, rfl, fun _ _ => rfl, fun _ _ => rfl, fun _ _ => rfl⟩ hlD, lS_fr (fun y hy => fr y (by omega) trivial) (fun _ _ _ => ⟨rfl, rfl, fun _ _ => rfl, fun _ _ => rfl, fun _ _ => rfl⟩) hlS, lJ_fr (fun y q1 q2 => fr y (by omega) trivial) hlJ, lCt_fr (fun y q1 q2 => fr y (by omega) trivial) hlC, lF_fr (fun y q1 q2 => fr y (by omega) trivial) ⟨rfl, rfl, fun _ _ => rfl, fun _ _ => rfl, fun _ _ => rfl⟩ ⟨rfl, rfl, rfl, rfl, rfl, rfl⟩ (by omega) hlF⟩
  · show jl_AW _ _ _ _ _ 325 [some (.float (z)), some (.ref (0)), some (.ref (28)), some (.ref (42)), some (.int (zI (((4 * t : Nat) : Int)))), none, none] [.int (zI (3))] n h _ _
    have hco := (hr.2.2 (scr G (4 * t + 1)).toNat (by omega)).1
    refine jl_istore (L' := [some (.float (z)), some (.ref (0)), some (.ref (28)), some (.ref (42)), some (.int (zI (((4 * t : Nat) : Int)))), some (.int (zI (3))), none]) d_Lw_law_325 (by decide) rfl ?_
    refine jl_aload_n d_Lw_law_327 rfl rfl ?_
    refine jl_sload_n d_Lw_law_328 rfl rfl ?_
    refine jl_iload d_Lw_law_329 rfl ?_
    refine jl_iconst (v := zI (1)) d_Lw_law_331 (by decide) ?_
    refine jz_iadd (v := ((4 * t + 1 : Nat) : Int)) d_Lw_law_332 (by omega) ?_
    refine jz_sld (k9 := 4 * t + 1) d_Lw_law_333 rfl (by omega) hlen ?_
    refine jl_sload_n d_Lw_law_334 rfl rfl ?_
    refine jl_iload d_Lw_law_335 rfl ?_
    refine jl_iconst (v := zI (2)) d_Lw_law_337 (by decide) ?_
    refine jz_iadd (v := ((4 * t + 2 : Nat) : Int)) d_Lw_law_338 (by omega) ?_
    refine jz_sld (k9 := 4 * t + 2) d_Lw_law_339 rfl (by omega) hlen ?_
    refine jl_invV0 (M' := m_Md_add) (d' := d - 1) (ck' := 0) (sk' := 0) (na := 2) (as := [.int (zI (scr G (4 * t + 1))), .int (zI (scr G (4 * t + 2)))]) (st := []) (x := 28) d_Lw_law_340 rfl (hQ).1 rfl mw_Lw_102 ww_Md_add sw_Md_add nw_Md cw_Md_add rfl rfl (by decide +kernel) (by omega) (Nat.le_of_ble_eq_true rfl) (Nat.le_of_ble_eq_true rfl) ?_
    refine k_M_add hl9 (by omega) hQ okM hz1 hz2 (fun _ _ _ q => absurd q hb9) (fun q => absurd (hr.1.trans hm) q) (fun _ q => absurd (show 0 ≤ scr G (4 * t + 1) ∧ scr G (4 * t + 1) < M.pe (0 : Int).toNat by rw [hr.2.1]; exact hin) q) (fun _ _ q => by rw [hco] at q; omega) (fun _ _ _ _ h3 hM3 hf3 => ?_)
    show jl_AW _ _ _ _ _ 343 [some (.float (z)), some (.ref (0)), some (.ref (28)), some (.ref (42)), some (.int (zI (((4 * t : Nat) : Int)))), some (.int (zI (3))), none] [.int (zI (0))] n h3 _ _
    have fr : ∀ y, (y < 28 ∨ 42 ≤ y) → True → h3 y = h y := fun y q1 _ => hf3 y (by omega)
    refine jl_istore (L' := [some (.float (z)), some (.ref (0)), some (.ref (28)), some (.ref (42)), some (.int (zI (((4 * t : Nat) : Int)))), some (.int (zI (3))), some (.int (zI (0)))]) d_Lw_law_343 (by decide) rfl ?_
    refine jl_aload_n d_Lw_law_345 rfl rfl ?_
    refine jl_invV0 (M' := m_Md_thrown) (d' := d - 1) (ck' := 0) (sk' := 0) (na := 0) (as := []) (st := []) (x := 28) d_Lw_law_346 rfl (hM3).1 rfl mw_Lw_93 ww_Md_thrown sw_Md_thrown nw_Md cw_Md_thrown rfl rfl (by decide +kernel) (by omega) (Nat.le_of_ble_eq_true rfl) (Nat.le_of_ble_eq_true rfl) ?_
    refine k_M_thrown hl9 (by omega) hM3 ?_
    show jl_AW _ _ _ _ _ 349 [some (.float (z)), some (.ref (0)), some (.ref (28)), some (.ref (42)), some (.int (zI (((4 * t : Nat) : Int)))), some (.int (zI (3))), some (.int (zI (0)))] [.int (zI (3))] n h3 _ _
    refine jl_iload d_Lw_law_349 rfl ?_
    refine jz_icmp_eq (tgt := 356) d_Lw_law_351 (by decide) ⟨by decide, by decide⟩ ⟨by decide, by decide⟩ (fun _ => ?_) (fun q9 => absurd rfl q9)
    refine jl_iload d_Lw_law_356 rfl ?_
    refine jz_if_ne (tgt := 373) d_Lw_law_358 (by decide) ⟨by decide, by decide⟩ (fun _ => ?_) (fun q9 => absurd q9 (by decide))
    refine jl_goto (tgt := 1405) d_Lw_law_373 (by decide) ?_
    refine jl_less (L' := [some (.float (z)), some (.ref (0)), some (.ref (28)), some (.ref (42)), some (.int (zI (((4 * t : Nat) : Int)))), none, none]) ⟨rfl, rfl, rfl, rfl, rfl, trivial⟩ ?_
    exact hnext n h3 ⟨_, hM3, okM, hrw, (fr 0 (by omega) trivial).trans hX, ⟨f, (fr 42 (by omega) trivial).trans hO⟩, hn, lD_fr (fun y q1 q2 => fr y (by omega) trivial) ⟨rfl, rfl, fun _ _ => rfl, fun _ _ => rfl, fun _ _ => rfl⟩ hlD, lS_fr (fun y hy => fr y (by omega) trivial) (fun _ _ _ => ⟨rfl, rfl, fun _ _ => rfl, fun _ _ => rfl, fun _ _ => rfl⟩) hlS, lJ_fr (fun y q1 q2 => fr y (by omega) trivial) hlJ, lCt_fr (fun y q1 q2 => fr y (by omega) trivial) hlC, lF_fr (fun y q1 q2 => fr y (by omega) trivial) ⟨rfl, rfl, fun _ _ => rfl, fun _ _ => rfl, fun _ _ => rfl⟩ ⟨rfl, rfl, rfl, rfl, rfl, rfl⟩ (by omega) hlF⟩
set_option maxHeartbeats 4000000 in
set_option maxRecDepth 100000 in
theorem lw_valid {l : Launch} {G : jl_G} {F : List Frame → Array Value → State → Nat → Nat → (Nat → Nat) → Nat → State → Prop} {d n t ck sk : Nat} {h : Nat → va_E} {z : UInt32} (hl9 : l.stackTraces = false) (hd9 : 20 ≤ d) (hlen : G.2.2.2.2.1 ≤ 2048) (ht : 4 * t + 4 ≤ G.2.2.2.2.1) (hI : LI t n h) (hnext : ∀ n' h', LI (t + 1) n' h' → jl_AW l G F m_Lw_law d 1405 [some (.float (z)), some (.ref (0)), some (.ref (28)), some (.ref (42)), some (.int (zI (((4 * t : Nat) : Int)))), none, none] [] n' h' ck sk) : jl_AW l G F m_Lw_law d 376 [some (.float (z)), some (.ref (0)), some (.ref (28)), some (.ref (42)), some (.int (zI (((4 * t : Nat) : Int)))), none, none] [] n h (ck + 0) (sk + 0) := by
  obtain ⟨M, hQ, okM, hrw, hX, ⟨f, hO⟩, hn, hlD, hlS, hlJ, hlC, hlF⟩ := hI
  have hz1 := scr_z G (4 * t + 1)
  have hz2 := scr_z G (4 * t + 2)
  have hz3 := scr_z G (4 * t + 3)
  obtain ⟨m, p, hs, cs, xs, sc, hD, hK⟩ := id hlD
  have hr := dK_r hK
  have hEV : sp_ev (M.mo (0 : Int).toNat) (M.pe (0 : Int).toNat) (hM M 0) (cM M 0) (xM M 0) ↔ sp_val m p hs cs xs := (sp_ev_cg hK.2.2.2.2).trans (sp_val_ev hK.1 hK.2.1).symm
  have hpe : 1 ≤ M.pe (0 : Int).toNat := by rw [hr.2.1]; exact hK.1.2.1.1
  refine jl_aload_n d_Lw_law_376 rfl rfl ?_
  refine jl_invV0 (M' := m_St_valid) (d' := d - 1) (ck' := 0) (sk' := 0) (na := 0) (as := []) (st := []) (x := 0) d_Lw_law_377 rfl hX rfl mw_Lw_103 ww_St_valid sw_St_valid nw_St cw_St_valid rfl rfl (by decide +kernel) (by omega) (Nat.le_of_ble_eq_true rfl) (Nat.le_of_ble_eq_true rfl) ?_
  refine k_valid hl9 (by omega) hX (Or.inl (by decide)) hD hK.1 (fun v1 g1 hv1 h1 eh1 => ?_)
  show jl_AW _ _ _ _ _ 380 [some (.float (z)), some (.ref (0)), some (.ref (28)), some (.ref (42)), some (.int (zI (((4 * t : Nat) : Int)))), none, none] [.int (zI (v1))] n h1 _ _
  have hlD1 : lD h1 M := by rw [eh1]; exact lD_sc hlD
  have hs1 : ∀ y, y ≠ 5 → h1 y = h y := fun y hy => by rw [eh1]; exact va_up_ne _ _ hy
  have hM2 : jM h1 28 M := jM_fr (fun y q1 q2 => hs1 y (by omega)) hQ
  have hzv : zR v1 := ⟨by have := sp_is_rg hv1; omega, by have := sp_is_rg hv1; omega⟩
  refine jl_aload_n d_Lw_law_380 rfl rfl ?_
  refine jl_invV0 (M' := m_Md_valid) (d' := d - 1) (ck' := 0) (sk' := 0) (na := 0) (as := []) (st := [.int (zI (v1))]) (x := 28) d_Lw_law_381 rfl (hM2).1 rfl mw_Lw_107 ww_Md_valid sw_Md_valid nw_Md cw_Md_valid rfl rfl (by decide +kernel) (by omega) (Nat.le_of_ble_eq_true rfl) (Nat.le_of_ble_eq_true rfl) ?_
  refine k_M_valid hl9 (by omega) hM2 okM hpe (fun v2 hv2 h3 hM3 hf3 => ?_)
  show jl_AW _ _ _ _ _ 384 [some (.float (z)), some (.ref (0)), some (.ref (28)), some (.ref (42)), some (.int (zI (((4 * t : Nat) : Int)))), none, none] [.int (zI (v2)), .int (zI (v1))] n h3 _ _
  have ev : v1 = v2 := sp_is_u hv1 hv2 hEV.symm
  subst ev
  refine jz_icmp_eq (tgt := 1405) d_Lw_law_384 (by decide) hzv hzv (fun _ => ?_) (fun q9 => absurd rfl q9)
  have fr : ∀ y, (y < 1 ∨ 6 ≤ y) → (y < 28 ∨ 42 ≤ y) → h3 y = h y := fun y q1 q2 => by rw [hf3 y (by omega), hs1 y (by omega)]
  exact hnext n h3 ⟨_, hM3, okM, hrw, (fr 0 (by omega) (by omega)).trans hX, ⟨f, (fr 42 (by omega) (by omega)).trans hO⟩, hn, lD_fr (fun y q1 q2 => hf3 y (by omega)) ⟨rfl, rfl, fun _ _ => rfl, fun _ _ => rfl, fun _ _ => rfl⟩ hlD1, lS_fr (fun y hy => fr y (by omega) (by omega)) (fun d9 q1 q2 => ⟨rfl, rfl, fun _ _ => rfl, fun _ _ => rfl, fun _ _ => rfl⟩) hlS, lJ_fr (fun y q1 q2 => fr y (by omega) (by omega)) hlJ, lCt_fr (fun y q1 q2 => fr y (by omega) (by omega)) hlC, lF_fr (fun y q1 q2 => fr y (by omega) (by omega)) (⟨rfl, rfl, fun _ _ => rfl, fun _ _ => rfl, fun _ _ => rfl⟩) ⟨rfl, rfl, rfl, rfl, rfl, rfl⟩ (by omega) hlF⟩
set_option maxHeartbeats 4000000 in
set_option maxRecDepth 100000 in
theorem lw_clash {l : Launch} {G : jl_G} {F : List Frame → Array Value → State → Nat → Nat → (Nat → Nat) → Nat → State → Prop} {d n t ck sk : Nat} {h : Nat → va_E} {z : UInt32} (hl9 : l.stackTraces = false) (hd9 : 20 ≤ d) (hlen : G.2.2.2.2.1 ≤ 2048) (ht : 4 * t + 4 ≤ G.2.2.2.2.1) (hI : LI t n h) (hnext : ∀ n' h', LI (t + 1) n' h' → jl_AW l G F m_Lw_law d 1405 [some (.float (z)), some (.ref (0)), some (.ref (28)), some (.ref (42)), some (.int (zI (((4 * t : Nat) : Int)))), none, none] [] n' h' ck sk) : jl_AW l G F m_Lw_law d 389 [some (.float (z)), some (.ref (0)), some (.ref (28)), some (.ref (42)), some (.int (zI (((4 * t : Nat) : Int)))), none, none] [] n h (ck + 0) (sk + 0) := by
  obtain ⟨M, hQ, okM, hrw, hX, ⟨f, hO⟩, hn, hlD, hlS, hlJ, hlC, hlF⟩ := hI
  have hz1 := scr_z G (4 * t + 1)
  have hz2 := scr_z G (4 * t + 2)
  have hz3 := scr_z G (4 * t + 3)
  obtain ⟨m, p, hs, cs, xs, sc, hD, hK⟩ := id hlD
  have hr := dK_r hK
  have hEV : sp_ev (M.mo (0 : Int).toNat) (M.pe (0 : Int).toNat) (hM M 0) (cM M 0) (xM M 0) ↔ sp_val m p hs cs xs := (sp_ev_cg hK.2.2.2.2).trans (sp_val_ev hK.1 hK.2.1).symm
  have hpe : 1 ≤ M.pe (0 : Int).toNat := by rw [hr.2.1]; exact hK.1.2.1.1
  refine jl_aload_n d_Lw_law_389 rfl rfl ?_
  refine jl_invV0 (M' := m_St_clash) (d' := d - 1) (ck' := 0) (sk' := 0) (na := 0) (as := []) (st := []) (x := 0) d_Lw_law_390 rfl hX rfl mw_Lw_108 ww_St_clash sw_St_clash nw_St cw_St_clash rfl rfl (by decide +kernel) (by omega) (Nat.le_of_ble_eq_true rfl) (Nat.le_of_ble_eq_true rfl) ?_
  refine k_clash hl9 (by omega) hX (Or.inl (by decide)) hD hK.1 (fun v1 g1 hv1 h1 eh1 => ?_)
  show jl_AW _ _ _ _ _ 393 [some (.float (z)), some (.ref (0)), some (.ref (28)), some (.ref (42)), some (.int (zI (((4 * t : Nat) : Int)))), none, none] [.int (zI (v1))] n h1 _ _
  have hlD1 : lD h1 M := by rw [eh1]; exact lD_sc hlD
  have hs1 : ∀ y, y ≠ 5 → h1 y = h y := fun y hy => by rw [eh1]; exact va_up_ne _ _ hy
  have hM2 : jM h1 28 M := jM_fr (fun y q1 q2 => hs1 y (by omega)) hQ
  have hzv : zR v1 := ⟨by have := sp_clash_rg (show 0 ≤ p by have := hK.1.2.1; omega) hv1; omega, by have := sp_clash_rg (show 0 ≤ p by have := hK.1.2.1; omega) hv1; have := hK.1.2.1; omega⟩
  refine jl_aload_n d_Lw_law_393 rfl rfl ?_
  refine jl_invV0 (M' := m_Md_clash) (d' := d - 1) (ck' := 0) (sk' := 0) (na := 0) (as := []) (st := [.int (zI (v1))]) (x := 28) d_Lw_law_394 rfl (hM2).1 rfl mw_Lw_111 ww_Md_clash sw_Md_clash nw_Md cw_Md_clash rfl rfl (by decide +kernel) (by omega) (Nat.le_of_ble_eq_true rfl) (Nat.le_of_ble_eq_true rfl) ?_
  refine k_M_clash hl9 (by omega) hM2 okM hpe (fun v2 hv2 h3 hM3 hf3 => ?_)
  show jl_AW _ _ _ _ _ 397 [some (.float (z)), some (.ref (0)), some (.ref (28)), some (.ref (42)), some (.int (zI (((4 * t : Nat) : Int)))), none, none] [.int (zI (v2)), .int (zI (v1))] n h3 _ _
  have ev : v1 = v2 := sp_clash_u hv1 (mo_clash_sp hK.2.2.2.2 hK.2.1 hK.1.2.1.1 hv2)
  subst ev
  refine jz_icmp_eq (tgt := 1405) d_Lw_law_397 (by decide) hzv hzv (fun _ => ?_) (fun q9 => absurd rfl q9)
  have fr : ∀ y, (y < 1 ∨ 6 ≤ y) → (y < 28 ∨ 42 ≤ y) → h3 y = h y := fun y q1 q2 => by rw [hf3 y (by omega), hs1 y (by omega)]
  exact hnext n h3 ⟨_, hM3, okM, hrw, (fr 0 (by omega) (by omega)).trans hX, ⟨f, (fr 42 (by omega) (by omega)).trans hO⟩, hn, lD_fr (fun y q1 q2 => hf3 y (by omega)) ⟨rfl, rfl, fun _ _ => rfl, fun _ _ => rfl, fun _ _ => rfl⟩ hlD1, lS_fr (fun y hy => fr y (by omega) (by omega)) (fun d9 q1 q2 => ⟨rfl, rfl, fun _ _ => rfl, fun _ _ => rfl, fun _ _ => rfl⟩) hlS, lJ_fr (fun y q1 q2 => fr y (by omega) (by omega)) hlJ, lCt_fr (fun y q1 q2 => fr y (by omega) (by omega)) hlC, lF_fr (fun y q1 q2 => fr y (by omega) (by omega)) (⟨rfl, rfl, fun _ _ => rfl, fun _ _ => rfl, fun _ _ => rfl⟩) ⟨rfl, rfl, rfl, rfl, rfl, rfl⟩ (by omega) hlF⟩
set_option maxHeartbeats 4000000 in
set_option maxRecDepth 100000 in
theorem lw_balls {l : Launch} {G : jl_G} {F : List Frame → Array Value → State → Nat → Nat → (Nat → Nat) → Nat → State → Prop} {d n t ck sk : Nat} {h : Nat → va_E} {z : UInt32} (hl9 : l.stackTraces = false) (hd9 : 20 ≤ d) (hlen : G.2.2.2.2.1 ≤ 2048) (ht : 4 * t + 4 ≤ G.2.2.2.2.1) (hI : LI t n h) (hnext : ∀ n' h', LI (t + 1) n' h' → jl_AW l G F m_Lw_law d 1405 [some (.float (z)), some (.ref (0)), some (.ref (28)), some (.ref (42)), some (.int (zI (((4 * t : Nat) : Int)))), none, none] [] n' h' ck sk) : jl_AW l G F m_Lw_law d 402 [some (.float (z)), some (.ref (0)), some (.ref (28)), some (.ref (42)), some (.int (zI (((4 * t : Nat) : Int)))), none, none] [] n h (ck + 1) (sk + 6) := by
  obtain ⟨M, hQ, okM, hrw, hX, ⟨f, hO⟩, hn, hlD, hlS, hlJ, hlC, hlF⟩ := hI
  have hz1 := scr_z G (4 * t + 1)
  have hz2 := scr_z G (4 * t + 2)
  have hz3 := scr_z G (4 * t + 3)
  obtain ⟨m, p, hs, cs, xs, sc, hD, hK⟩ := id hlD
  have hr := dK_r hK
  have hEV : sp_ev (M.mo (0 : Int).toNat) (M.pe (0 : Int).toNat) (hM M 0) (cM M 0) (xM M 0) ↔ sp_val m p hs cs xs := (sp_ev_cg hK.2.2.2.2).trans (sp_val_ev hK.1 hK.2.1).symm
  have hpe : 1 ≤ M.pe (0 : Int).toNat := by rw [hr.2.1]; exact hK.1.2.1.1
  refine jl_aload_n d_Lw_law_402 rfl rfl ?_
  refine jl_aload_n d_Lw_law_403 rfl rfl ?_
  refine jl_invSH (M' := m_Lw_balls) (d' := d - 1) (ck' := 1) (sk' := 6) (ck := ck) (sk := sk) (na := 2) (as := [.ref (0), .ref (42)]) (st := []) d_Lw_law_404 rfl mw_Lw_112 ww_Lw_balls nw_Lw cw_Lw_balls rfl rfl (by decide +kernel) (by omega) (Nat.le_of_ble_eq_true rfl) (Nat.le_of_ble_eq_true rfl) ?_
  refine k_Lw_balls hl9 (d' := d - 2) (by omega) hX ?_
  refine k_balls hl9 (by omega) hX (Or.inl (by decide)) hD hK.1 (fun g1 hv h1 eh1 => ⟨sp_balls p hs cs, f, rfl, by rw [eh1, va_up_ne _ _ (by decide)]; exact hO, ?_⟩) (fun g1 hv h1 eh1 => ⟨rfl, ?_⟩)
  · have hlD1 : lD h1 M := by rw [eh1]; exact lD_sc hlD
    have hs1 : ∀ y, y ≠ 5 → h1 y = h y := fun y hy => by rw [eh1]; exact va_up_ne _ _ hy
    obtain ⟨h2, eh2⟩ : ∃ z9, z9 = va_up h1 42 (jJ 1 (vp_updL f (zI 0).toNatClampNeg ((zI (sp_balls p hs cs)).toInt64))) := ⟨_, rfl⟩
    rw [← eh2]
    have oh2 : h2 42 = jJ 1 (vp_updL f (zI 0).toNatClampNeg ((zI (sp_balls p hs cs)).toInt64)) := by rw [eh2, va_up_self]
    have gh2 : ∀ y, y ≠ 42 → h2 y = h1 y := fun y hy => by rw [eh2, va_up_ne _ _ hy]
    show jl_AW _ _ _ _ _ 407 [some (.float (z)), some (.ref (0)), some (.ref (28)), some (.ref (42)), some (.int (zI (((4 * t : Nat) : Int)))), none, none] [.int (zI (0))] n h2 _ _
    have hM2 : jM h2 28 M := jM_fr (fun y q1 q2 => by rw [gh2 y (by omega), hs1 y (by omega)]) hQ
    refine jl_istore (L' := [some (.float (z)), some (.ref (0)), some (.ref (28)), some (.ref (42)), some (.int (zI (((4 * t : Nat) : Int)))), some (.int (zI (0))), none]) d_Lw_law_407 (by decide) rfl ?_
    refine jl_aload_n d_Lw_law_409 rfl rfl ?_
    refine jl_invV0 (M' := m_Md_balls) (d' := d - 1) (ck' := 0) (sk' := 0) (na := 0) (as := []) (st := []) (x := 28) d_Lw_law_410 rfl (hM2).1 rfl mw_Lw_115 ww_Md_balls sw_Md_balls nw_Md cw_Md_balls rfl rfl (by decide +kernel) (by omega) (Nat.le_of_ble_eq_true rfl) (Nat.le_of_ble_eq_true rfl) ?_
    refine k_M_balls hl9 (by omega) hM2 okM hpe (fun _ h3 hM3 hf3 => ?_) (fun q => absurd (hEV.mpr hv) q)
    show jl_AW _ _ _ _ _ 413 [some (.float (z)), some (.ref (0)), some (.ref (28)), some (.ref (42)), some (.int (zI (((4 * t : Nat) : Int)))), some (.int (zI (0))), none] [.int (zI (sp_balls (M.pe (0 : Int).toNat) (hM M 0) (cM M 0)))] n h3 _ _
    have o3 : h3 42 = jJ 1 (vp_updL f (zI 0).toNatClampNeg ((zI (sp_balls p hs cs)).toInt64)) := by rw [hf3 42 (by omega)]; exact oh2
    have fr : ∀ y, (y < 1 ∨ 6 ≤ y) → (y < 28 ∨ 43 ≤ y) → h3 y = h y := fun y q1 q2 => by rw [hf3 y (by omega), gh2 y (by omega), hs1 y (by omega)]
    refine jl_istore (L' := [some (.float (z)), some (.ref (0)), some (.ref (28)), some (.ref (42)), some (.int (zI (((4 * t : Nat) : Int)))), some (.int (zI (0))), some (.int (zI (sp_balls (M.pe (0 : Int).toNat) (hM M 0) (cM M 0))))]) d_Lw_law_413 (by decide) rfl ?_
    refine jl_aload_n d_Lw_law_415 rfl rfl ?_
    refine jl_invV0 (M' := m_Md_thrown) (d' := d - 1) (ck' := 0) (sk' := 0) (na := 0) (as := []) (st := []) (x := 28) d_Lw_law_416 rfl (hM3).1 rfl mw_Lw_93 ww_Md_thrown sw_Md_thrown nw_Md cw_Md_thrown rfl rfl (by decide +kernel) (by omega) (Nat.le_of_ble_eq_true rfl) (Nat.le_of_ble_eq_true rfl) ?_
    refine k_M_thrown hl9 (by omega) hM3 ?_
    show jl_AW _ _ _ _ _ 419 [some (.float (z)), some (.ref (0)), some (.ref (28)), some (.ref (42)), some (.int (zI (((4 * t : Nat) : Int)))), some (.int (zI (0))), some (.int (zI (sp_balls (M.pe (0 : Int).toNat) (hM M 0) (cM M 0))))] [.int (zI (0))] n h3 _ _
    refine jl_iload d_Lw_law_419 rfl ?_
    refine jz_icmp_eq (tgt := 426) d_Lw_law_421 (by decide) ⟨by decide, by decide⟩ ⟨by decide, by decide⟩ (fun _ => ?_) (fun q9 => absurd rfl q9)
    refine jl_iload d_Lw_law_426 rfl ?_
    refine jz_if_ne (tgt := 443) d_Lw_law_428 (by decide) ⟨by decide, by decide⟩ (fun q9 => absurd q9 (by decide)) (fun _ => ?_)
    refine jl_aload_n d_Lw_law_431 rfl rfl ?_
    refine jl_iconst (v := zI (0)) d_Lw_law_432 (by decide) ?_
    refine jl_lald d_Lw_law_433 o3 (zI_in (by decide) (by decide) (by decide)) ?_
    refine jl_iload d_Lw_law_434 rfl ?_
    refine jl_i2l d_Lw_law_436 ?_
    refine jz_lcmp0 d_Lw_law_437 (by unfold vp_updL; rw [if_pos rfl]; rw [sp_balls_cg hK.2.2.2.2 hK.1.2.1.1]) ?_
    refine jz_if_eq (tgt := 443) d_Lw_law_438 (by decide) ⟨by decide, by decide⟩ (fun _ => ?_) (fun q9 => absurd q9 (by decide))
    refine jl_goto (tgt := 1405) d_Lw_law_443 (by decide) ?_
    refine jl_less (L' := [some (.float (z)), some (.ref (0)), some (.ref (28)), some (.ref (42)), some (.int (zI (((4 * t : Nat) : Int)))), none, none]) ⟨rfl, rfl, rfl, rfl, rfl, trivial⟩ ?_
    exact hnext n h3 ⟨_, hM3, okM, hrw, (fr 0 (by omega) (by omega)).trans hX, ⟨_, o3⟩, hn, lD_fr (fun y q1 q2 => by rw [hf3 y (by omega), gh2 y (by omega)]) ⟨rfl, rfl, fun _ _ => rfl, fun _ _ => rfl, fun _ _ => rfl⟩ hlD1, lS_fr (fun y hy => fr y (by omega) (by omega)) (fun d9 q1 q2 => ⟨rfl, rfl, fun _ _ => rfl, fun _ _ => rfl, fun _ _ => rfl⟩) hlS, lJ_fr (fun y q1 q2 => fr y (by omega) (by omega)) hlJ, lCt_fr (fun y q1 q2 => fr y (by omega) (by omega)) hlC, lF_fr (fun y q1 q2 => fr y (by omega) (by omega)) (⟨rfl, rfl, fun _ _ => rfl, fun _ _ => rfl, fun _ _ => rfl⟩) ⟨rfl, rfl, rfl, rfl, rfl, rfl⟩ (by omega) hlF⟩
  · have hlD1 : lD h1 M := by rw [eh1]; exact lD_sc hlD
    have hs1 : ∀ y, y ≠ 5 → h1 y = h y := fun y hy => by rw [eh1]; exact va_up_ne _ _ hy
    show jl_AW _ _ _ _ _ 407 [some (.float (z)), some (.ref (0)), some (.ref (28)), some (.ref (42)), some (.int (zI (((4 * t : Nat) : Int)))), none, none] [.int (zI (1))] n h1 _ _
    have hM2 : jM h1 28 M := jM_fr (fun y q1 q2 => hs1 y (by omega)) hQ
    refine jl_istore (L' := [some (.float (z)), some (.ref (0)), some (.ref (28)), some (.ref (42)), some (.int (zI (((4 * t : Nat) : Int)))), some (.int (zI (1))), none]) d_Lw_law_407 (by decide) rfl ?_
    refine jl_aload_n d_Lw_law_409 rfl rfl ?_
    refine jl_invV0 (M' := m_Md_balls) (d' := d - 1) (ck' := 0) (sk' := 0) (na := 0) (as := []) (st := []) (x := 28) d_Lw_law_410 rfl (hM2).1 rfl mw_Lw_115 ww_Md_balls sw_Md_balls nw_Md cw_Md_balls rfl rfl (by decide +kernel) (by omega) (Nat.le_of_ble_eq_true rfl) (Nat.le_of_ble_eq_true rfl) ?_
    refine k_M_balls hl9 (by omega) hM2 okM hpe (fun q => absurd (hEV.mp q) hv) (fun _ h3 hM3 hf3 => ?_)
    show jl_AW _ _ _ _ _ 413 [some (.float (z)), some (.ref (0)), some (.ref (28)), some (.ref (42)), some (.int (zI (((4 * t : Nat) : Int)))), some (.int (zI (1))), none] [.int (zI (0))] n h3 _ _
    have fr : ∀ y, (y < 1 ∨ 6 ≤ y) → (y < 28 ∨ 42 ≤ y) → h3 y = h y := fun y q1 q2 => by rw [hf3 y (by omega), hs1 y (by omega)]
    refine jl_istore (L' := [some (.float (z)), some (.ref (0)), some (.ref (28)), some (.ref (42)), some (.int (zI (((4 * t : Nat) : Int)))), some (.int (zI (1))), some (.int (zI (0)))]) d_Lw_law_413 (by decide) rfl ?_
    refine jl_aload_n d_Lw_law_415 rfl rfl ?_
    refine jl_invV0 (M' := m_Md_thrown) (d' := d - 1) (ck' := 0) (sk' := 0) (na := 0) (as := []) (st := []) (x := 28) d_Lw_law_416 rfl (hM3).1 rfl mw_Lw_93 ww_Md_thrown sw_Md_thrown nw_Md cw_Md_thrown rfl rfl (by decide +kernel) (by omega) (Nat.le_of_ble_eq_true rfl) (Nat.le_of_ble_eq_true rfl) ?_
    refine k_M_thrown hl9 (by omega) hM3 ?_
    show jl_AW _ _ _ _ _ 419 [some (.float (z)), some (.ref (0)), some (.ref (28)), some (.ref (42)), some (.int (zI (((4 * t : Nat) : Int)))), some (.int (zI (1))), some (.int (zI (0)))] [.int (zI (1))] n h3 _ _
    refine jl_iload d_Lw_law_419 rfl ?_
    refine jz_icmp_eq (tgt := 426) d_Lw_law_421 (by decide) ⟨by decide, by decide⟩ ⟨by decide, by decide⟩ (fun _ => ?_) (fun q9 => absurd rfl q9)
    refine jl_iload d_Lw_law_426 rfl ?_
    refine jz_if_ne (tgt := 443) d_Lw_law_428 (by decide) ⟨by decide, by decide⟩ (fun _ => ?_) (fun q9 => absurd q9 (by decide))
    refine jl_goto (tgt := 1405) d_Lw_law_443 (by decide) ?_
    refine jl_less (L' := [some (.float (z)), some (.ref (0)), some (.ref (28)), some (.ref (42)), some (.int (zI (((4 * t : Nat) : Int)))), none, none]) ⟨rfl, rfl, rfl, rfl, rfl, trivial⟩ ?_
    exact hnext n h3 ⟨_, hM3, okM, hrw, (fr 0 (by omega) (by omega)).trans hX, ⟨f, (fr 42 (by omega) (by omega)).trans hO⟩, hn, lD_fr (fun y q1 q2 => hf3 y (by omega)) ⟨rfl, rfl, fun _ _ => rfl, fun _ _ => rfl, fun _ _ => rfl⟩ hlD1, lS_fr (fun y hy => fr y (by omega) (by omega)) (fun d9 q1 q2 => ⟨rfl, rfl, fun _ _ => rfl, fun _ _ => rfl, fun _ _ => rfl⟩) hlS, lJ_fr (fun y q1 q2 => fr y (by omega) (by omega)) hlJ, lCt_fr (fun y q1 q2 => fr y (by omega) (by omega)) hlC, lF_fr (fun y q1 q2 => fr y (by omega) (by omega)) (⟨rfl, rfl, fun _ _ => rfl, fun _ _ => rfl, fun _ _ => rfl⟩) ⟨rfl, rfl, rfl, rfl, rfl, rfl⟩ (by omega) hlF⟩
set_option maxHeartbeats 4000000 in
set_option maxRecDepth 100000 in
theorem lw_state {l : Launch} {G : jl_G} {F : List Frame → Array Value → State → Nat → Nat → (Nat → Nat) → Nat → State → Prop} {d n t ck sk : Nat} {h : Nat → va_E} {z : UInt32} (hl9 : l.stackTraces = false) (hd9 : 20 ≤ d) (hlen : G.2.2.2.2.1 ≤ 2048) (ht : 4 * t + 4 ≤ G.2.2.2.2.1) (hI : LI t n h) (hnext : ∀ n' h', LI (t + 1) n' h' → jl_AW l G F m_Lw_law d 1405 [some (.float (z)), some (.ref (0)), some (.ref (28)), some (.ref (42)), some (.int (zI (((4 * t : Nat) : Int)))), none, none] [] n' h' ck sk) : jl_AW l G F m_Lw_law d 446 [some (.float (z)), some (.ref (0)), some (.ref (28)), some (.ref (42)), some (.int (zI (((4 * t : Nat) : Int)))), none, none] [] n h (ck + 3) (sk + 18) := by
  obtain ⟨M, hQ, okM, hrw, hX, ⟨f, hO⟩, hn, hlD, hlS, hlJ, hlC, hlF⟩ := hI
  have hz1 := scr_z G (4 * t + 1)
  have hz2 := scr_z G (4 * t + 2)
  have hz3 := scr_z G (4 * t + 3)
  obtain ⟨m, p, hs, cs, xs, sc, hD, hK⟩ := id hlD
  have hr := dK_r hK
  have hEV : sp_ev (M.mo (0 : Int).toNat) (M.pe (0 : Int).toNat) (hM M 0) (cM M 0) (xM M 0) ↔ sp_val m p hs cs xs := (sp_ev_cg hK.2.2.2.2).trans (sp_val_ev hK.1 hK.2.1).symm
  have hpe : 1 ≤ M.pe (0 : Int).toNat := by rw [hr.2.1]; exact hK.1.2.1.1
  refine jl_aload_n d_Lw_law_446 rfl rfl ?_
  refine jl_sload_n d_Lw_law_447 rfl rfl ?_
  refine jl_iload d_Lw_law_448 rfl ?_
  refine jl_iconst (v := zI (1)) d_Lw_law_450 (by decide) ?_
  refine jz_iadd (v := ((4 * t + 1 : Nat) : Int)) d_Lw_law_451 (by omega) ?_
  refine jz_sld (k9 := 4 * t + 1) d_Lw_law_452 rfl (by omega) hlen ?_
  refine jl_aload_n d_Lw_law_453 rfl rfl ?_
  refine jl_invSH (M' := m_Lw_state) (d' := d - 1) (ck' := 3) (sk' := 18) (ck := ck) (sk := sk) (na := 3) (as := [.ref (0), .int (zI (scr G (4 * t + 1))), .ref (42)]) (st := []) d_Lw_law_454 rfl mw_Lw_116 ww_Lw_state nw_Lw cw_Lw_state rfl rfl (by decide +kernel) (by omega) (Nat.le_of_ble_eq_true rfl) (Nat.le_of_ble_eq_true rfl) ?_
  refine k_Lw_state hl9 (d' := d - 2) (by omega) hX ?_
  refine k_state hl9 (by omega) hX (Or.inl (by decide)) hD hK.1 hz1 (fun hm hv hin g1 h1 eh1 => ⟨sp_st p hs (scr G (4 * t + 1)), f, rfl, by rw [eh1, va_up_ne _ _ (by decide)]; exact hO, ?_⟩) (fun hm => Or.inl ⟨rfl, ?_⟩) (fun hm g1 hv h1 eh1 => Or.inl ⟨rfl, ?_⟩) (fun hm hv hin g1 h1 eh1 => Or.inr ⟨rfl, ?_⟩)
  · have hlD1 : lD h1 M := by rw [eh1]; exact lD_sc hlD
    have hs1 : ∀ y, y ≠ 5 → h1 y = h y := fun y hy => by rw [eh1]; exact va_up_ne _ _ hy
    obtain ⟨h2, eh2⟩ : ∃ z9, z9 = va_up h1 42 (jJ 1 (vp_updL f (zI 0).toNatClampNeg ((zI (sp_st p hs (scr G (4 * t + 1)))).toInt64))) := ⟨_, rfl⟩
    rw [← eh2]
    have oh2 : h2 42 = jJ 1 (vp_updL f (zI 0).toNatClampNeg ((zI (sp_st p hs (scr G (4 * t + 1)))).toInt64)) := by rw [eh2, va_up_self]
    have gh2 : ∀ y, y ≠ 42 → h2 y = h1 y := fun y hy => by rw [eh2, va_up_ne _ _ hy]
    show jl_AW _ _ _ _ _ 457 [some (.float (z)), some (.ref (0)), some (.ref (28)), some (.ref (42)), some (.int (zI (((4 * t : Nat) : Int)))), none, none] [.int (zI (0))] n h2 _ _
    have hM2 : jM h2 28 M := jM_fr (fun y q1 q2 => by rw [gh2 y (by omega), hs1 y (by omega)]) hQ
    refine jl_istore (L' := [some (.float (z)), some (.ref (0)), some (.ref (28)), some (.ref (42)), some (.int (zI (((4 * t : Nat) : Int)))), some (.int (zI (0))), none]) d_Lw_law_457 (by decide) rfl ?_
    refine jl_aload_n d_Lw_law_459 rfl rfl ?_
    refine jl_sload_n d_Lw_law_460 rfl rfl ?_
    refine jl_iload d_Lw_law_461 rfl ?_
    refine jl_iconst (v := zI (1)) d_Lw_law_463 (by decide) ?_
    refine jz_iadd (v := ((4 * t + 1 : Nat) : Int)) d_Lw_law_464 (by omega) ?_
    refine jz_sld (k9 := 4 * t + 1) d_Lw_law_465 rfl (by omega) hlen ?_
    refine jl_invV0 (M' := m_Md_state) (d' := d - 1) (ck' := 0) (sk' := 0) (na := 1) (as := [.int (zI (scr G (4 * t + 1)))]) (st := []) (x := 28) d_Lw_law_466 rfl (hM2).1 rfl mw_Lw_119 ww_Md_state sw_Md_state nw_Md cw_Md_state rfl rfl (by decide +kernel) (by omega) (Nat.le_of_ble_eq_true rfl) (Nat.le_of_ble_eq_true rfl) ?_
    refine k_M_state hl9 (by omega) hM2 okM hpe hz1 (fun _ _ h3 hM3 hf3 => ?_) (fun q => absurd ⟨hr.1.trans hm, hEV.mpr hv⟩ q) (fun _ q => absurd (by rw [hr.2.1]; exact hin) q)
    show jl_AW _ _ _ _ _ 469 [some (.float (z)), some (.ref (0)), some (.ref (28)), some (.ref (42)), some (.int (zI (((4 * t : Nat) : Int)))), some (.int (zI (0))), none] [.int (zI (sp_st (M.pe (0 : Int).toNat) (hM M 0) (scr G (4 * t + 1))))] n h3 _ _
    have o3 : h3 42 = jJ 1 (vp_updL f (zI 0).toNatClampNeg ((zI (sp_st p hs (scr G (4 * t + 1)))).toInt64)) := by rw [hf3 42 (by omega)]; exact oh2
    have fr : ∀ y, (y < 1 ∨ 6 ≤ y) → (y < 28 ∨ 43 ≤ y) → h3 y = h y := fun y q1 q2 => by rw [hf3 y (by omega), gh2 y (by omega), hs1 y (by omega)]
    refine jl_istore (L' := [some (.float (z)), some (.ref (0)), some (.ref (28)), some (.ref (42)), some (.int (zI (((4 * t : Nat) : Int)))), some (.int (zI (0))), some (.int (zI (sp_st (M.pe (0 : Int).toNat) (hM M 0) (scr G (4 * t + 1)))))]) d_Lw_law_469 (by decide) rfl ?_
    refine jl_aload_n d_Lw_law_471 rfl rfl ?_
    refine jl_invV0 (M' := m_Md_thrown) (d' := d - 1) (ck' := 0) (sk' := 0) (na := 0) (as := []) (st := []) (x := 28) d_Lw_law_472 rfl (hM3).1 rfl mw_Lw_93 ww_Md_thrown sw_Md_thrown nw_Md cw_Md_thrown rfl rfl (by decide +kernel) (by omega) (Nat.le_of_ble_eq_true rfl) (Nat.le_of_ble_eq_true rfl) ?_
    refine k_M_thrown hl9 (by omega) hM3 ?_
    show jl_AW _ _ _ _ _ 475 [some (.float (z)), some (.ref (0)), some (.ref (28)), some (.ref (42)), some (.int (zI (((4 * t : Nat) : Int)))), some (.int (zI (0))), some (.int (zI (sp_st (M.pe (0 : Int).toNat) (hM M 0) (scr G (4 * t + 1)))))] [.int (zI (0))] n h3 _ _
    refine jl_iload d_Lw_law_475 rfl ?_
    refine jz_icmp_eq (tgt := 482) d_Lw_law_477 (by decide) ⟨by decide, by decide⟩ ⟨by decide, by decide⟩ (fun _ => ?_) (fun q9 => absurd rfl q9)
    refine jl_iload d_Lw_law_482 rfl ?_
    refine jz_if_ne (tgt := 499) d_Lw_law_484 (by decide) ⟨by decide, by decide⟩ (fun q9 => absurd q9 (by decide)) (fun _ => ?_)
    refine jl_aload_n d_Lw_law_487 rfl rfl ?_
    refine jl_iconst (v := zI (0)) d_Lw_law_488 (by decide) ?_
    refine jl_lald d_Lw_law_489 o3 (zI_in (by decide) (by decide) (by decide)) ?_
    refine jl_iload d_Lw_law_490 rfl ?_
    refine jl_i2l d_Lw_law_492 ?_
    refine jz_lcmp0 d_Lw_law_493 (by unfold vp_updL; rw [if_pos rfl]; rw [sp_st_rl hK.2.2.2.2 hK.2.1 hK.1.2.1.1]) ?_
    refine jz_if_eq (tgt := 499) d_Lw_law_494 (by decide) ⟨by decide, by decide⟩ (fun _ => ?_) (fun q9 => absurd q9 (by decide))
    refine jl_goto (tgt := 1405) d_Lw_law_499 (by decide) ?_
    refine jl_less (L' := [some (.float (z)), some (.ref (0)), some (.ref (28)), some (.ref (42)), some (.int (zI (((4 * t : Nat) : Int)))), none, none]) ⟨rfl, rfl, rfl, rfl, rfl, trivial⟩ ?_
    exact hnext n h3 ⟨_, hM3, okM, hrw, (fr 0 (by omega) (by omega)).trans hX, ⟨_, o3⟩, hn, lD_fr (fun y q1 q2 => by rw [hf3 y (by omega), gh2 y (by omega)]) ⟨rfl, rfl, fun _ _ => rfl, fun _ _ => rfl, fun _ _ => rfl⟩ hlD1, lS_fr (fun y hy => fr y (by omega) (by omega)) (fun d9 q1 q2 => ⟨rfl, rfl, fun _ _ => rfl, fun _ _ => rfl, fun _ _ => rfl⟩) hlS, lJ_fr (fun y q1 q2 => fr y (by omega) (by omega)) hlJ, lCt_fr (fun y q1 q2 => fr y (by omega) (by omega)) hlC, lF_fr (fun y q1 q2 => fr y (by omega) (by omega)) (⟨rfl, rfl, fun _ _ => rfl, fun _ _ => rfl, fun _ _ => rfl⟩) ⟨rfl, rfl, rfl, rfl, rfl, rfl⟩ (by omega) hlF⟩
  · show jl_AW _ _ _ _ _ 457 [some (.float (z)), some (.ref (0)), some (.ref (28)), some (.ref (42)), some (.int (zI (((4 * t : Nat) : Int)))), none, none] [.int (zI (1))] n h _ _
    refine jl_istore (L' := [some (.float (z)), some (.ref (0)), some (.ref (28)), some (.ref (42)), some (.int (zI (((4 * t : Nat) : Int)))), some (.int (zI (1))), none]) d_Lw_law_457 (by decide) rfl ?_
    refine jl_aload_n d_Lw_law_459 rfl rfl ?_
    refine jl_sload_n d_Lw_law_460 rfl rfl ?_
    refine jl_iload d_Lw_law_461 rfl ?_
    refine jl_iconst (v := zI (1)) d_Lw_law_463 (by decide) ?_
    refine jz_iadd (v := ((4 * t + 1 : Nat) : Int)) d_Lw_law_464 (by omega) ?_
    refine jz_sld (k9 := 4 * t + 1) d_Lw_law_465 rfl (by omega) hlen ?_
    refine jl_invV0 (M' := m_Md_state) (d' := d - 1) (ck' := 0) (sk' := 0) (na := 1) (as := [.int (zI (scr G (4 * t + 1)))]) (st := []) (x := 28) d_Lw_law_466 rfl (hQ).1 rfl mw_Lw_119 ww_Md_state sw_Md_state nw_Md cw_Md_state rfl rfl (by decide +kernel) (by omega) (Nat.le_of_ble_eq_true rfl) (Nat.le_of_ble_eq_true rfl) ?_
    refine k_M_state hl9 (by omega) hQ okM hpe hz1 (fun q => absurd (hr.1.symm.trans q.1) hm) (fun _ h3 hM3 hf3 => ?_) (fun q => absurd (hr.1.symm.trans q.1) hm)
    show jl_AW _ _ _ _ _ 469 [some (.float (z)), some (.ref (0)), some (.ref (28)), some (.ref (42)), some (.int (zI (((4 * t : Nat) : Int)))), some (.int (zI (1))), none] [.int (zI (0))] n h3 _ _
    have fr : ∀ y, (y < 28 ∨ 42 ≤ y) → True → h3 y = h y := fun y q1 _ => hf3 y (by omega)
    refine jl_istore (L' := [some (.float (z)), some (.ref (0)), some (.ref (28)), some (.ref (42)), some (.int (zI (((4 * t : Nat) : Int)))), some (.int (zI (1))), some (.int (zI (0)))]) d_Lw_law_469 (by decide) rfl ?_
    refine jl_aload_n d_Lw_law_471 rfl rfl ?_
    refine jl_invV0 (M' := m_Md_thrown) (d' := d - 1) (ck' := 0) (sk' := 0) (na := 0) (as := []) (st := []) (x := 28) d_Lw_law_472 rfl (hM3).1 rfl mw_Lw_93 ww_Md_thrown sw_Md_thrown nw_Md cw_Md_thrown rfl rfl (by decide +kernel) (by omega) (Nat.le_of_ble_eq_true rfl) (Nat.le_of_ble_eq_true rfl) ?_
    refine k_M_thrown hl9 (by omega) hM3 ?_
    show jl_AW _ _ _ _ _ 475 [some (.float (z)), some (.ref (0)), some (.ref (28)), some (.ref (42)), some (.int (zI (((4 * t : Nat) : Int)))), some (.int (zI (1))), some (.int (zI (0)))] [.int (zI (1))] n h3 _ _
    refine jl_iload d_Lw_law_475 rfl ?_
    refine jz_icmp_eq (tgt := 482) d_Lw_law_477 (by decide) ⟨by decide, by decide⟩ ⟨by decide, by decide⟩ (fun _ => ?_) (fun q9 => absurd rfl q9)
    refine jl_iload d_Lw_law_482 rfl ?_
    refine jz_if_ne (tgt := 499) d_Lw_law_484 (by decide) ⟨by decide, by decide⟩ (fun _ => ?_) (fun q9 => absurd q9 (by decide))
    refine jl_goto (tgt := 1405) d_Lw_law_499 (by decide) ?_
    refine jl_less (L' := [some (.float (z)), some (.ref (0)), some (.ref (28)), some (.ref (42)), some (.int (zI (((4 * t : Nat) : Int)))), none, none]) ⟨rfl, rfl, rfl, rfl, rfl, trivial⟩ ?_
    exact hnext n h3 ⟨_, hM3, okM, hrw, (fr 0 (by omega) trivial).trans hX, ⟨f, (fr 42 (by omega) trivial).trans hO⟩, hn, lD_fr (fun y q1 q2 => fr y (by omega) trivial) ⟨rfl, rfl, fun _ _ => rfl, fun _ _ => rfl, fun _ _ => rfl⟩ hlD, lS_fr (fun y hy => fr y (by omega) trivial) (fun _ _ _ => ⟨rfl, rfl, fun _ _ => rfl, fun _ _ => rfl, fun _ _ => rfl⟩) hlS, lJ_fr (fun y q1 q2 => fr y (by omega) trivial) hlJ, lCt_fr (fun y q1 q2 => fr y (by omega) trivial) hlC, lF_fr (fun y q1 q2 => fr y (by omega) trivial) ⟨rfl, rfl, fun _ _ => rfl, fun _ _ => rfl, fun _ _ => rfl⟩ ⟨rfl, rfl, rfl, rfl, rfl, rfl⟩ (by omega) hlF⟩
  · have hlD1 : lD h1 M := by rw [eh1]; exact lD_sc hlD
    have hs1 : ∀ y, y ≠ 5 → h1 y = h y := fun y hy => by rw [eh1]; exact va_up_ne _ _ hy
    show jl_AW _ _ _ _ _ 457 [some (.float (z)), some (.ref (0)), some (.ref (28)), some (.ref (42)), some (.int (zI (((4 * t : Nat) : Int)))), none, none] [.int (zI (1))] n h1 _ _
    have hM2 : jM h1 28 M := jM_fr (fun y q1 q2 => hs1 y (by omega)) hQ
    refine jl_istore (L' := [some (.float (z)), some (.ref (0)), some (.ref (28)), some (.ref (42)), some (.int (zI (((4 * t : Nat) : Int)))), some (.int (zI (1))), none]) d_Lw_law_457 (by decide) rfl ?_
    refine jl_aload_n d_Lw_law_459 rfl rfl ?_
    refine jl_sload_n d_Lw_law_460 rfl rfl ?_
    refine jl_iload d_Lw_law_461 rfl ?_
    refine jl_iconst (v := zI (1)) d_Lw_law_463 (by decide) ?_
    refine jz_iadd (v := ((4 * t + 1 : Nat) : Int)) d_Lw_law_464 (by omega) ?_
    refine jz_sld (k9 := 4 * t + 1) d_Lw_law_465 rfl (by omega) hlen ?_
    refine jl_invV0 (M' := m_Md_state) (d' := d - 1) (ck' := 0) (sk' := 0) (na := 1) (as := [.int (zI (scr G (4 * t + 1)))]) (st := []) (x := 28) d_Lw_law_466 rfl (hM2).1 rfl mw_Lw_119 ww_Md_state sw_Md_state nw_Md cw_Md_state rfl rfl (by decide +kernel) (by omega) (Nat.le_of_ble_eq_true rfl) (Nat.le_of_ble_eq_true rfl) ?_
    refine k_M_state hl9 (by omega) hM2 okM hpe hz1 (fun q => absurd (hEV.mp q.2) hv) (fun _ h3 hM3 hf3 => ?_) (fun q => absurd (hEV.mp q.2) hv)
    show jl_AW _ _ _ _ _ 469 [some (.float (z)), some (.ref (0)), some (.ref (28)), some (.ref (42)), some (.int (zI (((4 * t : Nat) : Int)))), some (.int (zI (1))), none] [.int (zI (0))] n h3 _ _
    have fr : ∀ y, (y < 1 ∨ 6 ≤ y) → (y < 28 ∨ 42 ≤ y) → h3 y = h y := fun y q1 q2 => by rw [hf3 y (by omega), hs1 y (by omega)]
    refine jl_istore (L' := [some (.float (z)), some (.ref (0)), some (.ref (28)), some (.ref (42)), some (.int (zI (((4 * t : Nat) : Int)))), some (.int (zI (1))), some (.int (zI (0)))]) d_Lw_law_469 (by decide) rfl ?_
    refine jl_aload_n d_Lw_law_471 rfl rfl ?_
    refine jl_invV0 (M' := m_Md_thrown) (d' := d - 1) (ck' := 0) (sk' := 0) (na := 0) (as := []) (st := []) (x := 28) d_Lw_law_472 rfl (hM3).1 rfl mw_Lw_93 ww_Md_thrown sw_Md_thrown nw_Md cw_Md_thrown rfl rfl (by decide +kernel) (by omega) (Nat.le_of_ble_eq_true rfl) (Nat.le_of_ble_eq_true rfl) ?_
    refine k_M_thrown hl9 (by omega) hM3 ?_
    show jl_AW _ _ _ _ _ 475 [some (.float (z)), some (.ref (0)), some (.ref (28)), some (.ref (42)), some (.int (zI (((4 * t : Nat) : Int)))), some (.int (zI (1))), some (.int (zI (0)))] [.int (zI (1))] n h3 _ _
    refine jl_iload d_Lw_law_475 rfl ?_
    refine jz_icmp_eq (tgt := 482) d_Lw_law_477 (by decide) ⟨by decide, by decide⟩ ⟨by decide, by decide⟩ (fun _ => ?_) (fun q9 => absurd rfl q9)
    refine jl_iload d_Lw_law_482 rfl ?_
    refine jz_if_ne (tgt := 499) d_Lw_law_484 (by decide) ⟨by decide, by decide⟩ (fun _ => ?_) (fun q9 => absurd q9 (by decide))
    refine jl_goto (tgt := 1405) d_Lw_law_499 (by decide) ?_
    refine jl_less (L' := [some (.float (z)), some (.ref (0)), some (.ref (28)), some (.ref (42)), some (.int (zI (((4 * t : Nat) : Int)))), none, none]) ⟨rfl, rfl, rfl, rfl, rfl, trivial⟩ ?_
    exact hnext n h3 ⟨_, hM3, okM, hrw, (fr 0 (by omega) (by omega)).trans hX, ⟨f, (fr 42 (by omega) (by omega)).trans hO⟩, hn, lD_fr (fun y q1 q2 => hf3 y (by omega)) ⟨rfl, rfl, fun _ _ => rfl, fun _ _ => rfl, fun _ _ => rfl⟩ hlD1, lS_fr (fun y hy => fr y (by omega) (by omega)) (fun d9 q1 q2 => ⟨rfl, rfl, fun _ _ => rfl, fun _ _ => rfl, fun _ _ => rfl⟩) hlS, lJ_fr (fun y q1 q2 => fr y (by omega) (by omega)) hlJ, lCt_fr (fun y q1 q2 => fr y (by omega) (by omega)) hlC, lF_fr (fun y q1 q2 => fr y (by omega) (by omega)) (⟨rfl, rfl, fun _ _ => rfl, fun _ _ => rfl, fun _ _ => rfl⟩) ⟨rfl, rfl, rfl, rfl, rfl, rfl⟩ (by omega) hlF⟩
  · have hlD1 : lD h1 M := by rw [eh1]; exact lD_sc hlD
    have hs1 : ∀ y, y ≠ 5 → h1 y = h y := fun y hy => by rw [eh1]; exact va_up_ne _ _ hy
    show jl_AW _ _ _ _ _ 457 [some (.float (z)), some (.ref (0)), some (.ref (28)), some (.ref (42)), some (.int (zI (((4 * t : Nat) : Int)))), none, none] [.int (zI (2))] n h1 _ _
    have hM2 : jM h1 28 M := jM_fr (fun y q1 q2 => hs1 y (by omega)) hQ
    refine jl_istore (L' := [some (.float (z)), some (.ref (0)), some (.ref (28)), some (.ref (42)), some (.int (zI (((4 * t : Nat) : Int)))), some (.int (zI (2))), none]) d_Lw_law_457 (by decide) rfl ?_
    refine jl_aload_n d_Lw_law_459 rfl rfl ?_
    refine jl_sload_n d_Lw_law_460 rfl rfl ?_
    refine jl_iload d_Lw_law_461 rfl ?_
    refine jl_iconst (v := zI (1)) d_Lw_law_463 (by decide) ?_
    refine jz_iadd (v := ((4 * t + 1 : Nat) : Int)) d_Lw_law_464 (by omega) ?_
    refine jz_sld (k9 := 4 * t + 1) d_Lw_law_465 rfl (by omega) hlen ?_
    refine jl_invV0 (M' := m_Md_state) (d' := d - 1) (ck' := 0) (sk' := 0) (na := 1) (as := [.int (zI (scr G (4 * t + 1)))]) (st := []) (x := 28) d_Lw_law_466 rfl (hM2).1 rfl mw_Lw_119 ww_Md_state sw_Md_state nw_Md cw_Md_state rfl rfl (by decide +kernel) (by omega) (Nat.le_of_ble_eq_true rfl) (Nat.le_of_ble_eq_true rfl) ?_
    refine k_M_state hl9 (by omega) hM2 okM hpe hz1 (fun _ q => absurd (by rw [hr.2.1] at q; exact q) hin) (fun q => absurd ⟨hr.1.trans hm, hEV.mpr hv⟩ q) (fun _ _ h3 hM3 hf3 => ?_)
    show jl_AW _ _ _ _ _ 469 [some (.float (z)), some (.ref (0)), some (.ref (28)), some (.ref (42)), some (.int (zI (((4 * t : Nat) : Int)))), some (.int (zI (2))), none] [.int (zI (0))] n h3 _ _
    have fr : ∀ y, (y < 1 ∨ 6 ≤ y) → (y < 28 ∨ 42 ≤ y) → h3 y = h y := fun y q1 q2 => by rw [hf3 y (by omega), hs1 y (by omega)]
    refine jl_istore (L' := [some (.float (z)), some (.ref (0)), some (.ref (28)), some (.ref (42)), some (.int (zI (((4 * t : Nat) : Int)))), some (.int (zI (2))), some (.int (zI (0)))]) d_Lw_law_469 (by decide) rfl ?_
    refine jl_aload_n d_Lw_law_471 rfl rfl ?_
    refine jl_invV0 (M' := m_Md_thrown) (d' := d - 1) (ck' := 0) (sk' := 0) (na := 0) (as := []) (st := []) (x := 28) d_Lw_law_472 rfl (hM3).1 rfl mw_Lw_93 ww_Md_thrown sw_Md_thrown nw_Md cw_Md_thrown rfl rfl (by decide +kernel) (by omega) (Nat.le_of_ble_eq_true rfl) (Nat.le_of_ble_eq_true rfl) ?_
    refine k_M_thrown hl9 (by omega) hM3 ?_
    show jl_AW _ _ _ _ _ 475 [some (.float (z)), some (.ref (0)), some (.ref (28)), some (.ref (42)), some (.int (zI (((4 * t : Nat) : Int)))), some (.int (zI (2))), some (.int (zI (0)))] [.int (zI (2))] n h3 _ _
    refine jl_iload d_Lw_law_475 rfl ?_
    refine jz_icmp_eq (tgt := 482) d_Lw_law_477 (by decide) ⟨by decide, by decide⟩ ⟨by decide, by decide⟩ (fun _ => ?_) (fun q9 => absurd rfl q9)
    refine jl_iload d_Lw_law_482 rfl ?_
    refine jz_if_ne (tgt := 499) d_Lw_law_484 (by decide) ⟨by decide, by decide⟩ (fun _ => ?_) (fun q9 => absurd q9 (by decide))
    refine jl_goto (tgt := 1405) d_Lw_law_499 (by decide) ?_
    refine jl_less (L' := [some (.float (z)), some (.ref (0)), some (.ref (28)), some (.ref (42)), some (.int (zI (((4 * t : Nat) : Int)))), none, none]) ⟨rfl, rfl, rfl, rfl, rfl, trivial⟩ ?_
    exact hnext n h3 ⟨_, hM3, okM, hrw, (fr 0 (by omega) (by omega)).trans hX, ⟨f, (fr 42 (by omega) (by omega)).trans hO⟩, hn, lD_fr (fun y q1 q2 => hf3 y (by omega)) ⟨rfl, rfl, fun _ _ => rfl, fun _ _ => rfl, fun _ _ => rfl⟩ hlD1, lS_fr (fun y hy => fr y (by omega) (by omega)) (fun d9 q1 q2 => ⟨rfl, rfl, fun _ _ => rfl, fun _ _ => rfl, fun _ _ => rfl⟩) hlS, lJ_fr (fun y q1 q2 => fr y (by omega) (by omega)) hlJ, lCt_fr (fun y q1 q2 => fr y (by omega) (by omega)) hlC, lF_fr (fun y q1 q2 => fr y (by omega) (by omega)) (⟨rfl, rfl, fun _ _ => rfl, fun _ _ => rfl, fun _ _ => rfl⟩) ⟨rfl, rfl, rfl, rfl, rfl, rfl⟩ (by omega) hlF⟩
set_option maxHeartbeats 4000000 in
set_option maxRecDepth 100000 in
theorem lw_swap {l : Launch} {G : jl_G} {F : List Frame → Array Value → State → Nat → Nat → (Nat → Nat) → Nat → State → Prop} {d n t ck sk : Nat} {h : Nat → va_E} {z : UInt32} (hl9 : l.stackTraces = false) (hd9 : 20 ≤ d) (hlen : G.2.2.2.2.1 ≤ 2048) (ht : 4 * t + 4 ≤ G.2.2.2.2.1) (hI : LI t n h) (hnext : ∀ n' h', LI (t + 1) n' h' → jl_AW l G F m_Lw_law d 1405 [some (.float (z)), some (.ref (0)), some (.ref (28)), some (.ref (42)), some (.int (zI (((4 * t : Nat) : Int)))), none, none] [] n' h' ck sk) : jl_AW l G F m_Lw_law d 502 [some (.float (z)), some (.ref (0)), some (.ref (28)), some (.ref (42)), some (.int (zI (((4 * t : Nat) : Int)))), none, none] [] n h (ck + 3) (sk + 18) := by
  obtain ⟨M, hQ, okM, hrw, hX, ⟨f, hO⟩, hn, hlD, hlS, hlJ, hlC, hlF⟩ := hI
  have hz1 := scr_z G (4 * t + 1)
  have hz2 := scr_z G (4 * t + 2)
  have hz3 := scr_z G (4 * t + 3)
  obtain ⟨m, p, hs, cs, xs, sc, hD, hK⟩ := id hlD
  have hr := dK_r hK
  have h0 := dK_h0 hK
  have hp := hK.1.2.1
  refine jl_aload_n d_Lw_law_502 rfl rfl ?_
  refine jl_sload_n d_Lw_law_503 rfl rfl ?_
  refine jl_iload d_Lw_law_504 rfl ?_
  refine jl_iconst (v := zI (1)) d_Lw_law_506 (by decide) ?_
  refine jz_iadd (v := ((4 * t + 1 : Nat) : Int)) d_Lw_law_507 (by omega) ?_
  refine jz_sld (k9 := 4 * t + 1) d_Lw_law_508 rfl (by omega) hlen ?_
  refine jl_sload_n d_Lw_law_509 rfl rfl ?_
  refine jl_iload d_Lw_law_510 rfl ?_
  refine jl_iconst (v := zI (2)) d_Lw_law_512 (by decide) ?_
  refine jz_iadd (v := ((4 * t + 2 : Nat) : Int)) d_Lw_law_513 (by omega) ?_
  refine jz_sld (k9 := 4 * t + 2) d_Lw_law_514 rfl (by omega) hlen ?_
  refine jl_aload_n d_Lw_law_515 rfl rfl ?_
  refine jl_invSH (M' := m_Lw_swap) (d' := d - 1) (ck' := 3) (sk' := 18) (ck := ck) (sk := sk) (na := 4) (as := [.ref (0), .int (zI (scr G (4 * t + 1))), .int (zI (scr G (4 * t + 2))), .ref (42)]) (st := []) d_Lw_law_516 rfl mw_Lw_120 ww_Lw_swap nw_Lw cw_Lw_swap rfl rfl (by decide +kernel) (by omega) (Nat.le_of_ble_eq_true rfl) (Nat.le_of_ble_eq_true rfl) ?_
  refine k_Lw_swap hl9 (d' := d - 2) (by omega) hX ?_
  refine k_swap hl9 (by omega) hX (Or.inl (by decide)) hD hK.1 hz1 hz2 (fun hm ha9 hb9 hno => ⟨0, f, rfl, Or.inl rfl, hO, ?_⟩) (fun hm ha9 hb9 hfit h1 hD1 hf1 => ⟨1, f, rfl, Or.inr rfl, by rw [hf1 42 (by omega)]; exact hO, ?_⟩) (fun hm => Or.inl ⟨rfl, ?_⟩) (fun hm hno => Or.inr ⟨rfl, ?_⟩)
  · obtain ⟨h2, eh2⟩ : ∃ z9, z9 = va_up h 42 (jJ 1 (vp_updL f (zI 0).toNatClampNeg ((if (0 : Int) = 0 then (0 : Int64) else 1)))) := ⟨_, rfl⟩
    rw [← eh2]
    have oh2 : h2 42 = jJ 1 (vp_updL f (zI 0).toNatClampNeg ((if (0 : Int) = 0 then (0 : Int64) else 1))) := by rw [eh2, va_up_self]
    have gh2 : ∀ y, y ≠ 42 → h2 y = h y := fun y hy => by rw [eh2, va_up_ne _ _ hy]
    show jl_AW _ _ _ _ _ 519 [some (.float (z)), some (.ref (0)), some (.ref (28)), some (.ref (42)), some (.int (zI (((4 * t : Nat) : Int)))), none, none] [.int (zI (0))] n h2 _ _
    have ea : hM M 0 (scr G (4 * t + 1) * 3 + 0).toNat = hs (scr G (4 * t + 1) * 3).toNat := by rw [Int.add_zero]; exact h0 _ ha9.1 ha9.2
    have eb : hM M 0 (scr G (4 * t + 2) * 3 + 0).toNat = hs (scr G (4 * t + 2) * 3).toNat := by rw [Int.add_zero]; exact h0 _ hb9.1 hb9.2
    have hM2 : jM h2 28 M := jM_fr (fun y q1 q2 => gh2 y (by omega)) hQ
    refine jl_istore (L' := [some (.float (z)), some (.ref (0)), some (.ref (28)), some (.ref (42)), some (.int (zI (((4 * t : Nat) : Int)))), some (.int (zI (0))), none]) d_Lw_law_519 (by decide) rfl ?_
    refine jl_aload_n d_Lw_law_521 rfl rfl ?_
    refine jl_sload_n d_Lw_law_522 rfl rfl ?_
    refine jl_iload d_Lw_law_523 rfl ?_
    refine jl_iconst (v := zI (1)) d_Lw_law_525 (by decide) ?_
    refine jz_iadd (v := ((4 * t + 1 : Nat) : Int)) d_Lw_law_526 (by omega) ?_
    refine jz_sld (k9 := 4 * t + 1) d_Lw_law_527 rfl (by omega) hlen ?_
    refine jl_sload_n d_Lw_law_528 rfl rfl ?_
    refine jl_iload d_Lw_law_529 rfl ?_
    refine jl_iconst (v := zI (2)) d_Lw_law_531 (by decide) ?_
    refine jz_iadd (v := ((4 * t + 2 : Nat) : Int)) d_Lw_law_532 (by omega) ?_
    refine jz_sld (k9 := 4 * t + 2) d_Lw_law_533 rfl (by omega) hlen ?_
    refine jl_invV0 (M' := m_Md_swap) (d' := d - 1) (ck' := 0) (sk' := 0) (na := 2) (as := [.int (zI (scr G (4 * t + 1))), .int (zI (scr G (4 * t + 2)))]) (st := []) (x := 28) d_Lw_law_534 rfl (hM2).1 rfl mw_Lw_122 ww_Md_swap sw_Md_swap nw_Md cw_Md_swap rfl rfl (by decide +kernel) (by omega) (Nat.le_of_ble_eq_true rfl) (Nat.le_of_ble_eq_true rfl) ?_
    refine k_M_swap hl9 (by omega) hM2 okM hz1 hz2 (fun _ _ q => absurd (by rw [ea, eb] at q; omega) hno) (fun q => absurd (hr.1.trans hm) q) (fun _ q => absurd (show (0 ≤ scr G (4 * t + 1) ∧ scr G (4 * t + 1) < M.pe (0 : Int).toNat) ∧ (0 ≤ scr G (4 * t + 2) ∧ scr G (4 * t + 2) < M.pe (0 : Int).toNat) by rw [hr.2.1]; exact ⟨ha9, hb9⟩) q) (fun _ _ _ h3 hM3 hf3 => ?_)
    show jl_AW _ _ _ _ _ 537 [some (.float (z)), some (.ref (0)), some (.ref (28)), some (.ref (42)), some (.int (zI (((4 * t : Nat) : Int)))), some (.int (zI (0))), none] [.int (zI (0))] n h3 _ _
    have o3 : h3 42 = jJ 1 (vp_updL f (zI 0).toNatClampNeg (if (0 : Int) = 0 then (0 : Int64) else 1)) := by rw [hf3 42 (by omega)]; exact oh2
    have fr : ∀ y, (y < 1 ∨ 6 ≤ y) → (y < 28 ∨ 43 ≤ y) → h3 y = h y := fun y q1 q2 => by rw [hf3 y (by omega), gh2 y (by omega)]
    refine jl_istore (L' := [some (.float (z)), some (.ref (0)), some (.ref (28)), some (.ref (42)), some (.int (zI (((4 * t : Nat) : Int)))), some (.int (zI (0))), some (.int (zI (0)))]) d_Lw_law_537 (by decide) rfl ?_
    refine jl_aload_n d_Lw_law_539 rfl rfl ?_
    refine jl_invV0 (M' := m_Md_thrown) (d' := d - 1) (ck' := 0) (sk' := 0) (na := 0) (as := []) (st := []) (x := 28) d_Lw_law_540 rfl (hM3).1 rfl mw_Lw_93 ww_Md_thrown sw_Md_thrown nw_Md cw_Md_thrown rfl rfl (by decide +kernel) (by omega) (Nat.le_of_ble_eq_true rfl) (Nat.le_of_ble_eq_true rfl) ?_
    refine k_M_thrown hl9 (by omega) hM3 ?_
    show jl_AW _ _ _ _ _ 543 [some (.float (z)), some (.ref (0)), some (.ref (28)), some (.ref (42)), some (.int (zI (((4 * t : Nat) : Int)))), some (.int (zI (0))), some (.int (zI (0)))] [.int (zI (0))] n h3 _ _
    refine jl_iload d_Lw_law_543 rfl ?_
    refine jz_icmp_eq (tgt := 550) d_Lw_law_545 (by decide) ⟨by decide, by decide⟩ ⟨by decide, by decide⟩ (fun _ => ?_) (fun q9 => absurd rfl q9)
    refine jl_iload d_Lw_law_550 rfl ?_
    refine jz_if_ne (tgt := 574) d_Lw_law_552 (by decide) ⟨by decide, by decide⟩ (fun q9 => absurd q9 (by decide)) (fun _ => ?_)
    refine jl_aload_n d_Lw_law_555 rfl rfl ?_
    refine jl_iconst (v := zI (0)) d_Lw_law_556 (by decide) ?_
    refine jl_lald d_Lw_law_557 o3 (zI_in (by decide) (by decide) (by decide)) ?_
    refine jl_iload d_Lw_law_558 rfl ?_
    refine jz_if_eq (tgt := 567) d_Lw_law_560 (by decide) ⟨by decide, by decide⟩ (fun _ => ?_) (fun q9 => absurd q9 (by decide))
    refine jl_lconst (v := 0) d_Lw_law_567 rfl ?_
    refine jz_lcmp0 d_Lw_law_568 (by unfold vp_updL; rw [if_pos rfl]; rfl) ?_
    refine jz_if_eq (tgt := 574) d_Lw_law_569 (by decide) ⟨by decide, by decide⟩ (fun _ => ?_) (fun q9 => absurd q9 (by decide))
    refine jl_goto (tgt := 1405) d_Lw_law_574 (by decide) ?_
    refine jl_less (L' := [some (.float (z)), some (.ref (0)), some (.ref (28)), some (.ref (42)), some (.int (zI (((4 * t : Nat) : Int)))), none, none]) ⟨rfl, rfl, rfl, rfl, rfl, trivial⟩ ?_
    have hlD1 := hlD
    exact hnext n h3 ⟨_, hM3, okM, hrw, (fr 0 (by omega) (by omega)).trans hX, ⟨_, o3⟩, hn, lD_fr (fun y q1 q2 => by rw [hf3 y (by omega), gh2 y (by omega)]) ⟨rfl, rfl, fun _ _ => rfl, fun _ _ => rfl, fun _ _ => rfl⟩ hlD1, lS_fr (fun y hy => fr y (by omega) (by omega)) (fun d9 q1 q2 => ⟨rfl, rfl, fun _ _ => rfl, fun _ _ => rfl, fun _ _ => rfl⟩) hlS, lJ_fr (fun y q1 q2 => fr y (by omega) (by omega)) hlJ, lCt_fr (fun y q1 q2 => fr y (by omega) (by omega)) hlC, lF_fr (fun y q1 q2 => fr y (by omega) (by omega)) (⟨rfl, rfl, fun _ _ => rfl, fun _ _ => rfl, fun _ _ => rfl⟩) ⟨rfl, rfl, rfl, rfl, rfl, rfl⟩ (by omega) hlF⟩
  · obtain ⟨h2, eh2⟩ : ∃ z9, z9 = va_up h1 42 (jJ 1 (vp_updL f (zI 0).toNatClampNeg ((if (1 : Int) = 0 then (0 : Int64) else 1)))) := ⟨_, rfl⟩
    rw [← eh2]
    have oh2 : h2 42 = jJ 1 (vp_updL f (zI 0).toNatClampNeg ((if (1 : Int) = 0 then (0 : Int64) else 1))) := by rw [eh2, va_up_self]
    have gh2 : ∀ y, y ≠ 42 → h2 y = h1 y := fun y hy => by rw [eh2, va_up_ne _ _ hy]
    show jl_AW _ _ _ _ _ 519 [some (.float (z)), some (.ref (0)), some (.ref (28)), some (.ref (42)), some (.int (zI (((4 * t : Nat) : Int)))), none, none] [.int (zI (0))] n h2 _ _
    have ea : hM M 0 (scr G (4 * t + 1) * 3 + 0).toNat = hs (scr G (4 * t + 1) * 3).toNat := by rw [Int.add_zero]; exact h0 _ ha9.1 ha9.2
    have eb : hM M 0 (scr G (4 * t + 2) * 3 + 0).toNat = hs (scr G (4 * t + 2) * 3).toNat := by rw [Int.add_zero]; exact h0 _ hb9.1 hb9.2
    have hM2 : jM h2 28 M := jM_fr (fun y q1 q2 => by rw [gh2 y (by omega), hf1 y (by omega)]) hQ
    refine jl_istore (L' := [some (.float (z)), some (.ref (0)), some (.ref (28)), some (.ref (42)), some (.int (zI (((4 * t : Nat) : Int)))), some (.int (zI (0))), none]) d_Lw_law_519 (by decide) rfl ?_
    refine jl_aload_n d_Lw_law_521 rfl rfl ?_
    refine jl_sload_n d_Lw_law_522 rfl rfl ?_
    refine jl_iload d_Lw_law_523 rfl ?_
    refine jl_iconst (v := zI (1)) d_Lw_law_525 (by decide) ?_
    refine jz_iadd (v := ((4 * t + 1 : Nat) : Int)) d_Lw_law_526 (by omega) ?_
    refine jz_sld (k9 := 4 * t + 1) d_Lw_law_527 rfl (by omega) hlen ?_
    refine jl_sload_n d_Lw_law_528 rfl rfl ?_
    refine jl_iload d_Lw_law_529 rfl ?_
    refine jl_iconst (v := zI (2)) d_Lw_law_531 (by decide) ?_
    refine jz_iadd (v := ((4 * t + 2 : Nat) : Int)) d_Lw_law_532 (by omega) ?_
    refine jz_sld (k9 := 4 * t + 2) d_Lw_law_533 rfl (by omega) hlen ?_
    refine jl_invV0 (M' := m_Md_swap) (d' := d - 1) (ck' := 0) (sk' := 0) (na := 2) (as := [.int (zI (scr G (4 * t + 1))), .int (zI (scr G (4 * t + 2)))]) (st := []) (x := 28) d_Lw_law_534 rfl (hM2).1 rfl mw_Lw_122 ww_Md_swap sw_Md_swap nw_Md cw_Md_swap rfl rfl (by decide +kernel) (by omega) (Nat.le_of_ble_eq_true rfl) (Nat.le_of_ble_eq_true rfl) ?_
    refine k_M_swap hl9 (by omega) hM2 okM hz1 hz2 (fun _ _ _ h3 hM3 hf3 => ?_) (fun q => absurd (hr.1.trans hm) q) (fun _ q => absurd (show (0 ≤ scr G (4 * t + 1) ∧ scr G (4 * t + 1) < M.pe (0 : Int).toNat) ∧ (0 ≤ scr G (4 * t + 2) ∧ scr G (4 * t + 2) < M.pe (0 : Int).toNat) by rw [hr.2.1]; exact ⟨ha9, hb9⟩) q) (fun _ _ q => absurd (by rw [ea, eb]; omega) q)
    show jl_AW _ _ _ _ _ 537 [some (.float (z)), some (.ref (0)), some (.ref (28)), some (.ref (42)), some (.int (zI (((4 * t : Nat) : Int)))), some (.int (zI (0))), none] [.int (zI (1))] n h3 _ _
    have o3 : h3 42 = jJ 1 (vp_updL f (zI 0).toNatClampNeg (if (1 : Int) = 0 then (0 : Int64) else 1)) := by rw [hf3 42 (by omega)]; exact oh2
    have fr : ∀ y, (y < 1 ∨ 6 ≤ y) → (y < 28 ∨ 43 ≤ y) → h3 y = h y := fun y q1 q2 => by rw [hf3 y (by omega), gh2 y (by omega), hf1 y q1]
    refine jl_istore (L' := [some (.float (z)), some (.ref (0)), some (.ref (28)), some (.ref (42)), some (.int (zI (((4 * t : Nat) : Int)))), some (.int (zI (0))), some (.int (zI (1)))]) d_Lw_law_537 (by decide) rfl ?_
    refine jl_aload_n d_Lw_law_539 rfl rfl ?_
    refine jl_invV0 (M' := m_Md_thrown) (d' := d - 1) (ck' := 0) (sk' := 0) (na := 0) (as := []) (st := []) (x := 28) d_Lw_law_540 rfl (hM3).1 rfl mw_Lw_93 ww_Md_thrown sw_Md_thrown nw_Md cw_Md_thrown rfl rfl (by decide +kernel) (by omega) (Nat.le_of_ble_eq_true rfl) (Nat.le_of_ble_eq_true rfl) ?_
    refine k_M_thrown hl9 (by omega) hM3 ?_
    show jl_AW _ _ _ _ _ 543 [some (.float (z)), some (.ref (0)), some (.ref (28)), some (.ref (42)), some (.int (zI (((4 * t : Nat) : Int)))), some (.int (zI (0))), some (.int (zI (1)))] [.int (zI (0))] n h3 _ _
    refine jl_iload d_Lw_law_543 rfl ?_
    refine jz_icmp_eq (tgt := 550) d_Lw_law_545 (by decide) ⟨by decide, by decide⟩ ⟨by decide, by decide⟩ (fun _ => ?_) (fun q9 => absurd rfl q9)
    refine jl_iload d_Lw_law_550 rfl ?_
    refine jz_if_ne (tgt := 574) d_Lw_law_552 (by decide) ⟨by decide, by decide⟩ (fun q9 => absurd q9 (by decide)) (fun _ => ?_)
    refine jl_aload_n d_Lw_law_555 rfl rfl ?_
    refine jl_iconst (v := zI (0)) d_Lw_law_556 (by decide) ?_
    refine jl_lald d_Lw_law_557 o3 (zI_in (by decide) (by decide) (by decide)) ?_
    refine jl_iload d_Lw_law_558 rfl ?_
    refine jz_if_eq (tgt := 567) d_Lw_law_560 (by decide) ⟨by decide, by decide⟩ (fun q9 => absurd q9 (by decide)) (fun _ => ?_)
    refine jl_lconst (v := 1) d_Lw_law_563 rfl ?_
    refine jl_goto (tgt := 568) d_Lw_law_564 (by decide) ?_
    refine jz_lcmp0 d_Lw_law_568 (by unfold vp_updL; rw [if_pos rfl]; rfl) ?_
    refine jz_if_eq (tgt := 574) d_Lw_law_569 (by decide) ⟨by decide, by decide⟩ (fun _ => ?_) (fun q9 => absurd q9 (by decide))
    refine jl_goto (tgt := 1405) d_Lw_law_574 (by decide) ?_
    refine jl_less (L' := [some (.float (z)), some (.ref (0)), some (.ref (28)), some (.ref (42)), some (.int (zI (((4 * t : Nat) : Int)))), none, none]) ⟨rfl, rfl, rfl, rfl, rfl, trivial⟩ ?_
    rw [ea, eb, show scr G (4 * t + 2) + hs (scr G (4 * t + 2) * 3).toNat - scr G (4 * t + 1) = hs (scr G (4 * t + 2) * 3).toNat + scr G (4 * t + 2) - scr G (4 * t + 1) by omega, show scr G (4 * t + 1) + hs (scr G (4 * t + 1) * 3).toNat - scr G (4 * t + 2) = hs (scr G (4 * t + 1) * 3).toNat + scr G (4 * t + 1) - scr G (4 * t + 2) by omega] at hM3
    have hS5 : ∀ d9 : Int, 1 ≤ d9 → sm5 M ((M.wT 0).whe (va_up (va_up M.he (scr G (4 * t + 1) * 3).toNat (hs (scr G (4 * t + 2) * 3).toNat + scr G (4 * t + 2) - scr G (4 * t + 1))) (scr G (4 * t + 2) * 3).toNat (hs (scr G (4 * t + 1) * 3).toNat + scr G (4 * t + 1) - scr G (4 * t + 2)))) d9 := by
      intro d9 q1
      refine sm5_0 (fun j hj => ?_) (fun j hj => ?_) (fun j hj => ?_) (fun j hj => ?_) (fun j hj => ?_) q1
      · rfl
      · rfl
      · exact (show va_up (va_up M.he (scr G (4 * t + 1) * 3).toNat (hs (scr G (4 * t + 2) * 3).toNat + scr G (4 * t + 2) - scr G (4 * t + 1))) (scr G (4 * t + 2) * 3).toNat (hs (scr G (4 * t + 1) * 3).toNat + scr G (4 * t + 1) - scr G (4 * t + 2)) j = M.he j by rw [va_up_ne _ _ (by omega), va_up_ne _ _ (by omega)])
      · rfl
      · rfl
    subst hm
    have hdk := dK_swap (a := scr G (4 * t + 1)) (b := scr G (4 * t + 2)) (A := hs (scr G (4 * t + 2) * 3).toNat + scr G (4 * t + 2) - scr G (4 * t + 1)) (B := hs (scr G (4 * t + 1) * 3).toNat + scr G (4 * t + 1) - scr G (4 * t + 2)) hK ha9 hb9 ⟨hfit.1, hfit.2.1⟩ ⟨hfit.2.2.1, hfit.2.2.2⟩
    exact hnext n h3 ⟨_, hM3, ⟨okM.1, okM.2.1, va_up_P (P := fun v => 0 ≤ v ∧ v ≤ 9) (va_up_P (P := fun v => 0 ≤ v ∧ v ≤ 9) okM.2.2.1 ⟨hfit.1, hfit.2.1⟩) ⟨hfit.2.2.1, hfit.2.2.2⟩, okM.2.2.2.1, okM.2.2.2.2⟩, hrw, (fr 0 (by omega) (by omega)).trans hX, ⟨_, o3⟩, hn, ⟨_, _, _, _, _, sc, jD_fr (fun y q1 q2 => by rw [hf3 y (by omega), gh2 y (by omega)]) hD1, hdk⟩, lS_fr (fun y hy => fr y (by omega) (by omega)) (fun d9 q1 q2 => hS5 _ q1) hlS, lJ_fr (fun y q1 q2 => fr y (by omega) (by omega)) hlJ, lCt_fr (fun y q1 q2 => fr y (by omega) (by omega)) hlC, lF_fr (fun y q1 q2 => fr y (by omega) (by omega)) (hS5 _ (by decide)) ⟨rfl, rfl, rfl, rfl, rfl, rfl⟩ (by omega) hlF⟩
  · show jl_AW _ _ _ _ _ 519 [some (.float (z)), some (.ref (0)), some (.ref (28)), some (.ref (42)), some (.int (zI (((4 * t : Nat) : Int)))), none, none] [.int (zI (1))] n h _ _
    refine jl_istore (L' := [some (.float (z)), some (.ref (0)), some (.ref (28)), some (.ref (42)), some (.int (zI (((4 * t : Nat) : Int)))), some (.int (zI (1))), none]) d_Lw_law_519 (by decide) rfl ?_
    refine jl_aload_n d_Lw_law_521 rfl rfl ?_
    refine jl_sload_n d_Lw_law_522 rfl rfl ?_
    refine jl_iload d_Lw_law_523 rfl ?_
    refine jl_iconst (v := zI (1)) d_Lw_law_525 (by decide) ?_
    refine jz_iadd (v := ((4 * t + 1 : Nat) : Int)) d_Lw_law_526 (by omega) ?_
    refine jz_sld (k9 := 4 * t + 1) d_Lw_law_527 rfl (by omega) hlen ?_
    refine jl_sload_n d_Lw_law_528 rfl rfl ?_
    refine jl_iload d_Lw_law_529 rfl ?_
    refine jl_iconst (v := zI (2)) d_Lw_law_531 (by decide) ?_
    refine jz_iadd (v := ((4 * t + 2 : Nat) : Int)) d_Lw_law_532 (by omega) ?_
    refine jz_sld (k9 := 4 * t + 2) d_Lw_law_533 rfl (by omega) hlen ?_
    refine jl_invV0 (M' := m_Md_swap) (d' := d - 1) (ck' := 0) (sk' := 0) (na := 2) (as := [.int (zI (scr G (4 * t + 1))), .int (zI (scr G (4 * t + 2)))]) (st := []) (x := 28) d_Lw_law_534 rfl (hQ).1 rfl mw_Lw_122 ww_Md_swap sw_Md_swap nw_Md cw_Md_swap rfl rfl (by decide +kernel) (by omega) (Nat.le_of_ble_eq_true rfl) (Nat.le_of_ble_eq_true rfl) ?_
    refine k_M_swap hl9 (by omega) hQ okM hz1 hz2 (fun q => absurd (hr.1.symm.trans q) hm) (fun _ h3 hM3 hf3 => ?_) (fun q => absurd (hr.1.symm.trans q) hm) (fun q => absurd (hr.1.symm.trans q) hm)
    show jl_AW _ _ _ _ _ 537 [some (.float (z)), some (.ref (0)), some (.ref (28)), some (.ref (42)), some (.int (zI (((4 * t : Nat) : Int)))), some (.int (zI (1))), none] [.int (zI (0))] n h3 _ _
    have fr : ∀ y, (y < 28 ∨ 42 ≤ y) → True → h3 y = h y := fun y q1 _ => hf3 y (by omega)
    refine jl_istore (L' := [some (.float (z)), some (.ref (0)), some (.ref (28)), some (.ref (42)), some (.int (zI (((4 * t : Nat) : Int)))), some (.int (zI (1))), some (.int (zI (0)))]) d_Lw_law_537 (by decide) rfl ?_
    refine jl_aload_n d_Lw_law_539 rfl rfl ?_
    refine jl_invV0 (M' := m_Md_thrown) (d' := d - 1) (ck' := 0) (sk' := 0) (na := 0) (as := []) (st := []) (x := 28) d_Lw_law_540 rfl (hM3).1 rfl mw_Lw_93 ww_Md_thrown sw_Md_thrown nw_Md cw_Md_thrown rfl rfl (by decide +kernel) (by omega) (Nat.le_of_ble_eq_true rfl) (Nat.le_of_ble_eq_true rfl) ?_
    refine k_M_thrown hl9 (by omega) hM3 ?_
    show jl_AW _ _ _ _ _ 543 [some (.float (z)), some (.ref (0)), some (.ref (28)), some (.ref (42)), some (.int (zI (((4 * t : Nat) : Int)))), some (.int (zI (1))), some (.int (zI (0)))] [.int (zI (1))] n h3 _ _
    refine jl_iload d_Lw_law_543 rfl ?_
    refine jz_icmp_eq (tgt := 550) d_Lw_law_545 (by decide) ⟨by decide, by decide⟩ ⟨by decide, by decide⟩ (fun _ => ?_) (fun q9 => absurd rfl q9)
    refine jl_iload d_Lw_law_550 rfl ?_
    refine jz_if_ne (tgt := 574) d_Lw_law_552 (by decide) ⟨by decide, by decide⟩ (fun _ => ?_) (fun q9 => absurd q9 (by decide))
    refine jl_goto (tgt := 1405) d_Lw_law_574 (by decide) ?_
    refine jl_less (L' := [some (.float (z)), some (.ref (0)), some (.ref (28)), some (.ref (42)), some (.int (zI (((4 * t : Nat) : Int)))), none, none]) ⟨rfl, rfl, rfl, rfl, rfl, trivial⟩ ?_
    exact hnext n h3 ⟨_, hM3, okM, hrw, (fr 0 (by omega) trivial).trans hX, ⟨f, (fr 42 (by omega) trivial).trans hO⟩, hn, lD_fr (fun y q1 q2 => fr y (by omega) trivial) ⟨rfl, rfl, fun _ _ => rfl, fun _ _ => rfl, fun _ _ => rfl⟩ hlD, lS_fr (fun y hy => fr y (by omega) trivial) (fun _ _ _ => ⟨rfl, rfl, fun _ _ => rfl, fun _ _ => rfl, fun _ _ => rfl⟩) hlS, lJ_fr (fun y q1 q2 => fr y (by omega) trivial) hlJ, lCt_fr (fun y q1 q2 => fr y (by omega) trivial) hlC, lF_fr (fun y q1 q2 => fr y (by omega) trivial) ⟨rfl, rfl, fun _ _ => rfl, fun _ _ => rfl, fun _ _ => rfl⟩ ⟨rfl, rfl, rfl, rfl, rfl, rfl⟩ (by omega) hlF⟩
  · show jl_AW _ _ _ _ _ 519 [some (.float (z)), some (.ref (0)), some (.ref (28)), some (.ref (42)), some (.int (zI (((4 * t : Nat) : Int)))), none, none] [.int (zI (2))] n h _ _
    refine jl_istore (L' := [some (.float (z)), some (.ref (0)), some (.ref (28)), some (.ref (42)), some (.int (zI (((4 * t : Nat) : Int)))), some (.int (zI (2))), none]) d_Lw_law_519 (by decide) rfl ?_
    refine jl_aload_n d_Lw_law_521 rfl rfl ?_
    refine jl_sload_n d_Lw_law_522 rfl rfl ?_
    refine jl_iload d_Lw_law_523 rfl ?_
    refine jl_iconst (v := zI (1)) d_Lw_law_525 (by decide) ?_
    refine jz_iadd (v := ((4 * t + 1 : Nat) : Int)) d_Lw_law_526 (by omega) ?_
    refine jz_sld (k9 := 4 * t + 1) d_Lw_law_527 rfl (by omega) hlen ?_
    refine jl_sload_n d_Lw_law_528 rfl rfl ?_
    refine jl_iload d_Lw_law_529 rfl ?_
    refine jl_iconst (v := zI (2)) d_Lw_law_531 (by decide) ?_
    refine jz_iadd (v := ((4 * t + 2 : Nat) : Int)) d_Lw_law_532 (by omega) ?_
    refine jz_sld (k9 := 4 * t + 2) d_Lw_law_533 rfl (by omega) hlen ?_
    refine jl_invV0 (M' := m_Md_swap) (d' := d - 1) (ck' := 0) (sk' := 0) (na := 2) (as := [.int (zI (scr G (4 * t + 1))), .int (zI (scr G (4 * t + 2)))]) (st := []) (x := 28) d_Lw_law_534 rfl (hQ).1 rfl mw_Lw_122 ww_Md_swap sw_Md_swap nw_Md cw_Md_swap rfl rfl (by decide +kernel) (by omega) (Nat.le_of_ble_eq_true rfl) (Nat.le_of_ble_eq_true rfl) ?_
    refine k_M_swap hl9 (by omega) hQ okM hz1 hz2 (fun _ q => absurd (by rw [hr.2.1] at q; exact q) hno) (fun q => absurd (hr.1.trans hm) q) (fun _ _ h3 hM3 hf3 => ?_) (fun _ q => absurd (by rw [hr.2.1] at q; exact q) hno)
    show jl_AW _ _ _ _ _ 537 [some (.float (z)), some (.ref (0)), some (.ref (28)), some (.ref (42)), some (.int (zI (((4 * t : Nat) : Int)))), some (.int (zI (2))), none] [.int (zI (0))] n h3 _ _
    have fr : ∀ y, (y < 28 ∨ 42 ≤ y) → True → h3 y = h y := fun y q1 _ => hf3 y (by omega)
    refine jl_istore (L' := [some (.float (z)), some (.ref (0)), some (.ref (28)), some (.ref (42)), some (.int (zI (((4 * t : Nat) : Int)))), some (.int (zI (2))), some (.int (zI (0)))]) d_Lw_law_537 (by decide) rfl ?_
    refine jl_aload_n d_Lw_law_539 rfl rfl ?_
    refine jl_invV0 (M' := m_Md_thrown) (d' := d - 1) (ck' := 0) (sk' := 0) (na := 0) (as := []) (st := []) (x := 28) d_Lw_law_540 rfl (hM3).1 rfl mw_Lw_93 ww_Md_thrown sw_Md_thrown nw_Md cw_Md_thrown rfl rfl (by decide +kernel) (by omega) (Nat.le_of_ble_eq_true rfl) (Nat.le_of_ble_eq_true rfl) ?_
    refine k_M_thrown hl9 (by omega) hM3 ?_
    show jl_AW _ _ _ _ _ 543 [some (.float (z)), some (.ref (0)), some (.ref (28)), some (.ref (42)), some (.int (zI (((4 * t : Nat) : Int)))), some (.int (zI (2))), some (.int (zI (0)))] [.int (zI (2))] n h3 _ _
    refine jl_iload d_Lw_law_543 rfl ?_
    refine jz_icmp_eq (tgt := 550) d_Lw_law_545 (by decide) ⟨by decide, by decide⟩ ⟨by decide, by decide⟩ (fun _ => ?_) (fun q9 => absurd rfl q9)
    refine jl_iload d_Lw_law_550 rfl ?_
    refine jz_if_ne (tgt := 574) d_Lw_law_552 (by decide) ⟨by decide, by decide⟩ (fun _ => ?_) (fun q9 => absurd q9 (by decide))
    refine jl_goto (tgt := 1405) d_Lw_law_574 (by decide) ?_
    refine jl_less (L' := [some (.float (z)), some (.ref (0)), some (.ref (28)), some (.ref (42)), some (.int (zI (((4 * t : Nat) : Int)))), none, none]) ⟨rfl, rfl, rfl, rfl, rfl, trivial⟩ ?_
    exact hnext n h3 ⟨_, hM3, okM, hrw, (fr 0 (by omega) trivial).trans hX, ⟨f, (fr 42 (by omega) trivial).trans hO⟩, hn, lD_fr (fun y q1 q2 => fr y (by omega) trivial) ⟨rfl, rfl, fun _ _ => rfl, fun _ _ => rfl, fun _ _ => rfl⟩ hlD, lS_fr (fun y hy => fr y (by omega) trivial) (fun _ _ _ => ⟨rfl, rfl, fun _ _ => rfl, fun _ _ => rfl, fun _ _ => rfl⟩) hlS, lJ_fr (fun y q1 q2 => fr y (by omega) trivial) hlJ, lCt_fr (fun y q1 q2 => fr y (by omega) trivial) hlC, lF_fr (fun y q1 q2 => fr y (by omega) trivial) ⟨rfl, rfl, fun _ _ => rfl, fun _ _ => rfl, fun _ _ => rfl⟩ ⟨rfl, rfl, rfl, rfl, rfl, rfl⟩ (by omega) hlF⟩
set_option maxHeartbeats 4000000 in
set_option maxRecDepth 100000 in
theorem lw_canonical {l : Launch} {G : jl_G} {F : List Frame → Array Value → State → Nat → Nat → (Nat → Nat) → Nat → State → Prop} {d n t ck sk : Nat} {h : Nat → va_E} {z : UInt32} (hl9 : l.stackTraces = false) (hd9 : 20 ≤ d) (hlen : G.2.2.2.2.1 ≤ 2048) (ht : 4 * t + 4 ≤ G.2.2.2.2.1) (hI : LI t n h) (hnext : ∀ n' h', LI (t + 1) n' h' → jl_AW l G F m_Lw_law d 1405 [some (.float (z)), some (.ref (0)), some (.ref (28)), some (.ref (42)), some (.int (zI (((4 * t : Nat) : Int)))), none, none] [] n' h' ck sk) : jl_AW l G F m_Lw_law d 577 [some (.float (z)), some (.ref (0)), some (.ref (28)), some (.ref (42)), some (.int (zI (((4 * t : Nat) : Int)))), none, none] [] n h (ck + 1) (sk + 6) := by
  obtain ⟨M, hQ, okM, hrw, hX, ⟨f, hO⟩, hn, hlD, hlS, hlJ, hlC, hlF⟩ := hI
  have hz1 := scr_z G (4 * t + 1)
  have hz2 := scr_z G (4 * t + 2)
  have hz3 := scr_z G (4 * t + 3)
  obtain ⟨m, p, hs, cs, xs, sc, hD, hK⟩ := id hlD
  have hr := dK_r hK
  have h0 := dK_h0 hK
  have hpe : 1 ≤ M.pe (0 : Int).toNat := by rw [hr.2.1]; exact hK.1.2.1.1
  refine jl_aload_n d_Lw_law_577 rfl rfl ?_
  refine jl_aload_n d_Lw_law_578 rfl rfl ?_
  refine jl_invSH (M' := m_Lw_canonical) (d' := d - 1) (ck' := 1) (sk' := 6) (ck := ck) (sk := sk) (na := 2) (as := [.ref (0), .ref (42)]) (st := []) d_Lw_law_579 rfl mw_Lw_123 ww_Lw_canonical nw_Lw cw_Lw_canonical rfl rfl (by decide +kernel) (by omega) (Nat.le_of_ble_eq_true rfl) (Nat.le_of_ble_eq_true rfl) ?_
  refine k_Lw_canonical hl9 (d' := d - 2) (by omega) hX ?_
  refine k_canonical hl9 (by omega) hX (Or.inl (by decide)) hD hK.1 (fun hm h1 g1 hD1 hf1 => ⟨sp_lr p hs (p - 1).toNat, f, rfl, by rw [hf1 42 (by omega)]; exact hO, ?_⟩) (fun hm => ⟨rfl, ?_⟩)
  · obtain ⟨h2, eh2⟩ : ∃ z9, z9 = va_up h1 42 (jJ 1 (vp_updL f (zI 0).toNatClampNeg ((zI (sp_lr p hs (p - 1).toNat)).toInt64))) := ⟨_, rfl⟩
    rw [← eh2]
    have oh2 : h2 42 = jJ 1 (vp_updL f (zI 0).toNatClampNeg ((zI (sp_lr p hs (p - 1).toNat)).toInt64)) := by rw [eh2, va_up_self]
    have gh2 : ∀ y, y ≠ 42 → h2 y = h1 y := fun y hy => by rw [eh2, va_up_ne _ _ hy]
    show jl_AW _ _ _ _ _ 582 [some (.float (z)), some (.ref (0)), some (.ref (28)), some (.ref (42)), some (.int (zI (((4 * t : Nat) : Int)))), none, none] [.int (zI (0))] n h2 _ _
    have hM2 : jM h2 28 M := jM_fr (fun y q1 q2 => by rw [gh2 y (by omega), hf1 y (by omega)]) hQ
    have elr : sp_lr (M.pe (0 : Int).toNat) (hM M 0) (M.pe (0 : Int).toNat - 1).toNat = sp_lr p hs (p - 1).toNat := by rw [hr.2.1]; exact sp_lr_cg hK.1.2.1.1 h0 _
    refine jl_istore (L' := [some (.float (z)), some (.ref (0)), some (.ref (28)), some (.ref (42)), some (.int (zI (((4 * t : Nat) : Int)))), some (.int (zI (0))), none]) d_Lw_law_582 (by decide) rfl ?_
    refine jl_aload_n d_Lw_law_584 rfl rfl ?_
    refine jl_invV0 (M' := m_Md_canonical) (d' := d - 1) (ck' := 0) (sk' := 0) (na := 0) (as := []) (st := []) (x := 28) d_Lw_law_585 rfl (hM2).1 rfl mw_Lw_125 ww_Md_canonical sw_Md_canonical nw_Md cw_Md_canonical rfl rfl (by decide +kernel) (by omega) (Nat.le_of_ble_eq_true rfl) (Nat.le_of_ble_eq_true rfl) ?_
    refine k_M_canonical hl9 (by omega) hM2 okM hpe (fun _ h3 hM3 hf3 => ?_) (fun q => absurd (hr.1.trans hm) q)
    show jl_AW _ _ _ _ _ 588 [some (.float (z)), some (.ref (0)), some (.ref (28)), some (.ref (42)), some (.int (zI (((4 * t : Nat) : Int)))), some (.int (zI (0))), none] [.int (zI (sp_lr (M.pe (0 : Int).toNat) (hM M 0) (M.pe (0 : Int).toNat - 1).toNat))] n h3 _ _
    have o3 : h3 42 = jJ 1 (vp_updL f (zI 0).toNatClampNeg ((zI (sp_lr p hs (p - 1).toNat)).toInt64)) := by rw [hf3 42 (by omega)]; exact oh2
    have fr : ∀ y, (y < 1 ∨ 6 ≤ y) → (y < 28 ∨ 43 ≤ y) → h3 y = h y := fun y q1 q2 => by rw [hf3 y (by omega), gh2 y (by omega), hf1 y q1]
    refine jl_istore (L' := [some (.float (z)), some (.ref (0)), some (.ref (28)), some (.ref (42)), some (.int (zI (((4 * t : Nat) : Int)))), some (.int (zI (0))), some (.int (zI (sp_lr (M.pe (0 : Int).toNat) (hM M 0) (M.pe (0 : Int).toNat - 1).toNat)))]) d_Lw_law_588 (by decide) rfl ?_
    refine jl_aload_n d_Lw_law_590 rfl rfl ?_
    refine jl_invV0 (M' := m_Md_thrown) (d' := d - 1) (ck' := 0) (sk' := 0) (na := 0) (as := []) (st := []) (x := 28) d_Lw_law_591 rfl (hM3).1 rfl mw_Lw_93 ww_Md_thrown sw_Md_thrown nw_Md cw_Md_thrown rfl rfl (by decide +kernel) (by omega) (Nat.le_of_ble_eq_true rfl) (Nat.le_of_ble_eq_true rfl) ?_
    refine k_M_thrown hl9 (by omega) hM3 ?_
    show jl_AW _ _ _ _ _ 594 [some (.float (z)), some (.ref (0)), some (.ref (28)), some (.ref (42)), some (.int (zI (((4 * t : Nat) : Int)))), some (.int (zI (0))), some (.int (zI (sp_lr (M.pe (0 : Int).toNat) (hM M 0) (M.pe (0 : Int).toNat - 1).toNat)))] [.int (zI (0))] n h3 _ _
    refine jl_iload d_Lw_law_594 rfl ?_
    refine jz_icmp_eq (tgt := 601) d_Lw_law_596 (by decide) ⟨by decide, by decide⟩ ⟨by decide, by decide⟩ (fun _ => ?_) (fun q9 => absurd rfl q9)
    refine jl_iload d_Lw_law_601 rfl ?_
    refine jz_if_ne (tgt := 618) d_Lw_law_603 (by decide) ⟨by decide, by decide⟩ (fun q9 => absurd q9 (by decide)) (fun _ => ?_)
    refine jl_aload_n d_Lw_law_606 rfl rfl ?_
    refine jl_iconst (v := zI (0)) d_Lw_law_607 (by decide) ?_
    refine jl_lald d_Lw_law_608 o3 (zI_in (by decide) (by decide) (by decide)) ?_
    refine jl_iload d_Lw_law_609 rfl ?_
    refine jl_i2l d_Lw_law_611 ?_
    refine jz_lcmp0 d_Lw_law_612 (by unfold vp_updL; rw [if_pos rfl]; rw [elr]) ?_
    refine jz_if_eq (tgt := 618) d_Lw_law_613 (by decide) ⟨by decide, by decide⟩ (fun _ => ?_) (fun q9 => absurd q9 (by decide))
    refine jl_goto (tgt := 1405) d_Lw_law_618 (by decide) ?_
    refine jl_less (L' := [some (.float (z)), some (.ref (0)), some (.ref (28)), some (.ref (42)), some (.int (zI (((4 * t : Nat) : Int)))), none, none]) ⟨rfl, rfl, rfl, rfl, rfl, trivial⟩ ?_
    rw [elr, hr.2.1] at hM3
    subst hm
    have hS5 : ∀ d9 : Int, 1 ≤ d9 → sm5 M (((M.wT 0).whe (rt p (sp_lr p hs (p - 1).toNat) M.he p.toNat)).wtu (tuN p (sp_lr p hs (p - 1).toNat) (hM M 0) p.toNat M.tu)) d9 := by
      intro d9 q1
      refine sm5_0 (fun j hj => ?_) (fun j hj => ?_) (fun j hj => ?_) (fun j hj => ?_) (fun j hj => ?_) q1
      · rfl
      · rfl
      · exact (show rt p (sp_lr p hs (p - 1).toNat) M.he p.toNat j = M.he j by unfold rt; rw [if_neg (by have := hK.1.2.1; omega)])
      · rfl
      · rfl
    have hdk := dK_canon (f := sp_lr p hs (p - 1).toNat) (g := tuN p (sp_lr p hs (p - 1).toNat) (hM M 0) p.toNat M.tu) hK
    exact hnext n h3 ⟨_, hM3, ⟨okM.1, okM.2.1, fun j => (show 0 ≤ rt p (sp_lr p hs (p - 1).toNat) M.he p.toNat j ∧ rt p (sp_lr p hs (p - 1).toNat) M.he p.toNat j ≤ 9 by unfold rt; split <;> exact okM.2.2.1 _), okM.2.2.2.1, okM.2.2.2.2⟩, hrw, (fr 0 (by omega) (by omega)).trans hX, ⟨_, o3⟩, hn, ⟨_, _, _, _, _, g1, jD_fr (fun y q1 q2 => by rw [hf3 y (by omega), gh2 y (by omega)]) hD1, hdk⟩, lS_fr (fun y hy => fr y (by omega) (by omega)) (fun d9 q1 q2 => hS5 _ q1) hlS, lJ_fr (fun y q1 q2 => fr y (by omega) (by omega)) hlJ, lCt_fr (fun y q1 q2 => fr y (by omega) (by omega)) hlC, lF_fr (fun y q1 q2 => fr y (by omega) (by omega)) (hS5 _ (by decide)) ⟨rfl, rfl, rfl, rfl, rfl, rfl⟩ (by omega) hlF⟩
  · show jl_AW _ _ _ _ _ 582 [some (.float (z)), some (.ref (0)), some (.ref (28)), some (.ref (42)), some (.int (zI (((4 * t : Nat) : Int)))), none, none] [.int (zI (1))] n h _ _
    refine jl_istore (L' := [some (.float (z)), some (.ref (0)), some (.ref (28)), some (.ref (42)), some (.int (zI (((4 * t : Nat) : Int)))), some (.int (zI (1))), none]) d_Lw_law_582 (by decide) rfl ?_
    refine jl_aload_n d_Lw_law_584 rfl rfl ?_
    refine jl_invV0 (M' := m_Md_canonical) (d' := d - 1) (ck' := 0) (sk' := 0) (na := 0) (as := []) (st := []) (x := 28) d_Lw_law_585 rfl (hQ).1 rfl mw_Lw_125 ww_Md_canonical sw_Md_canonical nw_Md cw_Md_canonical rfl rfl (by decide +kernel) (by omega) (Nat.le_of_ble_eq_true rfl) (Nat.le_of_ble_eq_true rfl) ?_
    refine k_M_canonical hl9 (by omega) hQ okM hpe (fun q => absurd (hr.1.symm.trans q) hm) (fun _ h3 hM3 hf3 => ?_)
    show jl_AW _ _ _ _ _ 588 [some (.float (z)), some (.ref (0)), some (.ref (28)), some (.ref (42)), some (.int (zI (((4 * t : Nat) : Int)))), some (.int (zI (1))), none] [.int (zI (0))] n h3 _ _
    have fr : ∀ y, (y < 28 ∨ 42 ≤ y) → True → h3 y = h y := fun y q1 _ => hf3 y (by omega)
    refine jl_istore (L' := [some (.float (z)), some (.ref (0)), some (.ref (28)), some (.ref (42)), some (.int (zI (((4 * t : Nat) : Int)))), some (.int (zI (1))), some (.int (zI (0)))]) d_Lw_law_588 (by decide) rfl ?_
    refine jl_aload_n d_Lw_law_590 rfl rfl ?_
    refine jl_invV0 (M' := m_Md_thrown) (d' := d - 1) (ck' := 0) (sk' := 0) (na := 0) (as := []) (st := []) (x := 28) d_Lw_law_591 rfl (hM3).1 rfl mw_Lw_93 ww_Md_thrown sw_Md_thrown nw_Md cw_Md_thrown rfl rfl (by decide +kernel) (by omega) (Nat.le_of_ble_eq_true rfl) (Nat.le_of_ble_eq_true rfl) ?_
    refine k_M_thrown hl9 (by omega) hM3 ?_
    show jl_AW _ _ _ _ _ 594 [some (.float (z)), some (.ref (0)), some (.ref (28)), some (.ref (42)), some (.int (zI (((4 * t : Nat) : Int)))), some (.int (zI (1))), some (.int (zI (0)))] [.int (zI (1))] n h3 _ _
    refine jl_iload d_Lw_law_594 rfl ?_
    refine jz_icmp_eq (tgt := 601) d_Lw_law_596 (by decide) ⟨by decide, by decide⟩ ⟨by decide, by decide⟩ (fun _ => ?_) (fun q9 => absurd rfl q9)
    refine jl_iload d_Lw_law_601 rfl ?_
    refine jz_if_ne (tgt := 618) d_Lw_law_603 (by decide) ⟨by decide, by decide⟩ (fun _ => ?_) (fun q9 => absurd q9 (by decide))
    refine jl_goto (tgt := 1405) d_Lw_law_618 (by decide) ?_
    refine jl_less (L' := [some (.float (z)), some (.ref (0)), some (.ref (28)), some (.ref (42)), some (.int (zI (((4 * t : Nat) : Int)))), none, none]) ⟨rfl, rfl, rfl, rfl, rfl, trivial⟩ ?_
    exact hnext n h3 ⟨_, hM3, okM, hrw, (fr 0 (by omega) trivial).trans hX, ⟨f, (fr 42 (by omega) trivial).trans hO⟩, hn, lD_fr (fun y q1 q2 => fr y (by omega) trivial) ⟨rfl, rfl, fun _ _ => rfl, fun _ _ => rfl, fun _ _ => rfl⟩ hlD, lS_fr (fun y hy => fr y (by omega) trivial) (fun _ _ _ => ⟨rfl, rfl, fun _ _ => rfl, fun _ _ => rfl, fun _ _ => rfl⟩) hlS, lJ_fr (fun y q1 q2 => fr y (by omega) trivial) hlJ, lCt_fr (fun y q1 q2 => fr y (by omega) trivial) hlC, lF_fr (fun y q1 q2 => fr y (by omega) trivial) ⟨rfl, rfl, fun _ _ => rfl, fun _ _ => rfl, fun _ _ => rfl⟩ ⟨rfl, rfl, rfl, rfl, rfl, rfl⟩ (by omega) hlF⟩
set_option maxHeartbeats 4000000 in
set_option maxRecDepth 100000 in
theorem lw_height {l : Launch} {G : jl_G} {F : List Frame → Array Value → State → Nat → Nat → (Nat → Nat) → Nat → State → Prop} {d n t ck sk : Nat} {h : Nat → va_E} {z : UInt32} (hl9 : l.stackTraces = false) (hd9 : 20 ≤ d) (hlen : G.2.2.2.2.1 ≤ 2048) (ht : 4 * t + 4 ≤ G.2.2.2.2.1) (hI : LI t n h) (hnext : ∀ n' h', LI (t + 1) n' h' → jl_AW l G F m_Lw_law d 1405 [some (.float (z)), some (.ref (0)), some (.ref (28)), some (.ref (42)), some (.int (zI (((4 * t : Nat) : Int)))), none, none] [] n' h' ck sk) : jl_AW l G F m_Lw_law d 621 [some (.float (z)), some (.ref (0)), some (.ref (28)), some (.ref (42)), some (.int (zI (((4 * t : Nat) : Int)))), none, none] [] n h (ck + 2) (sk + 12) := by
  obtain ⟨M, hQ, okM, hrw, hX, ⟨f, hO⟩, hn, hlD, hlS, hlJ, hlC, hlF⟩ := hI
  have hz1 := scr_z G (4 * t + 1)
  have hz2 := scr_z G (4 * t + 2)
  have hz3 := scr_z G (4 * t + 3)
  obtain ⟨m, p, hs, cs, xs, sc, hD, hK⟩ := id hlD
  have hr := dK_r hK
  have hp := hK.1.2.1
  refine jl_aload_n d_Lw_law_621 rfl rfl ?_
  refine jl_sload_n d_Lw_law_622 rfl rfl ?_
  refine jl_iload d_Lw_law_623 rfl ?_
  refine jl_iconst (v := zI (1)) d_Lw_law_625 (by decide) ?_
  refine jz_iadd (v := ((4 * t + 1 : Nat) : Int)) d_Lw_law_626 (by omega) ?_
  refine jz_sld (k9 := 4 * t + 1) d_Lw_law_627 rfl (by omega) hlen ?_
  refine jl_sload_n d_Lw_law_628 rfl rfl ?_
  refine jl_iload d_Lw_law_629 rfl ?_
  refine jl_iconst (v := zI (2)) d_Lw_law_631 (by decide) ?_
  refine jz_iadd (v := ((4 * t + 2 : Nat) : Int)) d_Lw_law_632 (by omega) ?_
  refine jz_sld (k9 := 4 * t + 2) d_Lw_law_633 rfl (by omega) hlen ?_
  refine jl_aload_n d_Lw_law_634 rfl rfl ?_
  refine jl_invSH (M' := m_Lw_height) (d' := d - 1) (ck' := 2) (sk' := 12) (ck := ck) (sk := sk) (na := 4) (as := [.ref (0), .int (zI (scr G (4 * t + 1))), .int (zI (scr G (4 * t + 2))), .ref (42)]) (st := []) d_Lw_law_635 rfl mw_Lw_126 ww_Lw_height nw_Lw cw_Lw_height rfl rfl (by decide +kernel) (by omega) (Nat.le_of_ble_eq_true rfl) (Nat.le_of_ble_eq_true rfl) ?_
  refine k_Lw_height hl9 (d' := d - 2) (by omega) hX ?_
  refine k_height hl9 (by omega) hX (Or.inl (by decide)) hD hK.1 hz1 hz2 (fun ha9 hb9 => ⟨hs (scr G (4 * t + 1) * 3 + scr G (4 * t + 2)).toNat + xs (scr G (4 * t + 1)).toNat, f, rfl, hO, ?_⟩) (fun hno => ⟨rfl, ?_⟩)
  · obtain ⟨h2, eh2⟩ : ∃ z9, z9 = va_up h 42 (jJ 1 (vp_updL f (zI 0).toNatClampNeg ((zI (hs (scr G (4 * t + 1) * 3 + scr G (4 * t + 2)).toNat + xs (scr G (4 * t + 1)).toNat)).toInt64))) := ⟨_, rfl⟩
    rw [← eh2]
    have oh2 : h2 42 = jJ 1 (vp_updL f (zI 0).toNatClampNeg ((zI (hs (scr G (4 * t + 1) * 3 + scr G (4 * t + 2)).toNat + xs (scr G (4 * t + 1)).toNat)).toInt64)) := by rw [eh2, va_up_self]
    have gh2 : ∀ y, y ≠ 42 → h2 y = h y := fun y hy => by rw [eh2, va_up_ne _ _ hy]
    show jl_AW _ _ _ _ _ 638 [some (.float (z)), some (.ref (0)), some (.ref (28)), some (.ref (42)), some (.int (zI (((4 * t : Nat) : Int)))), none, none] [.int (zI (0))] n h2 _ _
    have hM2 : jM h2 28 M := jM_fr (fun y q1 q2 => gh2 y (by omega)) hQ
    have hrs := hr.2.2 (scr G (4 * t + 1)).toNat (by omega)
    have hhx : hM M 0 (scr G (4 * t + 1) * 3 + scr G (4 * t + 2)).toNat = hs (scr G (4 * t + 1) * 3 + scr G (4 * t + 2)).toNat := by have := hrs.2.2 (scr G (4 * t + 2)).toNat (by omega); rw [hM_0]; rwa [show (scr G (4 * t + 1)).toNat * 3 + (scr G (4 * t + 2)).toNat = (scr G (4 * t + 1) * 3 + scr G (4 * t + 2)).toNat by omega] at this
    have hin : (0 ≤ scr G (4 * t + 1) ∧ scr G (4 * t + 1) < M.pe (0 : Int).toNat) ∧ 0 ≤ scr G (4 * t + 2) ∧ scr G (4 * t + 2) < M.co (scr G (4 * t + 1)).toNat := by rw [hr.2.1, hrs.1]; exact ⟨ha9, hb9⟩
    refine jl_istore (L' := [some (.float (z)), some (.ref (0)), some (.ref (28)), some (.ref (42)), some (.int (zI (((4 * t : Nat) : Int)))), some (.int (zI (0))), none]) d_Lw_law_638 (by decide) rfl ?_
    refine jl_aload_n d_Lw_law_640 rfl rfl ?_
    refine jl_sload_n d_Lw_law_641 rfl rfl ?_
    refine jl_iload d_Lw_law_642 rfl ?_
    refine jl_iconst (v := zI (1)) d_Lw_law_644 (by decide) ?_
    refine jz_iadd (v := ((4 * t + 1 : Nat) : Int)) d_Lw_law_645 (by omega) ?_
    refine jz_sld (k9 := 4 * t + 1) d_Lw_law_646 rfl (by omega) hlen ?_
    refine jl_sload_n d_Lw_law_647 rfl rfl ?_
    refine jl_iload d_Lw_law_648 rfl ?_
    refine jl_iconst (v := zI (2)) d_Lw_law_650 (by decide) ?_
    refine jz_iadd (v := ((4 * t + 2 : Nat) : Int)) d_Lw_law_651 (by omega) ?_
    refine jz_sld (k9 := 4 * t + 2) d_Lw_law_652 rfl (by omega) hlen ?_
    refine jl_invV0 (M' := m_Md_height) (d' := d - 1) (ck' := 0) (sk' := 0) (na := 2) (as := [.int (zI (scr G (4 * t + 1))), .int (zI (scr G (4 * t + 2)))]) (st := []) (x := 28) d_Lw_law_653 rfl (hM2).1 rfl mw_Lw_128 ww_Md_height sw_Md_height nw_Md cw_Md_height rfl rfl (by decide +kernel) (by omega) (Nat.le_of_ble_eq_true rfl) (Nat.le_of_ble_eq_true rfl) ?_
    refine k_M_height hl9 (by omega) hM2 okM hz1 hz2 (fun _ h3 hM3 hf3 => ?_) (fun q => absurd hin q)
    show jl_AW _ _ _ _ _ 656 [some (.float (z)), some (.ref (0)), some (.ref (28)), some (.ref (42)), some (.int (zI (((4 * t : Nat) : Int)))), some (.int (zI (0))), none] [.int (zI (hM M 0 (scr G (4 * t + 1) * 3 + scr G (4 * t + 2)).toNat + 16 * M.cr (scr G (4 * t + 1)).toNat))] n h3 _ _
    have o3 : h3 42 = jJ 1 (vp_updL f (zI 0).toNatClampNeg ((zI (hs (scr G (4 * t + 1) * 3 + scr G (4 * t + 2)).toNat + xs (scr G (4 * t + 1)).toNat)).toInt64)) := by rw [hf3 42 (by omega)]; exact oh2
    have fr : ∀ y, (y < 1 ∨ 6 ≤ y) → (y < 28 ∨ 43 ≤ y) → h3 y = h y := fun y q1 q2 => by rw [hf3 y (by omega), gh2 y (by omega)]
    refine jl_istore (L' := [some (.float (z)), some (.ref (0)), some (.ref (28)), some (.ref (42)), some (.int (zI (((4 * t : Nat) : Int)))), some (.int (zI (0))), some (.int (zI (hM M 0 (scr G (4 * t + 1) * 3 + scr G (4 * t + 2)).toNat + 16 * M.cr (scr G (4 * t + 1)).toNat)))]) d_Lw_law_656 (by decide) rfl ?_
    refine jl_aload_n d_Lw_law_658 rfl rfl ?_
    refine jl_invV0 (M' := m_Md_thrown) (d' := d - 1) (ck' := 0) (sk' := 0) (na := 0) (as := []) (st := []) (x := 28) d_Lw_law_659 rfl (hM3).1 rfl mw_Lw_93 ww_Md_thrown sw_Md_thrown nw_Md cw_Md_thrown rfl rfl (by decide +kernel) (by omega) (Nat.le_of_ble_eq_true rfl) (Nat.le_of_ble_eq_true rfl) ?_
    refine k_M_thrown hl9 (by omega) hM3 ?_
    show jl_AW _ _ _ _ _ 662 [some (.float (z)), some (.ref (0)), some (.ref (28)), some (.ref (42)), some (.int (zI (((4 * t : Nat) : Int)))), some (.int (zI (0))), some (.int (zI (hM M 0 (scr G (4 * t + 1) * 3 + scr G (4 * t + 2)).toNat + 16 * M.cr (scr G (4 * t + 1)).toNat)))] [.int (zI (0))] n h3 _ _
    refine jl_iload d_Lw_law_662 rfl ?_
    refine jz_icmp_eq (tgt := 669) d_Lw_law_664 (by decide) ⟨by decide, by decide⟩ ⟨by decide, by decide⟩ (fun _ => ?_) (fun q9 => absurd rfl q9)
    refine jl_iload d_Lw_law_669 rfl ?_
    refine jz_if_ne (tgt := 686) d_Lw_law_671 (by decide) ⟨by decide, by decide⟩ (fun q9 => absurd q9 (by decide)) (fun _ => ?_)
    refine jl_aload_n d_Lw_law_674 rfl rfl ?_
    refine jl_iconst (v := zI (0)) d_Lw_law_675 (by decide) ?_
    refine jl_lald d_Lw_law_676 o3 (zI_in (by decide) (by decide) (by decide)) ?_
    refine jl_iload d_Lw_law_677 rfl ?_
    refine jl_i2l d_Lw_law_679 ?_
    refine jz_lcmp0 d_Lw_law_680 (by unfold vp_updL; rw [if_pos rfl]; rw [hhx, hrs.2.1]) ?_
    refine jz_if_eq (tgt := 686) d_Lw_law_681 (by decide) ⟨by decide, by decide⟩ (fun _ => ?_) (fun q9 => absurd q9 (by decide))
    refine jl_goto (tgt := 1405) d_Lw_law_686 (by decide) ?_
    refine jl_less (L' := [some (.float (z)), some (.ref (0)), some (.ref (28)), some (.ref (42)), some (.int (zI (((4 * t : Nat) : Int)))), none, none]) ⟨rfl, rfl, rfl, rfl, rfl, trivial⟩ ?_
    have hlD1 := hlD
    exact hnext n h3 ⟨_, hM3, okM, hrw, (fr 0 (by omega) (by omega)).trans hX, ⟨_, o3⟩, hn, lD_fr (fun y q1 q2 => by rw [hf3 y (by omega), gh2 y (by omega)]) ⟨rfl, rfl, fun _ _ => rfl, fun _ _ => rfl, fun _ _ => rfl⟩ hlD1, lS_fr (fun y hy => fr y (by omega) (by omega)) (fun d9 q1 q2 => ⟨rfl, rfl, fun _ _ => rfl, fun _ _ => rfl, fun _ _ => rfl⟩) hlS, lJ_fr (fun y q1 q2 => fr y (by omega) (by omega)) hlJ, lCt_fr (fun y q1 q2 => fr y (by omega) (by omega)) hlC, lF_fr (fun y q1 q2 => fr y (by omega) (by omega)) (⟨rfl, rfl, fun _ _ => rfl, fun _ _ => rfl, fun _ _ => rfl⟩) ⟨rfl, rfl, rfl, rfl, rfl, rfl⟩ (by omega) hlF⟩
  · show jl_AW _ _ _ _ _ 638 [some (.float (z)), some (.ref (0)), some (.ref (28)), some (.ref (42)), some (.int (zI (((4 * t : Nat) : Int)))), none, none] [.int (zI (1))] n h _ _
    refine jl_istore (L' := [some (.float (z)), some (.ref (0)), some (.ref (28)), some (.ref (42)), some (.int (zI (((4 * t : Nat) : Int)))), some (.int (zI (1))), none]) d_Lw_law_638 (by decide) rfl ?_
    refine jl_aload_n d_Lw_law_640 rfl rfl ?_
    refine jl_sload_n d_Lw_law_641 rfl rfl ?_
    refine jl_iload d_Lw_law_642 rfl ?_
    refine jl_iconst (v := zI (1)) d_Lw_law_644 (by decide) ?_
    refine jz_iadd (v := ((4 * t + 1 : Nat) : Int)) d_Lw_law_645 (by omega) ?_
    refine jz_sld (k9 := 4 * t + 1) d_Lw_law_646 rfl (by omega) hlen ?_
    refine jl_sload_n d_Lw_law_647 rfl rfl ?_
    refine jl_iload d_Lw_law_648 rfl ?_
    refine jl_iconst (v := zI (2)) d_Lw_law_650 (by decide) ?_
    refine jz_iadd (v := ((4 * t + 2 : Nat) : Int)) d_Lw_law_651 (by omega) ?_
    refine jz_sld (k9 := 4 * t + 2) d_Lw_law_652 rfl (by omega) hlen ?_
    refine jl_invV0 (M' := m_Md_height) (d' := d - 1) (ck' := 0) (sk' := 0) (na := 2) (as := [.int (zI (scr G (4 * t + 1))), .int (zI (scr G (4 * t + 2)))]) (st := []) (x := 28) d_Lw_law_653 rfl (hQ).1 rfl mw_Lw_128 ww_Md_height sw_Md_height nw_Md cw_Md_height rfl rfl (by decide +kernel) (by omega) (Nat.le_of_ble_eq_true rfl) (Nat.le_of_ble_eq_true rfl) ?_
    refine k_M_height hl9 (by omega) hQ okM hz1 hz2 (fun q => absurd (by have h8 := q.1; rw [hr.2.1] at h8; have h7 := q.2; rw [(hr.2.2 (scr G (4 * t + 1)).toNat (by omega)).1] at h7; exact ⟨h8, h7⟩) hno) (fun _ h3 hM3 hf3 => ?_)
    show jl_AW _ _ _ _ _ 656 [some (.float (z)), some (.ref (0)), some (.ref (28)), some (.ref (42)), some (.int (zI (((4 * t : Nat) : Int)))), some (.int (zI (1))), none] [.int (zI (0))] n h3 _ _
    have fr : ∀ y, (y < 28 ∨ 42 ≤ y) → True → h3 y = h y := fun y q1 _ => hf3 y (by omega)
    refine jl_istore (L' := [some (.float (z)), some (.ref (0)), some (.ref (28)), some (.ref (42)), some (.int (zI (((4 * t : Nat) : Int)))), some (.int (zI (1))), some (.int (zI (0)))]) d_Lw_law_656 (by decide) rfl ?_
    refine jl_aload_n d_Lw_law_658 rfl rfl ?_
    refine jl_invV0 (M' := m_Md_thrown) (d' := d - 1) (ck' := 0) (sk' := 0) (na := 0) (as := []) (st := []) (x := 28) d_Lw_law_659 rfl (hM3).1 rfl mw_Lw_93 ww_Md_thrown sw_Md_thrown nw_Md cw_Md_thrown rfl rfl (by decide +kernel) (by omega) (Nat.le_of_ble_eq_true rfl) (Nat.le_of_ble_eq_true rfl) ?_
    refine k_M_thrown hl9 (by omega) hM3 ?_
    show jl_AW _ _ _ _ _ 662 [some (.float (z)), some (.ref (0)), some (.ref (28)), some (.ref (42)), some (.int (zI (((4 * t : Nat) : Int)))), some (.int (zI (1))), some (.int (zI (0)))] [.int (zI (1))] n h3 _ _
    refine jl_iload d_Lw_law_662 rfl ?_
    refine jz_icmp_eq (tgt := 669) d_Lw_law_664 (by decide) ⟨by decide, by decide⟩ ⟨by decide, by decide⟩ (fun _ => ?_) (fun q9 => absurd rfl q9)
    refine jl_iload d_Lw_law_669 rfl ?_
    refine jz_if_ne (tgt := 686) d_Lw_law_671 (by decide) ⟨by decide, by decide⟩ (fun _ => ?_) (fun q9 => absurd q9 (by decide))
    refine jl_goto (tgt := 1405) d_Lw_law_686 (by decide) ?_
    refine jl_less (L' := [some (.float (z)), some (.ref (0)), some (.ref (28)), some (.ref (42)), some (.int (zI (((4 * t : Nat) : Int)))), none, none]) ⟨rfl, rfl, rfl, rfl, rfl, trivial⟩ ?_
    exact hnext n h3 ⟨_, hM3, okM, hrw, (fr 0 (by omega) trivial).trans hX, ⟨f, (fr 42 (by omega) trivial).trans hO⟩, hn, lD_fr (fun y q1 q2 => fr y (by omega) trivial) ⟨rfl, rfl, fun _ _ => rfl, fun _ _ => rfl, fun _ _ => rfl⟩ hlD, lS_fr (fun y hy => fr y (by omega) trivial) (fun _ _ _ => ⟨rfl, rfl, fun _ _ => rfl, fun _ _ => rfl, fun _ _ => rfl⟩) hlS, lJ_fr (fun y q1 q2 => fr y (by omega) trivial) hlJ, lCt_fr (fun y q1 q2 => fr y (by omega) trivial) hlC, lF_fr (fun y q1 q2 => fr y (by omega) trivial) ⟨rfl, rfl, fun _ _ => rfl, fun _ _ => rfl, fun _ _ => rfl⟩ ⟨rfl, rfl, rfl, rfl, rfl, rfl⟩ (by omega) hlF⟩
