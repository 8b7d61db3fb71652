theorem zw_St_159 : ("SiteswapStudio", 159, "these drafts can't be joined") ∈ jl_Z := by decide +kernel
theorem zw_St_168 : ("SiteswapStudio", 168, "no such throw of a join") ∈ jl_Z := by decide +kernel
theorem zw_St_177 : ("SiteswapStudio", 177, "no such side of a join") ∈ jl_Z := by decide +kernel
def jSh (h : Nat → va_E) (sh : Nat) (f : Nat → Option Nat) (m9 p9 : Nat → Int) (hs9 cs9 xs9 : Nat → Nat → Int) : Prop := h sh = jQ 2 6 f ∧ (∀ k o, f k = some o → ∃ sc, jD h o (m9 k) (p9 k) (hs9 k) (cs9 k) (xs9 k) sc) ∧ (∀ k k' o o', f k = some o → f k' = some o' → k ≠ k' → o + 5 ≤ o' ∨ o' + 5 ≤ o) ∧ (∀ k o, f k = some o → sh < o ∨ o + 5 ≤ sh)
theorem jSh_sc {h : Nat → va_E} {sh : Nat} {f : Nat → Option Nat} {m9 p9 : Nat → Int} {hs9 cs9 xs9 : Nat → Nat → Int} {k o : Nat} {g : Nat → Int} (hS : jSh h sh f m9 p9 hs9 cs9 xs9) (ho : f k = some o) : jSh (va_up h (o + 4) (jI 16 (fun j => zI (g j)))) sh f m9 p9 hs9 cs9 xs9 := by
  obtain ⟨h1, h2, h3, h4⟩ := hS
  refine ⟨by rw [va_up_ne _ _ (by have := h4 k o ho; omega)]; exact h1, fun k' o' ho' => ?_, h3, h4⟩
  obtain ⟨sc, hD⟩ := h2 k' o' ho'
  by_cases e : k' = k
  · subst e
    rw [ho] at ho'
    cases ho'
    exact ⟨g, jD_sc hD⟩
  · exact ⟨sc, jD_fr (fun y q1 q2 => va_up_ne _ _ (by have := h3 k' k o' o ho' ho e; omega)) hD⟩
theorem jSh_fr {h h' : Nat → va_E} {sh : Nat} {f : Nat → Option Nat} {m9 p9 : Nat → Int} {hs9 cs9 xs9 : Nat → Nat → Int} (hf : ∀ y, (y = sh ∨ ∃ k o, f k = some o ∧ o ≤ y ∧ y < o + 5) → h' y = h y) (hS : jSh h sh f m9 p9 hs9 cs9 xs9) : jSh h' sh f m9 p9 hs9 cs9 xs9 := by
  obtain ⟨h1, h2, h3, h4⟩ := hS
  refine ⟨by rw [hf _ (Or.inl rfl)]; exact h1, fun k o ho => ?_, h3, h4⟩
  obtain ⟨sc, hD⟩ := h2 k o ho
  exact ⟨sc, jD_fr (fun y q1 q2 => hf y (Or.inr ⟨k, o, ho, q1, q2⟩)) hD⟩
theorem wlk_zR {Gl : Int → Prop} : ∀ n v W z, (0 ≤ v ∧ v < 512) → wlk Gl n v W z → zR z
  | 0, v, W, z, hv, a => by rw [a.2]; exact ⟨by omega, by omega⟩
  | n + 1, v, W, z, hv, ⟨h, r, e1, e2, e3⟩ => by
    rcases sa_rg hv ⟨e2.1, e2.2.1⟩ with q | q
    · exact absurd q e2.2.2.1.1
    · exact wlk_zR n _ r z ⟨q.1, q.2.1⟩ e3
theorem sp_balls_rg {m p : Int} {hs cs xs : Nat → Int} (ok : jOk m p hs cs xs) : 0 ≤ sp_balls p hs cs ∧ sp_balls p hs cs ≤ 27 := by
  have h1 := bc_s_rg ok.2.2.1 ok.2.2.2.1 p.toNat
  have hp := ok.2.1
  unfold sp_balls
  rw [Int.tdiv_eq_ediv_of_nonneg h1.1]
  refine ⟨Int.ediv_nonneg h1.1 (by omega), ?_⟩
  have h2 : bc_s hs cs p.toNat ≤ 27 * p := by omega
  exact Int.ediv_le_of_le_mul (by omega) h2
set_option maxHeartbeats 4000000 in
set_option maxRecDepth 100000 in
theorem k_J_connect {l : Launch} {G : jl_G} {d n : Nat} {h : Nat → va_E} {Kr : Option Value → Nat → (Nat → va_E) → Prop} {Kx : String → Nat → (Nat → va_E) → Prop} (hl9 : l.stackTraces = false) (hdd : 5 ≤ d) {jo : Nat} {DS QU WA : Nat → Int} {qd ln md fs ts : Int} {o1 : Nat} {m1 p1 : Int} {hs1 cs1 xs1 sc1 : Nat → Int} {o2 : Nat} {m2 p2 : Int} {hs2 cs2 xs2 sc2 : Nat → Int} (hJ : jJt h jo DS QU WA qd ln md fs ts) (hD1 : jD h o1 m1 p1 hs1 cs1 xs1 sc1) (hD2 : jD h o2 m2 p2 hs2 cs2 xs2 sc2) (ok1 : jOk m1 p1 hs1 cs1 xs1) (ok2 : jOk m2 p2 hs2 cs2 xs2) (hne1 : o1 + 5 ≤ jo ∨ jo + 4 ≤ o1) (hne2 : o2 + 5 ≤ jo ∨ jo + 4 ≤ o2) (hr : ∀ s, 0 ≤ s → s < p1 → ∃ j, rch (glS p2 hs2) j (sp_st p1 hs1 s)) (hk : ∀ (A : Int) (W : List Int) (z r : Int) (DS' QU' WA' : Nat → Int) (qd' : Int) h', nst (glS p2 hs2) p1 hs1 A → (wlk (glS p2 hs2) W.length (sp_st p1 hs1 A) W z ∧ isD (glS p2 hs2) (sp_st p1 hs1 A) (W.length : Int)) → sp_first p2 (fun s => sp_st p2 hs2 s = z) (fun _ => False) r → jJt h' jo DS' QU' WA' qd' (W.length : Int) 1 A r → (∀ j, j < W.length → WA' j = W.getD j 0) → W.length ≤ 511 → jfr h h' jo (jo + 4) → Kr none n h') : jl_Call l G m_Jo_connect d [.ref (jo), .ref (o1), .ref (o2)] n h 0 0 Kr Kx := by
  refine jl_enter hl9 (by decide) rfl (by simp [Value.category]) (Nat.le_of_ble_eq_true rfl) ?_
  show jl_AW l G (jl_F G Kr Kx) m_Jo_connect d 0 [some (.ref (jo)), some (.ref (o1)), some (.ref (o2))] [] n h 0 0
  have hp1 := ok1.2.1
  have hp2 := ok2.2.1
  obtain ⟨j0, j1, j2, j3⟩ := id (hJ)
  refine jl_aload_n d_Jo_connect_0 rfl rfl ?_
  refine jl_aload_n d_Jo_connect_1 rfl rfl ?_
  refine jl_invV (M' := m_Jo_measureDistances) (d' := d - 1) (ck' := 0) (sk' := 0) (na := 1) (as := [.ref (o2)]) (st := []) d_Jo_connect_2 rfl j0 rfl mw_Jo_21 ww_Jo_measureDistances sw_Jo_measureDistances nw_Jo cw_Jo_measureDistances rfl rfl rfl (by decide +kernel) (by omega) (Nat.le_of_ble_eq_true rfl) (Nat.le_of_ble_eq_true rfl) ?_
  refine k_J_measureDistances hl9 (by omega) hJ hD2 ok2 hne2 (fun DS3 QU3 qd3 h3 hJ3 hfr3 hd3 hb3 => ?_)
  show jl_AW _ _ _ _ _ 5 [some (.ref (jo)), some (.ref (o1)), some (.ref (o2))] [] n h3 _ _
  have hE1 := jD_fr (fun y q1 q2 => hfr3 y (by omega)) hD1
  have hE2 := jD_fr (fun y q1 q2 => hfr3 y (by omega)) hD2
  obtain ⟨j03, j13, j23, j33⟩ := id (hJ3)
  have hn9 := nsf_st (Gl := glS p2 hs2) (ds := DS3) (p := p1) (hs := hs1) hp1.1 (fun s r1 r2 => by have hz := sp_st_rg (p := p1) ok1.2.2.1 s; rcases hd3 _ hz.1 hz.2 with q | ⟨-, q⟩; exact q; exact absurd (hr s r1 r2).choose_spec (q _))
  obtain ⟨A, eA⟩ : ∃ A, A = nsf DS3 p1 hs1 (p1 - 1).toNat := ⟨_, rfl⟩
  rw [← eA] at hn9
  refine jl_aload_n d_Jo_connect_5 rfl rfl ?_
  refine jl_aload_n d_Jo_connect_6 rfl rfl ?_
  refine jl_aload_n d_Jo_connect_7 rfl rfl ?_
  refine jl_invV (M' := m_Jo_nearestSite) (d' := d - 1) (ck' := 0) (sk' := 0) (na := 1) (as := [.ref (o1)]) (st := [.ref (jo)]) d_Jo_connect_8 rfl j03 rfl mw_Jo_25 ww_Jo_nearestSite sw_Jo_nearestSite nw_Jo cw_Jo_nearestSite rfl rfl rfl (by decide +kernel) (by omega) (Nat.le_of_ble_eq_true rfl) (Nat.le_of_ble_eq_true rfl) ?_
  refine k_J_nearestSite hl9 (by omega) hJ3 hE1 ok1 hd3 hb3 ?_
  rw [← eA]
  show jl_AW _ _ _ _ _ 11 [some (.ref (jo)), some (.ref (o1)), some (.ref (o2))] [.int (zI (A)), .ref (jo)] n h3 _ _
  have hA0 := hn9.1
  have hA1 := hn9.2.1
  refine jp_3 (q := 6) (ty := .int) d_Jo_connect_11 j03 (by simp) (by decide) fw_Jo_29 rfl (by decide +kernel) (fun _ _ => rfl) (fun _ _ => rfl) (fun h1 eh1 => ?_)
  have eh1 : h1 = va_up h3 (jo) (jO 3 [.ref (jo + 1), .ref (jo + 2), .ref (jo + 3), .int (zI (qd3)), .int (zI (ln)), .int (zI (md)), .int (zI (A)), .int (zI (ts))]) := eh1
  have jf2 : h1 (jo) = jO 3 [.ref (jo + 1), .ref (jo + 2), .ref (jo + 3), .int (zI (qd3)), .int (zI (ln)), .int (zI (md)), .int (zI (A)), .int (zI (ts))] := by rw [eh1, va_up_self]
  refine jl_aload_n d_Jo_connect_14 rfl rfl ?_
  refine jl_aload_n d_Jo_connect_15 rfl rfl ?_
  refine jl_aload_n d_Jo_connect_16 rfl rfl ?_
  refine jl_aload_n d_Jo_connect_17 rfl rfl ?_
  refine jl_aload_n d_Jo_connect_18 rfl rfl ?_
  refine jg_3 (q := 6) d_Jo_connect_19 jf2 rfl (by decide) fw_Jo_29 ?_
  have jf3 : h1 (jo + 1) = jI 512 (fun j9 => zI (DS3 j9)) := by rw [eh1, va_up_ne _ _ (by omega)]; exact j13
  have jf4 : h1 (jo + 2) = jI 512 (fun j9 => zI (QU3 j9)) := by rw [eh1, va_up_ne _ _ (by omega)]; exact j23
  have jf5 : h1 (jo + 3) = jI 512 (fun j9 => zI (WA j9)) := by rw [eh1, va_up_ne _ _ (by omega)]; exact j33
  have hf4 : jfr h h1 jo (jo + 4) := (fun y hy => by rw [eh1, va_up_ne _ _ (by omega)]; exact hfr3 y hy)
  have hJ4 : jJt h1 jo DS3 QU3 WA qd3 ln md A ts := ⟨jf2, jf3, jf4, jf5⟩
  have hE3 : jD h1 o1 m1 p1 hs1 cs1 xs1 sc1 := jD_fr (fun y q1 q2 => hf4 y (by omega)) hD1
  obtain ⟨v06, v16, v26, v36, v46⟩ := id (hE3)
  refine jl_invV (M' := m_Dr_stateBefore) (d' := d - 1) (ck' := 0) (sk' := 0) (na := 1) (as := [.int (zI (A))]) (st := [.ref (jo), .ref (o2), .ref (jo)]) d_Jo_connect_22 rfl v06 rfl mw_Jo_33 ww_Dr_stateBefore sw_Dr_stateBefore nw_Dr cw_Dr_stateBefore rfl rfl rfl (by decide +kernel) (by omega) (Nat.le_of_ble_eq_true rfl) (Nat.le_of_ble_eq_true rfl) ?_
  refine k_D_stateBefore hl9 (by omega) hE3 ok1 ⟨by omega, by omega⟩ ?_
  show jl_AW _ _ _ _ _ 25 [some (.ref (jo)), some (.ref (o1)), some (.ref (o2))] [.int (zI (sp_st p1 hs1 A)), .ref (jo), .ref (o2), .ref (jo)] n h1 _ _
  have hz := sp_st_rg (p := p1) ok1.2.2.1 A
  refine jl_invV (M' := m_Jo_walk) (d' := d - 1) (ck' := 0) (sk' := 0) (na := 1) (as := [.int (zI (sp_st p1 hs1 A))]) (st := [.ref (o2), .ref (jo)]) d_Jo_connect_25 rfl jf2 rfl mw_Jo_39 ww_Jo_walk sw_Jo_walk nw_Jo cw_Jo_walk rfl rfl rfl (by decide +kernel) (by omega) (Nat.le_of_ble_eq_true rfl) (Nat.le_of_ble_eq_true rfl) ?_
  refine k_J_walk hl9 (by omega) hJ4 hd3 hb3 hz (hr A hA0 hA1) (fun W z WA5 h5 hW hW9 hJ5 hWA hfr5 => ?_)
  show jl_AW _ _ _ _ _ 28 [some (.ref (jo)), some (.ref (o1)), some (.ref (o2))] [.int (zI (z)), .ref (o2), .ref (jo)] n h5 _ _
  have hE5 : jD h5 o2 m2 p2 hs2 cs2 xs2 sc2 := jD_fr (fun y q1 q2 => (hfr5 y (by omega)).trans (hf4 y (by omega))) hD2
  obtain ⟨v07, v17, v27, v37, v47⟩ := id (hE5)
  have hz5 : zR z := wlk_zR W.length _ W z hz hW.1
  refine jl_invV (M' := m_Dr_siteOfState) (d' := d - 1) (ck' := 0) (sk' := 0) (na := 1) (as := [.int (zI (z))]) (st := [.ref (jo)]) d_Jo_connect_28 rfl v07 rfl mw_Jo_42 ww_Dr_siteOfState sw_Dr_siteOfState nw_Dr cw_Dr_siteOfState rfl rfl rfl (by decide +kernel) (by omega) (Nat.le_of_ble_eq_true rfl) (Nat.le_of_ble_eq_true rfl) ?_
  refine k_D_siteOfState hl9 (by omega) hE5 ok2 hz5 (fun r hr5 => ?_)
  show jl_AW _ _ _ _ _ 31 [some (.ref (jo)), some (.ref (o1)), some (.ref (o2))] [.int (zI (r)), .ref (jo)] n h5 _ _
  obtain ⟨j05, j15, j25, j35⟩ := id (hJ5)
  refine jp_3 (q := 7) (ty := .int) d_Jo_connect_31 j05 (by simp) (by decide) fw_Jo_45 rfl (by decide +kernel) (fun _ _ => rfl) (fun _ _ => rfl) (fun h6 eh6 => ?_)
  have eh6 : h6 = va_up h5 (jo) (jO 3 [.ref (jo + 1), .ref (jo + 2), .ref (jo + 3), .int (zI (qd3)), .int (zI ((W.length : Int))), .int (zI (md)), .int (zI (A)), .int (zI (r))]) := eh6
  have jf7 : h6 (jo) = jO 3 [.ref (jo + 1), .ref (jo + 2), .ref (jo + 3), .int (zI (qd3)), .int (zI ((W.length : Int))), .int (zI (md)), .int (zI (A)), .int (zI (r))] := by rw [eh6, va_up_self]
  refine jl_aload_n d_Jo_connect_34 rfl rfl ?_
  refine jl_iconst (v := zI (1)) d_Jo_connect_35 (by decide) ?_
  refine jp_3 (q := 5) (ty := .boolean) d_Jo_connect_36 jf7 (by simp) (by decide) fw_Jo_48 rfl (by decide +kernel) (fun _ _ => rfl) (fun _ _ => rfl) (fun h8 eh8 => ?_)
  have eh8 : h8 = va_up h6 (jo) (jO 3 [.ref (jo + 1), .ref (jo + 2), .ref (jo + 3), .int (zI (qd3)), .int (zI ((W.length : Int))), .int (zI (1)), .int (zI (A)), .int (zI (r))]) := eh8
  have jf9 : h8 (jo) = jO 3 [.ref (jo + 1), .ref (jo + 2), .ref (jo + 3), .int (zI (qd3)), .int (zI ((W.length : Int))), .int (zI (1)), .int (zI (A)), .int (zI (r))] := by rw [eh8, va_up_self]
  have jf10 : h8 (jo + 1) = jI 512 (fun j9 => zI (DS3 j9)) := by rw [eh8, va_up_ne _ _ (by omega), eh6, va_up_ne _ _ (by omega)]; exact j15
  have jf11 : h8 (jo + 2) = jI 512 (fun j9 => zI (QU3 j9)) := by rw [eh8, va_up_ne _ _ (by omega), eh6, va_up_ne _ _ (by omega)]; exact j25
  have jf12 : h8 (jo + 3) = jI 512 (fun j9 => zI (WA5 j9)) := by rw [eh8, va_up_ne _ _ (by omega), eh6, va_up_ne _ _ (by omega)]; exact j35
  exact jl_vret d_Jo_connect_39 rfl (hk A W z r _ _ _ _ _ hn9 hW hr5 ⟨jf9, jf10, jf11, jf12⟩ hWA hW9 (fun y hy => by rw [eh8, va_up_ne _ _ (by omega), eh6, va_up_ne _ _ (by omega)]; exact (hfr5 y hy).trans (hf4 y hy)))
set_option maxHeartbeats 4000000 in
set_option maxRecDepth 100000 in
theorem k_J_throwAt {l : Launch} {G : jl_G} {d n : Nat} {h : Nat → va_E} {Kr : Option Value → Nat → (Nat → va_E) → Prop} {Kx : String → Nat → (Nat → va_E) → Prop} (hl9 : l.stackTraces = false) (hdd : 0 ≤ d) {jo : Nat} {DS QU WA : Nat → Int} {qd ln md fs ts : Int} {b : Int} (hJ : jJt h jo DS QU WA qd ln md fs ts) (hb : 0 ≤ b ∧ b < 512) (hk : Kr (some (.int (zI (WA (b).toNat)))) n h) : jl_Call l G m_Jo_throwAt d [.ref (jo), .int (zI (b))] n h 0 0 Kr Kx := by
  refine jl_enter hl9 (by decide) rfl (by simp [Value.category]) (Nat.le_of_ble_eq_true rfl) ?_
  show jl_AW l G (jl_F G Kr Kx) m_Jo_throwAt d 0 [some (.ref (jo)), some (.int (zI (b)))] [] n h 0 0
  obtain ⟨j0, j1, j2, j3⟩ := id (hJ)
  refine jl_aload_n d_Jo_throwAt_0 rfl rfl ?_
  refine jg_3 (q := 2) d_Jo_throwAt_1 j0 rfl (by decide) fw_Jo_18 ?_
  refine jl_iload_n d_Jo_throwAt_4 rfl rfl ?_
  refine jz_iald d_Jo_throwAt_5 j3 (by omega) (by omega) (by omega) ?_
  exact jl_iret d_Jo_throwAt_6 rfl hk
set_option maxHeartbeats 4000000 in
set_option maxRecDepth 100000 in
theorem k_joinThrow {l : Launch} {G : jl_G} {d n : Nat} {h : Nat → va_E} {Kr : Option Value → Nat → (Nat → va_E) → Prop} {Kx : String → Nat → (Nat → va_E) → Prop} (hl9 : l.stackTraces = false) (hdd : 1 ≤ d) {x i sh co cy g : Nat} {jo : Nat} {DS QU WA : Nat → Int} {qd ln md fs ts : Int} {b : Int} (hS : h x = jO 5 [.ref (i), .ref (sh), .ref (jo), .ref (co), .ref (cy), .ref (g)]) (hJ : jJt h jo DS QU WA qd ln md fs ts) (hln : 0 ≤ ln ∧ ln ≤ 511) (hb : zR b) (hk : 0 ≤ b ∧ b < ln → Kr (some (.int (zI (WA (b).toNat)))) n h) (hx1 : ¬ (0 ≤ b ∧ b < ln) → Kx "java/lang/IndexOutOfBoundsException" n h) : jl_Call l G m_St_joinThrow d [.ref (x), .int (zI (b))] n h 1 6 Kr Kx := by
  refine jl_enter hl9 (by decide) rfl (by simp [Value.category]) (Nat.le_of_ble_eq_true rfl) ?_
  show jl_AW l G (jl_F G Kr Kx) m_St_joinThrow d 0 [some (.ref (x)), some (.int (zI (b)))] [] n h 1 6
  obtain ⟨j0, j1, j2, j3⟩ := id (hJ)
  refine jl_iload_n d_St_joinThrow_0 rfl rfl ?_
  refine jz_if_lt (tgt := 15) d_St_joinThrow_1 (by decide) ⟨by omega, by omega⟩ (fun q1 => ?_) (fun q1 => ?_)
  · exact jl_throw (B := []) (text := "no such throw of a join") d_St_joinThrow_15 d_St_joinThrow_18 d_St_joinThrow_19 d_St_joinThrow_21 d_St_joinThrow_24 rfl (by decide) (by decide) kw_St_133 xw_IOE zw_St_168 tw_137.1 tw_137.2.1 (tg_137_133) (by decide) (Nat.le_of_ble_eq_true rfl) (hx1 (by omega))
  · refine jl_iload_n d_St_joinThrow_4 rfl rfl ?_
    refine jl_aload_n d_St_joinThrow_5 rfl rfl ?_
    refine jg_5 (q := 2) d_St_joinThrow_6 hS rfl (by decide) fw_St_23 ?_
    refine jgn_3 (q := 4) d_St_joinThrow_9 j0 rfl (by decide) fw_St_165 ?_
    refine jz_icmp_lt (tgt := 25) d_St_joinThrow_12 (by decide) ⟨by omega, by omega⟩ ⟨by omega, by omega⟩ (fun q2 => ?_) (fun q2 => ?_)
    · refine jl_aload_n d_St_joinThrow_25 rfl rfl ?_
      refine jg_5 (q := 2) d_St_joinThrow_26 hS rfl (by decide) fw_St_23 ?_
      refine jl_iload_n d_St_joinThrow_29 rfl rfl ?_
      refine jl_invV (M' := m_Jo_throwAt) (d' := d - 1) (ck' := 0) (sk' := 0) (na := 1) (as := [.int (zI (b))]) (st := []) d_St_joinThrow_30 rfl j0 rfl mw_St_170 ww_Jo_throwAt sw_Jo_throwAt nw_Jo cw_Jo_throwAt rfl rfl rfl (by decide +kernel) (by omega) (Nat.le_of_ble_eq_true rfl) (Nat.le_of_ble_eq_true rfl) ?_
      refine k_J_throwAt hl9 (by omega) hJ ⟨by omega, by omega⟩ ?_
      show jl_AW _ _ _ _ _ 33 [some (.ref (x)), some (.int (zI (b)))] [.int (zI (WA (b).toNat))] n h _ _
      exact jl_iret d_St_joinThrow_33 rfl (hk (by omega))
    · exact jl_throw (B := []) (text := "no such throw of a join") d_St_joinThrow_15 d_St_joinThrow_18 d_St_joinThrow_19 d_St_joinThrow_21 d_St_joinThrow_24 rfl (by decide) (by decide) kw_St_133 xw_IOE zw_St_168 tw_137.1 tw_137.2.1 (tg_137_133) (by decide) (Nat.le_of_ble_eq_true rfl) (hx1 (by omega))
set_option maxHeartbeats 4000000 in
set_option maxRecDepth 100000 in
theorem k_joinAt {l : Launch} {G : jl_G} {d n : Nat} {h : Nat → va_E} {Kr : Option Value → Nat → (Nat → va_E) → Prop} {Kx : String → Nat → (Nat → va_E) → Prop} (hl9 : l.stackTraces = false) (hdd : 0 ≤ d) {x i sh co cy g : Nat} {jo : Nat} {DS QU WA : Nat → Int} {qd ln md fs ts : Int} {b : Int} (hS : h x = jO 5 [.ref (i), .ref (sh), .ref (jo), .ref (co), .ref (cy), .ref (g)]) (hJ : jJt h jo DS QU WA qd ln md fs ts) (hmd : zR md) (hb : zR b) (hk0 : b = 0 → ¬ md = 0 → Kr (some (.int (zI (fs)))) n h) (hk1 : b = 1 → ¬ md = 0 → Kr (some (.int (zI (ts)))) n h) (hx1 : ¬ ((0 ≤ b ∧ b ≤ 1) ∧ ¬ md = 0) → Kx "java/lang/IndexOutOfBoundsException" n h) : jl_Call l G m_St_joinAt d [.ref (x), .int (zI (b))] n h 1 6 Kr Kx := by
  refine jl_enter hl9 (by decide) rfl (by simp [Value.category]) (Nat.le_of_ble_eq_true rfl) ?_
  show jl_AW l G (jl_F G Kr Kx) m_St_joinAt d 0 [some (.ref (x)), some (.int (zI (b)))] [] n h 1 6
  obtain ⟨j0, j1, j2, j3⟩ := id (hJ)
  refine jl_iload_n d_St_joinAt_0 rfl rfl ?_
  refine jz_if_lt (tgt := 19) d_St_joinAt_1 (by decide) ⟨by omega, by omega⟩ (fun q1 => ?_) (fun q1 => ?_)
  · exact jl_throw (B := []) (text := "no such side of a join") d_St_joinAt_19 d_St_joinAt_22 d_St_joinAt_23 d_St_joinAt_25 d_St_joinAt_28 rfl (by decide) (by decide) kw_St_133 xw_IOE zw_St_177 tw_137.1 tw_137.2.1 (tg_137_133) (by decide) (Nat.le_of_ble_eq_true rfl) (hx1 (by omega))
  · refine jl_iload_n d_St_joinAt_4 rfl rfl ?_
    refine jl_iconst (v := zI (1)) d_St_joinAt_5 (by decide) ?_
    refine jz_icmp_gt (tgt := 19) d_St_joinAt_6 (by decide) ⟨by omega, by omega⟩ ⟨by omega, by omega⟩ (fun q2 => ?_) (fun q2 => ?_)
    · exact jl_throw (B := []) (text := "no such side of a join") d_St_joinAt_19 d_St_joinAt_22 d_St_joinAt_23 d_St_joinAt_25 d_St_joinAt_28 rfl (by decide) (by decide) kw_St_133 xw_IOE zw_St_177 tw_137.1 tw_137.2.1 (tg_137_133) (by decide) (Nat.le_of_ble_eq_true rfl) (hx1 (by omega))
    · refine jl_aload_n d_St_joinAt_9 rfl rfl ?_
      refine jg_5 (q := 2) d_St_joinAt_10 hS rfl (by decide) fw_St_23 ?_
      refine jgn_3 (q := 5) d_St_joinAt_13 j0 rfl (by decide) fw_St_173 ?_
      refine jz_if_ne (tgt := 29) d_St_joinAt_16 (by decide) ⟨by omega, by omega⟩ (fun q3 => ?_) (fun q3 => ?_)
      · refine jl_iload_n d_St_joinAt_29 rfl rfl ?_
        refine jz_if_ne (tgt := 43) d_St_joinAt_30 (by decide) ⟨by omega, by omega⟩ (fun q4 => ?_) (fun q4 => ?_)
        · have e1 : b = 1 := by omega
          refine jl_aload_n d_St_joinAt_43 rfl rfl ?_
          refine jg_5 (q := 2) d_St_joinAt_44 hS rfl (by decide) fw_St_23 ?_
          refine jgn_3 (q := 7) d_St_joinAt_47 j0 rfl (by decide) fw_St_182 ?_
          exact jl_iret d_St_joinAt_50 rfl (hk1 e1 q3)
        · refine jl_aload_n d_St_joinAt_33 rfl rfl ?_
          refine jg_5 (q := 2) d_St_joinAt_34 hS rfl (by decide) fw_St_23 ?_
          refine jgn_3 (q := 6) d_St_joinAt_37 j0 rfl (by decide) fw_St_179 ?_
          refine jl_goto (tgt := 50) d_St_joinAt_40 (by decide) ?_
          exact jl_iret d_St_joinAt_50 rfl (hk0 q4 q3)
      · exact jl_throw (B := []) (text := "no such side of a join") d_St_joinAt_19 d_St_joinAt_22 d_St_joinAt_23 d_St_joinAt_25 d_St_joinAt_28 rfl (by decide) (by decide) kw_St_133 xw_IOE zw_St_177 tw_137.1 tw_137.2.1 (tg_137_133) (by decide) (Nat.le_of_ble_eq_true rfl) (hx1 (by omega))
set_option maxHeartbeats 4000000 in
set_option maxRecDepth 100000 in
theorem k_save {l : Launch} {G : jl_G} {d n : Nat} {h : Nat → va_E} {Kr : Option Value → Nat → (Nat → va_E) → Prop} {Kx : String → Nat → (Nat → va_E) → Prop} (hl9 : l.stackTraces = false) (hdd : 1 ≤ d) {x i sh jo co cy g : Nat} {f : Nat → Option Nat} {m9 p9 : Nat → Int} {hs9 cs9 xs9 : Nat → Nat → Int} {m p : Int} {hs cs xs sc : Nat → Int} {b : Int} (hS : h x = jO 5 [.ref (i), .ref (sh), .ref (jo), .ref (co), .ref (cy), .ref (g)]) (hD : jD h i m p hs cs xs sc) (hSH : jSh h sh f m9 p9 hs9 cs9 xs9) (hio : ∀ k o, f k = some o → i + 5 ≤ o ∨ o + 5 ≤ i) (hns : x < n ∧ sh < n ∧ i + 5 ≤ n) (hsx : ¬ sh = x ∧ (sh < i ∨ i + 5 ≤ sh)) (hb : zR b) (hk0 : 0 ≤ b ∧ b < 6 → f b.toNat = none → ∀ h', jD h' n m p (jcpy 48 hs (fun _ => 0)) (jcpy 16 cs (va_up (fun _ => 0) (0 : Int).toNat 1)) (jcpy 16 xs (fun _ => 0)) (fun _ => 0) → h' sh = jQ 2 6 (va_up f b.toNat (some n)) → (∀ y, y < n → y ≠ sh → h' y = h y) → Kr (some (.int (zI (0)))) (n + 5) h') (hk1 : 0 ≤ b ∧ b < 6 → ∀ o, f b.toNat = some o → ∀ sc9 h', jD h' o m p (jcpy 48 hs (hs9 b.toNat)) (jcpy 16 cs (cs9 b.toNat)) (jcpy 16 xs (xs9 b.toNat)) sc9 → jfr h h' o (o + 5) → Kr (some (.int (zI (1)))) n h') (hx1 : ¬ (0 ≤ b ∧ b < 6) → Kx "java/lang/IndexOutOfBoundsException" n h) : jl_Call l G m_St_save d [.ref (x), .int (zI (b))] n h 6 108 Kr Kx := by
  refine jl_enter hl9 (by decide) rfl (by simp [Value.category]) (Nat.le_of_ble_eq_true rfl) ?_
  show jl_AW l G (jl_F G Kr Kx) m_St_save d 0 [some (.ref (x)), some (.int (zI (b))), none, none] [] n h 6 108
  obtain ⟨hH, hSd, hSn, hSs⟩ := id hSH
  refine jl_iload_n d_St_save_0 rfl rfl ?_
  refine jl_invS (M' := m_St_requireSlot) (d' := d - 1) (ck' := 1) (sk' := 6) (na := 1) (as := [.int (zI (b))]) (st := []) d_St_save_1 rfl mw_St_144 ww_St_requireSlot nw_St cw_St_requireSlot rfl rfl rfl (by decide +kernel) (by omega) (Nat.le_of_ble_eq_true rfl) (Nat.le_of_ble_eq_true rfl) ?_
  refine k_requireSlot hl9 (by omega) hb (fun hin => ?_) (fun hin => hx1 hin)
  show jl_AW _ _ _ _ _ 4 [some (.ref (x)), some (.int (zI (b))), none, none] [] n h _ _
  refine jl_aload_n d_St_save_4 rfl rfl ?_
  refine jg_5 (q := 1) d_St_save_5 hS rfl (by decide) fw_St_16 ?_
  refine jl_iload_n d_St_save_8 rfl rfl ?_
  refine jl_aald (t := 2) d_St_save_9 hH rfl (zI_in (by omega) (by omega) (by decide)) ?_
  rw [zI_cl ⟨by omega, by omega⟩]
  cases ho : f b.toNat with
  | none =>
    show jl_AW _ _ _ _ _ 10 [some (.ref (x)), some (.int (zI (b))), none, none] [.null] n h _ _
    refine jl_nstore_n (L' := [some (.ref (x)), some (.int (zI (b))), some (.null), none]) d_St_save_10 rfl (by decide) rfl ?_
    refine jl_nload_n d_St_save_11 rfl rfl ?_
    refine jl_ifnullN (tgt := 19) d_St_save_12 (by decide) ?_
    refine jl_iconst (v := zI (0)) d_St_save_19 (by decide) ?_
    refine jl_istore_n (L' := [some (.ref (x)), some (.int (zI (b))), some (.null), some (.int (zI (0)))]) d_St_save_20 rfl (by decide) rfl ?_
    refine jl_nload_n d_St_save_21 rfl rfl ?_
    refine jl_nonnullN d_St_save_22 ?_
    refine jl_new (ci := 2) (fs := [.null, .null, .null, .null, .int (zI (0)), .int (zI (0))]) d_St_save_25 rfl ij_Dr tk_Dr (fun j hj => by rcases (show j = 0 ∨ j = 1 ∨ j = 2 ∨ j = 3 ∨ j = 4 ∨ j = 5 by omega) with rfl | rfl | rfl | rfl | rfl | rfl <;> rfl) (fun _ _ => rfl) (by simp [jl_okv]) kw_St_9 vw_Dr nw_Dr ?_
    obtain ⟨h1, eh1⟩ : ∃ z, z = va_up h (n) (jO 2 [.null, .null, .null, .null, .int (zI (0)), .int (zI (0))]) := ⟨_, rfl⟩
    rw [← eh1]
    have jf2 : h1 (n) = jO 2 [.null, .null, .null, .null, .int (zI (0)), .int (zI (0))] := by rw [eh1, va_up_self]
    refine jl_dup d_St_save_28 rfl ?_
    refine jl_invI0 (M' := m_Dr_init) (d' := d - 1) (ck' := 4) (sk' := 96) (na := 0) (as := []) (st := [.ref (n)]) d_St_save_29 rfl mw_St_11 ww_Dr_init rfl nw_Dr cw_Dr_init rfl rfl rfl (by decide +kernel) (by omega) (Nat.le_of_ble_eq_true rfl) (Nat.le_of_ble_eq_true rfl) ?_
    refine k_D_init (i := n) hl9 jf2 (fun h3 hD3 hf3 => ?_)
    show jl_AW _ _ _ _ _ 32 [some (.ref (x)), some (.int (zI (b))), some (.null), some (.int (zI (0)))] [.ref (n)] (n + 5) h3 _ _
    have hx3 : h3 x = jO 5 [.ref (i), .ref (sh), .ref (jo), .ref (co), .ref (cy), .ref (g)] := by rw [hf3 _ (by omega), eh1, va_up_ne _ _ (by omega)]; exact hS
    have hH3 : h3 sh = jQ 2 6 f := by rw [hf3 _ (by omega), eh1, va_up_ne _ _ (by omega)]; exact hH
    have hDd : jD h3 i m p hs cs xs sc := jD_fr (fun y q1 q2 => by rw [hf3 _ (by omega), eh1, va_up_ne _ _ (by omega)]) hD
    obtain ⟨k0, k1, k2, k3, k4⟩ := id hD3
    refine jl_astore_n (L' := [some (.ref (x)), some (.int (zI (b))), some (.ref (n)), some (.int (zI (0)))]) d_St_save_32 rfl (by decide) rfl ?_
    refine jl_aload_n d_St_save_33 rfl rfl ?_
    refine jg_5 (q := 1) d_St_save_34 hx3 rfl (by decide) fw_St_16 ?_
    refine jl_iload_n d_St_save_37 rfl rfl ?_
    refine jl_aload_n d_St_save_38 rfl rfl ?_
    refine jl_aast (t := 2) (ci := 2) d_St_save_39 hH3 rfl k0 rfl (zI_in (by omega) (by omega) (by decide)) ?_
    rw [zI_cl ⟨by omega, by omega⟩]
    obtain ⟨h4, eh4⟩ : ∃ z, z = va_up h3 sh (jQ 2 6 (va_up f b.toNat (some n))) := ⟨_, rfl⟩
    rw [← eh4]
    have hx4 : h4 x = jO 5 [.ref (i), .ref (sh), .ref (jo), .ref (co), .ref (cy), .ref (g)] := by rw [eh4, va_up_ne _ _ (by omega)]; exact hx3
    have hD4 := jD_fr (h' := h4) (fun y q1 q2 => by rw [eh4, va_up_ne _ _ (by omega)]) hD3
    have hE4 := jD_fr (h' := h4) (fun y q1 q2 => by rw [eh4, va_up_ne _ _ (by omega)]) hDd
    obtain ⟨z0, z1, z2, z3, z4⟩ := id hD4
    refine jl_aload_n d_St_save_40 rfl rfl ?_
    refine jl_aload_n d_St_save_41 rfl rfl ?_
    refine jg_5 (q := 0) d_St_save_42 hx4 rfl (by decide) fw_St_12 ?_
    refine jl_invV (M' := m_Dr_copyFrom) (d' := d - 1) (ck' := 0) (sk' := 0) (na := 1) (as := [.ref (i)]) (st := []) d_St_save_45 rfl z0 rfl mw_St_147 ww_Dr_copyFrom sw_Dr_copyFrom nw_Dr cw_Dr_copyFrom rfl rfl rfl (by decide +kernel) (by omega) (Nat.le_of_ble_eq_true rfl) (Nat.le_of_ble_eq_true rfl) ?_
    refine k_D_copyFrom hl9 (by omega) hD4 hE4 (by omega) (fun h5 hD5 hf5 => ?_)
    show jl_AW _ _ _ _ _ 48 [some (.ref (x)), some (.int (zI (b))), some (.ref (n)), some (.int (zI (0)))] [] (n + 5) h5 _ _
    refine jl_iload_n d_St_save_48 rfl rfl ?_
    exact jl_zret d_St_save_49 rfl (by decide) (hk0 hin ho h5 hD5 (by rw [hf5 _ (by omega), eh4, va_up_self]) (fun y q1 q2 => by rw [hf5 y (by omega), eh4, va_up_ne _ _ q2, hf3 y q1, eh1, va_up_ne _ _ (by omega)]))
  | some o =>
    show jl_AW _ _ _ _ _ 10 [some (.ref (x)), some (.int (zI (b))), none, none] [.ref (o)] n h _ _
    refine jl_astore_n (L' := [some (.ref (x)), some (.int (zI (b))), some (.ref (o)), none]) d_St_save_10 rfl (by decide) rfl ?_
    refine jl_aload_n d_St_save_11 rfl rfl ?_
    refine jl_ifnull d_St_save_12 ?_
    refine jl_iconst (v := zI (1)) d_St_save_15 (by decide) ?_
    refine jl_goto (tgt := 20) d_St_save_16 (by decide) ?_
    refine jl_istore_n (L' := [some (.ref (x)), some (.int (zI (b))), some (.ref (o)), some (.int (zI (1)))]) d_St_save_20 rfl (by decide) rfl ?_
    refine jl_aload_n d_St_save_21 rfl rfl ?_
    refine jl_nonnull (tgt := 40) d_St_save_22 (by decide) ?_
    obtain ⟨sc9, hO⟩ := hSd _ _ ho
    have hio := hio _ _ ho
    obtain ⟨z0, z1, z2, z3, z4⟩ := id hO
    refine jl_aload_n d_St_save_40 rfl rfl ?_
    refine jl_aload_n d_St_save_41 rfl rfl ?_
    refine jg_5 (q := 0) d_St_save_42 hS rfl (by decide) fw_St_12 ?_
    refine jl_invV (M' := m_Dr_copyFrom) (d' := d - 1) (ck' := 0) (sk' := 0) (na := 1) (as := [.ref (i)]) (st := []) d_St_save_45 rfl z0 rfl mw_St_147 ww_Dr_copyFrom sw_Dr_copyFrom nw_Dr cw_Dr_copyFrom rfl rfl rfl (by decide +kernel) (by omega) (Nat.le_of_ble_eq_true rfl) (Nat.le_of_ble_eq_true rfl) ?_
    refine k_D_copyFrom hl9 (by omega) hO hD (by omega) (fun h2 hD2 hf2 => ?_)
    show jl_AW _ _ _ _ _ 48 [some (.ref (x)), some (.int (zI (b))), some (.ref (o)), some (.int (zI (1)))] [] n h2 _ _
    refine jl_iload_n d_St_save_48 rfl rfl ?_
    exact jl_zret d_St_save_49 rfl (by decide) (hk1 hin o ho sc9 h2 hD2 hf2)
set_option maxHeartbeats 4000000 in
set_option maxRecDepth 100000 in
theorem k_join {l : Launch} {G : jl_G} {d n : Nat} {h : Nat → va_E} {Kr : Option Value → Nat → (Nat → va_E) → Prop} {Kx : String → Nat → (Nat → va_E) → Prop} (hl9 : l.stackTraces = false) (hdd : 7 ≤ d) {x i sh co cy g : Nat} {jo : Nat} {DS QU WA : Nat → Int} {qd ln md fs ts : Int} {f : Nat → Option Nat} {m9 p9 : Nat → Int} {hs9 cs9 xs9 : Nat → Nat → Int} {a b : Int} (hS : h x = jO 5 [.ref (i), .ref (sh), .ref (jo), .ref (co), .ref (cy), .ref (g)]) (hSH : jSh h sh f m9 p9 hs9 cs9 xs9) (hoo : ∀ k o, f k = some o → (x < o ∨ o + 5 ≤ x) ∧ (o + 5 ≤ jo ∨ jo + 4 ≤ o) ∧ jOk (m9 k) (p9 k) (hs9 k) (cs9 k) (xs9 k)) (hxj : x < jo ∨ jo + 4 ≤ x) (hsj : sh < jo ∨ jo + 4 ≤ sh) (hJ : jJt h jo DS QU WA qd ln md fs ts) (ha : zR a) (hb : zR b) (hRe : 0 ≤ a ∧ a < 6 → 0 ≤ b ∧ b < 6 → ∀ o1 o2, f a.toNat = some o1 → f b.toNat = some o2 → ((m9 a.toNat = 0 ∧ sp_val (m9 a.toNat) (p9 a.toNat) (hs9 a.toNat) (cs9 a.toNat) (xs9 a.toNat)) ∧ (m9 b.toNat = 0 ∧ sp_val (m9 b.toNat) (p9 b.toNat) (hs9 b.toNat) (cs9 b.toNat) (xs9 b.toNat)) ∧ sp_balls (p9 a.toNat) (hs9 a.toNat) (cs9 a.toNat) = sp_balls (p9 b.toNat) (hs9 b.toNat) (cs9 b.toNat)) → ∀ s, 0 ≤ s → s < p9 a.toNat → ∃ j, rch (glS (p9 b.toNat) (hs9 b.toNat)) j (sp_st (p9 a.toNat) (hs9 a.toNat) s)) (hk : 0 ≤ a ∧ a < 6 → 0 ≤ b ∧ b < 6 → ∀ o1 o2, f a.toNat = some o1 → f b.toNat = some o2 → ((m9 a.toNat = 0 ∧ sp_val (m9 a.toNat) (p9 a.toNat) (hs9 a.toNat) (cs9 a.toNat) (xs9 a.toNat)) ∧ (m9 b.toNat = 0 ∧ sp_val (m9 b.toNat) (p9 b.toNat) (hs9 b.toNat) (cs9 b.toNat) (xs9 b.toNat)) ∧ sp_balls (p9 a.toNat) (hs9 a.toNat) (cs9 a.toNat) = sp_balls (p9 b.toNat) (hs9 b.toNat) (cs9 b.toNat)) → ∀ (A : Int) (W : List Int) (z r : Int) (DS' QU' WA' : Nat → Int) (qd' : Int) h', nst (glS (p9 b.toNat) (hs9 b.toNat)) (p9 a.toNat) (hs9 a.toNat) A → (wlk (glS (p9 b.toNat) (hs9 b.toNat)) W.length (sp_st (p9 a.toNat) (hs9 a.toNat) A) W z ∧ isD (glS (p9 b.toNat) (hs9 b.toNat)) (sp_st (p9 a.toNat) (hs9 a.toNat) A) (W.length : Int)) → sp_first (p9 b.toNat) (fun s => sp_st (p9 b.toNat) (hs9 b.toNat) s = z) (fun _ => False) r → jJt h' jo DS' QU' WA' qd' (W.length : Int) 1 A r → (∀ j, j < W.length → WA' j = W.getD j 0) → W.length ≤ 511 → jSh h' sh f m9 p9 hs9 cs9 xs9 → (∀ y, (y < jo ∨ jo + 4 ≤ y) → (∀ k o, f k = some o → y ≠ o + 4) → h' y = h y) → Kr (some (.int (zI (W.length : Int)))) n h') (hx1 : ¬ ((0 ≤ a ∧ a < 6) ∧ (0 ≤ b ∧ b < 6)) → Kx "java/lang/IndexOutOfBoundsException" n h) (hx2 : 0 ≤ a ∧ a < 6 → 0 ≤ b ∧ b < 6 → (f a.toNat = none ∨ f b.toNat = none) → Kx "java/util/NoSuchElementException" n h) (hx3 : 0 ≤ a ∧ a < 6 → 0 ≤ b ∧ b < 6 → ∀ o1 o2, f a.toNat = some o1 → f b.toNat = some o2 → ¬ ((m9 a.toNat = 0 ∧ sp_val (m9 a.toNat) (p9 a.toNat) (hs9 a.toNat) (cs9 a.toNat) (xs9 a.toNat)) ∧ (m9 b.toNat = 0 ∧ sp_val (m9 b.toNat) (p9 b.toNat) (hs9 b.toNat) (cs9 b.toNat) (xs9 b.toNat)) ∧ sp_balls (p9 a.toNat) (hs9 a.toNat) (cs9 a.toNat) = sp_balls (p9 b.toNat) (hs9 b.toNat) (cs9 b.toNat)) → ∀ h', jSh h' sh f m9 p9 hs9 cs9 xs9 → (∀ y, (∀ k o, f k = some o → y ≠ o + 4) → h' y = h y) → Kx "java/lang/IllegalArgumentException" n h') : jl_Call l G m_St_join d [.ref (x), .int (zI (a)), .int (zI (b))] n h 3 18 Kr Kx := by
  refine jl_enter hl9 (by decide) rfl (by simp [Value.category]) (Nat.le_of_ble_eq_true rfl) ?_
  show jl_AW l G (jl_F G Kr Kx) m_St_join d 0 [some (.ref (x)), some (.int (zI (a))), some (.int (zI (b))), none, none] [] n h 3 18
  obtain ⟨hH, hSd, hSn, hSs⟩ := id hSH
  refine jl_iload_n d_St_join_0 rfl rfl ?_
  refine jl_invS (M' := m_St_requireSlot) (d' := d - 1) (ck' := 1) (sk' := 6) (na := 1) (as := [.int (zI (a))]) (st := []) d_St_join_1 rfl mw_St_144 ww_St_requireSlot nw_St cw_St_requireSlot rfl rfl rfl (by decide +kernel) (by omega) (Nat.le_of_ble_eq_true rfl) (Nat.le_of_ble_eq_true rfl) ?_
  refine k_requireSlot hl9 (by omega) ha (fun hia => ?_) (fun hin => hx1 (fun q => hin q.1))
  show jl_AW _ _ _ _ _ 4 [some (.ref (x)), some (.int (zI (a))), some (.int (zI (b))), none, none] [] n h _ _
  refine jl_iload_n d_St_join_4 rfl rfl ?_
  refine jl_invS (M' := m_St_requireSlot) (d' := d - 1) (ck' := 1) (sk' := 6) (na := 1) (as := [.int (zI (b))]) (st := []) d_St_join_5 rfl mw_St_144 ww_St_requireSlot nw_St cw_St_requireSlot rfl rfl rfl (by decide +kernel) (by omega) (Nat.le_of_ble_eq_true rfl) (Nat.le_of_ble_eq_true rfl) ?_
  refine k_requireSlot hl9 (by omega) hb (fun hib => ?_) (fun hin => hx1 (fun q => hin q.2))
  show jl_AW _ _ _ _ _ 8 [some (.ref (x)), some (.int (zI (a))), some (.int (zI (b))), none, none] [] n h _ _
  refine jl_aload_n d_St_join_8 rfl rfl ?_
  refine jg_5 (q := 1) d_St_join_9 hS rfl (by decide) fw_St_16 ?_
  refine jl_iload_n d_St_join_12 rfl rfl ?_
  refine jl_aald (t := 2) d_St_join_13 hH rfl (zI_in (by omega) (by omega) (by decide)) ?_
  rw [zI_cl ⟨by omega, by omega⟩]
  cases ho1 : f a.toNat with
  | none =>
    show jl_AW _ _ _ _ _ 14 [some (.ref (x)), some (.int (zI (a))), some (.int (zI (b))), none, none] [.null] n h _ _
    refine jl_nstore_n (L' := [some (.ref (x)), some (.int (zI (a))), some (.int (zI (b))), some (.null), none]) d_St_join_14 rfl (by decide) rfl ?_
    refine jl_aload_n d_St_join_15 rfl rfl ?_
    refine jg_5 (q := 1) d_St_join_16 hS rfl (by decide) fw_St_16 ?_
    refine jl_iload_n d_St_join_19 rfl rfl ?_
    refine jl_aald (t := 2) d_St_join_20 hH rfl (zI_in (by omega) (by omega) (by decide)) ?_
    rw [zI_cl ⟨by omega, by omega⟩]
    cases ho2 : f b.toNat with
    | none =>
      show jl_AW _ _ _ _ _ 21 [some (.ref (x)), some (.int (zI (a))), some (.int (zI (b))), some (.null), none] [.null] n h _ _
      refine jl_nstore (L' := [some (.ref (x)), some (.int (zI (a))), some (.int (zI (b))), some (.null), some (.null)]) d_St_join_21 (by decide) rfl ?_
      refine jl_nload_n d_St_join_23 rfl rfl ?_
      refine jl_ifnullN (tgt := 32) d_St_join_24 (by decide) ?_
      exact jl_throwX (ix := 13) (rx := prog_19_method_4_code) (by decide +kernel) (by decide +kernel) (by decide +kernel) (by decide +kernel) (B := []) (names := ["java/lang/RuntimeException", "java/lang/Exception"]) (text := "the slot is empty") d_St_join_32 d_St_join_35 d_St_join_36 d_St_join_38 d_St_join_41 rfl (by decide) (by decide) kw_St_151 xw_NSE zw_St_153 twx_155.1 twx_155.2 (hgx_155).1 hgx_155.2 (by decide) (Nat.le_of_ble_eq_true rfl) (hx2 hia hib (Or.inl ho1))
    | some o2 =>
      show jl_AW _ _ _ _ _ 21 [some (.ref (x)), some (.int (zI (a))), some (.int (zI (b))), some (.null), none] [.ref (o2)] n h _ _
      refine jl_astore (L' := [some (.ref (x)), some (.int (zI (a))), some (.int (zI (b))), some (.null), some (.ref (o2))]) d_St_join_21 (by decide) rfl ?_
      refine jl_nload_n d_St_join_23 rfl rfl ?_
      refine jl_ifnullN (tgt := 32) d_St_join_24 (by decide) ?_
      exact jl_throwX (ix := 13) (rx := prog_19_method_4_code) (by decide +kernel) (by decide +kernel) (by decide +kernel) (by decide +kernel) (B := []) (names := ["java/lang/RuntimeException", "java/lang/Exception"]) (text := "the slot is empty") d_St_join_32 d_St_join_35 d_St_join_36 d_St_join_38 d_St_join_41 rfl (by decide) (by decide) kw_St_151 xw_NSE zw_St_153 twx_155.1 twx_155.2 (hgx_155).1 hgx_155.2 (by decide) (Nat.le_of_ble_eq_true rfl) (hx2 hia hib (Or.inl ho1))
  | some o1 =>
    show jl_AW _ _ _ _ _ 14 [some (.ref (x)), some (.int (zI (a))), some (.int (zI (b))), none, none] [.ref (o1)] n h _ _
    refine jl_astore_n (L' := [some (.ref (x)), some (.int (zI (a))), some (.int (zI (b))), some (.ref (o1)), none]) d_St_join_14 rfl (by decide) rfl ?_
    refine jl_aload_n d_St_join_15 rfl rfl ?_
    refine jg_5 (q := 1) d_St_join_16 hS rfl (by decide) fw_St_16 ?_
    refine jl_iload_n d_St_join_19 rfl rfl ?_
    refine jl_aald (t := 2) d_St_join_20 hH rfl (zI_in (by omega) (by omega) (by decide)) ?_
    rw [zI_cl ⟨by omega, by omega⟩]
    cases ho2 : f b.toNat with
    | none =>
      show jl_AW _ _ _ _ _ 21 [some (.ref (x)), some (.int (zI (a))), some (.int (zI (b))), some (.ref (o1)), none] [.null] n h _ _
      refine jl_nstore (L' := [some (.ref (x)), some (.int (zI (a))), some (.int (zI (b))), some (.ref (o1)), some (.null)]) d_St_join_21 (by decide) rfl ?_
      refine jl_aload_n d_St_join_23 rfl rfl ?_
      refine jl_ifnull d_St_join_24 ?_
      refine jl_nload d_St_join_27 rfl ?_
      refine jl_nonnullN d_St_join_29 ?_
      exact jl_throwX (ix := 13) (rx := prog_19_method_4_code) (by decide +kernel) (by decide +kernel) (by decide +kernel) (by decide +kernel) (B := []) (names := ["java/lang/RuntimeException", "java/lang/Exception"]) (text := "the slot is empty") d_St_join_32 d_St_join_35 d_St_join_36 d_St_join_38 d_St_join_41 rfl (by decide) (by decide) kw_St_151 xw_NSE zw_St_153 twx_155.1 twx_155.2 (hgx_155).1 hgx_155.2 (by decide) (Nat.le_of_ble_eq_true rfl) (hx2 hia hib (Or.inr ho2))
    | some o2 =>
      show jl_AW _ _ _ _ _ 21 [some (.ref (x)), some (.int (zI (a))), some (.int (zI (b))), some (.ref (o1)), none] [.ref (o2)] n h _ _
      refine jl_astore (L' := [some (.ref (x)), some (.int (zI (a))), some (.int (zI (b))), some (.ref (o1)), some (.ref (o2))]) d_St_join_21 (by decide) rfl ?_
      refine jl_aload_n d_St_join_23 rfl rfl ?_
      refine jl_ifnull d_St_join_24 ?_
      refine jl_aload d_St_join_27 rfl ?_
      refine jl_nonnull (tgt := 42) d_St_join_29 (by decide) ?_
      obtain ⟨hox1, hoj1, ok1⟩ := hoo _ _ ho1
      obtain ⟨hox2, hoj2, ok2⟩ := hoo _ _ ho2
      obtain ⟨sc1, hD1⟩ := hSd _ _ ho1
      obtain ⟨v01, v11, v21, v31, v41⟩ := id (hD1)
      refine jl_aload_n d_St_join_42 rfl rfl ?_
      refine jl_invV (M' := m_Dr_isPlainAndValid) (d' := d - 1) (ck' := 0) (sk' := 0) (na := 0) (as := []) (st := []) d_St_join_43 rfl v01 rfl mw_St_156 ww_Dr_isPlainAndValid sw_Dr_isPlainAndValid nw_Dr cw_Dr_isPlainAndValid rfl rfl rfl (by decide +kernel) (by omega) (Nat.le_of_ble_eq_true rfl) (Nat.le_of_ble_eq_true rfl) ?_
      refine k_D_isPlainAndValid hl9 (by omega) hD1 ok1 (fun b1 g1 hb1 h2 eh2 => ?_)
      show jl_AW _ _ _ _ _ 46 [some (.ref (x)), some (.int (zI (a))), some (.int (zI (b))), some (.ref (o1)), some (.ref (o2))] [.int (zI (b1))] n h2 _ _
      have hz1 := sp_is_rg hb1
      have hSH2 : jSh h2 sh f m9 p9 hs9 cs9 xs9 := by rw [eh2]; exact jSh_sc hSH ho1
      obtain ⟨hH2, hSd2, -, -⟩ := id hSH2
      have hfr2 : ∀ y, (∀ k o, f k = some o → y ≠ o + 4) → h2 y = h y := fun y hy => by rw [eh2, va_up_ne _ _ (hy _ _ ho1)]
      refine jz_if_eq (tgt := 69) d_St_join_46 (by decide) ⟨by omega, by omega⟩ (fun q1 => ?_) (fun q1 => ?_)
      · exact jl_throw (B := []) (text := "these drafts can't be joined") d_St_join_69 d_St_join_72 d_St_join_73 d_St_join_75 d_St_join_78 rfl (by decide) (by decide) kw_St_48 xw_IAE zw_St_159 tw_52.1 tw_52.2.1 (tg_52_48) (by decide) (Nat.le_of_ble_eq_true rfl) (hx3 hia hib o1 o2 ho1 ho2 (fun q => by rcases hb1 with ⟨q9, -⟩ | ⟨-, q9⟩; omega; exact q9 q.1) h2 hSH2 hfr2)
      · have hv1 : m9 a.toNat = 0 ∧ sp_val (m9 a.toNat) (p9 a.toNat) (hs9 a.toNat) (cs9 a.toNat) (xs9 a.toNat) := by rcases hb1 with ⟨-, q9⟩ | ⟨q9, -⟩; exact q9; omega
        obtain ⟨sc2, hD2⟩ := hSd2 _ _ ho2
        obtain ⟨v02, v12, v22, v32, v42⟩ := id (hD2)
        refine jl_aload d_St_join_49 rfl ?_
        refine jl_invV (M' := m_Dr_isPlainAndValid) (d' := d - 1) (ck' := 0) (sk' := 0) (na := 0) (as := []) (st := []) d_St_join_51 rfl v02 rfl mw_St_156 ww_Dr_isPlainAndValid sw_Dr_isPlainAndValid nw_Dr cw_Dr_isPlainAndValid rfl rfl rfl (by decide +kernel) (by omega) (Nat.le_of_ble_eq_true rfl) (Nat.le_of_ble_eq_true rfl) ?_
        refine k_D_isPlainAndValid hl9 (by omega) hD2 ok2 (fun b2 g2 hb2 h3 eh3 => ?_)
        show jl_AW _ _ _ _ _ 54 [some (.ref (x)), some (.int (zI (a))), some (.int (zI (b))), some (.ref (o1)), some (.ref (o2))] [.int (zI (b2))] n h3 _ _
        have hz2 := sp_is_rg hb2
        have hSH3 : jSh h3 sh f m9 p9 hs9 cs9 xs9 := by rw [eh3]; exact jSh_sc hSH2 ho2
        obtain ⟨hH3, hSd3, -, -⟩ := id hSH3
        have hfr3 : ∀ y, (∀ k o, f k = some o → y ≠ o + 4) → h3 y = h y := fun y hy => by rw [eh3, va_up_ne _ _ (hy _ _ ho2)]; exact hfr2 y hy
        refine jz_if_eq (tgt := 69) d_St_join_54 (by decide) ⟨by omega, by omega⟩ (fun q2 => ?_) (fun q2 => ?_)
        · exact jl_throw (B := []) (text := "these drafts can't be joined") d_St_join_69 d_St_join_72 d_St_join_73 d_St_join_75 d_St_join_78 rfl (by decide) (by decide) kw_St_48 xw_IAE zw_St_159 tw_52.1 tw_52.2.1 (tg_52_48) (by decide) (Nat.le_of_ble_eq_true rfl) (hx3 hia hib o1 o2 ho1 ho2 (fun q => by rcases hb2 with ⟨q9, -⟩ | ⟨-, q9⟩; omega; exact q9 q.2.1) h3 hSH3 hfr3)
        · have hv2 : m9 b.toNat = 0 ∧ sp_val (m9 b.toNat) (p9 b.toNat) (hs9 b.toNat) (cs9 b.toNat) (xs9 b.toNat) := by rcases hb2 with ⟨-, q9⟩ | ⟨q9, -⟩; exact q9; omega
          obtain ⟨sd1, hF1⟩ := hSd3 _ _ ho1
          obtain ⟨sd2, hF2⟩ := hSd3 _ _ ho2
          obtain ⟨v03, v13, v23, v33, v43⟩ := id (hF1)
          obtain ⟨v04, v14, v24, v34, v44⟩ := id (hF2)
          refine jl_aload_n d_St_join_57 rfl rfl ?_
          refine jl_invV (M' := m_Dr_ballCount) (d' := d - 1) (ck' := 0) (sk' := 0) (na := 0) (as := []) (st := []) d_St_join_58 rfl v03 rfl mw_St_114 ww_Dr_ballCount sw_Dr_ballCount nw_Dr cw_Dr_ballCount rfl rfl rfl (by decide +kernel) (by omega) (Nat.le_of_ble_eq_true rfl) (Nat.le_of_ble_eq_true rfl) ?_
          refine k_D_ballCount hl9 (by omega) hF1 ok1 ?_
          show jl_AW _ _ _ _ _ 61 [some (.ref (x)), some (.int (zI (a))), some (.int (zI (b))), some (.ref (o1)), some (.ref (o2))] [.int (zI (sp_balls (p9 a.toNat) (hs9 a.toNat) (cs9 a.toNat)))] n h3 _ _
          refine jl_aload d_St_join_61 rfl ?_
          refine jl_invV (M' := m_Dr_ballCount) (d' := d - 1) (ck' := 0) (sk' := 0) (na := 0) (as := []) (st := [.int (zI (sp_balls (p9 a.toNat) (hs9 a.toNat) (cs9 a.toNat)))]) d_St_join_63 rfl v04 rfl mw_St_114 ww_Dr_ballCount sw_Dr_ballCount nw_Dr cw_Dr_ballCount rfl rfl rfl (by decide +kernel) (by omega) (Nat.le_of_ble_eq_true rfl) (Nat.le_of_ble_eq_true rfl) ?_
          refine k_D_ballCount hl9 (by omega) hF2 ok2 ?_
          show jl_AW _ _ _ _ _ 66 [some (.ref (x)), some (.int (zI (a))), some (.int (zI (b))), some (.ref (o1)), some (.ref (o2))] [.int (zI (sp_balls (p9 b.toNat) (hs9 b.toNat) (cs9 b.toNat))), .int (zI (sp_balls (p9 a.toNat) (hs9 a.toNat) (cs9 a.toNat)))] n h3 _ _
          have hr1 := sp_balls_rg ok1
          have hr2 := sp_balls_rg ok2
          refine jz_icmp_eq (tgt := 79) d_St_join_66 (by decide) ⟨by omega, by omega⟩ ⟨by omega, by omega⟩ (fun q3 => ?_) (fun q3 => ?_)
          · have hx9 : ∀ y, (y < i ∨ True) → (∀ k o, f k = some o → y < o ∨ o + 5 ≤ y) → h3 y = h y := fun y _ hy => hfr3 y (fun k o q => by have := hy k o q; omega)
            have hS3 : h3 x = jO 5 [.ref (i), .ref (sh), .ref (jo), .ref (co), .ref (cy), .ref (g)] := by rw [hx9 x (Or.inr trivial) (fun k o q => (hoo k o q).1)]; exact hS
            have hJ3 : jJt h3 jo DS QU WA qd ln md fs ts := ⟨by rw [hx9 _ (Or.inr trivial) (fun k o q => by have := (hoo k o q).2.1; omega)]; exact hJ.1, by rw [hx9 _ (Or.inr trivial) (fun k o q => by have := (hoo k o q).2.1; omega)]; exact hJ.2.1, by rw [hx9 _ (Or.inr trivial) (fun k o q => by have := (hoo k o q).2.1; omega)]; exact hJ.2.2.1, by rw [hx9 _ (Or.inr trivial) (fun k o q => by have := (hoo k o q).2.1; omega)]; exact hJ.2.2.2⟩
            obtain ⟨j03, j13, j23, j33⟩ := id (hJ3)
            refine jl_aload_n d_St_join_79 rfl rfl ?_
            refine jg_5 (q := 2) d_St_join_80 hS3 rfl (by decide) fw_St_23 ?_
            refine jl_aload_n d_St_join_83 rfl rfl ?_
            refine jl_aload d_St_join_84 rfl ?_
            refine jl_invV (M' := m_Jo_connect) (d' := d - 1) (ck' := 0) (sk' := 0) (na := 2) (as := [.ref (o1), .ref (o2)]) (st := []) d_St_join_86 rfl j03 rfl mw_St_161 ww_Jo_connect sw_Jo_connect nw_Jo cw_Jo_connect rfl rfl rfl (by decide +kernel) (by omega) (Nat.le_of_ble_eq_true rfl) (Nat.le_of_ble_eq_true rfl) ?_
            refine k_J_connect hl9 (by omega) hJ3 hF1 hF2 ok1 ok2 (by omega) (by omega) (hRe hia hib o1 o2 ho1 ho2 ⟨hv1, hv2, q3⟩) (fun A W z r DS5 QU5 WA5 qd5 h5 hn5 hW5 hr5 hJ5 hWA5 hl5 hfr5 => ?_)
            show jl_AW _ _ _ _ _ 89 [some (.ref (x)), some (.int (zI (a))), some (.int (zI (b))), some (.ref (o1)), some (.ref (o2))] [] n h5 _ _
            have hS5 : h5 x = jO 5 [.ref (i), .ref (sh), .ref (jo), .ref (co), .ref (cy), .ref (g)] := by rw [hfr5 _ (by omega)]; exact hS3
            obtain ⟨j05, j15, j25, j35⟩ := id (hJ5)
            refine jl_aload_n d_St_join_89 rfl rfl ?_
            refine jg_5 (q := 2) d_St_join_90 hS5 rfl (by decide) fw_St_23 ?_
            refine jgn_3 (q := 4) d_St_join_93 j05 rfl (by decide) fw_St_165 ?_
            exact jl_iret d_St_join_96 rfl (hk hia hib o1 o2 ho1 ho2 ⟨hv1, hv2, q3⟩ A W z r DS5 QU5 WA5 qd5 h5 hn5 hW5 hr5 hJ5 hWA5 hl5 (jSh_fr (fun y hy => hfr5 y (by rcases hy with hy | ⟨k, o, q1, q2, q4⟩; omega; have := (hoo k o q1).2.1; omega)) hSH3) (fun y q1 q2 => (hfr5 y q1).trans (hfr3 y q2)))
          · exact jl_throw (B := []) (text := "these drafts can't be joined") d_St_join_69 d_St_join_72 d_St_join_73 d_St_join_75 d_St_join_78 rfl (by decide) (by decide) kw_St_48 xw_IAE zw_St_159 tw_52.1 tw_52.2.1 (tg_52_48) (by decide) (Nat.le_of_ble_eq_true rfl) (hx3 hia hib o1 o2 ho1 ho2 (fun q => q3 q.2.2) h3 hSH3 hfr3)
