theorem zw_St_153 : ("SiteswapStudio", 153, "the slot is empty") ∈ jl_Z := by decide +kernel
theorem zw_St_202 : ("SiteswapStudio", 202, "no such number of beats") ∈ jl_Z := by decide +kernel
theorem zw_St_222 : ("SiteswapStudio", 222, "no such thing of the floor") ∈ jl_Z := by decide +kernel
theorem zw_St_249 : ("SiteswapStudio", 249, "nothing was shown") ∈ jl_Z := by decide +kernel
theorem zw_St_251 : ("SiteswapStudio", 251, "no such ball") ∈ jl_Z := by decide +kernel
theorem twx_155 : (∀ w ∈ (jx_at "SiteswapStudio" 155 "java/util/NoSuchElementException" 13 prog_19_method_4_code ["java/lang/RuntimeException", "java/lang/Exception"]).filter goodWord, w ∈ jl_T) ∧ (∀ w ∈ (jx_at "SiteswapStudio" 155 "java/util/NoSuchElementException" 13 prog_19_method_4_code ["java/lang/RuntimeException", "java/lang/Exception"]).filter (fun w => !goodWord w), w ∈ jl_N) := by
  have h1 : ∀ w ∈ (jx_at "SiteswapStudio" 155 "java/util/NoSuchElementException" 13 prog_19_method_4_code ["java/lang/RuntimeException", "java/lang/Exception"]).filter goodWord, w ∈ lw_tbl ∧ goodWord w = true := by decide +kernel
  have h2 : ∀ w ∈ (jx_at "SiteswapStudio" 155 "java/util/NoSuchElementException" 13 prog_19_method_4_code ["java/lang/RuntimeException", "java/lang/Exception"]).filter (fun w => !goodWord w), w ∈ lw_tbl ∧ jl_nw w = true := by decide +kernel
  exact ⟨fun w hw => jl_in (h1 w hw).1 (h1 w hw).2, fun w hw => jl_inN (h2 w hw).1 (h2 w hw).2⟩
theorem hgx_155 : (∀ a ∈ [Cond.instanceMethod (Bundle.initS "java/util/NoSuchElementException"), Cond.code (Bundle.initS "java/util/NoSuchElementException") prog_19_method_4_code 2 none], vx_no a = true ∧ a ∈ Bundle.ownAtomsX "SiteswapStudio" 155 "java/util/NoSuchElementException" 13 prog_19_method_4_code ["java/lang/RuntimeException", "java/lang/Exception"]) ∧ (∀ w ∈ Cond.classLink "SiteswapStudio" 151 "java/util/NoSuchElementException" :: Cond.initialized "java/util/NoSuchElementException" :: jx_at "SiteswapStudio" 155 "java/util/NoSuchElementException" 13 prog_19_method_4_code ["java/lang/RuntimeException", "java/lang/Exception"], vx_ot w = true) := by decide +kernel
theorem jFl_fr {h h' : Nat → va_E} {g : Nat} {op nw : Int} {B : List (Int × Int)} {MD : Nat → Int} (hf : ∀ y, (y = g ∨ y = g + 6 ∨ y = g + 7 ∨ y = g + 8) → h' y = h y) (hF : jFl h g op nw B MD) : jFl h' g op nw B MD := by
  obtain ⟨LA, LI, u0, u1, u2, u3, u4, u5⟩ := hF
  exact ⟨LA, LI, by rw [hf _ (by omega)]; exact u0, by rw [hf _ (by omega)]; exact u1, by rw [hf _ (by omega)]; exact u2, by rw [hf _ (by omega)]; exact u3, u4, u5⟩
theorem jD_fr {h h' : Nat → va_E} {i : Nat} {m p : Int} {hs cs xs sc : Nat → Int} (hf : ∀ y, i ≤ y → y < i + 5 → h' y = h y) (hD : jD h i m p hs cs xs sc) : jD h' i m p hs cs xs sc := by
  obtain ⟨h0, h1, h2, h3, h4⟩ := hD
  exact ⟨by rw [hf _ (by omega) (by omega)]; exact h0, by rw [hf _ (by omega) (by omega)]; exact h1, by rw [hf _ (by omega) (by omega)]; exact h2, by rw [hf _ (by omega) (by omega)]; exact h3, by rw [hf _ (by omega) (by omega)]; exact h4⟩
set_option maxHeartbeats 4000000 in
set_option maxRecDepth 100000 in
theorem k_requireShown {l : Launch} {G : jl_G} {d n : Nat} {h : Nat → va_E} {Kr : Option Value → Nat → (Nat → va_E) → Prop} {Kx : String → Nat → (Nat → va_E) → Prop} (hl9 : l.stackTraces = false) (hdd : 0 ≤ d) {x i sh jo co cy g : Nat} {op nw : Int} {B : List (Int × Int)} {MD : Nat → Int} (hS : h x = jO 5 [.ref (i), .ref (sh), .ref (jo), .ref (co), .ref (cy), .ref (g)]) (hF : jFl h g op nw B MD) (hop : zR op) (hk : ¬ op = 0 → Kr none n h) (hkx : op = 0 → Kx "java/lang/IllegalStateException" n h) : jl_Call l G m_St_requireShown d [.ref (x)] n h 1 6 Kr Kx := by
  refine jl_enter hl9 (by decide) rfl (by simp [Value.category]) (Nat.le_of_ble_eq_true rfl) ?_
  show jl_AW l G (jl_F G Kr Kx) m_St_requireShown d 0 [some (.ref (x))] [] n h 1 6
  obtain ⟨LA, LI, u0, u1, u2, u3, u4, u5⟩ := hF
  refine jl_aload_n d_St_requireShown_0 rfl rfl ?_
  refine jg_5 (q := 5) d_St_requireShown_1 hS rfl (by decide) fw_St_44 ?_
  refine jgn_4 (q := 4) d_St_requireShown_4 u0 rfl (by decide) fw_St_246 ?_
  refine jz_if_ne (tgt := 20) d_St_requireShown_7 (by decide) ⟨by omega, by omega⟩ (fun q1 => ?_) (fun q1 => ?_)
  · exact jl_vret d_St_requireShown_20 rfl (hk q1)
  · exact jl_throw (B := []) (text := "nothing was shown") d_St_requireShown_10 d_St_requireShown_13 d_St_requireShown_14 d_St_requireShown_16 d_St_requireShown_19 rfl (by decide) (by decide) kw_St_89 xw_ISE zw_St_249 tw_93.1 tw_93.2.1 (tg_93_89) (by decide) (Nat.le_of_ble_eq_true rfl) (hkx q1)
set_option maxHeartbeats 4000000 in
set_option maxRecDepth 100000 in
theorem k_requireBall {l : Launch} {G : jl_G} {d n : Nat} {h : Nat → va_E} {Kr : Option Value → Nat → (Nat → va_E) → Prop} {Kx : String → Nat → (Nat → va_E) → Prop} (hl9 : l.stackTraces = false) (hdd : 0 ≤ d) {x i sh jo co cy g : Nat} {op nw : Int} {B : List (Int × Int)} {MD : Nat → Int} {b : Int} (hS : h x = jO 5 [.ref (i), .ref (sh), .ref (jo), .ref (co), .ref (cy), .ref (g)]) (hF : jFl h g op nw B MD) (hb : zR b) (hk : 0 ≤ b ∧ b < B.length → Kr none n h) (hkx : ¬ (0 ≤ b ∧ b < B.length) → Kx "java/lang/IndexOutOfBoundsException" n h) : jl_Call l G m_St_requireBall d [.ref (x), .int (zI (b))] n h 1 6 Kr Kx := by
  refine jl_enter hl9 (by decide) rfl (by simp [Value.category]) (Nat.le_of_ble_eq_true rfl) ?_
  show jl_AW l G (jl_F G Kr Kx) m_St_requireBall d 0 [some (.ref (x)), some (.int (zI (b)))] [] n h 1 6
  have hl7 : B.length ≤ 27 := by obtain ⟨-, -, -, -, -, -, q, -⟩ := hF; exact q
  obtain ⟨LA, LI, u0, u1, u2, u3, u4, u5⟩ := hF
  refine jl_iload_n d_St_requireBall_0 rfl rfl ?_
  refine jz_if_lt (tgt := 15) d_St_requireBall_1 (by decide) ⟨by omega, by omega⟩ (fun q1 => ?_) (fun q1 => ?_)
  · exact jl_throw (B := []) (text := "no such ball") d_St_requireBall_15 d_St_requireBall_18 d_St_requireBall_19 d_St_requireBall_21 d_St_requireBall_24 rfl (by decide) (by decide) kw_St_133 xw_IOE zw_St_251 tw_137.1 tw_137.2.1 (tg_137_133) (by decide) (Nat.le_of_ble_eq_true rfl) (hkx (by omega))
  · refine jl_iload_n d_St_requireBall_4 rfl rfl ?_
    refine jl_aload_n d_St_requireBall_5 rfl rfl ?_
    refine jg_5 (q := 5) d_St_requireBall_6 hS rfl (by decide) fw_St_44 ?_
    refine jgn_4 (q := 6) d_St_requireBall_9 u0 rfl (by decide) fw_St_200 ?_
    refine jz_icmp_lt (tgt := 25) d_St_requireBall_12 (by decide) ⟨by omega, by omega⟩ ⟨by omega, by omega⟩ (fun q2 => ?_) (fun q2 => ?_)
    · exact jl_vret d_St_requireBall_25 rfl (hk (by omega))
    · exact jl_throw (B := []) (text := "no such ball") d_St_requireBall_15 d_St_requireBall_18 d_St_requireBall_19 d_St_requireBall_21 d_St_requireBall_24 rfl (by decide) (by decide) kw_St_133 xw_IOE zw_St_251 tw_137.1 tw_137.2.1 (tg_137_133) (by decide) (Nat.le_of_ble_eq_true rfl) (hkx (by omega))
set_option maxHeartbeats 4000000 in
set_option maxRecDepth 100000 in
theorem k_ball {l : Launch} {G : jl_G} {d n : Nat} {h : Nat → va_E} {Kr : Option Value → Nat → (Nat → va_E) → Prop} {Kx : String → Nat → (Nat → va_E) → Prop} (hl9 : l.stackTraces = false) (hdd : 1 ≤ d) {x i sh jo co cy g : Nat} {op nw : Int} {B : List (Int × Int)} {MD : Nat → Int} {b : Int} (hS : h x = jO 5 [.ref (i), .ref (sh), .ref (jo), .ref (co), .ref (cy), .ref (g)]) (hF : jFl h g op nw B MD) (hb : zR b) (hk : 0 ≤ b ∧ b < B.length → Kr (some (.int (zI ((B.getD b.toNat (0, 0)).1 - nw)))) n h) (hkx : ¬ (0 ≤ b ∧ b < B.length) → Kx "java/lang/IndexOutOfBoundsException" n h) : jl_Call l G m_St_ball d [.ref (x), .int (zI (b))] n h 1 6 Kr Kx := by
  refine jl_enter hl9 (by decide) rfl (by simp [Value.category]) (Nat.le_of_ble_eq_true rfl) ?_
  show jl_AW l G (jl_F G Kr Kx) m_St_ball d 0 [some (.ref (x)), some (.int (zI (b)))] [] n h 1 6
  refine jl_aload_n d_St_ball_0 rfl rfl ?_
  refine jl_iload_n d_St_ball_1 rfl rfl ?_
  refine jl_invV (M' := m_St_requireBall) (d' := d - 1) (ck' := 1) (sk' := 6) (na := 1) (as := [.int (zI (b))]) (st := []) d_St_ball_2 rfl hS rfl mw_St_210 ww_St_requireBall sw_St_requireBall nw_St cw_St_requireBall rfl rfl rfl (by decide +kernel) (by omega) (Nat.le_of_ble_eq_true rfl) (Nat.le_of_ble_eq_true rfl) ?_
  refine k_requireBall hl9 (by omega) hS hF hb (fun hin => ?_) (fun hin => hkx hin)
  show jl_AW _ _ _ _ _ 5 [some (.ref (x)), some (.int (zI (b)))] [] n h _ _
  have hF2 := hF
  obtain ⟨LA, LI, u0, u1, u2, u3, u4, u5⟩ := hF2
  refine jl_aload_n d_St_ball_5 rfl rfl ?_
  refine jg_5 (q := 5) d_St_ball_6 hS rfl (by decide) fw_St_44 ?_
  refine jl_iload_n d_St_ball_9 rfl rfl ?_
  refine jl_invV (M' := m_Sg_beatsUntilLanding) (d' := d - 1) (ck' := 0) (sk' := 0) (na := 1) (as := [.int (zI (b))]) (st := []) d_St_ball_10 rfl u0 rfl mw_St_213 ww_Sg_beatsUntilLanding sw_Sg_beatsUntilLanding nw_Sg cw_Sg_beatsUntilLanding rfl rfl rfl (by decide +kernel) (by omega) (Nat.le_of_ble_eq_true rfl) (Nat.le_of_ble_eq_true rfl) ?_
  refine k_G_beatsUntilLanding hl9 (by omega) hF hin ?_
  show jl_AW _ _ _ _ _ 13 [some (.ref (x)), some (.int (zI (b)))] [.int (zI ((B.getD b.toNat (0, 0)).1 - nw))] n h _ _
  exact jl_iret d_St_ball_13 rfl (hk hin)
set_option maxHeartbeats 4000000 in
set_option maxRecDepth 100000 in
theorem k_hand {l : Launch} {G : jl_G} {d n : Nat} {h : Nat → va_E} {Kr : Option Value → Nat → (Nat → va_E) → Prop} {Kx : String → Nat → (Nat → va_E) → Prop} (hl9 : l.stackTraces = false) (hdd : 1 ≤ d) {x i sh jo co cy g : Nat} {op nw : Int} {B : List (Int × Int)} {MD : Nat → Int} {b : Int} (hS : h x = jO 5 [.ref (i), .ref (sh), .ref (jo), .ref (co), .ref (cy), .ref (g)]) (hF : jFl h g op nw B MD) (hb : zR b) (hk : 0 ≤ b ∧ b < B.length → Kr (some (.int (zI ((B.getD b.toNat (0, 0)).2)))) n h) (hkx : ¬ (0 ≤ b ∧ b < B.length) → Kx "java/lang/IndexOutOfBoundsException" n h) : jl_Call l G m_St_hand d [.ref (x), .int (zI (b))] n h 1 6 Kr Kx := by
  refine jl_enter hl9 (by decide) rfl (by simp [Value.category]) (Nat.le_of_ble_eq_true rfl) ?_
  show jl_AW l G (jl_F G Kr Kx) m_St_hand d 0 [some (.ref (x)), some (.int (zI (b)))] [] n h 1 6
  refine jl_aload_n d_St_hand_0 rfl rfl ?_
  refine jl_iload_n d_St_hand_1 rfl rfl ?_
  refine jl_invV (M' := m_St_requireBall) (d' := d - 1) (ck' := 1) (sk' := 6) (na := 1) (as := [.int (zI (b))]) (st := []) d_St_hand_2 rfl hS rfl mw_St_210 ww_St_requireBall sw_St_requireBall nw_St cw_St_requireBall rfl rfl rfl (by decide +kernel) (by omega) (Nat.le_of_ble_eq_true rfl) (Nat.le_of_ble_eq_true rfl) ?_
  refine k_requireBall hl9 (by omega) hS hF hb (fun hin => ?_) (fun hin => hkx hin)
  show jl_AW _ _ _ _ _ 5 [some (.ref (x)), some (.int (zI (b)))] [] n h _ _
  have hF2 := hF
  obtain ⟨LA, LI, u0, u1, u2, u3, u4, u5⟩ := hF2
  refine jl_aload_n d_St_hand_5 rfl rfl ?_
  refine jg_5 (q := 5) d_St_hand_6 hS rfl (by decide) fw_St_44 ?_
  refine jl_iload_n d_St_hand_9 rfl rfl ?_
  refine jl_invV (M' := m_Sg_landingHand) (d' := d - 1) (ck' := 0) (sk' := 0) (na := 1) (as := [.int (zI (b))]) (st := []) d_St_hand_10 rfl u0 rfl mw_St_216 ww_Sg_landingHand sw_Sg_landingHand nw_Sg cw_Sg_landingHand rfl rfl rfl (by decide +kernel) (by omega) (Nat.le_of_ble_eq_true rfl) (Nat.le_of_ble_eq_true rfl) ?_
  refine k_G_landingHand hl9 (by omega) hF hin ?_
  show jl_AW _ _ _ _ _ 13 [some (.ref (x)), some (.int (zI (b)))] [.int (zI ((B.getD b.toNat (0, 0)).2))] n h _ _
  exact jl_iret d_St_hand_13 rfl (hk hin)
set_option maxHeartbeats 4000000 in
set_option maxRecDepth 100000 in
theorem k_highest {l : Launch} {G : jl_G} {d n : Nat} {h : Nat → va_E} {Kr : Option Value → Nat → (Nat → va_E) → Prop} {Kx : String → Nat → (Nat → va_E) → Prop} (hl9 : l.stackTraces = false) (hdd : 1 ≤ d) {x i sh jo co cy g : Nat} {op nw : Int} {B : List (Int × Int)} {MD : Nat → Int} (hS : h x = jO 5 [.ref (i), .ref (sh), .ref (jo), .ref (co), .ref (cy), .ref (g)]) (hF : jFl h g op nw B MD) (hB : ∀ j, j < B.length → zR (B.getD j (0, 0)).1) (hk : Kr (some (.int (zI (ll B B.length)))) n h) : jl_Call l G m_St_highest d [.ref (x)] n h 0 0 Kr Kx := by
  refine jl_enter hl9 (by decide) rfl (by simp [Value.category]) (Nat.le_of_ble_eq_true rfl) ?_
  show jl_AW l G (jl_F G Kr Kx) m_St_highest d 0 [some (.ref (x))] [] n h 0 0
  have hF2 := hF
  obtain ⟨LA, LI, u0, u1, u2, u3, u4, u5⟩ := hF2
  refine jl_aload_n d_St_highest_0 rfl rfl ?_
  refine jg_5 (q := 5) d_St_highest_1 hS rfl (by decide) fw_St_44 ?_
  refine jl_invV (M' := m_Sg_lastToLand) (d' := d - 1) (ck' := 0) (sk' := 0) (na := 0) (as := []) (st := []) d_St_highest_4 rfl u0 rfl mw_St_219 ww_Sg_lastToLand sw_Sg_lastToLand nw_Sg cw_Sg_lastToLand rfl rfl rfl (by decide +kernel) (by omega) (Nat.le_of_ble_eq_true rfl) (Nat.le_of_ble_eq_true rfl) ?_
  refine k_G_lastToLand hl9 (by omega) hF hB ?_
  show jl_AW _ _ _ _ _ 7 [some (.ref (x))] [.int (zI (ll B B.length))] n h _ _
  exact jl_iret d_St_highest_7 rfl hk
set_option maxHeartbeats 4000000 in
set_option maxRecDepth 100000 in
theorem k_floor {l : Launch} {G : jl_G} {d n : Nat} {h : Nat → va_E} {Kr : Option Value → Nat → (Nat → va_E) → Prop} {Kx : String → Nat → (Nat → va_E) → Prop} (hl9 : l.stackTraces = false) (hdd : 1 ≤ d) {x i sh jo co cy g : Nat} {op nw : Int} {B : List (Int × Int)} {MD : Nat → Int} {m p : Int} {hs cs xs sc : Nat → Int} {b : Int} (hS : h x = jO 5 [.ref (i), .ref (sh), .ref (jo), .ref (co), .ref (cy), .ref (g)]) (hF : jFl h g op nw B MD) (hD : jD h (g + 1) m p hs cs xs sc) (hop : zR op) (hb : zR b) (hk0 : ¬ op = 0 → b = 0 → Kr (some (.int (zI (nw)))) n h) (hk1 : ¬ op = 0 → b = 1 → Kr (some (.int (zI (MD (0 : Int).toNat)))) n h) (hk2 : ¬ op = 0 → b = 2 → Kr (some (.int (zI (MD (1 : Int).toNat)))) n h) (hk3 : ¬ op = 0 → b = 3 → Kr (some (.int (zI ((B.length : Int))))) n h) (hk4 : ¬ op = 0 → b = 4 → Kr (some (.int (zI (m)))) n h) (hx1 : ¬ (0 ≤ b ∧ b ≤ 4) → Kx "java/lang/IndexOutOfBoundsException" n h) (hx2 : 0 ≤ b ∧ b ≤ 4 → op = 0 → Kx "java/lang/IllegalStateException" n h) : jl_Call l G m_St_floor d [.ref (x), .int (zI (b))] n h 2 12 Kr Kx := by
  refine jl_enter hl9 (by decide) rfl (by simp [Value.category]) (Nat.le_of_ble_eq_true rfl) ?_
  show jl_AW l G (jl_F G Kr Kx) m_St_floor d 0 [some (.ref (x)), some (.int (zI (b)))] [] n h 2 12
  refine jl_iload_n d_St_floor_0 rfl rfl ?_
  refine jz_if_lt (tgt := 9) d_St_floor_1 (by decide) ⟨by omega, by omega⟩ (fun q1 => ?_) (fun q1 => ?_)
  · exact jl_throw (B := []) (text := "no such thing of the floor") d_St_floor_9 d_St_floor_12 d_St_floor_13 d_St_floor_15 d_St_floor_18 rfl (by decide) (by decide) kw_St_133 xw_IOE zw_St_222 tw_137.1 tw_137.2.1 (tg_137_133) (by decide) (Nat.le_of_ble_eq_true rfl) (hx1 (by omega))
  · refine jl_iload_n d_St_floor_4 rfl rfl ?_
    refine jl_iconst (v := zI (4)) d_St_floor_5 (by decide) ?_
    refine jz_icmp_le (tgt := 19) d_St_floor_6 (by decide) ⟨by omega, by omega⟩ ⟨by omega, by omega⟩ (fun q2 => ?_) (fun q2 => ?_)
    · refine jl_aload_n d_St_floor_19 rfl rfl ?_
      refine jl_invV (M' := m_St_requireShown) (d' := d - 1) (ck' := 1) (sk' := 6) (na := 0) (as := []) (st := []) d_St_floor_20 rfl hS rfl mw_St_204 ww_St_requireShown sw_St_requireShown nw_St cw_St_requireShown rfl rfl rfl (by decide +kernel) (by omega) (Nat.le_of_ble_eq_true rfl) (Nat.le_of_ble_eq_true rfl) ?_
      refine k_requireShown hl9 (by omega) hS hF hop (fun ho => ?_) (fun ho => hx2 (by omega) ho)
      show jl_AW _ _ _ _ _ 23 [some (.ref (x)), some (.int (zI (b)))] [] n h _ _
      refine jl_iload_n d_St_floor_23 rfl rfl ?_
      have hF2 := hF
      obtain ⟨LA, LI, u0, u1, u2, u3, u4, u5⟩ := hF2
      obtain ⟨v0, v1, v2, v3, v4⟩ := id (hD)
      rcases (show b = 0 ∨ b = 1 ∨ b = 2 ∨ b = 3 ∨ b = 4 by omega) with rfl | rfl | rfl | rfl | rfl
      · refine jl_tableIn (tgt := 56) d_St_floor_24 (by decide) (by decide) rfl (by decide) ?_
        refine jl_aload_n d_St_floor_56 rfl rfl ?_
        refine jg_5 (q := 5) d_St_floor_57 hS rfl (by decide) fw_St_44 ?_
        refine jgn_4 (q := 5) d_St_floor_60 u0 rfl (by decide) fw_St_224 ?_
        exact jl_iret d_St_floor_63 rfl (hk0 ho rfl)
      · refine jl_tableIn (tgt := 64) d_St_floor_24 (by decide) (by decide) rfl (by decide) ?_
        refine jl_aload_n d_St_floor_64 rfl rfl ?_
        refine jg_5 (q := 5) d_St_floor_65 hS rfl (by decide) fw_St_44 ?_
        refine jl_iconst (v := zI (0)) d_St_floor_68 (by decide) ?_
        refine jl_invV (M' := m_Sg_throwsMade) (d' := d - 1) (ck' := 0) (sk' := 0) (na := 1) (as := [.int (zI (0))]) (st := []) d_St_floor_69 rfl u0 rfl mw_St_227 ww_Sg_throwsMade sw_Sg_throwsMade nw_Sg cw_Sg_throwsMade rfl rfl rfl (by decide +kernel) (by omega) (Nat.le_of_ble_eq_true rfl) (Nat.le_of_ble_eq_true rfl) ?_
        refine k_G_throwsMade hl9 (by omega) hF ⟨by decide, by decide⟩ ?_
        show jl_AW _ _ _ _ _ 72 [some (.ref (x)), some (.int (zI (1)))] [.int (zI (MD (0 : Int).toNat))] n h _ _
        exact jl_iret d_St_floor_72 rfl (hk1 ho rfl)
      · refine jl_tableIn (tgt := 73) d_St_floor_24 (by decide) (by decide) rfl (by decide) ?_
        refine jl_aload_n d_St_floor_73 rfl rfl ?_
        refine jg_5 (q := 5) d_St_floor_74 hS rfl (by decide) fw_St_44 ?_
        refine jl_iconst (v := zI (1)) d_St_floor_77 (by decide) ?_
        refine jl_invV (M' := m_Sg_throwsMade) (d' := d - 1) (ck' := 0) (sk' := 0) (na := 1) (as := [.int (zI (1))]) (st := []) d_St_floor_78 rfl u0 rfl mw_St_227 ww_Sg_throwsMade sw_Sg_throwsMade nw_Sg cw_Sg_throwsMade rfl rfl rfl (by decide +kernel) (by omega) (Nat.le_of_ble_eq_true rfl) (Nat.le_of_ble_eq_true rfl) ?_
        refine k_G_throwsMade hl9 (by omega) hF ⟨by decide, by decide⟩ ?_
        show jl_AW _ _ _ _ _ 81 [some (.ref (x)), some (.int (zI (2)))] [.int (zI (MD (1 : Int).toNat))] n h _ _
        exact jl_iret d_St_floor_81 rfl (hk2 ho rfl)
      · refine jl_tableIn (tgt := 82) d_St_floor_24 (by decide) (by decide) rfl (by decide) ?_
        refine jl_aload_n d_St_floor_82 rfl rfl ?_
        refine jg_5 (q := 5) d_St_floor_83 hS rfl (by decide) fw_St_44 ?_
        refine jgn_4 (q := 6) d_St_floor_86 u0 rfl (by decide) fw_St_200 ?_
        exact jl_iret d_St_floor_89 rfl (hk3 ho rfl)
      · refine jl_tableOut (tgt := 90) d_St_floor_24 (Or.inr (by decide)) (by decide) ?_
        refine jl_aload_n d_St_floor_90 rfl rfl ?_
        refine jg_5 (q := 5) d_St_floor_91 hS rfl (by decide) fw_St_44 ?_
        refine jgn_4 (q := 0) d_St_floor_94 u0 rfl (by decide) fw_St_230 ?_
        refine jgn_2 (q := 4) d_St_floor_97 v0 rfl (by decide) fw_St_76 ?_
        exact jl_iret d_St_floor_100 rfl (hk4 ho rfl)
    · exact jl_throw (B := []) (text := "no such thing of the floor") d_St_floor_9 d_St_floor_12 d_St_floor_13 d_St_floor_15 d_St_floor_18 rfl (by decide) (by decide) kw_St_133 xw_IOE zw_St_222 tw_137.1 tw_137.2.1 (tg_137_133) (by decide) (Nat.le_of_ble_eq_true rfl) (hx1 (by omega))
set_option maxHeartbeats 4000000 in
set_option maxRecDepth 100000 in
theorem k_run {l : Launch} {G : jl_G} {d n : Nat} {h : Nat → va_E} {Kr : Option Value → Nat → (Nat → va_E) → Prop} {Kx : String → Nat → (Nat → va_E) → Prop} (hl9 : l.stackTraces = false) (hdd : 4 ≤ d) {x i sh jo co cy g : Nat} {op nw : Int} {B : List (Int × Int)} {MD : Nat → Int} {m p : Int} {hs cs xs sc : Nat → Int} {e : Int} (hS : h x = jO 5 [.ref (i), .ref (sh), .ref (jo), .ref (co), .ref (cy), .ref (g)]) (hF : jFl h g op nw B MD) (hD : jD h (g + 1) m p hs cs xs sc) (ok : jOk m p hs cs xs) (hop : zR op) (hnw : 0 ≤ nw ∧ nw < 900000) (he : zR e) (hB : ∀ j, j < B.length → zR (B.getD j (0, 0)).1 ∧ zR (B.getD j (0, 0)).2) (hk : ¬ op = 0 → 1 ≤ e ∧ e ≤ 100 → ∀ h', jFl h' g op (nw + e) (gos m p hs cs xs nw (B, MD, 0) e.toNat).1 (gos m p hs cs xs nw (B, MD, 0) e.toNat).2.1 → jfg h h' g → Kr (some (.int (zI ((gos m p hs cs xs nw (B, MD, 0) e.toNat).2.2)))) n h') (hx1 : ¬ (1 ≤ e ∧ e ≤ 100) → Kx "java/lang/IllegalArgumentException" n h) (hx2 : 1 ≤ e ∧ e ≤ 100 → op = 0 → Kx "java/lang/IllegalStateException" n h) : jl_Call l G m_St_run d [.ref (x), .int (zI (e))] n h 2 12 Kr Kx := by
  refine jl_enter hl9 (by decide) rfl (by simp [Value.category]) (Nat.le_of_ble_eq_true rfl) ?_
  show jl_AW l G (jl_F G Kr Kx) m_St_run d 0 [some (.ref (x)), some (.int (zI (e)))] [] n h 2 12
  refine jl_iload_n d_St_run_0 rfl rfl ?_
  refine jl_iconst (v := zI (1)) d_St_run_1 (by decide) ?_
  refine jz_icmp_lt (tgt := 11) d_St_run_2 (by decide) ⟨by omega, by omega⟩ ⟨by omega, by omega⟩ (fun q1 => ?_) (fun q1 => ?_)
  · exact jl_throw (B := []) (text := "no such number of beats") d_St_run_11 d_St_run_14 d_St_run_15 d_St_run_17 d_St_run_20 rfl (by decide) (by decide) kw_St_48 xw_IAE zw_St_202 tw_52.1 tw_52.2.1 (tg_52_48) (by decide) (Nat.le_of_ble_eq_true rfl) (hx1 (by omega))
  · refine jl_iload_n d_St_run_5 rfl rfl ?_
    refine jl_bipush (v := zI (100)) d_St_run_6 (by decide) ?_
    refine jz_icmp_le (tgt := 21) d_St_run_8 (by decide) ⟨by omega, by omega⟩ ⟨by omega, by omega⟩ (fun q2 => ?_) (fun q2 => ?_)
    · refine jl_aload_n d_St_run_21 rfl rfl ?_
      refine jl_invV (M' := m_St_requireShown) (d' := d - 1) (ck' := 1) (sk' := 6) (na := 0) (as := []) (st := []) d_St_run_22 rfl hS rfl mw_St_204 ww_St_requireShown sw_St_requireShown nw_St cw_St_requireShown rfl rfl rfl (by decide +kernel) (by omega) (Nat.le_of_ble_eq_true rfl) (Nat.le_of_ble_eq_true rfl) ?_
      refine k_requireShown hl9 (by omega) hS hF hop (fun ho => ?_) (fun ho => hx2 (by omega) ho)
      show jl_AW _ _ _ _ _ 25 [some (.ref (x)), some (.int (zI (e)))] [] n h _ _
      have hF2 := hF
      obtain ⟨LA, LI, u0, u1, u2, u3, u4, u5⟩ := hF2
      refine jl_aload_n d_St_run_25 rfl rfl ?_
      refine jg_5 (q := 5) d_St_run_26 hS rfl (by decide) fw_St_44 ?_
      refine jl_iload_n d_St_run_29 rfl rfl ?_
      refine jl_invV (M' := m_Sg_goOn) (d' := d - 1) (ck' := 0) (sk' := 0) (na := 1) (as := [.int (zI (e))]) (st := []) d_St_run_30 rfl u0 rfl mw_St_207 ww_Sg_goOn sw_Sg_goOn nw_Sg cw_Sg_goOn rfl rfl rfl (by decide +kernel) (by omega) (Nat.le_of_ble_eq_true rfl) (Nat.le_of_ble_eq_true rfl) ?_
      refine k_G_goOn hl9 (by omega) hF hD ok hnw ⟨by omega, by omega⟩ hB (fun h2 hF3 hfr => ?_)
      show jl_AW _ _ _ _ _ 33 [some (.ref (x)), some (.int (zI (e)))] [.int (zI ((gos m p hs cs xs nw (B, MD, 0) e.toNat).2.2))] n h2 _ _
      exact jl_iret d_St_run_33 rfl (hk ho (by omega) h2 hF3 hfr)
    · exact jl_throw (B := []) (text := "no such number of beats") d_St_run_11 d_St_run_14 d_St_run_15 d_St_run_17 d_St_run_20 rfl (by decide) (by decide) kw_St_48 xw_IAE zw_St_202 tw_52.1 tw_52.2.1 (tg_52_48) (by decide) (Nat.le_of_ble_eq_true rfl) (hx1 (by omega))
set_option maxHeartbeats 4000000 in
set_option maxRecDepth 100000 in
theorem k_show {l : Launch} {G : jl_G} {d n : Nat} {h : Nat → va_E} {Kr : Option Value → Nat → (Nat → va_E) → Prop} {Kx : String → Nat → (Nat → va_E) → Prop} (hl9 : l.stackTraces = false) (hdd : 7 ≤ d) {x i sh jo co cy g : Nat} {op nw : Int} {B : List (Int × Int)} {MD : Nat → Int} {m p : Int} {hs cs xs sc : Nat → Int} {m2 p2 : Int} {hs2 cs2 xs2 sc2 : Nat → Int} (hS : h x = jO 5 [.ref (i), .ref (sh), .ref (jo), .ref (co), .ref (cy), .ref (g)]) (hxi : x < i ∨ i + 5 ≤ x) (hxg : x < g ∨ g + 9 ≤ x) (hig : i + 5 ≤ g ∨ g + 9 ≤ i) (hD : jD h i m p hs cs xs sc) (ok : jOk m p hs cs xs) (hF : jFl h g op nw B MD) (hG : jD h (g + 1) m2 p2 hs2 cs2 xs2 sc2) (ok2 : jOk m p (jcpy 48 hs hs2) (jcpy 16 cs cs2) (jcpy 16 xs xs2)) (hk : sp_val m p hs cs xs → ∀ h' (g2 : Nat → Int), jFl h' g 1 0 (nba m p (jcpy 48 hs hs2) (jcpy 16 cs cs2) (jcpy 16 xs xs2) 9) (va_up (va_up MD (0 : Int).toNat 0) (1 : Int).toNat 0) → jD h' (g + 1) m p (jcpy 48 hs hs2) (jcpy 16 cs cs2) (jcpy 16 xs xs2) sc2 → jD h' i m p hs cs xs g2 → (∀ y, (y < i ∨ i + 5 ≤ y) → (y < g ∨ g + 9 ≤ y) → h' y = h y) → Kr (some (.int (zI (((nba m p (jcpy 48 hs hs2) (jcpy 16 cs cs2) (jcpy 16 xs xs2) 9).length : Int))))) n h') (hkx : ∀ g2 : Nat → Int, ¬ sp_val m p hs cs xs → ∀ h', h' = va_up h (i + 4) (jI 16 (fun j => zI (g2 j))) → Kx "java/lang/IllegalStateException" n h') : jl_Call l G m_St_show d [.ref (x)] n h 1 6 Kr Kx := by
  refine jl_enter hl9 (by decide) rfl (by simp [Value.category]) (Nat.le_of_ble_eq_true rfl) ?_
  show jl_AW l G (jl_F G Kr Kx) m_St_show d 0 [some (.ref (x))] [] n h 1 6
  have hp := ok.2.1
  refine jl_aload_n d_St_show_0 rfl rfl ?_
  refine jl_invV (M' := m_St_requireValid) (d' := d - 1) (ck' := 1) (sk' := 6) (na := 0) (as := []) (st := []) d_St_show_1 rfl hS rfl mw_St_111 ww_St_requireValid sw_St_requireValid nw_St cw_St_requireValid rfl rfl rfl (by decide +kernel) (by omega) (Nat.le_of_ble_eq_true rfl) (Nat.le_of_ble_eq_true rfl) ?_
  refine k_requireValid hl9 (by omega) hS hxi hD ok (fun g2 hv h2 eh2 => ?_) (fun g2 hv h2 eh2 => hkx g2 hv h2 eh2)
  show jl_AW _ _ _ _ _ 4 [some (.ref (x))] [] n h2 _ _
  have hD2 := jD_sc (g := g2) hD
  rw [← eh2] at hD2
  have hS2 : h2 x = jO 5 [.ref (i), .ref (sh), .ref (jo), .ref (co), .ref (cy), .ref (g)] := by rw [eh2, va_up_ne _ _ (by omega)]; exact hS
  have hF2 : jFl h2 g op nw B MD := jFl_fr (fun y hy => by rw [eh2, va_up_ne _ _ (by omega)]) hF
  have hG2 : jD h2 (g + 1) m2 p2 hs2 cs2 xs2 sc2 := jD_fr (fun y q1 q2 => by rw [eh2, va_up_ne _ _ (by omega)]) hG
  have hF4 := hF2
  obtain ⟨LA, LI, u0, u1, u2, u3, u4, u5⟩ := hF4
  refine jl_aload_n d_St_show_4 rfl rfl ?_
  refine jg_5 (q := 5) d_St_show_5 hS2 rfl (by decide) fw_St_44 ?_
  refine jl_aload_n d_St_show_8 rfl rfl ?_
  refine jg_5 (q := 0) d_St_show_9 hS2 rfl (by decide) fw_St_12 ?_
  refine jl_invV (M' := m_Sg_open) (d' := d - 1) (ck' := 0) (sk' := 0) (na := 1) (as := [.ref (i)]) (st := []) d_St_show_12 rfl u0 rfl mw_St_197 ww_Sg_open sw_Sg_open nw_Sg cw_Sg_open rfl rfl rfl (by decide +kernel) (by omega) (Nat.le_of_ble_eq_true rfl) (Nat.le_of_ble_eq_true rfl) ?_
  refine k_G_open hl9 (by omega) hF2 hG2 hD2 (by omega) ok2 (fun h3 hF3 hD3 hf3 => ?_)
  show jl_AW _ _ _ _ _ 15 [some (.ref (x))] [] n h3 _ _
  have hS3 : h3 x = jO 5 [.ref (i), .ref (sh), .ref (jo), .ref (co), .ref (cy), .ref (g)] := by rw [hf3 _ (by omega)]; exact hS2
  have hF5 := hF3
  obtain ⟨LAb, LIb, u0b, u1b, u2b, u3b, u4b, u5b⟩ := hF5
  refine jl_aload_n d_St_show_15 rfl rfl ?_
  refine jg_5 (q := 5) d_St_show_16 hS3 rfl (by decide) fw_St_44 ?_
  refine jgn_4 (q := 6) d_St_show_19 u0b rfl (by decide) fw_St_200 ?_
  refine jl_iret d_St_show_22 rfl (hk hv h3 g2 hF3 hD3 ?_ ?_)
  · exact jD_fr (fun y q1 q2 => hf3 y (by omega)) hD2
  · intro y q1 q2; rw [hf3 y q2, eh2, va_up_ne _ _ (by omega)]
set_option maxHeartbeats 4000000 in
set_option maxRecDepth 100000 in
theorem k_load {l : Launch} {G : jl_G} {d n : Nat} {h : Nat → va_E} {Kr : Option Value → Nat → (Nat → va_E) → Prop} {Kx : String → Nat → (Nat → va_E) → Prop} (hl9 : l.stackTraces = false) (hdd : 1 ≤ d) {x i sh jo co cy g : Nat} {f : Nat → Option Nat} {m9 p9 : Nat → Int} {hs9 cs9 xs9 sc9 : Nat → Nat → Int} {m p : Int} {hs cs xs sc : Nat → Int} {b : Int} (hS : h x = jO 5 [.ref (i), .ref (sh), .ref (jo), .ref (co), .ref (cy), .ref (g)]) (hxi : x < i ∨ i + 5 ≤ x) (hD : jD h i m p hs cs xs sc) (hH : h sh = jQ 2 6 f) (hsh : ∀ k o, f k = some o → jD h o (m9 k) (p9 k) (hs9 k) (cs9 k) (xs9 k) (sc9 k) ∧ (i + 5 ≤ o ∨ o + 5 ≤ i)) (hb : zR b) (hk : 0 ≤ b ∧ b < 6 → ∀ o, f b.toNat = some o → ∀ h', jD h' i (m9 b.toNat) (p9 b.toNat) (jcpy 48 (hs9 b.toNat) hs) (jcpy 16 (cs9 b.toNat) cs) (jcpy 16 (xs9 b.toNat) xs) sc → jfr h h' i (i + 5) → Kr (some (.int (zI (p9 b.toNat)))) n h') (hx1 : ¬ (0 ≤ b ∧ b < 6) → Kx "java/lang/IndexOutOfBoundsException" n h) (hx2 : 0 ≤ b ∧ b < 6 → f b.toNat = none → Kx "java/util/NoSuchElementException" n h) : jl_Call l G m_St_load d [.ref (x), .int (zI (b))] n h 2 12 Kr Kx := by
  refine jl_enter hl9 (by decide) rfl (by simp [Value.category]) (Nat.le_of_ble_eq_true rfl) ?_
  show jl_AW l G (jl_F G Kr Kx) m_St_load d 0 [some (.ref (x)), some (.int (zI (b))), none] [] n h 2 12
  refine jl_iload_n d_St_load_0 rfl rfl ?_
  refine jl_invS (M' := m_St_requireSlot) (d' := d - 1) (ck' := 1) (sk' := 6) (na := 1) (as := [.int (zI (b))]) (st := []) d_St_load_1 rfl mw_St_144 ww_St_requireSlot nw_St cw_St_requireSlot rfl rfl rfl (by decide +kernel) (by omega) (Nat.le_of_ble_eq_true rfl) (Nat.le_of_ble_eq_true rfl) ?_
  refine k_requireSlot hl9 (by omega) hb (fun hin => ?_) (fun hin => hx1 hin)
  show jl_AW _ _ _ _ _ 4 [some (.ref (x)), some (.int (zI (b))), none] [] n h _ _
  refine jl_aload_n d_St_load_4 rfl rfl ?_
  refine jg_5 (q := 1) d_St_load_5 hS rfl (by decide) fw_St_16 ?_
  refine jl_iload_n d_St_load_8 rfl rfl ?_
  refine jl_aald (t := 2) d_St_load_9 hH rfl (zI_in (by omega) (by omega) (by decide)) ?_
  rw [zI_cl ⟨by omega, by omega⟩]
  cases ho : f b.toNat with
  | none =>
    show jl_AW _ _ _ _ _ 10 [some (.ref (x)), some (.int (zI (b))), none] [.null] n h _ _
    refine jl_nstore_n (L' := [some (.ref (x)), some (.int (zI (b))), some (.null)]) d_St_load_10 rfl (by decide) rfl ?_
    refine jl_nload_n d_St_load_11 rfl rfl ?_
    refine jl_nonnullN d_St_load_12 ?_
    exact jl_throwX (ix := 13) (rx := prog_19_method_4_code) (by decide +kernel) (by decide +kernel) (by decide +kernel) (by decide +kernel) (B := []) (names := ["java/lang/RuntimeException", "java/lang/Exception"]) (text := "the slot is empty") d_St_load_15 d_St_load_18 d_St_load_19 d_St_load_21 d_St_load_24 rfl (by decide) (by decide) kw_St_151 xw_NSE zw_St_153 twx_155.1 twx_155.2 (hgx_155).1 hgx_155.2 (by decide) (Nat.le_of_ble_eq_true rfl) (hx2 hin ho)
  | some o =>
    show jl_AW _ _ _ _ _ 10 [some (.ref (x)), some (.int (zI (b))), none] [.ref (o)] n h _ _
    refine jl_astore_n (L' := [some (.ref (x)), some (.int (zI (b))), some (.ref (o))]) d_St_load_10 rfl (by decide) rfl ?_
    refine jl_aload_n d_St_load_11 rfl rfl ?_
    refine jl_nonnull (tgt := 25) d_St_load_12 (by decide) ?_
    obtain ⟨hO, hne⟩ := hsh _ _ ho
    have hD9 := hD
    obtain ⟨hd0, hd1, hd2, hd3, hd4⟩ := hD9
    refine jl_aload_n d_St_load_25 rfl rfl ?_
    refine jg_5 (q := 0) d_St_load_26 hS rfl (by decide) fw_St_12 ?_
    refine jl_aload_n d_St_load_29 rfl rfl ?_
    refine jl_invV (M' := m_Dr_copyFrom) (d' := d - 1) (ck' := 0) (sk' := 0) (na := 1) (as := [.ref (o)]) (st := []) d_St_load_30 rfl hd0 rfl mw_St_147 ww_Dr_copyFrom sw_Dr_copyFrom nw_Dr cw_Dr_copyFrom rfl rfl rfl (by decide +kernel) (by omega) (Nat.le_of_ble_eq_true rfl) (Nat.le_of_ble_eq_true rfl) ?_
    refine k_D_copyFrom hl9 (by omega) hD hO (by omega) (fun h2 hD2 hf2 => ?_)
    show jl_AW _ _ _ _ _ 33 [some (.ref (x)), some (.int (zI (b))), some (.ref (o))] [] n h2 _ _
    have hS2 : h2 x = jO 5 [.ref (i), .ref (sh), .ref (jo), .ref (co), .ref (cy), .ref (g)] := by rw [hf2 _ (by omega)]; exact hS
    have hD9 := hD2
    obtain ⟨g0, g1, g2, g3, g4⟩ := hD9
    refine jl_aload_n d_St_load_33 rfl rfl ?_
    refine jg_5 (q := 0) d_St_load_34 hS2 rfl (by decide) fw_St_12 ?_
    refine jgn_2 (q := 5) d_St_load_37 g0 rfl (by decide) fw_St_61 ?_
    exact jl_iret d_St_load_40 rfl (hk hin o ho h2 hD2 hf2)
