theorem jD_sc {h : Nat → va_E} {i : Nat} {m p : Int} {hs cs xs sc g : Nat → Int} (hD : jD h i m p hs cs xs sc) : jD (va_up h (i + 4) (jI 16 (fun j => zI (g j)))) i m p hs cs xs g := by
  obtain ⟨h0, h1, h2, h3, h4⟩ := hD
  exact ⟨by rw [va_up_ne _ _ (by omega)]; exact h0, by rw [va_up_ne _ _ (by omega)]; exact h1, by rw [va_up_ne _ _ (by omega)]; exact h2, by rw [va_up_ne _ _ (by omega)]; exact h3, by rw [va_up_self]⟩
set_option maxHeartbeats 4000000 in
set_option maxRecDepth 100000 in
theorem k_requireHeight {l : Launch} {G : jl_G} {d n : Nat} {h : Nat → va_E} {Kr : Option Value → Nat → (Nat → va_E) → Prop} {Kx : String → Nat → (Nat → va_E) → Prop} (hl9 : l.stackTraces = false) (hdd : 0 ≤ d) {b : Int} (hb : zR b) (hk : 0 ≤ b ∧ b ≤ 9 → Kr none n h) (hkx : ¬ (0 ≤ b ∧ b ≤ 9) → Kx "java/lang/IllegalArgumentException" n h) : jl_Call l G m_St_requireHeight d [.int (zI (b))] n h 1 6 Kr Kx := by
  refine jl_enter hl9 (by decide) rfl (by simp [Value.category]) (Nat.le_of_ble_eq_true rfl) ?_
  show jl_AW l G (jl_F G Kr Kx) m_St_requireHeight d 0 [some (.int (zI (b)))] [] n h 1 6
  refine jl_iload_n d_St_requireHeight_0 rfl rfl ?_
  refine jz_if_lt (tgt := 10) d_St_requireHeight_1 (by decide) ⟨by omega, by omega⟩ (fun q1 => ?_) (fun q1 => ?_)
  · exact jl_throw (B := []) (text := "no such height") d_St_requireHeight_10 d_St_requireHeight_13 d_St_requireHeight_14 d_St_requireHeight_16 d_St_requireHeight_19 rfl (by decide) (by decide) kw_St_48 xw_IAE zw_St_238 tw_52.1 tw_52.2.1 (tg_52_48) (by decide) (Nat.le_of_ble_eq_true rfl) (hkx (by omega))
  · refine jl_iload_n d_St_requireHeight_4 rfl rfl ?_
    refine jl_bipush (v := zI (9)) d_St_requireHeight_5 (by decide) ?_
    refine jz_icmp_le (tgt := 20) d_St_requireHeight_7 (by decide) ⟨by omega, by omega⟩ ⟨by omega, by omega⟩ (fun q2 => ?_) (fun q2 => ?_)
    · exact jl_vret d_St_requireHeight_20 rfl (hk (by omega))
    · exact jl_throw (B := []) (text := "no such height") d_St_requireHeight_10 d_St_requireHeight_13 d_St_requireHeight_14 d_St_requireHeight_16 d_St_requireHeight_19 rfl (by decide) (by decide) kw_St_48 xw_IAE zw_St_238 tw_52.1 tw_52.2.1 (tg_52_48) (by decide) (Nat.le_of_ble_eq_true rfl) (hkx (by omega))
set_option maxHeartbeats 4000000 in
set_option maxRecDepth 100000 in
theorem k_requireSlot {l : Launch} {G : jl_G} {d n : Nat} {h : Nat → va_E} {Kr : Option Value → Nat → (Nat → va_E) → Prop} {Kx : String → Nat → (Nat → va_E) → Prop} (hl9 : l.stackTraces = false) (hdd : 0 ≤ d) {b : Int} (hb : zR b) (hk : 0 ≤ b ∧ b < 6 → Kr none n h) (hkx : ¬ (0 ≤ b ∧ b < 6) → Kx "java/lang/IndexOutOfBoundsException" n h) : jl_Call l G m_St_requireSlot d [.int (zI (b))] n h 1 6 Kr Kx := by
  refine jl_enter hl9 (by decide) rfl (by simp [Value.category]) (Nat.le_of_ble_eq_true rfl) ?_
  show jl_AW l G (jl_F G Kr Kx) m_St_requireSlot d 0 [some (.int (zI (b)))] [] n h 1 6
  refine jl_iload_n d_St_requireSlot_0 rfl rfl ?_
  refine jz_if_lt (tgt := 10) d_St_requireSlot_1 (by decide) ⟨by omega, by omega⟩ (fun q1 => ?_) (fun q1 => ?_)
  · exact jl_throw (B := []) (text := "no such slot") d_St_requireSlot_10 d_St_requireSlot_13 d_St_requireSlot_14 d_St_requireSlot_16 d_St_requireSlot_19 rfl (by decide) (by decide) kw_St_133 xw_IOE zw_St_240 tw_137.1 tw_137.2.1 (tg_137_133) (by decide) (Nat.le_of_ble_eq_true rfl) (hkx (by omega))
  · refine jl_iload_n d_St_requireSlot_4 rfl rfl ?_
    refine jl_bipush (v := zI (6)) d_St_requireSlot_5 (by decide) ?_
    refine jz_icmp_lt (tgt := 20) d_St_requireSlot_7 (by decide) ⟨by omega, by omega⟩ ⟨by omega, by omega⟩ (fun q2 => ?_) (fun q2 => ?_)
    · exact jl_vret d_St_requireSlot_20 rfl (hk (by omega))
    · exact jl_throw (B := []) (text := "no such slot") d_St_requireSlot_10 d_St_requireSlot_13 d_St_requireSlot_14 d_St_requireSlot_16 d_St_requireSlot_19 rfl (by decide) (by decide) kw_St_133 xw_IOE zw_St_240 tw_137.1 tw_137.2.1 (tg_137_133) (by decide) (Nat.le_of_ble_eq_true rfl) (hkx (by omega))
set_option maxHeartbeats 4000000 in
set_option maxRecDepth 100000 in
theorem k_requireSite {l : Launch} {G : jl_G} {d n : Nat} {h : Nat → va_E} {Kr : Option Value → Nat → (Nat → va_E) → Prop} {Kx : String → Nat → (Nat → va_E) → Prop} (hl9 : l.stackTraces = false) (hdd : 1 ≤ d) {x sh jo co cy sg : Nat} {i : Nat} {m p : Int} {hs cs xs sc : Nat → Int} {b : Int} (hS : h x = jO 5 [.ref (i), .ref (sh), .ref (jo), .ref (co), .ref (cy), .ref (sg)]) (hxi : x < i ∨ i + 5 ≤ x) (hD : jD h i m p hs cs xs sc) (hb : zR b) (hp : 1 ≤ p ∧ p ≤ 16) (hk : 0 ≤ b ∧ b < p → Kr none n h) (hkx : ¬ (0 ≤ b ∧ b < p) → Kx "java/lang/IndexOutOfBoundsException" n h) : jl_Call l G m_St_requireSite d [.ref (x), .int (zI (b))] n h 1 6 Kr Kx := by
  refine jl_enter hl9 (by decide) rfl (by simp [Value.category]) (Nat.le_of_ble_eq_true rfl) ?_
  show jl_AW l G (jl_F G Kr Kx) m_St_requireSite d 0 [some (.ref (x)), some (.int (zI (b)))] [] n h 1 6
  obtain ⟨hd0, hd1, hd2, hd3, hd4⟩ := hD
  refine jl_aload_n d_St_requireSite_0 rfl rfl ?_
  refine jg_5 (q := 0) d_St_requireSite_1 hS rfl (by decide) fw_St_12 ?_
  refine jl_iload_n d_St_requireSite_4 rfl rfl ?_
  refine jl_invV (M' := m_Dr_hasSite) (d' := d - 1) (ck' := 0) (sk' := 0) (na := 1) (as := [.int (zI (b))]) (st := []) d_St_requireSite_5 rfl hd0 rfl mw_St_233 ww_Dr_hasSite sw_Dr_hasSite nw_Dr cw_Dr_hasSite rfl rfl rfl (by decide +kernel) (by omega) (Nat.le_of_ble_eq_true rfl) (Nat.le_of_ble_eq_true rfl) ?_
  refine k_D_hasSite hl9 (by omega) ⟨hd0, hd1, hd2, hd3, hd4⟩ hb hp (fun hin => ?_) (fun hin => ?_)
  · show jl_AW _ _ _ _ _ 8 [some (.ref (x)), some (.int (zI (b)))] [.int (zI (1))] n h _ _
    refine jz_if_ne (tgt := 21) d_St_requireSite_8 (by decide) ⟨by omega, by omega⟩ (fun q1 => ?_) (fun q1 => ?_)
    · exact jl_vret d_St_requireSite_21 rfl (hk hin)
    · exact absurd q1 (by decide)
  · show jl_AW _ _ _ _ _ 8 [some (.ref (x)), some (.int (zI (b)))] [.int (zI (0))] n h _ _
    refine jz_if_ne (tgt := 21) d_St_requireSite_8 (by decide) ⟨by omega, by omega⟩ (fun q1 => ?_) (fun q1 => ?_)
    · exact absurd rfl q1
    · exact jl_throw (B := []) (text := "no such site") d_St_requireSite_11 d_St_requireSite_14 d_St_requireSite_15 d_St_requireSite_17 d_St_requireSite_20 rfl (by decide) (by decide) kw_St_133 xw_IOE zw_St_236 tw_137.1 tw_137.2.1 (tg_137_133) (by decide) (Nat.le_of_ble_eq_true rfl) (hkx hin)
set_option maxHeartbeats 4000000 in
set_option maxRecDepth 100000 in
theorem k_requirePlain {l : Launch} {G : jl_G} {d n : Nat} {h : Nat → va_E} {Kr : Option Value → Nat → (Nat → va_E) → Prop} {Kx : String → Nat → (Nat → va_E) → Prop} (hl9 : l.stackTraces = false) (hdd : 0 ≤ d) {x sh jo co cy sg : Nat} {i : Nat} {m p : Int} {hs cs xs sc : Nat → Int} (hS : h x = jO 5 [.ref (i), .ref (sh), .ref (jo), .ref (co), .ref (cy), .ref (sg)]) (hxi : x < i ∨ i + 5 ≤ x) (hD : jD h i m p hs cs xs sc) (hm : 0 ≤ m ∧ m ≤ 2) (hk : m = 0 → Kr none n h) (hkx : ¬ m = 0 → Kx "java/lang/IllegalStateException" n h) : jl_Call l G m_St_requirePlain d [.ref (x)] n h 1 6 Kr Kx := by
  refine jl_enter hl9 (by decide) rfl (by simp [Value.category]) (Nat.le_of_ble_eq_true rfl) ?_
  show jl_AW l G (jl_F G Kr Kx) m_St_requirePlain d 0 [some (.ref (x))] [] n h 1 6
  obtain ⟨hd0, hd1, hd2, hd3, hd4⟩ := hD
  refine jl_aload_n d_St_requirePlain_0 rfl rfl ?_
  refine jg_5 (q := 0) d_St_requirePlain_1 hS rfl (by decide) fw_St_12 ?_
  refine jgn_2 (q := 4) d_St_requirePlain_4 hd0 rfl (by decide) fw_St_76 ?_
  refine jz_if_eq (tgt := 20) d_St_requirePlain_7 (by decide) ⟨by omega, by omega⟩ (fun q1 => ?_) (fun q1 => ?_)
  · exact jl_vret d_St_requirePlain_20 rfl (hk q1)
  · exact jl_throw (B := []) (text := "the draft is not plain") d_St_requirePlain_10 d_St_requirePlain_13 d_St_requirePlain_14 d_St_requirePlain_16 d_St_requirePlain_19 rfl (by decide) (by decide) kw_St_89 xw_ISE zw_St_242 tw_93.1 tw_93.2.1 (tg_93_89) (by decide) (Nat.le_of_ble_eq_true rfl) (hkx q1)
set_option maxHeartbeats 4000000 in
set_option maxRecDepth 100000 in
theorem k_requireValid {l : Launch} {G : jl_G} {d n : Nat} {h : Nat → va_E} {Kr : Option Value → Nat → (Nat → va_E) → Prop} {Kx : String → Nat → (Nat → va_E) → Prop} (hl9 : l.stackTraces = false) (hdd : 6 ≤ d) {x sh jo co cy sg : Nat} {i : Nat} {m p : Int} {hs cs xs sc : Nat → Int} (hS : h x = jO 5 [.ref (i), .ref (sh), .ref (jo), .ref (co), .ref (cy), .ref (sg)]) (hxi : x < i ∨ i + 5 ≤ x) (hD : jD h i m p hs cs xs sc) (ok : jOk m p hs cs xs) (hk : ∀ g : Nat → Int, sp_val m p hs cs xs → ∀ h', h' = va_up h (i + 4) (jI 16 (fun j => zI (g j))) → Kr none n h') (hkx : ∀ g : Nat → Int, ¬ sp_val m p hs cs xs → ∀ h', h' = va_up h (i + 4) (jI 16 (fun j => zI (g j))) → Kx "java/lang/IllegalStateException" n h') : jl_Call l G m_St_requireValid d [.ref (x)] n h 1 6 Kr Kx := by
  refine jl_enter hl9 (by decide) rfl (by simp [Value.category]) (Nat.le_of_ble_eq_true rfl) ?_
  show jl_AW l G (jl_F G Kr Kx) m_St_requireValid d 0 [some (.ref (x))] [] n h 1 6
  obtain ⟨hd0, hd1, hd2, hd3, hd4⟩ := hD
  refine jl_aload_n d_St_requireValid_0 rfl rfl ?_
  refine jg_5 (q := 0) d_St_requireValid_1 hS rfl (by decide) fw_St_12 ?_
  refine jl_invV (M' := m_Dr_isValid) (d' := d - 1) (ck' := 0) (sk' := 0) (na := 0) (as := []) (st := []) d_St_requireValid_4 rfl hd0 rfl mw_St_103 ww_Dr_isValid sw_Dr_isValid nw_Dr cw_Dr_isValid rfl rfl rfl (by decide +kernel) (by omega) (Nat.le_of_ble_eq_true rfl) (Nat.le_of_ble_eq_true rfl) ?_
  refine k_D_isValid hl9 (by omega) ⟨hd0, hd1, hd2, hd3, hd4⟩ ok (fun b g hb h2 eh2 => ?_)
  show jl_AW _ _ _ _ _ 7 [some (.ref (x))] [.int (zI (b))] n h2 _ _
  have hb9 := sp_is_rg hb
  refine jz_if_ne (tgt := 20) d_St_requireValid_7 (by decide) ⟨by omega, by omega⟩ (fun q1 => ?_) (fun q1 => ?_)
  · exact jl_vret d_St_requireValid_20 rfl (hk g (by rcases hb with ⟨-, h8⟩ | ⟨h8, -⟩; exact h8; omega) h2 eh2)
  · exact jl_throw (B := []) (text := "the draft is not valid") d_St_requireValid_10 d_St_requireValid_13 d_St_requireValid_14 d_St_requireValid_16 d_St_requireValid_19 rfl (by decide) (by decide) kw_St_89 xw_ISE zw_St_244 tw_93.1 tw_93.2.1 (tg_93_89) (by decide) (Nat.le_of_ble_eq_true rfl) (hkx g (by rcases hb with ⟨h8, -⟩ | ⟨-, h8⟩; omega; exact h8) h2 eh2)
set_option maxHeartbeats 4000000 in
set_option maxRecDepth 100000 in
theorem k_valid {l : Launch} {G : jl_G} {d n : Nat} {h : Nat → va_E} {Kr : Option Value → Nat → (Nat → va_E) → Prop} {Kx : String → Nat → (Nat → va_E) → Prop} (hl9 : l.stackTraces = false) (hdd : 6 ≤ d) {x sh jo co cy sg : Nat} {i : Nat} {m p : Int} {hs cs xs sc : Nat → Int} (hS : h x = jO 5 [.ref (i), .ref (sh), .ref (jo), .ref (co), .ref (cy), .ref (sg)]) (hxi : x < i ∨ i + 5 ≤ x) (hD : jD h i m p hs cs xs sc) (ok : jOk m p hs cs xs) (hk : ∀ (b : Int) (g : Nat → Int), sp_is (sp_val m p hs cs xs) b → ∀ h', h' = va_up h (i + 4) (jI 16 (fun j => zI (g j))) → Kr (some (.int (zI (b)))) n h') : jl_Call l G m_St_valid d [.ref (x)] n h 0 0 Kr Kx := by
  refine jl_enter hl9 (by decide) rfl (by simp [Value.category]) (Nat.le_of_ble_eq_true rfl) ?_
  show jl_AW l G (jl_F G Kr Kx) m_St_valid d 0 [some (.ref (x))] [] n h 0 0
  obtain ⟨hd0, hd1, hd2, hd3, hd4⟩ := hD
  refine jl_aload_n d_St_valid_0 rfl rfl ?_
  refine jg_5 (q := 0) d_St_valid_1 hS rfl (by decide) fw_St_12 ?_
  refine jl_invV (M' := m_Dr_isValid) (d' := d - 1) (ck' := 0) (sk' := 0) (na := 0) (as := []) (st := []) d_St_valid_4 rfl hd0 rfl mw_St_103 ww_Dr_isValid sw_Dr_isValid nw_Dr cw_Dr_isValid rfl rfl rfl (by decide +kernel) (by omega) (Nat.le_of_ble_eq_true rfl) (Nat.le_of_ble_eq_true rfl) ?_
  refine k_D_isValid hl9 (by omega) ⟨hd0, hd1, hd2, hd3, hd4⟩ ok (fun b g hb h2 eh2 => ?_)
  show jl_AW _ _ _ _ _ 7 [some (.ref (x))] [.int (zI (b))] n h2 _ _
  exact jl_zret d_St_valid_7 rfl (by rcases hb with ⟨h8, -⟩ | ⟨h8, -⟩ <;> subst h8 <;> decide) (hk b g hb h2 eh2)
set_option maxHeartbeats 4000000 in
set_option maxRecDepth 100000 in
theorem k_clash {l : Launch} {G : jl_G} {d n : Nat} {h : Nat → va_E} {Kr : Option Value → Nat → (Nat → va_E) → Prop} {Kx : String → Nat → (Nat → va_E) → Prop} (hl9 : l.stackTraces = false) (hdd : 5 ≤ d) {x sh jo co cy sg : Nat} {i : Nat} {m p : Int} {hs cs xs sc : Nat → Int} (hS : h x = jO 5 [.ref (i), .ref (sh), .ref (jo), .ref (co), .ref (cy), .ref (sg)]) (hxi : x < i ∨ i + 5 ≤ x) (hD : jD h i m p hs cs xs sc) (ok : jOk m p hs cs xs) (hk : ∀ (r : Int) (g : Nat → Int), sp_clash m p hs cs xs r → ∀ h', h' = va_up h (i + 4) (jI 16 (fun j => zI (g j))) → Kr (some (.int (zI (r)))) n h') : jl_Call l G m_St_clash d [.ref (x)] n h 0 0 Kr Kx := by
  refine jl_enter hl9 (by decide) rfl (by simp [Value.category]) (Nat.le_of_ble_eq_true rfl) ?_
  show jl_AW l G (jl_F G Kr Kx) m_St_clash d 0 [some (.ref (x))] [] n h 0 0
  obtain ⟨hd0, hd1, hd2, hd3, hd4⟩ := hD
  refine jl_aload_n d_St_clash_0 rfl rfl ?_
  refine jg_5 (q := 0) d_St_clash_1 hS rfl (by decide) fw_St_12 ?_
  refine jl_invV (M' := m_Dr_firstClash) (d' := d - 1) (ck' := 0) (sk' := 0) (na := 0) (as := []) (st := []) d_St_clash_4 rfl hd0 rfl mw_St_107 ww_Dr_firstClash sw_Dr_firstClash nw_Dr cw_Dr_firstClash rfl rfl rfl (by decide +kernel) (by omega) (Nat.le_of_ble_eq_true rfl) (Nat.le_of_ble_eq_true rfl) ?_
  refine k_D_firstClash hl9 (by omega) ⟨hd0, hd1, hd2, hd3, hd4⟩ ok (fun r g hr h2 eh2 => ?_)
  show jl_AW _ _ _ _ _ 7 [some (.ref (x))] [.int (zI (r))] n h2 _ _
  exact jl_iret d_St_clash_7 rfl (hk r g hr h2 eh2)
set_option maxHeartbeats 4000000 in
set_option maxRecDepth 100000 in
theorem k_begin {l : Launch} {G : jl_G} {d n : Nat} {h : Nat → va_E} {Kr : Option Value → Nat → (Nat → va_E) → Prop} {Kx : String → Nat → (Nat → va_E) → Prop} (hl9 : l.stackTraces = false) (hdd : 2 ≤ d) {x sh jo co cy sg : Nat} {i : Nat} {m p : Int} {hs cs xs sc : Nat → Int} {a b : Int} (hS : h x = jO 5 [.ref (i), .ref (sh), .ref (jo), .ref (co), .ref (cy), .ref (sg)]) (hxi : x < i ∨ i + 5 ≤ x) (hD : jD h i m p hs cs xs sc) (ha : zR a) (hb : zR b) (hk : ((0 ≤ a ∧ a ≤ 2) ∧ (1 ≤ b ∧ b ≤ 16) ∧ (a = 2 → b % 2 = 0)) → ∀ h', jD h' i a b (jfill 48 0 hs) (jfill 16 1 cs) (jfill 16 0 xs) sc → jfr h h' i (i + 5) → Kr (some (.int (zI (p)))) n h') (hkx : ¬ ((0 ≤ a ∧ a ≤ 2) ∧ (1 ≤ b ∧ b ≤ 16) ∧ (a = 2 → b % 2 = 0)) → Kx "java/lang/IllegalArgumentException" n h) : jl_Call l G m_St_begin d [.ref (x), .int (zI (a)), .int (zI (b))] n h 1 6 Kr Kx := by
  refine jl_enter hl9 (by decide) rfl (by simp [Value.category]) (Nat.le_of_ble_eq_true rfl) ?_
  show jl_AW l G (jl_F G Kr Kx) m_St_begin d 0 [some (.ref (x)), some (.int (zI (a))), some (.int (zI (b))), none] [] n h 1 6
  obtain ⟨hd0, hd1, hd2, hd3, hd4⟩ := hD
  refine jl_iload_n d_St_begin_0 rfl rfl ?_
  refine jz_if_lt (tgt := 20) d_St_begin_1 (by decide) ⟨by omega, by omega⟩ (fun q1 => ?_) (fun q1 => ?_)
  · exact jl_throw (B := []) (text := "no such mode or period") d_St_begin_20 d_St_begin_23 d_St_begin_24 d_St_begin_26 d_St_begin_29 rfl (by decide) (by decide) kw_St_48 xw_IAE zw_St_50 tw_52.1 tw_52.2.1 (tg_52_48) (by decide) (Nat.le_of_ble_eq_true rfl) (hkx (by omega))
  · refine jl_iload_n d_St_begin_4 rfl rfl ?_
    refine jl_iconst (v := zI (2)) d_St_begin_5 (by decide) ?_
    refine jz_icmp_gt (tgt := 20) d_St_begin_6 (by decide) ⟨by omega, by omega⟩ ⟨by omega, by omega⟩ (fun q2 => ?_) (fun q2 => ?_)
    · exact jl_throw (B := []) (text := "no such mode or period") d_St_begin_20 d_St_begin_23 d_St_begin_24 d_St_begin_26 d_St_begin_29 rfl (by decide) (by decide) kw_St_48 xw_IAE zw_St_50 tw_52.1 tw_52.2.1 (tg_52_48) (by decide) (Nat.le_of_ble_eq_true rfl) (hkx (by omega))
    · refine jl_iload_n d_St_begin_9 rfl rfl ?_
      refine jl_iconst (v := zI (1)) d_St_begin_10 (by decide) ?_
      refine jz_icmp_lt (tgt := 20) d_St_begin_11 (by decide) ⟨by omega, by omega⟩ ⟨by omega, by omega⟩ (fun q3 => ?_) (fun q3 => ?_)
      · exact jl_throw (B := []) (text := "no such mode or period") d_St_begin_20 d_St_begin_23 d_St_begin_24 d_St_begin_26 d_St_begin_29 rfl (by decide) (by decide) kw_St_48 xw_IAE zw_St_50 tw_52.1 tw_52.2.1 (tg_52_48) (by decide) (Nat.le_of_ble_eq_true rfl) (hkx (by omega))
      · refine jl_iload_n d_St_begin_14 rfl rfl ?_
        refine jl_bipush (v := zI (16)) d_St_begin_15 (by decide) ?_
        refine jz_icmp_le (tgt := 30) d_St_begin_17 (by decide) ⟨by omega, by omega⟩ ⟨by omega, by omega⟩ (fun q4 => ?_) (fun q4 => ?_)
        · refine jl_iload_n d_St_begin_30 rfl rfl ?_
          refine jl_iconst (v := zI (2)) d_St_begin_31 (by decide) ?_
          refine jz_icmp_ne (tgt := 52) d_St_begin_32 (by decide) ⟨by omega, by omega⟩ ⟨by omega, by omega⟩ (fun q5 => ?_) (fun q5 => ?_)
          · refine jl_aload_n d_St_begin_52 rfl rfl ?_
            refine jg_5 (q := 0) d_St_begin_53 hS rfl (by decide) fw_St_12 ?_
            refine jgn_2 (q := 5) d_St_begin_56 hd0 rfl (by decide) fw_St_61 ?_
            refine jl_istore_n (L' := [some (.ref (x)), some (.int (zI (a))), some (.int (zI (b))), some (.int (zI (p)))]) d_St_begin_59 rfl (by decide) rfl ?_
            refine jl_aload_n d_St_begin_60 rfl rfl ?_
            refine jg_5 (q := 0) d_St_begin_61 hS rfl (by decide) fw_St_12 ?_
            refine jl_iload_n d_St_begin_64 rfl rfl ?_
            refine jl_iload_n d_St_begin_65 rfl rfl ?_
            refine jl_invV (M' := m_Dr_clear) (d' := d - 1) (ck' := 0) (sk' := 0) (na := 2) (as := [.int (zI (a)), .int (zI (b))]) (st := []) d_St_begin_66 rfl hd0 rfl mw_St_65 ww_Dr_clear sw_Dr_clear nw_Dr cw_Dr_clear rfl rfl rfl (by decide +kernel) (by omega) (Nat.le_of_ble_eq_true rfl) (Nat.le_of_ble_eq_true rfl) ?_
            refine k_D_clear hl9 (by omega) ⟨hd0, hd1, hd2, hd3, hd4⟩ (fun h2 hD2 hf2 => ?_)
            show jl_AW _ _ _ _ _ 69 [some (.ref (x)), some (.int (zI (a))), some (.int (zI (b))), some (.int (zI (p)))] [] n h2 _ _
            refine jl_iload_n d_St_begin_69 rfl rfl ?_
            exact jl_iret d_St_begin_70 rfl (hk (by omega) h2 hD2 hf2)
          · refine jl_iload_n d_St_begin_35 rfl rfl ?_
            refine jl_invS (M' := m_St_isOdd) (d' := d - 1) (ck' := 0) (sk' := 0) (na := 1) (as := [.int (zI (b))]) (st := []) d_St_begin_36 rfl mw_St_55 ww_St_isOdd nw_St cw_St_isOdd rfl rfl rfl (by decide +kernel) (by omega) (Nat.le_of_ble_eq_true rfl) (Nat.le_of_ble_eq_true rfl) ?_
            refine k_isOdd hl9 (by omega) hb ?_
            show jl_AW _ _ _ _ _ 39 [some (.ref (x)), some (.int (zI (a))), some (.int (zI (b))), none] [.int (zI (b % 2))] n h _ _
            refine jz_if_eq (tgt := 52) d_St_begin_39 (by decide) ⟨by omega, by omega⟩ (fun q6 => ?_) (fun q6 => ?_)
            · refine jl_aload_n d_St_begin_52 rfl rfl ?_
              refine jg_5 (q := 0) d_St_begin_53 hS rfl (by decide) fw_St_12 ?_
              refine jgn_2 (q := 5) d_St_begin_56 hd0 rfl (by decide) fw_St_61 ?_
              refine jl_istore_n (L' := [some (.ref (x)), some (.int (zI (a))), some (.int (zI (b))), some (.int (zI (p)))]) d_St_begin_59 rfl (by decide) rfl ?_
              refine jl_aload_n d_St_begin_60 rfl rfl ?_
              refine jg_5 (q := 0) d_St_begin_61 hS rfl (by decide) fw_St_12 ?_
              refine jl_iload_n d_St_begin_64 rfl rfl ?_
              refine jl_iload_n d_St_begin_65 rfl rfl ?_
              refine jl_invV (M' := m_Dr_clear) (d' := d - 1) (ck' := 0) (sk' := 0) (na := 2) (as := [.int (zI (a)), .int (zI (b))]) (st := []) d_St_begin_66 rfl hd0 rfl mw_St_65 ww_Dr_clear sw_Dr_clear nw_Dr cw_Dr_clear rfl rfl rfl (by decide +kernel) (by omega) (Nat.le_of_ble_eq_true rfl) (Nat.le_of_ble_eq_true rfl) ?_
              refine k_D_clear hl9 (by omega) ⟨hd0, hd1, hd2, hd3, hd4⟩ (fun h2 hD2 hf2 => ?_)
              show jl_AW _ _ _ _ _ 69 [some (.ref (x)), some (.int (zI (a))), some (.int (zI (b))), some (.int (zI (p)))] [] n h2 _ _
              refine jl_iload_n d_St_begin_69 rfl rfl ?_
              exact jl_iret d_St_begin_70 rfl (hk (by omega) h2 hD2 hf2)
            · exact jl_throw (B := []) (text := "a synchronous period is even") d_St_begin_42 d_St_begin_45 d_St_begin_46 d_St_begin_48 d_St_begin_51 rfl (by decide) (by decide) kw_St_48 xw_IAE zw_St_59 tw_52.1 tw_52.2.1 (tg_52_48) (by decide) (Nat.le_of_ble_eq_true rfl) (hkx (by omega))
        · exact jl_throw (B := []) (text := "no such mode or period") d_St_begin_20 d_St_begin_23 d_St_begin_24 d_St_begin_26 d_St_begin_29 rfl (by decide) (by decide) kw_St_48 xw_IAE zw_St_50 tw_52.1 tw_52.2.1 (tg_52_48) (by decide) (Nat.le_of_ble_eq_true rfl) (hkx (by omega))
set_option maxHeartbeats 4000000 in
set_option maxRecDepth 100000 in
theorem k_put {l : Launch} {G : jl_G} {d n : Nat} {h : Nat → va_E} {Kr : Option Value → Nat → (Nat → va_E) → Prop} {Kx : String → Nat → (Nat → va_E) → Prop} (hl9 : l.stackTraces = false) (hdd : 2 ≤ d) {x sh jo co cy sg : Nat} {i : Nat} {m p : Int} {hs cs xs sc : Nat → Int} {a b c : Int} (hS : h x = jO 5 [.ref (i), .ref (sh), .ref (jo), .ref (co), .ref (cy), .ref (sg)]) (hxi : x < i ∨ i + 5 ≤ x) (hD : jD h i m p hs cs xs sc) (ok : jOk m p hs cs xs) (ha : zR a) (hb : zR b) (hc9 : zR c) (hk : 0 ≤ a ∧ a < p → ((0 ≤ b ∧ b ≤ 9) ∧ (m = 2 → b % 2 = 0) ∧ (¬ m = 2 → c = 0)) → ∀ h', jD h' i m p (va_up hs (a * 3).toNat (b)) cs (va_up xs (a).toNat (if c = 0 then 0 else 16)) sc → jfr h h' i (i + 5) → Kr (some (.int (zI (hs (a * 3).toNat)))) n h') (hx1 : ¬ (0 ≤ a ∧ a < p) → Kx "java/lang/IndexOutOfBoundsException" n h) (hx2 : 0 ≤ a ∧ a < p → ¬ ((0 ≤ b ∧ b ≤ 9) ∧ (m = 2 → b % 2 = 0) ∧ (¬ m = 2 → c = 0)) → Kx "java/lang/IllegalArgumentException" n h) : jl_Call l G m_St_put d [.ref (x), .int (zI (a)), .int (zI (b)), .int (zI (c))] n h 3 18 Kr Kx := by
  refine jl_enter hl9 (by decide) rfl (by simp [Value.category]) (Nat.le_of_ble_eq_true rfl) ?_
  show jl_AW l G (jl_F G Kr Kx) m_St_put d 0 [some (.ref (x)), some (.int (zI (a))), some (.int (zI (b))), some (.int (zI (c))), none] [] n h 3 18
  obtain ⟨hd0, hd1, hd2, hd3, hd4⟩ := hD
  have hm := ok.1
  have hp := ok.2.1
  refine jl_aload_n d_St_put_0 rfl rfl ?_
  refine jl_iload_n d_St_put_1 rfl rfl ?_
  refine jl_invV (M' := m_St_requireSite) (d' := d - 1) (ck' := 1) (sk' := 6) (na := 1) (as := [.int (zI (a))]) (st := []) d_St_put_2 rfl hS rfl mw_St_69 ww_St_requireSite sw_St_requireSite nw_St cw_St_requireSite rfl rfl rfl (by decide +kernel) (by omega) (Nat.le_of_ble_eq_true rfl) (Nat.le_of_ble_eq_true rfl) ?_
  refine k_requireSite hl9 (by omega) hS hxi ⟨hd0, hd1, hd2, hd3, hd4⟩ ha hp (fun hin => ?_) (fun hin => hx1 hin)
  show jl_AW _ _ _ _ _ 5 [some (.ref (x)), some (.int (zI (a))), some (.int (zI (b))), some (.int (zI (c))), none] [] n h _ _
  refine jl_iload_n d_St_put_5 rfl rfl ?_
  refine jl_invS (M' := m_St_requireHeight) (d' := d - 1) (ck' := 1) (sk' := 6) (na := 1) (as := [.int (zI (b))]) (st := []) d_St_put_6 rfl mw_St_73 ww_St_requireHeight nw_St cw_St_requireHeight rfl rfl rfl (by decide +kernel) (by omega) (Nat.le_of_ble_eq_true rfl) (Nat.le_of_ble_eq_true rfl) ?_
  refine k_requireHeight hl9 (by omega) hb (fun hhin => ?_) (fun hhin => hx2 hin (fun q => hhin q.1))
  show jl_AW _ _ _ _ _ 9 [some (.ref (x)), some (.int (zI (a))), some (.int (zI (b))), some (.int (zI (c))), none] [] n h _ _
  refine jl_aload_n d_St_put_9 rfl rfl ?_
  refine jg_5 (q := 0) d_St_put_10 hS rfl (by decide) fw_St_12 ?_
  refine jgn_2 (q := 4) d_St_put_13 hd0 rfl (by decide) fw_St_76 ?_
  refine jl_iconst (v := zI (2)) d_St_put_16 (by decide) ?_
  refine jz_icmp_ne (tgt := 30) d_St_put_17 (by decide) ⟨by omega, by omega⟩ ⟨by omega, by omega⟩ (fun q1 => ?_) (fun q1 => ?_)
  · refine jl_iload_n d_St_put_30 rfl rfl ?_
    refine jz_if_eq (tgt := 44) d_St_put_31 (by decide) ⟨by omega, by omega⟩ (fun q2 => ?_) (fun q2 => ?_)
    · refine jl_aload_n d_St_put_44 rfl rfl ?_
      refine jg_5 (q := 0) d_St_put_45 hS rfl (by decide) fw_St_12 ?_
      refine jl_iload_n d_St_put_48 rfl rfl ?_
      have em : a % p = a := Int.emod_eq_of_lt (by omega) (by omega)
      refine jl_invV (M' := m_Dr_firstHeight) (d' := d - 1) (ck' := 0) (sk' := 0) (na := 1) (as := [.int (zI (a))]) (st := []) d_St_put_49 rfl hd0 rfl mw_St_81 ww_Dr_firstHeight sw_Dr_firstHeight nw_Dr cw_Dr_firstHeight rfl rfl rfl (by decide +kernel) (by omega) (Nat.le_of_ble_eq_true rfl) (Nat.le_of_ble_eq_true rfl) ?_
      refine k_D_firstHeight hl9 (by omega) ⟨hd0, hd1, hd2, hd3, hd4⟩ ⟨by omega, by omega⟩ hp ?_
      show jl_AW _ _ _ _ _ 52 [some (.ref (x)), some (.int (zI (a))), some (.int (zI (b))), some (.int (zI (c))), none] [.int (zI (hs (a % p * 3).toNat))] n h _ _
      rw [em]
      refine jl_istore (L' := [some (.ref (x)), some (.int (zI (a))), some (.int (zI (b))), some (.int (zI (c))), some (.int (zI (hs (a * 3).toNat)))]) d_St_put_52 (by decide) rfl ?_
      refine jl_aload_n d_St_put_54 rfl rfl ?_
      refine jg_5 (q := 0) d_St_put_55 hS rfl (by decide) fw_St_12 ?_
      refine jl_iload_n d_St_put_58 rfl rfl ?_
      refine jl_iload_n d_St_put_59 rfl rfl ?_
      refine jl_iload_n d_St_put_60 rfl rfl ?_
      refine jl_invV (M' := m_Dr_setFirst) (d' := d - 1) (ck' := 0) (sk' := 0) (na := 3) (as := [.int (zI (a)), .int (zI (b)), .int (zI (c))]) (st := []) d_St_put_61 rfl hd0 rfl mw_St_85 ww_Dr_setFirst sw_Dr_setFirst nw_Dr cw_Dr_setFirst rfl rfl rfl (by decide +kernel) (by omega) (Nat.le_of_ble_eq_true rfl) (Nat.le_of_ble_eq_true rfl) ?_
      refine k_D_setFirst hl9 (by omega) ⟨hd0, hd1, hd2, hd3, hd4⟩ ⟨by omega, by omega⟩ hc9 ?_
      obtain ⟨h2, eh2⟩ : ∃ z, z = va_up (va_up h (i + 1) (jI 48 (fun j => zI (va_up hs (a * 3).toNat (b) j)))) (i + 3) (jI 16 (fun j => zI (va_up xs (a).toNat (if c = 0 then 0 else 16) j))) := ⟨_, rfl⟩
      rw [← eh2]
      show jl_AW _ _ _ _ _ 64 [some (.ref (x)), some (.int (zI (a))), some (.int (zI (b))), some (.int (zI (c))), some (.int (zI (hs (a * 3).toNat)))] [] n h2 _ _
      refine jl_iload d_St_put_64 rfl ?_
      refine jl_iret d_St_put_66 rfl (hk hin (by omega) h2 ⟨?_, ?_, ?_, ?_, ?_⟩ ?_)
      · rw [eh2, va_up_ne _ _ (by omega), va_up_ne _ _ (by omega)]; exact hd0
      · rw [eh2, va_up_ne _ _ (by omega), va_up_self]
      · rw [eh2, va_up_ne _ _ (by omega), va_up_ne _ _ (by omega)]; exact hd2
      · rw [eh2, va_up_self]
      · rw [eh2, va_up_ne _ _ (by omega), va_up_ne _ _ (by omega)]; exact hd4
      · intro y hy; rw [eh2, va_up_ne _ _ (by omega), va_up_ne _ _ (by omega)]
    · exact jl_throw (B := []) (text := "no such throw in this mode") d_St_put_34 d_St_put_37 d_St_put_38 d_St_put_40 d_St_put_43 rfl (by decide) (by decide) kw_St_48 xw_IAE zw_St_79 tw_52.1 tw_52.2.1 (tg_52_48) (by decide) (Nat.le_of_ble_eq_true rfl) (hx2 hin (by omega))
  · refine jl_iload_n d_St_put_20 rfl rfl ?_
    refine jl_invS (M' := m_St_isOdd) (d' := d - 1) (ck' := 0) (sk' := 0) (na := 1) (as := [.int (zI (b))]) (st := []) d_St_put_21 rfl mw_St_55 ww_St_isOdd nw_St cw_St_isOdd rfl rfl rfl (by decide +kernel) (by omega) (Nat.le_of_ble_eq_true rfl) (Nat.le_of_ble_eq_true rfl) ?_
    refine k_isOdd hl9 (by omega) hb ?_
    show jl_AW _ _ _ _ _ 24 [some (.ref (x)), some (.int (zI (a))), some (.int (zI (b))), some (.int (zI (c))), none] [.int (zI (b % 2))] n h _ _
    refine jz_if_eq (tgt := 44) d_St_put_24 (by decide) ⟨by omega, by omega⟩ (fun q3 => ?_) (fun q3 => ?_)
    · refine jl_aload_n d_St_put_44 rfl rfl ?_
      refine jg_5 (q := 0) d_St_put_45 hS rfl (by decide) fw_St_12 ?_
      refine jl_iload_n d_St_put_48 rfl rfl ?_
      have em : a % p = a := Int.emod_eq_of_lt (by omega) (by omega)
      refine jl_invV (M' := m_Dr_firstHeight) (d' := d - 1) (ck' := 0) (sk' := 0) (na := 1) (as := [.int (zI (a))]) (st := []) d_St_put_49 rfl hd0 rfl mw_St_81 ww_Dr_firstHeight sw_Dr_firstHeight nw_Dr cw_Dr_firstHeight rfl rfl rfl (by decide +kernel) (by omega) (Nat.le_of_ble_eq_true rfl) (Nat.le_of_ble_eq_true rfl) ?_
      refine k_D_firstHeight hl9 (by omega) ⟨hd0, hd1, hd2, hd3, hd4⟩ ⟨by omega, by omega⟩ hp ?_
      show jl_AW _ _ _ _ _ 52 [some (.ref (x)), some (.int (zI (a))), some (.int (zI (b))), some (.int (zI (c))), none] [.int (zI (hs (a % p * 3).toNat))] n h _ _
      rw [em]
      refine jl_istore (L' := [some (.ref (x)), some (.int (zI (a))), some (.int (zI (b))), some (.int (zI (c))), some (.int (zI (hs (a * 3).toNat)))]) d_St_put_52 (by decide) rfl ?_
      refine jl_aload_n d_St_put_54 rfl rfl ?_
      refine jg_5 (q := 0) d_St_put_55 hS rfl (by decide) fw_St_12 ?_
      refine jl_iload_n d_St_put_58 rfl rfl ?_
      refine jl_iload_n d_St_put_59 rfl rfl ?_
      refine jl_iload_n d_St_put_60 rfl rfl ?_
      refine jl_invV (M' := m_Dr_setFirst) (d' := d - 1) (ck' := 0) (sk' := 0) (na := 3) (as := [.int (zI (a)), .int (zI (b)), .int (zI (c))]) (st := []) d_St_put_61 rfl hd0 rfl mw_St_85 ww_Dr_setFirst sw_Dr_setFirst nw_Dr cw_Dr_setFirst rfl rfl rfl (by decide +kernel) (by omega) (Nat.le_of_ble_eq_true rfl) (Nat.le_of_ble_eq_true rfl) ?_
      refine k_D_setFirst hl9 (by omega) ⟨hd0, hd1, hd2, hd3, hd4⟩ ⟨by omega, by omega⟩ hc9 ?_
      obtain ⟨h2, eh2⟩ : ∃ z, z = va_up (va_up h (i + 1) (jI 48 (fun j => zI (va_up hs (a * 3).toNat (b) j)))) (i + 3) (jI 16 (fun j => zI (va_up xs (a).toNat (if c = 0 then 0 else 16) j))) := ⟨_, rfl⟩
      rw [← eh2]
      show jl_AW _ _ _ _ _ 64 [some (.ref (x)), some (.int (zI (a))), some (.int (zI (b))), some (.int (zI (c))), some (.int (zI (hs (a * 3).toNat)))] [] n h2 _ _
      refine jl_iload d_St_put_64 rfl ?_
      refine jl_iret d_St_put_66 rfl (hk hin (by omega) h2 ⟨?_, ?_, ?_, ?_, ?_⟩ ?_)
      · rw [eh2, va_up_ne _ _ (by omega), va_up_ne _ _ (by omega)]; exact hd0
      · rw [eh2, va_up_ne _ _ (by omega), va_up_self]
      · rw [eh2, va_up_ne _ _ (by omega), va_up_ne _ _ (by omega)]; exact hd2
      · rw [eh2, va_up_self]
      · rw [eh2, va_up_ne _ _ (by omega), va_up_ne _ _ (by omega)]; exact hd4
      · intro y hy; rw [eh2, va_up_ne _ _ (by omega), va_up_ne _ _ (by omega)]
    · refine jl_goto (tgt := 34) d_St_put_27 (by decide) ?_
      exact jl_throw (B := []) (text := "no such throw in this mode") d_St_put_34 d_St_put_37 d_St_put_38 d_St_put_40 d_St_put_43 rfl (by decide) (by decide) kw_St_48 xw_IAE zw_St_79 tw_52.1 tw_52.2.1 (tg_52_48) (by decide) (Nat.le_of_ble_eq_true rfl) (hx2 hin (by omega))
set_option maxHeartbeats 4000000 in
set_option maxRecDepth 100000 in
theorem k_add {l : Launch} {G : jl_G} {d n : Nat} {h : Nat → va_E} {Kr : Option Value → Nat → (Nat → va_E) → Prop} {Kx : String → Nat → (Nat → va_E) → Prop} (hl9 : l.stackTraces = false) (hdd : 2 ≤ d) {x sh jo co cy sg : Nat} {i : Nat} {m p : Int} {hs cs xs sc : Nat → Int} {a b : Int} (hS : h x = jO 5 [.ref (i), .ref (sh), .ref (jo), .ref (co), .ref (cy), .ref (sg)]) (hxi : x < i ∨ i + 5 ≤ x) (hD : jD h i m p hs cs xs sc) (ok : jOk m p hs cs xs) (ha : zR a) (hb : zR b) (hk : m = 1 → 0 ≤ a ∧ a < p → cs (a).toNat < 3 → 0 ≤ b ∧ b ≤ 9 → ∀ h', jD h' i m p (va_up hs (a * 3 + cs (a).toNat).toNat (b)) (va_up cs (a).toNat (cs (a).toNat + 1)) xs sc → jfr h h' i (i + 5) → Kr (some (.int (zI (cs (a).toNat + 1)))) n h') (hx1 : ¬ m = 1 → Kx "java/lang/IllegalStateException" n h) (hx2 : m = 1 → ¬ (0 ≤ a ∧ a < p) → Kx "java/lang/IndexOutOfBoundsException" n h) (hx3 : m = 1 → 0 ≤ a ∧ a < p → ¬ cs (a).toNat < 3 → Kx "java/lang/IllegalStateException" n h) (hx4 : m = 1 → 0 ≤ a ∧ a < p → cs (a).toNat < 3 → ¬ (0 ≤ b ∧ b ≤ 9) → Kx "java/lang/IllegalArgumentException" n h) : jl_Call l G m_St_add d [.ref (x), .int (zI (a)), .int (zI (b))] n h 3 18 Kr Kx := by
  refine jl_enter hl9 (by decide) rfl (by simp [Value.category]) (Nat.le_of_ble_eq_true rfl) ?_
  show jl_AW l G (jl_F G Kr Kx) m_St_add d 0 [some (.ref (x)), some (.int (zI (a))), some (.int (zI (b)))] [] n h 3 18
  obtain ⟨hd0, hd1, hd2, hd3, hd4⟩ := hD
  have hp := ok.2.1
  have hm := ok.1
  refine jl_aload_n d_St_add_0 rfl rfl ?_
  refine jg_5 (q := 0) d_St_add_1 hS rfl (by decide) fw_St_12 ?_
  refine jgn_2 (q := 4) d_St_add_4 hd0 rfl (by decide) fw_St_76 ?_
  refine jl_iconst (v := zI (1)) d_St_add_7 (by decide) ?_
  refine jz_icmp_eq (tgt := 21) d_St_add_8 (by decide) ⟨by omega, by omega⟩ ⟨by omega, by omega⟩ (fun q1 => ?_) (fun q1 => ?_)
  · refine jl_aload_n d_St_add_21 rfl rfl ?_
    refine jl_iload_n d_St_add_22 rfl rfl ?_
    refine jl_invV (M' := m_St_requireSite) (d' := d - 1) (ck' := 1) (sk' := 6) (na := 1) (as := [.int (zI (a))]) (st := []) d_St_add_23 rfl hS rfl mw_St_69 ww_St_requireSite sw_St_requireSite nw_St cw_St_requireSite rfl rfl rfl (by decide +kernel) (by omega) (Nat.le_of_ble_eq_true rfl) (Nat.le_of_ble_eq_true rfl) ?_
    refine k_requireSite hl9 (by omega) hS hxi ⟨hd0, hd1, hd2, hd3, hd4⟩ ha hp (fun hin => ?_) (fun hin => hx2 q1 hin)
    show jl_AW _ _ _ _ _ 26 [some (.ref (x)), some (.int (zI (a))), some (.int (zI (b)))] [] n h _ _
    refine jl_aload_n d_St_add_26 rfl rfl ?_
    refine jg_5 (q := 0) d_St_add_27 hS rfl (by decide) fw_St_12 ?_
    refine jl_iload_n d_St_add_30 rfl rfl ?_
    refine jl_invV (M' := m_Dr_throwsOf) (d' := d - 1) (ck' := 0) (sk' := 0) (na := 1) (as := [.int (zI (a))]) (st := []) d_St_add_31 rfl hd0 rfl mw_St_94 ww_Dr_throwsOf sw_Dr_throwsOf nw_Dr cw_Dr_throwsOf rfl rfl rfl (by decide +kernel) (by omega) (Nat.le_of_ble_eq_true rfl) (Nat.le_of_ble_eq_true rfl) ?_
    refine k_D_throwsOf hl9 (by omega) ⟨hd0, hd1, hd2, hd3, hd4⟩ ⟨by omega, by omega⟩ ?_
    show jl_AW _ _ _ _ _ 34 [some (.ref (x)), some (.int (zI (a))), some (.int (zI (b)))] [.int (zI (cs (a).toNat))] n h _ _
    have hc9 := ok.2.2.2.1 a.toNat
    refine jl_iconst (v := zI (3)) d_St_add_34 (by decide) ?_
    refine jz_icmp_lt (tgt := 48) d_St_add_35 (by decide) ⟨by omega, by omega⟩ ⟨by omega, by omega⟩ (fun q2 => ?_) (fun q2 => ?_)
    · refine jl_iload_n d_St_add_48 rfl rfl ?_
      refine jl_invS (M' := m_St_requireHeight) (d' := d - 1) (ck' := 1) (sk' := 6) (na := 1) (as := [.int (zI (b))]) (st := []) d_St_add_49 rfl mw_St_73 ww_St_requireHeight nw_St cw_St_requireHeight rfl rfl rfl (by decide +kernel) (by omega) (Nat.le_of_ble_eq_true rfl) (Nat.le_of_ble_eq_true rfl) ?_
      refine k_requireHeight hl9 (by omega) hb (fun hhin => ?_) (fun hhin => hx4 q1 hin (by omega) hhin)
      show jl_AW _ _ _ _ _ 52 [some (.ref (x)), some (.int (zI (a))), some (.int (zI (b)))] [] n h _ _
      refine jl_aload_n d_St_add_52 rfl rfl ?_
      refine jg_5 (q := 0) d_St_add_53 hS rfl (by decide) fw_St_12 ?_
      refine jl_iload_n d_St_add_56 rfl rfl ?_
      refine jl_iload_n d_St_add_57 rfl rfl ?_
      refine jl_invV (M' := m_Dr_append) (d' := d - 1) (ck' := 0) (sk' := 0) (na := 2) (as := [.int (zI (a)), .int (zI (b))]) (st := []) d_St_add_58 rfl hd0 rfl mw_St_99 ww_Dr_append sw_Dr_append nw_Dr cw_Dr_append rfl rfl rfl (by decide +kernel) (by omega) (Nat.le_of_ble_eq_true rfl) (Nat.le_of_ble_eq_true rfl) ?_
      refine k_D_append hl9 (by omega) ⟨hd0, hd1, hd2, hd3, hd4⟩ ⟨by omega, by omega⟩ ⟨by omega, by omega⟩ ?_
      obtain ⟨h2, eh2⟩ : ∃ z, z = va_up (va_up h (i + 1) (jI 48 (fun j => zI (va_up hs (a * 3 + cs (a).toNat).toNat (b) j)))) (i + 2) (jI 16 (fun j => zI (va_up cs (a).toNat (cs (a).toNat + 1) j))) := ⟨_, rfl⟩
      rw [← eh2]
      show jl_AW _ _ _ _ _ 61 [some (.ref (x)), some (.int (zI (a))), some (.int (zI (b)))] [.int (zI (cs (a).toNat + 1))] n h2 _ _
      refine jl_iret d_St_add_61 rfl (hk q1 hin (by omega) hhin h2 ⟨?_, ?_, ?_, ?_, ?_⟩ ?_)
      · rw [eh2, va_up_ne _ _ (by omega), va_up_ne _ _ (by omega)]; exact hd0
      · rw [eh2, va_up_ne _ _ (by omega), va_up_self]
      · rw [eh2, va_up_self]
      · rw [eh2, va_up_ne _ _ (by omega), va_up_ne _ _ (by omega)]; exact hd3
      · rw [eh2, va_up_ne _ _ (by omega), va_up_ne _ _ (by omega)]; exact hd4
      · intro y hy; rw [eh2, va_up_ne _ _ (by omega), va_up_ne _ _ (by omega)]
    · exact jl_throw (B := []) (text := "the site has three throws") d_St_add_38 d_St_add_41 d_St_add_42 d_St_add_44 d_St_add_47 rfl (by decide) (by decide) kw_St_89 xw_ISE zw_St_97 tw_93.1 tw_93.2.1 (tg_93_89) (by decide) (Nat.le_of_ble_eq_true rfl) (hx3 q1 hin (by omega))
  · exact jl_throw (B := []) (text := "the draft is not multiplex") d_St_add_11 d_St_add_14 d_St_add_15 d_St_add_17 d_St_add_20 rfl (by decide) (by decide) kw_St_89 xw_ISE zw_St_91 tw_93.1 tw_93.2.1 (tg_93_89) (by decide) (Nat.le_of_ble_eq_true rfl) (hx1 q1)
set_option maxHeartbeats 4000000 in
set_option maxRecDepth 100000 in
theorem k_balls {l : Launch} {G : jl_G} {d n : Nat} {h : Nat → va_E} {Kr : Option Value → Nat → (Nat → va_E) → Prop} {Kx : String → Nat → (Nat → va_E) → Prop} (hl9 : l.stackTraces = false) (hdd : 7 ≤ d) {x sh jo co cy sg : Nat} {i : Nat} {m p : Int} {hs cs xs sc : Nat → Int} (hS : h x = jO 5 [.ref (i), .ref (sh), .ref (jo), .ref (co), .ref (cy), .ref (sg)]) (hxi : x < i ∨ i + 5 ≤ x) (hD : jD h i m p hs cs xs sc) (ok : jOk m p hs cs xs) (hk : ∀ g : Nat → Int, sp_val m p hs cs xs → ∀ h', h' = va_up h (i + 4) (jI 16 (fun j => zI (g j))) → Kr (some (.int (zI (sp_balls p hs cs)))) n h') (hkx : ∀ g : Nat → Int, ¬ sp_val m p hs cs xs → ∀ h', h' = va_up h (i + 4) (jI 16 (fun j => zI (g j))) → Kx "java/lang/IllegalStateException" n h') : jl_Call l G m_St_balls d [.ref (x)] n h 1 6 Kr Kx := by
  refine jl_enter hl9 (by decide) rfl (by simp [Value.category]) (Nat.le_of_ble_eq_true rfl) ?_
  show jl_AW l G (jl_F G Kr Kx) m_St_balls d 0 [some (.ref (x))] [] n h 1 6
  obtain ⟨hd0, hd1, hd2, hd3, hd4⟩ := hD
  refine jl_aload_n d_St_balls_0 rfl rfl ?_
  refine jl_invV (M' := m_St_requireValid) (d' := d - 1) (ck' := 1) (sk' := 6) (na := 0) (as := []) (st := []) d_St_balls_1 rfl hS rfl mw_St_111 ww_St_requireValid sw_St_requireValid nw_St cw_St_requireValid rfl rfl rfl (by decide +kernel) (by omega) (Nat.le_of_ble_eq_true rfl) (Nat.le_of_ble_eq_true rfl) ?_
  refine k_requireValid hl9 (by omega) hS hxi ⟨hd0, hd1, hd2, hd3, hd4⟩ ok (fun g hv h2 eh2 => ?_) (fun g hv h2 eh2 => hkx g hv h2 eh2)
  show jl_AW _ _ _ _ _ 4 [some (.ref (x))] [] n h2 _ _
  have hD2 := jD_sc (g := g) ⟨hd0, hd1, hd2, hd3, hd4⟩
  rw [← eh2] at hD2
  have hS2 : h2 x = jO 5 [.ref (i), .ref (sh), .ref (jo), .ref (co), .ref (cy), .ref (sg)] := by rw [eh2, va_up_ne _ _ (by omega)]; exact hS
  obtain ⟨g0, g1, g2, g3, g4⟩ := hD2
  refine jl_aload_n d_St_balls_4 rfl rfl ?_
  refine jg_5 (q := 0) d_St_balls_5 hS2 rfl (by decide) fw_St_12 ?_
  refine jl_invV (M' := m_Dr_ballCount) (d' := d - 1) (ck' := 0) (sk' := 0) (na := 0) (as := []) (st := []) d_St_balls_8 rfl g0 rfl mw_St_114 ww_Dr_ballCount sw_Dr_ballCount nw_Dr cw_Dr_ballCount rfl rfl rfl (by decide +kernel) (by omega) (Nat.le_of_ble_eq_true rfl) (Nat.le_of_ble_eq_true rfl) ?_
  refine k_D_ballCount hl9 (by omega) ⟨g0, g1, g2, g3, g4⟩ ok ?_
  show jl_AW _ _ _ _ _ 11 [some (.ref (x))] [.int (zI (sp_balls p hs cs))] n h2 _ _
  exact jl_iret d_St_balls_11 rfl (hk g hv h2 eh2)
set_option maxHeartbeats 4000000 in
set_option maxRecDepth 100000 in
theorem k_state {l : Launch} {G : jl_G} {d n : Nat} {h : Nat → va_E} {Kr : Option Value → Nat → (Nat → va_E) → Prop} {Kx : String → Nat → (Nat → va_E) → Prop} (hl9 : l.stackTraces = false) (hdd : 7 ≤ d) {x sh jo co cy sg : Nat} {i : Nat} {m p : Int} {hs cs xs sc : Nat → Int} {b : Int} (hS : h x = jO 5 [.ref (i), .ref (sh), .ref (jo), .ref (co), .ref (cy), .ref (sg)]) (hxi : x < i ∨ i + 5 ≤ x) (hD : jD h i m p hs cs xs sc) (ok : jOk m p hs cs xs) (hb : zR b) (hk : m = 0 → sp_val m p hs cs xs → 0 ≤ b ∧ b < p → ∀ (g : Nat → Int) h', h' = va_up h (i + 4) (jI 16 (fun j => zI (g j))) → Kr (some (.int (zI (sp_st p hs b)))) n h') (hx1 : ¬ m = 0 → Kx "java/lang/IllegalStateException" n h) (hx2 : m = 0 → ∀ g : Nat → Int, ¬ sp_val m p hs cs xs → ∀ h', h' = va_up h (i + 4) (jI 16 (fun j => zI (g j))) → Kx "java/lang/IllegalStateException" n h') (hx3 : m = 0 → sp_val m p hs cs xs → ¬ (0 ≤ b ∧ b < p) → ∀ (g : Nat → Int) h', h' = va_up h (i + 4) (jI 16 (fun j => zI (g j))) → Kx "java/lang/IndexOutOfBoundsException" n h') : jl_Call l G m_St_state d [.ref (x), .int (zI (b))] n h 3 18 Kr Kx := by
  refine jl_enter hl9 (by decide) rfl (by simp [Value.category]) (Nat.le_of_ble_eq_true rfl) ?_
  show jl_AW l G (jl_F G Kr Kx) m_St_state d 0 [some (.ref (x)), some (.int (zI (b)))] [] n h 3 18
  obtain ⟨hd0, hd1, hd2, hd3, hd4⟩ := hD
  have hp := ok.2.1
  refine jl_aload_n d_St_state_0 rfl rfl ?_
  refine jl_invV (M' := m_St_requirePlain) (d' := d - 1) (ck' := 1) (sk' := 6) (na := 0) (as := []) (st := []) d_St_state_1 rfl hS rfl mw_St_117 ww_St_requirePlain sw_St_requirePlain nw_St cw_St_requirePlain rfl rfl rfl (by decide +kernel) (by omega) (Nat.le_of_ble_eq_true rfl) (Nat.le_of_ble_eq_true rfl) ?_
  refine k_requirePlain hl9 (by omega) hS hxi ⟨hd0, hd1, hd2, hd3, hd4⟩ ok.1 (fun h0 => ?_) (fun h0 => hx1 h0)
  show jl_AW _ _ _ _ _ 4 [some (.ref (x)), some (.int (zI (b)))] [] n h _ _
  refine jl_aload_n d_St_state_4 rfl rfl ?_
  refine jl_invV (M' := m_St_requireValid) (d' := d - 1) (ck' := 1) (sk' := 6) (na := 0) (as := []) (st := []) d_St_state_5 rfl hS rfl mw_St_111 ww_St_requireValid sw_St_requireValid nw_St cw_St_requireValid rfl rfl rfl (by decide +kernel) (by omega) (Nat.le_of_ble_eq_true rfl) (Nat.le_of_ble_eq_true rfl) ?_
  refine k_requireValid hl9 (by omega) hS hxi ⟨hd0, hd1, hd2, hd3, hd4⟩ ok (fun g hv h2 eh2 => ?_) (fun g hv h2 eh2 => hx2 h0 g hv h2 eh2)
  show jl_AW _ _ _ _ _ 8 [some (.ref (x)), some (.int (zI (b)))] [] n h2 _ _
  have hD2 := jD_sc (g := g) ⟨hd0, hd1, hd2, hd3, hd4⟩
  rw [← eh2] at hD2
  have hS2 : h2 x = jO 5 [.ref (i), .ref (sh), .ref (jo), .ref (co), .ref (cy), .ref (sg)] := by rw [eh2, va_up_ne _ _ (by omega)]; exact hS
  refine jl_aload_n d_St_state_8 rfl rfl ?_
  refine jl_iload_n d_St_state_9 rfl rfl ?_
  refine jl_invV (M' := m_St_requireSite) (d' := d - 1) (ck' := 1) (sk' := 6) (na := 1) (as := [.int (zI (b))]) (st := []) d_St_state_10 rfl hS2 rfl mw_St_69 ww_St_requireSite sw_St_requireSite nw_St cw_St_requireSite rfl rfl rfl (by decide +kernel) (by omega) (Nat.le_of_ble_eq_true rfl) (Nat.le_of_ble_eq_true rfl) ?_
  refine k_requireSite hl9 (by omega) hS2 hxi hD2 hb hp (fun hin => ?_) (fun hin => hx3 h0 hv hin g h2 eh2)
  show jl_AW _ _ _ _ _ 13 [some (.ref (x)), some (.int (zI (b)))] [] n h2 _ _
  obtain ⟨g0, g1, g2, g3, g4⟩ := hD2
  refine jl_aload_n d_St_state_13 rfl rfl ?_
  refine jg_5 (q := 0) d_St_state_14 hS2 rfl (by decide) fw_St_12 ?_
  refine jl_iload_n d_St_state_17 rfl rfl ?_
  refine jl_invV (M' := m_Dr_stateBefore) (d' := d - 1) (ck' := 0) (sk' := 0) (na := 1) (as := [.int (zI (b))]) (st := []) d_St_state_18 rfl g0 rfl mw_St_120 ww_Dr_stateBefore sw_Dr_stateBefore nw_Dr cw_Dr_stateBefore rfl rfl rfl (by decide +kernel) (by omega) (Nat.le_of_ble_eq_true rfl) (Nat.le_of_ble_eq_true rfl) ?_
  refine k_D_stateBefore hl9 (by omega) ⟨g0, g1, g2, g3, g4⟩ ok ⟨by omega, by omega⟩ ?_
  show jl_AW _ _ _ _ _ 21 [some (.ref (x)), some (.int (zI (b)))] [.int (zI (sp_st p hs b))] n h2 _ _
  exact jl_iret d_St_state_21 rfl (hk h0 hv hin g h2 eh2)
set_option maxHeartbeats 4000000 in
set_option maxRecDepth 100000 in
theorem k_swap {l : Launch} {G : jl_G} {d n : Nat} {h : Nat → va_E} {Kr : Option Value → Nat → (Nat → va_E) → Prop} {Kx : String → Nat → (Nat → va_E) → Prop} (hl9 : l.stackTraces = false) (hdd : 3 ≤ d) {x sh jo co cy sg : Nat} {i : Nat} {m p : Int} {hs cs xs sc : Nat → Int} {a b : Int} (hS : h x = jO 5 [.ref (i), .ref (sh), .ref (jo), .ref (co), .ref (cy), .ref (sg)]) (hxi : x < i ∨ i + 5 ≤ x) (hD : jD h i m p hs cs xs sc) (ok : jOk m p hs cs xs) (ha : zR a) (hb : zR b) (hk0 : m = 0 → 0 ≤ a ∧ a < p → 0 ≤ b ∧ b < p → ¬ (0 ≤ hs (b * 3).toNat + b - a ∧ hs (b * 3).toNat + b - a ≤ 9 ∧ 0 ≤ hs (a * 3).toNat + a - b ∧ hs (a * 3).toNat + a - b ≤ 9) → Kr (some (.int (zI (0)))) n h) (hk1 : m = 0 → 0 ≤ a ∧ a < p → 0 ≤ b ∧ b < p → (0 ≤ hs (b * 3).toNat + b - a ∧ hs (b * 3).toNat + b - a ≤ 9 ∧ 0 ≤ hs (a * 3).toNat + a - b ∧ hs (a * 3).toNat + a - b ≤ 9) → ∀ h', jD h' i m p (va_up (va_up hs (a * 3).toNat (hs (b * 3).toNat + b - a)) (b * 3).toNat (hs (a * 3).toNat + a - b)) cs (va_up (va_up xs (a).toNat 0) (b).toNat 0) sc → jfr h h' i (i + 5) → Kr (some (.int (zI (1)))) n h') (hx1 : ¬ m = 0 → Kx "java/lang/IllegalStateException" n h) (hx2 : m = 0 → ¬ ((0 ≤ a ∧ a < p) ∧ (0 ≤ b ∧ b < p)) → Kx "java/lang/IndexOutOfBoundsException" n h) : jl_Call l G m_St_swap d [.ref (x), .int (zI (a)), .int (zI (b))] n h 3 18 Kr Kx := by
  refine jl_enter hl9 (by decide) rfl (by simp [Value.category]) (Nat.le_of_ble_eq_true rfl) ?_
  show jl_AW l G (jl_F G Kr Kx) m_St_swap d 0 [some (.ref (x)), some (.int (zI (a))), some (.int (zI (b)))] [] n h 3 18
  obtain ⟨hd0, hd1, hd2, hd3, hd4⟩ := hD
  have hp := ok.2.1
  refine jl_aload_n d_St_swap_0 rfl rfl ?_
  refine jl_invV (M' := m_St_requirePlain) (d' := d - 1) (ck' := 1) (sk' := 6) (na := 0) (as := []) (st := []) d_St_swap_1 rfl hS rfl mw_St_117 ww_St_requirePlain sw_St_requirePlain nw_St cw_St_requirePlain rfl rfl rfl (by decide +kernel) (by omega) (Nat.le_of_ble_eq_true rfl) (Nat.le_of_ble_eq_true rfl) ?_
  refine k_requirePlain hl9 (by omega) hS hxi ⟨hd0, hd1, hd2, hd3, hd4⟩ ok.1 (fun h0 => ?_) (fun h0 => hx1 h0)
  show jl_AW _ _ _ _ _ 4 [some (.ref (x)), some (.int (zI (a))), some (.int (zI (b)))] [] n h _ _
  refine jl_aload_n d_St_swap_4 rfl rfl ?_
  refine jl_iload_n d_St_swap_5 rfl rfl ?_
  refine jl_invV (M' := m_St_requireSite) (d' := d - 1) (ck' := 1) (sk' := 6) (na := 1) (as := [.int (zI (a))]) (st := []) d_St_swap_6 rfl hS rfl mw_St_69 ww_St_requireSite sw_St_requireSite nw_St cw_St_requireSite rfl rfl rfl (by decide +kernel) (by omega) (Nat.le_of_ble_eq_true rfl) (Nat.le_of_ble_eq_true rfl) ?_
  refine k_requireSite hl9 (by omega) hS hxi ⟨hd0, hd1, hd2, hd3, hd4⟩ ha hp (fun hin => ?_) (fun hin => hx2 h0 (fun q => hin q.1))
  show jl_AW _ _ _ _ _ 9 [some (.ref (x)), some (.int (zI (a))), some (.int (zI (b)))] [] n h _ _
  refine jl_aload_n d_St_swap_9 rfl rfl ?_
  refine jl_iload_n d_St_swap_10 rfl rfl ?_
  refine jl_invV (M' := m_St_requireSite) (d' := d - 1) (ck' := 1) (sk' := 6) (na := 1) (as := [.int (zI (b))]) (st := []) d_St_swap_11 rfl hS rfl mw_St_69 ww_St_requireSite sw_St_requireSite nw_St cw_St_requireSite rfl rfl rfl (by decide +kernel) (by omega) (Nat.le_of_ble_eq_true rfl) (Nat.le_of_ble_eq_true rfl) ?_
  refine k_requireSite hl9 (by omega) hS hxi ⟨hd0, hd1, hd2, hd3, hd4⟩ hb hp (fun hin2 => ?_) (fun hin2 => hx2 h0 (fun q => hin2 q.2))
  show jl_AW _ _ _ _ _ 14 [some (.ref (x)), some (.int (zI (a))), some (.int (zI (b)))] [] n h _ _
  refine jl_aload_n d_St_swap_14 rfl rfl ?_
  refine jg_5 (q := 0) d_St_swap_15 hS rfl (by decide) fw_St_12 ?_
  refine jl_iload_n d_St_swap_18 rfl rfl ?_
  refine jl_iload_n d_St_swap_19 rfl rfl ?_
  refine jl_invV (M' := m_Dr_swapLandings) (d' := d - 1) (ck' := 0) (sk' := 0) (na := 2) (as := [.int (zI (a)), .int (zI (b))]) (st := []) d_St_swap_20 rfl hd0 rfl mw_St_123 ww_Dr_swapLandings sw_Dr_swapLandings nw_Dr cw_Dr_swapLandings rfl rfl rfl (by decide +kernel) (by omega) (Nat.le_of_ble_eq_true rfl) (Nat.le_of_ble_eq_true rfl) ?_
  refine k_D_swapLandings hl9 (by omega) ⟨hd0, hd1, hd2, hd3, hd4⟩ ok hin hin2 (fun hno => ?_) (fun hyes h2 hD2 hf2 => ?_)
  · show jl_AW _ _ _ _ _ 23 [some (.ref (x)), some (.int (zI (a))), some (.int (zI (b)))] [.int (zI (0))] n h _ _
    exact jl_zret d_St_swap_23 rfl (by decide) (hk0 h0 hin hin2 hno)
  · show jl_AW _ _ _ _ _ 23 [some (.ref (x)), some (.int (zI (a))), some (.int (zI (b)))] [.int (zI (1))] n h2 _ _
    exact jl_zret d_St_swap_23 rfl (by decide) (hk1 h0 hin hin2 hyes h2 hD2 hf2)
set_option maxHeartbeats 4000000 in
set_option maxRecDepth 100000 in
theorem k_canonical {l : Launch} {G : jl_G} {d n : Nat} {h : Nat → va_E} {Kr : Option Value → Nat → (Nat → va_E) → Prop} {Kx : String → Nat → (Nat → va_E) → Prop} (hl9 : l.stackTraces = false) (hdd : 4 ≤ d) {x sh jo co cy sg : Nat} {i : Nat} {m p : Int} {hs cs xs sc : Nat → Int} (hS : h x = jO 5 [.ref (i), .ref (sh), .ref (jo), .ref (co), .ref (cy), .ref (sg)]) (hxi : x < i ∨ i + 5 ≤ x) (hD : jD h i m p hs cs xs sc) (ok : jOk m p hs cs xs) (hk : m = 0 → ∀ h' g, jD h' i m p (rt p (sp_lr p hs (p - 1).toNat) hs p.toNat) cs (jfill p.toNat 0 xs) g → jfr h h' i (i + 5) → Kr (some (.int (zI (sp_lr p hs (p - 1).toNat)))) n h') (hx1 : ¬ m = 0 → Kx "java/lang/IllegalStateException" n h) : jl_Call l G m_St_canonical d [.ref (x)] n h 1 6 Kr Kx := by
  refine jl_enter hl9 (by decide) rfl (by simp [Value.category]) (Nat.le_of_ble_eq_true rfl) ?_
  show jl_AW l G (jl_F G Kr Kx) m_St_canonical d 0 [some (.ref (x)), none] [] n h 1 6
  obtain ⟨hd0, hd1, hd2, hd3, hd4⟩ := hD
  have hp := ok.2.1
  have hr9 := sp_lr_rg p hs (p - 1).toNat
  refine jl_aload_n d_St_canonical_0 rfl rfl ?_
  refine jl_invV (M' := m_St_requirePlain) (d' := d - 1) (ck' := 1) (sk' := 6) (na := 0) (as := []) (st := []) d_St_canonical_1 rfl hS rfl mw_St_117 ww_St_requirePlain sw_St_requirePlain nw_St cw_St_requirePlain rfl rfl rfl (by decide +kernel) (by omega) (Nat.le_of_ble_eq_true rfl) (Nat.le_of_ble_eq_true rfl) ?_
  refine k_requirePlain hl9 (by omega) hS hxi ⟨hd0, hd1, hd2, hd3, hd4⟩ ok.1 (fun h0 => ?_) (fun h0 => hx1 h0)
  show jl_AW _ _ _ _ _ 4 [some (.ref (x)), none] [] n h _ _
  refine jl_aload_n d_St_canonical_4 rfl rfl ?_
  refine jg_5 (q := 0) d_St_canonical_5 hS rfl (by decide) fw_St_12 ?_
  refine jl_invV (M' := m_Dr_leastRotation) (d' := d - 1) (ck' := 0) (sk' := 0) (na := 0) (as := []) (st := []) d_St_canonical_8 rfl hd0 rfl mw_St_127 ww_Dr_leastRotation sw_Dr_leastRotation nw_Dr cw_Dr_leastRotation rfl rfl rfl (by decide +kernel) (by omega) (Nat.le_of_ble_eq_true rfl) (Nat.le_of_ble_eq_true rfl) ?_
  refine k_D_leastRotation hl9 (by omega) ⟨hd0, hd1, hd2, hd3, hd4⟩ ok ?_
  show jl_AW _ _ _ _ _ 11 [some (.ref (x)), none] [.int (zI (sp_lr p hs (p - 1).toNat))] n h _ _
  refine jl_istore_n (L' := [some (.ref (x)), some (.int (zI (sp_lr p hs (p - 1).toNat)))]) d_St_canonical_11 rfl (by decide) rfl ?_
  refine jl_aload_n d_St_canonical_12 rfl rfl ?_
  refine jg_5 (q := 0) d_St_canonical_13 hS rfl (by decide) fw_St_12 ?_
  refine jl_iload_n d_St_canonical_16 rfl rfl ?_
  refine jl_invV (M' := m_Dr_rotateTo) (d' := d - 1) (ck' := 0) (sk' := 0) (na := 1) (as := [.int (zI (sp_lr p hs (p - 1).toNat))]) (st := []) d_St_canonical_17 rfl hd0 rfl mw_St_130 ww_Dr_rotateTo sw_Dr_rotateTo nw_Dr cw_Dr_rotateTo rfl rfl rfl (by decide +kernel) (by omega) (Nat.le_of_ble_eq_true rfl) (Nat.le_of_ble_eq_true rfl) ?_
  refine k_D_rotateTo hl9 (by omega) ⟨hd0, hd1, hd2, hd3, hd4⟩ ok ⟨by omega, by omega⟩ (fun h2 g hD2 hf2 => ?_)
  show jl_AW _ _ _ _ _ 20 [some (.ref (x)), some (.int (zI (sp_lr p hs (p - 1).toNat)))] [] n h2 _ _
  refine jl_iload_n d_St_canonical_20 rfl rfl ?_
  exact jl_iret d_St_canonical_21 rfl (hk h0 h2 g hD2 hf2)
set_option maxHeartbeats 4000000 in
set_option maxRecDepth 100000 in
theorem k_height {l : Launch} {G : jl_G} {d n : Nat} {h : Nat → va_E} {Kr : Option Value → Nat → (Nat → va_E) → Prop} {Kx : String → Nat → (Nat → va_E) → Prop} (hl9 : l.stackTraces = false) (hdd : 2 ≤ d) {x sh jo co cy sg : Nat} {i : Nat} {m p : Int} {hs cs xs sc : Nat → Int} {a b : Int} (hS : h x = jO 5 [.ref (i), .ref (sh), .ref (jo), .ref (co), .ref (cy), .ref (sg)]) (hxi : x < i ∨ i + 5 ≤ x) (hD : jD h i m p hs cs xs sc) (ok : jOk m p hs cs xs) (ha : zR a) (hb : zR b) (hk : 0 ≤ a ∧ a < p → 0 ≤ b ∧ b < cs (a).toNat → Kr (some (.int (zI (hs (a * 3 + b).toNat + xs (a).toNat)))) n h) (hx1 : ¬ ((0 ≤ a ∧ a < p) ∧ (0 ≤ b ∧ b < cs (a).toNat)) → Kx "java/lang/IndexOutOfBoundsException" n h) : jl_Call l G m_St_height d [.ref (x), .int (zI (a)), .int (zI (b))] n h 2 12 Kr Kx := by
  refine jl_enter hl9 (by decide) rfl (by simp [Value.category]) (Nat.le_of_ble_eq_true rfl) ?_
  show jl_AW l G (jl_F G Kr Kx) m_St_height d 0 [some (.ref (x)), some (.int (zI (a))), some (.int (zI (b)))] [] n h 2 12
  obtain ⟨hd0, hd1, hd2, hd3, hd4⟩ := hD
  have hp := ok.2.1
  refine jl_aload_n d_St_height_0 rfl rfl ?_
  refine jl_iload_n d_St_height_1 rfl rfl ?_
  refine jl_invV (M' := m_St_requireSite) (d' := d - 1) (ck' := 1) (sk' := 6) (na := 1) (as := [.int (zI (a))]) (st := []) d_St_height_2 rfl hS rfl mw_St_69 ww_St_requireSite sw_St_requireSite nw_St cw_St_requireSite rfl rfl rfl (by decide +kernel) (by omega) (Nat.le_of_ble_eq_true rfl) (Nat.le_of_ble_eq_true rfl) ?_
  refine k_requireSite hl9 (by omega) hS hxi ⟨hd0, hd1, hd2, hd3, hd4⟩ ha hp (fun hin => ?_) (fun hin => hx1 (fun q => hin q.1))
  show jl_AW _ _ _ _ _ 5 [some (.ref (x)), some (.int (zI (a))), some (.int (zI (b)))] [] n h _ _
  have hc9 := ok.2.2.2.1 a.toNat
  refine jl_iload_n d_St_height_5 rfl rfl ?_
  refine jz_if_lt (tgt := 21) d_St_height_6 (by decide) ⟨by omega, by omega⟩ (fun q1 => ?_) (fun q1 => ?_)
  · exact jl_throw (B := []) (text := "no such throw") d_St_height_21 d_St_height_24 d_St_height_25 d_St_height_27 d_St_height_30 rfl (by decide) (by decide) kw_St_133 xw_IOE zw_St_135 tw_137.1 tw_137.2.1 (tg_137_133) (by decide) (Nat.le_of_ble_eq_true rfl) (hx1 (by omega))
  · refine jl_iload_n d_St_height_9 rfl rfl ?_
    refine jl_aload_n d_St_height_10 rfl rfl ?_
    refine jg_5 (q := 0) d_St_height_11 hS rfl (by decide) fw_St_12 ?_
    refine jl_iload_n d_St_height_14 rfl rfl ?_
    refine jl_invV (M' := m_Dr_throwsOf) (d' := d - 1) (ck' := 0) (sk' := 0) (na := 1) (as := [.int (zI (a))]) (st := [.int (zI (b))]) d_St_height_15 rfl hd0 rfl mw_St_94 ww_Dr_throwsOf sw_Dr_throwsOf nw_Dr cw_Dr_throwsOf rfl rfl rfl (by decide +kernel) (by omega) (Nat.le_of_ble_eq_true rfl) (Nat.le_of_ble_eq_true rfl) ?_
    refine k_D_throwsOf hl9 (by omega) ⟨hd0, hd1, hd2, hd3, hd4⟩ ⟨by omega, by omega⟩ ?_
    show jl_AW _ _ _ _ _ 18 [some (.ref (x)), some (.int (zI (a))), some (.int (zI (b)))] [.int (zI (cs (a).toNat)), .int (zI (b))] n h _ _
    refine jz_icmp_lt (tgt := 31) d_St_height_18 (by decide) ⟨by omega, by omega⟩ ⟨by omega, by omega⟩ (fun q2 => ?_) (fun q2 => ?_)
    · refine jl_aload_n d_St_height_31 rfl rfl ?_
      refine jg_5 (q := 0) d_St_height_32 hS rfl (by decide) fw_St_12 ?_
      refine jl_iload_n d_St_height_35 rfl rfl ?_
      refine jl_iload_n d_St_height_36 rfl rfl ?_
      refine jl_invV (M' := m_Dr_heightOf) (d' := d - 1) (ck' := 0) (sk' := 0) (na := 2) (as := [.int (zI (a)), .int (zI (b))]) (st := []) d_St_height_37 rfl hd0 rfl mw_St_138 ww_Dr_heightOf sw_Dr_heightOf nw_Dr cw_Dr_heightOf rfl rfl rfl (by decide +kernel) (by omega) (Nat.le_of_ble_eq_true rfl) (Nat.le_of_ble_eq_true rfl) ?_
      refine k_D_heightOf hl9 (by omega) ⟨hd0, hd1, hd2, hd3, hd4⟩ ⟨by omega, by omega⟩ ⟨by omega, by omega⟩ ?_
      show jl_AW _ _ _ _ _ 40 [some (.ref (x)), some (.int (zI (a))), some (.int (zI (b)))] [.int (zI (hs (a * 3 + b).toNat))] n h _ _
      refine jl_aload_n d_St_height_40 rfl rfl ?_
      refine jg_5 (q := 0) d_St_height_41 hS rfl (by decide) fw_St_12 ?_
      refine jl_iload_n d_St_height_44 rfl rfl ?_
      refine jl_invV (M' := m_Dr_crossingOf) (d' := d - 1) (ck' := 0) (sk' := 0) (na := 1) (as := [.int (zI (a))]) (st := [.int (zI (hs (a * 3 + b).toNat))]) d_St_height_45 rfl hd0 rfl mw_St_141 ww_Dr_crossingOf sw_Dr_crossingOf nw_Dr cw_Dr_crossingOf rfl rfl rfl (by decide +kernel) (by omega) (Nat.le_of_ble_eq_true rfl) (Nat.le_of_ble_eq_true rfl) ?_
      refine k_D_crossingOf hl9 (by omega) ⟨hd0, hd1, hd2, hd3, hd4⟩ ⟨by omega, by omega⟩ ?_
      show jl_AW _ _ _ _ _ 48 [some (.ref (x)), some (.int (zI (a))), some (.int (zI (b)))] [.int (zI (xs (a).toNat)), .int (zI (hs (a * 3 + b).toNat))] n h _ _
      refine jz_iadd (v := hs (a * 3 + b).toNat + xs (a).toNat) d_St_height_48 (by omega) ?_
      exact jl_iret d_St_height_49 rfl (hk hin (by omega))
    · exact jl_throw (B := []) (text := "no such throw") d_St_height_21 d_St_height_24 d_St_height_25 d_St_height_27 d_St_height_30 rfl (by decide) (by decide) kw_St_133 xw_IOE zw_St_135 tw_137.1 tw_137.2.1 (tg_137_133) (by decide) (Nat.le_of_ble_eq_true rfl) (hx1 (by omega))
