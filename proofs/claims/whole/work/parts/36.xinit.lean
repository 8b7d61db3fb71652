set_option maxHeartbeats 4000000 in
set_option maxRecDepth 100000 in
theorem k_X_init {l : Launch} {G : jl_G} {d i : Nat} {h : Nat → va_E} {Kr : Option Value → Nat → (Nat → va_E) → Prop} {Kx : String → Nat → (Nat → va_E) → Prop} (hl9 : l.stackTraces = false) (hdd : 5 ≤ d) (h0 : h i = jO 5 [.null, .null, .null, .null, .null, .null]) (hk : ∀ h', (h' i = jO 5 [.ref (i + 1), .ref (i + 6), .ref (i + 7), .ref (i + 11), .ref (i + 13), .ref (i + 19)] ∧ jD h' (i + 1) 0 1 (fun _ => 0) (va_up (fun _ => 0) (0 : Int).toNat 1) (fun _ => 0) (fun _ => 0) ∧ h' (i + 6) = jQ 2 6 (fun _ => none) ∧ jJt h' (i + 7) (fun _ => 0) (fun _ => 0) (fun _ => 0) 0 0 0 0 0 ∧ (h' (i + 11) = jO 0 [.ref (i + 12)] ∧ h' (i + 12) = jI 3520 (fun _ => zI 0)) ∧ (h' (i + 13) = jO 1 [.ref (i + 14), .int (zI 0)] ∧ jD h' (i + 14) 0 1 (fun _ => 0) (va_up (fun _ => 0) (0 : Int).toNat 1) (fun _ => 0) (fun _ => 0)) ∧ jFl h' (i + 19) 0 0 [] (fun _ => 0) ∧ jD h' (i + 20) 0 1 (fun _ => 0) (va_up (fun _ => 0) (0 : Int).toNat 1) (fun _ => 0) (fun _ => 0)) → (∀ y, y < i → h' y = h y) → Kr none (i + 28) h') : jl_Call l G m_St_init d [.ref i] (i + 1) h 27 5442 Kr Kx := by
  refine jl_enter hl9 (by decide) rfl (by simp [Value.category]) (Nat.le_of_ble_eq_true rfl) ?_
  show jl_AW l G (jl_F G Kr Kx) m_St_init d 0 [some (.ref (i))] [] (i + 1) h 27 5442
  refine jl_aload_n d_St_init_0 rfl rfl ?_
  refine jl_objInit d_St_init_1 ow_St_3 ow_1 ow_2 (Nat.le_of_ble_eq_true rfl) ?_
  refine jl_aload_n d_St_init_4 rfl rfl ?_
  refine jl_new (ci := 2) (fs := [.null, .null, .null, .null, .int (zI (0)), .int (zI (0))]) d_St_init_5 rfl ij_Dr tk_Dr (fun j hj => by rcases (show j = 0 ∨ j = 1 ∨ j = 2 ∨ j = 3 ∨ j = 4 ∨ j = 5 by omega) with rfl | rfl | rfl | rfl | rfl | rfl <;> rfl) (fun _ _ => rfl) (by simp [jl_okv]) kw_St_9 vw_Dr nw_Dr ?_
  obtain ⟨h1, eh1⟩ : ∃ z, z = va_up h (i + 1) (jO 2 [.null, .null, .null, .null, .int (zI (0)), .int (zI (0))]) := ⟨_, rfl⟩
  rw [← eh1]
  have jf2 : h1 (i + 1) = jO 2 [.null, .null, .null, .null, .int (zI (0)), .int (zI (0))] := by rw [eh1, va_up_self]
  have kf3 : h1 (i) = jO 5 [.null, .null, .null, .null, .null, .null] := by rw [eh1, va_up_ne _ _ (by omega)]; exact h0
  refine jl_dup d_St_init_8 rfl ?_
  refine jl_invI0 (M' := m_Dr_init) (d' := d - 1) (ck' := 4) (sk' := 96) (na := 0) (as := []) (st := [.ref (i + 1), .ref (i)]) d_St_init_9 rfl mw_St_11 ww_Dr_init rfl nw_Dr cw_Dr_init rfl rfl rfl (by decide +kernel) (by omega) (Nat.le_of_ble_eq_true rfl) (Nat.le_of_ble_eq_true rfl) ?_
  refine k_D_init (i := i + 1) hl9 jf2 (fun hd4 Phd4 fhd4 => ?_)
  show jl_AW _ _ _ _ _ 12 [some (.ref (i))] [.ref (i + 1), .ref (i)] (i + 6) hd4 _ _
  have kf5 : hd4 (i) = jO 5 [.null, .null, .null, .null, .null, .null] := by rw [fhd4 _ (by omega)]; exact kf3
  refine jpf_5 (q := 0) (ty := (.object "SiteswapStudio$Draft")) d_St_init_12 kf5 (by simp) (by decide) fw_St_12 rfl rfl rfl (by decide +kernel) (fun _ _ => rfl) (fun _ _ => rfl) (fun h6 eh6 => ?_)
  have eh6 : h6 = va_up hd4 (i) (jO 5 [.ref (i + 1), .null, .null, .null, .null, .null]) := eh6
  have jf7 : h6 (i) = jO 5 [.ref (i + 1), .null, .null, .null, .null, .null] := by rw [eh6, va_up_self]
  have fr8 : ∀ y, y < i + 1 → y ≠ i → h6 y = h y := fun y q1 q2 => by rw [eh6, va_up_ne _ _ q2, fhd4 y q1, eh1, va_up_ne _ _ (by omega)]
  have D1 : jD h6 (i + 1) 0 1 (fun _ => 0) (va_up (fun _ => 0) (0 : Int).toNat 1) (fun _ => 0) (fun _ => 0) := jD_fr (fun y q1 q2 => by rw [eh6, va_up_ne _ _ (by omega)]) Phd4
  refine jl_aload_n d_St_init_15 rfl rfl ?_
  refine jl_bipush (v := zI (6)) d_St_init_16 (by decide) ?_
  refine jl_anew (t := 2) (N' := 6) d_St_init_18 rfl kw_St_9 (by decide +kernel) (by decide) (by decide) (by decide) ?_
  obtain ⟨h9, eh9⟩ : ∃ z, z = va_up h6 (i + 6) (jQ 2 6 (fun _ => none)) := ⟨_, rfl⟩
  rw [← eh9]
  have kf10 : h9 (i) = jO 5 [.ref (i + 1), .null, .null, .null, .null, .null] := by rw [eh9, va_up_ne _ _ (by omega)]; exact jf7
  refine jpf_5 (q := 1) (ty := (.array (.object "SiteswapStudio$Draft"))) d_St_init_21 kf10 (by simp) (by decide) fw_St_16 rfl rfl rfl (by decide +kernel) (fun _ _ => rfl) (fun _ _ => rfl) (fun h11 eh11 => ?_)
  have eh11 : h11 = va_up h9 (i) (jO 5 [.ref (i + 1), .ref (i + 6), .null, .null, .null, .null]) := eh11
  have jf12 : h11 (i) = jO 5 [.ref (i + 1), .ref (i + 6), .null, .null, .null, .null] := by rw [eh11, va_up_self]
  have fr13 : ∀ y, y < i + 6 → y ≠ i → h11 y = h6 y := fun y q1 q2 => by rw [eh11, va_up_ne _ _ q2, eh9, va_up_ne _ _ (by omega)]
  have D2 : h11 (i + 6) = jQ 2 6 (fun _ => none) := by rw [eh11, va_up_ne _ _ (by omega), eh9, va_up_self]
  refine jl_aload_n d_St_init_24 rfl rfl ?_
  refine jl_new (ci := 3) (fs := [.null, .null, .null, .int (zI (0)), .int (zI (0)), .int (zI (0)), .int (zI (0)), .int (zI (0))]) d_St_init_25 rfl ij_Jo tk_Jo (fun j hj => by rcases (show j = 0 ∨ j = 1 ∨ j = 2 ∨ j = 3 ∨ j = 4 ∨ j = 5 ∨ j = 6 ∨ j = 7 by omega) with rfl | rfl | rfl | rfl | rfl | rfl | rfl | rfl <;> rfl) (fun _ _ => rfl) (by simp [jl_okv]) kw_St_20 vw_Jo nw_Jo ?_
  obtain ⟨h14, eh14⟩ : ∃ z, z = va_up h11 (i + 7) (jO 3 [.null, .null, .null, .int (zI (0)), .int (zI (0)), .int (zI (0)), .int (zI (0)), .int (zI (0))]) := ⟨_, rfl⟩
  rw [← eh14]
  have jf15 : h14 (i + 7) = jO 3 [.null, .null, .null, .int (zI (0)), .int (zI (0)), .int (zI (0)), .int (zI (0)), .int (zI (0))] := by rw [eh14, va_up_self]
  have kf16 : h14 (i) = jO 5 [.ref (i + 1), .ref (i + 6), .null, .null, .null, .null] := by rw [eh14, va_up_ne _ _ (by omega)]; exact jf12
  refine jl_dup d_St_init_28 rfl ?_
  refine jl_invIN0 (M' := m_Jo_init) (d' := d - 1) (ck' := 3) (sk' := 1536) (na := 0) (as := []) (st := [.ref (i + 7), .ref (i)]) d_St_init_29 rfl mw_St_22 ww_Jo_init rfl nw_Jo cw_Jo_init rfl rfl rfl (by decide +kernel) (by omega) (Nat.le_of_ble_eq_true rfl) (Nat.le_of_ble_eq_true rfl) ?_
  refine k_J_init (i := i + 7) hl9 (by omega) jf15 (fun hd17 Phd17 fhd17 => ?_)
  show jl_AW _ _ _ _ _ 32 [some (.ref (i))] [.ref (i + 7), .ref (i)] (i + 11) hd17 _ _
  have kf18 : hd17 (i) = jO 5 [.ref (i + 1), .ref (i + 6), .null, .null, .null, .null] := by rw [fhd17 _ (by omega)]; exact kf16
  refine jpf_5 (q := 2) (ty := (.object "SiteswapStudio$Joint")) d_St_init_32 kf18 (by simp) (by decide) fw_St_23 rfl rfl rfl (by decide +kernel) (fun _ _ => rfl) (fun _ _ => rfl) (fun h19 eh19 => ?_)
  have eh19 : h19 = va_up hd17 (i) (jO 5 [.ref (i + 1), .ref (i + 6), .ref (i + 7), .null, .null, .null]) := eh19
  have jf20 : h19 (i) = jO 5 [.ref (i + 1), .ref (i + 6), .ref (i + 7), .null, .null, .null] := by rw [eh19, va_up_self]
  have fr21 : ∀ y, y < i + 7 → y ≠ i → h19 y = h11 y := fun y q1 q2 => by rw [eh19, va_up_ne _ _ q2, fhd17 y q1, eh14, va_up_ne _ _ (by omega)]
  have D3 : jJt h19 (i + 7) (fun _ => 0) (fun _ => 0) (fun _ => 0) 0 0 0 0 0 := ⟨by rw [eh19, va_up_ne _ _ (by omega)]; exact Phd17.1, by rw [eh19, va_up_ne _ _ (by omega)]; exact Phd17.2.1, by rw [eh19, va_up_ne _ _ (by omega)]; exact Phd17.2.2.1, by rw [eh19, va_up_ne _ _ (by omega)]; exact Phd17.2.2.2⟩
  refine jl_aload_n d_St_init_35 rfl rfl ?_
  refine jl_new (ci := 0) (fs := [.null]) d_St_init_36 rfl ij_Cn tk_Cn (fun j hj => by rcases (show j = 0 by omega) with rfl <;> rfl) (fun _ _ => rfl) (by simp [jl_okv]) kw_St_27 vw_Cn nw_Cn ?_
  obtain ⟨h22, eh22⟩ : ∃ z, z = va_up h19 (i + 11) (jO 0 [.null]) := ⟨_, rfl⟩
  rw [← eh22]
  have jf23 : h22 (i + 11) = jO 0 [.null] := by rw [eh22, va_up_self]
  have kf24 : h22 (i) = jO 5 [.ref (i + 1), .ref (i + 6), .ref (i + 7), .null, .null, .null] := by rw [eh22, va_up_ne _ _ (by omega)]; exact jf20
  refine jl_dup d_St_init_39 rfl ?_
  refine jl_invIN0 (M' := m_Cn_init) (d' := d - 1) (ck' := 1) (sk' := 3520) (na := 0) (as := []) (st := [.ref (i + 11), .ref (i)]) d_St_init_40 rfl mw_St_29 ww_Cn_init rfl nw_Cn cw_Cn_init rfl rfl rfl (by decide +kernel) (by omega) (Nat.le_of_ble_eq_true rfl) (Nat.le_of_ble_eq_true rfl) ?_
  refine k_N_init (i := i + 11) hl9 (by omega) jf23 (fun hd25 Phd25 fhd25 => ?_)
  show jl_AW _ _ _ _ _ 43 [some (.ref (i))] [.ref (i + 11), .ref (i)] (i + 13) hd25 _ _
  have kf26 : hd25 (i) = jO 5 [.ref (i + 1), .ref (i + 6), .ref (i + 7), .null, .null, .null] := by rw [fhd25 _ (by omega)]; exact kf24
  refine jpf_5 (q := 3) (ty := (.object "SiteswapStudio$Counter")) d_St_init_43 kf26 (by simp) (by decide) fw_St_30 rfl rfl rfl (by decide +kernel) (fun _ _ => rfl) (fun _ _ => rfl) (fun h27 eh27 => ?_)
  have eh27 : h27 = va_up hd25 (i) (jO 5 [.ref (i + 1), .ref (i + 6), .ref (i + 7), .ref (i + 11), .null, .null]) := eh27
  have jf28 : h27 (i) = jO 5 [.ref (i + 1), .ref (i + 6), .ref (i + 7), .ref (i + 11), .null, .null] := by rw [eh27, va_up_self]
  have fr29 : ∀ y, y < i + 11 → y ≠ i → h27 y = h19 y := fun y q1 q2 => by rw [eh27, va_up_ne _ _ q2, fhd25 y q1, eh22, va_up_ne _ _ (by omega)]
  have D4 : h27 (i + 11) = jO 0 [.ref (i + 12)] ∧ h27 (i + 12) = jI 3520 (fun _ => zI 0) := ⟨by rw [eh27, va_up_ne _ _ (by omega)]; exact Phd25.1, by rw [eh27, va_up_ne _ _ (by omega)]; exact Phd25.2⟩
  refine jl_aload_n d_St_init_46 rfl rfl ?_
  refine jl_new (ci := 1) (fs := [.null, .int (zI (0))]) d_St_init_47 rfl ij_Cy tk_Cy (fun j hj => by rcases (show j = 0 ∨ j = 1 by omega) with rfl | rfl <;> rfl) (fun _ _ => rfl) (by simp [jl_okv]) kw_St_34 vw_Cy nw_Cy ?_
  obtain ⟨h30, eh30⟩ : ∃ z, z = va_up h27 (i + 13) (jO 1 [.null, .int (zI (0))]) := ⟨_, rfl⟩
  rw [← eh30]
  have jf31 : h30 (i + 13) = jO 1 [.null, .int (zI (0))] := by rw [eh30, va_up_self]
  have kf32 : h30 (i) = jO 5 [.ref (i + 1), .ref (i + 6), .ref (i + 7), .ref (i + 11), .null, .null] := by rw [eh30, va_up_ne _ _ (by omega)]; exact jf28
  refine jl_dup d_St_init_50 rfl ?_
  refine jl_invIN0 (M' := m_Cy_init) (d' := d - 1) (ck' := 5) (sk' := 102) (na := 0) (as := []) (st := [.ref (i + 13), .ref (i)]) d_St_init_51 rfl mw_St_36 ww_Cy_init rfl nw_Cy cw_Cy_init rfl rfl rfl (by decide +kernel) (by omega) (Nat.le_of_ble_eq_true rfl) (Nat.le_of_ble_eq_true rfl) ?_
  refine k_C_init (i := i + 13) hl9 (by omega) jf31 (fun hd33 Phd33 fhd33 => ?_)
  show jl_AW _ _ _ _ _ 54 [some (.ref (i))] [.ref (i + 13), .ref (i)] (i + 19) hd33 _ _
  have kf34 : hd33 (i) = jO 5 [.ref (i + 1), .ref (i + 6), .ref (i + 7), .ref (i + 11), .null, .null] := by rw [fhd33 _ (by omega)]; exact kf32
  refine jpf_5 (q := 4) (ty := (.object "SiteswapStudio$CycleSearch")) d_St_init_54 kf34 (by simp) (by decide) fw_St_37 rfl rfl rfl (by decide +kernel) (fun _ _ => rfl) (fun _ _ => rfl) (fun h35 eh35 => ?_)
  have eh35 : h35 = va_up hd33 (i) (jO 5 [.ref (i + 1), .ref (i + 6), .ref (i + 7), .ref (i + 11), .ref (i + 13), .null]) := eh35
  have jf36 : h35 (i) = jO 5 [.ref (i + 1), .ref (i + 6), .ref (i + 7), .ref (i + 11), .ref (i + 13), .null] := by rw [eh35, va_up_self]
  have fr37 : ∀ y, y < i + 13 → y ≠ i → h35 y = h27 y := fun y q1 q2 => by rw [eh35, va_up_ne _ _ q2, fhd33 y q1, eh30, va_up_ne _ _ (by omega)]
  have D5 : h35 (i + 13) = jO 1 [.ref (i + 14), .int (zI 0)] ∧ jD h35 (i + 14) 0 1 (fun _ => 0) (va_up (fun _ => 0) (0 : Int).toNat 1) (fun _ => 0) (fun _ => 0) := ⟨by rw [eh35, va_up_ne _ _ (by omega)]; exact Phd33.1, jD_fr (fun y q1 q2 => by rw [eh35, va_up_ne _ _ (by omega)]) Phd33.2⟩
  refine jl_aload_n d_St_init_57 rfl rfl ?_
  refine jl_new (ci := 4) (fs := [.null, .null, .null, .null, .int (zI (0)), .int (zI (0)), .int (zI (0))]) d_St_init_58 rfl ij_Sg tk_Sg (fun j hj => by rcases (show j = 0 ∨ j = 1 ∨ j = 2 ∨ j = 3 ∨ j = 4 ∨ j = 5 ∨ j = 6 by omega) with rfl | rfl | rfl | rfl | rfl | rfl | rfl <;> rfl) (fun _ _ => rfl) (by simp [jl_okv]) kw_St_41 vw_Sg nw_Sg ?_
  obtain ⟨h38, eh38⟩ : ∃ z, z = va_up h35 (i + 19) (jO 4 [.null, .null, .null, .null, .int (zI (0)), .int (zI (0)), .int (zI (0))]) := ⟨_, rfl⟩
  rw [← eh38]
  have jf39 : h38 (i + 19) = jO 4 [.null, .null, .null, .null, .int (zI (0)), .int (zI (0)), .int (zI (0))] := by rw [eh38, va_up_self]
  have kf40 : h38 (i) = jO 5 [.ref (i + 1), .ref (i + 6), .ref (i + 7), .ref (i + 11), .ref (i + 13), .null] := by rw [eh38, va_up_ne _ _ (by omega)]; exact jf36
  refine jl_dup d_St_init_61 rfl ?_
  refine jl_invIN0 (M' := m_Sg_init) (d' := d - 1) (ck' := 8) (sk' := 158) (na := 0) (as := []) (st := [.ref (i + 19), .ref (i)]) d_St_init_62 rfl mw_St_43 ww_Sg_init rfl nw_Sg cw_Sg_init rfl rfl rfl (by decide +kernel) (by omega) (Nat.le_of_ble_eq_true rfl) (Nat.le_of_ble_eq_true rfl) ?_
  refine k_G_init (i := i + 19) hl9 (by omega) jf39 (fun hd41 Phd41 fhd41 => ?_)
  show jl_AW _ _ _ _ _ 65 [some (.ref (i))] [.ref (i + 19), .ref (i)] (i + 28) hd41 _ _
  have kf42 : hd41 (i) = jO 5 [.ref (i + 1), .ref (i + 6), .ref (i + 7), .ref (i + 11), .ref (i + 13), .null] := by rw [fhd41 _ (by omega)]; exact kf40
  refine jpf_5 (q := 5) (ty := (.object "SiteswapStudio$Stage")) d_St_init_65 kf42 (by simp) (by decide) fw_St_44 rfl rfl rfl (by decide +kernel) (fun _ _ => rfl) (fun _ _ => rfl) (fun h43 eh43 => ?_)
  have eh43 : h43 = va_up hd41 (i) (jO 5 [.ref (i + 1), .ref (i + 6), .ref (i + 7), .ref (i + 11), .ref (i + 13), .ref (i + 19)]) := eh43
  have jf44 : h43 (i) = jO 5 [.ref (i + 1), .ref (i + 6), .ref (i + 7), .ref (i + 11), .ref (i + 13), .ref (i + 19)] := by rw [eh43, va_up_self]
  have fr45 : ∀ y, y < i + 19 → y ≠ i → h43 y = h35 y := fun y q1 q2 => by rw [eh43, va_up_ne _ _ q2, fhd41 y q1, eh38, va_up_ne _ _ (by omega)]
  have D6 : jFl h43 (i + 19) 0 0 [] (fun _ => 0) ∧ jD h43 (i + 20) 0 1 (fun _ => 0) (va_up (fun _ => 0) (0 : Int).toNat 1) (fun _ => 0) (fun _ => 0) := ⟨jFl_fr (fun y q1 => by rw [eh43, va_up_ne _ _ (by omega)]) Phd41.1, jD_fr (fun y q1 q2 => by rw [eh43, va_up_ne _ _ (by omega)]) Phd41.2⟩
  refine jl_vret d_St_init_68 rfl (hk _ ⟨jf44, jD_fr (fun y q1 q2 => by rw [fr45 _ (by omega) (by omega), fr37 _ (by omega) (by omega), fr29 _ (by omega) (by omega), fr21 _ (by omega) (by omega), fr13 _ (by omega) (by omega)]) D1, by rw [fr45 _ (by omega) (by omega), fr37 _ (by omega) (by omega), fr29 _ (by omega) (by omega), fr21 _ (by omega) (by omega)]; exact D2, ⟨by rw [fr45 _ (by omega) (by omega), fr37 _ (by omega) (by omega), fr29 _ (by omega) (by omega)]; exact D3.1, by rw [fr45 _ (by omega) (by omega), fr37 _ (by omega) (by omega), fr29 _ (by omega) (by omega)]; exact D3.2.1, by rw [fr45 _ (by omega) (by omega), fr37 _ (by omega) (by omega), fr29 _ (by omega) (by omega)]; exact D3.2.2.1, by rw [fr45 _ (by omega) (by omega), fr37 _ (by omega) (by omega), fr29 _ (by omega) (by omega)]; exact D3.2.2.2⟩, ⟨by rw [fr45 _ (by omega) (by omega), fr37 _ (by omega) (by omega)]; exact D4.1, by rw [fr45 _ (by omega) (by omega), fr37 _ (by omega) (by omega)]; exact D4.2⟩, ⟨by rw [fr45 _ (by omega) (by omega)]; exact D5.1, jD_fr (fun y q1 q2 => by rw [fr45 _ (by omega) (by omega)]) D5.2⟩, D6.1, D6.2⟩ (fun y hy => by rw [fr45 _ (by omega) (by omega), fr37 _ (by omega) (by omega), fr29 _ (by omega) (by omega), fr21 _ (by omega) (by omega), fr13 _ (by omega) (by omega), fr8 _ (by omega) (by omega)]))
