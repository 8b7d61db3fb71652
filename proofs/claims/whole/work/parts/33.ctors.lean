set_option maxHeartbeats 4000000 in
set_option maxRecDepth 100000 in
theorem k_J_init {l : Launch} {G : jl_G} {d i : Nat} {h : Nat → va_E} {Kr : Option Value → Nat → (Nat → va_E) → Prop} {Kx : String → Nat → (Nat → va_E) → Prop} (hl9 : l.stackTraces = false) (hdd : 3 ≤ d) (h0 : h i = jO 3 [.null, .null, .null, .int (zI (0)), .int (zI (0)), .int (zI (0)), .int (zI (0)), .int (zI (0))]) (hk : ∀ h', jJt h' i (fun _ => 0) (fun _ => 0) (fun _ => 0) 0 0 0 0 0 → (∀ y, y < i → h' y = h y) → Kr none (i + 4) h') : jl_Call l G m_Jo_init d [.ref i] (i + 1) h 3 1536 Kr Kx := by
  refine jl_enter hl9 (by decide) rfl (by simp [Value.category]) (Nat.le_of_ble_eq_true rfl) ?_
  show jl_AW l G (jl_F G Kr Kx) m_Jo_init d 0 [some (.ref (i))] [] (i + 1) h 3 1536
  refine jl_aload_n d_Jo_init_0 rfl rfl ?_
  refine jl_objInit d_Jo_init_1 ow_Jo_3 ow_1 ow_2 (Nat.le_of_ble_eq_true rfl) ?_
  refine jl_aload_n d_Jo_init_4 rfl rfl ?_
  refine jl_sipush (v := zI (512)) d_Jo_init_5 (by decide) ?_
  refine jz_newa (N' := 512) (by decide) d_Jo_init_8 aw_int (fun h1 eh1 => ?_)
  have eh1 : h1 = va_up h (i + 1) (jI 512 (fun j9 => zI ((fun _ => (0 : Int)) j9))) := eh1
  have jf2 : h1 (i + 1) = jI 512 (fun j9 => zI ((fun _ => (0 : Int)) j9)) := by rw [eh1, va_up_self]
  have jf3 : h1 (i) = jO 3 [.null, .null, .null, .int (zI (0)), .int (zI (0)), .int (zI (0)), .int (zI (0)), .int (zI (0))] := by rw [eh1, va_up_ne _ _ (by omega)]; exact h0
  refine jpf_3 (q := 0) (ty := (.array .int)) d_Jo_init_10 jf3 (by simp) (by decide) fw_Jo_9 rfl rfl rfl (by decide +kernel) (fun _ _ => rfl) (fun _ _ => rfl) (fun h4 eh4 => ?_)
  have eh4 : h4 = va_up h1 (i) (jO 3 [.ref (i + 1), .null, .null, .int (zI (0)), .int (zI (0)), .int (zI (0)), .int (zI (0)), .int (zI (0))]) := eh4
  have jf5 : h4 (i) = jO 3 [.ref (i + 1), .null, .null, .int (zI (0)), .int (zI (0)), .int (zI (0)), .int (zI (0)), .int (zI (0))] := by rw [eh4, va_up_self]
  refine jl_aload_n d_Jo_init_13 rfl rfl ?_
  refine jl_sipush (v := zI (512)) d_Jo_init_14 (by decide) ?_
  refine jz_newa (N' := 512) (by decide) d_Jo_init_17 aw_int (fun h6 eh6 => ?_)
  have eh6 : h6 = va_up h4 (i + 2) (jI 512 (fun j9 => zI ((fun _ => (0 : Int)) j9))) := eh6
  have jf7 : h6 (i + 2) = jI 512 (fun j9 => zI ((fun _ => (0 : Int)) j9)) := by rw [eh6, va_up_self]
  have jf8 : h6 (i) = jO 3 [.ref (i + 1), .null, .null, .int (zI (0)), .int (zI (0)), .int (zI (0)), .int (zI (0)), .int (zI (0))] := by rw [eh6, va_up_ne _ _ (by omega)]; exact jf5
  refine jpf_3 (q := 1) (ty := (.array .int)) d_Jo_init_19 jf8 (by simp) (by decide) fw_Jo_15 rfl rfl rfl (by decide +kernel) (fun _ _ => rfl) (fun _ _ => rfl) (fun h9 eh9 => ?_)
  have eh9 : h9 = va_up h6 (i) (jO 3 [.ref (i + 1), .ref (i + 2), .null, .int (zI (0)), .int (zI (0)), .int (zI (0)), .int (zI (0)), .int (zI (0))]) := eh9
  have jf10 : h9 (i) = jO 3 [.ref (i + 1), .ref (i + 2), .null, .int (zI (0)), .int (zI (0)), .int (zI (0)), .int (zI (0)), .int (zI (0))] := by rw [eh9, va_up_self]
  refine jl_aload_n d_Jo_init_22 rfl rfl ?_
  refine jl_sipush (v := zI (512)) d_Jo_init_23 (by decide) ?_
  refine jz_newa (N' := 512) (by decide) d_Jo_init_26 aw_int (fun h11 eh11 => ?_)
  have eh11 : h11 = va_up h9 (i + 3) (jI 512 (fun j9 => zI ((fun _ => (0 : Int)) j9))) := eh11
  have jf12 : h11 (i + 3) = jI 512 (fun j9 => zI ((fun _ => (0 : Int)) j9)) := by rw [eh11, va_up_self]
  have jf13 : h11 (i) = jO 3 [.ref (i + 1), .ref (i + 2), .null, .int (zI (0)), .int (zI (0)), .int (zI (0)), .int (zI (0)), .int (zI (0))] := by rw [eh11, va_up_ne _ _ (by omega)]; exact jf10
  refine jpf_3 (q := 2) (ty := (.array .int)) d_Jo_init_28 jf13 (by simp) (by decide) fw_Jo_18 rfl rfl rfl (by decide +kernel) (fun _ _ => rfl) (fun _ _ => rfl) (fun h14 eh14 => ?_)
  have eh14 : h14 = va_up h11 (i) (jO 3 [.ref (i + 1), .ref (i + 2), .ref (i + 3), .int (zI (0)), .int (zI (0)), .int (zI (0)), .int (zI (0)), .int (zI (0))]) := eh14
  have jf15 : h14 (i) = jO 3 [.ref (i + 1), .ref (i + 2), .ref (i + 3), .int (zI (0)), .int (zI (0)), .int (zI (0)), .int (zI (0)), .int (zI (0))] := by rw [eh14, va_up_self]
  have jf16 : h14 (i + 1) = jI 512 (fun j9 => zI ((fun _ => (0 : Int)) j9)) := by rw [eh14, va_up_ne _ _ (by omega), eh11, va_up_ne _ _ (by omega), eh9, va_up_ne _ _ (by omega), eh6, va_up_ne _ _ (by omega), eh4, va_up_ne _ _ (by omega)]; exact jf2
  have jf17 : h14 (i + 2) = jI 512 (fun j9 => zI ((fun _ => (0 : Int)) j9)) := by rw [eh14, va_up_ne _ _ (by omega), eh11, va_up_ne _ _ (by omega), eh9, va_up_ne _ _ (by omega)]; exact jf7
  have jf18 : h14 (i + 3) = jI 512 (fun j9 => zI ((fun _ => (0 : Int)) j9)) := by rw [eh14, va_up_ne _ _ (by omega)]; exact jf12
  exact jl_vret d_Jo_init_31 rfl (hk _ ⟨jf15, jf16, jf17, jf18⟩ (fun y hy => by rw [eh14, va_up_ne _ _ (by omega), eh11, va_up_ne _ _ (by omega), eh9, va_up_ne _ _ (by omega), eh6, va_up_ne _ _ (by omega), eh4, va_up_ne _ _ (by omega), eh1, va_up_ne _ _ (by omega)]))
set_option maxHeartbeats 4000000 in
set_option maxRecDepth 100000 in
theorem k_N_init {l : Launch} {G : jl_G} {d i : Nat} {h : Nat → va_E} {Kr : Option Value → Nat → (Nat → va_E) → Prop} {Kx : String → Nat → (Nat → va_E) → Prop} (hl9 : l.stackTraces = false) (hdd : 3 ≤ d) (h0 : h i = jO 0 [.null]) (hk : ∀ h', (h' i = jO 0 [.ref (i + 1)] ∧ h' (i + 1) = jI 3520 (fun _ => zI 0)) → (∀ y, y < i → h' y = h y) → Kr none (i + 2) h') : jl_Call l G m_Cn_init d [.ref i] (i + 1) h 1 3520 Kr Kx := by
  refine jl_enter hl9 (by decide) rfl (by simp [Value.category]) (Nat.le_of_ble_eq_true rfl) ?_
  show jl_AW l G (jl_F G Kr Kx) m_Cn_init d 0 [some (.ref (i))] [] (i + 1) h 1 3520
  refine jl_aload_n d_Cn_init_0 rfl rfl ?_
  refine jl_objInit d_Cn_init_1 ow_Cn_3 ow_1 ow_2 (Nat.le_of_ble_eq_true rfl) ?_
  refine jl_aload_n d_Cn_init_4 rfl rfl ?_
  refine jl_sipush (v := zI (3520)) d_Cn_init_5 (by decide) ?_
  refine jz_newa (N' := 3520) (by decide) d_Cn_init_8 aw_int (fun h1 eh1 => ?_)
  have eh1 : h1 = va_up h (i + 1) (jI 3520 (fun j9 => zI ((fun _ => (0 : Int)) j9))) := eh1
  have jf2 : h1 (i + 1) = jI 3520 (fun j9 => zI ((fun _ => (0 : Int)) j9)) := by rw [eh1, va_up_self]
  have jf3 : h1 (i) = jO 0 [.null] := by rw [eh1, va_up_ne _ _ (by omega)]; exact h0
  refine jpf_0 (q := 0) (ty := (.array .int)) d_Cn_init_10 jf3 (by simp) (by decide) fw_Cn_11 rfl rfl rfl (by decide +kernel) (fun _ _ => rfl) (fun _ _ => rfl) (fun h4 eh4 => ?_)
  have eh4 : h4 = va_up h1 (i) (jO 0 [.ref (i + 1)]) := eh4
  have jf5 : h4 (i) = jO 0 [.ref (i + 1)] := by rw [eh4, va_up_self]
  have jf6 : h4 (i + 1) = jI 3520 (fun j9 => zI ((fun _ => (0 : Int)) j9)) := by rw [eh4, va_up_ne _ _ (by omega)]; exact jf2
  exact jl_vret d_Cn_init_13 rfl (hk _ ⟨jf5, jf6⟩ (fun y hy => by rw [eh4, va_up_ne _ _ (by omega), eh1, va_up_ne _ _ (by omega)]))
set_option maxHeartbeats 4000000 in
set_option maxRecDepth 100000 in
theorem k_C_init {l : Launch} {G : jl_G} {d i : Nat} {h : Nat → va_E} {Kr : Option Value → Nat → (Nat → va_E) → Prop} {Kx : String → Nat → (Nat → va_E) → Prop} (hl9 : l.stackTraces = false) (hdd : 3 ≤ d) (h0 : h i = jO 1 [.null, .int (zI (0))]) (hk : ∀ h', (h' i = jO 1 [.ref (i + 1), .int (zI 0)] ∧ jD h' (i + 1) 0 1 (fun _ => 0) (va_up (fun _ => 0) (0 : Int).toNat 1) (fun _ => 0) (fun _ => 0)) → (∀ y, y < i → h' y = h y) → Kr none (i + 6) h') : jl_Call l G m_Cy_init d [.ref i] (i + 1) h 5 102 Kr Kx := by
  refine jl_enter hl9 (by decide) rfl (by simp [Value.category]) (Nat.le_of_ble_eq_true rfl) ?_
  show jl_AW l G (jl_F G Kr Kx) m_Cy_init d 0 [some (.ref (i))] [] (i + 1) h 5 102
  refine jl_aload_n d_Cy_init_0 rfl rfl ?_
  refine jl_objInit d_Cy_init_1 ow_Cy_3 ow_1 ow_2 (Nat.le_of_ble_eq_true rfl) ?_
  refine jl_aload_n d_Cy_init_4 rfl rfl ?_
  refine jl_new (ci := 2) (fs := [.null, .null, .null, .null, .int (zI (0)), .int (zI (0))]) d_Cy_init_5 rfl ij_Dr tk_Dr (fun j hj => by rcases (show j = 0 ∨ j = 1 ∨ j = 2 ∨ j = 3 ∨ j = 4 ∨ j = 5 by omega) with rfl | rfl | rfl | rfl | rfl | rfl <;> rfl) (fun _ _ => rfl) (by simp [jl_okv]) kw_Cy_9 vw_Dr nw_Dr ?_
  obtain ⟨h1, eh1⟩ : ∃ z, z = va_up h (i + 1) (jO 2 [.null, .null, .null, .null, .int (zI (0)), .int (zI (0))]) := ⟨_, rfl⟩
  rw [← eh1]
  have jf2 : h1 (i + 1) = jO 2 [.null, .null, .null, .null, .int (zI (0)), .int (zI (0))] := by rw [eh1, va_up_self]
  refine jl_dup d_Cy_init_8 rfl ?_
  have jf4 : h1 (i) = jO 1 [.null, .int (zI (0))] := by rw [eh1, va_up_ne _ _ (by omega)]; exact h0
  refine jl_invI0 (M' := m_Dr_init) (d' := d - 1) (ck' := 4) (sk' := 96) (na := 0) (as := []) (st := [.ref (i + 1), .ref (i)]) d_Cy_init_9 rfl mw_Cy_11 ww_Dr_init rfl nw_Dr cw_Dr_init rfl rfl rfl (by decide +kernel) (by omega) (Nat.le_of_ble_eq_true rfl) (Nat.le_of_ble_eq_true rfl) ?_
  refine k_D_init (i := i + 1) hl9 jf2 (fun hd3 Dhd3 fhd3 => ?_)
  show jl_AW _ _ _ _ _ 12 [some (.ref (i))] [.ref (i + 1), .ref (i)] (i + 1 + 5) hd3 _ _
  have ehd3 : ∀ y, y < i + 1 → hd3 y = h1 y := fhd3
  have kf5 : hd3 (i) = jO 1 [.null, .int (zI (0))] := by rw [ehd3 _ (by omega)]; exact jf4
  refine jpf_1 (q := 0) (ty := (.object "SiteswapStudio$Draft")) d_Cy_init_12 kf5 (by simp) (by decide) fw_Cy_12 rfl rfl rfl (by decide +kernel) (fun _ _ => rfl) (fun _ _ => rfl) (fun h6 eh6 => ?_)
  have eh6 : h6 = va_up hd3 (i) (jO 1 [.ref (i + 1), .int (zI (0))]) := eh6
  have jf7 : h6 (i) = jO 1 [.ref (i + 1), .int (zI (0))] := by rw [eh6, va_up_self]
  refine jl_vret d_Cy_init_15 rfl (hk _ ⟨jf7, jD_fr (fun y q1 q2 => by rw [eh6, va_up_ne _ _ (by omega)]) Dhd3⟩ (fun y hy => by rw [eh6, va_up_ne _ _ (by omega), ehd3 _ (by omega), eh1, va_up_ne _ _ (by omega)]))
set_option maxHeartbeats 4000000 in
set_option maxRecDepth 100000 in
theorem k_G_init {l : Launch} {G : jl_G} {d i : Nat} {h : Nat → va_E} {Kr : Option Value → Nat → (Nat → va_E) → Prop} {Kx : String → Nat → (Nat → va_E) → Prop} (hl9 : l.stackTraces = false) (hdd : 3 ≤ d) (h0 : h i = jO 4 [.null, .null, .null, .null, .int (zI (0)), .int (zI (0)), .int (zI (0))]) (hk : ∀ h', (jFl h' i 0 0 [] (fun _ => 0) ∧ jD h' (i + 1) 0 1 (fun _ => 0) (va_up (fun _ => 0) (0 : Int).toNat 1) (fun _ => 0) (fun _ => 0)) → (∀ y, y < i → h' y = h y) → Kr none (i + 9) h') : jl_Call l G m_Sg_init d [.ref i] (i + 1) h 8 158 Kr Kx := by
  refine jl_enter hl9 (by decide) rfl (by simp [Value.category]) (Nat.le_of_ble_eq_true rfl) ?_
  show jl_AW l G (jl_F G Kr Kx) m_Sg_init d 0 [some (.ref (i))] [] (i + 1) h 8 158
  refine jl_aload_n d_Sg_init_0 rfl rfl ?_
  refine jl_objInit d_Sg_init_1 ow_Sg_3 ow_1 ow_2 (Nat.le_of_ble_eq_true rfl) ?_
  refine jl_aload_n d_Sg_init_4 rfl rfl ?_
  refine jl_new (ci := 2) (fs := [.null, .null, .null, .null, .int (zI (0)), .int (zI (0))]) d_Sg_init_5 rfl ij_Dr tk_Dr (fun j hj => by rcases (show j = 0 ∨ j = 1 ∨ j = 2 ∨ j = 3 ∨ j = 4 ∨ j = 5 by omega) with rfl | rfl | rfl | rfl | rfl | rfl <;> rfl) (fun _ _ => rfl) (by simp [jl_okv]) kw_Sg_9 vw_Dr nw_Dr ?_
  obtain ⟨h1, eh1⟩ : ∃ z, z = va_up h (i + 1) (jO 2 [.null, .null, .null, .null, .int (zI (0)), .int (zI (0))]) := ⟨_, rfl⟩
  rw [← eh1]
  have jf2 : h1 (i + 1) = jO 2 [.null, .null, .null, .null, .int (zI (0)), .int (zI (0))] := by rw [eh1, va_up_self]
  refine jl_dup d_Sg_init_8 rfl ?_
  have jf4 : h1 (i) = jO 4 [.null, .null, .null, .null, .int (zI (0)), .int (zI (0)), .int (zI (0))] := by rw [eh1, va_up_ne _ _ (by omega)]; exact h0
  refine jl_invI0 (M' := m_Dr_init) (d' := d - 1) (ck' := 4) (sk' := 96) (na := 0) (as := []) (st := [.ref (i + 1), .ref (i)]) d_Sg_init_9 rfl mw_Sg_11 ww_Dr_init rfl nw_Dr cw_Dr_init rfl rfl rfl (by decide +kernel) (by omega) (Nat.le_of_ble_eq_true rfl) (Nat.le_of_ble_eq_true rfl) ?_
  refine k_D_init (i := i + 1) hl9 jf2 (fun hd3 Dhd3 fhd3 => ?_)
  show jl_AW _ _ _ _ _ 12 [some (.ref (i))] [.ref (i + 1), .ref (i)] (i + 1 + 5) hd3 _ _
  have ehd3 : ∀ y, y < i + 1 → hd3 y = h1 y := fhd3
  have kf5 : hd3 (i) = jO 4 [.null, .null, .null, .null, .int (zI (0)), .int (zI (0)), .int (zI (0))] := by rw [ehd3 _ (by omega)]; exact jf4
  refine jpf_4 (q := 0) (ty := (.object "SiteswapStudio$Draft")) d_Sg_init_12 kf5 (by simp) (by decide) fw_Sg_12 rfl rfl rfl (by decide +kernel) (fun _ _ => rfl) (fun _ _ => rfl) (fun h6 eh6 => ?_)
  have eh6 : h6 = va_up hd3 (i) (jO 4 [.ref (i + 1), .null, .null, .null, .int (zI (0)), .int (zI (0)), .int (zI (0))]) := eh6
  have jf7 : h6 (i) = jO 4 [.ref (i + 1), .null, .null, .null, .int (zI (0)), .int (zI (0)), .int (zI (0))] := by rw [eh6, va_up_self]
  refine jl_aload_n d_Sg_init_15 rfl rfl ?_
  refine jl_bipush (v := zI (27)) d_Sg_init_16 (by decide) ?_
  refine jz_newa (N' := 27) (by decide) d_Sg_init_18 aw_int (fun h8 eh8 => ?_)
  have eh8 : h8 = va_up h6 (i + 6) (jI 27 (fun j9 => zI ((fun _ => (0 : Int)) j9))) := eh8
  have jf9 : h8 (i + 6) = jI 27 (fun j9 => zI ((fun _ => (0 : Int)) j9)) := by rw [eh8, va_up_self]
  have jf10 : h8 (i) = jO 4 [.ref (i + 1), .null, .null, .null, .int (zI (0)), .int (zI (0)), .int (zI (0))] := by rw [eh8, va_up_ne _ _ (by omega)]; exact jf7
  refine jpf_4 (q := 1) (ty := (.array .int)) d_Sg_init_20 jf10 (by simp) (by decide) fw_Sg_18 rfl rfl rfl (by decide +kernel) (fun _ _ => rfl) (fun _ _ => rfl) (fun h11 eh11 => ?_)
  have eh11 : h11 = va_up h8 (i) (jO 4 [.ref (i + 1), .ref (i + 6), .null, .null, .int (zI (0)), .int (zI (0)), .int (zI (0))]) := eh11
  have jf12 : h11 (i) = jO 4 [.ref (i + 1), .ref (i + 6), .null, .null, .int (zI (0)), .int (zI (0)), .int (zI (0))] := by rw [eh11, va_up_self]
  refine jl_aload_n d_Sg_init_23 rfl rfl ?_
  refine jl_bipush (v := zI (27)) d_Sg_init_24 (by decide) ?_
  refine jz_newa (N' := 27) (by decide) d_Sg_init_26 aw_int (fun h13 eh13 => ?_)
  have eh13 : h13 = va_up h11 (i + 7) (jI 27 (fun j9 => zI ((fun _ => (0 : Int)) j9))) := eh13
  have jf14 : h13 (i + 7) = jI 27 (fun j9 => zI ((fun _ => (0 : Int)) j9)) := by rw [eh13, va_up_self]
  have jf15 : h13 (i) = jO 4 [.ref (i + 1), .ref (i + 6), .null, .null, .int (zI (0)), .int (zI (0)), .int (zI (0))] := by rw [eh13, va_up_ne _ _ (by omega)]; exact jf12
  refine jpf_4 (q := 2) (ty := (.array .int)) d_Sg_init_28 jf15 (by simp) (by decide) fw_Sg_22 rfl rfl rfl (by decide +kernel) (fun _ _ => rfl) (fun _ _ => rfl) (fun h16 eh16 => ?_)
  have eh16 : h16 = va_up h13 (i) (jO 4 [.ref (i + 1), .ref (i + 6), .ref (i + 7), .null, .int (zI (0)), .int (zI (0)), .int (zI (0))]) := eh16
  have jf17 : h16 (i) = jO 4 [.ref (i + 1), .ref (i + 6), .ref (i + 7), .null, .int (zI (0)), .int (zI (0)), .int (zI (0))] := by rw [eh16, va_up_self]
  refine jl_aload_n d_Sg_init_31 rfl rfl ?_
  refine jl_iconst (v := zI (2)) d_Sg_init_32 (by decide) ?_
  refine jz_newa (N' := 2) (by decide) d_Sg_init_33 aw_int (fun h18 eh18 => ?_)
  have eh18 : h18 = va_up h16 (i + 8) (jI 2 (fun j9 => zI ((fun _ => (0 : Int)) j9))) := eh18
  have jf19 : h18 (i + 8) = jI 2 (fun j9 => zI ((fun _ => (0 : Int)) j9)) := by rw [eh18, va_up_self]
  have jf20 : h18 (i) = jO 4 [.ref (i + 1), .ref (i + 6), .ref (i + 7), .null, .int (zI (0)), .int (zI (0)), .int (zI (0))] := by rw [eh18, va_up_ne _ _ (by omega)]; exact jf17
  refine jpf_4 (q := 3) (ty := (.array .int)) d_Sg_init_35 jf20 (by simp) (by decide) fw_Sg_25 rfl rfl rfl (by decide +kernel) (fun _ _ => rfl) (fun _ _ => rfl) (fun h21 eh21 => ?_)
  have eh21 : h21 = va_up h18 (i) (jO 4 [.ref (i + 1), .ref (i + 6), .ref (i + 7), .ref (i + 8), .int (zI (0)), .int (zI (0)), .int (zI (0))]) := eh21
  have jf22 : h21 (i) = jO 4 [.ref (i + 1), .ref (i + 6), .ref (i + 7), .ref (i + 8), .int (zI (0)), .int (zI (0)), .int (zI (0))] := by rw [eh21, va_up_self]
  have jf23 : h21 (i + 6) = jI 27 (fun j9 => zI ((fun _ => (0 : Int)) j9)) := by rw [eh21, va_up_ne _ _ (by omega), eh18, va_up_ne _ _ (by omega), eh16, va_up_ne _ _ (by omega), eh13, va_up_ne _ _ (by omega), eh11, va_up_ne _ _ (by omega)]; exact jf9
  have jf24 : h21 (i + 7) = jI 27 (fun j9 => zI ((fun _ => (0 : Int)) j9)) := by rw [eh21, va_up_ne _ _ (by omega), eh18, va_up_ne _ _ (by omega), eh16, va_up_ne _ _ (by omega)]; exact jf14
  have jf25 : h21 (i + 8) = jI 2 (fun j9 => zI ((fun _ => (0 : Int)) j9)) := by rw [eh21, va_up_ne _ _ (by omega)]; exact jf19
  refine jl_vret d_Sg_init_38 rfl (hk _ ⟨⟨fun _ => 0, fun _ => 0, jf22, jf23, jf24, jf25, Nat.zero_le 27, fun j hj => absurd hj (Nat.not_lt_zero j)⟩, jD_fr (fun y q1 q2 => by rw [eh21, va_up_ne _ _ (by omega), eh18, va_up_ne _ _ (by omega), eh16, va_up_ne _ _ (by omega), eh13, va_up_ne _ _ (by omega), eh11, va_up_ne _ _ (by omega), eh8, va_up_ne _ _ (by omega), eh6, va_up_ne _ _ (by omega)]) Dhd3⟩ (fun y hy => by rw [eh21, va_up_ne _ _ (by omega), eh18, va_up_ne _ _ (by omega), eh16, va_up_ne _ _ (by omega), eh13, va_up_ne _ _ (by omega), eh11, va_up_ne _ _ (by omega), eh8, va_up_ne _ _ (by omega), eh6, va_up_ne _ _ (by omega), ehd3 _ (by omega), eh1, va_up_ne _ _ (by omega)]))
