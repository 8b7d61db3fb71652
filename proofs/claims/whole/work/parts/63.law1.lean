theorem jl_Call_mono {l : Launch} {G : jl_G} {M : jl_M} {d n ck sk : Nat} {as : List Value} {h : Nat → va_E} {Kr Kr2 : Option Value → Nat → (Nat → va_E) → Prop} {Kx Kx2 : String → Nat → (Nat → va_E) → Prop} (k : jl_Call l G M d as n h ck sk Kr Kx) (h1 : ∀ r n' h', Kr r n' h' → Kr2 r n' h') (h2 : ∀ E n' h', Kx E n' h' → Kx2 E n' h') : jl_Call l G M d as n h ck sk Kr2 Kx2 := by
  intro al hD hok hoa
  have hM := k al hD hok hoa
  intro p e ha hc hk s m args below hf happ hP hK
  obtain ⟨k9, o, q1, q2, q3, q4⟩ := hM p e ha hc hk s m args below hf happ hP hK
  refine ⟨k9, o, q1, q2, q3, ?_⟩
  rcases q4 with ⟨⟨r, n', h', al', w1, w2, w3, w4⟩, w5⟩ | ⟨q, w0, E, ce, L9, ⟨n9, h9, al9, w1, w2⟩, w3⟩
  · exact Or.inl ⟨⟨r, n', h', al', w1, h1 _ _ _ w2, w3, w4⟩, w5⟩
  · exact Or.inr ⟨q, w0, E, ce, L9, ⟨n9, h9, al9, h2 _ _ _ w1, w2⟩, w3⟩
set_option maxHeartbeats 4000000 in
set_option maxRecDepth 100000 in
theorem k_Lw_begin {l : Launch} {G : jl_G} {d n : Nat} {h : Nat → va_E} {Kr : Option Value → Nat → (Nat → va_E) → Prop} (hl9 : l.stackTraces = false) {d' : Nat} (hdd : d' < d) {x o ck sk : Nat} {fs : List Value} {a : Int} {b : Int} (hx : h x = jO 5 fs) (k : jl_Call l G m_St_begin d' [.ref (x), .int (zI (a)), .int (zI (b))] n h ck sk (fun r n' h' => ∃ (v : Int) (f : Nat → Int64), r = some (.int (zI v)) ∧ h' o = jJ 1 f ∧ Kr (some (.int (zI 0))) n' (va_up h' o (jJ 1 (vp_updL f (zI 0).toNatClampNeg ((zI v).toInt64))))) (fun E n' h' => (E = "java/lang/IllegalArgumentException" ∧ Kr (some (.int (zI (1)))) n' h'))) : jl_Call l G m_Lw_begin d [.ref (x), .int (zI (a)), .int (zI (b)), .ref (o)] n h ck sk Kr (fun _ _ _ => False) := by
  refine jl_enterH hl9 (by decide) rfl (by simp [Value.category]) (Nat.le_of_ble_eq_true rfl) ?_
  show jl_AW l G (jl_F G Kr (fun _ _ _ => False)) m_Lw_begin d 0 [some (.ref (x)), some (.int (zI (a))), some (.int (zI (b))), some (.ref (o)), none] [] n h ck sk
  refine jl_aload_n d_Lw_begin_0 rfl rfl ?_
  refine jl_iconst (v := zI (0)) d_Lw_begin_1 (by decide) ?_
  refine jl_aload_n d_Lw_begin_2 rfl rfl ?_
  refine jl_iload_n d_Lw_begin_3 rfl rfl ?_
  refine jl_iload_n d_Lw_begin_4 rfl rfl ?_
  have e0 : ck = 0 + ck := (Nat.zero_add ck).symm
  have e1 : sk = 0 + sk := (Nat.zero_add sk).symm
  rw [e0, e1]
  refine jl_invVC (M' := m_St_begin) (d' := d') (ck' := ck) (sk' := sk) (ck := 0) (sk := 0) (na := 2) (as := [.int (zI (a)), .int (zI (b))]) (st := [.int (zI (0)), .ref (o)]) (x := x) d_Lw_begin_5 rfl hx rfl mw_Lw_7 ww_St_begin sw_St_begin nw_St cw_St_begin rfl rfl (by decide +kernel) hdd (Nat.le_of_ble_eq_true rfl) (Nat.le_of_ble_eq_true rfl) (fun E n' h' hE => ?_) (jl_Call_mono k (fun r n' h' hr => ?_) (fun E n' h' hE => hE))
  · obtain ⟨q9, hk⟩ := hE
    subst q9
    refine ⟨[], (0, 10, 13, 13), [], 4, 2, rfl, ?_, by decide, by decide, lwk_13, lwc_13, Or.inl ⟨d_Lw_begin_13, rfl⟩, by decide, ?_⟩
    · intro z hz; cases hz
    · show jl_AW l G (jl_F G Kr (fun _ _ _ => False)) m_Lw_begin d 15 [some (.ref (x)), some (.int (zI (a))), some (.int (zI (b))), some (.ref (o)), none] [] n' h' 0 0
      refine jl_iconst (v := zI (1)) d_Lw_begin_15 (by decide) ?_
      exact jl_iret d_Lw_begin_16 rfl hk
  · obtain ⟨v, f, er, ho, hk⟩ := hr
    subst er
    show jl_AW l G (jl_F G Kr (fun _ _ _ => False)) m_Lw_begin d 8 [some (.ref (x)), some (.int (zI (a))), some (.int (zI (b))), some (.ref (o)), none] [.int (zI (v)), .int (zI (0)), .ref (o)] n' h' 0 0
    refine jl_i2l d_Lw_begin_8 ?_
    refine jl_last d_Lw_begin_9 ho (zI_in (by decide) (by decide) (by decide)) ?_
    refine jl_goto (tgt := 17) d_Lw_begin_10 (by decide) ?_
    refine jl_iconst (v := zI (0)) d_Lw_begin_17 (by decide) ?_
    exact jl_iret d_Lw_begin_18 rfl hk
set_option maxHeartbeats 4000000 in
set_option maxRecDepth 100000 in
theorem k_Lw_put {l : Launch} {G : jl_G} {d n : Nat} {h : Nat → va_E} {Kr : Option Value → Nat → (Nat → va_E) → Prop} (hl9 : l.stackTraces = false) {d' : Nat} (hdd : d' < d) {x o ck sk : Nat} {fs : List Value} {a : Int} {b : Int} {c : Int} (hx : h x = jO 5 fs) (k : jl_Call l G m_St_put d' [.ref (x), .int (zI (a)), .int (zI (b)), .int (zI (c))] n h ck sk (fun r n' h' => ∃ (v : Int) (f : Nat → Int64), r = some (.int (zI v)) ∧ h' o = jJ 1 f ∧ Kr (some (.int (zI 0))) n' (va_up h' o (jJ 1 (vp_updL f (zI 0).toNatClampNeg ((zI v).toInt64))))) (fun E n' h' => (E = "java/lang/IndexOutOfBoundsException" ∧ Kr (some (.int (zI (1)))) n' h') ∨ (E = "java/lang/IllegalArgumentException" ∧ Kr (some (.int (zI (2)))) n' h'))) : jl_Call l G m_Lw_put d [.ref (x), .int (zI (a)), .int (zI (b)), .int (zI (c)), .ref (o)] n h ck sk Kr (fun _ _ _ => False) := by
  refine jl_enterH hl9 (by decide) rfl (by simp [Value.category]) (Nat.le_of_ble_eq_true rfl) ?_
  show jl_AW l G (jl_F G Kr (fun _ _ _ => False)) m_Lw_put d 0 [some (.ref (x)), some (.int (zI (a))), some (.int (zI (b))), some (.int (zI (c))), some (.ref (o)), none] [] n h ck sk
  refine jl_aload d_Lw_put_0 rfl ?_
  refine jl_iconst (v := zI (0)) d_Lw_put_2 (by decide) ?_
  refine jl_aload_n d_Lw_put_3 rfl rfl ?_
  refine jl_iload_n d_Lw_put_4 rfl rfl ?_
  refine jl_iload_n d_Lw_put_5 rfl rfl ?_
  refine jl_iload_n d_Lw_put_6 rfl rfl ?_
  have e0 : ck = 0 + ck := (Nat.zero_add ck).symm
  have e1 : sk = 0 + sk := (Nat.zero_add sk).symm
  rw [e0, e1]
  refine jl_invVC (M' := m_St_put) (d' := d') (ck' := ck) (sk' := sk) (ck := 0) (sk := 0) (na := 3) (as := [.int (zI (a)), .int (zI (b)), .int (zI (c))]) (st := [.int (zI (0)), .ref (o)]) (x := x) d_Lw_put_7 rfl hx rfl mw_Lw_15 ww_St_put sw_St_put nw_St cw_St_put rfl rfl (by decide +kernel) hdd (Nat.le_of_ble_eq_true rfl) (Nat.le_of_ble_eq_true rfl) (fun E n' h' hE => ?_) (jl_Call_mono k (fun r n' h' hr => ?_) (fun E n' h' hE => hE))
  · rcases hE with ⟨q9, hk⟩ | ⟨q9, hk⟩
    · subst q9
      refine ⟨[], (0, 12, 15, 19), [(0, 12, 19, 13)], 5, 2, rfl, ?_, by decide, by decide, lwk_19, lwc_19, Or.inl ⟨d_Lw_put_15, rfl⟩, by decide, ?_⟩
      · intro z hz; cases hz
      · show jl_AW l G (jl_F G Kr (fun _ _ _ => False)) m_Lw_put d 17 [some (.ref (x)), some (.int (zI (a))), some (.int (zI (b))), some (.int (zI (c))), some (.ref (o)), none] [] n' h' 0 0
        refine jl_iconst (v := zI (1)) d_Lw_put_17 (by decide) ?_
        exact jl_iret d_Lw_put_18 rfl hk
    · subst q9
      refine ⟨[(0, 12, 15, 19)], (0, 12, 19, 13), [], 5, 2, rfl, ?_, by decide, by decide, lwk_13, lwc_13, Or.inl ⟨d_Lw_put_19, rfl⟩, by decide, ?_⟩
      · intro z hz
        simp only [List.mem_cons, List.not_mem_nil, or_false] at hz
        skip
        subst hz; exact ⟨by decide, _, lwk_19, by decide⟩
      · show jl_AW l G (jl_F G Kr (fun _ _ _ => False)) m_Lw_put d 21 [some (.ref (x)), some (.int (zI (a))), some (.int (zI (b))), some (.int (zI (c))), some (.ref (o)), none] [] n' h' 0 0
        refine jl_iconst (v := zI (2)) d_Lw_put_21 (by decide) ?_
        exact jl_iret d_Lw_put_22 rfl hk
  · obtain ⟨v, f, er, ho, hk⟩ := hr
    subst er
    show jl_AW l G (jl_F G Kr (fun _ _ _ => False)) m_Lw_put d 10 [some (.ref (x)), some (.int (zI (a))), some (.int (zI (b))), some (.int (zI (c))), some (.ref (o)), none] [.int (zI (v)), .int (zI (0)), .ref (o)] n' h' 0 0
    refine jl_i2l d_Lw_put_10 ?_
    refine jl_last d_Lw_put_11 ho (zI_in (by decide) (by decide) (by decide)) ?_
    refine jl_goto (tgt := 23) d_Lw_put_12 (by decide) ?_
    refine jl_iconst (v := zI (0)) d_Lw_put_23 (by decide) ?_
    exact jl_iret d_Lw_put_24 rfl hk
set_option maxHeartbeats 4000000 in
set_option maxRecDepth 100000 in
theorem k_Lw_add {l : Launch} {G : jl_G} {d n : Nat} {h : Nat → va_E} {Kr : Option Value → Nat → (Nat → va_E) → Prop} (hl9 : l.stackTraces = false) {d' : Nat} (hdd : d' < d) {x o ck sk : Nat} {fs : List Value} {a : Int} {b : Int} (hx : h x = jO 5 fs) (k : jl_Call l G m_St_add d' [.ref (x), .int (zI (a)), .int (zI (b))] n h ck sk (fun r n' h' => ∃ (v : Int) (f : Nat → Int64), r = some (.int (zI v)) ∧ h' o = jJ 1 f ∧ Kr (some (.int (zI 0))) n' (va_up h' o (jJ 1 (vp_updL f (zI 0).toNatClampNeg ((zI v).toInt64))))) (fun E n' h' => (E = "java/lang/IllegalStateException" ∧ Kr (some (.int (zI (1)))) n' h') ∨ (E = "java/lang/IndexOutOfBoundsException" ∧ Kr (some (.int (zI (2)))) n' h') ∨ (E = "java/lang/IllegalArgumentException" ∧ Kr (some (.int (zI (3)))) n' h'))) : jl_Call l G m_Lw_add d [.ref (x), .int (zI (a)), .int (zI (b)), .ref (o)] n h ck sk Kr (fun _ _ _ => False) := by
  refine jl_enterH hl9 (by decide) rfl (by simp [Value.category]) (Nat.le_of_ble_eq_true rfl) ?_
  show jl_AW l G (jl_F G Kr (fun _ _ _ => False)) m_Lw_add d 0 [some (.ref (x)), some (.int (zI (a))), some (.int (zI (b))), some (.ref (o)), none] [] n h ck sk
  refine jl_aload_n d_Lw_add_0 rfl rfl ?_
  refine jl_iconst (v := zI (0)) d_Lw_add_1 (by decide) ?_
  refine jl_aload_n d_Lw_add_2 rfl rfl ?_
  refine jl_iload_n d_Lw_add_3 rfl rfl ?_
  refine jl_iload_n d_Lw_add_4 rfl rfl ?_
  have e0 : ck = 0 + ck := (Nat.zero_add ck).symm
  have e1 : sk = 0 + sk := (Nat.zero_add sk).symm
  rw [e0, e1]
  refine jl_invVC (M' := m_St_add) (d' := d') (ck' := ck) (sk' := sk) (ck := 0) (sk := 0) (na := 2) (as := [.int (zI (a)), .int (zI (b))]) (st := [.int (zI (0)), .ref (o)]) (x := x) d_Lw_add_5 rfl hx rfl mw_Lw_21 ww_St_add sw_St_add nw_St cw_St_add rfl rfl (by decide +kernel) hdd (Nat.le_of_ble_eq_true rfl) (Nat.le_of_ble_eq_true rfl) (fun E n' h' hE => ?_) (jl_Call_mono k (fun r n' h' hr => ?_) (fun E n' h' hE => hE))
  · rcases hE with ⟨q9, hk⟩ | ⟨q9, hk⟩ | ⟨q9, hk⟩
    · subst q9
      refine ⟨[], (0, 10, 13, 24), [(0, 10, 17, 19), (0, 10, 21, 13)], 4, 2, rfl, ?_, by decide, by decide, lwk_24, lwc_24, Or.inl ⟨d_Lw_add_13, rfl⟩, by decide, ?_⟩
      · intro z hz; cases hz
      · show jl_AW l G (jl_F G Kr (fun _ _ _ => False)) m_Lw_add d 15 [some (.ref (x)), some (.int (zI (a))), some (.int (zI (b))), some (.ref (o)), none] [] n' h' 0 0
        refine jl_iconst (v := zI (1)) d_Lw_add_15 (by decide) ?_
        exact jl_iret d_Lw_add_16 rfl hk
    · subst q9
      refine ⟨[(0, 10, 13, 24)], (0, 10, 17, 19), [(0, 10, 21, 13)], 4, 2, rfl, ?_, by decide, by decide, lwk_19, lwc_19, Or.inl ⟨d_Lw_add_17, rfl⟩, by decide, ?_⟩
      · intro z hz
        simp only [List.mem_cons, List.not_mem_nil, or_false] at hz
        skip
        subst hz; exact ⟨by decide, _, lwk_24, by decide⟩
      · show jl_AW l G (jl_F G Kr (fun _ _ _ => False)) m_Lw_add d 19 [some (.ref (x)), some (.int (zI (a))), some (.int (zI (b))), some (.ref (o)), none] [] n' h' 0 0
        refine jl_iconst (v := zI (2)) d_Lw_add_19 (by decide) ?_
        exact jl_iret d_Lw_add_20 rfl hk
    · subst q9
      refine ⟨[(0, 10, 13, 24), (0, 10, 17, 19)], (0, 10, 21, 13), [], 4, 2, rfl, ?_, by decide, by decide, lwk_13, lwc_13, Or.inl ⟨d_Lw_add_21, rfl⟩, by decide, ?_⟩
      · intro z hz
        simp only [List.mem_cons, List.not_mem_nil, or_false] at hz
        rcases hz with hz | hz
        · subst hz; exact ⟨by decide, _, lwk_24, by decide⟩
        · subst hz; exact ⟨by decide, _, lwk_19, by decide⟩
      · show jl_AW l G (jl_F G Kr (fun _ _ _ => False)) m_Lw_add d 23 [some (.ref (x)), some (.int (zI (a))), some (.int (zI (b))), some (.ref (o)), none] [] n' h' 0 0
        refine jl_iconst (v := zI (3)) d_Lw_add_23 (by decide) ?_
        exact jl_iret d_Lw_add_24 rfl hk
  · obtain ⟨v, f, er, ho, hk⟩ := hr
    subst er
    show jl_AW l G (jl_F G Kr (fun _ _ _ => False)) m_Lw_add d 8 [some (.ref (x)), some (.int (zI (a))), some (.int (zI (b))), some (.ref (o)), none] [.int (zI (v)), .int (zI (0)), .ref (o)] n' h' 0 0
    refine jl_i2l d_Lw_add_8 ?_
    refine jl_last d_Lw_add_9 ho (zI_in (by decide) (by decide) (by decide)) ?_
    refine jl_goto (tgt := 25) d_Lw_add_10 (by decide) ?_
    refine jl_iconst (v := zI (0)) d_Lw_add_25 (by decide) ?_
    exact jl_iret d_Lw_add_26 rfl hk
set_option maxHeartbeats 4000000 in
set_option maxRecDepth 100000 in
theorem k_Lw_balls {l : Launch} {G : jl_G} {d n : Nat} {h : Nat → va_E} {Kr : Option Value → Nat → (Nat → va_E) → Prop} (hl9 : l.stackTraces = false) {d' : Nat} (hdd : d' < d) {x o ck sk : Nat} {fs : List Value}  (hx : h x = jO 5 fs) (k : jl_Call l G m_St_balls d' [.ref (x)] n h ck sk (fun r n' h' => ∃ (v : Int) (f : Nat → Int64), r = some (.int (zI v)) ∧ h' o = jJ 1 f ∧ Kr (some (.int (zI 0))) n' (va_up h' o (jJ 1 (vp_updL f (zI 0).toNatClampNeg ((zI v).toInt64))))) (fun E n' h' => (E = "java/lang/IllegalStateException" ∧ Kr (some (.int (zI (1)))) n' h'))) : jl_Call l G m_Lw_balls d [.ref (x), .ref (o)] n h ck sk Kr (fun _ _ _ => False) := by
  refine jl_enterH hl9 (by decide) rfl (by simp [Value.category]) (Nat.le_of_ble_eq_true rfl) ?_
  show jl_AW l G (jl_F G Kr (fun _ _ _ => False)) m_Lw_balls d 0 [some (.ref (x)), some (.ref (o)), none] [] n h ck sk
  refine jl_aload_n d_Lw_balls_0 rfl rfl ?_
  refine jl_iconst (v := zI (0)) d_Lw_balls_1 (by decide) ?_
  refine jl_aload_n d_Lw_balls_2 rfl rfl ?_
  have e0 : ck = 0 + ck := (Nat.zero_add ck).symm
  have e1 : sk = 0 + sk := (Nat.zero_add sk).symm
  rw [e0, e1]
  refine jl_invVC (M' := m_St_balls) (d' := d') (ck' := ck) (sk' := sk) (ck := 0) (sk := 0) (na := 0) (as := []) (st := [.int (zI (0)), .ref (o)]) (x := x) d_Lw_balls_3 rfl hx rfl mw_Lw_26 ww_St_balls sw_St_balls nw_St cw_St_balls rfl rfl (by decide +kernel) hdd (Nat.le_of_ble_eq_true rfl) (Nat.le_of_ble_eq_true rfl) (fun E n' h' hE => ?_) (jl_Call_mono k (fun r n' h' hr => ?_) (fun E n' h' hE => hE))
  · obtain ⟨q9, hk⟩ := hE
    subst q9
    refine ⟨[], (0, 8, 11, 24), [], 2, 1, rfl, ?_, by decide, by decide, lwk_24, lwc_24, Or.inr ⟨2, rfl, d_Lw_balls_11, rfl⟩, by decide, ?_⟩
    · intro z hz; cases hz
    · show jl_AW l G (jl_F G Kr (fun _ _ _ => False)) m_Lw_balls d 12 [some (.ref (x)), some (.ref (o)), none] [] n' h' 0 0
      refine jl_iconst (v := zI (1)) d_Lw_balls_12 (by decide) ?_
      exact jl_iret d_Lw_balls_13 rfl hk
  · obtain ⟨v, f, er, ho, hk⟩ := hr
    subst er
    show jl_AW l G (jl_F G Kr (fun _ _ _ => False)) m_Lw_balls d 6 [some (.ref (x)), some (.ref (o)), none] [.int (zI (v)), .int (zI (0)), .ref (o)] n' h' 0 0
    refine jl_i2l d_Lw_balls_6 ?_
    refine jl_last d_Lw_balls_7 ho (zI_in (by decide) (by decide) (by decide)) ?_
    refine jl_goto (tgt := 14) d_Lw_balls_8 (by decide) ?_
    refine jl_iconst (v := zI (0)) d_Lw_balls_14 (by decide) ?_
    exact jl_iret d_Lw_balls_15 rfl hk
set_option maxHeartbeats 4000000 in
set_option maxRecDepth 100000 in
theorem k_Lw_state {l : Launch} {G : jl_G} {d n : Nat} {h : Nat → va_E} {Kr : Option Value → Nat → (Nat → va_E) → Prop} (hl9 : l.stackTraces = false) {d' : Nat} (hdd : d' < d) {x o ck sk : Nat} {fs : List Value} {a : Int} (hx : h x = jO 5 fs) (k : jl_Call l G m_St_state d' [.ref (x), .int (zI (a))] n h ck sk (fun r n' h' => ∃ (v : Int) (f : Nat → Int64), r = some (.int (zI v)) ∧ h' o = jJ 1 f ∧ Kr (some (.int (zI 0))) n' (va_up h' o (jJ 1 (vp_updL f (zI 0).toNatClampNeg ((zI v).toInt64))))) (fun E n' h' => (E = "java/lang/IllegalStateException" ∧ Kr (some (.int (zI (1)))) n' h') ∨ (E = "java/lang/IndexOutOfBoundsException" ∧ Kr (some (.int (zI (2)))) n' h'))) : jl_Call l G m_Lw_state d [.ref (x), .int (zI (a)), .ref (o)] n h ck sk Kr (fun _ _ _ => False) := by
  refine jl_enterH hl9 (by decide) rfl (by simp [Value.category]) (Nat.le_of_ble_eq_true rfl) ?_
  show jl_AW l G (jl_F G Kr (fun _ _ _ => False)) m_Lw_state d 0 [some (.ref (x)), some (.int (zI (a))), some (.ref (o)), none] [] n h ck sk
  refine jl_aload_n d_Lw_state_0 rfl rfl ?_
  refine jl_iconst (v := zI (0)) d_Lw_state_1 (by decide) ?_
  refine jl_aload_n d_Lw_state_2 rfl rfl ?_
  refine jl_iload_n d_Lw_state_3 rfl rfl ?_
  have e0 : ck = 0 + ck := (Nat.zero_add ck).symm
  have e1 : sk = 0 + sk := (Nat.zero_add sk).symm
  rw [e0, e1]
  refine jl_invVC (M' := m_St_state) (d' := d') (ck' := ck) (sk' := sk) (ck := 0) (sk := 0) (na := 1) (as := [.int (zI (a))]) (st := [.int (zI (0)), .ref (o)]) (x := x) d_Lw_state_4 rfl hx rfl mw_Lw_30 ww_St_state sw_St_state nw_St cw_St_state rfl rfl (by decide +kernel) hdd (Nat.le_of_ble_eq_true rfl) (Nat.le_of_ble_eq_true rfl) (fun E n' h' hE => ?_) (jl_Call_mono k (fun r n' h' hr => ?_) (fun E n' h' hE => hE))
  · rcases hE with ⟨q9, hk⟩ | ⟨q9, hk⟩
    · subst q9
      refine ⟨[], (0, 9, 12, 24), [(0, 9, 15, 19)], 3, 1, rfl, ?_, by decide, by decide, lwk_24, lwc_24, Or.inr ⟨3, rfl, d_Lw_state_12, rfl⟩, by decide, ?_⟩
      · intro z hz; cases hz
      · show jl_AW l G (jl_F G Kr (fun _ _ _ => False)) m_Lw_state d 13 [some (.ref (x)), some (.int (zI (a))), some (.ref (o)), none] [] n' h' 0 0
        refine jl_iconst (v := zI (1)) d_Lw_state_13 (by decide) ?_
        exact jl_iret d_Lw_state_14 rfl hk
    · subst q9
      refine ⟨[(0, 9, 12, 24)], (0, 9, 15, 19), [], 3, 1, rfl, ?_, by decide, by decide, lwk_19, lwc_19, Or.inr ⟨3, rfl, d_Lw_state_15, rfl⟩, by decide, ?_⟩
      · intro z hz
        simp only [List.mem_cons, List.not_mem_nil, or_false] at hz
        skip
        subst hz; exact ⟨by decide, _, lwk_24, by decide⟩
      · show jl_AW l G (jl_F G Kr (fun _ _ _ => False)) m_Lw_state d 16 [some (.ref (x)), some (.int (zI (a))), some (.ref (o)), none] [] n' h' 0 0
        refine jl_iconst (v := zI (2)) d_Lw_state_16 (by decide) ?_
        exact jl_iret d_Lw_state_17 rfl hk
  · obtain ⟨v, f, er, ho, hk⟩ := hr
    subst er
    show jl_AW l G (jl_F G Kr (fun _ _ _ => False)) m_Lw_state d 7 [some (.ref (x)), some (.int (zI (a))), some (.ref (o)), none] [.int (zI (v)), .int (zI (0)), .ref (o)] n' h' 0 0
    refine jl_i2l d_Lw_state_7 ?_
    refine jl_last d_Lw_state_8 ho (zI_in (by decide) (by decide) (by decide)) ?_
    refine jl_goto (tgt := 18) d_Lw_state_9 (by decide) ?_
    refine jl_iconst (v := zI (0)) d_Lw_state_18 (by decide) ?_
    exact jl_iret d_Lw_state_19 rfl hk
set_option maxHeartbeats 4000000 in
set_option maxRecDepth 100000 in
theorem k_Lw_swap {l : Launch} {G : jl_G} {d n : Nat} {h : Nat → va_E} {Kr : Option Value → Nat → (Nat → va_E) → Prop} (hl9 : l.stackTraces = false) {d' : Nat} (hdd : d' < d) {x o ck sk : Nat} {fs : List Value} {a : Int} {b : Int} (hx : h x = jO 5 fs) (k : jl_Call l G m_St_swap d' [.ref (x), .int (zI (a)), .int (zI (b))] n h ck sk (fun r n' h' => ∃ (v : Int) (f : Nat → Int64), r = some (.int (zI v)) ∧ (v = 0 ∨ v = 1) ∧ h' o = jJ 1 f ∧ Kr (some (.int (zI 0))) n' (va_up h' o (jJ 1 (vp_updL f (zI 0).toNatClampNeg ((if v = 0 then (0 : Int64) else 1)))))) (fun E n' h' => (E = "java/lang/IllegalStateException" ∧ Kr (some (.int (zI (1)))) n' h') ∨ (E = "java/lang/IndexOutOfBoundsException" ∧ Kr (some (.int (zI (2)))) n' h'))) : jl_Call l G m_Lw_swap d [.ref (x), .int (zI (a)), .int (zI (b)), .ref (o)] n h ck sk Kr (fun _ _ _ => False) := by
  refine jl_enterH hl9 (by decide) rfl (by simp [Value.category]) (Nat.le_of_ble_eq_true rfl) ?_
  show jl_AW l G (jl_F G Kr (fun _ _ _ => False)) m_Lw_swap d 0 [some (.ref (x)), some (.int (zI (a))), some (.int (zI (b))), some (.ref (o)), none] [] n h ck sk
  refine jl_aload_n d_Lw_swap_0 rfl rfl ?_
  refine jl_iconst (v := zI (0)) d_Lw_swap_1 (by decide) ?_
  refine jl_aload_n d_Lw_swap_2 rfl rfl ?_
  refine jl_iload_n d_Lw_swap_3 rfl rfl ?_
  refine jl_iload_n d_Lw_swap_4 rfl rfl ?_
  have e0 : ck = 0 + ck := (Nat.zero_add ck).symm
  have e1 : sk = 0 + sk := (Nat.zero_add sk).symm
  rw [e0, e1]
  refine jl_invVC (M' := m_St_swap) (d' := d') (ck' := ck) (sk' := sk) (ck := 0) (sk := 0) (na := 2) (as := [.int (zI (a)), .int (zI (b))]) (st := [.int (zI (0)), .ref (o)]) (x := x) d_Lw_swap_5 rfl hx rfl mw_Lw_34 ww_St_swap sw_St_swap nw_St cw_St_swap rfl rfl (by decide +kernel) hdd (Nat.le_of_ble_eq_true rfl) (Nat.le_of_ble_eq_true rfl) (fun E n' h' hE => ?_) (jl_Call_mono k (fun r n' h' hr => ?_) (fun E n' h' hE => hE))
  · rcases hE with ⟨q9, hk⟩ | ⟨q9, hk⟩
    · subst q9
      refine ⟨[], (0, 17, 20, 24), [(0, 17, 24, 19)], 4, 2, rfl, ?_, by decide, by decide, lwk_24, lwc_24, Or.inl ⟨d_Lw_swap_20, rfl⟩, by decide, ?_⟩
      · intro z hz; cases hz
      · show jl_AW l G (jl_F G Kr (fun _ _ _ => False)) m_Lw_swap d 22 [some (.ref (x)), some (.int (zI (a))), some (.int (zI (b))), some (.ref (o)), none] [] n' h' 0 0
        refine jl_iconst (v := zI (1)) d_Lw_swap_22 (by decide) ?_
        exact jl_iret d_Lw_swap_23 rfl hk
    · subst q9
      refine ⟨[(0, 17, 20, 24)], (0, 17, 24, 19), [], 4, 2, rfl, ?_, by decide, by decide, lwk_19, lwc_19, Or.inl ⟨d_Lw_swap_24, rfl⟩, by decide, ?_⟩
      · intro z hz
        simp only [List.mem_cons, List.not_mem_nil, or_false] at hz
        skip
        subst hz; exact ⟨by decide, _, lwk_24, by decide⟩
      · show jl_AW l G (jl_F G Kr (fun _ _ _ => False)) m_Lw_swap d 26 [some (.ref (x)), some (.int (zI (a))), some (.int (zI (b))), some (.ref (o)), none] [] n' h' 0 0
        refine jl_iconst (v := zI (2)) d_Lw_swap_26 (by decide) ?_
        exact jl_iret d_Lw_swap_27 rfl hk
  · obtain ⟨v, f, er, hv, ho, hk⟩ := hr
    subst er
    show jl_AW l G (jl_F G Kr (fun _ _ _ => False)) m_Lw_swap d 8 [some (.ref (x)), some (.int (zI (a))), some (.int (zI (b))), some (.ref (o)), none] [.int (zI (v)), .int (zI (0)), .ref (o)] n' h' 0 0
    refine jz_if_eq (tgt := 15) d_Lw_swap_8 (by decide) ⟨by omega, by omega⟩ (fun q1 => ?_) (fun q1 => ?_)
    · refine jl_lconst (v := 0) d_Lw_swap_15 rfl ?_
      refine jl_last d_Lw_swap_16 ho (zI_in (by decide) (by decide) (by decide)) ?_
      refine jl_goto (tgt := 28) d_Lw_swap_17 (by decide) ?_
      refine jl_iconst (v := zI (0)) d_Lw_swap_28 (by decide) ?_
      exact jl_iret d_Lw_swap_29 rfl (by rw [if_pos q1] at hk; exact hk)
    · refine jl_lconst (v := 1) d_Lw_swap_11 rfl ?_
      refine jl_goto (tgt := 16) d_Lw_swap_12 (by decide) ?_
      refine jl_last d_Lw_swap_16 ho (zI_in (by decide) (by decide) (by decide)) ?_
      refine jl_goto (tgt := 28) d_Lw_swap_17 (by decide) ?_
      refine jl_iconst (v := zI (0)) d_Lw_swap_28 (by decide) ?_
      exact jl_iret d_Lw_swap_29 rfl (by rw [if_neg q1] at hk; exact hk)
set_option maxHeartbeats 4000000 in
set_option maxRecDepth 100000 in
theorem k_Lw_canonical {l : Launch} {G : jl_G} {d n : Nat} {h : Nat → va_E} {Kr : Option Value → Nat → (Nat → va_E) → Prop} (hl9 : l.stackTraces = false) {d' : Nat} (hdd : d' < d) {x o ck sk : Nat} {fs : List Value}  (hx : h x = jO 5 fs) (k : jl_Call l G m_St_canonical d' [.ref (x)] n h ck sk (fun r n' h' => ∃ (v : Int) (f : Nat → Int64), r = some (.int (zI v)) ∧ h' o = jJ 1 f ∧ Kr (some (.int (zI 0))) n' (va_up h' o (jJ 1 (vp_updL f (zI 0).toNatClampNeg ((zI v).toInt64))))) (fun E n' h' => (E = "java/lang/IllegalStateException" ∧ Kr (some (.int (zI (1)))) n' h'))) : jl_Call l G m_Lw_canonical d [.ref (x), .ref (o)] n h ck sk Kr (fun _ _ _ => False) := by
  refine jl_enterH hl9 (by decide) rfl (by simp [Value.category]) (Nat.le_of_ble_eq_true rfl) ?_
  show jl_AW l G (jl_F G Kr (fun _ _ _ => False)) m_Lw_canonical d 0 [some (.ref (x)), some (.ref (o)), none] [] n h ck sk
  refine jl_aload_n d_Lw_canonical_0 rfl rfl ?_
  refine jl_iconst (v := zI (0)) d_Lw_canonical_1 (by decide) ?_
  refine jl_aload_n d_Lw_canonical_2 rfl rfl ?_
  have e0 : ck = 0 + ck := (Nat.zero_add ck).symm
  have e1 : sk = 0 + sk := (Nat.zero_add sk).symm
  rw [e0, e1]
  refine jl_invVC (M' := m_St_canonical) (d' := d') (ck' := ck) (sk' := sk) (ck := 0) (sk := 0) (na := 0) (as := []) (st := [.int (zI (0)), .ref (o)]) (x := x) d_Lw_canonical_3 rfl hx rfl mw_Lw_38 ww_St_canonical sw_St_canonical nw_St cw_St_canonical rfl rfl (by decide +kernel) hdd (Nat.le_of_ble_eq_true rfl) (Nat.le_of_ble_eq_true rfl) (fun E n' h' hE => ?_) (jl_Call_mono k (fun r n' h' hr => ?_) (fun E n' h' hE => hE))
  · obtain ⟨q9, hk⟩ := hE
    subst q9
    refine ⟨[], (0, 8, 11, 24), [], 2, 1, rfl, ?_, by decide, by decide, lwk_24, lwc_24, Or.inr ⟨2, rfl, d_Lw_canonical_11, rfl⟩, by decide, ?_⟩
    · intro z hz; cases hz
    · show jl_AW l G (jl_F G Kr (fun _ _ _ => False)) m_Lw_canonical d 12 [some (.ref (x)), some (.ref (o)), none] [] n' h' 0 0
      refine jl_iconst (v := zI (1)) d_Lw_canonical_12 (by decide) ?_
      exact jl_iret d_Lw_canonical_13 rfl hk
  · obtain ⟨v, f, er, ho, hk⟩ := hr
    subst er
    show jl_AW l G (jl_F G Kr (fun _ _ _ => False)) m_Lw_canonical d 6 [some (.ref (x)), some (.ref (o)), none] [.int (zI (v)), .int (zI (0)), .ref (o)] n' h' 0 0
    refine jl_i2l d_Lw_canonical_6 ?_
    refine jl_last d_Lw_canonical_7 ho (zI_in (by decide) (by decide) (by decide)) ?_
    refine jl_goto (tgt := 14) d_Lw_canonical_8 (by decide) ?_
    refine jl_iconst (v := zI (0)) d_Lw_canonical_14 (by decide) ?_
    exact jl_iret d_Lw_canonical_15 rfl hk
set_option maxHeartbeats 4000000 in
set_option maxRecDepth 100000 in
theorem k_Lw_height {l : Launch} {G : jl_G} {d n : Nat} {h : Nat → va_E} {Kr : Option Value → Nat → (Nat → va_E) → Prop} (hl9 : l.stackTraces = false) {d' : Nat} (hdd : d' < d) {x o ck sk : Nat} {fs : List Value} {a : Int} {b : Int} (hx : h x = jO 5 fs) (k : jl_Call l G m_St_height d' [.ref (x), .int (zI (a)), .int (zI (b))] n h ck sk (fun r n' h' => ∃ (v : Int) (f : Nat → Int64), r = some (.int (zI v)) ∧ h' o = jJ 1 f ∧ Kr (some (.int (zI 0))) n' (va_up h' o (jJ 1 (vp_updL f (zI 0).toNatClampNeg ((zI v).toInt64))))) (fun E n' h' => (E = "java/lang/IndexOutOfBoundsException" ∧ Kr (some (.int (zI (1)))) n' h'))) : jl_Call l G m_Lw_height d [.ref (x), .int (zI (a)), .int (zI (b)), .ref (o)] n h ck sk Kr (fun _ _ _ => False) := by
  refine jl_enterH hl9 (by decide) rfl (by simp [Value.category]) (Nat.le_of_ble_eq_true rfl) ?_
  show jl_AW l G (jl_F G Kr (fun _ _ _ => False)) m_Lw_height d 0 [some (.ref (x)), some (.int (zI (a))), some (.int (zI (b))), some (.ref (o)), none] [] n h ck sk
  refine jl_aload_n d_Lw_height_0 rfl rfl ?_
  refine jl_iconst (v := zI (0)) d_Lw_height_1 (by decide) ?_
  refine jl_aload_n d_Lw_height_2 rfl rfl ?_
  refine jl_iload_n d_Lw_height_3 rfl rfl ?_
  refine jl_iload_n d_Lw_height_4 rfl rfl ?_
  have e0 : ck = 0 + ck := (Nat.zero_add ck).symm
  have e1 : sk = 0 + sk := (Nat.zero_add sk).symm
  rw [e0, e1]
  refine jl_invVC (M' := m_St_height) (d' := d') (ck' := ck) (sk' := sk) (ck := 0) (sk := 0) (na := 2) (as := [.int (zI (a)), .int (zI (b))]) (st := [.int (zI (0)), .ref (o)]) (x := x) d_Lw_height_5 rfl hx rfl mw_Lw_41 ww_St_height sw_St_height nw_St cw_St_height rfl rfl (by decide +kernel) hdd (Nat.le_of_ble_eq_true rfl) (Nat.le_of_ble_eq_true rfl) (fun E n' h' hE => ?_) (jl_Call_mono k (fun r n' h' hr => ?_) (fun E n' h' hE => hE))
  · obtain ⟨q9, hk⟩ := hE
    subst q9
    refine ⟨[], (0, 10, 13, 19), [], 4, 2, rfl, ?_, by decide, by decide, lwk_19, lwc_19, Or.inl ⟨d_Lw_height_13, rfl⟩, by decide, ?_⟩
    · intro z hz; cases hz
    · show jl_AW l G (jl_F G Kr (fun _ _ _ => False)) m_Lw_height d 15 [some (.ref (x)), some (.int (zI (a))), some (.int (zI (b))), some (.ref (o)), none] [] n' h' 0 0
      refine jl_iconst (v := zI (1)) d_Lw_height_15 (by decide) ?_
      exact jl_iret d_Lw_height_16 rfl hk
  · obtain ⟨v, f, er, ho, hk⟩ := hr
    subst er
    show jl_AW l G (jl_F G Kr (fun _ _ _ => False)) m_Lw_height d 8 [some (.ref (x)), some (.int (zI (a))), some (.int (zI (b))), some (.ref (o)), none] [.int (zI (v)), .int (zI (0)), .ref (o)] n' h' 0 0
    refine jl_i2l d_Lw_height_8 ?_
    refine jl_last d_Lw_height_9 ho (zI_in (by decide) (by decide) (by decide)) ?_
    refine jl_goto (tgt := 17) d_Lw_height_10 (by decide) ?_
    refine jl_iconst (v := zI (0)) d_Lw_height_17 (by decide) ?_
    exact jl_iret d_Lw_height_18 rfl hk
set_option maxHeartbeats 4000000 in
set_option maxRecDepth 100000 in
theorem k_Lw_save {l : Launch} {G : jl_G} {d n : Nat} {h : Nat → va_E} {Kr : Option Value → Nat → (Nat → va_E) → Prop} (hl9 : l.stackTraces = false) {d' : Nat} (hdd : d' < d) {x o ck sk : Nat} {fs : List Value} {a : Int} (hx : h x = jO 5 fs) (k : jl_Call l G m_St_save d' [.ref (x), .int (zI (a))] n h ck sk (fun r n' h' => ∃ (v : Int) (f : Nat → Int64), r = some (.int (zI v)) ∧ (v = 0 ∨ v = 1) ∧ h' o = jJ 1 f ∧ Kr (some (.int (zI 0))) n' (va_up h' o (jJ 1 (vp_updL f (zI 0).toNatClampNeg ((if v = 0 then (0 : Int64) else 1)))))) (fun E n' h' => (E = "java/lang/IndexOutOfBoundsException" ∧ Kr (some (.int (zI (1)))) n' h'))) : jl_Call l G m_Lw_save d [.ref (x), .int (zI (a)), .ref (o)] n h ck sk Kr (fun _ _ _ => False) := by
  refine jl_enterH hl9 (by decide) rfl (by simp [Value.category]) (Nat.le_of_ble_eq_true rfl) ?_
  show jl_AW l G (jl_F G Kr (fun _ _ _ => False)) m_Lw_save d 0 [some (.ref (x)), some (.int (zI (a))), some (.ref (o)), none] [] n h ck sk
  refine jl_aload_n d_Lw_save_0 rfl rfl ?_
  refine jl_iconst (v := zI (0)) d_Lw_save_1 (by decide) ?_
  refine jl_aload_n d_Lw_save_2 rfl rfl ?_
  refine jl_iload_n d_Lw_save_3 rfl rfl ?_
  have e0 : ck = 0 + ck := (Nat.zero_add ck).symm
  have e1 : sk = 0 + sk := (Nat.zero_add sk).symm
  rw [e0, e1]
  refine jl_invVC (M' := m_St_save) (d' := d') (ck' := ck) (sk' := sk) (ck := 0) (sk := 0) (na := 1) (as := [.int (zI (a))]) (st := [.int (zI (0)), .ref (o)]) (x := x) d_Lw_save_4 rfl hx rfl mw_Lw_44 ww_St_save sw_St_save nw_St cw_St_save rfl rfl (by decide +kernel) hdd (Nat.le_of_ble_eq_true rfl) (Nat.le_of_ble_eq_true rfl) (fun E n' h' hE => ?_) (jl_Call_mono k (fun r n' h' hr => ?_) (fun E n' h' hE => hE))
  · obtain ⟨q9, hk⟩ := hE
    subst q9
    refine ⟨[], (0, 16, 19, 19), [], 3, 1, rfl, ?_, by decide, by decide, lwk_19, lwc_19, Or.inr ⟨3, rfl, d_Lw_save_19, rfl⟩, by decide, ?_⟩
    · intro z hz; cases hz
    · show jl_AW l G (jl_F G Kr (fun _ _ _ => False)) m_Lw_save d 20 [some (.ref (x)), some (.int (zI (a))), some (.ref (o)), none] [] n' h' 0 0
      refine jl_iconst (v := zI (1)) d_Lw_save_20 (by decide) ?_
      exact jl_iret d_Lw_save_21 rfl hk
  · obtain ⟨v, f, er, hv, ho, hk⟩ := hr
    subst er
    show jl_AW l G (jl_F G Kr (fun _ _ _ => False)) m_Lw_save d 7 [some (.ref (x)), some (.int (zI (a))), some (.ref (o)), none] [.int (zI (v)), .int (zI (0)), .ref (o)] n' h' 0 0
    refine jz_if_eq (tgt := 14) d_Lw_save_7 (by decide) ⟨by omega, by omega⟩ (fun q1 => ?_) (fun q1 => ?_)
    · refine jl_lconst (v := 0) d_Lw_save_14 rfl ?_
      refine jl_last d_Lw_save_15 ho (zI_in (by decide) (by decide) (by decide)) ?_
      refine jl_goto (tgt := 22) d_Lw_save_16 (by decide) ?_
      refine jl_iconst (v := zI (0)) d_Lw_save_22 (by decide) ?_
      exact jl_iret d_Lw_save_23 rfl (by rw [if_pos q1] at hk; exact hk)
    · refine jl_lconst (v := 1) d_Lw_save_10 rfl ?_
      refine jl_goto (tgt := 15) d_Lw_save_11 (by decide) ?_
      refine jl_last d_Lw_save_15 ho (zI_in (by decide) (by decide) (by decide)) ?_
      refine jl_goto (tgt := 22) d_Lw_save_16 (by decide) ?_
      refine jl_iconst (v := zI (0)) d_Lw_save_22 (by decide) ?_
      exact jl_iret d_Lw_save_23 rfl (by rw [if_neg q1] at hk; exact hk)
set_option maxHeartbeats 4000000 in
set_option maxRecDepth 100000 in
theorem k_Lw_load {l : Launch} {G : jl_G} {d n : Nat} {h : Nat → va_E} {Kr : Option Value → Nat → (Nat → va_E) → Prop} (hl9 : l.stackTraces = false) {d' : Nat} (hdd : d' < d) {x o ck sk : Nat} {fs : List Value} {a : Int} (hx : h x = jO 5 fs) (k : jl_Call l G m_St_load d' [.ref (x), .int (zI (a))] n h ck sk (fun r n' h' => ∃ (v : Int) (f : Nat → Int64), r = some (.int (zI v)) ∧ h' o = jJ 1 f ∧ Kr (some (.int (zI 0))) n' (va_up h' o (jJ 1 (vp_updL f (zI 0).toNatClampNeg ((zI v).toInt64))))) (fun E n' h' => (E = "java/lang/IndexOutOfBoundsException" ∧ Kr (some (.int (zI (1)))) n' h') ∨ (E = "java/util/NoSuchElementException" ∧ Kr (some (.int (zI (2)))) n' h'))) : jl_Call l G m_Lw_load d [.ref (x), .int (zI (a)), .ref (o)] n h ck sk Kr (fun _ _ _ => False) := by
  refine jl_enterH hl9 (by decide) rfl (by simp [Value.category]) (Nat.le_of_ble_eq_true rfl) ?_
  show jl_AW l G (jl_F G Kr (fun _ _ _ => False)) m_Lw_load d 0 [some (.ref (x)), some (.int (zI (a))), some (.ref (o)), none] [] n h ck sk
  refine jl_aload_n d_Lw_load_0 rfl rfl ?_
  refine jl_iconst (v := zI (0)) d_Lw_load_1 (by decide) ?_
  refine jl_aload_n d_Lw_load_2 rfl rfl ?_
  refine jl_iload_n d_Lw_load_3 rfl rfl ?_
  have e0 : ck = 0 + ck := (Nat.zero_add ck).symm
  have e1 : sk = 0 + sk := (Nat.zero_add sk).symm
  rw [e0, e1]
  refine jl_invVC (M' := m_St_load) (d' := d') (ck' := ck) (sk' := sk) (ck := 0) (sk := 0) (na := 1) (as := [.int (zI (a))]) (st := [.int (zI (0)), .ref (o)]) (x := x) d_Lw_load_4 rfl hx rfl mw_Lw_48 ww_St_load sw_St_load nw_St cw_St_load rfl rfl (by decide +kernel) hdd (Nat.le_of_ble_eq_true rfl) (Nat.le_of_ble_eq_true rfl) (fun E n' h' hE => ?_) (jl_Call_mono k (fun r n' h' hr => ?_) (fun E n' h' hE => hE))
  · rcases hE with ⟨q9, hk⟩ | ⟨q9, hk⟩
    · subst q9
      refine ⟨[], (0, 9, 12, 19), [(0, 9, 15, 51)], 3, 1, rfl, ?_, by decide, by decide, lwk_19, lwc_19, Or.inr ⟨3, rfl, d_Lw_load_12, rfl⟩, by decide, ?_⟩
      · intro z hz; cases hz
      · show jl_AW l G (jl_F G Kr (fun _ _ _ => False)) m_Lw_load d 13 [some (.ref (x)), some (.int (zI (a))), some (.ref (o)), none] [] n' h' 0 0
        refine jl_iconst (v := zI (1)) d_Lw_load_13 (by decide) ?_
        exact jl_iret d_Lw_load_14 rfl hk
    · subst q9
      refine ⟨[(0, 9, 12, 19)], (0, 9, 15, 51), [], 3, 1, rfl, ?_, by decide, by decide, lwk_51, lwc_51, Or.inr ⟨3, rfl, d_Lw_load_15, rfl⟩, by decide, ?_⟩
      · intro z hz
        simp only [List.mem_cons, List.not_mem_nil, or_false] at hz
        skip
        subst hz; exact ⟨by decide, _, lwk_19, by decide⟩
      · show jl_AW l G (jl_F G Kr (fun _ _ _ => False)) m_Lw_load d 16 [some (.ref (x)), some (.int (zI (a))), some (.ref (o)), none] [] n' h' 0 0
        refine jl_iconst (v := zI (2)) d_Lw_load_16 (by decide) ?_
        exact jl_iret d_Lw_load_17 rfl hk
  · obtain ⟨v, f, er, ho, hk⟩ := hr
    subst er
    show jl_AW l G (jl_F G Kr (fun _ _ _ => False)) m_Lw_load d 7 [some (.ref (x)), some (.int (zI (a))), some (.ref (o)), none] [.int (zI (v)), .int (zI (0)), .ref (o)] n' h' 0 0
    refine jl_i2l d_Lw_load_7 ?_
    refine jl_last d_Lw_load_8 ho (zI_in (by decide) (by decide) (by decide)) ?_
    refine jl_goto (tgt := 18) d_Lw_load_9 (by decide) ?_
    refine jl_iconst (v := zI (0)) d_Lw_load_18 (by decide) ?_
    exact jl_iret d_Lw_load_19 rfl hk
set_option maxHeartbeats 4000000 in
set_option maxRecDepth 100000 in
theorem k_Lw_join {l : Launch} {G : jl_G} {d n : Nat} {h : Nat → va_E} {Kr : Option Value → Nat → (Nat → va_E) → Prop} (hl9 : l.stackTraces = false) {d' : Nat} (hdd : d' < d) {x o ck sk : Nat} {fs : List Value} {a : Int} {b : Int} (hx : h x = jO 5 fs) (k : jl_Call l G m_St_join d' [.ref (x), .int (zI (a)), .int (zI (b))] n h ck sk (fun r n' h' => ∃ (v : Int) (f : Nat → Int64), r = some (.int (zI v)) ∧ h' o = jJ 1 f ∧ Kr (some (.int (zI 0))) n' (va_up h' o (jJ 1 (vp_updL f (zI 0).toNatClampNeg ((zI v).toInt64))))) (fun E n' h' => (E = "java/lang/IndexOutOfBoundsException" ∧ Kr (some (.int (zI (1)))) n' h') ∨ (E = "java/util/NoSuchElementException" ∧ Kr (some (.int (zI (2)))) n' h') ∨ (E = "java/lang/IllegalArgumentException" ∧ Kr (some (.int (zI (3)))) n' h'))) : jl_Call l G m_Lw_join d [.ref (x), .int (zI (a)), .int (zI (b)), .ref (o)] n h ck sk Kr (fun _ _ _ => False) := by
  refine jl_enterH hl9 (by decide) rfl (by simp [Value.category]) (Nat.le_of_ble_eq_true rfl) ?_
  show jl_AW l G (jl_F G Kr (fun _ _ _ => False)) m_Lw_join d 0 [some (.ref (x)), some (.int (zI (a))), some (.int (zI (b))), some (.ref (o)), none] [] n h ck sk
  refine jl_aload_n d_Lw_join_0 rfl rfl ?_
  refine jl_iconst (v := zI (0)) d_Lw_join_1 (by decide) ?_
  refine jl_aload_n d_Lw_join_2 rfl rfl ?_
  refine jl_iload_n d_Lw_join_3 rfl rfl ?_
  refine jl_iload_n d_Lw_join_4 rfl rfl ?_
  have e0 : ck = 0 + ck := (Nat.zero_add ck).symm
  have e1 : sk = 0 + sk := (Nat.zero_add sk).symm
  rw [e0, e1]
  refine jl_invVC (M' := m_St_join) (d' := d') (ck' := ck) (sk' := sk) (ck := 0) (sk := 0) (na := 2) (as := [.int (zI (a)), .int (zI (b))]) (st := [.int (zI (0)), .ref (o)]) (x := x) d_Lw_join_5 rfl hx rfl mw_Lw_53 ww_St_join sw_St_join nw_St cw_St_join rfl rfl (by decide +kernel) hdd (Nat.le_of_ble_eq_true rfl) (Nat.le_of_ble_eq_true rfl) (fun E n' h' hE => ?_) (jl_Call_mono k (fun r n' h' hr => ?_) (fun E n' h' hE => hE))
  · rcases hE with ⟨q9, hk⟩ | ⟨q9, hk⟩ | ⟨q9, hk⟩
    · subst q9
      refine ⟨[], (0, 10, 13, 19), [(0, 10, 17, 51), (0, 10, 21, 13)], 4, 2, rfl, ?_, by decide, by decide, lwk_19, lwc_19, Or.inl ⟨d_Lw_join_13, rfl⟩, by decide, ?_⟩
      · intro z hz; cases hz
      · show jl_AW l G (jl_F G Kr (fun _ _ _ => False)) m_Lw_join d 15 [some (.ref (x)), some (.int (zI (a))), some (.int (zI (b))), some (.ref (o)), none] [] n' h' 0 0
        refine jl_iconst (v := zI (1)) d_Lw_join_15 (by decide) ?_
        exact jl_iret d_Lw_join_16 rfl hk
    · subst q9
      refine ⟨[(0, 10, 13, 19)], (0, 10, 17, 51), [(0, 10, 21, 13)], 4, 2, rfl, ?_, by decide, by decide, lwk_51, lwc_51, Or.inl ⟨d_Lw_join_17, rfl⟩, by decide, ?_⟩
      · intro z hz
        simp only [List.mem_cons, List.not_mem_nil, or_false] at hz
        skip
        subst hz; exact ⟨by decide, _, lwk_19, by decide⟩
      · show jl_AW l G (jl_F G Kr (fun _ _ _ => False)) m_Lw_join d 19 [some (.ref (x)), some (.int (zI (a))), some (.int (zI (b))), some (.ref (o)), none] [] n' h' 0 0
        refine jl_iconst (v := zI (2)) d_Lw_join_19 (by decide) ?_
        exact jl_iret d_Lw_join_20 rfl hk
    · subst q9
      refine ⟨[(0, 10, 13, 19), (0, 10, 17, 51)], (0, 10, 21, 13), [], 4, 2, rfl, ?_, by decide, by decide, lwk_13, lwc_13, Or.inl ⟨d_Lw_join_21, rfl⟩, by decide, ?_⟩
      · intro z hz
        simp only [List.mem_cons, List.not_mem_nil, or_false] at hz
        rcases hz with hz | hz
        · subst hz; exact ⟨by decide, _, lwk_19, by decide⟩
        · subst hz; exact ⟨by decide, _, lwk_51, by decide⟩
      · show jl_AW l G (jl_F G Kr (fun _ _ _ => False)) m_Lw_join d 23 [some (.ref (x)), some (.int (zI (a))), some (.int (zI (b))), some (.ref (o)), none] [] n' h' 0 0
        refine jl_iconst (v := zI (3)) d_Lw_join_23 (by decide) ?_
        exact jl_iret d_Lw_join_24 rfl hk
  · obtain ⟨v, f, er, ho, hk⟩ := hr
    subst er
    show jl_AW l G (jl_F G Kr (fun _ _ _ => False)) m_Lw_join d 8 [some (.ref (x)), some (.int (zI (a))), some (.int (zI (b))), some (.ref (o)), none] [.int (zI (v)), .int (zI (0)), .ref (o)] n' h' 0 0
    refine jl_i2l d_Lw_join_8 ?_
    refine jl_last d_Lw_join_9 ho (zI_in (by decide) (by decide) (by decide)) ?_
    refine jl_goto (tgt := 25) d_Lw_join_10 (by decide) ?_
    refine jl_iconst (v := zI (0)) d_Lw_join_25 (by decide) ?_
    exact jl_iret d_Lw_join_26 rfl hk
set_option maxHeartbeats 4000000 in
set_option maxRecDepth 100000 in
theorem k_Lw_joinThrow {l : Launch} {G : jl_G} {d n : Nat} {h : Nat → va_E} {Kr : Option Value → Nat → (Nat → va_E) → Prop} (hl9 : l.stackTraces = false) {d' : Nat} (hdd : d' < d) {x o ck sk : Nat} {fs : List Value} {a : Int} (hx : h x = jO 5 fs) (k : jl_Call l G m_St_joinThrow d' [.ref (x), .int (zI (a))] n h ck sk (fun r n' h' => ∃ (v : Int) (f : Nat → Int64), r = some (.int (zI v)) ∧ h' o = jJ 1 f ∧ Kr (some (.int (zI 0))) n' (va_up h' o (jJ 1 (vp_updL f (zI 0).toNatClampNeg ((zI v).toInt64))))) (fun E n' h' => (E = "java/lang/IndexOutOfBoundsException" ∧ Kr (some (.int (zI (1)))) n' h'))) : jl_Call l G m_Lw_joinThrow d [.ref (x), .int (zI (a)), .ref (o)] n h ck sk Kr (fun _ _ _ => False) := by
  refine jl_enterH hl9 (by decide) rfl (by simp [Value.category]) (Nat.le_of_ble_eq_true rfl) ?_
  show jl_AW l G (jl_F G Kr (fun _ _ _ => False)) m_Lw_joinThrow d 0 [some (.ref (x)), some (.int (zI (a))), some (.ref (o)), none] [] n h ck sk
  refine jl_aload_n d_Lw_joinThrow_0 rfl rfl ?_
  refine jl_iconst (v := zI (0)) d_Lw_joinThrow_1 (by decide) ?_
  refine jl_aload_n d_Lw_joinThrow_2 rfl rfl ?_
  refine jl_iload_n d_Lw_joinThrow_3 rfl rfl ?_
  have e0 : ck = 0 + ck := (Nat.zero_add ck).symm
  have e1 : sk = 0 + sk := (Nat.zero_add sk).symm
  rw [e0, e1]
  refine jl_invVC (M' := m_St_joinThrow) (d' := d') (ck' := ck) (sk' := sk) (ck := 0) (sk := 0) (na := 1) (as := [.int (zI (a))]) (st := [.int (zI (0)), .ref (o)]) (x := x) d_Lw_joinThrow_4 rfl hx rfl mw_Lw_56 ww_St_joinThrow sw_St_joinThrow nw_St cw_St_joinThrow rfl rfl (by decide +kernel) hdd (Nat.le_of_ble_eq_true rfl) (Nat.le_of_ble_eq_true rfl) (fun E n' h' hE => ?_) (jl_Call_mono k (fun r n' h' hr => ?_) (fun E n' h' hE => hE))
  · obtain ⟨q9, hk⟩ := hE
    subst q9
    refine ⟨[], (0, 9, 12, 19), [], 3, 1, rfl, ?_, by decide, by decide, lwk_19, lwc_19, Or.inr ⟨3, rfl, d_Lw_joinThrow_12, rfl⟩, by decide, ?_⟩
    · intro z hz; cases hz
    · show jl_AW l G (jl_F G Kr (fun _ _ _ => False)) m_Lw_joinThrow d 13 [some (.ref (x)), some (.int (zI (a))), some (.ref (o)), none] [] n' h' 0 0
      refine jl_iconst (v := zI (1)) d_Lw_joinThrow_13 (by decide) ?_
      exact jl_iret d_Lw_joinThrow_14 rfl hk
  · obtain ⟨v, f, er, ho, hk⟩ := hr
    subst er
    show jl_AW l G (jl_F G Kr (fun _ _ _ => False)) m_Lw_joinThrow d 7 [some (.ref (x)), some (.int (zI (a))), some (.ref (o)), none] [.int (zI (v)), .int (zI (0)), .ref (o)] n' h' 0 0
    refine jl_i2l d_Lw_joinThrow_7 ?_
    refine jl_last d_Lw_joinThrow_8 ho (zI_in (by decide) (by decide) (by decide)) ?_
    refine jl_goto (tgt := 15) d_Lw_joinThrow_9 (by decide) ?_
    refine jl_iconst (v := zI (0)) d_Lw_joinThrow_15 (by decide) ?_
    exact jl_iret d_Lw_joinThrow_16 rfl hk
set_option maxHeartbeats 4000000 in
set_option maxRecDepth 100000 in
theorem k_Lw_joinAt {l : Launch} {G : jl_G} {d n : Nat} {h : Nat → va_E} {Kr : Option Value → Nat → (Nat → va_E) → Prop} (hl9 : l.stackTraces = false) {d' : Nat} (hdd : d' < d) {x o ck sk : Nat} {fs : List Value} {a : Int} (hx : h x = jO 5 fs) (k : jl_Call l G m_St_joinAt d' [.ref (x), .int (zI (a))] n h ck sk (fun r n' h' => ∃ (v : Int) (f : Nat → Int64), r = some (.int (zI v)) ∧ h' o = jJ 1 f ∧ Kr (some (.int (zI 0))) n' (va_up h' o (jJ 1 (vp_updL f (zI 0).toNatClampNeg ((zI v).toInt64))))) (fun E n' h' => (E = "java/lang/IndexOutOfBoundsException" ∧ Kr (some (.int (zI (1)))) n' h'))) : jl_Call l G m_Lw_joinAt d [.ref (x), .int (zI (a)), .ref (o)] n h ck sk Kr (fun _ _ _ => False) := by
  refine jl_enterH hl9 (by decide) rfl (by simp [Value.category]) (Nat.le_of_ble_eq_true rfl) ?_
  show jl_AW l G (jl_F G Kr (fun _ _ _ => False)) m_Lw_joinAt d 0 [some (.ref (x)), some (.int (zI (a))), some (.ref (o)), none] [] n h ck sk
  refine jl_aload_n d_Lw_joinAt_0 rfl rfl ?_
  refine jl_iconst (v := zI (0)) d_Lw_joinAt_1 (by decide) ?_
  refine jl_aload_n d_Lw_joinAt_2 rfl rfl ?_
  refine jl_iload_n d_Lw_joinAt_3 rfl rfl ?_
  have e0 : ck = 0 + ck := (Nat.zero_add ck).symm
  have e1 : sk = 0 + sk := (Nat.zero_add sk).symm
  rw [e0, e1]
  refine jl_invVC (M' := m_St_joinAt) (d' := d') (ck' := ck) (sk' := sk) (ck := 0) (sk := 0) (na := 1) (as := [.int (zI (a))]) (st := [.int (zI (0)), .ref (o)]) (x := x) d_Lw_joinAt_4 rfl hx rfl mw_Lw_59 ww_St_joinAt sw_St_joinAt nw_St cw_St_joinAt rfl rfl (by decide +kernel) hdd (Nat.le_of_ble_eq_true rfl) (Nat.le_of_ble_eq_true rfl) (fun E n' h' hE => ?_) (jl_Call_mono k (fun r n' h' hr => ?_) (fun E n' h' hE => hE))
  · obtain ⟨q9, hk⟩ := hE
    subst q9
    refine ⟨[], (0, 9, 12, 19), [], 3, 1, rfl, ?_, by decide, by decide, lwk_19, lwc_19, Or.inr ⟨3, rfl, d_Lw_joinAt_12, rfl⟩, by decide, ?_⟩
    · intro z hz; cases hz
    · show jl_AW l G (jl_F G Kr (fun _ _ _ => False)) m_Lw_joinAt d 13 [some (.ref (x)), some (.int (zI (a))), some (.ref (o)), none] [] n' h' 0 0
      refine jl_iconst (v := zI (1)) d_Lw_joinAt_13 (by decide) ?_
      exact jl_iret d_Lw_joinAt_14 rfl hk
  · obtain ⟨v, f, er, ho, hk⟩ := hr
    subst er
    show jl_AW l G (jl_F G Kr (fun _ _ _ => False)) m_Lw_joinAt d 7 [some (.ref (x)), some (.int (zI (a))), some (.ref (o)), none] [.int (zI (v)), .int (zI (0)), .ref (o)] n' h' 0 0
    refine jl_i2l d_Lw_joinAt_7 ?_
    refine jl_last d_Lw_joinAt_8 ho (zI_in (by decide) (by decide) (by decide)) ?_
    refine jl_goto (tgt := 15) d_Lw_joinAt_9 (by decide) ?_
    refine jl_iconst (v := zI (0)) d_Lw_joinAt_15 (by decide) ?_
    exact jl_iret d_Lw_joinAt_16 rfl hk
set_option maxHeartbeats 4000000 in
set_option maxRecDepth 100000 in
theorem k_Lw_countValid {l : Launch} {G : jl_G} {d n : Nat} {h : Nat → va_E} {Kr : Option Value → Nat → (Nat → va_E) → Prop} (hl9 : l.stackTraces = false) {d' : Nat} (hdd : d' < d) {x o ck sk : Nat} {fs : List Value} {a : Int} {b : Int} (hx : h x = jO 5 fs) (k : jl_Call l G m_St_countValid d' [.ref (x), .int (zI (a)), .int (zI (b))] n h ck sk (fun r n' h' => ∃ (v : Int) (f : Nat → Int64), r = some (.int (zI v)) ∧ h' o = jJ 1 f ∧ Kr (some (.int (zI 0))) n' (va_up h' o (jJ 1 (vp_updL f (zI 0).toNatClampNeg ((zI v).toInt64))))) (fun E n' h' => (E = "java/lang/IllegalArgumentException" ∧ Kr (some (.int (zI (1)))) n' h'))) : jl_Call l G m_Lw_countValid d [.ref (x), .int (zI (a)), .int (zI (b)), .ref (o)] n h ck sk Kr (fun _ _ _ => False) := by
  refine jl_enterH hl9 (by decide) rfl (by simp [Value.category]) (Nat.le_of_ble_eq_true rfl) ?_
  show jl_AW l G (jl_F G Kr (fun _ _ _ => False)) m_Lw_countValid d 0 [some (.ref (x)), some (.int (zI (a))), some (.int (zI (b))), some (.ref (o)), none] [] n h ck sk
  refine jl_aload_n d_Lw_countValid_0 rfl rfl ?_
  refine jl_iconst (v := zI (0)) d_Lw_countValid_1 (by decide) ?_
  refine jl_aload_n d_Lw_countValid_2 rfl rfl ?_
  refine jl_iload_n d_Lw_countValid_3 rfl rfl ?_
  refine jl_iload_n d_Lw_countValid_4 rfl rfl ?_
  have e0 : ck = 0 + ck := (Nat.zero_add ck).symm
  have e1 : sk = 0 + sk := (Nat.zero_add sk).symm
  rw [e0, e1]
  refine jl_invVC (M' := m_St_countValid) (d' := d') (ck' := ck) (sk' := sk) (ck := 0) (sk := 0) (na := 2) (as := [.int (zI (a)), .int (zI (b))]) (st := [.int (zI (0)), .ref (o)]) (x := x) d_Lw_countValid_5 rfl hx rfl mw_Lw_62 ww_St_countValid sw_St_countValid nw_St cw_St_countValid rfl rfl (by decide +kernel) hdd (Nat.le_of_ble_eq_true rfl) (Nat.le_of_ble_eq_true rfl) (fun E n' h' hE => ?_) (jl_Call_mono k (fun r n' h' hr => ?_) (fun E n' h' hE => hE))
  · obtain ⟨q9, hk⟩ := hE
    subst q9
    refine ⟨[], (0, 10, 13, 13), [], 4, 2, rfl, ?_, by decide, by decide, lwk_13, lwc_13, Or.inl ⟨d_Lw_countValid_13, rfl⟩, by decide, ?_⟩
    · intro z hz; cases hz
    · show jl_AW l G (jl_F G Kr (fun _ _ _ => False)) m_Lw_countValid d 15 [some (.ref (x)), some (.int (zI (a))), some (.int (zI (b))), some (.ref (o)), none] [] n' h' 0 0
      refine jl_iconst (v := zI (1)) d_Lw_countValid_15 (by decide) ?_
      exact jl_iret d_Lw_countValid_16 rfl hk
  · obtain ⟨v, f, er, ho, hk⟩ := hr
    subst er
    show jl_AW l G (jl_F G Kr (fun _ _ _ => False)) m_Lw_countValid d 8 [some (.ref (x)), some (.int (zI (a))), some (.int (zI (b))), some (.ref (o)), none] [.int (zI (v)), .int (zI (0)), .ref (o)] n' h' 0 0
    refine jl_i2l d_Lw_countValid_8 ?_
    refine jl_last d_Lw_countValid_9 ho (zI_in (by decide) (by decide) (by decide)) ?_
    refine jl_goto (tgt := 17) d_Lw_countValid_10 (by decide) ?_
    refine jl_iconst (v := zI (0)) d_Lw_countValid_17 (by decide) ?_
    exact jl_iret d_Lw_countValid_18 rfl hk
set_option maxHeartbeats 4000000 in
set_option maxRecDepth 100000 in
theorem k_Lw_cycle {l : Launch} {G : jl_G} {d n : Nat} {h : Nat → va_E} {Kr : Option Value → Nat → (Nat → va_E) → Prop} (hl9 : l.stackTraces = false) {d' : Nat} (hdd : d' < d) {x o ck sk : Nat} {fs : List Value} {a : Int} {b : Int} (hx : h x = jO 5 fs) (k : jl_Call l G m_St_cycle d' [.ref (x), .int (zI (a)), .int (zI (b))] n h ck sk (fun r n' h' => ∃ (v : Int) (f : Nat → Int64), r = some (.int (zI v)) ∧ h' o = jJ 1 f ∧ Kr (some (.int (zI 0))) n' (va_up h' o (jJ 1 (vp_updL f (zI 0).toNatClampNeg ((zI v).toInt64))))) (fun E n' h' => (E = "java/lang/IllegalArgumentException" ∧ Kr (some (.int (zI (1)))) n' h') ∨ (E = "java/util/NoSuchElementException" ∧ Kr (some (.int (zI (2)))) n' h'))) : jl_Call l G m_Lw_cycle d [.ref (x), .int (zI (a)), .int (zI (b)), .ref (o)] n h ck sk Kr (fun _ _ _ => False) := by
  refine jl_enterH hl9 (by decide) rfl (by simp [Value.category]) (Nat.le_of_ble_eq_true rfl) ?_
  show jl_AW l G (jl_F G Kr (fun _ _ _ => False)) m_Lw_cycle d 0 [some (.ref (x)), some (.int (zI (a))), some (.int (zI (b))), some (.ref (o)), none] [] n h ck sk
  refine jl_aload_n d_Lw_cycle_0 rfl rfl ?_
  refine jl_iconst (v := zI (0)) d_Lw_cycle_1 (by decide) ?_
  refine jl_aload_n d_Lw_cycle_2 rfl rfl ?_
  refine jl_iload_n d_Lw_cycle_3 rfl rfl ?_
  refine jl_iload_n d_Lw_cycle_4 rfl rfl ?_
  have e0 : ck = 0 + ck := (Nat.zero_add ck).symm
  have e1 : sk = 0 + sk := (Nat.zero_add sk).symm
  rw [e0, e1]
  refine jl_invVC (M' := m_St_cycle) (d' := d') (ck' := ck) (sk' := sk) (ck := 0) (sk := 0) (na := 2) (as := [.int (zI (a)), .int (zI (b))]) (st := [.int (zI (0)), .ref (o)]) (x := x) d_Lw_cycle_5 rfl hx rfl mw_Lw_65 ww_St_cycle sw_St_cycle nw_St cw_St_cycle rfl rfl (by decide +kernel) hdd (Nat.le_of_ble_eq_true rfl) (Nat.le_of_ble_eq_true rfl) (fun E n' h' hE => ?_) (jl_Call_mono k (fun r n' h' hr => ?_) (fun E n' h' hE => hE))
  · rcases hE with ⟨q9, hk⟩ | ⟨q9, hk⟩
    · subst q9
      refine ⟨[], (0, 10, 13, 13), [(0, 10, 17, 51)], 4, 2, rfl, ?_, by decide, by decide, lwk_13, lwc_13, Or.inl ⟨d_Lw_cycle_13, rfl⟩, by decide, ?_⟩
      · intro z hz; cases hz
      · show jl_AW l G (jl_F G Kr (fun _ _ _ => False)) m_Lw_cycle d 15 [some (.ref (x)), some (.int (zI (a))), some (.int (zI (b))), some (.ref (o)), none] [] n' h' 0 0
        refine jl_iconst (v := zI (1)) d_Lw_cycle_15 (by decide) ?_
        exact jl_iret d_Lw_cycle_16 rfl hk
    · subst q9
      refine ⟨[(0, 10, 13, 13)], (0, 10, 17, 51), [], 4, 2, rfl, ?_, by decide, by decide, lwk_51, lwc_51, Or.inl ⟨d_Lw_cycle_17, rfl⟩, by decide, ?_⟩
      · intro z hz
        simp only [List.mem_cons, List.not_mem_nil, or_false] at hz
        skip
        subst hz; exact ⟨by decide, _, lwk_13, by decide⟩
      · show jl_AW l G (jl_F G Kr (fun _ _ _ => False)) m_Lw_cycle d 19 [some (.ref (x)), some (.int (zI (a))), some (.int (zI (b))), some (.ref (o)), none] [] n' h' 0 0
        refine jl_iconst (v := zI (2)) d_Lw_cycle_19 (by decide) ?_
        exact jl_iret d_Lw_cycle_20 rfl hk
  · obtain ⟨v, f, er, ho, hk⟩ := hr
    subst er
    show jl_AW l G (jl_F G Kr (fun _ _ _ => False)) m_Lw_cycle d 8 [some (.ref (x)), some (.int (zI (a))), some (.int (zI (b))), some (.ref (o)), none] [.int (zI (v)), .int (zI (0)), .ref (o)] n' h' 0 0
    refine jl_i2l d_Lw_cycle_8 ?_
    refine jl_last d_Lw_cycle_9 ho (zI_in (by decide) (by decide) (by decide)) ?_
    refine jl_goto (tgt := 21) d_Lw_cycle_10 (by decide) ?_
    refine jl_iconst (v := zI (0)) d_Lw_cycle_21 (by decide) ?_
    exact jl_iret d_Lw_cycle_22 rfl hk
set_option maxHeartbeats 4000000 in
set_option maxRecDepth 100000 in
theorem k_Lw_show {l : Launch} {G : jl_G} {d n : Nat} {h : Nat → va_E} {Kr : Option Value → Nat → (Nat → va_E) → Prop} (hl9 : l.stackTraces = false) {d' : Nat} (hdd : d' < d) {x o ck sk : Nat} {fs : List Value}  (hx : h x = jO 5 fs) (k : jl_Call l G m_St_show d' [.ref (x)] n h ck sk (fun r n' h' => ∃ (v : Int) (f : Nat → Int64), r = some (.int (zI v)) ∧ h' o = jJ 1 f ∧ Kr (some (.int (zI 0))) n' (va_up h' o (jJ 1 (vp_updL f (zI 0).toNatClampNeg ((zI v).toInt64))))) (fun E n' h' => (E = "java/lang/IllegalStateException" ∧ Kr (some (.int (zI (1)))) n' h'))) : jl_Call l G m_Lw_show d [.ref (x), .ref (o)] n h ck sk Kr (fun _ _ _ => False) := by
  refine jl_enterH hl9 (by decide) rfl (by simp [Value.category]) (Nat.le_of_ble_eq_true rfl) ?_
  show jl_AW l G (jl_F G Kr (fun _ _ _ => False)) m_Lw_show d 0 [some (.ref (x)), some (.ref (o)), none] [] n h ck sk
  refine jl_aload_n d_Lw_show_0 rfl rfl ?_
  refine jl_iconst (v := zI (0)) d_Lw_show_1 (by decide) ?_
  refine jl_aload_n d_Lw_show_2 rfl rfl ?_
  have e0 : ck = 0 + ck := (Nat.zero_add ck).symm
  have e1 : sk = 0 + sk := (Nat.zero_add sk).symm
  rw [e0, e1]
  refine jl_invVC (M' := m_St_show) (d' := d') (ck' := ck) (sk' := sk) (ck := 0) (sk := 0) (na := 0) (as := []) (st := [.int (zI (0)), .ref (o)]) (x := x) d_Lw_show_3 rfl hx rfl mw_Lw_68 ww_St_show sw_St_show nw_St cw_St_show rfl rfl (by decide +kernel) hdd (Nat.le_of_ble_eq_true rfl) (Nat.le_of_ble_eq_true rfl) (fun E n' h' hE => ?_) (jl_Call_mono k (fun r n' h' hr => ?_) (fun E n' h' hE => hE))
  · obtain ⟨q9, hk⟩ := hE
    subst q9
    refine ⟨[], (0, 8, 11, 24), [], 2, 1, rfl, ?_, by decide, by decide, lwk_24, lwc_24, Or.inr ⟨2, rfl, d_Lw_show_11, rfl⟩, by decide, ?_⟩
    · intro z hz; cases hz
    · show jl_AW l G (jl_F G Kr (fun _ _ _ => False)) m_Lw_show d 12 [some (.ref (x)), some (.ref (o)), none] [] n' h' 0 0
      refine jl_iconst (v := zI (1)) d_Lw_show_12 (by decide) ?_
      exact jl_iret d_Lw_show_13 rfl hk
  · obtain ⟨v, f, er, ho, hk⟩ := hr
    subst er
    show jl_AW l G (jl_F G Kr (fun _ _ _ => False)) m_Lw_show d 6 [some (.ref (x)), some (.ref (o)), none] [.int (zI (v)), .int (zI (0)), .ref (o)] n' h' 0 0
    refine jl_i2l d_Lw_show_6 ?_
    refine jl_last d_Lw_show_7 ho (zI_in (by decide) (by decide) (by decide)) ?_
    refine jl_goto (tgt := 14) d_Lw_show_8 (by decide) ?_
    refine jl_iconst (v := zI (0)) d_Lw_show_14 (by decide) ?_
    exact jl_iret d_Lw_show_15 rfl hk
set_option maxHeartbeats 4000000 in
set_option maxRecDepth 100000 in
theorem k_Lw_run {l : Launch} {G : jl_G} {d n : Nat} {h : Nat → va_E} {Kr : Option Value → Nat → (Nat → va_E) → Prop} (hl9 : l.stackTraces = false) {d' : Nat} (hdd : d' < d) {x o ck sk : Nat} {fs : List Value} {a : Int} (hx : h x = jO 5 fs) (k : jl_Call l G m_St_run d' [.ref (x), .int (zI (a))] n h ck sk (fun r n' h' => ∃ (v : Int) (f : Nat → Int64), r = some (.int (zI v)) ∧ h' o = jJ 1 f ∧ Kr (some (.int (zI 0))) n' (va_up h' o (jJ 1 (vp_updL f (zI 0).toNatClampNeg ((zI v).toInt64))))) (fun E n' h' => (E = "java/lang/IllegalArgumentException" ∧ Kr (some (.int (zI (1)))) n' h') ∨ (E = "java/lang/IllegalStateException" ∧ Kr (some (.int (zI (2)))) n' h'))) : jl_Call l G m_Lw_run d [.ref (x), .int (zI (a)), .ref (o)] n h ck sk Kr (fun _ _ _ => False) := by
  refine jl_enterH hl9 (by decide) rfl (by simp [Value.category]) (Nat.le_of_ble_eq_true rfl) ?_
  show jl_AW l G (jl_F G Kr (fun _ _ _ => False)) m_Lw_run d 0 [some (.ref (x)), some (.int (zI (a))), some (.ref (o)), none] [] n h ck sk
  refine jl_aload_n d_Lw_run_0 rfl rfl ?_
  refine jl_iconst (v := zI (0)) d_Lw_run_1 (by decide) ?_
  refine jl_aload_n d_Lw_run_2 rfl rfl ?_
  refine jl_iload_n d_Lw_run_3 rfl rfl ?_
  have e0 : ck = 0 + ck := (Nat.zero_add ck).symm
  have e1 : sk = 0 + sk := (Nat.zero_add sk).symm
  rw [e0, e1]
  refine jl_invVC (M' := m_St_run) (d' := d') (ck' := ck) (sk' := sk) (ck := 0) (sk := 0) (na := 1) (as := [.int (zI (a))]) (st := [.int (zI (0)), .ref (o)]) (x := x) d_Lw_run_4 rfl hx rfl mw_Lw_71 ww_St_run sw_St_run nw_St cw_St_run rfl rfl (by decide +kernel) hdd (Nat.le_of_ble_eq_true rfl) (Nat.le_of_ble_eq_true rfl) (fun E n' h' hE => ?_) (jl_Call_mono k (fun r n' h' hr => ?_) (fun E n' h' hE => hE))
  · rcases hE with ⟨q9, hk⟩ | ⟨q9, hk⟩
    · subst q9
      refine ⟨[], (0, 9, 12, 13), [(0, 9, 15, 24)], 3, 1, rfl, ?_, by decide, by decide, lwk_13, lwc_13, Or.inr ⟨3, rfl, d_Lw_run_12, rfl⟩, by decide, ?_⟩
      · intro z hz; cases hz
      · show jl_AW l G (jl_F G Kr (fun _ _ _ => False)) m_Lw_run d 13 [some (.ref (x)), some (.int (zI (a))), some (.ref (o)), none] [] n' h' 0 0
        refine jl_iconst (v := zI (1)) d_Lw_run_13 (by decide) ?_
        exact jl_iret d_Lw_run_14 rfl hk
    · subst q9
      refine ⟨[(0, 9, 12, 13)], (0, 9, 15, 24), [], 3, 1, rfl, ?_, by decide, by decide, lwk_24, lwc_24, Or.inr ⟨3, rfl, d_Lw_run_15, rfl⟩, by decide, ?_⟩
      · intro z hz
        simp only [List.mem_cons, List.not_mem_nil, or_false] at hz
        skip
        subst hz; exact ⟨by decide, _, lwk_13, by decide⟩
      · show jl_AW l G (jl_F G Kr (fun _ _ _ => False)) m_Lw_run d 16 [some (.ref (x)), some (.int (zI (a))), some (.ref (o)), none] [] n' h' 0 0
        refine jl_iconst (v := zI (2)) d_Lw_run_16 (by decide) ?_
        exact jl_iret d_Lw_run_17 rfl hk
  · obtain ⟨v, f, er, ho, hk⟩ := hr
    subst er
    show jl_AW l G (jl_F G Kr (fun _ _ _ => False)) m_Lw_run d 7 [some (.ref (x)), some (.int (zI (a))), some (.ref (o)), none] [.int (zI (v)), .int (zI (0)), .ref (o)] n' h' 0 0
    refine jl_i2l d_Lw_run_7 ?_
    refine jl_last d_Lw_run_8 ho (zI_in (by decide) (by decide) (by decide)) ?_
    refine jl_goto (tgt := 18) d_Lw_run_9 (by decide) ?_
    refine jl_iconst (v := zI (0)) d_Lw_run_18 (by decide) ?_
    exact jl_iret d_Lw_run_19 rfl hk
set_option maxHeartbeats 4000000 in
set_option maxRecDepth 100000 in
theorem k_Lw_ball {l : Launch} {G : jl_G} {d n : Nat} {h : Nat → va_E} {Kr : Option Value → Nat → (Nat → va_E) → Prop} (hl9 : l.stackTraces = false) {d' : Nat} (hdd : d' < d) {x o ck sk : Nat} {fs : List Value} {a : Int} (hx : h x = jO 5 fs) (k : jl_Call l G m_St_ball d' [.ref (x), .int (zI (a))] n h ck sk (fun r n' h' => ∃ (v : Int) (f : Nat → Int64), r = some (.int (zI v)) ∧ h' o = jJ 1 f ∧ Kr (some (.int (zI 0))) n' (va_up h' o (jJ 1 (vp_updL f (zI 0).toNatClampNeg ((zI v).toInt64))))) (fun E n' h' => (E = "java/lang/IndexOutOfBoundsException" ∧ Kr (some (.int (zI (1)))) n' h'))) : jl_Call l G m_Lw_ball d [.ref (x), .int (zI (a)), .ref (o)] n h ck sk Kr (fun _ _ _ => False) := by
  refine jl_enterH hl9 (by decide) rfl (by simp [Value.category]) (Nat.le_of_ble_eq_true rfl) ?_
  show jl_AW l G (jl_F G Kr (fun _ _ _ => False)) m_Lw_ball d 0 [some (.ref (x)), some (.int (zI (a))), some (.ref (o)), none] [] n h ck sk
  refine jl_aload_n d_Lw_ball_0 rfl rfl ?_
  refine jl_iconst (v := zI (0)) d_Lw_ball_1 (by decide) ?_
  refine jl_aload_n d_Lw_ball_2 rfl rfl ?_
  refine jl_iload_n d_Lw_ball_3 rfl rfl ?_
  have e0 : ck = 0 + ck := (Nat.zero_add ck).symm
  have e1 : sk = 0 + sk := (Nat.zero_add sk).symm
  rw [e0, e1]
  refine jl_invVC (M' := m_St_ball) (d' := d') (ck' := ck) (sk' := sk) (ck := 0) (sk := 0) (na := 1) (as := [.int (zI (a))]) (st := [.int (zI (0)), .ref (o)]) (x := x) d_Lw_ball_4 rfl hx rfl mw_Lw_74 ww_St_ball sw_St_ball nw_St cw_St_ball rfl rfl (by decide +kernel) hdd (Nat.le_of_ble_eq_true rfl) (Nat.le_of_ble_eq_true rfl) (fun E n' h' hE => ?_) (jl_Call_mono k (fun r n' h' hr => ?_) (fun E n' h' hE => hE))
  · obtain ⟨q9, hk⟩ := hE
    subst q9
    refine ⟨[], (0, 9, 12, 19), [], 3, 1, rfl, ?_, by decide, by decide, lwk_19, lwc_19, Or.inr ⟨3, rfl, d_Lw_ball_12, rfl⟩, by decide, ?_⟩
    · intro z hz; cases hz
    · show jl_AW l G (jl_F G Kr (fun _ _ _ => False)) m_Lw_ball d 13 [some (.ref (x)), some (.int (zI (a))), some (.ref (o)), none] [] n' h' 0 0
      refine jl_iconst (v := zI (1)) d_Lw_ball_13 (by decide) ?_
      exact jl_iret d_Lw_ball_14 rfl hk
  · obtain ⟨v, f, er, ho, hk⟩ := hr
    subst er
    show jl_AW l G (jl_F G Kr (fun _ _ _ => False)) m_Lw_ball d 7 [some (.ref (x)), some (.int (zI (a))), some (.ref (o)), none] [.int (zI (v)), .int (zI (0)), .ref (o)] n' h' 0 0
    refine jl_i2l d_Lw_ball_7 ?_
    refine jl_last d_Lw_ball_8 ho (zI_in (by decide) (by decide) (by decide)) ?_
    refine jl_goto (tgt := 15) d_Lw_ball_9 (by decide) ?_
    refine jl_iconst (v := zI (0)) d_Lw_ball_15 (by decide) ?_
    exact jl_iret d_Lw_ball_16 rfl hk
set_option maxHeartbeats 4000000 in
set_option maxRecDepth 100000 in
theorem k_Lw_hand {l : Launch} {G : jl_G} {d n : Nat} {h : Nat → va_E} {Kr : Option Value → Nat → (Nat → va_E) → Prop} (hl9 : l.stackTraces = false) {d' : Nat} (hdd : d' < d) {x o ck sk : Nat} {fs : List Value} {a : Int} (hx : h x = jO 5 fs) (k : jl_Call l G m_St_hand d' [.ref (x), .int (zI (a))] n h ck sk (fun r n' h' => ∃ (v : Int) (f : Nat → Int64), r = some (.int (zI v)) ∧ h' o = jJ 1 f ∧ Kr (some (.int (zI 0))) n' (va_up h' o (jJ 1 (vp_updL f (zI 0).toNatClampNeg ((zI v).toInt64))))) (fun E n' h' => (E = "java/lang/IndexOutOfBoundsException" ∧ Kr (some (.int (zI (1)))) n' h'))) : jl_Call l G m_Lw_hand d [.ref (x), .int (zI (a)), .ref (o)] n h ck sk Kr (fun _ _ _ => False) := by
  refine jl_enterH hl9 (by decide) rfl (by simp [Value.category]) (Nat.le_of_ble_eq_true rfl) ?_
  show jl_AW l G (jl_F G Kr (fun _ _ _ => False)) m_Lw_hand d 0 [some (.ref (x)), some (.int (zI (a))), some (.ref (o)), none] [] n h ck sk
  refine jl_aload_n d_Lw_hand_0 rfl rfl ?_
  refine jl_iconst (v := zI (0)) d_Lw_hand_1 (by decide) ?_
  refine jl_aload_n d_Lw_hand_2 rfl rfl ?_
  refine jl_iload_n d_Lw_hand_3 rfl rfl ?_
  have e0 : ck = 0 + ck := (Nat.zero_add ck).symm
  have e1 : sk = 0 + sk := (Nat.zero_add sk).symm
  rw [e0, e1]
  refine jl_invVC (M' := m_St_hand) (d' := d') (ck' := ck) (sk' := sk) (ck := 0) (sk := 0) (na := 1) (as := [.int (zI (a))]) (st := [.int (zI (0)), .ref (o)]) (x := x) d_Lw_hand_4 rfl hx rfl mw_Lw_77 ww_St_hand sw_St_hand nw_St cw_St_hand rfl rfl (by decide +kernel) hdd (Nat.le_of_ble_eq_true rfl) (Nat.le_of_ble_eq_true rfl) (fun E n' h' hE => ?_) (jl_Call_mono k (fun r n' h' hr => ?_) (fun E n' h' hE => hE))
  · obtain ⟨q9, hk⟩ := hE
    subst q9
    refine ⟨[], (0, 9, 12, 19), [], 3, 1, rfl, ?_, by decide, by decide, lwk_19, lwc_19, Or.inr ⟨3, rfl, d_Lw_hand_12, rfl⟩, by decide, ?_⟩
    · intro z hz; cases hz
    · show jl_AW l G (jl_F G Kr (fun _ _ _ => False)) m_Lw_hand d 13 [some (.ref (x)), some (.int (zI (a))), some (.ref (o)), none] [] n' h' 0 0
      refine jl_iconst (v := zI (1)) d_Lw_hand_13 (by decide) ?_
      exact jl_iret d_Lw_hand_14 rfl hk
  · obtain ⟨v, f, er, ho, hk⟩ := hr
    subst er
    show jl_AW l G (jl_F G Kr (fun _ _ _ => False)) m_Lw_hand d 7 [some (.ref (x)), some (.int (zI (a))), some (.ref (o)), none] [.int (zI (v)), .int (zI (0)), .ref (o)] n' h' 0 0
    refine jl_i2l d_Lw_hand_7 ?_
    refine jl_last d_Lw_hand_8 ho (zI_in (by decide) (by decide) (by decide)) ?_
    refine jl_goto (tgt := 15) d_Lw_hand_9 (by decide) ?_
    refine jl_iconst (v := zI (0)) d_Lw_hand_15 (by decide) ?_
    exact jl_iret d_Lw_hand_16 rfl hk
set_option maxHeartbeats 4000000 in
set_option maxRecDepth 100000 in
theorem k_Lw_floor {l : Launch} {G : jl_G} {d n : Nat} {h : Nat → va_E} {Kr : Option Value → Nat → (Nat → va_E) → Prop} (hl9 : l.stackTraces = false) {d' : Nat} (hdd : d' < d) {x o ck sk : Nat} {fs : List Value} {a : Int} (hx : h x = jO 5 fs) (k : jl_Call l G m_St_floor d' [.ref (x), .int (zI (a))] n h ck sk (fun r n' h' => ∃ (v : Int) (f : Nat → Int64), r = some (.int (zI v)) ∧ h' o = jJ 1 f ∧ Kr (some (.int (zI 0))) n' (va_up h' o (jJ 1 (vp_updL f (zI 0).toNatClampNeg ((zI v).toInt64))))) (fun E n' h' => (E = "java/lang/IndexOutOfBoundsException" ∧ Kr (some (.int (zI (1)))) n' h') ∨ (E = "java/lang/IllegalStateException" ∧ Kr (some (.int (zI (2)))) n' h'))) : jl_Call l G m_Lw_floor d [.ref (x), .int (zI (a)), .ref (o)] n h ck sk Kr (fun _ _ _ => False) := by
  refine jl_enterH hl9 (by decide) rfl (by simp [Value.category]) (Nat.le_of_ble_eq_true rfl) ?_
  show jl_AW l G (jl_F G Kr (fun _ _ _ => False)) m_Lw_floor d 0 [some (.ref (x)), some (.int (zI (a))), some (.ref (o)), none] [] n h ck sk
  refine jl_aload_n d_Lw_floor_0 rfl rfl ?_
  refine jl_iconst (v := zI (0)) d_Lw_floor_1 (by decide) ?_
  refine jl_aload_n d_Lw_floor_2 rfl rfl ?_
  refine jl_iload_n d_Lw_floor_3 rfl rfl ?_
  have e0 : ck = 0 + ck := (Nat.zero_add ck).symm
  have e1 : sk = 0 + sk := (Nat.zero_add sk).symm
  rw [e0, e1]
  refine jl_invVC (M' := m_St_floor) (d' := d') (ck' := ck) (sk' := sk) (ck := 0) (sk := 0) (na := 1) (as := [.int (zI (a))]) (st := [.int (zI (0)), .ref (o)]) (x := x) d_Lw_floor_4 rfl hx rfl mw_Lw_80 ww_St_floor sw_St_floor nw_St cw_St_floor rfl rfl (by decide +kernel) hdd (Nat.le_of_ble_eq_true rfl) (Nat.le_of_ble_eq_true rfl) (fun E n' h' hE => ?_) (jl_Call_mono k (fun r n' h' hr => ?_) (fun E n' h' hE => hE))
  · rcases hE with ⟨q9, hk⟩ | ⟨q9, hk⟩
    · subst q9
      refine ⟨[], (0, 9, 12, 19), [(0, 9, 15, 24)], 3, 1, rfl, ?_, by decide, by decide, lwk_19, lwc_19, Or.inr ⟨3, rfl, d_Lw_floor_12, rfl⟩, by decide, ?_⟩
      · intro z hz; cases hz
      · show jl_AW l G (jl_F G Kr (fun _ _ _ => False)) m_Lw_floor d 13 [some (.ref (x)), some (.int (zI (a))), some (.ref (o)), none] [] n' h' 0 0
        refine jl_iconst (v := zI (1)) d_Lw_floor_13 (by decide) ?_
        exact jl_iret d_Lw_floor_14 rfl hk
    · subst q9
      refine ⟨[(0, 9, 12, 19)], (0, 9, 15, 24), [], 3, 1, rfl, ?_, by decide, by decide, lwk_24, lwc_24, Or.inr ⟨3, rfl, d_Lw_floor_15, rfl⟩, by decide, ?_⟩
      · intro z hz
        simp only [List.mem_cons, List.not_mem_nil, or_false] at hz
        skip
        subst hz; exact ⟨by decide, _, lwk_19, by decide⟩
      · show jl_AW l G (jl_F G Kr (fun _ _ _ => False)) m_Lw_floor d 16 [some (.ref (x)), some (.int (zI (a))), some (.ref (o)), none] [] n' h' 0 0
        refine jl_iconst (v := zI (2)) d_Lw_floor_16 (by decide) ?_
        exact jl_iret d_Lw_floor_17 rfl hk
  · obtain ⟨v, f, er, ho, hk⟩ := hr
    subst er
    show jl_AW l G (jl_F G Kr (fun _ _ _ => False)) m_Lw_floor d 7 [some (.ref (x)), some (.int (zI (a))), some (.ref (o)), none] [.int (zI (v)), .int (zI (0)), .ref (o)] n' h' 0 0
    refine jl_i2l d_Lw_floor_7 ?_
    refine jl_last d_Lw_floor_8 ho (zI_in (by decide) (by decide) (by decide)) ?_
    refine jl_goto (tgt := 18) d_Lw_floor_9 (by decide) ?_
    refine jl_iconst (v := zI (0)) d_Lw_floor_18 (by decide) ?_
    exact jl_iret d_Lw_floor_19 rfl hk
