/-! what is caught -/
theorem jl_L.drop {sb nL n i : Nat} {al : Nat → Nat} {ls ls' : Array Slot} {L : List (Option Value)} {w : Value} (h : jl_L sb nL n al ls L)
    (h' : lv_has ls' nL ((i, w) :: (jl_pr sb al L).filter (fun q => !(q.1 == i) && !(q.1 + 1 == i && q.2.category == 2)))) : jl_L sb nL n al ls' (L.set i none) := by
  refine ⟨h'.1, h'.2.1, fun j v hv => ?_⟩
  rw [List.getElem?_set] at hv
  by_cases e1 : i = j
  · subst e1
    rw [if_pos rfl] at hv
    split at hv
    · cases hv
    · cases hv
  · rw [if_neg e1] at hv
    obtain ⟨a1, a2, a3⟩ := h.2.2 j v hv
    refine ⟨h'.2.2 (j, jl_v sb al v) (List.mem_cons_of_mem _ (List.mem_filter.mpr ⟨jl_pr_mem.mpr ⟨v, hv, rfl⟩, ?_⟩)), a2, a3⟩
    have c1 : (jl_v sb al v).category = 1 := by
      cases v <;> first | exact a3 | rfl
    have e2 : (j == i) = false := by simp; exact fun q => e1 q.symm
    show (!(j == i) && !(j + 1 == i && (jl_v sb al v).category == 2)) = true
    rw [e2, c1]
    simp
/-- the row of a method's table that catches E at pc, and what comes behind it -/
def jl_H (l : Launch) (G : jl_G) (F : List Frame → Array Value → State → Nat → Nat → (Nat → Nat) → Nat → State → Prop) (M : jl_M) (d pc : Nat) (L : List (Option Value)) (n : Nat) (h : Nat → va_E) (ck sk : Nat) (E : String) : Prop :=
  ∃ (pre : List (Nat × Nat × Nat × Nat)) (x : Nat × Nat × Nat × Nat) (suf : List (Nat × Nat × Nat × Nat)) (i len : Nat), M.2.2.2.2 = pre ++ x :: suf ∧
    (∀ z ∈ pre, z.2.2.2 ≠ 0 ∧ ∃ nm : String, Cond.classLink M.1.cls z.2.2.2 nm ∈ jl_T ∧ (E, nm) ∈ jl_U) ∧ covers (⟨x.1, x.2.1, x.2.2.1, x.2.2.2⟩ : ExceptionTableEntry) pc = true ∧ x.2.2.2 ≠ 0 ∧ Cond.classLink M.1.cls x.2.2.2 E ∈ jl_T ∧ Cond.castable E E ∈ jl_N ∧
    ((decode M.2.1 x.2.2.1 = .ok (.astore i, 2) ∧ len = 2) ∨ ∃ a : Fin 4, (a : Nat) = i ∧ decode M.2.1 x.2.2.1 = .ok (.astore_n a, 1) ∧ len = 1) ∧ i < M.2.2.1 ∧ jl_AW l G F M d (x.2.2.1 + len) (L.set i none) [] n h ck sk
section JLC
variable {l : Launch} {G : jl_G} {F : List Frame → Array Value → State → Nat → Nat → (Nat → Nat) → Nat → State → Prop} {M : jl_M} {d pc : Nat} {L : List (Option Value)} {st : List Value} {n : Nat} {h : Nat → va_E} {ck sk : Nat}
theorem jl_invVC {Kx : String → Nat → (Nat → va_E) → Prop} {M' : jl_M} {ix d' ck' sk' na : Nat} {x : Nat} {ci N : Nat} {T : u_T} {fs : List Value} {as stk : List Value} (hd : decode M.2.1 pc = .ok (.invokevirtual ix, 3)) (hstk : stk = as.reverse ++ .ref x :: st) (he : h x = jO ci fs) (hci : vwCl[ci]? = some (M'.1.cls, T, N)) (w1 : Cond.methodLink M.1.cls ix M'.1 ∈ jl_T) (w2 : Cond.instanceMethod M'.1 ∈ jl_T) (w3 : Cond.selects M'.1.cls M'.1 M'.1 ∈ jl_T) (wi : Cond.initialized M'.1.cls ∈ jl_T) (wc : jl_cw M' ∈ jl_T) (hh' : M'.2.2.2.2 = []) (hna : as.length = na) (hy : M'.1.cls ≠ "java/lang/invoke/MethodHandle" ∧ M'.1.cls ≠ "java/lang/invoke/VarHandle" ∧ (parseMethodDescriptor M'.1.desc).map (fun d => d.parameters.length) = some na) (hd' : d' < d) (hml : M'.2.2.1 ≤ 45) (hc : (st.map fun v => v.category).sum ≤ 8)
    (kx : ∀ E n' h', Kx E n' h' → jl_H l G F M d pc L n' h' ck sk E)
    (k : jl_Call l G M' d' (.ref x :: as) n h ck' sk' (fun r n' h' => jl_AW l G F M d (pc + 3) L (r.toList ++ st) n' h' ck sk) Kx) : jl_AW l G F M d pc L stk n h (ck + ck') (sk + sk') := by
  intro p e R s m args below meth c al0 n0 mc ms al H locs ls cells slots C hR hE hl hs h1 h2
  obtain ⟨hK, hF1, hF2, hF3, hF4⟩ := id C.2.2.2.2.2.2
  subst hstk
  subst hna
  have hoa : jl_oks n (.ref x :: as) ∧ jl_oks n st := jl_oks_callR hs
  have hM := k al hR.2.1 hR.2.2.2 hoa.1
  have hcw : jl_cw M' = .code M'.1 M'.2.1 M'.2.2.1 M'.2.2.2.1 := by unfold jl_cw; rw [hh']
  have hfr : (jl_rm d' ck' sk').frames + 1 ≤ R.frames := by have q9 := jl_rm_fr d' ck' sk'; omega
  have hlo : 8 + (M'.2.2.1 + 11) + (jl_rm d' ck' sk').locals ≤ R.locals := by have q9 := jl_rm_lo d' ck' sk'; omega
  have hrun := vx_runV (C := M'.1.cls) (As := as.map (jl_v G.2.2.1 al)) (rest := st.map (jl_v G.2.2.1 al)) C.1 hM ⟨(callB_of as.length C.1.2.2.2.2 (jl_goodT (pre := []) (fun w hw => nomatch hw) wc) (by rw [hcw]) rfl rfl (C.1.2.2.2.2 _ wi) (C.1.2.2.2.2 _ w1) hy ⟨hfr, hlo⟩), C.1.2.2.2.2 _ w2, C.1.2.2.2.2 _ w3⟩ ⟨(jl_pre (as := .ref x :: as) hK hR).1, va_recv hK.1 hR.1 hci (jl_obj hoa.1.1 he), (jl_pre (as := .ref x :: as) hK hR).2⟩ (g := F0 m pc ls ((as.reverse ++ .ref x :: st).map (jl_v G.2.2.1 al))) (locs := locs) (cells := cells) (slots := slots) (below := below) (e := e) (meth := meth) rfl (by rw [List.length_map]) hl.1 (by rw [List.map_append, List.map_reverse, List.map_cons]; rfl) (lv_room (by rw [jl_cats]; exact hc)) hd ⟨by omega, by omega⟩
  refine jl_run hrun hR.2.2.1 (fun r n' h' al' H' locs' hk hE' hR' hro => ?_) (fun E ce q n' h' al' H' locs' hk hE' hR' hce hcv hcl => ?_)
  · have h9 := hk p e R s m args below meth c al0 n0 mc ms al' H' locs' ls (cells + ck') (slots + sk') C hR' ⟨Nat.le_trans hE.1 hE'.1, fun i hi => (hE'.2 i (Nat.lt_of_lt_of_le hi hE.1)).trans (hE.2 i hi)⟩ (hl.ext hE'.1 hE'.2) (jl_oks_app hro (jl_oks_mono hE'.1 hoa.2)) (by omega) (by omega)
    rw [List.map_append, jl_oks_map hE'.2 hoa.2] at h9
    cases r <;> exact h9
  · obtain ⟨pre, x9, suf, i, len, y1, y2, y3, y4, y5, y6, y7, y8, y9⟩ := kx E n' h' hk
    have hl9 := hl.ext hE'.1 hE'.2
    have hEE : jl_E n0 al0 n' al' := ⟨Nat.le_trans hE.1 hE'.1, fun i hi => (hE'.2 i (Nat.lt_of_lt_of_le hi hE.1)).trans (hE.2 i hi)⟩
    refine vx_catch (own := M.1.cls) (name := E) (E := E) C.1.2.2.2.1 (tableOf pre) ⟨x9.1, x9.2.1, x9.2.2.1, x9.2.2.2⟩ (tableOf suf) ?_ ?_ y3 y4 (C.1.2.2.2.2 _ y5) (va_Nw.use rfl (hK.2.1 _ y6)) hce hcv hcl ?_
    · rw [C.2.2.2.2.1, y1]
      unfold tableOf
      rw [List.map_append, List.map_cons]
    · intro z hz
      obtain ⟨w, hw, ew⟩ := List.mem_map.mp hz
      subst ew
      obtain ⟨v1, nm, v2, v3⟩ := y2 w hw
      exact Or.inr ⟨v1, nm, C.1.2.2.2.2 _ v2, hK.2.2.1.2.2 _ v3⟩
    · rcases y7 with ⟨z1, z2⟩ | ⟨a, z0, z1, z2⟩
      · subst z2
        exact lv_astore C.1.1 C.1.2.1 z1 hl9.has y8 rfl (fun ls' g' => y9 p e R s m args below meth c al0 n0 mc ms al' H' locs' ls' (cells + ck') (slots + sk') C hR' hEE (hl9.drop g') trivial (by omega) (by omega))
      · subst z2
        exact lv_astore_n C.1.1 C.1.2.1 z1 z0 hl9.has y8 rfl (fun ls' g' => y9 p e R s m args below meth c al0 n0 mc ms al' H' locs' ls' (cells + ck') (slots + sk') C hR' hEE (hl9.drop g') trivial (by omega) (by omega))
/-- a call of a static method that has a table of its own -/
theorem jl_invSH {M' : jl_M} {q9 : Nat × Nat × Nat × Nat} {r9 : List (Nat × Nat × Nat × Nat)} {ix d' ck' sk' na : Nat} {as stk : List Value} (hd : decode M.2.1 pc = .ok (.invokestatic ix, 3)) (hstk : stk = as.reverse ++ st) (w1 : Cond.methodLink M.1.cls ix M'.1 ∈ jl_T) (w2 : Cond.static M'.1 ∈ jl_T) (wi : Cond.initialized M'.1.cls ∈ jl_T) (wc : jl_cw M' ∈ jl_T) (hh' : M'.2.2.2.2 = q9 :: r9) (hna : as.length = na) (hy : M'.1.cls ≠ "java/lang/invoke/MethodHandle" ∧ M'.1.cls ≠ "java/lang/invoke/VarHandle" ∧ (parseMethodDescriptor M'.1.desc).map (fun d => d.parameters.length) = some na) (hd' : d' < d) (hml : M'.2.2.1 ≤ 45) (hc : (st.map fun v => v.category).sum ≤ 8)
    (k : jl_Call l G M' d' as n h ck' sk' (fun r n' h' => jl_AW l G F M d (pc + 3) L (r.toList ++ st) n' h' ck sk) (fun _ _ _ => False)) : jl_AW l G F M d pc L stk n h (ck + ck') (sk + sk') := by
  intro p e R s m args below meth c al0 n0 mc ms al H locs ls cells slots C hR hE hl hs h1 h2
  obtain ⟨hK, hF1, hF2, hF3, hF4⟩ := id C.2.2.2.2.2.2
  subst hstk
  subst hna
  have hoa : jl_oks n as ∧ jl_oks n st := jl_oks_call hs
  have hM := k al hR.2.1 hR.2.2.2 hoa.1
  have hcw : jl_cw M' = .codeWith M'.1 M'.2.1 M'.2.2.1 M'.2.2.2.1 M'.2.2.2.2 := by unfold jl_cw; split <;> first | rfl | (rename_i h8; rw [hh'] at h8; cases h8)
  have hfr : (jl_rm d' ck' sk').frames + 1 ≤ R.frames := by have q9 := jl_rm_fr d' ck' sk'; omega
  have hlo : 8 + (M'.2.2.1 + 11) + (jl_rm d' ck' sk').locals ≤ R.locals := by have q9 := jl_rm_lo d' ck' sk'; omega
  have hgd : GoodIn jl_T (va_wsS M.1.cls ix M'.1 (jl_cw M' :: jl_T)) := jl_goodT (pre := [.methodLink M.1.cls ix M'.1, .static M'.1, .initialized M'.1.cls]) (fun w hw => by
    rcases List.mem_cons.mp hw with q | hw
    · rw [q]; exact w1
    · rcases List.mem_cons.mp hw with q | hw
      · rw [q]; exact w2
      · rcases List.mem_cons.mp hw with q | hw
        · rw [q]; exact wi
        · cases hw) wc
  have hrun := vx_runSX (hh := M'.2.2.2.2) (As := as.map (jl_v G.2.2.1 al)) (rest := st.map (jl_v G.2.2.1 al)) C.1 hM (vx_cwSW as.length C.1.2.2.2.2 hgd (by rw [hcw]) rfl rfl hy ⟨hfr, hlo⟩) (jl_pre (as := as) hK hR) (g := F0 m pc ls ((as.reverse ++ st).map (jl_v G.2.2.1 al))) (locs := locs) (cells := cells) (slots := slots) (below := below) (e := e) (meth := meth) rfl (by rw [List.length_map]) hl.1 (by rw [List.map_append, List.map_reverse]) (lv_room (by rw [jl_cats]; exact hc)) hd ⟨by omega, by omega⟩
  refine jl_run hrun hR.2.2.1 (fun r n' h' al' H' locs' hk hE' hR' hro => ?_) (fun E ce q n' h' al' H' locs' hk hE' hR' hce hcv hcl => hk.elim)
  have h9 := hk p e R s m args below meth c al0 n0 mc ms al' H' locs' ls (cells + ck') (slots + sk') C hR' ⟨Nat.le_trans hE.1 hE'.1, fun i hi => (hE'.2 i (Nat.lt_of_lt_of_le hi hE.1)).trans (hE.2 i hi)⟩ (hl.ext hE'.1 hE'.2) (jl_oks_app hro (jl_oks_mono hE'.1 hoa.2)) (by omega) (by omega)
  rw [List.map_append, jl_oks_map hE'.2 hoa.2] at h9
  cases r <;> exact h9
theorem jl_tabIn {dflt lo hi : Int} {offs : Array Int} {len : Nat} {a off : Int} {tgt : Nat} (hd : decode M.2.1 pc = .ok (.tableswitch dflt lo hi offs, len)) (ha : zR a) (h1 : lo ≤ a) (h2 : a ≤ hi) (ho : offs[(a - lo).toNat]? = some off) (ht : (pc : Int) + off = (tgt : Int)) (k : jl_AW l G F M d tgt L st n h ck sk) : jl_AW l G F M d pc L (.int (zI a) :: st) n h ck sk := by
  intro p e R s m args below meth c al0 n0 mc ms al H locs ls cells slots C hR hE hl hs q1 q2
  have e9 : (zI a).toInt = a := zI_t ha
  exact lv_tableIn C.1.1 C.1.2.1 hd (by rw [e9]; omega) (by rw [e9]; omega) (by rw [e9]; exact ho) ht (k p e R s m args below meth c al0 n0 mc ms al H locs ls cells slots C hR hE hl hs.2 q1 q2)
theorem jl_tabOut {dflt lo hi : Int} {offs : Array Int} {len : Nat} {a : Int} {tgt : Nat} (hd : decode M.2.1 pc = .ok (.tableswitch dflt lo hi offs, len)) (ha : zR a) (h1 : a < lo ∨ hi < a) (ht : (pc : Int) + dflt = (tgt : Int)) (k : jl_AW l G F M d tgt L st n h ck sk) : jl_AW l G F M d pc L (.int (zI a) :: st) n h ck sk := by
  intro p e R s m args below meth c al0 n0 mc ms al H locs ls cells slots C hR hE hl hs q1 q2
  have e9 : (zI a).toInt = a := zI_t ha
  exact lv_tableOut C.1.1 C.1.2.1 hd (by rw [e9]; omega) ht (k p e R s m args below meth c al0 n0 mc ms al H locs ls cells slots C hR hE hl hs.2 q1 q2)
end JLC
theorem lwk_13 : Cond.classLink "SiteswapStudioLaw" 13 "java/lang/IllegalArgumentException" ∈ jl_T := jl_in (by decide +kernel) (by decide +kernel)
theorem lwk_19 : Cond.classLink "SiteswapStudioLaw" 19 "java/lang/IndexOutOfBoundsException" ∈ jl_T := jl_in (by decide +kernel) (by decide +kernel)
theorem lwk_24 : Cond.classLink "SiteswapStudioLaw" 24 "java/lang/IllegalStateException" ∈ jl_T := jl_in (by decide +kernel) (by decide +kernel)
theorem lwk_51 : Cond.classLink "SiteswapStudioLaw" 51 "java/util/NoSuchElementException" ∈ jl_T := jl_in (by decide +kernel) (by decide +kernel)
theorem lwc_13 : Cond.castable "java/lang/IllegalArgumentException" "java/lang/IllegalArgumentException" ∈ jl_N := jl_inN (by decide +kernel) (by decide +kernel)
theorem lwc_19 : Cond.castable "java/lang/IndexOutOfBoundsException" "java/lang/IndexOutOfBoundsException" ∈ jl_N := jl_inN (by decide +kernel) (by decide +kernel)
theorem lwc_24 : Cond.castable "java/lang/IllegalStateException" "java/lang/IllegalStateException" ∈ jl_N := jl_inN (by decide +kernel) (by decide +kernel)
theorem lwc_51 : Cond.castable "java/util/NoSuchElementException" "java/util/NoSuchElementException" ∈ jl_N := jl_inN (by decide +kernel) (by decide +kernel)
