/-! THE LAYER (pictures): the heap as a function from small numbers to cells; al gives each number its address. A value .ref i speaks of cell i; .float _ is the law's script. -/
def jl_v (sb : Nat) (al : Nat → Nat) : Value → Value
  | .ref i => .ref (al i)
  | .float _ => .ref sb
  | .int x => .int x
  | .long x => .long x
  | .double x => .double x
  | .null => .null
  | .retAddr k => .retAddr k
abbrev jl_S : Type := (Nat → Int32) ⊕ (Nat → Int64) ⊕ (Nat → UInt32) ⊕ (Nat → UInt64) ⊕ (Nat → Option Nat)
def jl_x (al : Nat → Nat) : jl_S → jl_S
  | .inl f => .inl f
  | .inr (.inl f) => .inr (.inl f)
  | .inr (.inr (.inl f)) => .inr (.inr (.inl f))
  | .inr (.inr (.inr (.inl f))) => .inr (.inr (.inr (.inl f)))
  | .inr (.inr (.inr (.inr f))) => .inr (.inr (.inr (.inr (fun j => (f j).map al))))
def jl_e (dA : Nat → ClassId) (sb : Nat) (al : Nat → Nat) : va_E → va_E
  | .inl a => .inl (dA a.1, a.2.1, jl_x al a.2.2)
  | .inr o => .inr (o.1, o.2.map (jl_v sb al))
def jl_w (dA : Nat → ClassId) (sb : Nat) (al : Nat → Nat) (n : Nat) (h : Nat → va_E) : va_W := (List.range n).map (fun i => (al i, jl_e dA sb al (h i)))
def jl_okv (n : Nat) : Value → Prop
  | .ref i => i < n
  | .float _ => True
  | .int _ => True
  | .long _ => True
  | .double _ => True
  | .null => True
  | .retAddr _ => True
def jl_oks (n : Nat) : List Value → Prop
  | [] => True
  | v :: r => jl_okv n v ∧ jl_oks n r
def jl_oke (n : Nat) : va_E → Prop
  | .inl a => ∀ f : Nat → Option Nat, a.2.2 = .inr (.inr (.inr (.inr f))) → ∀ j i, f j = some i → i < n
  | .inr o => ∀ v, v ∈ o.2 → jl_okv n v
/-- pictures of an int array, a long array, an array of references (t: which), an object -/
abbrev jI (n : Nat) (f : Nat → Int32) : va_E := .inl (0, n, .inl f)
abbrev jJ (n : Nat) (f : Nat → Int64) : va_E := .inl (1, n, .inr (.inl f))
abbrev jQ (t n : Nat) (f : Nat → Option Nat) : va_E := .inl (t, n, .inr (.inr (.inr (.inr f))))
abbrev jO (c : Nat) (fs : List Value) : va_E := .inr (c, fs)
theorem jl_cat (sb : Nat) (al : Nat → Nat) (v : Value) : (jl_v sb al v).category = v.category := by cases v <;> rfl
theorem jl_v_ext {sb n : Nat} {al al' : Nat → Nat} {v : Value} (h : jl_okv n v) (he : ∀ i, i < n → al' i = al i) : jl_v sb al' v = jl_v sb al v := by
  cases v with
  | ref i => exact congrArg Value.ref (he i h)
  | _ => rfl
theorem jl_okv_mono {n n' : Nat} {v : Value} (h : jl_okv n v) (hn : n ≤ n') : jl_okv n' v := by
  cases v with
  | ref i => exact Nat.lt_of_lt_of_le h hn
  | _ => exact trivial
theorem jl_oks_mono {n n' : Nat} (hn : n ≤ n') : ∀ {st : List Value}, jl_oks n st → jl_oks n' st
  | [], _ => trivial
  | _ :: _, h => ⟨jl_okv_mono h.1 hn, jl_oks_mono hn h.2⟩
theorem jl_oks_map {sb n : Nat} {al al' : Nat → Nat} (he : ∀ i, i < n → al' i = al i) : ∀ {st : List Value}, jl_oks n st → st.map (jl_v sb al') = st.map (jl_v sb al)
  | [], _ => rfl
  | _ :: _, h => by rw [List.map_cons, List.map_cons, jl_v_ext h.1 he, jl_oks_map he h.2]
theorem jl_oke_mono {n n' : Nat} {e : va_E} (h : jl_oke n e) (hn : n ≤ n') : jl_oke n' e := by
  cases e with
  | inl a => exact fun f hf j i hi => Nat.lt_of_lt_of_le (h f hf j i hi) hn
  | inr o => exact fun v hv => jl_okv_mono (h v hv) hn
theorem jl_e_ext {dA : Nat → ClassId} {sb n : Nat} {al al' : Nat → Nat} {e : va_E} (h : jl_oke n e) (he : ∀ i, i < n → al' i = al i) : jl_e dA sb al' e = jl_e dA sb al e := by
  cases e with
  | inl a =>
    obtain ⟨t, k, x⟩ := a
    show Sum.inl (dA t, k, jl_x al' x) = Sum.inl (dA t, k, jl_x al x)
    have hx : jl_x al' x = jl_x al x := by
      match x, h with
      | .inl f, _ => rfl
      | .inr (.inl f), _ => rfl
      | .inr (.inr (.inl f)), _ => rfl
      | .inr (.inr (.inr (.inl f))), _ => rfl
      | .inr (.inr (.inr (.inr f))), h =>
        have hf : (fun j => (f j).map al') = (fun j => (f j).map al) := by
          funext j
          cases hj : f j with
          | none => rfl
          | some i => exact congrArg some (he i (h f rfl j i hj))
        show (Sum.inr (Sum.inr (Sum.inr (Sum.inr (fun j => (f j).map al')))) : jl_S) = _
        rw [hf]
        rfl
    rw [hx]
  | inr o =>
    obtain ⟨c, fs⟩ := o
    show Sum.inr (c, fs.map (jl_v sb al')) = Sum.inr (c, fs.map (jl_v sb al))
    have hx : fs.map (jl_v sb al') = fs.map (jl_v sb al) := List.map_congr_left fun v hv => jl_v_ext (h v hv) he
    rw [hx]
theorem jl_w_get {dA : Nat → ClassId} {sb n k : Nat} {al : Nat → Nat} {h : Nat → va_E} (hk : k < n) : (jl_w dA sb al n h)[k]? = some (al k, jl_e dA sb al (h k)) := by
  simp [jl_w, hk]
theorem jl_w_len {dA : Nat → ClassId} {sb n : Nat} {al : Nat → Nat} {h : Nat → va_E} : (jl_w dA sb al n h).length = n := by simp [jl_w]
theorem jl_w_set {dA : Nat → ClassId} {sb n k : Nat} {al : Nat → Nat} {h : Nat → va_E} (hk : k < n) (e : va_E) : (jl_w dA sb al n h).set k (al k, jl_e dA sb al e) = jl_w dA sb al n (va_up h k e) := by
  apply List.ext_getElem?
  intro j
  by_cases hj : j < n
  · rw [jl_w_get hj, List.getElem?_set]
    by_cases e1 : k = j
    · subst e1
      rw [if_pos rfl, if_pos (by rw [jl_w_len]; exact hk), va_up_self]
    · rw [if_neg e1, jl_w_get hj, va_up_ne _ _ (Ne.symm e1)]
  · have h1 : n ≤ j := Nat.le_of_not_lt hj
    rw [List.getElem?_eq_none (by rw [List.length_set, jl_w_len]; exact h1), List.getElem?_eq_none (by rw [jl_w_len]; exact h1)]
theorem jl_w_new {dA : Nat → ClassId} {sb n q : Nat} {al : Nat → Nat} {h : Nat → va_E} (ho : ∀ i, i < n → jl_oke n (h i)) (e : va_E) : jl_w dA sb al n h ++ [(q, jl_e dA sb (va_up al n q) e)] = jl_w dA sb (va_up al n q) (n + 1) (va_up h n e) := by
  have h1 : jl_w dA sb (va_up al n q) (n + 1) (va_up h n e) = (List.range n).map (fun i => (va_up al n q i, jl_e dA sb (va_up al n q) (va_up h n e i))) ++ [(va_up al n q n, jl_e dA sb (va_up al n q) (va_up h n e n))] := by
    simp [jl_w, List.range_succ]
  rw [h1, va_up_self, va_up_self]
  congr 1
  refine List.map_congr_left fun i hi => ?_
  have hlt : i < n := List.mem_range.mp hi
  have hne : i ≠ n := Nat.ne_of_lt hlt
  rw [va_up_ne _ _ hne, va_up_ne _ _ hne, jl_e_ext (ho i hlt) (fun j hj => va_up_ne _ _ (Nat.ne_of_lt hj))]
/-- what is fixed in a run: the classes' numbers and slots, the array classes' numbers, the script's cell, where the law's own cells begin, the script -/
abbrev jl_G : Type := va_G × (Nat → ClassId) × Nat × Nat × Nat × (Nat → Int32)
abbrev jl_A (G : jl_G) : Nat → Prop := fun q => G.2.2.2.1 ≤ q
abbrev jl_W (G : jl_G) (al : Nat → Nat) (n : Nat) (h : Nat → va_E) : va_W := jl_w G.2.1 G.2.2.1 al n h
def jl_R (G : jl_G) (n : Nat) (h : Nat → va_E) (al : Nat → Nat) (s : State) (H : Heap) (locs : List Loc) : Prop :=
  va_P G.1 vwCl (jl_W G al n h) H ∧ va_D (jl_A G) (jl_W G al n h) ∧ va_S (jl_A G) s.heap H locs ∧ ∀ i, i < n → jl_oke n (h i)
def jl_L (sb nL n : Nat) (al : Nat → Nat) (ls : Array Slot) (L : List (Option Value)) : Prop :=
  ls.size = nL ∧ lv_wf ls ∧ ∀ (i : Nat) (v : Value), L[i]? = some (some v) → ls[i]? = some (.val (jl_v sb al v)) ∧ jl_okv n v ∧ v.category = 1
def jl_pr (sb : Nat) (al : Nat → Nat) (L : List (Option Value)) : List (Nat × Value) := (List.range L.length).filterMap (fun i => match L[i]? with
  | some (some v) => some (i, jl_v sb al v)
  | _ => none)
theorem jl_pr_mem {sb : Nat} {al : Nat → Nat} {L : List (Option Value)} {q : Nat × Value} : q ∈ jl_pr sb al L ↔ ∃ v, L[q.1]? = some (some v) ∧ q.2 = jl_v sb al v := by
  unfold jl_pr
  rw [List.mem_filterMap]
  constructor
  · rintro ⟨i, hi, h⟩
    cases hL : L[i]? with
    | none => rw [hL] at h; cases h
    | some o =>
      cases o with
      | none => rw [hL] at h; cases h
      | some v =>
        rw [hL] at h
        cases h
        exact ⟨v, hL, rfl⟩
  · rintro ⟨v, hv, h2⟩
    refine ⟨q.1, List.mem_range.mpr (List.getElem?_eq_some_iff.mp hv).1, ?_⟩
    rw [hv]
    show some (q.1, jl_v sb al v) = some q
    rw [← h2]
theorem jl_L.has {sb nL n : Nat} {al : Nat → Nat} {ls : Array Slot} {L : List (Option Value)} (h : jl_L sb nL n al ls L) : lv_has ls nL (jl_pr sb al L) := by
  refine ⟨h.1, h.2.1, fun q hq => ?_⟩
  obtain ⟨v, hv, h2⟩ := jl_pr_mem.mp hq
  rw [h2]
  exact (h.2.2 _ _ hv).1
theorem jl_L.put {sb nL n i : Nat} {al : Nat → Nat} {ls ls' : Array Slot} {L : List (Option Value)} {x : Value} (h : jl_L sb nL n al ls L) (hx : x.category = 1) (ho : jl_okv n x)
    (h' : lv_has ls' nL ((i, jl_v sb al x) :: (jl_pr sb al L).filter (fun q => !(q.1 == i) && !(q.1 + 1 == i && q.2.category == 2)))) : jl_L sb nL n al ls' (L.set i (some x)) := by
  refine ⟨h'.1, h'.2.1, fun j v hv => ?_⟩
  rw [List.getElem?_set] at hv
  by_cases e1 : i = j
  · subst e1
    rw [if_pos rfl] at hv
    by_cases e2 : i < L.length
    · rw [if_pos e2] at hv
      cases hv
      exact ⟨h'.2.2 _ List.mem_cons_self, ho, hx⟩
    · rw [if_neg e2] at hv
      cases hv
  · rw [if_neg e1] at hv
    obtain ⟨-, h2, h3⟩ := h.2.2 j v hv
    refine ⟨h'.2.2 (j, jl_v sb al v) (List.mem_cons_of_mem _ (List.mem_filter.mpr ⟨jl_pr_mem.mpr ⟨v, hv, rfl⟩, ?_⟩)), h2, h3⟩
    have e3 : ((j == i) : Bool) = false := by simpa using Ne.symm e1
    have e4 : (jl_v sb al v).category = 1 := (jl_cat _ _ _).trans h3
    simp [e3, e4]
theorem jl_L.ext {sb nL n n' : Nat} {al al' : Nat → Nat} {ls : Array Slot} {L : List (Option Value)} (h : jl_L sb nL n al ls L) (hn : n ≤ n') (he : ∀ i, i < n → al' i = al i) : jl_L sb nL n' al' ls L := by
  refine ⟨h.1, h.2.1, fun i v hv => ?_⟩
  obtain ⟨h1, h2, h3⟩ := h.2.2 i v hv
  exact ⟨by rw [jl_v_ext h2 he]; exact h1, jl_okv_mono h2 hn, h3⟩
abbrev jl_E (n0 : Nat) (al0 : Nat → Nat) (n : Nat) (al : Nat → Nat) : Prop := n0 ≤ n ∧ ∀ i, i < n0 → al i = al0 i
theorem jl_nw_warm {w : Cond} {s U : State} (g : jl_nw w = true) (hW : s.WarmedH U.vm) (h : va_Nw w s) : va_Nw w U := by
  cases w with
  | fieldLinkNest a b c d e f => exact va_Nw.warmF hW h
  | methodLinkNest a b c d => exact va_Nw.warmM hW h
  | castable a b => exact va_Nw.warmC hW h
  | declares a => exact va_Nw.warmD hW h
  | _ => cases g
def jl_Z : List (String × Nat × String) := lw_tbl.filterMap (fun w => match w with
  | .stringRef a b c => some (a, b, c)
  | _ => none)
def jl_O : List String := lw_tbl.filterMap (fun w => match w with
  | .arrayOver (.object C) => some C
  | _ => none)
/-- the classes of what is thrown: none is another's -/
def jl_U : List (String × String) := ["java/lang/IllegalArgumentException", "java/lang/IndexOutOfBoundsException", "java/lang/IllegalStateException", "java/util/NoSuchElementException"].flatMap (fun a => (["java/lang/IllegalArgumentException", "java/lang/IndexOutOfBoundsException", "java/lang/IllegalStateException", "java/util/NoSuchElementException"].filter (fun b => b ≠ a)).map (fun b => (a, b)))
def jl_tyl : List FieldType := [.int, .long, .object "SiteswapStudio$Draft", .boolean]
def jl_tys (G : jl_G) : List (ClassId × FieldType) := jl_tyl.mapIdx (fun i ty => (G.2.1 i, ty))
/-- what the tables and the cells of old say, wherever the law has come to -/
def jl_K (G : jl_G) (U : State) (H : Heap) : Prop :=
  va_K G.1 vwCl (jl_tys G) U ∧ (∀ w ∈ jl_N, va_Nw w U) ∧ ((∀ z ∈ jl_Z, ∃ a, vk_R z.1 z.2.1 z.2.2 a U) ∧ (∀ C ∈ jl_O, va_AO C U) ∧ ∀ z ∈ jl_U, va_Nc z.1 z.2 U) ∧ (vx_Zq Bundle.tN "UNASSIGNED_STACK" Bundle.steD (jl_A G) U H ∧ vx_Zq Bundle.tN "SUPPRESSED_SENTINEL" Bundle.listD (jl_A G) U H) ∧ va_X G.2.2.1 G.2.2.2.2.1 G.2.2.2.2.2 U H ∧ G.2.2.1 < G.2.2.2.1 ∧ G.2.2.2.1 ≤ H.size
theorem jl_K.to {G : jl_G} {s U : State} {locs : List Loc} (h : jl_K G s s.heap) (hW : s.WarmedH U.vm) (hS : va_S (jl_A G) s.heap U.heap locs) : jl_K G U U.heap := by
  obtain ⟨h1, h2, ⟨h3, h3', h3u⟩, ⟨h4, h5⟩, h6, h7, h8⟩ := h
  refine ⟨va_K.moved hW.alike h1, fun w hw => jl_nw_warm (List.mem_filter.mp hw).2 hW (h2 w hw), ⟨fun z hz => (h3 z hz).imp fun a ha => vk_R.warm hW ha, fun C hC => (h3' C hC).moved hW.alike, fun z hz => (h3u z hz).moved hW.alike⟩, ⟨(h4.moved hW.alike).kept hS.2.1, (h5.moved hW.alike).kept hS.2.1⟩, (h6.moved hW.alike).kept ?_, h7, Nat.le_trans h8 hS.1⟩
  exact hS.2.1 _ (Nat.lt_of_lt_of_le h7 h8) (Nat.not_le.mpr h7)
theorem jl_K.same {G : jl_G} {s U : State} (h : jl_K G s s.heap) (hv : s.vm = U.vm) (hh : U.heap = s.heap) : jl_K G U U.heap := by
  obtain ⟨h1, h2, ⟨h3, h3', h3u⟩, ⟨h4, h5⟩, h6, h7, h8⟩ := h
  have ha : s.vm.Alike U.vm := by rw [hv]; exact Vm.Alike.refl _
  rw [hh]
  refine ⟨va_K.moved ha h1, fun w hw => va_Nw.same ?_ hv (h2 w hw), ⟨fun z hz => (h3 z hz).imp fun a hq => vk_R.same hv.symm hq, fun C hC => (h3' C hC).moved ha, fun z hz => (h3u z hz).moved ha⟩, ⟨h4.moved ha, h5.moved ha⟩, h6.moved ha, h7, h8⟩
  have g := (List.mem_filter.mp hw).2
  cases w with
  | fieldLinkNest a b c d e f => rfl
  | methodLinkNest a b c d => rfl
  | castable a b => rfl
  | declares a => rfl
  | _ => cases g
/-- a method's frame: its code and table, the words, the room that is left (d: how deep calls may go) -/
def jl_C (l : Launch) (G : jl_G) (M : jl_M) (d : Nat) (p : Program) (R : Room) (s : State) (m : MethodId) (args : Array Value) (meth : Method) (c : Code) (mc ms : Nat) : Prop :=
  (p.tables.exec = Jvm.exec ∧ c.code = M.2.1 ∧ c.maxLocals = M.2.2.1 ∧ s.vm.findClass M.1.cls = some m.cls ∧ ∀ w ∈ jl_T, w.before args s = true) ∧ meth.sig.returnType = M.2.2.2.1 ∧ meth.locks = false ∧ meth.name = M.1.name ∧ c.exceptionTable.toList = tableOf M.2.2.2.2 ∧ l.stackTraces = false ∧ jl_K G s s.heap ∧ (d + 10 ≤ R.frames ∧ 64 * d + 256 ≤ R.locals ∧ mc ≤ R.cells ∧ ms ≤ R.slots)
/-- THE JUDGEMENT: at pc, with the locals L, the operands st, n cells pictured by h, room for ck cells of sk slots in all: the method comes to its end F -/
def jl_AW (l : Launch) (G : jl_G) (F : List Frame → Array Value → State → Nat → Nat → (Nat → Nat) → Nat → State → Prop) (M : jl_M) (d pc : Nat) (L : List (Option Value)) (st : List Value) (n : Nat) (h : Nat → va_E) (ck sk : Nat) : Prop :=
  ∀ (p : Program) (e : Env) (R : Room) (s : State) (m : MethodId) (args : Array Value) (below : List Frame) (meth : Method) (c : Code) (al0 : Nat → Nat) (n0 mc ms : Nat) (al : Nat → Nat) (H : Heap) (locs : List Loc) (ls : Array Slot) (cells slots : Nat),
    jl_C l G M d p R s m args meth c mc ms → jl_R G n h al s H locs → jl_E n0 al0 n al → jl_L G.2.2.1 M.2.2.1 n al ls L → jl_oks n st → cells + ck ≤ mc → slots + sk ≤ ms →
    W p l e R s m args below meth c H locs cells slots (F below args s mc ms al0 n0) (F0 m pc ls (st.map (jl_v G.2.2.1 al)))
def jl_P (G : jl_G) (al0 : Nat → Nat) (n0 : Nat) (al : Nat → Nat) (n : Nat) (h : Nat → va_E) (st t : State) : Prop :=
  jl_E n0 al0 n al ∧ va_P G.1 vwCl (jl_W G al n h) t.heap ∧ va_D (jl_A G) (jl_W G al n h) ∧ (∀ i, i < n → jl_oke n (h i)) ∧ va_F (jl_A G) st t
def jl_Q (G : jl_G) (al0 : Nat → Nat) (n0 : Nat) (Kr : Option Value → Nat → (Nat → va_E) → Prop) : Array Value → State → Outcome → State → Prop := fun _ st oc t =>
  ∃ (r : Option Value) (n : Nat) (h : Nat → va_E) (al : Nat → Nat), oc = .returned (r.map (jl_v G.2.2.1 al)) ∧ Kr r n h ∧ jl_P G al0 n0 al n h st t ∧ jl_oks n r.toList
def jl_X (G : jl_G) (al0 : Nat → Nat) (n0 : Nat) (Kx : String → Nat → (Nat → va_E) → Prop) : String → State → State → Prop := fun E st t =>
  ∃ (n : Nat) (h : Nat → va_E) (al : Nat → Nat), Kx E n h ∧ jl_P G al0 n0 al n h st t
def jl_F (G : jl_G) (Kr : Option Value → Nat → (Nat → va_E) → Prop) (Kx : String → Nat → (Nat → va_E) → Prop) : List Frame → Array Value → State → Nat → Nat → (Nat → Nat) → Nat → State → Prop :=
  fun below args s mc ms al0 n0 => vx_MQ below (jl_Q G al0 n0 Kr) (jl_X G al0 n0 Kx) args s mc ms (jl_A G)
def jl_rm (d ck sk : Nat) : Room := { frames := d + 10, cells := ck, slots := sk, locals := 64 * d + 256 }
theorem jl_rm_fr (d ck sk : Nat) : (jl_rm d ck sk).frames = d + 10 := rfl
theorem jl_rm_lo (d ck sk : Nat) : (jl_rm d ck sk).locals = 64 * d + 256 := rfl
def jl_Pc (G : jl_G) (al : Nat → Nat) (n : Nat) (h : Nat → va_E) : State → Prop := fun U => jl_K G U U.heap ∧ va_P G.1 vwCl (jl_W G al n h) U.heap
/-- a method CALLED with these arguments: it returns with Kr or throws with Kx -/
def jl_Call (l : Launch) (G : jl_G) (M : jl_M) (d : Nat) (as : List Value) (n : Nat) (h : Nat → va_E) (ck sk : Nat) (Kr : Option Value → Nat → (Nat → va_E) → Prop) (Kx : String → Nat → (Nat → va_E) → Prop) : Prop :=
  ∀ al : Nat → Nat, va_D (jl_A G) (jl_W G al n h) → (∀ i, i < n → jl_oke n (h i)) → jl_oks n as →
    vx_Met l M.1 (jl_cw M :: jl_T) (jl_rm d ck sk) (va_Pc (as.map (jl_v G.2.2.1 al)) (jl_Pc G al n h)) (jl_Q G al n Kr) (jl_X G al n Kx) ck sk (jl_A G)
section JL
variable {l : Launch} {G : jl_G} {F : List Frame → Array Value → State → Nat → Nat → (Nat → Nat) → Nat → State → Prop} {M : jl_M} {d pc : Nat} {L : List (Option Value)} {st : List Value} {n : Nat} {h : Nat → va_E} {ck sk : Nat}

theorem jl_iconst {a : Int} {v : Int32} (hd : decode M.2.1 pc = .ok (.iconst a, 1)) (hv : Int32.ofInt a = v) (k : jl_AW l G F M d (pc + 1) L (.int v :: st) n h ck sk) : jl_AW l G F M d pc L (st) n h ck sk := by
  intro p e R s m args below meth c al0 n0 mc ms al H locs ls cells slots C hR hE hl hs h1 h2
  exact lv_iconst C.1.1 C.1.2.1 hd hv (k p e R s m args below meth c al0 n0 mc ms al H locs ls cells slots C hR hE hl ⟨trivial, hs⟩ h1 h2)
theorem jl_bipush {a : Int} {v : Int32} (hd : decode M.2.1 pc = .ok (.bipush a, 2)) (hv : (Int8.ofInt a).toInt32 = v) (k : jl_AW l G F M d (pc + 2) L (.int v :: st) n h ck sk) : jl_AW l G F M d pc L (st) n h ck sk := by
  intro p e R s m args below meth c al0 n0 mc ms al H locs ls cells slots C hR hE hl hs h1 h2
  exact lv_bipush C.1.1 C.1.2.1 hd hv (k p e R s m args below meth c al0 n0 mc ms al H locs ls cells slots C hR hE hl ⟨trivial, hs⟩ h1 h2)
theorem jl_sipush {a : Int} {v : Int32} (hd : decode M.2.1 pc = .ok (.sipush a, 3)) (hv : (Int16.ofInt a).toInt32 = v) (k : jl_AW l G F M d (pc + 3) L (.int v :: st) n h ck sk) : jl_AW l G F M d pc L (st) n h ck sk := by
  intro p e R s m args below meth c al0 n0 mc ms al H locs ls cells slots C hR hE hl hs h1 h2
  exact lv_sipush C.1.1 C.1.2.1 hd hv (k p e R s m args below meth c al0 n0 mc ms al H locs ls cells slots C hR hE hl ⟨trivial, hs⟩ h1 h2)
theorem jl_lconst {a : Fin 2} {v : Int64} (hd : decode M.2.1 pc = .ok (.lconst a, 1)) (hv : Int64.ofNat (a : Nat) = v) (k : jl_AW l G F M d (pc + 1) L (.long v :: st) n h ck sk) : jl_AW l G F M d pc L (st) n h ck sk := by
  intro p e R s m args below meth c al0 n0 mc ms al H locs ls cells slots C hR hE hl hs h1 h2
  exact lv_lconst C.1.1 C.1.2.1 hd hv (k p e R s m args below meth c al0 n0 mc ms al H locs ls cells slots C hR hE hl ⟨trivial, hs⟩ h1 h2)
theorem jl_null (hd : decode M.2.1 pc = .ok (.aconst_null, 1)) (k : jl_AW l G F M d (pc + 1) L (.null :: st) n h ck sk) : jl_AW l G F M d pc L (st) n h ck sk := by
  intro p e R s m args below meth c al0 n0 mc ms al H locs ls cells slots C hR hE hl hs h1 h2
  exact lv_null C.1.1 C.1.2.1 hd (k p e R s m args below meth c al0 n0 mc ms al H locs ls cells slots C hR hE hl ⟨trivial, hs⟩ h1 h2)
theorem jl_ldc {ix : Nat} {v : Int32} (hd : decode M.2.1 pc = .ok (.ldc ix, 2)) (hw : Cond.constant M.1.cls ix v ∈ jl_T) (k : jl_AW l G F M d (pc + 2) L (.int v :: st) n h ck sk) : jl_AW l G F M d pc L st n h ck sk := by
  intro p e R s m args below meth c al0 n0 mc ms al H locs ls cells slots C hR hE hl hs h1 h2
  exact lv_ldc C.1.1 C.1.2.1 C.1.2.2.2.1 (C.1.2.2.2.2 _ hw) hd (k p e R s m args below meth c al0 n0 mc ms al H locs ls cells slots C hR hE hl ⟨trivial, hs⟩ h1 h2)
theorem jl_iload_n {a : Fin 4} {i : Nat} {x : Int32} (hd : decode M.2.1 pc = .ok (.iload_n a, 1)) (hi : (a : Nat) = i) (hL : L[i]? = some (some (.int x))) (k : jl_AW l G F M d (pc + 1) L (.int x :: st) n h ck sk) : jl_AW l G F M d pc L st n h ck sk := by
  intro p e R s m args below meth c al0 n0 mc ms al H locs ls cells slots C hR hE hl hs h1 h2
  exact lv_iload_n C.1.1 C.1.2.1 hd hi (hl.2.2 i _ hL).1 (k p e R s m args below meth c al0 n0 mc ms al H locs ls cells slots C hR hE hl ⟨trivial, hs⟩ h1 h2)
theorem jl_iload {i : Nat} {x : Int32} (hd : decode M.2.1 pc = .ok (.iload i, 2)) (hL : L[i]? = some (some (.int x))) (k : jl_AW l G F M d (pc + 2) L (.int x :: st) n h ck sk) : jl_AW l G F M d pc L st n h ck sk := by
  intro p e R s m args below meth c al0 n0 mc ms al H locs ls cells slots C hR hE hl hs h1 h2
  exact lv_iload C.1.1 C.1.2.1 hd (hl.2.2 i _ hL).1 (k p e R s m args below meth c al0 n0 mc ms al H locs ls cells slots C hR hE hl ⟨trivial, hs⟩ h1 h2)
theorem jl_aload_n {a : Fin 4} {i : Nat} {x : Nat} (hd : decode M.2.1 pc = .ok (.aload_n a, 1)) (hi : (a : Nat) = i) (hL : L[i]? = some (some (.ref x))) (k : jl_AW l G F M d (pc + 1) L (.ref x :: st) n h ck sk) : jl_AW l G F M d pc L st n h ck sk := by
  intro p e R s m args below meth c al0 n0 mc ms al H locs ls cells slots C hR hE hl hs h1 h2
  exact lv_aload_n C.1.1 C.1.2.1 hd hi (hl.2.2 i _ hL).1 (k p e R s m args below meth c al0 n0 mc ms al H locs ls cells slots C hR hE hl ⟨(hl.2.2 i _ hL).2.1, hs⟩ h1 h2)
theorem jl_aload {i : Nat} {x : Nat} (hd : decode M.2.1 pc = .ok (.aload i, 2)) (hL : L[i]? = some (some (.ref x))) (k : jl_AW l G F M d (pc + 2) L (.ref x :: st) n h ck sk) : jl_AW l G F M d pc L st n h ck sk := by
  intro p e R s m args below meth c al0 n0 mc ms al H locs ls cells slots C hR hE hl hs h1 h2
  exact lv_aload C.1.1 C.1.2.1 hd (hl.2.2 i _ hL).1 (k p e R s m args below meth c al0 n0 mc ms al H locs ls cells slots C hR hE hl ⟨(hl.2.2 i _ hL).2.1, hs⟩ h1 h2)
theorem jl_sload_n {a : Fin 4} {i : Nat} {x : UInt32} (hd : decode M.2.1 pc = .ok (.aload_n a, 1)) (hi : (a : Nat) = i) (hL : L[i]? = some (some (.float x))) (k : jl_AW l G F M d (pc + 1) L (.float x :: st) n h ck sk) : jl_AW l G F M d pc L st n h ck sk := by
  intro p e R s m args below meth c al0 n0 mc ms al H locs ls cells slots C hR hE hl hs h1 h2
  exact lv_aload_n C.1.1 C.1.2.1 hd hi (hl.2.2 i _ hL).1 (k p e R s m args below meth c al0 n0 mc ms al H locs ls cells slots C hR hE hl ⟨trivial, hs⟩ h1 h2)
theorem jl_sload {i : Nat} {x : UInt32} (hd : decode M.2.1 pc = .ok (.aload i, 2)) (hL : L[i]? = some (some (.float x))) (k : jl_AW l G F M d (pc + 2) L (.float x :: st) n h ck sk) : jl_AW l G F M d pc L st n h ck sk := by
  intro p e R s m args below meth c al0 n0 mc ms al H locs ls cells slots C hR hE hl hs h1 h2
  exact lv_aload C.1.1 C.1.2.1 hd (hl.2.2 i _ hL).1 (k p e R s m args below meth c al0 n0 mc ms al H locs ls cells slots C hR hE hl ⟨trivial, hs⟩ h1 h2)
theorem jl_nload_n {a : Fin 4} {i : Nat} (hd : decode M.2.1 pc = .ok (.aload_n a, 1)) (hi : (a : Nat) = i) (hL : L[i]? = some (some (.null))) (k : jl_AW l G F M d (pc + 1) L (.null :: st) n h ck sk) : jl_AW l G F M d pc L st n h ck sk := by
  intro p e R s m args below meth c al0 n0 mc ms al H locs ls cells slots C hR hE hl hs h1 h2
  exact lv_aload_nN C.1.1 C.1.2.1 hd hi (hl.2.2 i _ hL).1 (k p e R s m args below meth c al0 n0 mc ms al H locs ls cells slots C hR hE hl ⟨trivial, hs⟩ h1 h2)
theorem jl_nload {i : Nat} (hd : decode M.2.1 pc = .ok (.aload i, 2)) (hL : L[i]? = some (some (.null))) (k : jl_AW l G F M d (pc + 2) L (.null :: st) n h ck sk) : jl_AW l G F M d pc L st n h ck sk := by
  intro p e R s m args below meth c al0 n0 mc ms al H locs ls cells slots C hR hE hl hs h1 h2
  exact lv_aloadN C.1.1 C.1.2.1 hd (hl.2.2 i _ hL).1 (k p e R s m args below meth c al0 n0 mc ms al H locs ls cells slots C hR hE hl ⟨trivial, hs⟩ h1 h2)
theorem jl_istore_n {a : Fin 4} {i : Nat} {x : Int32} {L' : List (Option Value)} (hd : decode M.2.1 pc = .ok (.istore_n a, 1)) (hi : (a : Nat) = i) (hn : i < M.2.2.1) (hL : L.set i (some (.int x)) = L') (k : jl_AW l G F M d (pc + 1) L' st n h ck sk) : jl_AW l G F M d pc L (.int x :: st) n h ck sk := by
  intro p e R s m args below meth c al0 n0 mc ms al H locs ls cells slots C hR hE hl hs h1 h2
  subst hL
  exact lv_istore_n C.1.1 C.1.2.1 hd hi hl.has hn rfl (fun ls' h' => k p e R s m args below meth c al0 n0 mc ms al H locs ls' cells slots C hR hE (hl.put (x := .int x) rfl hs.1 h') hs.2 h1 h2)
theorem jl_istore {i : Nat} {x : Int32} {L' : List (Option Value)} (hd : decode M.2.1 pc = .ok (.istore i, 2)) (hn : i < M.2.2.1) (hL : L.set i (some (.int x)) = L') (k : jl_AW l G F M d (pc + 2) L' st n h ck sk) : jl_AW l G F M d pc L (.int x :: st) n h ck sk := by
  intro p e R s m args below meth c al0 n0 mc ms al H locs ls cells slots C hR hE hl hs h1 h2
  subst hL
  exact lv_istore C.1.1 C.1.2.1 hd hl.has hn rfl (fun ls' h' => k p e R s m args below meth c al0 n0 mc ms al H locs ls' cells slots C hR hE (hl.put (x := .int x) rfl hs.1 h') hs.2 h1 h2)
theorem jl_astore_n {a : Fin 4} {i : Nat} {x : Nat} {L' : List (Option Value)} (hd : decode M.2.1 pc = .ok (.astore_n a, 1)) (hi : (a : Nat) = i) (hn : i < M.2.2.1) (hL : L.set i (some (.ref x)) = L') (k : jl_AW l G F M d (pc + 1) L' st n h ck sk) : jl_AW l G F M d pc L (.ref x :: st) n h ck sk := by
  intro p e R s m args below meth c al0 n0 mc ms al H locs ls cells slots C hR hE hl hs h1 h2
  subst hL
  exact lv_astore_n C.1.1 C.1.2.1 hd hi hl.has hn rfl (fun ls' h' => k p e R s m args below meth c al0 n0 mc ms al H locs ls' cells slots C hR hE (hl.put (x := .ref x) rfl hs.1 h') hs.2 h1 h2)
theorem jl_astore {i : Nat} {x : Nat} {L' : List (Option Value)} (hd : decode M.2.1 pc = .ok (.astore i, 2)) (hn : i < M.2.2.1) (hL : L.set i (some (.ref x)) = L') (k : jl_AW l G F M d (pc + 2) L' st n h ck sk) : jl_AW l G F M d pc L (.ref x :: st) n h ck sk := by
  intro p e R s m args below meth c al0 n0 mc ms al H locs ls cells slots C hR hE hl hs h1 h2
  subst hL
  exact lv_astore C.1.1 C.1.2.1 hd hl.has hn rfl (fun ls' h' => k p e R s m args below meth c al0 n0 mc ms al H locs ls' cells slots C hR hE (hl.put (x := .ref x) rfl hs.1 h') hs.2 h1 h2)
theorem jl_nstore_n {a : Fin 4} {i : Nat} {L' : List (Option Value)} (hd : decode M.2.1 pc = .ok (.astore_n a, 1)) (hi : (a : Nat) = i) (hn : i < M.2.2.1) (hL : L.set i (some (.null)) = L') (k : jl_AW l G F M d (pc + 1) L' st n h ck sk) : jl_AW l G F M d pc L (.null :: st) n h ck sk := by
  intro p e R s m args below meth c al0 n0 mc ms al H locs ls cells slots C hR hE hl hs h1 h2
  subst hL
  exact lv_astore_nN C.1.1 C.1.2.1 hd hi hl.has hn rfl (fun ls' h' => k p e R s m args below meth c al0 n0 mc ms al H locs ls' cells slots C hR hE (hl.put (x := .null) rfl hs.1 h') hs.2 h1 h2)
theorem jl_nstore {i : Nat} {L' : List (Option Value)} (hd : decode M.2.1 pc = .ok (.astore i, 2)) (hn : i < M.2.2.1) (hL : L.set i (some (.null)) = L') (k : jl_AW l G F M d (pc + 2) L' st n h ck sk) : jl_AW l G F M d pc L (.null :: st) n h ck sk := by
  intro p e R s m args below meth c al0 n0 mc ms al H locs ls cells slots C hR hE hl hs h1 h2
  subst hL
  exact lv_astoreN C.1.1 C.1.2.1 hd hl.has hn rfl (fun ls' h' => k p e R s m args below meth c al0 n0 mc ms al H locs ls' cells slots C hR hE (hl.put (x := .null) rfl hs.1 h') hs.2 h1 h2)
theorem jl_iinc {i : Nat} {a : Int} {x v : Int32} {L' : List (Option Value)} (hd : decode M.2.1 pc = .ok (.iinc i a, 3)) (hx : L[i]? = some (some (.int x))) (hv : x + Int32.ofInt a = v) (hn : i < M.2.2.1) (hL : L.set i (some (.int v)) = L') (k : jl_AW l G F M d (pc + 3) L' st n h ck sk) : jl_AW l G F M d pc L st n h ck sk := by
  intro p e R s m args below meth c al0 n0 mc ms al H locs ls cells slots C hR hE hl hs h1 h2
  subst hL
  obtain ⟨j, hj⟩ := List.getElem?_of_mem (jl_pr_mem (sb := G.2.2.1) (al := al) (q := (i, .int x)).mpr ⟨.int x, hx, rfl⟩)
  exact lv_iinc C.1.1 C.1.2.1 hd hl.has hj hv hn rfl (fun ls' h' => k p e R s m args below meth c al0 n0 mc ms al H locs ls' cells slots C hR hE (hl.put (x := .int v) rfl trivial h') hs h1 h2)
theorem jl_iadd {x y : Int32} (hd : decode M.2.1 pc = .ok (.iadd, 1)) (k : jl_AW l G F M d (pc + 1) L (.int (x + y) :: st) n h ck sk) : jl_AW l G F M d pc L (.int y :: .int x :: st) n h ck sk := by
  intro p e R s m args below meth c al0 n0 mc ms al H locs ls cells slots C hR hE hl hs h1 h2
  exact lv_iadd C.1.1 C.1.2.1 hd (k p e R s m args below meth c al0 n0 mc ms al H locs ls cells slots C hR hE hl ⟨trivial, hs.2.2⟩ h1 h2)
theorem jl_isub {x y : Int32} (hd : decode M.2.1 pc = .ok (.isub, 1)) (k : jl_AW l G F M d (pc + 1) L (.int (x - y) :: st) n h ck sk) : jl_AW l G F M d pc L (.int y :: .int x :: st) n h ck sk := by
  intro p e R s m args below meth c al0 n0 mc ms al H locs ls cells slots C hR hE hl hs h1 h2
  exact lv_isub C.1.1 C.1.2.1 hd (k p e R s m args below meth c al0 n0 mc ms al H locs ls cells slots C hR hE hl ⟨trivial, hs.2.2⟩ h1 h2)
theorem jl_imul {x y : Int32} (hd : decode M.2.1 pc = .ok (.imul, 1)) (k : jl_AW l G F M d (pc + 1) L (.int (x * y) :: st) n h ck sk) : jl_AW l G F M d pc L (.int y :: .int x :: st) n h ck sk := by
  intro p e R s m args below meth c al0 n0 mc ms al H locs ls cells slots C hR hE hl hs h1 h2
  exact lv_imul C.1.1 C.1.2.1 hd (k p e R s m args below meth c al0 n0 mc ms al H locs ls cells slots C hR hE hl ⟨trivial, hs.2.2⟩ h1 h2)
theorem jl_iand {x y : Int32} (hd : decode M.2.1 pc = .ok (.iand, 1)) (k : jl_AW l G F M d (pc + 1) L (.int (x &&& y) :: st) n h ck sk) : jl_AW l G F M d pc L (.int y :: .int x :: st) n h ck sk := by
  intro p e R s m args below meth c al0 n0 mc ms al H locs ls cells slots C hR hE hl hs h1 h2
  exact lv_iand C.1.1 C.1.2.1 hd (k p e R s m args below meth c al0 n0 mc ms al H locs ls cells slots C hR hE hl ⟨trivial, hs.2.2⟩ h1 h2)
theorem jl_ior {x y : Int32} (hd : decode M.2.1 pc = .ok (.ior, 1)) (k : jl_AW l G F M d (pc + 1) L (.int (x ||| y) :: st) n h ck sk) : jl_AW l G F M d pc L (.int y :: .int x :: st) n h ck sk := by
  intro p e R s m args below meth c al0 n0 mc ms al H locs ls cells slots C hR hE hl hs h1 h2
  exact lv_ior C.1.1 C.1.2.1 hd (k p e R s m args below meth c al0 n0 mc ms al H locs ls cells slots C hR hE hl ⟨trivial, hs.2.2⟩ h1 h2)
theorem jl_ixor {x y : Int32} (hd : decode M.2.1 pc = .ok (.ixor, 1)) (k : jl_AW l G F M d (pc + 1) L (.int (x ^^^ y) :: st) n h ck sk) : jl_AW l G F M d pc L (.int y :: .int x :: st) n h ck sk := by
  intro p e R s m args below meth c al0 n0 mc ms al H locs ls cells slots C hR hE hl hs h1 h2
  exact lv_ixor C.1.1 C.1.2.1 hd (k p e R s m args below meth c al0 n0 mc ms al H locs ls cells slots C hR hE hl ⟨trivial, hs.2.2⟩ h1 h2)
theorem jl_ishl {x y : Int32} (hd : decode M.2.1 pc = .ok (.ishl, 1)) (k : jl_AW l G F M d (pc + 1) L (.int (x <<< (y &&& 31)) :: st) n h ck sk) : jl_AW l G F M d pc L (.int y :: .int x :: st) n h ck sk := by
  intro p e R s m args below meth c al0 n0 mc ms al H locs ls cells slots C hR hE hl hs h1 h2
  exact lv_ishl C.1.1 C.1.2.1 hd (k p e R s m args below meth c al0 n0 mc ms al H locs ls cells slots C hR hE hl ⟨trivial, hs.2.2⟩ h1 h2)
theorem jl_ishr {x y : Int32} (hd : decode M.2.1 pc = .ok (.ishr, 1)) (k : jl_AW l G F M d (pc + 1) L (.int (x >>> (y &&& 31)) :: st) n h ck sk) : jl_AW l G F M d pc L (.int y :: .int x :: st) n h ck sk := by
  intro p e R s m args below meth c al0 n0 mc ms al H locs ls cells slots C hR hE hl hs h1 h2
  exact lv_ishr C.1.1 C.1.2.1 hd (k p e R s m args below meth c al0 n0 mc ms al H locs ls cells slots C hR hE hl ⟨trivial, hs.2.2⟩ h1 h2)
theorem jl_iushr {x y v : Int32} (hd : decode M.2.1 pc = .ok (.iushr, 1)) (hv : (x.toUInt32 >>> (y.toUInt32 &&& Int32.toUInt32 31)).toInt32 = v) (k : jl_AW l G F M d (pc + 1) L (.int v :: st) n h ck sk) : jl_AW l G F M d pc L (.int y :: .int x :: st) n h ck sk := by
  intro p e R s m args below meth c al0 n0 mc ms al H locs ls cells slots C hR hE hl hs h1 h2
  exact lv_iushr C.1.1 C.1.2.1 hd hv (k p e R s m args below meth c al0 n0 mc ms al H locs ls cells slots C hR hE hl ⟨trivial, hs.2.2⟩ h1 h2)
theorem jl_idiv {x y : Int32} (hd : decode M.2.1 pc = .ok (.idiv, 1)) (hy : ¬ y = 0) (k : jl_AW l G F M d (pc + 1) L (.int (x / y) :: st) n h ck sk) : jl_AW l G F M d pc L (.int y :: .int x :: st) n h ck sk := by
  intro p e R s m args below meth c al0 n0 mc ms al H locs ls cells slots C hR hE hl hs h1 h2
  exact lv_idiv C.1.1 C.1.2.1 hd hy (k p e R s m args below meth c al0 n0 mc ms al H locs ls cells slots C hR hE hl ⟨trivial, hs.2.2⟩ h1 h2)
theorem jl_irem {x y : Int32} (hd : decode M.2.1 pc = .ok (.irem, 1)) (hy : ¬ y = 0) (k : jl_AW l G F M d (pc + 1) L (.int (x - x / y * y) :: st) n h ck sk) : jl_AW l G F M d pc L (.int y :: .int x :: st) n h ck sk := by
  intro p e R s m args below meth c al0 n0 mc ms al H locs ls cells slots C hR hE hl hs h1 h2
  exact lv_irem C.1.1 C.1.2.1 hd hy (k p e R s m args below meth c al0 n0 mc ms al H locs ls cells slots C hR hE hl ⟨trivial, hs.2.2⟩ h1 h2)
theorem jl_ineg {x : Int32} (hd : decode M.2.1 pc = .ok (.ineg, 1)) (k : jl_AW l G F M d (pc + 1) L (.int (-x) :: st) n h ck sk) : jl_AW l G F M d pc L (.int x :: st) n h ck sk := by
  intro p e R s m args below meth c al0 n0 mc ms al H locs ls cells slots C hR hE hl hs h1 h2
  exact lv_ineg C.1.1 C.1.2.1 hd (k p e R s m args below meth c al0 n0 mc ms al H locs ls cells slots C hR hE hl ⟨trivial, hs.2⟩ h1 h2)
theorem jl_i2l {x : Int32} (hd : decode M.2.1 pc = .ok (.i2l, 1)) (k : jl_AW l G F M d (pc + 1) L (.long x.toInt64 :: st) n h ck sk) : jl_AW l G F M d pc L (.int x :: st) n h ck sk := by
  intro p e R s m args below meth c al0 n0 mc ms al H locs ls cells slots C hR hE hl hs h1 h2
  exact lv_i2l C.1.1 C.1.2.1 hd rfl (k p e R s m args below meth c al0 n0 mc ms al H locs ls cells slots C hR hE hl ⟨trivial, hs.2⟩ h1 h2)
theorem jl_lcmp {x y : Int64} (hd : decode M.2.1 pc = .ok (.lcmp, 1)) (k : jl_AW l G F M d (pc + 1) L (.int (lg_cmp x y) :: st) n h ck sk) : jl_AW l G F M d pc L (.long y :: .long x :: st) n h ck sk := by
  intro p e R s m args below meth c al0 n0 mc ms al H locs ls cells slots C hR hE hl hs h1 h2
  exact W.lcmp C.1.1 C.1.2.1 hd (k p e R s m args below meth c al0 n0 mc ms al H locs ls cells slots C hR hE hl ⟨trivial, hs.2.2⟩ h1 h2)
theorem jl_dup {v : Value} (hd : decode M.2.1 pc = .ok (.dup, 1)) (hv : v.category = 1) (k : jl_AW l G F M d (pc + 1) L (v :: v :: st) n h ck sk) : jl_AW l G F M d pc L (v :: st) n h ck sk := by
  intro p e R s m args below meth c al0 n0 mc ms al H locs ls cells slots C hR hE hl hs h1 h2
  exact lv_dup C.1.1 C.1.2.1 hd ((jl_cat _ _ _).trans hv) (k p e R s m args below meth c al0 n0 mc ms al H locs ls cells slots C hR hE hl ⟨hs.1, hs⟩ h1 h2)
theorem jl_pop {v : Value} (hd : decode M.2.1 pc = .ok (.pop, 1)) (hv : v.category = 1) (k : jl_AW l G F M d (pc + 1) L (st) n h ck sk) : jl_AW l G F M d pc L (v :: st) n h ck sk := by
  intro p e R s m args below meth c al0 n0 mc ms al H locs ls cells slots C hR hE hl hs h1 h2
  exact lv_pop C.1.1 C.1.2.1 hd ((jl_cat _ _ _).trans hv) (k p e R s m args below meth c al0 n0 mc ms al H locs ls cells slots C hR hE hl hs.2 h1 h2)
theorem jl_dup_x1 {v w : Value} (hd : decode M.2.1 pc = .ok (.dup_x1, 1)) (hv : v.category = 1) (hw : w.category = 1) (k : jl_AW l G F M d (pc + 1) L (v :: w :: v :: st) n h ck sk) : jl_AW l G F M d pc L (v :: w :: st) n h ck sk := by
  intro p e R s m args below meth c al0 n0 mc ms al H locs ls cells slots C hR hE hl hs h1 h2
  exact lv_dup_x1 C.1.1 C.1.2.1 hd ((jl_cat _ _ _).trans hv) ((jl_cat _ _ _).trans hw) (k p e R s m args below meth c al0 n0 mc ms al H locs ls cells slots C hR hE hl ⟨hs.1, hs.2.1, hs.1, hs.2.2⟩ h1 h2)
theorem jl_dup2 {v w : Value} (hd : decode M.2.1 pc = .ok (.dup2, 1)) (hv : v.category = 1) (hw : w.category = 1) (k : jl_AW l G F M d (pc + 1) L (v :: w :: v :: w :: st) n h ck sk) : jl_AW l G F M d pc L (v :: w :: st) n h ck sk := by
  intro p e R s m args below meth c al0 n0 mc ms al H locs ls cells slots C hR hE hl hs h1 h2
  exact lv_dup2_11 C.1.1 C.1.2.1 hd ((jl_cat _ _ _).trans hv) ((jl_cat _ _ _).trans hw) (k p e R s m args below meth c al0 n0 mc ms al H locs ls cells slots C hR hE hl ⟨hs.1, hs.2.1, hs⟩ h1 h2)
theorem jl_if_eq {x : Int32} {off : Int} {tgt : Nat} (hd : decode M.2.1 pc = .ok (.ifCond .eq off, 3)) (ht : (pc : Int) + off = (tgt : Int)) (kt : x = 0 → jl_AW l G F M d tgt L st n h ck sk) (kf : ¬ (x = 0) → jl_AW l G F M d (pc + 3) L st n h ck sk) : jl_AW l G F M d pc L (.int x :: st) n h ck sk := by
  intro p e R s m args below meth c al0 n0 mc ms al H locs ls cells slots C hR hE hl hs h1 h2
  exact lv_if_eq C.1.1 C.1.2.1 hd ht (fun q => kt q p e R s m args below meth c al0 n0 mc ms al H locs ls cells slots C hR hE hl hs.2 h1 h2) (fun q => kf q p e R s m args below meth c al0 n0 mc ms al H locs ls cells slots C hR hE hl hs.2 h1 h2)
theorem jl_icmp_eq {x y : Int32} {off : Int} {tgt : Nat} (hd : decode M.2.1 pc = .ok (.if_icmp .eq off, 3)) (ht : (pc : Int) + off = (tgt : Int)) (kt : x = y → jl_AW l G F M d tgt L st n h ck sk) (kf : ¬ (x = y) → jl_AW l G F M d (pc + 3) L st n h ck sk) : jl_AW l G F M d pc L (.int y :: .int x :: st) n h ck sk := by
  intro p e R s m args below meth c al0 n0 mc ms al H locs ls cells slots C hR hE hl hs h1 h2
  exact lv_icmp_eq C.1.1 C.1.2.1 hd ht (fun q => kt q p e R s m args below meth c al0 n0 mc ms al H locs ls cells slots C hR hE hl hs.2.2 h1 h2) (fun q => kf q p e R s m args below meth c al0 n0 mc ms al H locs ls cells slots C hR hE hl hs.2.2 h1 h2)
theorem jl_if_ne {x : Int32} {off : Int} {tgt : Nat} (hd : decode M.2.1 pc = .ok (.ifCond .ne off, 3)) (ht : (pc : Int) + off = (tgt : Int)) (kt : ¬ x = 0 → jl_AW l G F M d tgt L st n h ck sk) (kf : x = 0 → jl_AW l G F M d (pc + 3) L st n h ck sk) : jl_AW l G F M d pc L (.int x :: st) n h ck sk := by
  intro p e R s m args below meth c al0 n0 mc ms al H locs ls cells slots C hR hE hl hs h1 h2
  exact lv_if_ne C.1.1 C.1.2.1 hd ht (fun q => kt q p e R s m args below meth c al0 n0 mc ms al H locs ls cells slots C hR hE hl hs.2 h1 h2) (fun q => kf q p e R s m args below meth c al0 n0 mc ms al H locs ls cells slots C hR hE hl hs.2 h1 h2)
theorem jl_icmp_ne {x y : Int32} {off : Int} {tgt : Nat} (hd : decode M.2.1 pc = .ok (.if_icmp .ne off, 3)) (ht : (pc : Int) + off = (tgt : Int)) (kt : ¬ x = y → jl_AW l G F M d tgt L st n h ck sk) (kf : x = y → jl_AW l G F M d (pc + 3) L st n h ck sk) : jl_AW l G F M d pc L (.int y :: .int x :: st) n h ck sk := by
  intro p e R s m args below meth c al0 n0 mc ms al H locs ls cells slots C hR hE hl hs h1 h2
  exact lv_icmp_ne C.1.1 C.1.2.1 hd ht (fun q => kt q p e R s m args below meth c al0 n0 mc ms al H locs ls cells slots C hR hE hl hs.2.2 h1 h2) (fun q => kf q p e R s m args below meth c al0 n0 mc ms al H locs ls cells slots C hR hE hl hs.2.2 h1 h2)
theorem jl_if_lt {x : Int32} {off : Int} {tgt : Nat} (hd : decode M.2.1 pc = .ok (.ifCond .lt off, 3)) (ht : (pc : Int) + off = (tgt : Int)) (kt : x < 0 → jl_AW l G F M d tgt L st n h ck sk) (kf : ¬ (x < 0) → jl_AW l G F M d (pc + 3) L st n h ck sk) : jl_AW l G F M d pc L (.int x :: st) n h ck sk := by
  intro p e R s m args below meth c al0 n0 mc ms al H locs ls cells slots C hR hE hl hs h1 h2
  exact lv_if_lt C.1.1 C.1.2.1 hd ht (fun q => kt q p e R s m args below meth c al0 n0 mc ms al H locs ls cells slots C hR hE hl hs.2 h1 h2) (fun q => kf q p e R s m args below meth c al0 n0 mc ms al H locs ls cells slots C hR hE hl hs.2 h1 h2)
theorem jl_icmp_lt {x y : Int32} {off : Int} {tgt : Nat} (hd : decode M.2.1 pc = .ok (.if_icmp .lt off, 3)) (ht : (pc : Int) + off = (tgt : Int)) (kt : x < y → jl_AW l G F M d tgt L st n h ck sk) (kf : ¬ (x < y) → jl_AW l G F M d (pc + 3) L st n h ck sk) : jl_AW l G F M d pc L (.int y :: .int x :: st) n h ck sk := by
  intro p e R s m args below meth c al0 n0 mc ms al H locs ls cells slots C hR hE hl hs h1 h2
  exact lv_icmp_lt C.1.1 C.1.2.1 hd ht (fun q => kt q p e R s m args below meth c al0 n0 mc ms al H locs ls cells slots C hR hE hl hs.2.2 h1 h2) (fun q => kf q p e R s m args below meth c al0 n0 mc ms al H locs ls cells slots C hR hE hl hs.2.2 h1 h2)
theorem jl_if_ge {x : Int32} {off : Int} {tgt : Nat} (hd : decode M.2.1 pc = .ok (.ifCond .ge off, 3)) (ht : (pc : Int) + off = (tgt : Int)) (kt : 0 ≤ x → jl_AW l G F M d tgt L st n h ck sk) (kf : ¬ (0 ≤ x) → jl_AW l G F M d (pc + 3) L st n h ck sk) : jl_AW l G F M d pc L (.int x :: st) n h ck sk := by
  intro p e R s m args below meth c al0 n0 mc ms al H locs ls cells slots C hR hE hl hs h1 h2
  exact lv_if_ge C.1.1 C.1.2.1 hd ht (fun q => kt q p e R s m args below meth c al0 n0 mc ms al H locs ls cells slots C hR hE hl hs.2 h1 h2) (fun q => kf q p e R s m args below meth c al0 n0 mc ms al H locs ls cells slots C hR hE hl hs.2 h1 h2)
theorem jl_icmp_ge {x y : Int32} {off : Int} {tgt : Nat} (hd : decode M.2.1 pc = .ok (.if_icmp .ge off, 3)) (ht : (pc : Int) + off = (tgt : Int)) (kt : y ≤ x → jl_AW l G F M d tgt L st n h ck sk) (kf : ¬ (y ≤ x) → jl_AW l G F M d (pc + 3) L st n h ck sk) : jl_AW l G F M d pc L (.int y :: .int x :: st) n h ck sk := by
  intro p e R s m args below meth c al0 n0 mc ms al H locs ls cells slots C hR hE hl hs h1 h2
  exact lv_icmp_ge C.1.1 C.1.2.1 hd ht (fun q => kt q p e R s m args below meth c al0 n0 mc ms al H locs ls cells slots C hR hE hl hs.2.2 h1 h2) (fun q => kf q p e R s m args below meth c al0 n0 mc ms al H locs ls cells slots C hR hE hl hs.2.2 h1 h2)
theorem jl_if_gt {x : Int32} {off : Int} {tgt : Nat} (hd : decode M.2.1 pc = .ok (.ifCond .gt off, 3)) (ht : (pc : Int) + off = (tgt : Int)) (kt : 0 < x → jl_AW l G F M d tgt L st n h ck sk) (kf : ¬ (0 < x) → jl_AW l G F M d (pc + 3) L st n h ck sk) : jl_AW l G F M d pc L (.int x :: st) n h ck sk := by
  intro p e R s m args below meth c al0 n0 mc ms al H locs ls cells slots C hR hE hl hs h1 h2
  exact lv_if_gt C.1.1 C.1.2.1 hd ht (fun q => kt q p e R s m args below meth c al0 n0 mc ms al H locs ls cells slots C hR hE hl hs.2 h1 h2) (fun q => kf q p e R s m args below meth c al0 n0 mc ms al H locs ls cells slots C hR hE hl hs.2 h1 h2)
theorem jl_icmp_gt {x y : Int32} {off : Int} {tgt : Nat} (hd : decode M.2.1 pc = .ok (.if_icmp .gt off, 3)) (ht : (pc : Int) + off = (tgt : Int)) (kt : y < x → jl_AW l G F M d tgt L st n h ck sk) (kf : ¬ (y < x) → jl_AW l G F M d (pc + 3) L st n h ck sk) : jl_AW l G F M d pc L (.int y :: .int x :: st) n h ck sk := by
  intro p e R s m args below meth c al0 n0 mc ms al H locs ls cells slots C hR hE hl hs h1 h2
  exact lv_icmp_gt C.1.1 C.1.2.1 hd ht (fun q => kt q p e R s m args below meth c al0 n0 mc ms al H locs ls cells slots C hR hE hl hs.2.2 h1 h2) (fun q => kf q p e R s m args below meth c al0 n0 mc ms al H locs ls cells slots C hR hE hl hs.2.2 h1 h2)
theorem jl_if_le {x : Int32} {off : Int} {tgt : Nat} (hd : decode M.2.1 pc = .ok (.ifCond .le off, 3)) (ht : (pc : Int) + off = (tgt : Int)) (kt : x ≤ 0 → jl_AW l G F M d tgt L st n h ck sk) (kf : ¬ (x ≤ 0) → jl_AW l G F M d (pc + 3) L st n h ck sk) : jl_AW l G F M d pc L (.int x :: st) n h ck sk := by
  intro p e R s m args below meth c al0 n0 mc ms al H locs ls cells slots C hR hE hl hs h1 h2
  exact lv_if_le C.1.1 C.1.2.1 hd ht (fun q => kt q p e R s m args below meth c al0 n0 mc ms al H locs ls cells slots C hR hE hl hs.2 h1 h2) (fun q => kf q p e R s m args below meth c al0 n0 mc ms al H locs ls cells slots C hR hE hl hs.2 h1 h2)
theorem jl_icmp_le {x y : Int32} {off : Int} {tgt : Nat} (hd : decode M.2.1 pc = .ok (.if_icmp .le off, 3)) (ht : (pc : Int) + off = (tgt : Int)) (kt : x ≤ y → jl_AW l G F M d tgt L st n h ck sk) (kf : ¬ (x ≤ y) → jl_AW l G F M d (pc + 3) L st n h ck sk) : jl_AW l G F M d pc L (.int y :: .int x :: st) n h ck sk := by
  intro p e R s m args below meth c al0 n0 mc ms al H locs ls cells slots C hR hE hl hs h1 h2
  exact lv_icmp_le C.1.1 C.1.2.1 hd ht (fun q => kt q p e R s m args below meth c al0 n0 mc ms al H locs ls cells slots C hR hE hl hs.2.2 h1 h2) (fun q => kf q p e R s m args below meth c al0 n0 mc ms al H locs ls cells slots C hR hE hl hs.2.2 h1 h2)
theorem jl_goto {off : Int} {tgt : Nat} (hd : decode M.2.1 pc = .ok (.goto off, 3)) (ht : (pc : Int) + off = (tgt : Int)) (k : jl_AW l G F M d tgt L (st) n h ck sk) : jl_AW l G F M d pc L (st) n h ck sk := by
  intro p e R s m args below meth c al0 n0 mc ms al H locs ls cells slots C hR hE hl hs h1 h2
  exact lv_goto C.1.1 C.1.2.1 hd ht (k p e R s m args below meth c al0 n0 mc ms al H locs ls cells slots C hR hE hl hs h1 h2)
theorem jl_nonnull {x : Nat} {off : Int} {tgt : Nat} (hd : decode M.2.1 pc = .ok (.ifnonnull off, 3)) (ht : (pc : Int) + off = (tgt : Int)) (k : jl_AW l G F M d tgt L (st) n h ck sk) : jl_AW l G F M d pc L (.ref x :: st) n h ck sk := by
  intro p e R s m args below meth c al0 n0 mc ms al H locs ls cells slots C hR hE hl hs h1 h2
  exact lv_ifnonnull C.1.1 C.1.2.1 hd ht (k p e R s m args below meth c al0 n0 mc ms al H locs ls cells slots C hR hE hl hs.2 h1 h2)
theorem jl_nonnullN {off : Int} (hd : decode M.2.1 pc = .ok (.ifnonnull off, 3)) (k : jl_AW l G F M d (pc + 3) L (st) n h ck sk) : jl_AW l G F M d pc L (.null :: st) n h ck sk := by
  intro p e R s m args below meth c al0 n0 mc ms al H locs ls cells slots C hR hE hl hs h1 h2
  exact lv_ifnonnullN C.1.1 C.1.2.1 hd (k p e R s m args below meth c al0 n0 mc ms al H locs ls cells slots C hR hE hl hs.2 h1 h2)
theorem jl_ifnull {x : Nat} {off : Int} (hd : decode M.2.1 pc = .ok (.ifnull off, 3)) (k : jl_AW l G F M d (pc + 3) L (st) n h ck sk) : jl_AW l G F M d pc L (.ref x :: st) n h ck sk := by
  intro p e R s m args below meth c al0 n0 mc ms al H locs ls cells slots C hR hE hl hs h1 h2
  exact lv_ifnull C.1.1 C.1.2.1 hd (k p e R s m args below meth c al0 n0 mc ms al H locs ls cells slots C hR hE hl hs.2 h1 h2)
theorem jl_ifnullN {off : Int} {tgt : Nat} (hd : decode M.2.1 pc = .ok (.ifnull off, 3)) (ht : (pc : Int) + off = (tgt : Int)) (k : jl_AW l G F M d tgt L (st) n h ck sk) : jl_AW l G F M d pc L (.null :: st) n h ck sk := by
  intro p e R s m args below meth c al0 n0 mc ms al H locs ls cells slots C hR hE hl hs h1 h2
  exact lv_ifnullN C.1.1 C.1.2.1 hd ht (k p e R s m args below meth c al0 n0 mc ms al H locs ls cells slots C hR hE hl hs.2 h1 h2)
theorem jl_tableOut {df lo hi : Int} {offs : Array Int} {len : Nat} {x : Int32} {tgt : Nat} (hd : decode M.2.1 pc = .ok (.tableswitch df lo hi offs, len)) (hx : x.toInt < lo ∨ hi < x.toInt) (ht : (pc : Int) + df = (tgt : Int)) (k : jl_AW l G F M d tgt L (st) n h ck sk) : jl_AW l G F M d pc L (.int x :: st) n h ck sk := by
  intro p e R s m args below meth c al0 n0 mc ms al H locs ls cells slots C hR hE hl hs h1 h2
  exact lv_tableOut C.1.1 C.1.2.1 hd hx ht (k p e R s m args below meth c al0 n0 mc ms al H locs ls cells slots C hR hE hl hs.2 h1 h2)
theorem jl_tableIn {df lo hi : Int} {offs : Array Int} {len : Nat} {x : Int32} {off : Int} {tgt : Nat} (hd : decode M.2.1 pc = .ok (.tableswitch df lo hi offs, len)) (hx : ¬ x.toInt < lo) (hy : ¬ hi < x.toInt) (ho : offs[(x.toInt - lo).toNat]? = some off) (ht : (pc : Int) + off = (tgt : Int)) (k : jl_AW l G F M d tgt L (st) n h ck sk) : jl_AW l G F M d pc L (.int x :: st) n h ck sk := by
  intro p e R s m args below meth c al0 n0 mc ms al H locs ls cells slots C hR hE hl hs h1 h2
  exact lv_tableIn C.1.1 C.1.2.1 hd hx hy ho ht (k p e R s m args below meth c al0 n0 mc ms al H locs ls cells slots C hR hE hl hs.2 h1 h2)
theorem jl_fv {sb ci q : Nat} {fs : List Value} {v : Value} {al : Nat → Nat} (hv : fs[q]? = some v) : (fs.map (jl_v sb al))[q]? = some (jl_v sb al v) := by rw [List.getElem?_map, hv]; rfl
theorem jl_hin {x : Nat} {st : List Value} (hs : jl_oks n (.ref x :: st)) : x < n := hs.1
theorem jl_obj {al : Nat → Nat} {x ci : Nat} {fs : List Value} (hx : x < n) (he : h x = jO ci fs) : (jl_W G al n h)[x]? = some (al x, .inr (ci, fs.map (jl_v G.2.2.1 al))) := by rw [jl_w_get hx, he]; rfl
theorem jl_arr {al : Nat → Nat} {x t k : Nat} {z : jl_S} (hx : x < n) (he : h x = .inl (t, k, z)) : (jl_W G al n h)[x]? = some (al x, .inl (G.2.1 t, k, jl_x al z)) := by rw [jl_w_get hx, he]; rfl
theorem jl_ty {t : Nat} {ty : FieldType} (ht : jl_tyl[t]? = some ty) : (jl_tys G)[t]? = some (G.2.1 t, ty) := by unfold jl_tys; rw [List.getElem?_mapIdx, ht]; rfl
theorem jl_get {x ci q ix N : Nat} {Cn : String} {T : u_T} {fs : List Value} {v : Value} (hd : decode M.2.1 pc = .ok (.getfield ix, 3)) (he : h x = jO ci fs) (hv : fs[q]? = some v) (hc : vwCl[ci]? = some (Cn, T, N)) (hin : ∀ w ∈ u_ws Cn T N, w ∈ jl_T) (hq : q < N) (hw : Cond.fieldLink M.1.cls ix (T q).1 (T q).2.1 (T q).2.2.1 ∈ jl_T) (k : jl_AW l G F M d (pc + 3) L (v :: st) n h ck sk) : jl_AW l G F M d pc L (.ref x :: st) n h ck sk := by
  intro p e R s m args below meth c al0 n0 mc ms al H locs ls cells slots C hR hE hl hs h1 h2
  have hx : x < n := hs.1
  have ho : jl_okv n v := by
    have h9 := hR.2.2.2 x hx
    rw [he] at h9
    exact h9 v (List.mem_of_getElem? hv)
  exact va_get (C := Cn) (T := T) (N := N) C.1.1 C.1.2.1 C.1.2.2.2.2 hin C.1.2.2.2.1 C.2.2.2.2.2.2.1.1 hR.1 x (jl_obj hx he) hc q hq (C.1.2.2.2.2 _ hw) (fun _ h9 => h9) (jl_fv (ci := ci) hv) hd (k p e R s m args below meth c al0 n0 mc ms al H locs ls cells slots C hR hE hl ⟨ho, hs.2⟩ h1 h2)
theorem jl_getN {x ci q ix N : Nat} {Cn : String} {T : u_T} {host : String} {fs : List Value} {v : Value} (hd : decode M.2.1 pc = .ok (.getfield ix, 3)) (he : h x = jO ci fs) (hv : fs[q]? = some v) (hc : vwCl[ci]? = some (Cn, T, N)) (hin : ∀ w ∈ u_ws Cn T N, w ∈ jl_T) (hq : q < N) (hw : Cond.fieldLinkNest M.1.cls ix (T q).1 (T q).2.1 (T q).2.2.1 host ∈ jl_N) (k : jl_AW l G F M d (pc + 3) L (v :: st) n h ck sk) : jl_AW l G F M d pc L (.ref x :: st) n h ck sk := by
  intro p e R s m args below meth c al0 n0 mc ms al H locs ls cells slots C hR hE hl hs h1 h2
  have hx : x < n := hs.1
  have ho : jl_okv n v := by
    have h9 := hR.2.2.2 x hx
    rw [he] at h9
    exact h9 v (List.mem_of_getElem? hv)
  exact va_getN (C := Cn) (T := T) (N := N) C.1.1 C.1.2.1 C.1.2.2.2.2 hin C.1.2.2.2.1 C.2.2.2.2.2.2.1.1 hR.1 x (jl_obj hx he) hc q hq (va_Nw.use rfl (C.2.2.2.2.2.2.1.2.1 _ hw)) (fun _ h9 => h9) (jl_fv (ci := ci) hv) hd (k p e R s m args below meth c al0 n0 mc ms al H locs ls cells slots C hR hE hl ⟨ho, hs.2⟩ h1 h2)
theorem jl_R.set {al : Nat → Nat} {s : State} {H H1 : Heap} {locs locs1 : List Loc} {x : Nat} {e : va_E} (hR : jl_R G n h al s H locs) (hx : x < n) (ho : jl_oke n e)
    (hP : va_P G.1 vwCl ((jl_W G al n h).set x (al x, jl_e G.2.1 G.2.2.1 al e)) H1) (hD : va_D (jl_A G) ((jl_W G al n h).set x (al x, jl_e G.2.1 G.2.2.1 al e))) (hS : va_S (jl_A G) s.heap H1 locs1) : jl_R G n (va_up h x e) al s H1 locs1 := by
  rw [jl_w_set hx] at hP hD
  refine ⟨hP, hD, hS, fun i hi => ?_⟩
  by_cases e1 : i = x
  · subst e1
    rw [va_up_self]
    exact ho
  · rw [va_up_ne _ _ e1]
    exact hR.2.2.2 i hi
theorem jl_put {x ci q ix N : Nat} {Cn : String} {T : u_T} {fs : List Value} {v : Value} {ty0 : Nat → FieldType} {ty : FieldType} (hd : decode M.2.1 pc = .ok (.putfield ix, 3)) (he : h x = jO ci fs) (hl9 : q < fs.length) (hc : vwCl[ci]? = some (Cn, T, N)) (hin : ∀ w ∈ u_ws Cn T N, w ∈ jl_T) (hty : ∀ k, k < N → parseFieldDescriptor (T k).2.2.1 = some (ty0 k)) (hnm : ∀ a, a < N → ∀ b, b < N → a ≠ b → (T a).2.1 ≠ (T b).2.1) (hq : q < N) (hw : Cond.fieldLink M.1.cls ix (T q).1 (T q).2.1 (T q).2.2.1 ∈ jl_T) (hfin : (T q).2.2.2 = false) (hdt : parseFieldDescriptor (T q).2.2.1 = some ty) (hna : ∀ sb al, narrow ty (jl_v sb al v) = jl_v sb al v) (hfi : ∀ sb al, fits ty (jl_v sb al v) = true) (k : jl_AW l G F M d (pc + 3) L st n (va_up h x (jO ci (fs.set q v))) ck sk) : jl_AW l G F M d pc L (v :: .ref x :: st) n h ck sk := by
  intro p e R s m args below meth c al0 n0 mc ms al H locs ls cells slots C hR hE hl hs h1 h2
  have hx : x < n := hs.2.1
  have ho : jl_oke n (jO ci (fs.set q v)) := by
    intro u hu
    have h9 := hR.2.2.2 x hx
    rw [he] at h9
    rcases List.mem_or_eq_of_mem_set hu with h8 | h8
    · exact h9 u h8
    · rw [h8]; exact hs.1
  exact va_put (C := Cn) (T := T) (N := N) C.1.1 C.1.2.1 C.1.2.2.2.2 hin ty0 hty hnm C.1.2.2.2.1 C.2.2.2.2.2.2.1.1 hR.1 hR.2.1 hR.2.2.1 x (jl_obj hx he) hc q hq (C.1.2.2.2.2 _ hw) (fun _ h9 => h9) hfin hdt (hna _ _) (hfi _ _) (by rw [List.length_map]; exact hl9) hd (fun H1 locs1 hP hD hS => k p e R s m args below meth c al0 n0 mc ms al H1 locs1 ls cells slots C (hR.set hx ho (by rw [← List.map_set] at hP; exact hP) (by rw [← List.map_set] at hD; exact hD) hS) hE hl hs.2.2 h1 h2)
theorem jl_putN {x ci q ix N : Nat} {Cn : String} {T : u_T} {host : String} {fs : List Value} {v : Value} {ty0 : Nat → FieldType} {ty : FieldType} (hd : decode M.2.1 pc = .ok (.putfield ix, 3)) (he : h x = jO ci fs) (hl9 : q < fs.length) (hc : vwCl[ci]? = some (Cn, T, N)) (hin : ∀ w ∈ u_ws Cn T N, w ∈ jl_T) (hty : ∀ k, k < N → parseFieldDescriptor (T k).2.2.1 = some (ty0 k)) (hnm : ∀ a, a < N → ∀ b, b < N → a ≠ b → (T a).2.1 ≠ (T b).2.1) (hq : q < N) (hw : Cond.fieldLinkNest M.1.cls ix (T q).1 (T q).2.1 (T q).2.2.1 host ∈ jl_N) (hfin : (T q).2.2.2 = false) (hdt : parseFieldDescriptor (T q).2.2.1 = some ty) (hna : ∀ sb al, narrow ty (jl_v sb al v) = jl_v sb al v) (hfi : ∀ sb al, fits ty (jl_v sb al v) = true) (k : jl_AW l G F M d (pc + 3) L st n (va_up h x (jO ci (fs.set q v))) ck sk) : jl_AW l G F M d pc L (v :: .ref x :: st) n h ck sk := by
  intro p e R s m args below meth c al0 n0 mc ms al H locs ls cells slots C hR hE hl hs h1 h2
  have hx : x < n := hs.2.1
  have ho : jl_oke n (jO ci (fs.set q v)) := by
    intro u hu
    have h9 := hR.2.2.2 x hx
    rw [he] at h9
    rcases List.mem_or_eq_of_mem_set hu with h8 | h8
    · exact h9 u h8
    · rw [h8]; exact hs.1
  exact va_putN (C := Cn) (T := T) (N := N) C.1.1 C.1.2.1 C.1.2.2.2.2 hin ty0 hty hnm C.1.2.2.2.1 C.2.2.2.2.2.2.1.1 hR.1 hR.2.1 hR.2.2.1 x (jl_obj hx he) hc q hq (va_Nw.use rfl (C.2.2.2.2.2.2.1.2.1 _ hw)) (fun _ h9 => h9) hfin hdt (hna _ _) (hfi _ _) (by rw [List.length_map]; exact hl9) hd (fun H1 locs1 hP hD hS => k p e R s m args below meth c al0 n0 mc ms al H1 locs1 ls cells slots C (hR.set hx ho (by rw [← List.map_set] at hP; exact hP) (by rw [← List.map_set] at hD; exact hD) hS) hE hl hs.2.2 h1 h2)
theorem jl_putF {x ci q ix N : Nat} {Cn : String} {T : u_T} {fs : List Value} {v : Value} {ty0 : Nat → FieldType} {ty : FieldType} (hd : decode M.2.1 pc = .ok (.putfield ix, 3)) (he : h x = jO ci fs) (hl9 : q < fs.length) (hc : vwCl[ci]? = some (Cn, T, N)) (hin : ∀ w ∈ u_ws Cn T N, w ∈ jl_T) (hty : ∀ k, k < N → parseFieldDescriptor (T k).2.2.1 = some (ty0 k)) (hnm : ∀ a, a < N → ∀ b, b < N → a ≠ b → (T a).2.1 ≠ (T b).2.1) (hq : q < N) (hw : Cond.fieldLink M.1.cls ix (T q).1 (T q).2.1 (T q).2.2.1 ∈ jl_T) (hfin : (T q).2.2.2 = true) (hi : M.1.name = "<init>") (hdc : (T q).1 = M.1.cls) (hdt : parseFieldDescriptor (T q).2.2.1 = some ty) (hna : ∀ sb al, narrow ty (jl_v sb al v) = jl_v sb al v) (hfi : ∀ sb al, fits ty (jl_v sb al v) = true) (k : jl_AW l G F M d (pc + 3) L st n (va_up h x (jO ci (fs.set q v))) ck sk) : jl_AW l G F M d pc L (v :: .ref x :: st) n h ck sk := by
  intro p e R s m args below meth c al0 n0 mc ms al H locs ls cells slots C hR hE hl hs h1 h2
  have hx : x < n := hs.2.1
  have ho : jl_oke n (jO ci (fs.set q v)) := by
    intro u hu
    have h9 := hR.2.2.2 x hx
    rw [he] at h9
    rcases List.mem_or_eq_of_mem_set hu with h8 | h8
    · exact h9 u h8
    · rw [h8]; exact hs.1
  exact va_putF (C := Cn) (T := T) (N := N) C.1.1 C.1.2.1 C.1.2.2.2.2 hin ty0 hty hnm C.1.2.2.2.1 C.2.2.2.2.2.2.1.1 hR.1 hR.2.1 hR.2.2.1 x (jl_obj hx he) hc q hq (C.1.2.2.2.2 _ hw) (fun _ h9 => h9) hfin (C.2.2.2.1.trans hi) hdc hdt (hna _ _) (hfi _ _) (by rw [List.length_map]; exact hl9) hd (fun H1 locs1 hP hD hS => k p e R s m args below meth c al0 n0 mc ms al H1 locs1 ls cells slots C (hR.set hx ho (by rw [← List.map_set] at hP; exact hP) (by rw [← List.map_set] at hD; exact hD) hS) hE hl hs.2.2 h1 h2)
theorem jl_iald {x k9 : Nat} {f : Nat → Int32} {i : Int32} (hd : decode M.2.1 pc = .ok (.iaload, 1)) (he : h x = jI k9 f) (hi : vp_in i k9) (k : jl_AW l G F M d (pc + 1) L (.int (f i.toNatClampNeg) :: st) n h ck sk) : jl_AW l G F M d pc L (.int i :: .ref x :: st) n h ck sk := by
  intro p e R s m args below meth c al0 n0 mc ms al H locs ls cells slots C hR hE hl hs h1 h2
  exact va_iald C.1.1 C.1.2.1 C.2.2.2.2.2.2.1.1 hR.1 x 0 (jl_arr hs.2.1 he) (jl_ty rfl) hi hd (k p e R s m args below meth c al0 n0 mc ms al H locs ls cells slots C hR hE hl ⟨trivial, hs.2.2⟩ h1 h2)
theorem jl_lald {x k9 : Nat} {f : Nat → Int64} {i : Int32} (hd : decode M.2.1 pc = .ok (.laload, 1)) (he : h x = jJ k9 f) (hi : vp_in i k9) (k : jl_AW l G F M d (pc + 1) L (.long (f i.toNatClampNeg) :: st) n h ck sk) : jl_AW l G F M d pc L (.int i :: .ref x :: st) n h ck sk := by
  intro p e R s m args below meth c al0 n0 mc ms al H locs ls cells slots C hR hE hl hs h1 h2
  exact va_lald C.1.1 C.1.2.1 C.2.2.2.2.2.2.1.1 hR.1 x 1 (jl_arr hs.2.1 he) (jl_ty rfl) hi hd (k p e R s m args below meth c al0 n0 mc ms al H locs ls cells slots C hR hE hl ⟨trivial, hs.2.2⟩ h1 h2)
theorem jl_alen {x t k9 : Nat} {z : jl_S} {ty : FieldType} {v : Int32} (hd : decode M.2.1 pc = .ok (.arraylength, 1)) (he : h x = .inl (t, k9, z)) (ht : jl_tyl[t]? = some ty) (hv : Int32.ofNat k9 = v) (k : jl_AW l G F M d (pc + 1) L (.int v :: st) n h ck sk) : jl_AW l G F M d pc L (.ref x :: st) n h ck sk := by
  intro p e R s m args below meth c al0 n0 mc ms al H locs ls cells slots C hR hE hl hs h1 h2
  exact va_alen C.1.1 C.1.2.1 C.2.2.2.2.2.2.1.1 hR.1 x t (jl_arr hs.1 he) (jl_ty ht) hv hd (k p e R s m args below meth c al0 n0 mc ms al H locs ls cells slots C hR hE hl ⟨trivial, hs.2⟩ h1 h2)
theorem jl_iast {x k9 : Nat} {f : Nat → Int32} {i v : Int32} (hd : decode M.2.1 pc = .ok (.iastore, 1)) (he : h x = jI k9 f) (hi : vp_in i k9) (k : jl_AW l G F M d (pc + 1) L st n (va_up h x (jI k9 (upd f i.toNatClampNeg v))) ck sk) : jl_AW l G F M d pc L (.int v :: .int i :: .ref x :: st) n h ck sk := by
  intro p e R s m args below meth c al0 n0 mc ms al H locs ls cells slots C hR hE hl hs h1 h2
  have hx : x < n := hs.2.2.1
  exact va_iast C.1.1 C.1.2.1 C.2.2.2.2.2.2.1.1 hR.1 hR.2.1 hR.2.2.1 x 0 (jl_arr hx he) (jl_ty rfl) hi hd (fun H1 locs1 hP hD hS => k p e R s m args below meth c al0 n0 mc ms al H1 locs1 ls cells slots C (hR.set (e := jI k9 (upd f i.toNatClampNeg v)) hx (fun g hg => by cases hg) hP hD hS) hE hl hs.2.2.2 h1 h2)
theorem jl_last {x k9 : Nat} {f : Nat → Int64} {i : Int32} {v : Int64} (hd : decode M.2.1 pc = .ok (.lastore, 1)) (he : h x = jJ k9 f) (hi : vp_in i k9) (k : jl_AW l G F M d (pc + 1) L st n (va_up h x (jJ k9 (vp_updL f i.toNatClampNeg v))) ck sk) : jl_AW l G F M d pc L (.long v :: .int i :: .ref x :: st) n h ck sk := by
  intro p e R s m args below meth c al0 n0 mc ms al H locs ls cells slots C hR hE hl hs h1 h2
  have hx : x < n := hs.2.2.1
  exact va_last C.1.1 C.1.2.1 C.2.2.2.2.2.2.1.1 hR.1 hR.2.1 hR.2.2.1 x 1 (jl_arr hx he) (jl_ty rfl) hi hd (fun H1 locs1 hP hD hS => k p e R s m args below meth c al0 n0 mc ms al H1 locs1 ls cells slots C (hR.set (e := jJ k9 (vp_updL f i.toNatClampNeg v)) hx (fun g hg => by cases hg) hP hD hS) hE hl hs.2.2.2 h1 h2)
theorem jl_zald {x k9 : Nat} {f : Nat → Int32} {i : Int32} (hd : decode M.2.1 pc = .ok (.baload, 1)) (he : h x = .inl (3, k9, .inl f)) (hi : vp_in i k9) (k : jl_AW l G F M d (pc + 1) L (.int (f i.toNatClampNeg) :: st) n h ck sk) : jl_AW l G F M d pc L (.int i :: .ref x :: st) n h ck sk := by
  intro p e R s m args below meth c al0 n0 mc ms al H locs ls cells slots C hR hE hl hs h1 h2
  exact va_zald C.1.1 C.1.2.1 C.2.2.2.2.2.2.1.1 hR.1 x 3 (jl_arr hs.2.1 he) (jl_ty rfl) hi hd (k p e R s m args below meth c al0 n0 mc ms al H locs ls cells slots C hR hE hl ⟨trivial, hs.2.2⟩ h1 h2)
theorem jl_zast {x k9 : Nat} {f : Nat → Int32} {i v : Int32} (hd : decode M.2.1 pc = .ok (.bastore, 1)) (he : h x = .inl (3, k9, .inl f)) (hi : vp_in i k9) (k : jl_AW l G F M d (pc + 1) L st n (va_up h x (.inl (3, k9, .inl (upd f i.toNatClampNeg (vp_nar .boolean v))))) ck sk) : jl_AW l G F M d pc L (.int v :: .int i :: .ref x :: st) n h ck sk := by
  intro p e R s m args below meth c al0 n0 mc ms al H locs ls cells slots C hR hE hl hs h1 h2
  have hx : x < n := hs.2.2.1
  exact va_zast C.1.1 C.1.2.1 C.2.2.2.2.2.2.1.1 hR.1 hR.2.1 hR.2.2.1 x 3 (jl_arr hx he) (jl_ty rfl) hi hd (fun H1 locs1 hP hD hS => k p e R s m args below meth c al0 n0 mc ms al H1 locs1 ls cells slots C (hR.set (e := .inl (3, k9, .inl (upd f i.toNatClampNeg (vp_nar .boolean v)))) hx (fun g hg => by cases hg) hP hD hS) hE hl hs.2.2.2 h1 h2)
theorem jl_rf (sb : Nat) (al : Nat → Nat) (r : Option Nat) : va_rf (r.map al) = jl_v sb al (va_rf r) := by cases r <;> rfl
theorem jl_aald {x t k9 : Nat} {f : Nat → Option Nat} {i : Int32} {Cn : String} (hd : decode M.2.1 pc = .ok (.aaload, 1)) (he : h x = jQ t k9 f) (ht : jl_tyl[t]? = some (.object Cn)) (hi : vp_in i k9) (k : jl_AW l G F M d (pc + 1) L (va_rf (f i.toNatClampNeg) :: st) n h ck sk) : jl_AW l G F M d pc L (.int i :: .ref x :: st) n h ck sk := by
  intro p e R s m args below meth c al0 n0 mc ms al H locs ls cells slots C hR hE hl hs h1 h2
  have hx : x < n := hs.2.1
  have ho : jl_okv n (va_rf (f i.toNatClampNeg)) := by
    have h9 := hR.2.2.2 x hx
    rw [he] at h9
    cases hf : f i.toNatClampNeg with
    | none => exact trivial
    | some j => exact h9 f rfl _ j hf
  refine va_aldq C.1.1 C.1.2.1 C.2.2.2.2.2.2.1.1 hR.1 x t (jl_arr hx he) (jl_ty ht) hi hd ?_
  have h9 := k p e R s m args below meth c al0 n0 mc ms al H locs ls cells slots C hR hE hl ⟨ho, hs.2.2⟩ h1 h2
  rw [List.map_cons, ← jl_rf] at h9
  exact h9
theorem jl_aast {x t k9 y ci N : Nat} {f : Nat → Option Nat} {i : Int32} {Cn : String} {T : u_T} {fs : List Value} (hd : decode M.2.1 pc = .ok (.aastore, 1)) (he : h x = jQ t k9 f) (ht : jl_tyl[t]? = some (.object Cn)) (hy : h y = jO ci fs) (hc : vwCl[ci]? = some (Cn, T, N)) (hi : vp_in i k9) (k : jl_AW l G F M d (pc + 1) L st n (va_up h x (jQ t k9 (va_up f i.toNatClampNeg (some y)))) ck sk) : jl_AW l G F M d pc L (.ref y :: .int i :: .ref x :: st) n h ck sk := by
  intro p e R s m args below meth c al0 n0 mc ms al H locs ls cells slots C hR hE hl hs h1 h2
  have hx : x < n := hs.2.2.1
  have hyn : y < n := hs.1
  have ho : jl_oke n (jQ t k9 (va_up f i.toNatClampNeg (some y))) := by
    intro g hg j z hz
    cases hg
    have h9 := hR.2.2.2 x hx
    rw [he] at h9
    by_cases e1 : j = i.toNatClampNeg
    · rw [e1, va_up_self] at hz
      cases hz
      exact hyn
    · rw [va_up_ne _ _ e1] at hz
      exact h9 f rfl j z hz
  have hup : (fun j => (va_up f i.toNatClampNeg (some y) j).map al) = va_up (fun j => (f j).map al) i.toNatClampNeg (some (al y)) := by
    funext j
    by_cases e1 : j = i.toNatClampNeg
    · rw [e1, va_up_self, va_up_self]; rfl
    · rw [va_up_ne _ _ e1, va_up_ne _ _ e1]
  refine va_astq C.1.1 C.1.2.1 C.2.2.2.2.2.2.1.1 hR.1 hR.2.1 hR.2.2.1 x t y ci (r := (Cn, T, N)) (jl_arr hx he) (jl_ty ht) (jl_obj hyn hy) hc hi hd (fun H1 locs1 hP hD hS => ?_)
  rw [← hup] at hP hD
  exact k p e R s m args below meth c al0 n0 mc ms al H1 locs1 ls cells slots C (hR.set (e := jQ t k9 (va_up f i.toNatClampNeg (some y))) hx ho hP hD hS) hE hl hs.2.2.2 h1 h2
theorem jl_sld {z : UInt32} {i : Int32} (hd : decode M.2.1 pc = .ok (.iaload, 1)) (hi : vp_in i G.2.2.2.2.1) (k : jl_AW l G F M d (pc + 1) L (.int (G.2.2.2.2.2 i.toNatClampNeg) :: st) n h ck sk) : jl_AW l G F M d pc L (.int i :: .float z :: st) n h ck sk := by
  intro p e R s m args below meth c al0 n0 mc ms al H locs ls cells slots C hR hE hl hs h1 h2
  obtain ⟨-, -, -, -, hX, hlt, hle⟩ := C.2.2.2.2.2.2.1
  exact va_sld C.1.1 C.1.2.1 hX (Nat.lt_of_lt_of_le hlt hle) (Nat.not_le.mpr hlt) hR.2.2.1 hi hd (k p e R s m args below meth c al0 n0 mc ms al H locs ls cells slots C hR hE hl ⟨trivial, hs.2.2⟩ h1 h2)
theorem jl_slen {z : UInt32} (hd : decode M.2.1 pc = .ok (.arraylength, 1)) (k : jl_AW l G F M d (pc + 1) L (.int (Int32.ofNat G.2.2.2.2.1) :: st) n h ck sk) : jl_AW l G F M d pc L (.float z :: st) n h ck sk := by
  intro p e R s m args below meth c al0 n0 mc ms al H locs ls cells slots C hR hE hl hs h1 h2
  obtain ⟨-, -, -, -, hX, hlt, hle⟩ := C.2.2.2.2.2.2.1
  exact va_slen C.1.1 C.1.2.1 hX (Nat.lt_of_lt_of_le hlt hle) (Nat.not_le.mpr hlt) hR.2.2.1 hd (k p e R s m args below meth c al0 n0 mc ms al H locs ls cells slots C hR hE hl ⟨trivial, hs.2⟩ h1 h2)theorem jl_K.tys {s : State} {H : Heap} (hK : jl_K G s H) {t : Nat} {ty : FieldType} (ht : jl_tyl[t]? = some ty) : va_RA s (G.2.1 t) ty := (hK.1.2 t _ (jl_ty ht)).2
theorem jl_RA_u {U : State} {a b : ClassId} {ty : FieldType} (h1 : va_RA U a ty) (h2 : va_RA U b ty) : a = b := by
  cases ty with
  | object C =>
    obtain ⟨-, -, -, -, -, h3⟩ := h1
    obtain ⟨-, -, -, -, -, h4⟩ := h2
    exact Option.some.inj (h3.symm.trans h4)
  | _ => exact Option.some.inj (h1.symm.trans h2)
theorem jl_E.new {n0 q : Nat} {al0 al : Nat → Nat} (hE : jl_E n0 al0 n al) : jl_E n0 al0 (n + 1) (va_up al n q) := ⟨Nat.le_succ_of_le hE.1, fun i hi => by rw [va_up_ne _ _ (Nat.ne_of_lt (Nat.lt_of_lt_of_le hi hE.1))]; exact hE.2 i hi⟩
theorem jl_R.new {al : Nat → Nat} {s : State} {H H1 : Heap} {locs locs1 : List Loc} {q : Nat} {e : va_E} (hR : jl_R G n h al s H locs) (ho : jl_oke n e)
    (hP : va_P G.1 vwCl (jl_W G al n h ++ [(q, jl_e G.2.1 G.2.2.1 (va_up al n q) e)]) H1) (hD : va_D (jl_A G) (jl_W G al n h ++ [(q, jl_e G.2.1 G.2.2.1 (va_up al n q) e)])) (hS : va_S (jl_A G) s.heap H1 locs1) : jl_R G (n + 1) (va_up h n e) (va_up al n q) s H1 locs1 := by
  have e1 := jl_w_new (dA := G.2.1) (sb := G.2.2.1) (q := q) (al := al) hR.2.2.2 e
  unfold jl_W at hP hD
  rw [e1] at hP hD
  refine ⟨hP, hD, hS, fun i hi => ?_⟩
  by_cases e2 : i = n
  · subst e2
    rw [va_up_self]
    exact jl_oke_mono ho (Nat.le_succ _)
  · rw [va_up_ne _ _ e2]
    exact jl_oke_mono (hR.2.2.2 i (by omega)) (Nat.le_succ _)
theorem jl_new {ci ix N : Nat} {Cn : String} {T : u_T} {fs : List Value} {ty0 : Nat → FieldType} (hd : decode M.2.1 pc = .ok (.new ix, 3)) (hc : vwCl[ci]? = some (Cn, T, N)) (hin : ∀ w ∈ u_ws Cn T N, w ∈ jl_T) (hty : ∀ k, k < N → parseFieldDescriptor (T k).2.2.1 = some (ty0 k)) (hfs : ∀ j, j < N → defaultValue (ty0 j) = vp_V fs j) (hsp : ∀ sb al, fs.map (jl_v sb al) = fs) (hok : ∀ v, v ∈ fs → jl_okv 0 v)
    (w1 : Cond.classLink M.1.cls ix Cn ∈ jl_T) (w2 : Cond.instantiable Cn N ∈ jl_T) (w3 : Cond.initialized Cn ∈ jl_T)
    (k : jl_AW l G F M d (pc + 3) L (.ref n :: st) (n + 1) (va_up h n (jO ci fs)) ck sk) : jl_AW l G F M d pc L st n h (ck + 1) (sk + N) := by
  intro p e R s m args below meth c al0 n0 mc ms al H locs ls cells slots C hR hE hl hs h1 h2
  obtain ⟨hK, hF1, hF2, hF3, hF4⟩ := C.2.2.2.2.2.2
  refine va_new (C := Cn) (T := T) (N := N) (fs := fs) C.1.1 C.1.2.1 C.1.2.2.2.2 hin ty0 hty C.1.2.2.2.1 (C.1.2.2.2.2 _ w1) (C.1.2.2.2.2 _ w2) (C.1.2.2.2.2 _ w3) hK.1 hR.1 hR.2.1 hR.2.2.1 (fun q hq => Nat.le_trans hK.2.2.2.2.2.2 hq) hc hfs (by omega) (by omega) hd (fun q H1 hP hD hS => ?_)
  have hx : jl_e G.2.1 G.2.2.1 (va_up al n q) (jO ci fs) = .inr (ci, fs) := by
    show Sum.inr (ci, fs.map (jl_v G.2.2.1 (va_up al n q))) = _
    rw [hsp]
  have hEx : ∀ i, i < n → va_up al n q i = al i := fun i hi => va_up_ne _ _ (Nat.ne_of_lt hi)
  have h9 := k p e R s m args below meth c al0 n0 mc ms (va_up al n q) H1 locs ls (cells + 1) (slots + N) C (hR.new (e := jO ci fs) (fun v hv => jl_okv_mono (hok v hv) (Nat.zero_le n)) (by rw [hx]; exact hP) (by rw [hx]; exact hD) hS) hE.new (hl.ext (Nat.le_succ n) hEx) ⟨Nat.lt_succ_self n, jl_oks_mono (Nat.le_succ n) hs⟩ (by omega) (by omega)
  rw [List.map_cons, jl_oks_map hEx hs] at h9
  have e9 : jl_v G.2.2.1 (va_up al n q) (.ref n) = .ref q := congrArg Value.ref (va_up_self _ _ _)
  rw [e9] at h9
  exact h9
theorem jl_newa {t N' : Nat} {aty : ArrayType} {ty : FieldType} {k9 : Int32} {z : jl_S} (hd : decode M.2.1 pc = .ok (.newarray aty, 2)) (ht : jl_tyl[t]? = some ty) (hty : newarray.typeOf aty = ty) (w1 : Cond.arrayClass (newarray.typeOf aty) ∈ jl_T)
    (hz : ∀ cA : ClassId, vp_cell cA (N', z) = arrV cA N' (fun _ => defaultValue ty)) (hzx : ∀ al, jl_x al z = z) (hzo : ∀ f, z ≠ .inr (.inr (.inr (.inr f)))) (hn : ¬ k9 < 0) (hN : k9.toNatClampNeg = N') (hb : N' * componentBytes ty ≤ 536870912)
    (k : jl_AW l G F M d (pc + 2) L (.ref n :: st) (n + 1) (va_up h n (.inl (t, N', z))) ck sk) : jl_AW l G F M d pc L (.int k9 :: st) n h (ck + 1) (sk + N') := by
  intro p e R s m args below meth c al0 n0 mc ms al H locs ls cells slots C hR hE hl hs h1 h2
  obtain ⟨hK, hF1, hF2, hF3, hF4⟩ := C.2.2.2.2.2.2
  refine va_newa (a0 := (N', z)) C.1.1 C.1.2.1 (C.1.2.2.2.2 _ w1) hty hK.1 hR.1 hR.2.1 hR.2.2.1 (fun q hq => Nat.le_trans hK.2.2.2.2.2.2 hq) hz hn hN hb (by omega) (by omega) hd (fun q cA H1 hK1 hP hD hS => ?_)
  have hcA : cA = G.2.1 t := by
    refine jl_RA_u (U := s) (ty := ty) (hK1.2 (jl_tys G).length (cA, ty) (by simp)).2 (hK.tys ht)
  subst hcA
  have hx : jl_e G.2.1 G.2.2.1 (va_up al n q) (.inl (t, N', z)) = .inl (G.2.1 t, N', z) := by
    show Sum.inl (G.2.1 t, N', jl_x (va_up al n q) z) = _
    rw [hzx]
  have hEx : ∀ i, i < n → va_up al n q i = al i := fun i hi => va_up_ne _ _ (Nat.ne_of_lt hi)
  have h9 := k p e R s m args below meth c al0 n0 mc ms (va_up al n q) H1 locs ls (cells + 1) (slots + N') C (hR.new (e := .inl (t, N', z)) (fun f hf => absurd hf (hzo f)) (by rw [hx]; exact hP) (by rw [hx]; exact hD) hS) hE.new (hl.ext (Nat.le_succ n) hEx) ⟨Nat.lt_succ_self n, jl_oks_mono (Nat.le_succ n) hs.2⟩ (by omega) (by omega)
  rw [List.map_cons, jl_oks_map hEx hs.2] at h9
  have e9 : jl_v G.2.2.1 (va_up al n q) (.ref n) = .ref q := congrArg Value.ref (va_up_self _ _ _)
  rw [e9] at h9
  exact h9
theorem jl_anew {t N' ix : Nat} {Cn : String} {k9 : Int32} (hd : decode M.2.1 pc = .ok (.anewarray ix, 3)) (ht : jl_tyl[t]? = some (.object Cn)) (w1 : Cond.classLink M.1.cls ix Cn ∈ jl_T) (hAO : Cn ∈ jl_O)
    (hn : ¬ k9 < 0) (hN : k9.toNatClampNeg = N') (hb : N' * 4 ≤ 536870912)
    (k : jl_AW l G F M d (pc + 3) L (.ref n :: st) (n + 1) (va_up h n (jQ t N' (fun _ => none))) ck sk) : jl_AW l G F M d pc L (.int k9 :: st) n h (ck + 1) (sk + N') := by
  intro p e R s m args below meth c al0 n0 mc ms al H locs ls cells slots C hR hE hl hs h1 h2
  obtain ⟨hK, hF1, hF2, hF3, hF4⟩ := C.2.2.2.2.2.2
  refine va_newq C.1.1 C.1.2.1 C.1.2.2.2.1 (C.1.2.2.2.2 _ w1) (hK.2.2.1.2.1 _ hAO) hK.1 hR.1 hR.2.1 hR.2.2.1 (fun q hq => Nat.le_trans hK.2.2.2.2.2.2 hq) hn hN hb (by omega) (by omega) hd (fun q cA H1 hK1 hP hD hS => ?_)
  have hcA : cA = G.2.1 t := by
    refine jl_RA_u (U := s) (ty := .object Cn) (hK1.2 (jl_tys G).length (cA, .object Cn) (by simp)).2 (hK.tys ht)
  subst hcA
  have hEx : ∀ i, i < n → va_up al n q i = al i := fun i hi => va_up_ne _ _ (Nat.ne_of_lt hi)
  have h9 := k p e R s m args below meth c al0 n0 mc ms (va_up al n q) H1 locs ls (cells + 1) (slots + N') C (hR.new (e := jQ t N' (fun _ => none)) (fun f hf j i hi => by cases hf; cases hi) hP hD hS) hE.new (hl.ext (Nat.le_succ n) hEx) ⟨Nat.lt_succ_self n, jl_oks_mono (Nat.le_succ n) hs.2⟩ (by omega) (by omega)
  rw [List.map_cons, jl_oks_map hEx hs.2] at h9
  have e9 : jl_v G.2.2.1 (va_up al n q) (.ref n) = .ref q := congrArg Value.ref (va_up_self _ _ _)
  rw [e9] at h9
  exact h9
/-- the operands' size -/
theorem jl_cats (sb : Nat) (al : Nat → Nat) (st : List Value) : ((st.map (jl_v sb al)).map fun v => v.category).sum = (st.map fun v => v.category).sum := by
  rw [List.map_map]
  congr 2
  funext v
  exact jl_cat sb al v
theorem jl_objInit {x ix : Nat} (hd : decode M.2.1 pc = .ok (.invokespecial ix, 3)) (w1 : Cond.methodLink M.1.cls ix Lib.objectInit ∈ jl_T) (w2 : Cond.instanceMethod Lib.objectInit ∈ jl_T) (w3 : Cond.code Lib.objectInit ⟨#[0xb1]⟩ 1 none ∈ jl_T) (hc : (st.map fun v => v.category).sum ≤ 8)
    (k : jl_AW l G F M d (pc + 3) L st n h ck sk) : jl_AW l G F M d pc L (.ref x :: st) n h ck sk := by
  intro p e R s m args below meth c al0 n0 mc ms al H locs ls cells slots C hR hE hl hs h1 h2
  obtain ⟨hK, hF1, hF2, hF3, hF4⟩ := C.2.2.2.2.2.2
  refine W.objInit C.1.1 C.1.2.1 C.1.2.2.2.1 (C.1.2.2.2.2 _ w1) (C.1.2.2.2.2 _ w2) (C.1.2.2.2.2 _ w3) rfl (by rw [C.1.2.2.1]; exact hl.1) rfl hd (by omega) (by have := lv_room (m := m) (pc := pc) (ls := ls) (rest := st.map (jl_v G.2.2.1 al)) (st := st.map (jl_v G.2.2.1 al)) (by rw [jl_cats]; exact hc); show 2 * (F0 m pc ls (st.map (jl_v G.2.2.1 al))).monitorRoom + _ + 12 ≤ _; omega) ?_
  exact k p e R s m args below meth c al0 n0 mc ms al H locs ls cells slots C hR hE hl hs.2 h1 h2
/-- System.arraycopy of ints -/
theorem jl_acopy {x y k0 k1 ix : Nat} {f g : Nat → Int32} {sp dp k9 : Int32} (hd : decode M.2.1 pc = .ok (.invokestatic ix, 3)) (he0 : h x = jI k0 f) (he1 : h y = jI k1 g) (w1 : Cond.methodLink M.1.cls ix arraycopyName ∈ jl_T) (w2 : Cond.native arraycopyName ∈ jl_T) (w3 : Cond.static arraycopyName ∈ jl_T) (w4 : Cond.initialized "java/lang/System" ∈ jl_T)
    (q1 : ¬ sp < 0) (q2 : ¬ dp < 0) (q3 : ¬ k9 < 0) (q4 : sp.toNatClampNeg + k9.toNatClampNeg ≤ k0) (q5 : dp.toNatClampNeg + k9.toNatClampNeg ≤ k1) (hc : (st.map fun v => v.category).sum ≤ 8)
    (k : jl_AW l G F M d (pc + 3) L st n (va_up h y (jI k1 (va_cpy f g sp.toNatClampNeg dp.toNatClampNeg k9.toNatClampNeg))) ck sk) : jl_AW l G F M d pc L (.int k9 :: .int dp :: .ref y :: .int sp :: .ref x :: st) n h ck sk := by
  intro p e R s m args below meth c al0 n0 mc ms al H locs ls cells slots C hR hE hl hs h1 h2
  obtain ⟨hK, hF1, hF2, hF3, hF4⟩ := id C.2.2.2.2.2.2
  have hx : x < n := hs.2.2.2.2.1
  have hy : y < n := hs.2.2.1
  have hnf : nativeFrameWords "java/lang/System" "arraycopy" 5 ≤ 200 := by decide +kernel
  exact va_copyi C.1.1 C.1.2.1 (by rw [C.1.2.2.1]; exact hl.1.symm) C.1.2.2.2.1 (C.1.2.2.2.2 _ w1) (C.1.2.2.2.2 _ w2) (C.1.2.2.2.2 _ w3) (C.1.2.2.2.2 _ w4) hK.1 hR.1 hR.2.1 hR.2.2.1 x y 0 0 (jl_arr hx he0) (jl_arr hy he1) (jl_ty rfl) (jl_ty rfl) rfl q1 q2 q3 q4 q5 (fun i hi => rfl) (by omega) (by rw [jl_cats]; omega) hd
    (fun H1 locs1 hP hD hS => k p e R s m args below meth c al0 n0 mc ms al H1 locs1 ls cells slots C (hR.set (e := jI k1 (va_cpy f g sp.toNatClampNeg dp.toNatClampNeg k9.toNatClampNeg)) hy (fun g hg => by cases hg) hP hD hS) hE hl hs.2.2.2.2.2 h1 h2)
section JLR
variable {Kr : Option Value → Nat → (Nat → va_E) → Prop} {Kx : String → Nat → (Nat → va_E) → Prop}
theorem jl_iret {x : Int32} (hd : decode M.2.1 pc = .ok (.ireturn, 1)) (hr : M.2.2.2.1 = some .int) (hk : Kr (some (.int x)) n h) : jl_AW l G (jl_F G Kr Kx) M d pc L [.int x] n h ck sk := by
  intro p e R s m args below meth c al0 n0 mc ms al H locs ls cells slots C hR hE hl hs h1 h2
  refine W.widen (k := mc) (n := ms) (by omega) (by omega) (vx_ret ?_)
  exact W.iret (v := x) C.1.1 C.1.2.1 (C.2.1.trans hr) (fun t ht hW => ⟨some (.int x), n, h, al, rfl, hk, ⟨hE, by rw [ht]; exact hR.1, hR.2.1, hR.2.2.2, hR.2.2.1.F ht⟩, ⟨trivial, trivial⟩⟩) hR.2.2.1.2.2 hd C.2.2.1
theorem jl_zret {x : Int32} (hd : decode M.2.1 pc = .ok (.ireturn, 1)) (hr : M.2.2.2.1 = some .boolean) (hx : narrow .boolean (.int x) = .int x) (hk : Kr (some (.int x)) n h) : jl_AW l G (jl_F G Kr Kx) M d pc L [.int x] n h ck sk := by
  intro p e R s m args below meth c al0 n0 mc ms al H locs ls cells slots C hR hE hl hs h1 h2
  refine W.widen (k := mc) (n := ms) (by omega) (by omega) (vx_ret ?_)
  exact W.zret (v := x) C.1.1 C.1.2.1 (C.2.1.trans hr) hx (fun t ht hW => ⟨some (.int x), n, h, al, rfl, hk, ⟨hE, by rw [ht]; exact hR.1, hR.2.1, hR.2.2.2, hR.2.2.1.F ht⟩, ⟨trivial, trivial⟩⟩) hR.2.2.1.2.2 hd C.2.2.1
theorem jl_vret (hd : decode M.2.1 pc = .ok (.return_, 1)) (hr : M.2.2.2.1 = none) (hk : Kr none n h) : jl_AW l G (jl_F G Kr Kx) M d pc L [] n h ck sk := by
  intro p e R s m args below meth c al0 n0 mc ms al H locs ls cells slots C hR hE hl hs h1 h2
  refine W.widen (k := mc) (n := ms) (by omega) (by omega) (vx_ret ?_)
  exact W.vret C.1.1 C.1.2.1 (C.2.1.trans hr) (fun t ht hW => ⟨none, n, h, al, rfl, hk, ⟨hE, by rw [ht]; exact hR.1, hR.2.1, hR.2.2.2, hR.2.2.1.F ht⟩, trivial⟩) hR.2.2.1.2.2 hd C.2.2.1
theorem jl_aret {x : Nat} {rt : FieldType} (hd : decode M.2.1 pc = .ok (.areturn, 1)) (hr : M.2.2.2.1 = some rt) (hrt : (∃ n, rt = .object n) ∨ ∃ t, rt = .array t) (hk : Kr (some (.ref x)) n h) : jl_AW l G (jl_F G Kr Kx) M d pc L [.ref x] n h ck sk := by
  intro p e R s m args below meth c al0 n0 mc ms al H locs ls cells slots C hR hE hl hs h1 h2
  refine W.widen (k := mc) (n := ms) (by omega) (by omega) (vx_ret ?_)
  exact W.aret (v := .ref (al x)) C.1.1 C.1.2.1 (C.2.1.trans hr) hrt (Or.inr ⟨_, rfl⟩) (fun t ht hW => ⟨some (.ref x), n, h, al, rfl, hk, ⟨hE, by rw [ht]; exact hR.1, hR.2.1, hR.2.2.2, hR.2.2.1.F ht⟩, hs⟩) hR.2.2.1.2.2 hd C.2.2.1
/-- throw new E("text") -/
theorem jl_throw {cls text : String} {names : List String} {ik is ic : Nat} {B : List Cond} (d0 : decode M.2.1 pc = .ok (.new ik, 3)) (d3 : decode M.2.1 (pc + 3) = .ok (.dup, 1)) (d4 : decode M.2.1 (pc + 4) = .ok (.ldc is, 2)) (d6 : decode M.2.1 (pc + 6) = .ok (.invokespecial ic, 3)) (d9 : decode M.2.1 (pc + 9) = .ok (.athrow, 1))
    (hh : M.2.2.2.2 = []) (hcls : Bundle.fit cls = true) (hnames : ∀ n ∈ names, Bundle.fit n = true) (w1 : Cond.classLink M.1.cls ik cls ∈ jl_T) (w2 : Cond.initialized cls ∈ jl_T) (hz : (M.1.cls, is, text) ∈ jl_Z)
    (hat1 : ∀ w ∈ (vx_atS M.1.cls ic cls names).filter goodWord, w ∈ jl_T) (hat2 : ∀ w ∈ (vx_atS M.1.cls ic cls names).filter (fun w => !goodWord w), w ∈ jl_N)
    (hgood : ∀ w ∈ Cond.classLink M.1.cls ik cls :: Cond.initialized cls :: vx_atS M.1.cls ic cls names, vx_ot w = true) (hnl : names.length ≤ 5) (hc : (st.map fun v => v.category).sum ≤ 8)
    (hk : Kx cls n h) : jl_AW l G (jl_F G Kr Kx) M d pc L st n h (ck + 1) (sk + 6) := by
  intro p e R s m args below meth c al0 n0 mc ms al H locs ls cells slots C hR hE hl hs h1 h2
  obtain ⟨hK, hF1, hF2, hF3, hF4⟩ := C.2.2.2.2.2.2
  obtain ⟨sa, hsa⟩ := hK.2.2.1.1 _ hz
  have hnone : ∀ x ∈ c.exceptionTable.toList, covers x (pc + 9) = false := by
    rw [C.2.2.2.2.1, hh]
    intro x hx
    cases hx
  refine vx_throwS (A := jl_A G) (names := names) (sa := sa) C.1.1 C.1.2.1 C.2.2.2.2.2.1 C.1.2.2.2.1 hcls hnames (C.1.2.2.2.2 _ w1) (C.1.2.2.2.2 _ w2) hsa ?_ hgood hK.2.2.2.1.1 hK.2.2.2.1.2 hR.2.2.1 (by rw [C.1.2.2.1]; exact hl.1) d0 d3 d4 d6 d9 hnone (by omega) (by rw [jl_cats]; omega) (by omega) (by omega) C.2.2.1 ?_ hR.2.2.1.2.2 (by omega) (by omega)
  · refine vx_hat (B := jl_N) (fun w hw => C.1.2.2.2.2 _ (hat1 w hw)) hat2 (fun w hw => va_Nw.use ?_ (hK.2.1 w hw))
    have g := (List.mem_filter.mp hw).2
    cases w with
    | fieldLinkNest a b c d e f => rfl
    | methodLinkNest a b c d => rfl
    | castable a b => rfl
    | declares a => rfl
    | _ => cases g
  · intro t ht hsz hq
    refine ⟨n, h, al, hk, hE, hR.1.kept (fun k q hk9 => hq _ (vx_lt hR.1 hk9)), hR.2.1, hR.2.2.2, Nat.le_trans hR.2.2.1.1 hsz, fun q hq1 hq2 => ?_⟩
    rw [hq q (Nat.lt_of_lt_of_le hq1 hR.2.2.1.1)]
    exact hR.2.2.1.2.1 q hq1 hq2
/-- the same, its text far in the pool -/
theorem jl_throwW {cls text : String} {names : List String} {ik is ic : Nat} {B : List Cond} (d0 : decode M.2.1 pc = .ok (.new ik, 3)) (d3 : decode M.2.1 (pc + 3) = .ok (.dup, 1)) (d4 : decode M.2.1 (pc + 4) = .ok (.ldc_w is, 3)) (d7 : decode M.2.1 (pc + 7) = .ok (.invokespecial ic, 3)) (d10 : decode M.2.1 (pc + 10) = .ok (.athrow, 1))
    (hh : M.2.2.2.2 = []) (hcls : Bundle.fit cls = true) (hnames : ∀ n ∈ names, Bundle.fit n = true) (w1 : Cond.classLink M.1.cls ik cls ∈ jl_T) (w2 : Cond.initialized cls ∈ jl_T) (hz : (M.1.cls, is, text) ∈ jl_Z)
    (hat1 : ∀ w ∈ (vx_atS M.1.cls ic cls names).filter goodWord, w ∈ jl_T) (hat2 : ∀ w ∈ (vx_atS M.1.cls ic cls names).filter (fun w => !goodWord w), w ∈ jl_N)
    (hgood : ∀ w ∈ Cond.classLink M.1.cls ik cls :: Cond.initialized cls :: vx_atS M.1.cls ic cls names, vx_ot w = true) (hnl : names.length ≤ 5) (hc : (st.map fun v => v.category).sum ≤ 8)
    (hk : Kx cls n h) : jl_AW l G (jl_F G Kr Kx) M d pc L st n h (ck + 1) (sk + 6) := by
  intro p e R s m args below meth c al0 n0 mc ms al H locs ls cells slots C hR hE hl hs h1 h2
  obtain ⟨hK, hF1, hF2, hF3, hF4⟩ := C.2.2.2.2.2.2
  obtain ⟨sa, hsa⟩ := hK.2.2.1.1 _ hz
  have hnone : ∀ x ∈ c.exceptionTable.toList, covers x (pc + 10) = false := by
    rw [C.2.2.2.2.1, hh]
    intro x hx
    cases hx
  refine vx_throwSW (A := jl_A G) (names := names) (sa := sa) C.1.1 C.1.2.1 C.2.2.2.2.2.1 C.1.2.2.2.1 hcls hnames (C.1.2.2.2.2 _ w1) (C.1.2.2.2.2 _ w2) hsa ?_ hgood hK.2.2.2.1.1 hK.2.2.2.1.2 hR.2.2.1 (by rw [C.1.2.2.1]; exact hl.1) d0 d3 d4 d7 d10 hnone (by omega) (by rw [jl_cats]; omega) (by omega) (by omega) C.2.2.1 ?_ hR.2.2.1.2.2 (by omega) (by omega)
  · refine vx_hat (B := jl_N) (fun w hw => C.1.2.2.2.2 _ (hat1 w hw)) hat2 (fun w hw => va_Nw.use ?_ (hK.2.1 w hw))
    have g := (List.mem_filter.mp hw).2
    cases w with
    | fieldLinkNest a b c d e f => rfl
    | methodLinkNest a b c d => rfl
    | castable a b => rfl
    | declares a => rfl
    | _ => cases g
  · intro t ht hsz hq
    refine ⟨n, h, al, hk, hE, hR.1.kept (fun k q hk9 => hq _ (vx_lt hR.1 hk9)), hR.2.1, hR.2.2.2, Nat.le_trans hR.2.2.1.1 hsz, fun q hq1 hq2 => ?_⟩
    rw [hq q (Nat.lt_of_lt_of_le hq1 hR.2.2.1.1)]
    exact hR.2.2.1.2.1 q hq1 hq2
end JLR
/-- behind a call: the world that came back, or the thing thrown -/
theorem jl_run {p : Program} {e : Env} {R : Room} {s : State} {m : MethodId} {args : Array Value} {below : List Frame} {meth : Method} {c : Code} {al : Nat → Nat} {H : Heap} {locs : List Loc} {ls : Array Slot} {cells slots ck' sk' : Nat} {Q : State → Prop} {st0 rest : List Value} {As : Array Value} {Kr' : Option Value → Nat → (Nat → va_E) → Prop} {Kx' : String → Nat → (Nat → va_E) → Prop}
    (hr : vx_Run p l e R s m args below meth c H locs cells slots ck' sk' (F0 m pc ls st0) rest (jl_Q G al n Kr' As) (jl_X G al n Kx') (jl_A G)) (hS : va_S (jl_A G) s.heap H locs)
    (kk : ∀ (r : Option Value) (n' : Nat) (h' : Nat → va_E) (al' : Nat → Nat) (H' : Heap) (locs' : List Loc), Kr' r n' h' → jl_E n al n' al' → jl_R G n' h' al' s H' locs' → jl_oks n' r.toList → W p l e R s m args below meth c H' locs' (cells + ck') (slots + sk') Q (F0 m (pc + 3) ls ((r.map (jl_v G.2.2.1 al')).toList ++ rest)))
    (kx : ∀ (E : String) (ce : Cell) (q : Addr) (n' : Nat) (h' : Nat → va_E) (al' : Nat → Nat) (H' : Heap) (locs' : List Loc), Kx' E n' h' → jl_E n al n' al' → jl_R G n' h' al' s H' locs' → H'[q]? = some ce → ce.vm = .none → s.vm.findClass E = some ce.cls → vx_W p l e R s m args below meth c H' locs' (cells + ck') (slots + sk') Q (F0 m pc ls rest) q) :
    W p l e R s m args below meth c H locs cells slots Q (F0 m pc ls st0) := by
  intro T hT X
  rcases hr T hT X with ⟨v, st₀, t, T', Lc, h0, X', hL, e1, e2, ⟨r, n', h', al', hv, hk, ⟨hE, hP, hD, hok, hF⟩, hro⟩, stp⟩ | ⟨q, st₀, t, T', Lc, E, ce, h0, X', hL, e1, e2, ⟨n', h', al', hk, ⟨hE, hP, hD, hok, hF⟩⟩, hce, hcv, hcl, stp⟩
  · obtain ⟨k1, k2, k3⟩ := vx_keep h0 e1 hS (fun q _ z => z) (fun q z => z) hL hF
    have hv' : v = r.map (jl_v G.2.2.1 al') := Outcome.returned.inj hv
    subst hv'
    obtain ⟨t2, a1, b1⟩ := kk r n' h' al' T'.heap (locs ++ Lc) hk hE ⟨by rw [e1]; exact hP, hD, k3, hok⟩ hro T' rfl X'
    exact ⟨t2, stp t2 a1, b1⟩
  · obtain ⟨k1, k2, k3⟩ := vx_keep h0 e1 hS (fun q _ z => z) (fun q z => z) hL hF
    obtain ⟨t2, a1, b1⟩ := kx E ce q n' h' al' T'.heap (locs ++ Lc) hk hE ⟨by rw [e1]; exact hP, hD, k3, hok⟩ (by rw [e1]; exact hce) hcv hcl T' rfl X'
    exact ⟨t2, stp.trans a1, b1⟩
theorem jl_noX {y : MethodName} {ws : List Cond} {rm : Room} {Pc : Array Value → State → Prop} {Qc : Array Value → State → Outcome → State → Prop} {al : Nat → Nat} {mc ms : Nat} {free : Addr → Prop} (hM : vx_Met l y ws rm Pc Qc (jl_X G al n (fun _ _ _ => False)) mc ms free) : Met l y ws rm Pc Qc mc ms free := by
  intro p e ha hc hk s m args below hf happ hP hK
  obtain ⟨k, o, h1, h2, h3, h4⟩ := hM p e ha hc hk s m args below hf happ hP hK
  refine ⟨k, o, h1, h2, h3, ?_⟩
  rcases h4 with h4 | ⟨q, -, E, ce, L9, ⟨n9, h9, al9, hF, -⟩, -⟩
  · exact h4
  · exact hF.elim
theorem jl_runM {p : Program} {e : Env} {R : Room} {s : State} {m : MethodId} {args : Array Value} {below : List Frame} {meth : Method} {c : Code} {al : Nat → Nat} {H : Heap} {locs : List Loc} {ls : Array Slot} {cells slots ck' sk' : Nat} {Q : State → Prop} {st0 rest : List Value} {As : Array Value} {Kr' : Option Value → Nat → (Nat → va_E) → Prop}
    (hr : va_Run p l e R s m args below meth c H locs cells slots ck' sk' (F0 m pc ls st0) rest (jl_Q G al n Kr' As) (jl_A G)) (hS : va_S (jl_A G) s.heap H locs)
    (kk : ∀ (r : Option Value) (n' : Nat) (h' : Nat → va_E) (al' : Nat → Nat) (H' : Heap) (locs' : List Loc), Kr' r n' h' → jl_E n al n' al' → jl_R G n' h' al' s H' locs' → jl_oks n' r.toList → W p l e R s m args below meth c H' locs' (cells + ck') (slots + sk') Q (F0 m (pc + 3) ls ((r.map (jl_v G.2.2.1 al')).toList ++ rest))) :
    W p l e R s m args below meth c H locs cells slots Q (F0 m pc ls st0) := by
  intro T hT X
  obtain ⟨v, st₀, t, T', Lc, h0, X', hL, e1, e2, ⟨r, n', h', al', hv, hk, ⟨hE, hP, hD, hok, hF⟩, hro⟩, stp⟩ := hr T hT X
  obtain ⟨k1, k2, k3⟩ := vx_keep h0 e1 hS (fun q _ z => z) (fun q z => z) hL hF
  have hv' : v = r.map (jl_v G.2.2.1 al') := Outcome.returned.inj hv
  subst hv'
  obtain ⟨t2, a1, b1⟩ := kk r n' h' al' T'.heap (locs ++ Lc) hk hE ⟨by rw [e1]; exact hP, hD, k3, hok⟩ hro T' rfl X'
  exact ⟨t2, stp t2 a1, b1⟩
theorem jl_goodT {pre : List Cond} {M' : jl_M} (hp : ∀ w ∈ pre, w ∈ jl_T) (hc : jl_cw M' ∈ jl_T) : GoodIn jl_T (pre ++ (jl_cw M' :: jl_T)) := by
  intro w hw
  have hm : w ∈ jl_T := by
    rcases List.mem_append.mp hw with q | q
    · exact hp w q
    · rcases List.mem_cons.mp q with q | q
      · rw [q]; exact hc
      · exact q
  exact ⟨hm, good_of_word (List.mem_filter.mp hm).2⟩
theorem jl_pre {s : State} {al : Nat → Nat} {H : Heap} {locs : List Loc} {as : List Value} (hK : jl_K G s s.heap) (hR : jl_R G n h al s H locs) : FrameBlind (va_Pc (as.map (jl_v G.2.2.1 al)) (jl_Pc G al n h)) ∧ ∀ U : State, U.heap = H → s.WarmedH U.vm → va_Pc (as.map (jl_v G.2.2.1 al)) (jl_Pc G al n h) (as.map (jl_v G.2.2.1 al)).toArray U :=
  ⟨fun a U g mk q => ⟨q.1, jl_K.same q.2.1 rfl rfl, q.2.2⟩, fun U hU hW => ⟨rfl, hK.to hW (by rw [hU]; exact hR.2.2.1), by rw [hU]; exact hR.1⟩⟩
theorem jl_oks_app {n : Nat} : ∀ {a b : List Value}, jl_oks n a → jl_oks n b → jl_oks n (a ++ b)
  | [], _, _, hb => hb
  | _ :: _, _, ha, hb => ⟨ha.1, jl_oks_app ha.2 hb⟩
theorem jl_oks_mem {n : Nat} : ∀ {a : List Value}, jl_oks n a ↔ ∀ v ∈ a, jl_okv n v
  | [] => ⟨fun _ v hv => (nomatch hv), fun _ => trivial⟩
  | x :: a => ⟨fun h v hv => by
      rcases List.mem_cons.mp hv with q | q
      · rw [q]; exact h.1
      · exact jl_oks_mem.mp h.2 v q, fun h => ⟨h x List.mem_cons_self, jl_oks_mem.mpr fun v hv => h v (List.mem_cons_of_mem _ hv)⟩⟩
theorem jl_oks_call {as st : List Value} (h : jl_oks n (as.reverse ++ st)) : jl_oks n as ∧ jl_oks n st := by
  rw [jl_oks_mem] at h
  exact ⟨jl_oks_mem.mpr fun v hv => h v (by simp [hv]), jl_oks_mem.mpr fun v hv => h v (by simp [hv])⟩
theorem jl_oks_callR {x : Nat} {as st : List Value} (h : jl_oks n (as.reverse ++ .ref x :: st)) : jl_oks n (.ref x :: as) ∧ jl_oks n st := by
  obtain ⟨h1, h2⟩ := jl_oks_call h
  exact ⟨⟨h2.1, h1⟩, h2.2⟩
theorem jl_invV {Kr : Option Value → Nat → (Nat → va_E) → Prop} {Kx : String → Nat → (Nat → va_E) → Prop} {M' : jl_M} {ix d' ck' sk' na : Nat} {x : Nat} {ci N : Nat} {T : u_T} {fs : List Value} {as stk : List Value} (hd : decode M.2.1 pc = .ok (.invokevirtual ix, 3)) (hstk : stk = as.reverse ++ .ref x :: st) (he : h x = jO ci fs) (hci : vwCl[ci]? = some (M'.1.cls, T, N)) (w1 : Cond.methodLink M.1.cls ix M'.1 ∈ jl_T) (w2 : Cond.instanceMethod M'.1 ∈ jl_T) (w3 : Cond.selects M'.1.cls M'.1 M'.1 ∈ jl_T) (wi : Cond.initialized M'.1.cls ∈ jl_T) (wc : jl_cw M' ∈ jl_T) (hh' : M'.2.2.2.2 = []) (hh : M.2.2.2.2 = []) (hna : as.length = na) (hy : M'.1.cls ≠ "java/lang/invoke/MethodHandle" ∧ M'.1.cls ≠ "java/lang/invoke/VarHandle" ∧ (parseMethodDescriptor M'.1.desc).map (fun d => d.parameters.length) = some na) (hd' : d' < d) (hml : M'.2.2.1 ≤ 45) (hc : (st.map fun v => v.category).sum ≤ 8)
    (k : jl_Call l G M' d' (.ref x :: as) n h ck' sk' (fun r n' h' => jl_AW l G (jl_F G Kr Kx) M d (pc + 3) L (r.toList ++ st) n' h' ck sk) Kx) : jl_AW l G (jl_F G Kr Kx) M d pc L stk n h (ck + ck') (sk + sk') := by
  intro p e R s m args below meth c al0 n0 mc ms al H locs ls cells slots C hR hE hl hs h1 h2
  obtain ⟨hK, hF1, hF2, hF3, hF4⟩ := id C.2.2.2.2.2.2
  subst hstk
  subst hna
  have hoa : jl_oks n (.ref x :: as) ∧ jl_oks n st := jl_oks_callR hs
  have hM := k al hR.2.1 hR.2.2.2 hoa.1
  have hcw : jl_cw M' = .code M'.1 M'.2.1 M'.2.2.1 M'.2.2.2.1 := by unfold jl_cw; rw [hh']
  have hfr : (jl_rm d' ck' sk').frames + 1 ≤ R.frames := by have q9 := jl_rm_fr d' ck' sk'; omega
  have hlo : 8 + (M'.2.2.1 + 11) + (jl_rm d' ck' sk').locals ≤ R.locals := by have q9 := jl_rm_lo d' ck' sk'; omega
  have hrun := vx_runV (C := M'.1.cls) (As := as.map (jl_v G.2.2.1 al)) (rest := st.map (jl_v G.2.2.1 al)) C.1 hM ⟨(callB_of as.length C.1.2.2.2.2 (jl_goodT (pre := []) (fun w hw => nomatch hw) wc) (by rw [hcw]) rfl rfl (C.1.2.2.2.2 _ wi) (C.1.2.2.2.2 _ w1) hy ⟨hfr, hlo⟩), C.1.2.2.2.2 _ w2, C.1.2.2.2.2 _ w3⟩ ⟨(jl_pre (as := .ref x :: as) hK hR).1, va_recv hK.1 hR.1 hci (jl_obj hoa.1.1 he), (jl_pre (as := .ref x :: as) hK hR).2⟩ (g := F0 m pc ls ((as.reverse ++ .ref x :: st).map (jl_v G.2.2.1 al))) (locs := locs) (cells := cells) (slots := slots) (below := below) (e := e) (meth := meth) rfl (by rw [List.length_map]) hl.1 (by rw [List.map_append, List.map_reverse, List.map_cons]; rfl) (lv_room (by rw [jl_cats]; exact hc)) hd ⟨by omega, by omega⟩
  refine jl_run hrun hR.2.2.1 (fun r n' h' al' H' locs' hk hE' hR' hro => ?_) (fun E ce q n' h' al' H' locs' hk hE' hR' hce hcv hcl => ?_)
  · have h9 := hk p e R s m args below meth c al0 n0 mc ms al' H' locs' ls (cells + ck') (slots + sk') C hR' ⟨Nat.le_trans hE.1 hE'.1, fun i hi => (hE'.2 i (Nat.lt_of_lt_of_le hi hE.1)).trans (hE.2 i hi)⟩ (hl.ext hE'.1 hE'.2) (jl_oks_app hro (jl_oks_mono hE'.1 hoa.2)) (by omega) (by omega)
    rw [List.map_append, jl_oks_map hE'.2 hoa.2] at h9
    cases r <;> exact h9
  · refine vx_out (E := E) (by rw [C.2.2.2.2.1, hh]; intro x9 hx9; cases hx9) C.2.2.1 hce hcv hcl (fun t ht ha => ⟨n', h', al', hk, ⟨Nat.le_trans hE.1 hE'.1, fun i hi => (hE'.2 i (Nat.lt_of_lt_of_le hi hE.1)).trans (hE.2 i hi)⟩, by rw [ht]; exact hR'.1, hR'.2.1, hR'.2.2.2, hR'.2.2.1.F ht⟩) hR'.2.2.1.2.2 (by omega) (by omega)
theorem jl_invV0 {M' : jl_M} {ix d' ck' sk' na : Nat} {x : Nat} {ci N : Nat} {T : u_T} {fs : List Value} {as stk : List Value} (hd : decode M.2.1 pc = .ok (.invokevirtual ix, 3)) (hstk : stk = as.reverse ++ .ref x :: st) (he : h x = jO ci fs) (hci : vwCl[ci]? = some (M'.1.cls, T, N)) (w1 : Cond.methodLink M.1.cls ix M'.1 ∈ jl_T) (w2 : Cond.instanceMethod M'.1 ∈ jl_T) (w3 : Cond.selects M'.1.cls M'.1 M'.1 ∈ jl_T) (wi : Cond.initialized M'.1.cls ∈ jl_T) (wc : jl_cw M' ∈ jl_T) (hh' : M'.2.2.2.2 = []) (hna : as.length = na) (hy : M'.1.cls ≠ "java/lang/invoke/MethodHandle" ∧ M'.1.cls ≠ "java/lang/invoke/VarHandle" ∧ (parseMethodDescriptor M'.1.desc).map (fun d => d.parameters.length) = some na) (hd' : d' < d) (hml : M'.2.2.1 ≤ 45) (hc : (st.map fun v => v.category).sum ≤ 8)
    (k : jl_Call l G M' d' (.ref x :: as) n h ck' sk' (fun r n' h' => jl_AW l G F M d (pc + 3) L (r.toList ++ st) n' h' ck sk) (fun _ _ _ => False)) : jl_AW l G F M d pc L stk n h (ck + ck') (sk + sk') := by
  intro p e R s m args below meth c al0 n0 mc ms al H locs ls cells slots C hR hE hl hs h1 h2
  obtain ⟨hK, hF1, hF2, hF3, hF4⟩ := id C.2.2.2.2.2.2
  subst hstk
  subst hna
  have hoa : jl_oks n (.ref x :: as) ∧ jl_oks n st := jl_oks_callR hs
  have hM := k al hR.2.1 hR.2.2.2 hoa.1
  have hcw : jl_cw M' = .code M'.1 M'.2.1 M'.2.2.1 M'.2.2.2.1 := by unfold jl_cw; rw [hh']
  have hfr : (jl_rm d' ck' sk').frames + 1 ≤ R.frames := by have q9 := jl_rm_fr d' ck' sk'; omega
  have hlo : 8 + (M'.2.2.1 + 11) + (jl_rm d' ck' sk').locals ≤ R.locals := by have q9 := jl_rm_lo d' ck' sk'; omega
  have hrun := vx_runV (C := M'.1.cls) (As := as.map (jl_v G.2.2.1 al)) (rest := st.map (jl_v G.2.2.1 al)) C.1 hM ⟨(callB_of as.length C.1.2.2.2.2 (jl_goodT (pre := []) (fun w hw => nomatch hw) wc) (by rw [hcw]) rfl rfl (C.1.2.2.2.2 _ wi) (C.1.2.2.2.2 _ w1) hy ⟨hfr, hlo⟩), C.1.2.2.2.2 _ w2, C.1.2.2.2.2 _ w3⟩ ⟨(jl_pre (as := .ref x :: as) hK hR).1, va_recv hK.1 hR.1 hci (jl_obj hoa.1.1 he), (jl_pre (as := .ref x :: as) hK hR).2⟩ (g := F0 m pc ls ((as.reverse ++ .ref x :: st).map (jl_v G.2.2.1 al))) (locs := locs) (cells := cells) (slots := slots) (below := below) (e := e) (meth := meth) rfl (by rw [List.length_map]) hl.1 (by rw [List.map_append, List.map_reverse, List.map_cons]; rfl) (lv_room (by rw [jl_cats]; exact hc)) hd ⟨by omega, by omega⟩
  refine jl_run hrun hR.2.2.1 (fun r n' h' al' H' locs' hk hE' hR' hro => ?_) (fun E ce q n' h' al' H' locs' hk hE' hR' hce hcv hcl => ?_)
  · have h9 := hk p e R s m args below meth c al0 n0 mc ms al' H' locs' ls (cells + ck') (slots + sk') C hR' ⟨Nat.le_trans hE.1 hE'.1, fun i hi => (hE'.2 i (Nat.lt_of_lt_of_le hi hE.1)).trans (hE.2 i hi)⟩ (hl.ext hE'.1 hE'.2) (jl_oks_app hro (jl_oks_mono hE'.1 hoa.2)) (by omega) (by omega)
    rw [List.map_append, jl_oks_map hE'.2 hoa.2] at h9
    cases r <;> exact h9
  · exact hk.elim
theorem jl_invVN0 {M' : jl_M} {ix d' ck' sk' na : Nat} {x : Nat} {host : String} {ci N : Nat} {T : u_T} {fs : List Value} {as stk : List Value} (hd : decode M.2.1 pc = .ok (.invokevirtual ix, 3)) (hstk : stk = as.reverse ++ .ref x :: st) (he : h x = jO ci fs) (hci : vwCl[ci]? = some (M'.1.cls, T, N)) (w1 : Cond.methodLinkNest M.1.cls ix M'.1 host ∈ jl_N) (w2 : Cond.instanceMethod M'.1 ∈ jl_T) (w3 : Cond.selects M'.1.cls M'.1 M'.1 ∈ jl_T) (wi : Cond.initialized M'.1.cls ∈ jl_T) (wc : jl_cw M' ∈ jl_T) (hh' : M'.2.2.2.2 = []) (hna : as.length = na) (hy : M'.1.cls ≠ "java/lang/invoke/MethodHandle" ∧ M'.1.cls ≠ "java/lang/invoke/VarHandle" ∧ (parseMethodDescriptor M'.1.desc).map (fun d => d.parameters.length) = some na) (hd' : d' < d) (hml : M'.2.2.1 ≤ 45) (hc : (st.map fun v => v.category).sum ≤ 8)
    (k : jl_Call l G M' d' (.ref x :: as) n h ck' sk' (fun r n' h' => jl_AW l G F M d (pc + 3) L (r.toList ++ st) n' h' ck sk) (fun _ _ _ => False)) : jl_AW l G F M d pc L stk n h (ck + ck') (sk + sk') := by
  intro p e R s m args below meth c al0 n0 mc ms al H locs ls cells slots C hR hE hl hs h1 h2
  obtain ⟨hK, hF1, hF2, hF3, hF4⟩ := id C.2.2.2.2.2.2
  subst hstk
  subst hna
  have hoa : jl_oks n (.ref x :: as) ∧ jl_oks n st := jl_oks_callR hs
  have hM := jl_noX (k al hR.2.1 hR.2.2.2 hoa.1)
  have hcw : jl_cw M' = .code M'.1 M'.2.1 M'.2.2.1 M'.2.2.2.1 := by unfold jl_cw; rw [hh']
  have hfr : (jl_rm d' ck' sk').frames + 1 ≤ R.frames := by have q9 := jl_rm_fr d' ck' sk'; omega
  have hlo : 8 + (M'.2.2.1 + 11) + (jl_rm d' ck' sk').locals ≤ R.locals := by have q9 := jl_rm_lo d' ck' sk'; omega
  have hrun := va_runVN (C := M'.1.cls) (host := host) (As := as.map (jl_v G.2.2.1 al)) (rest := st.map (jl_v G.2.2.1 al)) C.1 hM ⟨(va_cnB (host := host) as.length C.1.2.2.2.2 (jl_goodT (pre := []) (fun w hw => nomatch hw) wc) (by rw [hcw]) rfl rfl (hK.2.1 _ w1) (C.1.2.2.2.2 _ wi) hy ⟨hfr, hlo⟩), C.1.2.2.2.2 _ w2, C.1.2.2.2.2 _ w3⟩ ⟨(jl_pre (as := .ref x :: as) hK hR).1, va_recv hK.1 hR.1 hci (jl_obj hoa.1.1 he), (jl_pre (as := .ref x :: as) hK hR).2⟩ (g := F0 m pc ls ((as.reverse ++ .ref x :: st).map (jl_v G.2.2.1 al))) (locs := locs) (cells := cells) (slots := slots) (below := below) (e := e) (meth := meth) rfl (by rw [List.length_map]) hl.1 (by rw [List.map_append, List.map_reverse, List.map_cons]; rfl) (lv_room (by rw [jl_cats]; exact hc)) hd ⟨by omega, by omega⟩
  refine jl_runM hrun hR.2.2.1 (fun r n' h' al' H' locs' hk hE' hR' hro => ?_)
  · have h9 := hk p e R s m args below meth c al0 n0 mc ms al' H' locs' ls (cells + ck') (slots + sk') C hR' ⟨Nat.le_trans hE.1 hE'.1, fun i hi => (hE'.2 i (Nat.lt_of_lt_of_le hi hE.1)).trans (hE.2 i hi)⟩ (hl.ext hE'.1 hE'.2) (jl_oks_app hro (jl_oks_mono hE'.1 hoa.2)) (by omega) (by omega)
    rw [List.map_append, jl_oks_map hE'.2 hoa.2] at h9
    cases r <;> exact h9
theorem jl_invS {Kr : Option Value → Nat → (Nat → va_E) → Prop} {Kx : String → Nat → (Nat → va_E) → Prop} {M' : jl_M} {ix d' ck' sk' na : Nat} {as stk : List Value} (hd : decode M.2.1 pc = .ok (.invokestatic ix, 3)) (hstk : stk = as.reverse ++ st) (w1 : Cond.methodLink M.1.cls ix M'.1 ∈ jl_T) (w2 : Cond.static M'.1 ∈ jl_T) (wi : Cond.initialized M'.1.cls ∈ jl_T) (wc : jl_cw M' ∈ jl_T) (hh' : M'.2.2.2.2 = []) (hh : M.2.2.2.2 = []) (hna : as.length = na) (hy : M'.1.cls ≠ "java/lang/invoke/MethodHandle" ∧ M'.1.cls ≠ "java/lang/invoke/VarHandle" ∧ (parseMethodDescriptor M'.1.desc).map (fun d => d.parameters.length) = some na) (hd' : d' < d) (hml : M'.2.2.1 ≤ 45) (hc : (st.map fun v => v.category).sum ≤ 8)
    (k : jl_Call l G M' d' as n h ck' sk' (fun r n' h' => jl_AW l G (jl_F G Kr Kx) M d (pc + 3) L (r.toList ++ st) n' h' ck sk) Kx) : jl_AW l G (jl_F G Kr Kx) M d pc L stk n h (ck + ck') (sk + sk') := by
  intro p e R s m args below meth c al0 n0 mc ms al H locs ls cells slots C hR hE hl hs h1 h2
  obtain ⟨hK, hF1, hF2, hF3, hF4⟩ := id C.2.2.2.2.2.2
  subst hstk
  subst hna
  have hoa : jl_oks n as ∧ jl_oks n st := jl_oks_call hs
  have hM := k al hR.2.1 hR.2.2.2 hoa.1
  have hcw : jl_cw M' = .code M'.1 M'.2.1 M'.2.2.1 M'.2.2.2.1 := by unfold jl_cw; rw [hh']
  have hfr : (jl_rm d' ck' sk').frames + 1 ≤ R.frames := by have q9 := jl_rm_fr d' ck' sk'; omega
  have hlo : 8 + (M'.2.2.1 + 11) + (jl_rm d' ck' sk').locals ≤ R.locals := by have q9 := jl_rm_lo d' ck' sk'; omega
  have hrun := vx_runS (As := as.map (jl_v G.2.2.1 al)) (rest := st.map (jl_v G.2.2.1 al)) C.1 hM ⟨(callB_of as.length C.1.2.2.2.2 (jl_goodT (pre := []) (fun w hw => nomatch hw) wc) (by rw [hcw]) rfl rfl (C.1.2.2.2.2 _ wi) (C.1.2.2.2.2 _ w1) hy ⟨hfr, hlo⟩), C.1.2.2.2.2 _ w2⟩ (jl_pre (as := as) hK hR) (g := F0 m pc ls ((as.reverse ++ st).map (jl_v G.2.2.1 al))) (locs := locs) (cells := cells) (slots := slots) (below := below) (e := e) (meth := meth) rfl (by rw [List.length_map]) hl.1 (by rw [List.map_append, List.map_reverse]) (lv_room (by rw [jl_cats]; exact hc)) hd ⟨by omega, by omega⟩
  refine jl_run hrun hR.2.2.1 (fun r n' h' al' H' locs' hk hE' hR' hro => ?_) (fun E ce q n' h' al' H' locs' hk hE' hR' hce hcv hcl => ?_)
  · have h9 := hk p e R s m args below meth c al0 n0 mc ms al' H' locs' ls (cells + ck') (slots + sk') C hR' ⟨Nat.le_trans hE.1 hE'.1, fun i hi => (hE'.2 i (Nat.lt_of_lt_of_le hi hE.1)).trans (hE.2 i hi)⟩ (hl.ext hE'.1 hE'.2) (jl_oks_app hro (jl_oks_mono hE'.1 hoa.2)) (by omega) (by omega)
    rw [List.map_append, jl_oks_map hE'.2 hoa.2] at h9
    cases r <;> exact h9
  · refine vx_out (E := E) (by rw [C.2.2.2.2.1, hh]; intro x9 hx9; cases hx9) C.2.2.1 hce hcv hcl (fun t ht ha => ⟨n', h', al', hk, ⟨Nat.le_trans hE.1 hE'.1, fun i hi => (hE'.2 i (Nat.lt_of_lt_of_le hi hE.1)).trans (hE.2 i hi)⟩, by rw [ht]; exact hR'.1, hR'.2.1, hR'.2.2.2, hR'.2.2.1.F ht⟩) hR'.2.2.1.2.2 (by omega) (by omega)
theorem jl_invS0 {M' : jl_M} {ix d' ck' sk' na : Nat} {as stk : List Value} (hd : decode M.2.1 pc = .ok (.invokestatic ix, 3)) (hstk : stk = as.reverse ++ st) (w1 : Cond.methodLink M.1.cls ix M'.1 ∈ jl_T) (w2 : Cond.static M'.1 ∈ jl_T) (wi : Cond.initialized M'.1.cls ∈ jl_T) (wc : jl_cw M' ∈ jl_T) (hh' : M'.2.2.2.2 = []) (hna : as.length = na) (hy : M'.1.cls ≠ "java/lang/invoke/MethodHandle" ∧ M'.1.cls ≠ "java/lang/invoke/VarHandle" ∧ (parseMethodDescriptor M'.1.desc).map (fun d => d.parameters.length) = some na) (hd' : d' < d) (hml : M'.2.2.1 ≤ 45) (hc : (st.map fun v => v.category).sum ≤ 8)
    (k : jl_Call l G M' d' as n h ck' sk' (fun r n' h' => jl_AW l G F M d (pc + 3) L (r.toList ++ st) n' h' ck sk) (fun _ _ _ => False)) : jl_AW l G F M d pc L stk n h (ck + ck') (sk + sk') := by
  intro p e R s m args below meth c al0 n0 mc ms al H locs ls cells slots C hR hE hl hs h1 h2
  obtain ⟨hK, hF1, hF2, hF3, hF4⟩ := id C.2.2.2.2.2.2
  subst hstk
  subst hna
  have hoa : jl_oks n as ∧ jl_oks n st := jl_oks_call hs
  have hM := k al hR.2.1 hR.2.2.2 hoa.1
  have hcw : jl_cw M' = .code M'.1 M'.2.1 M'.2.2.1 M'.2.2.2.1 := by unfold jl_cw; rw [hh']
  have hfr : (jl_rm d' ck' sk').frames + 1 ≤ R.frames := by have q9 := jl_rm_fr d' ck' sk'; omega
  have hlo : 8 + (M'.2.2.1 + 11) + (jl_rm d' ck' sk').locals ≤ R.locals := by have q9 := jl_rm_lo d' ck' sk'; omega
  have hrun := vx_runS (As := as.map (jl_v G.2.2.1 al)) (rest := st.map (jl_v G.2.2.1 al)) C.1 hM ⟨(callB_of as.length C.1.2.2.2.2 (jl_goodT (pre := []) (fun w hw => nomatch hw) wc) (by rw [hcw]) rfl rfl (C.1.2.2.2.2 _ wi) (C.1.2.2.2.2 _ w1) hy ⟨hfr, hlo⟩), C.1.2.2.2.2 _ w2⟩ (jl_pre (as := as) hK hR) (g := F0 m pc ls ((as.reverse ++ st).map (jl_v G.2.2.1 al))) (locs := locs) (cells := cells) (slots := slots) (below := below) (e := e) (meth := meth) rfl (by rw [List.length_map]) hl.1 (by rw [List.map_append, List.map_reverse]) (lv_room (by rw [jl_cats]; exact hc)) hd ⟨by omega, by omega⟩
  refine jl_run hrun hR.2.2.1 (fun r n' h' al' H' locs' hk hE' hR' hro => ?_) (fun E ce q n' h' al' H' locs' hk hE' hR' hce hcv hcl => ?_)
  · have h9 := hk p e R s m args below meth c al0 n0 mc ms al' H' locs' ls (cells + ck') (slots + sk') C hR' ⟨Nat.le_trans hE.1 hE'.1, fun i hi => (hE'.2 i (Nat.lt_of_lt_of_le hi hE.1)).trans (hE.2 i hi)⟩ (hl.ext hE'.1 hE'.2) (jl_oks_app hro (jl_oks_mono hE'.1 hoa.2)) (by omega) (by omega)
    rw [List.map_append, jl_oks_map hE'.2 hoa.2] at h9
    cases r <;> exact h9
  · exact hk.elim
theorem jl_invSN0 {M' : jl_M} {ix d' ck' sk' na : Nat} {host : String} {as stk : List Value} (hd : decode M.2.1 pc = .ok (.invokestatic ix, 3)) (hstk : stk = as.reverse ++ st) (w1 : Cond.methodLinkNest M.1.cls ix M'.1 host ∈ jl_N) (w2 : Cond.static M'.1 ∈ jl_T) (wi : Cond.initialized M'.1.cls ∈ jl_T) (wc : jl_cw M' ∈ jl_T) (hh' : M'.2.2.2.2 = []) (hna : as.length = na) (hy : M'.1.cls ≠ "java/lang/invoke/MethodHandle" ∧ M'.1.cls ≠ "java/lang/invoke/VarHandle" ∧ (parseMethodDescriptor M'.1.desc).map (fun d => d.parameters.length) = some na) (hd' : d' < d) (hml : M'.2.2.1 ≤ 45) (hc : (st.map fun v => v.category).sum ≤ 8)
    (k : jl_Call l G M' d' as n h ck' sk' (fun r n' h' => jl_AW l G F M d (pc + 3) L (r.toList ++ st) n' h' ck sk) (fun _ _ _ => False)) : jl_AW l G F M d pc L stk n h (ck + ck') (sk + sk') := by
  intro p e R s m args below meth c al0 n0 mc ms al H locs ls cells slots C hR hE hl hs h1 h2
  obtain ⟨hK, hF1, hF2, hF3, hF4⟩ := id C.2.2.2.2.2.2
  subst hstk
  subst hna
  have hoa : jl_oks n as ∧ jl_oks n st := jl_oks_call hs
  have hM := jl_noX (k al hR.2.1 hR.2.2.2 hoa.1)
  have hcw : jl_cw M' = .code M'.1 M'.2.1 M'.2.2.1 M'.2.2.2.1 := by unfold jl_cw; rw [hh']
  have hfr : (jl_rm d' ck' sk').frames + 1 ≤ R.frames := by have q9 := jl_rm_fr d' ck' sk'; omega
  have hlo : 8 + (M'.2.2.1 + 11) + (jl_rm d' ck' sk').locals ≤ R.locals := by have q9 := jl_rm_lo d' ck' sk'; omega
  have hrun := va_runSN (host := host) (As := as.map (jl_v G.2.2.1 al)) (rest := st.map (jl_v G.2.2.1 al)) C.1 hM ⟨(va_cnB (host := host) as.length C.1.2.2.2.2 (jl_goodT (pre := []) (fun w hw => nomatch hw) wc) (by rw [hcw]) rfl rfl (hK.2.1 _ w1) (C.1.2.2.2.2 _ wi) hy ⟨hfr, hlo⟩), C.1.2.2.2.2 _ w2, trivial⟩ (jl_pre (as := as) hK hR) (g := F0 m pc ls ((as.reverse ++ st).map (jl_v G.2.2.1 al))) (locs := locs) (cells := cells) (slots := slots) (below := below) (e := e) (meth := meth) rfl (by rw [List.length_map]) hl.1 (by rw [List.map_append, List.map_reverse]) (lv_room (by rw [jl_cats]; exact hc)) hd ⟨by omega, by omega⟩
  refine jl_runM hrun hR.2.2.1 (fun r n' h' al' H' locs' hk hE' hR' hro => ?_)
  · have h9 := hk p e R s m args below meth c al0 n0 mc ms al' H' locs' ls (cells + ck') (slots + sk') C hR' ⟨Nat.le_trans hE.1 hE'.1, fun i hi => (hE'.2 i (Nat.lt_of_lt_of_le hi hE.1)).trans (hE.2 i hi)⟩ (hl.ext hE'.1 hE'.2) (jl_oks_app hro (jl_oks_mono hE'.1 hoa.2)) (by omega) (by omega)
    rw [List.map_append, jl_oks_map hE'.2 hoa.2] at h9
    cases r <;> exact h9
theorem jl_invI0 {M' : jl_M} {ix d' ck' sk' na : Nat} {x : Nat} {as stk : List Value} (hd : decode M.2.1 pc = .ok (.invokespecial ix, 3)) (hstk : stk = as.reverse ++ .ref x :: st) (w1 : Cond.methodLink M.1.cls ix M'.1 ∈ jl_T) (w2 : Cond.instanceMethod M'.1 ∈ jl_T) (w3 : M'.1.name = "<init>") (wi : Cond.initialized M'.1.cls ∈ jl_T) (wc : jl_cw M' ∈ jl_T) (hret : M'.2.2.2.1 = none) (hh' : M'.2.2.2.2 = []) (hna : as.length = na) (hy : M'.1.cls ≠ "java/lang/invoke/MethodHandle" ∧ M'.1.cls ≠ "java/lang/invoke/VarHandle" ∧ (parseMethodDescriptor M'.1.desc).map (fun d => d.parameters.length) = some na) (hd' : d' < d) (hml : M'.2.2.1 ≤ 45) (hc : (st.map fun v => v.category).sum ≤ 8)
    (k : jl_Call l G M' d' (.ref x :: as) n h ck' sk' (fun r n' h' => jl_AW l G F M d (pc + 3) L (r.toList ++ st) n' h' ck sk) (fun _ _ _ => False)) : jl_AW l G F M d pc L stk n h (ck + ck') (sk + sk') := by
  intro p e R s m args below meth c al0 n0 mc ms al H locs ls cells slots C hR hE hl hs h1 h2
  obtain ⟨hK, hF1, hF2, hF3, hF4⟩ := id C.2.2.2.2.2.2
  subst hstk
  subst hna
  have hoa : jl_oks n (.ref x :: as) ∧ jl_oks n st := jl_oks_callR hs
  have hM := jl_noX (k al hR.2.1 hR.2.2.2 hoa.1)
  have hcw : jl_cw M' = .code M'.1 M'.2.1 M'.2.2.1 M'.2.2.2.1 := by unfold jl_cw; rw [hh']
  have hfr : (jl_rm d' ck' sk').frames + 1 ≤ R.frames := by have q9 := jl_rm_fr d' ck' sk'; omega
  have hlo : 8 + (M'.2.2.1 + 11) + (jl_rm d' ck' sk').locals ≤ R.locals := by have q9 := jl_rm_lo d' ck' sk'; omega
  have hrun := va_runI (As := as.map (jl_v G.2.2.1 al)) (rest := st.map (jl_v G.2.2.1 al)) C.1 hM ⟨(callB_of as.length C.1.2.2.2.2 (jl_goodT (pre := []) (fun w hw => nomatch hw) wc) (by rw [hcw, hret]) rfl rfl (C.1.2.2.2.2 _ wi) (C.1.2.2.2.2 _ w1) hy ⟨hfr, hlo⟩), w3, C.1.2.2.2.2 _ w2⟩ (jl_pre (as := .ref x :: as) hK hR) (g := F0 m pc ls ((as.reverse ++ .ref x :: st).map (jl_v G.2.2.1 al))) (locs := locs) (cells := cells) (slots := slots) (below := below) (e := e) (meth := meth) rfl (by rw [List.length_map]) hl.1 (by rw [List.map_append, List.map_reverse, List.map_cons]; rfl) (lv_room (by rw [jl_cats]; exact hc)) hd ⟨by omega, by omega⟩
  refine jl_runM hrun hR.2.2.1 (fun r n' h' al' H' locs' hk hE' hR' hro => ?_)
  · have h9 := hk p e R s m args below meth c al0 n0 mc ms al' H' locs' ls (cells + ck') (slots + sk') C hR' ⟨Nat.le_trans hE.1 hE'.1, fun i hi => (hE'.2 i (Nat.lt_of_lt_of_le hi hE.1)).trans (hE.2 i hi)⟩ (hl.ext hE'.1 hE'.2) (jl_oks_app hro (jl_oks_mono hE'.1 hoa.2)) (by omega) (by omega)
    rw [List.map_append, jl_oks_map hE'.2 hoa.2] at h9
    cases r <;> exact h9
theorem jl_invIN0 {M' : jl_M} {ix d' ck' sk' na : Nat} {x : Nat} {host : String} {as stk : List Value} (hd : decode M.2.1 pc = .ok (.invokespecial ix, 3)) (hstk : stk = as.reverse ++ .ref x :: st) (w1 : Cond.methodLinkNest M.1.cls ix M'.1 host ∈ jl_N) (w2 : Cond.instanceMethod M'.1 ∈ jl_T) (w3 : M'.1.name = "<init>") (wi : Cond.initialized M'.1.cls ∈ jl_T) (wc : jl_cw M' ∈ jl_T) (hret : M'.2.2.2.1 = none) (hh' : M'.2.2.2.2 = []) (hna : as.length = na) (hy : M'.1.cls ≠ "java/lang/invoke/MethodHandle" ∧ M'.1.cls ≠ "java/lang/invoke/VarHandle" ∧ (parseMethodDescriptor M'.1.desc).map (fun d => d.parameters.length) = some na) (hd' : d' < d) (hml : M'.2.2.1 ≤ 45) (hc : (st.map fun v => v.category).sum ≤ 8)
    (k : jl_Call l G M' d' (.ref x :: as) n h ck' sk' (fun r n' h' => jl_AW l G F M d (pc + 3) L (r.toList ++ st) n' h' ck sk) (fun _ _ _ => False)) : jl_AW l G F M d pc L stk n h (ck + ck') (sk + sk') := by
  intro p e R s m args below meth c al0 n0 mc ms al H locs ls cells slots C hR hE hl hs h1 h2
  obtain ⟨hK, hF1, hF2, hF3, hF4⟩ := id C.2.2.2.2.2.2
  subst hstk
  subst hna
  have hoa : jl_oks n (.ref x :: as) ∧ jl_oks n st := jl_oks_callR hs
  have hM := jl_noX (k al hR.2.1 hR.2.2.2 hoa.1)
  have hcw : jl_cw M' = .code M'.1 M'.2.1 M'.2.2.1 M'.2.2.2.1 := by unfold jl_cw; rw [hh']
  have hfr : (jl_rm d' ck' sk').frames + 1 ≤ R.frames := by have q9 := jl_rm_fr d' ck' sk'; omega
  have hlo : 8 + (M'.2.2.1 + 11) + (jl_rm d' ck' sk').locals ≤ R.locals := by have q9 := jl_rm_lo d' ck' sk'; omega
  have hrun := va_runIN (host := host) (As := as.map (jl_v G.2.2.1 al)) (rest := st.map (jl_v G.2.2.1 al)) C.1 hM ⟨(va_cnB (host := host) as.length C.1.2.2.2.2 (jl_goodT (pre := []) (fun w hw => nomatch hw) wc) (by rw [hcw, hret]) rfl rfl (hK.2.1 _ w1) (C.1.2.2.2.2 _ wi) hy ⟨hfr, hlo⟩), w3, C.1.2.2.2.2 _ w2⟩ (jl_pre (as := .ref x :: as) hK hR) (g := F0 m pc ls ((as.reverse ++ .ref x :: st).map (jl_v G.2.2.1 al))) (locs := locs) (cells := cells) (slots := slots) (below := below) (e := e) (meth := meth) rfl (by rw [List.length_map]) hl.1 (by rw [List.map_append, List.map_reverse, List.map_cons]; rfl) (lv_room (by rw [jl_cats]; exact hc)) hd ⟨by omega, by omega⟩
  refine jl_runM hrun hR.2.2.1 (fun r n' h' al' H' locs' hk hE' hR' hro => ?_)
  · have h9 := hk p e R s m args below meth c al0 n0 mc ms al' H' locs' ls (cells + ck') (slots + sk') C hR' ⟨Nat.le_trans hE.1 hE'.1, fun i hi => (hE'.2 i (Nat.lt_of_lt_of_le hi hE.1)).trans (hE.2 i hi)⟩ (hl.ext hE'.1 hE'.2) (jl_oks_app hro (jl_oks_mono hE'.1 hoa.2)) (by omega) (by omega)
    rw [List.map_append, jl_oks_map hE'.2 hoa.2] at h9
    cases r <;> exact h9
theorem jl_args {sb : Nat} {al : Nat → Nat} : ∀ (as : List Value) (i0 : Nat), (∀ v ∈ as, v.category = 1) → ∀ (i : Nat) (v : Value), as[i]? = some v → (i0 + i, jl_v sb al v) ∈ lv_args i0 (as.map (jl_v sb al))
  | [], _, _, i, v, h => by simp at h
  | a :: as, i0, hc, 0, v, h => by
    simp at h
    subst h
    exact List.mem_cons_self
  | a :: as, i0, hc, i + 1, v, h => by
    have h1 := jl_args (sb := sb) (al := al) as (i0 + 1) (fun v hv => hc v (List.mem_cons_of_mem _ hv)) i v (by simpa using h)
    have h2 : ¬ (jl_v sb al a).category = 2 := by rw [jl_cat, hc a List.mem_cons_self]; decide
    show _ ∈ (i0, jl_v sb al a) :: lv_args (if (jl_v sb al a).category = 2 then i0 + 2 else i0 + 1) (as.map (jl_v sb al))
    rw [if_neg h2]
    have e1 : i0 + (i + 1) = i0 + 1 + i := by omega
    rw [e1]
    exact List.mem_cons_of_mem _ h1
theorem jl_sl : ∀ (as : List Value), (∀ v ∈ as, v.category = 1) → (lg_sl as).length = as.length
  | [], _ => rfl
  | a :: as, hc => by
    have h1 := jl_sl as (fun v hv => hc v (List.mem_cons_of_mem _ hv))
    have h2 := hc a List.mem_cons_self
    unfold lg_sl at h1 ⊢
    simp [h2, h1]
/-- A CONTRACT out of the walk of the body -/
theorem jl_enter {as : List Value} {Kr : Option Value → Nat → (Nat → va_E) → Prop} {Kx : String → Nat → (Nat → va_E) → Prop} (hl9 : l.stackTraces = false) (hy : plainName M.1.cls = true) (hh : M.2.2.2.2 = []) (hca : ∀ v ∈ as, v.category = 1) (hn9 : as.length ≤ M.2.2.1)
    (k : jl_AW l G (jl_F G Kr Kx) M d 0 (as.map some ++ List.replicate (M.2.2.1 - as.length) none) [] n h ck sk) : jl_Call l G M d as n h ck sk Kr Kx := by
  intro al hD hok hoa
  have hcw : jl_cw M = .code M.1 M.2.1 M.2.2.1 M.2.2.2.1 := by unfold jl_cw; rw [hh]
  refine vx_ofW (cc := M.2.1) (maxL := M.2.2.1) (ret := M.2.2.2.1) (ws' := jl_T) hy (by rw [hcw]) ?_
  intro p e s m args below meth c s₁ B hml htab hv
  obtain ⟨rfl, hK, hP⟩ := hv
  have hts : ∀ w ∈ jl_T, w.before (as.map (jl_v G.2.2.1 al)).toArray s = true := fun w hw => atoms_spec (ws := jl_cw M :: jl_T) B.pre w (List.mem_cons_of_mem _ hw)
  have C : jl_C l G M d p (headSpec (jl_cw M :: jl_T) (jl_rm d ck sk)).room s m (as.map (jl_v G.2.2.1 al)).toArray meth c ck sk := by
    refine ⟨⟨B.exec, B.bytes, hml, findClass_of_methodNamed B.named, hts⟩, B.returns, B.notSynchronized, (name_of_methodNamed B.named B.method).1, ?_, hl9, hK, Nat.le_refl _, Nat.le_refl _, Nat.le_refl _, Nat.le_refl _⟩
    rw [hh]
    exact List.eq_nil_iff_forall_not_mem.mpr fun x hx => htab x hx
  have hcm : ∀ v ∈ as.map (jl_v G.2.2.1 al), v.category = 1 := by
    intro v hv
    obtain ⟨u, hu, rfl⟩ := List.mem_map.mp hv
    rw [jl_cat]
    exact hca u hu
  have hlv := lv_entry (as.map (jl_v G.2.2.1 al)) (n := M.2.2.1) (by rw [jl_sl _ hcm, List.length_map]; exact hn9)
  rw [lg_entry_eq]
  generalize (lg_sl (as.map (jl_v G.2.2.1 al)) ++ List.replicate (M.2.2.1 - (lg_sl (as.map (jl_v G.2.2.1 al))).length) Slot.unset).toArray = ls at hlv ⊢
  refine k p e _ s m _ below meth c al n ck sk al s.heap [] ls 0 0 C ⟨hP, hD, va_S.rf, hok⟩ ⟨Nat.le_refl _, fun _ _ => rfl⟩ ⟨hlv.1, hlv.2.1, fun i v hi => ?_⟩ trivial (by omega) (by omega)
  have hi2 : as[i]? = some v := by
    by_cases e1 : i < as.length
    · rw [List.getElem?_append_left (by rw [List.length_map]; exact e1), List.getElem?_map] at hi
      cases h9 : as[i]? with
      | none => rw [h9] at hi; cases hi
      | some u => rw [h9] at hi; cases hi; rfl
    · rw [List.getElem?_append_right (by rw [List.length_map]; omega)] at hi
      rw [List.getElem?_replicate] at hi
      split at hi <;> cases hi
  have hm := jl_args (sb := G.2.2.1) (al := al) as 0 hca i v hi2
  rw [Nat.zero_add] at hm
  exact ⟨hlv.2.2 _ hm, jl_oks_mem.mp hoa v (List.mem_of_getElem? hi2), hca v (List.mem_of_getElem? hi2)⟩
/-- the same of a method with handlers -/
theorem jl_enterH {as : List Value} {Kr : Option Value → Nat → (Nat → va_E) → Prop} {Kx : String → Nat → (Nat → va_E) → Prop} (hl9 : l.stackTraces = false) (hy : plainName M.1.cls = true) {q9 : Nat × Nat × Nat × Nat} {r9 : List (Nat × Nat × Nat × Nat)} (hh : M.2.2.2.2 = q9 :: r9) (hca : ∀ v ∈ as, v.category = 1) (hn9 : as.length ≤ M.2.2.1)
    (k : jl_AW l G (jl_F G Kr Kx) M d 0 (as.map some ++ List.replicate (M.2.2.1 - as.length) none) [] n h ck sk) : jl_Call l G M d as n h ck sk Kr Kx := by
  intro al hD hok hoa
  have hcw : jl_cw M = .codeWith M.1 M.2.1 M.2.2.1 M.2.2.2.1 M.2.2.2.2 := by unfold jl_cw; split <;> first | rfl | (rename_i h8; rw [hh] at h8; cases h8)
  refine vx_ofWH (hh := M.2.2.2.2) (cc := M.2.1) (maxL := M.2.2.1) (ret := M.2.2.2.1) (ws' := jl_T) hy (by rw [hcw]) ?_
  intro p e s m args below meth c s₁ B hml hv
  obtain ⟨rfl, hK, hP⟩ := hv
  have hts : ∀ w ∈ jl_T, w.before (as.map (jl_v G.2.2.1 al)).toArray s = true := fun w hw => atoms_spec (ws := jl_cw M :: jl_T) B.pre w (List.mem_cons_of_mem _ hw)
  have C : jl_C l G M d p (headSpec (jl_cw M :: jl_T) (jl_rm d ck sk)).room s m (as.map (jl_v G.2.2.1 al)).toArray meth c ck sk := by
    refine ⟨⟨B.exec, B.bytes, hml, findClass_of_methodNamed B.named, hts⟩, B.returns, B.notSynchronized, (name_of_methodNamed B.named B.method).1, ?_, hl9, hK, Nat.le_refl _, Nat.le_refl _, Nat.le_refl _, Nat.le_refl _⟩
    refine vx_table B (x := M.1) (bytes := M.2.1) (maxL' := M.2.2.1) (ret' := M.2.2.2.1) (atoms_spec (ws := jl_cw M :: jl_T) B.pre _ ?_)
    rw [hcw]
    exact List.mem_cons_self
  have hcm : ∀ v ∈ as.map (jl_v G.2.2.1 al), v.category = 1 := by
    intro v hv
    obtain ⟨u, hu, rfl⟩ := List.mem_map.mp hv
    rw [jl_cat]
    exact hca u hu
  have hlv := lv_entry (as.map (jl_v G.2.2.1 al)) (n := M.2.2.1) (by rw [jl_sl _ hcm, List.length_map]; exact hn9)
  rw [lg_entry_eq]
  generalize (lg_sl (as.map (jl_v G.2.2.1 al)) ++ List.replicate (M.2.2.1 - (lg_sl (as.map (jl_v G.2.2.1 al))).length) Slot.unset).toArray = ls at hlv ⊢
  refine k p e _ s m _ below meth c al n ck sk al s.heap [] ls 0 0 C ⟨hP, hD, va_S.rf, hok⟩ ⟨Nat.le_refl _, fun _ _ => rfl⟩ ⟨hlv.1, hlv.2.1, fun i v hi => ?_⟩ trivial (by omega) (by omega)
  have hi2 : as[i]? = some v := by
    by_cases e1 : i < as.length
    · rw [List.getElem?_append_left (by rw [List.length_map]; exact e1), List.getElem?_map] at hi
      cases h9 : as[i]? with
      | none => rw [h9] at hi; cases hi
      | some u => rw [h9] at hi; cases hi; rfl
    · rw [List.getElem?_append_right (by rw [List.length_map]; omega)] at hi
      rw [List.getElem?_replicate] at hi
      split at hi <;> cases hi
  have hm := jl_args (sb := G.2.2.1) (al := al) as 0 hca i v hi2
  rw [Nat.zero_add] at hm
  exact ⟨hlv.2.2 _ hm, jl_oks_mem.mp hoa v (List.mem_of_getElem? hi2), hca v (List.mem_of_getElem? hi2)⟩
end JL