/-! NUMBERS: an int of the machine by a whole number -/
def zI (a : Int) : Int32 := Int32.ofInt a
abbrev zR (a : Int) : Prop := -2147483648 ≤ a ∧ a < 2147483648
theorem zI_t {a : Int} (h : zR a) : (zI a).toInt = a := Int32.toInt_ofInt_of_le (by have := h.1; omega) (by have := h.2; omega)
theorem zI_of (x : Int32) : zI x.toInt = x := Int32.ofInt_toInt x
theorem zI_ex (x : Int32) : ∃ a : Int, zR a ∧ x = zI a := ⟨x.toInt, ⟨x.le_toInt, x.toInt_lt⟩, (zI_of x).symm⟩
theorem zI_add (a b : Int) : zI a + zI b = zI (a + b) := (Int32.ofInt_add a b).symm
theorem zI_sub (a b : Int) : zI a - zI b = zI (a - b) := (Int32.ofInt_sub a b).symm
theorem zI_mul (a b : Int) : zI a * zI b = zI (a * b) := (Int32.ofInt_mul a b).symm
theorem zI_neg (a : Int) : -zI a = zI (-a) := (Int32.ofInt_neg a).symm
theorem zI_lt {a b : Int} (ha : zR a) (hb : zR b) : zI a < zI b ↔ a < b := by rw [Int32.lt_iff_toInt_lt, zI_t ha, zI_t hb]
theorem zI_le {a b : Int} (ha : zR a) (hb : zR b) : zI a ≤ zI b ↔ a ≤ b := by rw [Int32.le_iff_toInt_le, zI_t ha, zI_t hb]
theorem zI_eq {a b : Int} (ha : zR a) (hb : zR b) : zI a = zI b ↔ a = b := ⟨fun h => by have h1 := congrArg Int32.toInt h; rwa [zI_t ha, zI_t hb] at h1, fun h => by rw [h]⟩
theorem zI_cl {a : Int} (h : zR a) : (zI a).toNatClampNeg = a.toNat := congrArg Int.toNat (zI_t h)
theorem zI_in {a : Int} {n : Nat} (h0 : 0 ≤ a) (h1 : a < n) (hn : n < 2147483648) : vp_in (zI a) n := vp_in_iff.mpr (by rw [zI_t ⟨by omega, by omega⟩]; exact ⟨h0, h1⟩)
theorem zI_tdiv {a b : Int} (ha : -2147483648 < a ∧ a < 2147483648) (hb : zR b) (h0 : b ≠ 0) : zI a / zI b = zI (a.tdiv b) := by
  have ha' : zR a := ⟨by omega, by omega⟩
  apply Int32.toInt_inj.mp
  have hne : zI a ≠ Int32.minValue := fun q => by
    have q1 := congrArg Int32.toInt q
    rw [zI_t ha'] at q1
    have q2 : Int32.minValue.toInt = -2147483648 := by decide
    omega
  rw [Int32.toInt_div_of_ne_left _ _ hne, zI_t ha', zI_t hb]
  have hn : (a.tdiv b).natAbs ≤ a.natAbs := by
    rw [Int.natAbs_tdiv]
    exact Nat.div_le_self _ _
  rw [zI_t]
  omega
theorem zI_tmod {a b : Int} (ha : -2147483648 < a ∧ a < 2147483648) (hb : zR b) (h0 : b ≠ 0) : zI a - zI a / zI b * zI b = zI (a.tmod b) := by
  rw [zI_tdiv ha hb h0, zI_mul, zI_sub]
  congr 1
  rw [Int.tmod_def, Int.mul_comm]
theorem zI_odd (b : Int) (_ : zR b) : zI b &&& zI 1 = zI (b % 2) := by
  rw [pk_and (zI b) (m := zI 1) 1 (by decide)]
  have e : (zI b).toBitVec.toNat = (b % 4294967296).toNat := by
    show (BitVec.ofInt 32 b).toNat = _
    rw [BitVec.toNat_ofInt]
    rfl
  rw [e]
  show Int32.ofNat _ = Int32.ofInt _
  rw [← Int32.ofInt_eq_ofNat]
  congr 1
  omega
theorem jn_tmod (b : Int) {p : Int} (hp : 1 ≤ p) : (0 ≤ b.tmod p → b.tmod p = b % p) ∧ (¬ 0 ≤ b.tmod p → b.tmod p + p = b % p) := by
  have h := Int.tmod_eq_emod (a := b) (b := p)
  have h0 := Int.emod_nonneg b (show p ≠ 0 by omega)
  have h1 := Int.emod_lt_of_pos b (show 0 < p by omega)
  have hn : (p.natAbs : Int) = p := Int.natAbs_of_nonneg (by omega)
  split at h <;> constructor <;> intro _ <;> omega
theorem zI_upd (f : Nat → Int) (k : Nat) (v : Int) : upd (fun j => zI (f j)) k (zI v) = fun j => zI (va_up f k v j) := by
  funext j
  by_cases h : j = k
  · subst h; rw [pk_us, va_up_self]
  · rw [pk_un h, va_up_ne _ _ h]
section JZ
variable {l : Launch} {G : jl_G} {F : List Frame → Array Value → State → Nat → Nat → (Nat → Nat) → Nat → State → Prop} {M : jl_M} {d pc : Nat} {L : List (Option Value)} {st : List Value} {n : Nat} {h : Nat → va_E} {ck sk : Nat}
theorem jz_int {x v : Int32} (hv : x = v) (k : jl_AW l G F M d pc L (.int v :: st) n h ck sk) : jl_AW l G F M d pc L (.int x :: st) n h ck sk := hv ▸ k
theorem jz_iadd {a b v : Int} (hd : decode M.2.1 pc = .ok (.iadd, 1)) (hv : a + b = v) (k : jl_AW l G F M d (pc + 1) L (.int (zI v) :: st) n h ck sk) : jl_AW l G F M d pc L (.int (zI b) :: .int (zI a) :: st) n h ck sk := jl_iadd hd (jz_int (by rw [zI_add, hv]) k)
theorem jz_isub {a b v : Int} (hd : decode M.2.1 pc = .ok (.isub, 1)) (hv : a - b = v) (k : jl_AW l G F M d (pc + 1) L (.int (zI v) :: st) n h ck sk) : jl_AW l G F M d pc L (.int (zI b) :: .int (zI a) :: st) n h ck sk := jl_isub hd (jz_int (by rw [zI_sub, hv]) k)
theorem jz_imul {a b v : Int} (hd : decode M.2.1 pc = .ok (.imul, 1)) (hv : a * b = v) (k : jl_AW l G F M d (pc + 1) L (.int (zI v) :: st) n h ck sk) : jl_AW l G F M d pc L (.int (zI b) :: .int (zI a) :: st) n h ck sk := jl_imul hd (jz_int (by rw [zI_mul, hv]) k)
theorem jz_ineg {a v : Int} (hd : decode M.2.1 pc = .ok (.ineg, 1)) (hv : -a = v) (k : jl_AW l G F M d (pc + 1) L (.int (zI v) :: st) n h ck sk) : jl_AW l G F M d pc L (.int (zI a) :: st) n h ck sk := jl_ineg hd (jz_int (by rw [zI_neg, hv]) k)
theorem jz_iinc {i : Nat} {c a v : Int} {L' : List (Option Value)} (hd : decode M.2.1 pc = .ok (.iinc i c, 3)) (hx : L[i]? = some (some (.int (zI a)))) (hv : a + c = v) (hn : i < M.2.2.1) (hL : L.set i (some (.int (zI v))) = L') (k : jl_AW l G F M d (pc + 3) L' st n h ck sk) : jl_AW l G F M d pc L st n h ck sk := jl_iinc hd hx (by rw [← hv]; exact zI_add a c) hn hL k
theorem jz_idiv {a b v : Int} (hd : decode M.2.1 pc = .ok (.idiv, 1)) (ha : -2147483648 < a ∧ a < 2147483648) (hb : zR b) (h0 : b ≠ 0) (hv : a.tdiv b = v) (k : jl_AW l G F M d (pc + 1) L (.int (zI v) :: st) n h ck sk) : jl_AW l G F M d pc L (.int (zI b) :: .int (zI a) :: st) n h ck sk := jl_idiv hd (fun q => h0 ((zI_eq hb ⟨by decide, by decide⟩).mp q)) (jz_int (by rw [zI_tdiv ha hb h0, hv]) k)
theorem jz_irem {a b v : Int} (hd : decode M.2.1 pc = .ok (.irem, 1)) (ha : -2147483648 < a ∧ a < 2147483648) (hb : zR b) (h0 : b ≠ 0) (hv : a.tmod b = v) (k : jl_AW l G F M d (pc + 1) L (.int (zI v) :: st) n h ck sk) : jl_AW l G F M d pc L (.int (zI b) :: .int (zI a) :: st) n h ck sk := jl_irem hd (fun q => h0 ((zI_eq hb ⟨by decide, by decide⟩).mp q)) (jz_int (by rw [zI_tmod ha hb h0, hv]) k)
theorem jz_icmp_eq {a b : Int} {off : Int} {tgt : Nat} (hd : decode M.2.1 pc = .ok (.if_icmp .eq off, 3)) (ht : (pc : Int) + off = (tgt : Int)) (ra : zR a) (rb : zR b) (kt : a = b → jl_AW l G F M d tgt L st n h ck sk) (kf : ¬ (a = b) → jl_AW l G F M d (pc + 3) L st n h ck sk) : jl_AW l G F M d pc L (.int (zI b) :: .int (zI a) :: st) n h ck sk := jl_icmp_eq hd ht (fun q => kt ((zI_eq ra rb).mp q)) (fun q => kf fun w => q ((zI_eq ra rb).mpr w))
theorem jz_if_eq {a : Int} {off : Int} {tgt : Nat} (hd : decode M.2.1 pc = .ok (.ifCond .eq off, 3)) (ht : (pc : Int) + off = (tgt : Int)) (ra : zR a) (kt : a = 0 → jl_AW l G F M d tgt L st n h ck sk) (kf : ¬ (a = 0) → jl_AW l G F M d (pc + 3) L st n h ck sk) : jl_AW l G F M d pc L (.int (zI a) :: st) n h ck sk := by
  have rb : zR 0 := ⟨by decide, by decide⟩
  exact jl_if_eq hd ht (fun q => kt ((zI_eq ra rb).mp q)) (fun q => kf fun w => q ((zI_eq ra rb).mpr w))
theorem jz_icmp_ne {a b : Int} {off : Int} {tgt : Nat} (hd : decode M.2.1 pc = .ok (.if_icmp .ne off, 3)) (ht : (pc : Int) + off = (tgt : Int)) (ra : zR a) (rb : zR b) (kt : ¬ a = b → jl_AW l G F M d tgt L st n h ck sk) (kf : a = b → jl_AW l G F M d (pc + 3) L st n h ck sk) : jl_AW l G F M d pc L (.int (zI b) :: .int (zI a) :: st) n h ck sk := by
  have rc : zR (b) := rb
  exact jl_icmp_ne hd ht (fun q => kt fun w => q ((zI_eq ra rc).mpr w)) (fun q => kf ((zI_eq ra rc).mp q))
theorem jz_if_ne {a : Int} {off : Int} {tgt : Nat} (hd : decode M.2.1 pc = .ok (.ifCond .ne off, 3)) (ht : (pc : Int) + off = (tgt : Int)) (ra : zR a) (kt : ¬ a = 0 → jl_AW l G F M d tgt L st n h ck sk) (kf : a = 0 → jl_AW l G F M d (pc + 3) L st n h ck sk) : jl_AW l G F M d pc L (.int (zI a) :: st) n h ck sk := by
  have rc : zR (0) := ⟨by decide, by decide⟩
  exact jl_if_ne hd ht (fun q => kt fun w => q ((zI_eq ra rc).mpr w)) (fun q => kf ((zI_eq ra rc).mp q))
theorem jz_icmp_lt {a b : Int} {off : Int} {tgt : Nat} (hd : decode M.2.1 pc = .ok (.if_icmp .lt off, 3)) (ht : (pc : Int) + off = (tgt : Int)) (ra : zR a) (rb : zR b) (kt : a < b → jl_AW l G F M d tgt L st n h ck sk) (kf : ¬ (a < b) → jl_AW l G F M d (pc + 3) L st n h ck sk) : jl_AW l G F M d pc L (.int (zI b) :: .int (zI a) :: st) n h ck sk := jl_icmp_lt hd ht (fun q => kt ((zI_lt ra rb).mp q)) (fun q => kf fun w => q ((zI_lt ra rb).mpr w))
theorem jz_if_lt {a : Int} {off : Int} {tgt : Nat} (hd : decode M.2.1 pc = .ok (.ifCond .lt off, 3)) (ht : (pc : Int) + off = (tgt : Int)) (ra : zR a) (kt : a < 0 → jl_AW l G F M d tgt L st n h ck sk) (kf : ¬ (a < 0) → jl_AW l G F M d (pc + 3) L st n h ck sk) : jl_AW l G F M d pc L (.int (zI a) :: st) n h ck sk := by
  have rb : zR 0 := ⟨by decide, by decide⟩
  exact jl_if_lt hd ht (fun q => kt ((zI_lt ra rb).mp q)) (fun q => kf fun w => q ((zI_lt ra rb).mpr w))
theorem jz_icmp_ge {a b : Int} {off : Int} {tgt : Nat} (hd : decode M.2.1 pc = .ok (.if_icmp .ge off, 3)) (ht : (pc : Int) + off = (tgt : Int)) (ra : zR a) (rb : zR b) (kt : b ≤ a → jl_AW l G F M d tgt L st n h ck sk) (kf : ¬ (b ≤ a) → jl_AW l G F M d (pc + 3) L st n h ck sk) : jl_AW l G F M d pc L (.int (zI b) :: .int (zI a) :: st) n h ck sk := jl_icmp_ge hd ht (fun q => kt ((zI_le rb ra).mp q)) (fun q => kf fun w => q ((zI_le rb ra).mpr w))
theorem jz_if_ge {a : Int} {off : Int} {tgt : Nat} (hd : decode M.2.1 pc = .ok (.ifCond .ge off, 3)) (ht : (pc : Int) + off = (tgt : Int)) (ra : zR a) (kt : 0 ≤ a → jl_AW l G F M d tgt L st n h ck sk) (kf : ¬ (0 ≤ a) → jl_AW l G F M d (pc + 3) L st n h ck sk) : jl_AW l G F M d pc L (.int (zI a) :: st) n h ck sk := by
  have rb : zR 0 := ⟨by decide, by decide⟩
  exact jl_if_ge hd ht (fun q => kt ((zI_le rb ra).mp q)) (fun q => kf fun w => q ((zI_le rb ra).mpr w))
theorem jz_icmp_gt {a b : Int} {off : Int} {tgt : Nat} (hd : decode M.2.1 pc = .ok (.if_icmp .gt off, 3)) (ht : (pc : Int) + off = (tgt : Int)) (ra : zR a) (rb : zR b) (kt : b < a → jl_AW l G F M d tgt L st n h ck sk) (kf : ¬ (b < a) → jl_AW l G F M d (pc + 3) L st n h ck sk) : jl_AW l G F M d pc L (.int (zI b) :: .int (zI a) :: st) n h ck sk := jl_icmp_gt hd ht (fun q => kt ((zI_lt rb ra).mp q)) (fun q => kf fun w => q ((zI_lt rb ra).mpr w))
theorem jz_if_gt {a : Int} {off : Int} {tgt : Nat} (hd : decode M.2.1 pc = .ok (.ifCond .gt off, 3)) (ht : (pc : Int) + off = (tgt : Int)) (ra : zR a) (kt : 0 < a → jl_AW l G F M d tgt L st n h ck sk) (kf : ¬ (0 < a) → jl_AW l G F M d (pc + 3) L st n h ck sk) : jl_AW l G F M d pc L (.int (zI a) :: st) n h ck sk := by
  have rb : zR 0 := ⟨by decide, by decide⟩
  exact jl_if_gt hd ht (fun q => kt ((zI_lt rb ra).mp q)) (fun q => kf fun w => q ((zI_lt rb ra).mpr w))
theorem jz_icmp_le {a b : Int} {off : Int} {tgt : Nat} (hd : decode M.2.1 pc = .ok (.if_icmp .le off, 3)) (ht : (pc : Int) + off = (tgt : Int)) (ra : zR a) (rb : zR b) (kt : a ≤ b → jl_AW l G F M d tgt L st n h ck sk) (kf : ¬ (a ≤ b) → jl_AW l G F M d (pc + 3) L st n h ck sk) : jl_AW l G F M d pc L (.int (zI b) :: .int (zI a) :: st) n h ck sk := jl_icmp_le hd ht (fun q => kt ((zI_le ra rb).mp q)) (fun q => kf fun w => q ((zI_le ra rb).mpr w))
theorem jz_if_le {a : Int} {off : Int} {tgt : Nat} (hd : decode M.2.1 pc = .ok (.ifCond .le off, 3)) (ht : (pc : Int) + off = (tgt : Int)) (ra : zR a) (kt : a ≤ 0 → jl_AW l G F M d tgt L st n h ck sk) (kf : ¬ (a ≤ 0) → jl_AW l G F M d (pc + 3) L st n h ck sk) : jl_AW l G F M d pc L (.int (zI a) :: st) n h ck sk := by
  have rb : zR 0 := ⟨by decide, by decide⟩
  exact jl_if_le hd ht (fun q => kt ((zI_le ra rb).mp q)) (fun q => kf fun w => q ((zI_le ra rb).mpr w))
theorem jz_iald {x k9 : Nat} {g : Nat → Int} {a : Int} (hd : decode M.2.1 pc = .ok (.iaload, 1)) (he : h x = jI k9 (fun j => zI (g j))) (h0 : 0 ≤ a) (h1 : a < k9) (hk : k9 < 2147483648) (k : jl_AW l G F M d (pc + 1) L (.int (zI (g a.toNat)) :: st) n h ck sk) : jl_AW l G F M d pc L (.int (zI a) :: .ref x :: st) n h ck sk := jl_iald hd he (zI_in h0 h1 hk) (jz_int (by rw [zI_cl ⟨by omega, by omega⟩]) k)
theorem jz_iast {x k9 : Nat} {g : Nat → Int} {a v : Int} (hd : decode M.2.1 pc = .ok (.iastore, 1)) (he : h x = jI k9 (fun j => zI (g j))) (h0 : 0 ≤ a) (h1 : a < k9) (hk : k9 < 2147483648) (k : jl_AW l G F M d (pc + 1) L st n (va_up h x (jI k9 (fun j => zI (va_up g a.toNat v j)))) ck sk) : jl_AW l G F M d pc L (.int (zI v) :: .int (zI a) :: .ref x :: st) n h ck sk := jl_iast hd he (zI_in h0 h1 hk) (by rw [zI_cl ⟨by omega, by omega⟩, zI_upd]; exact k)
theorem jz_iasth {x k9 : Nat} {g : Nat → Int} {a v : Int} (hd : decode M.2.1 pc = .ok (.iastore, 1)) (he : h x = jI k9 (fun j => zI (g j))) (h0 : 0 ≤ a) (h1 : a < k9) (hk : k9 < 2147483648) (k : ∀ h2, h2 = va_up h x (jI k9 (fun j => zI (va_up g a.toNat v j))) → jl_AW l G F M d (pc + 1) L st n h2 ck sk) : jl_AW l G F M d pc L (.int (zI v) :: .int (zI a) :: .ref x :: st) n h ck sk := jz_iast hd he h0 h1 hk (k _ rfl)
end JZ
