/-! the balls that are numbered when a draft is shown, as a list with no bound -/
def itW (hs : Nat → Int) (s ht : Int) (x : Int × Int) : Nat → List (Int × Int)
  | 0 => []
  | w + 1 => itW hs s ht x w ++ (if hs (s * 3 + w).toNat = ht then [x] else [])
theorem tk_app (A Y : List (Int × Int)) : ((A.take 27) ++ Y).take 27 = (A ++ Y).take 27 := by
  by_cases h : A.length ≤ 27
  · rw [List.take_of_length_le h]
  · have h1 : (A.take 27).length = 27 := by rw [List.length_take]; omega
    rw [List.take_append_of_le_length (by omega), List.take_append_of_le_length (by omega), List.take_take]
    congr 1
theorem nbo_tk {hs : Nat → Int} {s ht : Int} {x : Int × Int} {B : List (Int × Int)} (hB : B.length ≤ 27) : ∀ w, nbo hs s ht x B w = (B ++ itW hs s ht x w).take 27
  | 0 => by
    unfold nbo itW
    rw [List.append_nil, List.take_of_length_le hB]
  | w + 1 => by
    unfold nbo itW
    rw [nbo_tk hB w, ← List.append_assoc]
    generalize B ++ itW hs s ht x w = L
    by_cases h : hs (s * 3 + w).toNat = ht
    · rw [if_pos h]
      by_cases h2 : L.length < 27
      · rw [List.take_of_length_le (by omega), if_pos ⟨h, h2⟩, List.take_of_length_le (by rw [List.length_append, List.length_singleton]; omega)]
      · rw [if_neg (fun q => by have := q.2; rw [List.length_take] at this; omega), List.take_append_of_le_length (by omega)]
    · rw [if_neg (fun q => h q.1), if_neg h, List.append_nil]
def itT (m p : Int) (hs cs xs : Nat → Int) (g k ago th : Int) : List (Int × Int) :=
  if ¬ sp_thr m p (-ago) th = -1 ∧ sp_land m xs (sp_thr m p (-ago) th) th g = k then itW hs (sp_thr m p (-ago) th) (g + ago) (g, k) (cs (sp_thr m p (-ago) th).toNat).toNat else []
theorem nbt_tk {m p : Int} {hs cs xs : Nat → Int} {g k ago th : Int} {B : List (Int × Int)} (hB : B.length ≤ 27) : nbt m p hs cs xs g k ago th B = (B ++ itT m p hs cs xs g k ago th).take 27 := by
  unfold nbt itT
  split
  · exact nbo_tk hB _
  · rw [List.append_nil, List.take_of_length_le hB]
def itL (m p : Int) (hs cs xs : Nat → Int) (g k : Int) : Nat → List (Int × Int)
  | 0 => []
  | a + 1 => itL m p hs cs xs g k a ++ (itT m p hs cs xs g k ((a : Int) + 1) 0 ++ itT m p hs cs xs g k ((a : Int) + 1) 1)
theorem tk_le (A : List (Int × Int)) : (A.take 27).length ≤ 27 := by rw [List.length_take]; omega
theorem nbl_tk {m p : Int} {hs cs xs : Nat → Int} {g k : Int} {B : List (Int × Int)} (hB : B.length ≤ 27) : ∀ a, nbl m p hs cs xs g k B a = (B ++ itL m p hs cs xs g k a).take 27
  | 0 => by
    unfold nbl itL
    rw [List.append_nil, List.take_of_length_le hB]
  | a + 1 => by
    unfold nbl itL
    rw [nbl_tk hB a, nbt_tk (tk_le _), nbt_tk (tk_le _), tk_app, List.append_assoc, tk_app, List.append_assoc]
def itA (m p : Int) (hs cs xs : Nat → Int) : Nat → List (Int × Int)
  | 0 => []
  | g + 1 => itA m p hs cs xs g ++ (itL m p hs cs xs (g : Int) 0 (9 - (g : Int)).toNat ++ itL m p hs cs xs (g : Int) 1 (9 - (g : Int)).toNat)
theorem nba_tk {m p : Int} {hs cs xs : Nat → Int} : ∀ g, nba m p hs cs xs g = (itA m p hs cs xs g).take 27
  | 0 => rfl
  | g + 1 => by
    unfold nba itA
    rw [nba_tk g, nbl_tk (tk_le _), nbl_tk (tk_le _), tk_app, List.append_assoc, tk_app]
/-! counting -/
def ctL (y : Int × Int) : List (Int × Int) → Int
  | [] => 0
  | b :: r => (if b = y then 1 else 0) + ctL y r
theorem ctL_app (y : Int × Int) : ∀ A B, ctL y (A ++ B) = ctL y A + ctL y B
  | [], B => by show ctL y B = 0 + _; omega
  | a :: A, B => by
    show _ + ctL y (A ++ B) = _ + ctL y A + _
    rw [ctL_app y A B]
    omega
theorem ctL_ge (y : Int × Int) : ∀ A, 0 ≤ ctL y A
  | [] => Int.le_refl _
  | a :: A => by
    have := ctL_ge y A
    unfold ctL
    split <;> omega
theorem ctL_set (y v : Int × Int) : ∀ (B : List (Int × Int)) (k : Nat), k < B.length → ctL y (B.set k v) = ctL y B - (if B.getD k (0, 0) = y then 1 else 0) + (if v = y then 1 else 0)
  | [], k, h => by cases h
  | b :: B, 0, h => by
    show (if v = y then 1 else 0) + ctL y B = (if b = y then 1 else 0) + ctL y B - (if b = y then 1 else 0) + _
    omega
  | b :: B, k + 1, h => by
    have := ctL_set y v B k (by simpa using h)
    show (if b = y then 1 else 0) + ctL y (B.set k v) = (if b = y then 1 else 0) + ctL y B - (if B.getD k (0, 0) = y then 1 else 0) + _
    omega
theorem ctL_pos (y : Int × Int) : ∀ (B : List (Int × Int)), y ∈ B → 0 < ctL y B
  | [], h => by cases h
  | b :: B, h => by
    have h0 := ctL_ge y B
    unfold ctL
    rcases List.mem_cons.mp h with e | e
    · rw [if_pos e.symm]; omega
    · have := ctL_pos y B e
      split <;> omega
def wc (hs : Nat → Int) (s ht : Int) : Nat → Int
  | 0 => 0
  | w + 1 => wc hs s ht w + (if hs (s * 3 + w).toNat = ht then 1 else 0)
theorem wc_0 {hs : Nat → Int} {s ht : Int} : ∀ n : Nat, (∀ w : Nat, w < n → ¬ hs (s * 3 + w).toNat = ht) → wc hs s ht n = 0
  | 0, _ => rfl
  | n + 1, h => by
    unfold wc
    rw [wc_0 n (fun w hw => h w (by omega)), if_neg (h n (by omega))]
    rfl
theorem wc_rg (hs : Nat → Int) (s ht : Int) : ∀ n : Nat, 0 ≤ wc hs s ht n ∧ wc hs s ht n ≤ n
  | 0 => ⟨Int.le_refl _, Int.le_refl _⟩
  | n + 1 => by
    have := wc_rg hs s ht n
    unfold wc
    split <;> omega
theorem itW_ct {hs : Nat → Int} {s ht : Int} {x y : Int × Int} : ∀ w, ctL y (itW hs s ht x w) = if x = y then wc hs s ht w else 0
  | 0 => by unfold itW wc ctL; split <;> rfl
  | w + 1 => by
    unfold itW wc
    rw [ctL_app, itW_ct w]
    by_cases h1 : hs (s * 3 + w).toNat = ht
    · rw [if_pos h1, if_pos h1]
      show _ + ((if x = y then 1 else 0) + 0) = _
      split <;> omega
    · rw [if_neg h1, if_neg h1]
      show _ + 0 = _
      split <;> omega
theorem itW_len {hs : Nat → Int} {s ht : Int} {x : Int × Int} : ∀ w, ((itW hs s ht x w).length : Int) = wc hs s ht w
  | 0 => rfl
  | w + 1 => by
    unfold itW wc
    rw [List.length_append, Int.natCast_add, itW_len w]
    split <;> rfl
/-- what a hand's throw so many beats ago has in the air, to land at T in hand x -/
def ft (m p : Int) (hs cs xs : Nat → Int) (nw T x : Int) (th : Int) (a : Nat) : Int :=
  if ¬ sp_thr m p (nw - ((a : Int) + 1)) th = -1 ∧ sp_land m xs (sp_thr m p (nw - ((a : Int) + 1)) th) th T = x then wc hs (sp_thr m p (nw - ((a : Int) + 1)) th) (T - nw + ((a : Int) + 1)) (cs (sp_thr m p (nw - ((a : Int) + 1)) th).toNat).toNat else 0
def fc (m p : Int) (hs cs xs : Nat → Int) (nw T x : Int) (n : Nat) : Int := smI (fun a => ft m p hs cs xs nw T x 0 a + ft m p hs cs xs nw T x 1 a) n
theorem ft_0 {m p : Int} {hs cs xs : Nat → Int} (hh : ∀ j, 0 ≤ hs j ∧ hs j ≤ 9) {nw T x th : Int} {a : Nat} (h : 9 < T - nw + ((a : Int) + 1)) : ft m p hs cs xs nw T x th a = 0 := by
  unfold ft
  split
  · refine wc_0 _ (fun w _ q => ?_)
    have := hh (sp_thr m p (nw - ((a : Int) + 1)) th * 3 + (w : Int)).toNat
    omega
  · rfl
theorem smI_tail {f : Nat → Int} {n : Nat} : ∀ e, (∀ k, n ≤ k → k < n + e → f k = 0) → smI f (n + e) = smI f n
  | 0, _ => rfl
  | e + 1, h => by
    show smI f (n + e) + f (n + e) = _
    rw [smI_tail e (fun k a b => h k a (by omega)), h (n + e) (by omega) (by omega)]
    omega
theorem itT_ct {m p : Int} {hs cs xs : Nat → Int} {g k th : Int} {a : Nat} {y : Int × Int} : ctL y (itT m p hs cs xs g k ((a : Int) + 1) th) = if (g, k) = y then ft m p hs cs xs 0 g k th a else 0 := by
  unfold itT ft
  rw [show (0 : Int) - ((a : Int) + 1) = -((a : Int) + 1) by omega, show g - 0 + ((a : Int) + 1) = g + ((a : Int) + 1) by omega]
  split
  · rw [itW_ct]
  · show 0 = _
    split <;> rfl
theorem itL_ct {m p : Int} {hs cs xs : Nat → Int} {g k : Int} {y : Int × Int} : ∀ a, ctL y (itL m p hs cs xs g k a) = if (g, k) = y then fc m p hs cs xs 0 g k a else 0
  | 0 => by unfold itL fc smI ctL; split <;> rfl
  | a + 1 => by
    unfold itL fc smI
    rw [ctL_app, ctL_app, itL_ct a, itT_ct, itT_ct]
    unfold fc
    split <;> omega
theorem fc_cut {m p : Int} {hs cs xs : Nat → Int} (hh : ∀ j, 0 ≤ hs j ∧ hs j ≤ 9) {g k : Int} (h0 : 0 ≤ g) : fc m p hs cs xs 0 g k (9 - g).toNat = fc m p hs cs xs 0 g k 9 := by
  have e : 9 = (9 - g).toNat + (9 - (9 - g).toNat) := by omega
  unfold fc
  rw [show smI (fun a => ft m p hs cs xs 0 g k 0 a + ft m p hs cs xs 0 g k 1 a) 9 = smI (fun a => ft m p hs cs xs 0 g k 0 a + ft m p hs cs xs 0 g k 1 a) ((9 - g).toNat + (9 - (9 - g).toNat)) by rw [← e]]
  refine (smI_tail _ (fun a ha _ => ?_)).symm
  rw [ft_0 hh (by omega), ft_0 hh (by omega)]
  rfl
theorem itA_ct {m p : Int} {hs cs xs : Nat → Int} (hh : ∀ j, 0 ≤ hs j ∧ hs j ≤ 9) {T x : Int} (hT : 0 ≤ T) (hx : x = 0 ∨ x = 1) : ∀ G : Nat, ctL (T, x) (itA m p hs cs xs G) = if T < G then fc m p hs cs xs 0 T x 9 else 0
  | 0 => by rw [if_neg (by omega)]; rfl
  | G + 1 => by
    unfold itA
    rw [ctL_app, ctL_app, itA_ct hh hT hx G, itL_ct, itL_ct]
    by_cases e : (G : Int) = T
    · subst e
      rw [if_neg (by omega), if_pos (show (G : Int) < ((G + 1 : Nat) : Int) by omega), fc_cut hh (by omega), fc_cut hh (by omega)]
      rcases hx with q | q <;> subst q
      · rw [if_pos rfl, if_neg (by simp)]; omega
      · rw [if_neg (by simp), if_pos rfl]; omega
    · rw [if_neg (fun q => e (Prod.mk.inj q).1), if_neg (fun q => e (Prod.mk.inj q).1)]
      by_cases q : T < (G : Int)
      · rw [if_pos q, if_pos (show T < ((G + 1 : Nat) : Int) by omega)]; omega
      · rw [if_neg q, if_neg (show ¬ T < ((G + 1 : Nat) : Int) by omega)]; omega
theorem fc_far {m p : Int} {hs cs xs : Nat → Int} (hh : ∀ j, 0 ≤ hs j ∧ hs j ≤ 9) {nw T x : Int} (h : 9 ≤ T - nw) (n : Nat) : fc m p hs cs xs nw T x n = 0 := by
  refine (smI_cg n (fun a _ => ?_)).trans (smI_0 n)
  rw [ft_0 hh (by omega), ft_0 hh (by omega)]
  rfl
/-- what is in the air at the start -/
theorem itA_fc {m p : Int} {hs cs xs : Nat → Int} (hh : ∀ j, 0 ≤ hs j ∧ hs j ≤ 9) {T x : Int} (hT : 0 ≤ T) (hx : x = 0 ∨ x = 1) : ctL (T, x) (itA m p hs cs xs 9) = fc m p hs cs xs 0 T x 9 := by
  rw [itA_ct hh hT hx]
  by_cases q : T < ((9 : Nat) : Int)
  · rw [if_pos q]
  · rw [if_neg q, fc_far hh (by omega)]
/-! no more than twenty-seven balls -/
theorem smI_comm (f : Nat → Nat → Int) : ∀ a b, smI (fun i => smI (fun j => f i j) b) a = smI (fun j => smI (fun i => f i j) a) b
  | 0, b => by
    show 0 = smI (fun j => 0) b
    rw [smI_0]
  | a + 1, b => by
    show smI (fun i => smI (fun j => f i j) b) a + smI (fun j => f a j) b = smI (fun j => smI (fun i => f i j) a + f a j) b
    rw [smI_comm f a b, smI_add]
theorem itL_len {m p : Int} {hs cs xs : Nat → Int} {g k : Int} : ∀ a, ((itL m p hs cs xs g k a).length : Int) = fc m p hs cs xs 0 g k a
  | 0 => rfl
  | a + 1 => by
    have e : ∀ th, ((itT m p hs cs xs g k ((a : Int) + 1) th).length : Int) = ft m p hs cs xs 0 g k th a := fun th => by
      unfold itT ft
      rw [show (0 : Int) - ((a : Int) + 1) = -((a : Int) + 1) by omega, show g - 0 + ((a : Int) + 1) = g + ((a : Int) + 1) by omega]
      split
      · rw [itW_len]
      · rfl
    unfold itL fc smI
    rw [List.length_append, List.length_append, Int.natCast_add, Int.natCast_add, itL_len a, e, e]
    unfold fc
    omega
theorem itA_len {m p : Int} {hs cs xs : Nat → Int} (hh : ∀ j, 0 ≤ hs j ∧ hs j ≤ 9) : ∀ G : Nat, ((itA m p hs cs xs G).length : Int) = smI (fun g => fc m p hs cs xs 0 (g : Int) 0 9 + fc m p hs cs xs 0 (g : Int) 1 9) G
  | 0 => rfl
  | G + 1 => by
    unfold itA smI
    rw [List.length_append, List.length_append, Int.natCast_add, Int.natCast_add, itA_len hh G, itL_len, itL_len, fc_cut hh (by omega), fc_cut hh (by omega)]
theorem wc_sum (hs : Nat → Int) (s b : Int) (n : Nat) : ∀ c : Nat, smI (fun g => wc hs s (b + (g : Int)) c) n ≤ c
  | 0 => by
    show smI (fun g => 0) n ≤ 0
    rw [smI_0]
    exact Int.le_refl _
  | c + 1 => by
    show smI (fun g => wc hs s (b + (g : Int)) c + (if hs (s * 3 + c).toNat = b + (g : Int) then 1 else 0)) n ≤ _
    rw [smI_add]
    have h1 := wc_sum hs s b n c
    have h2 : smI (fun g => if hs (s * 3 + c).toNat = b + (g : Int) then (1 : Int) else 0) n ≤ 1 := by
      by_cases q : b ≤ hs (s * 3 + c).toNat
      · have e := smI_one 1 n (hs (s * 3 + c).toNat - b).toNat
        have e2 : smI (fun g => if hs (s * 3 + c).toNat = b + (g : Int) then (1 : Int) else 0) n = smI (fun k => if (hs (s * 3 + c).toNat - b).toNat = k then (1 : Int) else 0) n := smI_cg n (fun g _ => by
          by_cases w : hs (s * 3 + c).toNat = b + (g : Int)
          · rw [if_pos w, if_pos (by omega)]
          · rw [if_neg w, if_neg (by omega)])
        rw [e2, e]
        split <;> omega
      · rw [show smI (fun g => if hs (s * 3 + c).toNat = b + (g : Int) then (1 : Int) else 0) n = smI (fun _ => 0) n from smI_cg n (fun g _ => if_neg (by omega)), smI_0]
        decide
    omega
