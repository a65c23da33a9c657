/-! PURE, numbers and rows of bells -/
abbrev ii (k : Nat) : Int32 := Int32.ofNat k
theorem i_toInt {k : Nat} (h : k < 2147483648) : (ii k).toInt = (k : Int) := Int32.toInt_ofNat_of_lt h
theorem i_nat {k : Nat} (h : k < 2147483648) : (ii k).toNatClampNeg = k := Int32.toNatClampNeg_ofNat_of_lt h
theorem i_lt {a b : Nat} (ha : a < 2147483648) (hb : b < 2147483648) : ii a < ii b ↔ a < b := by
  rw [Int32.lt_iff_toInt_lt, i_toInt ha, i_toInt hb]
  omega
theorem i_le {a b : Nat} (ha : a < 2147483648) (hb : b < 2147483648) : ii a ≤ ii b ↔ a ≤ b := by
  rw [Int32.le_iff_toInt_le, i_toInt ha, i_toInt hb]
  omega
theorem i_eq {a b : Nat} (ha : a < 2147483648) (hb : b < 2147483648) : ii a = ii b ↔ a = b := by
  constructor
  · intro h
    have h2 : (ii a).toInt = (ii b).toInt := by rw [h]
    rw [i_toInt ha, i_toInt hb] at h2
    omega
  · intro h
    rw [h]
theorem i_add (a b : Nat) : ii a + ii b = ii (a + b) := (Int32.ofNat_add a b).symm
theorem i_mul (a b : Nat) : ii a * ii b = ii (a * b) := (Int32.ofNat_mul a b).symm
theorem i_sub {a b : Nat} (h : b ≤ a) : ii a - ii b = ii (a - b) := (Int32.ofNat_sub a b h).symm
theorem i_add1 (a : Nat) : ii a + (1 : Int32) = ii (a + 1) := i_add a 1
theorem i_sub1 {a : Nat} (h : 0 < a) : ii a - (1 : Int32) = ii (a - 1) := i_sub h
theorem i_pos {a : Nat} (ha : a < 2147483648) : ¬ ii a < 0 := by
  rw [show (0 : Int32) = ii 0 from rfl, i_lt ha (by omega)]
  omega
theorem i_m1 {a : Nat} (ha : a < 2147483648) : ¬ ii a = (-1 : Int32) := by
  intro h
  have h2 : (ii a).toInt = (-1 : Int32).toInt := by rw [h]
  rw [i_toInt ha, show (-1 : Int32).toInt = -1 from rfl] at h2
  omega
theorem i_ix {k N : Nat} (hk : k < N) (hN : N < 2147483648) : ¬ (ii k < 0 ∨ N ≤ (ii k).toNatClampNeg) := by
  intro h
  rcases h with h | h
  · exact i_pos (by omega) h
  · rw [i_nat (by omega)] at h
    omega
/-- an int that is not negative is the int of a number -/
theorem i_of {x : Int32} (h : ¬ x < 0) : ∃ k : Nat, k < 2147483648 ∧ x = ii k := by
  refine ⟨x.toInt.toNat, ?_, ?_⟩
  · have := x.toInt_lt
    omega
  · have h0 : 0 ≤ x.toInt := by
      rw [Int32.lt_iff_toInt_lt, show (0 : Int32).toInt = 0 from rfl] at h
      omega
    apply Int32.toInt.inj
    rw [i_toInt (by have := x.toInt_lt; omega)]
    omega
/-! rows of bells as lists -/
def permsF : Nat → List Nat → List (List Nat)
  | 0, _ => [[]]
  | n + 1, xs => xs.flatMap (fun a => (permsF n (xs.erase a)).map (fun t => a :: t))
def rowL (n : Nat) : List Nat := List.range' 1 n
def prms (n : Nat) : List (List Nat) := permsF n (rowL n)
def IsR (n : Nat) (l : List Nat) : Prop := l.Perm (rowL n)
theorem perms_mem : ∀ (l xs : List Nat), l.Perm xs → l ∈ permsF xs.length xs
  | [], xs, h => by
    rw [List.nil_perm.mp h]
    exact List.mem_singleton.mpr rfl
  | a :: t, xs, h => by
    obtain ⟨h1, h2⟩ := List.cons_perm_iff_perm_erase.mp h
    have h3 := perms_mem t (xs.erase a) h2
    have h4 : xs.length = (xs.erase a).length + 1 := by
      rw [List.length_erase_of_mem h1]
      have := List.length_pos_of_mem h1
      omega
    rw [h4]
    exact List.mem_flatMap.mpr ⟨a, h1, List.mem_map.mpr ⟨t, h3, rfl⟩⟩
theorem isR_mem {n : Nat} {l : List Nat} (h : IsR n l) : l ∈ prms n := by
  have h1 := perms_mem l (rowL n) h
  rwa [show (rowL n).length = n from List.length_range'] at h1
theorem isR_len {n : Nat} {l : List Nat} (h : IsR n l) : l.length = n := by
  rw [List.Perm.length_eq h]
  exact List.length_range'
theorem isR_nd {n : Nat} {l : List Nat} (h : IsR n l) : l.Nodup := (List.Perm.nodup_iff h).mpr List.nodup_range'
theorem isR_rounds (n : Nat) : IsR n (rowL n) := List.Perm.refl _
theorem isR_bell {n b : Nat} {l : List Nat} (h : IsR n l) : b ∈ l ↔ 1 ≤ b ∧ b ≤ n := by
  rw [List.Perm.mem_iff h]
  unfold rowL
  rw [List.mem_range'_1]
  omega
def pkN : List Nat → Nat
  | [] => 0
  | a :: t => a + 16 * pkN t
def pk (l : List Nat) : Int32 := ii (pkN l)
def tl (l : List Nat) : Nat := l.foldl (fun s d => 10 * s + d) 0
/-- two neighbours change places: those at p and p + 1, counted from 1 -/
def sw : Nat → List Nat → List Nat
  | 1, a :: b :: t => b :: a :: t
  | p + 2, a :: t => a :: sw (p + 1) t
  | _, l => l
theorem sw_perm : ∀ (p : Nat) (l : List Nat), (sw p l).Perm l
  | 0, l => by rw [sw.eq_def]
  | 1, [] => List.Perm.refl _
  | 1, [a] => List.Perm.refl _
  | 1, a :: b :: t => List.Perm.swap _ _ _
  | p + 2, [] => List.Perm.refl _
  | p + 2, a :: t => List.Perm.cons a (sw_perm (p + 1) t)
theorem sw_map (f : Nat → Nat) : ∀ (p : Nat) (l : List Nat), sw p (l.map f) = (sw p l).map f
  | 0, l => by rw [sw.eq_def, sw.eq_def]
  | 1, [] => rfl
  | 1, [a] => rfl
  | 1, a :: b :: t => rfl
  | p + 2, [] => rfl
  | p + 2, a :: t => by
    show f a :: sw (p + 1) (t.map f) = f a :: (sw (p + 1) t).map f
    rw [sw_map f (p + 1) t]
def sws (ps : List Nat) (l : List Nat) : List Nat := ps.foldl (fun l p => sw p l) l
theorem sws_perm : ∀ (ps : List Nat) (l : List Nat), (sws ps l).Perm l
  | [], l => List.Perm.refl _
  | p :: ps, l => (sws_perm ps (sw p l)).trans (sw_perm p l)
theorem sws_map (f : Nat → Nat) : ∀ (ps : List Nat) (l : List Nat), sws ps (l.map f) = (sws ps l).map f
  | [], l => rfl
  | p :: ps, l => by
    show sws ps (sw p (l.map f)) = (sws ps (sw p l)).map f
    rw [sw_map, sws_map f ps]
theorem sws_isR {n : Nat} {ps : List Nat} {l : List Nat} (h : IsR n l) : IsR n (sws ps l) := (sws_perm ps l).trans h
def chT4 : List (Nat × List Nat) := [(0, [1, 3]), (3, [3]), (9, [2]), (12, [1]), (15, [])]
def chT5 : List (Nat × List Nat) := [(1, [2, 4]), (4, [1, 4]), (7, [4]), (16, [1, 3]), (19, [3]), (25, [2]), (28, [1]), (31, [])]
def chT6 : List (Nat × List Nat) := [(0, [1, 3, 5]), (3, [3, 5]), (9, [2, 5]), (12, [1, 5]), (15, [5]), (33, [2, 4]), (36, [1, 4]), (39, [4]), (48, [1, 3]), (51, [3]), (57, [2]), (60, [1]), (63, [])]
def chT7 : List (Nat × List Nat) := [(1, [2, 4, 6]), (4, [1, 4, 6]), (7, [4, 6]), (16, [1, 3, 6]), (19, [3, 6]), (25, [2, 6]), (28, [1, 6]), (31, [6]), (64, [1, 3, 5]), (67, [3, 5]), (73, [2, 5]), (76, [1, 5]), (79, [5]), (97, [2, 4]), (100, [1, 4]), (103, [4]), (112, [1, 3]), (115, [3]), (121, [2]), (124, [1]), (127, [])]
def chT (n : Nat) : List (Nat × List Nat) := if n = 4 then chT4 else if n = 5 then chT5 else if n = 6 then chT6 else chT7
/-- a change of n bells -/
def IsC (n c : Nat) : Prop := ∃ ps, (c, ps) ∈ chT n
/-- where its pairs begin -/
def psw (n c : Nat) : List Nat := ((chT n).lookup c).getD []
def chg (n c : Nat) (l : List Nat) : List Nat := sws (psw n c) l
theorem chg_isR {n c : Nat} {l : List Nat} (h : IsR n l) : IsR n (chg n c l) := sws_isR h
def NB (n : Nat) : Prop := n = 4 ∨ n = 5 ∨ n = 6 ∨ n = 7
