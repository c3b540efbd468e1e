/-! pure rows: what the class keeps in chains, newest first, against the reference's loops, oldest first -/
theorem flp_last {α : Type} (g : Nat → α → α) : ∀ (k i : Nat) (a : α), flp g i (k + 1) a = g (i + k) (flp g i k a)
  | 0, _, _ => rfl
  | k + 1, i, a => by
    have h := flp_last g k (i + 1) (g i a)
    rw [show i + 1 + k = i + (k + 1) by omega] at h
    exact h
/-- the indices below n with p, the highest first -/
def dsc (p : Nat → Bool) : Nat → List Nat
  | 0 => []
  | n + 1 => if p n = true then n :: dsc p n else dsc p n
theorem dsc_s (p : Nat → Bool) (n : Nat) : dsc p (n + 1) = if p n = true then n :: dsc p n else dsc p n := rfl
def tlS (S : Nat → Nat → Int32) (q : Int32) : List Nat → Int32
  | [] => 0
  | k :: ks => if ¬ q < S 16 k then S 15 k else tlS S q ks
def tlB (S : Nat → Nat → Int32) (f y : Int32) (k : Nat) : Bool := decide (S 13 k = f ∧ S 14 k = y)
theorem tl_eq (S : Nat → Nat → Int32) (f y q : Int32) : ∀ n : Nat, tlS S q (dsc (tlB S f y) n) = flp (gStand S f y q) 0 n 0
  | 0 => rfl
  | n + 1 => by
    rw [flp_last, Nat.zero_add, ← tl_eq S f y q n]
    rw [dsc_s]
    unfold gStand
    by_cases h : S 13 n = f ∧ S 14 n = y
    · rw [if_pos (show tlB S f y n = true from decide_eq_true h)]
      show (if ¬ q < S 16 n then S 15 n else tlS S q (dsc (tlB S f y) n)) = _
      by_cases h2 : q < S 16 n
      · rw [if_neg (fun z => z h2), if_neg (fun z => z.2.2 h2)]
      · rw [if_pos h2, if_pos ⟨h.1, h.2, h2⟩]
    · rw [if_neg (show ¬ tlB S f y n = true from fun z => h (of_decide_eq_true z)), if_neg (fun z => h ⟨z.1, z.2.1⟩)]
/-- a statute that counts -/
def cntB (S : Nat → Nat → Int32) (y q : Int32) (k : Nat) : Bool := decide (¬ q < S 20 k ∧ ¬ y < S 18 k)
def knB (S : Nat → Nat → Int32) (kind : Int32) (k : Nat) : Bool := decide (S 17 k = kind)
/-- the best of two: the older one only if it lies higher -/
def cmbS (S : Nat → Nat → Int32) (b c : Option Nat) : Option Nat := match b, c with
  | none, c => c
  | some j, none => some j
  | some j, some k => if (S 18 j).toInt < (S 18 k).toInt then some k else some j
/-- the class's search, newest first -/
def ifS (S : Nat → Nat → Int32) (y q : Int32) : List Nat → Option Nat → Option Nat
  | [], b => b
  | k :: ks, b => ifS S y q ks (if cntB S y q k = true then cmbS S b (some k) else b)
/-- the best below n, of equals the newest -/
def bstS (S : Nat → Nat → Int32) (kind y q : Int32) : Nat → Option Nat
  | 0 => none
  | n + 1 => if knB S kind n = true ∧ cntB S y q n = true then cmbS S (some n) (bstS S kind y q n) else bstS S kind y q n
theorem bst_s (S : Nat → Nat → Int32) (kind y q : Int32) (n : Nat) : bstS S kind y q (n + 1) = if knB S kind n = true ∧ cntB S y q n = true then cmbS S (some n) (bstS S kind y q n) else bstS S kind y q n := rfl
theorem cmb_assoc (S : Nat → Nat → Int32) (a b c : Option Nat) : cmbS S (cmbS S a b) c = cmbS S a (cmbS S b c) := by
  cases a with
  | none => rfl
  | some i =>
    cases b with
    | none => cases c <;> rfl
    | some j =>
      cases c with
      | none =>
        by_cases h1 : (S 18 i).toInt < (S 18 j).toInt
        · simp [cmbS, h1]
        · simp [cmbS, h1]
      | some k =>
        by_cases h1 : (S 18 i).toInt < (S 18 j).toInt
        · by_cases h2 : (S 18 j).toInt < (S 18 k).toInt
          · have h3 : (S 18 i).toInt < (S 18 k).toInt := by omega
            simp [cmbS, h1, h2, h3]
          · simp [cmbS, h1, h2]
        · by_cases h2 : (S 18 j).toInt < (S 18 k).toInt
          · by_cases h3 : (S 18 i).toInt < (S 18 k).toInt
            · simp [cmbS, h1, h2, h3]
            · simp [cmbS, h1, h2, h3]
          · have h3 : ¬ (S 18 i).toInt < (S 18 k).toInt := by omega
            simp [cmbS, h1, h2, h3]
theorem ifS_eq (S : Nat → Nat → Int32) (kind y q : Int32) : ∀ (n : Nat) (b : Option Nat), ifS S y q (dsc (knB S kind) n) b = cmbS S b (bstS S kind y q n)
  | 0, b => by cases b <;> rfl
  | n + 1, b => by
    rw [dsc_s, bst_s]
    by_cases h : knB S kind n = true
    · rw [if_pos h]
      show ifS S y q (dsc (knB S kind) n) (if cntB S y q n = true then cmbS S b (some n) else b) = _
      rw [ifS_eq S kind y q n]
      by_cases h2 : cntB S y q n = true
      · rw [if_pos h2, if_pos (And.intro h h2), cmb_assoc]
      · rw [if_neg h2, if_neg (fun z : knB S kind n = true ∧ cntB S y q n = true => h2 z.2)]
    · rw [if_neg h, if_neg (fun z => h z.1), ifS_eq S kind y q n]
def prS (S : Nat → Nat → Int32) (d : Int32) (b : Option Nat) : Int32 × Int32 := match b with
  | none => (d, -1)
  | some k => (S 19 k, S 18 k)
theorem force_eq (S : Nat → Nat → Int32) (kind y q d : Int32) : ∀ n : Nat, (∀ k, k < n → 0 ≤ (S 18 k).toInt) → flp (gForce S kind y q) 0 n (d, -1) = prS S d (bstS S kind y q n)
  | 0, _ => rfl
  | n + 1, hp => by
    rw [flp_last, Nat.zero_add, force_eq S kind y q d n (fun k hk => hp k (by omega))]
    have hn := hp n (by omega)
    have h1 : (-1 : Int32).toInt = -1 := by decide
    rw [bst_s]
    unfold gForce
    by_cases h : S 17 n = kind
    · by_cases h2 : ¬ q < S 20 n ∧ ¬ y < S 18 n
      · have e1 : knB S kind n = true ∧ cntB S y q n = true := ⟨decide_eq_true h, decide_eq_true h2⟩
        rw [if_pos e1]
        cases hb : bstS S kind y q n with
        | none =>
          rw [if_pos ⟨h, h2.1, h2.2, by show ¬ S 18 n < -1; rw [Int32.lt_iff_toInt_lt]; omega⟩]
          rfl
        | some k =>
          show (if S 17 n = kind ∧ ¬ q < S 20 n ∧ ¬ y < S 18 n ∧ ¬ S 18 n < S 18 k then (S 19 n, S 18 n) else (S 19 k, S 18 k)) = prS S d (if (S 18 n).toInt < (S 18 k).toInt then some k else some n)
          by_cases h3 : (S 18 n).toInt < (S 18 k).toInt
          · rw [if_neg (fun z => z.2.2.2 (Int32.lt_iff_toInt_lt.mpr h3)), if_pos h3]; rfl
          · rw [if_pos ⟨h, h2.1, h2.2, fun z => h3 (Int32.lt_iff_toInt_lt.mp z)⟩, if_neg h3]; rfl
      · rw [if_neg (fun z => h2 ⟨z.2.1, z.2.2.1⟩), if_neg (fun z => h2 (of_decide_eq_true z.2))]
    · rw [if_neg (fun z => h z.1), if_neg (fun z => h (of_decide_eq_true z.1))]
/-- what is in force: the class's search finds the reference's number -/
theorem inForce_eq (S : Nat → Nat → Int32) (kind y q : Int32) {nt : Nat} (hp : ∀ k, k < nt → 0 ≤ (S 18 k).toInt) : inForceS S kind y q nt = (prS S (dflt kind) (ifS S y q (dsc (knB S kind) nt) none)).1 := by
  rw [ifS_eq, inForceS, force_eq S kind y q (dflt kind) nt hp]
  rfl
