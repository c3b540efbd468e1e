/-! the picture of the class: the heap h holds the state S (the reference's words), at the addresses P, with the chains T.
P 0 f field, P 1 l lot, P 2 b bag, P 3 f its row of lots by year, P 4 f its row of tellings by year; P 5 0 the object, 1 book, 2 assessor, 3 kin, 4 planner, 5 line, 6 fields, 7 lots, 8 bags, 9 last statutes, 10 wanted, 11 mayTake, 12 tooNear, 13 going, 14 best.
T 0 f y tellings, T 1 kind 0 statutes, T 2 l 0 looks: cells, newest first -/
def adr (P : Nat → Nat → Nat) (j : Nat) (v : Int32) : Option Nat := if v = -1 then none else some (P j v.toNatClampNeg)
def zT (h : jH) (S : Nat → Nat → Int32) : List Nat → List Nat → Prop
  | [], [] => True
  | a :: as, k :: ks => h_I h 577 a = S 16 k ∧ h_I h 578 a = S 15 k ∧ zT h S as ks
  | [], _ :: _ => False
  | _ :: _, [] => False
def zS (h : jH) (S : Nat → Nat → Int32) : List Nat → List Nat → Prop
  | [], [] => True
  | a :: as, k :: ks => h_I h 513 a = S 20 k ∧ h_I h 514 a = S 18 k ∧ h_I h 515 a = S 19 k ∧ zS h S as ks
  | [], _ :: _ => False
  | _ :: _, [] => False
def sumR (S : Nat → Nat → Int32) (r : Nat) : List Nat → Int32
  | [] => 0
  | k :: ks => sumR S r ks + S r k
def zK (h : jH) (S : Nat → Nat → Int32) : List Nat → List Nat → Prop
  | [], [] => True
  | a :: as, k :: ks => h_I h 321 a = S 37 k ∧ h_I h 322 a = nI (ks.length + 1) ∧ h_I h 323 a = sumR S 35 (k :: ks) ∧ h_I h 324 a = sumR S 36 (k :: ks) ∧ zK h S as ks
  | [], _ :: _ => False
  | _ :: _, [] => False
def lkB (S : Nat → Nat → Int32) (lt : Int32) (k : Nat) : Bool := decide (S 34 k = lt)
def pFix (h : jH) (P : Nat → Nat → Nat) : Prop :=
  (h_ok h (P 5 0) 10 ∧ h_R h 640 (P 5 0) = some (P 5 1) ∧ h_R h 641 (P 5 0) = some (P 5 2) ∧ h_R h 642 (P 5 0) = some (P 5 3) ∧ h_R h 643 (P 5 0) = some (P 5 4) ∧ h_R h 644 (P 5 0) = some (P 5 5)) ∧
  (h_ok h (P 5 2) 0 ∧ h_R h 0 (P 5 2) = some (P 5 1)) ∧ (h_ok h (P 5 3) 4 ∧ h_R h 256 (P 5 3) = some (P 5 1)) ∧
  (h_ok h (P 5 4) 7 ∧ h_R h 448 (P 5 4) = some (P 5 1) ∧ h_R h 449 (P 5 4) = some (P 5 10) ∧ h_R h 450 (P 5 4) = some (P 5 11) ∧ h_R h 451 (P 5 4) = some (P 5 12) ∧ h_R h 452 (P 5 4) = some (P 5 13) ∧ h_R h 453 (P 5 4) = some (P 5 14)) ∧
  (h_ok h (P 5 5) 12 ∧ h_N h (P 5 5) = 500) ∧ (h_ok h (P 5 10) 15 ∧ h_N h (P 5 10) = 5) ∧ (h_ok h (P 5 11) 12 ∧ h_N h (P 5 11) = 5) ∧ (h_ok h (P 5 12) 12 ∧ h_N h (P 5 12) = 6) ∧ (h_ok h (P 5 13) 12 ∧ h_N h (P 5 13) = 5) ∧ (h_ok h (P 5 14) 12 ∧ h_N h (P 5 14) = 5)
def pBook (h : jH) (S : Nat → Nat → Int32) (P : Nat → Nat → Nat) : Prop :=
  h_ok h (P 5 1) 2 ∧ (h_I h 128 (P 5 1) = S 0 0 ∧ h_I h 130 (P 5 1) = S 1 0 ∧ h_I h 132 (P 5 1) = S 2 0 ∧ h_I h 134 (P 5 1) = S 3 0 ∧ h_I h 135 (P 5 1) = S 4 0 ∧ h_I h 137 (P 5 1) = S 6 0 ∧ h_I h 138 (P 5 1) = S 5 0 ∧ h_I h 139 (P 5 1) = S 7 0) ∧
  (h_R h 129 (P 5 1) = some (P 5 6) ∧ h_ok h (P 5 6) 14 ∧ h_N h (P 5 6) = 40) ∧ (h_R h 131 (P 5 1) = some (P 5 7) ∧ h_ok h (P 5 7) 15 ∧ h_N h (P 5 7) = 200) ∧ (h_R h 133 (P 5 1) = some (P 5 8) ∧ h_ok h (P 5 8) 13 ∧ h_N h (P 5 8) = 200) ∧ (h_R h 136 (P 5 1) = some (P 5 9) ∧ h_ok h (P 5 9) 16 ∧ h_N h (P 5 9) = 5)
def pFld (h : jH) (S : Nat → Nat → Int32) (P : Nat → Nat → Nat) (T : Nat → Nat → Nat → List Nat) (nf nl ns : Nat) : Prop := ∀ f, f < nf →
  (h_B h (P 5 6) f = some (P 0 f) ∧ h_ok h (P 0 f) 3) ∧ (h_I h 192 (P 0 f) = nI f ∧ h_I h 193 (P 0 f) = S 9 f ∧ h_I h 194 (P 0 f) = S 11 f ∧ h_I h 195 (P 0 f) = S 10 f ∧ h_I h 196 (P 0 f) = S 12 f) ∧
  (h_R h 197 (P 0 f) = some (P 3 f) ∧ h_ok h (P 3 f) 15 ∧ h_N h (P 3 f) = 41) ∧ (h_R h 198 (P 0 f) = some (P 4 f) ∧ h_ok h (P 4 f) 17 ∧ h_N h (P 4 f) = 41) ∧
  ∀ y, y < 41 → h_B h (P 3 f) y = adr P 1 (lotInS S (nI f) (nI y) nl) ∧ chn h 9 576 (h_B h (P 4 f) y) (T 0 f y) ∧ zT h S (T 0 f y) (dsc (tlB S (nI f) (nI y)) ns)
def pLot (h : jH) (S : Nat → Nat → Int32) (P : Nat → Nat → Nat) (T : Nat → Nat → Nat → List Nat) (nl nk : Nat) : Prop := ∀ a, a < nl →
  (h_B h (P 5 7) a = some (P 1 a) ∧ h_ok h (P 1 a) 6) ∧ (h_I h 384 (P 1 a) = nI a ∧ h_I h 385 (P 1 a) = S 21 a ∧ h_I h 386 (P 1 a) = S 22 a ∧ h_I h 387 (P 1 a) = S 24 a) ∧
  (h_R h 388 (P 1 a) = adr P 0 (S 25 a) ∧ h_R h 389 (P 1 a) = adr P 1 (S 26 a) ∧ h_R h 390 (P 1 a) = adr P 1 (S 27 a)) ∧
  (h_I h 391 (P 1 a) = S 23 a ∧ h_I h 392 (P 1 a) = S 28 a ∧ h_I h 393 (P 1 a) = S 29 a ∧ h_I h 394 (P 1 a) = S 30 a ∧ h_I h 395 (P 1 a) = S 31 a ∧ h_I h 396 (P 1 a) = S 32 a ∧ h_I h 398 (P 1 a) = S 33 a) ∧
  chn h 5 320 (h_R h 397 (P 1 a)) (T 2 a 0) ∧ zK h S (T 2 a 0) (dsc (lkB S (nI a)) nk)
def pBag (h : jH) (S : Nat → Nat → Int32) (P : Nat → Nat → Nat) (nb : Nat) : Prop := ∀ b, b < nb →
  (h_B h (P 5 8) b = some (P 2 b) ∧ h_ok h (P 2 b) 1) ∧ h_R h 64 (P 2 b) = some (P 1 (S 38 b).toNatClampNeg) ∧ h_I h 65 (P 2 b) = S 39 b ∧ h_I h 66 (P 2 b) = S 40 b ∧ h_I h 67 (P 2 b) = S 41 b
def pSta (h : jH) (S : Nat → Nat → Int32) (P : Nat → Nat → Nat) (T : Nat → Nat → Nat → List Nat) (nt : Nat) : Prop := ∀ kd, kd < 5 →
  chn h 8 512 (h_B h (P 5 9) kd) (T 1 kd 0) ∧ zS h S (T 1 kd 0) (dsc (knB S (nI kd)) nt)
def pPln (h : jH) (S : Nat → Nat → Int32) (P : Nat → Nat → Nat) (nw : Nat) : Prop := h_I h 455 (P 5 4) = S 8 0 ∧ ∀ k, k < nw → h_B h (P 5 10) k = some (P 1 (S 42 k).toNatClampNeg)
/-- the addresses of a kind are apart -/
def pDis (P : Nat → Nat → Nat) (nf nl nb : Nat) : Prop :=
  (∀ i j, i < nf → j < nf → P 0 i = P 0 j → i = j) ∧ (∀ i j, i < nl → j < nl → P 1 i = P 1 j → i = j) ∧ (∀ i j, i < nb → j < nb → P 2 i = P 2 j → i = j) ∧ (∀ i j, i < nf → j < nf → P 3 i = P 3 j → i = j) ∧ (∀ i j, i < nf → j < nf → P 4 i = P 4 j → i = j) ∧
  (∀ i, i < nf → P 3 i ≠ P 5 7 ∧ P 3 i ≠ P 5 10) ∧ P 5 7 ≠ P 5 10 ∧ (P 5 5 ≠ P 5 11 ∧ P 5 5 ≠ P 5 12 ∧ P 5 5 ≠ P 5 13 ∧ P 5 5 ≠ P 5 14 ∧ P 5 11 ≠ P 5 12 ∧ P 5 11 ≠ P 5 13 ∧ P 5 11 ≠ P 5 14 ∧ P 5 12 ≠ P 5 13 ∧ P 5 12 ≠ P 5 14 ∧ P 5 13 ≠ P 5 14)
def CP (h : jH) (S : Nat → Nat → Int32) (P : Nat → Nat → Nat) (T : Nat → Nat → Nat → List Nat) (nf nl nb ns nt nk nw : Nat) : Prop :=
  pFix h P ∧ pBook h S P ∧ pFld h S P T nf nl ns ∧ pLot h S P T nl nk ∧ pBag h S P nb ∧ pSta h S P T nt ∧ pPln h S P nw ∧ pDis P nf nl nb
/-- the class's own scratch: rank, reason, lines, above, akin; bestGone -/
def scr (f : Nat) : Bool := decide ((399 ≤ f ∧ f ≤ 403) ∨ f = 454)
def sameH (h h' : jH) : Prop := h_L h' = h_L h ∧ (∀ a, h_K h' a = h_K h a) ∧ (∀ a, h_N h' a = h_N h a) ∧ (∀ f a, scr f = false → h_I h' f a = h_I h f a) ∧ (∀ f a, h_R h' f a = h_R h f a) ∧ (∀ a i, h_B h' a i = h_B h a i)
theorem sameH.rf {h : jH} : sameH h h := ⟨rfl, fun _ => rfl, fun _ => rfl, fun _ _ _ => rfl, fun _ _ => rfl, fun _ _ => rfl⟩
theorem sameH.tr {h1 h2 h3 : jH} (a : sameH h1 h2) (b : sameH h2 h3) : sameH h1 h3 := by
  obtain ⟨a1, a2, a3, a4, a5, a6⟩ := a
  obtain ⟨b1, b2, b3, b4, b5, b6⟩ := b
  exact ⟨b1.trans a1, fun x => (b2 x).trans (a2 x), fun x => (b3 x).trans (a3 x), fun f x hx => (b4 f x hx).trans (a4 f x hx), fun f x => (b5 f x).trans (a5 f x), fun x i => (b6 x i).trans (a6 x i)⟩
theorem sameH.ok {h h' : jH} (s : sameH h h') {a k : Nat} : h_ok h' a k ↔ h_ok h a k := by
  unfold h_ok
  rw [s.1, s.2.1]
theorem sameH.chnI {h h' : jH} (s : sameH h h') (k f : Nat) : ∀ (as : List Nat) (r : Option Nat), chn h' k f r as ↔ chn h k f r as
  | [], _ => Iff.rfl
  | a :: as, r => by
    show (r = some a ∧ h_ok h' a k ∧ chn h' k f (h_R h' f a) as) ↔ (r = some a ∧ h_ok h a k ∧ chn h k f (h_R h f a) as)
    rw [s.ok, s.2.2.2.2.1, sameH.chnI s k f as]
theorem sameH.zTI {h h' : jH} (s : sameH h h') (S : Nat → Nat → Int32) : ∀ (as ks : List Nat), zT h' S as ks ↔ zT h S as ks
  | [], [] => Iff.rfl
  | a :: as, k :: ks => by
    show (h_I h' 577 a = S 16 k ∧ h_I h' 578 a = S 15 k ∧ zT h' S as ks) ↔ (h_I h 577 a = S 16 k ∧ h_I h 578 a = S 15 k ∧ zT h S as ks)
    rw [s.2.2.2.1 577 a rfl, s.2.2.2.1 578 a rfl, sameH.zTI s S as ks]
  | [], _ :: _ => Iff.rfl
  | _ :: _, [] => Iff.rfl
theorem sameH.zSI {h h' : jH} (s : sameH h h') (S : Nat → Nat → Int32) : ∀ (as ks : List Nat), zS h' S as ks ↔ zS h S as ks
  | [], [] => Iff.rfl
  | a :: as, k :: ks => by
    show (h_I h' 513 a = S 20 k ∧ h_I h' 514 a = S 18 k ∧ h_I h' 515 a = S 19 k ∧ zS h' S as ks) ↔ (h_I h 513 a = S 20 k ∧ h_I h 514 a = S 18 k ∧ h_I h 515 a = S 19 k ∧ zS h S as ks)
    rw [s.2.2.2.1 513 a rfl, s.2.2.2.1 514 a rfl, s.2.2.2.1 515 a rfl, sameH.zSI s S as ks]
  | [], _ :: _ => Iff.rfl
  | _ :: _, [] => Iff.rfl
theorem sameH.zKI {h h' : jH} (s : sameH h h') (S : Nat → Nat → Int32) : ∀ (as ks : List Nat), zK h' S as ks ↔ zK h S as ks
  | [], [] => Iff.rfl
  | a :: as, k :: ks => by
    show (h_I h' 321 a = S 37 k ∧ h_I h' 322 a = nI (ks.length + 1) ∧ h_I h' 323 a = sumR S 35 (k :: ks) ∧ h_I h' 324 a = sumR S 36 (k :: ks) ∧ zK h' S as ks) ↔ (h_I h 321 a = S 37 k ∧ h_I h 322 a = nI (ks.length + 1) ∧ h_I h 323 a = sumR S 35 (k :: ks) ∧ h_I h 324 a = sumR S 36 (k :: ks) ∧ zK h S as ks)
    rw [s.2.2.2.1 321 a rfl, s.2.2.2.1 322 a rfl, s.2.2.2.1 323 a rfl, s.2.2.2.1 324 a rfl, sameH.zKI s S as ks]
  | [], _ :: _ => Iff.rfl
  | _ :: _, [] => Iff.rfl
/-- the picture doesn't speak of the scratch -/
theorem CP.same {h h' : jH} {S : Nat → Nat → Int32} {P : Nat → Nat → Nat} {T : Nat → Nat → Nat → List Nat} {nf nl nb ns nt nk nw : Nat} (s : sameH h h') (c : CP h S P T nf nl nb ns nt nk nw) : CP h' S P T nf nl nb ns nt nk nw := by
  have i0 : ∀ f a, scr f = false → h_I h' f a = h_I h f a := s.2.2.2.1
  obtain ⟨c1, c2, c3, c4, c5, c6, c7, c8⟩ := c
  refine ⟨?_, ?_, ?_, ?_, ?_, ?_, ?_, c8⟩
  · unfold pFix at c1 ⊢
    simp only [s.ok, s.2.2.2.2.1, s.2.2.1]
    exact c1
  · unfold pBook at c2 ⊢
    simp only [s.ok, s.2.2.2.2.1, s.2.2.1, i0 128 _ rfl, i0 130 _ rfl, i0 132 _ rfl, i0 134 _ rfl, i0 135 _ rfl, i0 137 _ rfl, i0 138 _ rfl, i0 139 _ rfl]
    exact c2
  · intro f hf
    have c := c3 f hf
    simp only [s.ok, s.2.2.2.2.1, s.2.2.2.2.2, s.2.2.1, s.chnI, s.zTI, i0 192 _ rfl, i0 193 _ rfl, i0 194 _ rfl, i0 195 _ rfl, i0 196 _ rfl]
    exact c
  · intro a ha
    have c := c4 a ha
    simp only [s.ok, s.2.2.2.2.1, s.2.2.2.2.2, s.chnI, s.zKI, i0 384 _ rfl, i0 385 _ rfl, i0 386 _ rfl, i0 387 _ rfl, i0 391 _ rfl, i0 392 _ rfl, i0 393 _ rfl, i0 394 _ rfl, i0 395 _ rfl, i0 396 _ rfl, i0 398 _ rfl]
    exact c
  · intro b hb
    have c := c5 b hb
    simp only [s.ok, s.2.2.2.2.1, s.2.2.2.2.2, i0 65 _ rfl, i0 66 _ rfl, i0 67 _ rfl]
    exact c
  · intro kd hk
    have c := c6 kd hk
    simp only [s.2.2.2.2.2, s.chnI, s.zSI]
    exact c
  · unfold pPln at c7 ⊢
    simp only [s.2.2.2.2.2, i0 455 _ rfl]
    exact c7
