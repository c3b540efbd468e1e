/-! the class judges all lots up to one, the reference all that are known in q: the same answers -/
def badZ (S : Nat → Nat → Int32) (z : Nat → Int32) (lt : Nat) (q : Int32) (nl ns nt : Nat) (f : Nat) : Bool := decide (¬ nI f = S 25 lt ∧ standS S (nI f) (S 24 lt) q nl ns = S 22 lt ∧ ¬ inForceS S 0 (S 24 lt) q nt * inForceS S 0 (S 24 lt) q nt ≤ nearS S (nI f).toNatClampNeg (S 25 lt).toNatClampNeg ∧ (lotInS S (nI f) (S 24 lt) nl = -1 ∨ ¬ z (S 26 (lotInS S (nI f) (S 24 lt) nl).toNatClampNeg).toNatClampNeg ≤ z (S 26 lt).toNatClampNeg))
def wrgZ (S : Nat → Nat → Int32) (z : Nat → Int32) (lt : Nat) (q : Int32) (nf nl ns nt nk : Nat) : Int32 :=
  if ¬ ffst (badZ S z lt q nl ns nt) 0 nf = -1 then 1
  else if prv (preB S lt q nl ns) (inForceS S 1 (S 24 lt) q nt) 1 (S 24 lt).toNatClampNeg = true then 2
  else if ¬ inForceS S 2 (S 24 lt) q nt ≤ looksS S (nI lt) q nk then 3
  else if ¬ lg_cmp (1000 * (sumS S lt q nk).2) ((inForceS S 3 (S 24 lt) q nt).toInt64 * (sumS S lt q nk).1) ≤ 0 then 4
  else if z (S 26 lt).toNatClampNeg + 1 ≤ inForceS S 4 (S 24 lt) q nt then 0 else 6
theorem wrong_W (S : Nat → Nat → Int32) (z w : Nat → Int32) (lt : Nat) (q : Int32) (nf nl ns nt nk : Nat) : wrongS (W45 S z w) lt q nf nl ns nt nk = wrgZ S z lt q nf nl ns nt nk := rfl
theorem whyZ_e (S : Nat → Nat → Int32) (z w : Nat → Int32) (lt : Nat) (q : Int32) (nf nl ns nt nk : Nat) : whyZ S z w lt q nf nl ns nt nk = if ¬ why0 S lt q = 0 then 5 else if worstZ S z lt = 9 then 7 else if S 21 lt = 1 then wrgZ S z lt q nf nl ns nt nk else 0 := by
  unfold whyZ
  rw [wrong_W]
theorem badZ_cg {S : Nat → Nat → Int32} {z z' : Nat → Int32} {lt nl ns nt f : Nat} {q : Int32} (h1 : z' (S 26 lt).toNatClampNeg = z (S 26 lt).toNatClampNeg) (h2 : ¬ lotInS S (nI f) (S 24 lt) nl = -1 → z' (S 26 (lotInS S (nI f) (S 24 lt) nl).toNatClampNeg).toNatClampNeg = z (S 26 (lotInS S (nI f) (S 24 lt) nl).toNatClampNeg).toNatClampNeg) : badZ S z' lt q nl ns nt f = badZ S z lt q nl ns nt f := by
  unfold badZ
  by_cases e : lotInS S (nI f) (S 24 lt) nl = -1
  · simp only [e, true_or]
  · rw [h1, h2 e]
/-- mothers of lots of that year are tubes or older -/
theorem SI.moth {S : Nat → Nat → Int32} {nf nl nb ns nt nk nw yy : Nat} (I : SI S nf nl nb ns nt nk nw yy) {lt o : Nat} (hlt : lt < nl) (ho : o < nl) (h1 : S 21 o = 1) (hy : S 24 o = S 24 lt) : ∃ j, j < nl ∧ S 26 o = nI j ∧ S 27 o = -1 ∧ (S 21 j = 0 ∨ (j < lt ∧ (S 24 j).toInt ≤ (S 24 lt).toInt)) := by
  rcases (I.lo o ho).1 with h | h | h
  · rw [h.1] at h1; exact absurd h1 (by decide)
  · obtain ⟨j, j1, j2, j3⟩ := h.2.2.1
    refine ⟨j, by omega, j2, h.2.2.2, j3.imp id (fun q => ?_)⟩
    rw [hy] at q
    refine ⟨?_, by omega⟩
    rcases Nat.lt_or_ge j lt with c | c
    · exact c
    · have := I.mo lt j c (by omega)
      omega
  · rw [h.1] at h1; exact absurd h1 (by decide)
theorem lotIn_at {S : Nat → Nat → Int32} {f y : Int32} {nl : Nat} (hnl : nl ≤ 200) (e : ¬ lotInS S f y nl = -1) : ∃ o, o < nl ∧ lotInS S f y nl = nI o ∧ (lotInS S f y nl).toNatClampNeg = o ∧ S 21 o = 1 ∧ S 25 o = f ∧ S 24 o = y := by
  obtain ⟨j, hj, hb, ej⟩ := lotInS_ix e
  have h2 : S 21 j = 1 ∧ S 25 j = f ∧ S 24 j = y := by simpa [lotInB] using hb
  exact ⟨j, hj, ej, by rw [ej, nI_clamp (by omega)], h2⟩
theorem whyZ_cg {S : Nat → Nat → Int32} {nf nl nb ns nt nk nw yy : Nat} (I : SI S nf nl nb ns nt nk nw yy) {z z' w w' : Nat → Int32} {lt : Nat} {q : Int32} (hlt : lt < nl) (h0 : ¬ S 21 lt = 0) (g : ∀ a, a < nl → (S 21 a = 0 ∨ (a < lt ∧ (S 24 a).toInt ≤ (S 24 lt).toInt)) → z' a = z a) : whyZ S z' w' lt q nf nl ns nt nk = whyZ S z w lt q nf nl ns nt nk ∧ worstZ S z' lt = worstZ S z lt := by
  have hnl := I.lt.2
  have gm : ∀ j, j < lt → z' j = z j := fun j hj => g j (by omega) (Or.inr ⟨hj, I.mo j lt (by omega) hlt⟩)
  have hw : worstZ S z' lt = worstZ S z lt := by
    unfold worstZ
    rcases (I.lo lt hlt).1 with h | h | h
    · exact absurd h.1 h0
    · obtain ⟨j, j1, j2, -⟩ := h.2.2.1
      rw [if_neg (by rw [h.1]; decide), if_neg (by rw [h.1]; decide), j2, nI_clamp (by omega), gm j j1]
    · obtain ⟨j, j1, j2⟩ := h.2.2.1
      obtain ⟨k, k1, k2⟩ := h.2.2.2
      rw [if_pos h.1, if_pos h.1, j2, k2, nI_clamp (by omega), nI_clamp (by omega), gm j j1, gm k k1]
  refine ⟨?_, hw⟩
  rw [whyZ_e, whyZ_e, hw]
  by_cases h1 : S 21 lt = 1
  · have hm : z' (S 26 lt).toNatClampNeg = z (S 26 lt).toNatClampNeg := by
      obtain ⟨j, j1, j2, -, j3⟩ := I.moth hlt hlt h1 rfl
      rw [j2, nI_clamp (by omega), g j j1 j3]
    have hb : ffst (badZ S z' lt q nl ns nt) 0 nf = ffst (badZ S z lt q nl ns nt) 0 nf := ffst_lt (fun f _ _ => badZ_cg hm (fun e => by
      obtain ⟨o, o1, o2, o3, o4, o5, o6⟩ := lotIn_at hnl e
      obtain ⟨j, j1, j2, -, j3⟩ := I.moth hlt o1 o4 o6
      rw [o3, j2, nI_clamp (by omega), g j j1 j3]))
    rw [if_pos h1, if_pos h1]
    unfold wrgZ
    rw [hb, hm]
  · rw [if_neg h1, if_neg h1]
theorem rankZ_cg {S : Nat → Nat → Int32} {nf nl nb ns nt nk nw yy : Nat} (I : SI S nf nl nb ns nt nk nw yy) {z z' w w' : Nat → Int32} {lt : Nat} {q : Int32} (hlt : lt < nl) (h0 : ¬ S 21 lt = 0) (g : ∀ a, a < nl → (S 21 a = 0 ∨ (a < lt ∧ (S 24 a).toInt ≤ (S 24 lt).toInt)) → z' a = z a) : rankZ S z' w' lt q nf nl ns nt nk = rankZ S z w lt q nf nl ns nt nk := by
  have h := whyZ_cg I (w := w) (w' := w') (q := q) hlt h0 g
  unfold rankZ
  rw [h.1, h.2]
/-- the class's second pass -/
def c2 (S : Nat → Nat → Int32) (q : Int32) (nf nl ns nt nk : Nat) (k : Nat) (p : (Nat → Int32) × (Nat → Int32)) : (Nat → Int32) × (Nat → Int32) := if ¬ S 21 k = 0 then (upd p.1 k (rankZ S p.1 p.2 k q nf nl ns nt nk), upd p.2 k (whyZ S p.1 p.2 k q nf nl ns nt nk)) else p
theorem cl1_at {S : Nat → Nat → Int32} {q : Int32} (p : (Nat → Int32) × (Nat → Int32)) : ∀ (n b : Nat), b < n → S 21 b = 0 → (flp (cl1 S q) 0 n p).1 b = (if why0 S b q = 0 then 0 else 9) ∧ (flp (cl1 S q) 0 n p).2 b = why0 S b q := by
  intro n
  induction n with
  | zero => intro b hb; exact absurd hb (Nat.not_lt_zero _)
  | succ n ih =>
    intro b hb h0
    rw [flp_last, Nat.zero_add]
    unfold cl1
    by_cases e : b = n
    · subst e
      rw [if_pos h0]
      exact ⟨pk_us, pk_us⟩
    · have := ih b (by omega) h0
      split
      · exact ⟨(pk_un e).trans this.1, (pk_un e).trans this.2⟩
      · exact this
theorem cls_rel {S : Nat → Nat → Int32} {nf nl nb ns nt nk nw yy : Nat} (I : SI S nf nl nb ns nt nk nw yy) (q : Int32) (p0 p1 : (Nat → Int32) × (Nat → Int32)) : ∀ n, n ≤ nl → ∀ b, b < nl → (S 21 b = 0 ∨ (b < n ∧ (S 24 b).toInt ≤ q.toInt)) → (flp (c2 S q nf nl ns nt nk) 0 n (flp (cl1 S q) 0 nl p0)).1 b = (flp (cl2 S q nf nl ns nt nk) 0 n (flp (cl1 S q) 0 nl p1)).1 b ∧ (flp (c2 S q nf nl ns nt nk) 0 n (flp (cl1 S q) 0 nl p0)).2 b = (flp (cl2 S q nf nl ns nt nk) 0 n (flp (cl1 S q) 0 nl p1)).2 b := by
  intro n
  induction n with
  | zero =>
    intro _ b hb h
    have h0 : S 21 b = 0 := h.elim id (fun z => absurd z.1 (Nat.not_lt_zero _))
    have a1 := cl1_at (q := q) p0 nl b hb h0
    have a2 := cl1_at (q := q) p1 nl b hb h0
    exact ⟨a1.1.trans a2.1.symm, a1.2.trans a2.2.symm⟩
  | succ n ih =>
    intro hn b hb h
    rw [flp_last, flp_last, Nat.zero_add]
    have ih := ih (by omega)
    generalize flp (c2 S q nf nl ns nt nk) 0 n (flp (cl1 S q) 0 nl p0) = x at ih ⊢
    generalize flp (cl2 S q nf nl ns nt nk) 0 n (flp (cl1 S q) 0 nl p1) = y at ih ⊢
    unfold c2 cl2
    by_cases h0 : S 21 n = 0
    · rw [if_neg (fun z => z h0), if_neg (fun z => z.1 h0)]
      by_cases e : b = n
      · subst e
        exact ih b hb (Or.inl h0)
      · exact ih b hb (h.imp id (fun z => ⟨by omega, z.2⟩))
    · rw [if_pos h0]
      by_cases hq : q < S 24 n
      · rw [if_neg (fun z => z.2 hq)]
        have e : b ≠ n := fun e => by
          subst e
          rcases h with h | h
          · exact h0 h
          · rw [Int32.lt_iff_toInt_lt] at hq; omega
        have r := ih b hb (h.imp id (fun z => ⟨by omega, z.2⟩))
        exact ⟨(pk_un e).trans r.1, (pk_un e).trans r.2⟩
      · rw [if_pos ⟨h0, hq⟩]
        have hq2 : (S 24 n).toInt ≤ q.toInt := by rw [Int32.lt_iff_toInt_lt] at hq; omega
        have g : ∀ a, a < nl → (S 21 a = 0 ∨ (a < n ∧ (S 24 a).toInt ≤ (S 24 n).toInt)) → x.1 a = y.1 a := fun a ha u => (ih a ha (u.imp id (fun v => ⟨v.1, by omega⟩))).1
        by_cases e : b = n
        · subst e
          exact ⟨pk_us.trans ((rankZ_cg I hb h0 g).trans pk_us.symm), pk_us.trans ((whyZ_cg I hb h0 g).1.trans pk_us.symm)⟩
        · have r := ih b hb (h.imp id (fun z => ⟨by omega, z.2⟩))
          exact ⟨(pk_un e).trans (r.1.trans (pk_un e).symm), (pk_un e).trans (r.2.trans (pk_un e).symm)⟩
theorem cl2_st {S : Nat → Nat → Int32} {q : Int32} {nf nl ns nt nk b : Nat} : ∀ (k i : Nat) (p : (Nat → Int32) × (Nat → Int32)), b < i → (flp (cl2 S q nf nl ns nt nk) i k p).1 b = p.1 b ∧ (flp (cl2 S q nf nl ns nt nk) i k p).2 b = p.2 b := by
  intro k
  induction k with
  | zero => intro i p _; exact ⟨rfl, rfl⟩
  | succ k ih =>
    intro i p hb
    have h := ih (i + 1) (cl2 S q nf nl ns nt nk i p) (by omega)
    have e : (cl2 S q nf nl ns nt nk i p).1 b = p.1 b ∧ (cl2 S q nf nl ns nt nk i p).2 b = p.2 b := by
      unfold cl2
      split
      · exact ⟨pk_un (by omega), pk_un (by omega)⟩
      · exact ⟨rfl, rfl⟩
    exact ⟨h.1.trans e.1, h.2.trans e.2⟩
theorem cls_eq {S : Nat → Nat → Int32} {nf nl nb ns nt nk nw yy : Nat} (I : SI S nf nl nb ns nt nk nw yy) (q : Int32) (p0 : (Nat → Int32) × (Nat → Int32)) {M a : Nat} (hM : M ≤ nl) (ha : a < M) (hq : ¬ q < S 24 a) : (flp (c2 S q nf nl ns nt nk) 0 M (flp (cl1 S q) 0 nl p0)).1 a = (clsZ S q nf nl ns nt nk).1 a ∧ (flp (c2 S q nf nl ns nt nk) 0 M (flp (cl1 S q) 0 nl p0)).2 a = (clsZ S q nf nl ns nt nk).2 a := by
  have hq2 : (S 24 a).toInt ≤ q.toInt := by rw [Int32.lt_iff_toInt_lt] at hq; omega
  have r := cls_rel I q p0 (S 44, S 45) M hM a (by omega) (Or.inr ⟨ha, hq2⟩)
  unfold clsZ
  have e : flp (cl2 S q nf nl ns nt nk) 0 nl (flp (cl1 S q) 0 nl (S 44, S 45)) = flp (cl2 S q nf nl ns nt nk) M (nl - M) (flp (cl2 S q nf nl ns nt nk) 0 M (flp (cl1 S q) 0 nl (S 44, S 45))) := by
    have := flp_app (cl2 S q nf nl ns nt nk) M 0 (nl - M) (flp (cl1 S q) 0 nl (S 44, S 45))
    rw [Nat.zero_add, show M + (nl - M) = nl by omega] at this
    exact this
  rw [e]
  have s := cl2_st (S := S) (q := q) (nf := nf) (nl := nl) (ns := ns) (nt := nt) (nk := nk) (nl - M) M (flp (cl2 S q nf nl ns nt nk) 0 M (flp (cl1 S q) 0 nl (S 44, S 45))) ha
  exact ⟨r.1.trans s.1.symm, r.2.trans s.2.symm⟩
/-- ranks stay small -/
def Bd (S : Nat → Nat → Int32) (nl i : Nat) (z : Nat → Int32) : Prop := ∀ a, a < nl → (S 21 a = 0 ∨ a < i) → 0 ≤ (z a).toInt ∧ (z a).toInt ≤ 9 + a
theorem mx_or (x y : Int32) : mx x y = x ∨ mx x y = y := by
  unfold mx
  split
  · exact Or.inr rfl
  · exact Or.inl rfl
theorem Bd.st1 {S : Nat → Nat → Int32} {q : Int32} {nl : Nat} (p : (Nat → Int32) × (Nat → Int32)) : Bd S nl 0 (flp (cl1 S q) 0 nl p).1 := fun a ha h => by
  have h0 : S 21 a = 0 := h.elim id (fun z => absurd z (Nat.not_lt_zero _))
  rw [(cl1_at p nl a ha h0).1]
  have e0 : (0 : Int32).toInt = 0 := by decide
  have e9 : (9 : Int32).toInt = 9 := by decide
  split
  · omega
  · omega
theorem Bd.st2 {S : Nat → Nat → Int32} {nf nl nb ns nt nk nw yy : Nat} (I : SI S nf nl nb ns nt nk nw yy) {q : Int32} {i : Nat} {p : (Nat → Int32) × (Nat → Int32)} (hi : i < nl) (b : Bd S nl i p.1) : Bd S nl (i + 1) (c2 S q nf nl ns nt nk i p).1 := fun a ha h => by
  have hnl := I.lt.2
  unfold c2
  by_cases h0 : S 21 i = 0
  · rw [if_neg (fun z => z h0)]
    by_cases e : a = i
    · subst e; exact b a ha (Or.inl h0)
    · exact b a ha (h.imp id (fun z => by omega))
  · rw [if_pos h0]
    by_cases e : a = i
    · subst e
      show 0 ≤ (upd p.1 a _ a).toInt ∧ (upd p.1 a _ a).toInt ≤ _
      rw [pk_us]
      unfold rankZ
      have e9 : (9 : Int32).toInt = 9 := by decide
      split
      · omega
      · rcases (I.lo a ha).1 with l | l | l
        · exact absurd l.1 h0
        · obtain ⟨j, j1, j2, -⟩ := l.2.2.1
          have bj := b j (by omega) (Or.inr j1)
          rw [if_neg (by rw [l.1]; decide)]
          unfold worstZ
          rw [if_neg (by rw [l.1]; decide), j2, nI_clamp (by omega)]
          have es : (p.1 j + 1).toInt = (p.1 j).toInt + 1 := by
            rw [Int32.toInt_add]
            have e1 : (1 : Int32).toInt = 1 := by decide
            rw [e1]
            exact Int.bmod_eq_of_le (by omega) (by omega)
          rw [es]
          omega
        · obtain ⟨j, j1, j2⟩ := l.2.2.1
          obtain ⟨k, k1, k2⟩ := l.2.2.2
          have bj := b j (by omega) (Or.inr j1)
          have bk := b k (by omega) (Or.inr k1)
          rw [if_pos l.1]
          unfold worstZ
          rw [if_pos l.1, j2, k2, nI_clamp (by omega), nI_clamp (by omega)]
          rcases mx_or (p.1 j) (p.1 k) with m | m
          · rw [m]; omega
          · rw [m]; omega
    · show 0 ≤ (upd p.1 i _ a).toInt ∧ (upd p.1 i _ a).toInt ≤ _
      rw [pk_un e]
      exact b a ha (h.imp id (fun z => by omega))
/-- grown lots of that year: their mothers' rank is their mother's -/
theorem rk_yr {S : Nat → Nat → Int32} {nf nl nb ns nt nk nw yy : Nat} (I : SI S nf nl nb ns nt nk nw yy) {z : Nat → Int32} {i lt : Nat} (b : Bd S nl lt z) (hlt : lt < nl) (hi : i < nl) (h1 : S 21 i = 1) (hy : S 24 i = S 24 lt) : rkZ S z i = z (S 26 i).toNatClampNeg := by
  have hnl := I.lt.2
  obtain ⟨j, j1, j2, j3, j4⟩ := I.moth hlt hi h1 hy
  rw [rk_g (by omega) j2 j3 (b j j1 (j4.imp id (fun z => z.1))).1, j2, nI_clamp (by omega)]
theorem rk_w {S : Nat → Nat → Int32} {nf nl nb ns nt nk nw yy : Nat} (I : SI S nf nl nb ns nt nk nw yy) {z : Nat → Int32} {lt : Nat} (b : Bd S nl lt z) (hlt : lt < nl) (h0 : ¬ S 21 lt = 0) : rkZ S z lt = worstZ S z lt := by
  have hnl := I.lt.2
  unfold worstZ
  rcases (I.lo lt hlt).1 with h | h | h
  · exact absurd h.1 h0
  · rw [if_neg (by rw [h.1]; decide)]
    exact rk_yr I b hlt hlt h.1 rfl
  · obtain ⟨j, j1, j2⟩ := h.2.2.1
    obtain ⟨k, k1, k2⟩ := h.2.2.2
    rw [if_pos h.1, rk_m (by omega) (by omega) j2 k2, j2, k2, nI_clamp (by omega), nI_clamp (by omega)]
/-- why is 0 or more -/
theorem wrgZ_07 (S : Nat → Nat → Int32) (z : Nat → Int32) (lt : Nat) (q : Int32) (nf nl ns nt nk : Nat) : 0 ≤ (wrgZ S z lt q nf nl ns nt nk).toInt := by
  unfold wrgZ
  split
  · decide
  split
  · decide
  split
  · decide
  split
  · decide
  split
  · decide
  · decide
theorem whyZ_07 (S : Nat → Nat → Int32) (z w : Nat → Int32) (lt : Nat) (q : Int32) (nf nl ns nt nk : Nat) : 0 ≤ (whyZ S z w lt q nf nl ns nt nk).toInt := by
  rw [whyZ_e]
  split
  · decide
  split
  · decide
  split
  · exact wrgZ_07 ..
  · decide
theorem whyZ_0 (S : Nat → Nat → Int32) (z w : Nat → Int32) (lt : Nat) (q : Int32) (nf nl ns nt nk : Nat) : whyZ S z w lt q nf nl ns nt nk ≤ 0 ↔ whyZ S z w lt q nf nl ns nt nk = 0 := by
  have h := whyZ_07 S z w lt q nf nl ns nt nk
  have e0 : (0 : Int32).toInt = 0 := by decide
  rw [Int32.le_iff_toInt_le]
  constructor
  · intro c
    exact Int32.toInt_inj.mp (by omega)
  · intro c
    rw [c]; decide
