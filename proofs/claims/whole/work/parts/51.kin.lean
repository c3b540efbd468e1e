/-! who came of whom: what the rows say -/
section KINP
variable {S : Nat → Nat → Int32} {nl : Nat}
theorem rows_z (hA : ∀ q, q < nl → S 26 q = -1 ∨ ∃ j, j < q ∧ S 26 q = nI j) (hB : ∀ q, q < nl → S 27 q = -1 ∨ ∃ j, j < q ∧ S 27 q = nI j) (hnl : nl ≤ 200) (to : Int32) : ∀ n, n ≤ nl → ∃ z : Nat → Int32, flp (gRows to) 0 n S = W46 S z ∧ ∀ a, a < n → z a = if nI a = to then 1 else mn (lnV z (S 26 a) + lnV z (S 27 a)) 1000000
  | 0, _ => ⟨S 46, (W46_self S).symm, fun a ha => absurd ha (Nat.not_lt_zero _)⟩
  | n + 1, hn => by
    obtain ⟨z, e, hz⟩ := rows_z hA hB hnl to n (by omega)
    refine ⟨upd z n (if nI n = to then 1 else mn (lnV z (S 26 n) + lnV z (S 27 n)) 1000000), ?_, fun a ha => ?_⟩
    · rw [flp_last, Nat.zero_add, e, gRows_ln]
    · have cg : ∀ (x v : Int32), (v = -1 ∨ ∃ j, j < n ∧ v = nI j) → lnV (upd z n x) v = lnV z v := fun x v hv => by
        rcases hv with hv | ⟨j, hj, hv⟩
        · rw [hv, lnV_n, lnV_n]
        · rw [hv, lnV_i _ (by omega), lnV_i _ (by omega), pk_un (by omega)]
      have mA : S 26 a = -1 ∨ ∃ j, j < n ∧ S 26 a = nI j := (hA a (by omega)).imp id (fun ⟨j, h1, h2⟩ => ⟨j, by omega, h2⟩)
      have mB : S 27 a = -1 ∨ ∃ j, j < n ∧ S 27 a = nI j := (hB a (by omega)).imp id (fun ⟨j, h1, h2⟩ => ⟨j, by omega, h2⟩)
      rw [cg _ _ mA, cg _ _ mB]
      by_cases h : a = n
      · subst h
        rw [pk_us]
      · rw [pk_un h]
        exact hz a (by omega)
theorem rows_rec (hA : ∀ q, q < nl → S 26 q = -1 ∨ ∃ j, j < q ∧ S 26 q = nI j) (hB : ∀ q, q < nl → S 27 q = -1 ∨ ∃ j, j < q ∧ S 27 q = nI j) (hnl : nl ≤ 200) (to : Int32) {a : Nat} (ha : a < nl) : rowsV S to nl a = if nI a = to then 1 else mn (lnV (rowsV S to nl) (S 26 a) + lnV (rowsV S to nl) (S 27 a)) 1000000 := by
  obtain ⟨z, e, hz⟩ := rows_z hA hB hnl to nl (Nat.le_refl _)
  have er : rowsV S to nl = z := funext fun b => by
    unfold rowsV rowsS
    rw [e]
    rfl
  rw [er]
  exact hz a ha
theorem ln_pos {R : Nat → Int32} {a : Nat} (hR : ∀ j, j < a → 0 ≤ (R j).toInt ∧ (R j).toInt ≤ 1000000) {v : Int32} (hv : v = -1 ∨ ∃ j, j < a ∧ v = nI j) (ha : a ≤ 200) : (0 ≤ (lnV R v).toInt ∧ (lnV R v).toInt ≤ 1000000) ∧ (0 < (lnV R v).toInt ↔ ∃ j, j < a ∧ v = nI j ∧ 0 < (R j).toInt) := by
  have e0 : (0 : Int32).toInt = 0 := by decide
  rcases hv with hv | ⟨j, hj, hv⟩
  · rw [hv, lnV_n]
    exact ⟨by omega, fun h => absurd h (by omega), fun ⟨j, h1, h2, _⟩ => absurd h2.symm (nI_m1 (by omega))⟩
  · rw [hv, lnV_i _ (by omega)]
    exact ⟨hR j hj, fun h => ⟨j, hj, rfl, h⟩, fun ⟨i, h1, h2, h3⟩ => by rw [(nI_eq (by omega) (by omega)).mp h2]; exact h3⟩
theorem mn_pos {x y : Int32} (hx : 0 ≤ x.toInt ∧ x.toInt ≤ 1000000) (hy : 0 ≤ y.toInt ∧ y.toInt ≤ 1000000) : (0 ≤ (mn (x + y) 1000000).toInt ∧ (mn (x + y) 1000000).toInt ≤ 1000000) ∧ (0 < (mn (x + y) 1000000).toInt ↔ 0 < x.toInt ∨ 0 < y.toInt) := by
  have es : (x + y).toInt = x.toInt + y.toInt := by
    rw [Int32.toInt_add]
    exact Int.bmod_eq_of_le (by omega) (by omega)
  have e : (1000000 : Int32).toInt = 1000000 := by decide
  unfold mn
  by_cases c : 1000000 < x + y
  · rw [if_pos c]
    rw [Int32.lt_iff_toInt_lt] at c
    omega
  · rw [if_neg c]
    rw [Int32.lt_iff_toInt_lt] at c
    omega
theorem rows_bd (hA : ∀ q, q < nl → S 26 q = -1 ∨ ∃ j, j < q ∧ S 26 q = nI j) (hB : ∀ q, q < nl → S 27 q = -1 ∨ ∃ j, j < q ∧ S 27 q = nI j) (hnl : nl ≤ 200) (to : Int32) (a : Nat) : a < nl → 0 ≤ (rowsV S to nl a).toInt ∧ (rowsV S to nl a).toInt ≤ 1000000 := by
  induction a using Nat.strongRecOn with
  | ind a ih =>
    intro ha
    rw [rows_rec hA hB hnl to ha]
    by_cases c : nI a = to
    · rw [if_pos c]
      exact ⟨by decide, by decide⟩
    · rw [if_neg c]
      exact (mn_pos (ln_pos (fun j hj => ih j hj (by omega)) (hA a ha) (by omega)).1 (ln_pos (fun j hj => ih j hj (by omega)) (hB a ha) (by omega)).1).1
theorem of_pos {to : Int32} {a : Nat} : ofP S nl a to ↔ 0 < (rowsV S to nl a).toInt := by
  have e0 : (0 : Int32).toInt = 0 := by decide
  unfold ofP
  rw [Int32.le_iff_toInt_le]
  omega
/-- a came of 'to': it is it, or a mother of a came of it -/
theorem rch (hA : ∀ q, q < nl → S 26 q = -1 ∨ ∃ j, j < q ∧ S 26 q = nI j) (hB : ∀ q, q < nl → S 27 q = -1 ∨ ∃ j, j < q ∧ S 27 q = nI j) (hnl : nl ≤ 200) (to : Int32) {a : Nat} (ha : a < nl) : ofP S nl a to ↔ nI a = to ∨ (∃ j, j < a ∧ S 26 a = nI j ∧ ofP S nl j to) ∨ (∃ j, j < a ∧ S 27 a = nI j ∧ ofP S nl j to) := by
  have b : ∀ j, j < a → 0 ≤ (rowsV S to nl j).toInt ∧ (rowsV S to nl j).toInt ≤ 1000000 := fun j hj => rows_bd hA hB hnl to j (by omega)
  have l1 := ln_pos b (hA a ha) (by omega)
  have l2 := ln_pos b (hB a ha) (by omega)
  have m := mn_pos l1.1 l2.1
  rw [of_pos, rows_rec hA hB hnl to ha]
  by_cases c : nI a = to
  · rw [if_pos c]
    exact ⟨fun _ => Or.inl c, fun _ => by decide⟩
  · rw [if_neg c, m.2, l1.2, l2.2]
    constructor
    · rintro (⟨j, h1, h2, h3⟩ | ⟨j, h1, h2, h3⟩)
      · exact Or.inr (Or.inl ⟨j, h1, h2, of_pos.mpr h3⟩)
      · exact Or.inr (Or.inr ⟨j, h1, h2, of_pos.mpr h3⟩)
    · rintro (h | ⟨j, h1, h2, h3⟩ | ⟨j, h1, h2, h3⟩)
      · exact absurd h c
      · exact Or.inl ⟨j, h1, h2, of_pos.mp h3⟩
      · exact Or.inr ⟨j, h1, h2, of_pos.mp h3⟩
/-- a is a mother of c -/
def moO (S : Nat → Nat → Int32) (a c : Nat) : Prop := S 26 c = nI a ∨ S 27 c = nI a
theorem mo_lt (hA : ∀ q, q < nl → S 26 q = -1 ∨ ∃ j, j < q ∧ S 26 q = nI j) (hB : ∀ q, q < nl → S 27 q = -1 ∨ ∃ j, j < q ∧ S 27 q = nI j) (hnl : nl ≤ 200) {a c : Nat} (ha : a < nl) (hc : c < nl) (m : moO S a c) : a < c := by
  rcases m with m | m
  · rcases hA c hc with h | ⟨j, h1, h2⟩
    · rw [h] at m; exact absurd m.symm (nI_m1 (by omega))
    · rw [h2] at m
      have := (nI_eq (by omega) (by omega)).mp m
      omega
  · rcases hB c hc with h | ⟨j, h1, h2⟩
    · rw [h] at m; exact absurd m.symm (nI_m1 (by omega))
    · rw [h2] at m
      have := (nI_eq (by omega) (by omega)).mp m
      omega
theorem rch_m (hA : ∀ q, q < nl → S 26 q = -1 ∨ ∃ j, j < q ∧ S 26 q = nI j) (hB : ∀ q, q < nl → S 27 q = -1 ∨ ∃ j, j < q ∧ S 27 q = nI j) (hnl : nl ≤ 200) (to : Int32) {a : Nat} (ha : a < nl) : ofP S nl a to ↔ nI a = to ∨ ∃ j, j < a ∧ moO S j a ∧ ofP S nl j to := by
  rw [rch hA hB hnl to ha]
  constructor
  · rintro (h | ⟨j, h1, h2, h3⟩ | ⟨j, h1, h2, h3⟩)
    · exact Or.inl h
    · exact Or.inr ⟨j, h1, Or.inl h2, h3⟩
    · exact Or.inr ⟨j, h1, Or.inr h2, h3⟩
  · rintro (h | ⟨j, h1, h2 | h2, h3⟩)
    · exact Or.inl h
    · exact Or.inr (Or.inl ⟨j, h1, h2, h3⟩)
    · exact Or.inr (Or.inr ⟨j, h1, h2, h3⟩)
theorem of_le (hA : ∀ q, q < nl → S 26 q = -1 ∨ ∃ j, j < q ∧ S 26 q = nI j) (hB : ∀ q, q < nl → S 27 q = -1 ∨ ∃ j, j < q ∧ S 27 q = nI j) (hnl : nl ≤ 200) {c : Nat} (hc : c < nl) (x : Nat) : x < nl → ofP S nl x (nI c) → c ≤ x := by
  induction x using Nat.strongRecOn with
  | ind x ih =>
    intro hx h
    rcases (rch_m hA hB hnl _ hx).mp h with e | ⟨j, h1, _, h3⟩
    · have := (nI_eq (by omega) (by omega)).mp e
      omega
    · have := ih j h1 (by omega) h3
      omega
/-- the last step -/
theorem of_last (hA : ∀ q, q < nl → S 26 q = -1 ∨ ∃ j, j < q ∧ S 26 q = nI j) (hB : ∀ q, q < nl → S 27 q = -1 ∨ ∃ j, j < q ∧ S 27 q = nI j) (hnl : nl ≤ 200) {i : Nat} (hi : i < nl) (x : Nat) : x < nl → x ≠ i → ofP S nl x (nI i) → ∃ c, i < c ∧ c ≤ x ∧ ofP S nl x (nI c) ∧ moO S i c := by
  induction x using Nat.strongRecOn with
  | ind x ih =>
    intro hx hne h
    rcases (rch_m hA hB hnl _ hx).mp h with e | ⟨j, h1, h2, h3⟩
    · exact absurd ((nI_eq (by omega) (by omega)).mp e) hne
    · by_cases e : j = i
      · subst e
        exact ⟨x, h1, Nat.le_refl _, (rch_m hA hB hnl _ hx).mpr (Or.inl rfl), h2⟩
      · obtain ⟨c, c1, c2, c3, c4⟩ := ih j h1 (by omega) e h3
        exact ⟨c, c1, by omega, (rch_m hA hB hnl _ hx).mpr (Or.inr ⟨j, h1, h2, c3⟩), c4⟩
theorem of_mo (hA : ∀ q, q < nl → S 26 q = -1 ∨ ∃ j, j < q ∧ S 26 q = nI j) (hB : ∀ q, q < nl → S 27 q = -1 ∨ ∃ j, j < q ∧ S 27 q = nI j) (hnl : nl ≤ 200) {i c : Nat} (hi : i < nl) (hc : c < nl) (m : moO S i c) (x : Nat) : x < nl → ofP S nl x (nI c) → ofP S nl x (nI i) := by
  induction x using Nat.strongRecOn with
  | ind x ih =>
    intro hx h
    have hself : ofP S nl i (nI i) := (rch_m hA hB hnl _ hi).mpr (Or.inl rfl)
    rcases (rch_m hA hB hnl _ hx).mp h with e | ⟨j, h1, h2, h3⟩
    · have e1 := (nI_eq (by omega) (by omega)).mp e
      subst e1
      exact (rch_m hA hB hnl _ hx).mpr (Or.inr ⟨i, mo_lt hA hB hnl hi hc m, m, hself⟩)
    · exact (rch_m hA hB hnl _ hx).mpr (Or.inr ⟨j, h1, h2, ih j h1 (by omega) h3⟩)
/-- marked above o by the lots from k on -/
def abP (S : Nat → Nat → Int32) (nl o k a : Nat) : Prop := ∃ c, k ≤ c ∧ c ≤ o ∧ ofP S nl o (nI c) ∧ moO S a c
theorem ab_step {o k a : Nat} (hk : k ≤ o) : abP S nl o k a ↔ abP S nl o (k + 1) a ∨ (ofP S nl o (nI k) ∧ moO S a k) := by
  constructor
  · rintro ⟨c, h1, h2, h3, h4⟩
    by_cases e : c = k
    · subst e; exact Or.inr ⟨h3, h4⟩
    · exact Or.inl ⟨c, by omega, h2, h3, h4⟩
  · rintro (⟨c, h1, h2, h3, h4⟩ | ⟨h3, h4⟩)
    · exact ⟨c, by omega, h2, h3, h4⟩
    · exact ⟨k, Nat.le_refl _, hk, h3, h4⟩
theorem ab_self (hA : ∀ q, q < nl → S 26 q = -1 ∨ ∃ j, j < q ∧ S 26 q = nI j) (hB : ∀ q, q < nl → S 27 q = -1 ∨ ∃ j, j < q ∧ S 27 q = nI j) (hnl : nl ≤ 200) {o k : Nat} (ho : o < nl) (hk : k ≤ o) : ofP S nl o (nI k) ↔ k = o ∨ abP S nl o (k + 1) k := by
  constructor
  · intro h
    by_cases e : k = o
    · exact Or.inl e
    · obtain ⟨c, c1, c2, c3, c4⟩ := of_last hA hB hnl (by omega) o ho (fun z => e z.symm) h
      exact Or.inr ⟨c, by omega, c2, c3, c4⟩
  · rintro (e | ⟨c, h1, h2, h3, h4⟩)
    · subst e
      exact (rch_m hA hB hnl _ ho).mpr (Or.inl rfl)
    · exact of_mo hA hB hnl (by omega) (by omega) h4 o ho h3
theorem ab_0 (hA : ∀ q, q < nl → S 26 q = -1 ∨ ∃ j, j < q ∧ S 26 q = nI j) (hB : ∀ q, q < nl → S 27 q = -1 ∨ ∃ j, j < q ∧ S 27 q = nI j) (hnl : nl ≤ 200) {o a : Nat} (ho : o < nl) (ha : a < nl) : abP S nl o 0 a ↔ in1 S nl a o := by
  constructor
  · rintro ⟨c, h1, h2, h3, h4⟩
    have := mo_lt hA hB hnl ha (by omega) h4
    exact ⟨fun e => by have := (nI_eq (by omega) (by omega)).mp e; omega, of_mo hA hB hnl ha (by omega) h4 o ho h3⟩
  · rintro ⟨h1, h2⟩
    obtain ⟨c, c1, c2, c3, c4⟩ := of_last hA hB hnl ha o ho (fun z => h1 (by rw [z])) h2
    exact ⟨c, Nat.zero_le _, c2, c3, c4⟩
theorem sis_rec (hA : ∀ q, q < nl → S 26 q = -1 ∨ ∃ j, j < q ∧ S 26 q = nI j) (hB : ∀ q, q < nl → S 27 q = -1 ∨ ∃ j, j < q ∧ S 27 q = nI j) (hnl : nl ≤ 200) {o a : Nat} (ho : o < nl) (ha : a < nl) : sisP S nl a o ↔ moO S a o ∨ ∃ j, j < a ∧ moO S j a ∧ sisP S nl j o := by
  have h1 := rch_m hA hB hnl (S 26 o) ha
  have h2 := rch_m hA hB hnl (S 27 o) ha
  have n : ¬ nI a = -1 := nI_m1 (by omega)
  unfold sisP
  constructor
  · rintro (⟨u, v⟩ | ⟨u, v⟩)
    · rcases h1.mp v with e | ⟨j, j1, j2, j3⟩
      · exact Or.inl (Or.inl e.symm)
      · exact Or.inr ⟨j, j1, j2, Or.inl ⟨u, j3⟩⟩
    · rcases h2.mp v with e | ⟨j, j1, j2, j3⟩
      · exact Or.inl (Or.inr e.symm)
      · exact Or.inr ⟨j, j1, j2, Or.inr ⟨u, j3⟩⟩
  · rintro ((e | e) | ⟨j, j1, j2, ⟨u, v⟩ | ⟨u, v⟩⟩)
    · exact Or.inl ⟨by rw [e]; exact n, h1.mpr (Or.inl e.symm)⟩
    · exact Or.inr ⟨by rw [e]; exact n, h2.mpr (Or.inl e.symm)⟩
    · exact Or.inl ⟨u, h1.mpr (Or.inr ⟨j, j1, j2, v⟩)⟩
    · exact Or.inr ⟨u, h2.mpr (Or.inr ⟨j, j1, j2, v⟩)⟩
/-- a mark says whether -/
def vP (v : Int32) (p : Prop) : Prop := (v = 1 ∧ p) ∨ (v = 0 ∧ ¬ p)
theorem vP.t {v : Int32} {p : Prop} (h : vP v p) (e : ¬ v = 0) : p := h.elim (fun z => z.2) (fun z => absurd z.1 e)
theorem vP.f {v : Int32} {p : Prop} (h : vP v p) (e : v = 0) : ¬ p := h.elim (fun z => by rw [z.1] at e; exact absurd e (by decide)) (fun z => z.2)
theorem vP.iff {v : Int32} {p q : Prop} (h : vP v p) (e : p ↔ q) : vP v q := h.imp (fun z => ⟨z.1, e.mp z.2⟩) (fun z => ⟨z.1, fun w => z.2 (e.mpr w)⟩)
/-- the row that the class finds -/
theorem row_eq (hA : ∀ q, q < nl → S 26 q = -1 ∨ ∃ j, j < q ∧ S 26 q = nI j) (hB : ∀ q, q < nl → S 27 q = -1 ∨ ∃ j, j < q ∧ S 27 q = nI j) (hnl : nl ≤ 200) {o a : Nat} (ho : o < nl) (ha : a < nl) {v w r row : Int32} (hv : vP v (in1 S nl a o)) (hw : vP w (sisP S nl a o)) (hr : r = if ¬ rowsV S (nI o) nl a ≤ 0 then 0 else if ¬ v = 0 then 1 else if ¬ w = 0 then 2 else -1) (hrow : row = 0 ∨ row = 1 ∨ row = 2) : r = row ↔ inB S nl o row a = true := by
  have h10 : in1 S nl a o → ¬ in0 S nl a o := fun h z => by
    have q1 := of_le hA hB hnl ho a ha z
    have q2 := of_le hA hB hnl ha o ho h.2
    exact h.1 (by rw [show a = o by omega])
  unfold inB
  by_cases c0 : in0 S nl a o
  · rw [if_pos c0] at hr
    subst hr
    rcases hrow with e | e | e
    · subst e; rw [if_pos rfl]; exact ⟨fun _ => decide_eq_true c0, fun _ => rfl⟩
    · subst e; rw [if_neg (by decide), if_pos rfl]; exact ⟨fun z => absurd z (by decide), fun z => absurd c0 (h10 (of_decide_eq_true z))⟩
    · subst e; rw [if_neg (by decide), if_neg (by decide)]; exact ⟨fun z => absurd z (by decide), fun z => absurd c0 (of_decide_eq_true z).2.1⟩
  · rw [if_neg c0] at hr
    by_cases c1 : v = 0
    · have n1 := hv.f c1
      rw [if_neg (fun z => z c1)] at hr
      by_cases c2 : w = 0
      · have n2 := hw.f c2
        rw [if_neg (fun z => z c2)] at hr
        subst hr
        rcases hrow with e | e | e
        · subst e; rw [if_pos rfl]; exact ⟨fun z => absurd z (by decide), fun z => absurd (of_decide_eq_true z) c0⟩
        · subst e; rw [if_neg (by decide), if_pos rfl]; exact ⟨fun z => absurd z (by decide), fun z => absurd (of_decide_eq_true z) n1⟩
        · subst e; rw [if_neg (by decide), if_neg (by decide)]; exact ⟨fun z => absurd z (by decide), fun z => absurd (of_decide_eq_true z).1 n2⟩
      · have n2 := hw.t c2
        rw [if_pos c2] at hr
        subst hr
        rcases hrow with e | e | e
        · subst e; rw [if_pos rfl]; exact ⟨fun z => absurd z (by decide), fun z => absurd (of_decide_eq_true z) c0⟩
        · subst e; rw [if_neg (by decide), if_pos rfl]; exact ⟨fun z => absurd z (by decide), fun z => absurd (of_decide_eq_true z) n1⟩
        · subst e; rw [if_neg (by decide), if_neg (by decide)]; exact ⟨fun _ => decide_eq_true ⟨n2, c0, n1⟩, fun _ => rfl⟩
    · have n1 := hv.t c1
      rw [if_pos c1] at hr
      subst hr
      rcases hrow with e | e | e
      · subst e; rw [if_pos rfl]; exact ⟨fun z => absurd z (by decide), fun z => absurd (of_decide_eq_true z) c0⟩
      · subst e; rw [if_neg (by decide), if_pos rfl]; exact ⟨fun _ => decide_eq_true n1, fun _ => rfl⟩
      · subst e; rw [if_neg (by decide), if_neg (by decide)]; exact ⟨fun z => absurd z (by decide), fun z => absurd n1 (of_decide_eq_true z).2.2⟩
end KINP
