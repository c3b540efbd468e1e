/-! what always holds of the reference's state -/
def lotI (S : Nat → Nat → Int32) (nf a : Nat) : Prop := (S 21 a = 0 ∧ S 25 a = -1 ∧ S 26 a = -1 ∧ S 27 a = -1) ∨ (S 21 a = 1 ∧ (∃ f, f < nf ∧ S 25 a = nI f) ∧ (∃ j, j < a ∧ S 26 a = nI j ∧ (S 21 j = 0 ∨ (S 24 j).toInt < (S 24 a).toInt)) ∧ S 27 a = -1) ∨ (S 21 a = 2 ∧ S 25 a = -1 ∧ (∃ j, j < a ∧ S 26 a = nI j) ∧ (∃ j, j < a ∧ S 27 a = nI j))
def SI (S : Nat → Nat → Int32) (nf nl nb ns nt nk nw yy : Nat) : Prop :=
  ((S 0 0 = nI yy ∧ yy ≤ 40) ∧ (S 1 0 = nI nf ∧ nf ≤ 40) ∧ (S 2 0 = nI nl ∧ nl ≤ 200) ∧ (S 3 0 = nI nb ∧ nb ≤ 200) ∧ (S 5 0 = nI ns ∧ ns ≤ 300) ∧ (S 6 0 = nI nt ∧ nt ≤ 100) ∧ (S 7 0 = nI nk ∧ nk ≤ 300) ∧ (S 8 0 = nI nw ∧ nw ≤ 5)) ∧
  (∀ a, a < nl → lotI S nf a ∧ ∃ y, y ≤ yy ∧ S 24 a = nI y) ∧ (∀ a b, a ≤ b → b < nl → (S 24 a).toInt ≤ (S 24 b).toInt) ∧
  (∀ k, k < nt → 0 ≤ (S 18 k).toInt ∧ ∃ v, v ≤ 1000 ∧ S 19 k = nI v) ∧
  (∀ k, k < nk → (∃ v, v ≤ 10000 ∧ S 35 k = nI v) ∧ (∃ v, v ≤ 10000 ∧ S 36 k = nI v) ∧ (∃ j, j < nl ∧ S 34 k = nI j) ∧ ∃ y, y ≤ yy ∧ S 37 k = nI y) ∧ (∀ a b, a ≤ b → b < nk → (S 37 a).toInt ≤ (S 37 b).toInt) ∧
  (∀ b, b < nb → ∃ j, j < nl ∧ S 38 b = nI j) ∧ (∀ k, k < nw → ∃ j, j < nl ∧ S 42 k = nI j) ∧
  (∀ k, k < ns → ∃ f, f < nf ∧ S 13 k = nI f) ∧
  (∀ a, nl ≤ a → S 29 a = 0 ∧ S 30 a = 0 ∧ S 31 a = 0 ∧ S 32 a = 0)
section SIA
variable {S : Nat → Nat → Int32} {nf nl nb ns nt nk nw yy : Nat}
theorem SI.yr (I : SI S nf nl nb ns nt nk nw yy) : S 0 0 = nI yy ∧ yy ≤ 40 := I.1.1
theorem SI.fl (I : SI S nf nl nb ns nt nk nw yy) : S 1 0 = nI nf ∧ nf ≤ 40 := I.1.2.1
theorem SI.lt (I : SI S nf nl nb ns nt nk nw yy) : S 2 0 = nI nl ∧ nl ≤ 200 := I.1.2.2.1
theorem SI.bg (I : SI S nf nl nb ns nt nk nw yy) : S 3 0 = nI nb ∧ nb ≤ 200 := I.1.2.2.2.1
theorem SI.st (I : SI S nf nl nb ns nt nk nw yy) : S 5 0 = nI ns ∧ ns ≤ 300 := I.1.2.2.2.2.1
theorem SI.tt (I : SI S nf nl nb ns nt nk nw yy) : S 6 0 = nI nt ∧ nt ≤ 100 := I.1.2.2.2.2.2.1
theorem SI.lk (I : SI S nf nl nb ns nt nk nw yy) : S 7 0 = nI nk ∧ nk ≤ 300 := I.1.2.2.2.2.2.2.1
theorem SI.wt (I : SI S nf nl nb ns nt nk nw yy) : S 8 0 = nI nw ∧ nw ≤ 5 := I.1.2.2.2.2.2.2.2
theorem SI.lo (I : SI S nf nl nb ns nt nk nw yy) : ∀ a, a < nl → lotI S nf a ∧ ∃ y, y ≤ yy ∧ S 24 a = nI y := I.2.1
theorem SI.mo (I : SI S nf nl nb ns nt nk nw yy) : ∀ a b, a ≤ b → b < nl → (S 24 a).toInt ≤ (S 24 b).toInt := I.2.2.1
theorem SI.sv (I : SI S nf nl nb ns nt nk nw yy) : ∀ k, k < nt → 0 ≤ (S 18 k).toInt ∧ ∃ v, v ≤ 1000 ∧ S 19 k = nI v := I.2.2.2.1
theorem SI.ks (I : SI S nf nl nb ns nt nk nw yy) : ∀ k, k < nk → (∃ v, v ≤ 10000 ∧ S 35 k = nI v) ∧ (∃ v, v ≤ 10000 ∧ S 36 k = nI v) ∧ (∃ j, j < nl ∧ S 34 k = nI j) ∧ ∃ y, y ≤ yy ∧ S 37 k = nI y := I.2.2.2.2.1
theorem SI.km (I : SI S nf nl nb ns nt nk nw yy) : ∀ a b, a ≤ b → b < nk → (S 37 a).toInt ≤ (S 37 b).toInt := I.2.2.2.2.2.1
theorem SI.bl (I : SI S nf nl nb ns nt nk nw yy) : ∀ b, b < nb → ∃ j, j < nl ∧ S 38 b = nI j := I.2.2.2.2.2.2.1
theorem SI.wn (I : SI S nf nl nb ns nt nk nw yy) : ∀ k, k < nw → ∃ j, j < nl ∧ S 42 k = nI j := I.2.2.2.2.2.2.2.1
theorem SI.sf (I : SI S nf nl nb ns nt nk nw yy) : ∀ k, k < ns → ∃ f, f < nf ∧ S 13 k = nI f := I.2.2.2.2.2.2.2.2.1
theorem SI.ze (I : SI S nf nl nb ns nt nk nw yy) : ∀ a, nl ≤ a → S 29 a = 0 ∧ S 30 a = 0 ∧ S 31 a = 0 ∧ S 32 a = 0 := I.2.2.2.2.2.2.2.2.2
theorem SI.mA (I : SI S nf nl nb ns nt nk nw yy) : ∀ q, q < nl → S 26 q = -1 ∨ ∃ j, j < q ∧ S 26 q = nI j := fun q hq => by
  rcases (I.lo q hq).1 with h | h | h
  · exact Or.inl h.2.2.1
  · obtain ⟨j, h1, h2, -⟩ := h.2.2.1
    exact Or.inr ⟨j, h1, h2⟩
  · exact Or.inr h.2.2.1
theorem SI.mB (I : SI S nf nl nb ns nt nk nw yy) : ∀ q, q < nl → S 27 q = -1 ∨ ∃ j, j < q ∧ S 27 q = nI j := fun q hq => by
  rcases (I.lo q hq).1 with h | h | h
  · exact Or.inl h.2.2.2
  · exact Or.inl h.2.2.2
  · exact Or.inr h.2.2.2
theorem SI.mF (I : SI S nf nl nb ns nt nk nw yy) : ∀ q, q < nl → S 25 q = -1 ∨ ∃ j, j < nf ∧ S 25 q = nI j := fun q hq => by
  rcases (I.lo q hq).1 with h | h | h
  · exact Or.inl h.2.1
  · exact Or.inr h.2.1
  · exact Or.inl h.2.1
theorem SI.ci (I : SI S nf nl nb ns nt nk nw yy) : CI S nf nl ns nt nk := by
  have v : ∀ {x : Int32} {n N : Nat}, n < N → N < 2 ^ 31 → x = nI n → vp_in x N := fun h1 h2 e => by rw [e]; exact vp_in_nI h1 h2
  refine ⟨I.fl, I.lt, I.st, I.tt, I.lk, fun a ha h0 => ?_, fun a ha => ?_⟩
  · have hl := I.lt.2
    have hf := I.fl.2
    rcases (I.lo a ha).1 with h | h | h
    · exact absurd h.1 h0
    · obtain ⟨f, f1, f2⟩ := h.2.1
      obtain ⟨j, j1, j2, -⟩ := h.2.2.1
      exact ⟨fun _ => v (N := 40) (by omega) (by decide) f2, v (N := 200) (n := j) (by omega) (by decide) j2, fun e => by rw [h.1] at e; exact absurd e (by decide)⟩
    · obtain ⟨j, j1, j2⟩ := h.2.2.1
      obtain ⟨k, k1, k2⟩ := h.2.2.2
      exact ⟨fun e => by rw [h.1] at e; exact absurd e (by decide), v (N := 200) (n := j) (by omega) (by decide) j2, fun _ => v (N := 200) (n := k) (by omega) (by decide) k2⟩
  · obtain ⟨y, h1, h2⟩ := (I.lo a ha).2
    exact ⟨y, by have := I.yr.2; omega, h2⟩
end SIA
/-! what is in force is a small number -/
theorem force_nI {S : Nat → Nat → Int32} {kd y q : Int32} {nt : Nat} (h : ∀ k, k < nt → ∃ v, v ≤ 1000 ∧ S 19 k = nI v) : ∃ v, v ≤ 1000 ∧ inForceS S kd y q nt = nI v := by
  have g : ∀ n, n ≤ nt → ∃ v, v ≤ 1000 ∧ (flp (gForce S kd y q) 0 n (dflt kd, -1)).1 = nI v := by
    intro n
    induction n with
    | zero =>
      intro _
      show ∃ v, v ≤ 1000 ∧ dflt kd = nI v
      unfold dflt
      by_cases h0 : kd = 0
      · exact ⟨50, by decide, by rw [if_pos h0]; decide⟩
      · rw [if_neg h0]
        by_cases h1 : kd = 1
        · exact ⟨2, by decide, by rw [if_pos h1]; decide⟩
        · rw [if_neg h1]
          by_cases h2 : kd = 2
          · exact ⟨1, by decide, by rw [if_pos h2]; decide⟩
          · rw [if_neg h2]
            by_cases h3 : kd = 3
            · exact ⟨10, by decide, by rw [if_pos h3]; decide⟩
            · exact ⟨6, by decide, by rw [if_neg h3]; decide⟩
    | succ n ih =>
      intro hn
      rw [flp_last, Nat.zero_add]
      obtain ⟨v, h1, h2⟩ := ih (by omega)
      unfold gForce
      split
      · exact h n (by omega)
      · exact ⟨v, h1, h2⟩
  exact g nt (Nat.le_refl _)
/-! the looks that are known in q -/
def lkS (S : Nat → Nat → Int32) (q : Int32) : List Nat → List Nat
  | [] => []
  | k :: ks => if ¬ q < S 37 k then k :: ks else lkS S q ks
theorem llk_eq {h : jH} {S : Nat → Nat → Int32} {q : Int32} : ∀ (as ks : List Nat), zK h S as ks → (lkS S q ks = [] ∧ llk h q as = none) ∨ ∃ x k ks', lkS S q ks = k :: ks' ∧ llk h q as = some x ∧ h_I h 322 x = nI (k :: ks').length ∧ h_I h 323 x = sumR S 35 (k :: ks') ∧ h_I h 324 x = sumR S 36 (k :: ks')
  | [], [], _ => Or.inl ⟨rfl, rfl⟩
  | a :: as, k :: ks, z => by
    show ((if ¬ q < S 37 k then k :: ks else lkS S q ks) = [] ∧ (if ¬ q < h_I h 321 a then some a else llk h q as) = none) ∨ ∃ x k' ks', (if ¬ q < S 37 k then k :: ks else lkS S q ks) = k' :: ks' ∧ (if ¬ q < h_I h 321 a then some a else llk h q as) = some x ∧ _
    rw [z.1]
    by_cases e : q < S 37 k
    · rw [if_neg (fun w => w e), if_neg (fun w => w e)]
      exact llk_eq as ks z.2.2.2.2
    · rw [if_pos e, if_pos e]
      exact Or.inr ⟨a, k, ks, rfl, rfl, z.2.1, z.2.2.1, z.2.2.2.1⟩
  | [], _ :: _, z => z.elim
  | _ :: _, [], z => z.elim
theorem chn_mem {h : jH} {k f : Nat} : ∀ (as : List Nat) (r : Option Nat), chn h k f r as → ∀ x, x ∈ as → h_ok h x k
  | [], _, _, _, m => by cases m
  | a :: as, r, c, x, m => by
    rcases List.mem_cons.mp m with m | m
    · rw [m]; exact c.2.1
    · exact chn_mem as _ c.2.2 x m
theorem llk_mem {h : jH} {q : Int32} : ∀ (as : List Nat) (x : Nat), llk h q as = some x → x ∈ as
  | [], x, e => by cases e
  | a :: as, x, e => by
    change (if ¬ q < h_I h 321 a then some a else llk h q as) = some x at e
    by_cases c : q < h_I h 321 a
    · rw [if_neg (fun w => w c)] at e
      exact List.mem_cons_of_mem _ (llk_mem as x e)
    · rw [if_pos c] at e
      cases e
      exact List.mem_cons_self ..
theorem dsc_len (p : Nat → Bool) : ∀ n, (dsc p n).length ≤ n
  | 0 => Nat.le_refl _
  | n + 1 => by
    rw [dsc_s]
    have := dsc_len p n
    split
    · rw [List.length_cons]; omega
    · omega
theorem sumR_nI {S : Nat → Nat → Int32} {r : Nat} : ∀ ks : List Nat, (∀ k, k ∈ ks → ∃ v, v ≤ 10000 ∧ S r k = nI v) → ∃ s, s ≤ 10000 * ks.length ∧ sumR S r ks = nI s
  | [], _ => ⟨0, Nat.zero_le _, rfl⟩
  | k :: ks, g => by
    obtain ⟨s, h1, h2⟩ := sumR_nI ks (fun j hj => g j (List.mem_cons_of_mem _ hj))
    obtain ⟨v, h3, h4⟩ := g k (List.mem_cons_self ..)
    refine ⟨s + v, by rw [List.length_cons]; omega, ?_⟩
    show sumR S r ks + S r k = _
    rw [h2, h4, nI_add]
theorem looks_kn {S : Nat → Nat → Int32} {lt q : Int32} : ∀ n : Nat, (∀ a b, a ≤ b → b < n → (S 37 a).toInt ≤ (S 37 b).toInt) → looksS S lt q n = nI (lkS S q (dsc (lkB S lt) n)).length
  | 0, _ => rfl
  | n + 1, hm => by
    have ih := looks_kn (S := S) (lt := lt) (q := q) n (fun a b h1 h2 => hm a b h1 (by omega))
    by_cases h : S 34 n = lt
    · have hb : lkB S lt n = true := decide_eq_true h
      by_cases h2 : q < S 37 n
      · rw [dsc_s, if_pos hb]
        show _ = nI (if ¬ q < S 37 n then n :: dsc (lkB S lt) n else lkS S q (dsc (lkB S lt) n)).length
        rw [if_neg (fun w => w h2), ← ih]
        unfold looksS
        rw [flp_last, Nat.zero_add]
        unfold gLooks
        rw [if_neg (fun z => z.2 h2), Int32.add_zero]
      · have hp : ∀ k, k < n + 1 → ¬ q < S 37 k := fun k hk z => h2 (by
          rw [Int32.lt_iff_toInt_lt] at z ⊢
          have := hm k n (by omega) (by omega)
          omega)
        rw [looks_len (n + 1) hp, dsc_s, if_pos hb]
        show _ = nI (if ¬ q < S 37 n then n :: dsc (lkB S lt) n else lkS S q (dsc (lkB S lt) n)).length
        rw [if_pos h2]
    · have hb : ¬ lkB S lt n = true := fun z => h (of_decide_eq_true z)
      rw [dsc_s, if_neg hb, ← ih]
      unfold looksS
      rw [flp_last, Nat.zero_add]
      unfold gLooks
      rw [if_neg (fun z => h z.1), Int32.add_zero]
theorem sum_all {S : Nat → Nat → Int32} {a : Nat} {q : Int32} : ∀ n : Nat, n ≤ 300 → (∀ k, k < n → ¬ q < S 37 k) → (∀ k, k < n → (∃ v, v ≤ 10000 ∧ S 35 k = nI v) ∧ (∃ v, v ≤ 10000 ∧ S 36 k = nI v)) → sumS S a q n = ((sumR S 35 (dsc (lkB S (nI a)) n)).toInt64, (sumR S 36 (dsc (lkB S (nI a)) n)).toInt64)
  | 0, _, _, _ => rfl
  | n + 1, hn, hp, hv => by
    have ih := sum_all (S := S) (a := a) (q := q) n (by omega) (fun k hk => hp k (by omega)) (fun k hk => hv k (by omega))
    unfold sumS at ih ⊢
    rw [flp_last, Nat.zero_add, ih, dsc_s]
    unfold gSum
    by_cases h : S 34 n = nI a
    · rw [if_pos ⟨h, hp n (by omega)⟩, if_pos (show lkB S (nI a) n = true from decide_eq_true h)]
      have b := dsc_len (lkB S (nI a)) n
      obtain ⟨s, s1, s2⟩ := sumR_nI (S := S) (r := 35) (dsc (lkB S (nI a)) n) (fun k hk => (hv k (by have := (dsc_mem hk).1; omega)).1)
      obtain ⟨t, t1, t2⟩ := sumR_nI (S := S) (r := 36) (dsc (lkB S (nI a)) n) (fun k hk => (hv k (by have := (dsc_mem hk).1; omega)).2)
      obtain ⟨⟨v, v1, v2⟩, ⟨w, w1, w2⟩⟩ := hv n (by omega)
      show (_ + (S 35 n).toInt64, _ + (S 36 n).toInt64) = ((sumR S 35 (dsc (lkB S (nI a)) n) + S 35 n).toInt64, (sumR S 36 (dsc (lkB S (nI a)) n) + S 36 n).toInt64)
      rw [s2, t2, v2, w2, nI_add, nI_add, nI_l (by omega), nI_l (by omega), nI_l (by omega), nI_l (by omega), nI_l (by omega), nI_l (by omega), lN_add, lN_add]
    · rw [if_neg (fun z => h z.1), if_neg (show ¬ lkB S (nI a) n = true from fun z => h (of_decide_eq_true z))]
theorem sum_kn {S : Nat → Nat → Int32} {a : Nat} {q : Int32} : ∀ n : Nat, n ≤ 300 → (∀ a b, a ≤ b → b < n → (S 37 a).toInt ≤ (S 37 b).toInt) → (∀ k, k < n → (∃ v, v ≤ 10000 ∧ S 35 k = nI v) ∧ (∃ v, v ≤ 10000 ∧ S 36 k = nI v)) → sumS S a q n = ((sumR S 35 (lkS S q (dsc (lkB S (nI a)) n))).toInt64, (sumR S 36 (lkS S q (dsc (lkB S (nI a)) n))).toInt64)
  | 0, _, _, _ => rfl
  | n + 1, hn, hm, hv => by
    have ih := sum_kn (S := S) (a := a) (q := q) n (by omega) (fun a b h1 h2 => hm a b h1 (by omega)) (fun k hk => hv k (by omega))
    by_cases h : S 34 n = nI a
    · have hb : lkB S (nI a) n = true := decide_eq_true h
      by_cases h2 : q < S 37 n
      · rw [dsc_s, if_pos hb]
        have e : lkS S q (n :: dsc (lkB S (nI a)) n) = lkS S q (dsc (lkB S (nI a)) n) := if_neg (fun w => w h2)
        rw [e, ← ih]
        unfold sumS
        rw [flp_last, Nat.zero_add]
        exact if_neg (fun z => z.2 h2)
      · have hp : ∀ k, k < n + 1 → ¬ q < S 37 k := fun k hk z => h2 (by
          rw [Int32.lt_iff_toInt_lt] at z ⊢
          have := hm k n (by omega) (by omega)
          omega)
        rw [sum_all (n + 1) hn hp hv, dsc_s, if_pos hb]
        have e : lkS S q (n :: dsc (lkB S (nI a)) n) = n :: dsc (lkB S (nI a)) n := if_pos h2
        rw [e]
    · have hb : ¬ lkB S (nI a) n = true := fun z => h (of_decide_eq_true z)
      rw [dsc_s, if_neg hb, ← ih]
      unfold sumS
      rw [flp_last, Nat.zero_add]
      exact if_neg (fun z => h z.1)
theorem prv_cg {p p' : Nat → Bool} {since : Int32} : ∀ (k i : Nat), (∀ j, i ≤ j → j < i + k → p' j = p j) → prv p' since i k = prv p since i k
  | 0, _, _ => rfl
  | k + 1, i, h => by
    rw [prv_s, prv_s, h i (by omega) (by omega), prv_cg k (i + 1) (fun j h1 h2 => h j (by omega) (by omega))]
/-! ranks of mothers -/
def rkZ (S : Nat → Nat → Int32) (z : Nat → Int32) (a : Nat) : Int32 := mx (lnV z (S 26 a)) (lnV z (S 27 a))
theorem mx_0 {x : Int32} (h : 0 ≤ x.toInt) : mx x 0 = x := by
  unfold mx
  have e : (0 : Int32).toInt = 0 := by decide
  rw [if_neg (fun c => by rw [Int32.lt_iff_toInt_lt] at c; omega)]
theorem lnV_n (z : Nat → Int32) : lnV z (-1) = 0 := if_pos rfl
theorem lnV_i (z : Nat → Int32) {j : Nat} (hj : j < 2 ^ 31) : lnV z (nI j) = z j := by
  unfold lnV
  rw [if_neg (fun e => by have h := congrArg Int32.toInt e; rw [nI_toInt hj] at h; have e1 : (-1 : Int32).toInt = -1 := by decide
                          omega), nI_clamp hj]
theorem rk_t {S : Nat → Nat → Int32} {z : Nat → Int32} {a : Nat} (h1 : S 26 a = -1) (h2 : S 27 a = -1) : rkZ S z a = 0 := by
  unfold rkZ
  rw [h1, h2, lnV_n]
  decide
theorem rk_g {S : Nat → Nat → Int32} {z : Nat → Int32} {a j : Nat} (hj : j < 2 ^ 31) (h1 : S 26 a = nI j) (h2 : S 27 a = -1) (hz : 0 ≤ (z j).toInt) : rkZ S z a = z j := by
  unfold rkZ
  rw [h1, h2, lnV_n, lnV_i z hj, mx_0 hz]
theorem rk_m {S : Nat → Nat → Int32} {z : Nat → Int32} {a i j : Nat} (hi : i < 2 ^ 31) (hj : j < 2 ^ 31) (h1 : S 26 a = nI i) (h2 : S 27 a = nI j) : rkZ S z a = mx (z i) (z j) := by
  unfold rkZ
  rw [h1, h2, lnV_i z hi, lnV_i z hj]
