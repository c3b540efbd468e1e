theorem ffst_last {p : Nat → Bool} : ∀ (k i : Nat), i + k < 2 ^ 31 → ffst p i (k + 1) = if ffst p i k = -1 then (if p (i + k) = true then nI (i + k) else -1) else ffst p i k
  | 0, i, _ => by
    show (if p i = true then nI i else -1) = _
    rw [if_pos (show ffst p i 0 = -1 from rfl), Nat.add_zero]
  | k + 1, i, hb => by
    show (if p i = true then nI i else ffst p (i + 1) (k + 1)) = if (if p i = true then nI i else ffst p (i + 1) k) = -1 then _ else (if p i = true then nI i else ffst p (i + 1) k)
    by_cases e : p i = true
    · rw [if_pos e, if_pos e, if_neg (nI_m1 (by omega))]
    · rw [if_neg e, if_neg e, ffst_last k (i + 1) (by omega), show i + 1 + k = i + (k + 1) by omega]
theorem lotIn_or {S : Nat → Nat → Int32} {f y : Int32} {nl : Nat} (hnl : nl ≤ 200) : lotInS S f y nl = -1 ∨ ∃ j, j < nl ∧ lotInS S f y nl = nI j := by
  by_cases e : lotInS S f y nl = -1
  · exact Or.inl e
  · obtain ⟨o, h1, h2, _⟩ := lotIn_at hnl e
    exact Or.inr ⟨o, h1, h2⟩
theorem lotIn_s {S : Nat → Nat → Int32} {f y : Int32} {nl : Nat} (hnl : nl ≤ 200) : lotInS S f y (nl + 1) = if lotInS S f y nl = -1 then (if S 21 nl = 1 ∧ S 25 nl = f ∧ S 24 nl = y then nI nl else -1) else lotInS S f y nl := by
  unfold lotInS
  rw [ffst_last nl 0 (by omega), Nat.zero_add]
  unfold lotInB
  simp only [decide_eq_true_iff]
section GROWL
variable {h h' : jH} {S : Nat → Nat → Int32} {P : Nat → Nat → Nat} {T : Nat → Nat → Nat → List Nat} {nf nl nb ns nt nk nw : Nat}
theorem CP.pushL (c : CP h S P T nf nl nb ns nt nk nw) {q : Nat} (hn : nl < 200) (e : Ex2 (fun _ => false) h h') (oq : h_ok h' q 6) (hne : ∀ i, i < nl → P 1 i ≠ q)
    (hA : ∀ a, a < nl + 1 → S 26 a = -1 ∨ ∃ j, j < nl ∧ S 26 a = nI j) (hB : ∀ a, a < nl + 1 → S 27 a = -1 ∨ ∃ j, j < nl ∧ S 27 a = nI j) (hbl : ∀ b, b < nb → ∃ j, j < nl ∧ S 38 b = nI j) (hwn : ∀ k, k < nw → ∃ j, j < nl ∧ S 42 k = nI j) (hK : ∀ k, k < nk → ¬ S 34 k = nI nl)
    (r6 : ∀ f, f < nf → h_B h' (P 5 6) f = h_B h (P 5 6) f) (r7 : ∀ a, a < nl → h_B h' (P 5 7) a = h_B h (P 5 7) a) (r7n : h_B h' (P 5 7) nl = some q) (r8 : ∀ a, h_B h' (P 5 8) a = h_B h (P 5 8) a) (r9 : ∀ a, h_B h' (P 5 9) a = h_B h (P 5 9) a) (r10 : ∀ a, h_B h' (P 5 10) a = h_B h (P 5 10) a) (r4 : ∀ f, f < nf → ∀ y, h_B h' (P 4 f) y = h_B h (P 4 f) y) (r3 : ∀ f, f < nf → ∀ y, y < 41 → h_B h' (P 3 f) y = adr (u2 P 1 nl q) 1 (lotInS S (nI f) (nI y) (nl + 1)))
    (i1 : h_I h' 384 q = nI nl ∧ h_I h' 385 q = S 21 nl ∧ h_I h' 386 q = S 22 nl ∧ h_I h' 387 q = S 24 nl) (R1 : h_R h' 388 q = adr P 0 (S 25 nl) ∧ h_R h' 389 q = adr P 1 (S 26 nl) ∧ h_R h' 390 q = adr P 1 (S 27 nl)) (j1 : h_I h' 391 q = S 23 nl ∧ h_I h' 392 q = S 28 nl ∧ h_I h' 393 q = S 29 nl ∧ h_I h' 394 q = S 30 nl ∧ h_I h' 395 q = S 31 nl ∧ h_I h' 396 q = S 32 nl ∧ h_I h' 398 q = S 33 nl) (k1 : h_R h' 397 q = none) : CP h' S (u2 P 1 nl q) (upU T 2 nl []) nf (nl + 1) nb ns nt nk nw := by
  obtain ⟨c1, c2, c3, c4, c5, c6, c7, c8⟩ := c
  have e5 : ∀ x, (u2 P 1 nl q) 5 x = P 5 x := fun x => rfl
  refine ⟨c1.e2 e (fun _ _ => rfl), c2.e2 e (fun _ _ => rfl) (fun _ _ _ => Or.inr ⟨rfl, rfl⟩), fun f hf => ?_, fun a ha => ?_, fun b hb => ?_, c6.e2 e (fun _ _ => rfl) (fun a _ => r9 a), ⟨((e _ _ c1.2.2.2.1.1 (by decide)).2.2.1 455 rfl rfl).trans c7.1, fun k hk => ?_⟩, ⟨c8.1, fun x y hx hy z => ?_, c8.2.2.1, c8.2.2.2.1, c8.2.2.2.2.1, c8.2.2.2.2.2⟩⟩
  · obtain ⟨⟨b1, o1⟩, ⟨i1, i2, i3, i4, i5⟩, ⟨q1, p1, n1⟩, ⟨q2, p2, n2⟩, qq⟩ := c3 f hf
    have eo := e _ _ o1 (by decide)
    have e1 := e _ _ p1 (by decide)
    have e2 := e _ _ p2 (by decide)
    refine ⟨⟨(r6 f hf).trans b1, eo.1⟩, ⟨(eo.2.2.1 _ rfl rfl).trans i1, (eo.2.2.1 _ rfl rfl).trans i2, (eo.2.2.1 _ rfl rfl).trans i3, (eo.2.2.1 _ rfl rfl).trans i4, (eo.2.2.1 _ rfl rfl).trans i5⟩, ⟨(eo.2.2.2 _ rfl).trans q1, e1.1, e1.2.1.trans n1⟩, ⟨(eo.2.2.2 _ rfl).trans q2, e2.1, e2.2.1.trans n2⟩, fun y hy => ⟨r3 f hf y hy, ?_⟩⟩
    show chn h' 9 576 (h_B h' (P 4 f) y) (T 0 f y) ∧ zT h' S (T 0 f y) _
    rw [r4 f hf y]
    exact ⟨e.chnI (by decide) rfl _ _ (qq y hy).2.1, e.zTI rfl rfl _ _ _ (qq y hy).2.1 (qq y hy).2.2⟩
  · show (h_B h' (P 5 7) a = some (u2 P 1 nl q 1 a) ∧ h_ok h' (u2 P 1 nl q 1 a) 6) ∧ (h_I h' 384 (u2 P 1 nl q 1 a) = nI a ∧ h_I h' 385 (u2 P 1 nl q 1 a) = S 21 a ∧ h_I h' 386 (u2 P 1 nl q 1 a) = S 22 a ∧ h_I h' 387 (u2 P 1 nl q 1 a) = S 24 a) ∧ (h_R h' 388 (u2 P 1 nl q 1 a) = adr P 0 (S 25 a) ∧ h_R h' 389 (u2 P 1 nl q 1 a) = adr (u2 P 1 nl q) 1 (S 26 a) ∧ h_R h' 390 (u2 P 1 nl q 1 a) = adr (u2 P 1 nl q) 1 (S 27 a)) ∧ (h_I h' 391 (u2 P 1 nl q 1 a) = S 23 a ∧ h_I h' 392 (u2 P 1 nl q 1 a) = S 28 a ∧ h_I h' 393 (u2 P 1 nl q 1 a) = S 29 a ∧ h_I h' 394 (u2 P 1 nl q 1 a) = S 30 a ∧ h_I h' 395 (u2 P 1 nl q 1 a) = S 31 a ∧ h_I h' 396 (u2 P 1 nl q 1 a) = S 32 a ∧ h_I h' 398 (u2 P 1 nl q 1 a) = S 33 a) ∧ chn h' 5 320 (h_R h' 397 (u2 P 1 nl q 1 a)) (upU T 2 nl [] 2 a 0) ∧ zK h' S (upU T 2 nl [] 2 a 0) (dsc (lkB S (nI a)) nk)
    rw [adr_u (hA a ha) (by omega), adr_u (hB a ha) (by omega)]
    by_cases ea : a = nl
    · subst ea
      rw [u2_same, upU_s, k1]
      have ed : dsc (lkB S (nI a)) nk = [] := by
        cases hd : dsc (lkB S (nI a)) nk with
        | nil => rfl
        | cons k ks =>
          have hm := dsc_mem (p := lkB S (nI a)) (n := nk) (k := k) (by rw [hd]; exact List.mem_cons_self ..)
          exact absurd (of_decide_eq_true hm.2) (hK k hm.1)
      rw [ed]
      exact ⟨⟨r7n, oq⟩, i1, R1, j1, rfl, trivial⟩
    · rw [u2_ne2 _ _ ea, upU_n (fun z => ea z.2)]
      exact c4.e2 e (fun _ _ => rfl) (fun a ha => r7 a ha) a (by omega)
  · show (h_B h' (P 5 8) b = some (P 2 b) ∧ h_ok h' (P 2 b) 1) ∧ h_R h' 64 (P 2 b) = some (u2 P 1 nl q 1 (S 38 b).toNatClampNeg) ∧ h_I h' 65 (P 2 b) = S 39 b ∧ h_I h' 66 (P 2 b) = S 40 b ∧ h_I h' 67 (P 2 b) = S 41 b
    obtain ⟨j, hj, ej⟩ := hbl b hb
    have cb := c5.e2 e (fun _ _ => rfl) (fun a _ => r8 a) b hb
    rw [ej, nI_clamp (by omega)] at cb ⊢
    rw [u2_ne2 _ _ (by omega)]
    exact cb
  · show h_B h' (P 5 10) k = some (u2 P 1 nl q 1 (S 42 k).toNatClampNeg)
    obtain ⟨j, hj, ej⟩ := hwn k hk
    have cw := c7.2 k hk
    rw [ej, nI_clamp (by omega)] at cw ⊢
    rw [u2_ne2 _ _ (by omega), r10]
    exact cw
  · change u2 P 1 nl q 1 x = u2 P 1 nl q 1 y at z
    by_cases e1 : x = nl
    · by_cases e2 : y = nl
      · omega
      · subst e1
        rw [u2_same, u2_ne2 _ _ e2] at z
        exact absurd z.symm (hne y (by omega))
    · by_cases e2 : y = nl
      · subst e2
        rw [u2_same, u2_ne2 _ _ e1] at z
        exact absurd z (hne x (by omega))
      · rw [u2_ne2 _ _ e1, u2_ne2 _ _ e2] at z
        exact c8.2.1 x y (by omega) (by omega) z
theorem CP.pushF (c : CP h S P T nf nl nb ns nt nk nw) {q q3 q4 : Nat} (hn : nf < 40) (hnl : nl ≤ 200) (oq : h_ok h q 3) (hne : ∀ i, i < nf → P 0 i ≠ q ∧ P 3 i ≠ q3 ∧ P 4 i ≠ q4) (h37 : q3 ≠ P 5 7 ∧ q3 ≠ P 5 10) (hF : ∀ a, a < nl → S 25 a = -1 ∨ ∃ j, j < nf ∧ S 25 a = nI j) (hs : ∀ k, k < ns → ∃ j, j < nf ∧ S 13 k = nI j)
    (i1 : h_I h 192 q = nI nf ∧ h_I h 193 q = S 9 nf ∧ h_I h 194 q = S 11 nf ∧ h_I h 195 q = S 10 nf ∧ h_I h 196 q = S 12 nf) (x1 : h_R h 197 q = some q3 ∧ h_ok h q3 15 ∧ h_N h q3 = 41) (x2 : h_R h 198 q = some q4 ∧ h_ok h q4 17 ∧ h_N h q4 = 41) (z3 : ∀ y, h_B h q3 y = none) (z4 : ∀ y, h_B h q4 y = none) : CP (s_B h (P 5 6) nf (some q)) S (u2 (u2 (u2 P 0 nf q) 3 nf q3) 4 nf q4) (upU T 0 nf []) (nf + 1) nl nb ns nt nk nw := by
  obtain ⟨c1, c2, c3, c4, c5, c6, c7, c8⟩ := c
  have e : Ex2 (fun _ => false) h (s_B h (P 5 6) nf (some q)) := Ex2.sB
  have w := c2.2.2.1.2.1
  have hB : ∀ r, r ≠ P 5 6 → ∀ i, h_B (s_B h (P 5 6) nf (some q)) r i = h_B h r i := fun r n i => by rw [g_BB, if_neg n]
  have a0 : ∀ x, (u2 (u2 (u2 P 0 nf q) 3 nf q3) 4 nf q4) 0 x = u2 P 0 nf q 0 x := fun _ => rfl
  have a3 : ∀ x, (u2 (u2 (u2 P 0 nf q) 3 nf q3) 4 nf q4) 3 x = u2 P 3 nf q3 3 x := fun _ => rfl
  have a4 : ∀ x, (u2 (u2 (u2 P 0 nf q) 3 nf q3) 4 nf q4) 4 x = u2 P 4 nf q4 4 x := fun _ => rfl
  have inj : ∀ (k : Nat) (qq : Nat), (∀ i, i < nf → P k i ≠ qq) → (∀ i j, i < nf → j < nf → P k i = P k j → i = j) → ∀ x y, x < nf + 1 → y < nf + 1 → u2 P k nf qq k x = u2 P k nf qq k y → x = y := fun k qq hq hd x y hx hy z => by
    by_cases e1 : x = nf
    · by_cases e2 : y = nf
      · omega
      · subst e1
        rw [u2_same, u2_ne2 _ _ e2] at z
        exact absurd z.symm (hq y (by omega))
    · by_cases e2 : y = nf
      · subst e2
        rw [u2_same, u2_ne2 _ _ e1] at z
        exact absurd z (hq x (by omega))
      · rw [u2_ne2 _ _ e1, u2_ne2 _ _ e2] at z
        exact hd x y (by omega) (by omega) z
  refine ⟨c1.e2 e (fun _ _ => rfl), c2.e2 e (fun _ _ => rfl) (fun _ _ _ => Or.inr ⟨rfl, rfl⟩), fun f hf => ?_, fun a ha => ?_, c5.e2 e (fun _ _ => rfl) (fun a _ => hB _ (ok_ne c2.2.2.2.2.1.2.1 w (by decide)) a), c6.e2 e (fun _ _ => rfl) (fun a _ => hB _ (ok_ne c2.2.2.2.2.2.2.1 w (by decide)) a), ⟨c7.1, fun k hk => (hB _ (ok_ne c1.2.2.2.2.2.1.1 w (by decide)) k).trans (c7.2 k hk)⟩, ⟨inj 0 q (fun i hi => (hne i hi).1) c8.1, c8.2.1, c8.2.2.1, inj 3 q3 (fun i hi => (hne i hi).2.1) c8.2.2.2.1, inj 4 q4 (fun i hi => (hne i hi).2.2) c8.2.2.2.2.1, fun i hi => ?_, c8.2.2.2.2.2.2⟩⟩
  · by_cases ef : f = nf
    · subst ef
      have eP : (u2 (u2 (u2 P 0 f q) 3 f q3) 4 f q4) 0 f = q := (a0 f).trans (u2_same _ _ _ _)
      have eP3 : (u2 (u2 (u2 P 0 f q) 3 f q3) 4 f q4) 3 f = q3 := (a3 f).trans (u2_same _ _ _ _)
      have eP4 : (u2 (u2 (u2 P 0 f q) 3 f q3) 4 f q4) 4 f = q4 := (a4 f).trans (u2_same _ _ _ _)
      have hr : h_B (s_B h (P 5 6) f (some q)) (P 5 6) f = some q := by rw [g_BB, if_pos rfl, if_pos rfl]
      refine ⟨⟨by rw [eP]; exact hr, by rw [eP]; exact oq⟩, by rw [eP]; exact i1, by rw [eP, eP3]; exact x1, by rw [eP, eP4]; exact x2, fun y hy => ?_⟩
      have el : lotInS S (nI f) (nI y) nl = -1 := by
        rcases lotIn_or (S := S) (f := nI f) (y := nI y) hnl with z | ⟨j, h1, h2⟩
        · exact z
        · obtain ⟨o, o1, o2, o3, o4, o5, o6⟩ := lotIn_at (S := S) (f := nI f) (y := nI y) hnl (by rw [h2]; exact nI_m1 (by omega))
          rcases hF o o1 with z | ⟨k, k1, k2⟩
          · rw [o5] at z; exact absurd z (nI_m1 (by omega))
          · rw [o5] at k2; have := (nI_eq (by omega) (by omega)).mp k2; omega
      have ed : dsc (tlB S (nI f) (nI y)) ns = [] := by
        cases hd : dsc (tlB S (nI f) (nI y)) ns with
        | nil => rfl
        | cons k ks =>
          have hm := dsc_mem (p := tlB S (nI f) (nI y)) (n := ns) (k := k) (by rw [hd]; exact List.mem_cons_self ..)
          obtain ⟨j, j1, j2⟩ := hs k hm.1
          have := (nI_eq (by omega) (by omega)).mp (j2.symm.trans (of_decide_eq_true hm.2).1)
          omega
      rw [eP3, eP4, el, adr_n, ed, upU_s]
      have g3 : h_B (s_B h (P 5 6) f (some q)) q3 y = none := (hB _ (ok_ne x1.2.1 w (by decide)) y).trans (z3 y)
      have g4 : h_B (s_B h (P 5 6) f (some q)) q4 y = none := (hB _ (ok_ne x2.2.1 w (by decide)) y).trans (z4 y)
      rw [g3, g4]
      exact ⟨rfl, rfl, trivial⟩
    · have eP : (u2 (u2 (u2 P 0 nf q) 3 nf q3) 4 nf q4) 0 f = P 0 f := (a0 f).trans (u2_ne2 _ _ ef)
      have eP3 : (u2 (u2 (u2 P 0 nf q) 3 nf q3) 4 nf q4) 3 f = P 3 f := (a3 f).trans (u2_ne2 _ _ ef)
      have eP4 : (u2 (u2 (u2 P 0 nf q) 3 nf q3) 4 nf q4) 4 f = P 4 f := (a4 f).trans (u2_ne2 _ _ ef)
      obtain ⟨⟨b1, o1⟩, ⟨i1, i2, i3, i4, i5⟩, ⟨q1, p1, n1⟩, ⟨q2, p2, n2⟩, qq⟩ := c3 f (by omega)
      refine ⟨⟨by rw [eP]; show h_B (s_B h (P 5 6) nf (some q)) (P 5 6) f = _; rw [g_BB, if_pos rfl, if_neg ef]; exact b1, by rw [eP]; exact o1⟩, by rw [eP]; exact ⟨i1, i2, i3, i4, i5⟩, by rw [eP, eP3]; exact ⟨q1, p1, n1⟩, by rw [eP, eP4]; exact ⟨q2, p2, n2⟩, fun y hy => ?_⟩
      rw [eP3, eP4, upU_n (fun z => ef z.2), hB _ (ok_ne p1 w (by decide)), hB _ (ok_ne p2 w (by decide))]
      exact ⟨(qq y hy).1, e.chnI (by decide) rfl _ _ (qq y hy).2.1, e.zTI rfl rfl _ _ _ (qq y hy).2.1 (qq y hy).2.2⟩
  · have c4' := c4.e2 e (fun _ _ => rfl) (fun a _ => hB _ (ok_ne c2.2.2.2.1.2.1 w (by decide)) a) a ha
    obtain ⟨b1, i1, ⟨r1, r2, r3⟩, j1, k1⟩ := c4'
    exact ⟨b1, i1, ⟨r1.trans (adr_u (hF a ha) (by omega)).symm, r2, r3⟩, j1, k1⟩
  · show u2 P 3 nf q3 3 i ≠ P 5 7 ∧ u2 P 3 nf q3 3 i ≠ P 5 10
    by_cases ei : i = nf
    · subst ei
      rw [u2_same]
      exact h37
    · rw [u2_ne2 _ _ ei]
      exact c8.2.2.2.2.2.1 i (by omega)
end GROWL
