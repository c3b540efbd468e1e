/-! the picture grows -/
def upT (T : Nat → Nat → Nat → List Nat) (k0 i0 y0 : Nat) (l : List Nat) : Nat → Nat → Nat → List Nat := fun k i y => if k = k0 then (if i = i0 then (if y = y0 then l else T k i y) else T k i y) else T k i y
def upU (T : Nat → Nat → Nat → List Nat) (k0 i0 : Nat) (l : List Nat) : Nat → Nat → Nat → List Nat := fun k i y => if k = k0 then (if i = i0 then l else T k i y) else T k i y
theorem upT_s {T : Nat → Nat → Nat → List Nat} {k i y : Nat} {l : List Nat} : upT T k i y l k i y = l := by unfold upT; rw [if_pos rfl, if_pos rfl, if_pos rfl]
theorem upT_n {T : Nat → Nat → Nat → List Nat} {k i y k' i' y' : Nat} {l : List Nat} (h : ¬ (k' = k ∧ i' = i ∧ y' = y)) : upT T k i y l k' i' y' = T k' i' y' := by
  unfold upT
  by_cases h1 : k' = k
  · by_cases h2 : i' = i
    · rw [if_pos h1, if_pos h2, if_neg (fun h3 => h ⟨h1, h2, h3⟩)]
    · rw [if_pos h1, if_neg h2]
  · rw [if_neg h1]
theorem upU_s {T : Nat → Nat → Nat → List Nat} {k i y : Nat} {l : List Nat} : upU T k i l k i y = l := by unfold upU; rw [if_pos rfl, if_pos rfl]
theorem upU_n {T : Nat → Nat → Nat → List Nat} {k i k' i' y' : Nat} {l : List Nat} (h : ¬ (k' = k ∧ i' = i)) : upU T k i l k' i' y' = T k' i' y' := by
  unfold upU
  by_cases h1 : k' = k
  · rw [if_pos h1, if_neg (fun h2 => h ⟨h1, h2⟩)]
  · rw [if_neg h1]
theorem adr_u {P : Nat → Nat → Nat} {k n q : Nat} {v : Int32} (h : v = -1 ∨ ∃ j, j < n ∧ v = nI j) (hn : n < 2 ^ 31) : adr (u2 P k n q) k v = adr P k v := by
  rcases h with e | ⟨j, hj, e⟩
  · rw [e, adr_n, adr_n]
  · rw [e, adr_i (by omega), adr_i (by omega), u2_ne2 _ _ (by omega)]
section GROW
variable {h : jH} {S : Nat → Nat → Int32} {P : Nat → Nat → Nat} {T : Nat → Nat → Nat → List Nat} {nf nl nb ns nt nk nw : Nat}
theorem CP.pushS (c : CP h S P T nf nl nb ns nt nk nw) {q kd : Nat} (hk : kd < 5) (oq : h_ok h q 8) (hS : S 17 nt = nI kd) (h1 : h_R h 512 q = h_B h (P 5 9) kd) (h2 : h_I h 513 q = S 20 nt) (h3 : h_I h 514 q = S 18 nt) (h4 : h_I h 515 q = S 19 nt) : CP (s_B h (P 5 9) kd (some q)) S P (upT T 1 kd 0 (q :: T 1 kd 0)) nf nl nb ns (nt + 1) nk nw := by
  obtain ⟨c1, c2, c3, c4, c5, c6, c7, c8⟩ := c
  have e : Ex2 (fun _ => false) h (s_B h (P 5 9) kd (some q)) := Ex2.sB
  have w := c2.2.2.2.2.2.2.1
  have hB : ∀ r, r ≠ P 5 9 → ∀ i, h_B (s_B h (P 5 9) kd (some q)) r i = h_B h r i := fun r n i => by rw [g_BB, if_neg n]
  refine ⟨c1.e2 e (fun _ _ => rfl), c2.e2 e (fun _ _ => rfl) (fun _ _ _ => Or.inr ⟨rfl, rfl⟩), c3.e2 e (fun _ _ => rfl) (fun f _ => hB _ (ok_ne c2.2.2.1.2.1 w (by decide)) f) (fun f hf y _ => hB _ (ok_ne (c3 f hf).2.2.1.2.1 w (by decide)) y) (fun f hf y _ => hB _ (ok_ne (c3 f hf).2.2.2.1.2.1 w (by decide)) y), c4.e2 e (fun _ _ => rfl) (fun a _ => hB _ (ok_ne c2.2.2.2.1.2.1 w (by decide)) a), c5.e2 e (fun _ _ => rfl) (fun a _ => hB _ (ok_ne c2.2.2.2.2.1.2.1 w (by decide)) a), fun kd' hk' => ?_, ⟨c7.1, fun k hk => (hB _ (ok_ne c1.2.2.2.2.2.1.1 w (by decide)) k).trans (c7.2 k hk)⟩, c8⟩
  have c6' := c6 kd' hk'
  rw [dsc_s]
  by_cases e1 : kd' = kd
  · subst e1
    rw [upT_s, if_pos (show knB S (nI kd') nt = true from decide_eq_true hS), g_BB, if_pos rfl, if_pos rfl]
    refine ⟨⟨rfl, oq, ?_⟩, h2, h3, h4, e.zSI rfl rfl rfl _ _ _ c6'.1 c6'.2⟩
    show chn _ 8 512 (h_R h 512 q) _
    rw [h1]
    exact e.chnI (by decide) rfl _ _ c6'.1
  · rw [upT_n (fun z => e1 z.2.1), if_neg (show ¬ knB S (nI kd') nt = true from fun z => e1 (((nI_eq (by omega) (by omega)).mp (hS.symm.trans (of_decide_eq_true z))).symm)), g_BB, if_pos rfl, if_neg e1]
    exact ⟨e.chnI (by decide) rfl _ _ c6'.1, e.zSI rfl rfl rfl _ _ _ c6'.1 c6'.2⟩
theorem CP.pushT (c : CP h S P T nf nl nb ns nt nk nw) {q f y : Nat} (hf : f < nf) (hnf : nf ≤ 40) (hy : y < 41) (oq : h_ok h q 9) (hS : S 13 ns = nI f) (hS2 : S 14 ns = nI y) (h1 : h_R h 576 q = h_B h (P 4 f) y) (h2 : h_I h 577 q = S 16 ns) (h3 : h_I h 578 q = S 15 ns) : CP (s_B h (P 4 f) y (some q)) S P (upT T 0 f y (q :: T 0 f y)) nf nl nb (ns + 1) nt nk nw := by
  obtain ⟨c1, c2, c3, c4, c5, c6, c7, c8⟩ := c
  have e : Ex2 (fun _ => false) h (s_B h (P 4 f) y (some q)) := Ex2.sB
  have w := (c3 f hf).2.2.2.1.2.1
  have hB : ∀ r, r ≠ P 4 f → ∀ i, h_B (s_B h (P 4 f) y (some q)) r i = h_B h r i := fun r n i => by rw [g_BB, if_neg n]
  refine ⟨c1.e2 e (fun _ _ => rfl), c2.e2 e (fun _ _ => rfl) (fun _ _ _ => Or.inr ⟨rfl, rfl⟩), fun f' hf' => ?_, c4.e2 e (fun _ _ => rfl) (fun a _ => hB _ (ok_ne c2.2.2.2.1.2.1 w (by decide)) a), c5.e2 e (fun _ _ => rfl) (fun a _ => hB _ (ok_ne c2.2.2.2.2.1.2.1 w (by decide)) a), c6.e2 e (fun _ _ => rfl) (fun a _ => hB _ (ok_ne c2.2.2.2.2.2.2.1 w (by decide)) a), ⟨c7.1, fun k hk => (hB _ (ok_ne c1.2.2.2.2.2.1.1 w (by decide)) k).trans (c7.2 k hk)⟩, c8⟩
  obtain ⟨b1, i1, r1, r2, qq⟩ := c3 f' hf'
  refine ⟨⟨(hB _ (ok_ne c2.2.2.1.2.1 w (by decide)) f').trans b1.1, b1.2⟩, i1, r1, r2, fun y' hy' => ⟨(hB _ (ok_ne r1.2.1 w (by decide)) y').trans (qq y' hy').1, ?_⟩⟩
  have q2 := (qq y' hy').2
  rw [dsc_s]
  by_cases e1 : f' = f ∧ y' = y
  · obtain ⟨e1, e2⟩ := e1
    subst e1
    subst e2
    rw [upT_s, if_pos (show tlB S (nI f') (nI y') ns = true from decide_eq_true ⟨hS, hS2⟩), g_BB, if_pos rfl, if_pos rfl]
    refine ⟨⟨rfl, oq, ?_⟩, h2, h3, e.zTI rfl rfl _ _ _ q2.1 q2.2⟩
    show chn _ 9 576 (h_R h 576 q) _
    rw [h1]
    exact e.chnI (by decide) rfl _ _ q2.1
  · rw [upT_n (fun z => e1 ⟨z.2.1, z.2.2⟩), if_neg (show ¬ tlB S (nI f') (nI y') ns = true from fun z => e1 (by
      have z' := of_decide_eq_true z
      exact ⟨((nI_eq (by omega) (by omega)).mp (hS.symm.trans z'.1)).symm, ((nI_eq (by omega) (by omega)).mp (hS2.symm.trans z'.2)).symm⟩))]
    have hr : h_B (s_B h (P 4 f) y (some q)) (P 4 f') y' = h_B h (P 4 f') y' := by
      rw [g_BB]
      by_cases e2 : f' = f
      · rw [if_pos (by rw [e2]), if_neg (fun z => e1 ⟨e2, z⟩)]
      · rw [if_neg (fun z => e2 (c8.2.2.2.2.1 f' f hf' hf z))]
    rw [hr]
    exact ⟨e.chnI (by decide) rfl _ _ q2.1, e.zTI rfl rfl _ _ _ q2.1 q2.2⟩
theorem CP.pushK (c : CP h S P T nf nl nb ns nt nk nw) {q a : Nat} (ha : a < nl) (hnl : nl ≤ 200) (oq : h_ok h q 5) (hS : S 34 nk = nI a) (h1 : h_R h 320 q = h_R h 397 (P 1 a)) (h2 : h_I h 321 q = S 37 nk) (h3 : h_I h 322 q = nI ((dsc (lkB S (nI a)) nk).length + 1)) (h4 : h_I h 323 q = sumR S 35 (nk :: dsc (lkB S (nI a)) nk)) (h5 : h_I h 324 q = sumR S 36 (nk :: dsc (lkB S (nI a)) nk)) : CP (s_R h 397 (P 1 a) (some q)) S P (upT T 2 a 0 (q :: T 2 a 0)) nf nl nb ns nt (nk + 1) nw := by
  obtain ⟨c1, c2, c3, c4, c5, c6, c7, c8⟩ := c
  have e : Ex2 (fun f => f == 397) h (s_R h 397 (P 1 a) (some q)) := Ex2.sR rfl
  have oq1 : q ≠ P 1 a := fun z => by have o := (c4 a ha).1.2; rw [← z] at o; exact absurd (oq.2.symm.trans o.2) (by decide)
  have hb : ∀ l : List Nat, l.all (fun f => f != 397) = true → ∀ f, f ∈ l → (f == 397) = false := fun l hl f hf => by
    have := List.all_eq_true.mp hl f hf
    simpa using this
  refine ⟨c1.e2 e (hb _ rfl), c2.e2 e (hb _ rfl) (fun f k hm => Or.inr ⟨hb [128, 130, 132, 134, 135, 137, 138, 139] rfl f (List.mem_map_of_mem (f := Prod.fst) hm), rfl⟩), c3.e2 e (hb _ rfl) (fun _ _ => rfl) (fun _ _ _ _ => rfl) (fun _ _ _ _ => rfl), fun a' ha' => ?_, c5.e2 e (hb _ rfl) (fun _ _ => rfl), c6.e2 e (hb _ rfl) (fun _ _ => rfl), c7, c8⟩
  obtain ⟨b1, i1, r1, j1, k1, k2⟩ := c4 a' ha'
  rw [dsc_s]
  have hz : ∀ as ks r, chn h 5 320 r as → zK h S as ks → zK (s_R h 397 (P 1 a) (some q)) S as ks := fun as ks r x z => e.zKI rfl rfl rfl rfl as ks r x z
  have hc : ∀ as r, chn h 5 320 r as → chn (s_R h 397 (P 1 a) (some q)) 5 320 r as := fun as r x => e.chnI (by decide) rfl as r x
  by_cases e1 : a' = a
  · subst e1
    refine ⟨b1, i1, ⟨r1.1, r1.2.1, r1.2.2⟩, j1, ?_⟩
    rw [upT_s, if_pos (show lkB S (nI a') nk = true from decide_eq_true hS), g_RR, if_pos rfl, if_pos rfl]
    refine ⟨⟨rfl, oq, ?_⟩, h2, h3, h4, h5, hz _ _ _ k1 k2⟩
    show chn _ 5 320 (h_R h 320 q) _
    rw [h1]
    exact hc _ _ k1
  · refine ⟨b1, i1, ⟨r1.1, r1.2.1, r1.2.2⟩, j1, ?_⟩
    rw [upT_n (fun z => e1 z.2.1), if_neg (show ¬ lkB S (nI a') nk = true from fun z => e1 (((nI_eq (by omega) (by omega)).mp (hS.symm.trans (of_decide_eq_true z))).symm)), g_RR, if_pos rfl, if_neg (fun z => e1 (c8.2.1 a' a ha' ha z))]
    exact ⟨hc _ _ k1, hz _ _ _ k1 k2⟩
theorem CP.pushB (c : CP h S P T nf nl nb ns nt nk nw) {q j : Nat} (hj : j < nl) (hnl : nl ≤ 200) (oq : h_ok h q 1) (hne : ∀ i, i < nb → P 2 i ≠ q) (hS : S 38 nb = nI j) (h1 : h_R h 64 q = some (P 1 j)) (h2 : h_I h 65 q = S 39 nb) (h3 : h_I h 66 q = S 40 nb) (h4 : h_I h 67 q = S 41 nb) : CP (s_B h (P 5 8) nb (some q)) S (u2 P 2 nb q) T nf nl (nb + 1) ns nt nk nw := by
  obtain ⟨c1, c2, c3, c4, c5, c6, c7, c8⟩ := c
  have e : Ex2 (fun _ => false) h (s_B h (P 5 8) nb (some q)) := Ex2.sB
  have w := c2.2.2.2.2.1.2.1
  have hB : ∀ r, r ≠ P 5 8 → ∀ i, h_B (s_B h (P 5 8) nb (some q)) r i = h_B h r i := fun r n i => by rw [g_BB, if_neg n]
  refine ⟨c1.e2 e (fun _ _ => rfl), c2.e2 e (fun _ _ => rfl) (fun _ _ _ => Or.inr ⟨rfl, rfl⟩), c3.e2 e (fun _ _ => rfl) (fun f _ => hB _ (ok_ne c2.2.2.1.2.1 w (by decide)) f) (fun f hf y _ => hB _ (ok_ne (c3 f hf).2.2.1.2.1 w (by decide)) y) (fun f hf y _ => hB _ (ok_ne (c3 f hf).2.2.2.1.2.1 w (by decide)) y), c4.e2 e (fun _ _ => rfl) (fun a _ => hB _ (ok_ne c2.2.2.2.1.2.1 w (by decide)) a), fun b hb => ?_, c6.e2 e (fun _ _ => rfl) (fun a _ => hB _ (ok_ne c2.2.2.2.2.2.2.1 w (by decide)) a), ⟨c7.1, fun k hk => (hB _ (ok_ne c1.2.2.2.2.2.1.1 w (by decide)) k).trans (c7.2 k hk)⟩, ⟨c8.1, c8.2.1, fun x y hx hy z => ?_, c8.2.2.2.1, c8.2.2.2.2.1, c8.2.2.2.2.2⟩⟩
  · show (h_B (s_B h (P 5 8) nb (some q)) (P 5 8) b = some (u2 P 2 nb q 2 b) ∧ h_ok _ (u2 P 2 nb q 2 b) 1) ∧ h_R _ 64 (u2 P 2 nb q 2 b) = some (P 1 (S 38 b).toNatClampNeg) ∧ h_I _ 65 (u2 P 2 nb q 2 b) = _ ∧ h_I _ 66 (u2 P 2 nb q 2 b) = _ ∧ h_I _ 67 (u2 P 2 nb q 2 b) = _
    by_cases e1 : b = nb
    · subst e1
      rw [u2_same, g_BB, if_pos rfl, if_pos rfl, hS, nI_clamp (by omega)]
      exact ⟨⟨rfl, oq⟩, h1, h2, h3, h4⟩
    · rw [u2_ne2 _ _ e1, g_BB, if_pos rfl, if_neg e1]
      exact c5 b (by omega)
  · change u2 P 2 nb q 2 x = u2 P 2 nb q 2 y at z
    by_cases e1 : x = nb
    · by_cases e2 : y = nb
      · omega
      · subst e1
        rw [u2_same, u2_ne2 _ _ e2] at z
        exact absurd z.symm (hne y (by omega))
    · by_cases e2 : y = nb
      · subst e2
        rw [u2_same, u2_ne2 _ _ e1] at z
        exact absurd z (hne x (by omega))
      · rw [u2_ne2 _ _ e1, u2_ne2 _ _ e2] at z
        exact c8.2.2.1 x y (by omega) (by omega) z
end GROW
