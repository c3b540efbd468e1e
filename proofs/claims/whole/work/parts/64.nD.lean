theorem okL {h : jH} {a b k : Nat} {nu so cr yr : Int32} (o : h_ok h a k) : h_ok (hL_ h b nu so cr yr) a k := by
  unfold hL_
  exact (okI (okI (okI (okI (okI (okI (okI (okI (okI (okI (okR (okI (okI (okI (okI (okI (okI (okR (okR (okR o))))))))))))))))))))
theorem exL {h0 h : jH} {q : Nat} {nu so cr yr : Int32} (x : Ex h0 h) (hq : q ∉ h_L h0) : Ex h0 (hL_ h q nu so cr yr) := by
  unfold hL_
  exact ((((((((((((((((((((x).sR hq).sR hq).sR hq).sI hq).sI hq).sI hq).sI hq).sI hq).sI hq).sR hq).sI hq).sI hq).sI hq).sI hq).sI hq).sI hq).sI hq).sI hq).sI hq).sI hq
theorem frL {P : Nat → Nat → Nat} {h : jH} {q : Nat} {nu so cr yr : Int32} : FrC P h (hL_ h q nu so cr yr) := by
  unfold hL_
  exact ((((((((((((((((((((FrC.rf).tr (FrC.sR (by decide))).tr (FrC.sR (by decide))).tr (FrC.sR (by decide))).tr (FrC.sI (by decide))).tr (FrC.sI (by decide))).tr (FrC.sI (by decide))).tr (FrC.sI (by decide))).tr (FrC.sI (by decide))).tr (FrC.sI (by decide))).tr (FrC.sR (by decide))).tr (FrC.sI (by decide))).tr (FrC.sI (by decide))).tr (FrC.sI (by decide))).tr (FrC.sI (by decide))).tr (FrC.sI (by decide))).tr (FrC.sI (by decide))).tr (FrC.sI (by decide))).tr (FrC.sI (by decide))).tr (FrC.sI (by decide))).tr (FrC.sI (by decide))
theorem hL_B {h : jH} {q : Nat} {nu so cr yr : Int32} (a i : Nat) : h_B (hL_ h q nu so cr yr) a i = h_B h a i := by
  unfold hL_
  rw [g_BI, g_BI, g_BI, g_BI, g_BI, g_BI, g_BI, g_BI, g_BI, g_BI, g_BR, g_BI, g_BI, g_BI, g_BI, g_BI, g_BI, g_BR, g_BR, g_BR]
theorem hL_N {h : jH} {q : Nat} {nu so cr yr : Int32} (a : Nat) : h_N (hL_ h q nu so cr yr) a = h_N h a := by
  unfold hL_
  rw [g_NI, g_NI, g_NI, g_NI, g_NI, g_NI, g_NI, g_NI, g_NI, g_NI, g_NR, g_NI, g_NI, g_NI, g_NI, g_NI, g_NI, g_NR, g_NR, g_NR]
theorem hL_391 {h : jH} {q : Nat} {nu so cr yr : Int32} : h_I (hL_ h q nu so cr yr) 391 q = 0 := by
  unfold hL_
  rw [g_II, if_neg (by decide), g_II, if_neg (by decide), g_II, if_neg (by decide), g_II, if_neg (by decide), g_II, if_neg (by decide), g_II, if_neg (by decide), g_II, if_neg (by decide), g_II, if_neg (by decide), g_II, if_neg (by decide), g_II, if_neg (by decide), g_IR, g_II, if_neg (by decide), g_II, if_neg (by decide), g_II, if_neg (by decide), g_II, if_neg (by decide), g_II, if_neg (by decide), g_II, if_pos rfl, if_pos rfl]
theorem hL_392 {h : jH} {q : Nat} {nu so cr yr : Int32} : h_I (hL_ h q nu so cr yr) 392 q = (-1) := by
  unfold hL_
  rw [g_II, if_neg (by decide), g_II, if_neg (by decide), g_II, if_neg (by decide), g_II, if_neg (by decide), g_II, if_neg (by decide), g_II, if_neg (by decide), g_II, if_neg (by decide), g_II, if_neg (by decide), g_II, if_neg (by decide), g_II, if_neg (by decide), g_IR, g_II, if_neg (by decide), g_II, if_neg (by decide), g_II, if_neg (by decide), g_II, if_neg (by decide), g_II, if_pos rfl, if_pos rfl]
theorem hL_393 {h : jH} {q : Nat} {nu so cr yr : Int32} : h_I (hL_ h q nu so cr yr) 393 q = 0 := by
  unfold hL_
  rw [g_II, if_neg (by decide), g_II, if_neg (by decide), g_II, if_neg (by decide), g_II, if_neg (by decide), g_II, if_neg (by decide), g_II, if_neg (by decide), g_II, if_neg (by decide), g_II, if_neg (by decide), g_II, if_neg (by decide), g_II, if_neg (by decide), g_IR, g_II, if_neg (by decide), g_II, if_neg (by decide), g_II, if_neg (by decide), g_II, if_pos rfl, if_pos rfl]
theorem hL_394 {h : jH} {q : Nat} {nu so cr yr : Int32} : h_I (hL_ h q nu so cr yr) 394 q = 0 := by
  unfold hL_
  rw [g_II, if_neg (by decide), g_II, if_neg (by decide), g_II, if_neg (by decide), g_II, if_neg (by decide), g_II, if_neg (by decide), g_II, if_neg (by decide), g_II, if_neg (by decide), g_II, if_neg (by decide), g_II, if_neg (by decide), g_II, if_neg (by decide), g_IR, g_II, if_neg (by decide), g_II, if_neg (by decide), g_II, if_pos rfl, if_pos rfl]
theorem hL_395 {h : jH} {q : Nat} {nu so cr yr : Int32} : h_I (hL_ h q nu so cr yr) 395 q = 0 := by
  unfold hL_
  rw [g_II, if_neg (by decide), g_II, if_neg (by decide), g_II, if_neg (by decide), g_II, if_neg (by decide), g_II, if_neg (by decide), g_II, if_neg (by decide), g_II, if_neg (by decide), g_II, if_neg (by decide), g_II, if_neg (by decide), g_II, if_neg (by decide), g_IR, g_II, if_neg (by decide), g_II, if_pos rfl, if_pos rfl]
theorem hL_396 {h : jH} {q : Nat} {nu so cr yr : Int32} : h_I (hL_ h q nu so cr yr) 396 q = 0 := by
  unfold hL_
  rw [g_II, if_neg (by decide), g_II, if_neg (by decide), g_II, if_neg (by decide), g_II, if_neg (by decide), g_II, if_neg (by decide), g_II, if_neg (by decide), g_II, if_neg (by decide), g_II, if_neg (by decide), g_II, if_neg (by decide), g_II, if_neg (by decide), g_IR, g_II, if_pos rfl, if_pos rfl]
theorem hL_398 {h : jH} {q : Nat} {nu so cr yr : Int32} : h_I (hL_ h q nu so cr yr) 398 q = (-1) := by
  unfold hL_
  rw [g_II, if_neg (by decide), g_II, if_neg (by decide), g_II, if_neg (by decide), g_II, if_neg (by decide), g_II, if_neg (by decide), g_II, if_neg (by decide), g_II, if_neg (by decide), g_II, if_neg (by decide), g_II, if_neg (by decide), g_II, if_pos rfl, if_pos rfl]
theorem hL_399 {h : jH} {q : Nat} {nu so cr yr : Int32} : h_I (hL_ h q nu so cr yr) 399 q = 0 := by
  unfold hL_
  rw [g_II, if_neg (by decide), g_II, if_neg (by decide), g_II, if_neg (by decide), g_II, if_neg (by decide), g_II, if_neg (by decide), g_II, if_neg (by decide), g_II, if_neg (by decide), g_II, if_neg (by decide), g_II, if_pos rfl, if_pos rfl]
theorem hL_400 {h : jH} {q : Nat} {nu so cr yr : Int32} : h_I (hL_ h q nu so cr yr) 400 q = 0 := by
  unfold hL_
  rw [g_II, if_neg (by decide), g_II, if_neg (by decide), g_II, if_neg (by decide), g_II, if_neg (by decide), g_II, if_neg (by decide), g_II, if_neg (by decide), g_II, if_neg (by decide), g_II, if_pos rfl, if_pos rfl]
theorem hL_401 {h : jH} {q : Nat} {nu so cr yr : Int32} : h_I (hL_ h q nu so cr yr) 401 q = 0 := by
  unfold hL_
  rw [g_II, if_neg (by decide), g_II, if_neg (by decide), g_II, if_neg (by decide), g_II, if_neg (by decide), g_II, if_neg (by decide), g_II, if_neg (by decide), g_II, if_pos rfl, if_pos rfl]
theorem hL_402 {h : jH} {q : Nat} {nu so cr yr : Int32} : h_I (hL_ h q nu so cr yr) 402 q = 0 := by
  unfold hL_
  rw [g_II, if_neg (by decide), g_II, if_neg (by decide), g_II, if_neg (by decide), g_II, if_neg (by decide), g_II, if_neg (by decide), g_II, if_pos rfl, if_pos rfl]
theorem hL_403 {h : jH} {q : Nat} {nu so cr yr : Int32} : h_I (hL_ h q nu so cr yr) 403 q = 0 := by
  unfold hL_
  rw [g_II, if_neg (by decide), g_II, if_neg (by decide), g_II, if_neg (by decide), g_II, if_neg (by decide), g_II, if_pos rfl, if_pos rfl]
theorem hL_384 {h : jH} {q : Nat} {nu so cr yr : Int32} : h_I (hL_ h q nu so cr yr) 384 q = nu := by
  unfold hL_
  rw [g_II, if_neg (by decide), g_II, if_neg (by decide), g_II, if_neg (by decide), g_II, if_pos rfl, if_pos rfl]
theorem hL_385 {h : jH} {q : Nat} {nu so cr yr : Int32} : h_I (hL_ h q nu so cr yr) 385 q = so := by
  unfold hL_
  rw [g_II, if_neg (by decide), g_II, if_neg (by decide), g_II, if_pos rfl, if_pos rfl]
theorem hL_386 {h : jH} {q : Nat} {nu so cr yr : Int32} : h_I (hL_ h q nu so cr yr) 386 q = cr := by
  unfold hL_
  rw [g_II, if_neg (by decide), g_II, if_pos rfl, if_pos rfl]
theorem hL_387 {h : jH} {q : Nat} {nu so cr yr : Int32} : h_I (hL_ h q nu so cr yr) 387 q = yr := by
  unfold hL_
  rw [g_II, if_pos rfl, if_pos rfl]
theorem hL_r388 {h : jH} {q : Nat} {nu so cr yr : Int32} : h_R (hL_ h q nu so cr yr) 388 q = none := by
  unfold hL_
  rw [g_RI, g_RI, g_RI, g_RI, g_RI, g_RI, g_RI, g_RI, g_RI, g_RI, g_RR, if_neg (by decide), g_RI, g_RI, g_RI, g_RI, g_RI, g_RI, g_RR, if_neg (by decide), g_RR, if_neg (by decide), g_RR, if_pos rfl, if_pos rfl]
theorem hL_r389 {h : jH} {q : Nat} {nu so cr yr : Int32} : h_R (hL_ h q nu so cr yr) 389 q = none := by
  unfold hL_
  rw [g_RI, g_RI, g_RI, g_RI, g_RI, g_RI, g_RI, g_RI, g_RI, g_RI, g_RR, if_neg (by decide), g_RI, g_RI, g_RI, g_RI, g_RI, g_RI, g_RR, if_neg (by decide), g_RR, if_pos rfl, if_pos rfl]
theorem hL_r390 {h : jH} {q : Nat} {nu so cr yr : Int32} : h_R (hL_ h q nu so cr yr) 390 q = none := by
  unfold hL_
  rw [g_RI, g_RI, g_RI, g_RI, g_RI, g_RI, g_RI, g_RI, g_RI, g_RI, g_RR, if_neg (by decide), g_RI, g_RI, g_RI, g_RI, g_RI, g_RI, g_RR, if_pos rfl, if_pos rfl]
theorem hL_r397 {h : jH} {q : Nat} {nu so cr yr : Int32} : h_R (hL_ h q nu so cr yr) 397 q = none := by
  unfold hL_
  rw [g_RI, g_RI, g_RI, g_RI, g_RI, g_RI, g_RI, g_RI, g_RI, g_RI, g_RR, if_pos rfl, if_pos rfl]
theorem gI_n {h : jH} {f q a g : Nat} {v : Int32} (n : a ≠ q) : h_I (s_I h f q v) g a = h_I h g a := by
  rw [g_II, if_neg n, ite_self]
theorem gR_n {h : jH} {f q a g : Nat} {v : Option Nat} (n : a ≠ q) : h_R (s_R h f q v) g a = h_R h g a := by
  rw [g_RR, if_neg n, ite_self]
theorem gI_O {h : jH} {q a g k : Nat} (n : a ≠ q) : h_I (s_O h q k) g a = h_I h g a := by
  rw [g_IO, if_neg n]
theorem gR_O {h : jH} {q a g k : Nat} (n : a ≠ q) : h_R (s_O h q k) g a = h_R h g a := by
  rw [g_RO, if_neg n]
theorem hL_In {h : jH} {q : Nat} {nu so cr yr : Int32} {a g : Nat} (n : a ≠ q) : h_I (hL_ h q nu so cr yr) g a = h_I h g a := by
  unfold hL_
  rw [gI_n n, gI_n n, gI_n n, gI_n n, gI_n n, gI_n n, gI_n n, gI_n n, gI_n n, gI_n n, g_IR, gI_n n, gI_n n, gI_n n, gI_n n, gI_n n, gI_n n, g_IR, g_IR, g_IR]
theorem hL_Rn {h : jH} {q : Nat} {nu so cr yr : Int32} {a g : Nat} (n : a ≠ q) : h_R (hL_ h q nu so cr yr) g a = h_R h g a := by
  unfold hL_
  rw [g_RI, g_RI, g_RI, g_RI, g_RI, g_RI, g_RI, g_RI, g_RI, g_RI, gR_n n, g_RI, g_RI, g_RI, g_RI, g_RI, g_RI, gR_n n, gR_n n, gR_n n]
theorem CP.pushL0 {h : jH} {S : Nat → Nat → Int32} {P : Nat → Nat → Nat} {T : Nat → Nat → Nat → List Nat} {nf nl nb ns nt nk nw : Nat} (c : CP h S P T nf nl nb ns nt nk nw) {q : Nat} (hn : nl < 200) (oq : h_ok h q 6) (hne : ∀ i, i < nl → P 1 i ≠ q)
    (hA : ∀ a, a < nl + 1 → S 26 a = -1 ∨ ∃ j, j < nl ∧ S 26 a = nI j) (hB : ∀ a, a < nl + 1 → S 27 a = -1 ∨ ∃ j, j < nl ∧ S 27 a = nI j) (hbl : ∀ b, b < nb → ∃ j, j < nl ∧ S 38 b = nI j) (hwn : ∀ k, k < nw → ∃ j, j < nl ∧ S 42 k = nI j) (hK : ∀ k, k < nk → ¬ S 34 k = nI nl)
    (i1 : h_I h 384 q = nI nl ∧ h_I h 385 q = S 21 nl ∧ h_I h 386 q = S 22 nl ∧ h_I h 387 q = S 24 nl) (R1 : h_R h 388 q = adr P 0 (S 25 nl) ∧ h_R h 389 q = adr P 1 (S 26 nl) ∧ h_R h 390 q = adr P 1 (S 27 nl)) (j1 : h_I h 391 q = S 23 nl ∧ h_I h 392 q = S 28 nl ∧ h_I h 393 q = S 29 nl ∧ h_I h 394 q = S 30 nl ∧ h_I h 395 q = S 31 nl ∧ h_I h 396 q = S 32 nl ∧ h_I h 398 q = S 33 nl) (k1 : h_R h 397 q = none) (h21 : ¬ S 21 nl = 1) : CP (s_B h (P 5 7) nl (some q)) S (u2 P 1 nl q) (upU T 2 nl []) nf (nl + 1) nb ns nt nk nw := by
  have w := c.2.1.2.2.2.1.2.1
  have hR : ∀ r, r ≠ P 5 7 → ∀ i, h_B (s_B h (P 5 7) nl (some q)) r i = h_B h r i := fun r n i => by rw [g_BB, if_neg n]
  refine c.pushL (q := q) hn Ex2.sB oq hne hA hB hbl hwn hK (fun f _ => hR _ (ok_ne c.2.1.2.2.1.2.1 w (by decide)) f) (fun a ha => by rw [g_BB, if_pos rfl, if_neg (by omega)]) (by rw [g_BB, if_pos rfl, if_pos rfl]) (fun a => hR _ (ok_ne c.2.1.2.2.2.2.1.2.1 w (by decide)) a) (fun a => hR _ (ok_ne c.2.1.2.2.2.2.2.2.1 w (by decide)) a) (fun a => hR _ (fun e => c.2.2.2.2.2.2.2.2.2.2.2.2.2.1 e.symm) a) (fun f hf y => hR _ (ok_ne (c.2.2.1 f hf).2.2.2.1.2.1 w (by decide)) y) (fun f hf y hy => ?_) i1 R1 j1 k1
  rw [hR _ (c.2.2.2.2.2.2.2.2.2.2.2.2.1 f hf).1, ((c.2.2.1 f hf).2.2.2.2 y hy).1, lotIn_s (by omega), if_neg (fun z : S 21 nl = 1 ∧ _ => h21 z.1)]
  by_cases e : lotInS S (nI f) (nI y) nl = -1
  · rw [if_pos e, e, adr_n, adr_n]
  · rw [if_neg e, adr_u (lotIn_or (by omega)) (by omega)]
theorem CP.pushL1 {h : jH} {S : Nat → Nat → Int32} {P : Nat → Nat → Nat} {T : Nat → Nat → Nat → List Nat} {nf nl nb ns nt nk nw : Nat} (c : CP h S P T nf nl nb ns nt nk nw) {q : Nat} (hn : nl < 200) (oq : h_ok h q 6) (hne : ∀ i, i < nl → P 1 i ≠ q)
    (hA : ∀ a, a < nl + 1 → S 26 a = -1 ∨ ∃ j, j < nl ∧ S 26 a = nI j) (hB : ∀ a, a < nl + 1 → S 27 a = -1 ∨ ∃ j, j < nl ∧ S 27 a = nI j) (hbl : ∀ b, b < nb → ∃ j, j < nl ∧ S 38 b = nI j) (hwn : ∀ k, k < nw → ∃ j, j < nl ∧ S 42 k = nI j) (hK : ∀ k, k < nk → ¬ S 34 k = nI nl)
    (i1 : h_I h 384 q = nI nl ∧ h_I h 385 q = S 21 nl ∧ h_I h 386 q = S 22 nl ∧ h_I h 387 q = S 24 nl) (R1 : h_R h 388 q = adr P 0 (S 25 nl) ∧ h_R h 389 q = adr P 1 (S 26 nl) ∧ h_R h 390 q = adr P 1 (S 27 nl)) (j1 : h_I h 391 q = S 23 nl ∧ h_I h 392 q = S 28 nl ∧ h_I h 393 q = S 29 nl ∧ h_I h 394 q = S 30 nl ∧ h_I h 395 q = S 31 nl ∧ h_I h 396 q = S 32 nl ∧ h_I h 398 q = S 33 nl) (k1 : h_R h 397 q = none) {f y : Nat} (hf : f < nf) (hnf : nf ≤ 40) (hy : y < 41) (h21 : S 21 nl = 1) (h25 : S 25 nl = nI f) (h24 : S 24 nl = nI y) (hno : lotInS S (nI f) (nI y) nl = -1) : CP (s_B (s_B h (P 3 f) y (some q)) (P 5 7) nl (some q)) S (u2 P 1 nl q) (upU T 2 nl []) nf (nl + 1) nb ns nt nk nw := by
  have w := c.2.1.2.2.2.1.2.1
  have w3 := (c.2.2.1 f hf).2.2.1.2.1
  have n37 := (c.2.2.2.2.2.2.2.2.2.2.2.2.1 f hf)
  have hR : ∀ r, r ≠ P 5 7 → r ≠ P 3 f → ∀ i, h_B (s_B (s_B h (P 3 f) y (some q)) (P 5 7) nl (some q)) r i = h_B h r i := fun r n m i => by rw [g_BB, if_neg n, g_BB, if_neg m]
  refine c.pushL (q := q) hn (Ex2.sB.tr Ex2.sB) oq hne hA hB hbl hwn hK (fun f _ => hR _ (ok_ne c.2.1.2.2.1.2.1 w (by decide)) (ok_ne c.2.1.2.2.1.2.1 w3 (by decide)) f) (fun a ha => by rw [g_BB, if_pos rfl, if_neg (by omega), g_BB, if_neg (fun e => n37.1 e.symm)]) (by rw [g_BB, if_pos rfl, if_pos rfl]) (fun a => hR _ (ok_ne c.2.1.2.2.2.2.1.2.1 w (by decide)) (ok_ne c.2.1.2.2.2.2.1.2.1 w3 (by decide)) a) (fun a => hR _ (ok_ne c.2.1.2.2.2.2.2.2.1 w (by decide)) (ok_ne c.2.1.2.2.2.2.2.2.1 w3 (by decide)) a) (fun a => hR _ (fun e => c.2.2.2.2.2.2.2.2.2.2.2.2.2.1 e.symm) (fun e => n37.2 e.symm) a) (fun f' hf' y => hR _ (ok_ne (c.2.2.1 f' hf').2.2.2.1.2.1 w (by decide)) (ok_ne (c.2.2.1 f' hf').2.2.2.1.2.1 w3 (by decide)) y) (fun f' hf' y' hy' => ?_) i1 R1 j1 k1
  rw [g_BB, if_neg (c.2.2.2.2.2.2.2.2.2.2.2.2.1 f' hf').1, g_BB, lotIn_s (by omega)]
  by_cases e : f' = f ∧ y' = y
  · obtain ⟨e1, e2⟩ := e
    subst e1
    subst e2
    rw [if_pos rfl, if_pos rfl, if_pos hno, if_pos ⟨h21, h25, h24⟩, adr_i (by omega), u2_same]
  · have hold : (if P 3 f' = P 3 f then (if y' = y then some q else h_B h (P 3 f') y') else h_B h (P 3 f') y') = h_B h (P 3 f') y' := by
      by_cases e1 : f' = f
      · rw [if_pos (by rw [e1]), if_neg (fun z => e ⟨e1, z⟩)]
      · rw [if_neg (fun z => e1 (c.2.2.2.2.2.2.2.2.2.2.1 f' f hf' hf z))]
    rw [hold, ((c.2.2.1 f' hf').2.2.2.2 y' hy').1, if_neg (show ¬ (S 21 nl = 1 ∧ S 25 nl = nI f' ∧ S 24 nl = nI y') from fun z => e ⟨((nI_eq (by omega) (by omega)).mp (h25.symm.trans z.2.1)).symm, ((nI_eq (by omega) (by omega)).mp (h24.symm.trans z.2.2)).symm⟩)]
    by_cases e1 : lotInS S (nI f') (nI y') nl = -1
    · rw [if_pos e1, e1, adr_n, adr_n]
    · rw [if_neg e1, adr_u (lotIn_or (by omega)) (by omega)]
