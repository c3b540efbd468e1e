/-! frames: heaps that keep what the picture speaks of -/
/-- h' has what h has: but for the scratch, the fields of b and the reference's object -/
def Ex2 (b : Nat → Bool) (h h' : jH) : Prop := ∀ a k, h_ok h a k → k ≠ 11 → h_ok h' a k ∧ h_N h' a = h_N h a ∧ (∀ f, scr f = false → b f = false → h_I h' f a = h_I h f a) ∧ (∀ f, b f = false → h_R h' f a = h_R h f a)
theorem Ex2.rf {b : Nat → Bool} {h : jH} : Ex2 b h h := fun _ _ o _ => ⟨o, rfl, fun _ _ _ => rfl, fun _ _ => rfl⟩
theorem Ex2.tr {b : Nat → Bool} {h1 h2 h3 : jH} (x : Ex2 b h1 h2) (y : Ex2 b h2 h3) : Ex2 b h1 h3 := fun a k o n =>
  have q := x a k o n
  have r := y a k q.1 n
  ⟨r.1, r.2.1.trans q.2.1, fun f s t => (r.2.2.1 f s t).trans (q.2.2.1 f s t), fun f t => (r.2.2.2 f t).trans (q.2.2.2 f t)⟩
theorem Ex2.sI {b : Nat → Bool} {h : jH} {f a : Nat} {v : Int32} (hf : b f = true) : Ex2 b h (s_I h f a v) := fun _ _ o _ => ⟨o, rfl, fun g _ hg => by rw [g_II, if_neg (fun e => by rw [e, hf] at hg; cases hg)], fun _ _ => rfl⟩
theorem Ex2.sR {b : Nat → Bool} {h : jH} {f a : Nat} {v : Option Nat} (hf : b f = true) : Ex2 b h (s_R h f a v) := fun _ _ o _ => ⟨o, rfl, fun _ _ _ => rfl, fun g hg => by rw [g_RR, if_neg (fun e => by rw [e, hf] at hg; cases hg)]⟩
theorem Ex2.sB {b : Nat → Bool} {h : jH} {a i : Nat} {v : Option Nat} : Ex2 b h (s_B h a i v) := fun _ _ o _ => ⟨o, rfl, fun _ _ _ => rfl, fun _ _ => rfl⟩
theorem Ex2.sA {b : Nat → Bool} {h : jH} {a i : Nat} {v : Int32} : Ex2 b h (s_A h a i v) := fun _ _ o _ => ⟨o, rfl, fun _ _ _ => rfl, fun _ _ => rfl⟩
/-- and the rows of references -/
def Ex (h h' : jH) : Prop := Ex2 (fun _ => false) h h' ∧ ∀ a k, h_ok h a k → k ≠ 11 → ∀ i, h_B h' a i = h_B h a i
theorem Ex.rf {h : jH} : Ex h h := ⟨Ex2.rf, fun _ _ _ _ _ => rfl⟩
theorem Ex.tr {h1 h2 h3 : jH} (x : Ex h1 h2) (y : Ex h2 h3) : Ex h1 h3 := ⟨x.1.tr y.1, fun a k o n i => (y.2 a k (x.1 a k o n).1 n i).trans (x.2 a k o n i)⟩
theorem Ex.of {h h' : jH} (s : sameH h h') : Ex h h' := ⟨fun _ _ o _ => ⟨s.ok.mpr o, s.2.2.1 _, fun f hf _ => s.2.2.2.1 f _ hf, fun f _ => s.2.2.2.2.1 f _⟩, fun a _ _ _ i => s.2.2.2.2.2 a i⟩
theorem Ex.Fm {m0 : Nat} {ad : Nat → Nat} {h h' : jH} (hm : h_ok h m0 11) (F : Fm m0 ad h h') : Ex h h' := ⟨fun a k o n => ⟨⟨by rw [F.1]; exact o.1, by rw [F.2.1]; exact o.2⟩, F.2.2.1 a, fun f _ _ => F.2.2.2.1 f a (fun e => n (by rw [← o.2, e]; exact hm.2)), fun f _ => F.2.2.2.2.1 f a⟩, fun a k o n i => F.2.2.2.2.2.2 a i⟩
theorem Ex.sO {h : jH} {q k : Nat} (hq : q ∉ h_L h) : Ex h (s_O h q k) := ⟨fun a j o n => by
  have e : a ≠ q := fun e => hq (e ▸ o.1)
  exact ⟨⟨by rw [g_LO]; exact List.mem_append_left _ o.1, by rw [g_KO, if_neg e]; exact o.2⟩, rfl, fun f _ _ => by rw [g_IO, if_neg e], fun f _ => by rw [g_RO, if_neg e]⟩, fun _ _ _ _ _ => rfl⟩
theorem Ex.sN {h : jH} {q k N : Nat} (hq : q ∉ h_L h) : Ex h (s_N h q k N) := ⟨fun a j o n => by
  have e : a ≠ q := fun e => hq (e ▸ o.1)
  exact ⟨⟨by rw [g_LN]; exact List.mem_append_left _ o.1, by rw [g_KN, if_neg e]; exact o.2⟩, by rw [g_NN, if_neg e], fun f _ _ => rfl, fun f _ => rfl⟩, fun a j o n i => by rw [g_BN, if_neg (fun e : a = q => hq (e ▸ o.1))]⟩
/-- writes to cells that h0 doesn't have -/
theorem Ex.sI {h0 h : jH} {f q : Nat} {v : Int32} (x : Ex h0 h) (hq : q ∉ h_L h0) : Ex h0 (s_I h f q v) := ⟨fun a k o n => by
  have r := x.1 a k o n
  exact ⟨r.1, r.2.1, fun g s t => by rw [g_II, if_neg (fun e : a = q => hq (e ▸ o.1)), ite_self]; exact r.2.2.1 g s t, r.2.2.2⟩, x.2⟩
theorem Ex.sR {h0 h : jH} {f q : Nat} {v : Option Nat} (x : Ex h0 h) (hq : q ∉ h_L h0) : Ex h0 (s_R h f q v) := ⟨fun a k o n => by
  have r := x.1 a k o n
  exact ⟨r.1, r.2.1, r.2.2.1, fun g t => by rw [g_RR, if_neg (fun e : a = q => hq (e ▸ o.1)), ite_self]; exact r.2.2.2 g t⟩, x.2⟩
theorem Ex.sA {h0 h : jH} {a i : Nat} {v : Int32} (x : Ex h0 h) : Ex h0 (s_A h a i v) := x
theorem Ex2.chnI {b : Nat → Bool} {h h' : jH} (e : Ex2 b h h') {k f : Nat} (hk : k ≠ 11) (hf : b f = false) : ∀ (as : List Nat) (r : Option Nat), chn h k f r as → chn h' k f r as
  | [], _, c => c
  | a :: as, r, c => by
    have q := e a k c.2.1 hk
    refine ⟨c.1, q.1, ?_⟩
    rw [q.2.2.2 f hf]
    exact Ex2.chnI e hk hf as _ c.2.2
theorem Ex2.zTI {b : Nat → Bool} {h h' : jH} (e : Ex2 b h h') {S : Nat → Nat → Int32} (h1 : b 577 = false) (h2 : b 578 = false) : ∀ (as ks : List Nat) (r : Option Nat), chn h 9 576 r as → zT h S as ks → zT h' S as ks
  | [], [], _, _, z => z
  | a :: as, k :: ks, _, c, z => by
    have q := e a 9 c.2.1 (by decide)
    exact ⟨(q.2.2.1 577 rfl h1).trans z.1, (q.2.2.1 578 rfl h2).trans z.2.1, Ex2.zTI e h1 h2 as ks _ c.2.2 z.2.2⟩
  | [], _ :: _, _, _, z => z
  | _ :: _, [], _, _, z => z
theorem Ex2.zSI {b : Nat → Bool} {h h' : jH} (e : Ex2 b h h') {S : Nat → Nat → Int32} (h1 : b 513 = false) (h2 : b 514 = false) (h3 : b 515 = false) : ∀ (as ks : List Nat) (r : Option Nat), chn h 8 512 r as → zS h S as ks → zS h' S as ks
  | [], [], _, _, z => z
  | a :: as, k :: ks, _, c, z => by
    have q := e a 8 c.2.1 (by decide)
    exact ⟨(q.2.2.1 513 rfl h1).trans z.1, (q.2.2.1 514 rfl h2).trans z.2.1, (q.2.2.1 515 rfl h3).trans z.2.2.1, Ex2.zSI e h1 h2 h3 as ks _ c.2.2 z.2.2.2⟩
  | [], _ :: _, _, _, z => z
  | _ :: _, [], _, _, z => z
theorem Ex2.zKI {b : Nat → Bool} {h h' : jH} (e : Ex2 b h h') {S : Nat → Nat → Int32} (h1 : b 321 = false) (h2 : b 322 = false) (h3 : b 323 = false) (h4 : b 324 = false) : ∀ (as ks : List Nat) (r : Option Nat), chn h 5 320 r as → zK h S as ks → zK h' S as ks
  | [], [], _, _, z => z
  | a :: as, k :: ks, _, c, z => by
    have q := e a 5 c.2.1 (by decide)
    exact ⟨(q.2.2.1 321 rfl h1).trans z.1, (q.2.2.1 322 rfl h2).trans z.2.1, (q.2.2.1 323 rfl h3).trans z.2.2.1, (q.2.2.1 324 rfl h4).trans z.2.2.2.1, Ex2.zKI e h1 h2 h3 h4 as ks _ c.2.2 z.2.2.2.2⟩
  | [], _ :: _, _, _, z => z
  | _ :: _, [], _, _, z => z
theorem pFix.e2 {b : Nat → Bool} {h h' : jH} {P : Nat → Nat → Nat} (e : Ex2 b h h') (hb : ∀ f, f ∈ [640, 641, 642, 643, 644, 0, 256, 448, 449, 450, 451, 452, 453] → b f = false) (c : pFix h P) : pFix h' P := by
  obtain ⟨⟨a1, a2, a3, a4, a5, a6⟩, ⟨b1, b2⟩, ⟨d1, d2⟩, ⟨f1, f2, f3, f4, f5, f6, f7⟩, ⟨g1, g2⟩, ⟨i1, i2⟩, ⟨j1, j2⟩, ⟨k1, k2⟩, ⟨l1, l2⟩, ⟨m1, m2⟩⟩ := c
  have ea := e _ _ a1 (by decide)
  have eb := e _ _ b1 (by decide)
  have ed := e _ _ d1 (by decide)
  have ef := e _ _ f1 (by decide)
  have eg := e _ _ g1 (by decide)
  have ei := e _ _ i1 (by decide)
  have ej := e _ _ j1 (by decide)
  have ek := e _ _ k1 (by decide)
  have el := e _ _ l1 (by decide)
  have em := e _ _ m1 (by decide)
  exact ⟨⟨ea.1, (ea.2.2.2 _ (hb _ (by decide))).trans a2, (ea.2.2.2 _ (hb _ (by decide))).trans a3, (ea.2.2.2 _ (hb _ (by decide))).trans a4, (ea.2.2.2 _ (hb _ (by decide))).trans a5, (ea.2.2.2 _ (hb _ (by decide))).trans a6⟩, ⟨eb.1, (eb.2.2.2 _ (hb _ (by decide))).trans b2⟩, ⟨ed.1, (ed.2.2.2 _ (hb _ (by decide))).trans d2⟩, ⟨ef.1, (ef.2.2.2 _ (hb _ (by decide))).trans f2, (ef.2.2.2 _ (hb _ (by decide))).trans f3, (ef.2.2.2 _ (hb _ (by decide))).trans f4, (ef.2.2.2 _ (hb _ (by decide))).trans f5, (ef.2.2.2 _ (hb _ (by decide))).trans f6, (ef.2.2.2 _ (hb _ (by decide))).trans f7⟩, ⟨eg.1, eg.2.1.trans g2⟩, ⟨ei.1, ei.2.1.trans i2⟩, ⟨ej.1, ej.2.1.trans j2⟩, ⟨ek.1, ek.2.1.trans k2⟩, ⟨el.1, el.2.1.trans l2⟩, ⟨em.1, em.2.1.trans m2⟩⟩
/-- the book's rows, and those of its counters that stay -/
theorem pBook.e2 {b : Nat → Bool} {h h' : jH} {S S' : Nat → Nat → Int32} {P : Nat → Nat → Nat} (e : Ex2 b h h') (hb : ∀ f, f ∈ [129, 131, 133, 136] → b f = false) (hI : ∀ f k, (f, k) ∈ [(128, 0), (130, 1), (132, 2), (134, 3), (135, 4), (137, 6), (138, 5), (139, 7)] → h_I h' f (P 5 1) = S' k 0 ∨ (b f = false ∧ S' k 0 = S k 0)) (c : pBook h S P) : pBook h' S' P := by
  obtain ⟨a1, ⟨i1, i2, i3, i4, i5, i6, i7, i8⟩, ⟨r1, o1, n1⟩, ⟨r2, o2, n2⟩, ⟨r3, o3, n3⟩, ⟨r4, o4, n4⟩⟩ := c
  have ea := e _ _ a1 (by decide)
  have e1 := e _ _ o1 (by decide)
  have e2 := e _ _ o2 (by decide)
  have e3 := e _ _ o3 (by decide)
  have e4 := e _ _ o4 (by decide)
  have g : ∀ f k, scr f = false → (f, k) ∈ [(128, 0), (130, 1), (132, 2), (134, 3), (135, 4), (137, 6), (138, 5), (139, 7)] → h_I h f (P 5 1) = S k 0 → h_I h' f (P 5 1) = S' k 0 := fun f k hs hm hc => (hI f k hm).elim id (fun z => (ea.2.2.1 f hs z.1).trans (hc.trans z.2.symm))
  exact ⟨ea.1, ⟨g _ _ rfl (by decide) i1, g _ _ rfl (by decide) i2, g _ _ rfl (by decide) i3, g _ _ rfl (by decide) i4, g _ _ rfl (by decide) i5, g _ _ rfl (by decide) i6, g _ _ rfl (by decide) i7, g _ _ rfl (by decide) i8⟩, ⟨(ea.2.2.2 _ (hb _ (by decide))).trans r1, e1.1, e1.2.1.trans n1⟩, ⟨(ea.2.2.2 _ (hb _ (by decide))).trans r2, e2.1, e2.2.1.trans n2⟩, ⟨(ea.2.2.2 _ (hb _ (by decide))).trans r3, e3.1, e3.2.1.trans n3⟩, ⟨(ea.2.2.2 _ (hb _ (by decide))).trans r4, e4.1, e4.2.1.trans n4⟩⟩
theorem pFld.e2 {b : Nat → Bool} {h h' : jH} {S : Nat → Nat → Int32} {P : Nat → Nat → Nat} {T : Nat → Nat → Nat → List Nat} {nf nl ns : Nat} (e : Ex2 b h h') (hb : ∀ f, f ∈ [192, 193, 194, 195, 196, 197, 198, 576, 577, 578] → b f = false) (h6 : ∀ f, f < nf → h_B h' (P 5 6) f = h_B h (P 5 6) f) (h3 : ∀ f, f < nf → ∀ y, y < 41 → h_B h' (P 3 f) y = h_B h (P 3 f) y) (h4 : ∀ f, f < nf → ∀ y, y < 41 → h_B h' (P 4 f) y = h_B h (P 4 f) y) (c : pFld h S P T nf nl ns) : pFld h' S P T nf nl ns := fun f hf => by
  obtain ⟨⟨b1, o1⟩, ⟨i1, i2, i3, i4, i5⟩, ⟨r1, p1, n1⟩, ⟨r2, p2, n2⟩, q⟩ := c f hf
  have eo := e _ _ o1 (by decide)
  have e1 := e _ _ p1 (by decide)
  have e2 := e _ _ p2 (by decide)
  refine ⟨⟨(h6 f hf).trans b1, eo.1⟩, ⟨(eo.2.2.1 _ rfl (hb _ (by decide))).trans i1, (eo.2.2.1 _ rfl (hb _ (by decide))).trans i2, (eo.2.2.1 _ rfl (hb _ (by decide))).trans i3, (eo.2.2.1 _ rfl (hb _ (by decide))).trans i4, (eo.2.2.1 _ rfl (hb _ (by decide))).trans i5⟩, ⟨(eo.2.2.2 _ (hb _ (by decide))).trans r1, e1.1, e1.2.1.trans n1⟩, ⟨(eo.2.2.2 _ (hb _ (by decide))).trans r2, e2.1, e2.2.1.trans n2⟩, fun y hy => ?_⟩
  rw [h3 f hf y hy, h4 f hf y hy]
  exact ⟨(q y hy).1, e.chnI (by decide) (hb _ (by decide)) _ _ (q y hy).2.1, e.zTI (hb _ (by decide)) (hb _ (by decide)) _ _ _ (q y hy).2.1 (q y hy).2.2⟩
theorem pLot.e2 {b : Nat → Bool} {h h' : jH} {S : Nat → Nat → Int32} {P : Nat → Nat → Nat} {T : Nat → Nat → Nat → List Nat} {nl nk : Nat} (e : Ex2 b h h') (hb : ∀ f, f ∈ [384, 385, 386, 387, 388, 389, 390, 391, 392, 393, 394, 395, 396, 397, 398, 320, 321, 322, 323, 324] → b f = false) (h7 : ∀ a, a < nl → h_B h' (P 5 7) a = h_B h (P 5 7) a) (c : pLot h S P T nl nk) : pLot h' S P T nl nk := fun a ha => by
  obtain ⟨⟨b1, o1⟩, ⟨i1, i2, i3, i4⟩, ⟨r1, r2, r3⟩, ⟨j1, j2, j3, j4, j5, j6, j7⟩, k1, k2⟩ := c a ha
  have eo := e _ _ o1 (by decide)
  have fI : ∀ f, f ∈ [384, 385, 386, 387, 388, 389, 390, 391, 392, 393, 394, 395, 396, 397, 398, 320, 321, 322, 323, 324] → scr f = false → h_I h' f (P 1 a) = h_I h f (P 1 a) := fun f hf hs => eo.2.2.1 f hs (hb f hf)
  have fR : ∀ f, f ∈ [384, 385, 386, 387, 388, 389, 390, 391, 392, 393, 394, 395, 396, 397, 398, 320, 321, 322, 323, 324] → h_R h' f (P 1 a) = h_R h f (P 1 a) := fun f hf => eo.2.2.2 f (hb f hf)
  refine ⟨⟨(h7 a ha).trans b1, eo.1⟩, ⟨(fI _ (by decide) rfl).trans i1, (fI _ (by decide) rfl).trans i2, (fI _ (by decide) rfl).trans i3, (fI _ (by decide) rfl).trans i4⟩, ⟨(fR _ (by decide)).trans r1, (fR _ (by decide)).trans r2, (fR _ (by decide)).trans r3⟩, ⟨(fI _ (by decide) rfl).trans j1, (fI _ (by decide) rfl).trans j2, (fI _ (by decide) rfl).trans j3, (fI _ (by decide) rfl).trans j4, (fI _ (by decide) rfl).trans j5, (fI _ (by decide) rfl).trans j6, (fI _ (by decide) rfl).trans j7⟩, ?_, e.zKI (hb _ (by decide)) (hb _ (by decide)) (hb _ (by decide)) (hb _ (by decide)) _ _ _ k1 k2⟩
  rw [fR 397 (by decide)]
  exact e.chnI (by decide) (hb _ (by decide)) _ _ k1
theorem pBag.e2 {b : Nat → Bool} {h h' : jH} {S : Nat → Nat → Int32} {P : Nat → Nat → Nat} {nb : Nat} (e : Ex2 b h h') (hb : ∀ f, f ∈ [64, 65, 66, 67] → b f = false) (h8 : ∀ a, a < nb → h_B h' (P 5 8) a = h_B h (P 5 8) a) (c : pBag h S P nb) : pBag h' S P nb := fun a ha => by
  obtain ⟨⟨b1, o1⟩, r1, i1, i2, i3⟩ := c a ha
  have eo := e _ _ o1 (by decide)
  exact ⟨⟨(h8 a ha).trans b1, eo.1⟩, (eo.2.2.2 _ (hb _ (by decide))).trans r1, (eo.2.2.1 _ rfl (hb _ (by decide))).trans i1, (eo.2.2.1 _ rfl (hb _ (by decide))).trans i2, (eo.2.2.1 _ rfl (hb _ (by decide))).trans i3⟩
theorem pSta.e2 {b : Nat → Bool} {h h' : jH} {S : Nat → Nat → Int32} {P : Nat → Nat → Nat} {T : Nat → Nat → Nat → List Nat} {nt : Nat} (e : Ex2 b h h') (hb : ∀ f, f ∈ [512, 513, 514, 515] → b f = false) (h9 : ∀ kd, kd < 5 → h_B h' (P 5 9) kd = h_B h (P 5 9) kd) (c : pSta h S P T nt) : pSta h' S P T nt := fun kd hk => by
  rw [h9 kd hk]
  exact ⟨e.chnI (by decide) (hb _ (by decide)) _ _ (c kd hk).1, e.zSI (hb _ (by decide)) (hb _ (by decide)) (hb _ (by decide)) _ _ _ (c kd hk).1 (c kd hk).2⟩
/-- the picture stays where nothing that it speaks of is touched -/
theorem CP.ex {h h' : jH} {S : Nat → Nat → Int32} {P : Nat → Nat → Nat} {T : Nat → Nat → Nat → List Nat} {nf nl nb ns nt nk nw : Nat} (e : Ex h h') (c : CP h S P T nf nl nb ns nt nk nw) : CP h' S P T nf nl nb ns nt nk nw := by
  obtain ⟨c1, c2, c3, c4, c5, c6, c7, c8⟩ := c
  have hB : ∀ {a k : Nat}, h_ok h a k → k ≠ 11 → ∀ i, h_B h' a i = h_B h a i := fun o n i => e.2 _ _ o n i
  have e4 := e.1 _ _ c1.2.2.2.1.1 (by decide)
  exact ⟨c1.e2 e.1 (fun _ _ => rfl), c2.e2 e.1 (fun _ _ => rfl) (fun _ _ _ => Or.inr ⟨rfl, rfl⟩), c3.e2 e.1 (fun _ _ => rfl) (fun f _ => hB c2.2.2.1.2.1 (by decide) f) (fun f hf y _ => hB (c3 f hf).2.2.1.2.1 (by decide) y) (fun f hf y _ => hB (c3 f hf).2.2.2.1.2.1 (by decide) y), c4.e2 e.1 (fun _ _ => rfl) (fun f _ => hB c2.2.2.2.1.2.1 (by decide) f), c5.e2 e.1 (fun _ _ => rfl) (fun f _ => hB c2.2.2.2.2.1.2.1 (by decide) f), c6.e2 e.1 (fun _ _ => rfl) (fun f _ => hB c2.2.2.2.2.2.2.1 (by decide) f), ⟨(e4.2.2.1 455 rfl rfl).trans c7.1, fun k hk => (hB c1.2.2.2.2.2.1.1 (by decide) k).trans (c7.2 k hk)⟩, c8⟩
/-! states that agree below the counts -/
theorem dsc_mem {p : Nat → Bool} : ∀ {n k : Nat}, k ∈ dsc p n → k < n ∧ p k = true
  | 0, _, h => by cases h
  | n + 1, k, h => by
    rw [dsc_s] at h
    by_cases e : p n = true
    · rw [if_pos e] at h
      rcases List.mem_cons.mp h with h | h
      · rw [h]; exact ⟨by omega, e⟩
      · exact ⟨by have := (dsc_mem h).1; omega, (dsc_mem h).2⟩
    · rw [if_neg e] at h
      exact ⟨by have := (dsc_mem h).1; omega, (dsc_mem h).2⟩
theorem dsc_lt {p p' : Nat → Bool} : ∀ {n : Nat}, (∀ k, k < n → p' k = p k) → dsc p' n = dsc p n
  | 0, _ => rfl
  | n + 1, h => by rw [dsc_s, dsc_s, h n (by omega), dsc_lt (fun k hk => h k (by omega))]
theorem ffst_lt {p p' : Nat → Bool} : ∀ {n i : Nat}, (∀ k, i ≤ k → k < i + n → p' k = p k) → ffst p' i n = ffst p i n
  | 0, _, _ => rfl
  | n + 1, i, h => by
    show (if p' i = true then nI i else ffst p' (i + 1) n) = (if p i = true then nI i else ffst p (i + 1) n)
    rw [h i (by omega) (by omega), ffst_lt (fun k h1 h2 => h k (by omega) (by omega))]
theorem zT_S {h : jH} {S S' : Nat → Nat → Int32} : ∀ (as ks : List Nat), (∀ k, k ∈ ks → S' 16 k = S 16 k ∧ S' 15 k = S 15 k) → zT h S as ks → zT h S' as ks
  | [], [], _, z => z
  | a :: as, k :: ks, g, z => ⟨z.1.trans (g k (List.mem_cons_self ..)).1.symm, z.2.1.trans (g k (List.mem_cons_self ..)).2.symm, zT_S as ks (fun j hj => g j (List.mem_cons_of_mem _ hj)) z.2.2⟩
  | [], _ :: _, _, z => z
  | _ :: _, [], _, z => z
theorem zS_S {h : jH} {S S' : Nat → Nat → Int32} : ∀ (as ks : List Nat), (∀ k, k ∈ ks → S' 20 k = S 20 k ∧ S' 18 k = S 18 k ∧ S' 19 k = S 19 k) → zS h S as ks → zS h S' as ks
  | [], [], _, z => z
  | a :: as, k :: ks, g, z => ⟨z.1.trans (g k (List.mem_cons_self ..)).1.symm, z.2.1.trans (g k (List.mem_cons_self ..)).2.1.symm, z.2.2.1.trans (g k (List.mem_cons_self ..)).2.2.symm, zS_S as ks (fun j hj => g j (List.mem_cons_of_mem _ hj)) z.2.2.2⟩
  | [], _ :: _, _, z => z
  | _ :: _, [], _, z => z
theorem sumR_S {S S' : Nat → Nat → Int32} {r : Nat} : ∀ ks : List Nat, (∀ k, k ∈ ks → S' r k = S r k) → sumR S' r ks = sumR S r ks
  | [], _ => rfl
  | k :: ks, g => by
    show sumR S' r ks + S' r k = sumR S r ks + S r k
    rw [g k (List.mem_cons_self ..), sumR_S ks (fun j hj => g j (List.mem_cons_of_mem _ hj))]
theorem zK_S {h : jH} {S S' : Nat → Nat → Int32} : ∀ (as ks : List Nat), (∀ k, k ∈ ks → S' 37 k = S 37 k ∧ S' 35 k = S 35 k ∧ S' 36 k = S 36 k) → zK h S as ks → zK h S' as ks
  | [], [], _, z => z
  | a :: as, k :: ks, g, z => ⟨z.1.trans (g k (List.mem_cons_self ..)).1.symm, z.2.1, by rw [sumR_S (k :: ks) (fun j hj => (g j hj).2.1)]; exact z.2.2.1, by rw [sumR_S (k :: ks) (fun j hj => (g j hj).2.2)]; exact z.2.2.2.1, zK_S as ks (fun j hj => g j (List.mem_cons_of_mem _ hj)) z.2.2.2.2⟩
  | [], _ :: _, _, z => z
  | _ :: _, [], _, z => z
/-- S' is S below the counts -/
def AgS (S S' : Nat → Nat → Int32) (nf nl nb ns nt nk nw : Nat) : Prop := (∀ k, k < 9 → S' k 0 = S k 0) ∧ (∀ k i, 9 ≤ k → k < 13 → i < nf → S' k i = S k i) ∧ (∀ k i, 13 ≤ k → k < 17 → i < ns → S' k i = S k i) ∧ (∀ k i, 17 ≤ k → k < 21 → i < nt → S' k i = S k i) ∧ (∀ k i, 21 ≤ k → k < 34 → i < nl → S' k i = S k i) ∧ (∀ k i, 34 ≤ k → k < 38 → i < nk → S' k i = S k i) ∧ (∀ k i, 38 ≤ k → k < 42 → i < nb → S' k i = S k i) ∧ (∀ i, i < nw → S' 42 i = S 42 i)
theorem AgS.rf {S : Nat → Nat → Int32} {nf nl nb ns nt nk nw : Nat} : AgS S S nf nl nb ns nt nk nw := ⟨fun _ _ => rfl, fun _ _ _ _ _ => rfl, fun _ _ _ _ _ => rfl, fun _ _ _ _ _ => rfl, fun _ _ _ _ _ => rfl, fun _ _ _ _ _ => rfl, fun _ _ _ _ _ => rfl, fun _ _ => rfl⟩
theorem AgS.scr {S S' : Nat → Nat → Int32} {nf nl nb ns nt nk nw : Nat} (e : ∀ k i, k < 43 → S' k i = S k i) : AgS S S' nf nl nb ns nt nk nw := ⟨fun k h => e k 0 (by omega), fun k i _ _ _ => e k i (by omega), fun k i _ _ _ => e k i (by omega), fun k i _ _ _ => e k i (by omega), fun k i _ _ _ => e k i (by omega), fun k i _ _ _ => e k i (by omega), fun k i _ _ _ => e k i (by omega), fun i _ => e 42 i (by omega)⟩
/-- one more cell, beyond the counts -/
theorem AgS.u {S S' : Nat → Nat → Int32} {nf nl nb ns nt nk nw : Nat} {r i : Nat} {v : Int32} (x : AgS S S' nf nl nb ns nt nk nw) (hr : 9 ≤ r ∧ (r < 13 → nf ≤ i) ∧ (13 ≤ r → r < 17 → ns ≤ i) ∧ (17 ≤ r → r < 21 → nt ≤ i) ∧ (21 ≤ r → r < 34 → nl ≤ i) ∧ (34 ≤ r → r < 38 → nk ≤ i) ∧ (38 ≤ r → r < 42 → nb ≤ i) ∧ (r = 42 → nw ≤ i)) : AgS S (u2 S' r i v) nf nl nb ns nt nk nw := by
  obtain ⟨x1, x2, x3, x4, x5, x6, x7, x8⟩ := x
  have g : ∀ k j, (k = r → j ≠ i) → u2 S' r i v k j = S' k j := fun k j h => by
    by_cases e : k = r
    · exact u2_ne2 _ _ (h e)
    · exact u2_ne1 _ _ e
  exact ⟨fun k h => (g k 0 (fun e => by omega)).trans (x1 k h), fun k j h1 h2 h3 => (g k j (fun e => by omega)).trans (x2 k j h1 h2 h3), fun k j h1 h2 h3 => (g k j (fun e => by omega)).trans (x3 k j h1 h2 h3), fun k j h1 h2 h3 => (g k j (fun e => by omega)).trans (x4 k j h1 h2 h3), fun k j h1 h2 h3 => (g k j (fun e => by omega)).trans (x5 k j h1 h2 h3), fun k j h1 h2 h3 => (g k j (fun e => by omega)).trans (x6 k j h1 h2 h3), fun k j h1 h2 h3 => (g k j (fun e => by omega)).trans (x7 k j h1 h2 h3), fun j h => (g 42 j (fun e => by omega)).trans (x8 j h)⟩
theorem CP.agS {h : jH} {S S' : Nat → Nat → Int32} {P : Nat → Nat → Nat} {T : Nat → Nat → Nat → List Nat} {nf nl nb ns nt nk nw : Nat} (g : AgS S S' nf nl nb ns nt nk nw) (c : CP h S P T nf nl nb ns nt nk nw) : CP h S' P T nf nl nb ns nt nk nw := by
  obtain ⟨x1, x2, x3, x4, x5, x6, x7, x8⟩ := g
  obtain ⟨c1, ⟨a1, ⟨i1, i2, i3, i4, i5, i6, i7, i8⟩, a3⟩, c3, c4, c5, c6, c7, c8⟩ := c
  refine ⟨c1, ⟨a1, ⟨i1.trans (x1 0 (by decide)).symm, i2.trans (x1 1 (by decide)).symm, i3.trans (x1 2 (by decide)).symm, i4.trans (x1 3 (by decide)).symm, i5.trans (x1 4 (by decide)).symm, i6.trans (x1 6 (by decide)).symm, i7.trans (x1 5 (by decide)).symm, i8.trans (x1 7 (by decide)).symm⟩, a3⟩, fun f hf => ?_, fun a ha => ?_, fun b hb => ?_, fun kd hk => ?_, ⟨c7.1.trans (x1 8 (by decide)).symm, fun k hk => by rw [x8 k hk]; exact c7.2 k hk⟩, c8⟩
  · obtain ⟨b1, ⟨j1, j2, j3, j4, j5⟩, r1, r2, q⟩ := c3 f hf
    refine ⟨b1, ⟨j1, j2.trans (x2 9 f (by decide) (by decide) hf).symm, j3.trans (x2 11 f (by decide) (by decide) hf).symm, j4.trans (x2 10 f (by decide) (by decide) hf).symm, j5.trans (x2 12 f (by decide) (by decide) hf).symm⟩, r1, r2, fun y hy => ⟨?_, (q y hy).2.1, ?_⟩⟩
    · rw [(q y hy).1]
      refine congrArg (adr P 1) (ffst_lt (fun k _ hk => ?_)).symm
      show decide _ = decide _
      rw [x5 21 k (by decide) (by decide) (by omega), x5 25 k (by decide) (by decide) (by omega), x5 24 k (by decide) (by decide) (by omega)]
    · have e : dsc (tlB S' (nI f) (nI y)) ns = dsc (tlB S (nI f) (nI y)) ns := dsc_lt (fun k hk => by
        show decide _ = decide _
        rw [x3 13 k (by decide) (by decide) hk, x3 14 k (by decide) (by decide) hk])
      rw [e]
      exact zT_S _ _ (fun k hk => ⟨x3 16 k (by decide) (by decide) (dsc_mem hk).1, x3 15 k (by decide) (by decide) (dsc_mem hk).1⟩) (q y hy).2.2
  · obtain ⟨b1, ⟨j1, j2, j3, j4⟩, ⟨r1, r2, r3⟩, ⟨k1, k2, k3, k4, k5, k6, k7⟩, l1, l2⟩ := c4 a ha
    have y5 : ∀ k, 21 ≤ k → k < 34 → S k a = S' k a := fun k h1 h2 => (x5 k a h1 h2 ha).symm
    refine ⟨b1, ⟨j1, j2.trans (y5 21 (by decide) (by decide)), j3.trans (y5 22 (by decide) (by decide)), j4.trans (y5 24 (by decide) (by decide))⟩, ⟨by rw [r1, y5 25 (by decide) (by decide)], by rw [r2, y5 26 (by decide) (by decide)], by rw [r3, y5 27 (by decide) (by decide)]⟩, ⟨k1.trans (y5 23 (by decide) (by decide)), k2.trans (y5 28 (by decide) (by decide)), k3.trans (y5 29 (by decide) (by decide)), k4.trans (y5 30 (by decide) (by decide)), k5.trans (y5 31 (by decide) (by decide)), k6.trans (y5 32 (by decide) (by decide)), k7.trans (y5 33 (by decide) (by decide))⟩, l1, ?_⟩
    have e : dsc (lkB S' (nI a)) nk = dsc (lkB S (nI a)) nk := dsc_lt (fun k hk => by
      show decide _ = decide _
      rw [x6 34 k (by decide) (by decide) hk])
    rw [e]
    exact zK_S _ _ (fun k hk => ⟨x6 37 k (by decide) (by decide) (dsc_mem hk).1, x6 35 k (by decide) (by decide) (dsc_mem hk).1, x6 36 k (by decide) (by decide) (dsc_mem hk).1⟩) l2
  · obtain ⟨b1, r1, j1, j2, j3⟩ := c5 b hb
    have y7 : ∀ k, 38 ≤ k → k < 42 → S k b = S' k b := fun k h1 h2 => (x7 k b h1 h2 hb).symm
    exact ⟨b1, by rw [← y7 38 (by decide) (by decide)]; exact r1, j1.trans (y7 39 (by decide) (by decide)), j2.trans (y7 40 (by decide) (by decide)), j3.trans (y7 41 (by decide) (by decide))⟩
  · have e : dsc (knB S' (nI kd)) nt = dsc (knB S (nI kd)) nt := dsc_lt (fun k hk => by
      show decide _ = decide _
      rw [x4 17 k (by decide) (by decide) hk])
    refine ⟨(c6 kd hk).1, ?_⟩
    rw [e]
    exact zS_S _ _ (fun k hk => ⟨x4 20 k (by decide) (by decide) (dsc_mem hk).1, x4 18 k (by decide) (by decide) (dsc_mem hk).1, x4 19 k (by decide) (by decide) (dsc_mem hk).1⟩) (c6 kd hk).2
/-! the reference's part stays -/
theorem FrC.sB {P : Nat → Nat → Nat} {h : jH} {a i : Nat} {v : Option Nat} : FrC P h (s_B h a i v) := fun m0 ad S _ M => M
theorem FrC.sR {P : Nat → Nat → Nat} {h : jH} {f a : Nat} {v : Option Nat} (hf : f < 704) : FrC P h (s_R h f a v) := fun m0 ad S _ M => ⟨M.1, M.2.1, fun k h1 h2 => ⟨by rw [g_RR, if_neg (by omega)]; exact (M.2.2.1 k h1 h2).1, (M.2.2.1 k h1 h2).2⟩, M.2.2.2⟩
theorem FrC.sA {P : Nat → Nat → Nat} {h : jH} {i j : Nat} {v : Int32} (hi : i ∈ [5, 11, 12, 13, 14]) : FrC P h (s_A h (P 5 i) j v) := fun m0 ad S n M => ⟨M.1, M.2.1, fun k h1 h2 => ⟨(M.2.2.1 k h1 h2).1, (M.2.2.1 k h1 h2).2.1, (M.2.2.1 k h1 h2).2.2.1, fun x => by rw [g_AA, if_neg (n k h1 h2 i hi)]; exact (M.2.2.1 k h1 h2).2.2.2 x⟩, M.2.2.2⟩
theorem FrC.sO {P : Nat → Nat → Nat} {h : jH} {q k : Nat} (hq : q ∉ h_L h) : FrC P h (s_O h q k) := fun m0 ad S _ M => by
  have g : ∀ {a j : Nat}, h_ok h a j → a ≠ q := fun o e => hq (e ▸ o.1)
  have gk : ∀ {a j : Nat}, h_ok h a j → h_ok (s_O h q k) a j := fun o => ⟨by rw [g_LO]; exact List.mem_append_left _ o.1, by rw [g_KO, if_neg (g o)]; exact o.2⟩
  exact ⟨gk M.1, fun j hj => by rw [g_IO, if_neg (g M.1)]; exact M.2.1 j hj, fun j h1 h2 => ⟨by rw [g_RO, if_neg (g M.1)]; exact (M.2.2.1 j h1 h2).1, gk (M.2.2.1 j h1 h2).2.1, (M.2.2.1 j h1 h2).2.2⟩, M.2.2.2⟩
theorem FrC.sN {P : Nat → Nat → Nat} {h : jH} {q k N : Nat} (hq : q ∉ h_L h) : FrC P h (s_N h q k N) := fun m0 ad S _ M => by
  have g : ∀ {a j : Nat}, h_ok h a j → a ≠ q := fun o e => hq (e ▸ o.1)
  have gk : ∀ {a j : Nat}, h_ok h a j → h_ok (s_N h q k N) a j := fun o => ⟨by rw [g_LN]; exact List.mem_append_left _ o.1, by rw [g_KN, if_neg (g o)]; exact o.2⟩
  exact ⟨gk M.1, M.2.1, fun j h1 h2 => ⟨(M.2.2.1 j h1 h2).1, gk (M.2.2.1 j h1 h2).2.1, by rw [g_NN, if_neg (g (M.2.2.1 j h1 h2).2.1)]; exact (M.2.2.1 j h1 h2).2.2.1, fun x => by rw [g_AN, if_neg (g (M.2.2.1 j h1 h2).2.1)]; exact (M.2.2.1 j h1 h2).2.2.2 x⟩, M.2.2.2⟩
theorem ok_ne {h : jH} {a b j k : Nat} (x : h_ok h a j) (y : h_ok h b k) (n : j ≠ k) : a ≠ b := fun e => n (by rw [← x.2, ← y.2, e])
