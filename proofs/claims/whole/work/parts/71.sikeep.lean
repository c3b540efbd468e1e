/-! what always holds stays -/
section SIK
variable {S S' : Nat → Nat → Int32} {nf nl nb ns nt nk nw yy : Nat}
theorem SI.scr (I : SI S nf nl nb ns nt nk nw yy) (e : ∀ k i, k < 43 → S' k i = S k i) : SI S' nf nl nb ns nt nk nw yy := by
  have e0 := fun i => e 0 i (by decide)
  have e1 := fun i => e 1 i (by decide)
  have e2 := fun i => e 2 i (by decide)
  have e3 := fun i => e 3 i (by decide)
  have e5 := fun i => e 5 i (by decide)
  have e6 := fun i => e 6 i (by decide)
  have e7 := fun i => e 7 i (by decide)
  have e8 := fun i => e 8 i (by decide)
  have e13 := fun i => e 13 i (by decide)
  have e18 := fun i => e 18 i (by decide)
  have e19 := fun i => e 19 i (by decide)
  have e21 := fun i => e 21 i (by decide)
  have e24 := fun i => e 24 i (by decide)
  have e25 := fun i => e 25 i (by decide)
  have e26 := fun i => e 26 i (by decide)
  have e27 := fun i => e 27 i (by decide)
  have e29 := fun i => e 29 i (by decide)
  have e30 := fun i => e 30 i (by decide)
  have e31 := fun i => e 31 i (by decide)
  have e32 := fun i => e 32 i (by decide)
  have e34 := fun i => e 34 i (by decide)
  have e35 := fun i => e 35 i (by decide)
  have e36 := fun i => e 36 i (by decide)
  have e37 := fun i => e 37 i (by decide)
  have e38 := fun i => e 38 i (by decide)
  have e42 := fun i => e 42 i (by decide)
  unfold SI lotI
  simp only [e0, e1, e2, e3, e5, e6, e7, e8, e13, e18, e19, e21, e24, e25, e26, e27, e29, e30, e31, e32, e34, e35, e36, e37, e38, e42]
  exact I
theorem lotI.mono {nf' a : Nat} (h : lotI S nf a) (hn : nf ≤ nf') : lotI S nf' a := by
  rcases h with h | h | h
  · exact Or.inl h
  · obtain ⟨h1, ⟨f, f1, f2⟩, h3⟩ := h
    exact Or.inr (Or.inl ⟨h1, ⟨f, by omega, f2⟩, h3⟩)
  · exact Or.inr (Or.inr h)
theorem si_year (I : SI S nf nl nb ns nt nk nw yy) : ∃ yy', SI (m_year S).2 nf nl nb ns nt nk nw yy' := by
  unfold m_year
  by_cases c : ¬ S 0 0 = 40
  · rw [if_pos c]
    have hy := I.yr.2
    have hlt : yy < 40 := ne_lt (v := 40) rfl (by rw [← I.yr.1]; exact c) hy
    refine ⟨yy + 1, ⟨⟨(show S 0 0 + 1 = nI (yy + 1) by rw [I.yr.1]; exact nI_1 _), by omega⟩, I.fl, I.lt, I.bg, I.st, I.tt, I.lk, I.wt⟩, fun a ha => ⟨(I.lo a ha).1, ?_⟩, I.mo, I.sv, fun k hk => ?_, I.km, I.bl, I.wn, I.sf, I.ze⟩
    · obtain ⟨y, h1, h2⟩ := (I.lo a ha).2
      exact ⟨y, by omega, h2⟩
    · obtain ⟨a1, a2, a3, y, y1, y2⟩ := I.ks k hk
      exact ⟨a1, a2, a3, y, by omega, y2⟩
  · rw [if_neg c]
    exact ⟨yy, I⟩
theorem si_field (I : SI S nf nl nb ns nt nk nw yy) (x y u v : Int32) : ∃ nf', SI (m_field S x y u v nf).2 nf' nl nb ns nt nk nw yy := by
  unfold m_field
  by_cases c : (¬ nI nf = 40) ∧ (0 ≤ x ∧ x ≤ 1000) ∧ (0 ≤ y ∧ y ≤ 1000) ∧ (0 ≤ u ∧ u ≤ 1000) ∧ (0 ≤ v ∧ v ≤ 1000) ∧ (¬ x = u) ∧ (¬ y = v)
  · rw [if_pos c]
    have hf := I.fl.2
    have hlt : nf < 40 := ne_lt (v := 40) rfl c.1 hf
    refine ⟨nf + 1, ⟨I.yr, ⟨(show nI nf + 1 = nI (nf + 1) from nI_1 _), by omega⟩, I.lt, I.bg, I.st, I.tt, I.lk, I.wt⟩, fun a ha => ⟨lotI.mono (S := S) (I.lo a ha).1 (by omega), (I.lo a ha).2⟩, I.mo, I.sv, I.ks, I.km, I.bl, I.wn, fun k hk => ?_, I.ze⟩
    obtain ⟨f, f1, f2⟩ := I.sf k hk
    exact ⟨f, by omega, f2⟩
  · rw [if_neg c]
    exact ⟨nf, I⟩
theorem si_stand (I : SI S nf nl nb ns nt nk nw yy) (f yr cr : Int32) : ∃ ns', SI (m_stand S f yr cr ns).2 nf nl nb ns' nt nk nw yy := by
  unfold m_stand
  by_cases c : (0 ≤ f ∧ f ≤ S 1 0 - 1) ∧ (0 ≤ yr ∧ yr ≤ S 0 0) ∧ (0 ≤ cr ∧ cr ≤ 4) ∧ (¬ nI ns = 300)
  · rw [if_pos c]
    have hs := I.st.2
    have hf := I.fl.2
    have hlt : ns < 300 := ne_lt (v := 300) rfl c.2.2.2 hs
    obtain ⟨j, hj, ej⟩ := in_ix (n := nf) (by omega) (by rw [← I.fl.1]; exact c.1)
    refine ⟨ns + 1, ⟨I.yr, I.fl, I.lt, I.bg, ⟨(show nI ns + 1 = nI (ns + 1) from nI_1 _), by omega⟩, I.tt, I.lk, I.wt⟩, I.lo, I.mo, I.sv, I.ks, I.km, I.bl, I.wn, fun k hk => ?_, I.ze⟩
    show ∃ i, i < nf ∧ u2 S 13 ns f 13 k = nI i
    by_cases e : k = ns
    · rw [e, u2_same]
      exact ⟨j, hj, ej⟩
    · rw [u2_ne2 _ _ e]
      exact I.sf k (by omega)
  · rw [if_neg c]
    exact ⟨ns, I⟩
theorem val_1000 {kind v : Int32} (h : isValS kind v = true) : ∃ n, n ≤ 1000 ∧ v = nI n := by
  have hk : 0 ≤ kind ∧ kind ≤ 5 - 1 := Classical.byContradiction (fun z => val_n z h)
  obtain ⟨kd, hkd, rfl⟩ := nI_of2 (x := kind) (M := 5 - 1) (n := 4) (by decide) (Int32.not_lt.mpr hk.1) hk.2
  have hv := (val_e hkd v).mp h
  have hb : (stTi kd).toInt ≤ 1000 := by
    rcases (show kd = 0 ∨ kd = 1 ∨ kd = 2 ∨ kd = 3 ∨ kd = 4 by omega) with rfl | rfl | rfl | rfl | rfl <;> decide
  obtain ⟨n, hn, rfl⟩ := nI_of (Int32.not_lt.mpr hv.1)
  have h2 := hv.2
  rw [Int32.le_iff_toInt_le, nI_toInt hn] at h2
  exact ⟨n, by omega, rfl⟩
theorem si_statute (I : SI S nf nl nb ns nt nk nw yy) (kind fr v : Int32) : ∃ nt', SI (m_statute S kind fr v nt).2 nf nl nb ns nt' nk nw yy := by
  unfold m_statute
  by_cases c : (isValS kind v = true) ∧ (0 ≤ fr ∧ fr ≤ 60) ∧ (¬ nI nt = 100)
  · rw [if_pos c]
    have hs := I.tt.2
    have hlt : nt < 100 := ne_lt (v := 100) rfl c.2.2 hs
    refine ⟨nt + 1, ⟨I.yr, I.fl, I.lt, I.bg, I.st, ⟨(show nI nt + 1 = nI (nt + 1) from nI_1 _), by omega⟩, I.lk, I.wt⟩, I.lo, I.mo, fun k hk => ?_, I.ks, I.km, I.bl, I.wn, I.sf, I.ze⟩
    show 0 ≤ (if k = nt then fr else S 18 k).toInt ∧ ∃ w, w ≤ 1000 ∧ (if k = nt then v else S 19 k) = nI w
    by_cases e : k = nt
    · rw [if_pos e, if_pos e]
      have h1 := c.2.1.1
      rw [Int32.le_iff_toInt_le] at h1
      exact ⟨h1, val_1000 c.1⟩
    · rw [if_neg e, if_neg e]
      exact I.sv k (by omega)
  · rw [if_neg c]
    exact ⟨nt, I⟩
theorem si_look (I : SI S nf nl nb ns nt nk nw yy) (lt pl ill : Int32) : ∃ nk', SI (m_look S lt pl ill nk).2 nf nl nb ns nt nk' nw yy := by
  unfold m_look
  by_cases c : (0 ≤ lt ∧ lt ≤ S 2 0 - 1) ∧ (S 21 lt.toNatClampNeg = 1) ∧ (1 ≤ pl ∧ pl ≤ 10000) ∧ (0 ≤ ill ∧ ill ≤ pl) ∧ (¬ nI nk = 300)
  · rw [if_pos c]
    have hs := I.lk.2
    have hl := I.lt.2
    have hy := I.yr.2
    have hlt : nk < 300 := ne_lt (v := 300) rfl c.2.2.2.2 hs
    obtain ⟨j, hj, ej⟩ := in_ix (n := nl) (by omega) (by rw [← I.lt.1]; exact c.1)
    obtain ⟨n1, hn1, e1⟩ := nI_of2 (x := pl) (M := 10000) (n := 10000) (by decide) (ge1 c.2.2.1.1) c.2.2.1.2
    have hil : ill ≤ 10000 := Int32.le_iff_toInt_le.mpr (by have a := c.2.2.2.1.2; have b := c.2.2.1.2; rw [Int32.le_iff_toInt_le] at a b; omega)
    obtain ⟨n2, hn2, e2⟩ := nI_of2 (x := ill) (M := 10000) (n := 10000) (by decide) (Int32.not_lt.mpr c.2.2.2.1.1) hil
    refine ⟨nk + 1, ⟨I.yr, I.fl, I.lt, I.bg, I.st, I.tt, ⟨(show nI nk + 1 = nI (nk + 1) from nI_1 _), by omega⟩, I.wt⟩, I.lo, I.mo, I.sv, fun k hk => ?_, fun a b h1 h2 => ?_, I.bl, I.wn, I.sf, I.ze⟩
    · show (∃ w, w ≤ 10000 ∧ (if k = nk then pl else S 35 k) = nI w) ∧ (∃ w, w ≤ 10000 ∧ (if k = nk then ill else S 36 k) = nI w) ∧ (∃ i, i < nl ∧ (if k = nk then lt else S 34 k) = nI i) ∧ ∃ y, y ≤ yy ∧ (if k = nk then S 0 0 else S 37 k) = nI y
      by_cases e : k = nk
      · simp only [if_pos e]
        exact ⟨⟨n1, hn1, e1⟩, ⟨n2, hn2, e2⟩, ⟨j, hj, ej⟩, yy, Nat.le_refl _, I.yr.1⟩
      · simp only [if_neg e]
        exact I.ks k (by omega)
    · show (if a = nk then S 0 0 else S 37 a).toInt ≤ (if b = nk then S 0 0 else S 37 b).toInt
      by_cases e : b = nk
      · rw [if_pos e]
        by_cases e' : a = nk
        · rw [if_pos e']; exact Int.le_refl _
        · rw [if_neg e']
          obtain ⟨y, y1, y2⟩ := (I.ks a (by omega)).2.2.2
          rw [y2, I.yr.1, nI_toInt (by omega), nI_toInt (by omega)]
          omega
      · rw [if_neg e, if_neg (show ¬ a = nk by omega)]
        exact I.km a b h1 (by omega)
  · rw [if_neg c]
    exact ⟨nk, I⟩
theorem si_want (I : SI S nf nl nb ns nt nk nw yy) (lt : Int32) : ∃ nw', SI (m_want S lt nw).2 nf nl nb ns nt nk nw' yy := by
  unfold m_want
  by_cases c0 : lt = -1
  · rw [if_pos c0]
    exact ⟨0, ⟨I.yr, I.fl, I.lt, I.bg, I.st, I.tt, I.lk, ⟨(show (0 : Int32) = nI 0 from rfl), by omega⟩⟩, I.lo, I.mo, I.sv, I.ks, I.km, I.bl, fun k hk => absurd hk (Nat.not_lt_zero _), I.sf, I.ze⟩
  · rw [if_neg c0]
    by_cases c : (0 ≤ lt ∧ lt ≤ S 2 0 - 1) ∧ ¬ nI nw = 5 ∧ ffst (wantB S lt) 0 nw = -1
    · rw [if_pos c]
      have hs := I.wt.2
      have hl := I.lt.2
      have hlt : nw < 5 := ne_lt (v := 5) rfl c.2.1 hs
      obtain ⟨j, hj, ej⟩ := in_ix (n := nl) (by omega) (by rw [← I.lt.1]; exact c.1)
      refine ⟨nw + 1, ⟨I.yr, I.fl, I.lt, I.bg, I.st, I.tt, I.lk, ⟨(show nI nw + 1 = nI (nw + 1) from nI_1 _), by omega⟩⟩, I.lo, I.mo, I.sv, I.ks, I.km, I.bl, fun k hk => ?_, I.sf, I.ze⟩
      show ∃ i, i < nl ∧ u2 S 42 nw lt 42 k = nI i
      by_cases e : k = nw
      · rw [e, u2_same]
        exact ⟨j, hj, ej⟩
      · rw [u2_ne2 _ _ e]
        exact I.wn k (by omega)
    · rw [if_neg c]
      exact ⟨nw, I⟩
theorem si_harvest (I : SI S nf nl nb ns nt nk nw yy) (lt g : Int32) : SI (m_harvest S lt g).2 nf nl nb ns nt nk nw yy := by
  unfold m_harvest
  split
  · exact ⟨⟨I.yr, I.fl, I.lt, I.bg, I.st, I.tt, I.lk, I.wt⟩, I.lo, I.mo, I.sv, I.ks, I.km, I.bl, I.wn, I.sf, I.ze⟩
  · exact I
theorem si_prove (I : SI S nf nl nb ns nt nk nw yy) (lt : Int32) : SI (m_prove S lt).2 nf nl nb ns nt nk nw yy := by
  unfold m_prove
  split
  · exact ⟨⟨I.yr, I.fl, I.lt, I.bg, I.st, I.tt, I.lk, I.wt⟩, I.lo, I.mo, I.sv, I.ks, I.km, I.bl, I.wn, I.sf, I.ze⟩
  · exact I
theorem si_open (I : SI S nf nl nb ns nt nk nw yy) (bg : Int32) : SI (m_open S bg).2 nf nl nb ns nt nk nw yy := by
  unfold m_open
  split
  · exact ⟨⟨I.yr, I.fl, I.lt, I.bg, I.st, I.tt, I.lk, I.wt⟩, I.lo, I.mo, I.sv, I.ks, I.km, I.bl, I.wn, I.sf, I.ze⟩
  · exact I
theorem si_sell (I : SI S nf nl nb ns nt nk nw yy) (bg by_ : Int32) : SI (m_sell S bg by_).2 nf nl nb ns nt nk nw yy := by
  unfold m_sell
  split
  · exact ⟨⟨I.yr, I.fl, I.lt, I.bg, I.st, I.tt, I.lk, I.wt⟩, I.lo, I.mo, I.sv, I.ks, I.km, I.bl, I.wn, I.sf, I.ze⟩
  · exact I
theorem si_toss (I : SI S nf nl nb ns nt nk nw yy) (lt g : Int32) : SI (m_toss S lt g).2 nf nl nb ns nt nk nw yy := by
  unfold m_toss
  by_cases c : (0 ≤ lt ∧ lt ≤ S 2 0 - 1) ∧ (¬ g < 1) ∧ (g ≤ S 23 lt.toNatClampNeg)
  · rw [if_pos c]
    have hl := I.lt.2
    obtain ⟨j, hj, rfl⟩ := in_ix (n := nl) (by omega) (by rw [← I.lt.1]; exact c.1)
    refine ⟨⟨I.yr, I.fl, I.lt, I.bg, I.st, I.tt, I.lk, I.wt⟩, I.lo, I.mo, I.sv, I.ks, I.km, I.bl, I.wn, I.sf, fun a ha => ⟨(I.ze a ha).1, (I.ze a ha).2.1, (I.ze a ha).2.2.1, ?_⟩⟩
    show (if a = (nI j).toNatClampNeg then _ else S 32 a) = 0
    rw [nI_clamp (by omega), if_neg (by omega)]
    exact (I.ze a ha).2.2.2
  · rw [if_neg c]
    exact I
theorem SI.w45 (I : SI S nf nl nb ns nt nk nw yy) (z w : Nat → Int32) : SI (W45 S z w) nf nl nb ns nt nk nw yy := I.scr (fun k i hk => by unfold W45; rw [if_neg (by omega), if_neg (by omega)])
theorem si_seal (I : SI S nf nl nb ns nt nk nw yy) (bg : Int32) : SI (m_seal S bg nb nf nl ns nt nk).2 nf nl nb ns nt nk nw yy := by
  unfold m_seal
  split
  · split
    · exact I.w45 _ _
    · have I' := I.w45 (clsZ S (S 0 0) nf nl ns nt nk).1 (clsZ S (S 0 0) nf nl ns nt nk).2
      exact ⟨⟨I'.yr, I'.fl, I'.lt, I'.bg, I'.st, I'.tt, I'.lk, I'.wt⟩, I'.lo, I'.mo, I'.sv, I'.ks, I'.km, I'.bl, I'.wn, I'.sf, I'.ze⟩
  · exact I
theorem si_bag (I : SI S nf nl nb ns nt nk nw yy) (lt g : Int32) : ∃ nb', SI (m_bag S lt g nb nf nl ns nt nk).2 nf nl nb' ns nt nk nw yy := by
  unfold m_bag
  by_cases c : (0 ≤ lt ∧ lt ≤ S 2 0 - 1) ∧ (¬ g < 1) ∧ (¬ S 23 lt.toNatClampNeg < g) ∧ (¬ nI nb = 200)
  · rw [if_pos c]
    split
    · exact ⟨nb, I.w45 _ _⟩
    · have I' := I.w45 (clsZ S (S 0 0) nf nl ns nt nk).1 (clsZ S (S 0 0) nf nl ns nt nk).2
      have hl := I.lt.2
      have hlt : nb < 200 := ne_lt (v := 200) rfl c.2.2.2 I.bg.2
      obtain ⟨j, hj, rfl⟩ := in_ix (n := nl) (by omega) (by rw [← I.lt.1]; exact c.1)
      generalize W45 S (clsZ S (S 0 0) nf nl ns nt nk).1 (clsZ S (S 0 0) nf nl ns nt nk).2 = T at I' ⊢
      refine ⟨nb + 1, ⟨I'.yr, I'.fl, I'.lt, ⟨(show nI nb + 1 = nI (nb + 1) from nI_1 _), by omega⟩, I'.st, I'.tt, I'.lk, I'.wt⟩, I'.lo, I'.mo, I'.sv, I'.ks, I'.km, fun b hb => ?_, I'.wn, I'.sf, fun a ha => ⟨(I'.ze a ha).1, (I'.ze a ha).2.1, ?_, (I'.ze a ha).2.2.2⟩⟩
      · show ∃ i, i < nl ∧ (if b = nb then nI j else T 38 b) = nI i
        by_cases e : b = nb
        · rw [if_pos e]
          exact ⟨j, hj, rfl⟩
        · rw [if_neg e]
          exact I'.bl b (by omega)
      · show (if a = (nI j).toNatClampNeg then _ else T 31 a) = 0
        rw [nI_clamp (by omega), if_neg (by omega)]
        exact (I'.ze a ha).2.2.1
  · rw [if_neg c]
    exact ⟨nb, I⟩
/-- a new lot -/
theorem SI.lot (I : SI S nf nl nb ns nt nk nw yy) (hn : nl < 200) (e : ∀ k i, k < 43 → (k < 21 ∨ 33 < k) → k ≠ 2 → S' k i = S k i) (h2 : S' 2 0 = nI (nl + 1)) (eo : ∀ a, a < nl → S' 21 a = S 21 a ∧ S' 24 a = S 24 a ∧ S' 25 a = S 25 a ∧ S' 26 a = S 26 a ∧ S' 27 a = S 27 a) (hnew : lotI S' nf nl) (h24 : S' 24 nl = nI yy) (hz : ∀ a, nl < a → S' 29 a = S 29 a ∧ S' 30 a = S 30 a ∧ S' 31 a = S 31 a ∧ S' 32 a = S 32 a) : SI S' nf (nl + 1) nb ns nt nk nw yy := by
  have hy := I.yr.2
  refine ⟨⟨by rw [e 0 0 (by decide) (by decide) (by decide)]; exact I.yr, by rw [e 1 0 (by decide) (by decide) (by decide)]; exact I.fl, ⟨h2, by omega⟩, by rw [e 3 0 (by decide) (by decide) (by decide)]; exact I.bg, by rw [e 5 0 (by decide) (by decide) (by decide)]; exact I.st, by rw [e 6 0 (by decide) (by decide) (by decide)]; exact I.tt, by rw [e 7 0 (by decide) (by decide) (by decide)]; exact I.lk, by rw [e 8 0 (by decide) (by decide) (by decide)]; exact I.wt⟩, fun a ha => ?_, fun a b h1 h2 => ?_, fun k hk => ?_, fun k hk => ?_, fun a b h1 h2 => ?_, fun b hb => ?_, fun k hk => ?_, fun k hk => ?_, fun a ha => ?_⟩
  · by_cases ea : a = nl
    · rw [ea]
      exact ⟨hnew, yy, Nat.le_refl _, h24⟩
    · have hl : a < nl := by omega
      obtain ⟨q1, q2, q3, q4, q5⟩ := eo a hl
      refine ⟨?_, by rw [q2]; exact (I.lo a hl).2⟩
      unfold lotI
      rw [q1, q2, q3, q4, q5]
      rcases (I.lo a hl).1 with h | h | h
      · exact Or.inl h
      · obtain ⟨h1, h2, ⟨j, j1, j2, j3⟩, h4⟩ := h
        obtain ⟨p1, p2, _⟩ := eo j (by omega)
        exact Or.inr (Or.inl ⟨h1, h2, ⟨j, j1, j2, by rw [p1, p2]; exact j3⟩, h4⟩)
      · exact Or.inr (Or.inr h)
  · by_cases eb : b = nl
    · rw [eb, h24]
      by_cases ea : a = nl
      · rw [ea, h24]; exact Int.le_refl _
      · obtain ⟨y, y1, y2⟩ := (I.lo a (by omega)).2
        rw [(eo a (by omega)).2.1, y2, nI_toInt (by omega), nI_toInt (by omega)]
        omega
    · rw [(eo a (by omega)).2.1, (eo b (by omega)).2.1]
      exact I.mo a b h1 (by omega)
  · rw [e 18 k (by decide) (by decide) (by decide), e 19 k (by decide) (by decide) (by decide)]
    exact I.sv k hk
  · rw [e 35 k (by decide) (by decide) (by decide), e 36 k (by decide) (by decide) (by decide), e 34 k (by decide) (by decide) (by decide), e 37 k (by decide) (by decide) (by decide)]
    obtain ⟨a1, a2, ⟨j, j1, j2⟩, a4⟩ := I.ks k hk
    exact ⟨a1, a2, ⟨j, by omega, j2⟩, a4⟩
  · rw [e 37 a (by decide) (by decide) (by decide), e 37 b (by decide) (by decide) (by decide)]
    exact I.km a b h1 h2
  · rw [e 38 b (by decide) (by decide) (by decide)]
    obtain ⟨j, j1, j2⟩ := I.bl b hb
    exact ⟨j, by omega, j2⟩
  · rw [e 42 k (by decide) (by decide) (by decide)]
    obtain ⟨j, j1, j2⟩ := I.wn k hk
    exact ⟨j, by omega, j2⟩
  · rw [e 13 k (by decide) (by decide) (by decide)]
    exact I.sf k hk
  · obtain ⟨z1, z2, z3, z4⟩ := hz a (by omega)
    rw [z1, z2, z3, z4]
    exact I.ze a (by omega)
theorem u2_if {α : Type} (g : Nat → Nat → α) (f a a' : Nat) (v : α) : u2 g f a v f a' = if a' = a then v else g f a' := by unfold u2; rw [if_pos rfl]
theorem lot_r21 {S : Nat → Nat → Int32} {so cr : Int32} {nl : Nat} (a : Nat) : lotS S so cr nl 21 a = if a = nl then so else S 21 a := by
  unfold lotS
  refine (u2_ne1 _ _ (by decide)).trans ?_
  refine (u2_ne1 _ _ (by decide)).trans ?_
  refine (u2_ne1 _ _ (by decide)).trans ?_
  refine (u2_ne1 _ _ (by decide)).trans ?_
  refine (u2_ne1 _ _ (by decide)).trans ?_
  refine (u2_ne1 _ _ (by decide)).trans ?_
  refine (u2_ne1 _ _ (by decide)).trans ?_
  refine (u2_ne1 _ _ (by decide)).trans ?_
  refine (u2_if _ _ _ _ _).trans ?_
  rfl
theorem lot_r24 {S : Nat → Nat → Int32} {so cr : Int32} {nl : Nat} (a : Nat) : lotS S so cr nl 24 a = if a = nl then S 0 0 else S 24 a := by
  unfold lotS
  refine (u2_ne1 _ _ (by decide)).trans ?_
  refine (u2_ne1 _ _ (by decide)).trans ?_
  refine (u2_ne1 _ _ (by decide)).trans ?_
  refine (u2_ne1 _ _ (by decide)).trans ?_
  refine (u2_ne1 _ _ (by decide)).trans ?_
  refine (u2_if _ _ _ _ _).trans ?_
  rfl
theorem lot_r25 {S : Nat → Nat → Int32} {so cr : Int32} {nl : Nat} (a : Nat) : lotS S so cr nl 25 a = if a = nl then -1 else S 25 a := by
  unfold lotS
  refine (u2_ne1 _ _ (by decide)).trans ?_
  refine (u2_ne1 _ _ (by decide)).trans ?_
  refine (u2_ne1 _ _ (by decide)).trans ?_
  refine (u2_ne1 _ _ (by decide)).trans ?_
  refine (u2_if _ _ _ _ _).trans ?_
  rfl
theorem lot_r26 {S : Nat → Nat → Int32} {so cr : Int32} {nl : Nat} (a : Nat) : lotS S so cr nl 26 a = if a = nl then -1 else S 26 a := by
  unfold lotS
  refine (u2_ne1 _ _ (by decide)).trans ?_
  refine (u2_ne1 _ _ (by decide)).trans ?_
  refine (u2_ne1 _ _ (by decide)).trans ?_
  refine (u2_if _ _ _ _ _).trans ?_
  rfl
theorem lot_r27 {S : Nat → Nat → Int32} {so cr : Int32} {nl : Nat} (a : Nat) : lotS S so cr nl 27 a = if a = nl then -1 else S 27 a := by
  unfold lotS
  refine (u2_ne1 _ _ (by decide)).trans ?_
  refine (u2_ne1 _ _ (by decide)).trans ?_
  refine (u2_if _ _ _ _ _).trans ?_
  rfl
theorem lot_r29 {S : Nat → Nat → Int32} {so cr : Int32} {nl : Nat} (a : Nat) : lotS S so cr nl 29 a = S 29 a := by
  unfold lotS
  refine (u2_ne1 _ _ (by decide)).trans ?_
  refine (u2_ne1 _ _ (by decide)).trans ?_
  refine (u2_ne1 _ _ (by decide)).trans ?_
  refine (u2_ne1 _ _ (by decide)).trans ?_
  refine (u2_ne1 _ _ (by decide)).trans ?_
  refine (u2_ne1 _ _ (by decide)).trans ?_
  refine (u2_ne1 _ _ (by decide)).trans ?_
  refine (u2_ne1 _ _ (by decide)).trans ?_
  refine (u2_ne1 _ _ (by decide)).trans ?_
  refine (u2_ne1 _ _ (by decide)).trans ?_
  rfl
theorem lot_r30 {S : Nat → Nat → Int32} {so cr : Int32} {nl : Nat} (a : Nat) : lotS S so cr nl 30 a = S 30 a := by
  unfold lotS
  refine (u2_ne1 _ _ (by decide)).trans ?_
  refine (u2_ne1 _ _ (by decide)).trans ?_
  refine (u2_ne1 _ _ (by decide)).trans ?_
  refine (u2_ne1 _ _ (by decide)).trans ?_
  refine (u2_ne1 _ _ (by decide)).trans ?_
  refine (u2_ne1 _ _ (by decide)).trans ?_
  refine (u2_ne1 _ _ (by decide)).trans ?_
  refine (u2_ne1 _ _ (by decide)).trans ?_
  refine (u2_ne1 _ _ (by decide)).trans ?_
  refine (u2_ne1 _ _ (by decide)).trans ?_
  rfl
theorem lot_r31 {S : Nat → Nat → Int32} {so cr : Int32} {nl : Nat} (a : Nat) : lotS S so cr nl 31 a = S 31 a := by
  unfold lotS
  refine (u2_ne1 _ _ (by decide)).trans ?_
  refine (u2_ne1 _ _ (by decide)).trans ?_
  refine (u2_ne1 _ _ (by decide)).trans ?_
  refine (u2_ne1 _ _ (by decide)).trans ?_
  refine (u2_ne1 _ _ (by decide)).trans ?_
  refine (u2_ne1 _ _ (by decide)).trans ?_
  refine (u2_ne1 _ _ (by decide)).trans ?_
  refine (u2_ne1 _ _ (by decide)).trans ?_
  refine (u2_ne1 _ _ (by decide)).trans ?_
  refine (u2_ne1 _ _ (by decide)).trans ?_
  rfl
theorem lot_r32 {S : Nat → Nat → Int32} {so cr : Int32} {nl : Nat} (a : Nat) : lotS S so cr nl 32 a = S 32 a := by
  unfold lotS
  refine (u2_ne1 _ _ (by decide)).trans ?_
  refine (u2_ne1 _ _ (by decide)).trans ?_
  refine (u2_ne1 _ _ (by decide)).trans ?_
  refine (u2_ne1 _ _ (by decide)).trans ?_
  refine (u2_ne1 _ _ (by decide)).trans ?_
  refine (u2_ne1 _ _ (by decide)).trans ?_
  refine (u2_ne1 _ _ (by decide)).trans ?_
  refine (u2_ne1 _ _ (by decide)).trans ?_
  refine (u2_ne1 _ _ (by decide)).trans ?_
  refine (u2_ne1 _ _ (by decide)).trans ?_
  rfl
theorem lot_o {S : Nat → Nat → Int32} {so cr : Int32} {nl : Nat} {k : Nat} (a : Nat) (h1 : k < 21 ∨ 33 < k) (h2 : k ≠ 2) : lotS S so cr nl k a = S k a := by
  unfold lotS
  refine (u2_ne1 _ _ (by omega)).trans ?_
  refine (u2_ne1 _ _ (by omega)).trans ?_
  refine (u2_ne1 _ _ (by omega)).trans ?_
  refine (u2_ne1 _ _ (by omega)).trans ?_
  refine (u2_ne1 _ _ (by omega)).trans ?_
  refine (u2_ne1 _ _ (by omega)).trans ?_
  refine (u2_ne1 _ _ (by omega)).trans ?_
  refine (u2_ne1 _ _ (by omega)).trans ?_
  refine (u2_ne1 _ _ (by omega)).trans ?_
  refine (u2_ne1 _ _ (by omega)).trans ?_
  rfl
theorem tube_r21 {S : Nat → Nat → Int32} {cr : Int32} {nl : Nat} (a : Nat) : mS_tube S cr nl 21 a = (lotS S 0 cr nl) 21 a := by
  unfold mS_tube
  refine (u2_ne1 _ _ (by decide)).trans ?_
  refine (u2_ne1 _ _ (by decide)).trans ?_
  rfl
theorem tube_r24 {S : Nat → Nat → Int32} {cr : Int32} {nl : Nat} (a : Nat) : mS_tube S cr nl 24 a = (lotS S 0 cr nl) 24 a := by
  unfold mS_tube
  refine (u2_ne1 _ _ (by decide)).trans ?_
  refine (u2_ne1 _ _ (by decide)).trans ?_
  rfl
theorem tube_r25 {S : Nat → Nat → Int32} {cr : Int32} {nl : Nat} (a : Nat) : mS_tube S cr nl 25 a = (lotS S 0 cr nl) 25 a := by
  unfold mS_tube
  refine (u2_ne1 _ _ (by decide)).trans ?_
  refine (u2_ne1 _ _ (by decide)).trans ?_
  rfl
theorem tube_r26 {S : Nat → Nat → Int32} {cr : Int32} {nl : Nat} (a : Nat) : mS_tube S cr nl 26 a = (lotS S 0 cr nl) 26 a := by
  unfold mS_tube
  refine (u2_ne1 _ _ (by decide)).trans ?_
  refine (u2_ne1 _ _ (by decide)).trans ?_
  rfl
theorem tube_r27 {S : Nat → Nat → Int32} {cr : Int32} {nl : Nat} (a : Nat) : mS_tube S cr nl 27 a = (lotS S 0 cr nl) 27 a := by
  unfold mS_tube
  refine (u2_ne1 _ _ (by decide)).trans ?_
  refine (u2_ne1 _ _ (by decide)).trans ?_
  rfl
theorem tube_r29 {S : Nat → Nat → Int32} {cr : Int32} {nl : Nat} (a : Nat) : mS_tube S cr nl 29 a = (lotS S 0 cr nl) 29 a := by
  unfold mS_tube
  refine (u2_ne1 _ _ (by decide)).trans ?_
  refine (u2_ne1 _ _ (by decide)).trans ?_
  rfl
theorem tube_r30 {S : Nat → Nat → Int32} {cr : Int32} {nl : Nat} (a : Nat) : mS_tube S cr nl 30 a = (lotS S 0 cr nl) 30 a := by
  unfold mS_tube
  refine (u2_ne1 _ _ (by decide)).trans ?_
  refine (u2_ne1 _ _ (by decide)).trans ?_
  rfl
theorem tube_r31 {S : Nat → Nat → Int32} {cr : Int32} {nl : Nat} (a : Nat) : mS_tube S cr nl 31 a = (lotS S 0 cr nl) 31 a := by
  unfold mS_tube
  refine (u2_ne1 _ _ (by decide)).trans ?_
  refine (u2_ne1 _ _ (by decide)).trans ?_
  rfl
theorem tube_r32 {S : Nat → Nat → Int32} {cr : Int32} {nl : Nat} (a : Nat) : mS_tube S cr nl 32 a = (lotS S 0 cr nl) 32 a := by
  unfold mS_tube
  refine (u2_ne1 _ _ (by decide)).trans ?_
  refine (u2_ne1 _ _ (by decide)).trans ?_
  rfl
theorem tube_o {S : Nat → Nat → Int32} {cr : Int32} {nl : Nat} {k : Nat} (a : Nat) (h1 : k < 21 ∨ 33 < k) (h2 : k ≠ 2) : mS_tube S cr nl k a = (lotS S 0 cr nl) k a := by
  unfold mS_tube
  refine (u2_ne1 _ _ (by omega)).trans ?_
  refine (u2_ne1 _ _ (by omega)).trans ?_
  rfl
theorem mix_r21 {S : Nat → Nat → Int32} {one g oth more : Int32} {nl : Nat} (a : Nat) : mS_mix S one g oth more nl 21 a = (lotS S 2 (S 22 one.toNatClampNeg) nl) 21 a := by
  unfold mS_mix
  refine (u2_ne1 _ _ (by decide)).trans ?_
  refine (u2_ne1 _ _ (by decide)).trans ?_
  refine (u2_ne1 _ _ (by decide)).trans ?_
  refine (u2_ne1 _ _ (by decide)).trans ?_
  refine (u2_ne1 _ _ (by decide)).trans ?_
  refine (u2_ne1 _ _ (by decide)).trans ?_
  refine (u2_ne1 _ _ (by decide)).trans ?_
  refine (u2_ne1 _ _ (by decide)).trans ?_
  rfl
theorem mix_r24 {S : Nat → Nat → Int32} {one g oth more : Int32} {nl : Nat} (a : Nat) : mS_mix S one g oth more nl 24 a = (lotS S 2 (S 22 one.toNatClampNeg) nl) 24 a := by
  unfold mS_mix
  refine (u2_ne1 _ _ (by decide)).trans ?_
  refine (u2_ne1 _ _ (by decide)).trans ?_
  refine (u2_ne1 _ _ (by decide)).trans ?_
  refine (u2_ne1 _ _ (by decide)).trans ?_
  refine (u2_ne1 _ _ (by decide)).trans ?_
  refine (u2_ne1 _ _ (by decide)).trans ?_
  refine (u2_ne1 _ _ (by decide)).trans ?_
  refine (u2_ne1 _ _ (by decide)).trans ?_
  rfl
theorem mix_r25 {S : Nat → Nat → Int32} {one g oth more : Int32} {nl : Nat} (a : Nat) : mS_mix S one g oth more nl 25 a = (lotS S 2 (S 22 one.toNatClampNeg) nl) 25 a := by
  unfold mS_mix
  refine (u2_ne1 _ _ (by decide)).trans ?_
  refine (u2_ne1 _ _ (by decide)).trans ?_
  refine (u2_ne1 _ _ (by decide)).trans ?_
  refine (u2_ne1 _ _ (by decide)).trans ?_
  refine (u2_ne1 _ _ (by decide)).trans ?_
  refine (u2_ne1 _ _ (by decide)).trans ?_
  refine (u2_ne1 _ _ (by decide)).trans ?_
  refine (u2_ne1 _ _ (by decide)).trans ?_
  rfl
theorem mix_r26 {S : Nat → Nat → Int32} {one g oth more : Int32} {nl : Nat} (a : Nat) : mS_mix S one g oth more nl 26 a = if a = nl then one else (lotS S 2 (S 22 one.toNatClampNeg) nl) 26 a := by
  unfold mS_mix
  refine (u2_ne1 _ _ (by decide)).trans ?_
  refine (u2_if _ _ _ _ _).trans ?_
  refine congrArg (fun z => if a = nl then one else z) ?_
  refine (u2_ne1 _ _ (by decide)).trans ?_
  refine (u2_ne1 _ _ (by decide)).trans ?_
  refine (u2_ne1 _ _ (by decide)).trans ?_
  refine (u2_ne1 _ _ (by decide)).trans ?_
  refine (u2_ne1 _ _ (by decide)).trans ?_
  refine (u2_ne1 _ _ (by decide)).trans ?_
  rfl
theorem mix_r27 {S : Nat → Nat → Int32} {one g oth more : Int32} {nl : Nat} (a : Nat) : mS_mix S one g oth more nl 27 a = if a = nl then oth else (lotS S 2 (S 22 one.toNatClampNeg) nl) 27 a := by
  unfold mS_mix
  refine (u2_if _ _ _ _ _).trans ?_
  refine congrArg (fun z => if a = nl then oth else z) ?_
  refine (u2_ne1 _ _ (by decide)).trans ?_
  refine (u2_ne1 _ _ (by decide)).trans ?_
  refine (u2_ne1 _ _ (by decide)).trans ?_
  refine (u2_ne1 _ _ (by decide)).trans ?_
  refine (u2_ne1 _ _ (by decide)).trans ?_
  refine (u2_ne1 _ _ (by decide)).trans ?_
  refine (u2_ne1 _ _ (by decide)).trans ?_
  rfl
theorem mix_r29 {S : Nat → Nat → Int32} {one g oth more : Int32} {nl : Nat} (a : Nat) : mS_mix S one g oth more nl 29 a = (lotS S 2 (S 22 one.toNatClampNeg) nl) 29 a := by
  unfold mS_mix
  refine (u2_ne1 _ _ (by decide)).trans ?_
  refine (u2_ne1 _ _ (by decide)).trans ?_
  refine (u2_ne1 _ _ (by decide)).trans ?_
  refine (u2_ne1 _ _ (by decide)).trans ?_
  refine (u2_ne1 _ _ (by decide)).trans ?_
  refine (u2_ne1 _ _ (by decide)).trans ?_
  refine (u2_ne1 _ _ (by decide)).trans ?_
  refine (u2_ne1 _ _ (by decide)).trans ?_
  rfl
theorem mix_r31 {S : Nat → Nat → Int32} {one g oth more : Int32} {nl : Nat} (a : Nat) : mS_mix S one g oth more nl 31 a = (lotS S 2 (S 22 one.toNatClampNeg) nl) 31 a := by
  unfold mS_mix
  refine (u2_ne1 _ _ (by decide)).trans ?_
  refine (u2_ne1 _ _ (by decide)).trans ?_
  refine (u2_ne1 _ _ (by decide)).trans ?_
  refine (u2_ne1 _ _ (by decide)).trans ?_
  refine (u2_ne1 _ _ (by decide)).trans ?_
  refine (u2_ne1 _ _ (by decide)).trans ?_
  refine (u2_ne1 _ _ (by decide)).trans ?_
  refine (u2_ne1 _ _ (by decide)).trans ?_
  rfl
theorem mix_r32 {S : Nat → Nat → Int32} {one g oth more : Int32} {nl : Nat} (a : Nat) : mS_mix S one g oth more nl 32 a = (lotS S 2 (S 22 one.toNatClampNeg) nl) 32 a := by
  unfold mS_mix
  refine (u2_ne1 _ _ (by decide)).trans ?_
  refine (u2_ne1 _ _ (by decide)).trans ?_
  refine (u2_ne1 _ _ (by decide)).trans ?_
  refine (u2_ne1 _ _ (by decide)).trans ?_
  refine (u2_ne1 _ _ (by decide)).trans ?_
  refine (u2_ne1 _ _ (by decide)).trans ?_
  refine (u2_ne1 _ _ (by decide)).trans ?_
  refine (u2_ne1 _ _ (by decide)).trans ?_
  rfl
theorem mix_o {S : Nat → Nat → Int32} {one g oth more : Int32} {nl : Nat} {k : Nat} (a : Nat) (h1 : k < 21 ∨ 33 < k) (h2 : k ≠ 2) : mS_mix S one g oth more nl k a = (lotS S 2 (S 22 one.toNatClampNeg) nl) k a := by
  unfold mS_mix
  refine (u2_ne1 _ _ (by omega)).trans ?_
  refine (u2_ne1 _ _ (by omega)).trans ?_
  refine (u2_ne1 _ _ (by omega)).trans ?_
  refine (u2_ne1 _ _ (by omega)).trans ?_
  refine (u2_ne1 _ _ (by omega)).trans ?_
  refine (u2_ne1 _ _ (by omega)).trans ?_
  refine (u2_ne1 _ _ (by omega)).trans ?_
  refine (u2_ne1 _ _ (by omega)).trans ?_
  rfl
theorem sow_r21 {S : Nat → Nat → Int32} {fr fd g : Int32} {nl : Nat} (a : Nat) : mS_sow S fr fd g nl 21 a = (lotS S 1 (S 22 fr.toNatClampNeg) nl) 21 a := by
  unfold mS_sow
  refine (u2_ne1 _ _ (by decide)).trans ?_
  refine (u2_ne1 _ _ (by decide)).trans ?_
  refine (u2_ne1 _ _ (by decide)).trans ?_
  refine (u2_ne1 _ _ (by decide)).trans ?_
  rfl
theorem sow_r24 {S : Nat → Nat → Int32} {fr fd g : Int32} {nl : Nat} (a : Nat) : mS_sow S fr fd g nl 24 a = (lotS S 1 (S 22 fr.toNatClampNeg) nl) 24 a := by
  unfold mS_sow
  refine (u2_ne1 _ _ (by decide)).trans ?_
  refine (u2_ne1 _ _ (by decide)).trans ?_
  refine (u2_ne1 _ _ (by decide)).trans ?_
  refine (u2_ne1 _ _ (by decide)).trans ?_
  rfl
theorem sow_r25 {S : Nat → Nat → Int32} {fr fd g : Int32} {nl : Nat} (a : Nat) : mS_sow S fr fd g nl 25 a = if a = nl then fd else (lotS S 1 (S 22 fr.toNatClampNeg) nl) 25 a := by
  unfold mS_sow
  refine (u2_if _ _ _ _ _).trans ?_
  refine congrArg (fun z => if a = nl then fd else z) ?_
  refine (u2_ne1 _ _ (by decide)).trans ?_
  refine (u2_ne1 _ _ (by decide)).trans ?_
  refine (u2_ne1 _ _ (by decide)).trans ?_
  rfl
theorem sow_r26 {S : Nat → Nat → Int32} {fr fd g : Int32} {nl : Nat} (a : Nat) : mS_sow S fr fd g nl 26 a = if a = nl then fr else (lotS S 1 (S 22 fr.toNatClampNeg) nl) 26 a := by
  unfold mS_sow
  refine (u2_ne1 _ _ (by decide)).trans ?_
  refine (u2_if _ _ _ _ _).trans ?_
  refine congrArg (fun z => if a = nl then fr else z) ?_
  refine (u2_ne1 _ _ (by decide)).trans ?_
  refine (u2_ne1 _ _ (by decide)).trans ?_
  rfl
theorem sow_r27 {S : Nat → Nat → Int32} {fr fd g : Int32} {nl : Nat} (a : Nat) : mS_sow S fr fd g nl 27 a = (lotS S 1 (S 22 fr.toNatClampNeg) nl) 27 a := by
  unfold mS_sow
  refine (u2_ne1 _ _ (by decide)).trans ?_
  refine (u2_ne1 _ _ (by decide)).trans ?_
  refine (u2_ne1 _ _ (by decide)).trans ?_
  refine (u2_ne1 _ _ (by decide)).trans ?_
  rfl
theorem sow_r30 {S : Nat → Nat → Int32} {fr fd g : Int32} {nl : Nat} (a : Nat) : mS_sow S fr fd g nl 30 a = (lotS S 1 (S 22 fr.toNatClampNeg) nl) 30 a := by
  unfold mS_sow
  refine (u2_ne1 _ _ (by decide)).trans ?_
  refine (u2_ne1 _ _ (by decide)).trans ?_
  refine (u2_ne1 _ _ (by decide)).trans ?_
  refine (u2_ne1 _ _ (by decide)).trans ?_
  rfl
theorem sow_r31 {S : Nat → Nat → Int32} {fr fd g : Int32} {nl : Nat} (a : Nat) : mS_sow S fr fd g nl 31 a = (lotS S 1 (S 22 fr.toNatClampNeg) nl) 31 a := by
  unfold mS_sow
  refine (u2_ne1 _ _ (by decide)).trans ?_
  refine (u2_ne1 _ _ (by decide)).trans ?_
  refine (u2_ne1 _ _ (by decide)).trans ?_
  refine (u2_ne1 _ _ (by decide)).trans ?_
  rfl
theorem sow_r32 {S : Nat → Nat → Int32} {fr fd g : Int32} {nl : Nat} (a : Nat) : mS_sow S fr fd g nl 32 a = (lotS S 1 (S 22 fr.toNatClampNeg) nl) 32 a := by
  unfold mS_sow
  refine (u2_ne1 _ _ (by decide)).trans ?_
  refine (u2_ne1 _ _ (by decide)).trans ?_
  refine (u2_ne1 _ _ (by decide)).trans ?_
  refine (u2_ne1 _ _ (by decide)).trans ?_
  rfl
theorem sow_o {S : Nat → Nat → Int32} {fr fd g : Int32} {nl : Nat} {k : Nat} (a : Nat) (h1 : k < 21 ∨ 33 < k) (h2 : k ≠ 2) : mS_sow S fr fd g nl k a = (lotS S 1 (S 22 fr.toNatClampNeg) nl) k a := by
  unfold mS_sow
  refine (u2_ne1 _ _ (by omega)).trans ?_
  refine (u2_ne1 _ _ (by omega)).trans ?_
  refine (u2_ne1 _ _ (by omega)).trans ?_
  refine (u2_ne1 _ _ (by omega)).trans ?_
  rfl
theorem mix_r30 {S : Nat → Nat → Int32} {one g oth more : Int32} {nl a : Nat} (h1 : a ≠ one.toNatClampNeg) (h2 : a ≠ oth.toNatClampNeg) : mS_mix S one g oth more nl 30 a = (lotS S 2 (S 22 one.toNatClampNeg) nl) 30 a := by
  unfold mS_mix
  refine (u2_ne1 _ _ (by decide)).trans ?_
  refine (u2_ne1 _ _ (by decide)).trans ?_
  refine (u2_ne1 _ _ (by decide)).trans ?_
  refine (u2_ne1 _ _ (by decide)).trans ?_
  refine (u2_ne2 _ _ h2).trans ?_
  refine (u2_ne2 _ _ h1).trans ?_
  refine (u2_ne1 _ _ (by decide)).trans ?_
  refine (u2_ne1 _ _ (by decide)).trans ?_
  rfl
theorem sow_r29 {S : Nat → Nat → Int32} {fr fd g : Int32} {nl a : Nat} (h1 : a ≠ fr.toNatClampNeg) : mS_sow S fr fd g nl 29 a = (lotS S 1 (S 22 fr.toNatClampNeg) nl) 29 a := by
  unfold mS_sow
  refine (u2_ne1 _ _ (by decide)).trans ?_
  refine (u2_ne1 _ _ (by decide)).trans ?_
  refine (u2_ne2 _ _ h1).trans ?_
  refine (u2_ne1 _ _ (by decide)).trans ?_
  rfl
theorem si_tube (I : SI S nf nl nb ns nt nk nw yy) (cr : Int32) : ∃ nl', SI (m_tube S cr nl).2 nf nl' nb ns nt nk nw yy := by
  unfold m_tube
  by_cases c : (1 ≤ cr ∧ cr ≤ 4) ∧ (¬ nI nl = 200)
  · rw [if_pos c]
    have hlt : nl < 200 := ne_lt (v := 200) rfl c.2 I.lt.2
    show ∃ nl', SI (mS_tube S cr nl) nf nl' nb ns nt nk nw yy
    refine ⟨nl + 1, I.lot hlt (fun k i hk h1 h2 => (tube_o i h1 h2).trans (lot_o i h1 h2)) (nI_1 _) (fun a ha => ?_) (Or.inl ⟨?_, ?_, ?_, ?_⟩) ?_ (fun a ha => ⟨(tube_r29 a).trans (lot_r29 a), (tube_r30 a).trans (lot_r30 a), (tube_r31 a).trans (lot_r31 a), (tube_r32 a).trans (lot_r32 a)⟩)⟩
    · have ne : ¬ a = nl := by omega
      rw [tube_r21, tube_r24, tube_r25, tube_r26, tube_r27, lot_r21, lot_r24, lot_r25, lot_r26, lot_r27]
      simp only [if_neg ne]
      exact ⟨trivial, trivial, trivial, trivial, trivial⟩
    · rw [tube_r21, lot_r21, if_pos rfl]
    · rw [tube_r25, lot_r25, if_pos rfl]
    · rw [tube_r26, lot_r26, if_pos rfl]
    · rw [tube_r27, lot_r27, if_pos rfl]
    · rw [tube_r24, lot_r24, if_pos rfl]
      exact I.yr.1
  · rw [if_neg c]
    exact ⟨nl, I⟩
theorem si_mix (I : SI S nf nl nb ns nt nk nw yy) (one g oth more : Int32) : ∃ nl', SI (m_mix S one g oth more nl).2 nf nl' nb ns nt nk nw yy := by
  unfold m_mix
  by_cases c : (0 ≤ one ∧ one ≤ S 2 0 - 1) ∧ (0 ≤ oth ∧ oth ≤ S 2 0 - 1) ∧ (¬ one = oth) ∧ (¬ g < 1) ∧ (¬ more < 1) ∧ (¬ 200 ≤ nI nl) ∧ (S 22 one.toNatClampNeg = S 22 oth.toNatClampNeg) ∧ (¬ S 23 one.toNatClampNeg < g) ∧ (more ≤ S 23 oth.toNatClampNeg)
  · rw [if_pos c]
    have hl := I.lt.2
    have hlt : nl < 200 := nI_lt_of (n := 200) c.2.2.2.2.2.1 (by omega)
    obtain ⟨i, hi, ei⟩ := in_ix (n := nl) (by omega) (by rw [← I.lt.1]; exact c.1)
    obtain ⟨j, hj, ej⟩ := in_ix (n := nl) (by omega) (by rw [← I.lt.1]; exact c.2.1)
    have ci : one.toNatClampNeg = i := by rw [ei, nI_clamp (by omega)]
    have cj : oth.toNatClampNeg = j := by rw [ej, nI_clamp (by omega)]
    show ∃ nl', SI (mS_mix S one g oth more nl) nf nl' nb ns nt nk nw yy
    refine ⟨nl + 1, I.lot hlt (fun k i_ hk h1 h2 => (mix_o i_ h1 h2).trans (lot_o i_ h1 h2)) ?_ (fun a ha => ?_) (Or.inr (Or.inr ⟨?_, ?_, ⟨i, hi, ?_⟩, ⟨j, hj, ?_⟩⟩)) ?_ (fun a ha => ⟨(mix_r29 a).trans (lot_r29 a), (mix_r30 (by omega) (by omega)).trans (lot_r30 a), (mix_r31 a).trans (lot_r31 a), (mix_r32 a).trans (lot_r32 a)⟩)⟩
    · unfold mS_mix
      refine (u2_ne1 _ _ (by decide)).trans ?_
      refine (u2_ne1 _ _ (by decide)).trans ?_
      refine (u2_ne1 _ _ (by decide)).trans ?_
      refine (u2_ne1 _ _ (by decide)).trans ?_
      refine (u2_ne1 _ _ (by decide)).trans ?_
      refine (u2_ne1 _ _ (by decide)).trans ?_
      refine (u2_ne1 _ _ (by decide)).trans ?_
      refine (u2_ne1 _ _ (by decide)).trans ?_
      unfold lotS
      refine (u2_ne1 _ _ (by decide)).trans ?_
      refine (u2_ne1 _ _ (by decide)).trans ?_
      refine (u2_ne1 _ _ (by decide)).trans ?_
      refine (u2_ne1 _ _ (by decide)).trans ?_
      refine (u2_ne1 _ _ (by decide)).trans ?_
      refine (u2_ne1 _ _ (by decide)).trans ?_
      refine (u2_ne1 _ _ (by decide)).trans ?_
      refine (u2_ne1 _ _ (by decide)).trans ?_
      refine (u2_ne1 _ _ (by decide)).trans ?_
      refine (u2_if _ _ _ _ _).trans ?_
      exact nI_1 _
    · have ne : ¬ a = nl := by omega
      rw [mix_r21, mix_r24, mix_r25, mix_r26, mix_r27, lot_r21, lot_r24, lot_r25, lot_r26, lot_r27]
      simp only [if_neg ne]
      exact ⟨trivial, trivial, trivial, trivial, trivial⟩
    · rw [mix_r21, lot_r21, if_pos rfl]
    · rw [mix_r25, lot_r25, if_pos rfl]
    · rw [mix_r26, if_pos rfl]
      exact ei
    · rw [mix_r27, if_pos rfl]
      exact ej
    · rw [mix_r24, lot_r24, if_pos rfl]
      exact I.yr.1
  · rw [if_neg c]
    exact ⟨nl, I⟩
theorem si_sow (I : SI S nf nl nb ns nt nk nw yy) (fr fd g : Int32) : ∃ nl', SI (m_sow S fr fd g nl).2 nf nl' nb ns nt nk nw yy := by
  unfold m_sow
  by_cases c : (0 ≤ fr ∧ fr ≤ S 2 0 - 1) ∧ (0 ≤ fd ∧ fd ≤ S 1 0 - 1) ∧ (¬ g < 1) ∧ (¬ 200 ≤ nI nl) ∧ (¬ S 23 fr.toNatClampNeg < g) ∧ (S 21 fr.toNatClampNeg = 0 ∨ ¬ S 24 fr.toNatClampNeg = S 0 0) ∧ (lotInS S fd (S 0 0) nl = -1)
  · rw [if_pos c]
    have hl := I.lt.2
    have hf := I.fl.2
    have hy := I.yr.2
    have hlt : nl < 200 := nI_lt_of (n := 200) c.2.2.2.1 (by omega)
    obtain ⟨j, hj, ej⟩ := in_ix (n := nl) (by omega) (by rw [← I.lt.1]; exact c.1)
    obtain ⟨f, hf1, ef⟩ := in_ix (n := nf) (by omega) (by rw [← I.fl.1]; exact c.2.1)
    have cj : fr.toNatClampNeg = j := by rw [ej, nI_clamp (by omega)]
    have hj2 : S 21 j = 0 ∨ (S 24 j).toInt < (nI yy).toInt := by
      have h6 := c.2.2.2.2.2.1
      rw [cj] at h6
      refine h6.imp id (fun z => ?_)
      obtain ⟨y, y1, y2⟩ := (I.lo j hj).2
      rw [y2, I.yr.1] at z
      rw [y2, nI_toInt (by omega), nI_toInt (by omega)]
      have : y ≠ yy := fun e => z (by rw [e])
      omega
    have njl : ¬ j = nl := by omega
    show ∃ nl', SI (mS_sow S fr fd g nl) nf nl' nb ns nt nk nw yy
    refine ⟨nl + 1, I.lot hlt (fun k i_ hk h1 h2 => (sow_o i_ h1 h2).trans (lot_o i_ h1 h2)) ?_ (fun a ha => ?_) (Or.inr (Or.inl ⟨?_, ⟨f, hf1, ?_⟩, ⟨j, hj, ?_, ?_⟩, ?_⟩)) ?_ (fun a ha => ⟨(sow_r29 (by omega)).trans (lot_r29 a), (sow_r30 a).trans (lot_r30 a), (sow_r31 a).trans (lot_r31 a), (sow_r32 a).trans (lot_r32 a)⟩)⟩
    · unfold mS_sow
      refine (u2_ne1 _ _ (by decide)).trans ?_
      refine (u2_ne1 _ _ (by decide)).trans ?_
      refine (u2_ne1 _ _ (by decide)).trans ?_
      refine (u2_ne1 _ _ (by decide)).trans ?_
      unfold lotS
      refine (u2_ne1 _ _ (by decide)).trans ?_
      refine (u2_ne1 _ _ (by decide)).trans ?_
      refine (u2_ne1 _ _ (by decide)).trans ?_
      refine (u2_ne1 _ _ (by decide)).trans ?_
      refine (u2_ne1 _ _ (by decide)).trans ?_
      refine (u2_ne1 _ _ (by decide)).trans ?_
      refine (u2_ne1 _ _ (by decide)).trans ?_
      refine (u2_ne1 _ _ (by decide)).trans ?_
      refine (u2_ne1 _ _ (by decide)).trans ?_
      refine (u2_if _ _ _ _ _).trans ?_
      exact nI_1 _
    · have ne : ¬ a = nl := by omega
      rw [sow_r21, sow_r24, sow_r25, sow_r26, sow_r27, lot_r21, lot_r24, lot_r25, lot_r26, lot_r27]
      simp only [if_neg ne]
      exact ⟨trivial, trivial, trivial, trivial, trivial⟩
    · rw [sow_r21, lot_r21, if_pos rfl]
    · rw [sow_r25, if_pos rfl]
      exact ef
    · rw [sow_r26, if_pos rfl]
      exact ej
    · rw [sow_r21, lot_r21, sow_r24, lot_r24, sow_r24, lot_r24, if_neg njl, if_neg njl, if_pos rfl, I.yr.1]
      exact hj2
    · rw [sow_r27, lot_r27, if_pos rfl]
    · rw [sow_r24, lot_r24, if_pos rfl]
      exact I.yr.1
  · rw [if_neg c]
    exact ⟨nl, I⟩
/-- at first -/
theorem si_0 : SI (fun _ _ => 0) 0 0 0 0 0 0 0 0 := ⟨⟨⟨rfl, by decide⟩, ⟨rfl, by decide⟩, ⟨rfl, by decide⟩, ⟨rfl, by decide⟩, ⟨rfl, by decide⟩, ⟨rfl, by decide⟩, ⟨rfl, by decide⟩, ⟨rfl, by decide⟩⟩, fun a ha => absurd ha (Nat.not_lt_zero _), fun a b _ hb => absurd hb (Nat.not_lt_zero _), fun a ha => absurd ha (Nat.not_lt_zero _), fun a ha => absurd ha (Nat.not_lt_zero _), fun a b _ hb => absurd hb (Nat.not_lt_zero _), fun a ha => absurd ha (Nat.not_lt_zero _), fun a ha => absurd ha (Nat.not_lt_zero _), fun a ha => absurd ha (Nat.not_lt_zero _), fun a _ => ⟨rfl, rfl, rfl, rfl⟩⟩
end SIK
