def INV (x0 m0 : Nat) (ad : Nat → Nat) (h : jH) : Prop := ∃ (S : Nat → Nat → Int32) (P : Nat → Nat → Nat) (T : Nat → Nat → Nat → List Nat) (nf nl nb ns nt nk nw yy : Nat), SI S nf nl nb ns nt nk nw yy ∧ CP h S P T nf nl nb ns nt nk nw ∧ Mv m0 ad h S ∧ P 5 0 = x0 ∧ ∀ k, 9 ≤ k → k < 49 → ∀ i, i ∈ [5, 11, 12, 13, 14] → ad k ≠ P 5 i
theorem SI.n37 {S : Nat → Nat → Int32} {nf nl nb ns nt nk nw yy : Nat} (I : SI S nf nl nb ns nt nk nw yy) : ∀ k, k < nk → ¬ S 0 0 < S 37 k := fun k hk => by
  obtain ⟨y, y1, y2⟩ := (I.ks k hk).2.2.2
  rw [y2, I.yr.1]
  exact nI_nlt y1 (by have := I.yr.2; omega)
theorem near_2 (S : Nat → Nat → Int32) (a b : Int32) : (m_near S a b).2 = S := by
  unfold m_near mS_near
  split <;> rfl
theorem stands_2 (S : Nat → Nat → Int32) (a b d : Int32) (nl ns : Nat) : (m_stands S a b d nl ns).2 = S := by
  unfold m_stands mS_stands
  split <;> rfl
theorem force_2 (S : Nat → Nat → Int32) (a b d : Int32) (nt : Nat) : (m_force S a b d nt).2 = S := by
  unfold m_force mS_force
  split <;> rfl
section LAWP
variable {h h1 h2 : jH} {S : Nat → Nat → Int32} {P : Nat → Nat → Nat} {T : Nat → Nat → Nat → List Nat} {nf nl nb ns nt nk nw yy m0 : Nat} {ad : Nat → Nat} {r1 r2 : Int32}
theorem CP.scr (c : CP h S P T nf nl nb ns nt nk nw) {S' : Nat → Nat → Int32} (e : ∀ k i, k < 43 → S' k i = S k i) : CP h S' P T nf nl nb ns nt nk nw := c.agS (AgS.scr e)
theorem w43_e (z : Nat → Int32) : ∀ k i, k < 43 → W43 S z k i = S k i := fun k i hk => by unfold W43; rw [if_neg (by omega)]
theorem w45_e (z w : Nat → Int32) : ∀ k i, k < 43 → W45 S z w k i = S k i := fun k i hk => by unfold W45; rw [if_neg (by omega), if_neg (by omega)]
theorem w46_e (z : Nat → Int32) : ∀ k i, k < 43 → W46 S z k i = S k i := fun k i hk => by unfold W46; rw [if_neg (by omega)]
theorem w47_e (z w : Nat → Int32) : ∀ k i, k < 43 → W47 S z w k i = S k i := fun k i hk => by unfold W47; rw [if_neg (by omega), if_neg (by omega)]
theorem v_field (c : CP h S P T nf nl nb ns nt nk nw) (I : SI S nf nl nb ns nt nk nw yy) (M : Mv m0 ad h S) (hd : ∀ k, 9 ≤ k → k < 49 → ∀ i, i ∈ [5, 11, 12, 13, 14] → ad k ≠ P 5 i) (x : Int32) (y : Int32) (u : Int32) (v : Int32) (e1 : (fun (r : Int32) (h' : jH) => ∃ S' P' T' nf', (r, S') = m_field S x y u v nf ∧ CP h' S' P' T' nf' nl nb ns nt nk nw ∧ (S' 1 0 = nI nf' ∧ nf' ≤ 40) ∧ FrC P h h' ∧ ∀ i, P' 5 i = P 5 i) r1 h1) : Mv m0 ad h1 S := by
  obtain ⟨S1, P1, T1, n1, q1, c1, z1, f1, p1⟩ := e1
  exact f1 m0 ad S hd M
theorem w_field (c : CP h S P T nf nl nb ns nt nk nw) (I : SI S nf nl nb ns nt nk nw yy) (M : Mv m0 ad h S) (hd : ∀ k, 9 ≤ k → k < 49 → ∀ i, i ∈ [5, 11, 12, 13, 14] → ad k ≠ P 5 i) (x : Int32) (y : Int32) (u : Int32) (v : Int32) (e1 : (fun (r : Int32) (h' : jH) => ∃ S' P' T' nf', (r, S') = m_field S x y u v nf ∧ CP h' S' P' T' nf' nl nb ns nt nk nw ∧ (S' 1 0 = nI nf' ∧ nf' ≤ 40) ∧ FrC P h h' ∧ ∀ i, P' 5 i = P 5 i) r1 h1) (e2 : ∃ S', (fun (r : Int32) (S' : Nat → Nat → Int32) => (r, S') = m_field S x y u v nf) r2 S' ∧ Mv m0 ad h2 S' ∧ Fm m0 ad h1 h2) : r1 = r2 ∧ INV (P 5 0) m0 ad h2 := by
  have M1 := v_field c I M hd x y u v e1
  obtain ⟨S1, P1, T1, n1, q1, c1, z1, f1, p1⟩ := e1
  obtain ⟨S2, q2, M2, F2⟩ := e2
  obtain ⟨er, eS⟩ := Prod.mk.inj (q1.trans q2.symm)
  have eS1 : S1 = (m_field S x y u v nf).2 := congrArg Prod.snd q1
  subst eS
  have c2 := c1.ex (Ex.Fm M1.1 F2)
  obtain ⟨n2, I2⟩ := si_field I x y u v
  rw [← eS1] at I2
  have en : n1 = n2 := (nI_eq (by have := z1.2; omega) (by have := I2.fl.2; omega)).mp (z1.1.symm.trans I2.fl.1)
  subst en
  exact ⟨er, S1, P1, T1, n1, nl, nb, ns, nt, nk, nw, yy, I2, c2, M2, p1 0, fun k x y i hi => by rw [p1 i]; exact hd k x y i hi⟩
theorem v_near (c : CP h S P T nf nl nb ns nt nk nw) (I : SI S nf nl nb ns nt nk nw yy) (M : Mv m0 ad h S) (hd : ∀ k, 9 ≤ k → k < 49 → ∀ i, i ∈ [5, 11, 12, 13, 14] → ad k ≠ P 5 i) (one : Int32) (oth : Int32) (e1 : (fun (r : Int32) (h' : jH) => ∃ S', (r, S') = m_near S one oth ∧ CP h' S' P T nf nl nb ns nt nk nw ∧ FrC P h h') r1 h1) : Mv m0 ad h1 S := by
  obtain ⟨S1, q1, c1, f1⟩ := e1
  exact f1 m0 ad S hd M
theorem w_near (c : CP h S P T nf nl nb ns nt nk nw) (I : SI S nf nl nb ns nt nk nw yy) (M : Mv m0 ad h S) (hd : ∀ k, 9 ≤ k → k < 49 → ∀ i, i ∈ [5, 11, 12, 13, 14] → ad k ≠ P 5 i) (one : Int32) (oth : Int32) (e1 : (fun (r : Int32) (h' : jH) => ∃ S', (r, S') = m_near S one oth ∧ CP h' S' P T nf nl nb ns nt nk nw ∧ FrC P h h') r1 h1) (e2 : ∃ S', (fun (r : Int32) (S' : Nat → Nat → Int32) => (r, S') = m_near S one oth) r2 S' ∧ Mv m0 ad h2 S' ∧ Fm m0 ad h1 h2) : r1 = r2 ∧ INV (P 5 0) m0 ad h2 := by
  have M1 := v_near c I M hd one oth e1
  obtain ⟨S1, q1, c1, f1⟩ := e1
  obtain ⟨S2, q2, M2, F2⟩ := e2
  obtain ⟨er, eS⟩ := Prod.mk.inj (q1.trans q2.symm)
  have eS1 : S1 = (m_near S one oth).2 := congrArg Prod.snd q1
  subst eS
  have c2 := c1.ex (Ex.Fm M1.1 F2)
  have I2 : SI S1 nf nl nb ns nt nk nw yy := by rw [eS1, near_2]; exact I
  exact ⟨er, S1, P, T, nf, nl, nb, ns, nt, nk, nw, yy, I2, c2, M2, rfl, hd⟩
theorem v_stand (c : CP h S P T nf nl nb ns nt nk nw) (I : SI S nf nl nb ns nt nk nw yy) (M : Mv m0 ad h S) (hd : ∀ k, 9 ≤ k → k < 49 → ∀ i, i ∈ [5, 11, 12, 13, 14] → ad k ≠ P 5 i) (f : Int32) (yr : Int32) (cr : Int32) (e1 : (fun (r : Int32) (h' : jH) => ∃ S' T' ns', (r, S') = m_stand S f yr cr ns ∧ CP h' S' P T' nf nl nb ns' nt nk nw ∧ (S' 5 0 = nI ns' ∧ ns' ≤ 300) ∧ FrC P h h') r1 h1) : Mv m0 ad h1 S := by
  obtain ⟨S1, T1, n1, q1, c1, z1, f1⟩ := e1
  exact f1 m0 ad S hd M
theorem w_stand (c : CP h S P T nf nl nb ns nt nk nw) (I : SI S nf nl nb ns nt nk nw yy) (M : Mv m0 ad h S) (hd : ∀ k, 9 ≤ k → k < 49 → ∀ i, i ∈ [5, 11, 12, 13, 14] → ad k ≠ P 5 i) (f : Int32) (yr : Int32) (cr : Int32) (e1 : (fun (r : Int32) (h' : jH) => ∃ S' T' ns', (r, S') = m_stand S f yr cr ns ∧ CP h' S' P T' nf nl nb ns' nt nk nw ∧ (S' 5 0 = nI ns' ∧ ns' ≤ 300) ∧ FrC P h h') r1 h1) (e2 : ∃ S', (fun (r : Int32) (S' : Nat → Nat → Int32) => (r, S') = m_stand S f yr cr ns) r2 S' ∧ Mv m0 ad h2 S' ∧ Fm m0 ad h1 h2) : r1 = r2 ∧ INV (P 5 0) m0 ad h2 := by
  have M1 := v_stand c I M hd f yr cr e1
  obtain ⟨S1, T1, n1, q1, c1, z1, f1⟩ := e1
  obtain ⟨S2, q2, M2, F2⟩ := e2
  obtain ⟨er, eS⟩ := Prod.mk.inj (q1.trans q2.symm)
  have eS1 : S1 = (m_stand S f yr cr ns).2 := congrArg Prod.snd q1
  subst eS
  have c2 := c1.ex (Ex.Fm M1.1 F2)
  obtain ⟨n2, I2⟩ := si_stand I f yr cr
  rw [← eS1] at I2
  have en : n1 = n2 := (nI_eq (by have := z1.2; omega) (by have := I2.st.2; omega)).mp (z1.1.symm.trans I2.st.1)
  subst en
  exact ⟨er, S1, P, T1, nf, nl, nb, n1, nt, nk, nw, yy, I2, c2, M2, rfl, hd⟩
theorem v_stands (c : CP h S P T nf nl nb ns nt nk nw) (I : SI S nf nl nb ns nt nk nw yy) (M : Mv m0 ad h S) (hd : ∀ k, 9 ≤ k → k < 49 → ∀ i, i ∈ [5, 11, 12, 13, 14] → ad k ≠ P 5 i) (f : Int32) (yr : Int32) (q : Int32) (e1 : (fun (r : Int32) (h' : jH) => ∃ S', (r, S') = m_stands S f yr q nl ns ∧ CP h' S' P T nf nl nb ns nt nk nw ∧ FrC P h h') r1 h1) : Mv m0 ad h1 S := by
  obtain ⟨S1, q1, c1, f1⟩ := e1
  exact f1 m0 ad S hd M
theorem w_stands (c : CP h S P T nf nl nb ns nt nk nw) (I : SI S nf nl nb ns nt nk nw yy) (M : Mv m0 ad h S) (hd : ∀ k, 9 ≤ k → k < 49 → ∀ i, i ∈ [5, 11, 12, 13, 14] → ad k ≠ P 5 i) (f : Int32) (yr : Int32) (q : Int32) (e1 : (fun (r : Int32) (h' : jH) => ∃ S', (r, S') = m_stands S f yr q nl ns ∧ CP h' S' P T nf nl nb ns nt nk nw ∧ FrC P h h') r1 h1) (e2 : ∃ S', (fun (r : Int32) (S' : Nat → Nat → Int32) => (r, S') = m_stands S f yr q nl ns) r2 S' ∧ Mv m0 ad h2 S' ∧ Fm m0 ad h1 h2) : r1 = r2 ∧ INV (P 5 0) m0 ad h2 := by
  have M1 := v_stands c I M hd f yr q e1
  obtain ⟨S1, q1, c1, f1⟩ := e1
  obtain ⟨S2, q2, M2, F2⟩ := e2
  obtain ⟨er, eS⟩ := Prod.mk.inj (q1.trans q2.symm)
  have eS1 : S1 = (m_stands S f yr q nl ns).2 := congrArg Prod.snd q1
  subst eS
  have c2 := c1.ex (Ex.Fm M1.1 F2)
  have I2 : SI S1 nf nl nb ns nt nk nw yy := by rw [eS1, stands_2]; exact I
  exact ⟨er, S1, P, T, nf, nl, nb, ns, nt, nk, nw, yy, I2, c2, M2, rfl, hd⟩
theorem v_statute (c : CP h S P T nf nl nb ns nt nk nw) (I : SI S nf nl nb ns nt nk nw yy) (M : Mv m0 ad h S) (hd : ∀ k, 9 ≤ k → k < 49 → ∀ i, i ∈ [5, 11, 12, 13, 14] → ad k ≠ P 5 i) (kind : Int32) (fr : Int32) (v : Int32) (e1 : (fun (r : Int32) (h' : jH) => ∃ S' T' nt', (r, S') = m_statute S kind fr v nt ∧ CP h' S' P T' nf nl nb ns nt' nk nw ∧ (S' 6 0 = nI nt' ∧ nt' ≤ 100) ∧ FrC P h h') r1 h1) : Mv m0 ad h1 S := by
  obtain ⟨S1, T1, n1, q1, c1, z1, f1⟩ := e1
  exact f1 m0 ad S hd M
theorem w_statute (c : CP h S P T nf nl nb ns nt nk nw) (I : SI S nf nl nb ns nt nk nw yy) (M : Mv m0 ad h S) (hd : ∀ k, 9 ≤ k → k < 49 → ∀ i, i ∈ [5, 11, 12, 13, 14] → ad k ≠ P 5 i) (kind : Int32) (fr : Int32) (v : Int32) (e1 : (fun (r : Int32) (h' : jH) => ∃ S' T' nt', (r, S') = m_statute S kind fr v nt ∧ CP h' S' P T' nf nl nb ns nt' nk nw ∧ (S' 6 0 = nI nt' ∧ nt' ≤ 100) ∧ FrC P h h') r1 h1) (e2 : ∃ S', (fun (r : Int32) (S' : Nat → Nat → Int32) => (r, S') = m_statute S kind fr v nt) r2 S' ∧ Mv m0 ad h2 S' ∧ Fm m0 ad h1 h2) : r1 = r2 ∧ INV (P 5 0) m0 ad h2 := by
  have M1 := v_statute c I M hd kind fr v e1
  obtain ⟨S1, T1, n1, q1, c1, z1, f1⟩ := e1
  obtain ⟨S2, q2, M2, F2⟩ := e2
  obtain ⟨er, eS⟩ := Prod.mk.inj (q1.trans q2.symm)
  have eS1 : S1 = (m_statute S kind fr v nt).2 := congrArg Prod.snd q1
  subst eS
  have c2 := c1.ex (Ex.Fm M1.1 F2)
  obtain ⟨n2, I2⟩ := si_statute I kind fr v
  rw [← eS1] at I2
  have en : n1 = n2 := (nI_eq (by have := z1.2; omega) (by have := I2.tt.2; omega)).mp (z1.1.symm.trans I2.tt.1)
  subst en
  exact ⟨er, S1, P, T1, nf, nl, nb, ns, n1, nk, nw, yy, I2, c2, M2, rfl, hd⟩
theorem v_force (c : CP h S P T nf nl nb ns nt nk nw) (I : SI S nf nl nb ns nt nk nw yy) (M : Mv m0 ad h S) (hd : ∀ k, 9 ≤ k → k < 49 → ∀ i, i ∈ [5, 11, 12, 13, 14] → ad k ≠ P 5 i) (kind : Int32) (yr : Int32) (q : Int32) (e1 : (fun (r : Int32) (h' : jH) => ∃ S', (r, S') = m_force S kind yr q nt ∧ CP h' S' P T nf nl nb ns nt nk nw ∧ FrC P h h') r1 h1) : Mv m0 ad h1 S := by
  obtain ⟨S1, q1, c1, f1⟩ := e1
  exact f1 m0 ad S hd M
theorem w_force (c : CP h S P T nf nl nb ns nt nk nw) (I : SI S nf nl nb ns nt nk nw yy) (M : Mv m0 ad h S) (hd : ∀ k, 9 ≤ k → k < 49 → ∀ i, i ∈ [5, 11, 12, 13, 14] → ad k ≠ P 5 i) (kind : Int32) (yr : Int32) (q : Int32) (e1 : (fun (r : Int32) (h' : jH) => ∃ S', (r, S') = m_force S kind yr q nt ∧ CP h' S' P T nf nl nb ns nt nk nw ∧ FrC P h h') r1 h1) (e2 : ∃ S', (fun (r : Int32) (S' : Nat → Nat → Int32) => (r, S') = m_force S kind yr q nt) r2 S' ∧ Mv m0 ad h2 S' ∧ Fm m0 ad h1 h2) : r1 = r2 ∧ INV (P 5 0) m0 ad h2 := by
  have M1 := v_force c I M hd kind yr q e1
  obtain ⟨S1, q1, c1, f1⟩ := e1
  obtain ⟨S2, q2, M2, F2⟩ := e2
  obtain ⟨er, eS⟩ := Prod.mk.inj (q1.trans q2.symm)
  have eS1 : S1 = (m_force S kind yr q nt).2 := congrArg Prod.snd q1
  subst eS
  have c2 := c1.ex (Ex.Fm M1.1 F2)
  have I2 : SI S1 nf nl nb ns nt nk nw yy := by rw [eS1, force_2]; exact I
  exact ⟨er, S1, P, T, nf, nl, nb, ns, nt, nk, nw, yy, I2, c2, M2, rfl, hd⟩
theorem v_tube (c : CP h S P T nf nl nb ns nt nk nw) (I : SI S nf nl nb ns nt nk nw yy) (M : Mv m0 ad h S) (hd : ∀ k, 9 ≤ k → k < 49 → ∀ i, i ∈ [5, 11, 12, 13, 14] → ad k ≠ P 5 i) (cr : Int32) (e1 : (fun (r : Int32) (h' : jH) => ∃ S' P' T' nl', (r, S') = m_tube S cr nl ∧ CP h' S' P' T' nf nl' nb ns nt nk nw ∧ (S' 2 0 = nI nl' ∧ nl' ≤ 200) ∧ FrC P h h' ∧ ∀ i, P' 5 i = P 5 i) r1 h1) : Mv m0 ad h1 S := by
  obtain ⟨S1, P1, T1, n1, q1, c1, z1, f1, p1⟩ := e1
  exact f1 m0 ad S hd M
theorem w_tube (c : CP h S P T nf nl nb ns nt nk nw) (I : SI S nf nl nb ns nt nk nw yy) (M : Mv m0 ad h S) (hd : ∀ k, 9 ≤ k → k < 49 → ∀ i, i ∈ [5, 11, 12, 13, 14] → ad k ≠ P 5 i) (cr : Int32) (e1 : (fun (r : Int32) (h' : jH) => ∃ S' P' T' nl', (r, S') = m_tube S cr nl ∧ CP h' S' P' T' nf nl' nb ns nt nk nw ∧ (S' 2 0 = nI nl' ∧ nl' ≤ 200) ∧ FrC P h h' ∧ ∀ i, P' 5 i = P 5 i) r1 h1) (e2 : ∃ S', (fun (r : Int32) (S' : Nat → Nat → Int32) => (r, S') = m_tube S cr nl) r2 S' ∧ Mv m0 ad h2 S' ∧ Fm m0 ad h1 h2) : r1 = r2 ∧ INV (P 5 0) m0 ad h2 := by
  have M1 := v_tube c I M hd cr e1
  obtain ⟨S1, P1, T1, n1, q1, c1, z1, f1, p1⟩ := e1
  obtain ⟨S2, q2, M2, F2⟩ := e2
  obtain ⟨er, eS⟩ := Prod.mk.inj (q1.trans q2.symm)
  have eS1 : S1 = (m_tube S cr nl).2 := congrArg Prod.snd q1
  subst eS
  have c2 := c1.ex (Ex.Fm M1.1 F2)
  obtain ⟨n2, I2⟩ := si_tube I cr
  rw [← eS1] at I2
  have en : n1 = n2 := (nI_eq (by have := z1.2; omega) (by have := I2.lt.2; omega)).mp (z1.1.symm.trans I2.lt.1)
  subst en
  exact ⟨er, S1, P1, T1, nf, n1, nb, ns, nt, nk, nw, yy, I2, c2, M2, p1 0, fun k x y i hi => by rw [p1 i]; exact hd k x y i hi⟩
theorem v_sow (c : CP h S P T nf nl nb ns nt nk nw) (I : SI S nf nl nb ns nt nk nw yy) (M : Mv m0 ad h S) (hd : ∀ k, 9 ≤ k → k < 49 → ∀ i, i ∈ [5, 11, 12, 13, 14] → ad k ≠ P 5 i) (fr : Int32) (fd : Int32) (g : Int32) (e1 : (fun (r : Int32) (h' : jH) => ∃ S' P' T' nl', (r, S') = m_sow S fr fd g nl ∧ CP h' S' P' T' nf nl' nb ns nt nk nw ∧ (S' 2 0 = nI nl' ∧ nl' ≤ 200) ∧ FrC P h h' ∧ ∀ i, P' 5 i = P 5 i) r1 h1) : Mv m0 ad h1 S := by
  obtain ⟨S1, P1, T1, n1, q1, c1, z1, f1, p1⟩ := e1
  exact f1 m0 ad S hd M
theorem w_sow (c : CP h S P T nf nl nb ns nt nk nw) (I : SI S nf nl nb ns nt nk nw yy) (M : Mv m0 ad h S) (hd : ∀ k, 9 ≤ k → k < 49 → ∀ i, i ∈ [5, 11, 12, 13, 14] → ad k ≠ P 5 i) (fr : Int32) (fd : Int32) (g : Int32) (e1 : (fun (r : Int32) (h' : jH) => ∃ S' P' T' nl', (r, S') = m_sow S fr fd g nl ∧ CP h' S' P' T' nf nl' nb ns nt nk nw ∧ (S' 2 0 = nI nl' ∧ nl' ≤ 200) ∧ FrC P h h' ∧ ∀ i, P' 5 i = P 5 i) r1 h1) (e2 : ∃ S', (fun (r : Int32) (S' : Nat → Nat → Int32) => (r, S') = m_sow S fr fd g nl) r2 S' ∧ Mv m0 ad h2 S' ∧ Fm m0 ad h1 h2) : r1 = r2 ∧ INV (P 5 0) m0 ad h2 := by
  have M1 := v_sow c I M hd fr fd g e1
  obtain ⟨S1, P1, T1, n1, q1, c1, z1, f1, p1⟩ := e1
  obtain ⟨S2, q2, M2, F2⟩ := e2
  obtain ⟨er, eS⟩ := Prod.mk.inj (q1.trans q2.symm)
  have eS1 : S1 = (m_sow S fr fd g nl).2 := congrArg Prod.snd q1
  subst eS
  have c2 := c1.ex (Ex.Fm M1.1 F2)
  obtain ⟨n2, I2⟩ := si_sow I fr fd g
  rw [← eS1] at I2
  have en : n1 = n2 := (nI_eq (by have := z1.2; omega) (by have := I2.lt.2; omega)).mp (z1.1.symm.trans I2.lt.1)
  subst en
  exact ⟨er, S1, P1, T1, nf, n1, nb, ns, nt, nk, nw, yy, I2, c2, M2, p1 0, fun k x y i hi => by rw [p1 i]; exact hd k x y i hi⟩
theorem v_harvest (c : CP h S P T nf nl nb ns nt nk nw) (I : SI S nf nl nb ns nt nk nw yy) (M : Mv m0 ad h S) (hd : ∀ k, 9 ≤ k → k < 49 → ∀ i, i ∈ [5, 11, 12, 13, 14] → ad k ≠ P 5 i) (lt : Int32) (g : Int32) (e1 : (fun (r : Int32) (h' : jH) => ∃ S', (r, S') = m_harvest S lt g ∧ CP h' S' P T nf nl nb ns nt nk nw ∧ FrC P h h') r1 h1) : Mv m0 ad h1 S := by
  obtain ⟨S1, q1, c1, f1⟩ := e1
  exact f1 m0 ad S hd M
theorem w_harvest (c : CP h S P T nf nl nb ns nt nk nw) (I : SI S nf nl nb ns nt nk nw yy) (M : Mv m0 ad h S) (hd : ∀ k, 9 ≤ k → k < 49 → ∀ i, i ∈ [5, 11, 12, 13, 14] → ad k ≠ P 5 i) (lt : Int32) (g : Int32) (e1 : (fun (r : Int32) (h' : jH) => ∃ S', (r, S') = m_harvest S lt g ∧ CP h' S' P T nf nl nb ns nt nk nw ∧ FrC P h h') r1 h1) (e2 : ∃ S', (fun (r : Int32) (S' : Nat → Nat → Int32) => (r, S') = m_harvest S lt g) r2 S' ∧ Mv m0 ad h2 S' ∧ Fm m0 ad h1 h2) : r1 = r2 ∧ INV (P 5 0) m0 ad h2 := by
  have M1 := v_harvest c I M hd lt g e1
  obtain ⟨S1, q1, c1, f1⟩ := e1
  obtain ⟨S2, q2, M2, F2⟩ := e2
  obtain ⟨er, eS⟩ := Prod.mk.inj (q1.trans q2.symm)
  have eS1 : S1 = (m_harvest S lt g).2 := congrArg Prod.snd q1
  subst eS
  have c2 := c1.ex (Ex.Fm M1.1 F2)
  have I2 := si_harvest I lt g
  rw [← eS1] at I2
  exact ⟨er, S1, P, T, nf, nl, nb, ns, nt, nk, nw, yy, I2, c2, M2, rfl, hd⟩
theorem v_mix (c : CP h S P T nf nl nb ns nt nk nw) (I : SI S nf nl nb ns nt nk nw yy) (M : Mv m0 ad h S) (hd : ∀ k, 9 ≤ k → k < 49 → ∀ i, i ∈ [5, 11, 12, 13, 14] → ad k ≠ P 5 i) (one : Int32) (g : Int32) (oth : Int32) (more : Int32) (e1 : (fun (r : Int32) (h' : jH) => ∃ S' P' T' nl', (r, S') = m_mix S one g oth more nl ∧ CP h' S' P' T' nf nl' nb ns nt nk nw ∧ (S' 2 0 = nI nl' ∧ nl' ≤ 200) ∧ FrC P h h' ∧ ∀ i, P' 5 i = P 5 i) r1 h1) : Mv m0 ad h1 S := by
  obtain ⟨S1, P1, T1, n1, q1, c1, z1, f1, p1⟩ := e1
  exact f1 m0 ad S hd M
theorem w_mix (c : CP h S P T nf nl nb ns nt nk nw) (I : SI S nf nl nb ns nt nk nw yy) (M : Mv m0 ad h S) (hd : ∀ k, 9 ≤ k → k < 49 → ∀ i, i ∈ [5, 11, 12, 13, 14] → ad k ≠ P 5 i) (one : Int32) (g : Int32) (oth : Int32) (more : Int32) (e1 : (fun (r : Int32) (h' : jH) => ∃ S' P' T' nl', (r, S') = m_mix S one g oth more nl ∧ CP h' S' P' T' nf nl' nb ns nt nk nw ∧ (S' 2 0 = nI nl' ∧ nl' ≤ 200) ∧ FrC P h h' ∧ ∀ i, P' 5 i = P 5 i) r1 h1) (e2 : ∃ S', (fun (r : Int32) (S' : Nat → Nat → Int32) => (r, S') = m_mix S one g oth more nl) r2 S' ∧ Mv m0 ad h2 S' ∧ Fm m0 ad h1 h2) : r1 = r2 ∧ INV (P 5 0) m0 ad h2 := by
  have M1 := v_mix c I M hd one g oth more e1
  obtain ⟨S1, P1, T1, n1, q1, c1, z1, f1, p1⟩ := e1
  obtain ⟨S2, q2, M2, F2⟩ := e2
  obtain ⟨er, eS⟩ := Prod.mk.inj (q1.trans q2.symm)
  have eS1 : S1 = (m_mix S one g oth more nl).2 := congrArg Prod.snd q1
  subst eS
  have c2 := c1.ex (Ex.Fm M1.1 F2)
  obtain ⟨n2, I2⟩ := si_mix I one g oth more
  rw [← eS1] at I2
  have en : n1 = n2 := (nI_eq (by have := z1.2; omega) (by have := I2.lt.2; omega)).mp (z1.1.symm.trans I2.lt.1)
  subst en
  exact ⟨er, S1, P1, T1, nf, n1, nb, ns, nt, nk, nw, yy, I2, c2, M2, p1 0, fun k x y i hi => by rw [p1 i]; exact hd k x y i hi⟩
theorem v_bag (c : CP h S P T nf nl nb ns nt nk nw) (I : SI S nf nl nb ns nt nk nw yy) (M : Mv m0 ad h S) (hd : ∀ k, 9 ≤ k → k < 49 → ∀ i, i ∈ [5, 11, 12, 13, 14] → ad k ≠ P 5 i) (lt : Int32) (g : Int32) (e1 : (fun (r : Int32) (h' : jH) => ∃ S' P' nb', (r, S') = m_bag S lt g nb nf nl ns nt nk ∧ CP h' S' P' T nf nl nb' ns nt nk nw ∧ (S' 3 0 = nI nb' ∧ nb' ≤ 200) ∧ FrC P h h' ∧ ∀ i, P' 5 i = P 5 i) r1 h1) : Mv m0 ad h1 S := by
  obtain ⟨S1, P1, n1, q1, c1, z1, f1, p1⟩ := e1
  exact f1 m0 ad S hd M
theorem w_bag (c : CP h S P T nf nl nb ns nt nk nw) (I : SI S nf nl nb ns nt nk nw yy) (M : Mv m0 ad h S) (hd : ∀ k, 9 ≤ k → k < 49 → ∀ i, i ∈ [5, 11, 12, 13, 14] → ad k ≠ P 5 i) (lt : Int32) (g : Int32) (e1 : (fun (r : Int32) (h' : jH) => ∃ S' P' nb', (r, S') = m_bag S lt g nb nf nl ns nt nk ∧ CP h' S' P' T nf nl nb' ns nt nk nw ∧ (S' 3 0 = nI nb' ∧ nb' ≤ 200) ∧ FrC P h h' ∧ ∀ i, P' 5 i = P 5 i) r1 h1) (e2 : ∃ S', (fun (r : Int32) (S' : Nat → Nat → Int32) => (r, S') = m_bag S lt g nb nf nl ns nt nk) r2 S' ∧ Mv m0 ad h2 S' ∧ Fm m0 ad h1 h2) : r1 = r2 ∧ INV (P 5 0) m0 ad h2 := by
  have M1 := v_bag c I M hd lt g e1
  obtain ⟨S1, P1, n1, q1, c1, z1, f1, p1⟩ := e1
  obtain ⟨S2, q2, M2, F2⟩ := e2
  obtain ⟨er, eS⟩ := Prod.mk.inj (q1.trans q2.symm)
  have eS1 : S1 = (m_bag S lt g nb nf nl ns nt nk).2 := congrArg Prod.snd q1
  subst eS
  have c2 := c1.ex (Ex.Fm M1.1 F2)
  obtain ⟨n2, I2⟩ := si_bag I lt g
  rw [← eS1] at I2
  have en : n1 = n2 := (nI_eq (by have := z1.2; omega) (by have := I2.bg.2; omega)).mp (z1.1.symm.trans I2.bg.1)
  subst en
  exact ⟨er, S1, P1, T, nf, nl, n1, ns, nt, nk, nw, yy, I2, c2, M2, p1 0, fun k x y i hi => by rw [p1 i]; exact hd k x y i hi⟩
theorem v_open (c : CP h S P T nf nl nb ns nt nk nw) (I : SI S nf nl nb ns nt nk nw yy) (M : Mv m0 ad h S) (hd : ∀ k, 9 ≤ k → k < 49 → ∀ i, i ∈ [5, 11, 12, 13, 14] → ad k ≠ P 5 i) (bg : Int32) (e1 : (fun (r : Int32) (h' : jH) => ∃ S', (r, S') = m_open S bg ∧ CP h' S' P T nf nl nb ns nt nk nw ∧ FrC P h h') r1 h1) : Mv m0 ad h1 S := by
  obtain ⟨S1, q1, c1, f1⟩ := e1
  exact f1 m0 ad S hd M
theorem w_open (c : CP h S P T nf nl nb ns nt nk nw) (I : SI S nf nl nb ns nt nk nw yy) (M : Mv m0 ad h S) (hd : ∀ k, 9 ≤ k → k < 49 → ∀ i, i ∈ [5, 11, 12, 13, 14] → ad k ≠ P 5 i) (bg : Int32) (e1 : (fun (r : Int32) (h' : jH) => ∃ S', (r, S') = m_open S bg ∧ CP h' S' P T nf nl nb ns nt nk nw ∧ FrC P h h') r1 h1) (e2 : ∃ S', (fun (r : Int32) (S' : Nat → Nat → Int32) => (r, S') = m_open S bg) r2 S' ∧ Mv m0 ad h2 S' ∧ Fm m0 ad h1 h2) : r1 = r2 ∧ INV (P 5 0) m0 ad h2 := by
  have M1 := v_open c I M hd bg e1
  obtain ⟨S1, q1, c1, f1⟩ := e1
  obtain ⟨S2, q2, M2, F2⟩ := e2
  obtain ⟨er, eS⟩ := Prod.mk.inj (q1.trans q2.symm)
  have eS1 : S1 = (m_open S bg).2 := congrArg Prod.snd q1
  subst eS
  have c2 := c1.ex (Ex.Fm M1.1 F2)
  have I2 := si_open I bg
  rw [← eS1] at I2
  exact ⟨er, S1, P, T, nf, nl, nb, ns, nt, nk, nw, yy, I2, c2, M2, rfl, hd⟩
theorem v_seal (c : CP h S P T nf nl nb ns nt nk nw) (I : SI S nf nl nb ns nt nk nw yy) (M : Mv m0 ad h S) (hd : ∀ k, 9 ≤ k → k < 49 → ∀ i, i ∈ [5, 11, 12, 13, 14] → ad k ≠ P 5 i) (bg : Int32) (e1 : (fun (r : Int32) (h' : jH) => ∃ S', (r, S') = m_seal S bg nb nf nl ns nt nk ∧ CP h' S' P T nf nl nb ns nt nk nw ∧ FrC P h h') r1 h1) : Mv m0 ad h1 S := by
  obtain ⟨S1, q1, c1, f1⟩ := e1
  exact f1 m0 ad S hd M
theorem w_seal (c : CP h S P T nf nl nb ns nt nk nw) (I : SI S nf nl nb ns nt nk nw yy) (M : Mv m0 ad h S) (hd : ∀ k, 9 ≤ k → k < 49 → ∀ i, i ∈ [5, 11, 12, 13, 14] → ad k ≠ P 5 i) (bg : Int32) (e1 : (fun (r : Int32) (h' : jH) => ∃ S', (r, S') = m_seal S bg nb nf nl ns nt nk ∧ CP h' S' P T nf nl nb ns nt nk nw ∧ FrC P h h') r1 h1) (e2 : ∃ S', (fun (r : Int32) (S' : Nat → Nat → Int32) => (r, S') = m_seal S bg nb nf nl ns nt nk) r2 S' ∧ Mv m0 ad h2 S' ∧ Fm m0 ad h1 h2) : r1 = r2 ∧ INV (P 5 0) m0 ad h2 := by
  have M1 := v_seal c I M hd bg e1
  obtain ⟨S1, q1, c1, f1⟩ := e1
  obtain ⟨S2, q2, M2, F2⟩ := e2
  obtain ⟨er, eS⟩ := Prod.mk.inj (q1.trans q2.symm)
  have eS1 : S1 = (m_seal S bg nb nf nl ns nt nk).2 := congrArg Prod.snd q1
  subst eS
  have c2 := c1.ex (Ex.Fm M1.1 F2)
  have I2 := si_seal I bg
  rw [← eS1] at I2
  exact ⟨er, S1, P, T, nf, nl, nb, ns, nt, nk, nw, yy, I2, c2, M2, rfl, hd⟩
theorem v_sell (c : CP h S P T nf nl nb ns nt nk nw) (I : SI S nf nl nb ns nt nk nw yy) (M : Mv m0 ad h S) (hd : ∀ k, 9 ≤ k → k < 49 → ∀ i, i ∈ [5, 11, 12, 13, 14] → ad k ≠ P 5 i) (bg : Int32) (by_ : Int32) (e1 : (fun (r : Int32) (h' : jH) => ∃ S', (r, S') = m_sell S bg by_ ∧ CP h' S' P T nf nl nb ns nt nk nw ∧ FrC P h h') r1 h1) : Mv m0 ad h1 S := by
  obtain ⟨S1, q1, c1, f1⟩ := e1
  exact f1 m0 ad S hd M
theorem w_sell (c : CP h S P T nf nl nb ns nt nk nw) (I : SI S nf nl nb ns nt nk nw yy) (M : Mv m0 ad h S) (hd : ∀ k, 9 ≤ k → k < 49 → ∀ i, i ∈ [5, 11, 12, 13, 14] → ad k ≠ P 5 i) (bg : Int32) (by_ : Int32) (e1 : (fun (r : Int32) (h' : jH) => ∃ S', (r, S') = m_sell S bg by_ ∧ CP h' S' P T nf nl nb ns nt nk nw ∧ FrC P h h') r1 h1) (e2 : ∃ S', (fun (r : Int32) (S' : Nat → Nat → Int32) => (r, S') = m_sell S bg by_) r2 S' ∧ Mv m0 ad h2 S' ∧ Fm m0 ad h1 h2) : r1 = r2 ∧ INV (P 5 0) m0 ad h2 := by
  have M1 := v_sell c I M hd bg by_ e1
  obtain ⟨S1, q1, c1, f1⟩ := e1
  obtain ⟨S2, q2, M2, F2⟩ := e2
  obtain ⟨er, eS⟩ := Prod.mk.inj (q1.trans q2.symm)
  have eS1 : S1 = (m_sell S bg by_).2 := congrArg Prod.snd q1
  subst eS
  have c2 := c1.ex (Ex.Fm M1.1 F2)
  have I2 := si_sell I bg by_
  rw [← eS1] at I2
  exact ⟨er, S1, P, T, nf, nl, nb, ns, nt, nk, nw, yy, I2, c2, M2, rfl, hd⟩
theorem v_toss (c : CP h S P T nf nl nb ns nt nk nw) (I : SI S nf nl nb ns nt nk nw yy) (M : Mv m0 ad h S) (hd : ∀ k, 9 ≤ k → k < 49 → ∀ i, i ∈ [5, 11, 12, 13, 14] → ad k ≠ P 5 i) (lt : Int32) (g : Int32) (e1 : (fun (r : Int32) (h' : jH) => ∃ S', (r, S') = m_toss S lt g ∧ CP h' S' P T nf nl nb ns nt nk nw ∧ FrC P h h') r1 h1) : Mv m0 ad h1 S := by
  obtain ⟨S1, q1, c1, f1⟩ := e1
  exact f1 m0 ad S hd M
theorem w_toss (c : CP h S P T nf nl nb ns nt nk nw) (I : SI S nf nl nb ns nt nk nw yy) (M : Mv m0 ad h S) (hd : ∀ k, 9 ≤ k → k < 49 → ∀ i, i ∈ [5, 11, 12, 13, 14] → ad k ≠ P 5 i) (lt : Int32) (g : Int32) (e1 : (fun (r : Int32) (h' : jH) => ∃ S', (r, S') = m_toss S lt g ∧ CP h' S' P T nf nl nb ns nt nk nw ∧ FrC P h h') r1 h1) (e2 : ∃ S', (fun (r : Int32) (S' : Nat → Nat → Int32) => (r, S') = m_toss S lt g) r2 S' ∧ Mv m0 ad h2 S' ∧ Fm m0 ad h1 h2) : r1 = r2 ∧ INV (P 5 0) m0 ad h2 := by
  have M1 := v_toss c I M hd lt g e1
  obtain ⟨S1, q1, c1, f1⟩ := e1
  obtain ⟨S2, q2, M2, F2⟩ := e2
  obtain ⟨er, eS⟩ := Prod.mk.inj (q1.trans q2.symm)
  have eS1 : S1 = (m_toss S lt g).2 := congrArg Prod.snd q1
  subst eS
  have c2 := c1.ex (Ex.Fm M1.1 F2)
  have I2 := si_toss I lt g
  rw [← eS1] at I2
  exact ⟨er, S1, P, T, nf, nl, nb, ns, nt, nk, nw, yy, I2, c2, M2, rfl, hd⟩
theorem v_look (c : CP h S P T nf nl nb ns nt nk nw) (I : SI S nf nl nb ns nt nk nw yy) (M : Mv m0 ad h S) (hd : ∀ k, 9 ≤ k → k < 49 → ∀ i, i ∈ [5, 11, 12, 13, 14] → ad k ≠ P 5 i) (lt : Int32) (pl : Int32) (ill : Int32) (e1 : (fun (r : Int32) (h' : jH) => ∃ S' T' nk', (r, S') = m_look S lt pl ill nk ∧ CP h' S' P T' nf nl nb ns nt nk' nw ∧ (S' 7 0 = nI nk' ∧ nk' ≤ 300) ∧ FrC P h h') r1 h1) : Mv m0 ad h1 S := by
  obtain ⟨S1, T1, n1, q1, c1, z1, f1⟩ := e1
  exact f1 m0 ad S hd M
theorem w_look (c : CP h S P T nf nl nb ns nt nk nw) (I : SI S nf nl nb ns nt nk nw yy) (M : Mv m0 ad h S) (hd : ∀ k, 9 ≤ k → k < 49 → ∀ i, i ∈ [5, 11, 12, 13, 14] → ad k ≠ P 5 i) (lt : Int32) (pl : Int32) (ill : Int32) (e1 : (fun (r : Int32) (h' : jH) => ∃ S' T' nk', (r, S') = m_look S lt pl ill nk ∧ CP h' S' P T' nf nl nb ns nt nk' nw ∧ (S' 7 0 = nI nk' ∧ nk' ≤ 300) ∧ FrC P h h') r1 h1) (e2 : ∃ S', (fun (r : Int32) (S' : Nat → Nat → Int32) => (r, S') = m_look S lt pl ill nk) r2 S' ∧ Mv m0 ad h2 S' ∧ Fm m0 ad h1 h2) : r1 = r2 ∧ INV (P 5 0) m0 ad h2 := by
  have M1 := v_look c I M hd lt pl ill e1
  obtain ⟨S1, T1, n1, q1, c1, z1, f1⟩ := e1
  obtain ⟨S2, q2, M2, F2⟩ := e2
  obtain ⟨er, eS⟩ := Prod.mk.inj (q1.trans q2.symm)
  have eS1 : S1 = (m_look S lt pl ill nk).2 := congrArg Prod.snd q1
  subst eS
  have c2 := c1.ex (Ex.Fm M1.1 F2)
  obtain ⟨n2, I2⟩ := si_look I lt pl ill
  rw [← eS1] at I2
  have en : n1 = n2 := (nI_eq (by have := z1.2; omega) (by have := I2.lk.2; omega)).mp (z1.1.symm.trans I2.lk.1)
  subst en
  exact ⟨er, S1, P, T1, nf, nl, nb, ns, nt, n1, nw, yy, I2, c2, M2, rfl, hd⟩
theorem v_drawn (c : CP h S P T nf nl nb ns nt nk nw) (I : SI S nf nl nb ns nt nk nw yy) (M : Mv m0 ad h S) (hd : ∀ k, 9 ≤ k → k < 49 → ∀ i, i ∈ [5, 11, 12, 13, 14] → ad k ≠ P 5 i) (n : Int32) (k : Int32) (sd : Int64) (t : Int32) (e1 : (fun (r : Int32) (h' : jH) => r = m_drawn S n k sd t ∧ CP h' S P T nf nl nb ns nt nk nw ∧ FrC P h h') r1 h1) : Mv m0 ad h1 S := by
  obtain ⟨q1, c1, f1⟩ := e1
  exact f1 m0 ad S hd M
theorem w_drawn (c : CP h S P T nf nl nb ns nt nk nw) (I : SI S nf nl nb ns nt nk nw yy) (M : Mv m0 ad h S) (hd : ∀ k, 9 ≤ k → k < 49 → ∀ i, i ∈ [5, 11, 12, 13, 14] → ad k ≠ P 5 i) (n : Int32) (k : Int32) (sd : Int64) (t : Int32) (e1 : (fun (r : Int32) (h' : jH) => r = m_drawn S n k sd t ∧ CP h' S P T nf nl nb ns nt nk nw ∧ FrC P h h') r1 h1) (e2 : ∃ S', (fun (r : Int32) (S' : Nat → Nat → Int32) => r = m_drawn S n k sd t ∧ ∃ z', S' = W43 S z') r2 S' ∧ Mv m0 ad h2 S' ∧ Fm m0 ad h1 h2) : r1 = r2 ∧ INV (P 5 0) m0 ad h2 := by
  have M1 := v_drawn c I M hd n k sd t e1
  obtain ⟨q1, c1, f1⟩ := e1
  obtain ⟨S2, ⟨q2, z, rfl⟩, M2, F2⟩ := e2
  exact ⟨q1.trans q2.symm, _, P, T, nf, nl, nb, ns, nt, nk, nw, yy, I.scr (w43_e z), (c1.ex (Ex.Fm M1.1 F2)).scr (w43_e z), M2, rfl, hd⟩
theorem v_prove (c : CP h S P T nf nl nb ns nt nk nw) (I : SI S nf nl nb ns nt nk nw yy) (M : Mv m0 ad h S) (hd : ∀ k, 9 ≤ k → k < 49 → ∀ i, i ∈ [5, 11, 12, 13, 14] → ad k ≠ P 5 i) (lt : Int32) (e1 : (fun (r : Int32) (h' : jH) => ∃ S', (r, S') = m_prove S lt ∧ CP h' S' P T nf nl nb ns nt nk nw ∧ FrC P h h') r1 h1) : Mv m0 ad h1 S := by
  obtain ⟨S1, q1, c1, f1⟩ := e1
  exact f1 m0 ad S hd M
theorem w_prove (c : CP h S P T nf nl nb ns nt nk nw) (I : SI S nf nl nb ns nt nk nw yy) (M : Mv m0 ad h S) (hd : ∀ k, 9 ≤ k → k < 49 → ∀ i, i ∈ [5, 11, 12, 13, 14] → ad k ≠ P 5 i) (lt : Int32) (e1 : (fun (r : Int32) (h' : jH) => ∃ S', (r, S') = m_prove S lt ∧ CP h' S' P T nf nl nb ns nt nk nw ∧ FrC P h h') r1 h1) (e2 : ∃ S', (fun (r : Int32) (S' : Nat → Nat → Int32) => (r, S') = m_prove S lt) r2 S' ∧ Mv m0 ad h2 S' ∧ Fm m0 ad h1 h2) : r1 = r2 ∧ INV (P 5 0) m0 ad h2 := by
  have M1 := v_prove c I M hd lt e1
  obtain ⟨S1, q1, c1, f1⟩ := e1
  obtain ⟨S2, q2, M2, F2⟩ := e2
  obtain ⟨er, eS⟩ := Prod.mk.inj (q1.trans q2.symm)
  have eS1 : S1 = (m_prove S lt).2 := congrArg Prod.snd q1
  subst eS
  have c2 := c1.ex (Ex.Fm M1.1 F2)
  have I2 := si_prove I lt
  rw [← eS1] at I2
  exact ⟨er, S1, P, T, nf, nl, nb, ns, nt, nk, nw, yy, I2, c2, M2, rfl, hd⟩
theorem v_year (c : CP h S P T nf nl nb ns nt nk nw) (I : SI S nf nl nb ns nt nk nw yy) (M : Mv m0 ad h S) (hd : ∀ k, 9 ≤ k → k < 49 → ∀ i, i ∈ [5, 11, 12, 13, 14] → ad k ≠ P 5 i)  (e1 : (fun (r : Int32) (h' : jH) => ∃ S', (r, S') = m_year S ∧ CP h' S' P T nf nl nb ns nt nk nw ∧ FrC P h h') r1 h1) : Mv m0 ad h1 S := by
  obtain ⟨S1, q1, c1, f1⟩ := e1
  exact f1 m0 ad S hd M
theorem w_year (c : CP h S P T nf nl nb ns nt nk nw) (I : SI S nf nl nb ns nt nk nw yy) (M : Mv m0 ad h S) (hd : ∀ k, 9 ≤ k → k < 49 → ∀ i, i ∈ [5, 11, 12, 13, 14] → ad k ≠ P 5 i)  (e1 : (fun (r : Int32) (h' : jH) => ∃ S', (r, S') = m_year S ∧ CP h' S' P T nf nl nb ns nt nk nw ∧ FrC P h h') r1 h1) (e2 : ∃ S', (fun (r : Int32) (S' : Nat → Nat → Int32) => (r, S') = m_year S ) r2 S' ∧ Mv m0 ad h2 S' ∧ Fm m0 ad h1 h2) : r1 = r2 ∧ INV (P 5 0) m0 ad h2 := by
  have M1 := v_year c I M hd  e1
  obtain ⟨S1, q1, c1, f1⟩ := e1
  obtain ⟨S2, q2, M2, F2⟩ := e2
  obtain ⟨er, eS⟩ := Prod.mk.inj (q1.trans q2.symm)
  have eS1 : S1 = (m_year S).2 := congrArg Prod.snd q1
  subst eS
  have c2 := c1.ex (Ex.Fm M1.1 F2)
  obtain ⟨y2, I2⟩ := si_year I
  rw [← eS1] at I2
  exact ⟨er, S1, P, T, nf, nl, nb, ns, nt, nk, nw, y2, I2, c2, M2, rfl, hd⟩
theorem v_judge (c : CP h S P T nf nl nb ns nt nk nw) (I : SI S nf nl nb ns nt nk nw yy) (M : Mv m0 ad h S) (hd : ∀ k, 9 ≤ k → k < 49 → ∀ i, i ∈ [5, 11, 12, 13, 14] → ad k ≠ P 5 i) (lt : Int32) (q : Int32) (e1 : (fun (r : Int32) (h' : jH) => r = m_judge S lt q nf nl ns nt nk ∧ CP h' S P T nf nl nb ns nt nk nw ∧ FrC P h h') r1 h1) : Mv m0 ad h1 S := by
  obtain ⟨q1, c1, f1⟩ := e1
  exact f1 m0 ad S hd M
theorem w_judge (c : CP h S P T nf nl nb ns nt nk nw) (I : SI S nf nl nb ns nt nk nw yy) (M : Mv m0 ad h S) (hd : ∀ k, 9 ≤ k → k < 49 → ∀ i, i ∈ [5, 11, 12, 13, 14] → ad k ≠ P 5 i) (lt : Int32) (q : Int32) (e1 : (fun (r : Int32) (h' : jH) => r = m_judge S lt q nf nl ns nt nk ∧ CP h' S P T nf nl nb ns nt nk nw ∧ FrC P h h') r1 h1) (e2 : ∃ S', (fun (r : Int32) (S' : Nat → Nat → Int32) => r = m_judge S lt q nf nl ns nt nk ∧ ∃ z w, S' = W45 S z w) r2 S' ∧ Mv m0 ad h2 S' ∧ Fm m0 ad h1 h2) : r1 = r2 ∧ INV (P 5 0) m0 ad h2 := by
  have M1 := v_judge c I M hd lt q e1
  obtain ⟨q1, c1, f1⟩ := e1
  obtain ⟨S2, ⟨q2, z, w, rfl⟩, M2, F2⟩ := e2
  exact ⟨q1.trans q2.symm, _, P, T, nf, nl, nb, ns, nt, nk, nw, yy, I.scr (w45_e z w), (c1.ex (Ex.Fm M1.1 F2)).scr (w45_e z w), M2, rfl, hd⟩
theorem v_why (c : CP h S P T nf nl nb ns nt nk nw) (I : SI S nf nl nb ns nt nk nw yy) (M : Mv m0 ad h S) (hd : ∀ k, 9 ≤ k → k < 49 → ∀ i, i ∈ [5, 11, 12, 13, 14] → ad k ≠ P 5 i) (lt : Int32) (q : Int32) (e1 : (fun (r : Int32) (h' : jH) => r = m_why S lt q nf nl ns nt nk ∧ CP h' S P T nf nl nb ns nt nk nw ∧ FrC P h h') r1 h1) : Mv m0 ad h1 S := by
  obtain ⟨q1, c1, f1⟩ := e1
  exact f1 m0 ad S hd M
theorem w_why (c : CP h S P T nf nl nb ns nt nk nw) (I : SI S nf nl nb ns nt nk nw yy) (M : Mv m0 ad h S) (hd : ∀ k, 9 ≤ k → k < 49 → ∀ i, i ∈ [5, 11, 12, 13, 14] → ad k ≠ P 5 i) (lt : Int32) (q : Int32) (e1 : (fun (r : Int32) (h' : jH) => r = m_why S lt q nf nl ns nt nk ∧ CP h' S P T nf nl nb ns nt nk nw ∧ FrC P h h') r1 h1) (e2 : ∃ S', (fun (r : Int32) (S' : Nat → Nat → Int32) => r = m_why S lt q nf nl ns nt nk ∧ ∃ z w, S' = W45 S z w) r2 S' ∧ Mv m0 ad h2 S' ∧ Fm m0 ad h1 h2) : r1 = r2 ∧ INV (P 5 0) m0 ad h2 := by
  have M1 := v_why c I M hd lt q e1
  obtain ⟨q1, c1, f1⟩ := e1
  obtain ⟨S2, ⟨q2, z, w, rfl⟩, M2, F2⟩ := e2
  exact ⟨q1.trans q2.symm, _, P, T, nf, nl, nb, ns, nt, nk, nw, yy, I.scr (w45_e z w), (c1.ex (Ex.Fm M1.1 F2)).scr (w45_e z w), M2, rfl, hd⟩
theorem v_ways (c : CP h S P T nf nl nb ns nt nk nw) (I : SI S nf nl nb ns nt nk nw yy) (M : Mv m0 ad h S) (hd : ∀ k, 9 ≤ k → k < 49 → ∀ i, i ∈ [5, 11, 12, 13, 14] → ad k ≠ P 5 i) (lt : Int32) (oth : Int32) (e1 : (fun (r : Int32) (h' : jH) => r = m_ways S lt oth nl ∧ CP h' S P T nf nl nb ns nt nk nw ∧ FrC P h h') r1 h1) : Mv m0 ad h1 S := by
  obtain ⟨q1, c1, f1⟩ := e1
  exact f1 m0 ad S hd M
theorem w_ways (c : CP h S P T nf nl nb ns nt nk nw) (I : SI S nf nl nb ns nt nk nw yy) (M : Mv m0 ad h S) (hd : ∀ k, 9 ≤ k → k < 49 → ∀ i, i ∈ [5, 11, 12, 13, 14] → ad k ≠ P 5 i) (lt : Int32) (oth : Int32) (e1 : (fun (r : Int32) (h' : jH) => r = m_ways S lt oth nl ∧ CP h' S P T nf nl nb ns nt nk nw ∧ FrC P h h') r1 h1) (e2 : ∃ S', (fun (r : Int32) (S' : Nat → Nat → Int32) => r = m_ways S lt oth nl ∧ ∃ z', S' = W46 S z') r2 S' ∧ Mv m0 ad h2 S' ∧ Fm m0 ad h1 h2) : r1 = r2 ∧ INV (P 5 0) m0 ad h2 := by
  have M1 := v_ways c I M hd lt oth e1
  obtain ⟨q1, c1, f1⟩ := e1
  obtain ⟨S2, ⟨q2, z, rfl⟩, M2, F2⟩ := e2
  exact ⟨q1.trans q2.symm, _, P, T, nf, nl, nb, ns, nt, nk, nw, yy, I.scr (w46_e z), (c1.ex (Ex.Fm M1.1 F2)).scr (w46_e z), M2, rfl, hd⟩
theorem v_touched (c : CP h S P T nf nl nb ns nt nk nw) (I : SI S nf nl nb ns nt nk nw yy) (M : Mv m0 ad h S) (hd : ∀ k, 9 ≤ k → k < 49 → ∀ i, i ∈ [5, 11, 12, 13, 14] → ad k ≠ P 5 i) (lt : Int32) (row : Int32) (t : Int32) (e1 : (fun (r : Int32) (h' : jH) => r = m_touched S lt row t nl ∧ CP h' S P T nf nl nb ns nt nk nw ∧ FrC P h h') r1 h1) : Mv m0 ad h1 S := by
  obtain ⟨q1, c1, f1⟩ := e1
  exact f1 m0 ad S hd M
theorem w_touched (c : CP h S P T nf nl nb ns nt nk nw) (I : SI S nf nl nb ns nt nk nw yy) (M : Mv m0 ad h S) (hd : ∀ k, 9 ≤ k → k < 49 → ∀ i, i ∈ [5, 11, 12, 13, 14] → ad k ≠ P 5 i) (lt : Int32) (row : Int32) (t : Int32) (e1 : (fun (r : Int32) (h' : jH) => r = m_touched S lt row t nl ∧ CP h' S P T nf nl nb ns nt nk nw ∧ FrC P h h') r1 h1) (e2 : ∃ S', (fun (r : Int32) (S' : Nat → Nat → Int32) => r = m_touched S lt row t nl ∧ ∃ z', S' = W46 S z') r2 S' ∧ Mv m0 ad h2 S' ∧ Fm m0 ad h1 h2) : r1 = r2 ∧ INV (P 5 0) m0 ad h2 := by
  have M1 := v_touched c I M hd lt row t e1
  obtain ⟨q1, c1, f1⟩ := e1
  obtain ⟨S2, ⟨q2, z, rfl⟩, M2, F2⟩ := e2
  exact ⟨q1.trans q2.symm, _, P, T, nf, nl, nb, ns, nt, nk, nw, yy, I.scr (w46_e z), (c1.ex (Ex.Fm M1.1 F2)).scr (w46_e z), M2, rfl, hd⟩
theorem v_buyers (c : CP h S P T nf nl nb ns nt nk nw) (I : SI S nf nl nb ns nt nk nw yy) (M : Mv m0 ad h S) (hd : ∀ k, 9 ≤ k → k < 49 → ∀ i, i ∈ [5, 11, 12, 13, 14] → ad k ≠ P 5 i) (lt : Int32) (e1 : (fun (r : Int32) (h' : jH) => r = m_buyers S lt nl nb ∧ CP h' S P T nf nl nb ns nt nk nw ∧ FrC P h h') r1 h1) : Mv m0 ad h1 S := by
  obtain ⟨q1, c1, f1⟩ := e1
  exact f1 m0 ad S hd M
theorem w_buyers (c : CP h S P T nf nl nb ns nt nk nw) (I : SI S nf nl nb ns nt nk nw yy) (M : Mv m0 ad h S) (hd : ∀ k, 9 ≤ k → k < 49 → ∀ i, i ∈ [5, 11, 12, 13, 14] → ad k ≠ P 5 i) (lt : Int32) (e1 : (fun (r : Int32) (h' : jH) => r = m_buyers S lt nl nb ∧ CP h' S P T nf nl nb ns nt nk nw ∧ FrC P h h') r1 h1) (e2 : ∃ S', (fun (r : Int32) (S' : Nat → Nat → Int32) => r = m_buyers S lt nl nb ∧ ∃ z', S' = W46 S z') r2 S' ∧ Mv m0 ad h2 S' ∧ Fm m0 ad h1 h2) : r1 = r2 ∧ INV (P 5 0) m0 ad h2 := by
  have M1 := v_buyers c I M hd lt e1
  obtain ⟨q1, c1, f1⟩ := e1
  obtain ⟨S2, ⟨q2, z, rfl⟩, M2, F2⟩ := e2
  exact ⟨q1.trans q2.symm, _, P, T, nf, nl, nb, ns, nt, nk, nw, yy, I.scr (w46_e z), (c1.ex (Ex.Fm M1.1 F2)).scr (w46_e z), M2, rfl, hd⟩
theorem v_want (c : CP h S P T nf nl nb ns nt nk nw) (I : SI S nf nl nb ns nt nk nw yy) (M : Mv m0 ad h S) (hd : ∀ k, 9 ≤ k → k < 49 → ∀ i, i ∈ [5, 11, 12, 13, 14] → ad k ≠ P 5 i) (lt : Int32) (e1 : (fun (r : Int32) (h' : jH) => ∃ S' nw', (r, S') = m_want S lt nw ∧ CP h' S' P T nf nl nb ns nt nk nw' ∧ (S' 8 0 = nI nw' ∧ nw' ≤ 5) ∧ FrC P h h') r1 h1) : Mv m0 ad h1 S := by
  obtain ⟨S1, n1, q1, c1, z1, f1⟩ := e1
  exact f1 m0 ad S hd M
theorem w_want (c : CP h S P T nf nl nb ns nt nk nw) (I : SI S nf nl nb ns nt nk nw yy) (M : Mv m0 ad h S) (hd : ∀ k, 9 ≤ k → k < 49 → ∀ i, i ∈ [5, 11, 12, 13, 14] → ad k ≠ P 5 i) (lt : Int32) (e1 : (fun (r : Int32) (h' : jH) => ∃ S' nw', (r, S') = m_want S lt nw ∧ CP h' S' P T nf nl nb ns nt nk nw' ∧ (S' 8 0 = nI nw' ∧ nw' ≤ 5) ∧ FrC P h h') r1 h1) (e2 : ∃ S', (fun (r : Int32) (S' : Nat → Nat → Int32) => (r, S') = m_want S lt nw) r2 S' ∧ Mv m0 ad h2 S' ∧ Fm m0 ad h1 h2) : r1 = r2 ∧ INV (P 5 0) m0 ad h2 := by
  have M1 := v_want c I M hd lt e1
  obtain ⟨S1, n1, q1, c1, z1, f1⟩ := e1
  obtain ⟨S2, q2, M2, F2⟩ := e2
  obtain ⟨er, eS⟩ := Prod.mk.inj (q1.trans q2.symm)
  have eS1 : S1 = (m_want S lt nw).2 := congrArg Prod.snd q1
  subst eS
  have c2 := c1.ex (Ex.Fm M1.1 F2)
  obtain ⟨n2, I2⟩ := si_want I lt
  rw [← eS1] at I2
  have en : n1 = n2 := (nI_eq (by have := z1.2; omega) (by have := I2.wt.2; omega)).mp (z1.1.symm.trans I2.wt.1)
  subst en
  exact ⟨er, S1, P, T, nf, nl, nb, ns, nt, nk, n1, yy, I2, c2, M2, rfl, hd⟩
theorem v_plan (c : CP h S P T nf nl nb ns nt nk nw) (I : SI S nf nl nb ns nt nk nw yy) (M : Mv m0 ad h S) (hd : ∀ k, 9 ≤ k → k < 49 → ∀ i, i ∈ [5, 11, 12, 13, 14] → ad k ≠ P 5 i) (t : Int32) (e1 : (fun (r : Int32) (h' : jH) => r = m_plan S t nf yy nl ns nt nw ∧ CP h' S P T nf nl nb ns nt nk nw ∧ FrC P h h') r1 h1) : Mv m0 ad h1 S := by
  obtain ⟨q1, c1, f1⟩ := e1
  exact f1 m0 ad S hd M
theorem w_plan (c : CP h S P T nf nl nb ns nt nk nw) (I : SI S nf nl nb ns nt nk nw yy) (M : Mv m0 ad h S) (hd : ∀ k, 9 ≤ k → k < 49 → ∀ i, i ∈ [5, 11, 12, 13, 14] → ad k ≠ P 5 i) (t : Int32) (e1 : (fun (r : Int32) (h' : jH) => r = m_plan S t nf yy nl ns nt nw ∧ CP h' S P T nf nl nb ns nt nk nw ∧ FrC P h h') r1 h1) (e2 : ∃ S', (fun (r : Int32) (S' : Nat → Nat → Int32) => r = m_plan S t nf yy nl ns nt nw ∧ ∃ go be, S' = W47 S go be) r2 S' ∧ Mv m0 ad h2 S' ∧ Fm m0 ad h1 h2) : r1 = r2 ∧ INV (P 5 0) m0 ad h2 := by
  have M1 := v_plan c I M hd t e1
  obtain ⟨q1, c1, f1⟩ := e1
  obtain ⟨S2, ⟨q2, z, w, rfl⟩, M2, F2⟩ := e2
  exact ⟨q1.trans q2.symm, _, P, T, nf, nl, nb, ns, nt, nk, nw, yy, I.scr (w47_e z w), (c1.ex (Ex.Fm M1.1 F2)).scr (w47_e z w), M2, rfl, hd⟩
theorem v_told (c : CP h S P T nf nl nb ns nt nk nw) (I : SI S nf nl nb ns nt nk nw yy) (M : Mv m0 ad h S) (hd : ∀ k, 9 ≤ k → k < 49 → ∀ i, i ∈ [5, 11, 12, 13, 14] → ad k ≠ P 5 i) (lt : Int32) (what : Int32) (e1 : (fun (r : Int32) => r = m_told S lt what nk) r1 ∧ h1 = h) : Mv m0 ad h1 S := by
  rw [e1.2]
  exact M
theorem w_told (c : CP h S P T nf nl nb ns nt nk nw) (I : SI S nf nl nb ns nt nk nw yy) (M : Mv m0 ad h S) (hd : ∀ k, 9 ≤ k → k < 49 → ∀ i, i ∈ [5, 11, 12, 13, 14] → ad k ≠ P 5 i) (lt : Int32) (what : Int32) (e1 : (fun (r : Int32) => r = m_told S lt what nk) r1 ∧ h1 = h) (e2 : ∃ S', (fun (r : Int32) (S' : Nat → Nat → Int32) => r = m_told S lt what nk ∧ S' = S) r2 S' ∧ Mv m0 ad h2 S' ∧ Fm m0 ad h1 h2) : r1 = r2 ∧ INV (P 5 0) m0 ad h2 := by
  have M1 := v_told c I M hd lt what e1
  obtain ⟨q1, e0⟩ := e1
  obtain ⟨S2, ⟨q2, eS⟩, M2, F2⟩ := e2
  subst eS
  subst e0
  exact ⟨q1.trans q2.symm, S2, P, T, nf, nl, nb, ns, nt, nk, nw, yy, I, c.ex (Ex.Fm M1.1 F2), M2, rfl, hd⟩
theorem v_sack (c : CP h S P T nf nl nb ns nt nk nw) (I : SI S nf nl nb ns nt nk nw yy) (M : Mv m0 ad h S) (hd : ∀ k, 9 ≤ k → k < 49 → ∀ i, i ∈ [5, 11, 12, 13, 14] → ad k ≠ P 5 i) (bg : Int32) (what : Int32) (e1 : (fun (r : Int32) => r = m_sack S bg what) r1 ∧ h1 = h) : Mv m0 ad h1 S := by
  rw [e1.2]
  exact M
theorem w_sack (c : CP h S P T nf nl nb ns nt nk nw) (I : SI S nf nl nb ns nt nk nw yy) (M : Mv m0 ad h S) (hd : ∀ k, 9 ≤ k → k < 49 → ∀ i, i ∈ [5, 11, 12, 13, 14] → ad k ≠ P 5 i) (bg : Int32) (what : Int32) (e1 : (fun (r : Int32) => r = m_sack S bg what) r1 ∧ h1 = h) (e2 : ∃ S', (fun (r : Int32) (S' : Nat → Nat → Int32) => r = m_sack S bg what ∧ S' = S) r2 S' ∧ Mv m0 ad h2 S' ∧ Fm m0 ad h1 h2) : r1 = r2 ∧ INV (P 5 0) m0 ad h2 := by
  have M1 := v_sack c I M hd bg what e1
  obtain ⟨q1, e0⟩ := e1
  obtain ⟨S2, ⟨q2, eS⟩, M2, F2⟩ := e2
  subst eS
  subst e0
  exact ⟨q1.trans q2.symm, S2, P, T, nf, nl, nb, ns, nt, nk, nw, yy, I, c.ex (Ex.Fm M1.1 F2), M2, rfl, hd⟩
theorem v_count (c : CP h S P T nf nl nb ns nt nk nw) (I : SI S nf nl nb ns nt nk nw yy) (M : Mv m0 ad h S) (hd : ∀ k, 9 ≤ k → k < 49 → ∀ i, i ∈ [5, 11, 12, 13, 14] → ad k ≠ P 5 i) (what : Int32) (e1 : (fun (r : Int32) (h' : jH) => r = m_count S what nf nl ns nt nk ∧ CP h' S P T nf nl nb ns nt nk nw ∧ FrC P h h') r1 h1) : Mv m0 ad h1 S := by
  obtain ⟨q1, c1, f1⟩ := e1
  exact f1 m0 ad S hd M
theorem w_count (c : CP h S P T nf nl nb ns nt nk nw) (I : SI S nf nl nb ns nt nk nw yy) (M : Mv m0 ad h S) (hd : ∀ k, 9 ≤ k → k < 49 → ∀ i, i ∈ [5, 11, 12, 13, 14] → ad k ≠ P 5 i) (what : Int32) (e1 : (fun (r : Int32) (h' : jH) => r = m_count S what nf nl ns nt nk ∧ CP h' S P T nf nl nb ns nt nk nw ∧ FrC P h h') r1 h1) (e2 : ∃ S', (fun (r : Int32) (S' : Nat → Nat → Int32) => r = m_count S what nf nl ns nt nk ∧ ∃ z w, S' = W45 S z w) r2 S' ∧ Mv m0 ad h2 S' ∧ Fm m0 ad h1 h2) : r1 = r2 ∧ INV (P 5 0) m0 ad h2 := by
  have M1 := v_count c I M hd what e1
  obtain ⟨q1, c1, f1⟩ := e1
  obtain ⟨S2, ⟨q2, z, w, rfl⟩, M2, F2⟩ := e2
  exact ⟨q1.trans q2.symm, _, P, T, nf, nl, nb, ns, nt, nk, nw, yy, I.scr (w45_e z w), (c1.ex (Ex.Fm M1.1 F2)).scr (w45_e z w), M2, rfl, hd⟩
end LAWP
