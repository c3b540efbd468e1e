theorem idx_iff {x : Int32} {n N : Nat} (hn : n ≤ N) (hN : N < 2 ^ 31) : (¬ x < 0 ∧ ¬ nI n ≤ x ∧ ¬ nI N ≤ x) ↔ (0 ≤ x ∧ x ≤ nI n - 1) := by
  constructor
  · intro c
    obtain ⟨j, hj, rfl⟩ := nI_of c.1
    have h1 : j < n := nI_lt_of c.2.1 hj
    refine ⟨nI_pos' hj, ?_⟩
    cases n with
    | zero => omega
    | succ n => rw [nI_pred]; exact nI_le (by omega) (by omega)
  · intro c
    obtain ⟨j, hj, rfl⟩ := in_ix (by omega) c
    exact ⟨nI_pos (by omega), fun z => absurd (nI_ge_of z (by omega) (by omega)) (by omega), fun z => absurd (nI_ge_of z (by omega) (by omega)) (by omega)⟩
def lotO (S : Nat → Nat → Int32) (P : Nat → Nat → Nat) (x : Int32) : Option Nat := if 0 ≤ x ∧ x ≤ S 2 0 - 1 then some (P 1 x.toNatClampNeg) else none
def fldO (S : Nat → Nat → Int32) (P : Nat → Nat → Nat) (x : Int32) : Option Nat := if 0 ≤ x ∧ x ≤ S 1 0 - 1 then some (P 0 x.toNatClampNeg) else none
def bagO (S : Nat → Nat → Int32) (P : Nat → Nat → Nat) (x : Int32) : Option Nat := if 0 ≤ x ∧ x ≤ S 3 0 - 1 then some (P 2 x.toNatClampNeg) else none
theorem lotO_s {S : Nat → Nat → Int32} {P : Nat → Nat → Nat} {x : Int32} {nl a : Nat} (hl : S 2 0 = nI nl) (hnl : nl ≤ 200) (e : lotO S P x = some a) : ∃ j, j < nl ∧ x = nI j ∧ a = P 1 j ∧ (0 ≤ x ∧ x ≤ S 2 0 - 1) := by
  unfold lotO at e
  by_cases c : 0 ≤ x ∧ x ≤ S 2 0 - 1
  · rw [if_pos c] at e
    obtain ⟨j, hj, rfl⟩ := in_ix (n := nl) (by omega) (by rw [← hl]; exact c)
    rw [nI_clamp (by omega)] at e
    exact ⟨j, hj, rfl, (Option.some.inj e).symm, c⟩
  · rw [if_neg c] at e; cases e
theorem lotO_n {S : Nat → Nat → Int32} {P : Nat → Nat → Nat} {x : Int32} (e : lotO S P x = none) : ¬ (0 ≤ x ∧ x ≤ S 2 0 - 1) := fun c => by
  unfold lotO at e
  rw [if_pos c] at e
  cases e
theorem s_lotAt {l : Launch} {D : va_G} {cy : Nat → ClassId} {h : jH} {S : Nat → Nat → Int32} {P : Nat → Nat → Nat} {T : Nat → Nat → Nat → List Nat} {nf nl nb ns nt nk nw : Nat} (c : CP h S P T nf nl nb ns nt nk nw) (hl : S 2 0 = nI nl) (hnl : nl ≤ 200) (x : Int32) : cQ l D cy yX2_lotAt (.code yX2_lotAt cX2_lotAt 2 ((Option.some (FieldType.object "CleanSeed$Lot")))) 0 [.ref (P 5 1), .int x] h (fun r => r = lotO S P x) := by
  have q := k_lotAt (l := l) (D := D) (cy := cy) c.2.1.1 c.2.1.2.2.2.1.1 c.2.1.2.2.2.1.2.1 c.2.1.2.2.2.1.2.2 x
  have e : (if ¬ x < 0 ∧ ¬ h_I h 132 (P 5 1) ≤ x ∧ ¬ 200 ≤ x then h_B h (P 5 7) x.toNatClampNeg else none) = lotO S P x := by
    rw [c.2.1.2.1.2.2.1, hl]
    unfold lotO
    rw [hl]
    by_cases k : 0 ≤ x ∧ x ≤ nI nl - 1
    · rw [if_pos (show ¬ x < 0 ∧ ¬ nI nl ≤ x ∧ ¬ 200 ≤ x from (idx_iff (N := 200) hnl (by decide)).mpr k), if_pos k]
      obtain ⟨j, hj, rfl⟩ := in_ix (by omega) k
      rw [nI_clamp (by omega)]
      exact (c.2.2.2.1 j hj).1.1
    · rw [if_neg (fun z : ¬ x < 0 ∧ ¬ nI nl ≤ x ∧ ¬ 200 ≤ x => k ((idx_iff (N := 200) hnl (by decide)).mp z)), if_neg k]
  rw [e] at q
  exact q
theorem s_fieldAt {l : Launch} {D : va_G} {cy : Nat → ClassId} {h : jH} {S : Nat → Nat → Int32} {P : Nat → Nat → Nat} {T : Nat → Nat → Nat → List Nat} {nf nl nb ns nt nk nw : Nat} (c : CP h S P T nf nl nb ns nt nk nw) (hl : S 1 0 = nI nf) (hnl : nf ≤ 40) (x : Int32) : cQ l D cy yX2_fieldAt (.code yX2_fieldAt cX2_fieldAt 2 ((Option.some (FieldType.object "CleanSeed$Field")))) 0 [.ref (P 5 1), .int x] h (fun r => r = fldO S P x) := by
  have q := k_fieldAt (l := l) (D := D) (cy := cy) c.2.1.1 c.2.1.2.2.1.1 c.2.1.2.2.1.2.1 c.2.1.2.2.1.2.2 x
  have e : (if ¬ x < 0 ∧ ¬ h_I h 130 (P 5 1) ≤ x ∧ ¬ 40 ≤ x then h_B h (P 5 6) x.toNatClampNeg else none) = fldO S P x := by
    rw [c.2.1.2.1.2.1, hl]
    unfold fldO
    rw [hl]
    by_cases k : 0 ≤ x ∧ x ≤ nI nf - 1
    · rw [if_pos (show ¬ x < 0 ∧ ¬ nI nf ≤ x ∧ ¬ 40 ≤ x from (idx_iff (N := 40) hnl (by decide)).mpr k), if_pos k]
      obtain ⟨j, hj, rfl⟩ := in_ix (by omega) k
      rw [nI_clamp (by omega)]
      exact (c.2.2.1 j hj).1.1
    · rw [if_neg (fun z : ¬ x < 0 ∧ ¬ nI nf ≤ x ∧ ¬ 40 ≤ x => k ((idx_iff (N := 40) hnl (by decide)).mp z)), if_neg k]
  rw [e] at q
  exact q
theorem s_bagAt {l : Launch} {D : va_G} {cy : Nat → ClassId} {h : jH} {S : Nat → Nat → Int32} {P : Nat → Nat → Nat} {T : Nat → Nat → Nat → List Nat} {nf nl nb ns nt nk nw : Nat} (c : CP h S P T nf nl nb ns nt nk nw) (hl : S 3 0 = nI nb) (hnl : nb ≤ 200) (x : Int32) : cQ l D cy yX2_bagAt (.code yX2_bagAt cX2_bagAt 2 ((Option.some (FieldType.object "CleanSeed$Bag")))) 0 [.ref (P 5 1), .int x] h (fun r => r = bagO S P x) := by
  have q := k_bagAt (l := l) (D := D) (cy := cy) c.2.1.1 c.2.1.2.2.2.2.1.1 c.2.1.2.2.2.2.1.2.1 c.2.1.2.2.2.2.1.2.2 x
  have e : (if ¬ x < 0 ∧ ¬ h_I h 134 (P 5 1) ≤ x ∧ ¬ 200 ≤ x then h_B h (P 5 8) x.toNatClampNeg else none) = bagO S P x := by
    rw [c.2.1.2.1.2.2.2.1, hl]
    unfold bagO
    rw [hl]
    by_cases k : 0 ≤ x ∧ x ≤ nI nb - 1
    · rw [if_pos (show ¬ x < 0 ∧ ¬ nI nb ≤ x ∧ ¬ 200 ≤ x from (idx_iff (N := 200) hnl (by decide)).mpr k), if_pos k]
      obtain ⟨j, hj, rfl⟩ := in_ix (by omega) k
      rw [nI_clamp (by omega)]
      exact (c.2.2.2.2.1 j hj).1.1
    · rw [if_neg (fun z : ¬ x < 0 ∧ ¬ nI nb ≤ x ∧ ¬ 200 ≤ x => k ((idx_iff (N := 200) hnl (by decide)).mp z)), if_neg k]
  rw [e] at q
  exact q
/-- the reference's part of the heap stays -/
def FrC (P : Nat → Nat → Nat) (h h' : jH) : Prop := ∀ (m0 : Nat) (ad : Nat → Nat) (S : Nat → Nat → Int32), (∀ k, 9 ≤ k → k < 49 → ∀ i, i ∈ [5, 11, 12, 13, 14] → ad k ≠ P 5 i) → Mv m0 ad h S → Mv m0 ad h' S
theorem FrC.rf {P : Nat → Nat → Nat} {h : jH} : FrC P h h := fun _ _ _ _ M => M
theorem FrC.tr {P : Nat → Nat → Nat} {h1 h2 h3 : jH} (a : FrC P h1 h2) (b : FrC P h2 h3) : FrC P h1 h3 := fun m0 ad S k M => b m0 ad S k (a m0 ad S k M)
theorem FrC.sI {P : Nat → Nat → Nat} {h : jH} {f a : Nat} {v : Int32} (hf : f < 704) : FrC P h (s_I h f a v) := fun m0 ad S _ M => ⟨M.1, fun k hk => by rw [g_II, if_neg (by omega)]; exact M.2.1 k hk, M.2.2.1, M.2.2.2⟩
set_option maxHeartbeats 4000000 in
set_option maxRecDepth 100000 in
theorem x_toss {l : Launch} {D : va_G} {cy : Nat → ClassId} {h : jH} {S : Nat → Nat → Int32} {P : Nat → Nat → Nat} {T : Nat → Nat → Nat → List Nat} {nf nl nb ns nt nk nw : Nat} (c : CP h S P T nf nl nb ns nt nk nw) (hl : S 2 0 = nI nl) (hnl : nl ≤ 200) (lt g : Int32) : jI l D cy yX10_toss (.code yX10_toss cX10_toss 4 ((Option.some FieldType.boolean))) (rmd 1 0 0) [.ref (P 5 0), .int lt, .int g] h (fun r h' => ∃ S', (r, S') = m_toss S lt g ∧ CP h' S' P T nf nl nb ns nt nk nw ∧ FrC P h h') := by
  refine j_ofZ (by decide) (Nat.le_of_ble_eq_true rfl) (fun p e s m args below meth c0 Q C hin ret => ?_)
  refine j_aload_n C dX10_toss_0 rfl ?_
  refine j_gRe (f := 640) (v := .ref (P 5 1)) C fF_X10_10 rfl c.1.1.1 (by rw [c.1.1.2.1]; rfl) dX10_toss_1 ?_
  refine j_iload_n C dX10_toss_4 rfl ?_
  refine j_callVq (As := [.int lt]) (rest := []) C fG_X10_107 (s_lotAt c hl hnl (lt)) c.2.1.1 rfl rfl (Nat.le_of_ble_eq_true rfl) ⟨Nat.le_of_ble_eq_true rfl, Nat.le_of_ble_eq_true rfl⟩ ⟨Nat.le_of_ble_eq_true rfl, Nat.le_of_ble_eq_true rfl⟩ dX10_toss_5 (fun r_5 h_5 e_5 => ?_)
  obtain ⟨e1_5, e2_5⟩ := e_5
  subst e1_5
  replace e2_5 := e2_5.symm
  subst e2_5
  refine j_astore_nQ (lv' := [(0, .ref (P 5 0)), (1, .int lt), (2, .int g), (3, va_rf (lotO S P lt))]) C dX10_toss_8 (by decide) rfl ?_
  refine j_aload_nQ C dX10_toss_9 rfl ?_
  cases hq_10 : (lotO S P lt) with
  | none =>
    refine j_ifnullN (tgt := 21) C dX10_toss_10 (by decide) ?_
    refine j_iconst (v := 0) C dX10_toss_21 (by decide) ?_
    exact ret _ _ 0 0 _ _ ⟨S, by rw [m_toss, if_neg (fun z => lotO_n hq_10 z.1)], c, FrC.rf⟩ (by decide) (Nat.zero_le _) (Nat.zero_le _) dX10_toss_22
  | some x_10 =>
    refine j_ifnull C dX10_toss_10 ?_
    obtain ⟨j, hj, hx, ha, hL⟩ := lotO_s hl hnl hq_10
    subst hx
    subst ha
    refine j_aload_n C dX10_toss_13 rfl ?_
    refine j_iload_n C dX10_toss_14 rfl ?_
    refine j_callVi (As := [.int g]) (rest := []) C fG_X10_111 (k_has (a := (P 1 j)) (c.2.2.2.1 j hj).1.2 (g)) (c.2.2.2.1 j hj).1.2 rfl rfl (Nat.le_of_ble_eq_true rfl) ⟨Nat.le_of_ble_eq_true rfl, Nat.le_of_ble_eq_true rfl⟩ ⟨Nat.le_of_ble_eq_true rfl, Nat.le_of_ble_eq_true rfl⟩ dX10_toss_15 (fun r_15 h_15 e_15 => ?_)
    obtain ⟨e1_15, e2_15⟩ := e_15
    subst e1_15
    replace e2_15 := e2_15.symm
    subst e2_15
    refine j_ifne_b (tgt := 23) C dX10_toss_18 (by decide) (fun c_18 => ?_) (fun c_18 => ?_)
    · refine j_aload_n C dX10_toss_23 rfl ?_
      refine j_dup C dX10_toss_24 rfl ?_
      refine j_gI (f := 391) C fF_X10_139 rfl (c.2.2.2.1 j hj).1.2 dX10_toss_25 ?_
      refine j_iload_n C dX10_toss_28 rfl ?_
      refine j_isub C dX10_toss_29 ?_
      refine j_pI (f := 391) C fP_X10_139 rfl (c.2.2.2.1 j hj).1.2 rfl rfl dX10_toss_30 ?_
      refine j_aload_n C dX10_toss_33 rfl ?_
      refine j_dup C dX10_toss_34 rfl ?_
      refine j_gIe (f := 396) (v := (h_I h 396 (P 1 j))) C fF_X10_204 rfl (okI (c.2.2.2.1 j hj).1.2) rfl dX10_toss_35 ?_
      refine j_iload_n C dX10_toss_38 rfl ?_
      refine j_iadd C dX10_toss_39 ?_
      refine j_pI (f := 396) C fP_X10_204 rfl (okI (c.2.2.2.1 j hj).1.2) rfl rfl dX10_toss_40 ?_
      refine j_iconst (v := 1) C dX10_toss_43 (by decide) ?_
      have e1 : h_I h 391 (P 1 j) = S 23 j := (c.2.2.2.1 j hj).2.2.2.1.1
      have e2 : h_I h 396 (P 1 j) = S 32 j := (c.2.2.2.1 j hj).2.2.2.1.2.2.2.2.2.1
      have hp : (1, u2 (u2 S 23 j (S 23 j - g)) 32 j (S 32 j + g)) = m_toss S (nI j) g := by
        rw [m_toss, if_pos ⟨hL, c_18.1, by rw [nI_clamp (by omega), ← e1]; exact Int32.not_lt.mp c_18.2⟩]
        unfold mS_toss
        rw [nI_clamp (by omega)]
        rfl
      refine ret _ _ 0 0 _ _ ⟨_, hp, ?_, (FrC.sI (by decide)).tr (FrC.sI (by decide))⟩ (by decide) (Nat.zero_le _) (Nat.zero_le _) dX10_toss_44
      rw [e1, e2]
      exact (c.lot391 hj).lot396 hj
    · refine j_iconst (v := 0) C dX10_toss_21 (by decide) ?_
      exact ret _ _ 0 0 _ _ ⟨S, by rw [m_toss, if_neg (fun z => c_18 ⟨z.2.1, by rw [(c.2.2.2.1 j hj).2.2.2.1.1]; have q := z.2.2; rw [nI_clamp (by omega)] at q; exact Int32.not_lt.mpr q⟩)], c, FrC.rf⟩ (by decide) (Nat.zero_le _) (Nat.zero_le _) dX10_toss_22
set_option maxHeartbeats 4000000 in
set_option maxRecDepth 100000 in
theorem x_prove {l : Launch} {D : va_G} {cy : Nat → ClassId} {h : jH} {S : Nat → Nat → Int32} {P : Nat → Nat → Nat} {T : Nat → Nat → Nat → List Nat} {nf nl nb ns nt nk nw : Nat} (c : CP h S P T nf nl nb ns nt nk nw) (hl : S 2 0 = nI nl) (hnl : nl ≤ 200) (lt : Int32) : jI l D cy yX10_prove (.code yX10_prove cX10_prove 3 ((Option.some FieldType.boolean))) (rmd 1 0 0) [.ref (P 5 0), .int lt] h (fun r h' => ∃ S', (r, S') = m_prove S lt ∧ CP h' S' P T nf nl nb ns nt nk nw ∧ FrC P h h') := by
  refine j_ofZ (by decide) (Nat.le_of_ble_eq_true rfl) (fun p e s m args below meth c0 Q C hin ret => ?_)
  refine j_aload_n C dX10_prove_0 rfl ?_
  refine j_gRe (f := 640) (v := .ref (P 5 1)) C fF_X10_10 rfl c.1.1.1 (by rw [c.1.1.2.1]; rfl) dX10_prove_1 ?_
  refine j_iload_n C dX10_prove_4 rfl ?_
  refine j_callVq (As := [.int lt]) (rest := []) C fG_X10_107 (s_lotAt c hl hnl (lt)) c.2.1.1 rfl rfl (Nat.le_of_ble_eq_true rfl) ⟨Nat.le_of_ble_eq_true rfl, Nat.le_of_ble_eq_true rfl⟩ ⟨Nat.le_of_ble_eq_true rfl, Nat.le_of_ble_eq_true rfl⟩ dX10_prove_5 (fun r_5 h_5 e_5 => ?_)
  obtain ⟨e1_5, e2_5⟩ := e_5
  subst e1_5
  replace e2_5 := e2_5.symm
  subst e2_5
  refine j_astore_nQ (lv' := [(0, .ref (P 5 0)), (1, .int lt), (2, va_rf (lotO S P lt))]) C dX10_prove_8 (by decide) rfl ?_
  refine j_aload_nQ C dX10_prove_9 rfl ?_
  cases hq_10 : (lotO S P lt) with
  | none =>
    refine j_ifnullN (tgt := 21) C dX10_prove_10 (by decide) ?_
    refine j_iconst (v := 0) C dX10_prove_21 (by decide) ?_
    exact ret _ _ 0 0 _ _ ⟨S, by rw [m_prove, if_neg (fun z => lotO_n hq_10 z.1)], c, FrC.rf⟩ (by decide) (Nat.zero_le _) (Nat.zero_le _) dX10_prove_22
  | some x_10 =>
    refine j_ifnull C dX10_prove_10 ?_
    obtain ⟨j, hj, hx, ha, hL⟩ := lotO_s hl hnl hq_10
    subst hx
    subst ha
    refine j_aload_n C dX10_prove_13 rfl ?_
    refine j_gI (f := 398) C fF_X10_231 rfl (c.2.2.2.1 j hj).1.2 dX10_prove_14 ?_
    refine j_iconst (v := (-1)) C dX10_prove_17 (by decide) ?_
    refine j_icmp_eq (tgt := 23) C dX10_prove_18 (by decide) (fun c_18 => ?_) (fun c_18 => ?_)
    · refine j_aload_n C dX10_prove_23 rfl ?_
      refine j_aload_n C dX10_prove_24 rfl ?_
      refine j_gRe (f := 640) (v := .ref (P 5 1)) C fF_X10_10 rfl c.1.1.1 (by rw [c.1.1.2.1]; rfl) dX10_prove_25 ?_
      refine j_gI (f := 128) C fF_X10_67 rfl c.2.1.1 dX10_prove_28 ?_
      refine j_pI (f := 398) C fP_X10_231 rfl (c.2.2.2.1 j hj).1.2 rfl rfl dX10_prove_31 ?_
      refine j_iconst (v := 1) C dX10_prove_34 (by decide) ?_
      have e1 : h_I h 398 (P 1 j) = S 33 j := (c.2.2.2.1 j hj).2.2.2.1.2.2.2.2.2.2
      have e2 : h_I h 128 (P 5 1) = S 0 0 := c.2.1.2.1.1
      have hp : (1, u2 S 33 j (S 0 0)) = m_prove S (nI j) := by
        rw [m_prove, if_pos ⟨hL, by rw [nI_clamp (by omega), ← e1]; exact c_18⟩]
        unfold mS_prove
        rw [nI_clamp (by omega)]
      refine ret _ _ 0 0 _ _ ⟨_, hp, ?_, FrC.sI (by decide)⟩ (by decide) (Nat.zero_le _) (Nat.zero_le _) dX10_prove_35
      rw [e2]
      exact c.lot398 hj
    · refine j_iconst (v := 0) C dX10_prove_21 (by decide) ?_
      exact ret _ _ 0 0 _ _ ⟨S, by rw [m_prove, if_neg (fun z => c_18 (by rw [(c.2.2.2.1 j hj).2.2.2.1.2.2.2.2.2.2]; have q := z.2; rw [nI_clamp (by omega)] at q; exact q))], c, FrC.rf⟩ (by decide) (Nat.zero_le _) (Nat.zero_le _) dX10_prove_22
