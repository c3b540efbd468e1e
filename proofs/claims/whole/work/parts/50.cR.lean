def kno (S : Nat → Nat → Int32) (P : Nat → Nat → Nat) (lt q : Int32) : Option Nat := if jdgP S lt q then some (P 1 lt.toNatClampNeg) else none
theorem kno_s {S : Nat → Nat → Int32} {P : Nat → Nat → Nat} {lt q : Int32} {nl a : Nat} (hl : S 2 0 = nI nl) (hnl : nl ≤ 200) (e : kno S P lt q = some a) : ∃ j, j < nl ∧ lt = nI j ∧ a = P 1 j ∧ jdgP S lt q := by
  unfold kno at e
  by_cases c : jdgP S lt q
  · rw [if_pos c] at e
    obtain ⟨j, hj, rfl⟩ := in_ix (n := nl) (by omega) (by rw [← hl]; exact c.1)
    rw [nI_clamp (by omega)] at e
    exact ⟨j, hj, rfl, (Option.some.inj e).symm, c⟩
  · rw [if_neg c] at e; cases e
theorem kno_n {S : Nat → Nat → Int32} {P : Nat → Nat → Nat} {lt q : Int32} (e : kno S P lt q = none) : ¬ jdgP S lt q := fun c => by
  unfold kno at e
  rw [if_pos c] at e
  cases e
set_option maxHeartbeats 4000000 in
set_option maxRecDepth 100000 in
theorem k_known {l : Launch} {D : va_G} {cy : Nat → ClassId} {h : jH} {S : Nat → Nat → Int32} {P : Nat → Nat → Nat} {T : Nat → Nat → Nat → List Nat} {nf nl nb ns nt nk nw : Nat} (c : CP h S P T nf nl nb ns nt nk nw) (hl : S 2 0 = nI nl) (hnl : nl ≤ 200) (lt q : Int32) : cQ l D cy yX10_lotKnownIn (.code yX10_lotKnownIn cX10_lotKnownIn 4 ((Option.some (FieldType.object "CleanSeed$Lot")))) 1 [.ref (P 5 0), .int lt, .int q] h (fun r => r = kno S P lt q) := by
  refine j_ofQ (by decide) (Nat.le_of_ble_eq_true rfl) (fun p e s m args below meth c0 Q C hin ret => ?_)
  refine j_aload_n C dX10_lotKnownIn_0 rfl ?_
  refine j_gRe (f := 640) (v := .ref (P 5 1)) C fF_X10_10 rfl c.1.1.1 (by rw [c.1.1.2.1]; rfl) dX10_lotKnownIn_1 ?_
  refine j_iload_n C dX10_lotKnownIn_4 rfl ?_
  refine j_callVq (As := [.int lt]) (rest := []) C fG_X10_107 (s_lotAt c hl hnl (lt)) c.2.1.1 rfl rfl (Nat.le_of_ble_eq_true rfl) ⟨Nat.le_of_ble_eq_true rfl, Nat.le_of_ble_eq_true rfl⟩ ⟨Nat.le_of_ble_eq_true rfl, Nat.le_of_ble_eq_true rfl⟩ dX10_lotKnownIn_5 (fun r_5 h_5 e_5 => ?_)
  obtain ⟨e1_5, e2_5⟩ := e_5
  subst e1_5
  replace e2_5 := e2_5.symm
  subst e2_5
  refine j_astore_nQ (lv' := [(0, .ref (P 5 0)), (1, .int lt), (2, .int q), (3, va_rf (lotO S P lt))]) C dX10_lotKnownIn_8 (by decide) rfl ?_
  refine j_aload_nQ C dX10_lotKnownIn_9 rfl ?_
  cases hq_10 : (lotO S P lt) with
  | none =>
    refine j_ifnullN (tgt := 35) C dX10_lotKnownIn_10 (by decide) ?_
    refine j_null C dX10_lotKnownIn_35 ?_
    exact ret none _ 0 0 _ _ ⟨by rw [kno, if_neg (fun z => lotO_n hq_10 z.1)], rfl⟩ (Nat.zero_le _) (Nat.zero_le _) dX10_lotKnownIn_36
  | some x_10 =>
    refine j_ifnull C dX10_lotKnownIn_10 ?_
    obtain ⟨j, hj, hx, ha, hL⟩ := lotO_s hl hnl hq_10
    subst hx
    subst ha
    refine j_iload_n C dX10_lotKnownIn_13 rfl ?_
    refine j_aload_n C dX10_lotKnownIn_14 rfl ?_
    refine j_gIe (f := 387) (v := (S 24 j)) C fF_X10_118 rfl (c.2.2.2.1 j hj).1.2 (c.2.2.2.1 j hj).2.1.2.2.2 dX10_lotKnownIn_15 ?_
    refine j_aload_n C dX10_lotKnownIn_18 rfl ?_
    refine j_gRe (f := 640) (v := .ref (P 5 1)) C fF_X10_10 rfl c.1.1.1 (by rw [c.1.1.2.1]; rfl) dX10_lotKnownIn_19 ?_
    refine j_gIe (f := 128) (v := (S 0 0)) C fF_X10_67 rfl c.2.1.1 c.2.1.2.1.1 dX10_lotKnownIn_22 ?_
    refine j_callSi (As := [.int q, .int (S 24 j), .int (S 0 0)]) (rest := []) C fG_X10_43 (k_within (q) ((S 24 j)) ((S 0 0))) rfl rfl (Nat.le_of_ble_eq_true rfl) ⟨Nat.le_of_ble_eq_true rfl, Nat.le_of_ble_eq_true rfl⟩ ⟨Nat.le_of_ble_eq_true rfl, Nat.le_of_ble_eq_true rfl⟩ dX10_lotKnownIn_25 (fun r_25 h_25 e_25 => ?_)
    obtain ⟨e1_25, e2_25⟩ := e_25
    subst e1_25
    replace e2_25 := e2_25.symm
    subst e2_25
    refine j_ifeq_b (tgt := 35) C dX10_lotKnownIn_28 (by decide) (fun c_28 => ?_) (fun c_28 => ?_)
    · refine j_null C dX10_lotKnownIn_35 ?_
      exact ret none _ 0 0 _ _ ⟨by rw [kno, if_neg (fun z => c_28 (by have u := z.2; rw [nI_clamp (by omega)] at u; exact u))], rfl⟩ (Nat.zero_le _) (Nat.zero_le _) dX10_lotKnownIn_36
    · refine j_aload_n C dX10_lotKnownIn_31 rfl ?_
      refine j_goto (tgt := 36) C dX10_lotKnownIn_32 (by decide) ?_
      exact ret (some (P 1 j)) _ 0 0 _ _ ⟨by rw [kno, if_pos ⟨hL, by rw [nI_clamp (by omega)]; exact c_28⟩, nI_clamp (by omega)], rfl⟩ (Nat.zero_le _) (Nat.zero_le _) dX10_lotKnownIn_36
set_option maxHeartbeats 4000000 in
set_option maxRecDepth 100000 in
theorem x_judge {l : Launch} {D : va_G} {cy : Nat → ClassId} {h : jH} {S : Nat → Nat → Int32} {P : Nat → Nat → Nat} {T : Nat → Nat → Nat → List Nat} {nf nl nb ns nt nk nw yy : Nat} (c : CP h S P T nf nl nb ns nt nk nw) (I : SI S nf nl nb ns nt nk nw yy) (lt q : Int32) : jI l D cy yX10_judge (.code yX10_judge cX10_judge 4 ((Option.some FieldType.int))) (rmd 8 0 0) [.ref (P 5 0), .int lt, .int q] h (fun r h' => r = m_judge S lt q nf nl ns nt nk ∧ CP h' S P T nf nl nb ns nt nk nw ∧ FrC P h h') := by
  have hl := I.lt.1
  have hnl := I.lt.2
  refine j_ofI (by decide) (Nat.le_of_ble_eq_true rfl) (fun p e s m args below meth c0 Q C hin ret => ?_)
  refine j_aload_n C dX10_judge_0 rfl ?_
  refine j_iload_n C dX10_judge_1 rfl ?_
  refine j_iload_n C dX10_judge_2 rfl ?_
  refine j_callVq (As := [.int lt, .int q]) (rest := []) C fG_X10_234 (k_known c hl hnl (lt) (q)) c.1.1.1 rfl rfl (Nat.le_of_ble_eq_true rfl) ⟨Nat.le_of_ble_eq_true rfl, Nat.le_of_ble_eq_true rfl⟩ ⟨Nat.le_of_ble_eq_true rfl, Nat.le_of_ble_eq_true rfl⟩ dX10_judge_3 (fun r_3 h_3 e_3 => ?_)
  obtain ⟨e1_3, e2_3⟩ := e_3
  subst e1_3
  replace e2_3 := e2_3.symm
  subst e2_3
  refine j_astore_nQ (lv' := [(0, .ref (P 5 0)), (1, .int lt), (2, .int q), (3, va_rf (kno S P lt q))]) C dX10_judge_6 (by decide) rfl ?_
  refine j_aload_nQ C dX10_judge_7 rfl ?_
  cases hq_8 : (kno S P lt q) with
  | none =>
    refine j_ifnonnullN C dX10_judge_8 ?_
    refine j_iconst (v := (-1)) C dX10_judge_11 (by decide) ?_
    exact ret _ _ 0 0 _ _ ⟨by rw [m_judge, if_neg (kno_n hq_8)], c, FrC.rf⟩ (Nat.zero_le _) (Nat.zero_le _) dX10_judge_12
  | some x_8 =>
    refine j_ifnonnull (tgt := 13) C dX10_judge_8 (by decide) ?_
    obtain ⟨j, hj, hx, ha, hJ⟩ := kno_s hl hnl hq_8
    subst hx
    subst ha
    have hq0 : ¬ q < S 24 j := by have u := hJ.2.1; rw [nI_clamp (by omega)] at u; exact Int32.not_lt.mpr u
    refine j_aload_n C dX10_judge_13 rfl ?_
    refine j_gRe (f := 641) (v := .ref (P 5 2)) C fF_X10_21 rfl c.1.1.1 (by rw [c.1.1.2.2.1]; rfl) dX10_judge_14 ?_
    refine j_aload_n C dX10_judge_17 rfl ?_
    refine j_gIe (f := 384) (v := (nI j)) C fF_X10_158 rfl (c.2.2.2.1 j hj).1.2 (c.2.2.2.1 j hj).2.1.1 dX10_judge_18 ?_
    refine j_iload_n C dX10_judge_21 rfl ?_
    refine j_callVv (As := [.int (nI j), .int q]) (rest := []) C fG_X10_161 (k_upTo (M := (j + 1)) c I (nI_pred j).symm (by omega) (q)) c.1.2.1.1 rfl rfl (Nat.le_of_ble_eq_true rfl) ⟨Nat.le_of_ble_eq_true rfl, Nat.le_of_ble_eq_true rfl⟩ ⟨Nat.le_of_ble_eq_true rfl, Nat.le_of_ble_eq_true rfl⟩ dX10_judge_22 (fun h_22 e_22 => ?_)
    refine j_aload_n C dX10_judge_25 rfl ?_
    refine j_gIe (f := 399) (v := ((clsZ S q nf nl ns nt nk).1 j)) C fF_X10_165 rfl (e_22.1.ok.mpr (c.2.2.2.1 j hj).1.2) ((e_22.2.2 j (Nat.lt_succ_self _) hq0).1) dX10_judge_26 ?_
    exact ret _ _ 0 0 _ _ ⟨by rw [m_judge, if_pos hJ, nI_clamp (by omega)], c.same e_22.1, e_22.2.1⟩ (Nat.zero_le _) (Nat.zero_le _) dX10_judge_29
set_option maxHeartbeats 4000000 in
set_option maxRecDepth 100000 in
theorem x_why {l : Launch} {D : va_G} {cy : Nat → ClassId} {h : jH} {S : Nat → Nat → Int32} {P : Nat → Nat → Nat} {T : Nat → Nat → Nat → List Nat} {nf nl nb ns nt nk nw yy : Nat} (c : CP h S P T nf nl nb ns nt nk nw) (I : SI S nf nl nb ns nt nk nw yy) (lt q : Int32) : jI l D cy yX10_why (.code yX10_why cX10_why 4 ((Option.some FieldType.int))) (rmd 8 0 0) [.ref (P 5 0), .int lt, .int q] h (fun r h' => r = m_why S lt q nf nl ns nt nk ∧ CP h' S P T nf nl nb ns nt nk nw ∧ FrC P h h') := by
  have hl := I.lt.1
  have hnl := I.lt.2
  refine j_ofI (by decide) (Nat.le_of_ble_eq_true rfl) (fun p e s m args below meth c0 Q C hin ret => ?_)
  refine j_aload_n C dX10_why_0 rfl ?_
  refine j_iload_n C dX10_why_1 rfl ?_
  refine j_iload_n C dX10_why_2 rfl ?_
  refine j_callVq (As := [.int lt, .int q]) (rest := []) C fG_X10_234 (k_known c hl hnl (lt) (q)) c.1.1.1 rfl rfl (Nat.le_of_ble_eq_true rfl) ⟨Nat.le_of_ble_eq_true rfl, Nat.le_of_ble_eq_true rfl⟩ ⟨Nat.le_of_ble_eq_true rfl, Nat.le_of_ble_eq_true rfl⟩ dX10_why_3 (fun r_3 h_3 e_3 => ?_)
  obtain ⟨e1_3, e2_3⟩ := e_3
  subst e1_3
  replace e2_3 := e2_3.symm
  subst e2_3
  refine j_astore_nQ (lv' := [(0, .ref (P 5 0)), (1, .int lt), (2, .int q), (3, va_rf (kno S P lt q))]) C dX10_why_6 (by decide) rfl ?_
  refine j_aload_nQ C dX10_why_7 rfl ?_
  cases hq_8 : (kno S P lt q) with
  | none =>
    refine j_ifnonnullN C dX10_why_8 ?_
    refine j_iconst (v := (-1)) C dX10_why_11 (by decide) ?_
    exact ret _ _ 0 0 _ _ ⟨by rw [m_why, if_neg (kno_n hq_8)], c, FrC.rf⟩ (Nat.zero_le _) (Nat.zero_le _) dX10_why_12
  | some x_8 =>
    refine j_ifnonnull (tgt := 13) C dX10_why_8 (by decide) ?_
    obtain ⟨j, hj, hx, ha, hJ⟩ := kno_s hl hnl hq_8
    subst hx
    subst ha
    have hq0 : ¬ q < S 24 j := by have u := hJ.2.1; rw [nI_clamp (by omega)] at u; exact Int32.not_lt.mpr u
    refine j_aload_n C dX10_why_13 rfl ?_
    refine j_gRe (f := 641) (v := .ref (P 5 2)) C fF_X10_21 rfl c.1.1.1 (by rw [c.1.1.2.2.1]; rfl) dX10_why_14 ?_
    refine j_aload_n C dX10_why_17 rfl ?_
    refine j_gIe (f := 384) (v := (nI j)) C fF_X10_158 rfl (c.2.2.2.1 j hj).1.2 (c.2.2.2.1 j hj).2.1.1 dX10_why_18 ?_
    refine j_iload_n C dX10_why_21 rfl ?_
    refine j_callVv (As := [.int (nI j), .int q]) (rest := []) C fG_X10_161 (k_upTo (M := (j + 1)) c I (nI_pred j).symm (by omega) (q)) c.1.2.1.1 rfl rfl (Nat.le_of_ble_eq_true rfl) ⟨Nat.le_of_ble_eq_true rfl, Nat.le_of_ble_eq_true rfl⟩ ⟨Nat.le_of_ble_eq_true rfl, Nat.le_of_ble_eq_true rfl⟩ dX10_why_22 (fun h_22 e_22 => ?_)
    refine j_aload_n C dX10_why_25 rfl ?_
    refine j_gIe (f := 400) (v := ((clsZ S q nf nl ns nt nk).2 j)) C fF_X10_238 rfl (e_22.1.ok.mpr (c.2.2.2.1 j hj).1.2) ((e_22.2.2 j (Nat.lt_succ_self _) hq0).2) dX10_why_26 ?_
    exact ret _ _ 0 0 _ _ ⟨by rw [m_why, if_pos hJ, nI_clamp (by omega)], c.same e_22.1, e_22.2.1⟩ (Nat.zero_le _) (Nat.zero_le _) dX10_why_29
set_option maxHeartbeats 4000000 in
set_option maxRecDepth 100000 in
theorem x_count {l : Launch} {D : va_G} {cy : Nat → ClassId} {h : jH} {S : Nat → Nat → Int32} {P : Nat → Nat → Nat} {T : Nat → Nat → Nat → List Nat} {nf nl nb ns nt nk nw yy : Nat} (c : CP h S P T nf nl nb ns nt nk nw) (I : SI S nf nl nb ns nt nk nw yy) (what : Int32) : jI l D cy yX10_count (.code yX10_count cX10_count 2 ((Option.some FieldType.int))) (rmd 9 0 0) [.ref (P 5 0), .int what] h (fun r h' => r = m_count S what nf nl ns nt nk ∧ CP h' S P T nf nl nb ns nt nk nw ∧ FrC P h h') := by
  refine j_ofI (by decide) (Nat.le_of_ble_eq_true rfl) (fun p e s m args below meth c0 Q C hin ret => ?_)
  refine j_iload_n C dX10_count_0 rfl ?_
  refine j_tsw (hi := 8) C dX10_count_1 (fun i_1 hi_1 e_1 => ?_) (fun c_1 => ⟨131, by decide, ?_⟩)
  · subst e_1
    rcases (show i_1 = 0 ∨ i_1 = 1 ∨ i_1 = 2 ∨ i_1 = 3 ∨ i_1 = 4 ∨ i_1 = 5 ∨ i_1 = 6 ∨ i_1 = 7 ∨ i_1 = 8 by omega) with rfl | rfl | rfl | rfl | rfl | rfl | rfl | rfl | rfl
    · refine ⟨51, 52, rfl, by decide, ?_⟩
      refine j_aload_n C dX10_count_52 rfl ?_
      refine j_gRe (f := 640) (v := .ref (P 5 1)) C fF_X10_10 rfl c.1.1.1 (by rw [c.1.1.2.1]; rfl) dX10_count_53 ?_
      refine j_gIe (f := 128) (v := (S 0 0)) C fF_X10_67 rfl c.2.1.1 c.2.1.2.1.1 dX10_count_56 ?_
      exact ret _ _ 0 0 _ _ ⟨by rw [m_count, tsel_in (by decide)]; rfl, c, FrC.rf⟩ (Nat.zero_le _) (Nat.zero_le _) dX10_count_59
    · refine ⟨59, 60, rfl, by decide, ?_⟩
      refine j_aload_n C dX10_count_60 rfl ?_
      refine j_gRe (f := 640) (v := .ref (P 5 1)) C fF_X10_10 rfl c.1.1.1 (by rw [c.1.1.2.1]; rfl) dX10_count_61 ?_
      refine j_gIe (f := 130) (v := (S 1 0)) C fF_X10_47 rfl c.2.1.1 c.2.1.2.1.2.1 dX10_count_64 ?_
      exact ret _ _ 0 0 _ _ ⟨by rw [m_count, tsel_in (by decide)]; rfl, c, FrC.rf⟩ (Nat.zero_le _) (Nat.zero_le _) dX10_count_67
    · refine ⟨67, 68, rfl, by decide, ?_⟩
      refine j_aload_n C dX10_count_68 rfl ?_
      refine j_gRe (f := 640) (v := .ref (P 5 1)) C fF_X10_10 rfl c.1.1.1 (by rw [c.1.1.2.1]; rfl) dX10_count_69 ?_
      refine j_gIe (f := 132) (v := (S 2 0)) C fF_X10_91 rfl c.2.1.1 c.2.1.2.1.2.2.1 dX10_count_72 ?_
      exact ret _ _ 0 0 _ _ ⟨by rw [m_count, tsel_in (by decide)]; rfl, c, FrC.rf⟩ (Nat.zero_le _) (Nat.zero_le _) dX10_count_75
    · refine ⟨75, 76, rfl, by decide, ?_⟩
      refine j_aload_n C dX10_count_76 rfl ?_
      refine j_gRe (f := 640) (v := .ref (P 5 1)) C fF_X10_10 rfl c.1.1.1 (by rw [c.1.1.2.1]; rfl) dX10_count_77 ?_
      refine j_gIe (f := 134) (v := (S 3 0)) C fF_X10_155 rfl c.2.1.1 c.2.1.2.1.2.2.2.1 dX10_count_80 ?_
      exact ret _ _ 0 0 _ _ ⟨by rw [m_count, tsel_in (by decide)]; rfl, c, FrC.rf⟩ (Nat.zero_le _) (Nat.zero_le _) dX10_count_83
    · refine ⟨83, 84, rfl, by decide, ?_⟩
      refine j_aload_n C dX10_count_84 rfl ?_
      refine j_gRe (f := 640) (v := .ref (P 5 1)) C fF_X10_10 rfl c.1.1.1 (by rw [c.1.1.2.1]; rfl) dX10_count_85 ?_
      refine j_gIe (f := 135) (v := (S 4 0)) C fF_X10_271 rfl c.2.1.1 c.2.1.2.1.2.2.2.2.1 dX10_count_88 ?_
      exact ret _ _ 0 0 _ _ ⟨by rw [m_count, tsel_in (by decide)]; rfl, c, FrC.rf⟩ (Nat.zero_le _) (Nat.zero_le _) dX10_count_91
    · refine ⟨91, 92, rfl, by decide, ?_⟩
      refine j_aload_n C dX10_count_92 rfl ?_
      refine j_gRe (f := 640) (v := .ref (P 5 1)) C fF_X10_10 rfl c.1.1.1 (by rw [c.1.1.2.1]; rfl) dX10_count_93 ?_
      refine j_gIe (f := 137) (v := (S 6 0)) C fF_X10_274 rfl c.2.1.1 c.2.1.2.1.2.2.2.2.2.1 dX10_count_96 ?_
      exact ret _ _ 0 0 _ _ ⟨by rw [m_count, tsel_in (by decide)]; rfl, c, FrC.rf⟩ (Nat.zero_le _) (Nat.zero_le _) dX10_count_99
    · refine ⟨99, 100, rfl, by decide, ?_⟩
      refine j_aload_n C dX10_count_100 rfl ?_
      refine j_gRe (f := 640) (v := .ref (P 5 1)) C fF_X10_10 rfl c.1.1.1 (by rw [c.1.1.2.1]; rfl) dX10_count_101 ?_
      refine j_gIe (f := 139) (v := (S 7 0)) C fF_X10_207 rfl c.2.1.1 c.2.1.2.1.2.2.2.2.2.2.2 dX10_count_104 ?_
      exact ret _ _ 0 0 _ _ ⟨by rw [m_count, tsel_in (by decide)]; rfl, c, FrC.rf⟩ (Nat.zero_le _) (Nat.zero_le _) dX10_count_107
    · refine ⟨107, 108, rfl, by decide, ?_⟩
      refine j_aload_n C dX10_count_108 rfl ?_
      refine j_gRe (f := 641) (v := .ref (P 5 2)) C fF_X10_21 rfl c.1.1.1 (by rw [c.1.1.2.2.1]; rfl) dX10_count_109 ?_
      refine j_aload_n C dX10_count_112 rfl ?_
      refine j_gRe (f := 640) (v := .ref (P 5 1)) C fF_X10_10 rfl c.1.1.1 (by rw [c.1.1.2.1]; rfl) dX10_count_113 ?_
      refine j_gIe (f := 128) (v := (S 0 0)) C fF_X10_67 rfl c.2.1.1 c.2.1.2.1.1 dX10_count_116 ?_
      refine j_callVi (As := [.int (S 0 0)]) (rest := []) C fG_X10_277 (k_countOut c I) c.1.2.1.1 rfl rfl (Nat.le_of_ble_eq_true rfl) ⟨Nat.le_of_ble_eq_true rfl, Nat.le_of_ble_eq_true rfl⟩ ⟨Nat.le_of_ble_eq_true rfl, Nat.le_of_ble_eq_true rfl⟩ dX10_count_119 (fun r_119 h_119 e_119 => ?_)
      exact ret _ _ 0 0 _ _ ⟨by rw [e_119.1, m_count, tsel_in (by decide)]; rfl, c.same e_119.2.1, e_119.2.2⟩ (Nat.zero_le _) (Nat.zero_le _) dX10_count_122
    · refine ⟨122, 123, rfl, by decide, ?_⟩
      refine j_aload_n C dX10_count_123 rfl ?_
      refine j_gRe (f := 643) (v := .ref (P 5 4)) C fF_X10_35 rfl c.1.1.1 (by rw [c.1.1.2.2.2.2.1]; rfl) dX10_count_124 ?_
      refine j_gIe (f := 455) (v := (S 8 0)) C fF_X10_260 rfl c.1.2.2.2.1.1 c.2.2.2.2.2.2.1.1 dX10_count_127 ?_
      exact ret _ _ 0 0 _ _ ⟨by rw [m_count, tsel_in (by decide)]; rfl, c, FrC.rf⟩ (Nat.zero_le _) (Nat.zero_le _) dX10_count_130
  · refine j_iconst (v := (-1)) C dX10_count_131 (by decide) ?_
    exact ret _ _ 0 0 _ _ ⟨(tsel_out c_1 _ _).symm, c, FrC.rf⟩ (Nat.zero_le _) (Nat.zero_le _) dX10_count_132
theorem CP.w45 {h : jH} {S : Nat → Nat → Int32} {P : Nat → Nat → Nat} {T : Nat → Nat → Nat → List Nat} {nf nl nb ns nt nk nw : Nat} (c : CP h S P T nf nl nb ns nt nk nw) (z w : Nat → Int32) : CP h (W45 S z w) P T nf nl nb ns nt nk nw := c.agS (AgS.scr (fun k i hk => by unfold W45; rw [if_neg (by omega), if_neg (by omega)]))
set_option maxHeartbeats 4000000 in
set_option maxRecDepth 100000 in
theorem x_seal {l : Launch} {D : va_G} {cy : Nat → ClassId} {h : jH} {S : Nat → Nat → Int32} {P : Nat → Nat → Nat} {T : Nat → Nat → Nat → List Nat} {nf nl nb ns nt nk nw yy : Nat} (c : CP h S P T nf nl nb ns nt nk nw) (I : SI S nf nl nb ns nt nk nw yy) (bg : Int32) : jI l D cy yX10_seal (.code yX10_seal cX10_seal 3 ((Option.some FieldType.int))) (rmd 9 0 0) [.ref (P 5 0), .int bg] h (fun r h' => ∃ S', (r, S') = m_seal S bg nb nf nl ns nt nk ∧ CP h' S' P T nf nl nb ns nt nk nw ∧ FrC P h h') := by
  have hb := I.bg.1
  have hnb := I.bg.2
  have hnl := I.lt.2
  refine j_ofI (by decide) (Nat.le_of_ble_eq_true rfl) (fun p e s m args below meth c0 Q C hin ret => ?_)
  refine j_aload_n C dX10_seal_0 rfl ?_
  refine j_gRe (f := 640) (v := .ref (P 5 1)) C fF_X10_10 rfl c.1.1.1 (by rw [c.1.1.2.1]; rfl) dX10_seal_1 ?_
  refine j_iload_n C dX10_seal_4 rfl ?_
  refine j_callVq (As := [.int bg]) (rest := []) C fG_X10_184 (s_bagAt c hb hnb (bg)) c.2.1.1 rfl rfl (Nat.le_of_ble_eq_true rfl) ⟨Nat.le_of_ble_eq_true rfl, Nat.le_of_ble_eq_true rfl⟩ ⟨Nat.le_of_ble_eq_true rfl, Nat.le_of_ble_eq_true rfl⟩ dX10_seal_5 (fun r_5 h_5 e_5 => ?_)
  obtain ⟨e1_5, e2_5⟩ := e_5
  subst e1_5
  replace e2_5 := e2_5.symm
  subst e2_5
  refine j_astore_nQ (lv' := [(0, .ref (P 5 0)), (1, .int bg), (2, va_rf (bagO S P bg))]) C dX10_seal_8 (by decide) rfl ?_
  refine j_aload_nQ C dX10_seal_9 rfl ?_
  cases hq_10 : (bagO S P bg) with
  | none =>
    refine j_ifnullN (tgt := 27) C dX10_seal_10 (by decide) ?_
    refine j_iconst (v := (-1)) C dX10_seal_27 (by decide) ?_
    exact ret _ _ 0 0 _ _ ⟨S, by rw [m_seal, if_neg (fun z => bagO_n hq_10 z.1)], c, FrC.rf⟩ (Nat.zero_le _) (Nat.zero_le _) dX10_seal_28
  | some x_10 =>
    refine j_ifnull C dX10_seal_10 ?_
    obtain ⟨j, hj, hx, ha, hL⟩ := bagO_s hb hnb hq_10
    subst hx
    subst ha
    obtain ⟨l0, hl0, he38⟩ := I.bl j hj
    have hq0 : ¬ S 0 0 < S 24 l0 := I.now hl0
    refine j_aload_n C dX10_seal_13 rfl ?_
    refine j_callVi (As := []) (rest := []) C fG_X10_188 (k_isOpened (a := (P 2 j)) (c.2.2.2.2.1 j hj).1.2) (c.2.2.2.2.1 j hj).1.2 rfl rfl (Nat.le_of_ble_eq_true rfl) ⟨Nat.le_of_ble_eq_true rfl, Nat.le_of_ble_eq_true rfl⟩ ⟨Nat.le_of_ble_eq_true rfl, Nat.le_of_ble_eq_true rfl⟩ dX10_seal_14 (fun r_14 h_14 e_14 => ?_)
    obtain ⟨e1_14, e2_14⟩ := e_14
    subst e1_14
    replace e2_14 := e2_14.symm
    subst e2_14
    refine j_ifeq_b (tgt := 27) C dX10_seal_17 (by decide) (fun c_17 => ?_) (fun c_17 => ?_)
    · refine j_iconst (v := (-1)) C dX10_seal_27 (by decide) ?_
      exact ret _ _ 0 0 _ _ ⟨S, by rw [m_seal, if_neg (fun z => c_17 (by have u := z.2.1; rw [nI_clamp (by omega), ← (c.2.2.2.2.1 j hj).2.2.2.1] at u; exact u))], c, FrC.rf⟩ (Nat.zero_le _) (Nat.zero_le _) dX10_seal_28
    · refine j_aload_n C dX10_seal_20 rfl ?_
      refine j_callVi (As := []) (rest := []) C fG_X10_195 (k_isSold (a := (P 2 j)) (c.2.2.2.2.1 j hj).1.2) (c.2.2.2.2.1 j hj).1.2 rfl rfl (Nat.le_of_ble_eq_true rfl) ⟨Nat.le_of_ble_eq_true rfl, Nat.le_of_ble_eq_true rfl⟩ ⟨Nat.le_of_ble_eq_true rfl, Nat.le_of_ble_eq_true rfl⟩ dX10_seal_21 (fun r_21 h_21 e_21 => ?_)
      obtain ⟨e1_21, e2_21⟩ := e_21
      subst e1_21
      replace e2_21 := e2_21.symm
      subst e2_21
      refine j_ifeq_b (tgt := 29) C dX10_seal_24 (by decide) (fun c_24 => ?_) (fun c_24 => ?_)
      · have hP : (0 ≤ nI j ∧ nI j ≤ S 3 0 - 1) ∧ (S 40 (nI j).toNatClampNeg = 0) ∧ (S 41 (nI j).toNatClampNeg = -1) := ⟨hL, by rw [nI_clamp (by omega), ← (c.2.2.2.2.1 j hj).2.2.2.1]; exact c_17, by rw [nI_clamp (by omega), ← (c.2.2.2.2.1 j hj).2.2.2.2]; exact Classical.byContradiction c_24⟩
        refine j_aload_n C dX10_seal_29 rfl ?_
        refine j_gRe (f := 641) (v := .ref (P 5 2)) C fF_X10_21 rfl c.1.1.1 (by rw [c.1.1.2.2.1]; rfl) dX10_seal_30 ?_
        refine j_aload_n C dX10_seal_33 rfl ?_
        refine j_gRe (f := 64) (v := .ref (P 1 l0)) C fF_X10_198 rfl (c.2.2.2.2.1 j hj).1.2 (by rw [(c.2.2.2.2.1 j hj).2.1, he38, nI_clamp (by omega)]; rfl) dX10_seal_34 ?_
        refine j_gIe (f := 384) (v := (nI l0)) C fF_X10_158 rfl (c.2.2.2.1 l0 hl0).1.2 (c.2.2.2.1 l0 hl0).2.1.1 dX10_seal_37 ?_
        refine j_aload_n C dX10_seal_40 rfl ?_
        refine j_gRe (f := 640) (v := .ref (P 5 1)) C fF_X10_10 rfl c.1.1.1 (by rw [c.1.1.2.1]; rfl) dX10_seal_41 ?_
        refine j_gIe (f := 128) (v := (S 0 0)) C fF_X10_67 rfl c.2.1.1 c.2.1.2.1.1 dX10_seal_44 ?_
        refine j_callVv (As := [.int (nI l0), .int (S 0 0)]) (rest := []) C fG_X10_161 (k_upTo (M := (l0 + 1)) c I (nI_pred l0).symm (by omega) ((S 0 0))) c.1.2.1.1 rfl rfl (Nat.le_of_ble_eq_true rfl) ⟨Nat.le_of_ble_eq_true rfl, Nat.le_of_ble_eq_true rfl⟩ ⟨Nat.le_of_ble_eq_true rfl, Nat.le_of_ble_eq_true rfl⟩ dX10_seal_47 (fun h_47 e_47 => ?_)
        refine j_aload_n C dX10_seal_50 rfl ?_
        refine j_gRe (f := 64) (v := .ref (P 1 l0)) C fF_X10_198 rfl (e_47.1.ok.mpr (c.2.2.2.2.1 j hj).1.2) (by rw [e_47.1.2.2.2.2.1, (c.2.2.2.2.1 j hj).2.1, he38, nI_clamp (by omega)]; rfl) dX10_seal_51 ?_
        refine j_gIe (f := 399) (v := ((clsZ S (S 0 0) nf nl ns nt nk).1 l0)) C fF_X10_165 rfl (e_47.1.ok.mpr (c.2.2.2.1 l0 hl0).1.2) (e_47.2.2 l0 (Nat.lt_succ_self _) hq0).1 dX10_seal_54 ?_
        refine j_bipush (v := 9) C dX10_seal_57 (by decide) ?_
        refine j_icmp_ne (tgt := 64) C dX10_seal_59 (by decide) (fun c_59 => ?_) (fun c_59 => ?_)
        · refine j_aload_n C dX10_seal_64 rfl ?_
          refine j_aload_n C dX10_seal_65 rfl ?_
          refine j_gRe (f := 640) (v := .ref (P 5 1)) C fF_X10_10 rfl (e_47.1.ok.mpr c.1.1.1) (by rw [e_47.1.2.2.2.2.1, c.1.1.2.1]; rfl) dX10_seal_66 ?_
          refine j_callVi (As := []) (rest := [.ref (P 2 j)]) C fG_X10_173 (k_nextSeal (a := (P 5 1)) (e_47.1.ok.mpr c.2.1.1)) (e_47.1.ok.mpr c.2.1.1) rfl rfl (Nat.le_of_ble_eq_true rfl) ⟨Nat.le_of_ble_eq_true rfl, Nat.le_of_ble_eq_true rfl⟩ ⟨Nat.le_of_ble_eq_true rfl, Nat.le_of_ble_eq_true rfl⟩ dX10_seal_69 (fun r_69 h_69 e_69 => ?_)
          obtain ⟨e1_69, e2_69⟩ := e_69
          have en : h_I h_47 135 (P 5 1) = S 4 0 := (e_47.1.2.2.2.1 135 _ rfl).trans c.2.1.2.1.2.2.2.2.1
          rw [en] at e1_69 e2_69
          subst e1_69
          subst e2_69
          refine j_pI (f := 66) C fP_X10_192 rfl (okI (e_47.1.ok.mpr (c.2.2.2.2.1 j hj).1.2)) rfl rfl dX10_seal_72 ?_
          refine j_aload_n C dX10_seal_75 rfl ?_
          refine j_gIe (f := 66) (v := (S 4 0 + 1)) C fF_X10_192 rfl (okI (okI (e_47.1.ok.mpr (c.2.2.2.2.1 j hj).1.2))) (by rw [g_II, if_pos rfl, if_pos rfl]) dX10_seal_76 ?_
          have hp : (S 4 0 + 1, u2 (u2 (W45 S (clsZ S (S 0 0) nf nl ns nt nk).1 (clsZ S (S 0 0) nf nl ns nt nk).2) 4 0 (S 4 0 + 1)) 40 j (S 4 0 + 1)) = m_seal S (nI j) nb nf nl ns nt nk := by
            rw [m_seal, if_pos hP, nI_clamp (by omega), he38, nI_clamp (by omega), if_neg c_59]
            unfold mS_seal
            rw [nI_clamp (by omega)]
            rfl
          exact ret _ _ 0 0 _ _ ⟨_, hp, (((c.same e_47.1).w45 _ _).book135).bag66 hj, e_47.2.1.tr ((FrC.sI (by decide)).tr (FrC.sI (by decide)))⟩ (Nat.zero_le _) (Nat.zero_le _) dX10_seal_79
        · refine j_iconst (v := (-1)) C dX10_seal_62 (by decide) ?_
          exact ret _ _ 0 0 _ _ ⟨(W45 S (clsZ S (S 0 0) nf nl ns nt nk).1 (clsZ S (S 0 0) nf nl ns nt nk).2), by rw [m_seal, if_pos hP, nI_clamp (by omega), he38, nI_clamp (by omega), if_pos c_59], (c.same e_47.1).w45 _ _, e_47.2.1⟩ (Nat.zero_le _) (Nat.zero_le _) dX10_seal_63
      · refine j_iconst (v := (-1)) C dX10_seal_27 (by decide) ?_
        exact ret _ _ 0 0 _ _ ⟨S, by rw [m_seal, if_neg (fun z => c_24 (by have u := z.2.2; rw [nI_clamp (by omega), ← (c.2.2.2.2.1 j hj).2.2.2.2] at u; exact u))], c, FrC.rf⟩ (Nat.zero_le _) (Nat.zero_le _) dX10_seal_28
