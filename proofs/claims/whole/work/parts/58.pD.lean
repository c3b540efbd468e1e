set_option maxHeartbeats 4000000 in
set_option maxRecDepth 100000 in
theorem k_placeOf {l : Launch} {D : va_G} {cy : Nat → ClassId} {h : jH} {S : Nat → Nat → Int32} {P : Nat → Nat → Nat} {T : Nat → Nat → Nat → List Nat} {nf nl nb ns nt nk nw yy : Nat} (c : CP h S P T nf nl nb ns nt nk nw) (I : SI S nf nl nb ns nt nk nw yy) {t : Nat} (ht : t < nw) : jI l D cy yX7_placeOf (.code yX7_placeOf cX7_placeOf 3 ((Option.some FieldType.int))) (rmd 9 0 0) [.ref (P 5 4), .int (nI t)] h (fun r h' => r = (planZ S yy nl ns nt nw (mmS nf)).2.1 t ∧ CP h' S P T nf nl nb ns nt nk nw ∧ FrC P h h') := by
  have hnw := I.wt.2
  obtain ⟨ys, hys, eys⟩ := force_nI (S := S) (kd := 1) (y := nI (yy + 1)) (q := nI yy) (nt := nt) (fun k hk => (I.sv k hk).2)
  refine j_ofI (by decide) (Nat.le_of_ble_eq_true rfl) (fun p e s m args below meth c0 Q C hin ret => ?_)
  refine j_iload_n C dX7_placeOf_0 rfl ?_
  refine j_if_lt (tgt := 21) C dX7_placeOf_1 (by decide) (fun c_1 => ?_) (fun c_1 => ?_)
  · refine j_iconst (v := (-1)) C dX7_placeOf_21 (by decide) ?_
    exact absurd c_1 (nI_pos (by omega))
  · refine j_iload_n C dX7_placeOf_4 rfl ?_
    refine j_aload_n C dX7_placeOf_5 rfl ?_
    refine j_gIe (f := 455) (v := (nI nw)) C fF_X7_34 rfl c.1.2.2.2.1.1 (by exact c.2.2.2.2.2.2.1.1.trans I.wt.1) dX7_placeOf_6 ?_
    refine j_icmp_ge (tgt := 21) C dX7_placeOf_9 (by decide) (fun c_9 => ?_) (fun c_9 => ?_)
    · refine j_iconst (v := (-1)) C dX7_placeOf_21 (by decide) ?_
      exact absurd (nI_ge_of c_9 (by omega) (by omega)) (by omega)
    · refine j_iload_n C dX7_placeOf_12 rfl ?_
      refine j_aload_n C dX7_placeOf_13 rfl ?_
      refine j_gRe (f := 453) (v := .ref (P 5 14)) C fF_X7_27 rfl c.1.2.2.2.1.1 (by rw [c.1.2.2.2.1.2.2.2.2.2.2]; rfl) dX7_placeOf_14 ?_
      refine j_alen (k := 12) (v := 5) C c.1.2.2.2.2.2.2.2.2.2.1 ⟨by decide, rfl⟩ (congrArg nI c.1.2.2.2.2.2.2.2.2.2.2) dX7_placeOf_17 ?_
      refine j_icmp_lt (tgt := 23) C dX7_placeOf_18 (by decide) (fun c_18 => ?_) (fun c_18 => ?_)
      · refine j_aload_n C dX7_placeOf_23 rfl ?_
        refine j_gRe (f := 448) (v := .ref (P 5 1)) C fF_X7_37 rfl c.1.2.2.2.1.1 (by rw [c.1.2.2.2.1.2.1]; rfl) dX7_placeOf_24 ?_
        refine j_gIe (f := 128) (v := (nI yy)) C fF_X7_41 rfl c.2.1.1 (by exact c.2.1.2.1.1.trans I.yr.1) dX7_placeOf_27 ?_
        refine j_iconst (v := 1) C dX7_placeOf_30 (by decide) ?_
        refine j_iadd C dX7_placeOf_31 ?_
        refine j_top (nI_1 yy) ?_
        refine j_istore_n (lv' := [(0, .ref (P 5 4)), (1, .int (nI t)), (2, .int (nI (yy + 1)))]) C dX7_placeOf_32 (by decide) rfl ?_
        refine j_aload_n C dX7_placeOf_33 rfl ?_
        refine j_iload_n C dX7_placeOf_34 rfl ?_
        refine j_aload_n C dX7_placeOf_35 rfl ?_
        refine j_gRe (f := 448) (v := .ref (P 5 1)) C fF_X7_37 rfl c.1.2.2.2.1.1 (by rw [c.1.2.2.2.1.2.1]; rfl) dX7_placeOf_36 ?_
        refine j_iconst (v := 1) C dX7_placeOf_39 (by decide) ?_
        refine j_iload_n C dX7_placeOf_40 rfl ?_
        refine j_aload_n C dX7_placeOf_41 rfl ?_
        refine j_gRe (f := 448) (v := .ref (P 5 1)) C fF_X7_37 rfl c.1.2.2.2.1.1 (by rw [c.1.2.2.2.1.2.1]; rfl) dX7_placeOf_42 ?_
        refine j_gIe (f := 128) (v := (nI yy)) C fF_X7_41 rfl c.2.1.1 (by exact c.2.1.2.1.1.trans I.yr.1) dX7_placeOf_45 ?_
        refine j_callVi (As := [.int 1, .int (nI (yy + 1)), .int (nI yy)]) (rest := [.int (nI (yy + 1)), .ref (P 5 4)]) C fG_X7_46 (s_forceL c I (kd := 1) (x := 1) rfl (by decide) ((nI (yy + 1))) ((nI yy))) c.2.1.1 rfl rfl (Nat.le_of_ble_eq_true rfl) ⟨Nat.le_of_ble_eq_true rfl, Nat.le_of_ble_eq_true rfl⟩ ⟨Nat.le_of_ble_eq_true rfl, Nat.le_of_ble_eq_true rfl⟩ dX7_placeOf_48 (fun r_48 h_48 e_48 => ?_)
        obtain ⟨e1_48, e2_48⟩ := e_48
        subst e1_48
        replace e2_48 := e2_48.symm
        subst e2_48
        refine j_callVv (As := [.int (nI (yy + 1)), .int (inForceS S 1 (nI (yy + 1)) (nI yy) nt)]) (rest := []) C fG_X7_50 (k_mayTake c I (v := (inForceS S 1 (nI (yy + 1)) (nI yy) nt)) (by rw [nI_1]) hys eys) c.1.2.2.2.1.1 rfl rfl (Nat.le_of_ble_eq_true rfl) ⟨Nat.le_of_ble_eq_true rfl, Nat.le_of_ble_eq_true rfl⟩ ⟨Nat.le_of_ble_eq_true rfl, Nat.le_of_ble_eq_true rfl⟩ dX7_placeOf_51 (fun h_51 e_51 => ?_)
        refine j_aload_n C dX7_placeOf_54 rfl ?_
        refine j_aload_n C dX7_placeOf_55 rfl ?_
        refine j_gRe (f := 448) (v := .ref (P 5 1)) C fF_X7_37 rfl e_51.1.1.2.2.2.1.1 (by rw [e_51.1.1.2.2.2.1.2.1]; rfl) dX7_placeOf_56 ?_
        refine j_iconst (v := 0) C dX7_placeOf_59 (by decide) ?_
        refine j_iload_n C dX7_placeOf_60 rfl ?_
        refine j_aload_n C dX7_placeOf_61 rfl ?_
        refine j_gRe (f := 448) (v := .ref (P 5 1)) C fF_X7_37 rfl e_51.1.1.2.2.2.1.1 (by rw [e_51.1.1.2.2.2.1.2.1]; rfl) dX7_placeOf_62 ?_
        refine j_gIe (f := 128) (v := (nI yy)) C fF_X7_41 rfl e_51.1.2.1.1 (by exact e_51.1.2.1.2.1.1.trans I.yr.1) dX7_placeOf_65 ?_
        refine j_callVi (As := [.int 0, .int (nI (yy + 1)), .int (nI yy)]) (rest := [.ref (P 5 4)]) C fG_X7_46 (s_forceL e_51.1 I (kd := 0) (x := 0) rfl (by decide) ((nI (yy + 1))) ((nI yy))) e_51.1.2.1.1 rfl rfl (Nat.le_of_ble_eq_true rfl) ⟨Nat.le_of_ble_eq_true rfl, Nat.le_of_ble_eq_true rfl⟩ ⟨Nat.le_of_ble_eq_true rfl, Nat.le_of_ble_eq_true rfl⟩ dX7_placeOf_68 (fun r_68 h_68 e_68 => ?_)
        obtain ⟨e1_68, e2_68⟩ := e_68
        subst e1_68
        replace e2_68 := e2_68.symm
        subst e2_68
        refine j_callVv (As := [.int (inForceS S 0 (nI (yy + 1)) (nI yy) nt)]) (rest := []) C fG_X7_54 (k_tooNear e_51.1 I ((inForceS S 0 (nI (yy + 1)) (nI yy) nt))) e_51.1.1.2.2.2.1.1 rfl rfl (Nat.le_of_ble_eq_true rfl) ⟨Nat.le_of_ble_eq_true rfl, Nat.le_of_ble_eq_true rfl⟩ ⟨Nat.le_of_ble_eq_true rfl, Nat.le_of_ble_eq_true rfl⟩ dX7_placeOf_71 (fun h_71 e_71 => ?_)
        refine j_aload_n C dX7_placeOf_74 rfl ?_
        refine j_iconst (v := (-1)) C dX7_placeOf_75 (by decide) ?_
        refine j_pI (f := 454) C fP_X7_30 rfl e_71.1.1.2.2.2.1.1 rfl rfl dX7_placeOf_76 ?_
        refine j_aload_n C dX7_placeOf_79 rfl ?_
        refine j_iconst (v := 0) C dX7_placeOf_80 (by decide) ?_
        refine j_iconst (v := 0) C dX7_placeOf_81 (by decide) ?_
        have hC : CP (s_I h_71 454 (P 5 4) (-1)) S P T nf nl nb ns nt nk nw := e_71.1.same (sameH.sI rfl)
        have hMT : plM (s_I h_71 454 (P 5 4) (-1)) S P nf nl ns nt nw yy := e_51.2.2.2.cg e_71.2.2.1
        have hTN : plT (s_I h_71 454 (P 5 4) (-1)) S P nf nt yy := fun f hf => by
          have u := e_71.2.2.2 f hf
          rw [← nI_1] at u
          exact u
        rcases (show nw = 1 ∨ nw = 2 ∨ nw = 3 ∨ nw = 4 ∨ nw = 5 by omega) with e1 | e1 | e1 | e1 | e1
        · refine j_callVv (As := [.int 0, .int 0]) (rest := []) C fG_X7_58 (k_srch1 (pl := 0) (V := 0) (b := 0) hC I hMT hTN (by omega) trivial (fun k hk => absurd hk (Nat.not_lt_zero _)) (by rw [g_II, if_pos rfl, if_pos rfl]; decide) (by omega) (by rw [Nat.zero_mul]; exact Res.zero _)) hC.1.2.2.2.1.1 rfl rfl (Nat.le_of_ble_eq_true rfl) ⟨Nat.le_of_ble_eq_true rfl, Nat.le_of_ble_eq_true rfl⟩ ⟨Nat.le_of_ble_eq_true rfl, Nat.le_of_ble_eq_true rfl⟩ dX7_placeOf_82 (fun h_82 e_82 => ?_)
          obtain ⟨d1, d2, d3, d4, d5, b', d6, d7, d8⟩ := e_82
          refine j_aload_n C dX7_placeOf_85 rfl ?_
          refine j_gRe (f := 453) (v := .ref (P 5 14)) C fF_X7_27 rfl d1.1.2.2.2.1.1 (by rw [d1.1.2.2.2.1.2.2.2.2.2.2]; rfl) dX7_placeOf_86 ?_
          refine j_iload_n C dX7_placeOf_89 rfl ?_
          refine j_ialdN C d1.1.2.2.2.2.2.2.2.2.2.1 ⟨d1.1.2.2.2.2.2.2.2.2.2.2, by omega, by decide⟩ dX7_placeOf_90 ?_
          refine ret _ h_82 0 0 _ _ ⟨?_, d1, ((e_51.2.1.tr e_71.2.1).tr (FrC.sI (by decide))).tr d2⟩ (Nat.zero_le _) (Nat.zero_le _) dX7_placeOf_91
          exact plan_eq (mmS_le nf) hnw (by rw [show (mmS nf + 1) ^ nw = (0 + 1) * (mmS nf + 1) ^ 1 by rw [e1, Nat.zero_add, Nat.one_mul]]; exact d8) ht
        · refine j_callVv (As := [.int 0, .int 0]) (rest := []) C fG_X7_58 (k_srch2 (pl := 0) (V := 0) (b := 0) hC I hMT hTN (by omega) trivial (fun k hk => absurd hk (Nat.not_lt_zero _)) (by rw [g_II, if_pos rfl, if_pos rfl]; decide) (by omega) (by rw [Nat.zero_mul]; exact Res.zero _)) hC.1.2.2.2.1.1 rfl rfl (Nat.le_of_ble_eq_true rfl) ⟨Nat.le_of_ble_eq_true rfl, Nat.le_of_ble_eq_true rfl⟩ ⟨Nat.le_of_ble_eq_true rfl, Nat.le_of_ble_eq_true rfl⟩ dX7_placeOf_82 (fun h_82 e_82 => ?_)
          obtain ⟨d1, d2, d3, d4, d5, b', d6, d7, d8⟩ := e_82
          refine j_aload_n C dX7_placeOf_85 rfl ?_
          refine j_gRe (f := 453) (v := .ref (P 5 14)) C fF_X7_27 rfl d1.1.2.2.2.1.1 (by rw [d1.1.2.2.2.1.2.2.2.2.2.2]; rfl) dX7_placeOf_86 ?_
          refine j_iload_n C dX7_placeOf_89 rfl ?_
          refine j_ialdN C d1.1.2.2.2.2.2.2.2.2.2.1 ⟨d1.1.2.2.2.2.2.2.2.2.2.2, by omega, by decide⟩ dX7_placeOf_90 ?_
          refine ret _ h_82 0 0 _ _ ⟨?_, d1, ((e_51.2.1.tr e_71.2.1).tr (FrC.sI (by decide))).tr d2⟩ (Nat.zero_le _) (Nat.zero_le _) dX7_placeOf_91
          exact plan_eq (mmS_le nf) hnw (by rw [show (mmS nf + 1) ^ nw = (0 + 1) * (mmS nf + 1) ^ 2 by rw [e1, Nat.zero_add, Nat.one_mul]]; exact d8) ht
        · refine j_callVv (As := [.int 0, .int 0]) (rest := []) C fG_X7_58 (k_srch3 (pl := 0) (V := 0) (b := 0) hC I hMT hTN (by omega) trivial (fun k hk => absurd hk (Nat.not_lt_zero _)) (by rw [g_II, if_pos rfl, if_pos rfl]; decide) (by omega) (by rw [Nat.zero_mul]; exact Res.zero _)) hC.1.2.2.2.1.1 rfl rfl (Nat.le_of_ble_eq_true rfl) ⟨Nat.le_of_ble_eq_true rfl, Nat.le_of_ble_eq_true rfl⟩ ⟨Nat.le_of_ble_eq_true rfl, Nat.le_of_ble_eq_true rfl⟩ dX7_placeOf_82 (fun h_82 e_82 => ?_)
          obtain ⟨d1, d2, d3, d4, d5, b', d6, d7, d8⟩ := e_82
          refine j_aload_n C dX7_placeOf_85 rfl ?_
          refine j_gRe (f := 453) (v := .ref (P 5 14)) C fF_X7_27 rfl d1.1.2.2.2.1.1 (by rw [d1.1.2.2.2.1.2.2.2.2.2.2]; rfl) dX7_placeOf_86 ?_
          refine j_iload_n C dX7_placeOf_89 rfl ?_
          refine j_ialdN C d1.1.2.2.2.2.2.2.2.2.2.1 ⟨d1.1.2.2.2.2.2.2.2.2.2.2, by omega, by decide⟩ dX7_placeOf_90 ?_
          refine ret _ h_82 0 0 _ _ ⟨?_, d1, ((e_51.2.1.tr e_71.2.1).tr (FrC.sI (by decide))).tr d2⟩ (Nat.zero_le _) (Nat.zero_le _) dX7_placeOf_91
          exact plan_eq (mmS_le nf) hnw (by rw [show (mmS nf + 1) ^ nw = (0 + 1) * (mmS nf + 1) ^ 3 by rw [e1, Nat.zero_add, Nat.one_mul]]; exact d8) ht
        · refine j_callVv (As := [.int 0, .int 0]) (rest := []) C fG_X7_58 (k_srch4 (pl := 0) (V := 0) (b := 0) hC I hMT hTN (by omega) trivial (fun k hk => absurd hk (Nat.not_lt_zero _)) (by rw [g_II, if_pos rfl, if_pos rfl]; decide) (by omega) (by rw [Nat.zero_mul]; exact Res.zero _)) hC.1.2.2.2.1.1 rfl rfl (Nat.le_of_ble_eq_true rfl) ⟨Nat.le_of_ble_eq_true rfl, Nat.le_of_ble_eq_true rfl⟩ ⟨Nat.le_of_ble_eq_true rfl, Nat.le_of_ble_eq_true rfl⟩ dX7_placeOf_82 (fun h_82 e_82 => ?_)
          obtain ⟨d1, d2, d3, d4, d5, b', d6, d7, d8⟩ := e_82
          refine j_aload_n C dX7_placeOf_85 rfl ?_
          refine j_gRe (f := 453) (v := .ref (P 5 14)) C fF_X7_27 rfl d1.1.2.2.2.1.1 (by rw [d1.1.2.2.2.1.2.2.2.2.2.2]; rfl) dX7_placeOf_86 ?_
          refine j_iload_n C dX7_placeOf_89 rfl ?_
          refine j_ialdN C d1.1.2.2.2.2.2.2.2.2.2.1 ⟨d1.1.2.2.2.2.2.2.2.2.2.2, by omega, by decide⟩ dX7_placeOf_90 ?_
          refine ret _ h_82 0 0 _ _ ⟨?_, d1, ((e_51.2.1.tr e_71.2.1).tr (FrC.sI (by decide))).tr d2⟩ (Nat.zero_le _) (Nat.zero_le _) dX7_placeOf_91
          exact plan_eq (mmS_le nf) hnw (by rw [show (mmS nf + 1) ^ nw = (0 + 1) * (mmS nf + 1) ^ 4 by rw [e1, Nat.zero_add, Nat.one_mul]]; exact d8) ht
        · refine j_callVv (As := [.int 0, .int 0]) (rest := []) C fG_X7_58 (k_srch5 (pl := 0) (V := 0) (b := 0) hC I hMT hTN (by omega) trivial (fun k hk => absurd hk (Nat.not_lt_zero _)) (by rw [g_II, if_pos rfl, if_pos rfl]; decide) (by omega) (by rw [Nat.zero_mul]; exact Res.zero _)) hC.1.2.2.2.1.1 rfl rfl (Nat.le_of_ble_eq_true rfl) ⟨Nat.le_of_ble_eq_true rfl, Nat.le_of_ble_eq_true rfl⟩ ⟨Nat.le_of_ble_eq_true rfl, Nat.le_of_ble_eq_true rfl⟩ dX7_placeOf_82 (fun h_82 e_82 => ?_)
          obtain ⟨d1, d2, d3, d4, d5, b', d6, d7, d8⟩ := e_82
          refine j_aload_n C dX7_placeOf_85 rfl ?_
          refine j_gRe (f := 453) (v := .ref (P 5 14)) C fF_X7_27 rfl d1.1.2.2.2.1.1 (by rw [d1.1.2.2.2.1.2.2.2.2.2.2]; rfl) dX7_placeOf_86 ?_
          refine j_iload_n C dX7_placeOf_89 rfl ?_
          refine j_ialdN C d1.1.2.2.2.2.2.2.2.2.2.1 ⟨d1.1.2.2.2.2.2.2.2.2.2.2, by omega, by decide⟩ dX7_placeOf_90 ?_
          refine ret _ h_82 0 0 _ _ ⟨?_, d1, ((e_51.2.1.tr e_71.2.1).tr (FrC.sI (by decide))).tr d2⟩ (Nat.zero_le _) (Nat.zero_le _) dX7_placeOf_91
          exact plan_eq (mmS_le nf) hnw (by rw [show (mmS nf + 1) ^ nw = (0 + 1) * (mmS nf + 1) ^ 5 by rw [e1, Nat.zero_add, Nat.one_mul]]; exact d8) ht
      · refine j_iconst (v := (-1)) C dX7_placeOf_21 (by decide) ?_
        exact absurd (nI_lt (a := t) (b := 5) (by omega) (by decide)) c_18
set_option maxHeartbeats 4000000 in
set_option maxRecDepth 100000 in
theorem x_plan {l : Launch} {D : va_G} {cy : Nat → ClassId} {h : jH} {S : Nat → Nat → Int32} {P : Nat → Nat → Nat} {T : Nat → Nat → Nat → List Nat} {nf nl nb ns nt nk nw yy : Nat} (c : CP h S P T nf nl nb ns nt nk nw) (I : SI S nf nl nb ns nt nk nw yy) (t : Int32) : jI l D cy yX10_plan (.code yX10_plan cX10_plan 2 ((Option.some FieldType.int))) (rmd 10 0 0) [.ref (P 5 0), .int t] h (fun r h' => r = m_plan S t nf yy nl ns nt nw ∧ CP h' S P T nf nl nb ns nt nk nw ∧ FrC P h h') := by
  have hnw := I.wt.2
  refine j_ofI (by decide) (Nat.le_of_ble_eq_true rfl) (fun p e s m args below meth c0 Q C hin ret => ?_)
  refine j_iload_n C dX10_plan_0 rfl ?_
  refine j_iconst (v := 0) C dX10_plan_1 (by decide) ?_
  refine j_aload_n C dX10_plan_2 rfl ?_
  refine j_gRe (f := 643) (v := .ref (P 5 4)) C fF_X10_35 rfl c.1.1.1 (by rw [c.1.1.2.2.2.2.1]; rfl) dX10_plan_3 ?_
  refine j_gIe (f := 455) (v := (S 8 0)) C fF_X10_260 rfl c.1.2.2.2.1.1 c.2.2.2.2.2.2.1.1 dX10_plan_6 ?_
  refine j_iconst (v := 1) C dX10_plan_9 (by decide) ?_
  refine j_isub C dX10_plan_10 ?_
  refine j_callSi (As := [.int t, .int 0, .int ((S 8 0) - 1)]) (rest := []) C fG_X10_43 (k_within (t) (0) (((S 8 0) - 1))) rfl rfl (Nat.le_of_ble_eq_true rfl) ⟨Nat.le_of_ble_eq_true rfl, Nat.le_of_ble_eq_true rfl⟩ ⟨Nat.le_of_ble_eq_true rfl, Nat.le_of_ble_eq_true rfl⟩ dX10_plan_11 (fun r_11 h_11 e_11 => ?_)
  obtain ⟨e1_11, e2_11⟩ := e_11
  subst e1_11
  replace e2_11 := e2_11.symm
  subst e2_11
  refine j_ifeq_b (tgt := 28) C dX10_plan_14 (by decide) (fun c_14 => ?_) (fun c_14 => ?_)
  · refine j_iconst (v := (-1)) C dX10_plan_28 (by decide) ?_
    exact ret _ _ 0 0 _ _ ⟨by rw [m_plan, if_neg c_14], c, FrC.rf⟩ (Nat.zero_le _) (Nat.zero_le _) dX10_plan_29
  · obtain ⟨u, hu, rfl⟩ := in_ix (n := nw) (by omega) (by rw [← I.wt.1]; exact c_14)
    refine j_aload_n C dX10_plan_17 rfl ?_
    refine j_gRe (f := 643) (v := .ref (P 5 4)) C fF_X10_35 rfl c.1.1.1 (by rw [c.1.1.2.2.2.2.1]; rfl) dX10_plan_18 ?_
    refine j_iload_n C dX10_plan_21 rfl ?_
    refine j_callVi (As := [.int (nI u)]) (rest := []) C fG_X10_263 (k_placeOf (t := u) c I hu) c.1.2.2.2.1.1 rfl rfl (Nat.le_of_ble_eq_true rfl) ⟨Nat.le_of_ble_eq_true rfl, Nat.le_of_ble_eq_true rfl⟩ ⟨Nat.le_of_ble_eq_true rfl, Nat.le_of_ble_eq_true rfl⟩ dX10_plan_22 (fun r_22 h_22 e_22 => ?_)
    refine j_goto (tgt := 29) C dX10_plan_25 (by decide) ?_
    exact ret _ _ 0 0 _ _ ⟨by rw [e_22.1, m_plan, if_pos c_14, nI_clamp (by omega)], e_22.2.1, e_22.2.2⟩ (Nat.zero_le _) (Nat.zero_le _) dX10_plan_29
