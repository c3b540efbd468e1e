def hF_ (h : jH) (a q3 q4 : Nat) (nu x y u v : Int32) : jH := s_I (s_I (s_I (s_I (s_I (s_R (s_N (s_R (s_N h q3 15 41) 197 a (some q3)) q4 17 41) 198 a (some q4)) 192 a nu) 193 a (if u < x then u else x)) 194 a (if x < u then u else x)) 195 a (if v < y then v else y)) 196 a (if y < v then v else y)
set_option maxHeartbeats 4000000 in
set_option maxRecDepth 100000 in
theorem k_Finit {l : Launch} {D : va_G} {cy : Nat → ClassId} {h : jH} {a : Nat} (oa : h_ok h a 3) (nu x y u v : Int32) : jV l D cy yX3_init (.code yX3_init cX3_init 6 ((Option.none : Option FieldType))) (rmd 2 2 82) [.ref a, .int nu, .int x, .int y, .int u, .int v] h (fun h' => ∃ q3 q4, q3 ∉ h_L h ∧ q4 ∉ h_L h ∧ q4 ≠ q3 ∧ h' = hF_ h a q3 q4 nu x y u v) := by
  refine j_ofV (by decide) (Nat.le_of_ble_eq_true rfl) (fun p e s m args below meth c Q C hin ret => ?_)
  refine j_aload_n C dX3_init_0 rfl ?_
  refine j_objInit C kM_X3_3 dX3_init_1 (Nat.le_of_ble_eq_true rfl) (Nat.le_of_ble_eq_true rfl) ?_
  refine j_aload_n C dX3_init_4 rfl ?_
  refine j_bipush (v := 41) C dX3_init_5 (by decide) ?_
  refine j_newR (N := 41) (k := 15) C kL_X3_9 C.2.2.2.2.2.2.2.2.2.1.2.1 (by decide) rfl (by decide) (by decide) (by decide) (Nat.le_of_ble_eq_true rfl) (Nat.le_of_ble_eq_true rfl) dX3_init_7 (fun q_7 hn_7 => ?_)
  refine j_pFR (f := 197) (v := (some q_7)) C hin fP_X3_11 rfl (okN hn_7 oa) rfl rfl rfl dX3_init_10 ?_
  refine j_aload_n C dX3_init_13 rfl ?_
  refine j_bipush (v := 41) C dX3_init_14 (by decide) ?_
  refine j_newR (N := 41) (k := 17) C kL_X3_17 C.2.2.2.2.2.2.2.2.2.1.2.2.2.2 (by decide) rfl (by decide) (by decide) (by decide) (Nat.le_of_ble_eq_true rfl) (Nat.le_of_ble_eq_true rfl) dX3_init_16 (fun q_16 hn_16 => ?_)
  refine j_pFR (f := 198) (v := (some q_16)) C hin fP_X3_19 rfl (okN hn_16 (okR (okN hn_7 oa))) rfl rfl rfl dX3_init_19 ?_
  refine j_aload_n C dX3_init_22 rfl ?_
  refine j_iload_n C dX3_init_23 rfl ?_
  refine j_pFI (f := 192) C hin fP_X3_23 rfl (okR (okN hn_16 (okR (okN hn_7 oa)))) rfl rfl dX3_init_24 ?_
  refine j_aload_n C dX3_init_27 rfl ?_
  refine j_iload_n C dX3_init_28 rfl ?_
  refine j_iload C dX3_init_29 rfl ?_
  refine j_min C kM_X3_27 dX3_init_31 (Nat.le_of_ble_eq_true rfl) (Nat.le_of_ble_eq_true rfl) (Nat.le_of_ble_eq_true rfl) (Nat.le_of_ble_eq_true rfl) ?_
  refine j_pFI (f := 193) C hin fP_X3_33 rfl (okI (okR (okN hn_16 (okR (okN hn_7 oa))))) rfl rfl dX3_init_34 ?_
  refine j_aload_n C dX3_init_37 rfl ?_
  refine j_iload_n C dX3_init_38 rfl ?_
  refine j_iload C dX3_init_39 rfl ?_
  refine j_max C kM_X3_36 dX3_init_41 (Nat.le_of_ble_eq_true rfl) (Nat.le_of_ble_eq_true rfl) (Nat.le_of_ble_eq_true rfl) (Nat.le_of_ble_eq_true rfl) ?_
  refine j_pFI (f := 194) C hin fP_X3_39 rfl (okI (okI (okR (okN hn_16 (okR (okN hn_7 oa)))))) rfl rfl dX3_init_44 ?_
  refine j_aload_n C dX3_init_47 rfl ?_
  refine j_iload_n C dX3_init_48 rfl ?_
  refine j_iload C dX3_init_49 rfl ?_
  refine j_min C kM_X3_27 dX3_init_51 (Nat.le_of_ble_eq_true rfl) (Nat.le_of_ble_eq_true rfl) (Nat.le_of_ble_eq_true rfl) (Nat.le_of_ble_eq_true rfl) ?_
  refine j_pFI (f := 195) C hin fP_X3_42 rfl (okI (okI (okI (okR (okN hn_16 (okR (okN hn_7 oa))))))) rfl rfl dX3_init_54 ?_
  refine j_aload_n C dX3_init_57 rfl ?_
  refine j_iload_n C dX3_init_58 rfl ?_
  refine j_iload C dX3_init_59 rfl ?_
  refine j_max C kM_X3_36 dX3_init_61 (Nat.le_of_ble_eq_true rfl) (Nat.le_of_ble_eq_true rfl) (Nat.le_of_ble_eq_true rfl) (Nat.le_of_ble_eq_true rfl) ?_
  refine j_pFI (f := 196) C hin fP_X3_45 rfl (okI (okI (okI (okI (okR (okN hn_16 (okR (okN hn_7 oa)))))))) rfl rfl dX3_init_64 ?_
  exact ret _ _ _ _ _ ⟨q_7, q_16, hn_7, fun z => hn_16 (by rw [g_LR, g_LN]; exact List.mem_append_left _ z), fun e => hn_16 (by rw [e]; exact (okR (f := 197) (b := a) (v := some q_7) (ok_sN (h := h) (q := q_7) (c := 15) (N := 41))).1), rfl⟩ (Nat.le_of_ble_eq_true rfl) (Nat.le_of_ble_eq_true rfl) dX3_init_67
theorem okF {h : jH} {a b q3 q4 k : Nat} {nu x y u v : Int32} (n3 : q3 ∉ h_L h) (n4 : q4 ∉ h_L h) (n : q4 ≠ q3) (o : h_ok h b k) : h_ok (hF_ h a q3 q4 nu x y u v) b k := by
  unfold hF_
  refine okI (okI (okI (okI (okI (okR (okN ?_ (okR (okN n3 o))))))))
  rw [g_LR, g_LN]
  exact fun z => (List.mem_append.mp z).elim n4 (fun w => n (List.mem_singleton.mp w))
theorem hF_q {h : jH} {a q3 q4 : Nat} {nu x y u v : Int32} (n3 : q3 ∉ h_L h) (n4 : q4 ∉ h_L h) (n : q4 ≠ q3) (oa : h_ok h a 3) : (h_I (hF_ h a q3 q4 nu x y u v) 192 a = nu ∧ h_I (hF_ h a q3 q4 nu x y u v) 193 a = (if u < x then u else x) ∧ h_I (hF_ h a q3 q4 nu x y u v) 194 a = (if x < u then u else x) ∧ h_I (hF_ h a q3 q4 nu x y u v) 195 a = (if v < y then v else y) ∧ h_I (hF_ h a q3 q4 nu x y u v) 196 a = (if y < v then v else y)) ∧ (h_R (hF_ h a q3 q4 nu x y u v) 197 a = some q3 ∧ h_ok (hF_ h a q3 q4 nu x y u v) q3 15 ∧ h_N (hF_ h a q3 q4 nu x y u v) q3 = 41) ∧ (h_R (hF_ h a q3 q4 nu x y u v) 198 a = some q4 ∧ h_ok (hF_ h a q3 q4 nu x y u v) q4 17 ∧ h_N (hF_ h a q3 q4 nu x y u v) q4 = 41) ∧ (∀ i, h_B (hF_ h a q3 q4 nu x y u v) q3 i = none) ∧ ∀ i, h_B (hF_ h a q3 q4 nu x y u v) q4 i = none := by
  have n43 : q3 ≠ q4 := fun e => n e.symm
  have hq4 : q4 ∉ h_L (s_R (s_N h q3 15 41) 197 a (some q3)) := by
    rw [g_LR, g_LN]
    exact fun z => (List.mem_append.mp z).elim n4 (fun w => n (List.mem_singleton.mp w))
  unfold hF_
  refine ⟨⟨?_, ?_, ?_, ?_, ?_⟩, ⟨?_, okI (okI (okI (okI (okI (okR (okN hq4 (okR ok_sN))))))), ?_⟩, ⟨?_, okI (okI (okI (okI (okI (okR ok_sN))))), ?_⟩, fun i => ?_, fun i => ?_⟩
  · rw [g_II, if_neg (by decide), g_II, if_neg (by decide), g_II, if_neg (by decide), g_II, if_neg (by decide), g_II, if_pos rfl, if_pos rfl]
  · rw [g_II, if_neg (by decide), g_II, if_neg (by decide), g_II, if_neg (by decide), g_II, if_pos rfl, if_pos rfl]
  · rw [g_II, if_neg (by decide), g_II, if_neg (by decide), g_II, if_pos rfl, if_pos rfl]
  · rw [g_II, if_neg (by decide), g_II, if_pos rfl, if_pos rfl]
  · rw [g_II, if_pos rfl, if_pos rfl]
  · rw [g_RI, g_RI, g_RI, g_RI, g_RI, g_RR, if_neg (by decide), g_RN, g_RR, if_pos rfl, if_pos rfl]
  · rw [g_NI, g_NI, g_NI, g_NI, g_NI, g_NR, g_NN, if_neg n43, g_NR, g_NN, if_pos rfl]
  · rw [g_RI, g_RI, g_RI, g_RI, g_RI, g_RR, if_pos rfl, if_pos rfl]
  · rw [g_NI, g_NI, g_NI, g_NI, g_NI, g_NR, g_NN, if_pos rfl]
  · rw [g_BI, g_BI, g_BI, g_BI, g_BI, g_BR, g_BN, if_neg n43, g_BR, g_BN, if_pos rfl]
  · rw [g_BI, g_BI, g_BI, g_BI, g_BI, g_BR, g_BN, if_pos rfl]
theorem hF_n {h : jH} {a b q3 q4 f : Nat} {nu x y u v : Int32} (nb : b ≠ a) : h_I (hF_ h a q3 q4 nu x y u v) f b = h_I h f b ∧ h_R (hF_ h a q3 q4 nu x y u v) f b = h_R h f b := by
  unfold hF_
  exact ⟨by rw [gI_n nb, gI_n nb, gI_n nb, gI_n nb, gI_n nb, g_IR, g_IN, g_IR, g_IN], by rw [g_RI, g_RI, g_RI, g_RI, g_RI, gR_n nb, g_RN, gR_n nb, g_RN]⟩
theorem hF_N {h : jH} {a b q3 q4 : Nat} {nu x y u v : Int32} (n1 : b ≠ q3) (n2 : b ≠ q4) : h_N (hF_ h a q3 q4 nu x y u v) b = h_N h b := by
  unfold hF_
  rw [g_NI, g_NI, g_NI, g_NI, g_NI, g_NR, g_NN, if_neg n2, g_NR, g_NN, if_neg n1]
theorem exF {h0 h : jH} {a q3 q4 : Nat} {nu x y u v : Int32} (e : Ex h0 h) (na : a ∉ h_L h0) (n3 : q3 ∉ h_L h) (n4 : q4 ∉ h_L h) (n : q4 ≠ q3) : Ex h0 (hF_ h a q3 q4 nu x y u v) := by
  have hq4 : q4 ∉ h_L (s_R (s_N h q3 15 41) 197 a (some q3)) := by
    rw [g_LR, g_LN]
    exact fun z => (List.mem_append.mp z).elim n4 (fun w => n (List.mem_singleton.mp w))
  unfold hF_
  exact ((((((((e.tr (Ex.sN n3)).sR na).tr (Ex.sN hq4)).sR na).sI na).sI na).sI na).sI na).sI na
theorem frF {P : Nat → Nat → Nat} {h : jH} {a q3 q4 : Nat} {nu x y u v : Int32} (n3 : q3 ∉ h_L h) (n4 : q4 ∉ h_L h) (n : q4 ≠ q3) : FrC P h (hF_ h a q3 q4 nu x y u v) := by
  have hq4 : q4 ∉ h_L (s_R (s_N h q3 15 41) 197 a (some q3)) := by
    rw [g_LR, g_LN]
    exact fun z => (List.mem_append.mp z).elim n4 (fun w => n (List.mem_singleton.mp w))
  unfold hF_
  exact ((((((((FrC.sN n3).tr (FrC.sR (by decide))).tr (FrC.sN hq4)).tr (FrC.sR (by decide))).tr (FrC.sI (by decide))).tr (FrC.sI (by decide))).tr (FrC.sI (by decide))).tr (FrC.sI (by decide))).tr (FrC.sI (by decide))
set_option maxHeartbeats 4000000 in
set_option maxRecDepth 100000 in
theorem x_field {l : Launch} {D : va_G} {cy : Nat → ClassId} {h : jH} {S : Nat → Nat → Int32} {P : Nat → Nat → Nat} {T : Nat → Nat → Nat → List Nat} {nf nl nb ns nt nk nw yy : Nat} (c : CP h S P T nf nl nb ns nt nk nw) (I : SI S nf nl nb ns nt nk nw yy) (x y u v : Int32) : jI l D cy yX10_field (.code yX10_field cX10_field 6 ((Option.some FieldType.int))) (rmd 3 3 89) [.ref (P 5 0), .int x, .int y, .int u, .int v] h (fun r h' => ∃ S' P' T' nf', (r, S') = m_field S x y u v nf ∧ CP h' S' P' T' nf' nl nb ns nt nk nw ∧ (S' 1 0 = nI nf' ∧ nf' ≤ 40) ∧ FrC P h h' ∧ ∀ i, P' 5 i = P 5 i) := by
  have hnf := I.fl.2
  refine j_ofI (by decide) (Nat.le_of_ble_eq_true rfl) (fun p e s m args below meth c0 Q C hin ret => ?_)
  refine j_iload_n C dX10_field_0 rfl ?_
  refine j_iconst (v := 0) C dX10_field_1 (by decide) ?_
  refine j_sipush (v := 1000) C dX10_field_2 (by decide) ?_
  refine j_callSi (As := [.int x, .int 0, .int 1000]) (rest := []) C fG_X10_43 (k_within (x) (0) (1000)) rfl rfl (Nat.le_of_ble_eq_true rfl) ⟨Nat.le_of_ble_eq_true rfl, Nat.le_of_ble_eq_true rfl⟩ ⟨Nat.le_of_ble_eq_true rfl, Nat.le_of_ble_eq_true rfl⟩ dX10_field_5 (fun r_5 h_5 e_5 => ?_)
  obtain ⟨e1_5, e2_5⟩ := e_5
  subst e1_5
  replace e2_5 := e2_5.symm
  subst e2_5
  refine j_ifeq_b (tgt := 49) C dX10_field_8 (by decide) (fun c_8 => ?_) (fun c_8 => ?_)
  · refine j_iconst (v := 0) C dX10_field_49 (by decide) ?_
    refine j_istore (lv' := [(0, .ref (P 5 0)), (1, .int x), (2, .int y), (3, .int u), (4, .int v), (5, .int 0)]) C dX10_field_50 (by decide) rfl ?_
    refine j_iload C dX10_field_52 rfl ?_
    refine j_if_eq (tgt := 80) C dX10_field_54 (by decide) (fun c_54 => ?_) (fun c_54 => ?_)
    · refine j_iconst (v := (-1)) C dX10_field_80 (by decide) ?_
      exact ret _ _ 0 0 _ _ ⟨S, P, T, nf, by rw [m_field, if_neg (fun z => c_8 z.2.1)], c, I.fl, FrC.rf, fun _ => rfl⟩ (Nat.zero_le _) (Nat.zero_le _) dX10_field_81
    · exact (show False by revert c_54; decide).elim
  · refine j_iload_n C dX10_field_11 rfl ?_
    refine j_iconst (v := 0) C dX10_field_12 (by decide) ?_
    refine j_sipush (v := 1000) C dX10_field_13 (by decide) ?_
    refine j_callSi (As := [.int y, .int 0, .int 1000]) (rest := []) C fG_X10_43 (k_within (y) (0) (1000)) rfl rfl (Nat.le_of_ble_eq_true rfl) ⟨Nat.le_of_ble_eq_true rfl, Nat.le_of_ble_eq_true rfl⟩ ⟨Nat.le_of_ble_eq_true rfl, Nat.le_of_ble_eq_true rfl⟩ dX10_field_16 (fun r_16 h_16 e_16 => ?_)
    obtain ⟨e1_16, e2_16⟩ := e_16
    subst e1_16
    replace e2_16 := e2_16.symm
    subst e2_16
    refine j_ifeq_b (tgt := 49) C dX10_field_19 (by decide) (fun c_19 => ?_) (fun c_19 => ?_)
    · refine j_iconst (v := 0) C dX10_field_49 (by decide) ?_
      refine j_istore (lv' := [(0, .ref (P 5 0)), (1, .int x), (2, .int y), (3, .int u), (4, .int v), (5, .int 0)]) C dX10_field_50 (by decide) rfl ?_
      refine j_iload C dX10_field_52 rfl ?_
      refine j_if_eq (tgt := 80) C dX10_field_54 (by decide) (fun c_54 => ?_) (fun c_54 => ?_)
      · refine j_iconst (v := (-1)) C dX10_field_80 (by decide) ?_
        exact ret _ _ 0 0 _ _ ⟨S, P, T, nf, by rw [m_field, if_neg (fun z => c_19 z.2.2.1)], c, I.fl, FrC.rf, fun _ => rfl⟩ (Nat.zero_le _) (Nat.zero_le _) dX10_field_81
      · exact (show False by revert c_54; decide).elim
    · refine j_iload_n C dX10_field_22 rfl ?_
      refine j_iconst (v := 0) C dX10_field_23 (by decide) ?_
      refine j_sipush (v := 1000) C dX10_field_24 (by decide) ?_
      refine j_callSi (As := [.int u, .int 0, .int 1000]) (rest := []) C fG_X10_43 (k_within (u) (0) (1000)) rfl rfl (Nat.le_of_ble_eq_true rfl) ⟨Nat.le_of_ble_eq_true rfl, Nat.le_of_ble_eq_true rfl⟩ ⟨Nat.le_of_ble_eq_true rfl, Nat.le_of_ble_eq_true rfl⟩ dX10_field_27 (fun r_27 h_27 e_27 => ?_)
      obtain ⟨e1_27, e2_27⟩ := e_27
      subst e1_27
      replace e2_27 := e2_27.symm
      subst e2_27
      refine j_ifeq_b (tgt := 49) C dX10_field_30 (by decide) (fun c_30 => ?_) (fun c_30 => ?_)
      · refine j_iconst (v := 0) C dX10_field_49 (by decide) ?_
        refine j_istore (lv' := [(0, .ref (P 5 0)), (1, .int x), (2, .int y), (3, .int u), (4, .int v), (5, .int 0)]) C dX10_field_50 (by decide) rfl ?_
        refine j_iload C dX10_field_52 rfl ?_
        refine j_if_eq (tgt := 80) C dX10_field_54 (by decide) (fun c_54 => ?_) (fun c_54 => ?_)
        · refine j_iconst (v := (-1)) C dX10_field_80 (by decide) ?_
          exact ret _ _ 0 0 _ _ ⟨S, P, T, nf, by rw [m_field, if_neg (fun z => c_30 z.2.2.2.1)], c, I.fl, FrC.rf, fun _ => rfl⟩ (Nat.zero_le _) (Nat.zero_le _) dX10_field_81
        · exact (show False by revert c_54; decide).elim
      · refine j_iload C dX10_field_33 rfl ?_
        refine j_iconst (v := 0) C dX10_field_35 (by decide) ?_
        refine j_sipush (v := 1000) C dX10_field_36 (by decide) ?_
        refine j_callSi (As := [.int v, .int 0, .int 1000]) (rest := []) C fG_X10_43 (k_within (v) (0) (1000)) rfl rfl (Nat.le_of_ble_eq_true rfl) ⟨Nat.le_of_ble_eq_true rfl, Nat.le_of_ble_eq_true rfl⟩ ⟨Nat.le_of_ble_eq_true rfl, Nat.le_of_ble_eq_true rfl⟩ dX10_field_39 (fun r_39 h_39 e_39 => ?_)
        obtain ⟨e1_39, e2_39⟩ := e_39
        subst e1_39
        replace e2_39 := e2_39.symm
        subst e2_39
        refine j_ifeq_b (tgt := 49) C dX10_field_42 (by decide) (fun c_42 => ?_) (fun c_42 => ?_)
        · refine j_iconst (v := 0) C dX10_field_49 (by decide) ?_
          refine j_istore (lv' := [(0, .ref (P 5 0)), (1, .int x), (2, .int y), (3, .int u), (4, .int v), (5, .int 0)]) C dX10_field_50 (by decide) rfl ?_
          refine j_iload C dX10_field_52 rfl ?_
          refine j_if_eq (tgt := 80) C dX10_field_54 (by decide) (fun c_54 => ?_) (fun c_54 => ?_)
          · refine j_iconst (v := (-1)) C dX10_field_80 (by decide) ?_
            exact ret _ _ 0 0 _ _ ⟨S, P, T, nf, by rw [m_field, if_neg (fun z => c_42 z.2.2.2.2.1)], c, I.fl, FrC.rf, fun _ => rfl⟩ (Nat.zero_le _) (Nat.zero_le _) dX10_field_81
          · exact (show False by revert c_54; decide).elim
        · refine j_iconst (v := 1) C dX10_field_45 (by decide) ?_
          refine j_goto (tgt := 50) C dX10_field_46 (by decide) ?_
          refine j_istore (lv' := [(0, .ref (P 5 0)), (1, .int x), (2, .int y), (3, .int u), (4, .int v), (5, .int 1)]) C dX10_field_50 (by decide) rfl ?_
          refine j_iload C dX10_field_52 rfl ?_
          refine j_if_eq (tgt := 80) C dX10_field_54 (by decide) (fun c_54 => ?_) (fun c_54 => ?_)
          · exact (show False by revert c_54; decide).elim
          refine j_iload_n C dX10_field_57 rfl ?_
          refine j_iload_n C dX10_field_58 rfl ?_
          refine j_icmp_eq (tgt := 80) C dX10_field_59 (by decide) (fun c_59 => ?_) (fun c_59 => ?_)
          · refine j_iconst (v := (-1)) C dX10_field_80 (by decide) ?_
            exact ret _ _ 0 0 _ _ ⟨S, P, T, nf, by rw [m_field, if_neg (fun z => z.2.2.2.2.2.1 c_59)], c, I.fl, FrC.rf, fun _ => rfl⟩ (Nat.zero_le _) (Nat.zero_le _) dX10_field_81
          · refine j_iload_n C dX10_field_62 rfl ?_
            refine j_iload C dX10_field_63 rfl ?_
            refine j_icmp_eq (tgt := 80) C dX10_field_65 (by decide) (fun c_65 => ?_) (fun c_65 => ?_)
            · refine j_iconst (v := (-1)) C dX10_field_80 (by decide) ?_
              exact ret _ _ 0 0 _ _ ⟨S, P, T, nf, by rw [m_field, if_neg (fun z => z.2.2.2.2.2.2 c_65)], c, I.fl, FrC.rf, fun _ => rfl⟩ (Nat.zero_le _) (Nat.zero_le _) dX10_field_81
            · refine j_aload_n C dX10_field_68 rfl ?_
              refine j_gRe (f := 640) (v := .ref (P 5 1)) C fF_X10_10 rfl c.1.1.1 (by rw [c.1.1.2.1]; rfl) dX10_field_69 ?_
              refine j_gIe (f := 130) (v := (nI nf)) C fF_X10_47 rfl c.2.1.1 (c.2.1.2.1.2.1.trans I.fl.1) dX10_field_72 ?_
              refine j_bipush (v := 40) C dX10_field_75 (by decide) ?_
              refine j_icmp_lt (tgt := 82) C dX10_field_77 (by decide) (fun c_77 => ?_) (fun c_77 => ?_)
              · have hlt : nf < 40 := nI_lt_of (n := 40) (Int32.not_le.mpr c_77) (by omega)
                refine j_aload_n C dX10_field_82 rfl ?_
                refine j_gRe (f := 640) (v := .ref (P 5 1)) C fF_X10_10 rfl c.1.1.1 (by rw [c.1.1.2.1]; rfl) dX10_field_83 ?_
                refine j_new C fO_X10_51 (Nat.le_of_ble_eq_true rfl) (Nat.le_of_ble_eq_true rfl) dX10_field_86 (fun q_86 hn_86 => ?_)
                refine j_dup C dX10_field_89 rfl ?_
                refine j_aload_n C dX10_field_90 rfl ?_
                refine j_gRe (f := 640) (v := .ref (P 5 1)) C fF_X10_10 rfl (okO hn_86 c.1.1.1) (by rw [gR_O (nq hn_86 c.1.1.1), c.1.1.2.1]; rfl) dX10_field_91 ?_
                refine j_gIe (f := 130) (v := (nI nf)) C fF_X10_47 rfl (okO hn_86 c.2.1.1) (by rw [gI_O (nq hn_86 c.2.1.1), c.2.1.2.1.2.1]; exact I.fl.1) dX10_field_94 ?_
                refine j_iload_n C dX10_field_97 rfl ?_
                refine j_iload_n C dX10_field_98 rfl ?_
                refine j_iload_n C dX10_field_99 rfl ?_
                refine j_iload C dX10_field_100 rfl ?_
                refine j_callIv (ret := none) (As := [.int (nI nf), .int x, .int y, .int u, .int v]) (rest := [.ref q_86, .ref (P 5 1)]) C fG_X10_53 (k_Finit (a := q_86) ok_sO (nI nf) x y u v) rfl rfl (Nat.le_of_ble_eq_true rfl) ⟨Nat.le_of_ble_eq_true rfl, Nat.le_of_ble_eq_true rfl⟩ ⟨Nat.le_of_ble_eq_true rfl, Nat.le_of_ble_eq_true rfl⟩ dX10_field_102 (fun h_102 e_102 => ?_)
                obtain ⟨q3, q4, n3, n4, n34, e_102⟩ := e_102
                subst e_102
                refine j_callVi (As := [.ref q_86]) (rest := []) C fG_X10_56 (k_addField (a := (P 5 1)) (b := (P 5 6)) (x := q_86) (n := nf) (okF n3 n4 n34 (okO hn_86 c.2.1.1)) (by rw [(hF_n (nq hn_86 c.2.1.1)).2, gR_O (nq hn_86 c.2.1.1)]; exact c.2.1.2.2.1.1) (okF n3 n4 n34 (okO hn_86 c.2.1.2.2.1.2.1)) (by rw [hF_N (nq n3 (okO hn_86 c.2.1.2.2.1.2.1)) (nq n4 (okO hn_86 c.2.1.2.2.1.2.1)), g_NO]; exact c.2.1.2.2.1.2.2) (by rw [(hF_n (nq hn_86 c.2.1.1)).1, gI_O (nq hn_86 c.2.1.1), c.2.1.2.1.2.1]; exact I.fl.1) hlt (okF n3 n4 n34 ok_sO)) (okF n3 n4 n34 (okO hn_86 c.2.1.1)) rfl rfl (Nat.le_of_ble_eq_true rfl) ⟨Nat.le_of_ble_eq_true rfl, Nat.le_of_ble_eq_true rfl⟩ ⟨Nat.le_of_ble_eq_true rfl, Nat.le_of_ble_eq_true rfl⟩ dX10_field_105 (fun r_105 h_105 e_105 => ?_)
                obtain ⟨e1_105, e2_105⟩ := e_105
                subst e1_105
                subst e2_105
                have hFq := hF_q (nu := nI nf) (x := x) (y := y) (u := u) (v := v) n3 n4 n34 (ok_sO (h := h) (q := q_86) (c := 3))
                refine ret _ _ _ _ _ _ ⟨mS_field S x y u v nf, u2 (u2 (u2 P 0 nf q_86) 3 nf q3) 4 nf q4, upU T 0 nf [], nf + 1, ?_, ?_, ⟨nI_1 _, by omega⟩, ?_, fun _ => rfl⟩ (Nat.le_of_ble_eq_true rfl) (Nat.le_of_ble_eq_true rfl) dX10_field_108
                · rw [m_field, if_pos ⟨fun z => by have h5 := (nI_eq (b := 40) (by omega) (by decide)).mp z; omega, c_8, c_19, c_30, c_42, c_59, c_65⟩]
                · have cE : CP (hF_ (s_O h q_86 3) q_86 q3 q4 (nI nf) x y u v) S P T nf nl nb ns nt nk nw := c.ex (exF (Ex.sO hn_86) hn_86 n3 n4 n34)
                  have cA : CP (hF_ (s_O h q_86 3) q_86 q3 q4 (nI nf) x y u v) (u2 (u2 (u2 (u2 S 9 nf (if u < x then u else x)) 11 nf (if x < u then u else x)) 10 nf (if v < y then v else y)) 12 nf (if y < v then v else y)) P T nf nl nb ns nt nk nw := cE.agS ((((AgS.rf.u (r := 9) (i := nf) (v := (if u < x then u else x)) ⟨by decide, by omega, by omega, by omega, by omega, by omega, by omega, by omega⟩).u (r := 11) (i := nf) (v := (if x < u then u else x)) ⟨by decide, by omega, by omega, by omega, by omega, by omega, by omega, by omega⟩).u (r := 10) (i := nf) (v := (if v < y then v else y)) ⟨by decide, by omega, by omega, by omega, by omega, by omega, by omega, by omega⟩).u (r := 12) (i := nf) (v := (if y < v then v else y)) ⟨by decide, by omega, by omega, by omega, by omega, by omega, by omega, by omega⟩)
                  have e9 : (u2 (u2 (u2 (u2 S 9 nf (if u < x then u else x)) 11 nf (if x < u then u else x)) 10 nf (if v < y then v else y)) 12 nf (if y < v then v else y)) 9 nf = (if u < x then u else x) := by rw [u2_ne1 _ _ (by decide), u2_ne1 _ _ (by decide), u2_ne1 _ _ (by decide), u2_same]
                  have e10 : (u2 (u2 (u2 (u2 S 9 nf (if u < x then u else x)) 11 nf (if x < u then u else x)) 10 nf (if v < y then v else y)) 12 nf (if y < v then v else y)) 10 nf = (if v < y then v else y) := by rw [u2_ne1 _ _ (by decide), u2_same]
                  have e11 : (u2 (u2 (u2 (u2 S 9 nf (if u < x then u else x)) 11 nf (if x < u then u else x)) 10 nf (if v < y then v else y)) 12 nf (if y < v then v else y)) 11 nf = (if x < u then u else x) := by rw [u2_ne1 _ _ (by decide), u2_ne1 _ _ (by decide), u2_same]
                  have e12 : (u2 (u2 (u2 (u2 S 9 nf (if u < x then u else x)) 11 nf (if x < u then u else x)) 10 nf (if v < y then v else y)) 12 nf (if y < v then v else y)) 12 nf = (if y < v then v else y) := by rw [u2_same]
                  have cB : CP (s_B (hF_ (s_O h q_86 3) q_86 q3 q4 (nI nf) x y u v) (P 5 6) nf (some q_86)) (u2 (u2 (u2 (u2 S 9 nf (if u < x then u else x)) 11 nf (if x < u then u else x)) 10 nf (if v < y then v else y)) 12 nf (if y < v then v else y)) (u2 (u2 (u2 P 0 nf q_86) 3 nf q3) 4 nf q4) (upU T 0 nf []) (nf + 1) nl nb ns nt nk nw := cA.pushF (q := q_86) (q3 := q3) (q4 := q4) hlt I.lt.2 (okF n3 n4 n34 ok_sO) (fun i hi => ⟨nq hn_86 (c.2.2.1 i hi).1.2, nq n3 (okO hn_86 (c.2.2.1 i hi).2.2.1.2.1), nq n4 (okO hn_86 (c.2.2.1 i hi).2.2.2.1.2.1)⟩) ⟨fun e => nq n3 (okO hn_86 c.2.1.2.2.2.1.2.1) e.symm, fun e => nq n3 (okO hn_86 c.1.2.2.2.2.2.1.1) e.symm⟩ I.mF I.sf ⟨hFq.1.1, hFq.1.2.1.trans e9.symm, hFq.1.2.2.1.trans e11.symm, hFq.1.2.2.2.1.trans e10.symm, hFq.1.2.2.2.2.trans e12.symm⟩ hFq.2.1 hFq.2.2.1 hFq.2.2.2.1 hFq.2.2.2.2
                  have e5 : (u2 (u2 (u2 P 0 nf q_86) 3 nf q3) 4 nf q4) 5 1 = P 5 1 := rfl
                  have cC := cB.book130 (v := nI nf + 1)
                  rw [e5] at cC
                  exact cC
                · exact (FrC.sO hn_86).tr ((frF n3 n4 n34).tr (FrC.sB.tr (FrC.sI (by decide))))
              · refine j_iconst (v := (-1)) C dX10_field_80 (by decide) ?_
                exact ret _ _ 0 0 _ _ ⟨S, P, T, nf, by rw [m_field, if_neg (fun z => c_77 (nI_lt (b := 40) (ne_lt rfl z.1 I.fl.2) (by decide)))], c, I.fl, FrC.rf, fun _ => rfl⟩ (Nat.zero_le _) (Nat.zero_le _) dX10_field_81
