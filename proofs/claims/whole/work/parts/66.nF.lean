set_option maxHeartbeats 4000000 in
set_option maxRecDepth 100000 in
theorem x_mix {l : Launch} {D : va_G} {cy : Nat → ClassId} {h : jH} {S : Nat → Nat → Int32} {P : Nat → Nat → Nat} {T : Nat → Nat → Nat → List Nat} {nf nl nb ns nt nk nw yy : Nat} (c : CP h S P T nf nl nb ns nt nk nw) (I : SI S nf nl nb ns nt nk nw yy) (one g oth more : Int32) : jI l D cy yX10_mix (.code yX10_mix cX10_mix 8 ((Option.some FieldType.int))) (rmd 3 1 20) [.ref (P 5 0), .int one, .int g, .int oth, .int more] h (fun r h' => ∃ S' P' T' nl', (r, S') = m_mix S one g oth more nl ∧ CP h' S' P' T' nf nl' nb ns nt nk nw ∧ (S' 2 0 = nI nl' ∧ nl' ≤ 200) ∧ FrC P h h' ∧ ∀ i, P' 5 i = P 5 i) := by
  have hl := I.lt.1
  have hnl := I.lt.2
  refine j_ofI (by decide) (Nat.le_of_ble_eq_true rfl) (fun p e s m args below meth c0 Q C hin ret => ?_)
  refine j_aload_n C dX10_mix_0 rfl ?_
  refine j_gRe (f := 640) (v := .ref (P 5 1)) C fF_X10_10 rfl c.1.1.1 (by rw [c.1.1.2.1]; rfl) dX10_mix_1 ?_
  refine j_iload_n C dX10_mix_4 rfl ?_
  refine j_callVq (As := [.int one]) (rest := []) C fG_X10_107 (s_lotAt c hl hnl (one)) c.2.1.1 rfl rfl (Nat.le_of_ble_eq_true rfl) ⟨Nat.le_of_ble_eq_true rfl, Nat.le_of_ble_eq_true rfl⟩ ⟨Nat.le_of_ble_eq_true rfl, Nat.le_of_ble_eq_true rfl⟩ dX10_mix_5 (fun r_5 h_5 e_5 => ?_)
  obtain ⟨e1_5, e2_5⟩ := e_5
  subst e1_5
  replace e2_5 := e2_5.symm
  subst e2_5
  refine j_astoreQ (lv' := [(0, .ref (P 5 0)), (1, .int one), (2, .int g), (3, .int oth), (4, .int more), (5, va_rf (lotO S P one))]) C dX10_mix_8 (by decide) rfl ?_
  refine j_aload_n C dX10_mix_10 rfl ?_
  refine j_gRe (f := 640) (v := .ref (P 5 1)) C fF_X10_10 rfl c.1.1.1 (by rw [c.1.1.2.1]; rfl) dX10_mix_11 ?_
  refine j_iload_n C dX10_mix_14 rfl ?_
  refine j_callVq (As := [.int oth]) (rest := []) C fG_X10_107 (s_lotAt c hl hnl (oth)) c.2.1.1 rfl rfl (Nat.le_of_ble_eq_true rfl) ⟨Nat.le_of_ble_eq_true rfl, Nat.le_of_ble_eq_true rfl⟩ ⟨Nat.le_of_ble_eq_true rfl, Nat.le_of_ble_eq_true rfl⟩ dX10_mix_15 (fun r_15 h_15 e_15 => ?_)
  obtain ⟨e1_15, e2_15⟩ := e_15
  subst e1_15
  replace e2_15 := e2_15.symm
  subst e2_15
  refine j_astoreQ (lv' := [(0, .ref (P 5 0)), (1, .int one), (2, .int g), (3, .int oth), (4, .int more), (5, va_rf (lotO S P one)), (6, va_rf (lotO S P oth))]) C dX10_mix_18 (by decide) (by simp [js, va_cat]) ?_
  refine j_aloadQ C dX10_mix_20 rfl ?_
  cases hq_22 : (lotO S P one) with
  | none =>
    refine j_ifnullN (tgt := 82) C dX10_mix_22 (by decide) ?_
    refine j_iconst (v := (-1)) C dX10_mix_82 (by decide) ?_
    exact ret _ _ 0 0 _ _ ⟨S, P, T, nl, by rw [m_mix, if_neg (fun z => lotO_n hq_22 z.1)], c, I.lt, FrC.rf, fun _ => rfl⟩ (Nat.zero_le _) (Nat.zero_le _) dX10_mix_83
  | some x_22 =>
    refine j_ifnull C dX10_mix_22 ?_
    refine j_aloadQ C dX10_mix_25 rfl ?_
    cases hq_27 : (lotO S P oth) with
    | none =>
      refine j_ifnullN (tgt := 82) C dX10_mix_27 (by decide) ?_
      refine j_iconst (v := (-1)) C dX10_mix_82 (by decide) ?_
      exact ret _ _ 0 0 _ _ ⟨S, P, T, nl, by rw [m_mix, if_neg (fun z => lotO_n hq_27 z.2.1)], c, I.lt, FrC.rf, fun _ => rfl⟩ (Nat.zero_le _) (Nat.zero_le _) dX10_mix_83
    | some x_27 =>
      refine j_ifnull C dX10_mix_27 ?_
      obtain ⟨i, hi, hx1, ha1, hL1⟩ := lotO_s hl hnl hq_22
      obtain ⟨j, hj, hx2, ha2, hL2⟩ := lotO_s hl hnl hq_27
      subst hx1
      subst hx2
      subst ha1
      subst ha2
      refine j_aload C dX10_mix_30 rfl ?_
      refine j_aload C dX10_mix_32 rfl ?_
      refine j_acmp_eq (rx := (some (P 1 i))) (ry := (some (P 1 j))) (tgt := 82) C dX10_mix_34 (by decide) (fun c_34 => ?_) (fun c_34 => ?_)
      · refine j_iconst (v := (-1)) C dX10_mix_82 (by decide) ?_
        exact ret _ _ 0 0 _ _ ⟨S, P, T, nl, by rw [m_mix, if_neg (fun z => z.2.2.1 (by rw [c.2.2.2.2.2.2.2.2.1 i j hi hj (Option.some.inj c_34)]))], c, I.lt, FrC.rf, fun _ => rfl⟩ (Nat.zero_le _) (Nat.zero_le _) dX10_mix_83
      · refine j_aload C dX10_mix_37 rfl ?_
        refine j_gIe (f := 386) (v := (S 22 i)) C fF_X10_124 rfl (c.2.2.2.1 i hi).1.2 (c.2.2.2.1 i hi).2.1.2.2.1 dX10_mix_39 ?_
        refine j_aload C dX10_mix_42 rfl ?_
        refine j_gIe (f := 386) (v := (S 22 j)) C fF_X10_124 rfl (c.2.2.2.1 j hj).1.2 (c.2.2.2.1 j hj).2.1.2.2.1 dX10_mix_44 ?_
        refine j_icmp_ne (tgt := 82) C dX10_mix_47 (by decide) (fun c_47 => ?_) (fun c_47 => ?_)
        · refine j_iconst (v := (-1)) C dX10_mix_82 (by decide) ?_
          exact ret _ _ 0 0 _ _ ⟨S, P, T, nl, by rw [m_mix, if_neg (fun z => c_47 (by have u := z.2.2.2.2.2.2.1; rw [nI_clamp (by omega), nI_clamp (by omega)] at u; exact u))], c, I.lt, FrC.rf, fun _ => rfl⟩ (Nat.zero_le _) (Nat.zero_le _) dX10_mix_83
        · refine j_aload C dX10_mix_50 rfl ?_
          refine j_iload_n C dX10_mix_52 rfl ?_
          refine j_callVi (As := [.int g]) (rest := []) C fG_X10_111 (k_has (a := (P 1 i)) (c.2.2.2.1 i hi).1.2 (g)) (c.2.2.2.1 i hi).1.2 rfl rfl (Nat.le_of_ble_eq_true rfl) ⟨Nat.le_of_ble_eq_true rfl, Nat.le_of_ble_eq_true rfl⟩ ⟨Nat.le_of_ble_eq_true rfl, Nat.le_of_ble_eq_true rfl⟩ dX10_mix_53 (fun r_53 h_53 e_53 => ?_)
          obtain ⟨e1_53, e2_53⟩ := e_53
          subst e1_53
          replace e2_53 := e2_53.symm
          subst e2_53
          refine j_ifeq_b (tgt := 82) C dX10_mix_56 (by decide) (fun c_56 => ?_) (fun c_56 => ?_)
          · refine j_iconst (v := (-1)) C dX10_mix_82 (by decide) ?_
            exact ret _ _ 0 0 _ _ ⟨S, P, T, nl, by rw [m_mix, if_neg (fun z => c_56 ⟨z.2.2.2.1, by rw [(c.2.2.2.1 i hi).2.2.2.1.1]; have u := z.2.2.2.2.2.2.2.1; rw [nI_clamp (by omega)] at u; exact u⟩)], c, I.lt, FrC.rf, fun _ => rfl⟩ (Nat.zero_le _) (Nat.zero_le _) dX10_mix_83
          · refine j_aload C dX10_mix_59 rfl ?_
            refine j_iload C dX10_mix_61 rfl ?_
            refine j_callVi (As := [.int more]) (rest := []) C fG_X10_111 (k_has (a := (P 1 j)) (c.2.2.2.1 j hj).1.2 (more)) (c.2.2.2.1 j hj).1.2 rfl rfl (Nat.le_of_ble_eq_true rfl) ⟨Nat.le_of_ble_eq_true rfl, Nat.le_of_ble_eq_true rfl⟩ ⟨Nat.le_of_ble_eq_true rfl, Nat.le_of_ble_eq_true rfl⟩ dX10_mix_63 (fun r_63 h_63 e_63 => ?_)
            obtain ⟨e1_63, e2_63⟩ := e_63
            subst e1_63
            replace e2_63 := e2_63.symm
            subst e2_63
            refine j_ifeq_b (tgt := 82) C dX10_mix_66 (by decide) (fun c_66 => ?_) (fun c_66 => ?_)
            · refine j_iconst (v := (-1)) C dX10_mix_82 (by decide) ?_
              exact ret _ _ 0 0 _ _ ⟨S, P, T, nl, by rw [m_mix, if_neg (fun z => c_66 ⟨z.2.2.2.2.1, by rw [(c.2.2.2.1 j hj).2.2.2.1.1]; have u := z.2.2.2.2.2.2.2.2; rw [nI_clamp (by omega)] at u; exact Int32.not_lt.mpr u⟩)], c, I.lt, FrC.rf, fun _ => rfl⟩ (Nat.zero_le _) (Nat.zero_le _) dX10_mix_83
            · refine j_aload_n C dX10_mix_69 rfl ?_
              refine j_gRe (f := 640) (v := .ref (P 5 1)) C fF_X10_10 rfl c.1.1.1 (by rw [c.1.1.2.1]; rfl) dX10_mix_70 ?_
              refine j_gIe (f := 132) (v := (nI nl)) C fF_X10_91 rfl c.2.1.1 (c.2.1.2.1.2.2.1.trans I.lt.1) dX10_mix_73 ?_
              refine j_sipush (v := 200) C dX10_mix_76 (by decide) ?_
              refine j_icmp_lt (tgt := 84) C dX10_mix_79 (by decide) (fun c_79 => ?_) (fun c_79 => ?_)
              · have hlt : nl < 200 := nI_lt_of (n := 200) (Int32.not_le.mpr c_79) (by omega)
                have nji : ¬ P 1 j = P 1 i := fun e => c_34 (by rw [e])
                have njI : ¬ j = i := fun e => nji (by rw [e])
                have njl : ¬ j = nl := by omega
                have nil : ¬ i = nl := by omega
                refine j_new C fO_X10_94 (Nat.le_of_ble_eq_true rfl) (Nat.le_of_ble_eq_true rfl) dX10_mix_84 (fun q_84 hn_84 => ?_)
                refine j_dup C dX10_mix_87 rfl ?_
                refine j_aload_n C dX10_mix_88 rfl ?_
                refine j_gRe (f := 640) (v := .ref (P 5 1)) C fF_X10_10 rfl (okO hn_84 c.1.1.1) (by rw [gR_O (nq hn_84 c.1.1.1), c.1.1.2.1]; rfl) dX10_mix_89 ?_
                refine j_gIe (f := 132) (v := (nI nl)) C fF_X10_91 rfl (okO hn_84 c.2.1.1) (by rw [gI_O (nq hn_84 c.2.1.1), c.2.1.2.1.2.2.1]; exact I.lt.1) dX10_mix_92 ?_
                refine j_iconst (v := 2) C dX10_mix_95 (by decide) ?_
                refine j_aload C dX10_mix_96 rfl ?_
                refine j_gIe (f := 386) (v := (S 22 i)) C fF_X10_124 rfl (okO hn_84 (c.2.2.2.1 i hi).1.2) (by rw [gI_O (nq hn_84 (c.2.2.2.1 i hi).1.2)]; exact (c.2.2.2.1 i hi).2.1.2.2.1) dX10_mix_98 ?_
                refine j_aload_n C dX10_mix_101 rfl ?_
                refine j_gRe (f := 640) (v := .ref (P 5 1)) C fF_X10_10 rfl (okO hn_84 c.1.1.1) (by rw [gR_O (nq hn_84 c.1.1.1), c.1.1.2.1]; rfl) dX10_mix_102 ?_
                refine j_gIe (f := 128) (v := (S 0 0)) C fF_X10_67 rfl (okO hn_84 c.2.1.1) (by rw [gI_O (nq hn_84 c.2.1.1)]; exact c.2.1.2.1.1) dX10_mix_105 ?_
                refine j_callIv (ret := none) (As := [.int (nI nl), .int 2, .int (S 22 i), .int (S 0 0)]) (rest := [.ref q_84]) C fG_X10_96 (k_Linit (a := q_84) ok_sO (nI nl) 2 (S 22 i) (S 0 0)) rfl rfl (Nat.le_of_ble_eq_true rfl) ⟨Nat.le_of_ble_eq_true rfl, Nat.le_of_ble_eq_true rfl⟩ ⟨Nat.le_of_ble_eq_true rfl, Nat.le_of_ble_eq_true rfl⟩ dX10_mix_108 (fun h_108 e_108 => ?_)
                subst e_108
                refine j_astore (lv' := [(0, .ref (P 5 0)), (1, .int (nI i)), (2, .int g), (3, .int (nI j)), (4, .int more), (5, .ref (P 1 i)), (6, .ref (P 1 j)), (7, .ref q_84)]) C dX10_mix_111 (by decide) rfl ?_
                refine j_aload C dX10_mix_113 rfl ?_
                refine j_aload C dX10_mix_115 rfl ?_
                refine j_pR (f := 389) (v := (some (P 1 i))) C fP_X10_127 rfl (okL ok_sO) rfl rfl rfl dX10_mix_117 ?_
                refine j_aload C dX10_mix_120 rfl ?_
                refine j_aload C dX10_mix_122 rfl ?_
                refine j_pR (f := 390) (v := (some (P 1 j))) C fP_X10_149 rfl (okR (okL ok_sO)) rfl rfl rfl dX10_mix_124 ?_
                refine j_aload C dX10_mix_127 rfl ?_
                refine j_iload_n C dX10_mix_129 rfl ?_
                refine j_iload C dX10_mix_130 rfl ?_
                refine j_iadd C dX10_mix_132 ?_
                refine j_callVv (As := [.int (g + more)]) (rest := []) C fG_X10_99 (k_gain (a := q_84) (okR (okR (okL ok_sO))) (g + more)) (okR (okR (okL ok_sO))) rfl rfl (Nat.le_of_ble_eq_true rfl) ⟨Nat.le_of_ble_eq_true rfl, Nat.le_of_ble_eq_true rfl⟩ ⟨Nat.le_of_ble_eq_true rfl, Nat.le_of_ble_eq_true rfl⟩ dX10_mix_133 (fun h_133 e_133 => ?_)
                subst e_133
                refine j_aload C dX10_mix_136 rfl ?_
                refine j_dup C dX10_mix_138 rfl ?_
                refine j_gIe (f := 391) (v := (S 23 i)) C fF_X10_139 rfl (okI (okI (okR (okR (okL (okO hn_84 (c.2.2.2.1 i hi).1.2)))))) (by rw [gI_n (nq hn_84 (c.2.2.2.1 i hi).1.2), gI_n (nq hn_84 (c.2.2.2.1 i hi).1.2), g_IR, g_IR, hL_In (nq hn_84 (c.2.2.2.1 i hi).1.2), gI_O (nq hn_84 (c.2.2.2.1 i hi).1.2)]; exact (c.2.2.2.1 i hi).2.2.2.1.1) dX10_mix_139 ?_
                refine j_iload_n C dX10_mix_142 rfl ?_
                refine j_isub C dX10_mix_143 ?_
                refine j_pI (f := 391) C fP_X10_139 rfl (okI (okI (okR (okR (okL (okO hn_84 (c.2.2.2.1 i hi).1.2)))))) rfl rfl dX10_mix_144 ?_
                refine j_aload C dX10_mix_147 rfl ?_
                refine j_dup C dX10_mix_149 rfl ?_
                refine j_gIe (f := 394) (v := (S 30 i)) C fF_X10_152 rfl (okI (okI (okI (okR (okR (okL (okO hn_84 (c.2.2.2.1 i hi).1.2))))))) (by rw [g_II, if_neg (by decide), gI_n (nq hn_84 (c.2.2.2.1 i hi).1.2), gI_n (nq hn_84 (c.2.2.2.1 i hi).1.2), g_IR, g_IR, hL_In (nq hn_84 (c.2.2.2.1 i hi).1.2), gI_O (nq hn_84 (c.2.2.2.1 i hi).1.2)]; exact (c.2.2.2.1 i hi).2.2.2.1.2.2.2.1) dX10_mix_150 ?_
                refine j_iload_n C dX10_mix_153 rfl ?_
                refine j_iadd C dX10_mix_154 ?_
                refine j_pI (f := 394) C fP_X10_152 rfl (okI (okI (okI (okR (okR (okL (okO hn_84 (c.2.2.2.1 i hi).1.2))))))) rfl rfl dX10_mix_155 ?_
                refine j_aload C dX10_mix_158 rfl ?_
                refine j_dup C dX10_mix_160 rfl ?_
                refine j_gIe (f := 391) (v := (S 23 j)) C fF_X10_139 rfl (okI (okI (okI (okI (okR (okR (okL (okO hn_84 (c.2.2.2.1 j hj).1.2)))))))) (by rw [g_II, if_neg (by decide), g_II, if_pos rfl, if_neg nji, gI_n (nq hn_84 (c.2.2.2.1 j hj).1.2), gI_n (nq hn_84 (c.2.2.2.1 j hj).1.2), g_IR, g_IR, hL_In (nq hn_84 (c.2.2.2.1 j hj).1.2), gI_O (nq hn_84 (c.2.2.2.1 j hj).1.2)]; exact (c.2.2.2.1 j hj).2.2.2.1.1) dX10_mix_161 ?_
                refine j_iload C dX10_mix_164 rfl ?_
                refine j_isub C dX10_mix_166 ?_
                refine j_pI (f := 391) C fP_X10_139 rfl (okI (okI (okI (okI (okR (okR (okL (okO hn_84 (c.2.2.2.1 j hj).1.2)))))))) rfl rfl dX10_mix_167 ?_
                refine j_aload C dX10_mix_170 rfl ?_
                refine j_dup C dX10_mix_172 rfl ?_
                refine j_gIe (f := 394) (v := (S 30 j)) C fF_X10_152 rfl (okI (okI (okI (okI (okI (okR (okR (okL (okO hn_84 (c.2.2.2.1 j hj).1.2))))))))) (by rw [g_II, if_neg (by decide), g_II, if_pos rfl, if_neg nji, g_II, if_neg (by decide), gI_n (nq hn_84 (c.2.2.2.1 j hj).1.2), gI_n (nq hn_84 (c.2.2.2.1 j hj).1.2), g_IR, g_IR, hL_In (nq hn_84 (c.2.2.2.1 j hj).1.2), gI_O (nq hn_84 (c.2.2.2.1 j hj).1.2)]; exact (c.2.2.2.1 j hj).2.2.2.1.2.2.2.1) dX10_mix_173 ?_
                refine j_iload C dX10_mix_176 rfl ?_
                refine j_iadd C dX10_mix_178 ?_
                refine j_pI (f := 394) C fP_X10_152 rfl (okI (okI (okI (okI (okI (okR (okR (okL (okO hn_84 (c.2.2.2.1 j hj).1.2))))))))) rfl rfl dX10_mix_179 ?_
                refine j_aload_n C dX10_mix_182 rfl ?_
                refine j_gRe (f := 640) (v := .ref (P 5 1)) C fF_X10_10 rfl (okI (okI (okI (okI (okI (okI (okR (okR (okL (okO hn_84 c.1.1.1)))))))))) (by rw [g_RI, g_RI, g_RI, g_RI, g_RI, g_RI, gR_n (nq hn_84 c.1.1.1), gR_n (nq hn_84 c.1.1.1), hL_Rn (nq hn_84 c.1.1.1), gR_O (nq hn_84 c.1.1.1), c.1.1.2.1]; rfl) dX10_mix_183 ?_
                refine j_aload C dX10_mix_186 rfl ?_
                refine j_callVi (As := [.ref q_84]) (rest := []) C fG_X10_103 (k_addLot (a := (P 5 1)) (b := (P 5 7)) (x := q_84) (n := nl) (okI (okI (okI (okI (okI (okI (okR (okR (okL (okO hn_84 c.2.1.1)))))))))) (by rw [g_RI, g_RI, g_RI, g_RI, g_RI, g_RI, gR_n (nq hn_84 c.2.1.1), gR_n (nq hn_84 c.2.1.1), hL_Rn (nq hn_84 c.2.1.1), gR_O (nq hn_84 c.2.1.1)]; exact c.2.1.2.2.2.1.1) (okI (okI (okI (okI (okI (okI (okR (okR (okL (okO hn_84 c.2.1.2.2.2.1.2.1)))))))))) (by rw [g_NI, g_NI, g_NI, g_NI, g_NI, g_NI, g_NR, g_NR, hL_N, g_NO]; exact c.2.1.2.2.2.1.2.2) (by rw [gI_n (fun e => absurd (ok_ne c.2.1.1 (c.2.2.2.1 j hj).1.2 (by decide)) (fun z => z e)), gI_n (fun e => absurd (ok_ne c.2.1.1 (c.2.2.2.1 j hj).1.2 (by decide)) (fun z => z e)), gI_n (fun e => absurd (ok_ne c.2.1.1 (c.2.2.2.1 i hi).1.2 (by decide)) (fun z => z e)), gI_n (fun e => absurd (ok_ne c.2.1.1 (c.2.2.2.1 i hi).1.2 (by decide)) (fun z => z e)), gI_n (nq hn_84 c.2.1.1), gI_n (nq hn_84 c.2.1.1), g_IR, g_IR, hL_In (nq hn_84 c.2.1.1), gI_O (nq hn_84 c.2.1.1), c.2.1.2.1.2.2.1]; exact I.lt.1) hlt (okI (okI (okI (okI (okI (okI (okR (okR (okL ok_sO)))))))))) (okI (okI (okI (okI (okI (okI (okR (okR (okL (okO hn_84 c.2.1.1)))))))))) rfl rfl (Nat.le_of_ble_eq_true rfl) ⟨Nat.le_of_ble_eq_true rfl, Nat.le_of_ble_eq_true rfl⟩ ⟨Nat.le_of_ble_eq_true rfl, Nat.le_of_ble_eq_true rfl⟩ dX10_mix_188 (fun r_188 h_188 e_188 => ?_)
                obtain ⟨e1_188, e2_188⟩ := e_188
                subst e1_188
                subst e2_188
                refine ret _ _ _ _ _ _ ⟨mS_mix S (nI i) g (nI j) more nl, u2 P 1 nl q_84, upU T 2 nl [], nl + 1, ?_, ?_, ⟨nI_1 _, by omega⟩, ?_, fun _ => rfl⟩ (Nat.le_of_ble_eq_true rfl) (Nat.le_of_ble_eq_true rfl) dX10_mix_191
                · rw [m_mix, if_pos ⟨hL1, hL2, fun e => njI ((nI_eq (by omega) (by omega)).mp e).symm, c_56.1, c_66.1, Int32.not_le.mpr c_79, by rw [nI_clamp (by omega), nI_clamp (by omega)]; exact c_47, by rw [nI_clamp (by omega), ← (c.2.2.2.1 i hi).2.2.2.1.1]; exact c_56.2, by rw [nI_clamp (by omega), ← (c.2.2.2.1 j hj).2.2.2.1.1]; exact Int32.not_lt.mp c_66.2⟩, nI_1, nI_pred]
                · have cE : CP (s_I (s_I (s_R (s_R (hL_ (s_O h q_84 6) q_84 (nI nl) 2 (S 22 i) (S 0 0)) 389 q_84 (some (P 1 i))) 390 q_84 (some (P 1 j))) 391 q_84 (g + more)) 392 q_84 (g + more)) S P T nf nl nb ns nt nk nw := c.ex (((((exL (Ex.sO hn_84) hn_84).sR hn_84).sR hn_84).sI hn_84).sI hn_84)
                  have c4 : CP (s_I (s_I (s_I (s_I (s_I (s_I (s_R (s_R (hL_ (s_O h q_84 6) q_84 (nI nl) 2 (S 22 i) (S 0 0)) 389 q_84 (some (P 1 i))) 390 q_84 (some (P 1 j))) 391 q_84 (g + more)) 392 q_84 (g + more)) 391 (P 1 i) ((S 23 i) - g)) 394 (P 1 i) ((S 30 i) + g)) 391 (P 1 j) ((S 23 j) - more)) 394 (P 1 j) ((S 30 j) + more)) (u2 (u2 (u2 (u2 S 23 i (S 23 i - g)) 30 i (S 30 i + g)) 23 j (S 23 j - more)) 30 j (S 30 j + more)) P T nf nl nb ns nt nk nw := (((cE.lot391 hi).lot394 hi).lot391 hj).lot394 hj
                  have cA : CP (s_I (s_I (s_I (s_I (s_I (s_I (s_R (s_R (hL_ (s_O h q_84 6) q_84 (nI nl) 2 (S 22 i) (S 0 0)) 389 q_84 (some (P 1 i))) 390 q_84 (some (P 1 j))) 391 q_84 (g + more)) 392 q_84 (g + more)) 391 (P 1 i) ((S 23 i) - g)) 394 (P 1 i) ((S 30 i) + g)) 391 (P 1 j) ((S 23 j) - more)) 394 (P 1 j) ((S 30 j) + more)) (u2 (u2 (u2 (u2 (u2 (u2 (u2 (u2 (u2 (u2 (u2 (u2 (u2 (u2 (u2 (u2 (u2 S 23 i (S 23 i - g)) 30 i (S 30 i + g)) 23 j (S 23 j - more)) 30 j (S 30 j + more)) 21 nl 2) 22 nl (S 22 i)) 23 nl 0) 24 nl (S 0 0)) 25 nl (-1)) 26 nl (-1)) 27 nl (-1)) 28 nl (-1)) 33 nl (-1)) 23 nl (g + more)) 28 nl (g + more)) 26 nl (nI i)) 27 nl (nI j)) P T nf nl nb ns nt nk nw := c4.agS (((((((((((((AgS.rf.u (r := 21) (i := nl) (v := 2) ⟨by decide, by omega, by omega, by omega, by omega, by omega, by omega, by omega⟩).u (r := 22) (i := nl) (v := (S 22 i)) ⟨by decide, by omega, by omega, by omega, by omega, by omega, by omega, by omega⟩).u (r := 23) (i := nl) (v := 0) ⟨by decide, by omega, by omega, by omega, by omega, by omega, by omega, by omega⟩).u (r := 24) (i := nl) (v := (S 0 0)) ⟨by decide, by omega, by omega, by omega, by omega, by omega, by omega, by omega⟩).u (r := 25) (i := nl) (v := (-1)) ⟨by decide, by omega, by omega, by omega, by omega, by omega, by omega, by omega⟩).u (r := 26) (i := nl) (v := (-1)) ⟨by decide, by omega, by omega, by omega, by omega, by omega, by omega, by omega⟩).u (r := 27) (i := nl) (v := (-1)) ⟨by decide, by omega, by omega, by omega, by omega, by omega, by omega, by omega⟩).u (r := 28) (i := nl) (v := (-1)) ⟨by decide, by omega, by omega, by omega, by omega, by omega, by omega, by omega⟩).u (r := 33) (i := nl) (v := (-1)) ⟨by decide, by omega, by omega, by omega, by omega, by omega, by omega, by omega⟩).u (r := 23) (i := nl) (v := (g + more)) ⟨by decide, by omega, by omega, by omega, by omega, by omega, by omega, by omega⟩).u (r := 28) (i := nl) (v := (g + more)) ⟨by decide, by omega, by omega, by omega, by omega, by omega, by omega, by omega⟩).u (r := 26) (i := nl) (v := (nI i)) ⟨by decide, by omega, by omega, by omega, by omega, by omega, by omega, by omega⟩).u (r := 27) (i := nl) (v := (nI j)) ⟨by decide, by omega, by omega, by omega, by omega, by omega, by omega, by omega⟩)
                  have cB := (cA.pushL0 (q := q_84) hlt (okI (okI (okI (okI (okI (okI (okR (okR (okL ok_sO))))))))) (fun i hi => nq hn_84 (c.2.2.2.1 i hi).1.2) (mo_u (x := fun a => if a = nl then (-1) else S 26 a) (v := nI i) (fun a ha => by show (if a = nl then (-1) else S 26 a) = -1 ∨ ∃ j, j < nl ∧ (if a = nl then (-1) else S 26 a) = nI j; rw [if_neg (by omega)]; exact I.mA2 ha) (Or.inr ⟨i, hi, rfl⟩)) (mo_u (x := fun a => if a = nl then (-1) else S 27 a) (v := nI j) (fun a ha => by show (if a = nl then (-1) else S 27 a) = -1 ∨ ∃ j, j < nl ∧ (if a = nl then (-1) else S 27 a) = nI j; rw [if_neg (by omega)]; exact I.mB2 ha) (Or.inr ⟨j, hj, rfl⟩)) I.bl I.wn I.k34 ⟨by rw [gI_n (fun e => (nq hn_84 (c.2.2.2.1 j hj).1.2) e.symm), gI_n (fun e => (nq hn_84 (c.2.2.2.1 j hj).1.2) e.symm), gI_n (fun e => (nq hn_84 (c.2.2.2.1 i hi).1.2) e.symm), gI_n (fun e => (nq hn_84 (c.2.2.2.1 i hi).1.2) e.symm), g_II, if_neg (by decide), g_II, if_neg (by decide), g_IR, g_IR, hL_384], (by rw [gI_n (fun e => (nq hn_84 (c.2.2.2.1 j hj).1.2) e.symm), gI_n (fun e => (nq hn_84 (c.2.2.2.1 j hj).1.2) e.symm), gI_n (fun e => (nq hn_84 (c.2.2.2.1 i hi).1.2) e.symm), gI_n (fun e => (nq hn_84 (c.2.2.2.1 i hi).1.2) e.symm), g_II, if_neg (by decide), g_II, if_neg (by decide), g_IR, g_IR, hL_385]; exact (u2_same (u2 (u2 (u2 (u2 S 23 i (S 23 i - g)) 30 i (S 30 i + g)) 23 j (S 23 j - more)) 30 j (S 30 j + more)) 21 nl 2).symm), (by rw [gI_n (fun e => (nq hn_84 (c.2.2.2.1 j hj).1.2) e.symm), gI_n (fun e => (nq hn_84 (c.2.2.2.1 j hj).1.2) e.symm), gI_n (fun e => (nq hn_84 (c.2.2.2.1 i hi).1.2) e.symm), gI_n (fun e => (nq hn_84 (c.2.2.2.1 i hi).1.2) e.symm), g_II, if_neg (by decide), g_II, if_neg (by decide), g_IR, g_IR, hL_386]; exact (u2_same (u2 (u2 (u2 (u2 (u2 S 23 i (S 23 i - g)) 30 i (S 30 i + g)) 23 j (S 23 j - more)) 30 j (S 30 j + more)) 21 nl 2) 22 nl (S 22 i)).symm), (by rw [gI_n (fun e => (nq hn_84 (c.2.2.2.1 j hj).1.2) e.symm), gI_n (fun e => (nq hn_84 (c.2.2.2.1 j hj).1.2) e.symm), gI_n (fun e => (nq hn_84 (c.2.2.2.1 i hi).1.2) e.symm), gI_n (fun e => (nq hn_84 (c.2.2.2.1 i hi).1.2) e.symm), g_II, if_neg (by decide), g_II, if_neg (by decide), g_IR, g_IR, hL_387]; exact (u2_same (u2 (u2 (u2 (u2 (u2 (u2 (u2 S 23 i (S 23 i - g)) 30 i (S 30 i + g)) 23 j (S 23 j - more)) 30 j (S 30 j + more)) 21 nl 2) 22 nl (S 22 i)) 23 nl 0) 24 nl (S 0 0)).symm)⟩ ⟨by rw [g_RI, g_RI, g_RI, g_RI, g_RI, g_RI, g_RR, if_neg (by decide), g_RR, if_neg (by decide), hL_r388, show (u2 (u2 (u2 (u2 (u2 (u2 (u2 (u2 (u2 (u2 (u2 (u2 (u2 (u2 (u2 (u2 (u2 S 23 i (S 23 i - g)) 30 i (S 30 i + g)) 23 j (S 23 j - more)) 30 j (S 30 j + more)) 21 nl 2) 22 nl (S 22 i)) 23 nl 0) 24 nl (S 0 0)) 25 nl (-1)) 26 nl (-1)) 27 nl (-1)) 28 nl (-1)) 33 nl (-1)) 23 nl (g + more)) 28 nl (g + more)) 26 nl (nI i)) 27 nl (nI j)) 25 nl = (-1) from (u2_same (u2 (u2 (u2 (u2 (u2 (u2 (u2 (u2 S 23 i (S 23 i - g)) 30 i (S 30 i + g)) 23 j (S 23 j - more)) 30 j (S 30 j + more)) 21 nl 2) 22 nl (S 22 i)) 23 nl 0) 24 nl (S 0 0)) 25 nl (-1)), adr_n], by rw [g_RI, g_RI, g_RI, g_RI, g_RI, g_RI, g_RR, if_neg (by decide), g_RR, if_pos rfl, if_pos rfl, show (u2 (u2 (u2 (u2 (u2 (u2 (u2 (u2 (u2 (u2 (u2 (u2 (u2 (u2 (u2 (u2 (u2 S 23 i (S 23 i - g)) 30 i (S 30 i + g)) 23 j (S 23 j - more)) 30 j (S 30 j + more)) 21 nl 2) 22 nl (S 22 i)) 23 nl 0) 24 nl (S 0 0)) 25 nl (-1)) 26 nl (-1)) 27 nl (-1)) 28 nl (-1)) 33 nl (-1)) 23 nl (g + more)) 28 nl (g + more)) 26 nl (nI i)) 27 nl (nI j)) 26 nl = (nI i) from (u2_same (u2 (u2 (u2 (u2 (u2 (u2 (u2 (u2 (u2 (u2 (u2 (u2 (u2 (u2 (u2 S 23 i (S 23 i - g)) 30 i (S 30 i + g)) 23 j (S 23 j - more)) 30 j (S 30 j + more)) 21 nl 2) 22 nl (S 22 i)) 23 nl 0) 24 nl (S 0 0)) 25 nl (-1)) 26 nl (-1)) 27 nl (-1)) 28 nl (-1)) 33 nl (-1)) 23 nl (g + more)) 28 nl (g + more)) 26 nl (nI i)), adr_i (by omega)], by rw [g_RI, g_RI, g_RI, g_RI, g_RI, g_RI, g_RR, if_pos rfl, if_pos rfl, show (u2 (u2 (u2 (u2 (u2 (u2 (u2 (u2 (u2 (u2 (u2 (u2 (u2 (u2 (u2 (u2 (u2 S 23 i (S 23 i - g)) 30 i (S 30 i + g)) 23 j (S 23 j - more)) 30 j (S 30 j + more)) 21 nl 2) 22 nl (S 22 i)) 23 nl 0) 24 nl (S 0 0)) 25 nl (-1)) 26 nl (-1)) 27 nl (-1)) 28 nl (-1)) 33 nl (-1)) 23 nl (g + more)) 28 nl (g + more)) 26 nl (nI i)) 27 nl (nI j)) 27 nl = (nI j) from (u2_same (u2 (u2 (u2 (u2 (u2 (u2 (u2 (u2 (u2 (u2 (u2 (u2 (u2 (u2 (u2 (u2 S 23 i (S 23 i - g)) 30 i (S 30 i + g)) 23 j (S 23 j - more)) 30 j (S 30 j + more)) 21 nl 2) 22 nl (S 22 i)) 23 nl 0) 24 nl (S 0 0)) 25 nl (-1)) 26 nl (-1)) 27 nl (-1)) 28 nl (-1)) 33 nl (-1)) 23 nl (g + more)) 28 nl (g + more)) 26 nl (nI i)) 27 nl (nI j)), adr_i (by omega)]⟩ ⟨(by rw [gI_n (fun e => (nq hn_84 (c.2.2.2.1 j hj).1.2) e.symm), gI_n (fun e => (nq hn_84 (c.2.2.2.1 j hj).1.2) e.symm), gI_n (fun e => (nq hn_84 (c.2.2.2.1 i hi).1.2) e.symm), gI_n (fun e => (nq hn_84 (c.2.2.2.1 i hi).1.2) e.symm), g_II, if_neg (by decide), g_II, if_pos rfl, if_pos rfl]; exact (u2_same (u2 (u2 (u2 (u2 (u2 (u2 (u2 (u2 (u2 (u2 (u2 (u2 (u2 S 23 i (S 23 i - g)) 30 i (S 30 i + g)) 23 j (S 23 j - more)) 30 j (S 30 j + more)) 21 nl 2) 22 nl (S 22 i)) 23 nl 0) 24 nl (S 0 0)) 25 nl (-1)) 26 nl (-1)) 27 nl (-1)) 28 nl (-1)) 33 nl (-1)) 23 nl (g + more)).symm), (by rw [gI_n (fun e => (nq hn_84 (c.2.2.2.1 j hj).1.2) e.symm), gI_n (fun e => (nq hn_84 (c.2.2.2.1 j hj).1.2) e.symm), gI_n (fun e => (nq hn_84 (c.2.2.2.1 i hi).1.2) e.symm), gI_n (fun e => (nq hn_84 (c.2.2.2.1 i hi).1.2) e.symm), g_II, if_pos rfl, if_pos rfl]; exact (u2_same (u2 (u2 (u2 (u2 (u2 (u2 (u2 (u2 (u2 (u2 (u2 (u2 (u2 (u2 S 23 i (S 23 i - g)) 30 i (S 30 i + g)) 23 j (S 23 j - more)) 30 j (S 30 j + more)) 21 nl 2) 22 nl (S 22 i)) 23 nl 0) 24 nl (S 0 0)) 25 nl (-1)) 26 nl (-1)) 27 nl (-1)) 28 nl (-1)) 33 nl (-1)) 23 nl (g + more)) 28 nl (g + more)).symm), (by rw [gI_n (fun e => (nq hn_84 (c.2.2.2.1 j hj).1.2) e.symm), gI_n (fun e => (nq hn_84 (c.2.2.2.1 j hj).1.2) e.symm), gI_n (fun e => (nq hn_84 (c.2.2.2.1 i hi).1.2) e.symm), gI_n (fun e => (nq hn_84 (c.2.2.2.1 i hi).1.2) e.symm), g_II, if_neg (by decide), g_II, if_neg (by decide), g_IR, g_IR, hL_393]; exact (I.ze nl (Nat.le_refl _)).1.symm), (by rw [gI_n (fun e => (nq hn_84 (c.2.2.2.1 j hj).1.2) e.symm), gI_n (fun e => (nq hn_84 (c.2.2.2.1 j hj).1.2) e.symm), gI_n (fun e => (nq hn_84 (c.2.2.2.1 i hi).1.2) e.symm), gI_n (fun e => (nq hn_84 (c.2.2.2.1 i hi).1.2) e.symm), g_II, if_neg (by decide), g_II, if_neg (by decide), g_IR, g_IR, hL_394]; show (0 : Int32) = (if nl = j then _ else if nl = i then _ else S 30 nl); rw [if_neg (by omega), if_neg (by omega)]; exact (I.ze nl (Nat.le_refl _)).2.1.symm), (by rw [gI_n (fun e => (nq hn_84 (c.2.2.2.1 j hj).1.2) e.symm), gI_n (fun e => (nq hn_84 (c.2.2.2.1 j hj).1.2) e.symm), gI_n (fun e => (nq hn_84 (c.2.2.2.1 i hi).1.2) e.symm), gI_n (fun e => (nq hn_84 (c.2.2.2.1 i hi).1.2) e.symm), g_II, if_neg (by decide), g_II, if_neg (by decide), g_IR, g_IR, hL_395]; exact (I.ze nl (Nat.le_refl _)).2.2.1.symm), (by rw [gI_n (fun e => (nq hn_84 (c.2.2.2.1 j hj).1.2) e.symm), gI_n (fun e => (nq hn_84 (c.2.2.2.1 j hj).1.2) e.symm), gI_n (fun e => (nq hn_84 (c.2.2.2.1 i hi).1.2) e.symm), gI_n (fun e => (nq hn_84 (c.2.2.2.1 i hi).1.2) e.symm), g_II, if_neg (by decide), g_II, if_neg (by decide), g_IR, g_IR, hL_396]; exact (I.ze nl (Nat.le_refl _)).2.2.2.symm), (by rw [gI_n (fun e => (nq hn_84 (c.2.2.2.1 j hj).1.2) e.symm), gI_n (fun e => (nq hn_84 (c.2.2.2.1 j hj).1.2) e.symm), gI_n (fun e => (nq hn_84 (c.2.2.2.1 i hi).1.2) e.symm), gI_n (fun e => (nq hn_84 (c.2.2.2.1 i hi).1.2) e.symm), g_II, if_neg (by decide), g_II, if_neg (by decide), g_IR, g_IR, hL_398]; exact (u2_same (u2 (u2 (u2 (u2 (u2 (u2 (u2 (u2 (u2 (u2 (u2 (u2 S 23 i (S 23 i - g)) 30 i (S 30 i + g)) 23 j (S 23 j - more)) 30 j (S 30 j + more)) 21 nl 2) 22 nl (S 22 i)) 23 nl 0) 24 nl (S 0 0)) 25 nl (-1)) 26 nl (-1)) 27 nl (-1)) 28 nl (-1)) 33 nl (-1)).symm)⟩ (by rw [g_RI, g_RI, g_RI, g_RI, g_RI, g_RI, g_RR, if_neg (by decide), g_RR, if_neg (by decide), hL_r397]) (by rw [show (u2 (u2 (u2 (u2 (u2 (u2 (u2 (u2 (u2 (u2 (u2 (u2 (u2 (u2 (u2 (u2 (u2 S 23 i (S 23 i - g)) 30 i (S 30 i + g)) 23 j (S 23 j - more)) 30 j (S 30 j + more)) 21 nl 2) 22 nl (S 22 i)) 23 nl 0) 24 nl (S 0 0)) 25 nl (-1)) 26 nl (-1)) 27 nl (-1)) 28 nl (-1)) 33 nl (-1)) 23 nl (g + more)) 28 nl (g + more)) 26 nl (nI i)) 27 nl (nI j)) 21 nl = 2 from (u2_same (u2 (u2 (u2 (u2 S 23 i (S 23 i - g)) 30 i (S 30 i + g)) 23 j (S 23 j - more)) 30 j (S 30 j + more)) 21 nl 2)]; decide)).book132 (v := nI nl + 1)
                  refine cB.agS ?_
                  unfold mS_mix
                  rw [nI_clamp (n := i) (by omega), nI_clamp (n := j) (by omega)]
                  refine ⟨?_, ?_, ?_, ?_, ?_, ?_, ?_, fun i h1 => rfl⟩
                  · intro k h1
                    rcases (show k = 0 ∨ k = 1 ∨ k = 2 ∨ k = 3 ∨ k = 4 ∨ k = 5 ∨ k = 6 ∨ k = 7 ∨ k = 8 by omega) with rfl | rfl | rfl | rfl | rfl | rfl | rfl | rfl | rfl <;> rfl
                  · intro k i_ h1 h2 h3
                    rcases (show k = 9 ∨ k = 10 ∨ k = 11 ∨ k = 12 by omega) with rfl | rfl | rfl | rfl <;> rfl
                  · intro k i_ h1 h2 h3
                    rcases (show k = 13 ∨ k = 14 ∨ k = 15 ∨ k = 16 by omega) with rfl | rfl | rfl | rfl <;> rfl
                  · intro k i_ h1 h2 h3
                    rcases (show k = 17 ∨ k = 18 ∨ k = 19 ∨ k = 20 by omega) with rfl | rfl | rfl | rfl <;> rfl
                  · intro k i_ h1 h2 h3
                    rcases (show k = 21 ∨ k = 22 ∨ k = 23 ∨ k = 24 ∨ k = 25 ∨ k = 26 ∨ k = 27 ∨ k = 28 ∨ k = 29 ∨ k = 30 ∨ k = 31 ∨ k = 32 ∨ k = 33 by omega) with rfl | rfl | rfl | rfl | rfl | rfl | rfl | rfl | rfl | rfl | rfl | rfl | rfl
                    · rfl
                    · rfl
                    · show (if i_ = nl then g + more else if i_ = j then (if j = i then _ else if j = nl then (0 : Int32) else S 23 j) - more else if i_ = i then (if i = nl then (0 : Int32) else S 23 i) - g else if i_ = nl then (0 : Int32) else S 23 i_) = (if i_ = nl then g + more else if i_ = nl then (0 : Int32) else if i_ = j then S 23 j - more else if i_ = i then S 23 i - g else S 23 i_)
                      simp only [if_neg njI, if_neg njl, if_neg nil]
                      by_cases e : i_ = nl
                      · simp only [if_pos e]
                      · simp only [if_neg e]
                    · rfl
                    · rfl
                    · rfl
                    · rfl
                    · rfl
                    · rfl
                    · show (if i_ = j then (if j = i then _ else S 30 j) + more else if i_ = i then S 30 i + g else S 30 i_) = (if i_ = j then S 30 j + more else if i_ = i then S 30 i + g else S 30 i_)
                      simp only [if_neg njI]
                    · rfl
                    · rfl
                    · rfl
                  · intro k i_ h1 h2 h3
                    rcases (show k = 34 ∨ k = 35 ∨ k = 36 ∨ k = 37 by omega) with rfl | rfl | rfl | rfl <;> rfl
                  · intro k i_ h1 h2 h3
                    rcases (show k = 38 ∨ k = 39 ∨ k = 40 ∨ k = 41 by omega) with rfl | rfl | rfl | rfl <;> rfl
                · exact (FrC.sO hn_84).tr (frL.tr (((FrC.sR (by decide)).tr (FrC.sR (by decide))).tr (((FrC.sI (by decide)).tr (FrC.sI (by decide))).tr ((((FrC.sI (by decide)).tr (FrC.sI (by decide))).tr ((FrC.sI (by decide)).tr (FrC.sI (by decide)))).tr (FrC.sB.tr (FrC.sI (by decide)))))))
              · refine j_iconst (v := (-1)) C dX10_mix_82 (by decide) ?_
                exact ret _ _ 0 0 _ _ ⟨S, P, T, nl, by rw [m_mix, if_neg (fun z => c_79 (Int32.not_le.mp z.2.2.2.2.2.1))], c, I.lt, FrC.rf, fun _ => rfl⟩ (Nat.zero_le _) (Nat.zero_le _) dX10_mix_83
