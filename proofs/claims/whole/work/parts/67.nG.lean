set_option maxHeartbeats 4000000 in
set_option maxRecDepth 100000 in
theorem x_sow {l : Launch} {D : va_G} {cy : Nat → ClassId} {h : jH} {S : Nat → Nat → Int32} {P : Nat → Nat → Nat} {T : Nat → Nat → Nat → List Nat} {nf nl nb ns nt nk nw yy : Nat} (c : CP h S P T nf nl nb ns nt nk nw) (I : SI S nf nl nb ns nt nk nw yy) (fr fd g : Int32) : jI l D cy yX10_sow (.code yX10_sow cX10_sow 8 ((Option.some FieldType.int))) (rmd 3 1 20) [.ref (P 5 0), .int fr, .int fd, .int g] h (fun r h' => ∃ S' P' T' nl', (r, S') = m_sow S fr fd g nl ∧ CP h' S' P' T' nf nl' nb ns nt nk nw ∧ (S' 2 0 = nI nl' ∧ nl' ≤ 200) ∧ FrC P h h' ∧ ∀ i, P' 5 i = P 5 i) := by
  have hl := I.lt.1
  have hnl := I.lt.2
  have hnf := I.fl.2
  have hyy := I.yr.2
  refine j_ofI (by decide) (Nat.le_of_ble_eq_true rfl) (fun p e s m args below meth c0 Q C hin ret => ?_)
  refine j_aload_n C dX10_sow_0 rfl ?_
  refine j_gRe (f := 640) (v := .ref (P 5 1)) C fF_X10_10 rfl c.1.1.1 (by rw [c.1.1.2.1]; rfl) dX10_sow_1 ?_
  refine j_iload_n C dX10_sow_4 rfl ?_
  refine j_callVq (As := [.int fr]) (rest := []) C fG_X10_107 (s_lotAt c hl hnl (fr)) c.2.1.1 rfl rfl (Nat.le_of_ble_eq_true rfl) ⟨Nat.le_of_ble_eq_true rfl, Nat.le_of_ble_eq_true rfl⟩ ⟨Nat.le_of_ble_eq_true rfl, Nat.le_of_ble_eq_true rfl⟩ dX10_sow_5 (fun r_5 h_5 e_5 => ?_)
  obtain ⟨e1_5, e2_5⟩ := e_5
  subst e1_5
  replace e2_5 := e2_5.symm
  subst e2_5
  refine j_astoreQ (lv' := [(0, .ref (P 5 0)), (1, .int fr), (2, .int fd), (3, .int g), (4, va_rf (lotO S P fr))]) C dX10_sow_8 (by decide) rfl ?_
  refine j_aload_n C dX10_sow_10 rfl ?_
  refine j_gRe (f := 640) (v := .ref (P 5 1)) C fF_X10_10 rfl c.1.1.1 (by rw [c.1.1.2.1]; rfl) dX10_sow_11 ?_
  refine j_iload_n C dX10_sow_14 rfl ?_
  refine j_callVq (As := [.int fd]) (rest := []) C fG_X10_60 (s_fieldAt c I.fl.1 I.fl.2 (fd)) c.2.1.1 rfl rfl (Nat.le_of_ble_eq_true rfl) ⟨Nat.le_of_ble_eq_true rfl, Nat.le_of_ble_eq_true rfl⟩ ⟨Nat.le_of_ble_eq_true rfl, Nat.le_of_ble_eq_true rfl⟩ dX10_sow_15 (fun r_15 h_15 e_15 => ?_)
  obtain ⟨e1_15, e2_15⟩ := e_15
  subst e1_15
  replace e2_15 := e2_15.symm
  subst e2_15
  refine j_astoreQ (lv' := [(0, .ref (P 5 0)), (1, .int fr), (2, .int fd), (3, .int g), (4, va_rf (lotO S P fr)), (5, va_rf (fldO S P fd))]) C dX10_sow_18 (by decide) (by simp [js, va_cat]) ?_
  refine j_aloadQ C dX10_sow_20 rfl ?_
  cases hq_22 : (lotO S P fr) with
  | none =>
    refine j_ifnullN (tgt := 52) C dX10_sow_22 (by decide) ?_
    refine j_iconst (v := (-1)) C dX10_sow_52 (by decide) ?_
    exact ret _ _ 0 0 _ _ ⟨S, P, T, nl, by rw [m_sow, if_neg (fun z => lotO_n hq_22 z.1)], c, I.lt, FrC.rf, fun _ => rfl⟩ (Nat.zero_le _) (Nat.zero_le _) dX10_sow_53
  | some x_22 =>
    refine j_ifnull C dX10_sow_22 ?_
    refine j_aloadQ C dX10_sow_25 rfl ?_
    cases hq_27 : (fldO S P fd) with
    | none =>
      refine j_ifnullN (tgt := 52) C dX10_sow_27 (by decide) ?_
      refine j_iconst (v := (-1)) C dX10_sow_52 (by decide) ?_
      exact ret _ _ 0 0 _ _ ⟨S, P, T, nl, by rw [m_sow, if_neg (fun z => fldO_n hq_27 z.2.1)], c, I.lt, FrC.rf, fun _ => rfl⟩ (Nat.zero_le _) (Nat.zero_le _) dX10_sow_53
    | some x_27 =>
      refine j_ifnull C dX10_sow_27 ?_
      obtain ⟨j, hj, hx1, ha1, hL1⟩ := lotO_s hl hnl hq_22
      obtain ⟨i, hi, hx2, ha2, hL2⟩ := fldO_s I.fl.1 I.fl.2 hq_27
      subst hx1
      subst hx2
      subst ha1
      subst ha2
      refine j_aload C dX10_sow_30 rfl ?_
      refine j_iload_n C dX10_sow_32 rfl ?_
      refine j_callVi (As := [.int g]) (rest := []) C fG_X10_111 (k_has (a := (P 1 j)) (c.2.2.2.1 j hj).1.2 (g)) (c.2.2.2.1 j hj).1.2 rfl rfl (Nat.le_of_ble_eq_true rfl) ⟨Nat.le_of_ble_eq_true rfl, Nat.le_of_ble_eq_true rfl⟩ ⟨Nat.le_of_ble_eq_true rfl, Nat.le_of_ble_eq_true rfl⟩ dX10_sow_33 (fun r_33 h_33 e_33 => ?_)
      obtain ⟨e1_33, e2_33⟩ := e_33
      subst e1_33
      replace e2_33 := e2_33.symm
      subst e2_33
      refine j_ifeq_b (tgt := 52) C dX10_sow_36 (by decide) (fun c_36 => ?_) (fun c_36 => ?_)
      · refine j_iconst (v := (-1)) C dX10_sow_52 (by decide) ?_
        exact ret _ _ 0 0 _ _ ⟨S, P, T, nl, by rw [m_sow, if_neg (fun z => c_36 ⟨z.2.2.1, by rw [(c.2.2.2.1 j hj).2.2.2.1.1]; have u := z.2.2.2.2.1; rw [nI_clamp (by omega)] at u; exact u⟩)], c, I.lt, FrC.rf, fun _ => rfl⟩ (Nat.zero_le _) (Nat.zero_le _) dX10_sow_53
      · refine j_aload_n C dX10_sow_39 rfl ?_
        refine j_gRe (f := 640) (v := .ref (P 5 1)) C fF_X10_10 rfl c.1.1.1 (by rw [c.1.1.2.1]; rfl) dX10_sow_40 ?_
        refine j_gIe (f := 132) (v := (nI nl)) C fF_X10_91 rfl c.2.1.1 (c.2.1.2.1.2.2.1.trans I.lt.1) dX10_sow_43 ?_
        refine j_sipush (v := 200) C dX10_sow_46 (by decide) ?_
        refine j_icmp_lt (tgt := 54) C dX10_sow_49 (by decide) (fun c_49 => ?_) (fun c_49 => ?_)
        · refine j_aload C dX10_sow_54 rfl ?_
          refine j_gIe (f := 385) (v := (S 21 j)) C fF_X10_115 rfl (c.2.2.2.1 j hj).1.2 (c.2.2.2.1 j hj).2.1.2.1 dX10_sow_56 ?_
          refine j_if_eq (tgt := 81) C dX10_sow_59 (by decide) (fun c_59 => ?_) (fun c_59 => ?_)
          · refine j_iconst (v := 0) C dX10_sow_81 (by decide) ?_
            refine j_istore (lv' := [(0, .ref (P 5 0)), (1, .int (nI j)), (2, .int (nI i)), (3, .int g), (4, .ref (P 1 j)), (5, .ref (P 0 i)), (6, .int 0)]) C dX10_sow_82 (by decide) rfl ?_
            refine j_iload C dX10_sow_84 rfl ?_
            refine j_if_ne (tgt := 104) C dX10_sow_86 (by decide) (fun c_86 => ?_) (fun c_86 => ?_)
            · exact (show False by revert c_86; decide).elim
            refine j_aload C dX10_sow_89 rfl ?_
            refine j_aload_n C dX10_sow_91 rfl ?_
            refine j_gRe (f := 640) (v := .ref (P 5 1)) C fF_X10_10 rfl c.1.1.1 (by rw [c.1.1.2.1]; rfl) dX10_sow_92 ?_
            refine j_gIe (f := 128) (v := (S 0 0)) C fF_X10_67 rfl c.2.1.1 c.2.1.2.1.1 dX10_sow_95 ?_
            refine j_callVq (As := [.int (S 0 0)]) (rest := []) C fG_X10_121 (k_grownIn (c.2.2.1 i hi).1.2 (c.2.2.1 i hi).2.2.1.1 (c.2.2.1 i hi).2.2.1.2.1 (c.2.2.1 i hi).2.2.1.2.2 (S 0 0)) (c.2.2.1 i hi).1.2 rfl rfl (Nat.le_of_ble_eq_true rfl) ⟨Nat.le_of_ble_eq_true rfl, Nat.le_of_ble_eq_true rfl⟩ ⟨Nat.le_of_ble_eq_true rfl, Nat.le_of_ble_eq_true rfl⟩ dX10_sow_98 (fun r_98 h_98 e_98 => ?_)
            obtain ⟨e1_98, e2_98⟩ := e_98
            rw [I.yr.1, grw_nI (by omega), ((c.2.2.1 i hi).2.2.2.2 yy (by omega)).1] at e1_98
            subst e1_98
            replace e2_98 := e2_98.symm
            subst e2_98
            cases hq_101 : (adr P 1 (lotInS S (nI i) (nI yy) nl)) with
            | none =>
              refine j_ifnullN (tgt := 106) C dX10_sow_101 (by decide) ?_
              have hlt : nl < 200 := nI_lt_of (n := 200) (Int32.not_le.mpr c_49) (by omega)
              have njl : ¬ j = nl := by omega
              have hno : lotInS S (nI i) (nI yy) nl = -1 := by
                rcases lotIn_or (S := S) (f := nI i) (y := nI yy) hnl with z | ⟨a, a1, a2⟩
                · exact z
                · rw [a2, adr_i (by omega)] at hq_101; cases hq_101
              refine j_new C fO_X10_94 (Nat.le_of_ble_eq_true rfl) (Nat.le_of_ble_eq_true rfl) dX10_sow_106 (fun q_106 hn_106 => ?_)
              refine j_dup C dX10_sow_109 rfl ?_
              refine j_aload_n C dX10_sow_110 rfl ?_
              refine j_gRe (f := 640) (v := .ref (P 5 1)) C fF_X10_10 rfl (okO hn_106 c.1.1.1) (by rw [gR_O (nq hn_106 c.1.1.1), c.1.1.2.1]; rfl) dX10_sow_111 ?_
              refine j_gIe (f := 132) (v := (nI nl)) C fF_X10_91 rfl (okO hn_106 c.2.1.1) (by rw [gI_O (nq hn_106 c.2.1.1), c.2.1.2.1.2.2.1]; exact I.lt.1) dX10_sow_114 ?_
              refine j_iconst (v := 1) C dX10_sow_117 (by decide) ?_
              refine j_aload C dX10_sow_118 rfl ?_
              refine j_gIe (f := 386) (v := (S 22 j)) C fF_X10_124 rfl (okO hn_106 (c.2.2.2.1 j hj).1.2) (by rw [gI_O (nq hn_106 (c.2.2.2.1 j hj).1.2)]; exact (c.2.2.2.1 j hj).2.1.2.2.1) dX10_sow_120 ?_
              refine j_aload_n C dX10_sow_123 rfl ?_
              refine j_gRe (f := 640) (v := .ref (P 5 1)) C fF_X10_10 rfl (okO hn_106 c.1.1.1) (by rw [gR_O (nq hn_106 c.1.1.1), c.1.1.2.1]; rfl) dX10_sow_124 ?_
              refine j_gIe (f := 128) (v := (S 0 0)) C fF_X10_67 rfl (okO hn_106 c.2.1.1) (by rw [gI_O (nq hn_106 c.2.1.1)]; exact c.2.1.2.1.1) dX10_sow_127 ?_
              refine j_callIv (ret := none) (As := [.int (nI nl), .int 1, .int (S 22 j), .int (S 0 0)]) (rest := [.ref q_106]) C fG_X10_96 (k_Linit (a := q_106) ok_sO (nI nl) 1 (S 22 j) (S 0 0)) rfl rfl (Nat.le_of_ble_eq_true rfl) ⟨Nat.le_of_ble_eq_true rfl, Nat.le_of_ble_eq_true rfl⟩ ⟨Nat.le_of_ble_eq_true rfl, Nat.le_of_ble_eq_true rfl⟩ dX10_sow_130 (fun h_130 e_130 => ?_)
              subst e_130
              refine j_astore (lv' := [(0, .ref (P 5 0)), (1, .int (nI j)), (2, .int (nI i)), (3, .int g), (4, .ref (P 1 j)), (5, .ref (P 0 i)), (6, .int 0), (7, .ref q_106)]) C dX10_sow_133 (by decide) rfl ?_
              refine j_aload C dX10_sow_135 rfl ?_
              refine j_aload C dX10_sow_137 rfl ?_
              refine j_pR (f := 389) (v := (some (P 1 j))) C fP_X10_127 rfl (okL ok_sO) rfl rfl rfl dX10_sow_139 ?_
              refine j_aload C dX10_sow_142 rfl ?_
              refine j_aload C dX10_sow_144 rfl ?_
              refine j_pR (f := 388) (v := (some (P 0 i))) C fP_X10_131 rfl (okR (okL ok_sO)) rfl rfl rfl dX10_sow_146 ?_
              refine j_aload C dX10_sow_149 rfl ?_
              refine j_aload C dX10_sow_151 rfl ?_
              refine j_callVv (As := [.ref q_106]) (rest := []) C fG_X10_135 (k_grow (a := (P 0 i)) (g := (P 3 i)) (b := q_106) (okR (okR (okL (okO hn_106 (c.2.2.1 i hi).1.2)))) (by rw [gR_n (nq hn_106 (c.2.2.1 i hi).1.2), gR_n (nq hn_106 (c.2.2.1 i hi).1.2), hL_Rn (nq hn_106 (c.2.2.1 i hi).1.2), gR_O (nq hn_106 (c.2.2.1 i hi).1.2)]; exact (c.2.2.1 i hi).2.2.1.1) (okR (okR (okL (okO hn_106 (c.2.2.1 i hi).2.2.1.2.1)))) (by rw [g_NR, g_NR, hL_N, g_NO]; exact (c.2.2.1 i hi).2.2.1.2.2) (okR (okR (okL ok_sO)))) (okR (okR (okL (okO hn_106 (c.2.2.1 i hi).1.2)))) rfl rfl (Nat.le_of_ble_eq_true rfl) ⟨Nat.le_of_ble_eq_true rfl, Nat.le_of_ble_eq_true rfl⟩ ⟨Nat.le_of_ble_eq_true rfl, Nat.le_of_ble_eq_true rfl⟩ dX10_sow_153 (fun h_153 e_153 => ?_)
              have ey : h_I (s_R (s_R (hL_ (s_O h q_106 6) q_106 (nI nl) 1 (S 22 j) (S 0 0)) 389 q_106 (some (P 1 j))) 388 q_106 (some (P 0 i))) 387 q_106 = nI yy := by rw [g_IR, g_IR, hL_387]; exact I.yr.1
              rw [ey, if_pos ⟨nI_pos (by omega), fun z => absurd (nI_ge_of (n := 41) z (by omega) (by omega)) (by omega)⟩, nI_clamp (by omega)] at e_153
              subst e_153
              refine j_aload C dX10_sow_156 rfl ?_
              refine j_dup C dX10_sow_158 rfl ?_
              refine j_gIe (f := 391) (v := (S 23 j)) C fF_X10_139 rfl (okB (okR (okR (okL (okO hn_106 (c.2.2.2.1 j hj).1.2))))) (by rw [g_IB, g_IR, g_IR, hL_In (nq hn_106 (c.2.2.2.1 j hj).1.2), gI_O (nq hn_106 (c.2.2.2.1 j hj).1.2)]; exact (c.2.2.2.1 j hj).2.2.2.1.1) dX10_sow_159 ?_
              refine j_iload_n C dX10_sow_162 rfl ?_
              refine j_isub C dX10_sow_163 ?_
              refine j_pI (f := 391) C fP_X10_139 rfl (okB (okR (okR (okL (okO hn_106 (c.2.2.2.1 j hj).1.2))))) rfl rfl dX10_sow_164 ?_
              refine j_aload C dX10_sow_167 rfl ?_
              refine j_dup C dX10_sow_169 rfl ?_
              refine j_gIe (f := 393) (v := (S 29 j)) C fF_X10_142 rfl (okI (okB (okR (okR (okL (okO hn_106 (c.2.2.2.1 j hj).1.2)))))) (by rw [g_II, if_neg (by decide), g_IB, g_IR, g_IR, hL_In (nq hn_106 (c.2.2.2.1 j hj).1.2), gI_O (nq hn_106 (c.2.2.2.1 j hj).1.2)]; exact (c.2.2.2.1 j hj).2.2.2.1.2.2.1) dX10_sow_170 ?_
              refine j_iload_n C dX10_sow_173 rfl ?_
              refine j_iadd C dX10_sow_174 ?_
              refine j_pI (f := 393) C fP_X10_142 rfl (okI (okB (okR (okR (okL (okO hn_106 (c.2.2.2.1 j hj).1.2)))))) rfl rfl dX10_sow_175 ?_
              refine j_aload_n C dX10_sow_178 rfl ?_
              refine j_gRe (f := 640) (v := .ref (P 5 1)) C fF_X10_10 rfl (okI (okI (okB (okR (okR (okL (okO hn_106 c.1.1.1))))))) (by rw [g_RI, g_RI, g_RB, gR_n (nq hn_106 c.1.1.1), gR_n (nq hn_106 c.1.1.1), hL_Rn (nq hn_106 c.1.1.1), gR_O (nq hn_106 c.1.1.1), c.1.1.2.1]; rfl) dX10_sow_179 ?_
              refine j_aload C dX10_sow_182 rfl ?_
              refine j_callVi (As := [.ref q_106]) (rest := []) C fG_X10_103 (k_addLot (a := (P 5 1)) (b := (P 5 7)) (x := q_106) (n := nl) (okI (okI (okB (okR (okR (okL (okO hn_106 c.2.1.1))))))) (by rw [g_RI, g_RI, g_RB, gR_n (nq hn_106 c.2.1.1), gR_n (nq hn_106 c.2.1.1), hL_Rn (nq hn_106 c.2.1.1), gR_O (nq hn_106 c.2.1.1)]; exact c.2.1.2.2.2.1.1) (okI (okI (okB (okR (okR (okL (okO hn_106 c.2.1.2.2.2.1.2.1))))))) (by rw [g_NI, g_NI, g_NB, g_NR, g_NR, hL_N, g_NO]; exact c.2.1.2.2.2.1.2.2) (by rw [gI_n (fun e => absurd (ok_ne c.2.1.1 (c.2.2.2.1 j hj).1.2 (by decide)) (fun z => z e)), gI_n (fun e => absurd (ok_ne c.2.1.1 (c.2.2.2.1 j hj).1.2 (by decide)) (fun z => z e)), g_IB, g_IR, g_IR, hL_In (nq hn_106 c.2.1.1), gI_O (nq hn_106 c.2.1.1), c.2.1.2.1.2.2.1]; exact I.lt.1) hlt (okI (okI (okB (okR (okR (okL ok_sO))))))) (okI (okI (okB (okR (okR (okL (okO hn_106 c.2.1.1))))))) rfl rfl (Nat.le_of_ble_eq_true rfl) ⟨Nat.le_of_ble_eq_true rfl, Nat.le_of_ble_eq_true rfl⟩ ⟨Nat.le_of_ble_eq_true rfl, Nat.le_of_ble_eq_true rfl⟩ dX10_sow_184 (fun r_184 h_184 e_184 => ?_)
              obtain ⟨e1_184, e2_184⟩ := e_184
              subst e1_184
              subst e2_184
              refine ret _ _ _ _ _ _ ⟨mS_sow S (nI j) (nI i) g nl, u2 P 1 nl q_106, upU T 2 nl [], nl + 1, ?_, ?_, ⟨nI_1 _, by omega⟩, ?_, fun _ => rfl⟩ (Nat.le_of_ble_eq_true rfl) (Nat.le_of_ble_eq_true rfl) dX10_sow_187
              · rw [m_sow, if_pos ⟨hL1, hL2, c_36.1, Int32.not_le.mpr c_49, by rw [nI_clamp (by omega), ← (c.2.2.2.1 j hj).2.2.2.1.1]; exact c_36.2, by rw [nI_clamp (by omega)]; exact Or.inl c_59, by rw [I.yr.1]; exact hno⟩, nI_1, nI_pred]
              · have cE : CP (s_R (s_R (hL_ (s_O h q_106 6) q_106 (nI nl) 1 (S 22 j) (S 0 0)) 389 q_106 (some (P 1 j))) 388 q_106 (some (P 0 i))) S P T nf nl nb ns nt nk nw := c.ex (((exL (Ex.sO hn_106) hn_106).sR hn_106).sR hn_106)
                have c4 : CP (s_I (s_I (s_R (s_R (hL_ (s_O h q_106 6) q_106 (nI nl) 1 (S 22 j) (S 0 0)) 389 q_106 (some (P 1 j))) 388 q_106 (some (P 0 i))) 391 (P 1 j) ((S 23 j) - g)) 393 (P 1 j) ((S 29 j) + g)) (u2 (u2 S 23 j (S 23 j - g)) 29 j (S 29 j + g)) P T nf nl nb ns nt nk nw := (cE.lot391 hj).lot393 hj
                have cA : CP (s_I (s_I (s_R (s_R (hL_ (s_O h q_106 6) q_106 (nI nl) 1 (S 22 j) (S 0 0)) 389 q_106 (some (P 1 j))) 388 q_106 (some (P 0 i))) 391 (P 1 j) ((S 23 j) - g)) 393 (P 1 j) ((S 29 j) + g)) (u2 (u2 (u2 (u2 (u2 (u2 (u2 (u2 (u2 (u2 (u2 (u2 (u2 S 23 j (S 23 j - g)) 29 j (S 29 j + g)) 21 nl 1) 22 nl (S 22 j)) 23 nl 0) 24 nl (S 0 0)) 25 nl (-1)) 26 nl (-1)) 27 nl (-1)) 28 nl (-1)) 33 nl (-1)) 26 nl (nI j)) 25 nl (nI i)) P T nf nl nb ns nt nk nw := c4.agS (((((((((((AgS.rf.u (r := 21) (i := nl) (v := 1) ⟨by decide, by omega, by omega, by omega, by omega, by omega, by omega, by omega⟩).u (r := 22) (i := nl) (v := (S 22 j)) ⟨by decide, by omega, by omega, by omega, by omega, by omega, by omega, by omega⟩).u (r := 23) (i := nl) (v := 0) ⟨by decide, by omega, by omega, by omega, by omega, by omega, by omega, by omega⟩).u (r := 24) (i := nl) (v := (S 0 0)) ⟨by decide, by omega, by omega, by omega, by omega, by omega, by omega, by omega⟩).u (r := 25) (i := nl) (v := (-1)) ⟨by decide, by omega, by omega, by omega, by omega, by omega, by omega, by omega⟩).u (r := 26) (i := nl) (v := (-1)) ⟨by decide, by omega, by omega, by omega, by omega, by omega, by omega, by omega⟩).u (r := 27) (i := nl) (v := (-1)) ⟨by decide, by omega, by omega, by omega, by omega, by omega, by omega, by omega⟩).u (r := 28) (i := nl) (v := (-1)) ⟨by decide, by omega, by omega, by omega, by omega, by omega, by omega, by omega⟩).u (r := 33) (i := nl) (v := (-1)) ⟨by decide, by omega, by omega, by omega, by omega, by omega, by omega, by omega⟩).u (r := 26) (i := nl) (v := (nI j)) ⟨by decide, by omega, by omega, by omega, by omega, by omega, by omega, by omega⟩).u (r := 25) (i := nl) (v := (nI i)) ⟨by decide, by omega, by omega, by omega, by omega, by omega, by omega, by omega⟩)
                have hno2 : lotInS (u2 (u2 (u2 (u2 (u2 (u2 (u2 (u2 (u2 (u2 (u2 (u2 (u2 S 23 j (S 23 j - g)) 29 j (S 29 j + g)) 21 nl 1) 22 nl (S 22 j)) 23 nl 0) 24 nl (S 0 0)) 25 nl (-1)) 26 nl (-1)) 27 nl (-1)) 28 nl (-1)) 33 nl (-1)) 26 nl (nI j)) 25 nl (nI i)) (nI i) (nI yy) nl = -1 := by
                  rw [← hno]
                  refine ffst_lt (fun k _ hk => ?_)
                  show decide ((if k = nl then _ else S 21 k) = 1 ∧ (if k = nl then _ else if k = nl then _ else S 25 k) = nI i ∧ (if k = nl then _ else S 24 k) = nI yy) = decide (S 21 k = 1 ∧ S 25 k = nI i ∧ S 24 k = nI yy)
                  simp only [if_neg (show ¬ k = nl by omega)]
                have cB := (cA.pushL1 (q := q_106) (f := i) (y := yy) hlt (okI (okI (okR (okR (okL ok_sO))))) (fun i hi => nq hn_106 (c.2.2.2.1 i hi).1.2) (mo_u (x := fun a => if a = nl then (-1) else S 26 a) (v := nI j) (fun a ha => by show (if a = nl then (-1) else S 26 a) = -1 ∨ ∃ j, j < nl ∧ (if a = nl then (-1) else S 26 a) = nI j; rw [if_neg (by omega)]; exact I.mA2 ha) (Or.inr ⟨j, hj, rfl⟩)) (mo_u (x := S 27) (v := -1) (fun a ha => I.mB2 ha) (Or.inl rfl)) I.bl I.wn I.k34 ⟨by rw [gI_n (fun e => (nq hn_106 (c.2.2.2.1 j hj).1.2) e.symm), gI_n (fun e => (nq hn_106 (c.2.2.2.1 j hj).1.2) e.symm), g_IR, g_IR, hL_384], (by rw [gI_n (fun e => (nq hn_106 (c.2.2.2.1 j hj).1.2) e.symm), gI_n (fun e => (nq hn_106 (c.2.2.2.1 j hj).1.2) e.symm), g_IR, g_IR, hL_385]; exact (u2_same (u2 (u2 S 23 j (S 23 j - g)) 29 j (S 29 j + g)) 21 nl 1).symm), (by rw [gI_n (fun e => (nq hn_106 (c.2.2.2.1 j hj).1.2) e.symm), gI_n (fun e => (nq hn_106 (c.2.2.2.1 j hj).1.2) e.symm), g_IR, g_IR, hL_386]; exact (u2_same (u2 (u2 (u2 S 23 j (S 23 j - g)) 29 j (S 29 j + g)) 21 nl 1) 22 nl (S 22 j)).symm), (by rw [gI_n (fun e => (nq hn_106 (c.2.2.2.1 j hj).1.2) e.symm), gI_n (fun e => (nq hn_106 (c.2.2.2.1 j hj).1.2) e.symm), g_IR, g_IR, hL_387]; exact (u2_same (u2 (u2 (u2 (u2 (u2 S 23 j (S 23 j - g)) 29 j (S 29 j + g)) 21 nl 1) 22 nl (S 22 j)) 23 nl 0) 24 nl (S 0 0)).symm)⟩ ⟨by rw [g_RI, g_RI, g_RR, if_pos rfl, if_pos rfl, show (u2 (u2 (u2 (u2 (u2 (u2 (u2 (u2 (u2 (u2 (u2 (u2 (u2 S 23 j (S 23 j - g)) 29 j (S 29 j + g)) 21 nl 1) 22 nl (S 22 j)) 23 nl 0) 24 nl (S 0 0)) 25 nl (-1)) 26 nl (-1)) 27 nl (-1)) 28 nl (-1)) 33 nl (-1)) 26 nl (nI j)) 25 nl (nI i)) 25 nl = (nI i) from (u2_same (u2 (u2 (u2 (u2 (u2 (u2 (u2 (u2 (u2 (u2 (u2 (u2 S 23 j (S 23 j - g)) 29 j (S 29 j + g)) 21 nl 1) 22 nl (S 22 j)) 23 nl 0) 24 nl (S 0 0)) 25 nl (-1)) 26 nl (-1)) 27 nl (-1)) 28 nl (-1)) 33 nl (-1)) 26 nl (nI j)) 25 nl (nI i)), adr_i (by omega)], by rw [g_RI, g_RI, g_RR, if_neg (by decide), g_RR, if_pos rfl, if_pos rfl, show (u2 (u2 (u2 (u2 (u2 (u2 (u2 (u2 (u2 (u2 (u2 (u2 (u2 S 23 j (S 23 j - g)) 29 j (S 29 j + g)) 21 nl 1) 22 nl (S 22 j)) 23 nl 0) 24 nl (S 0 0)) 25 nl (-1)) 26 nl (-1)) 27 nl (-1)) 28 nl (-1)) 33 nl (-1)) 26 nl (nI j)) 25 nl (nI i)) 26 nl = (nI j) from (u2_same (u2 (u2 (u2 (u2 (u2 (u2 (u2 (u2 (u2 (u2 (u2 S 23 j (S 23 j - g)) 29 j (S 29 j + g)) 21 nl 1) 22 nl (S 22 j)) 23 nl 0) 24 nl (S 0 0)) 25 nl (-1)) 26 nl (-1)) 27 nl (-1)) 28 nl (-1)) 33 nl (-1)) 26 nl (nI j)), adr_i (by omega)], by rw [g_RI, g_RI, g_RR, if_neg (by decide), g_RR, if_neg (by decide), hL_r390, show (u2 (u2 (u2 (u2 (u2 (u2 (u2 (u2 (u2 (u2 (u2 (u2 (u2 S 23 j (S 23 j - g)) 29 j (S 29 j + g)) 21 nl 1) 22 nl (S 22 j)) 23 nl 0) 24 nl (S 0 0)) 25 nl (-1)) 26 nl (-1)) 27 nl (-1)) 28 nl (-1)) 33 nl (-1)) 26 nl (nI j)) 25 nl (nI i)) 27 nl = (-1) from (u2_same (u2 (u2 (u2 (u2 (u2 (u2 (u2 (u2 S 23 j (S 23 j - g)) 29 j (S 29 j + g)) 21 nl 1) 22 nl (S 22 j)) 23 nl 0) 24 nl (S 0 0)) 25 nl (-1)) 26 nl (-1)) 27 nl (-1)), adr_n]⟩ ⟨(by rw [gI_n (fun e => (nq hn_106 (c.2.2.2.1 j hj).1.2) e.symm), gI_n (fun e => (nq hn_106 (c.2.2.2.1 j hj).1.2) e.symm), g_IR, g_IR, hL_391]; exact (u2_same (u2 (u2 (u2 (u2 S 23 j (S 23 j - g)) 29 j (S 29 j + g)) 21 nl 1) 22 nl (S 22 j)) 23 nl 0).symm), (by rw [gI_n (fun e => (nq hn_106 (c.2.2.2.1 j hj).1.2) e.symm), gI_n (fun e => (nq hn_106 (c.2.2.2.1 j hj).1.2) e.symm), g_IR, g_IR, hL_392]; exact (u2_same (u2 (u2 (u2 (u2 (u2 (u2 (u2 (u2 (u2 S 23 j (S 23 j - g)) 29 j (S 29 j + g)) 21 nl 1) 22 nl (S 22 j)) 23 nl 0) 24 nl (S 0 0)) 25 nl (-1)) 26 nl (-1)) 27 nl (-1)) 28 nl (-1)).symm), (by rw [gI_n (fun e => (nq hn_106 (c.2.2.2.1 j hj).1.2) e.symm), gI_n (fun e => (nq hn_106 (c.2.2.2.1 j hj).1.2) e.symm), g_IR, g_IR, hL_393]; show (0 : Int32) = (if nl = j then _ else S 29 nl); rw [if_neg (by omega)]; exact (I.ze nl (Nat.le_refl _)).1.symm), (by rw [gI_n (fun e => (nq hn_106 (c.2.2.2.1 j hj).1.2) e.symm), gI_n (fun e => (nq hn_106 (c.2.2.2.1 j hj).1.2) e.symm), g_IR, g_IR, hL_394]; exact (I.ze nl (Nat.le_refl _)).2.1.symm), (by rw [gI_n (fun e => (nq hn_106 (c.2.2.2.1 j hj).1.2) e.symm), gI_n (fun e => (nq hn_106 (c.2.2.2.1 j hj).1.2) e.symm), g_IR, g_IR, hL_395]; exact (I.ze nl (Nat.le_refl _)).2.2.1.symm), (by rw [gI_n (fun e => (nq hn_106 (c.2.2.2.1 j hj).1.2) e.symm), gI_n (fun e => (nq hn_106 (c.2.2.2.1 j hj).1.2) e.symm), g_IR, g_IR, hL_396]; exact (I.ze nl (Nat.le_refl _)).2.2.2.symm), (by rw [gI_n (fun e => (nq hn_106 (c.2.2.2.1 j hj).1.2) e.symm), gI_n (fun e => (nq hn_106 (c.2.2.2.1 j hj).1.2) e.symm), g_IR, g_IR, hL_398]; exact (u2_same (u2 (u2 (u2 (u2 (u2 (u2 (u2 (u2 (u2 (u2 S 23 j (S 23 j - g)) 29 j (S 29 j + g)) 21 nl 1) 22 nl (S 22 j)) 23 nl 0) 24 nl (S 0 0)) 25 nl (-1)) 26 nl (-1)) 27 nl (-1)) 28 nl (-1)) 33 nl (-1)).symm)⟩ (by rw [g_RI, g_RI, g_RR, if_neg (by decide), g_RR, if_neg (by decide), hL_r397]) hi I.fl.2 (by omega) ((u2_same (u2 (u2 S 23 j (S 23 j - g)) 29 j (S 29 j + g)) 21 nl 1)) ((u2_same (u2 (u2 (u2 (u2 (u2 (u2 (u2 (u2 (u2 (u2 (u2 (u2 S 23 j (S 23 j - g)) 29 j (S 29 j + g)) 21 nl 1) 22 nl (S 22 j)) 23 nl 0) 24 nl (S 0 0)) 25 nl (-1)) 26 nl (-1)) 27 nl (-1)) 28 nl (-1)) 33 nl (-1)) 26 nl (nI j)) 25 nl (nI i))) ((u2_same (u2 (u2 (u2 (u2 (u2 S 23 j (S 23 j - g)) 29 j (S 29 j + g)) 21 nl 1) 22 nl (S 22 j)) 23 nl 0) 24 nl (S 0 0)).trans I.yr.1) hno2).book132 (v := nI nl + 1)
                refine cB.agS ?_
                unfold mS_sow
                rw [nI_clamp (n := j) (by omega)]
                refine ⟨?_, ?_, ?_, ?_, ?_, ?_, ?_, fun i h1 => rfl⟩
                · intro k h1
                  rcases (show k = 0 ∨ k = 1 ∨ k = 2 ∨ k = 3 ∨ k = 4 ∨ k = 5 ∨ k = 6 ∨ k = 7 ∨ k = 8 by omega) with rfl | rfl | rfl | rfl | rfl | rfl | rfl | rfl | rfl <;> rfl
                · intro k i_ h1 h2 h3
                  rcases (show k = 9 ∨ k = 10 ∨ k = 11 ∨ k = 12 by omega) with rfl | rfl | rfl | rfl <;> rfl
                · intro k i_ h1 h2 h3
                  rcases (show k = 13 ∨ k = 14 ∨ k = 15 ∨ k = 16 by omega) with rfl | rfl | rfl | rfl <;> rfl
                · intro k i_ h1 h2 h3
                  rcases (show k = 17 ∨ k = 18 ∨ k = 19 ∨ k = 20 by omega) with rfl | rfl | rfl | rfl <;> rfl
                · intro k i_ h1 h2 h3
                  rcases (show k = 21 ∨ k = 22 ∨ k = 23 ∨ k = 24 ∨ k = 25 ∨ k = 26 ∨ k = 27 ∨ k = 28 ∨ k = 29 ∨ k = 30 ∨ k = 31 ∨ k = 32 ∨ k = 33 by omega) with rfl | rfl | rfl | rfl | rfl | rfl | rfl | rfl | rfl | rfl | rfl | rfl | rfl
                  · rfl
                  · rfl
                  · show (if i_ = j then (if j = nl then (0 : Int32) else S 23 j) - g else if i_ = nl then (0 : Int32) else S 23 i_) = (if i_ = nl then (0 : Int32) else if i_ = j then S 23 j - g else S 23 i_)
                    simp only [if_neg njl]
                    by_cases e : i_ = nl
                    · simp only [if_pos e, if_neg (show ¬ i_ = j by omega)]
                    · simp only [if_neg e]
                  · rfl
                  · rfl
                  · rfl
                  · rfl
                  · rfl
                  · rfl
                  · rfl
                  · rfl
                  · rfl
                  · rfl
                · intro k i_ h1 h2 h3
                  rcases (show k = 34 ∨ k = 35 ∨ k = 36 ∨ k = 37 by omega) with rfl | rfl | rfl | rfl <;> rfl
                · intro k i_ h1 h2 h3
                  rcases (show k = 38 ∨ k = 39 ∨ k = 40 ∨ k = 41 by omega) with rfl | rfl | rfl | rfl <;> rfl
              · exact (FrC.sO hn_106).tr (frL.tr (((FrC.sR (by decide)).tr (FrC.sR (by decide))).tr (FrC.sB.tr (((FrC.sI (by decide)).tr (FrC.sI (by decide))).tr (FrC.sB.tr (FrC.sI (by decide)))))))
            | some x_101 =>
              refine j_ifnull C dX10_sow_101 ?_
              refine j_iconst (v := (-1)) C dX10_sow_104 (by decide) ?_
              exact ret _ _ 0 0 _ _ ⟨S, P, T, nl, by rw [m_sow, if_neg (fun z => by have u := z.2.2.2.2.2.2; rw [I.yr.1] at u; rw [u, adr_n] at hq_101; cases hq_101)], c, I.lt, FrC.rf, fun _ => rfl⟩ (Nat.zero_le _) (Nat.zero_le _) dX10_sow_105
          · refine j_aload C dX10_sow_62 rfl ?_
            refine j_gIe (f := 387) (v := (S 24 j)) C fF_X10_118 rfl (c.2.2.2.1 j hj).1.2 (c.2.2.2.1 j hj).2.1.2.2.2 dX10_sow_64 ?_
            refine j_aload_n C dX10_sow_67 rfl ?_
            refine j_gRe (f := 640) (v := .ref (P 5 1)) C fF_X10_10 rfl c.1.1.1 (by rw [c.1.1.2.1]; rfl) dX10_sow_68 ?_
            refine j_gIe (f := 128) (v := (S 0 0)) C fF_X10_67 rfl c.2.1.1 c.2.1.2.1.1 dX10_sow_71 ?_
            refine j_icmp_ne (tgt := 81) C dX10_sow_74 (by decide) (fun c_74 => ?_) (fun c_74 => ?_)
            · refine j_iconst (v := 0) C dX10_sow_81 (by decide) ?_
              refine j_istore (lv' := [(0, .ref (P 5 0)), (1, .int (nI j)), (2, .int (nI i)), (3, .int g), (4, .ref (P 1 j)), (5, .ref (P 0 i)), (6, .int 0)]) C dX10_sow_82 (by decide) rfl ?_
              refine j_iload C dX10_sow_84 rfl ?_
              refine j_if_ne (tgt := 104) C dX10_sow_86 (by decide) (fun c_86 => ?_) (fun c_86 => ?_)
              · exact (show False by revert c_86; decide).elim
              refine j_aload C dX10_sow_89 rfl ?_
              refine j_aload_n C dX10_sow_91 rfl ?_
              refine j_gRe (f := 640) (v := .ref (P 5 1)) C fF_X10_10 rfl c.1.1.1 (by rw [c.1.1.2.1]; rfl) dX10_sow_92 ?_
              refine j_gIe (f := 128) (v := (S 0 0)) C fF_X10_67 rfl c.2.1.1 c.2.1.2.1.1 dX10_sow_95 ?_
              refine j_callVq (As := [.int (S 0 0)]) (rest := []) C fG_X10_121 (k_grownIn (c.2.2.1 i hi).1.2 (c.2.2.1 i hi).2.2.1.1 (c.2.2.1 i hi).2.2.1.2.1 (c.2.2.1 i hi).2.2.1.2.2 (S 0 0)) (c.2.2.1 i hi).1.2 rfl rfl (Nat.le_of_ble_eq_true rfl) ⟨Nat.le_of_ble_eq_true rfl, Nat.le_of_ble_eq_true rfl⟩ ⟨Nat.le_of_ble_eq_true rfl, Nat.le_of_ble_eq_true rfl⟩ dX10_sow_98 (fun r_98 h_98 e_98 => ?_)
              obtain ⟨e1_98, e2_98⟩ := e_98
              rw [I.yr.1, grw_nI (by omega), ((c.2.2.1 i hi).2.2.2.2 yy (by omega)).1] at e1_98
              subst e1_98
              replace e2_98 := e2_98.symm
              subst e2_98
              cases hq_101 : (adr P 1 (lotInS S (nI i) (nI yy) nl)) with
              | none =>
                refine j_ifnullN (tgt := 106) C dX10_sow_101 (by decide) ?_
                have hlt : nl < 200 := nI_lt_of (n := 200) (Int32.not_le.mpr c_49) (by omega)
                have njl : ¬ j = nl := by omega
                have hno : lotInS S (nI i) (nI yy) nl = -1 := by
                  rcases lotIn_or (S := S) (f := nI i) (y := nI yy) hnl with z | ⟨a, a1, a2⟩
                  · exact z
                  · rw [a2, adr_i (by omega)] at hq_101; cases hq_101
                refine j_new C fO_X10_94 (Nat.le_of_ble_eq_true rfl) (Nat.le_of_ble_eq_true rfl) dX10_sow_106 (fun q_106 hn_106 => ?_)
                refine j_dup C dX10_sow_109 rfl ?_
                refine j_aload_n C dX10_sow_110 rfl ?_
                refine j_gRe (f := 640) (v := .ref (P 5 1)) C fF_X10_10 rfl (okO hn_106 c.1.1.1) (by rw [gR_O (nq hn_106 c.1.1.1), c.1.1.2.1]; rfl) dX10_sow_111 ?_
                refine j_gIe (f := 132) (v := (nI nl)) C fF_X10_91 rfl (okO hn_106 c.2.1.1) (by rw [gI_O (nq hn_106 c.2.1.1), c.2.1.2.1.2.2.1]; exact I.lt.1) dX10_sow_114 ?_
                refine j_iconst (v := 1) C dX10_sow_117 (by decide) ?_
                refine j_aload C dX10_sow_118 rfl ?_
                refine j_gIe (f := 386) (v := (S 22 j)) C fF_X10_124 rfl (okO hn_106 (c.2.2.2.1 j hj).1.2) (by rw [gI_O (nq hn_106 (c.2.2.2.1 j hj).1.2)]; exact (c.2.2.2.1 j hj).2.1.2.2.1) dX10_sow_120 ?_
                refine j_aload_n C dX10_sow_123 rfl ?_
                refine j_gRe (f := 640) (v := .ref (P 5 1)) C fF_X10_10 rfl (okO hn_106 c.1.1.1) (by rw [gR_O (nq hn_106 c.1.1.1), c.1.1.2.1]; rfl) dX10_sow_124 ?_
                refine j_gIe (f := 128) (v := (S 0 0)) C fF_X10_67 rfl (okO hn_106 c.2.1.1) (by rw [gI_O (nq hn_106 c.2.1.1)]; exact c.2.1.2.1.1) dX10_sow_127 ?_
                refine j_callIv (ret := none) (As := [.int (nI nl), .int 1, .int (S 22 j), .int (S 0 0)]) (rest := [.ref q_106]) C fG_X10_96 (k_Linit (a := q_106) ok_sO (nI nl) 1 (S 22 j) (S 0 0)) rfl rfl (Nat.le_of_ble_eq_true rfl) ⟨Nat.le_of_ble_eq_true rfl, Nat.le_of_ble_eq_true rfl⟩ ⟨Nat.le_of_ble_eq_true rfl, Nat.le_of_ble_eq_true rfl⟩ dX10_sow_130 (fun h_130 e_130 => ?_)
                subst e_130
                refine j_astore (lv' := [(0, .ref (P 5 0)), (1, .int (nI j)), (2, .int (nI i)), (3, .int g), (4, .ref (P 1 j)), (5, .ref (P 0 i)), (6, .int 0), (7, .ref q_106)]) C dX10_sow_133 (by decide) rfl ?_
                refine j_aload C dX10_sow_135 rfl ?_
                refine j_aload C dX10_sow_137 rfl ?_
                refine j_pR (f := 389) (v := (some (P 1 j))) C fP_X10_127 rfl (okL ok_sO) rfl rfl rfl dX10_sow_139 ?_
                refine j_aload C dX10_sow_142 rfl ?_
                refine j_aload C dX10_sow_144 rfl ?_
                refine j_pR (f := 388) (v := (some (P 0 i))) C fP_X10_131 rfl (okR (okL ok_sO)) rfl rfl rfl dX10_sow_146 ?_
                refine j_aload C dX10_sow_149 rfl ?_
                refine j_aload C dX10_sow_151 rfl ?_
                refine j_callVv (As := [.ref q_106]) (rest := []) C fG_X10_135 (k_grow (a := (P 0 i)) (g := (P 3 i)) (b := q_106) (okR (okR (okL (okO hn_106 (c.2.2.1 i hi).1.2)))) (by rw [gR_n (nq hn_106 (c.2.2.1 i hi).1.2), gR_n (nq hn_106 (c.2.2.1 i hi).1.2), hL_Rn (nq hn_106 (c.2.2.1 i hi).1.2), gR_O (nq hn_106 (c.2.2.1 i hi).1.2)]; exact (c.2.2.1 i hi).2.2.1.1) (okR (okR (okL (okO hn_106 (c.2.2.1 i hi).2.2.1.2.1)))) (by rw [g_NR, g_NR, hL_N, g_NO]; exact (c.2.2.1 i hi).2.2.1.2.2) (okR (okR (okL ok_sO)))) (okR (okR (okL (okO hn_106 (c.2.2.1 i hi).1.2)))) rfl rfl (Nat.le_of_ble_eq_true rfl) ⟨Nat.le_of_ble_eq_true rfl, Nat.le_of_ble_eq_true rfl⟩ ⟨Nat.le_of_ble_eq_true rfl, Nat.le_of_ble_eq_true rfl⟩ dX10_sow_153 (fun h_153 e_153 => ?_)
                have ey : h_I (s_R (s_R (hL_ (s_O h q_106 6) q_106 (nI nl) 1 (S 22 j) (S 0 0)) 389 q_106 (some (P 1 j))) 388 q_106 (some (P 0 i))) 387 q_106 = nI yy := by rw [g_IR, g_IR, hL_387]; exact I.yr.1
                rw [ey, if_pos ⟨nI_pos (by omega), fun z => absurd (nI_ge_of (n := 41) z (by omega) (by omega)) (by omega)⟩, nI_clamp (by omega)] at e_153
                subst e_153
                refine j_aload C dX10_sow_156 rfl ?_
                refine j_dup C dX10_sow_158 rfl ?_
                refine j_gIe (f := 391) (v := (S 23 j)) C fF_X10_139 rfl (okB (okR (okR (okL (okO hn_106 (c.2.2.2.1 j hj).1.2))))) (by rw [g_IB, g_IR, g_IR, hL_In (nq hn_106 (c.2.2.2.1 j hj).1.2), gI_O (nq hn_106 (c.2.2.2.1 j hj).1.2)]; exact (c.2.2.2.1 j hj).2.2.2.1.1) dX10_sow_159 ?_
                refine j_iload_n C dX10_sow_162 rfl ?_
                refine j_isub C dX10_sow_163 ?_
                refine j_pI (f := 391) C fP_X10_139 rfl (okB (okR (okR (okL (okO hn_106 (c.2.2.2.1 j hj).1.2))))) rfl rfl dX10_sow_164 ?_
                refine j_aload C dX10_sow_167 rfl ?_
                refine j_dup C dX10_sow_169 rfl ?_
                refine j_gIe (f := 393) (v := (S 29 j)) C fF_X10_142 rfl (okI (okB (okR (okR (okL (okO hn_106 (c.2.2.2.1 j hj).1.2)))))) (by rw [g_II, if_neg (by decide), g_IB, g_IR, g_IR, hL_In (nq hn_106 (c.2.2.2.1 j hj).1.2), gI_O (nq hn_106 (c.2.2.2.1 j hj).1.2)]; exact (c.2.2.2.1 j hj).2.2.2.1.2.2.1) dX10_sow_170 ?_
                refine j_iload_n C dX10_sow_173 rfl ?_
                refine j_iadd C dX10_sow_174 ?_
                refine j_pI (f := 393) C fP_X10_142 rfl (okI (okB (okR (okR (okL (okO hn_106 (c.2.2.2.1 j hj).1.2)))))) rfl rfl dX10_sow_175 ?_
                refine j_aload_n C dX10_sow_178 rfl ?_
                refine j_gRe (f := 640) (v := .ref (P 5 1)) C fF_X10_10 rfl (okI (okI (okB (okR (okR (okL (okO hn_106 c.1.1.1))))))) (by rw [g_RI, g_RI, g_RB, gR_n (nq hn_106 c.1.1.1), gR_n (nq hn_106 c.1.1.1), hL_Rn (nq hn_106 c.1.1.1), gR_O (nq hn_106 c.1.1.1), c.1.1.2.1]; rfl) dX10_sow_179 ?_
                refine j_aload C dX10_sow_182 rfl ?_
                refine j_callVi (As := [.ref q_106]) (rest := []) C fG_X10_103 (k_addLot (a := (P 5 1)) (b := (P 5 7)) (x := q_106) (n := nl) (okI (okI (okB (okR (okR (okL (okO hn_106 c.2.1.1))))))) (by rw [g_RI, g_RI, g_RB, gR_n (nq hn_106 c.2.1.1), gR_n (nq hn_106 c.2.1.1), hL_Rn (nq hn_106 c.2.1.1), gR_O (nq hn_106 c.2.1.1)]; exact c.2.1.2.2.2.1.1) (okI (okI (okB (okR (okR (okL (okO hn_106 c.2.1.2.2.2.1.2.1))))))) (by rw [g_NI, g_NI, g_NB, g_NR, g_NR, hL_N, g_NO]; exact c.2.1.2.2.2.1.2.2) (by rw [gI_n (fun e => absurd (ok_ne c.2.1.1 (c.2.2.2.1 j hj).1.2 (by decide)) (fun z => z e)), gI_n (fun e => absurd (ok_ne c.2.1.1 (c.2.2.2.1 j hj).1.2 (by decide)) (fun z => z e)), g_IB, g_IR, g_IR, hL_In (nq hn_106 c.2.1.1), gI_O (nq hn_106 c.2.1.1), c.2.1.2.1.2.2.1]; exact I.lt.1) hlt (okI (okI (okB (okR (okR (okL ok_sO))))))) (okI (okI (okB (okR (okR (okL (okO hn_106 c.2.1.1))))))) rfl rfl (Nat.le_of_ble_eq_true rfl) ⟨Nat.le_of_ble_eq_true rfl, Nat.le_of_ble_eq_true rfl⟩ ⟨Nat.le_of_ble_eq_true rfl, Nat.le_of_ble_eq_true rfl⟩ dX10_sow_184 (fun r_184 h_184 e_184 => ?_)
                obtain ⟨e1_184, e2_184⟩ := e_184
                subst e1_184
                subst e2_184
                refine ret _ _ _ _ _ _ ⟨mS_sow S (nI j) (nI i) g nl, u2 P 1 nl q_106, upU T 2 nl [], nl + 1, ?_, ?_, ⟨nI_1 _, by omega⟩, ?_, fun _ => rfl⟩ (Nat.le_of_ble_eq_true rfl) (Nat.le_of_ble_eq_true rfl) dX10_sow_187
                · rw [m_sow, if_pos ⟨hL1, hL2, c_36.1, Int32.not_le.mpr c_49, by rw [nI_clamp (by omega), ← (c.2.2.2.1 j hj).2.2.2.1.1]; exact c_36.2, by rw [nI_clamp (by omega)]; exact Or.inr c_74, by rw [I.yr.1]; exact hno⟩, nI_1, nI_pred]
                · have cE : CP (s_R (s_R (hL_ (s_O h q_106 6) q_106 (nI nl) 1 (S 22 j) (S 0 0)) 389 q_106 (some (P 1 j))) 388 q_106 (some (P 0 i))) S P T nf nl nb ns nt nk nw := c.ex (((exL (Ex.sO hn_106) hn_106).sR hn_106).sR hn_106)
                  have c4 : CP (s_I (s_I (s_R (s_R (hL_ (s_O h q_106 6) q_106 (nI nl) 1 (S 22 j) (S 0 0)) 389 q_106 (some (P 1 j))) 388 q_106 (some (P 0 i))) 391 (P 1 j) ((S 23 j) - g)) 393 (P 1 j) ((S 29 j) + g)) (u2 (u2 S 23 j (S 23 j - g)) 29 j (S 29 j + g)) P T nf nl nb ns nt nk nw := (cE.lot391 hj).lot393 hj
                  have cA : CP (s_I (s_I (s_R (s_R (hL_ (s_O h q_106 6) q_106 (nI nl) 1 (S 22 j) (S 0 0)) 389 q_106 (some (P 1 j))) 388 q_106 (some (P 0 i))) 391 (P 1 j) ((S 23 j) - g)) 393 (P 1 j) ((S 29 j) + g)) (u2 (u2 (u2 (u2 (u2 (u2 (u2 (u2 (u2 (u2 (u2 (u2 (u2 S 23 j (S 23 j - g)) 29 j (S 29 j + g)) 21 nl 1) 22 nl (S 22 j)) 23 nl 0) 24 nl (S 0 0)) 25 nl (-1)) 26 nl (-1)) 27 nl (-1)) 28 nl (-1)) 33 nl (-1)) 26 nl (nI j)) 25 nl (nI i)) P T nf nl nb ns nt nk nw := c4.agS (((((((((((AgS.rf.u (r := 21) (i := nl) (v := 1) ⟨by decide, by omega, by omega, by omega, by omega, by omega, by omega, by omega⟩).u (r := 22) (i := nl) (v := (S 22 j)) ⟨by decide, by omega, by omega, by omega, by omega, by omega, by omega, by omega⟩).u (r := 23) (i := nl) (v := 0) ⟨by decide, by omega, by omega, by omega, by omega, by omega, by omega, by omega⟩).u (r := 24) (i := nl) (v := (S 0 0)) ⟨by decide, by omega, by omega, by omega, by omega, by omega, by omega, by omega⟩).u (r := 25) (i := nl) (v := (-1)) ⟨by decide, by omega, by omega, by omega, by omega, by omega, by omega, by omega⟩).u (r := 26) (i := nl) (v := (-1)) ⟨by decide, by omega, by omega, by omega, by omega, by omega, by omega, by omega⟩).u (r := 27) (i := nl) (v := (-1)) ⟨by decide, by omega, by omega, by omega, by omega, by omega, by omega, by omega⟩).u (r := 28) (i := nl) (v := (-1)) ⟨by decide, by omega, by omega, by omega, by omega, by omega, by omega, by omega⟩).u (r := 33) (i := nl) (v := (-1)) ⟨by decide, by omega, by omega, by omega, by omega, by omega, by omega, by omega⟩).u (r := 26) (i := nl) (v := (nI j)) ⟨by decide, by omega, by omega, by omega, by omega, by omega, by omega, by omega⟩).u (r := 25) (i := nl) (v := (nI i)) ⟨by decide, by omega, by omega, by omega, by omega, by omega, by omega, by omega⟩)
                  have hno2 : lotInS (u2 (u2 (u2 (u2 (u2 (u2 (u2 (u2 (u2 (u2 (u2 (u2 (u2 S 23 j (S 23 j - g)) 29 j (S 29 j + g)) 21 nl 1) 22 nl (S 22 j)) 23 nl 0) 24 nl (S 0 0)) 25 nl (-1)) 26 nl (-1)) 27 nl (-1)) 28 nl (-1)) 33 nl (-1)) 26 nl (nI j)) 25 nl (nI i)) (nI i) (nI yy) nl = -1 := by
                    rw [← hno]
                    refine ffst_lt (fun k _ hk => ?_)
                    show decide ((if k = nl then _ else S 21 k) = 1 ∧ (if k = nl then _ else if k = nl then _ else S 25 k) = nI i ∧ (if k = nl then _ else S 24 k) = nI yy) = decide (S 21 k = 1 ∧ S 25 k = nI i ∧ S 24 k = nI yy)
                    simp only [if_neg (show ¬ k = nl by omega)]
                  have cB := (cA.pushL1 (q := q_106) (f := i) (y := yy) hlt (okI (okI (okR (okR (okL ok_sO))))) (fun i hi => nq hn_106 (c.2.2.2.1 i hi).1.2) (mo_u (x := fun a => if a = nl then (-1) else S 26 a) (v := nI j) (fun a ha => by show (if a = nl then (-1) else S 26 a) = -1 ∨ ∃ j, j < nl ∧ (if a = nl then (-1) else S 26 a) = nI j; rw [if_neg (by omega)]; exact I.mA2 ha) (Or.inr ⟨j, hj, rfl⟩)) (mo_u (x := S 27) (v := -1) (fun a ha => I.mB2 ha) (Or.inl rfl)) I.bl I.wn I.k34 ⟨by rw [gI_n (fun e => (nq hn_106 (c.2.2.2.1 j hj).1.2) e.symm), gI_n (fun e => (nq hn_106 (c.2.2.2.1 j hj).1.2) e.symm), g_IR, g_IR, hL_384], (by rw [gI_n (fun e => (nq hn_106 (c.2.2.2.1 j hj).1.2) e.symm), gI_n (fun e => (nq hn_106 (c.2.2.2.1 j hj).1.2) e.symm), g_IR, g_IR, hL_385]; exact (u2_same (u2 (u2 S 23 j (S 23 j - g)) 29 j (S 29 j + g)) 21 nl 1).symm), (by rw [gI_n (fun e => (nq hn_106 (c.2.2.2.1 j hj).1.2) e.symm), gI_n (fun e => (nq hn_106 (c.2.2.2.1 j hj).1.2) e.symm), g_IR, g_IR, hL_386]; exact (u2_same (u2 (u2 (u2 S 23 j (S 23 j - g)) 29 j (S 29 j + g)) 21 nl 1) 22 nl (S 22 j)).symm), (by rw [gI_n (fun e => (nq hn_106 (c.2.2.2.1 j hj).1.2) e.symm), gI_n (fun e => (nq hn_106 (c.2.2.2.1 j hj).1.2) e.symm), g_IR, g_IR, hL_387]; exact (u2_same (u2 (u2 (u2 (u2 (u2 S 23 j (S 23 j - g)) 29 j (S 29 j + g)) 21 nl 1) 22 nl (S 22 j)) 23 nl 0) 24 nl (S 0 0)).symm)⟩ ⟨by rw [g_RI, g_RI, g_RR, if_pos rfl, if_pos rfl, show (u2 (u2 (u2 (u2 (u2 (u2 (u2 (u2 (u2 (u2 (u2 (u2 (u2 S 23 j (S 23 j - g)) 29 j (S 29 j + g)) 21 nl 1) 22 nl (S 22 j)) 23 nl 0) 24 nl (S 0 0)) 25 nl (-1)) 26 nl (-1)) 27 nl (-1)) 28 nl (-1)) 33 nl (-1)) 26 nl (nI j)) 25 nl (nI i)) 25 nl = (nI i) from (u2_same (u2 (u2 (u2 (u2 (u2 (u2 (u2 (u2 (u2 (u2 (u2 (u2 S 23 j (S 23 j - g)) 29 j (S 29 j + g)) 21 nl 1) 22 nl (S 22 j)) 23 nl 0) 24 nl (S 0 0)) 25 nl (-1)) 26 nl (-1)) 27 nl (-1)) 28 nl (-1)) 33 nl (-1)) 26 nl (nI j)) 25 nl (nI i)), adr_i (by omega)], by rw [g_RI, g_RI, g_RR, if_neg (by decide), g_RR, if_pos rfl, if_pos rfl, show (u2 (u2 (u2 (u2 (u2 (u2 (u2 (u2 (u2 (u2 (u2 (u2 (u2 S 23 j (S 23 j - g)) 29 j (S 29 j + g)) 21 nl 1) 22 nl (S 22 j)) 23 nl 0) 24 nl (S 0 0)) 25 nl (-1)) 26 nl (-1)) 27 nl (-1)) 28 nl (-1)) 33 nl (-1)) 26 nl (nI j)) 25 nl (nI i)) 26 nl = (nI j) from (u2_same (u2 (u2 (u2 (u2 (u2 (u2 (u2 (u2 (u2 (u2 (u2 S 23 j (S 23 j - g)) 29 j (S 29 j + g)) 21 nl 1) 22 nl (S 22 j)) 23 nl 0) 24 nl (S 0 0)) 25 nl (-1)) 26 nl (-1)) 27 nl (-1)) 28 nl (-1)) 33 nl (-1)) 26 nl (nI j)), adr_i (by omega)], by rw [g_RI, g_RI, g_RR, if_neg (by decide), g_RR, if_neg (by decide), hL_r390, show (u2 (u2 (u2 (u2 (u2 (u2 (u2 (u2 (u2 (u2 (u2 (u2 (u2 S 23 j (S 23 j - g)) 29 j (S 29 j + g)) 21 nl 1) 22 nl (S 22 j)) 23 nl 0) 24 nl (S 0 0)) 25 nl (-1)) 26 nl (-1)) 27 nl (-1)) 28 nl (-1)) 33 nl (-1)) 26 nl (nI j)) 25 nl (nI i)) 27 nl = (-1) from (u2_same (u2 (u2 (u2 (u2 (u2 (u2 (u2 (u2 S 23 j (S 23 j - g)) 29 j (S 29 j + g)) 21 nl 1) 22 nl (S 22 j)) 23 nl 0) 24 nl (S 0 0)) 25 nl (-1)) 26 nl (-1)) 27 nl (-1)), adr_n]⟩ ⟨(by rw [gI_n (fun e => (nq hn_106 (c.2.2.2.1 j hj).1.2) e.symm), gI_n (fun e => (nq hn_106 (c.2.2.2.1 j hj).1.2) e.symm), g_IR, g_IR, hL_391]; exact (u2_same (u2 (u2 (u2 (u2 S 23 j (S 23 j - g)) 29 j (S 29 j + g)) 21 nl 1) 22 nl (S 22 j)) 23 nl 0).symm), (by rw [gI_n (fun e => (nq hn_106 (c.2.2.2.1 j hj).1.2) e.symm), gI_n (fun e => (nq hn_106 (c.2.2.2.1 j hj).1.2) e.symm), g_IR, g_IR, hL_392]; exact (u2_same (u2 (u2 (u2 (u2 (u2 (u2 (u2 (u2 (u2 S 23 j (S 23 j - g)) 29 j (S 29 j + g)) 21 nl 1) 22 nl (S 22 j)) 23 nl 0) 24 nl (S 0 0)) 25 nl (-1)) 26 nl (-1)) 27 nl (-1)) 28 nl (-1)).symm), (by rw [gI_n (fun e => (nq hn_106 (c.2.2.2.1 j hj).1.2) e.symm), gI_n (fun e => (nq hn_106 (c.2.2.2.1 j hj).1.2) e.symm), g_IR, g_IR, hL_393]; show (0 : Int32) = (if nl = j then _ else S 29 nl); rw [if_neg (by omega)]; exact (I.ze nl (Nat.le_refl _)).1.symm), (by rw [gI_n (fun e => (nq hn_106 (c.2.2.2.1 j hj).1.2) e.symm), gI_n (fun e => (nq hn_106 (c.2.2.2.1 j hj).1.2) e.symm), g_IR, g_IR, hL_394]; exact (I.ze nl (Nat.le_refl _)).2.1.symm), (by rw [gI_n (fun e => (nq hn_106 (c.2.2.2.1 j hj).1.2) e.symm), gI_n (fun e => (nq hn_106 (c.2.2.2.1 j hj).1.2) e.symm), g_IR, g_IR, hL_395]; exact (I.ze nl (Nat.le_refl _)).2.2.1.symm), (by rw [gI_n (fun e => (nq hn_106 (c.2.2.2.1 j hj).1.2) e.symm), gI_n (fun e => (nq hn_106 (c.2.2.2.1 j hj).1.2) e.symm), g_IR, g_IR, hL_396]; exact (I.ze nl (Nat.le_refl _)).2.2.2.symm), (by rw [gI_n (fun e => (nq hn_106 (c.2.2.2.1 j hj).1.2) e.symm), gI_n (fun e => (nq hn_106 (c.2.2.2.1 j hj).1.2) e.symm), g_IR, g_IR, hL_398]; exact (u2_same (u2 (u2 (u2 (u2 (u2 (u2 (u2 (u2 (u2 (u2 S 23 j (S 23 j - g)) 29 j (S 29 j + g)) 21 nl 1) 22 nl (S 22 j)) 23 nl 0) 24 nl (S 0 0)) 25 nl (-1)) 26 nl (-1)) 27 nl (-1)) 28 nl (-1)) 33 nl (-1)).symm)⟩ (by rw [g_RI, g_RI, g_RR, if_neg (by decide), g_RR, if_neg (by decide), hL_r397]) hi I.fl.2 (by omega) ((u2_same (u2 (u2 S 23 j (S 23 j - g)) 29 j (S 29 j + g)) 21 nl 1)) ((u2_same (u2 (u2 (u2 (u2 (u2 (u2 (u2 (u2 (u2 (u2 (u2 (u2 S 23 j (S 23 j - g)) 29 j (S 29 j + g)) 21 nl 1) 22 nl (S 22 j)) 23 nl 0) 24 nl (S 0 0)) 25 nl (-1)) 26 nl (-1)) 27 nl (-1)) 28 nl (-1)) 33 nl (-1)) 26 nl (nI j)) 25 nl (nI i))) ((u2_same (u2 (u2 (u2 (u2 (u2 S 23 j (S 23 j - g)) 29 j (S 29 j + g)) 21 nl 1) 22 nl (S 22 j)) 23 nl 0) 24 nl (S 0 0)).trans I.yr.1) hno2).book132 (v := nI nl + 1)
                  refine cB.agS ?_
                  unfold mS_sow
                  rw [nI_clamp (n := j) (by omega)]
                  refine ⟨?_, ?_, ?_, ?_, ?_, ?_, ?_, fun i h1 => rfl⟩
                  · intro k h1
                    rcases (show k = 0 ∨ k = 1 ∨ k = 2 ∨ k = 3 ∨ k = 4 ∨ k = 5 ∨ k = 6 ∨ k = 7 ∨ k = 8 by omega) with rfl | rfl | rfl | rfl | rfl | rfl | rfl | rfl | rfl <;> rfl
                  · intro k i_ h1 h2 h3
                    rcases (show k = 9 ∨ k = 10 ∨ k = 11 ∨ k = 12 by omega) with rfl | rfl | rfl | rfl <;> rfl
                  · intro k i_ h1 h2 h3
                    rcases (show k = 13 ∨ k = 14 ∨ k = 15 ∨ k = 16 by omega) with rfl | rfl | rfl | rfl <;> rfl
                  · intro k i_ h1 h2 h3
                    rcases (show k = 17 ∨ k = 18 ∨ k = 19 ∨ k = 20 by omega) with rfl | rfl | rfl | rfl <;> rfl
                  · intro k i_ h1 h2 h3
                    rcases (show k = 21 ∨ k = 22 ∨ k = 23 ∨ k = 24 ∨ k = 25 ∨ k = 26 ∨ k = 27 ∨ k = 28 ∨ k = 29 ∨ k = 30 ∨ k = 31 ∨ k = 32 ∨ k = 33 by omega) with rfl | rfl | rfl | rfl | rfl | rfl | rfl | rfl | rfl | rfl | rfl | rfl | rfl
                    · rfl
                    · rfl
                    · show (if i_ = j then (if j = nl then (0 : Int32) else S 23 j) - g else if i_ = nl then (0 : Int32) else S 23 i_) = (if i_ = nl then (0 : Int32) else if i_ = j then S 23 j - g else S 23 i_)
                      simp only [if_neg njl]
                      by_cases e : i_ = nl
                      · simp only [if_pos e, if_neg (show ¬ i_ = j by omega)]
                      · simp only [if_neg e]
                    · rfl
                    · rfl
                    · rfl
                    · rfl
                    · rfl
                    · rfl
                    · rfl
                    · rfl
                    · rfl
                    · rfl
                  · intro k i_ h1 h2 h3
                    rcases (show k = 34 ∨ k = 35 ∨ k = 36 ∨ k = 37 by omega) with rfl | rfl | rfl | rfl <;> rfl
                  · intro k i_ h1 h2 h3
                    rcases (show k = 38 ∨ k = 39 ∨ k = 40 ∨ k = 41 by omega) with rfl | rfl | rfl | rfl <;> rfl
                · exact (FrC.sO hn_106).tr (frL.tr (((FrC.sR (by decide)).tr (FrC.sR (by decide))).tr (FrC.sB.tr (((FrC.sI (by decide)).tr (FrC.sI (by decide))).tr (FrC.sB.tr (FrC.sI (by decide)))))))
              | some x_101 =>
                refine j_ifnull C dX10_sow_101 ?_
                refine j_iconst (v := (-1)) C dX10_sow_104 (by decide) ?_
                exact ret _ _ 0 0 _ _ ⟨S, P, T, nl, by rw [m_sow, if_neg (fun z => by have u := z.2.2.2.2.2.2; rw [I.yr.1] at u; rw [u, adr_n] at hq_101; cases hq_101)], c, I.lt, FrC.rf, fun _ => rfl⟩ (Nat.zero_le _) (Nat.zero_le _) dX10_sow_105
            · refine j_iconst (v := 1) C dX10_sow_77 (by decide) ?_
              refine j_goto (tgt := 82) C dX10_sow_78 (by decide) ?_
              refine j_istore (lv' := [(0, .ref (P 5 0)), (1, .int (nI j)), (2, .int (nI i)), (3, .int g), (4, .ref (P 1 j)), (5, .ref (P 0 i)), (6, .int 1)]) C dX10_sow_82 (by decide) rfl ?_
              refine j_iload C dX10_sow_84 rfl ?_
              refine j_if_ne (tgt := 104) C dX10_sow_86 (by decide) (fun c_86 => ?_) (fun c_86 => ?_)
              · refine j_iconst (v := (-1)) C dX10_sow_104 (by decide) ?_
                exact ret _ _ 0 0 _ _ ⟨S, P, T, nl, by rw [m_sow, if_neg (fun z => by have u := z.2.2.2.2.2.1; rw [nI_clamp (by omega)] at u; exact u.elim c_59 (fun w => w c_74))], c, I.lt, FrC.rf, fun _ => rfl⟩ (Nat.zero_le _) (Nat.zero_le _) dX10_sow_105
              · exact (show False by revert c_86; decide).elim
        · refine j_iconst (v := (-1)) C dX10_sow_52 (by decide) ?_
          exact ret _ _ 0 0 _ _ ⟨S, P, T, nl, by rw [m_sow, if_neg (fun z => c_49 (Int32.not_le.mp z.2.2.2.1))], c, I.lt, FrC.rf, fun _ => rfl⟩ (Nat.zero_le _) (Nat.zero_le _) dX10_sow_53
