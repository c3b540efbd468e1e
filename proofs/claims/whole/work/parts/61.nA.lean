theorem okO {h : jH} {q a k c : Nat} (hq : q ∉ h_L h) (o : h_ok h a k) : h_ok (s_O h q c) a k := ⟨by rw [g_LO]; exact List.mem_append_left _ o.1, by rw [g_KO, if_neg (fun e : a = q => hq (e ▸ o.1))]; exact o.2⟩
theorem okN {h : jH} {q a k c N : Nat} (hq : q ∉ h_L h) (o : h_ok h a k) : h_ok (s_N h q c N) a k := ⟨by rw [g_LN]; exact List.mem_append_left _ o.1, by rw [g_KN, if_neg (fun e : a = q => hq (e ▸ o.1))]; exact o.2⟩
theorem ok_sO {h : jH} {q c : Nat} : h_ok (s_O h q c) q c := ⟨by rw [g_LO]; exact List.mem_append_right _ (List.mem_singleton.mpr rfl), by rw [g_KO, if_pos rfl]⟩
theorem ok_sN {h : jH} {q c N : Nat} : h_ok (s_N h q c N) q c := ⟨by rw [g_LN]; exact List.mem_append_right _ (List.mem_singleton.mpr rfl), by rw [g_KN, if_pos rfl]⟩
theorem nq {h : jH} {q a k : Nat} (hq : q ∉ h_L h) (o : h_ok h a k) : a ≠ q := fun e => hq (e ▸ o.1)
theorem sO_sI {h : jH} {q k f a : Nat} {v : Int32} (n : a ≠ q) : s_I (s_O h q k) f a v = s_O (s_I h f a v) q k := by
  have e : u2 (z2 h.2.2.2.1 q 0) f a v = z2 (u2 h.2.2.2.1 f a v) q 0 := by
    funext f' a'
    unfold u2 z2
    by_cases e1 : a' = q
    · have n1 : ¬ a' = a := fun z => n (z.symm.trans e1)
      simp only [if_pos e1, if_neg n1, ite_self]
    · simp only [if_neg e1]
  unfold s_I s_O
  rw [e]
theorem okT {h : jH} {a b k : Nat} {r : Option Nat} {t cr : Int32} (o : h_ok h a k) : h_ok (hT_ h b r t cr) a k := o
set_option maxHeartbeats 4000000 in
set_option maxRecDepth 100000 in
theorem k_tell {l : Launch} {D : va_G} {cy : Nat → ClassId} {h : jH} {a b y : Nat} (oa : h_ok h a 3) (hb : h_R h 198 a = some b) (ob : h_ok h b 17) (hn : h_N h b = 41) (hy : y < 41) (cr t : Int32) : jV l D cy yX3_tell (.code yX3_tell cX3_tell 4 ((Option.none : Option FieldType))) (rmd 2 1 3) [.ref a, .int (nI y), .int cr, .int t] h (fun h' => ∃ q, q ∉ h_L h ∧ h' = s_B (hT_ (s_O h q 9) q (h_B h b y) t cr) b y (some q)) := by
  refine j_ofV (by decide) (Nat.le_of_ble_eq_true rfl) (fun p e s m args below meth c0 Q C hin ret => ?_)
  refine j_iload_n C dX3_tell_0 rfl ?_
  refine j_if_lt (tgt := 34) C dX3_tell_1 (by decide) (fun c_1 => ?_) (fun c_1 => ?_)
  · exact absurd c_1 (nI_pos (by omega))
  · refine j_iload_n C dX3_tell_4 rfl ?_
    refine j_aload_n C dX3_tell_5 rfl ?_
    refine j_gRe (f := 198) (v := .ref b) C fF_X3_19 rfl oa (by rw [hb]; rfl) dX3_tell_6 ?_
    refine j_alen (k := 17) (v := 41) C ob ⟨by decide, rfl⟩ (congrArg nI hn) dX3_tell_9 ?_
    refine j_icmp_ge (tgt := 34) C dX3_tell_10 (by decide) (fun c_10 => ?_) (fun c_10 => ?_)
    · exact absurd (nI_ge_of (n := 41) c_10 (by omega) (by omega)) (by omega)
    · refine j_aload_n C dX3_tell_13 rfl ?_
      refine j_gRe (f := 198) (v := .ref b) C fF_X3_19 rfl oa (by rw [hb]; rfl) dX3_tell_14 ?_
      refine j_iload_n C dX3_tell_17 rfl ?_
      refine j_new C fO_X3_17 (Nat.le_of_ble_eq_true rfl) (Nat.le_of_ble_eq_true rfl) dX3_tell_18 (fun q_18 hn_18 => ?_)
      refine j_dup C dX3_tell_21 rfl ?_
      refine j_aload_n C dX3_tell_22 rfl ?_
      refine j_gRe (f := 198) (v := .ref b) C fF_X3_19 rfl (okO hn_18 oa) (by show va_rf (h_R (s_O h q_18 9) 198 a) = _; rw [g_RO, if_neg (nq hn_18 oa), hb]; rfl) dX3_tell_23 ?_
      refine j_iload_n C dX3_tell_26 rfl ?_
      refine j_aaldN (k := 17) C (okO hn_18 ob) (by decide) rfl ⟨hn, by omega, by decide⟩ (by show va_rf (h_B h b y) = _; rfl) dX3_tell_27 ?_
      refine j_iload_n C dX3_tell_28 rfl ?_
      refine j_iload_n C dX3_tell_29 rfl ?_
      refine j_callIv (ret := none) (As := [va_rf (h_B h b y), .int t, .int cr]) (rest := [.ref q_18, .int (nI y), .ref b]) C fG_X3_51 (k_Tinit (a := q_18) ok_sO (h_B h b y) t cr) rfl rfl (Nat.le_of_ble_eq_true rfl) ⟨Nat.le_of_ble_eq_true rfl, Nat.le_of_ble_eq_true rfl⟩ ⟨Nat.le_of_ble_eq_true rfl, Nat.le_of_ble_eq_true rfl⟩ dX3_tell_30 (fun h_30 e_30 => ?_)
      subst e_30
      refine j_aastN (k := 17) (ci := 9) C (okT (okO hn_18 ob)) (by decide) ok_sO (by decide) rfl rfl ⟨hn, by omega, by decide⟩ dX3_tell_33 ?_
      exact ret _ _ _ _ _ ⟨q_18, hn_18, rfl⟩ (Nat.le_of_ble_eq_true rfl) (Nat.le_of_ble_eq_true rfl) dX3_tell_34
set_option maxHeartbeats 4000000 in
set_option maxRecDepth 100000 in
theorem x_stand {l : Launch} {D : va_G} {cy : Nat → ClassId} {h : jH} {S : Nat → Nat → Int32} {P : Nat → Nat → Nat} {T : Nat → Nat → Nat → List Nat} {nf nl nb ns nt nk nw yy : Nat} (c : CP h S P T nf nl nb ns nt nk nw) (I : SI S nf nl nb ns nt nk nw yy) (f yr cr : Int32) : jI l D cy yX10_stand (.code yX10_stand cX10_stand 5 ((Option.some FieldType.boolean))) (rmd 3 1 3) [.ref (P 5 0), .int f, .int yr, .int cr] h (fun r h' => ∃ S' T' ns', (r, S') = m_stand S f yr cr ns ∧ CP h' S' P T' nf nl nb ns' nt nk nw ∧ (S' 5 0 = nI ns' ∧ ns' ≤ 300) ∧ FrC P h h') := by
  refine j_ofZ (by decide) (Nat.le_of_ble_eq_true rfl) (fun p e s m args below meth c0 Q C hin ret => ?_)
  refine j_aload_n C dX10_stand_0 rfl ?_
  refine j_gRe (f := 640) (v := .ref (P 5 1)) C fF_X10_10 rfl c.1.1.1 (by rw [c.1.1.2.1]; rfl) dX10_stand_1 ?_
  refine j_iload_n C dX10_stand_4 rfl ?_
  refine j_callVq (As := [.int f]) (rest := []) C fG_X10_60 (s_fieldAt c I.fl.1 I.fl.2 (f)) c.2.1.1 rfl rfl (Nat.le_of_ble_eq_true rfl) ⟨Nat.le_of_ble_eq_true rfl, Nat.le_of_ble_eq_true rfl⟩ ⟨Nat.le_of_ble_eq_true rfl, Nat.le_of_ble_eq_true rfl⟩ dX10_stand_5 (fun r_5 h_5 e_5 => ?_)
  obtain ⟨e1_5, e2_5⟩ := e_5
  subst e1_5
  replace e2_5 := e2_5.symm
  subst e2_5
  refine j_astoreQ (lv' := [(0, .ref (P 5 0)), (1, .int f), (2, .int yr), (3, .int cr), (4, va_rf (fldO S P f))]) C dX10_stand_8 (by decide) rfl ?_
  refine j_aloadQ C dX10_stand_10 rfl ?_
  cases hq_12 : (fldO S P f) with
  | none =>
    refine j_ifnullN (tgt := 52) C dX10_stand_12 (by decide) ?_
    refine j_iconst (v := 0) C dX10_stand_52 (by decide) ?_
    exact ret _ _ 0 0 _ _ ⟨S, T, ns, by rw [m_stand, if_neg (fun z => fldO_n hq_12 z.1)], c, I.st, FrC.rf⟩ (by decide) (Nat.zero_le _) (Nat.zero_le _) dX10_stand_53
  | some x_12 =>
    refine j_ifnull C dX10_stand_12 ?_
    obtain ⟨j, hj, hx, ha, hL⟩ := fldO_s I.fl.1 I.fl.2 hq_12
    subst hx
    subst ha
    refine j_iload_n C dX10_stand_15 rfl ?_
    refine j_iconst (v := 0) C dX10_stand_16 (by decide) ?_
    refine j_aload_n C dX10_stand_17 rfl ?_
    refine j_gRe (f := 640) (v := .ref (P 5 1)) C fF_X10_10 rfl c.1.1.1 (by rw [c.1.1.2.1]; rfl) dX10_stand_18 ?_
    refine j_gIe (f := 128) (v := (S 0 0)) C fF_X10_67 rfl c.2.1.1 c.2.1.2.1.1 dX10_stand_21 ?_
    refine j_callSi (As := [.int yr, .int 0, .int (S 0 0)]) (rest := []) C fG_X10_43 (k_within (yr) (0) ((S 0 0))) rfl rfl (Nat.le_of_ble_eq_true rfl) ⟨Nat.le_of_ble_eq_true rfl, Nat.le_of_ble_eq_true rfl⟩ ⟨Nat.le_of_ble_eq_true rfl, Nat.le_of_ble_eq_true rfl⟩ dX10_stand_24 (fun r_24 h_24 e_24 => ?_)
    obtain ⟨e1_24, e2_24⟩ := e_24
    subst e1_24
    replace e2_24 := e2_24.symm
    subst e2_24
    refine j_ifeq_b (tgt := 52) C dX10_stand_27 (by decide) (fun c_27 => ?_) (fun c_27 => ?_)
    · refine j_iconst (v := 0) C dX10_stand_52 (by decide) ?_
      exact ret _ _ 0 0 _ _ ⟨S, T, ns, by rw [m_stand, if_neg (fun z => c_27 z.2.1)], c, I.st, FrC.rf⟩ (by decide) (Nat.zero_le _) (Nat.zero_le _) dX10_stand_53
    · refine j_iload_n C dX10_stand_30 rfl ?_
      refine j_iconst (v := 0) C dX10_stand_31 (by decide) ?_
      refine j_iconst (v := 4) C dX10_stand_32 (by decide) ?_
      refine j_callSi (As := [.int cr, .int 0, .int 4]) (rest := []) C fG_X10_43 (k_within (cr) (0) (4)) rfl rfl (Nat.le_of_ble_eq_true rfl) ⟨Nat.le_of_ble_eq_true rfl, Nat.le_of_ble_eq_true rfl⟩ ⟨Nat.le_of_ble_eq_true rfl, Nat.le_of_ble_eq_true rfl⟩ dX10_stand_33 (fun r_33 h_33 e_33 => ?_)
      obtain ⟨e1_33, e2_33⟩ := e_33
      subst e1_33
      replace e2_33 := e2_33.symm
      subst e2_33
      refine j_ifeq_b (tgt := 52) C dX10_stand_36 (by decide) (fun c_36 => ?_) (fun c_36 => ?_)
      · refine j_iconst (v := 0) C dX10_stand_52 (by decide) ?_
        exact ret _ _ 0 0 _ _ ⟨S, T, ns, by rw [m_stand, if_neg (fun z => c_36 z.2.2.1)], c, I.st, FrC.rf⟩ (by decide) (Nat.zero_le _) (Nat.zero_le _) dX10_stand_53
      · refine j_aload_n C dX10_stand_39 rfl ?_
        refine j_gRe (f := 640) (v := .ref (P 5 1)) C fF_X10_10 rfl c.1.1.1 (by rw [c.1.1.2.1]; rfl) dX10_stand_40 ?_
        refine j_gIe (f := 138) (v := (S 5 0)) C fF_X10_70 rfl c.2.1.1 c.2.1.2.1.2.2.2.2.2.2.1 dX10_stand_43 ?_
        refine j_sipush (v := 300) C dX10_stand_46 (by decide) ?_
        refine j_icmp_lt (tgt := 54) C dX10_stand_49 (by decide) (fun c_49 => ?_) (fun c_49 => ?_)
        · have hyy := I.yr.2
          have hns0 := I.st.2
          obtain ⟨y0, hy0, rfl⟩ := nI_of2 (x := yr) (M := S 0 0) (n := yy) (by rw [I.yr.1]; exact nI_toInt (by omega)) (Int32.not_lt.mpr c_27.1) c_27.2
          have hns : ns < 300 := nI_lt_of (n := 300) (by rw [I.st.1] at c_49; exact Int32.not_le.mpr c_49) (by omega)
          refine j_aload C dX10_stand_54 rfl ?_
          refine j_iload_n C dX10_stand_56 rfl ?_
          refine j_iload_n C dX10_stand_57 rfl ?_
          refine j_aload_n C dX10_stand_58 rfl ?_
          refine j_gRe (f := 640) (v := .ref (P 5 1)) C fF_X10_10 rfl c.1.1.1 (by rw [c.1.1.2.1]; rfl) dX10_stand_59 ?_
          refine j_gIe (f := 128) (v := (S 0 0)) C fF_X10_67 rfl c.2.1.1 c.2.1.2.1.1 dX10_stand_62 ?_
          refine j_callVv (As := [.int (nI y0), .int cr, .int (S 0 0)]) (rest := []) C fG_X10_73 (k_tell (a := (P 0 j)) (b := (P 4 j)) (y := y0) (c.2.2.1 j hj).1.2 (c.2.2.1 j hj).2.2.2.1.1 (c.2.2.1 j hj).2.2.2.1.2.1 (c.2.2.1 j hj).2.2.2.1.2.2 (by omega) cr (S 0 0)) (c.2.2.1 j hj).1.2 rfl rfl (Nat.le_of_ble_eq_true rfl) ⟨Nat.le_of_ble_eq_true rfl, Nat.le_of_ble_eq_true rfl⟩ ⟨Nat.le_of_ble_eq_true rfl, Nat.le_of_ble_eq_true rfl⟩ dX10_stand_65 (fun h_65 e_65 => ?_)
          obtain ⟨q, hq, e_65⟩ := e_65
          subst e_65
          refine j_aload_n C dX10_stand_68 rfl ?_
          refine j_gRe (f := 640) (v := .ref (P 5 1)) C fF_X10_10 rfl (okO hq c.1.1.1) (by show va_rf (if (P 5 0) = q then none else h_R h 640 (P 5 0)) = _; rw [if_neg (nq hq c.1.1.1), c.1.1.2.1]; rfl) dX10_stand_69 ?_
          refine j_dup C dX10_stand_72 rfl ?_
          refine j_gIe (f := 138) (v := (nI ns)) C fF_X10_70 rfl (okO hq c.2.1.1) (by show (if (P 5 1) = q then 0 else h_I h 138 (P 5 1)) = _; rw [if_neg (nq hq c.2.1.1), c.2.1.2.1.2.2.2.2.2.2.1]; exact I.st.1) dX10_stand_73 ?_
          refine j_iconst (v := 1) C dX10_stand_76 (by decide) ?_
          refine j_iadd C dX10_stand_77 ?_
          refine j_pI (f := 138) C fP_X10_70 rfl (okO hq c.2.1.1) rfl rfl dX10_stand_78 ?_
          refine j_iconst (v := 1) C dX10_stand_81 (by decide) ?_
          refine ret _ _ _ _ _ _ ⟨mS_stand S (nI j) (nI y0) cr ns, upT T 0 j y0 (q :: T 0 j y0), ns + 1, ?_, ?_, ⟨by rw [mS_stand, u2_same]; exact nI_1 _, by omega⟩, ?_⟩ (by decide) (Nat.le_of_ble_eq_true rfl) (Nat.le_of_ble_eq_true rfl) dX10_stand_82
          · rw [m_stand, if_pos ⟨hL, c_27, c_36, fun z => by have h5 := (nI_eq (b := 300) (by omega) (by decide)).mp z; omega⟩]
          · have cE : CP (hT_ (s_O h q 9) q (h_B h (P 4 j) y0) (S 0 0) cr) S P T nf nl nb ns nt nk nw := c.ex ((((Ex.sO hq).sR hq).sI hq).sI hq)
            have cA := cE.agS (((((AgS.rf.u (r := 13) (i := ns) (v := nI j) ⟨by decide, by omega, by omega, by omega, by omega, by omega, by omega, by omega⟩).u (r := 14) (i := ns) (v := nI y0) ⟨by decide, by omega, by omega, by omega, by omega, by omega, by omega, by omega⟩).u (r := 15) (i := ns) (v := cr) ⟨by decide, by omega, by omega, by omega, by omega, by omega, by omega, by omega⟩).u (r := 16) (i := ns) (v := S 0 0) ⟨by decide, by omega, by omega, by omega, by omega, by omega, by omega, by omega⟩))
            have cB := (cA.pushT (q := q) (f := j) (y := y0) hj I.fl.2 (by omega) ok_sO (show u2 S 13 ns (nI j) 13 ns = _ from u2_same _ _ _ _) (show u2 (u2 S 13 ns (nI j)) 14 ns (nI y0) 14 ns = _ from u2_same _ _ _ _) ?_ ?_ ?_).book138 (v := nI ns + 1)
            · exact cB
            · show h_R (s_R (s_O h q 9) 576 q _) 576 q = h_B h (P 4 j) y0
              rw [g_RR, if_pos rfl, if_pos rfl]
            · show h_I (s_I (s_I (s_R (s_O h q 9) 576 q _) 577 q _) 578 q _) 577 q = u2 _ 16 ns (S 0 0) 16 ns
              rw [u2_same]
              show h_I (s_I (s_R (s_O h q 9) 576 q _) 577 q _) 577 q = _
              rw [g_II, if_pos rfl, if_pos rfl]
            · show h_I (s_I (s_I (s_R (s_O h q 9) 576 q _) 577 q _) 578 q _) 578 q = u2 _ 15 ns cr 15 ns
              rw [u2_same, g_II, if_pos rfl, if_pos rfl]
          · exact ((((FrC.sO hq).tr (FrC.sR (by decide))).tr (FrC.sI (by decide))).tr (FrC.sI (by decide))).tr (FrC.sB.tr (FrC.sI (by decide)))
        · refine j_iconst (v := 0) C dX10_stand_52 (by decide) ?_
          exact ret _ _ 0 0 _ _ ⟨S, T, ns, by rw [m_stand, if_neg (fun z => c_49 (by rw [I.st.1]; exact nI_lt (b := 300) (ne_lt rfl z.2.2.2 I.st.2) (by decide)))], c, I.st, FrC.rf⟩ (by decide) (Nat.zero_le _) (Nat.zero_le _) dX10_stand_53
