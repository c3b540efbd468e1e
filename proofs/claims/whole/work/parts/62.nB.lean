theorem okS {h : jH} {a b k : Nat} {r : Option Nat} {t f v : Int32} (o : h_ok h a k) : h_ok (hS_ h b r t f v) a k := o
theorem val_e {kd : Nat} (hk : kd ≤ 4) (v : Int32) : isValS (nI kd) v = true ↔ 0 ≤ v ∧ v ≤ stTi kd := by
  unfold isValS
  rw [tsel_in hk]
  rcases (show kd = 0 ∨ kd = 1 ∨ kd = 2 ∨ kd = 3 ∨ kd = 4 by omega) with rfl | rfl | rfl | rfl | rfl <;> exact decide_eq_true_iff
theorem val_n {kind v : Int32} (h : ¬ (0 ≤ kind ∧ kind ≤ 5 - 1)) : ¬ isValS kind v = true := fun z => by
  unfold isValS tsel at z
  rw [if_neg (show ¬ (0 ≤ kind ∧ kind ≤ nI 4) from h)] at z
  cases z
set_option maxHeartbeats 4000000 in
set_option maxRecDepth 100000 in
theorem k_addStatute {l : Launch} {D : va_G} {cy : Nat → ClassId} {h : jH} {S : Nat → Nat → Int32} {P : Nat → Nat → Nat} {T : Nat → Nat → Nat → List Nat} {nf nl nb ns nt nk nw yy : Nat} (c : CP h S P T nf nl nb ns nt nk nw) (I : SI S nf nl nb ns nt nk nw yy) {kd : Nat} (hk : kd < 5) (fr v : Int32) : jI l D cy yX2_addStatute (.code yX2_addStatute cX2_addStatute 4 ((Option.some FieldType.int))) (rmd 2 1 4) [.ref (P 5 1), .int (nI kd), .int fr, .int v] h (fun r h' => (nt = 100 ∧ r = -1 ∧ h' = h) ∨ (nt < 100 ∧ ∃ q, q ∉ h_L h ∧ r = nI nt + 1 ∧ h' = s_I (s_B (hS_ (s_O h q 8) q (h_B h (P 5 9) kd) (S 0 0) fr v) (P 5 9) kd (some q)) 137 (P 5 1) (nI nt + 1))) := by
  have hnt := I.tt.2
  refine j_ofI (by decide) (Nat.le_of_ble_eq_true rfl) (fun p e s m args below meth c0 Q C hin ret => ?_)
  refine j_aload_n C dX2_addStatute_0 rfl ?_
  refine j_gIe (f := 137) (v := (nI nt)) C fF_X2_55 rfl c.2.1.1 (c.2.1.2.1.2.2.2.2.2.1.trans I.tt.1) dX2_addStatute_1 ?_
  refine j_bipush (v := 100) C dX2_addStatute_4 (by decide) ?_
  refine j_icmp_ge (tgt := 22) C dX2_addStatute_6 (by decide) (fun c_6 => ?_) (fun c_6 => ?_)
  · refine j_iconst (v := (-1)) C dX2_addStatute_22 (by decide) ?_
    exact ret _ _ 0 0 _ _ (Or.inl ⟨by have := nI_ge_of (n := 100) c_6 (by omega) (by omega); omega, rfl, rfl⟩) (Nat.zero_le _) (Nat.zero_le _) dX2_addStatute_23
  · refine j_iload_n C dX2_addStatute_9 rfl ?_
    refine j_if_lt (tgt := 22) C dX2_addStatute_10 (by decide) (fun c_10 => ?_) (fun c_10 => ?_)
    · refine j_iconst (v := (-1)) C dX2_addStatute_22 (by decide) ?_
      exact absurd c_10 (nI_pos (by omega))
    · refine j_iload_n C dX2_addStatute_13 rfl ?_
      refine j_aload_n C dX2_addStatute_14 rfl ?_
      refine j_gRe (f := 136) (v := .ref (P 5 9)) C fF_X2_51 rfl c.2.1.1 (by rw [c.2.1.2.2.2.2.2.1]; rfl) dX2_addStatute_15 ?_
      refine j_alen (k := 16) (v := 5) C c.2.1.2.2.2.2.2.2.1 ⟨by decide, rfl⟩ (congrArg nI c.2.1.2.2.2.2.2.2.2) dX2_addStatute_18 ?_
      refine j_icmp_lt (tgt := 24) C dX2_addStatute_19 (by decide) (fun c_19 => ?_) (fun c_19 => ?_)
      · refine j_aload_n C dX2_addStatute_24 rfl ?_
        refine j_gRe (f := 136) (v := .ref (P 5 9)) C fF_X2_51 rfl c.2.1.1 (by rw [c.2.1.2.2.2.2.2.1]; rfl) dX2_addStatute_25 ?_
        refine j_iload_n C dX2_addStatute_28 rfl ?_
        refine j_new C fO_X2_49 (Nat.le_of_ble_eq_true rfl) (Nat.le_of_ble_eq_true rfl) dX2_addStatute_29 (fun q_29 hn_29 => ?_)
        refine j_dup C dX2_addStatute_32 rfl ?_
        refine j_aload_n C dX2_addStatute_33 rfl ?_
        refine j_gRe (f := 136) (v := .ref (P 5 9)) C fF_X2_51 rfl (okO hn_29 c.2.1.1) (by show va_rf (if (P 5 1) = q_29 then none else h_R h 136 (P 5 1)) = _; rw [if_neg (nq hn_29 c.2.1.1), c.2.1.2.2.2.2.2.1]; rfl) dX2_addStatute_34 ?_
        refine j_iload_n C dX2_addStatute_37 rfl ?_
        refine j_aaldN (k := 16) C (okO hn_29 c.2.1.2.2.2.2.2.2.1) (by decide) rfl ⟨c.2.1.2.2.2.2.2.2.2, by omega, by decide⟩ (by show va_rf (h_B h (P 5 9) kd) = _; rfl) dX2_addStatute_38 ?_
        refine j_aload_n C dX2_addStatute_39 rfl ?_
        refine j_gIe (f := 128) (v := (S 0 0)) C fF_X2_9 rfl (okO hn_29 c.2.1.1) (by show (if (P 5 1) = q_29 then 0 else h_I h 128 (P 5 1)) = _; rw [if_neg (nq hn_29 c.2.1.1), c.2.1.2.1.1]) dX2_addStatute_40 ?_
        refine j_iload_n C dX2_addStatute_43 rfl ?_
        refine j_iload_n C dX2_addStatute_44 rfl ?_
        refine j_callIv (ret := none) (As := [va_rf (h_B h (P 5 9) kd), .int (S 0 0), .int fr, .int v]) (rest := [.ref q_29, .int (nI kd), .ref (P 5 9)]) C fG_X2_64 (k_Sinit (a := q_29) ok_sO (h_B h (P 5 9) kd) (S 0 0) fr v) rfl rfl (Nat.le_of_ble_eq_true rfl) ⟨Nat.le_of_ble_eq_true rfl, Nat.le_of_ble_eq_true rfl⟩ ⟨Nat.le_of_ble_eq_true rfl, Nat.le_of_ble_eq_true rfl⟩ dX2_addStatute_45 (fun h_45 e_45 => ?_)
        subst e_45
        refine j_aastN (k := 16) (ci := 8) C (okS (okO hn_29 c.2.1.2.2.2.2.2.2.1)) (by decide) ok_sO (by decide) rfl rfl ⟨c.2.1.2.2.2.2.2.2.2, by omega, by decide⟩ dX2_addStatute_48 ?_
        refine j_aload_n C dX2_addStatute_49 rfl ?_
        refine j_dup C dX2_addStatute_50 rfl ?_
        refine j_gIe (f := 137) (v := (nI nt)) C fF_X2_55 rfl (okB (okS (okO hn_29 c.2.1.1))) (by show (if (P 5 1) = q_29 then 0 else h_I h 137 (P 5 1)) = _; rw [if_neg (nq hn_29 c.2.1.1), c.2.1.2.1.2.2.2.2.2.1]; exact I.tt.1) dX2_addStatute_51 ?_
        refine j_iconst (v := 1) C dX2_addStatute_54 (by decide) ?_
        refine j_iadd C dX2_addStatute_55 ?_
        refine j_pI (f := 137) C fP_X2_55 rfl (okB (okS (okO hn_29 c.2.1.1))) rfl rfl dX2_addStatute_56 ?_
        refine j_aload_n C dX2_addStatute_59 rfl ?_
        refine j_gIe (f := 137) (v := (nI nt + 1)) C fF_X2_55 rfl (okI (okB (okS (okO hn_29 c.2.1.1)))) (by rw [g_II, if_pos rfl, if_pos rfl]) dX2_addStatute_60 ?_
        exact ret _ _ _ _ _ _ (Or.inr ⟨nI_lt_of (n := 100) c_6 (by omega), q_29, hn_29, rfl, rfl⟩) (Nat.le_of_ble_eq_true rfl) (Nat.le_of_ble_eq_true rfl) dX2_addStatute_63
      · refine j_iconst (v := (-1)) C dX2_addStatute_22 (by decide) ?_
        exact absurd (nI_lt (a := kd) (b := 5) (by omega) (by decide)) c_19
set_option maxHeartbeats 4000000 in
set_option maxRecDepth 100000 in
theorem x_statute {l : Launch} {D : va_G} {cy : Nat → ClassId} {h : jH} {S : Nat → Nat → Int32} {P : Nat → Nat → Nat} {T : Nat → Nat → Nat → List Nat} {nf nl nb ns nt nk nw yy : Nat} (c : CP h S P T nf nl nb ns nt nk nw) (I : SI S nf nl nb ns nt nk nw yy) (kind fr v : Int32) : jI l D cy yX10_statute (.code yX10_statute cX10_statute 4 ((Option.some FieldType.int))) (rmd 3 1 4) [.ref (P 5 0), .int kind, .int fr, .int v] h (fun r h' => ∃ S' T' nt', (r, S') = m_statute S kind fr v nt ∧ CP h' S' P T' nf nl nb ns nt' nk nw ∧ (S' 6 0 = nI nt' ∧ nt' ≤ 100) ∧ FrC P h h') := by
  refine j_ofI (by decide) (Nat.le_of_ble_eq_true rfl) (fun p e s m args below meth c0 Q C hin ret => ?_)
  refine j_iload_n C dX10_statute_0 rfl ?_
  refine j_iconst (v := 0) C dX10_statute_1 (by decide) ?_
  refine j_gs1 C kF_X10_81 dX10_statute_2 (fun t_2 hT_2 => ?_)
  refine j_tlen (v := 5) C hT_2 rfl dX10_statute_5 ?_
  refine j_iconst (v := 1) C dX10_statute_6 (by decide) ?_
  refine j_isub C dX10_statute_7 ?_
  refine j_callSi (As := [.int kind, .int 0, .int (5 - 1)]) (rest := []) C fG_X10_43 (k_within (kind) (0) ((5 - 1))) rfl rfl (Nat.le_of_ble_eq_true rfl) ⟨Nat.le_of_ble_eq_true rfl, Nat.le_of_ble_eq_true rfl⟩ ⟨Nat.le_of_ble_eq_true rfl, Nat.le_of_ble_eq_true rfl⟩ dX10_statute_8 (fun r_8 h_8 e_8 => ?_)
  obtain ⟨e1_8, e2_8⟩ := e_8
  subst e1_8
  replace e2_8 := e2_8.symm
  subst e2_8
  refine j_ifeq_b (tgt := 37) C dX10_statute_11 (by decide) (fun c_11 => ?_) (fun c_11 => ?_)
  · refine j_iconst (v := (-1)) C dX10_statute_37 (by decide) ?_
    exact ret _ _ 0 0 _ _ ⟨S, T, nt, by rw [m_statute, if_neg (fun z => val_n c_11 z.1)], c, I.tt, FrC.rf⟩ (Nat.zero_le _) (Nat.zero_le _) dX10_statute_38
  · have e54 : (5 - 1 : Int32) = 4 := by decide
    have c_11 := c_11
    rw [e54] at c_11
    obtain ⟨kd, hkd, rfl⟩ := nI_of2 (x := kind) (M := 4) (n := 4) (by decide) (Int32.not_lt.mpr c_11.1) c_11.2
    refine j_iload_n C dX10_statute_14 rfl ?_
    refine j_iconst (v := 0) C dX10_statute_15 (by decide) ?_
    refine j_bipush (v := 60) C dX10_statute_16 (by decide) ?_
    refine j_callSi (As := [.int fr, .int 0, .int 60]) (rest := []) C fG_X10_43 (k_within (fr) (0) (60)) rfl rfl (Nat.le_of_ble_eq_true rfl) ⟨Nat.le_of_ble_eq_true rfl, Nat.le_of_ble_eq_true rfl⟩ ⟨Nat.le_of_ble_eq_true rfl, Nat.le_of_ble_eq_true rfl⟩ dX10_statute_18 (fun r_18 h_18 e_18 => ?_)
    obtain ⟨e1_18, e2_18⟩ := e_18
    subst e1_18
    replace e2_18 := e2_18.symm
    subst e2_18
    refine j_ifeq_b (tgt := 37) C dX10_statute_21 (by decide) (fun c_21 => ?_) (fun c_21 => ?_)
    · refine j_iconst (v := (-1)) C dX10_statute_37 (by decide) ?_
      exact ret _ _ 0 0 _ _ ⟨S, T, nt, by rw [m_statute, if_neg (fun z => c_21 z.2.1)], c, I.tt, FrC.rf⟩ (Nat.zero_le _) (Nat.zero_le _) dX10_statute_38
    · refine j_iload_n C dX10_statute_24 rfl ?_
      refine j_iconst (v := 0) C dX10_statute_25 (by decide) ?_
      refine j_gs1 C kF_X10_81 dX10_statute_26 (fun t_26 hT_26 => ?_)
      refine j_iload_n C dX10_statute_29 rfl ?_
      refine j_tiT C hT_26 (vp_in_nI (by omega) (by decide)) dX10_statute_30 ?_
      refine j_callSi (As := [.int v, .int 0, .int (stTi ((nI kd)).toNatClampNeg)]) (rest := []) C fG_X10_43 (k_within (v) (0) ((stTi ((nI kd)).toNatClampNeg))) rfl rfl (Nat.le_of_ble_eq_true rfl) ⟨Nat.le_of_ble_eq_true rfl, Nat.le_of_ble_eq_true rfl⟩ ⟨Nat.le_of_ble_eq_true rfl, Nat.le_of_ble_eq_true rfl⟩ dX10_statute_31 (fun r_31 h_31 e_31 => ?_)
      obtain ⟨e1_31, e2_31⟩ := e_31
      subst e1_31
      replace e2_31 := e2_31.symm
      subst e2_31
      refine j_ifne_b (tgt := 39) C dX10_statute_34 (by decide) (fun c_34 => ?_) (fun c_34 => ?_)
      · refine j_aload_n C dX10_statute_39 rfl ?_
        refine j_gRe (f := 640) (v := .ref (P 5 1)) C fF_X10_10 rfl c.1.1.1 (by rw [c.1.1.2.1]; rfl) dX10_statute_40 ?_
        refine j_iload_n C dX10_statute_43 rfl ?_
        refine j_iload_n C dX10_statute_44 rfl ?_
        refine j_iload_n C dX10_statute_45 rfl ?_
        refine j_callVi (As := [.int (nI kd), .int fr, .int v]) (rest := []) C fG_X10_84 (k_addStatute (kd := kd) c I (by omega) (fr) (v)) c.2.1.1 rfl rfl (Nat.le_of_ble_eq_true rfl) ⟨Nat.le_of_ble_eq_true rfl, Nat.le_of_ble_eq_true rfl⟩ ⟨Nat.le_of_ble_eq_true rfl, Nat.le_of_ble_eq_true rfl⟩ dX10_statute_46 (fun r_46 h_46 e_46 => ?_)
        rcases e_46 with ⟨e1, e2, e3⟩ | ⟨hlt, q, hq, e2, e3⟩
        · subst e2
          subst e3
          exact ret _ _ _ _ _ _ ⟨S, T, nt, by rw [m_statute, if_neg (fun z => z.2.2 (by rw [e1]; rfl))], c, I.tt, FrC.rf⟩ (Nat.le_of_ble_eq_true rfl) (Nat.le_of_ble_eq_true rfl) dX10_statute_49
        · subst e2
          subst e3
          refine ret _ _ _ _ _ _ ⟨mS_statute S (nI kd) fr v nt, upT T 1 kd 0 (q :: T 1 kd 0), nt + 1, ?_, ?_, ⟨by rw [mS_statute, u2_same]; exact nI_1 _, by omega⟩, ?_⟩ (Nat.le_of_ble_eq_true rfl) (Nat.le_of_ble_eq_true rfl) dX10_statute_49
          · rw [m_statute, if_pos ⟨(val_e (by omega) v).mpr (by rw [nI_clamp (by omega)] at c_34; exact c_34), c_21, fun z => by have h5 := (nI_eq (b := 100) (by omega) (by decide)).mp z; omega⟩]
          · have cE : CP (hS_ (s_O h q 8) q (h_B h (P 5 9) kd) (S 0 0) fr v) S P T nf nl nb ns nt nk nw := c.ex (((((Ex.sO hq).sR hq).sI hq).sI hq).sI hq)
            have cA := cE.agS (((((AgS.rf.u (r := 17) (i := nt) (v := nI kd) ⟨by decide, by omega, by omega, by omega, by omega, by omega, by omega, by omega⟩).u (r := 18) (i := nt) (v := fr) ⟨by decide, by omega, by omega, by omega, by omega, by omega, by omega, by omega⟩).u (r := 19) (i := nt) (v := v) ⟨by decide, by omega, by omega, by omega, by omega, by omega, by omega, by omega⟩).u (r := 20) (i := nt) (v := S 0 0) ⟨by decide, by omega, by omega, by omega, by omega, by omega, by omega, by omega⟩))
            refine (cA.pushS (q := q) (kd := kd) (by omega) ok_sO (show u2 S 17 nt (nI kd) 17 nt = _ from u2_same _ _ _ _) ?_ ?_ ?_ ?_).book137 (v := nI nt + 1)
            · show h_R (s_R (s_O h q 8) 512 q _) 512 q = h_B h (P 5 9) kd
              rw [g_RR, if_pos rfl, if_pos rfl]
            · show h_I (s_I (s_R (s_O h q 8) 512 q _) 513 q _) 513 q = u2 (u2 (u2 (u2 S 17 nt (nI kd)) 18 nt fr) 19 nt v) 20 nt (S 0 0) 20 nt
              rw [u2_same, g_II, if_pos rfl, if_pos rfl]
            · show h_I (s_I (s_I (s_R (s_O h q 8) 512 q _) 513 q _) 514 q _) 514 q = u2 (u2 S 17 nt (nI kd)) 18 nt fr 18 nt
              rw [u2_same, g_II, if_pos rfl, if_pos rfl]
            · show h_I (s_I (s_I (s_I (s_R (s_O h q 8) 512 q _) 513 q _) 514 q _) 515 q _) 515 q = u2 (u2 (u2 S 17 nt (nI kd)) 18 nt fr) 19 nt v 19 nt
              rw [u2_same, g_II, if_pos rfl, if_pos rfl]
          · exact (((((FrC.sO hq).tr (FrC.sR (by decide))).tr (FrC.sI (by decide))).tr (FrC.sI (by decide))).tr (FrC.sI (by decide))).tr (FrC.sB.tr (FrC.sI (by decide)))
      · refine j_iconst (v := (-1)) C dX10_statute_37 (by decide) ?_
        exact ret _ _ 0 0 _ _ ⟨S, T, nt, by rw [m_statute, if_neg (fun z => c_34 (by rw [nI_clamp (by omega)]; exact (val_e (by omega) v).mp z.1))], c, I.tt, FrC.rf⟩ (Nat.zero_le _) (Nat.zero_le _) dX10_statute_38
def hK_ (h : jH) (a : Nat) (b : Option Nat) (t nu pl il : Int32) : jH := s_I (s_I (s_I (s_I (s_R h 320 a b) 321 a t) 322 a nu) 323 a pl) 324 a il
theorem okK {h : jH} {a b k : Nat} {r : Option Nat} {t nu pl il : Int32} (o : h_ok h a k) : h_ok (hK_ h b r t nu pl il) a k := o
theorem lk_hd {h : jH} {S : Nat → Nat → Int32} {P : Nat → Nat → Nat} {T : Nat → Nat → Nat → List Nat} {nf nl nb ns nt nk nw : Nat} (c : CP h S P T nf nl nb ns nt nk nw) {j : Nat} (hj : j < nl) : oI h 322 0 (h_R h 397 (P 1 j)) = nI (dsc (lkB S (nI j)) nk).length ∧ oI h 323 0 (h_R h 397 (P 1 j)) = sumR S 35 (dsc (lkB S (nI j)) nk) ∧ oI h 324 0 (h_R h 397 (P 1 j)) = sumR S 36 (dsc (lkB S (nI j)) nk) := by
  have ch := (c.2.2.2.1 j hj).2.2.2.2
  generalize dsc (lkB S (nI j)) nk = ks at ch ⊢
  generalize T 2 j 0 = as at ch ⊢
  obtain ⟨c1, c2⟩ := ch
  cases as with
  | nil =>
    cases ks with
    | nil => rw [show h_R h 397 (P 1 j) = none from c1]; exact ⟨rfl, rfl, rfl⟩
    | cons k ks => exact c2.elim
  | cons a as =>
    cases ks with
    | nil => exact c2.elim
    | cons k ks =>
      rw [c1.1, List.length_cons]
      exact ⟨c2.2.1, c2.2.2.1, c2.2.2.2.1⟩
set_option maxHeartbeats 4000000 in
set_option maxRecDepth 100000 in
theorem k_Kinit {l : Launch} {D : va_G} {cy : Nat → ClassId} {h : jH} {a : Nat} (oa : h_ok h a 5) (b : Option Nat) (ok : ∀ x, b = some x → h_ok h x 5) (t pl il : Int32) : jV l D cy yX5_init (.code yX5_init cX5_init 5 ((Option.none : Option FieldType))) (rmd 1 0 0) [.ref a, va_rf b, .int t, .int pl, .int il] h (fun h' => h' = hK_ h a b t (oI h 322 0 b + 1) (oI h 323 0 b + pl) (oI h 324 0 b + il)) := by
  cases b with
  | none =>
    refine j_ofV (by decide) (Nat.le_of_ble_eq_true rfl) (fun p e s m args below meth c Q C hin ret => ?_)
    refine j_aload_n C dX5_init_0 rfl ?_
    refine j_objInit C kM_X5_1 dX5_init_1 (Nat.le_of_ble_eq_true rfl) (Nat.le_of_ble_eq_true rfl) ?_
    refine j_aload_n C dX5_init_4 rfl ?_
    refine j_aload_nN C dX5_init_5 rfl ?_
    refine j_pFR (f := 320) (v := none) C hin fP_X5_7 rfl oa rfl rfl rfl dX5_init_6 ?_
    refine j_aload_n C dX5_init_9 rfl ?_
    refine j_iload_n C dX5_init_10 rfl ?_
    refine j_pFI (f := 321) C hin fP_X5_13 rfl (okR oa) rfl rfl dX5_init_11 ?_
    refine j_aload_n C dX5_init_14 rfl ?_
    refine j_aload_nN C dX5_init_15 rfl ?_
    refine j_ifnonnullN C dX5_init_16 ?_
    refine j_iconst (v := 1) C dX5_init_19 (by decide) ?_
    refine j_goto (tgt := 29) C dX5_init_20 (by decide) ?_
    refine j_pFI (f := 322) C hin fP_X5_17 rfl (okI (okR oa)) rfl rfl dX5_init_29 ?_
    refine j_aload_n C dX5_init_32 rfl ?_
    refine j_aload_nN C dX5_init_33 rfl ?_
    refine j_ifnonnullN C dX5_init_34 ?_
    refine j_iload_n C dX5_init_37 rfl ?_
    refine j_goto (tgt := 47) C dX5_init_38 (by decide) ?_
    refine j_pFI (f := 323) C hin fP_X5_20 rfl (okI (okI (okR oa))) rfl rfl dX5_init_47 ?_
    refine j_aload_n C dX5_init_50 rfl ?_
    refine j_aload_nN C dX5_init_51 rfl ?_
    refine j_ifnonnullN C dX5_init_52 ?_
    refine j_iload C dX5_init_55 rfl ?_
    refine j_goto (tgt := 67) C dX5_init_57 (by decide) ?_
    refine j_pFI (f := 324) C hin fP_X5_23 rfl (okI (okI (okI (okR oa)))) rfl rfl dX5_init_67 ?_
    refine ret _ 0 0 _ _ ?_ (Nat.zero_le _) (Nat.zero_le _) dX5_init_70
    show _ = hK_ h a none t (0 + 1) (0 + pl) (0 + il)
    rw [Int32.zero_add, Int32.zero_add, Int32.zero_add]
    rfl
  | some x =>
    refine j_ofV (by decide) (Nat.le_of_ble_eq_true rfl) (fun p e s m args below meth c Q C hin ret => ?_)
    refine j_aload_n C dX5_init_0 rfl ?_
    refine j_objInit C kM_X5_1 dX5_init_1 (Nat.le_of_ble_eq_true rfl) (Nat.le_of_ble_eq_true rfl) ?_
    refine j_aload_n C dX5_init_4 rfl ?_
    refine j_aload_n C dX5_init_5 rfl ?_
    refine j_pFR (f := 320) (v := (some x)) C hin fP_X5_7 rfl oa rfl rfl rfl dX5_init_6 ?_
    refine j_aload_n C dX5_init_9 rfl ?_
    refine j_iload_n C dX5_init_10 rfl ?_
    refine j_pFI (f := 321) C hin fP_X5_13 rfl (okR oa) rfl rfl dX5_init_11 ?_
    refine j_aload_n C dX5_init_14 rfl ?_
    refine j_aload_n C dX5_init_15 rfl ?_
    refine j_ifnonnull (tgt := 23) C dX5_init_16 (by decide) ?_
    refine j_aload_n C dX5_init_23 rfl ?_
    refine j_gIe (f := 322) (v := (h_I h 322 x)) C fF_X5_17 rfl (okI (okR (ok x rfl))) rfl dX5_init_24 ?_
    refine j_iconst (v := 1) C dX5_init_27 (by decide) ?_
    refine j_iadd C dX5_init_28 ?_
    refine j_pFI (f := 322) C hin fP_X5_17 rfl (okI (okR oa)) rfl rfl dX5_init_29 ?_
    refine j_aload_n C dX5_init_32 rfl ?_
    refine j_aload_n C dX5_init_33 rfl ?_
    refine j_ifnonnull (tgt := 41) C dX5_init_34 (by decide) ?_
    refine j_aload_n C dX5_init_41 rfl ?_
    refine j_gIe (f := 323) (v := (h_I h 323 x)) C fF_X5_20 rfl (okI (okI (okR (ok x rfl)))) rfl dX5_init_42 ?_
    refine j_iload_n C dX5_init_45 rfl ?_
    refine j_iadd C dX5_init_46 ?_
    refine j_pFI (f := 323) C hin fP_X5_20 rfl (okI (okI (okR oa))) rfl rfl dX5_init_47 ?_
    refine j_aload_n C dX5_init_50 rfl ?_
    refine j_aload_n C dX5_init_51 rfl ?_
    refine j_ifnonnull (tgt := 60) C dX5_init_52 (by decide) ?_
    refine j_aload_n C dX5_init_60 rfl ?_
    refine j_gIe (f := 324) (v := (h_I h 324 x)) C fF_X5_23 rfl (okI (okI (okI (okR (ok x rfl))))) rfl dX5_init_61 ?_
    refine j_iload C dX5_init_64 rfl ?_
    refine j_iadd C dX5_init_66 ?_
    refine j_pFI (f := 324) C hin fP_X5_23 rfl (okI (okI (okI (okR oa)))) rfl rfl dX5_init_67 ?_
    exact ret _ 0 0 _ _ rfl (Nat.zero_le _) (Nat.zero_le _) dX5_init_70
theorem oI_O {h : jH} {q c f : Nat} {d : Int32} {r : Option Nat} (hq : q ∉ h_L h) (k : Nat) (ok : ∀ x, r = some x → h_ok h x k) : oI (s_O h q c) f d r = oI h f d r := by
  cases r with
  | none => rfl
  | some x =>
    show h_I (s_O h q c) f x = h_I h f x
    rw [g_IO, if_neg (nq hq (ok x rfl))]
set_option maxHeartbeats 4000000 in
set_option maxRecDepth 100000 in
theorem x_look {l : Launch} {D : va_G} {cy : Nat → ClassId} {h : jH} {S : Nat → Nat → Int32} {P : Nat → Nat → Nat} {T : Nat → Nat → Nat → List Nat} {nf nl nb ns nt nk nw yy : Nat} (c : CP h S P T nf nl nb ns nt nk nw) (I : SI S nf nl nb ns nt nk nw yy) (lt pl ill : Int32) : jI l D cy yX10_look (.code yX10_look cX10_look 5 ((Option.some FieldType.int))) (rmd 2 1 5) [.ref (P 5 0), .int lt, .int pl, .int ill] h (fun r h' => ∃ S' T' nk', (r, S') = m_look S lt pl ill nk ∧ CP h' S' P T' nf nl nb ns nt nk' nw ∧ (S' 7 0 = nI nk' ∧ nk' ≤ 300) ∧ FrC P h h') := by
  have hl := I.lt.1
  have hnl := I.lt.2
  refine j_ofI (by decide) (Nat.le_of_ble_eq_true rfl) (fun p e s m args below meth c0_ Q C hin ret => ?_)
  refine j_aload_n C dX10_look_0 rfl ?_
  refine j_gRe (f := 640) (v := .ref (P 5 1)) C fF_X10_10 rfl c.1.1.1 (by rw [c.1.1.2.1]; rfl) dX10_look_1 ?_
  refine j_iload_n C dX10_look_4 rfl ?_
  refine j_callVq (As := [.int lt]) (rest := []) C fG_X10_107 (s_lotAt c hl hnl (lt)) c.2.1.1 rfl rfl (Nat.le_of_ble_eq_true rfl) ⟨Nat.le_of_ble_eq_true rfl, Nat.le_of_ble_eq_true rfl⟩ ⟨Nat.le_of_ble_eq_true rfl, Nat.le_of_ble_eq_true rfl⟩ dX10_look_5 (fun r_5 h_5 e_5 => ?_)
  obtain ⟨e1_5, e2_5⟩ := e_5
  subst e1_5
  replace e2_5 := e2_5.symm
  subst e2_5
  refine j_astoreQ (lv' := [(0, .ref (P 5 0)), (1, .int lt), (2, .int pl), (3, .int ill), (4, va_rf (lotO S P lt))]) C dX10_look_8 (by decide) rfl ?_
  refine j_aloadQ C dX10_look_10 rfl ?_
  cases hq_12 : (lotO S P lt) with
  | none =>
    refine j_ifnullN (tgt := 57) C dX10_look_12 (by decide) ?_
    refine j_iconst (v := (-1)) C dX10_look_57 (by decide) ?_
    exact ret _ _ 0 0 _ _ ⟨S, T, nk, by rw [m_look, if_neg (fun z => lotO_n hq_12 z.1)], c, I.lk, FrC.rf⟩ (Nat.zero_le _) (Nat.zero_le _) dX10_look_58
  | some x_12 =>
    refine j_ifnull C dX10_look_12 ?_
    obtain ⟨j, hj, hx, ha, hL⟩ := lotO_s hl hnl hq_12
    subst hx
    subst ha
    refine j_aload C dX10_look_15 rfl ?_
    refine j_gIe (f := 385) (v := (S 21 j)) C fF_X10_115 rfl (c.2.2.2.1 j hj).1.2 (c.2.2.2.1 j hj).2.1.2.1 dX10_look_17 ?_
    refine j_iconst (v := 1) C dX10_look_20 (by decide) ?_
    refine j_icmp_ne (tgt := 57) C dX10_look_21 (by decide) (fun c_21 => ?_) (fun c_21 => ?_)
    · refine j_iconst (v := (-1)) C dX10_look_57 (by decide) ?_
      exact ret _ _ 0 0 _ _ ⟨S, T, nk, by rw [m_look, if_neg (fun z => c_21 (by have u := z.2.1; rw [nI_clamp (by omega)] at u; exact u))], c, I.lk, FrC.rf⟩ (Nat.zero_le _) (Nat.zero_le _) dX10_look_58
    · refine j_iload_n C dX10_look_24 rfl ?_
      refine j_iconst (v := 1) C dX10_look_25 (by decide) ?_
      refine j_sipush (v := 10000) C dX10_look_26 (by decide) ?_
      refine j_callSi (As := [.int pl, .int 1, .int 10000]) (rest := []) C fG_X10_43 (k_within (pl) (1) (10000)) rfl rfl (Nat.le_of_ble_eq_true rfl) ⟨Nat.le_of_ble_eq_true rfl, Nat.le_of_ble_eq_true rfl⟩ ⟨Nat.le_of_ble_eq_true rfl, Nat.le_of_ble_eq_true rfl⟩ dX10_look_29 (fun r_29 h_29 e_29 => ?_)
      obtain ⟨e1_29, e2_29⟩ := e_29
      subst e1_29
      replace e2_29 := e2_29.symm
      subst e2_29
      refine j_ifeq_b (tgt := 57) C dX10_look_32 (by decide) (fun c_32 => ?_) (fun c_32 => ?_)
      · refine j_iconst (v := (-1)) C dX10_look_57 (by decide) ?_
        exact ret _ _ 0 0 _ _ ⟨S, T, nk, by rw [m_look, if_neg (fun z => c_32 z.2.2.1)], c, I.lk, FrC.rf⟩ (Nat.zero_le _) (Nat.zero_le _) dX10_look_58
      · refine j_iload_n C dX10_look_35 rfl ?_
        refine j_iconst (v := 0) C dX10_look_36 (by decide) ?_
        refine j_iload_n C dX10_look_37 rfl ?_
        refine j_callSi (As := [.int ill, .int 0, .int pl]) (rest := []) C fG_X10_43 (k_within (ill) (0) (pl)) rfl rfl (Nat.le_of_ble_eq_true rfl) ⟨Nat.le_of_ble_eq_true rfl, Nat.le_of_ble_eq_true rfl⟩ ⟨Nat.le_of_ble_eq_true rfl, Nat.le_of_ble_eq_true rfl⟩ dX10_look_38 (fun r_38 h_38 e_38 => ?_)
        obtain ⟨e1_38, e2_38⟩ := e_38
        subst e1_38
        replace e2_38 := e2_38.symm
        subst e2_38
        refine j_ifeq_b (tgt := 57) C dX10_look_41 (by decide) (fun c_41 => ?_) (fun c_41 => ?_)
        · refine j_iconst (v := (-1)) C dX10_look_57 (by decide) ?_
          exact ret _ _ 0 0 _ _ ⟨S, T, nk, by rw [m_look, if_neg (fun z => c_41 z.2.2.2.1)], c, I.lk, FrC.rf⟩ (Nat.zero_le _) (Nat.zero_le _) dX10_look_58
        · refine j_aload_n C dX10_look_44 rfl ?_
          refine j_gRe (f := 640) (v := .ref (P 5 1)) C fF_X10_10 rfl c.1.1.1 (by rw [c.1.1.2.1]; rfl) dX10_look_45 ?_
          refine j_gIe (f := 139) (v := (nI nk)) C fF_X10_207 rfl c.2.1.1 (c.2.1.2.1.2.2.2.2.2.2.2.trans I.lk.1) dX10_look_48 ?_
          refine j_sipush (v := 300) C dX10_look_51 (by decide) ?_
          refine j_icmp_lt (tgt := 59) C dX10_look_54 (by decide) (fun c_54 => ?_) (fun c_54 => ?_)
          · have hnk0 := I.lk.2
            have hnk : nk < 300 := nI_lt_of (n := 300) (Int32.not_le.mpr c_54) (by omega)
            refine j_aload C dX10_look_59 rfl ?_
            refine j_new C fO_X10_210 (Nat.le_of_ble_eq_true rfl) (Nat.le_of_ble_eq_true rfl) dX10_look_61 (fun q_61 hn_61 => ?_)
            refine j_dup C dX10_look_64 rfl ?_
            refine j_aload C dX10_look_65 rfl ?_
            refine j_gRe (f := 397) (v := va_rf (h_R h 397 (P 1 j))) C fF_X10_212 rfl (okO hn_61 (c.2.2.2.1 j hj).1.2) (by show va_rf (if P 1 j = q_61 then none else h_R h 397 (P 1 j)) = _; rw [if_neg (nq hn_61 (c.2.2.2.1 j hj).1.2)]) dX10_look_67 ?_
            refine j_aload_n C dX10_look_70 rfl ?_
            refine j_gRe (f := 640) (v := .ref (P 5 1)) C fF_X10_10 rfl (okO hn_61 c.1.1.1) (by show va_rf (if (P 5 0) = q_61 then none else h_R h 640 (P 5 0)) = _; rw [if_neg (nq hn_61 c.1.1.1), c.1.1.2.1]; rfl) dX10_look_71 ?_
            refine j_gIe (f := 128) (v := (S 0 0)) C fF_X10_67 rfl (okO hn_61 c.2.1.1) (by show (if (P 5 1) = q_61 then 0 else h_I h 128 (P 5 1)) = _; rw [if_neg (nq hn_61 c.2.1.1), c.2.1.2.1.1]) dX10_look_74 ?_
            refine j_iload_n C dX10_look_77 rfl ?_
            refine j_iload_n C dX10_look_78 rfl ?_
            refine j_callIv (ret := none) (As := [va_rf (h_R h 397 (P 1 j)), .int (S 0 0), .int pl, .int ill]) (rest := [.ref q_61, .ref (P 1 j)]) C fG_X10_216 (k_Kinit (a := q_61) ok_sO (h_R h 397 (P 1 j)) (fun x hx => okO hn_61 (chn_hd (c.2.2.2.1 j hj).2.2.2.2.1 x hx)) (S 0 0) pl ill) rfl rfl (Nat.le_of_ble_eq_true rfl) ⟨Nat.le_of_ble_eq_true rfl, Nat.le_of_ble_eq_true rfl⟩ ⟨Nat.le_of_ble_eq_true rfl, Nat.le_of_ble_eq_true rfl⟩ dX10_look_79 (fun h_79 e_79 => ?_)
            rw [oI_O hn_61 5 (chn_hd (c.2.2.2.1 j hj).2.2.2.2.1), oI_O hn_61 5 (chn_hd (c.2.2.2.1 j hj).2.2.2.2.1), oI_O hn_61 5 (chn_hd (c.2.2.2.1 j hj).2.2.2.2.1)] at e_79
            subst e_79
            refine j_pR (f := 397) (v := (some q_61)) C fP_X10_212 rfl (okK (okO hn_61 (c.2.2.2.1 j hj).1.2)) rfl rfl rfl dX10_look_82 ?_
            refine j_aload_n C dX10_look_85 rfl ?_
            refine j_gRe (f := 640) (v := .ref (P 5 1)) C fF_X10_10 rfl (okR (okK (okO hn_61 c.1.1.1))) (by show va_rf (if (P 5 0) = q_61 then none else h_R h 640 (P 5 0)) = _; rw [if_neg (nq hn_61 c.1.1.1), c.1.1.2.1]; rfl) dX10_look_86 ?_
            refine j_dup C dX10_look_89 rfl ?_
            refine j_gIe (f := 139) (v := (nI nk)) C fF_X10_207 rfl (okR (okK (okO hn_61 c.2.1.1))) (by show (if (P 5 1) = q_61 then 0 else h_I h 139 (P 5 1)) = _; rw [if_neg (nq hn_61 c.2.1.1), c.2.1.2.1.2.2.2.2.2.2.2]; exact I.lk.1) dX10_look_90 ?_
            refine j_iconst (v := 1) C dX10_look_93 (by decide) ?_
            refine j_iadd C dX10_look_94 ?_
            refine j_pI (f := 139) C fP_X10_207 rfl (okR (okK (okO hn_61 c.2.1.1))) rfl rfl dX10_look_95 ?_
            refine j_aload C dX10_look_98 rfl ?_
            refine j_callVi (As := []) (rest := []) C fG_X10_219 (k_lookCount (a := (P 1 j)) (okO hn_61 (c.2.2.2.1 j hj).1.2) (by show ∀ x, h_R (s_R (hK_ (s_O h q_61 5) q_61 (h_R h 397 (P 1 j)) (S 0 0) (oI h 322 0 (h_R h 397 (P 1 j)) + 1) (oI h 323 0 (h_R h 397 (P 1 j)) + pl) (oI h 324 0 (h_R h 397 (P 1 j)) + ill)) 397 (P 1 j) (some q_61)) 397 (P 1 j) = some x → h_ok (s_R (hK_ (s_O h q_61 5) q_61 (h_R h 397 (P 1 j)) (S 0 0) (oI h 322 0 (h_R h 397 (P 1 j)) + 1) (oI h 323 0 (h_R h 397 (P 1 j)) + pl) (oI h 324 0 (h_R h 397 (P 1 j)) + ill)) 397 (P 1 j) (some q_61)) x 5; rw [g_RR, if_pos rfl, if_pos rfl]; exact fun x hx => by cases hx; exact ok_sO)) (okI (okR (okK (okO hn_61 (c.2.2.2.1 j hj).1.2)))) rfl rfl (Nat.le_of_ble_eq_true rfl) ⟨Nat.le_of_ble_eq_true rfl, Nat.le_of_ble_eq_true rfl⟩ ⟨Nat.le_of_ble_eq_true rfl, Nat.le_of_ble_eq_true rfl⟩ dX10_look_100 (fun r_100 h_100 e_100 => ?_)
            obtain ⟨e1_100, e2_100⟩ := e_100
            replace e2_100 := e2_100.symm
            subst e2_100
            have c0 : CP h (u2 (u2 (u2 (u2 S 34 nk (nI j)) 35 nk pl) 36 nk ill) 37 nk (S 0 0)) P T nf nl nb ns nt nk nw := c.agS (((((AgS.rf.u (r := 34) (i := nk) (v := nI j) ⟨by decide, by omega, by omega, by omega, by omega, by omega, by omega, by omega⟩).u (r := 35) (i := nk) (v := pl) ⟨by decide, by omega, by omega, by omega, by omega, by omega, by omega, by omega⟩).u (r := 36) (i := nk) (v := ill) ⟨by decide, by omega, by omega, by omega, by omega, by omega, by omega, by omega⟩).u (r := 37) (i := nk) (v := S 0 0) ⟨by decide, by omega, by omega, by omega, by omega, by omega, by omega, by omega⟩))
            have hk3 := lk_hd c0 hj
            have cE : CP (hK_ (s_O h q_61 5) q_61 (h_R h 397 (P 1 j)) (S 0 0) (oI h 322 0 (h_R h 397 (P 1 j)) + 1) (oI h 323 0 (h_R h 397 (P 1 j)) + pl) (oI h 324 0 (h_R h 397 (P 1 j)) + ill)) (u2 (u2 (u2 (u2 S 34 nk (nI j)) 35 nk pl) 36 nk ill) 37 nk (S 0 0)) P T nf nl nb ns nt nk nw := c0.ex ((((((Ex.sO hn_61).sR hn_61).sI hn_61).sI hn_61).sI hn_61).sI hn_61)
            have cF := (cE.pushK (q := q_61) (a := j) hj hnl ok_sO (show u2 S 34 nk (nI j) 34 nk = _ from u2_same _ _ _ _) ?_ ?_ ?_ ?_ ?_).book139 (v := nI nk + 1)
            · have hlk : ∀ k, k < nk + 1 → ¬ mS_look S (nI j) pl ill nk 0 0 < mS_look S (nI j) pl ill nk 37 k := fun k hk => by
                show ¬ S 0 0 < u2 S 37 nk (S 0 0) 37 k
                by_cases e : k = nk
                · rw [e, u2_same]; exact fun z => Int32.lt_irrefl z
                · rw [u2_ne2 _ _ e]
                  obtain ⟨y, y1, y2⟩ := (I.ks k (by omega)).2.2.2
                  rw [y2, I.yr.1]
                  exact nI_nlt y1 (by have := I.yr.2; omega)
              refine ret _ _ _ _ _ _ ⟨mS_look S (nI j) pl ill nk, upT T 2 j 0 (q_61 :: T 2 j 0), nk + 1, ?_, cF, ⟨by rw [mS_look, u2_same]; exact nI_1 _, by omega⟩, ?_⟩ (Nat.le_of_ble_eq_true rfl) (Nat.le_of_ble_eq_true rfl) dX10_look_103
              · rw [m_look, if_pos ⟨hL, by rw [nI_clamp (by omega)]; exact c_21, c_32, c_41, fun z => by have h5 := (nI_eq (b := 300) (by omega) (by decide)).mp z; omega⟩, e1_100]
                exact congrArg (fun x => (x, mS_look S (nI j) pl ill nk)) (cp_looks cF hj hlk)
              · exact ((((((FrC.sO hn_61).tr (FrC.sR (by decide))).tr (FrC.sI (by decide))).tr (FrC.sI (by decide))).tr (FrC.sI (by decide))).tr (FrC.sI (by decide))).tr ((FrC.sR (by decide)).tr (FrC.sI (by decide)))
            · show h_R (s_R (s_O h q_61 5) 320 q_61 _) 320 q_61 = (if P 1 j = q_61 then none else h_R h 397 (P 1 j))
              rw [g_RR, if_pos rfl, if_pos rfl, if_neg (nq hn_61 (c.2.2.2.1 j hj).1.2)]
            · show h_I (s_I (s_R (s_O h q_61 5) 320 q_61 _) 321 q_61 _) 321 q_61 = u2 (u2 (u2 (u2 S 34 nk (nI j)) 35 nk pl) 36 nk ill) 37 nk (S 0 0) 37 nk
              rw [u2_same, g_II, if_pos rfl, if_pos rfl]
            · show h_I (s_I (s_I (s_R (s_O h q_61 5) 320 q_61 _) 321 q_61 _) 322 q_61 _) 322 q_61 = _
              rw [g_II, if_pos rfl, if_pos rfl, hk3.1]
              exact nI_1 _
            · show h_I (s_I (s_I (s_I (s_R (s_O h q_61 5) 320 q_61 _) 321 q_61 _) 322 q_61 _) 323 q_61 _) 323 q_61 = sumR (u2 (u2 (u2 (u2 S 34 nk (nI j)) 35 nk pl) 36 nk ill) 37 nk (S 0 0)) 35 _ + u2 (u2 S 34 nk (nI j)) 35 nk pl 35 nk
              rw [g_II, if_pos rfl, if_pos rfl, hk3.2.1, u2_same]
            · show h_I (s_I (s_I (s_I (s_I (s_R (s_O h q_61 5) 320 q_61 _) 321 q_61 _) 322 q_61 _) 323 q_61 _) 324 q_61 _) 324 q_61 = sumR (u2 (u2 (u2 (u2 S 34 nk (nI j)) 35 nk pl) 36 nk ill) 37 nk (S 0 0)) 36 _ + u2 (u2 (u2 S 34 nk (nI j)) 35 nk pl) 36 nk ill 36 nk
              rw [g_II, if_pos rfl, if_pos rfl, hk3.2.2, u2_same]
          · refine j_iconst (v := (-1)) C dX10_look_57 (by decide) ?_
            exact ret _ _ 0 0 _ _ ⟨S, T, nk, by rw [m_look, if_neg (fun z => c_54 (nI_lt (b := 300) (ne_lt rfl z.2.2.2.2 I.lk.2) (by decide)))], c, I.lk, FrC.rf⟩ (Nat.zero_le _) (Nat.zero_le _) dX10_look_58
