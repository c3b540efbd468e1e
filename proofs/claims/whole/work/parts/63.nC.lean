theorem okBg {h : jH} {a b k x : Nat} {g s : Int32} (o : h_ok h a k) : h_ok (hB_ h b x g s) a k := o

set_option maxHeartbeats 4000000 in
set_option maxRecDepth 100000 in
theorem x_bag {l : Launch} {D : va_G} {cy : Nat → ClassId} {h : jH} {S : Nat → Nat → Int32} {P : Nat → Nat → Nat} {T : Nat → Nat → Nat → List Nat} {nf nl nb ns nt nk nw yy : Nat} (c : CP h S P T nf nl nb ns nt nk nw) (I : SI S nf nl nb ns nt nk nw yy) (lt g : Int32) : jI l D cy yX10_bag (.code yX10_bag cX10_bag 4 ((Option.some FieldType.int))) (rmd 9 1 4) [.ref (P 5 0), .int lt, .int g] h (fun r h' => ∃ S' P' nb', (r, S') = m_bag S lt g nb nf nl ns nt nk ∧ CP h' S' P' T nf nl nb' ns nt nk nw ∧ (S' 3 0 = nI nb' ∧ nb' ≤ 200) ∧ FrC P h h' ∧ ∀ i, P' 5 i = P 5 i) := by
  have hl := I.lt.1
  have hnl := I.lt.2
  have hnb0 := I.bg.2
  refine j_ofI (by decide) (Nat.le_of_ble_eq_true rfl) (fun p e s m args below meth c0 Q C hin ret => ?_)
  refine j_aload_n C dX10_bag_0 rfl ?_
  refine j_gRe (f := 640) (v := .ref (P 5 1)) C fF_X10_10 rfl c.1.1.1 (by rw [c.1.1.2.1]; rfl) dX10_bag_1 ?_
  refine j_iload_n C dX10_bag_4 rfl ?_
  refine j_callVq (As := [.int lt]) (rest := []) C fG_X10_107 (s_lotAt c hl hnl (lt)) c.2.1.1 rfl rfl (Nat.le_of_ble_eq_true rfl) ⟨Nat.le_of_ble_eq_true rfl, Nat.le_of_ble_eq_true rfl⟩ ⟨Nat.le_of_ble_eq_true rfl, Nat.le_of_ble_eq_true rfl⟩ dX10_bag_5 (fun r_5 h_5 e_5 => ?_)
  obtain ⟨e1_5, e2_5⟩ := e_5
  subst e1_5
  replace e2_5 := e2_5.symm
  subst e2_5
  refine j_astore_nQ (lv' := [(0, .ref (P 5 0)), (1, .int lt), (2, .int g), (3, va_rf (lotO S P lt))]) C dX10_bag_8 (by decide) rfl ?_
  refine j_aload_nQ C dX10_bag_9 rfl ?_
  cases hq_10 : (lotO S P lt) with
  | none =>
    refine j_ifnullN (tgt := 42) C dX10_bag_10 (by decide) ?_
    refine j_iconst (v := (-1)) C dX10_bag_42 (by decide) ?_
    exact ret _ _ 0 0 _ _ ⟨S, P, nb, by rw [m_bag, if_neg (fun z => lotO_n hq_10 z.1)], c, I.bg, FrC.rf, fun _ => rfl⟩ (Nat.zero_le _) (Nat.zero_le _) dX10_bag_43
  | some x_10 =>
    refine j_ifnull C dX10_bag_10 ?_
    obtain ⟨j, hj, hx, ha, hL⟩ := lotO_s hl hnl hq_10
    subst hx
    subst ha
    refine j_aload_n C dX10_bag_13 rfl ?_
    refine j_iload_n C dX10_bag_14 rfl ?_
    refine j_callVi (As := [.int g]) (rest := []) C fG_X10_111 (k_has (a := (P 1 j)) (c.2.2.2.1 j hj).1.2 (g)) (c.2.2.2.1 j hj).1.2 rfl rfl (Nat.le_of_ble_eq_true rfl) ⟨Nat.le_of_ble_eq_true rfl, Nat.le_of_ble_eq_true rfl⟩ ⟨Nat.le_of_ble_eq_true rfl, Nat.le_of_ble_eq_true rfl⟩ dX10_bag_15 (fun r_15 h_15 e_15 => ?_)
    obtain ⟨e1_15, e2_15⟩ := e_15
    subst e1_15
    replace e2_15 := e2_15.symm
    subst e2_15
    refine j_ifeq_b (tgt := 42) C dX10_bag_18 (by decide) (fun c_18 => ?_) (fun c_18 => ?_)
    · refine j_iconst (v := (-1)) C dX10_bag_42 (by decide) ?_
      exact ret _ _ 0 0 _ _ ⟨S, P, nb, by rw [m_bag, if_neg (fun z => c_18 ⟨z.2.1, by rw [(c.2.2.2.1 j hj).2.2.2.1.1]; have u := z.2.2.1; rw [nI_clamp (by omega)] at u; exact u⟩)], c, I.bg, FrC.rf, fun _ => rfl⟩ (Nat.zero_le _) (Nat.zero_le _) dX10_bag_43
    · refine j_aload_n C dX10_bag_21 rfl ?_
      refine j_gRe (f := 640) (v := .ref (P 5 1)) C fF_X10_10 rfl c.1.1.1 (by rw [c.1.1.2.1]; rfl) dX10_bag_22 ?_
      refine j_gIe (f := 134) (v := (nI nb)) C fF_X10_155 rfl c.2.1.1 (c.2.1.2.1.2.2.2.1.trans I.bg.1) dX10_bag_25 ?_
      refine j_sipush (v := 200) C dX10_bag_28 (by decide) ?_
      refine j_icmp_ge (tgt := 42) C dX10_bag_31 (by decide) (fun c_31 => ?_) (fun c_31 => ?_)
      · refine j_iconst (v := (-1)) C dX10_bag_42 (by decide) ?_
        exact ret _ _ 0 0 _ _ ⟨S, P, nb, by rw [m_bag, if_neg (fun z => z.2.2.2 (by rw [show nb = 200 by have := nI_ge_of (n := 200) c_31 (by omega) (by omega); omega]; rfl))], c, I.bg, FrC.rf, fun _ => rfl⟩ (Nat.zero_le _) (Nat.zero_le _) dX10_bag_43
      · have hnb : nb < 200 := nI_lt_of (n := 200) c_31 (by omega)
        have hP : (0 ≤ nI j ∧ nI j ≤ S 2 0 - 1) ∧ (¬ g < 1) ∧ (¬ S 23 (nI j).toNatClampNeg < g) ∧ (¬ nI nb = 200) := ⟨hL, c_18.1, by rw [nI_clamp (by omega), ← (c.2.2.2.1 j hj).2.2.2.1.1]; exact c_18.2, fun z => by have h5 := (nI_eq (b := 200) (by omega) (by decide)).mp z; omega⟩
        refine j_aload_n C dX10_bag_34 rfl ?_
        refine j_aload_n C dX10_bag_35 rfl ?_
        refine j_callVi (As := [.ref (P 1 j)]) (rest := []) C fG_X10_158 (k_isOut (j := j) c I hj) c.1.1.1 rfl rfl (Nat.le_of_ble_eq_true rfl) ⟨Nat.le_of_ble_eq_true rfl, Nat.le_of_ble_eq_true rfl⟩ ⟨Nat.le_of_ble_eq_true rfl, Nat.le_of_ble_eq_true rfl⟩ dX10_bag_36 (fun r_36 h_36 e_36 => ?_)
        obtain ⟨e1_36, e_36⟩ := e_36
        subst e1_36
        refine j_ifeq_b (tgt := 44) C dX10_bag_39 (by decide) (fun c_39 => ?_) (fun c_39 => ?_)
        · refine j_aload_n C dX10_bag_44 rfl ?_
          refine j_dup C dX10_bag_45 rfl ?_
          refine j_gIe (f := 391) (v := (S 23 j)) C fF_X10_139 rfl (e_36.1.ok.mpr (c.2.2.2.1 j hj).1.2) ((e_36.1.2.2.2.1 391 (P 1 j) rfl).trans (c.2.2.2.1 j hj).2.2.2.1.1) dX10_bag_46 ?_
          refine j_iload_n C dX10_bag_49 rfl ?_
          refine j_isub C dX10_bag_50 ?_
          refine j_pI (f := 391) C fP_X10_139 rfl (e_36.1.ok.mpr (c.2.2.2.1 j hj).1.2) rfl rfl dX10_bag_51 ?_
          refine j_aload_n C dX10_bag_54 rfl ?_
          refine j_dup C dX10_bag_55 rfl ?_
          refine j_gIe (f := 395) (v := (S 31 j)) C fF_X10_162 rfl (okI (e_36.1.ok.mpr (c.2.2.2.1 j hj).1.2)) ((e_36.1.2.2.2.1 395 (P 1 j) rfl).trans (c.2.2.2.1 j hj).2.2.2.1.2.2.2.2.1) dX10_bag_56 ?_
          refine j_iload_n C dX10_bag_59 rfl ?_
          refine j_iadd C dX10_bag_60 ?_
          refine j_pI (f := 395) C fP_X10_162 rfl (okI (e_36.1.ok.mpr (c.2.2.2.1 j hj).1.2)) rfl rfl dX10_bag_61 ?_
          refine j_aload_n C dX10_bag_64 rfl ?_
          refine j_gRe (f := 640) (v := .ref (P 5 1)) C fF_X10_10 rfl (okI (okI (e_36.1.ok.mpr c.1.1.1))) (by show va_rf (h_R h_36 640 (P 5 0)) = _; rw [e_36.1.2.2.2.2.1, c.1.1.2.1]; rfl) dX10_bag_65 ?_
          refine j_new C fO_X10_165 (Nat.le_of_ble_eq_true rfl) (Nat.le_of_ble_eq_true rfl) dX10_bag_68 (fun q_68 hn_68 => ?_)
          refine j_dup C dX10_bag_71 rfl ?_
          refine j_aload_n C dX10_bag_72 rfl ?_
          refine j_iload_n C dX10_bag_73 rfl ?_
          refine j_aload_n C dX10_bag_74 rfl ?_
          refine j_gRe (f := 640) (v := .ref (P 5 1)) C fF_X10_10 rfl (okO hn_68 (okI (okI (e_36.1.ok.mpr c.1.1.1)))) (by show va_rf (if P 5 0 = q_68 then none else h_R h_36 640 (P 5 0)) = _; rw [if_neg (nq hn_68 (e_36.1.ok.mpr c.1.1.1)), e_36.1.2.2.2.2.1, c.1.1.2.1]; rfl) dX10_bag_75 ?_
          refine j_callVi (As := []) (rest := [.int g, .ref (P 1 j), .ref q_68, .ref q_68, .ref (P 5 1)]) C fG_X10_167 (k_nextSeal (a := (P 5 1)) (okO hn_68 (e_36.1.ok.mpr c.2.1.1))) (okO hn_68 (okI (okI (e_36.1.ok.mpr c.2.1.1)))) rfl rfl (Nat.le_of_ble_eq_true rfl) ⟨Nat.le_of_ble_eq_true rfl, Nat.le_of_ble_eq_true rfl⟩ ⟨Nat.le_of_ble_eq_true rfl, Nat.le_of_ble_eq_true rfl⟩ dX10_bag_78 (fun r_78 h_78 e_78 => ?_)
          obtain ⟨e1_78, e2_78⟩ := e_78
          have en : h_I (s_O (s_I (s_I h_36 391 (P 1 j) ((S 23 j) - g)) 395 (P 1 j) ((S 31 j) + g)) q_68 1) 135 (P 5 1) = S 4 0 := by
            show (if P 5 1 = q_68 then 0 else h_I h_36 135 (P 5 1)) = _
            rw [if_neg (nq hn_68 (e_36.1.ok.mpr c.2.1.1)), e_36.1.2.2.2.1 135 _ rfl, c.2.1.2.1.2.2.2.2.1]
          rw [en] at e1_78 e2_78
          subst e1_78
          subst e2_78
          refine j_callIv (ret := none) (As := [.ref (P 1 j), .int g, .int (S 4 0 + 1)]) (rest := [.ref q_68, .ref (P 5 1)]) C fG_X10_171 (k_Binit (a := q_68) (okI ok_sO) (P 1 j) g (S 4 0 + 1)) rfl rfl (Nat.le_of_ble_eq_true rfl) ⟨Nat.le_of_ble_eq_true rfl, Nat.le_of_ble_eq_true rfl⟩ ⟨Nat.le_of_ble_eq_true rfl, Nat.le_of_ble_eq_true rfl⟩ dX10_bag_81 (fun h_81 e_81 => ?_)
          subst e_81
          refine j_callVi (As := [.ref q_68]) (rest := []) C fG_X10_174 (k_addBag (a := (P 5 1)) (b := (P 5 8)) (x := q_68) (n := nb) (okBg (okI (okO hn_68 (e_36.1.ok.mpr c.2.1.1)))) (by show (if P 5 1 = q_68 then none else h_R h_36 133 (P 5 1)) = _; rw [if_neg (nq hn_68 (e_36.1.ok.mpr c.2.1.1)), e_36.1.2.2.2.2.1, c.2.1.2.2.2.2.1.1]) (okBg (okI (okO hn_68 (e_36.1.ok.mpr c.2.1.2.2.2.2.1.2.1)))) ((e_36.1.2.2.1 _).trans c.2.1.2.2.2.2.1.2.2) (by show (if P 5 1 = q_68 then 0 else h_I h_36 134 (P 5 1)) = _; rw [if_neg (nq hn_68 (e_36.1.ok.mpr c.2.1.1)), e_36.1.2.2.2.1 134 _ rfl, c.2.1.2.1.2.2.2.1]; exact I.bg.1) hnb (okBg (okI ok_sO))) (okBg (okI (okO hn_68 (okI (okI (e_36.1.ok.mpr c.2.1.1)))))) rfl rfl (Nat.le_of_ble_eq_true rfl) ⟨Nat.le_of_ble_eq_true rfl, Nat.le_of_ble_eq_true rfl⟩ ⟨Nat.le_of_ble_eq_true rfl, Nat.le_of_ble_eq_true rfl⟩ dX10_bag_84 (fun r_84 h_84 e_84 => ?_)
          obtain ⟨e1_84, e2_84⟩ := e_84
          subst e1_84
          subst e2_84
          refine ret _ _ _ _ _ _ ⟨mS_bag (W45 S (clsZ S (S 0 0) nf nl ns nt nk).1 (clsZ S (S 0 0) nf nl ns nt nk).2) (nI j) g nb, u2 P 2 nb q_68, nb + 1, ?_, ?_, ⟨by rw [mS_bag, u2_same]; exact nI_1 _, by omega⟩, ?_, fun _ => rfl⟩ (Nat.le_of_ble_eq_true rfl) (Nat.le_of_ble_eq_true rfl) dX10_bag_87
          · rw [m_bag, if_pos hP, nI_clamp (by omega), if_neg c_39]
          · have hS : mS_bag (W45 S (clsZ S (S 0 0) nf nl ns nt nk).1 (clsZ S (S 0 0) nf nl ns nt nk).2) (nI j) g nb = u2 (u2 (u2 (u2 (u2 (u2 (u2 (u2 (W45 S (clsZ S (S 0 0) nf nl ns nt nk).1 (clsZ S (S 0 0) nf nl ns nt nk).2) 23 j (S 23 j - g)) 31 j (S 31 j + g)) 4 0 (S 4 0 + 1)) 38 nb (nI j)) 39 nb g) 40 nb (S 4 0 + 1)) 41 nb (-1)) 3 0 (nI nb + 1) := by
              unfold mS_bag
              rw [nI_clamp (by omega)]
              rfl
            rw [hS, sO_sI (nq hn_68 (e_36.1.ok.mpr c.2.1.1))]
            have c5 : CP (s_I (s_I (s_I h_36 391 (P 1 j) ((S 23 j) - g)) 395 (P 1 j) ((S 31 j) + g)) 135 (P 5 1) (S 4 0 + 1)) (u2 (u2 (u2 (W45 S (clsZ S (S 0 0) nf nl ns nt nk).1 (clsZ S (S 0 0) nf nl ns nt nk).2) 23 j (S 23 j - g)) 31 j (S 31 j + g)) 4 0 (S 4 0 + 1)) P T nf nl nb ns nt nk nw := ((((c.same e_36.1).w45 (clsZ S (S 0 0) nf nl ns nt nk).1 (clsZ S (S 0 0) nf nl ns nt nk).2).lot391 hj).lot395 hj).book135
            have c6 := (c5.ex (((((Ex.sO (h := s_I (s_I (s_I h_36 391 (P 1 j) ((S 23 j) - g)) 395 (P 1 j) ((S 31 j) + g)) 135 (P 5 1) (S 4 0 + 1)) (q := q_68) (k := 1) hn_68).sI (f := 67) (v := -1) hn_68).sR (f := 64) (v := some (P 1 j)) hn_68).sI (f := 65) (v := g) hn_68).sI (f := 66) (v := S 4 0 + 1) hn_68)).agS ((((AgS.rf.u (r := 38) (i := nb) (v := nI j) ⟨by decide, by omega, by omega, by omega, by omega, by omega, by omega, by omega⟩).u (r := 39) (i := nb) (v := g) ⟨by decide, by omega, by omega, by omega, by omega, by omega, by omega, by omega⟩).u (r := 40) (i := nb) (v := S 4 0 + 1) ⟨by decide, by omega, by omega, by omega, by omega, by omega, by omega, by omega⟩).u (r := 41) (i := nb) (v := -1) ⟨by decide, by omega, by omega, by omega, by omega, by omega, by omega, by omega⟩)
            refine (c6.pushB (q := q_68) (j := j) hj hnl ok_sO (fun i hi => nq hn_68 (e_36.1.ok.mpr (c.2.2.2.2.1 i hi).1.2)) (show u2 (u2 (u2 (u2 (W45 S (clsZ S (S 0 0) nf nl ns nt nk).1 (clsZ S (S 0 0) nf nl ns nt nk).2) 23 j (S 23 j - g)) 31 j (S 31 j + g)) 4 0 (S 4 0 + 1)) 38 nb (nI j) 38 nb = _ from u2_same _ _ _ _) ?_ ?_ ?_ ?_).book134 (v := nI nb + 1)
            · show h_R (s_R (s_I (s_O _ q_68 1) 67 q_68 _) 64 q_68 _) 64 q_68 = _
              rw [g_RR, if_pos rfl, if_pos rfl]
            · show h_I (s_I (s_R (s_I (s_O _ q_68 1) 67 q_68 _) 64 q_68 _) 65 q_68 _) 65 q_68 = u2 (u2 (u2 (u2 (u2 (W45 S (clsZ S (S 0 0) nf nl ns nt nk).1 (clsZ S (S 0 0) nf nl ns nt nk).2) 23 j (S 23 j - g)) 31 j (S 31 j + g)) 4 0 (S 4 0 + 1)) 38 nb (nI j)) 39 nb g 39 nb
              rw [u2_same, g_II, if_pos rfl, if_pos rfl]
            · show h_I (s_I (s_I (s_R (s_I (s_O _ q_68 1) 67 q_68 _) 64 q_68 _) 65 q_68 _) 66 q_68 _) 66 q_68 = u2 (u2 (u2 (u2 (u2 (u2 (W45 S (clsZ S (S 0 0) nf nl ns nt nk).1 (clsZ S (S 0 0) nf nl ns nt nk).2) 23 j (S 23 j - g)) 31 j (S 31 j + g)) 4 0 (S 4 0 + 1)) 38 nb (nI j)) 39 nb g) 40 nb (S 4 0 + 1) 40 nb
              rw [u2_same, g_II, if_pos rfl, if_pos rfl]
            · show h_I (s_I (s_O _ q_68 1) 67 q_68 _) 67 q_68 = u2 (u2 (u2 (u2 (u2 (u2 (u2 (W45 S (clsZ S (S 0 0) nf nl ns nt nk).1 (clsZ S (S 0 0) nf nl ns nt nk).2) 23 j (S 23 j - g)) 31 j (S 31 j + g)) 4 0 (S 4 0 + 1)) 38 nb (nI j)) 39 nb g) 40 nb (S 4 0 + 1)) 41 nb (-1) 41 nb
              rw [u2_same, g_II, if_pos rfl, if_pos rfl]
          · exact e_36.2.tr (((FrC.sI (by decide)).tr (FrC.sI (by decide))).tr ((FrC.sO hn_68).tr ((FrC.sI (by decide)).tr ((((FrC.sI (by decide)).tr (FrC.sR (by decide))).tr ((FrC.sI (by decide)).tr (FrC.sI (by decide)))).tr (FrC.sB.tr (FrC.sI (by decide)))))))
        · refine j_iconst (v := (-1)) C dX10_bag_42 (by decide) ?_
          exact ret _ _ 0 0 _ _ ⟨(W45 S (clsZ S (S 0 0) nf nl ns nt nk).1 (clsZ S (S 0 0) nf nl ns nt nk).2), P, nb, by rw [m_bag, if_pos hP, nI_clamp (by omega), if_pos c_39], (c.same e_36.1).w45 _ _, I.bg, e_36.2, fun _ => rfl⟩ (Nat.zero_le _) (Nat.zero_le _) dX10_bag_43
