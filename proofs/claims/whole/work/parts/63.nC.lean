theorem okBg {h : jH} {a b k x : Nat} {g s : Int32} (o : h_ok h a k) : h_ok (hB_ h b x g s) a k := o

set_option maxHeartbeats 4000000 in
set_option maxRecDepth 100000 in
theorem x_bag {l : Launch} {D : va_G} {cy : Nat → ClassId} {h : jH} {S : Nat → Nat → Int32} {P : Nat → Nat → Nat} {T : Nat → Nat → Nat → List Nat} {nf nl nb ns nt nk nw yy : Nat} (c : CP h S P T nf nl nb ns nt nk nw) (I : SI S nf nl nb ns nt nk nw yy) (lt g : Int32) : jI l D cy yX10_bag (.code yX10_bag cX10_bag 4 ((Option.some FieldType.int))) (rmd 9 1 4) [.ref (P 5 0), .int lt, .int g] h (fun r h' => ∃ S' P' nb', (r, S') = m_bag S lt g nb nf nl ns nt nk ∧ CP h' S' P' T nf nl nb' ns nt nk nw ∧ (S' 3 0 = nI nb' ∧ nb' ≤ 200) ∧ FrC P h h' ∧ ∀ i, P' 5 i = P 5 i) := by
  have hl := I.lt.1
  have hnl := I.lt.2
  have hnb0 := I.bg.2
  refine j_ofI (by decide) (Nat.le_of_ble_eq_true rfl) (fun p e s m args below meth c0 Q C hin ret => ?_)
  refine j_aload_n C dX10_bag_0 rfl ?_
  refine j_gRe (f := 640) (v := .ref (P 5 1)) C fF_X10_10 rfl c.1.1.1 (by rw [c.1.1.2.1]; rfl) dX10_bag_1 ?_
  refine j_iload_n C dX10_bag_4 rfl ?_
  refine j_callVq (As := [.int lt]) (rest := []) C fG_X10_107 (s_lotAt c hl hnl (lt)) c.2.1.1 rfl rfl (Nat.le_of_ble_eq_true rfl) ⟨Nat.le_of_ble_eq_true rfl, Nat.le_of_ble_eq_true rfl⟩ ⟨Nat.le_of_ble_eq_true rfl, Nat.le_of_ble_eq_true rfl⟩ dX10_bag_5 (fun r_5 h_5 e_5 => ?_)
  obtain ⟨e1_5, e2_5⟩ := e_5
  subst e1_5
  replace e2_5 := e2_5.symm
  subst e2_5
  refine j_astore_nQ (lv' := [(0, .ref (P 5 0)), (1, .int lt), (2, .int g), (3, va_rf (lotO S P lt))]) C dX10_bag_8 (by decide) rfl ?_
  refine j_aload_nQ C dX10_bag_9 rfl ?_
  cases hq_10 : (lotO S P lt) with
  | none =>
    refine j_ifnullN (tgt := 34) C dX10_bag_10 (by decide) ?_
    refine j_iconst (v := (-1)) C dX10_bag_34 (by decide) ?_
    exact ret _ _ 0 0 _ _ ⟨S, P, nb, by rw [m_bag, if_neg (fun z => lotO_n hq_10 z.1)], c, I.bg, FrC.rf, fun _ => rfl⟩ (Nat.zero_le _) (Nat.zero_le _) dX10_bag_35
  | some x_10 =>
    refine j_ifnull C dX10_bag_10 ?_
    obtain ⟨j, hj, hx, ha, hL⟩ := lotO_s hl hnl hq_10
    subst hx
    subst ha
    refine j_aload_n C dX10_bag_13 rfl ?_
    refine j_iload_n C dX10_bag_14 rfl ?_
    refine j_callVi (As := [.int g]) (rest := []) C fG_X10_111 (k_has (a := (P 1 j)) (c.2.2.2.1 j hj).1.2 (g)) (c.2.2.2.1 j hj).1.2 rfl rfl (Nat.le_of_ble_eq_true rfl) ⟨Nat.le_of_ble_eq_true rfl, Nat.le_of_ble_eq_true rfl⟩ ⟨Nat.le_of_ble_eq_true rfl, Nat.le_of_ble_eq_true rfl⟩ dX10_bag_15 (fun r_15 h_15 e_15 => ?_)
    obtain ⟨e1_15, e2_15⟩ := e_15
    subst e1_15
    replace e2_15 := e2_15.symm
    subst e2_15
    refine j_ifeq_b (tgt := 34) C dX10_bag_18 (by decide) (fun c_18 => ?_) (fun c_18 => ?_)
    · refine j_iconst (v := (-1)) C dX10_bag_34 (by decide) ?_
      exact ret _ _ 0 0 _ _ ⟨S, P, nb, by rw [m_bag, if_neg (fun z => c_18 ⟨z.2.1, by rw [(c.2.2.2.1 j hj).2.2.2.1.1]; have u := z.2.2.1; rw [nI_clamp (by omega)] at u; exact u⟩)], c, I.bg, FrC.rf, fun _ => rfl⟩ (Nat.zero_le _) (Nat.zero_le _) dX10_bag_35
    · refine j_aload_n C dX10_bag_21 rfl ?_
      refine j_gRe (f := 640) (v := .ref (P 5 1)) C fF_X10_10 rfl c.1.1.1 (by rw [c.1.1.2.1]; rfl) dX10_bag_22 ?_
      refine j_gIe (f := 134) (v := (nI nb)) C fF_X10_155 rfl c.2.1.1 (c.2.1.2.1.2.2.2.1.trans I.bg.1) dX10_bag_25 ?_
      refine j_sipush (v := 200) C dX10_bag_28 (by decide) ?_
      refine j_icmp_lt (tgt := 36) C dX10_bag_31 (by decide) (fun c_31 => ?_) (fun c_31 => ?_)
      · have hnb : nb < 200 := Nat.lt_of_not_le (fun u => Int32.not_lt.mpr (nI_le u (by omega)) c_31)
        have hq0 : ¬ S 0 0 < S 24 j := I.now hj
        have hP : (0 ≤ nI j ∧ nI j ≤ S 2 0 - 1) ∧ (¬ g < 1) ∧ (¬ S 23 (nI j).toNatClampNeg < g) ∧ (¬ nI nb = 200) := ⟨hL, c_18.1, by rw [nI_clamp (by omega), ← (c.2.2.2.1 j hj).2.2.2.1.1]; exact c_18.2, fun z => by have h5 := (nI_eq (b := 200) (by omega) (by decide)).mp z; omega⟩
        refine j_aload_n C dX10_bag_36 rfl ?_
        refine j_gRe (f := 641) (v := .ref (P 5 2)) C fF_X10_21 rfl c.1.1.1 (by rw [c.1.1.2.2.1]; rfl) dX10_bag_37 ?_
        refine j_aload_n C dX10_bag_40 rfl ?_
        refine j_gIe (f := 384) (v := (nI j)) C fF_X10_158 rfl (c.2.2.2.1 j hj).1.2 (c.2.2.2.1 j hj).2.1.1 dX10_bag_41 ?_
        refine j_aload_n C dX10_bag_44 rfl ?_
        refine j_gRe (f := 640) (v := .ref (P 5 1)) C fF_X10_10 rfl c.1.1.1 (by rw [c.1.1.2.1]; rfl) dX10_bag_45 ?_
        refine j_gIe (f := 128) (v := (S 0 0)) C fF_X10_67 rfl c.2.1.1 c.2.1.2.1.1 dX10_bag_48 ?_
        refine j_callVv (As := [.int (nI j), .int (S 0 0)]) (rest := []) C fG_X10_161 (k_upTo (M := (j + 1)) c I (nI_pred j).symm (by omega) ((S 0 0))) c.1.2.1.1 rfl rfl (Nat.le_of_ble_eq_true rfl) ⟨Nat.le_of_ble_eq_true rfl, Nat.le_of_ble_eq_true rfl⟩ ⟨Nat.le_of_ble_eq_true rfl, Nat.le_of_ble_eq_true rfl⟩ dX10_bag_51 (fun h_51 e_51 => ?_)
        refine j_aload_n C dX10_bag_54 rfl ?_
        refine j_gIe (f := 399) (v := ((clsZ S (S 0 0) nf nl ns nt nk).1 j)) C fF_X10_165 rfl (e_51.1.ok.mpr (c.2.2.2.1 j hj).1.2) ((e_51.2.2 j (Nat.lt_succ_self _) hq0).1) dX10_bag_55 ?_
        refine j_bipush (v := 9) C dX10_bag_58 (by decide) ?_
        refine j_icmp_ne (tgt := 65) C dX10_bag_60 (by decide) (fun c_60 => ?_) (fun c_60 => ?_)
        · refine j_aload_n C dX10_bag_65 rfl ?_
          refine j_dup C dX10_bag_66 rfl ?_
          refine j_gIe (f := 391) (v := (S 23 j)) C fF_X10_139 rfl (e_51.1.ok.mpr (c.2.2.2.1 j hj).1.2) ((e_51.1.2.2.2.1 391 (P 1 j) rfl).trans (c.2.2.2.1 j hj).2.2.2.1.1) dX10_bag_67 ?_
          refine j_iload_n C dX10_bag_70 rfl ?_
          refine j_isub C dX10_bag_71 ?_
          refine j_pI (f := 391) C fP_X10_139 rfl (e_51.1.ok.mpr (c.2.2.2.1 j hj).1.2) rfl rfl dX10_bag_72 ?_
          refine j_aload_n C dX10_bag_75 rfl ?_
          refine j_dup C dX10_bag_76 rfl ?_
          refine j_gIe (f := 395) (v := (S 31 j)) C fF_X10_168 rfl (okI (e_51.1.ok.mpr (c.2.2.2.1 j hj).1.2)) ((e_51.1.2.2.2.1 395 (P 1 j) rfl).trans (c.2.2.2.1 j hj).2.2.2.1.2.2.2.2.1) dX10_bag_77 ?_
          refine j_iload_n C dX10_bag_80 rfl ?_
          refine j_iadd C dX10_bag_81 ?_
          refine j_pI (f := 395) C fP_X10_168 rfl (okI (e_51.1.ok.mpr (c.2.2.2.1 j hj).1.2)) rfl rfl dX10_bag_82 ?_
          refine j_aload_n C dX10_bag_85 rfl ?_
          refine j_gRe (f := 640) (v := .ref (P 5 1)) C fF_X10_10 rfl (okI (okI (e_51.1.ok.mpr c.1.1.1))) (by show va_rf (h_R h_51 640 (P 5 0)) = _; rw [e_51.1.2.2.2.2.1, c.1.1.2.1]; rfl) dX10_bag_86 ?_
          refine j_new C fO_X10_171 (Nat.le_of_ble_eq_true rfl) (Nat.le_of_ble_eq_true rfl) dX10_bag_89 (fun q_89 hn_89 => ?_)
          refine j_dup C dX10_bag_92 rfl ?_
          refine j_aload_n C dX10_bag_93 rfl ?_
          refine j_iload_n C dX10_bag_94 rfl ?_
          refine j_aload_n C dX10_bag_95 rfl ?_
          refine j_gRe (f := 640) (v := .ref (P 5 1)) C fF_X10_10 rfl (okO hn_89 (okI (okI (e_51.1.ok.mpr c.1.1.1)))) (by show va_rf (if P 5 0 = q_89 then none else h_R h_51 640 (P 5 0)) = _; rw [if_neg (nq hn_89 (e_51.1.ok.mpr c.1.1.1)), e_51.1.2.2.2.2.1, c.1.1.2.1]; rfl) dX10_bag_96 ?_
          refine j_callVi (As := []) (rest := [.int g, .ref (P 1 j), .ref q_89, .ref q_89, .ref (P 5 1)]) C fG_X10_173 (k_nextSeal (a := (P 5 1)) (okO hn_89 (e_51.1.ok.mpr c.2.1.1))) (okO hn_89 (okI (okI (e_51.1.ok.mpr c.2.1.1)))) rfl rfl (Nat.le_of_ble_eq_true rfl) ⟨Nat.le_of_ble_eq_true rfl, Nat.le_of_ble_eq_true rfl⟩ ⟨Nat.le_of_ble_eq_true rfl, Nat.le_of_ble_eq_true rfl⟩ dX10_bag_99 (fun r_99 h_99 e_99 => ?_)
          obtain ⟨e1_99, e2_99⟩ := e_99
          have en : h_I (s_O (s_I (s_I h_51 391 (P 1 j) ((S 23 j) - g)) 395 (P 1 j) ((S 31 j) + g)) q_89 1) 135 (P 5 1) = S 4 0 := by
            show (if P 5 1 = q_89 then 0 else h_I h_51 135 (P 5 1)) = _
            rw [if_neg (nq hn_89 (e_51.1.ok.mpr c.2.1.1)), e_51.1.2.2.2.1 135 _ rfl, c.2.1.2.1.2.2.2.2.1]
          rw [en] at e1_99 e2_99
          subst e1_99
          subst e2_99
          refine j_callIv (ret := none) (As := [.ref (P 1 j), .int g, .int (S 4 0 + 1)]) (rest := [.ref q_89, .ref (P 5 1)]) C fG_X10_177 (k_Binit (a := q_89) (okI ok_sO) (P 1 j) g (S 4 0 + 1)) rfl rfl (Nat.le_of_ble_eq_true rfl) ⟨Nat.le_of_ble_eq_true rfl, Nat.le_of_ble_eq_true rfl⟩ ⟨Nat.le_of_ble_eq_true rfl, Nat.le_of_ble_eq_true rfl⟩ dX10_bag_102 (fun h_102 e_102 => ?_)
          subst e_102
          refine j_callVi (As := [.ref q_89]) (rest := []) C fG_X10_180 (k_addBag (a := (P 5 1)) (b := (P 5 8)) (x := q_89) (n := nb) (okBg (okI (okO hn_89 (e_51.1.ok.mpr c.2.1.1)))) (by show (if P 5 1 = q_89 then none else h_R h_51 133 (P 5 1)) = _; rw [if_neg (nq hn_89 (e_51.1.ok.mpr c.2.1.1)), e_51.1.2.2.2.2.1, c.2.1.2.2.2.2.1.1]) (okBg (okI (okO hn_89 (e_51.1.ok.mpr c.2.1.2.2.2.2.1.2.1)))) ((e_51.1.2.2.1 _).trans c.2.1.2.2.2.2.1.2.2) (by show (if P 5 1 = q_89 then 0 else h_I h_51 134 (P 5 1)) = _; rw [if_neg (nq hn_89 (e_51.1.ok.mpr c.2.1.1)), e_51.1.2.2.2.1 134 _ rfl, c.2.1.2.1.2.2.2.1]; exact I.bg.1) hnb (okBg (okI ok_sO))) (okBg (okI (okO hn_89 (okI (okI (e_51.1.ok.mpr c.2.1.1)))))) rfl rfl (Nat.le_of_ble_eq_true rfl) ⟨Nat.le_of_ble_eq_true rfl, Nat.le_of_ble_eq_true rfl⟩ ⟨Nat.le_of_ble_eq_true rfl, Nat.le_of_ble_eq_true rfl⟩ dX10_bag_105 (fun r_105 h_105 e_105 => ?_)
          obtain ⟨e1_105, e2_105⟩ := e_105
          subst e1_105
          subst e2_105
          refine ret _ _ _ _ _ _ ⟨mS_bag (W45 S (clsZ S (S 0 0) nf nl ns nt nk).1 (clsZ S (S 0 0) nf nl ns nt nk).2) (nI j) g nb, u2 P 2 nb q_89, nb + 1, ?_, ?_, ⟨by rw [mS_bag, u2_same]; exact nI_1 _, by omega⟩, ?_, fun _ => rfl⟩ (Nat.le_of_ble_eq_true rfl) (Nat.le_of_ble_eq_true rfl) dX10_bag_108
          · rw [m_bag, if_pos hP, nI_clamp (by omega), if_neg c_60]
          · have hS : mS_bag (W45 S (clsZ S (S 0 0) nf nl ns nt nk).1 (clsZ S (S 0 0) nf nl ns nt nk).2) (nI j) g nb = u2 (u2 (u2 (u2 (u2 (u2 (u2 (u2 (W45 S (clsZ S (S 0 0) nf nl ns nt nk).1 (clsZ S (S 0 0) nf nl ns nt nk).2) 23 j (S 23 j - g)) 31 j (S 31 j + g)) 4 0 (S 4 0 + 1)) 38 nb (nI j)) 39 nb g) 40 nb (S 4 0 + 1)) 41 nb (-1)) 3 0 (nI nb + 1) := by
              unfold mS_bag
              rw [nI_clamp (by omega)]
              rfl
            rw [hS, sO_sI (nq hn_89 (e_51.1.ok.mpr c.2.1.1))]
            have c5 : CP (s_I (s_I (s_I h_51 391 (P 1 j) ((S 23 j) - g)) 395 (P 1 j) ((S 31 j) + g)) 135 (P 5 1) (S 4 0 + 1)) (u2 (u2 (u2 (W45 S (clsZ S (S 0 0) nf nl ns nt nk).1 (clsZ S (S 0 0) nf nl ns nt nk).2) 23 j (S 23 j - g)) 31 j (S 31 j + g)) 4 0 (S 4 0 + 1)) P T nf nl nb ns nt nk nw := ((((c.same e_51.1).w45 (clsZ S (S 0 0) nf nl ns nt nk).1 (clsZ S (S 0 0) nf nl ns nt nk).2).lot391 hj).lot395 hj).book135
            have c6 := (c5.ex (((((Ex.sO (h := s_I (s_I (s_I h_51 391 (P 1 j) ((S 23 j) - g)) 395 (P 1 j) ((S 31 j) + g)) 135 (P 5 1) (S 4 0 + 1)) (q := q_89) (k := 1) hn_89).sI (f := 67) (v := -1) hn_89).sR (f := 64) (v := some (P 1 j)) hn_89).sI (f := 65) (v := g) hn_89).sI (f := 66) (v := S 4 0 + 1) hn_89)).agS ((((AgS.rf.u (r := 38) (i := nb) (v := nI j) ⟨by decide, by omega, by omega, by omega, by omega, by omega, by omega, by omega⟩).u (r := 39) (i := nb) (v := g) ⟨by decide, by omega, by omega, by omega, by omega, by omega, by omega, by omega⟩).u (r := 40) (i := nb) (v := S 4 0 + 1) ⟨by decide, by omega, by omega, by omega, by omega, by omega, by omega, by omega⟩).u (r := 41) (i := nb) (v := -1) ⟨by decide, by omega, by omega, by omega, by omega, by omega, by omega, by omega⟩)
            refine (c6.pushB (q := q_89) (j := j) hj hnl ok_sO (fun i hi => nq hn_89 (e_51.1.ok.mpr (c.2.2.2.2.1 i hi).1.2)) (show u2 (u2 (u2 (u2 (W45 S (clsZ S (S 0 0) nf nl ns nt nk).1 (clsZ S (S 0 0) nf nl ns nt nk).2) 23 j (S 23 j - g)) 31 j (S 31 j + g)) 4 0 (S 4 0 + 1)) 38 nb (nI j) 38 nb = _ from u2_same _ _ _ _) ?_ ?_ ?_ ?_).book134 (v := nI nb + 1)
            · show h_R (s_R (s_I (s_O _ q_89 1) 67 q_89 _) 64 q_89 _) 64 q_89 = _
              rw [g_RR, if_pos rfl, if_pos rfl]
            · show h_I (s_I (s_R (s_I (s_O _ q_89 1) 67 q_89 _) 64 q_89 _) 65 q_89 _) 65 q_89 = u2 (u2 (u2 (u2 (u2 (W45 S (clsZ S (S 0 0) nf nl ns nt nk).1 (clsZ S (S 0 0) nf nl ns nt nk).2) 23 j (S 23 j - g)) 31 j (S 31 j + g)) 4 0 (S 4 0 + 1)) 38 nb (nI j)) 39 nb g 39 nb
              rw [u2_same, g_II, if_pos rfl, if_pos rfl]
            · show h_I (s_I (s_I (s_R (s_I (s_O _ q_89 1) 67 q_89 _) 64 q_89 _) 65 q_89 _) 66 q_89 _) 66 q_89 = u2 (u2 (u2 (u2 (u2 (u2 (W45 S (clsZ S (S 0 0) nf nl ns nt nk).1 (clsZ S (S 0 0) nf nl ns nt nk).2) 23 j (S 23 j - g)) 31 j (S 31 j + g)) 4 0 (S 4 0 + 1)) 38 nb (nI j)) 39 nb g) 40 nb (S 4 0 + 1) 40 nb
              rw [u2_same, g_II, if_pos rfl, if_pos rfl]
            · show h_I (s_I (s_O _ q_89 1) 67 q_89 _) 67 q_89 = u2 (u2 (u2 (u2 (u2 (u2 (u2 (W45 S (clsZ S (S 0 0) nf nl ns nt nk).1 (clsZ S (S 0 0) nf nl ns nt nk).2) 23 j (S 23 j - g)) 31 j (S 31 j + g)) 4 0 (S 4 0 + 1)) 38 nb (nI j)) 39 nb g) 40 nb (S 4 0 + 1)) 41 nb (-1) 41 nb
              rw [u2_same, g_II, if_pos rfl, if_pos rfl]
          · exact e_51.2.1.tr (((FrC.sI (by decide)).tr (FrC.sI (by decide))).tr ((FrC.sO hn_89).tr ((FrC.sI (by decide)).tr ((((FrC.sI (by decide)).tr (FrC.sR (by decide))).tr ((FrC.sI (by decide)).tr (FrC.sI (by decide)))).tr (FrC.sB.tr (FrC.sI (by decide)))))))
        · refine j_iconst (v := (-1)) C dX10_bag_63 (by decide) ?_
          exact ret _ _ 0 0 _ _ ⟨(W45 S (clsZ S (S 0 0) nf nl ns nt nk).1 (clsZ S (S 0 0) nf nl ns nt nk).2), P, nb, by rw [m_bag, if_pos hP, nI_clamp (by omega), if_pos c_60], (c.same e_51.1).w45 _ _, I.bg, e_51.2.1, fun _ => rfl⟩ (Nat.zero_le _) (Nat.zero_le _) dX10_bag_64
      · refine j_iconst (v := (-1)) C dX10_bag_34 (by decide) ?_
        exact ret _ _ 0 0 _ _ ⟨S, P, nb, by rw [m_bag, if_neg (fun z => z.2.2.2 (by rw [show nb = 200 by have := nI_ge_of (n := 200) (Int32.not_lt.mp c_31) (by omega) (by omega); omega]; rfl))], c, I.bg, FrC.rf, fun _ => rfl⟩ (Nat.zero_le _) (Nat.zero_le _) dX10_bag_35
