theorem mo_u {nl : Nat} {x : Nat → Int32} {v : Int32} (hx : ∀ a, a < nl → x a = -1 ∨ ∃ j, j < nl ∧ x a = nI j) (hv : v = -1 ∨ ∃ j, j < nl ∧ v = nI j) : ∀ a, a < nl + 1 → (if a = nl then v else x a) = -1 ∨ ∃ j, j < nl ∧ (if a = nl then v else x a) = nI j := fun a ha => by
  by_cases e : a = nl
  · rw [if_pos e]; exact hv
  · rw [if_neg e]; exact hx a (by omega)
theorem SI.k34 {S : Nat → Nat → Int32} {nf nl nb ns nt nk nw yy : Nat} (I : SI S nf nl nb ns nt nk nw yy) : ∀ k, k < nk → ¬ S 34 k = nI nl := fun k hk e => by
  have := I.lt.2
  obtain ⟨j, j1, j2⟩ := (I.ks k hk).2.2.1
  rw [j2] at e
  have := (nI_eq (by omega) (by omega)).mp e
  omega
set_option maxHeartbeats 4000000 in
set_option maxRecDepth 100000 in
theorem x_tube {l : Launch} {D : va_G} {cy : Nat → ClassId} {h : jH} {S : Nat → Nat → Int32} {P : Nat → Nat → Nat} {T : Nat → Nat → Nat → List Nat} {nf nl nb ns nt nk nw yy : Nat} (c : CP h S P T nf nl nb ns nt nk nw) (I : SI S nf nl nb ns nt nk nw yy) (cr : Int32) : jI l D cy yX10_tube (.code yX10_tube cX10_tube 3 ((Option.some FieldType.int))) (rmd 3 1 20) [.ref (P 5 0), .int cr] h (fun r h' => ∃ S' P' T' nl', (r, S') = m_tube S cr nl ∧ CP h' S' P' T' nf nl' nb ns nt nk nw ∧ (S' 2 0 = nI nl' ∧ nl' ≤ 200) ∧ FrC P h h' ∧ ∀ i, P' 5 i = P 5 i) := by
  have hnl := I.lt.2
  refine j_ofI (by decide) (Nat.le_of_ble_eq_true rfl) (fun p e s m args below meth c0 Q C hin ret => ?_)
  refine j_iload_n C dX10_tube_0 rfl ?_
  refine j_iconst (v := 1) C dX10_tube_1 (by decide) ?_
  refine j_iconst (v := 4) C dX10_tube_2 (by decide) ?_
  refine j_callSi (As := [.int cr, .int 1, .int 4]) (rest := []) C fG_X10_43 (k_within (cr) (1) (4)) rfl rfl (Nat.le_of_ble_eq_true rfl) ⟨Nat.le_of_ble_eq_true rfl, Nat.le_of_ble_eq_true rfl⟩ ⟨Nat.le_of_ble_eq_true rfl, Nat.le_of_ble_eq_true rfl⟩ dX10_tube_3 (fun r_3 h_3 e_3 => ?_)
  obtain ⟨e1_3, e2_3⟩ := e_3
  subst e1_3
  replace e2_3 := e2_3.symm
  subst e2_3
  refine j_ifeq_b (tgt := 22) C dX10_tube_6 (by decide) (fun c_6 => ?_) (fun c_6 => ?_)
  · refine j_iconst (v := (-1)) C dX10_tube_22 (by decide) ?_
    exact ret _ _ 0 0 _ _ ⟨S, P, T, nl, by rw [m_tube, if_neg (fun z => c_6 z.1)], c, I.lt, FrC.rf, fun _ => rfl⟩ (Nat.zero_le _) (Nat.zero_le _) dX10_tube_23
  · refine j_aload_n C dX10_tube_9 rfl ?_
    refine j_gRe (f := 640) (v := .ref (P 5 1)) C fF_X10_10 rfl c.1.1.1 (by rw [c.1.1.2.1]; rfl) dX10_tube_10 ?_
    refine j_gIe (f := 132) (v := (nI nl)) C fF_X10_91 rfl c.2.1.1 (c.2.1.2.1.2.2.1.trans I.lt.1) dX10_tube_13 ?_
    refine j_sipush (v := 200) C dX10_tube_16 (by decide) ?_
    refine j_icmp_lt (tgt := 24) C dX10_tube_19 (by decide) (fun c_19 => ?_) (fun c_19 => ?_)
    · have hlt : nl < 200 := nI_lt_of (n := 200) (Int32.not_le.mpr c_19) (by omega)
      refine j_new C fO_X10_94 (Nat.le_of_ble_eq_true rfl) (Nat.le_of_ble_eq_true rfl) dX10_tube_24 (fun q_24 hn_24 => ?_)
      refine j_dup C dX10_tube_27 rfl ?_
      refine j_aload_n C dX10_tube_28 rfl ?_
      refine j_gRe (f := 640) (v := .ref (P 5 1)) C fF_X10_10 rfl (okO hn_24 c.1.1.1) (by rw [gR_O (nq hn_24 c.1.1.1), c.1.1.2.1]; rfl) dX10_tube_29 ?_
      refine j_gIe (f := 132) (v := (nI nl)) C fF_X10_91 rfl (okO hn_24 c.2.1.1) (by rw [gI_O (nq hn_24 c.2.1.1), c.2.1.2.1.2.2.1]; exact I.lt.1) dX10_tube_32 ?_
      refine j_iconst (v := 0) C dX10_tube_35 (by decide) ?_
      refine j_iload_n C dX10_tube_36 rfl ?_
      refine j_aload_n C dX10_tube_37 rfl ?_
      refine j_gRe (f := 640) (v := .ref (P 5 1)) C fF_X10_10 rfl (okO hn_24 c.1.1.1) (by rw [gR_O (nq hn_24 c.1.1.1), c.1.1.2.1]; rfl) dX10_tube_38 ?_
      refine j_gIe (f := 128) (v := (S 0 0)) C fF_X10_67 rfl (okO hn_24 c.2.1.1) (by rw [gI_O (nq hn_24 c.2.1.1)]; exact c.2.1.2.1.1) dX10_tube_41 ?_
      refine j_callIv (ret := none) (As := [.int (nI nl), .int 0, .int cr, .int (S 0 0)]) (rest := [.ref q_24]) C fG_X10_96 (k_Linit (a := q_24) ok_sO (nI nl) 0 cr (S 0 0)) rfl rfl (Nat.le_of_ble_eq_true rfl) ⟨Nat.le_of_ble_eq_true rfl, Nat.le_of_ble_eq_true rfl⟩ ⟨Nat.le_of_ble_eq_true rfl, Nat.le_of_ble_eq_true rfl⟩ dX10_tube_44 (fun h_44 e_44 => ?_)
      subst e_44
      refine j_astore_n (lv' := [(0, .ref (P 5 0)), (1, .int cr), (2, .ref q_24)]) C dX10_tube_47 (by decide) rfl ?_
      refine j_aload_n C dX10_tube_48 rfl ?_
      refine j_bipush (v := 100) C dX10_tube_49 (by decide) ?_
      refine j_callVv (As := [.int 100]) (rest := []) C fG_X10_99 (k_gain (a := q_24) (okL ok_sO) 100) (okL ok_sO) rfl rfl (Nat.le_of_ble_eq_true rfl) ⟨Nat.le_of_ble_eq_true rfl, Nat.le_of_ble_eq_true rfl⟩ ⟨Nat.le_of_ble_eq_true rfl, Nat.le_of_ble_eq_true rfl⟩ dX10_tube_51 (fun h_51 e_51 => ?_)
      subst e_51
      refine j_aload_n C dX10_tube_54 rfl ?_
      refine j_gRe (f := 640) (v := .ref (P 5 1)) C fF_X10_10 rfl (okI (okI (okL (okO hn_24 c.1.1.1)))) (by rw [g_RI, g_RI, hL_Rn (nq hn_24 c.1.1.1), gR_O (nq hn_24 c.1.1.1), c.1.1.2.1]; rfl) dX10_tube_55 ?_
      refine j_aload_n C dX10_tube_58 rfl ?_
      refine j_callVi (As := [.ref q_24]) (rest := []) C fG_X10_103 (k_addLot (a := (P 5 1)) (b := (P 5 7)) (x := q_24) (n := nl) (okI (okI (okL (okO hn_24 c.2.1.1)))) (by rw [g_RI, g_RI, hL_Rn (nq hn_24 c.2.1.1), gR_O (nq hn_24 c.2.1.1)]; exact c.2.1.2.2.2.1.1) (okI (okI (okL (okO hn_24 c.2.1.2.2.2.1.2.1)))) (by rw [g_NI, g_NI, hL_N, g_NO]; exact c.2.1.2.2.2.1.2.2) (by rw [gI_n (nq hn_24 c.2.1.1), gI_n (nq hn_24 c.2.1.1), hL_In (nq hn_24 c.2.1.1), gI_O (nq hn_24 c.2.1.1), c.2.1.2.1.2.2.1]; exact I.lt.1) hlt (okI (okI (okL ok_sO)))) (okI (okI (okL (okO hn_24 c.2.1.1)))) rfl rfl (Nat.le_of_ble_eq_true rfl) ⟨Nat.le_of_ble_eq_true rfl, Nat.le_of_ble_eq_true rfl⟩ ⟨Nat.le_of_ble_eq_true rfl, Nat.le_of_ble_eq_true rfl⟩ dX10_tube_59 (fun r_59 h_59 e_59 => ?_)
      obtain ⟨e1_59, e2_59⟩ := e_59
      subst e1_59
      subst e2_59
      refine ret _ _ _ _ _ _ ⟨mS_tube S cr nl, u2 P 1 nl q_24, upU T 2 nl [], nl + 1, ?_, ?_, ⟨nI_1 _, by omega⟩, ?_, fun _ => rfl⟩ (Nat.le_of_ble_eq_true rfl) (Nat.le_of_ble_eq_true rfl) dX10_tube_62
      · rw [m_tube, if_pos ⟨c_6, fun z => by have h5 := (nI_eq (b := 200) (by omega) (by decide)).mp z; omega⟩, nI_1, nI_pred]
      · have cE : CP (s_I (s_I (hL_ (s_O h q_24 6) q_24 (nI nl) 0 cr (S 0 0)) 391 q_24 100) 392 q_24 100) S P T nf nl nb ns nt nk nw := c.ex (((exL (Ex.sO hn_24) hn_24).sI hn_24).sI hn_24)
        have cA : CP (s_I (s_I (hL_ (s_O h q_24 6) q_24 (nI nl) 0 cr (S 0 0)) 391 q_24 100) 392 q_24 100) (u2 (u2 (u2 (u2 (u2 (u2 (u2 (u2 (u2 (u2 (u2 S 21 nl 0) 22 nl cr) 23 nl 0) 24 nl (S 0 0)) 25 nl (-1)) 26 nl (-1)) 27 nl (-1)) 28 nl (-1)) 33 nl (-1)) 23 nl 100) 28 nl 100) P T nf nl nb ns nt nk nw := cE.agS (((((((((((AgS.rf.u (r := 21) (i := nl) (v := 0) ⟨by decide, by omega, by omega, by omega, by omega, by omega, by omega, by omega⟩).u (r := 22) (i := nl) (v := cr) ⟨by decide, by omega, by omega, by omega, by omega, by omega, by omega, by omega⟩).u (r := 23) (i := nl) (v := 0) ⟨by decide, by omega, by omega, by omega, by omega, by omega, by omega, by omega⟩).u (r := 24) (i := nl) (v := (S 0 0)) ⟨by decide, by omega, by omega, by omega, by omega, by omega, by omega, by omega⟩).u (r := 25) (i := nl) (v := (-1)) ⟨by decide, by omega, by omega, by omega, by omega, by omega, by omega, by omega⟩).u (r := 26) (i := nl) (v := (-1)) ⟨by decide, by omega, by omega, by omega, by omega, by omega, by omega, by omega⟩).u (r := 27) (i := nl) (v := (-1)) ⟨by decide, by omega, by omega, by omega, by omega, by omega, by omega, by omega⟩).u (r := 28) (i := nl) (v := (-1)) ⟨by decide, by omega, by omega, by omega, by omega, by omega, by omega, by omega⟩).u (r := 33) (i := nl) (v := (-1)) ⟨by decide, by omega, by omega, by omega, by omega, by omega, by omega, by omega⟩).u (r := 23) (i := nl) (v := 100) ⟨by decide, by omega, by omega, by omega, by omega, by omega, by omega, by omega⟩).u (r := 28) (i := nl) (v := 100) ⟨by decide, by omega, by omega, by omega, by omega, by omega, by omega, by omega⟩)
        have cB := (cA.pushL0 (q := q_24) hlt (okI (okI (okL ok_sO))) (fun i hi => nq hn_24 (c.2.2.2.1 i hi).1.2) (mo_u (x := S 26) (v := -1) (fun a ha => I.mA2 ha) (Or.inl rfl)) (mo_u (x := S 27) (v := -1) (fun a ha => I.mB2 ha) (Or.inl rfl)) I.bl I.wn I.k34 ⟨by rw [g_II, if_neg (by decide), g_II, if_neg (by decide), hL_384], (by rw [g_II, if_neg (by decide), g_II, if_neg (by decide), hL_385]; exact (u2_same S 21 nl 0).symm), (by rw [g_II, if_neg (by decide), g_II, if_neg (by decide), hL_386]; exact (u2_same (u2 S 21 nl 0) 22 nl cr).symm), (by rw [g_II, if_neg (by decide), g_II, if_neg (by decide), hL_387]; exact (u2_same (u2 (u2 (u2 S 21 nl 0) 22 nl cr) 23 nl 0) 24 nl (S 0 0)).symm)⟩ ⟨by rw [g_RI, g_RI, hL_r388, show (u2 (u2 (u2 (u2 (u2 (u2 (u2 (u2 (u2 (u2 (u2 S 21 nl 0) 22 nl cr) 23 nl 0) 24 nl (S 0 0)) 25 nl (-1)) 26 nl (-1)) 27 nl (-1)) 28 nl (-1)) 33 nl (-1)) 23 nl 100) 28 nl 100) 25 nl = (-1) from (u2_same (u2 (u2 (u2 (u2 S 21 nl 0) 22 nl cr) 23 nl 0) 24 nl (S 0 0)) 25 nl (-1)), adr_n], by rw [g_RI, g_RI, hL_r389, show (u2 (u2 (u2 (u2 (u2 (u2 (u2 (u2 (u2 (u2 (u2 S 21 nl 0) 22 nl cr) 23 nl 0) 24 nl (S 0 0)) 25 nl (-1)) 26 nl (-1)) 27 nl (-1)) 28 nl (-1)) 33 nl (-1)) 23 nl 100) 28 nl 100) 26 nl = (-1) from (u2_same (u2 (u2 (u2 (u2 (u2 S 21 nl 0) 22 nl cr) 23 nl 0) 24 nl (S 0 0)) 25 nl (-1)) 26 nl (-1)), adr_n], by rw [g_RI, g_RI, hL_r390, show (u2 (u2 (u2 (u2 (u2 (u2 (u2 (u2 (u2 (u2 (u2 S 21 nl 0) 22 nl cr) 23 nl 0) 24 nl (S 0 0)) 25 nl (-1)) 26 nl (-1)) 27 nl (-1)) 28 nl (-1)) 33 nl (-1)) 23 nl 100) 28 nl 100) 27 nl = (-1) from (u2_same (u2 (u2 (u2 (u2 (u2 (u2 S 21 nl 0) 22 nl cr) 23 nl 0) 24 nl (S 0 0)) 25 nl (-1)) 26 nl (-1)) 27 nl (-1)), adr_n]⟩ ⟨(by rw [g_II, if_neg (by decide), g_II, if_pos rfl, if_pos rfl]; exact (u2_same (u2 (u2 (u2 (u2 (u2 (u2 (u2 (u2 (u2 S 21 nl 0) 22 nl cr) 23 nl 0) 24 nl (S 0 0)) 25 nl (-1)) 26 nl (-1)) 27 nl (-1)) 28 nl (-1)) 33 nl (-1)) 23 nl 100).symm), (by rw [g_II, if_pos rfl, if_pos rfl]; exact (u2_same (u2 (u2 (u2 (u2 (u2 (u2 (u2 (u2 (u2 (u2 S 21 nl 0) 22 nl cr) 23 nl 0) 24 nl (S 0 0)) 25 nl (-1)) 26 nl (-1)) 27 nl (-1)) 28 nl (-1)) 33 nl (-1)) 23 nl 100) 28 nl 100).symm), (by rw [g_II, if_neg (by decide), g_II, if_neg (by decide), hL_393]; exact (I.ze nl (Nat.le_refl _)).1.symm), (by rw [g_II, if_neg (by decide), g_II, if_neg (by decide), hL_394]; exact (I.ze nl (Nat.le_refl _)).2.1.symm), (by rw [g_II, if_neg (by decide), g_II, if_neg (by decide), hL_395]; exact (I.ze nl (Nat.le_refl _)).2.2.1.symm), (by rw [g_II, if_neg (by decide), g_II, if_neg (by decide), hL_396]; exact (I.ze nl (Nat.le_refl _)).2.2.2.symm), (by rw [g_II, if_neg (by decide), g_II, if_neg (by decide), hL_398]; exact (u2_same (u2 (u2 (u2 (u2 (u2 (u2 (u2 (u2 S 21 nl 0) 22 nl cr) 23 nl 0) 24 nl (S 0 0)) 25 nl (-1)) 26 nl (-1)) 27 nl (-1)) 28 nl (-1)) 33 nl (-1)).symm)⟩ (by rw [g_RI, g_RI, hL_r397]) (by rw [show (u2 (u2 (u2 (u2 (u2 (u2 (u2 (u2 (u2 (u2 (u2 S 21 nl 0) 22 nl cr) 23 nl 0) 24 nl (S 0 0)) 25 nl (-1)) 26 nl (-1)) 27 nl (-1)) 28 nl (-1)) 33 nl (-1)) 23 nl 100) 28 nl 100) 21 nl = 0 from (u2_same S 21 nl 0)]; decide)).book132 (v := nI nl + 1)
        refine cB.agS ?_
        refine ⟨?_, ?_, ?_, ?_, ?_, ?_, ?_, fun i h1 => rfl⟩
        · intro k h1
          rcases (show k = 0 ∨ k = 1 ∨ k = 2 ∨ k = 3 ∨ k = 4 ∨ k = 5 ∨ k = 6 ∨ k = 7 ∨ k = 8 by omega) with rfl | rfl | rfl | rfl | rfl | rfl | rfl | rfl | rfl <;> rfl
        · intro k i h1 h2 h3
          rcases (show k = 9 ∨ k = 10 ∨ k = 11 ∨ k = 12 by omega) with rfl | rfl | rfl | rfl <;> rfl
        · intro k i h1 h2 h3
          rcases (show k = 13 ∨ k = 14 ∨ k = 15 ∨ k = 16 by omega) with rfl | rfl | rfl | rfl <;> rfl
        · intro k i h1 h2 h3
          rcases (show k = 17 ∨ k = 18 ∨ k = 19 ∨ k = 20 by omega) with rfl | rfl | rfl | rfl <;> rfl
        · intro k i h1 h2 h3
          rcases (show k = 21 ∨ k = 22 ∨ k = 23 ∨ k = 24 ∨ k = 25 ∨ k = 26 ∨ k = 27 ∨ k = 28 ∨ k = 29 ∨ k = 30 ∨ k = 31 ∨ k = 32 ∨ k = 33 by omega) with rfl | rfl | rfl | rfl | rfl | rfl | rfl | rfl | rfl | rfl | rfl | rfl | rfl <;> rfl
        · intro k i h1 h2 h3
          rcases (show k = 34 ∨ k = 35 ∨ k = 36 ∨ k = 37 by omega) with rfl | rfl | rfl | rfl <;> rfl
        · intro k i h1 h2 h3
          rcases (show k = 38 ∨ k = 39 ∨ k = 40 ∨ k = 41 by omega) with rfl | rfl | rfl | rfl <;> rfl
      · exact (FrC.sO hn_24).tr (frL.tr (((FrC.sI (by decide)).tr (FrC.sI (by decide))).tr (FrC.sB.tr (FrC.sI (by decide)))))
    · refine j_iconst (v := (-1)) C dX10_tube_22 (by decide) ?_
      exact ret _ _ 0 0 _ _ ⟨S, P, T, nl, by rw [m_tube, if_neg (fun z => c_19 (nI_lt (b := 200) (ne_lt rfl z.2 I.lt.2) (by decide)))], c, I.lt, FrC.rf, fun _ => rfl⟩ (Nat.zero_le _) (Nat.zero_le _) dX10_tube_23
