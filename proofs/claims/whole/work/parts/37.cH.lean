theorem va_cat (r : Option Nat) : (va_rf r).category = 1 := by cases r <;> rfl
set_option maxHeartbeats 4000000 in
set_option maxRecDepth 100000 in
theorem x_sell {l : Launch} {D : va_G} {cy : Nat → ClassId} {h : jH} {S : Nat → Nat → Int32} {P : Nat → Nat → Nat} {T : Nat → Nat → Nat → List Nat} {nf nl nb ns nt nk nw : Nat} (c : CP h S P T nf nl nb ns nt nk nw) (hb : S 3 0 = nI nb) (hnb : nb ≤ 200) (bg by_ : Int32) : jI l D cy yX10_sell (.code yX10_sell cX10_sell 4 ((Option.some FieldType.boolean))) (rmd 1 0 0) [.ref (P 5 0), .int bg, .int by_] h (fun r h' => ∃ S', (r, S') = m_sell S bg by_ ∧ CP h' S' P T nf nl nb ns nt nk nw ∧ FrC P h h') := by
  refine j_ofZ (by decide) (Nat.le_of_ble_eq_true rfl) (fun p e s m args below meth c0 Q C hin ret => ?_)
  refine j_aload_n C dX10_sell_0 rfl ?_
  refine j_gRe (f := 640) (v := .ref (P 5 1)) C fF_X10_10 rfl c.1.1.1 (by rw [c.1.1.2.1]; rfl) dX10_sell_1 ?_
  refine j_iload_n C dX10_sell_4 rfl ?_
  refine j_callVq (As := [.int bg]) (rest := []) C fG_X10_184 (s_bagAt c hb hnb (bg)) c.2.1.1 rfl rfl (Nat.le_of_ble_eq_true rfl) ⟨Nat.le_of_ble_eq_true rfl, Nat.le_of_ble_eq_true rfl⟩ ⟨Nat.le_of_ble_eq_true rfl, Nat.le_of_ble_eq_true rfl⟩ dX10_sell_5 (fun r_5 h_5 e_5 => ?_)
  obtain ⟨e1_5, e2_5⟩ := e_5
  subst e1_5
  replace e2_5 := e2_5.symm
  subst e2_5
  refine j_astore_nQ (lv' := [(0, .ref (P 5 0)), (1, .int bg), (2, .int by_), (3, va_rf (bagO S P bg))]) C dX10_sell_8 (by decide) rfl ?_
  refine j_aload_nQ C dX10_sell_9 rfl ?_
  cases hq_10 : (bagO S P bg) with
  | none =>
    refine j_ifnullN (tgt := 37) C dX10_sell_10 (by decide) ?_
    refine j_iconst (v := 0) C dX10_sell_37 (by decide) ?_
    exact ret _ _ 0 0 _ _ ⟨S, by rw [m_sell, if_neg (fun z => bagO_n hq_10 z.1)], c, FrC.rf⟩ (by decide) (Nat.zero_le _) (Nat.zero_le _) dX10_sell_38
  | some x_10 =>
    refine j_ifnull C dX10_sell_10 ?_
    obtain ⟨j, hj, hx, ha, hL⟩ := bagO_s hb hnb hq_10
    subst hx
    subst ha
    refine j_iload_n C dX10_sell_13 rfl ?_
    refine j_iconst (v := 0) C dX10_sell_14 (by decide) ?_
    refine j_bipush (v := 19) C dX10_sell_15 (by decide) ?_
    refine j_callSi (As := [.int by_, .int 0, .int 19]) (rest := []) C fG_X10_43 (k_within (by_) (0) (19)) rfl rfl (Nat.le_of_ble_eq_true rfl) ⟨Nat.le_of_ble_eq_true rfl, Nat.le_of_ble_eq_true rfl⟩ ⟨Nat.le_of_ble_eq_true rfl, Nat.le_of_ble_eq_true rfl⟩ dX10_sell_17 (fun r_17 h_17 e_17 => ?_)
    obtain ⟨e1_17, e2_17⟩ := e_17
    subst e1_17
    replace e2_17 := e2_17.symm
    subst e2_17
    refine j_ifeq_b (tgt := 37) C dX10_sell_20 (by decide) (fun c_20 => ?_) (fun c_20 => ?_)
    · refine j_iconst (v := 0) C dX10_sell_37 (by decide) ?_
      exact ret _ _ 0 0 _ _ ⟨S, by rw [m_sell, if_neg (fun z => c_20 z.2.1)], c, FrC.rf⟩ (by decide) (Nat.zero_le _) (Nat.zero_le _) dX10_sell_38
    · refine j_aload_n C dX10_sell_23 rfl ?_
      refine j_callVi (As := []) (rest := []) C fG_X10_188 (k_isOpened (a := (P 2 j)) (c.2.2.2.2.1 j hj).1.2) (c.2.2.2.2.1 j hj).1.2 rfl rfl (Nat.le_of_ble_eq_true rfl) ⟨Nat.le_of_ble_eq_true rfl, Nat.le_of_ble_eq_true rfl⟩ ⟨Nat.le_of_ble_eq_true rfl, Nat.le_of_ble_eq_true rfl⟩ dX10_sell_24 (fun r_24 h_24 e_24 => ?_)
      obtain ⟨e1_24, e2_24⟩ := e_24
      subst e1_24
      replace e2_24 := e2_24.symm
      subst e2_24
      refine j_ifne_b (tgt := 37) C dX10_sell_27 (by decide) (fun c_27 => ?_) (fun c_27 => ?_)
      · refine j_iconst (v := 0) C dX10_sell_37 (by decide) ?_
        exact ret _ _ 0 0 _ _ ⟨S, by rw [m_sell, if_neg (fun z => z.2.2.1 (by rw [nI_clamp (by omega), ← (c.2.2.2.2.1 j hj).2.2.2.1]; exact c_27))], c, FrC.rf⟩ (by decide) (Nat.zero_le _) (Nat.zero_le _) dX10_sell_38
      · refine j_aload_n C dX10_sell_30 rfl ?_
        refine j_callVi (As := []) (rest := []) C fG_X10_195 (k_isSold (a := (P 2 j)) (c.2.2.2.2.1 j hj).1.2) (c.2.2.2.2.1 j hj).1.2 rfl rfl (Nat.le_of_ble_eq_true rfl) ⟨Nat.le_of_ble_eq_true rfl, Nat.le_of_ble_eq_true rfl⟩ ⟨Nat.le_of_ble_eq_true rfl, Nat.le_of_ble_eq_true rfl⟩ dX10_sell_31 (fun r_31 h_31 e_31 => ?_)
        obtain ⟨e1_31, e2_31⟩ := e_31
        subst e1_31
        replace e2_31 := e2_31.symm
        subst e2_31
        refine j_ifeq_b (tgt := 39) C dX10_sell_34 (by decide) (fun c_34 => ?_) (fun c_34 => ?_)
        · refine j_aload_n C dX10_sell_39 rfl ?_
          refine j_iload_n C dX10_sell_40 rfl ?_
          refine j_pI (f := 67) C fP_X10_201 rfl (c.2.2.2.2.1 j hj).1.2 rfl rfl dX10_sell_41 ?_
          refine j_iconst (v := 1) C dX10_sell_44 (by decide) ?_
          have hp : (1, u2 S 41 j by_) = m_sell S (nI j) by_ := by
            rw [m_sell, if_pos ⟨hL, c_20, by rw [nI_clamp (by omega), ← (c.2.2.2.2.1 j hj).2.2.2.1]; exact c_27, by rw [nI_clamp (by omega), ← (c.2.2.2.2.1 j hj).2.2.2.2]; exact Classical.byContradiction c_34⟩]
            unfold mS_sell
            rw [nI_clamp (by omega)]
          exact ret _ _ 0 0 _ _ ⟨_, hp, c.bag67 hj, FrC.sI (by decide)⟩ (by decide) (Nat.zero_le _) (Nat.zero_le _) dX10_sell_45
        · refine j_iconst (v := 0) C dX10_sell_37 (by decide) ?_
          exact ret _ _ 0 0 _ _ ⟨S, by rw [m_sell, if_neg (fun z => c_34 (by have q := z.2.2.2; rw [nI_clamp (by omega), ← (c.2.2.2.2.1 j hj).2.2.2.2] at q; exact q))], c, FrC.rf⟩ (by decide) (Nat.zero_le _) (Nat.zero_le _) dX10_sell_38
set_option maxHeartbeats 4000000 in
set_option maxRecDepth 100000 in
theorem x_harvest {l : Launch} {D : va_G} {cy : Nat → ClassId} {h : jH} {S : Nat → Nat → Int32} {P : Nat → Nat → Nat} {T : Nat → Nat → Nat → List Nat} {nf nl nb ns nt nk nw : Nat} (c : CP h S P T nf nl nb ns nt nk nw) (hl : S 2 0 = nI nl) (hnl : nl ≤ 200) (lt g : Int32) : jI l D cy yX10_harvest (.code yX10_harvest cX10_harvest 4 ((Option.some FieldType.boolean))) (rmd 1 0 0) [.ref (P 5 0), .int lt, .int g] h (fun r h' => ∃ S', (r, S') = m_harvest S lt g ∧ CP h' S' P T nf nl nb ns nt nk nw ∧ FrC P h h') := by
  refine j_ofZ (by decide) (Nat.le_of_ble_eq_true rfl) (fun p e s m args below meth c0 Q C hin ret => ?_)
  refine j_aload_n C dX10_harvest_0 rfl ?_
  refine j_gRe (f := 640) (v := .ref (P 5 1)) C fF_X10_10 rfl c.1.1.1 (by rw [c.1.1.2.1]; rfl) dX10_harvest_1 ?_
  refine j_iload_n C dX10_harvest_4 rfl ?_
  refine j_callVq (As := [.int lt]) (rest := []) C fG_X10_107 (s_lotAt c hl hnl (lt)) c.2.1.1 rfl rfl (Nat.le_of_ble_eq_true rfl) ⟨Nat.le_of_ble_eq_true rfl, Nat.le_of_ble_eq_true rfl⟩ ⟨Nat.le_of_ble_eq_true rfl, Nat.le_of_ble_eq_true rfl⟩ dX10_harvest_5 (fun r_5 h_5 e_5 => ?_)
  obtain ⟨e1_5, e2_5⟩ := e_5
  subst e1_5
  replace e2_5 := e2_5.symm
  subst e2_5
  refine j_astore_nQ (lv' := [(0, .ref (P 5 0)), (1, .int lt), (2, .int g), (3, va_rf (lotO S P lt))]) C dX10_harvest_8 (by decide) rfl ?_
  refine j_aload_nQ C dX10_harvest_9 rfl ?_
  cases hq_10 : (lotO S P lt) with
  | none =>
    refine j_ifnullN (tgt := 39) C dX10_harvest_10 (by decide) ?_
    refine j_iconst (v := 0) C dX10_harvest_39 (by decide) ?_
    exact ret _ _ 0 0 _ _ ⟨S, by rw [m_harvest, if_neg (fun z => lotO_n hq_10 z.1)], c, FrC.rf⟩ (by decide) (Nat.zero_le _) (Nat.zero_le _) dX10_harvest_40
  | some x_10 =>
    refine j_ifnull C dX10_harvest_10 ?_
    obtain ⟨j, hj, hx, ha, hL⟩ := lotO_s hl hnl hq_10
    subst hx
    subst ha
    refine j_aload_n C dX10_harvest_13 rfl ?_
    refine j_gI (f := 385) C fF_X10_115 rfl (c.2.2.2.1 j hj).1.2 dX10_harvest_14 ?_
    refine j_iconst (v := 1) C dX10_harvest_17 (by decide) ?_
    refine j_icmp_ne (tgt := 39) C dX10_harvest_18 (by decide) (fun c_18 => ?_) (fun c_18 => ?_)
    · refine j_iconst (v := 0) C dX10_harvest_39 (by decide) ?_
      exact ret _ _ 0 0 _ _ ⟨S, by rw [m_harvest, if_neg (fun z => c_18 (by have q := z.2.1; rw [nI_clamp (by omega), ← (c.2.2.2.1 j hj).2.1.2.1] at q; exact q))], c, FrC.rf⟩ (by decide) (Nat.zero_le _) (Nat.zero_le _) dX10_harvest_40
    · refine j_aload_n C dX10_harvest_21 rfl ?_
      refine j_gI (f := 392) C fF_X10_145 rfl (c.2.2.2.1 j hj).1.2 dX10_harvest_22 ?_
      refine j_iconst (v := (-1)) C dX10_harvest_25 (by decide) ?_
      refine j_icmp_ne (tgt := 39) C dX10_harvest_26 (by decide) (fun c_26 => ?_) (fun c_26 => ?_)
      · refine j_iconst (v := 0) C dX10_harvest_39 (by decide) ?_
        exact ret _ _ 0 0 _ _ ⟨S, by rw [m_harvest, if_neg (fun z => c_26 (by have q := z.2.2.1; rw [nI_clamp (by omega), ← (c.2.2.2.1 j hj).2.2.2.1.2.1] at q; exact q))], c, FrC.rf⟩ (by decide) (Nat.zero_le _) (Nat.zero_le _) dX10_harvest_40
      · refine j_iload_n C dX10_harvest_29 rfl ?_
        refine j_iconst (v := 1) C dX10_harvest_30 (by decide) ?_
        refine j_ldc C dX10_harvest_31 kK_X10_148 ?_
        refine j_callSi (As := [.int g, .int 1, .int 100000]) (rest := []) C fG_X10_43 (k_within (g) (1) (100000)) rfl rfl (Nat.le_of_ble_eq_true rfl) ⟨Nat.le_of_ble_eq_true rfl, Nat.le_of_ble_eq_true rfl⟩ ⟨Nat.le_of_ble_eq_true rfl, Nat.le_of_ble_eq_true rfl⟩ dX10_harvest_33 (fun r_33 h_33 e_33 => ?_)
        obtain ⟨e1_33, e2_33⟩ := e_33
        subst e1_33
        replace e2_33 := e2_33.symm
        subst e2_33
        refine j_ifne_b (tgt := 41) C dX10_harvest_36 (by decide) (fun c_36 => ?_) (fun c_36 => ?_)
        · refine j_aload_n C dX10_harvest_41 rfl ?_
          refine j_iload_n C dX10_harvest_42 rfl ?_
          refine j_callVv (As := [.int g]) (rest := []) C fG_X10_99 (k_gain (a := (P 1 j)) (c.2.2.2.1 j hj).1.2 (g)) (c.2.2.2.1 j hj).1.2 rfl rfl (Nat.le_of_ble_eq_true rfl) ⟨Nat.le_of_ble_eq_true rfl, Nat.le_of_ble_eq_true rfl⟩ ⟨Nat.le_of_ble_eq_true rfl, Nat.le_of_ble_eq_true rfl⟩ dX10_harvest_43 (fun h_43 e_43 => ?_)
          subst e_43
          refine j_iconst (v := 1) C dX10_harvest_46 (by decide) ?_
          have hp : (1, u2 (u2 S 23 j g) 28 j g) = m_harvest S (nI j) g := by
            rw [m_harvest, if_pos ⟨hL, by rw [nI_clamp (by omega), ← (c.2.2.2.1 j hj).2.1.2.1]; exact c_18, by rw [nI_clamp (by omega), ← (c.2.2.2.1 j hj).2.2.2.1.2.1]; exact c_26, c_36⟩]
            unfold mS_harvest
            rw [nI_clamp (by omega)]
          exact ret _ _ 0 0 _ _ ⟨_, hp, (c.lot391 hj).lot392 hj, (FrC.sI (by decide)).tr (FrC.sI (by decide))⟩ (by decide) (Nat.zero_le _) (Nat.zero_le _) dX10_harvest_47
        · refine j_iconst (v := 0) C dX10_harvest_39 (by decide) ?_
          exact ret _ _ 0 0 _ _ ⟨S, by rw [m_harvest, if_neg (fun z => c_36 z.2.2.2)], c, FrC.rf⟩ (by decide) (Nat.zero_le _) (Nat.zero_le _) dX10_harvest_40
set_option maxHeartbeats 4000000 in
set_option maxRecDepth 100000 in
theorem x_year {l : Launch} {D : va_G} {cy : Nat → ClassId} {h : jH} {S : Nat → Nat → Int32} {P : Nat → Nat → Nat} {T : Nat → Nat → Nat → List Nat} {nf nl nb ns nt nk nw : Nat} (c : CP h S P T nf nl nb ns nt nk nw) {yy : Nat} (hy : S 0 0 = nI yy) (hyy : yy ≤ 40) : jI l D cy yX10_year (.code yX10_year cX10_year 1 ((Option.some FieldType.int))) (rmd 0 0 0) [.ref (P 5 0)] h (fun r h' => ∃ S', (r, S') = m_year S ∧ CP h' S' P T nf nl nb ns nt nk nw ∧ FrC P h h') := by
  refine j_ofI (by decide) (Nat.le_of_ble_eq_true rfl) (fun p e s m args below meth c0 Q C hin ret => ?_)
  refine j_aload_n C dX10_year_0 rfl ?_
  refine j_gRe (f := 640) (v := .ref (P 5 1)) C fF_X10_10 rfl c.1.1.1 (by rw [c.1.1.2.1]; rfl) dX10_year_1 ?_
  refine j_gIe (f := 128) (v := (S 0 0)) C fF_X10_67 rfl c.2.1.1 c.2.1.2.1.1 dX10_year_4 ?_
  refine j_bipush (v := 40) C dX10_year_7 (by decide) ?_
  refine j_icmp_lt (tgt := 14) C dX10_year_9 (by decide) (fun c_9 => ?_) (fun c_9 => ?_)
  · refine j_aload_n C dX10_year_14 rfl ?_
    refine j_gRe (f := 640) (v := .ref (P 5 1)) C fF_X10_10 rfl c.1.1.1 (by rw [c.1.1.2.1]; rfl) dX10_year_15 ?_
    refine j_dup C dX10_year_18 rfl ?_
    refine j_gIe (f := 128) (v := (S 0 0)) C fF_X10_67 rfl c.2.1.1 c.2.1.2.1.1 dX10_year_19 ?_
    refine j_iconst (v := 1) C dX10_year_22 (by decide) ?_
    refine j_iadd C dX10_year_23 ?_
    refine j_pI (f := 128) C fP_X10_67 rfl c.2.1.1 rfl rfl dX10_year_24 ?_
    refine j_aload_n C dX10_year_27 rfl ?_
    refine j_gRe (f := 640) (v := .ref (P 5 1)) C fF_X10_10 rfl (okI c.1.1.1) (by show va_rf (h_R h 640 (P 5 0)) = _; rw [c.1.1.2.1]; rfl) dX10_year_28 ?_
    refine j_gIe (f := 128) (v := ((S 0 0) + 1)) C fF_X10_67 rfl (okI c.2.1.1) (by rw [g_II, if_pos rfl, if_pos rfl]) dX10_year_31 ?_
    have hp : (S 0 0 + 1, u2 S 0 0 (S 0 0 + 1)) = m_year S := by
      rw [m_year, if_pos (fun z => by rw [z] at c_9; exact absurd c_9 (by decide))]
      rfl
    exact ret _ _ 0 0 _ _ ⟨_, hp, c.book128, FrC.sI (by decide)⟩ (Nat.zero_le _) (Nat.zero_le _) dX10_year_34
  · refine j_iconst (v := (-1)) C dX10_year_12 (by decide) ?_
    exact ret _ _ 0 0 _ _ ⟨S, by rw [m_year, if_neg (fun z => c_9 (by rw [hy]; exact nI_lt (b := 40) (ne_lt rfl (by rw [← hy]; exact z) hyy) (by decide)))], c, FrC.rf⟩ (Nat.zero_le _) (Nat.zero_le _) dX10_year_13
theorem fldO_s {S : Nat → Nat → Int32} {P : Nat → Nat → Nat} {x : Int32} {nf a : Nat} (hf : S 1 0 = nI nf) (hnf : nf ≤ 40) (e : fldO S P x = some a) : ∃ j, j < nf ∧ x = nI j ∧ a = P 0 j ∧ (0 ≤ x ∧ x ≤ S 1 0 - 1) := by
  unfold fldO at e
  by_cases c : 0 ≤ x ∧ x ≤ S 1 0 - 1
  · rw [if_pos c] at e
    obtain ⟨j, hj, rfl⟩ := in_ix (n := nf) (by omega) (by rw [← hf]; exact c)
    rw [nI_clamp (by omega)] at e
    exact ⟨j, hj, rfl, (Option.some.inj e).symm, c⟩
  · rw [if_neg c] at e; cases e
theorem fldO_n {S : Nat → Nat → Int32} {P : Nat → Nat → Nat} {x : Int32} (e : fldO S P x = none) : ¬ (0 ≤ x ∧ x ≤ S 1 0 - 1) := fun c => by
  unfold fldO at e
  rw [if_pos c] at e
  cases e
theorem sq_near {h : jH} {S : Nat → Nat → Int32} {P : Nat → Nat → Nat} {T : Nat → Nat → Nat → List Nat} {nf nl nb ns nt nk nw : Nat} (c : CP h S P T nf nl nb ns nt nk nw) {i j : Nat} (hi : i < nf) (hj : j < nf) : sqT h (P 0 i) (P 0 j) = nearS S i j := by
  have ci := (c.2.2.1 i hi).2.1
  have cj := (c.2.2.1 j hj).2.1
  unfold sqT nearS
  rw [ci.2.1, ci.2.2.1, ci.2.2.2.1, ci.2.2.2.2, cj.2.1, cj.2.2.1, cj.2.2.2.1, cj.2.2.2.2, mx_comm (S 9 j - S 11 i), mx_comm (S 10 j - S 12 i)]
set_option maxHeartbeats 4000000 in
set_option maxRecDepth 100000 in
theorem x_near {l : Launch} {D : va_G} {cy : Nat → ClassId} {h : jH} {S : Nat → Nat → Int32} {P : Nat → Nat → Nat} {T : Nat → Nat → Nat → List Nat} {nf nl nb ns nt nk nw : Nat} (c : CP h S P T nf nl nb ns nt nk nw) (hf : S 1 0 = nI nf) (hnf : nf ≤ 40) (one oth : Int32) : jI l D cy yX10_near (.code yX10_near cX10_near 5 ((Option.some FieldType.int))) (rmd 2 0 0) [.ref (P 5 0), .int one, .int oth] h (fun r h' => ∃ S', (r, S') = m_near S one oth ∧ CP h' S' P T nf nl nb ns nt nk nw ∧ FrC P h h') := by
  refine j_ofI (by decide) (Nat.le_of_ble_eq_true rfl) (fun p e s m args below meth c0 Q C hin ret => ?_)
  refine j_aload_n C dX10_near_0 rfl ?_
  refine j_gRe (f := 640) (v := .ref (P 5 1)) C fF_X10_10 rfl c.1.1.1 (by rw [c.1.1.2.1]; rfl) dX10_near_1 ?_
  refine j_iload_n C dX10_near_4 rfl ?_
  refine j_callVq (As := [.int one]) (rest := []) C fG_X10_60 (s_fieldAt c hf hnf (one)) c.2.1.1 rfl rfl (Nat.le_of_ble_eq_true rfl) ⟨Nat.le_of_ble_eq_true rfl, Nat.le_of_ble_eq_true rfl⟩ ⟨Nat.le_of_ble_eq_true rfl, Nat.le_of_ble_eq_true rfl⟩ dX10_near_5 (fun r_5 h_5 e_5 => ?_)
  obtain ⟨e1_5, e2_5⟩ := e_5
  subst e1_5
  replace e2_5 := e2_5.symm
  subst e2_5
  refine j_astore_nQ (lv' := [(0, .ref (P 5 0)), (1, .int one), (2, .int oth), (3, va_rf (fldO S P one))]) C dX10_near_8 (by decide) rfl ?_
  refine j_aload_n C dX10_near_9 rfl ?_
  refine j_gRe (f := 640) (v := .ref (P 5 1)) C fF_X10_10 rfl c.1.1.1 (by rw [c.1.1.2.1]; rfl) dX10_near_10 ?_
  refine j_iload_n C dX10_near_13 rfl ?_
  refine j_callVq (As := [.int oth]) (rest := []) C fG_X10_60 (s_fieldAt c hf hnf (oth)) c.2.1.1 rfl rfl (Nat.le_of_ble_eq_true rfl) ⟨Nat.le_of_ble_eq_true rfl, Nat.le_of_ble_eq_true rfl⟩ ⟨Nat.le_of_ble_eq_true rfl, Nat.le_of_ble_eq_true rfl⟩ dX10_near_14 (fun r_14 h_14 e_14 => ?_)
  obtain ⟨e1_14, e2_14⟩ := e_14
  subst e1_14
  replace e2_14 := e2_14.symm
  subst e2_14
  refine j_astoreQ (lv' := [(0, .ref (P 5 0)), (1, .int one), (2, .int oth), (3, va_rf (fldO S P one)), (4, va_rf (fldO S P oth))]) C dX10_near_17 (by decide) (by simp [js, va_cat]) ?_
  refine j_aload_nQ C dX10_near_19 rfl ?_
  cases hq_20 : (fldO S P one) with
  | none =>
    refine j_ifnullN (tgt := 28) C dX10_near_20 (by decide) ?_
    refine j_iconst (v := (-1)) C dX10_near_28 (by decide) ?_
    refine j_goto (tgt := 38) C dX10_near_29 (by decide) ?_
    exact ret _ _ 0 0 _ _ ⟨S, by rw [m_near, if_neg (fun z => fldO_n hq_20 z.1)], c, FrC.rf⟩ (Nat.zero_le _) (Nat.zero_le _) dX10_near_38
  | some x_20 =>
    refine j_ifnull C dX10_near_20 ?_
    refine j_aloadQ C dX10_near_23 rfl ?_
    cases hq_25 : (fldO S P oth) with
    | none =>
      refine j_ifnonnullN C dX10_near_25 ?_
      refine j_iconst (v := (-1)) C dX10_near_28 (by decide) ?_
      refine j_goto (tgt := 38) C dX10_near_29 (by decide) ?_
      exact ret _ _ 0 0 _ _ ⟨S, by rw [m_near, if_neg (fun z => fldO_n hq_25 z.2)], c, FrC.rf⟩ (Nat.zero_le _) (Nat.zero_le _) dX10_near_38
    | some x_25 =>
      refine j_ifnonnull (tgt := 32) C dX10_near_25 (by decide) ?_
      obtain ⟨i, hi, hx1, ha1, hL1⟩ := fldO_s hf hnf hq_20
      obtain ⟨j, hj, hx2, ha2, hL2⟩ := fldO_s hf hnf hq_25
      subst hx1
      subst hx2
      subst ha1
      subst ha2
      refine j_aload_n C dX10_near_32 rfl ?_
      refine j_aload C dX10_near_33 rfl ?_
      refine j_callVi (As := [.ref (P 0 j)]) (rest := []) C fG_X10_64 (k_squareTo (a := (P 0 i)) (b := (P 0 j)) (c.2.2.1 i hi).1.2 (c.2.2.1 j hj).1.2) (c.2.2.1 i hi).1.2 rfl rfl (Nat.le_of_ble_eq_true rfl) ⟨Nat.le_of_ble_eq_true rfl, Nat.le_of_ble_eq_true rfl⟩ ⟨Nat.le_of_ble_eq_true rfl, Nat.le_of_ble_eq_true rfl⟩ dX10_near_35 (fun r_35 h_35 e_35 => ?_)
      obtain ⟨e1_35, e2_35⟩ := e_35
      subst e1_35
      replace e2_35 := e2_35.symm
      subst e2_35
      exact ret _ _ 0 0 _ _ ⟨S, by rw [m_near, if_pos ⟨hL1, hL2⟩, sq_near c hi hj, nI_clamp (by omega), nI_clamp (by omega)]; rfl, c, FrC.rf⟩ (Nat.zero_le _) (Nat.zero_le _) dX10_near_38
