set_option maxHeartbeats 4000000 in
set_option maxRecDepth 100000 in
theorem x_ways {l : Launch} {D : va_G} {cy : Nat → ClassId} {h : jH} {S : Nat → Nat → Int32} {P : Nat → Nat → Nat} {T : Nat → Nat → Nat → List Nat} {nf nl nb ns nt nk nw : Nat} (c : CP h S P T nf nl nb ns nt nk nw) (hl : S 2 0 = nI nl) (hnl : nl ≤ 200) (hA : ∀ q, q < nl → S 26 q = -1 ∨ ∃ j, j < q ∧ S 26 q = nI j) (hB : ∀ q, q < nl → S 27 q = -1 ∨ ∃ j, j < q ∧ S 27 q = nI j) (lt : Int32) (oth : Int32) : jI l D cy yX10_ways (.code yX10_ways cX10_ways 5 ((Option.some FieldType.int))) (rmd 3 0 0) [.ref (P 5 0), .int lt, .int oth] h (fun r h' => r = m_ways S lt oth nl ∧ CP h' S P T nf nl nb ns nt nk nw ∧ FrC P h h') := by
  refine j_ofI (by decide) (Nat.le_of_ble_eq_true rfl) (fun p e s m args below meth c0 Q C hin ret => ?_)
  refine j_aload_n C dX10_ways_0 rfl ?_
  refine j_gRe (f := 640) (v := .ref (P 5 1)) C fF_X10_10 rfl c.1.1.1 (by rw [c.1.1.2.1]; rfl) dX10_ways_1 ?_
  refine j_iload_n C dX10_ways_4 rfl ?_
  refine j_callVq (As := [.int lt]) (rest := []) C fG_X10_107 (s_lotAt c hl hnl (lt)) c.2.1.1 rfl rfl (Nat.le_of_ble_eq_true rfl) ⟨Nat.le_of_ble_eq_true rfl, Nat.le_of_ble_eq_true rfl⟩ ⟨Nat.le_of_ble_eq_true rfl, Nat.le_of_ble_eq_true rfl⟩ dX10_ways_5 (fun r_5 h_5 e_5 => ?_)
  obtain ⟨e1_5, e2_5⟩ := e_5
  subst e1_5
  replace e2_5 := e2_5.symm
  subst e2_5
  refine j_astore_nQ (lv' := [(0, .ref (P 5 0)), (1, .int lt), (2, .int oth), (3, va_rf (lotO S P lt))]) C dX10_ways_8 (by decide) rfl ?_
  refine j_aload_n C dX10_ways_9 rfl ?_
  refine j_gRe (f := 640) (v := .ref (P 5 1)) C fF_X10_10 rfl c.1.1.1 (by rw [c.1.1.2.1]; rfl) dX10_ways_10 ?_
  refine j_iload_n C dX10_ways_13 rfl ?_
  refine j_callVq (As := [.int oth]) (rest := []) C fG_X10_107 (s_lotAt c hl hnl (oth)) c.2.1.1 rfl rfl (Nat.le_of_ble_eq_true rfl) ⟨Nat.le_of_ble_eq_true rfl, Nat.le_of_ble_eq_true rfl⟩ ⟨Nat.le_of_ble_eq_true rfl, Nat.le_of_ble_eq_true rfl⟩ dX10_ways_14 (fun r_14 h_14 e_14 => ?_)
  obtain ⟨e1_14, e2_14⟩ := e_14
  subst e1_14
  replace e2_14 := e2_14.symm
  subst e2_14
  refine j_astoreQ (lv' := [(0, .ref (P 5 0)), (1, .int lt), (2, .int oth), (3, va_rf (lotO S P lt)), (4, va_rf (lotO S P oth))]) C dX10_ways_17 (by decide) (by simp [js, va_cat]) ?_
  refine j_aload_nQ C dX10_ways_19 rfl ?_
  cases hq_20 : (lotO S P lt) with
  | none =>
    refine j_ifnullN (tgt := 28) C dX10_ways_20 (by decide) ?_
    refine j_iconst (v := 0) C dX10_ways_28 (by decide) ?_
    exact ret _ _ 0 0 _ _ ⟨by rw [m_ways, if_neg (fun z => lotO_n hq_20 z.1)], c, FrC.rf⟩ (Nat.zero_le _) (Nat.zero_le _) dX10_ways_29
  | some x_20 =>
    refine j_ifnull C dX10_ways_20 ?_
    refine j_aloadQ C dX10_ways_23 rfl ?_
    cases hq_25 : (lotO S P oth) with
    | none =>
      refine j_ifnonnullN C dX10_ways_25 ?_
      refine j_iconst (v := 0) C dX10_ways_28 (by decide) ?_
      exact ret _ _ 0 0 _ _ ⟨by rw [m_ways, if_neg (fun z => lotO_n hq_25 z.2)], c, FrC.rf⟩ (Nat.zero_le _) (Nat.zero_le _) dX10_ways_29
    | some x_25 =>
      refine j_ifnonnull (tgt := 30) C dX10_ways_25 (by decide) ?_
      obtain ⟨i, hi, hx1, ha1, hL1⟩ := lotO_s hl hnl hq_20
      obtain ⟨j, hj, hx2, ha2, hL2⟩ := lotO_s hl hnl hq_25
      subst hx1
      subst hx2
      subst ha1
      subst ha2
      refine j_aload_n C dX10_ways_30 rfl ?_
      refine j_gRe (f := 642) (v := .ref (P 5 3)) C fF_X10_28 rfl c.1.1.1 (by rw [c.1.1.2.2.2.1]; rfl) dX10_ways_31 ?_
      refine j_aload C dX10_ways_34 rfl ?_
      refine j_callVv (As := [.ref (P 1 j)]) (rest := []) C fG_X10_241 (k_trace (o := j) c hj hl hnl hA hB) c.1.2.2.1.1 rfl rfl (Nat.le_of_ble_eq_true rfl) ⟨Nat.le_of_ble_eq_true rfl, Nat.le_of_ble_eq_true rfl⟩ ⟨Nat.le_of_ble_eq_true rfl, Nat.le_of_ble_eq_true rfl⟩ dX10_ways_36 (fun h_36 e_36 => ?_)
      refine j_aload_n C dX10_ways_39 rfl ?_
      refine j_gI (f := 401) C fF_X10_244 rfl (e_36.1.ok.mpr (c.2.2.2.1 i hi).1.2) dX10_ways_40 ?_
      exact ret _ _ 0 0 _ _ ⟨by rw [e_36.2.2 i hi, m_ways, if_pos ⟨hL1, hL2⟩, nI_clamp (by omega)], c.same e_36.1, e_36.2.1⟩ (Nat.zero_le _) (Nat.zero_le _) dX10_ways_43
theorem bagO_i {S : Nat → Nat → Int32} {P : Nat → Nat → Nat} {nl i : Nat} (hl : S 3 0 = nI nl) (hnl : nl ≤ 200) (hi : i < nl) : bagO S P (nI i) = some (P 2 i) := by
  unfold bagO
  rw [hl, if_pos ((idx_iff (N := 200) hnl (by decide)).mp ⟨nI_pos (by omega), fun z => absurd (nI_ge_of z (by omega) (by omega)) (by omega), fun z => absurd (nI_ge_of z (by omega) (by omega)) (by omega)⟩), nI_clamp (by omega)]
set_option maxHeartbeats 4000000 in
set_option maxRecDepth 100000 in
theorem L_buyB {p : Program} {l : Launch} {e : Env} {s : State} {m : MethodId} {args : Array Value} {below : List Frame} {meth : Method} {c0 : Code} {D : va_G} {cy : Nat → ClassId} {A : Nat → Prop} {Q : State → Prop} (C : jC p s m args meth c0 D cy A 5 RX4 cX4_buyersBelow) {h : jH} {S : Nat → Nat → Int32} {P : Nat → Nat → Nat} {T : Nat → Nat → Nat → List Nat} {nf nl nb ns nt nk nw o : Nat} {v0 : Int32} (c : CP h S P T nf nl nb ns nt nk nw) (hnl : nl ≤ 200) (hb : S 3 0 = nI nb) (hnb : nb ≤ 200) (hbl : ∀ q, q < nb → ∃ j, j < nl ∧ S 38 q = nI j) (hr : ∀ a, a < nl → h_I h 401 (P 1 a) = rowsV S (nI o) nl a) (ret : ∀ v, v0 = v → ∀ (lv : List (Nat × Value)) (pc : Nat), decode cX4_buyersBelow pc = .ok (.ireturn, 1) → jW p l e (rmd 3 0 0) s m args below meth c0 D cy A 5 0 0 Q h lv pc [.int v]) : ∀ (n k i : Nat) (bits : Int32), k < n → i + k = nb → v0 = flp (gBuy S (nI o) nl) i k bits → jW p l e (rmd 3 0 0) s m args below meth c0 D cy A 5 0 0 Q h [(0, .ref (P 5 3)), (1, .ref (P 1 o)), (2, .int bits), (3, .int (nI i))] 9 [] := by
  intro n
  induction n with
  | zero => intro k i bits h1; exact absurd h1 (Nat.not_lt_zero _)
  | succ n ih =>
    intro k i bits h1 h2 he
    refine j_iload_n C dX4_buyersBelow_9 rfl ?_
    refine j_aload_n C dX4_buyersBelow_10 rfl ?_
    refine j_gRe (f := 256) (v := .ref (P 5 1)) C fF_X4_9 rfl c.1.2.2.1.1 (by rw [c.1.2.2.1.2]; rfl) dX4_buyersBelow_11 ?_
    refine j_gIe (f := 134) (v := (nI nb)) C fF_X4_52 rfl c.2.1.1 (by rw [c.2.1.2.1.2.2.2.1]; exact hb) dX4_buyersBelow_14 ?_
    refine j_icmp_ge (tgt := 70) C dX4_buyersBelow_17 (by decide) (fun c_17 => ?_) (fun c_17 => ?_)
    · refine j_iload_n C dX4_buyersBelow_70 rfl ?_
      have hge : nb ≤ i := nI_ge_of c_17 (by omega) (by omega)
      obtain rfl : k = 0 := by omega
      exact ret _ he _ _ dX4_buyersBelow_71
    · have hlt : i < nb := nI_lt_of c_17 (by omega)
      obtain ⟨k, rfl⟩ : ∃ q, k = q + 1 := ⟨k - 1, by omega⟩
      obtain ⟨j, hj, ej⟩ := hbl i hlt
      refine j_aload_n C dX4_buyersBelow_20 rfl ?_
      refine j_gRe (f := 256) (v := .ref (P 5 1)) C fF_X4_9 rfl c.1.2.2.1.1 (by rw [c.1.2.2.1.2]; rfl) dX4_buyersBelow_21 ?_
      refine j_iload_n C dX4_buyersBelow_24 rfl ?_
      refine j_callVq (As := [.int (nI i)]) (rest := []) C fG_X4_55 (s_bagAt c hb hnb (nI i)) c.2.1.1 rfl rfl (Nat.le_of_ble_eq_true rfl) ⟨Nat.le_of_ble_eq_true rfl, Nat.le_of_ble_eq_true rfl⟩ ⟨Nat.le_of_ble_eq_true rfl, Nat.le_of_ble_eq_true rfl⟩ dX4_buyersBelow_25 (fun r_25 h_25 e_25 => ?_)
      obtain ⟨e1_25, e2_25⟩ := e_25
      rw [bagO_i hb hnb hlt] at e1_25
      subst e1_25
      replace e2_25 := e2_25.symm
      subst e2_25
      refine j_astore (lv' := [(0, .ref (P 5 3)), (1, .ref (P 1 o)), (2, .int bits), (3, .int (nI i)), (4, .ref (P 2 i))]) C dX4_buyersBelow_28 (by decide) rfl ?_
      refine j_aload C dX4_buyersBelow_30 rfl ?_
      refine j_ifnull C dX4_buyersBelow_32 ?_
      refine j_aload C dX4_buyersBelow_35 rfl ?_
      refine j_callVi (As := []) (rest := []) C fG_X4_59 (k_isSold (a := (P 2 i)) (c.2.2.2.2.1 i hlt).1.2) (c.2.2.2.2.1 i hlt).1.2 rfl rfl (Nat.le_of_ble_eq_true rfl) ⟨Nat.le_of_ble_eq_true rfl, Nat.le_of_ble_eq_true rfl⟩ ⟨Nat.le_of_ble_eq_true rfl, Nat.le_of_ble_eq_true rfl⟩ dX4_buyersBelow_37 (fun r_37 h_37 e_37 => ?_)
      obtain ⟨e1_37, e2_37⟩ := e_37
      rw [(c.2.2.2.2.1 i hlt).2.2.2.2] at e1_37
      subst e1_37
      replace e2_37 := e2_37.symm
      subst e2_37
      refine j_ifeq_b (tgt := 64) C dX4_buyersBelow_40 (by decide) (fun c_40 => ?_) (fun c_40 => ?_)
      · refine j_iinc (lv' := [(0, .ref (P 5 3)), (1, .ref (P 1 o)), (2, .int bits), (3, .int (nI (i + 1))), (4, .ref (P 2 i))]) C dX4_buyersBelow_64 rfl (nI_1 _) (by decide) rfl ?_
        refine j_goto (tgt := 9) C dX4_buyersBelow_67 (by decide) ?_
        have hg : gBuy S (nI o) nl i bits = bits := by
          unfold gBuy
          rw [ej, nI_clamp (by omega)]
          rw [if_neg (fun z => c_40 z.1)]
        refine j_sub [0, 1, 2, 3] rfl ?_
        exact ih k (i + 1) _ (by omega) (by omega) (he.trans (flp_s hg))
      · refine j_aload C dX4_buyersBelow_43 rfl ?_
        refine j_gRe (f := 64) (v := .ref (P 1 j)) C fF_X4_65 rfl (c.2.2.2.2.1 i hlt).1.2 (by rw [(c.2.2.2.2.1 i hlt).2.1, ej, nI_clamp (by omega)]; rfl) dX4_buyersBelow_45 ?_
        refine j_gIe (f := 401) (v := (rowsV S (nI o) nl j)) C fF_X4_45 rfl (c.2.2.2.1 j hj).1.2 (hr j hj) dX4_buyersBelow_48 ?_
        refine j_if_le (tgt := 64) C dX4_buyersBelow_51 (by decide) (fun c_51 => ?_) (fun c_51 => ?_)
        · refine j_iinc (lv' := [(0, .ref (P 5 3)), (1, .ref (P 1 o)), (2, .int bits), (3, .int (nI (i + 1))), (4, .ref (P 2 i))]) C dX4_buyersBelow_64 rfl (nI_1 _) (by decide) rfl ?_
          refine j_goto (tgt := 9) C dX4_buyersBelow_67 (by decide) ?_
          have hg : gBuy S (nI o) nl i bits = bits := by
            unfold gBuy
            rw [ej, nI_clamp (by omega)]
            rw [if_neg (fun z => z.2 c_51)]
          refine j_sub [0, 1, 2, 3] rfl ?_
          exact ih k (i + 1) _ (by omega) (by omega) (he.trans (flp_s hg))
        · refine j_iload_n C dX4_buyersBelow_54 rfl ?_
          refine j_iconst (v := 1) C dX4_buyersBelow_55 (by decide) ?_
          refine j_aload C dX4_buyersBelow_56 rfl ?_
          refine j_gIe (f := 67) (v := (S 41 i)) C fF_X4_68 rfl (c.2.2.2.2.1 i hlt).1.2 (c.2.2.2.2.1 i hlt).2.2.2.2 dX4_buyersBelow_58 ?_
          refine j_ishl C dX4_buyersBelow_61 ?_
          refine j_ior C dX4_buyersBelow_62 ?_
          refine j_istore_n (lv' := [(0, .ref (P 5 3)), (1, .ref (P 1 o)), (2, .int (bits ||| (1 <<< ((S 41 i) &&& 31)))), (3, .int (nI i)), (4, .ref (P 2 i))]) C dX4_buyersBelow_63 (by decide) rfl ?_
          refine j_iinc (lv' := [(0, .ref (P 5 3)), (1, .ref (P 1 o)), (2, .int (bits ||| (1 <<< ((S 41 i) &&& 31)))), (3, .int (nI (i + 1))), (4, .ref (P 2 i))]) C dX4_buyersBelow_64 rfl (nI_1 _) (by decide) rfl ?_
          refine j_goto (tgt := 9) C dX4_buyersBelow_67 (by decide) ?_
          have hg : gBuy S (nI o) nl i bits = (bits ||| (1 <<< ((S 41 i) &&& 31))) := by
            unfold gBuy
            rw [ej, nI_clamp (by omega)]
            rw [if_pos ⟨c_40, c_51⟩]
          refine j_sub [0, 1, 2, 3] rfl ?_
          exact ih k (i + 1) _ (by omega) (by omega) (he.trans (flp_s hg))
set_option maxHeartbeats 4000000 in
set_option maxRecDepth 100000 in
theorem k_buyersBelow {l : Launch} {D : va_G} {cy : Nat → ClassId} {h : jH} {S : Nat → Nat → Int32} {P : Nat → Nat → Nat} {T : Nat → Nat → Nat → List Nat} {nf nl nb ns nt nk nw : Nat} {o : Nat} (c : CP h S P T nf nl nb ns nt nk nw) (ho : o < nl) (hl : S 2 0 = nI nl) (hnl : nl ≤ 200) (hA : ∀ q, q < nl → S 26 q = -1 ∨ ∃ j, j < q ∧ S 26 q = nI j) (hB : ∀ q, q < nl → S 27 q = -1 ∨ ∃ j, j < q ∧ S 27 q = nI j) (hb : S 3 0 = nI nb) (hnb : nb ≤ 200) (hbl : ∀ q, q < nb → ∃ j, j < nl ∧ S 38 q = nI j) : jI l D cy yX4_buyersBelow (.code yX4_buyersBelow cX4_buyersBelow 5 ((Option.some FieldType.int))) (rmd 3 0 0) [.ref (P 5 3), .ref (P 1 o)] h (fun r h' => r = flp (gBuy S (nI o) nl) 0 nb 0 ∧ sameH h h' ∧ FrC P h h') := by
  refine j_ofI (by decide) (Nat.le_of_ble_eq_true rfl) (fun p e s m args below meth c0 Q C hin ret => ?_)
  refine j_aload_n C dX4_buyersBelow_0 rfl ?_
  refine j_aload_n C dX4_buyersBelow_1 rfl ?_
  refine j_callVv (As := [.ref (P 1 o)]) (rest := []) C fG_X4_48 (k_trace (o := o) c ho hl hnl hA hB) c.1.2.2.1.1 rfl rfl (Nat.le_of_ble_eq_true rfl) ⟨Nat.le_of_ble_eq_true rfl, Nat.le_of_ble_eq_true rfl⟩ ⟨Nat.le_of_ble_eq_true rfl, Nat.le_of_ble_eq_true rfl⟩ dX4_buyersBelow_2 (fun h_2 e_2 => ?_)
  refine j_iconst (v := 0) C dX4_buyersBelow_5 (by decide) ?_
  refine j_istore_n (lv' := [(0, .ref (P 5 3)), (1, .ref (P 1 o)), (2, .int 0)]) C dX4_buyersBelow_6 (by decide) rfl ?_
  refine j_iconst (v := 0) C dX4_buyersBelow_7 (by decide) ?_
  refine j_istore_n (lv' := [(0, .ref (P 5 3)), (1, .ref (P 1 o)), (2, .int 0), (3, .int 0)]) C dX4_buyersBelow_8 (by decide) rfl ?_
  exact L_buyB C (c.same e_2.1) hnl hb hnb hbl e_2.2.2 (fun v hv lv pc hd => ret v h_2 0 0 lv pc ⟨hv.symm, e_2.1, e_2.2.1⟩ (Nat.zero_le _) (Nat.zero_le _) hd) (nb + 1) nb 0 0 (by omega) (by omega) rfl
set_option maxHeartbeats 4000000 in
set_option maxRecDepth 100000 in
theorem x_buyers {l : Launch} {D : va_G} {cy : Nat → ClassId} {h : jH} {S : Nat → Nat → Int32} {P : Nat → Nat → Nat} {T : Nat → Nat → Nat → List Nat} {nf nl nb ns nt nk nw : Nat} (c : CP h S P T nf nl nb ns nt nk nw) (hl : S 2 0 = nI nl) (hnl : nl ≤ 200) (hA : ∀ q, q < nl → S 26 q = -1 ∨ ∃ j, j < q ∧ S 26 q = nI j) (hB : ∀ q, q < nl → S 27 q = -1 ∨ ∃ j, j < q ∧ S 27 q = nI j) (hb : S 3 0 = nI nb) (hnb : nb ≤ 200) (hbl : ∀ q, q < nb → ∃ j, j < nl ∧ S 38 q = nI j) (lt : Int32) : jI l D cy yX10_buyers (.code yX10_buyers cX10_buyers 3 ((Option.some FieldType.int))) (rmd 4 0 0) [.ref (P 5 0), .int lt] h (fun r h' => r = m_buyers S lt nl nb ∧ CP h' S P T nf nl nb ns nt nk nw ∧ FrC P h h') := by
  refine j_ofI (by decide) (Nat.le_of_ble_eq_true rfl) (fun p e s m args below meth c0 Q C hin ret => ?_)
  refine j_aload_n C dX10_buyers_0 rfl ?_
  refine j_gRe (f := 640) (v := .ref (P 5 1)) C fF_X10_10 rfl c.1.1.1 (by rw [c.1.1.2.1]; rfl) dX10_buyers_1 ?_
  refine j_iload_n C dX10_buyers_4 rfl ?_
  refine j_callVq (As := [.int lt]) (rest := []) C fG_X10_107 (s_lotAt c hl hnl (lt)) c.2.1.1 rfl rfl (Nat.le_of_ble_eq_true rfl) ⟨Nat.le_of_ble_eq_true rfl, Nat.le_of_ble_eq_true rfl⟩ ⟨Nat.le_of_ble_eq_true rfl, Nat.le_of_ble_eq_true rfl⟩ dX10_buyers_5 (fun r_5 h_5 e_5 => ?_)
  obtain ⟨e1_5, e2_5⟩ := e_5
  subst e1_5
  replace e2_5 := e2_5.symm
  subst e2_5
  refine j_astore_nQ (lv' := [(0, .ref (P 5 0)), (1, .int lt), (2, va_rf (lotO S P lt))]) C dX10_buyers_8 (by decide) rfl ?_
  refine j_aload_nQ C dX10_buyers_9 rfl ?_
  cases hq_10 : (lotO S P lt) with
  | none =>
    refine j_ifnonnullN C dX10_buyers_10 ?_
    refine j_iconst (v := 0) C dX10_buyers_13 (by decide) ?_
    refine j_goto (tgt := 25) C dX10_buyers_14 (by decide) ?_
    exact ret _ _ 0 0 _ _ ⟨by rw [m_buyers, if_neg (lotO_n hq_10)], c, FrC.rf⟩ (Nat.zero_le _) (Nat.zero_le _) dX10_buyers_25
  | some x_10 =>
    refine j_ifnonnull (tgt := 17) C dX10_buyers_10 (by decide) ?_
    obtain ⟨j, hj, hx, ha, hL⟩ := lotO_s hl hnl hq_10
    subst hx
    subst ha
    refine j_aload_n C dX10_buyers_17 rfl ?_
    refine j_gRe (f := 642) (v := .ref (P 5 3)) C fF_X10_28 rfl c.1.1.1 (by rw [c.1.1.2.2.2.1]; rfl) dX10_buyers_18 ?_
    refine j_aload_n C dX10_buyers_21 rfl ?_
    refine j_callVi (As := [.ref (P 1 j)]) (rest := []) C fG_X10_251 (k_buyersBelow (o := j) c hj hl hnl hA hB hb hnb hbl) c.1.2.2.1.1 rfl rfl (Nat.le_of_ble_eq_true rfl) ⟨Nat.le_of_ble_eq_true rfl, Nat.le_of_ble_eq_true rfl⟩ ⟨Nat.le_of_ble_eq_true rfl, Nat.le_of_ble_eq_true rfl⟩ dX10_buyers_22 (fun r_22 h_22 e_22 => ?_)
    obtain ⟨e1_22, e2_22, e3_22⟩ := e_22
    subst e1_22
    exact ret _ _ 0 0 _ _ ⟨by rw [m_buyers, if_pos hL], c.same e2_22, e3_22⟩ (Nat.zero_le _) (Nat.zero_le _) dX10_buyers_25
