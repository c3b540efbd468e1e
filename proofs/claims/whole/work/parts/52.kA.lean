def mkO (h : jH) (r : Option Nat) : jH := match r with
  | none => h
  | some x => s_I h 402 x 1
theorem mkO_same (h : jH) (r : Option Nat) : sameH h (mkO h r) := by
  cases r with
  | none => exact sameH.rf
  | some x => exact sameH.sI rfl
theorem mkO_fr {P : Nat → Nat → Nat} (h : jH) (r : Option Nat) : FrC P h (mkO h r) := by
  cases r with
  | none => exact FrC.rf
  | some x => exact FrC.sI (by decide)
theorem mkO_401 (h : jH) (r : Option Nat) (a : Nat) : h_I (mkO h r) 401 a = h_I h 401 a := by
  cases r with
  | none => rfl
  | some x => rfl
theorem mkO_at {h : jH} {P : Nat → Nat → Nat} {nl a : Nat} {v : Int32} (hd : ∀ i j, i < nl → j < nl → P 1 i = P 1 j → i = j) (hnl : nl ≤ 200) (ha : a < nl) (hv : v = -1 ∨ ∃ j, j < nl ∧ v = nI j) : h_I (mkO h (adr P 1 v)) 402 (P 1 a) = if v = nI a then 1 else h_I h 402 (P 1 a) := by
  rcases hv with e | ⟨j, hj, e⟩
  · rw [e, adr_n, if_neg (fun z => nI_m1 (by omega) z.symm)]
    rfl
  · rw [e, adr_i (by omega)]
    show h_I (s_I h 402 (P 1 j) 1) 402 (P 1 a) = _
    rw [g_II, if_pos rfl]
    by_cases c : a = j
    · rw [c, if_pos rfl, if_pos rfl]
    · rw [if_neg (fun z => c (hd a j ha hj z)), if_neg (fun z => c ((nI_eq (by omega) (by omega)).mp z).symm)]
theorem ab_mark {S : Nat → Nat → Int32} {nl o i a : Nat} {v : Int32} (hi : i ≤ o) (hv : vP v (abP S nl o (i + 1) a)) (hof : ofP S nl o (nI i)) : vP (if S 27 i = nI a then 1 else if S 26 i = nI a then 1 else v) (abP S nl o i a) := by
  by_cases c7 : S 27 i = nI a
  · rw [if_pos c7]
    exact Or.inl ⟨rfl, (ab_step hi).mpr (Or.inr ⟨hof, Or.inr c7⟩)⟩
  · rw [if_neg c7]
    by_cases c6 : S 26 i = nI a
    · rw [if_pos c6]
      exact Or.inl ⟨rfl, (ab_step hi).mpr (Or.inr ⟨hof, Or.inl c6⟩)⟩
    · rw [if_neg c6]
      refine hv.iff ⟨fun z => (ab_step hi).mpr (Or.inl z), fun z => ((ab_step hi).mp z).elim id (fun w => absurd w.2 (fun m => m.elim c6 c7))⟩
theorem ab_skip {S : Nat → Nat → Int32} {nl o i a : Nat} {v : Int32} (hi : i ≤ o) (hv : vP v (abP S nl o (i + 1) a)) (hof : ¬ ofP S nl o (nI i)) : vP v (abP S nl o i a) := hv.iff ⟨fun z => (ab_step hi).mpr (Or.inl z), fun z => ((ab_step hi).mp z).elim id (fun w => absurd w.1 hof)⟩
theorem x_pred {x : Int32} {k : Nat} (hk : k ≤ 200) (hx : x = nI k - 1) : x < 0 ↔ k = 0 := by
  have e1 : (nI k - nI 1).toInt = (k : Int) - (1 : Nat) := pk_sub_toInt (by omega) (by omega)
  have e2 : (nI k - 1 : Int32) = nI k - nI 1 := rfl
  have e0 : (0 : Int32).toInt = 0 := by decide
  rw [Int32.lt_iff_toInt_lt, hx, e2, e1, e0]
  omega
theorem nI_dec (i : Nat) : nI i + (-1) = nI i - 1 := by rw [Int32.sub_eq_add_neg]
set_option maxHeartbeats 4000000 in
set_option maxRecDepth 100000 in
theorem k_markOne {l : Launch} {D : va_G} {cy : Nat → ClassId} {h : jH} (r : Option Nat) (ok : ∀ x, r = some x → h_ok h x 6) : jV l D cy yX4_markOneAbove (.code yX4_markOneAbove cX4_markOneAbove 1 ((Option.none : Option FieldType))) (rmd 0 0 0) [va_rf r] h (fun h' => h' = mkO h r) := by
  cases r with
  | none =>
    refine j_ofV (by decide) (Nat.le_of_ble_eq_true rfl) (fun p e s m args below meth c Q C hin ret => ?_)
    refine j_aload_nN C dX4_markOneAbove_0 rfl ?_
    refine j_ifnullN (tgt := 9) C dX4_markOneAbove_1 (by decide) ?_
    exact ret _ 0 0 _ _ rfl (Nat.zero_le _) (Nat.zero_le _) dX4_markOneAbove_9
  | some x =>
    refine j_ofV (by decide) (Nat.le_of_ble_eq_true rfl) (fun p e s m args below meth c Q C hin ret => ?_)
    refine j_aload_n C dX4_markOneAbove_0 rfl ?_
    refine j_ifnull C dX4_markOneAbove_1 ?_
    refine j_aload_n C dX4_markOneAbove_4 rfl ?_
    refine j_iconst (v := 1) C dX4_markOneAbove_5 (by decide) ?_
    refine j_pI (f := 402) C fP_X4_80 rfl (ok x rfl) (by decide) (by decide) dX4_markOneAbove_6 ?_
    exact ret _ 0 0 _ _ rfl (Nat.zero_le _) (Nat.zero_le _) dX4_markOneAbove_9
set_option maxHeartbeats 4000000 in
set_option maxRecDepth 100000 in
theorem k_isAkin {l : Launch} {D : va_G} {cy : Nat → ClassId} {h : jH} (r : Option Nat) (ok : ∀ x, r = some x → h_ok h x 6) : cI l D cy yX4_isAkin (.code yX4_isAkin cX4_isAkin 1 ((Option.some FieldType.boolean))) 0 [va_rf r] h (fun v => v = bI (¬ oI h 403 0 r = 0)) := by
  cases r with
  | none =>
    refine j_ofZ (by decide) (Nat.le_of_ble_eq_true rfl) (fun p e s m args below meth c Q C hin ret => ?_)
    refine j_aload_nN C dX4_isAkin_0 rfl ?_
    refine j_ifnullN (tgt := 15) C dX4_isAkin_1 (by decide) ?_
    refine j_iconst (v := 0) C dX4_isAkin_15 (by decide) ?_
    exact ret _ _ 0 0 _ _ ⟨(bI_f (fun z => z rfl)).symm, rfl⟩ (by decide) (Nat.zero_le _) (Nat.zero_le _) dX4_isAkin_16
  | some x =>
    refine j_ofZ (by decide) (Nat.le_of_ble_eq_true rfl) (fun p e s m args below meth c Q C hin ret => ?_)
    refine j_aload_n C dX4_isAkin_0 rfl ?_
    refine j_ifnull C dX4_isAkin_1 ?_
    refine j_aload_n C dX4_isAkin_4 rfl ?_
    refine j_gI (f := 403) C fF_X4_94 rfl (ok x rfl) dX4_isAkin_5 ?_
    refine j_if_eq (tgt := 15) C dX4_isAkin_8 (by decide) (fun c_8 => ?_) (fun c_8 => ?_)
    · refine j_iconst (v := 0) C dX4_isAkin_15 (by decide) ?_
      exact ret _ _ 0 0 _ _ ⟨(bI_f (fun z => z c_8)).symm, rfl⟩ (by decide) (Nat.zero_le _) (Nat.zero_le _) dX4_isAkin_16
    · refine j_iconst (v := 1) C dX4_isAkin_11 (by decide) ?_
      refine j_goto (tgt := 16) C dX4_isAkin_12 (by decide) ?_
      exact ret _ _ 0 0 _ _ ⟨(bI_t c_8).symm, rfl⟩ (by decide) (Nat.zero_le _) (Nat.zero_le _) dX4_isAkin_16
set_option maxHeartbeats 4000000 in
set_option maxRecDepth 100000 in
theorem k_rowOf {l : Launch} {D : va_G} {cy : Nat → ClassId} {h : jH} {a : Nat} (oa : h_ok h a 6) : cI l D cy yX4_rowOf (.code yX4_rowOf cX4_rowOf 1 ((Option.some FieldType.int))) 0 [.ref a] h (fun r => r = if ¬ h_I h 401 a ≤ 0 then 0 else if ¬ h_I h 402 a = 0 then 1 else if ¬ h_I h 403 a = 0 then 2 else -1) := by
  refine j_ofI (by decide) (Nat.le_of_ble_eq_true rfl) (fun p e s m args below meth c Q C hin ret => ?_)
  refine j_aload_n C dX4_rowOf_0 rfl ?_
  refine j_gI (f := 401) C fF_X4_45 rfl oa dX4_rowOf_1 ?_
  refine j_if_le (tgt := 9) C dX4_rowOf_4 (by decide) (fun c_4 => ?_) (fun c_4 => ?_)
  · refine j_aload_n C dX4_rowOf_9 rfl ?_
    refine j_gI (f := 402) C fF_X4_80 rfl oa dX4_rowOf_10 ?_
    refine j_if_eq (tgt := 18) C dX4_rowOf_13 (by decide) (fun c_13 => ?_) (fun c_13 => ?_)
    · refine j_aload_n C dX4_rowOf_18 rfl ?_
      refine j_gI (f := 403) C fF_X4_94 rfl oa dX4_rowOf_19 ?_
      refine j_if_eq (tgt := 29) C dX4_rowOf_22 (by decide) (fun c_22 => ?_) (fun c_22 => ?_)
      · refine j_iconst (v := (-1)) C dX4_rowOf_29 (by decide) ?_
        exact ret _ _ 0 0 _ _ ⟨by rw [if_neg (fun z => z c_4), if_neg (fun z => z c_13), if_neg (fun z => z c_22)], rfl⟩ (Nat.zero_le _) (Nat.zero_le _) dX4_rowOf_30
      · refine j_iconst (v := 2) C dX4_rowOf_25 (by decide) ?_
        refine j_goto (tgt := 30) C dX4_rowOf_26 (by decide) ?_
        exact ret _ _ 0 0 _ _ ⟨by rw [if_neg (fun z => z c_4), if_neg (fun z => z c_13), if_pos c_22], rfl⟩ (Nat.zero_le _) (Nat.zero_le _) dX4_rowOf_30
    · refine j_iconst (v := 1) C dX4_rowOf_16 (by decide) ?_
      exact ret _ _ 0 0 _ _ ⟨by rw [if_neg (fun z => z c_4), if_pos c_13], rfl⟩ (Nat.zero_le _) (Nat.zero_le _) dX4_rowOf_17
  · refine j_iconst (v := 0) C dX4_rowOf_7 (by decide) ?_
    exact ret _ _ 0 0 _ _ ⟨(if_pos c_4).symm, rfl⟩ (Nat.zero_le _) (Nat.zero_le _) dX4_rowOf_8
set_option maxHeartbeats 4000000 in
set_option maxRecDepth 100000 in
theorem L_ma1 {p : Program} {l : Launch} {e : Env} {s : State} {m : MethodId} {args : Array Value} {below : List Frame} {meth : Method} {c0 : Code} {D : va_G} {cy : Nat → ClassId} {A : Nat → Prop} {Q : State → Prop} (C : jC p s m args meth c0 D cy A 4 RX4 cX4_markAbove) {S : Nat → Nat → Int32} {P : Nat → Nat → Nat} {T : Nat → Nat → Nat → List Nat} {nf nl nb ns nt nk nw o : Nat} {h0 : jH} (ho : o < nl) (hl : S 2 0 = nI nl) (hnl : nl ≤ 200) (hA : ∀ q, q < nl → S 26 q = -1 ∨ ∃ j, j < q ∧ S 26 q = nI j) (hB : ∀ q, q < nl → S 27 q = -1 ∨ ∃ j, j < q ∧ S 27 q = nI j) (nx : ∀ (h : jH), CP h S P T nf nl nb ns nt nk nw → sameH h0 h → FrC P h0 h → (∀ a, h_I h 401 a = h_I h0 401 a) → (∀ a, a < nl → h_I h 402 (P 1 a) = 0) → jW p l e (rmd 1 0 0) s m args below meth c0 D cy A 4 0 0 Q h [(0, .ref (P 5 3)), (1, .ref (P 1 o))] 37 []) : ∀ (n k i : Nat) (h : jH), k < n → i + k = nl → CP h S P T nf nl nb ns nt nk nw → sameH h0 h → FrC P h0 h → (∀ a, h_I h 401 a = h_I h0 401 a) → (∀ a, a < i → h_I h 402 (P 1 a) = 0) → jW p l e (rmd 1 0 0) s m args below meth c0 D cy A 4 0 0 Q h [(0, .ref (P 5 3)), (1, .ref (P 1 o)), (2, .int (nI i))] 2 [] := by
  intro n
  induction n with
  | zero => intro k i h h1; exact absurd h1 (Nat.not_lt_zero _)
  | succ n ih =>
    intro k i h h1 h2 c hs hf h4 hz
    refine j_iload_n C dX4_markAbove_2 rfl ?_
    refine j_aload_n C dX4_markAbove_3 rfl ?_
    refine j_gRe (f := 256) (v := .ref (P 5 1)) C fF_X4_9 rfl c.1.2.2.1.1 (by rw [c.1.2.2.1.2]; rfl) dX4_markAbove_4 ?_
    refine j_gIe (f := 132) (v := (nI nl)) C fF_X4_15 rfl c.2.1.1 (by rw [c.2.1.2.1.2.2.1]; exact hl) dX4_markAbove_7 ?_
    refine j_icmp_ge (tgt := 37) C dX4_markAbove_10 (by decide) (fun c_10 => ?_) (fun c_10 => ?_)
    · have hge : nl ≤ i := nI_ge_of c_10 (by omega) (by omega)
      obtain rfl : k = 0 := by omega
      refine j_sub [0, 1] rfl ?_
      exact nx h c hs hf h4 (fun a ha => hz a (by omega))
    · have hlt : i < nl := nI_lt_of c_10 (by omega)
      obtain ⟨k, rfl⟩ : ∃ q, k = q + 1 := ⟨k - 1, by omega⟩
      refine j_aload_n C dX4_markAbove_13 rfl ?_
      refine j_gRe (f := 256) (v := .ref (P 5 1)) C fF_X4_9 rfl c.1.2.2.1.1 (by rw [c.1.2.2.1.2]; rfl) dX4_markAbove_14 ?_
      refine j_iload_n C dX4_markAbove_17 rfl ?_
      refine j_callVq (As := [.int (nI i)]) (rest := []) C fG_X4_21 (s_lotAt c hl hnl (nI i)) c.2.1.1 rfl rfl (Nat.le_of_ble_eq_true rfl) ⟨Nat.le_of_ble_eq_true rfl, Nat.le_of_ble_eq_true rfl⟩ ⟨Nat.le_of_ble_eq_true rfl, Nat.le_of_ble_eq_true rfl⟩ dX4_markAbove_18 (fun r_18 h_18 e_18 => ?_)
      obtain ⟨e1_18, e2_18⟩ := e_18
      rw [lotO_i hl hnl hlt] at e1_18
      subst e1_18
      replace e2_18 := e2_18.symm
      subst e2_18
      refine j_astore_n (lv' := [(0, .ref (P 5 3)), (1, .ref (P 1 o)), (2, .int (nI i)), (3, .ref (P 1 i))]) C dX4_markAbove_21 (by decide) rfl ?_
      refine j_aload_n C dX4_markAbove_22 rfl ?_
      refine j_ifnull C dX4_markAbove_23 ?_
      refine j_aload_n C dX4_markAbove_26 rfl ?_
      refine j_iconst (v := 0) C dX4_markAbove_27 (by decide) ?_
      refine j_pI (f := 402) C fP_X4_80 rfl (c.2.2.2.1 i hlt).1.2 (by decide) (by decide) dX4_markAbove_28 ?_
      refine j_iinc (lv' := [(0, .ref (P 5 3)), (1, .ref (P 1 o)), (2, .int (nI (i + 1))), (3, .ref (P 1 i))]) C dX4_markAbove_31 rfl (nI_1 _) (by decide) rfl ?_
      refine j_goto (tgt := 2) C dX4_markAbove_34 (by decide) ?_
      refine j_sub [0, 1, 2] rfl ?_
      refine ih k (i + 1) _ (by omega) (by omega) (c.same (sameH.sI rfl)) (hs.tr (sameH.sI rfl)) (hf.tr (FrC.sI (by decide))) h4 (fun a ha => ?_)
      rw [g_II, if_pos rfl]
      by_cases e : P 1 a = P 1 i
      · rw [if_pos e]
      · rw [if_neg e]
        refine hz a (Nat.lt_of_le_of_ne (by omega) (fun q => e (by rw [q])))
set_option maxHeartbeats 4000000 in
set_option maxRecDepth 100000 in
theorem L_ma2 {p : Program} {l : Launch} {e : Env} {s : State} {m : MethodId} {args : Array Value} {below : List Frame} {meth : Method} {c0 : Code} {D : va_G} {cy : Nat → ClassId} {A : Nat → Prop} {Q : State → Prop} (C : jC p s m args meth c0 D cy A 4 RX4 cX4_markAbove) {S : Nat → Nat → Int32} {P : Nat → Nat → Nat} {T : Nat → Nat → Nat → List Nat} {nf nl nb ns nt nk nw o : Nat} {h0 : jH} (ho : o < nl) (hl : S 2 0 = nI nl) (hnl : nl ≤ 200) (hA : ∀ q, q < nl → S 26 q = -1 ∨ ∃ j, j < q ∧ S 26 q = nI j) (hB : ∀ q, q < nl → S 27 q = -1 ∨ ∃ j, j < q ∧ S 27 q = nI j) (ret : ∀ (h : jH), CP h S P T nf nl nb ns nt nk nw → sameH h0 h → FrC P h0 h → (∀ a, h_I h 401 a = h_I h0 401 a) → (∀ a, a < nl → vP (h_I h 402 (P 1 a)) (in1 S nl a o)) → ∀ (lv : List (Nat × Value)) (pc : Nat), decode cX4_markAbove pc = .ok (.return_, 1) → jW p l e (rmd 1 0 0) s m args below meth c0 D cy A 4 0 0 Q h lv pc []) : ∀ (n k : Nat) (h : jH) (x : Int32), k < n → k ≤ o + 1 → x = nI k - 1 → CP h S P T nf nl nb ns nt nk nw → sameH h0 h → FrC P h0 h → (∀ a, h_I h 401 a = h_I h0 401 a) → (∀ a, a < nl → vP (h_I h 402 (P 1 a)) (abP S nl o k a)) → jW p l e (rmd 1 0 0) s m args below meth c0 D cy A 4 0 0 Q h [(0, .ref (P 5 3)), (1, .ref (P 1 o)), (2, .int x)] 42 [] := by
  intro n
  induction n with
  | zero => intro k h x h1; exact absurd h1 (Nat.not_lt_zero _)
  | succ n ih =>
    intro k h x h1 h2 hx c hs hf h4 hv
    refine j_iload_n C dX4_markAbove_42 rfl ?_
    refine j_if_lt (tgt := 91) C dX4_markAbove_43 (by decide) (fun c_43 => ?_) (fun c_43 => ?_)
    · obtain rfl : k = 0 := (x_pred (by omega) hx).mp c_43
      exact ret h c hs hf h4 (fun a ha => (hv a ha).iff (ab_0 hA hB hnl ho ha)) _ _ dX4_markAbove_91
    · have hk0 : ¬ k = 0 := fun z => c_43 ((x_pred (by omega) hx).mpr z)
      obtain ⟨i, rfl⟩ : ∃ i, k = i + 1 := ⟨k - 1, by omega⟩
      rw [nI_pred] at hx
      subst hx
      have hio : i ≤ o := by omega
      have hlt : i < nl := by omega
      refine j_aload_n C dX4_markAbove_46 rfl ?_
      refine j_gRe (f := 256) (v := .ref (P 5 1)) C fF_X4_9 rfl c.1.2.2.1.1 (by rw [c.1.2.2.1.2]; rfl) dX4_markAbove_47 ?_
      refine j_iload_n C dX4_markAbove_50 rfl ?_
      refine j_callVq (As := [.int (nI i)]) (rest := []) C fG_X4_21 (s_lotAt c hl hnl (nI i)) c.2.1.1 rfl rfl (Nat.le_of_ble_eq_true rfl) ⟨Nat.le_of_ble_eq_true rfl, Nat.le_of_ble_eq_true rfl⟩ ⟨Nat.le_of_ble_eq_true rfl, Nat.le_of_ble_eq_true rfl⟩ dX4_markAbove_51 (fun r_51 h_51 e_51 => ?_)
      obtain ⟨e1_51, e2_51⟩ := e_51
      rw [lotO_i hl hnl hlt] at e1_51
      subst e1_51
      replace e2_51 := e2_51.symm
      subst e2_51
      refine j_astore_n (lv' := [(0, .ref (P 5 3)), (1, .ref (P 1 o)), (2, .int (nI i)), (3, .ref (P 1 i))]) C dX4_markAbove_54 (by decide) rfl ?_
      refine j_aload_n C dX4_markAbove_55 rfl ?_
      refine j_ifnull C dX4_markAbove_56 ?_
      refine j_aload_n C dX4_markAbove_59 rfl ?_
      refine j_aload_n C dX4_markAbove_60 rfl ?_
      refine j_acmp_eq (rx := (some (P 1 i))) (ry := (some (P 1 o))) (tgt := 71) C dX4_markAbove_61 (by decide) (fun c_61 => ?_) (fun c_61 => ?_)
      · have hof : ofP S nl o (nI i) := (ab_self hA hB hnl ho hio).mpr (Or.inl (c.2.2.2.2.2.2.2.2.1 i o hlt ho (Option.some.inj c_61)))
        refine j_aload_n C dX4_markAbove_71 rfl ?_
        refine j_gRe (f := 389) (v := va_rf (adr P 1 (S 26 i))) C fF_X4_25 rfl (c.2.2.2.1 i hlt).1.2 (by rw [(c.2.2.2.1 i hlt).2.2.1.2.1]) dX4_markAbove_72 ?_
        refine j_callSv (As := [va_rf (adr P 1 (S 26 i))]) (rest := []) C fG_X4_87 (k_markOne (adr P 1 (S 26 i)) (adr_ok1 c hnl ((hA i hlt).imp id (fun q => ⟨q.choose, Nat.lt_trans q.choose_spec.1 hlt, q.choose_spec.2⟩)))) rfl rfl (Nat.le_of_ble_eq_true rfl) ⟨Nat.le_of_ble_eq_true rfl, Nat.le_of_ble_eq_true rfl⟩ ⟨Nat.le_of_ble_eq_true rfl, Nat.le_of_ble_eq_true rfl⟩ dX4_markAbove_75 (fun h_75 e_75 => ?_)
        subst e_75
        refine j_aload_n C dX4_markAbove_78 rfl ?_
        refine j_gRe (f := 390) (v := va_rf (adr P 1 (S 27 i))) C fF_X4_35 rfl ((mkO_same _ _).ok.mpr (c.2.2.2.1 i hlt).1.2) (by rw [(mkO_same h _).2.2.2.2.1, (c.2.2.2.1 i hlt).2.2.1.2.2]) dX4_markAbove_79 ?_
        refine j_callSv (As := [va_rf (adr P 1 (S 27 i))]) (rest := []) C fG_X4_87 (k_markOne (adr P 1 (S 27 i)) (fun x hx => (mkO_same _ _).ok.mpr (adr_ok1 c hnl ((hB i hlt).imp id (fun q => ⟨q.choose, Nat.lt_trans q.choose_spec.1 hlt, q.choose_spec.2⟩)) x hx))) rfl rfl (Nat.le_of_ble_eq_true rfl) ⟨Nat.le_of_ble_eq_true rfl, Nat.le_of_ble_eq_true rfl⟩ ⟨Nat.le_of_ble_eq_true rfl, Nat.le_of_ble_eq_true rfl⟩ dX4_markAbove_82 (fun h_82 e_82 => ?_)
        subst e_82
        refine j_iinc (lv' := [(0, .ref (P 5 3)), (1, .ref (P 1 o)), (2, .int ((nI i) + (-1))), (3, .ref (P 1 i))]) C dX4_markAbove_85 rfl rfl (by decide) rfl ?_
        refine j_goto (tgt := 42) C dX4_markAbove_88 (by decide) ?_
        refine j_sub [0, 1, 2] rfl ?_
        refine ih i _ _ (by omega) (by omega) (nI_dec i) ((c.same (mkO_same _ _)).same (mkO_same _ _)) ((hs.tr (mkO_same _ _)).tr (mkO_same _ _)) ((hf.tr (mkO_fr _ _)).tr (mkO_fr _ _)) (fun a => by rw [mkO_401, mkO_401]; exact h4 a) (fun a ha => ?_)
        rw [mkO_at c.2.2.2.2.2.2.2.2.1 hnl ha ((hB i hlt).imp id (fun q => ⟨q.choose, Nat.lt_trans q.choose_spec.1 hlt, q.choose_spec.2⟩)), mkO_at c.2.2.2.2.2.2.2.2.1 hnl ha ((hA i hlt).imp id (fun q => ⟨q.choose, Nat.lt_trans q.choose_spec.1 hlt, q.choose_spec.2⟩))]
        exact ab_mark hio (hv a ha) hof
      · refine j_aload_n C dX4_markAbove_64 rfl ?_
        refine j_gI (f := 402) C fF_X4_80 rfl (c.2.2.2.1 i hlt).1.2 dX4_markAbove_65 ?_
        refine j_if_eq (tgt := 85) C dX4_markAbove_68 (by decide) (fun c_68 => ?_) (fun c_68 => ?_)
        · refine j_iinc (lv' := [(0, .ref (P 5 3)), (1, .ref (P 1 o)), (2, .int ((nI i) + (-1))), (3, .ref (P 1 i))]) C dX4_markAbove_85 rfl rfl (by decide) rfl ?_
          refine j_goto (tgt := 42) C dX4_markAbove_88 (by decide) ?_
          refine j_sub [0, 1, 2] rfl ?_
          exact ih i h _ (by omega) (by omega) (nI_dec i) c hs hf h4 (fun a ha => ab_skip hio (hv a ha) (fun z => ((ab_self hA hB hnl ho hio).mp z).elim (fun e => c_61 (by rw [e])) ((hv i hlt).f c_68)))
        · have hof : ofP S nl o (nI i) := (ab_self hA hB hnl ho hio).mpr (Or.inr ((hv i hlt).t c_68))
          refine j_aload_n C dX4_markAbove_71 rfl ?_
          refine j_gRe (f := 389) (v := va_rf (adr P 1 (S 26 i))) C fF_X4_25 rfl (c.2.2.2.1 i hlt).1.2 (by rw [(c.2.2.2.1 i hlt).2.2.1.2.1]) dX4_markAbove_72 ?_
          refine j_callSv (As := [va_rf (adr P 1 (S 26 i))]) (rest := []) C fG_X4_87 (k_markOne (adr P 1 (S 26 i)) (adr_ok1 c hnl ((hA i hlt).imp id (fun q => ⟨q.choose, Nat.lt_trans q.choose_spec.1 hlt, q.choose_spec.2⟩)))) rfl rfl (Nat.le_of_ble_eq_true rfl) ⟨Nat.le_of_ble_eq_true rfl, Nat.le_of_ble_eq_true rfl⟩ ⟨Nat.le_of_ble_eq_true rfl, Nat.le_of_ble_eq_true rfl⟩ dX4_markAbove_75 (fun h_75 e_75 => ?_)
          subst e_75
          refine j_aload_n C dX4_markAbove_78 rfl ?_
          refine j_gRe (f := 390) (v := va_rf (adr P 1 (S 27 i))) C fF_X4_35 rfl ((mkO_same _ _).ok.mpr (c.2.2.2.1 i hlt).1.2) (by rw [(mkO_same h _).2.2.2.2.1, (c.2.2.2.1 i hlt).2.2.1.2.2]) dX4_markAbove_79 ?_
          refine j_callSv (As := [va_rf (adr P 1 (S 27 i))]) (rest := []) C fG_X4_87 (k_markOne (adr P 1 (S 27 i)) (fun x hx => (mkO_same _ _).ok.mpr (adr_ok1 c hnl ((hB i hlt).imp id (fun q => ⟨q.choose, Nat.lt_trans q.choose_spec.1 hlt, q.choose_spec.2⟩)) x hx))) rfl rfl (Nat.le_of_ble_eq_true rfl) ⟨Nat.le_of_ble_eq_true rfl, Nat.le_of_ble_eq_true rfl⟩ ⟨Nat.le_of_ble_eq_true rfl, Nat.le_of_ble_eq_true rfl⟩ dX4_markAbove_82 (fun h_82 e_82 => ?_)
          subst e_82
          refine j_iinc (lv' := [(0, .ref (P 5 3)), (1, .ref (P 1 o)), (2, .int ((nI i) + (-1))), (3, .ref (P 1 i))]) C dX4_markAbove_85 rfl rfl (by decide) rfl ?_
          refine j_goto (tgt := 42) C dX4_markAbove_88 (by decide) ?_
          refine j_sub [0, 1, 2] rfl ?_
          refine ih i _ _ (by omega) (by omega) (nI_dec i) ((c.same (mkO_same _ _)).same (mkO_same _ _)) ((hs.tr (mkO_same _ _)).tr (mkO_same _ _)) ((hf.tr (mkO_fr _ _)).tr (mkO_fr _ _)) (fun a => by rw [mkO_401, mkO_401]; exact h4 a) (fun a ha => ?_)
          rw [mkO_at c.2.2.2.2.2.2.2.2.1 hnl ha ((hB i hlt).imp id (fun q => ⟨q.choose, Nat.lt_trans q.choose_spec.1 hlt, q.choose_spec.2⟩)), mkO_at c.2.2.2.2.2.2.2.2.1 hnl ha ((hA i hlt).imp id (fun q => ⟨q.choose, Nat.lt_trans q.choose_spec.1 hlt, q.choose_spec.2⟩))]
          exact ab_mark hio (hv a ha) hof
set_option maxHeartbeats 4000000 in
set_option maxRecDepth 100000 in
theorem k_markAbove {l : Launch} {D : va_G} {cy : Nat → ClassId} {h : jH} {S : Nat → Nat → Int32} {P : Nat → Nat → Nat} {T : Nat → Nat → Nat → List Nat} {nf nl nb ns nt nk nw : Nat} {o : Nat} (c : CP h S P T nf nl nb ns nt nk nw) (ho : o < nl) (hl : S 2 0 = nI nl) (hnl : nl ≤ 200) (hA : ∀ q, q < nl → S 26 q = -1 ∨ ∃ j, j < q ∧ S 26 q = nI j) (hB : ∀ q, q < nl → S 27 q = -1 ∨ ∃ j, j < q ∧ S 27 q = nI j) : jV l D cy yX4_markAbove (.code yX4_markAbove cX4_markAbove 4 ((Option.none : Option FieldType))) (rmd 1 0 0) [.ref (P 5 3), .ref (P 1 o)] h (fun h' => sameH h h' ∧ FrC P h h' ∧ (∀ a, h_I h' 401 a = h_I h 401 a) ∧ ∀ a, a < nl → vP (h_I h' 402 (P 1 a)) (in1 S nl a o)) := by
  refine j_ofV (by decide) (Nat.le_of_ble_eq_true rfl) (fun p e s m args below meth c0 Q C hin ret => ?_)
  refine j_iconst (v := 0) C dX4_markAbove_0 (by decide) ?_
  refine j_istore_n (lv' := [(0, .ref (P 5 3)), (1, .ref (P 1 o)), (2, .int 0)]) C dX4_markAbove_1 (by decide) rfl ?_
  refine L_ma1 (h0 := h) C ho hl hnl hA hB (fun h1 c1 s1 f1 g1 z1 => ?_) (nl + 1) nl 0 h (by omega) (by omega) c sameH.rf FrC.rf (fun _ => rfl) (fun a ha => absurd ha (Nat.not_lt_zero _))
  refine j_aload_n C dX4_markAbove_37 rfl ?_
  refine j_gIe (f := 384) (v := (nI o)) C fF_X4_84 rfl (c1.2.2.2.1 o ho).1.2 (c1.2.2.2.1 o ho).2.1.1 dX4_markAbove_38 ?_
  refine j_istore_n (lv' := [(0, .ref (P 5 3)), (1, .ref (P 1 o)), (2, .int (nI o))]) C dX4_markAbove_41 (by decide) rfl ?_
  exact L_ma2 (h0 := h) C ho hl hnl hA hB (fun h' c' s' f' g' v' lv pc hd => ret h' 0 0 lv pc ⟨s', f', g', v'⟩ (Nat.zero_le _) (Nat.zero_le _) hd) (o + 2) (o + 1) h1 _ (by omega) (by omega) (nI_pred o).symm c1 s1 f1 g1 (fun a ha => Or.inr ⟨z1 a ha, fun z => by obtain ⟨q, q1, q2, _⟩ := z; omega⟩)
