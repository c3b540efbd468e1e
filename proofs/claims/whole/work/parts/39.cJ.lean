set_option maxHeartbeats 4000000 in
set_option maxRecDepth 100000 in
theorem x_force {l : Launch} {D : va_G} {cy : Nat → ClassId} {h : jH} {S : Nat → Nat → Int32} {P : Nat → Nat → Nat} {T : Nat → Nat → Nat → List Nat} {nf nl nb ns nt nk nw : Nat} (c : CP h S P T nf nl nb ns nt nk nw) (hp : ∀ k, k < nt → 0 ≤ (S 18 k).toInt) (kind yr q : Int32) : jI l D cy yX10_force (.code yX10_force cX10_force 4 ((Option.some FieldType.int))) (rmd 1 0 0) [.ref (P 5 0), .int kind, .int yr, .int q] h (fun r h' => ∃ S', (r, S') = m_force S kind yr q nt ∧ CP h' S' P T nf nl nb ns nt nk nw ∧ FrC P h h') := by
  refine j_ofI (by decide) (Nat.le_of_ble_eq_true rfl) (fun p e s m args below meth c0 Q C hin ret => ?_)
  refine j_iload_n C dX10_force_0 rfl ?_
  refine j_iconst (v := 0) C dX10_force_1 (by decide) ?_
  refine j_gs1 C kF_X10_81 dX10_force_2 (fun t_2 hT_2 => ?_)
  refine j_tlen (v := 5) C hT_2 rfl dX10_force_5 ?_
  refine j_iconst (v := 1) C dX10_force_6 (by decide) ?_
  refine j_isub C dX10_force_7 ?_
  refine j_callSi (As := [.int kind, .int 0, .int (5 - 1)]) (rest := []) C fG_X10_43 (k_within (kind) (0) ((5 - 1))) rfl rfl (Nat.le_of_ble_eq_true rfl) ⟨Nat.le_of_ble_eq_true rfl, Nat.le_of_ble_eq_true rfl⟩ ⟨Nat.le_of_ble_eq_true rfl, Nat.le_of_ble_eq_true rfl⟩ dX10_force_8 (fun r_8 h_8 e_8 => ?_)
  obtain ⟨e1_8, e2_8⟩ := e_8
  subst e1_8
  replace e2_8 := e2_8.symm
  subst e2_8
  refine j_ifeq_b (tgt := 39) C dX10_force_11 (by decide) (fun c_11 => ?_) (fun c_11 => ?_)
  · refine j_iconst (v := (-1)) C dX10_force_39 (by decide) ?_
    have e54 : (5 - 1 : Int32) = 4 := by decide
    exact ret _ _ 0 0 _ _ ⟨S, by rw [m_force, if_neg (fun z => c_11 (by rw [e54]; exact z.1))], c, FrC.rf⟩ (Nat.zero_le _) (Nat.zero_le _) dX10_force_40
  · refine j_iload_n C dX10_force_14 rfl ?_
    refine j_iconst (v := 0) C dX10_force_15 (by decide) ?_
    refine j_bipush (v := 60) C dX10_force_16 (by decide) ?_
    refine j_callSi (As := [.int yr, .int 0, .int 60]) (rest := []) C fG_X10_43 (k_within (yr) (0) (60)) rfl rfl (Nat.le_of_ble_eq_true rfl) ⟨Nat.le_of_ble_eq_true rfl, Nat.le_of_ble_eq_true rfl⟩ ⟨Nat.le_of_ble_eq_true rfl, Nat.le_of_ble_eq_true rfl⟩ dX10_force_18 (fun r_18 h_18 e_18 => ?_)
    obtain ⟨e1_18, e2_18⟩ := e_18
    subst e1_18
    replace e2_18 := e2_18.symm
    subst e2_18
    refine j_ifeq_b (tgt := 39) C dX10_force_21 (by decide) (fun c_21 => ?_) (fun c_21 => ?_)
    · refine j_iconst (v := (-1)) C dX10_force_39 (by decide) ?_
      exact ret _ _ 0 0 _ _ ⟨S, by rw [m_force, if_neg (fun z => c_21 z.2.1)], c, FrC.rf⟩ (Nat.zero_le _) (Nat.zero_le _) dX10_force_40
    · refine j_iload_n C dX10_force_24 rfl ?_
      refine j_iconst (v := 0) C dX10_force_25 (by decide) ?_
      refine j_aload_n C dX10_force_26 rfl ?_
      refine j_gRe (f := 640) (v := .ref (P 5 1)) C fF_X10_10 rfl c.1.1.1 (by rw [c.1.1.2.1]; rfl) dX10_force_27 ?_
      refine j_gIe (f := 128) (v := (S 0 0)) C fF_X10_67 rfl c.2.1.1 c.2.1.2.1.1 dX10_force_30 ?_
      refine j_callSi (As := [.int q, .int 0, .int (S 0 0)]) (rest := []) C fG_X10_43 (k_within (q) (0) ((S 0 0))) rfl rfl (Nat.le_of_ble_eq_true rfl) ⟨Nat.le_of_ble_eq_true rfl, Nat.le_of_ble_eq_true rfl⟩ ⟨Nat.le_of_ble_eq_true rfl, Nat.le_of_ble_eq_true rfl⟩ dX10_force_33 (fun r_33 h_33 e_33 => ?_)
      obtain ⟨e1_33, e2_33⟩ := e_33
      subst e1_33
      replace e2_33 := e2_33.symm
      subst e2_33
      refine j_ifne_b (tgt := 41) C dX10_force_36 (by decide) (fun c_36 => ?_) (fun c_36 => ?_)
      · have e54 : (5 - 1 : Int32) = 4 := by decide
        rw [e54] at c_11
        obtain ⟨i, hi, rfl⟩ := nI_of2 (x := kind) (M := 4) (n := 4) (by decide) (Int32.not_lt.mpr c_11.1) c_11.2
        refine j_aload_n C dX10_force_41 rfl ?_
        refine j_gRe (f := 640) (v := .ref (P 5 1)) C fF_X10_10 rfl c.1.1.1 (by rw [c.1.1.2.1]; rfl) dX10_force_42 ?_
        refine j_iload_n C dX10_force_45 rfl ?_
        refine j_iload_n C dX10_force_46 rfl ?_
        refine j_iload_n C dX10_force_47 rfl ?_
        refine j_callVi (As := [.int (nI i), .int yr, .int q]) (rest := []) C fG_X10_88 (k_inForce (a := (P 5 1)) (kd := i) c.2.1.1 c.2.1.2.2.2.2.2.1 c.2.1.2.2.2.2.2.2.1 c.2.1.2.2.2.2.2.2.2 (by omega) (c.2.2.2.2.2.1 i (by omega)).1 (yr) (q)) c.2.1.1 rfl rfl (Nat.le_of_ble_eq_true rfl) ⟨Nat.le_of_ble_eq_true rfl, Nat.le_of_ble_eq_true rfl⟩ ⟨Nat.le_of_ble_eq_true rfl, Nat.le_of_ble_eq_true rfl⟩ dX10_force_48 (fun r_48 h_48 e_48 => ?_)
        obtain ⟨e1_48, e2_48⟩ := e_48
        rw [cp_force c hp (by omega)] at e1_48
        subst e1_48
        replace e2_48 := e2_48.symm
        subst e2_48
        exact ret _ _ 0 0 _ _ ⟨S, by rw [m_force, if_pos ⟨c_11, c_21, c_36⟩]; rfl, c, FrC.rf⟩ (Nat.zero_le _) (Nat.zero_le _) dX10_force_51
      · refine j_iconst (v := (-1)) C dX10_force_39 (by decide) ?_
        exact ret _ _ 0 0 _ _ ⟨S, by rw [m_force, if_neg (fun z => c_36 z.2.2)], c, FrC.rf⟩ (Nat.zero_le _) (Nat.zero_le _) dX10_force_40
theorem sack_eq (what a b d e : Int32) : tsel 3 what (fun i => ([a, b, d, e] : List Int32).getD i (-1)) (-1) = if what = 0 then a else if what = 1 then b else if what = 2 then d else if what = 3 then e else -1 := by
  by_cases h0 : what = 0
  · rw [if_pos h0, h0]; exact tsel_in (n := 3) (i := 0) (by decide) _ _
  · rw [if_neg h0]
    by_cases h1 : what = 1
    · rw [if_pos h1, h1]; exact tsel_in (n := 3) (i := 1) (by decide) _ _
    · rw [if_neg h1]
      by_cases h2 : what = 2
      · rw [if_pos h2, h2]; exact tsel_in (n := 3) (i := 2) (by decide) _ _
      · rw [if_neg h2]
        by_cases h3 : what = 3
        · rw [if_pos h3, h3]; exact tsel_in (n := 3) (i := 3) (by decide) _ _
        · rw [if_neg h3]
          refine tsel_out (fun i hi e => ?_) _ _
          rcases (show i = 0 ∨ i = 1 ∨ i = 2 ∨ i = 3 by omega) with rfl | rfl | rfl | rfl
          · exact h0 e
          · exact h1 e
          · exact h2 e
          · exact h3 e
set_option maxHeartbeats 4000000 in
set_option maxRecDepth 100000 in
theorem x_sack {l : Launch} {D : va_G} {cy : Nat → ClassId} {h : jH} {S : Nat → Nat → Int32} {P : Nat → Nat → Nat} {T : Nat → Nat → Nat → List Nat} {nf nl nb ns nt nk nw : Nat} (c : CP h S P T nf nl nb ns nt nk nw) (hnl : nl ≤ 200) (hb : S 3 0 = nI nb) (hnb : nb ≤ 200) (hbl : ∀ q, q < nb → ∃ j, j < nl ∧ S 38 q = nI j) (bg what : Int32) : cI l D cy yX10_sack (.code yX10_sack cX10_sack 4 ((Option.some FieldType.int))) 1 [.ref (P 5 0), .int bg, .int what] h (fun r => r = m_sack S bg what) := by
  refine j_ofI (by decide) (Nat.le_of_ble_eq_true rfl) (fun p e s m args below meth c0 Q C hin ret => ?_)
  refine j_aload_n C dX10_sack_0 rfl ?_
  refine j_gRe (f := 640) (v := .ref (P 5 1)) C fF_X10_10 rfl c.1.1.1 (by rw [c.1.1.2.1]; rfl) dX10_sack_1 ?_
  refine j_iload_n C dX10_sack_4 rfl ?_
  refine j_callVq (As := [.int bg]) (rest := []) C fG_X10_184 (s_bagAt c hb hnb (bg)) c.2.1.1 rfl rfl (Nat.le_of_ble_eq_true rfl) ⟨Nat.le_of_ble_eq_true rfl, Nat.le_of_ble_eq_true rfl⟩ ⟨Nat.le_of_ble_eq_true rfl, Nat.le_of_ble_eq_true rfl⟩ dX10_sack_5 (fun r_5 h_5 e_5 => ?_)
  obtain ⟨e1_5, e2_5⟩ := e_5
  subst e1_5
  replace e2_5 := e2_5.symm
  subst e2_5
  refine j_astore_nQ (lv' := [(0, .ref (P 5 0)), (1, .int bg), (2, .int what), (3, va_rf (bagO S P bg))]) C dX10_sack_8 (by decide) rfl ?_
  refine j_aload_nQ C dX10_sack_9 rfl ?_
  cases hq_10 : (bagO S P bg) with
  | none =>
    refine j_ifnonnullN C dX10_sack_10 ?_
    refine j_iconst (v := (-1)) C dX10_sack_13 (by decide) ?_
    refine j_goto (tgt := 22) C dX10_sack_14 (by decide) ?_
    exact ret _ _ 0 0 _ _ ⟨by rw [m_sack, if_neg (bagO_n hq_10)], rfl⟩ (Nat.zero_le _) (Nat.zero_le _) dX10_sack_22
  | some x_10 =>
    refine j_ifnonnull (tgt := 17) C dX10_sack_10 (by decide) ?_
    obtain ⟨j, hj, hx, ha, hL⟩ := bagO_s hb hnb hq_10
    subst hx
    subst ha
    obtain ⟨l0, hl0, he38⟩ := hbl j hj
    have ob : h_ok h (P 1 (S 38 j).toNatClampNeg) 6 := by rw [he38, nI_clamp (by omega)]; exact (c.2.2.2.1 l0 hl0).1.2
    refine j_aload_n C dX10_sack_17 rfl ?_
    refine j_iload_n C dX10_sack_18 rfl ?_
    refine j_callVi (As := [.int what]) (rest := []) C fG_X10_270 (k_Babout (a := (P 2 j)) (c.2.2.2.2.1 j hj).1.2 (c.2.2.2.2.1 j hj).2.1 ob what) (c.2.2.2.2.1 j hj).1.2 rfl rfl (Nat.le_of_ble_eq_true rfl) ⟨Nat.le_of_ble_eq_true rfl, Nat.le_of_ble_eq_true rfl⟩ ⟨Nat.le_of_ble_eq_true rfl, Nat.le_of_ble_eq_true rfl⟩ dX10_sack_19 (fun r_19 h_19 e_19 => ?_)
    obtain ⟨e1_19, e2_19⟩ := e_19
    rw [sack_eq] at e1_19
    subst e1_19
    replace e2_19 := e2_19.symm
    subst e2_19
    refine ret _ _ 0 0 _ _ ⟨?_, rfl⟩ (Nat.zero_le _) (Nat.zero_le _) dX10_sack_22
    rw [m_sack, if_pos hL, nI_clamp (by omega), (c.2.2.2.2.1 j hj).2.2.1, (c.2.2.2.2.1 j hj).2.2.2.1, (c.2.2.2.2.1 j hj).2.2.2.2, he38, nI_clamp (by omega), (c.2.2.2.1 l0 hl0).2.1.1]
theorem looks_len {S : Nat → Nat → Int32} {lt q : Int32} : ∀ n : Nat, (∀ k, k < n → ¬ q < S 37 k) → looksS S lt q n = nI (dsc (lkB S lt) n).length
  | 0, _ => rfl
  | n + 1, hp => by
    have ih := looks_len (S := S) (lt := lt) (q := q) n (fun k hk => hp k (by omega))
    unfold looksS at ih ⊢
    rw [flp_last, Nat.zero_add, ih, dsc_s]
    unfold gLooks
    by_cases h : S 34 n = lt
    · rw [if_pos ⟨h, hp n (by omega)⟩, if_pos (show lkB S lt n = true from decide_eq_true h), List.length_cons]
      exact nI_1 _
    · rw [if_neg (fun z => h z.1), if_neg (show ¬ lkB S lt n = true from fun z => h (of_decide_eq_true z))]
      rw [show (0 : Int32) = nI 0 from rfl, nI_add]
      rfl
theorem cp_looks {h : jH} {S : Nat → Nat → Int32} {P : Nat → Nat → Nat} {T : Nat → Nat → Nat → List Nat} {nf nl nb ns nt nk nw : Nat} (c : CP h S P T nf nl nb ns nt nk nw) {j : Nat} (hj : j < nl) {q : Int32} (hq : ∀ k, k < nk → ¬ q < S 37 k) : oI h 322 0 (h_R h 397 (P 1 j)) = looksS S (nI j) q nk := by
  rw [looks_len nk hq]
  have ch := (c.2.2.2.1 j hj).2.2.2.2
  generalize dsc (lkB S (nI j)) nk = ks at ch ⊢
  generalize T 2 j 0 = as at ch ⊢
  obtain ⟨c1, c2⟩ := ch
  cases as with
  | nil =>
    cases ks with
    | nil => rw [show h_R h 397 (P 1 j) = none from c1]; rfl
    | cons k ks => exact c2.elim
  | cons a as =>
    cases ks with
    | nil => exact c2.elim
    | cons k ks =>
      rw [c1.1, List.length_cons]
      exact c2.2.1
theorem cp_num {h : jH} {S : Nat → Nat → Int32} {P : Nat → Nat → Nat} {T : Nat → Nat → Nat → List Nat} {nf nl nb ns nt nk nw : Nat} (c : CP h S P T nf nl nb ns nt nk nw) (hnl : nl ≤ 200) {v : Int32} (hv : v = -1 ∨ ∃ i, i < nl ∧ v = nI i) : oI h 384 (-1) (adr P 1 v) = v := by
  unfold adr
  by_cases e : v = -1
  · rw [if_pos e, e]; rfl
  · rw [if_neg e]
    obtain ⟨i, hi, rfl⟩ := hv.resolve_left e
    rw [nI_clamp (by omega)]
    exact (c.2.2.2.1 i hi).2.1.1
theorem cp_fnum {h : jH} {S : Nat → Nat → Int32} {P : Nat → Nat → Nat} {T : Nat → Nat → Nat → List Nat} {nf nl nb ns nt nk nw : Nat} (c : CP h S P T nf nl nb ns nt nk nw) (hnf : nf ≤ 40) {v : Int32} (hv : v = -1 ∨ ∃ i, i < nf ∧ v = nI i) : oI h 192 (-1) (adr P 0 v) = v := by
  unfold adr
  by_cases e : v = -1
  · rw [if_pos e, e]; rfl
  · rw [if_neg e]
    obtain ⟨i, hi, rfl⟩ := hv.resolve_left e
    rw [nI_clamp (by omega)]
    exact (c.2.2.1 i hi).2.1.1
theorem adr_ok1 {h : jH} {S : Nat → Nat → Int32} {P : Nat → Nat → Nat} {T : Nat → Nat → Nat → List Nat} {nf nl nb ns nt nk nw : Nat} (c : CP h S P T nf nl nb ns nt nk nw) (hnl : nl ≤ 200) {v : Int32} (hv : v = -1 ∨ ∃ i, i < nl ∧ v = nI i) : ∀ x, adr P 1 v = some x → h_ok h x 6 := by
  intro x hx
  unfold adr at hx
  by_cases e : v = -1
  · rw [if_pos e] at hx; cases hx
  · rw [if_neg e] at hx
    obtain ⟨i, hi, rfl⟩ := hv.resolve_left e
    rw [nI_clamp (by omega)] at hx
    cases hx
    exact (c.2.2.2.1 i hi).1.2
theorem adr_ok0 {h : jH} {S : Nat → Nat → Int32} {P : Nat → Nat → Nat} {T : Nat → Nat → Nat → List Nat} {nf nl nb ns nt nk nw : Nat} (c : CP h S P T nf nl nb ns nt nk nw) (hnf : nf ≤ 40) {v : Int32} (hv : v = -1 ∨ ∃ i, i < nf ∧ v = nI i) : ∀ x, adr P 0 v = some x → h_ok h x 3 := by
  intro x hx
  unfold adr at hx
  by_cases e : v = -1
  · rw [if_pos e] at hx; cases hx
  · rw [if_neg e] at hx
    obtain ⟨i, hi, rfl⟩ := hv.resolve_left e
    rw [nI_clamp (by omega)] at hx
    cases hx
    exact (c.2.2.1 i hi).1.2
theorem chn_hd {h : jH} {k f : Nat} {r : Option Nat} {as : List Nat} (c : chn h k f r as) : ∀ x, r = some x → h_ok h x k := by
  intro x hx
  cases as with
  | nil => rw [show r = none from c] at hx; cases hx
  | cons a as =>
    rw [c.1] at hx
    cases hx
    exact c.2.1
set_option maxHeartbeats 4000000 in
set_option maxRecDepth 100000 in
theorem x_told {l : Launch} {D : va_G} {cy : Nat → ClassId} {h : jH} {S : Nat → Nat → Int32} {P : Nat → Nat → Nat} {T : Nat → Nat → Nat → List Nat} {nf nl nb ns nt nk nw : Nat} (c : CP h S P T nf nl nb ns nt nk nw) (hnf : nf ≤ 40) (hl : S 2 0 = nI nl) (hnl : nl ≤ 200) (hF : ∀ a, a < nl → S 25 a = -1 ∨ ∃ i, i < nf ∧ S 25 a = nI i) (hA : ∀ a, a < nl → S 26 a = -1 ∨ ∃ i, i < nl ∧ S 26 a = nI i) (hB : ∀ a, a < nl → S 27 a = -1 ∨ ∃ i, i < nl ∧ S 27 a = nI i) (hK : ∀ k, k < nk → ¬ S 0 0 < S 37 k) (lt what : Int32) : cI l D cy yX10_told (.code yX10_told cX10_told 4 ((Option.some FieldType.int))) 2 [.ref (P 5 0), .int lt, .int what] h (fun r => r = m_told S lt what nk) := by
  refine j_ofI (by decide) (Nat.le_of_ble_eq_true rfl) (fun p e s m args below meth c0 Q C hin ret => ?_)
  refine j_aload_n C dX10_told_0 rfl ?_
  refine j_gRe (f := 640) (v := .ref (P 5 1)) C fF_X10_10 rfl c.1.1.1 (by rw [c.1.1.2.1]; rfl) dX10_told_1 ?_
  refine j_iload_n C dX10_told_4 rfl ?_
  refine j_callVq (As := [.int lt]) (rest := []) C fG_X10_107 (s_lotAt c hl hnl (lt)) c.2.1.1 rfl rfl (Nat.le_of_ble_eq_true rfl) ⟨Nat.le_of_ble_eq_true rfl, Nat.le_of_ble_eq_true rfl⟩ ⟨Nat.le_of_ble_eq_true rfl, Nat.le_of_ble_eq_true rfl⟩ dX10_told_5 (fun r_5 h_5 e_5 => ?_)
  obtain ⟨e1_5, e2_5⟩ := e_5
  subst e1_5
  replace e2_5 := e2_5.symm
  subst e2_5
  refine j_astore_nQ (lv' := [(0, .ref (P 5 0)), (1, .int lt), (2, .int what), (3, va_rf (lotO S P lt))]) C dX10_told_8 (by decide) rfl ?_
  refine j_aload_nQ C dX10_told_9 rfl ?_
  cases hq_10 : (lotO S P lt) with
  | none =>
    refine j_ifnonnullN C dX10_told_10 ?_
    refine j_iconst (v := (-1)) C dX10_told_13 (by decide) ?_
    refine j_goto (tgt := 22) C dX10_told_14 (by decide) ?_
    exact ret _ _ 0 0 _ _ ⟨by rw [m_told, if_neg (lotO_n hq_10)], rfl⟩ (Nat.zero_le _) (Nat.zero_le _) dX10_told_22
  | some x_10 =>
    refine j_ifnonnull (tgt := 17) C dX10_told_10 (by decide) ?_
    obtain ⟨j, hj, hx, ha, hL⟩ := lotO_s hl hnl hq_10
    subst hx
    subst ha
    refine j_aload_n C dX10_told_17 rfl ?_
    refine j_iload_n C dX10_told_18 rfl ?_
    refine j_callVi (As := [.int what]) (rest := []) C fG_X10_267 (k_Labout (a := (P 1 j)) (c.2.2.2.1 j hj).1.2 (by rw [(c.2.2.2.1 j hj).2.2.1.1]; exact adr_ok0 c hnf (hF j hj)) (by rw [(c.2.2.2.1 j hj).2.2.1.2.1]; exact adr_ok1 c hnl (hA j hj)) (by rw [(c.2.2.2.1 j hj).2.2.1.2.2]; exact adr_ok1 c hnl (hB j hj)) (chn_hd (c.2.2.2.1 j hj).2.2.2.2.1) what) (c.2.2.2.1 j hj).1.2 rfl rfl (Nat.le_of_ble_eq_true rfl) ⟨Nat.le_of_ble_eq_true rfl, Nat.le_of_ble_eq_true rfl⟩ ⟨Nat.le_of_ble_eq_true rfl, Nat.le_of_ble_eq_true rfl⟩ dX10_told_19 (fun r_19 h_19 e_19 => ?_)
    obtain ⟨e1_19, e2_19⟩ := e_19
    rw [cp_looks c hj hK, (c.2.2.2.1 j hj).2.2.1.1, (c.2.2.2.1 j hj).2.2.1.2.1, (c.2.2.2.1 j hj).2.2.1.2.2, cp_fnum c hnf (hF j hj), cp_num c hnl (hA j hj), cp_num c hnl (hB j hj), (c.2.2.2.1 j hj).2.1.2.1, (c.2.2.2.1 j hj).2.1.2.2.1, (c.2.2.2.1 j hj).2.1.2.2.2, (c.2.2.2.1 j hj).2.2.2.1.1, (c.2.2.2.1 j hj).2.2.2.1.2.1, (c.2.2.2.1 j hj).2.2.2.1.2.2.1, (c.2.2.2.1 j hj).2.2.2.1.2.2.2.1, (c.2.2.2.1 j hj).2.2.2.1.2.2.2.2.1, (c.2.2.2.1 j hj).2.2.2.1.2.2.2.2.2.1, (c.2.2.2.1 j hj).2.2.2.1.2.2.2.2.2.2] at e1_19
    subst e1_19
    replace e2_19 := e2_19.symm
    subst e2_19
    refine ret _ _ 0 0 _ _ ⟨?_, rfl⟩ (Nat.zero_le _) (Nat.zero_le _) dX10_told_22
    rw [m_told, if_pos hL, nI_clamp (by omega)]
