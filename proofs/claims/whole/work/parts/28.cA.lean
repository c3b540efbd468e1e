set_option maxHeartbeats 4000000 in
set_option maxRecDepth 100000 in
theorem k_within {l : Launch} {D : va_G} {cy : Nat → ClassId} {h : jH} (v lo hi : Int32) : cI l D cy yX10_within (.code yX10_within cX10_within 3 ((Option.some FieldType.boolean))) 0 [.int v, .int lo, .int hi] h (fun r => r = bI (lo ≤ v ∧ v ≤ hi)) := by
  refine j_ofZ (by decide) (Nat.le_of_ble_eq_true rfl) (fun p e s m args below meth c Q C hin ret => ?_)
  refine j_iload_n C dX10_within_0 rfl ?_
  refine j_iload_n C dX10_within_1 rfl ?_
  refine j_icmp_lt (tgt := 14) C dX10_within_2 (by decide) (fun c_2 => ?_) (fun c_2 => ?_)
  · refine j_iconst (v := 0) C dX10_within_14 (by decide) ?_
    exact ret _ _ 0 0 _ _ ⟨(bI_f (fun z => Int32.not_lt.mpr z.1 c_2)).symm, rfl⟩ (by decide) (Nat.zero_le _) (Nat.zero_le _) dX10_within_15
  · refine j_iload_n C dX10_within_5 rfl ?_
    refine j_iload_n C dX10_within_6 rfl ?_
    refine j_icmp_gt (tgt := 14) C dX10_within_7 (by decide) (fun c_7 => ?_) (fun c_7 => ?_)
    · refine j_iconst (v := 0) C dX10_within_14 (by decide) ?_
      exact ret _ _ 0 0 _ _ ⟨(bI_f (fun z => Int32.not_lt.mpr z.2 c_7)).symm, rfl⟩ (by decide) (Nat.zero_le _) (Nat.zero_le _) dX10_within_15
    · refine j_iconst (v := 1) C dX10_within_10 (by decide) ?_
      refine j_goto (tgt := 15) C dX10_within_11 (by decide) ?_
      exact ret _ _ 0 0 _ _ ⟨(bI_t ⟨Int32.not_lt.mp c_2, Int32.not_lt.mp c_7⟩).symm, rfl⟩ (by decide) (Nat.zero_le _) (Nat.zero_le _) dX10_within_15
set_option maxHeartbeats 4000000 in
set_option maxRecDepth 100000 in
theorem k_isOpened {l : Launch} {D : va_G} {cy : Nat → ClassId} {h : jH} {a : Nat} (oa : h_ok h a 1) : cI l D cy yX1_isOpened (.code yX1_isOpened cX1_isOpened 1 ((Option.some FieldType.boolean))) 0 [.ref a] h (fun r => r = bI (h_I h 66 a = 0)) := by
  refine j_ofZ (by decide) (Nat.le_of_ble_eq_true rfl) (fun p e s m args below meth c Q C hin ret => ?_)
  refine j_aload_n C dX1_isOpened_0 rfl ?_
  refine j_gI (f := 66) C fF_X1_22 rfl oa dX1_isOpened_1 ?_
  refine j_if_ne (tgt := 11) C dX1_isOpened_4 (by decide) (fun c_4 => ?_) (fun c_4 => ?_)
  · refine j_iconst (v := 0) C dX1_isOpened_11 (by decide) ?_
    exact ret _ _ 0 0 _ _ ⟨(bI_f c_4).symm, rfl⟩ (by decide) (Nat.zero_le _) (Nat.zero_le _) dX1_isOpened_12
  · refine j_iconst (v := 1) C dX1_isOpened_7 (by decide) ?_
    refine j_goto (tgt := 12) C dX1_isOpened_8 (by decide) ?_
    exact ret _ _ 0 0 _ _ ⟨(bI_t c_4).symm, rfl⟩ (by decide) (Nat.zero_le _) (Nat.zero_le _) dX1_isOpened_12
set_option maxHeartbeats 4000000 in
set_option maxRecDepth 100000 in
theorem k_isSold {l : Launch} {D : va_G} {cy : Nat → ClassId} {h : jH} {a : Nat} (oa : h_ok h a 1) : cI l D cy yX1_isSold (.code yX1_isSold cX1_isSold 1 ((Option.some FieldType.boolean))) 0 [.ref a] h (fun r => r = bI (¬ h_I h 67 a = -1)) := by
  refine j_ofZ (by decide) (Nat.le_of_ble_eq_true rfl) (fun p e s m args below meth c Q C hin ret => ?_)
  refine j_aload_n C dX1_isSold_0 rfl ?_
  refine j_gI (f := 67) C fF_X1_9 rfl oa dX1_isSold_1 ?_
  refine j_iconst (v := (-1)) C dX1_isSold_4 (by decide) ?_
  refine j_icmp_eq (tgt := 12) C dX1_isSold_5 (by decide) (fun c_5 => ?_) (fun c_5 => ?_)
  · refine j_iconst (v := 0) C dX1_isSold_12 (by decide) ?_
    exact ret _ _ 0 0 _ _ ⟨(bI_f (fun q => q c_5)).symm, rfl⟩ (by decide) (Nat.zero_le _) (Nat.zero_le _) dX1_isSold_13
  · refine j_iconst (v := 1) C dX1_isSold_8 (by decide) ?_
    refine j_goto (tgt := 13) C dX1_isSold_9 (by decide) ?_
    exact ret _ _ 0 0 _ _ ⟨(bI_t c_5).symm, rfl⟩ (by decide) (Nat.zero_le _) (Nat.zero_le _) dX1_isSold_13
set_option maxHeartbeats 4000000 in
set_option maxRecDepth 100000 in
theorem k_Babout {l : Launch} {D : va_G} {cy : Nat → ClassId} {h : jH} {a : Nat} (oa : h_ok h a 1) {b : Nat} (hb : h_R h 64 a = some b) (ob : h_ok h b 6) (what : Int32) : cI l D cy yX1_about (.code yX1_about cX1_about 2 ((Option.some FieldType.int))) 0 [.ref a, .int what] h (fun r => r = tsel 3 what (fun i => ([h_I h 384 b, h_I h 65 a, h_I h 66 a, h_I h 67 a] : List Int32).getD i (-1)) (-1)) := by
  refine j_ofI (by decide) (Nat.le_of_ble_eq_true rfl) (fun p e s m args below meth c Q C hin ret => ?_)
  refine j_iload_n C dX1_about_0 rfl ?_
  refine j_tsw (hi := 3) C dX1_about_1 (fun i_1 hi_1 e_1 => ?_) (fun c_1 => ⟨55, by decide, ?_⟩)
  · subst e_1
    rcases (show i_1 = 0 ∨ i_1 = 1 ∨ i_1 = 2 ∨ i_1 = 3 by omega) with rfl | rfl | rfl | rfl
    · refine ⟨31, 32, rfl, by decide, ?_⟩
      refine j_aload_n C dX1_about_32 rfl ?_
      refine j_gRe (f := 64) (v := .ref b) C fF_X1_15 rfl oa (by rw [hb]; rfl) dX1_about_33 ?_
      refine j_gI (f := 384) C fF_X1_25 rfl ob dX1_about_36 ?_
      exact ret _ _ 0 0 _ _ ⟨by rw [tsel_in (by decide)]; rfl, rfl⟩ (Nat.zero_le _) (Nat.zero_le _) dX1_about_39
    · refine ⟨39, 40, rfl, by decide, ?_⟩
      refine j_aload_n C dX1_about_40 rfl ?_
      refine j_gI (f := 65) C fF_X1_19 rfl oa dX1_about_41 ?_
      exact ret _ _ 0 0 _ _ ⟨by rw [tsel_in (by decide)]; rfl, rfl⟩ (Nat.zero_le _) (Nat.zero_le _) dX1_about_44
    · refine ⟨44, 45, rfl, by decide, ?_⟩
      refine j_aload_n C dX1_about_45 rfl ?_
      refine j_gI (f := 66) C fF_X1_22 rfl oa dX1_about_46 ?_
      exact ret _ _ 0 0 _ _ ⟨by rw [tsel_in (by decide)]; rfl, rfl⟩ (Nat.zero_le _) (Nat.zero_le _) dX1_about_49
    · refine ⟨49, 50, rfl, by decide, ?_⟩
      refine j_aload_n C dX1_about_50 rfl ?_
      refine j_gI (f := 67) C fF_X1_9 rfl oa dX1_about_51 ?_
      exact ret _ _ 0 0 _ _ ⟨by rw [tsel_in (by decide)]; rfl, rfl⟩ (Nat.zero_le _) (Nat.zero_le _) dX1_about_54
  · refine j_iconst (v := (-1)) C dX1_about_55 (by decide) ?_
    exact ret _ _ 0 0 _ _ ⟨(tsel_out c_1 _ _).symm, rfl⟩ (Nat.zero_le _) (Nat.zero_le _) dX1_about_56
set_option maxHeartbeats 4000000 in
set_option maxRecDepth 100000 in
theorem k_has {l : Launch} {D : va_G} {cy : Nat → ClassId} {h : jH} {a : Nat} (oa : h_ok h a 6) (v : Int32) : cI l D cy yX6_has (.code yX6_has cX6_has 2 ((Option.some FieldType.boolean))) 0 [.ref a, .int v] h (fun r => r = bI (¬ v < 1 ∧ ¬ h_I h 391 a < v)) := by
  refine j_ofZ (by decide) (Nat.le_of_ble_eq_true rfl) (fun p e s m args below meth c Q C hin ret => ?_)
  refine j_iload_n C dX6_has_0 rfl ?_
  refine j_iconst (v := 1) C dX6_has_1 (by decide) ?_
  refine j_icmp_lt (tgt := 17) C dX6_has_2 (by decide) (fun c_2 => ?_) (fun c_2 => ?_)
  · refine j_iconst (v := 0) C dX6_has_17 (by decide) ?_
    exact ret _ _ 0 0 _ _ ⟨(bI_f (fun q => q.1 c_2)).symm, rfl⟩ (by decide) (Nat.zero_le _) (Nat.zero_le _) dX6_has_18
  · refine j_iload_n C dX6_has_5 rfl ?_
    refine j_aload_n C dX6_has_6 rfl ?_
    refine j_gI (f := 391) C fF_X6_22 rfl oa dX6_has_7 ?_
    refine j_icmp_gt (tgt := 17) C dX6_has_10 (by decide) (fun c_10 => ?_) (fun c_10 => ?_)
    · refine j_iconst (v := 0) C dX6_has_17 (by decide) ?_
      exact ret _ _ 0 0 _ _ ⟨(bI_f (fun q => q.2 c_10)).symm, rfl⟩ (by decide) (Nat.zero_le _) (Nat.zero_le _) dX6_has_18
    · refine j_iconst (v := 1) C dX6_has_13 (by decide) ?_
      refine j_goto (tgt := 18) C dX6_has_14 (by decide) ?_
      exact ret _ _ 0 0 _ _ ⟨(bI_t ⟨c_2, c_10⟩).symm, rfl⟩ (by decide) (Nat.zero_le _) (Nat.zero_le _) dX6_has_18
set_option maxHeartbeats 4000000 in
set_option maxRecDepth 100000 in
theorem k_gain {l : Launch} {D : va_G} {cy : Nat → ClassId} {h : jH} {a : Nat} (oa : h_ok h a 6) (v : Int32) : jV l D cy yX6_gain (.code yX6_gain cX6_gain 2 ((Option.none : Option FieldType))) (rmd 0 0 0) [.ref a, .int v] h (fun h' => h' = s_I (s_I h 391 a v) 392 a v) := by
  refine j_ofV (by decide) (Nat.le_of_ble_eq_true rfl) (fun p e s m args below meth c Q C hin ret => ?_)
  refine j_aload_n C dX6_gain_0 rfl ?_
  refine j_iload_n C dX6_gain_1 rfl ?_
  refine j_pI (f := 391) C fP_X6_22 rfl oa rfl rfl dX6_gain_2 ?_
  refine j_aload_n C dX6_gain_5 rfl ?_
  refine j_iload_n C dX6_gain_6 rfl ?_
  refine j_pI (f := 392) C fP_X6_26 rfl oa rfl rfl dX6_gain_7 ?_
  exact ret _ 0 0 _ _ (rfl) (Nat.zero_le _) (Nat.zero_le _) dX6_gain_10
set_option maxHeartbeats 4000000 in
set_option maxRecDepth 100000 in
theorem k_isFalse {l : Launch} {D : va_G} {cy : Nat → ClassId} {h : jH} {a : Nat} (oa : h_ok h a 6) (q : Int32) : cI l D cy yX6_isFalseAsKnownIn (.code yX6_isFalseAsKnownIn cX6_isFalseAsKnownIn 2 ((Option.some FieldType.boolean))) 0 [.ref a, .int q] h (fun r => r = bI (¬ h_I h 398 a = -1 ∧ ¬ q < h_I h 398 a)) := by
  refine j_ofZ (by decide) (Nat.le_of_ble_eq_true rfl) (fun p e s m args below meth c Q C hin ret => ?_)
  refine j_aload_n C dX6_isFalseAsKnownIn_0 rfl ?_
  refine j_gI (f := 398) C fF_X6_45 rfl oa dX6_isFalseAsKnownIn_1 ?_
  refine j_iconst (v := (-1)) C dX6_isFalseAsKnownIn_4 (by decide) ?_
  refine j_icmp_eq (tgt := 20) C dX6_isFalseAsKnownIn_5 (by decide) (fun c_5 => ?_) (fun c_5 => ?_)
  · refine j_iconst (v := 0) C dX6_isFalseAsKnownIn_20 (by decide) ?_
    exact ret _ _ 0 0 _ _ ⟨(bI_f (fun q => q.1 c_5)).symm, rfl⟩ (by decide) (Nat.zero_le _) (Nat.zero_le _) dX6_isFalseAsKnownIn_21
  · refine j_aload_n C dX6_isFalseAsKnownIn_8 rfl ?_
    refine j_gI (f := 398) C fF_X6_45 rfl oa dX6_isFalseAsKnownIn_9 ?_
    refine j_iload_n C dX6_isFalseAsKnownIn_12 rfl ?_
    refine j_icmp_gt (tgt := 20) C dX6_isFalseAsKnownIn_13 (by decide) (fun c_13 => ?_) (fun c_13 => ?_)
    · refine j_iconst (v := 0) C dX6_isFalseAsKnownIn_20 (by decide) ?_
      exact ret _ _ 0 0 _ _ ⟨(bI_f (fun q => q.2 c_13)).symm, rfl⟩ (by decide) (Nat.zero_le _) (Nat.zero_le _) dX6_isFalseAsKnownIn_21
    · refine j_iconst (v := 1) C dX6_isFalseAsKnownIn_16 (by decide) ?_
      refine j_goto (tgt := 21) C dX6_isFalseAsKnownIn_17 (by decide) ?_
      exact ret _ _ 0 0 _ _ ⟨(bI_t ⟨c_5, c_13⟩).symm, rfl⟩ (by decide) (Nat.zero_le _) (Nat.zero_le _) dX6_isFalseAsKnownIn_21
def oI (h : jH) (f : Nat) (d : Int32) (r : Option Nat) : Int32 := match r with
  | none => d
  | some x => h_I h f x
theorem oI_n {h : jH} {f : Nat} {d : Int32} {r : Option Nat} (e : r = none) : oI h f d r = d := by rw [e]; rfl
theorem oI_s {h : jH} {f : Nat} {d : Int32} {r : Option Nat} {x : Nat} (e : r = some x) : oI h f d r = h_I h f x := by rw [e]; rfl
set_option maxHeartbeats 4000000 in
set_option maxRecDepth 100000 in
theorem k_lookCount {l : Launch} {D : va_G} {cy : Nat → ClassId} {h : jH} {a : Nat} (oa : h_ok h a 6) (ol : ∀ x, h_R h 397 a = some x → h_ok h x 5) : cI l D cy yX6_lookCount (.code yX6_lookCount cX6_lookCount 1 ((Option.some FieldType.int))) 0 [.ref a] h (fun r => r = oI h 322 0 (h_R h 397 a)) := by
  refine j_ofI (by decide) (Nat.le_of_ble_eq_true rfl) (fun p e s m args below meth c Q C hin ret => ?_)
  refine j_aload_n C dX6_lookCount_0 rfl ?_
  refine j_gR (f := 397) C fF_X6_41 rfl oa dX6_lookCount_1 ?_
  cases hq_4 : (h_R h 397 a) with
  | none =>
    refine j_ifnonnullN C dX6_lookCount_4 ?_
    refine j_iconst (v := 0) C dX6_lookCount_7 (by decide) ?_
    refine j_goto (tgt := 18) C dX6_lookCount_8 (by decide) ?_
    exact ret _ _ 0 0 _ _ ⟨(oI_n hq_4).symm, rfl⟩ (Nat.zero_le _) (Nat.zero_le _) dX6_lookCount_18
  | some x_4 =>
    refine j_ifnonnull (tgt := 11) C dX6_lookCount_4 (by decide) ?_
    refine j_aload_n C dX6_lookCount_11 rfl ?_
    refine j_gRe (f := 397) (v := .ref x_4) C fF_X6_41 rfl oa (by rw [hq_4]; rfl) dX6_lookCount_12 ?_
    refine j_gI (f := 322) C fF_X6_76 rfl (ol _ hq_4) dX6_lookCount_15 ?_
    exact ret _ _ 0 0 _ _ ⟨(oI_s hq_4).symm, rfl⟩ (Nat.zero_le _) (Nat.zero_le _) dX6_lookCount_18
theorem mx_le {x y : Int32} (h : x ≤ y) : mx x y = y := by
  unfold mx
  by_cases c : x < y
  · exact if_pos c
  · rw [if_neg c]
    rw [Int32.lt_iff_toInt_lt] at c
    rw [Int32.le_iff_toInt_le] at h
    exact Int32.toInt_inj.mp (by omega)
theorem mx_gt {x y : Int32} (h : ¬ x ≤ y) : mx x y = x := by
  unfold mx
  rw [if_neg (fun c => h (by rw [Int32.lt_iff_toInt_lt] at c; rw [Int32.le_iff_toInt_le]; omega))]
def rkm (h : jH) (a : Nat) : Int32 := mx (oI h 399 0 (h_R h 389 a)) (oI h 399 0 (h_R h 390 a))
set_option maxHeartbeats 4000000 in
set_option maxRecDepth 100000 in
theorem k_rankOfMothers {l : Launch} {D : va_G} {cy : Nat → ClassId} {h : jH} {a : Nat} (oa : h_ok h a 6) (o1 : ∀ x, h_R h 389 a = some x → h_ok h x 6) (o2 : ∀ x, h_R h 390 a = some x → h_ok h x 6) : cI l D cy yX6_rankOfMothers (.code yX6_rankOfMothers cX6_rankOfMothers 3 ((Option.some FieldType.int))) 1 [.ref a] h (fun r => r = rkm h a) := by
  refine j_ofI (by decide) (Nat.le_of_ble_eq_true rfl) (fun p e s m args below meth c Q C hin ret => ?_)
  refine j_aload_n C dX6_rankOfMothers_0 rfl ?_
  refine j_gR (f := 389) C fF_X6_15 rfl oa dX6_rankOfMothers_1 ?_
  cases hq_4 : (h_R h 389 a) with
  | none =>
    refine j_ifnonnullN C dX6_rankOfMothers_4 ?_
    refine j_iconst (v := 0) C dX6_rankOfMothers_7 (by decide) ?_
    refine j_goto (tgt := 18) C dX6_rankOfMothers_8 (by decide) ?_
    refine j_istore_n (lv' := [(0, .ref a), (1, .int 0)]) C dX6_rankOfMothers_18 (by decide) rfl ?_
    refine j_aload_n C dX6_rankOfMothers_19 rfl ?_
    refine j_gR (f := 390) C fF_X6_19 rfl oa dX6_rankOfMothers_20 ?_
    cases hq_23 : (h_R h 390 a) with
    | none =>
      refine j_ifnonnullN C dX6_rankOfMothers_23 ?_
      refine j_iconst (v := 0) C dX6_rankOfMothers_26 (by decide) ?_
      refine j_goto (tgt := 37) C dX6_rankOfMothers_27 (by decide) ?_
      refine j_istore_n (lv' := [(0, .ref a), (1, .int 0), (2, .int 0)]) C dX6_rankOfMothers_37 (by decide) rfl ?_
      refine j_iload_n C dX6_rankOfMothers_38 rfl ?_
      refine j_iload_n C dX6_rankOfMothers_39 rfl ?_
      refine j_icmp_le (tgt := 47) C dX6_rankOfMothers_40 (by decide) (fun c_40 => ?_) (fun c_40 => ?_)
      · refine j_iload_n C dX6_rankOfMothers_47 rfl ?_
        exact ret _ _ 0 0 _ _ ⟨by unfold rkm; rw [oI_n hq_4, oI_n hq_23]; rfl, rfl⟩ (Nat.zero_le _) (Nat.zero_le _) dX6_rankOfMothers_48
      · exact (show False by revert c_40; decide).elim
    | some x_23 =>
      refine j_ifnonnull (tgt := 30) C dX6_rankOfMothers_23 (by decide) ?_
      refine j_aload_n C dX6_rankOfMothers_30 rfl ?_
      refine j_gRe (f := 390) (v := .ref x_23) C fF_X6_19 rfl oa (by rw [hq_23]; rfl) dX6_rankOfMothers_31 ?_
      refine j_gI (f := 399) C fF_X6_48 rfl (o2 _ hq_23) dX6_rankOfMothers_34 ?_
      refine j_istore_n (lv' := [(0, .ref a), (1, .int 0), (2, .int (h_I h 399 x_23))]) C dX6_rankOfMothers_37 (by decide) rfl ?_
      refine j_iload_n C dX6_rankOfMothers_38 rfl ?_
      refine j_iload_n C dX6_rankOfMothers_39 rfl ?_
      refine j_icmp_le (tgt := 47) C dX6_rankOfMothers_40 (by decide) (fun c_40 => ?_) (fun c_40 => ?_)
      · refine j_iload_n C dX6_rankOfMothers_47 rfl ?_
        exact ret _ _ 0 0 _ _ ⟨by unfold rkm; rw [oI_n hq_4, oI_s hq_23]; exact (mx_le c_40).symm, rfl⟩ (Nat.zero_le _) (Nat.zero_le _) dX6_rankOfMothers_48
      · refine j_iload_n C dX6_rankOfMothers_43 rfl ?_
        refine j_goto (tgt := 48) C dX6_rankOfMothers_44 (by decide) ?_
        exact ret _ _ 0 0 _ _ ⟨by unfold rkm; rw [oI_n hq_4, oI_s hq_23]; exact (mx_gt c_40).symm, rfl⟩ (Nat.zero_le _) (Nat.zero_le _) dX6_rankOfMothers_48
  | some x_4 =>
    refine j_ifnonnull (tgt := 11) C dX6_rankOfMothers_4 (by decide) ?_
    refine j_aload_n C dX6_rankOfMothers_11 rfl ?_
    refine j_gRe (f := 389) (v := .ref x_4) C fF_X6_15 rfl oa (by rw [hq_4]; rfl) dX6_rankOfMothers_12 ?_
    refine j_gI (f := 399) C fF_X6_48 rfl (o1 _ hq_4) dX6_rankOfMothers_15 ?_
    refine j_istore_n (lv' := [(0, .ref a), (1, .int (h_I h 399 x_4))]) C dX6_rankOfMothers_18 (by decide) rfl ?_
    refine j_aload_n C dX6_rankOfMothers_19 rfl ?_
    refine j_gR (f := 390) C fF_X6_19 rfl oa dX6_rankOfMothers_20 ?_
    cases hq_23 : (h_R h 390 a) with
    | none =>
      refine j_ifnonnullN C dX6_rankOfMothers_23 ?_
      refine j_iconst (v := 0) C dX6_rankOfMothers_26 (by decide) ?_
      refine j_goto (tgt := 37) C dX6_rankOfMothers_27 (by decide) ?_
      refine j_istore_n (lv' := [(0, .ref a), (1, .int (h_I h 399 x_4)), (2, .int 0)]) C dX6_rankOfMothers_37 (by decide) rfl ?_
      refine j_iload_n C dX6_rankOfMothers_38 rfl ?_
      refine j_iload_n C dX6_rankOfMothers_39 rfl ?_
      refine j_icmp_le (tgt := 47) C dX6_rankOfMothers_40 (by decide) (fun c_40 => ?_) (fun c_40 => ?_)
      · refine j_iload_n C dX6_rankOfMothers_47 rfl ?_
        exact ret _ _ 0 0 _ _ ⟨by unfold rkm; rw [oI_s hq_4, oI_n hq_23]; exact (mx_le c_40).symm, rfl⟩ (Nat.zero_le _) (Nat.zero_le _) dX6_rankOfMothers_48
      · refine j_iload_n C dX6_rankOfMothers_43 rfl ?_
        refine j_goto (tgt := 48) C dX6_rankOfMothers_44 (by decide) ?_
        exact ret _ _ 0 0 _ _ ⟨by unfold rkm; rw [oI_s hq_4, oI_n hq_23]; exact (mx_gt c_40).symm, rfl⟩ (Nat.zero_le _) (Nat.zero_le _) dX6_rankOfMothers_48
    | some x_23 =>
      refine j_ifnonnull (tgt := 30) C dX6_rankOfMothers_23 (by decide) ?_
      refine j_aload_n C dX6_rankOfMothers_30 rfl ?_
      refine j_gRe (f := 390) (v := .ref x_23) C fF_X6_19 rfl oa (by rw [hq_23]; rfl) dX6_rankOfMothers_31 ?_
      refine j_gI (f := 399) C fF_X6_48 rfl (o2 _ hq_23) dX6_rankOfMothers_34 ?_
      refine j_istore_n (lv' := [(0, .ref a), (1, .int (h_I h 399 x_4)), (2, .int (h_I h 399 x_23))]) C dX6_rankOfMothers_37 (by decide) rfl ?_
      refine j_iload_n C dX6_rankOfMothers_38 rfl ?_
      refine j_iload_n C dX6_rankOfMothers_39 rfl ?_
      refine j_icmp_le (tgt := 47) C dX6_rankOfMothers_40 (by decide) (fun c_40 => ?_) (fun c_40 => ?_)
      · refine j_iload_n C dX6_rankOfMothers_47 rfl ?_
        exact ret _ _ 0 0 _ _ ⟨by unfold rkm; rw [oI_s hq_4, oI_s hq_23]; exact (mx_le c_40).symm, rfl⟩ (Nat.zero_le _) (Nat.zero_le _) dX6_rankOfMothers_48
      · refine j_iload_n C dX6_rankOfMothers_43 rfl ?_
        refine j_goto (tgt := 48) C dX6_rankOfMothers_44 (by decide) ?_
        exact ret _ _ 0 0 _ _ ⟨by unfold rkm; rw [oI_s hq_4, oI_s hq_23]; exact (mx_gt c_40).symm, rfl⟩ (Nat.zero_le _) (Nat.zero_le _) dX6_rankOfMothers_48
set_option maxHeartbeats 4000000 in
set_option maxRecDepth 100000 in
theorem k_Labout {l : Launch} {D : va_G} {cy : Nat → ClassId} {h : jH} {a : Nat} (oa : h_ok h a 6) (o0 : ∀ x, h_R h 388 a = some x → h_ok h x 3) (o1 : ∀ x, h_R h 389 a = some x → h_ok h x 6) (o2 : ∀ x, h_R h 390 a = some x → h_ok h x 6) (ol : ∀ x, h_R h 397 a = some x → h_ok h x 5) (what : Int32) : cI l D cy yX6_about (.code yX6_about cX6_about 2 ((Option.some FieldType.int))) 1 [.ref a, .int what] h (fun r => r = tsel 13 what (fun i => ([h_I h 385 a, h_I h 386 a, h_I h 391 a, h_I h 387 a, oI h 192 (-1) (h_R h 388 a), oI h 384 (-1) (h_R h 389 a), oI h 384 (-1) (h_R h 390 a), h_I h 392 a, h_I h 393 a, h_I h 394 a, h_I h 395 a, h_I h 396 a, oI h 322 0 (h_R h 397 a), h_I h 398 a] : List Int32).getD i (-1)) (-1)) := by
  refine j_ofI (by decide) (Nat.le_of_ble_eq_true rfl) (fun p e s m args below meth c Q C hin ret => ?_)
  refine j_iload_n C dX6_about_0 rfl ?_
  refine j_tsw (hi := 13) C dX6_about_1 (fun i_1 hi_1 e_1 => ?_) (fun c_1 => ⟨184, by decide, ?_⟩)
  · subst e_1
    rcases (show i_1 = 0 ∨ i_1 = 1 ∨ i_1 = 2 ∨ i_1 = 3 ∨ i_1 = 4 ∨ i_1 = 5 ∨ i_1 = 6 ∨ i_1 = 7 ∨ i_1 = 8 ∨ i_1 = 9 ∨ i_1 = 10 ∨ i_1 = 11 ∨ i_1 = 12 ∨ i_1 = 13 by omega) with rfl | rfl | rfl | rfl | rfl | rfl | rfl | rfl | rfl | rfl | rfl | rfl | rfl | rfl
    · refine ⟨71, 72, rfl, by decide, ?_⟩
      refine j_aload_n C dX6_about_72 rfl ?_
      refine j_gI (f := 385) C fF_X6_67 rfl oa dX6_about_73 ?_
      exact ret _ _ 0 0 _ _ ⟨by rw [tsel_in (by decide)]; rfl, rfl⟩ (Nat.zero_le _) (Nat.zero_le _) dX6_about_76
    · refine ⟨76, 77, rfl, by decide, ?_⟩
      refine j_aload_n C dX6_about_77 rfl ?_
      refine j_gI (f := 386) C fF_X6_70 rfl oa dX6_about_78 ?_
      exact ret _ _ 0 0 _ _ ⟨by rw [tsel_in (by decide)]; rfl, rfl⟩ (Nat.zero_le _) (Nat.zero_le _) dX6_about_81
    · refine ⟨81, 82, rfl, by decide, ?_⟩
      refine j_aload_n C dX6_about_82 rfl ?_
      refine j_gI (f := 391) C fF_X6_22 rfl oa dX6_about_83 ?_
      exact ret _ _ 0 0 _ _ ⟨by rw [tsel_in (by decide)]; rfl, rfl⟩ (Nat.zero_le _) (Nat.zero_le _) dX6_about_86
    · refine ⟨86, 87, rfl, by decide, ?_⟩
      refine j_aload_n C dX6_about_87 rfl ?_
      refine j_gI (f := 387) C fF_X6_73 rfl oa dX6_about_88 ?_
      exact ret _ _ 0 0 _ _ ⟨by rw [tsel_in (by decide)]; rfl, rfl⟩ (Nat.zero_le _) (Nat.zero_le _) dX6_about_91
    · refine ⟨91, 92, rfl, by decide, ?_⟩
      refine j_aload_n C dX6_about_92 rfl ?_
      refine j_gR (f := 388) C fF_X6_9 rfl oa dX6_about_93 ?_
      cases hq_96 : (h_R h 388 a) with
      | none =>
        refine j_ifnonnullN C dX6_about_96 ?_
        refine j_iconst (v := (-1)) C dX6_about_99 (by decide) ?_
        refine j_goto (tgt := 110) C dX6_about_100 (by decide) ?_
        exact ret _ _ 0 0 _ _ ⟨by rw [tsel_in (by decide)]; exact (oI_n hq_96).symm, rfl⟩ (Nat.zero_le _) (Nat.zero_le _) dX6_about_110
      | some x_96 =>
        refine j_ifnonnull (tgt := 103) C dX6_about_96 (by decide) ?_
        refine j_aload_n C dX6_about_103 rfl ?_
        refine j_gRe (f := 388) (v := .ref x_96) C fF_X6_9 rfl oa (by rw [hq_96]; rfl) dX6_about_104 ?_
        refine j_gI (f := 192) C fF_X6_85 rfl (o0 _ hq_96) dX6_about_107 ?_
        exact ret _ _ 0 0 _ _ ⟨by rw [tsel_in (by decide)]; exact (oI_s hq_96).symm, rfl⟩ (Nat.zero_le _) (Nat.zero_le _) dX6_about_110
    · refine ⟨110, 111, rfl, by decide, ?_⟩
      refine j_aload_n C dX6_about_111 rfl ?_
      refine j_gR (f := 389) C fF_X6_15 rfl oa dX6_about_112 ?_
      cases hq_115 : (h_R h 389 a) with
      | none =>
        refine j_ifnonnullN C dX6_about_115 ?_
        refine j_iconst (v := (-1)) C dX6_about_118 (by decide) ?_
        refine j_goto (tgt := 129) C dX6_about_119 (by decide) ?_
        exact ret _ _ 0 0 _ _ ⟨by rw [tsel_in (by decide)]; exact (oI_n hq_115).symm, rfl⟩ (Nat.zero_le _) (Nat.zero_le _) dX6_about_129
      | some x_115 =>
        refine j_ifnonnull (tgt := 122) C dX6_about_115 (by decide) ?_
        refine j_aload_n C dX6_about_122 rfl ?_
        refine j_gRe (f := 389) (v := .ref x_115) C fF_X6_15 rfl oa (by rw [hq_115]; rfl) dX6_about_123 ?_
        refine j_gI (f := 384) C fF_X6_64 rfl (o1 _ hq_115) dX6_about_126 ?_
        exact ret _ _ 0 0 _ _ ⟨by rw [tsel_in (by decide)]; exact (oI_s hq_115).symm, rfl⟩ (Nat.zero_le _) (Nat.zero_le _) dX6_about_129
    · refine ⟨129, 130, rfl, by decide, ?_⟩
      refine j_aload_n C dX6_about_130 rfl ?_
      refine j_gR (f := 390) C fF_X6_19 rfl oa dX6_about_131 ?_
      cases hq_134 : (h_R h 390 a) with
      | none =>
        refine j_ifnonnullN C dX6_about_134 ?_
        refine j_iconst (v := (-1)) C dX6_about_137 (by decide) ?_
        refine j_goto (tgt := 148) C dX6_about_138 (by decide) ?_
        exact ret _ _ 0 0 _ _ ⟨by rw [tsel_in (by decide)]; exact (oI_n hq_134).symm, rfl⟩ (Nat.zero_le _) (Nat.zero_le _) dX6_about_148
      | some x_134 =>
        refine j_ifnonnull (tgt := 141) C dX6_about_134 (by decide) ?_
        refine j_aload_n C dX6_about_141 rfl ?_
        refine j_gRe (f := 390) (v := .ref x_134) C fF_X6_19 rfl oa (by rw [hq_134]; rfl) dX6_about_142 ?_
        refine j_gI (f := 384) C fF_X6_64 rfl (o2 _ hq_134) dX6_about_145 ?_
        exact ret _ _ 0 0 _ _ ⟨by rw [tsel_in (by decide)]; exact (oI_s hq_134).symm, rfl⟩ (Nat.zero_le _) (Nat.zero_le _) dX6_about_148
    · refine ⟨148, 149, rfl, by decide, ?_⟩
      refine j_aload_n C dX6_about_149 rfl ?_
      refine j_gI (f := 392) C fF_X6_26 rfl oa dX6_about_150 ?_
      exact ret _ _ 0 0 _ _ ⟨by rw [tsel_in (by decide)]; rfl, rfl⟩ (Nat.zero_le _) (Nat.zero_le _) dX6_about_153
    · refine ⟨153, 154, rfl, by decide, ?_⟩
      refine j_aload_n C dX6_about_154 rfl ?_
      refine j_gI (f := 393) C fF_X6_29 rfl oa dX6_about_155 ?_
      exact ret _ _ 0 0 _ _ ⟨by rw [tsel_in (by decide)]; rfl, rfl⟩ (Nat.zero_le _) (Nat.zero_le _) dX6_about_158
    · refine ⟨158, 159, rfl, by decide, ?_⟩
      refine j_aload_n C dX6_about_159 rfl ?_
      refine j_gI (f := 394) C fF_X6_32 rfl oa dX6_about_160 ?_
      exact ret _ _ 0 0 _ _ ⟨by rw [tsel_in (by decide)]; rfl, rfl⟩ (Nat.zero_le _) (Nat.zero_le _) dX6_about_163
    · refine ⟨163, 164, rfl, by decide, ?_⟩
      refine j_aload_n C dX6_about_164 rfl ?_
      refine j_gI (f := 395) C fF_X6_35 rfl oa dX6_about_165 ?_
      exact ret _ _ 0 0 _ _ ⟨by rw [tsel_in (by decide)]; rfl, rfl⟩ (Nat.zero_le _) (Nat.zero_le _) dX6_about_168
    · refine ⟨168, 169, rfl, by decide, ?_⟩
      refine j_aload_n C dX6_about_169 rfl ?_
      refine j_gI (f := 396) C fF_X6_38 rfl oa dX6_about_170 ?_
      exact ret _ _ 0 0 _ _ ⟨by rw [tsel_in (by decide)]; rfl, rfl⟩ (Nat.zero_le _) (Nat.zero_le _) dX6_about_173
    · refine ⟨173, 174, rfl, by decide, ?_⟩
      refine j_aload_n C dX6_about_174 rfl ?_
      refine j_callVi (As := []) (rest := []) C fG_X6_88 (k_lookCount oa ol) oa rfl rfl (Nat.le_of_ble_eq_true rfl) ⟨Nat.le_of_ble_eq_true rfl, Nat.le_of_ble_eq_true rfl⟩ ⟨Nat.le_of_ble_eq_true rfl, Nat.le_of_ble_eq_true rfl⟩ dX6_about_175 (fun r_175 h_175 e_175 => ?_)
      obtain ⟨e1_175, e2_175⟩ := e_175
      subst e1_175
      replace e2_175 := e2_175.symm
      subst e2_175
      exact ret _ _ 0 0 _ _ ⟨by rw [tsel_in (by decide)]; rfl, rfl⟩ (Nat.zero_le _) (Nat.zero_le _) dX6_about_178
    · refine ⟨178, 179, rfl, by decide, ?_⟩
      refine j_aload_n C dX6_about_179 rfl ?_
      refine j_gI (f := 398) C fF_X6_45 rfl oa dX6_about_180 ?_
      exact ret _ _ 0 0 _ _ ⟨by rw [tsel_in (by decide)]; rfl, rfl⟩ (Nat.zero_le _) (Nat.zero_le _) dX6_about_183
  · refine j_iconst (v := (-1)) C dX6_about_184 (by decide) ?_
    exact ret _ _ 0 0 _ _ ⟨(tsel_out c_1 _ _).symm, rfl⟩ (Nat.zero_le _) (Nat.zero_le _) dX6_about_185
theorem vp_ge {x : Int32} {n : Nat} (h : n ≤ x.toNatClampNeg) (h0 : ¬ x < 0) (hn : n < 2 ^ 31 := by decide) : nI n ≤ x := by
  obtain ⟨j, hj, rfl⟩ := nI_of h0
  rw [nI_clamp hj] at h
  exact nI_le h hj
set_option maxHeartbeats 4000000 in
set_option maxRecDepth 100000 in
theorem k_fieldAt {l : Launch} {D : va_G} {cy : Nat → ClassId} {h : jH} {a : Nat} (oa : h_ok h a 2) {b : Nat} (hb : h_R h 129 a = some b) (ob : h_ok h b 14) (hn : h_N h b = 40) (x : Int32) : cQ l D cy yX2_fieldAt (.code yX2_fieldAt cX2_fieldAt 2 ((Option.some (FieldType.object "CleanSeed$Field")))) 0 [.ref a, .int x] h (fun r => r = if ¬ x < 0 ∧ ¬ h_I h 130 a ≤ x ∧ ¬ 40 ≤ x then h_B h b x.toNatClampNeg else none) := by
  refine j_ofQ (by decide) (Nat.le_of_ble_eq_true rfl) (fun p e s m args below meth c Q C hin ret => ?_)
  refine j_iload_n C dX2_fieldAt_0 rfl ?_
  refine j_if_lt (tgt := 30) C dX2_fieldAt_1 (by decide) (fun c_1 => ?_) (fun c_1 => ?_)
  · refine j_null C dX2_fieldAt_30 ?_
    exact ret none _ 0 0 _ _ ⟨(if_neg (fun q => q.1 c_1)).symm, rfl⟩ (Nat.zero_le _) (Nat.zero_le _) dX2_fieldAt_31
  · refine j_iload_n C dX2_fieldAt_4 rfl ?_
    refine j_aload_n C dX2_fieldAt_5 rfl ?_
    refine j_gI (f := 130) C fF_X2_21 rfl oa dX2_fieldAt_6 ?_
    refine j_icmp_ge (tgt := 30) C dX2_fieldAt_9 (by decide) (fun c_9 => ?_) (fun c_9 => ?_)
    · refine j_null C dX2_fieldAt_30 ?_
      exact ret none _ 0 0 _ _ ⟨(if_neg (fun q => q.2.1 c_9)).symm, rfl⟩ (Nat.zero_le _) (Nat.zero_le _) dX2_fieldAt_31
    · refine j_iload_n C dX2_fieldAt_12 rfl ?_
      refine j_aload_n C dX2_fieldAt_13 rfl ?_
      refine j_gRe (f := 129) (v := .ref b) C fF_X2_17 rfl oa (by rw [hb]; rfl) dX2_fieldAt_14 ?_
      refine j_alen (k := 14) (v := 40) C ob ⟨by decide, rfl⟩ (by rw [hn]; rfl) dX2_fieldAt_17 ?_
      refine j_icmp_ge (tgt := 30) C dX2_fieldAt_18 (by decide) (fun c_18 => ?_) (fun c_18 => ?_)
      · refine j_null C dX2_fieldAt_30 ?_
        exact ret none _ 0 0 _ _ ⟨(if_neg (fun q => q.2.2 c_18)).symm, rfl⟩ (Nat.zero_le _) (Nat.zero_le _) dX2_fieldAt_31
      · refine j_aload_n C dX2_fieldAt_21 rfl ?_
        refine j_gRe (f := 129) (v := .ref b) C fF_X2_17 rfl oa (by rw [hb]; rfl) dX2_fieldAt_22 ?_
        refine j_iload_n C dX2_fieldAt_25 rfl ?_
        refine j_aald (k := 14) C ob (by decide) rfl (by rw [hn]; exact fun q => q.elim c_1 (fun q2 => c_18 (vp_ge q2 c_1))) rfl dX2_fieldAt_26 ?_
        refine j_goto (tgt := 31) C dX2_fieldAt_27 (by decide) ?_
        exact ret (h_B h b (x).toNatClampNeg) _ 0 0 _ _ ⟨(if_pos ⟨c_1, c_9, c_18⟩).symm, rfl⟩ (Nat.zero_le _) (Nat.zero_le _) dX2_fieldAt_31
set_option maxHeartbeats 4000000 in
set_option maxRecDepth 100000 in
theorem k_lotAt {l : Launch} {D : va_G} {cy : Nat → ClassId} {h : jH} {a : Nat} (oa : h_ok h a 2) {b : Nat} (hb : h_R h 131 a = some b) (ob : h_ok h b 15) (hn : h_N h b = 200) (x : Int32) : cQ l D cy yX2_lotAt (.code yX2_lotAt cX2_lotAt 2 ((Option.some (FieldType.object "CleanSeed$Lot")))) 0 [.ref a, .int x] h (fun r => r = if ¬ x < 0 ∧ ¬ h_I h 132 a ≤ x ∧ ¬ 200 ≤ x then h_B h b x.toNatClampNeg else none) := by
  refine j_ofQ (by decide) (Nat.le_of_ble_eq_true rfl) (fun p e s m args below meth c Q C hin ret => ?_)
  refine j_iload_n C dX2_lotAt_0 rfl ?_
  refine j_if_lt (tgt := 30) C dX2_lotAt_1 (by decide) (fun c_1 => ?_) (fun c_1 => ?_)
  · refine j_null C dX2_lotAt_30 ?_
    exact ret none _ 0 0 _ _ ⟨(if_neg (fun q => q.1 c_1)).symm, rfl⟩ (Nat.zero_le _) (Nat.zero_le _) dX2_lotAt_31
  · refine j_iload_n C dX2_lotAt_4 rfl ?_
    refine j_aload_n C dX2_lotAt_5 rfl ?_
    refine j_gI (f := 132) C fF_X2_30 rfl oa dX2_lotAt_6 ?_
    refine j_icmp_ge (tgt := 30) C dX2_lotAt_9 (by decide) (fun c_9 => ?_) (fun c_9 => ?_)
    · refine j_null C dX2_lotAt_30 ?_
      exact ret none _ 0 0 _ _ ⟨(if_neg (fun q => q.2.1 c_9)).symm, rfl⟩ (Nat.zero_le _) (Nat.zero_le _) dX2_lotAt_31
    · refine j_iload_n C dX2_lotAt_12 rfl ?_
      refine j_aload_n C dX2_lotAt_13 rfl ?_
      refine j_gRe (f := 131) (v := .ref b) C fF_X2_26 rfl oa (by rw [hb]; rfl) dX2_lotAt_14 ?_
      refine j_alen (k := 15) (v := 200) C ob ⟨by decide, rfl⟩ (by rw [hn]; rfl) dX2_lotAt_17 ?_
      refine j_icmp_ge (tgt := 30) C dX2_lotAt_18 (by decide) (fun c_18 => ?_) (fun c_18 => ?_)
      · refine j_null C dX2_lotAt_30 ?_
        exact ret none _ 0 0 _ _ ⟨(if_neg (fun q => q.2.2 c_18)).symm, rfl⟩ (Nat.zero_le _) (Nat.zero_le _) dX2_lotAt_31
      · refine j_aload_n C dX2_lotAt_21 rfl ?_
        refine j_gRe (f := 131) (v := .ref b) C fF_X2_26 rfl oa (by rw [hb]; rfl) dX2_lotAt_22 ?_
        refine j_iload_n C dX2_lotAt_25 rfl ?_
        refine j_aald (k := 15) C ob (by decide) rfl (by rw [hn]; exact fun q => q.elim c_1 (fun q2 => c_18 (vp_ge q2 c_1))) rfl dX2_lotAt_26 ?_
        refine j_goto (tgt := 31) C dX2_lotAt_27 (by decide) ?_
        exact ret (h_B h b (x).toNatClampNeg) _ 0 0 _ _ ⟨(if_pos ⟨c_1, c_9, c_18⟩).symm, rfl⟩ (Nat.zero_le _) (Nat.zero_le _) dX2_lotAt_31
set_option maxHeartbeats 4000000 in
set_option maxRecDepth 100000 in
theorem k_bagAt {l : Launch} {D : va_G} {cy : Nat → ClassId} {h : jH} {a : Nat} (oa : h_ok h a 2) {b : Nat} (hb : h_R h 133 a = some b) (ob : h_ok h b 13) (hn : h_N h b = 200) (x : Int32) : cQ l D cy yX2_bagAt (.code yX2_bagAt cX2_bagAt 2 ((Option.some (FieldType.object "CleanSeed$Bag")))) 0 [.ref a, .int x] h (fun r => r = if ¬ x < 0 ∧ ¬ h_I h 134 a ≤ x ∧ ¬ 200 ≤ x then h_B h b x.toNatClampNeg else none) := by
  refine j_ofQ (by decide) (Nat.le_of_ble_eq_true rfl) (fun p e s m args below meth c Q C hin ret => ?_)
  refine j_iload_n C dX2_bagAt_0 rfl ?_
  refine j_if_lt (tgt := 30) C dX2_bagAt_1 (by decide) (fun c_1 => ?_) (fun c_1 => ?_)
  · refine j_null C dX2_bagAt_30 ?_
    exact ret none _ 0 0 _ _ ⟨(if_neg (fun q => q.1 c_1)).symm, rfl⟩ (Nat.zero_le _) (Nat.zero_le _) dX2_bagAt_31
  · refine j_iload_n C dX2_bagAt_4 rfl ?_
    refine j_aload_n C dX2_bagAt_5 rfl ?_
    refine j_gI (f := 134) C fF_X2_39 rfl oa dX2_bagAt_6 ?_
    refine j_icmp_ge (tgt := 30) C dX2_bagAt_9 (by decide) (fun c_9 => ?_) (fun c_9 => ?_)
    · refine j_null C dX2_bagAt_30 ?_
      exact ret none _ 0 0 _ _ ⟨(if_neg (fun q => q.2.1 c_9)).symm, rfl⟩ (Nat.zero_le _) (Nat.zero_le _) dX2_bagAt_31
    · refine j_iload_n C dX2_bagAt_12 rfl ?_
      refine j_aload_n C dX2_bagAt_13 rfl ?_
      refine j_gRe (f := 133) (v := .ref b) C fF_X2_35 rfl oa (by rw [hb]; rfl) dX2_bagAt_14 ?_
      refine j_alen (k := 13) (v := 200) C ob ⟨by decide, rfl⟩ (by rw [hn]; rfl) dX2_bagAt_17 ?_
      refine j_icmp_ge (tgt := 30) C dX2_bagAt_18 (by decide) (fun c_18 => ?_) (fun c_18 => ?_)
      · refine j_null C dX2_bagAt_30 ?_
        exact ret none _ 0 0 _ _ ⟨(if_neg (fun q => q.2.2 c_18)).symm, rfl⟩ (Nat.zero_le _) (Nat.zero_le _) dX2_bagAt_31
      · refine j_aload_n C dX2_bagAt_21 rfl ?_
        refine j_gRe (f := 133) (v := .ref b) C fF_X2_35 rfl oa (by rw [hb]; rfl) dX2_bagAt_22 ?_
        refine j_iload_n C dX2_bagAt_25 rfl ?_
        refine j_aald (k := 13) C ob (by decide) rfl (by rw [hn]; exact fun q => q.elim c_1 (fun q2 => c_18 (vp_ge q2 c_1))) rfl dX2_bagAt_26 ?_
        refine j_goto (tgt := 31) C dX2_bagAt_27 (by decide) ?_
        exact ret (h_B h b (x).toNatClampNeg) _ 0 0 _ _ ⟨(if_pos ⟨c_1, c_9, c_18⟩).symm, rfl⟩ (Nat.zero_le _) (Nat.zero_le _) dX2_bagAt_31
set_option maxHeartbeats 4000000 in
set_option maxRecDepth 100000 in
theorem k_nextSeal {l : Launch} {D : va_G} {cy : Nat → ClassId} {h : jH} {a : Nat} (oa : h_ok h a 2) : jI l D cy yX2_nextSeal (.code yX2_nextSeal cX2_nextSeal 1 ((Option.some FieldType.int))) (rmd 0 0 0) [.ref a] h (fun r h' => r = h_I h 135 a + 1 ∧ h' = s_I h 135 a (h_I h 135 a + 1)) := by
  refine j_ofI (by decide) (Nat.le_of_ble_eq_true rfl) (fun p e s m args below meth c Q C hin ret => ?_)
  refine j_aload_n C dX2_nextSeal_0 rfl ?_
  refine j_dup C dX2_nextSeal_1 rfl ?_
  refine j_gI (f := 135) C fF_X2_42 rfl oa dX2_nextSeal_2 ?_
  refine j_iconst (v := 1) C dX2_nextSeal_5 (by decide) ?_
  refine j_iadd C dX2_nextSeal_6 ?_
  refine j_pI (f := 135) C fP_X2_42 rfl oa rfl rfl dX2_nextSeal_7 ?_
  refine j_aload_n C dX2_nextSeal_10 rfl ?_
  refine j_gI (f := 135) C fF_X2_42 rfl oa dX2_nextSeal_11 ?_
  exact ret _ _ 0 0 _ _ ⟨by rw [g_II, if_pos rfl, if_pos rfl], rfl⟩ (Nat.zero_le _) (Nat.zero_le _) dX2_nextSeal_14
