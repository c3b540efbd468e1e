theorem okI {h : jH} {f b a k : Nat} {v : Int32} (o : h_ok h a k) : h_ok (s_I h f b v) a k := o
theorem okR {h : jH} {f b a k : Nat} {v : Option Nat} (o : h_ok h a k) : h_ok (s_R h f b v) a k := o
theorem okA {h : jH} {f b a k : Nat} {v : Int32} (o : h_ok h a k) : h_ok (s_A h f b v) a k := o
theorem okB {h : jH} {f b a k : Nat} {v : Option Nat} (o : h_ok h a k) : h_ok (s_B h f b v) a k := o
def hT_ (h : jH) (a : Nat) (b : Option Nat) (t cr : Int32) : jH := (s_I (s_I (s_R h 576 a b) 577 a t) 578 a cr)
set_option maxHeartbeats 4000000 in
set_option maxRecDepth 100000 in
theorem k_Tinit {l : Launch} {D : va_G} {cy : Nat → ClassId} {h : jH} {a : Nat} (oa : h_ok h a 9) (b : Option Nat) (t cr : Int32) : jV l D cy yX9_init (.code yX9_init cX9_init 4 ((Option.none : Option FieldType))) (rmd 1 0 0) [.ref a, va_rf b, .int t, .int cr] h (fun h' => h' = hT_ h a b t cr) := by
  cases b with
  | none =>
    refine j_ofV (by decide) (Nat.le_of_ble_eq_true rfl) (fun p e s m args below meth c Q C hin ret => ?_)
    refine j_aload_n C dX9_init_0 rfl ?_
    refine j_objInit C kM_X9_1 dX9_init_1 (Nat.le_of_ble_eq_true rfl) (Nat.le_of_ble_eq_true rfl) ?_
    refine j_aload_n C dX9_init_4 rfl ?_
    refine j_aload_nN C dX9_init_5 rfl ?_
    refine j_pFR (f := 576) (v := none) C hin fP_X9_7 rfl oa rfl rfl rfl dX9_init_6 ?_
    refine j_aload_n C dX9_init_9 rfl ?_
    refine j_iload_n C dX9_init_10 rfl ?_
    refine j_pFI (f := 577) C hin fP_X9_13 rfl (okR oa) rfl rfl dX9_init_11 ?_
    refine j_aload_n C dX9_init_14 rfl ?_
    refine j_iload_n C dX9_init_15 rfl ?_
    refine j_pFI (f := 578) C hin fP_X9_17 rfl (okI (okR oa)) rfl rfl dX9_init_16 ?_
    exact ret _ 0 0 _ _ rfl (Nat.zero_le _) (Nat.zero_le _) dX9_init_19
  | some b =>
    refine j_ofV (by decide) (Nat.le_of_ble_eq_true rfl) (fun p e s m args below meth c Q C hin ret => ?_)
    refine j_aload_n C dX9_init_0 rfl ?_
    refine j_objInit C kM_X9_1 dX9_init_1 (Nat.le_of_ble_eq_true rfl) (Nat.le_of_ble_eq_true rfl) ?_
    refine j_aload_n C dX9_init_4 rfl ?_
    refine j_aload_n C dX9_init_5 rfl ?_
    refine j_pFR (f := 576) (v := (some b)) C hin fP_X9_7 rfl oa rfl rfl rfl dX9_init_6 ?_
    refine j_aload_n C dX9_init_9 rfl ?_
    refine j_iload_n C dX9_init_10 rfl ?_
    refine j_pFI (f := 577) C hin fP_X9_13 rfl (okR oa) rfl rfl dX9_init_11 ?_
    refine j_aload_n C dX9_init_14 rfl ?_
    refine j_iload_n C dX9_init_15 rfl ?_
    refine j_pFI (f := 578) C hin fP_X9_17 rfl (okI (okR oa)) rfl rfl dX9_init_16 ?_
    exact ret _ 0 0 _ _ rfl (Nat.zero_le _) (Nat.zero_le _) dX9_init_19
def hS_ (h : jH) (a : Nat) (b : Option Nat) (t f v : Int32) : jH := (s_I (s_I (s_I (s_R h 512 a b) 513 a t) 514 a f) 515 a v)
set_option maxHeartbeats 4000000 in
set_option maxRecDepth 100000 in
theorem k_Sinit {l : Launch} {D : va_G} {cy : Nat → ClassId} {h : jH} {a : Nat} (oa : h_ok h a 8) (b : Option Nat) (t f v : Int32) : jV l D cy yX8_init (.code yX8_init cX8_init 5 ((Option.none : Option FieldType))) (rmd 1 0 0) [.ref a, va_rf b, .int t, .int f, .int v] h (fun h' => h' = hS_ h a b t f v) := by
  cases b with
  | none =>
    refine j_ofV (by decide) (Nat.le_of_ble_eq_true rfl) (fun p e s m args below meth c Q C hin ret => ?_)
    refine j_aload_n C dX8_init_0 rfl ?_
    refine j_objInit C kM_X8_1 dX8_init_1 (Nat.le_of_ble_eq_true rfl) (Nat.le_of_ble_eq_true rfl) ?_
    refine j_aload_n C dX8_init_4 rfl ?_
    refine j_aload_nN C dX8_init_5 rfl ?_
    refine j_pFR (f := 512) (v := none) C hin fP_X8_7 rfl oa rfl rfl rfl dX8_init_6 ?_
    refine j_aload_n C dX8_init_9 rfl ?_
    refine j_iload_n C dX8_init_10 rfl ?_
    refine j_pFI (f := 513) C hin fP_X8_13 rfl (okR oa) rfl rfl dX8_init_11 ?_
    refine j_aload_n C dX8_init_14 rfl ?_
    refine j_iload_n C dX8_init_15 rfl ?_
    refine j_pFI (f := 514) C hin fP_X8_17 rfl (okI (okR oa)) rfl rfl dX8_init_16 ?_
    refine j_aload_n C dX8_init_19 rfl ?_
    refine j_iload C dX8_init_20 rfl ?_
    refine j_pFI (f := 515) C hin fP_X8_20 rfl (okI (okI (okR oa))) rfl rfl dX8_init_22 ?_
    exact ret _ 0 0 _ _ rfl (Nat.zero_le _) (Nat.zero_le _) dX8_init_25
  | some b =>
    refine j_ofV (by decide) (Nat.le_of_ble_eq_true rfl) (fun p e s m args below meth c Q C hin ret => ?_)
    refine j_aload_n C dX8_init_0 rfl ?_
    refine j_objInit C kM_X8_1 dX8_init_1 (Nat.le_of_ble_eq_true rfl) (Nat.le_of_ble_eq_true rfl) ?_
    refine j_aload_n C dX8_init_4 rfl ?_
    refine j_aload_n C dX8_init_5 rfl ?_
    refine j_pFR (f := 512) (v := (some b)) C hin fP_X8_7 rfl oa rfl rfl rfl dX8_init_6 ?_
    refine j_aload_n C dX8_init_9 rfl ?_
    refine j_iload_n C dX8_init_10 rfl ?_
    refine j_pFI (f := 513) C hin fP_X8_13 rfl (okR oa) rfl rfl dX8_init_11 ?_
    refine j_aload_n C dX8_init_14 rfl ?_
    refine j_iload_n C dX8_init_15 rfl ?_
    refine j_pFI (f := 514) C hin fP_X8_17 rfl (okI (okR oa)) rfl rfl dX8_init_16 ?_
    refine j_aload_n C dX8_init_19 rfl ?_
    refine j_iload C dX8_init_20 rfl ?_
    refine j_pFI (f := 515) C hin fP_X8_20 rfl (okI (okI (okR oa))) rfl rfl dX8_init_22 ?_
    exact ret _ 0 0 _ _ rfl (Nat.zero_le _) (Nat.zero_le _) dX8_init_25
def hB_ (h : jH) (a b : Nat) (g s : Int32) : jH := (s_I (s_I (s_R (s_I h 67 a (-1)) 64 a (some b)) 65 a g) 66 a s)
set_option maxHeartbeats 4000000 in
set_option maxRecDepth 100000 in
theorem k_Binit {l : Launch} {D : va_G} {cy : Nat → ClassId} {h : jH} {a : Nat} (oa : h_ok h a 1) (b : Nat) (g s : Int32) : jV l D cy yX1_init (.code yX1_init cX1_init 4 ((Option.none : Option FieldType))) (rmd 1 0 0) [.ref a, .ref b, .int g, .int s] h (fun h' => h' = hB_ h a b g s) := by
  refine j_ofV (by decide) (Nat.le_of_ble_eq_true rfl) (fun p e s m args below meth c Q C hin ret => ?_)
  refine j_aload_n C dX1_init_0 rfl ?_
  refine j_objInit C kM_X1_3 dX1_init_1 (Nat.le_of_ble_eq_true rfl) (Nat.le_of_ble_eq_true rfl) ?_
  refine j_aload_n C dX1_init_4 rfl ?_
  refine j_iconst (v := (-1)) C dX1_init_5 (by decide) ?_
  refine j_pI (f := 67) C fP_X1_9 rfl oa rfl rfl dX1_init_6 ?_
  refine j_aload_n C dX1_init_9 rfl ?_
  refine j_aload_n C dX1_init_10 rfl ?_
  refine j_pFR (f := 64) (v := (some b)) C hin fP_X1_15 rfl (okI oa) rfl rfl rfl dX1_init_11 ?_
  refine j_aload_n C dX1_init_14 rfl ?_
  refine j_iload_n C dX1_init_15 rfl ?_
  refine j_pFI (f := 65) C hin fP_X1_19 rfl (okR (okI oa)) rfl rfl dX1_init_16 ?_
  refine j_aload_n C dX1_init_19 rfl ?_
  refine j_iload_n C dX1_init_20 rfl ?_
  refine j_pI (f := 66) C fP_X1_22 rfl (okI (okR (okI oa))) rfl rfl dX1_init_21 ?_
  exact ret _ 0 0 _ _ rfl (Nat.zero_le _) (Nat.zero_le _) dX1_init_24
def hL_ (h : jH) (a : Nat) (nu so cr yr : Int32) : jH := (s_I (s_I (s_I (s_I (s_I (s_I (s_I (s_I (s_I (s_I (s_R (s_I (s_I (s_I (s_I (s_I (s_I (s_R (s_R (s_R h 388 a none) 389 a none) 390 a none) 391 a 0) 392 a (-1)) 393 a 0) 394 a 0) 395 a 0) 396 a 0) 397 a none) 398 a (-1)) 399 a 0) 400 a 0) 401 a 0) 402 a 0) 403 a 0) 384 a nu) 385 a so) 386 a cr) 387 a yr)
set_option maxHeartbeats 4000000 in
set_option maxRecDepth 100000 in
theorem k_Linit {l : Launch} {D : va_G} {cy : Nat → ClassId} {h : jH} {a : Nat} (oa : h_ok h a 6) (nu so cr yr : Int32) : jV l D cy yX6_init (.code yX6_init cX6_init 5 ((Option.none : Option FieldType))) (rmd 1 0 0) [.ref a, .int nu, .int so, .int cr, .int yr] h (fun h' => h' = hL_ h a nu so cr yr) := by
  refine j_ofV (by decide) (Nat.le_of_ble_eq_true rfl) (fun p e s m args below meth c Q C hin ret => ?_)
  refine j_aload_n C dX6_init_0 rfl ?_
  refine j_objInit C kM_X6_3 dX6_init_1 (Nat.le_of_ble_eq_true rfl) (Nat.le_of_ble_eq_true rfl) ?_
  refine j_aload_n C dX6_init_4 rfl ?_
  refine j_null C dX6_init_5 ?_
  refine j_pR (f := 388) (v := none) C fP_X6_9 rfl oa rfl rfl rfl dX6_init_6 ?_
  refine j_aload_n C dX6_init_9 rfl ?_
  refine j_null C dX6_init_10 ?_
  refine j_pR (f := 389) (v := none) C fP_X6_15 rfl (okR oa) rfl rfl rfl dX6_init_11 ?_
  refine j_aload_n C dX6_init_14 rfl ?_
  refine j_null C dX6_init_15 ?_
  refine j_pR (f := 390) (v := none) C fP_X6_19 rfl (okR (okR oa)) rfl rfl rfl dX6_init_16 ?_
  refine j_aload_n C dX6_init_19 rfl ?_
  refine j_iconst (v := 0) C dX6_init_20 (by decide) ?_
  refine j_pI (f := 391) C fP_X6_22 rfl (okR (okR (okR oa))) rfl rfl dX6_init_21 ?_
  refine j_aload_n C dX6_init_24 rfl ?_
  refine j_iconst (v := (-1)) C dX6_init_25 (by decide) ?_
  refine j_pI (f := 392) C fP_X6_26 rfl (okI (okR (okR (okR oa)))) rfl rfl dX6_init_26 ?_
  refine j_aload_n C dX6_init_29 rfl ?_
  refine j_iconst (v := 0) C dX6_init_30 (by decide) ?_
  refine j_pI (f := 393) C fP_X6_29 rfl (okI (okI (okR (okR (okR oa))))) rfl rfl dX6_init_31 ?_
  refine j_aload_n C dX6_init_34 rfl ?_
  refine j_iconst (v := 0) C dX6_init_35 (by decide) ?_
  refine j_pI (f := 394) C fP_X6_32 rfl (okI (okI (okI (okR (okR (okR oa)))))) rfl rfl dX6_init_36 ?_
  refine j_aload_n C dX6_init_39 rfl ?_
  refine j_iconst (v := 0) C dX6_init_40 (by decide) ?_
  refine j_pI (f := 395) C fP_X6_35 rfl (okI (okI (okI (okI (okR (okR (okR oa))))))) rfl rfl dX6_init_41 ?_
  refine j_aload_n C dX6_init_44 rfl ?_
  refine j_iconst (v := 0) C dX6_init_45 (by decide) ?_
  refine j_pI (f := 396) C fP_X6_38 rfl (okI (okI (okI (okI (okI (okR (okR (okR oa)))))))) rfl rfl dX6_init_46 ?_
  refine j_aload_n C dX6_init_49 rfl ?_
  refine j_null C dX6_init_50 ?_
  refine j_pR (f := 397) (v := none) C fP_X6_41 rfl (okI (okI (okI (okI (okI (okI (okR (okR (okR oa))))))))) rfl rfl rfl dX6_init_51 ?_
  refine j_aload_n C dX6_init_54 rfl ?_
  refine j_iconst (v := (-1)) C dX6_init_55 (by decide) ?_
  refine j_pI (f := 398) C fP_X6_45 rfl (okR (okI (okI (okI (okI (okI (okI (okR (okR (okR oa)))))))))) rfl rfl dX6_init_56 ?_
  refine j_aload_n C dX6_init_59 rfl ?_
  refine j_iconst (v := 0) C dX6_init_60 (by decide) ?_
  refine j_pI (f := 399) C fP_X6_48 rfl (okI (okR (okI (okI (okI (okI (okI (okI (okR (okR (okR oa))))))))))) rfl rfl dX6_init_61 ?_
  refine j_aload_n C dX6_init_64 rfl ?_
  refine j_iconst (v := 0) C dX6_init_65 (by decide) ?_
  refine j_pI (f := 400) C fP_X6_51 rfl (okI (okI (okR (okI (okI (okI (okI (okI (okI (okR (okR (okR oa)))))))))))) rfl rfl dX6_init_66 ?_
  refine j_aload_n C dX6_init_69 rfl ?_
  refine j_iconst (v := 0) C dX6_init_70 (by decide) ?_
  refine j_pI (f := 401) C fP_X6_54 rfl (okI (okI (okI (okR (okI (okI (okI (okI (okI (okI (okR (okR (okR oa))))))))))))) rfl rfl dX6_init_71 ?_
  refine j_aload_n C dX6_init_74 rfl ?_
  refine j_iconst (v := 0) C dX6_init_75 (by decide) ?_
  refine j_pI (f := 402) C fP_X6_57 rfl (okI (okI (okI (okI (okR (okI (okI (okI (okI (okI (okI (okR (okR (okR oa)))))))))))))) rfl rfl dX6_init_76 ?_
  refine j_aload_n C dX6_init_79 rfl ?_
  refine j_iconst (v := 0) C dX6_init_80 (by decide) ?_
  refine j_pI (f := 403) C fP_X6_61 rfl (okI (okI (okI (okI (okI (okR (okI (okI (okI (okI (okI (okI (okR (okR (okR oa))))))))))))))) rfl rfl dX6_init_81 ?_
  refine j_aload_n C dX6_init_84 rfl ?_
  refine j_iload_n C dX6_init_85 rfl ?_
  refine j_pFI (f := 384) C hin fP_X6_64 rfl (okI (okI (okI (okI (okI (okI (okR (okI (okI (okI (okI (okI (okI (okR (okR (okR oa)))))))))))))))) rfl rfl dX6_init_86 ?_
  refine j_aload_n C dX6_init_89 rfl ?_
  refine j_iload_n C dX6_init_90 rfl ?_
  refine j_pFI (f := 385) C hin fP_X6_67 rfl (okI (okI (okI (okI (okI (okI (okI (okR (okI (okI (okI (okI (okI (okI (okR (okR (okR oa))))))))))))))))) rfl rfl dX6_init_91 ?_
  refine j_aload_n C dX6_init_94 rfl ?_
  refine j_iload_n C dX6_init_95 rfl ?_
  refine j_pFI (f := 386) C hin fP_X6_70 rfl (okI (okI (okI (okI (okI (okI (okI (okI (okR (okI (okI (okI (okI (okI (okI (okR (okR (okR oa)))))))))))))))))) rfl rfl dX6_init_96 ?_
  refine j_aload_n C dX6_init_99 rfl ?_
  refine j_iload C dX6_init_100 rfl ?_
  refine j_pFI (f := 387) C hin fP_X6_73 rfl (okI (okI (okI (okI (okI (okI (okI (okI (okI (okR (okI (okI (okI (okI (okI (okI (okR (okR (okR oa))))))))))))))))))) rfl rfl dX6_init_102 ?_
  exact ret _ 0 0 _ _ rfl (Nat.zero_le _) (Nat.zero_le _) dX6_init_105
def hX0_ (h : jH) (a b : Nat) : jH := (s_R h 0 a (some b))
set_option maxHeartbeats 4000000 in
set_option maxRecDepth 100000 in
theorem k_X0init {l : Launch} {D : va_G} {cy : Nat → ClassId} {h : jH} {a : Nat} (oa : h_ok h a 0) (b : Nat) : jV l D cy yX0_init (.code yX0_init cX0_init 2 ((Option.none : Option FieldType))) (rmd 1 0 0) [.ref a, .ref b] h (fun h' => h' = hX0_ h a b) := by
  refine j_ofV (by decide) (Nat.le_of_ble_eq_true rfl) (fun p e s m args below meth c Q C hin ret => ?_)
  refine j_aload_n C dX0_init_0 rfl ?_
  refine j_objInit C kM_X0_3 dX0_init_1 (Nat.le_of_ble_eq_true rfl) (Nat.le_of_ble_eq_true rfl) ?_
  refine j_aload_n C dX0_init_4 rfl ?_
  refine j_aload_n C dX0_init_5 rfl ?_
  refine j_pFR (f := 0) (v := (some b)) C hin fP_X0_9 rfl oa rfl rfl rfl dX0_init_6 ?_
  exact ret _ 0 0 _ _ rfl (Nat.zero_le _) (Nat.zero_le _) dX0_init_9
def hX4_ (h : jH) (a b : Nat) : jH := (s_R h 256 a (some b))
set_option maxHeartbeats 4000000 in
set_option maxRecDepth 100000 in
theorem k_X4init {l : Launch} {D : va_G} {cy : Nat → ClassId} {h : jH} {a : Nat} (oa : h_ok h a 4) (b : Nat) : jV l D cy yX4_init (.code yX4_init cX4_init 2 ((Option.none : Option FieldType))) (rmd 1 0 0) [.ref a, .ref b] h (fun h' => h' = hX4_ h a b) := by
  refine j_ofV (by decide) (Nat.le_of_ble_eq_true rfl) (fun p e s m args below meth c Q C hin ret => ?_)
  refine j_aload_n C dX4_init_0 rfl ?_
  refine j_objInit C kM_X4_3 dX4_init_1 (Nat.le_of_ble_eq_true rfl) (Nat.le_of_ble_eq_true rfl) ?_
  refine j_aload_n C dX4_init_4 rfl ?_
  refine j_aload_n C dX4_init_5 rfl ?_
  refine j_pFR (f := 256) (v := (some b)) C hin fP_X4_9 rfl oa rfl rfl rfl dX4_init_6 ?_
  exact ret _ 0 0 _ _ rfl (Nat.zero_le _) (Nat.zero_le _) dX4_init_9
def sqT (h : jH) (a b : Nat) : Int32 := mx 0 (mx (h_I h 193 b - h_I h 194 a) (h_I h 193 a - h_I h 194 b)) * mx 0 (mx (h_I h 193 b - h_I h 194 a) (h_I h 193 a - h_I h 194 b)) + mx 0 (mx (h_I h 195 b - h_I h 196 a) (h_I h 195 a - h_I h 196 b)) * mx 0 (mx (h_I h 195 b - h_I h 196 a) (h_I h 195 a - h_I h 196 b))
set_option maxHeartbeats 4000000 in
set_option maxRecDepth 100000 in
theorem k_squareTo {l : Launch} {D : va_G} {cy : Nat → ClassId} {h : jH} {a b : Nat} (oa : h_ok h a 3) (ob : h_ok h b 3) : cI l D cy yX3_squareTo (.code yX3_squareTo cX3_squareTo 4 ((Option.some FieldType.int))) 1 [.ref a, .ref b] h (fun r => r = sqT h a b) := by
  refine j_ofI (by decide) (Nat.le_of_ble_eq_true rfl) (fun p e s m args below meth c Q C hin ret => ?_)
  refine j_iconst (v := 0) C dX3_squareTo_0 (by decide) ?_
  refine j_aload_n C dX3_squareTo_1 rfl ?_
  refine j_gI (f := 193) C fF_X3_33 rfl ob dX3_squareTo_2 ?_
  refine j_aload_n C dX3_squareTo_5 rfl ?_
  refine j_gI (f := 194) C fF_X3_39 rfl oa dX3_squareTo_6 ?_
  refine j_isub C dX3_squareTo_9 ?_
  refine j_aload_n C dX3_squareTo_10 rfl ?_
  refine j_gI (f := 193) C fF_X3_33 rfl oa dX3_squareTo_11 ?_
  refine j_aload_n C dX3_squareTo_14 rfl ?_
  refine j_gI (f := 194) C fF_X3_39 rfl ob dX3_squareTo_15 ?_
  refine j_isub C dX3_squareTo_18 ?_
  refine j_max C kM_X3_36 dX3_squareTo_19 (Nat.le_of_ble_eq_true rfl) (Nat.le_of_ble_eq_true rfl) (Nat.le_of_ble_eq_true rfl) (Nat.le_of_ble_eq_true rfl) ?_
  refine j_max C kM_X3_36 dX3_squareTo_22 (Nat.le_of_ble_eq_true rfl) (Nat.le_of_ble_eq_true rfl) (Nat.le_of_ble_eq_true rfl) (Nat.le_of_ble_eq_true rfl) ?_
  refine j_istore_n (lv' := [(0, .ref a), (1, .ref b), (2, .int (if 0 < (if ((h_I h 193 b) - (h_I h 194 a)) < ((h_I h 193 a) - (h_I h 194 b)) then ((h_I h 193 a) - (h_I h 194 b)) else ((h_I h 193 b) - (h_I h 194 a))) then (if ((h_I h 193 b) - (h_I h 194 a)) < ((h_I h 193 a) - (h_I h 194 b)) then ((h_I h 193 a) - (h_I h 194 b)) else ((h_I h 193 b) - (h_I h 194 a))) else 0))]) C dX3_squareTo_25 (by decide) rfl ?_
  refine j_iconst (v := 0) C dX3_squareTo_26 (by decide) ?_
  refine j_aload_n C dX3_squareTo_27 rfl ?_
  refine j_gI (f := 195) C fF_X3_42 rfl ob dX3_squareTo_28 ?_
  refine j_aload_n C dX3_squareTo_31 rfl ?_
  refine j_gI (f := 196) C fF_X3_45 rfl oa dX3_squareTo_32 ?_
  refine j_isub C dX3_squareTo_35 ?_
  refine j_aload_n C dX3_squareTo_36 rfl ?_
  refine j_gI (f := 195) C fF_X3_42 rfl oa dX3_squareTo_37 ?_
  refine j_aload_n C dX3_squareTo_40 rfl ?_
  refine j_gI (f := 196) C fF_X3_45 rfl ob dX3_squareTo_41 ?_
  refine j_isub C dX3_squareTo_44 ?_
  refine j_max C kM_X3_36 dX3_squareTo_45 (Nat.le_of_ble_eq_true rfl) (Nat.le_of_ble_eq_true rfl) (Nat.le_of_ble_eq_true rfl) (Nat.le_of_ble_eq_true rfl) ?_
  refine j_max C kM_X3_36 dX3_squareTo_48 (Nat.le_of_ble_eq_true rfl) (Nat.le_of_ble_eq_true rfl) (Nat.le_of_ble_eq_true rfl) (Nat.le_of_ble_eq_true rfl) ?_
  refine j_istore_n (lv' := [(0, .ref a), (1, .ref b), (2, .int (if 0 < (if ((h_I h 193 b) - (h_I h 194 a)) < ((h_I h 193 a) - (h_I h 194 b)) then ((h_I h 193 a) - (h_I h 194 b)) else ((h_I h 193 b) - (h_I h 194 a))) then (if ((h_I h 193 b) - (h_I h 194 a)) < ((h_I h 193 a) - (h_I h 194 b)) then ((h_I h 193 a) - (h_I h 194 b)) else ((h_I h 193 b) - (h_I h 194 a))) else 0)), (3, .int (if 0 < (if ((h_I h 195 b) - (h_I h 196 a)) < ((h_I h 195 a) - (h_I h 196 b)) then ((h_I h 195 a) - (h_I h 196 b)) else ((h_I h 195 b) - (h_I h 196 a))) then (if ((h_I h 195 b) - (h_I h 196 a)) < ((h_I h 195 a) - (h_I h 196 b)) then ((h_I h 195 a) - (h_I h 196 b)) else ((h_I h 195 b) - (h_I h 196 a))) else 0))]) C dX3_squareTo_51 (by decide) rfl ?_
  refine j_iload_n C dX3_squareTo_52 rfl ?_
  refine j_iload_n C dX3_squareTo_53 rfl ?_
  refine j_imul C dX3_squareTo_54 ?_
  refine j_iload_n C dX3_squareTo_55 rfl ?_
  refine j_iload_n C dX3_squareTo_56 rfl ?_
  refine j_imul C dX3_squareTo_57 ?_
  refine j_iadd C dX3_squareTo_58 ?_
  exact ret _ _ 0 0 _ _ ⟨rfl, rfl⟩ (Nat.zero_le _) (Nat.zero_le _) dX3_squareTo_59
def grw (h : jH) (g : Nat) (x : Int32) : Option Nat := if ¬ x < 0 ∧ ¬ 41 ≤ x then h_B h g x.toNatClampNeg else none
set_option maxHeartbeats 4000000 in
set_option maxRecDepth 100000 in
theorem k_grownIn {l : Launch} {D : va_G} {cy : Nat → ClassId} {h : jH} {a g : Nat} (oa : h_ok h a 3) (hg : h_R h 197 a = some g) (og : h_ok h g 15) (hn : h_N h g = 41) (x : Int32) : cQ l D cy yX3_grownIn (.code yX3_grownIn cX3_grownIn 2 ((Option.some (FieldType.object "CleanSeed$Lot")))) 0 [.ref a, .int x] h (fun r => r = grw h g x) := by
  refine j_ofQ (by decide) (Nat.le_of_ble_eq_true rfl) (fun p e s m args below meth c Q C hin ret => ?_)
  refine j_iload_n C dX3_grownIn_0 rfl ?_
  refine j_if_lt (tgt := 22) C dX3_grownIn_1 (by decide) (fun c_1 => ?_) (fun c_1 => ?_)
  · refine j_null C dX3_grownIn_22 ?_
    exact ret none _ 0 0 _ _ ⟨(if_neg (fun q => q.1 c_1)).symm, rfl⟩ (Nat.zero_le _) (Nat.zero_le _) dX3_grownIn_23
  · refine j_iload_n C dX3_grownIn_4 rfl ?_
    refine j_aload_n C dX3_grownIn_5 rfl ?_
    refine j_gRe (f := 197) (v := .ref g) C fF_X3_11 rfl oa (by rw [hg]; rfl) dX3_grownIn_6 ?_
    refine j_alen (k := 15) (v := 41) C og ⟨by decide, rfl⟩ (by rw [hn]; rfl) dX3_grownIn_9 ?_
    refine j_icmp_ge (tgt := 22) C dX3_grownIn_10 (by decide) (fun c_10 => ?_) (fun c_10 => ?_)
    · refine j_null C dX3_grownIn_22 ?_
      exact ret none _ 0 0 _ _ ⟨(if_neg (fun q => q.2 c_10)).symm, rfl⟩ (Nat.zero_le _) (Nat.zero_le _) dX3_grownIn_23
    · refine j_aload_n C dX3_grownIn_13 rfl ?_
      refine j_gRe (f := 197) (v := .ref g) C fF_X3_11 rfl oa (by rw [hg]; rfl) dX3_grownIn_14 ?_
      refine j_iload_n C dX3_grownIn_17 rfl ?_
      refine j_aald (k := 15) C og (by decide) rfl (by rw [hn]; exact fun q => q.elim c_1 (fun q2 => c_10 (vp_ge q2 c_1))) rfl dX3_grownIn_18 ?_
      refine j_goto (tgt := 23) C dX3_grownIn_19 (by decide) ?_
      exact ret (h_B h g (x).toNatClampNeg) _ 0 0 _ _ ⟨(if_pos ⟨c_1, c_10⟩).symm, rfl⟩ (Nat.zero_le _) (Nat.zero_le _) dX3_grownIn_23
set_option maxHeartbeats 4000000 in
set_option maxRecDepth 100000 in
theorem k_grow {l : Launch} {D : va_G} {cy : Nat → ClassId} {h : jH} {a g : Nat} (oa : h_ok h a 3) (hg : h_R h 197 a = some g) (og : h_ok h g 15) (hn : h_N h g = 41) {b : Nat} (ob : h_ok h b 6) : jV l D cy yX3_grow (.code yX3_grow cX3_grow 2 ((Option.none : Option FieldType))) (rmd 0 0 0) [.ref a, .ref b] h (fun h' => h' = if ¬ h_I h 387 b < 0 ∧ ¬ 41 ≤ h_I h 387 b then s_B h g (h_I h 387 b).toNatClampNeg (some b) else h) := by
  refine j_ofV (by decide) (Nat.le_of_ble_eq_true rfl) (fun p e s m args below meth c Q C hin ret => ?_)
  refine j_aload_n C dX3_grow_0 rfl ?_
  refine j_gI (f := 387) C fF_X3_48 rfl ob dX3_grow_1 ?_
  refine j_if_lt (tgt := 29) C dX3_grow_4 (by decide) (fun c_4 => ?_) (fun c_4 => ?_)
  · exact ret _ 0 0 _ _ (Eq.symm <| if_neg (fun q => q.1 c_4)) (Nat.zero_le _) (Nat.zero_le _) dX3_grow_29
  · refine j_aload_n C dX3_grow_7 rfl ?_
    refine j_gI (f := 387) C fF_X3_48 rfl ob dX3_grow_8 ?_
    refine j_aload_n C dX3_grow_11 rfl ?_
    refine j_gRe (f := 197) (v := .ref g) C fF_X3_11 rfl oa (by rw [hg]; rfl) dX3_grow_12 ?_
    refine j_alen (k := 15) (v := 41) C og ⟨by decide, rfl⟩ (by rw [hn]; rfl) dX3_grow_15 ?_
    refine j_icmp_ge (tgt := 29) C dX3_grow_16 (by decide) (fun c_16 => ?_) (fun c_16 => ?_)
    · exact ret _ 0 0 _ _ (Eq.symm <| if_neg (fun q => q.2 c_16)) (Nat.zero_le _) (Nat.zero_le _) dX3_grow_29
    · refine j_aload_n C dX3_grow_19 rfl ?_
      refine j_gRe (f := 197) (v := .ref g) C fF_X3_11 rfl oa (by rw [hg]; rfl) dX3_grow_20 ?_
      refine j_aload_n C dX3_grow_23 rfl ?_
      refine j_gI (f := 387) C fF_X3_48 rfl ob dX3_grow_24 ?_
      refine j_aload_n C dX3_grow_27 rfl ?_
      refine j_aast (k := 15) (ci := 6) C og (by decide) ob (by decide) rfl rfl (by rw [hn]; exact fun q => q.elim c_4 (fun q2 => c_16 (vp_ge q2 c_4))) dX3_grow_28 ?_
      exact ret _ 0 0 _ _ (if_pos ⟨c_4, c_16⟩).symm (Nat.zero_le _) (Nat.zero_le _) dX3_grow_29
def asGI (h : jH) (r : Option Nat) (b : Nat) : Int32 := match r with
  | none => 0
  | some x => bI (¬ rkm h b < rkm h x)
set_option maxHeartbeats 4000000 in
set_option maxRecDepth 100000 in
theorem k_isAsGood {l : Launch} {D : va_G} {cy : Nat → ClassId} {h : jH} {a b : Nat} {r : Option Nat} (oa : h_ok h a 0) (ob : h_ok h b 6) (on : ∀ x, r = some x → h_ok h x 6) (o1 : ∀ a x, (r = some a ∨ a = b) → h_R h 389 a = some x → h_ok h x 6) (o2 : ∀ a x, (r = some a ∨ a = b) → h_R h 390 a = some x → h_ok h x 6) : cI l D cy yX0_isAsGood (.code yX0_isAsGood cX0_isAsGood 3 ((Option.some FieldType.boolean))) 2 [.ref a, va_rf r, .ref b] h (fun v => v = asGI h r b) := by
  cases r with
  | none =>
    refine j_ofZ (by decide) (Nat.le_of_ble_eq_true rfl) (fun p e s m args below meth c Q C hin ret => ?_)
    refine j_aload_nN C dX0_isAsGood_0 rfl ?_
    refine j_ifnullN (tgt := 19) C dX0_isAsGood_1 (by decide) ?_
    refine j_iconst (v := 0) C dX0_isAsGood_19 (by decide) ?_
    exact ret _ _ 0 0 _ _ ⟨rfl, rfl⟩ (by decide) (Nat.zero_le _) (Nat.zero_le _) dX0_isAsGood_20
  | some x =>
    refine j_ofZ (by decide) (Nat.le_of_ble_eq_true rfl) (fun p e s m args below meth c Q C hin ret => ?_)
    refine j_aload_n C dX0_isAsGood_0 rfl ?_
    refine j_ifnull C dX0_isAsGood_1 ?_
    refine j_aload_n C dX0_isAsGood_4 rfl ?_
    refine j_callVi (As := []) (rest := []) C fG_X0_48 (k_rankOfMothers (a := x) (on x rfl) (fun w hw => o1 x w (Or.inl rfl) hw) (fun w hw => o2 x w (Or.inl rfl) hw)) (on x rfl) rfl rfl (Nat.le_of_ble_eq_true rfl) ⟨Nat.le_of_ble_eq_true rfl, Nat.le_of_ble_eq_true rfl⟩ ⟨Nat.le_of_ble_eq_true rfl, Nat.le_of_ble_eq_true rfl⟩ dX0_isAsGood_5 (fun r_5 h_5 e_5 => ?_)
    obtain ⟨e1_5, e2_5⟩ := e_5
    subst e1_5
    replace e2_5 := e2_5.symm
    subst e2_5
    refine j_aload_n C dX0_isAsGood_8 rfl ?_
    refine j_callVi (As := []) (rest := [.int (rkm h x)]) C fG_X0_48 (k_rankOfMothers (a := b) ob (fun w hw => o1 b w (Or.inr rfl) hw) (fun w hw => o2 b w (Or.inr rfl) hw)) ob rfl rfl (Nat.le_of_ble_eq_true rfl) ⟨Nat.le_of_ble_eq_true rfl, Nat.le_of_ble_eq_true rfl⟩ ⟨Nat.le_of_ble_eq_true rfl, Nat.le_of_ble_eq_true rfl⟩ dX0_isAsGood_9 (fun r_9 h_9 e_9 => ?_)
    obtain ⟨e1_9, e2_9⟩ := e_9
    subst e1_9
    replace e2_9 := e2_9.symm
    subst e2_9
    refine j_icmp_gt (tgt := 19) C dX0_isAsGood_12 (by decide) (fun c_12 => ?_) (fun c_12 => ?_)
    · refine j_iconst (v := 0) C dX0_isAsGood_19 (by decide) ?_
      exact ret _ _ 0 0 _ _ ⟨(bI_f (fun q => q c_12)).symm, rfl⟩ (by decide) (Nat.zero_le _) (Nat.zero_le _) dX0_isAsGood_20
    · refine j_iconst (v := 1) C dX0_isAsGood_15 (by decide) ?_
      refine j_goto (tgt := 20) C dX0_isAsGood_16 (by decide) ?_
      exact ret _ _ 0 0 _ _ ⟨(bI_t c_12).symm, rfl⟩ (by decide) (Nat.zero_le _) (Nat.zero_le _) dX0_isAsGood_20
set_option maxHeartbeats 4000000 in
set_option maxRecDepth 100000 in
theorem k_addField {l : Launch} {D : va_G} {cy : Nat → ClassId} {h : jH} {a b x n : Nat} (oa : h_ok h a 2) (hb : h_R h 129 a = some b) (ob : h_ok h b 14) (hn : h_N h b = 40) (hc : h_I h 130 a = nI n) (hlt : n < 40) (ox : h_ok h x 3) : jI l D cy yX2_addField (.code yX2_addField cX2_addField 2 ((Option.some FieldType.int))) (rmd 0 0 0) [.ref a, .ref x] h (fun r h' => r = nI n + 1 - 1 ∧ h' = s_I (s_B h b n (some x)) 130 a (nI n + 1)) := by
  refine j_ofI (by decide) (Nat.le_of_ble_eq_true rfl) (fun p e s m args below meth c Q C hin ret => ?_)
  refine j_aload_n C dX2_addField_0 rfl ?_
  refine j_gIe (f := 130) (v := (nI n)) C fF_X2_21 rfl oa hc dX2_addField_1 ?_
  refine j_aload_n C dX2_addField_4 rfl ?_
  refine j_gRe (f := 129) (v := .ref b) C fF_X2_17 rfl oa (by rw [hb]; rfl) dX2_addField_5 ?_
  refine j_alen (k := 14) (v := (nI 40)) C ob ⟨by decide, rfl⟩ (by rw [hn]) dX2_addField_8 ?_
  refine j_icmp_lt (tgt := 14) C dX2_addField_9 (by decide) (fun c_9 => ?_) (fun c_9 => ?_)
  · refine j_aload_n C dX2_addField_14 rfl ?_
    refine j_gRe (f := 129) (v := .ref b) C fF_X2_17 rfl oa (by rw [hb]; rfl) dX2_addField_15 ?_
    refine j_aload_n C dX2_addField_18 rfl ?_
    refine j_gIe (f := 130) (v := (nI n)) C fF_X2_21 rfl oa hc dX2_addField_19 ?_
    refine j_aload_n C dX2_addField_22 rfl ?_
    refine j_aastN (k := 14) (ci := 3) C ob (by decide) ox (by decide) rfl rfl ⟨hn, hlt, by decide⟩ dX2_addField_23 ?_
    refine j_aload_n C dX2_addField_24 rfl ?_
    refine j_dup C dX2_addField_25 rfl ?_
    refine j_gIe (f := 130) (v := (nI n)) C fF_X2_21 rfl (okB oa) hc dX2_addField_26 ?_
    refine j_iconst (v := 1) C dX2_addField_29 (by decide) ?_
    refine j_iadd C dX2_addField_30 ?_
    refine j_pI (f := 130) C fP_X2_21 rfl (okB oa) rfl rfl dX2_addField_31 ?_
    refine j_aload_n C dX2_addField_34 rfl ?_
    refine j_gI (f := 130) C fF_X2_21 rfl (okI (okB oa)) dX2_addField_35 ?_
    refine j_iconst (v := 1) C dX2_addField_38 (by decide) ?_
    refine j_isub C dX2_addField_39 ?_
    exact ret _ _ 0 0 _ _ ⟨by rw [g_II, if_pos rfl, if_pos rfl], rfl⟩ (Nat.zero_le _) (Nat.zero_le _) dX2_addField_40
  · exact absurd (nI_lt hlt (by decide)) c_9
set_option maxHeartbeats 4000000 in
set_option maxRecDepth 100000 in
theorem k_addLot {l : Launch} {D : va_G} {cy : Nat → ClassId} {h : jH} {a b x n : Nat} (oa : h_ok h a 2) (hb : h_R h 131 a = some b) (ob : h_ok h b 15) (hn : h_N h b = 200) (hc : h_I h 132 a = nI n) (hlt : n < 200) (ox : h_ok h x 6) : jI l D cy yX2_addLot (.code yX2_addLot cX2_addLot 2 ((Option.some FieldType.int))) (rmd 0 0 0) [.ref a, .ref x] h (fun r h' => r = nI n + 1 - 1 ∧ h' = s_I (s_B h b n (some x)) 132 a (nI n + 1)) := by
  refine j_ofI (by decide) (Nat.le_of_ble_eq_true rfl) (fun p e s m args below meth c Q C hin ret => ?_)
  refine j_aload_n C dX2_addLot_0 rfl ?_
  refine j_gIe (f := 132) (v := (nI n)) C fF_X2_30 rfl oa hc dX2_addLot_1 ?_
  refine j_aload_n C dX2_addLot_4 rfl ?_
  refine j_gRe (f := 131) (v := .ref b) C fF_X2_26 rfl oa (by rw [hb]; rfl) dX2_addLot_5 ?_
  refine j_alen (k := 15) (v := (nI 200)) C ob ⟨by decide, rfl⟩ (by rw [hn]) dX2_addLot_8 ?_
  refine j_icmp_lt (tgt := 14) C dX2_addLot_9 (by decide) (fun c_9 => ?_) (fun c_9 => ?_)
  · refine j_aload_n C dX2_addLot_14 rfl ?_
    refine j_gRe (f := 131) (v := .ref b) C fF_X2_26 rfl oa (by rw [hb]; rfl) dX2_addLot_15 ?_
    refine j_aload_n C dX2_addLot_18 rfl ?_
    refine j_gIe (f := 132) (v := (nI n)) C fF_X2_30 rfl oa hc dX2_addLot_19 ?_
    refine j_aload_n C dX2_addLot_22 rfl ?_
    refine j_aastN (k := 15) (ci := 6) C ob (by decide) ox (by decide) rfl rfl ⟨hn, hlt, by decide⟩ dX2_addLot_23 ?_
    refine j_aload_n C dX2_addLot_24 rfl ?_
    refine j_dup C dX2_addLot_25 rfl ?_
    refine j_gIe (f := 132) (v := (nI n)) C fF_X2_30 rfl (okB oa) hc dX2_addLot_26 ?_
    refine j_iconst (v := 1) C dX2_addLot_29 (by decide) ?_
    refine j_iadd C dX2_addLot_30 ?_
    refine j_pI (f := 132) C fP_X2_30 rfl (okB oa) rfl rfl dX2_addLot_31 ?_
    refine j_aload_n C dX2_addLot_34 rfl ?_
    refine j_gI (f := 132) C fF_X2_30 rfl (okI (okB oa)) dX2_addLot_35 ?_
    refine j_iconst (v := 1) C dX2_addLot_38 (by decide) ?_
    refine j_isub C dX2_addLot_39 ?_
    exact ret _ _ 0 0 _ _ ⟨by rw [g_II, if_pos rfl, if_pos rfl], rfl⟩ (Nat.zero_le _) (Nat.zero_le _) dX2_addLot_40
  · exact absurd (nI_lt hlt (by decide)) c_9
set_option maxHeartbeats 4000000 in
set_option maxRecDepth 100000 in
theorem k_addBag {l : Launch} {D : va_G} {cy : Nat → ClassId} {h : jH} {a b x n : Nat} (oa : h_ok h a 2) (hb : h_R h 133 a = some b) (ob : h_ok h b 13) (hn : h_N h b = 200) (hc : h_I h 134 a = nI n) (hlt : n < 200) (ox : h_ok h x 1) : jI l D cy yX2_addBag (.code yX2_addBag cX2_addBag 2 ((Option.some FieldType.int))) (rmd 0 0 0) [.ref a, .ref x] h (fun r h' => r = nI n + 1 - 1 ∧ h' = s_I (s_B h b n (some x)) 134 a (nI n + 1)) := by
  refine j_ofI (by decide) (Nat.le_of_ble_eq_true rfl) (fun p e s m args below meth c Q C hin ret => ?_)
  refine j_aload_n C dX2_addBag_0 rfl ?_
  refine j_gIe (f := 134) (v := (nI n)) C fF_X2_39 rfl oa hc dX2_addBag_1 ?_
  refine j_aload_n C dX2_addBag_4 rfl ?_
  refine j_gRe (f := 133) (v := .ref b) C fF_X2_35 rfl oa (by rw [hb]; rfl) dX2_addBag_5 ?_
  refine j_alen (k := 13) (v := (nI 200)) C ob ⟨by decide, rfl⟩ (by rw [hn]) dX2_addBag_8 ?_
  refine j_icmp_lt (tgt := 14) C dX2_addBag_9 (by decide) (fun c_9 => ?_) (fun c_9 => ?_)
  · refine j_aload_n C dX2_addBag_14 rfl ?_
    refine j_gRe (f := 133) (v := .ref b) C fF_X2_35 rfl oa (by rw [hb]; rfl) dX2_addBag_15 ?_
    refine j_aload_n C dX2_addBag_18 rfl ?_
    refine j_gIe (f := 134) (v := (nI n)) C fF_X2_39 rfl oa hc dX2_addBag_19 ?_
    refine j_aload_n C dX2_addBag_22 rfl ?_
    refine j_aastN (k := 13) (ci := 1) C ob (by decide) ox (by decide) rfl rfl ⟨hn, hlt, by decide⟩ dX2_addBag_23 ?_
    refine j_aload_n C dX2_addBag_24 rfl ?_
    refine j_dup C dX2_addBag_25 rfl ?_
    refine j_gIe (f := 134) (v := (nI n)) C fF_X2_39 rfl (okB oa) hc dX2_addBag_26 ?_
    refine j_iconst (v := 1) C dX2_addBag_29 (by decide) ?_
    refine j_iadd C dX2_addBag_30 ?_
    refine j_pI (f := 134) C fP_X2_39 rfl (okB oa) rfl rfl dX2_addBag_31 ?_
    refine j_aload_n C dX2_addBag_34 rfl ?_
    refine j_gI (f := 134) C fF_X2_39 rfl (okI (okB oa)) dX2_addBag_35 ?_
    refine j_iconst (v := 1) C dX2_addBag_38 (by decide) ?_
    refine j_isub C dX2_addBag_39 ?_
    exact ret _ _ 0 0 _ _ ⟨by rw [g_II, if_pos rfl, if_pos rfl], rfl⟩ (Nat.zero_le _) (Nat.zero_le _) dX2_addBag_40
  · exact absurd (nI_lt hlt (by decide)) c_9
