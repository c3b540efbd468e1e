def mS_stand (S : Nat → Nat → Int32) (f yr cr : Int32) (ns : Nat)  : Nat → Nat → Int32 := (u2 (u2 (u2 (u2 (u2 S 13 ns f) 14 ns yr) 15 ns cr) 16 ns ((u2 (u2 (u2 S 13 ns f) 14 ns yr) 15 ns cr) 0 0)) 5 0 ((nI ns) + 1))
def m_stand (S : Nat → Nat → Int32) (f yr cr : Int32) (ns : Nat)  : Int32 × (Nat → Nat → Int32) := if (0 ≤ f ∧ f ≤ S 1 0 - 1) ∧ (0 ≤ yr ∧ yr ≤ S 0 0) ∧ (0 ≤ cr ∧ cr ≤ 4) ∧ (¬ nI ns = 300) then (1, mS_stand S f yr cr ns) else (0, S)
set_option maxHeartbeats 4000000 in
set_option maxRecDepth 100000 in
theorem c_stand {l : Launch} {D : va_G} {cy : Nat → ClassId} {m0 : Nat} {ad : Nat → Nat} {S : Nat → Nat → Int32} (f yr cr : Int32) {ns : Nat} (hs : S 5 0 = nI ns) (hns : ns ≤ 300) : mI l D cy yX11_stand (.code yX11_stand cX11_stand 4 ((Option.some FieldType.boolean))) 2 m0 ad [.int f, .int yr, .int cr] S (fun r S' => (r, S') = m_stand S f yr cr ns) := by
  refine m_ofZ rfl (Nat.le_of_ble_eq_true rfl) (fun p e s m args below meth c A Q h0 C ret => ?_)
  refine jm_aload_n C dX11_stand_0 rfl ?_
  refine jm_iload_n C dX11_stand_1 rfl ?_
  refine jm_calli (As := [.int f]) (rest := []) C fG_X11_153 (c_isField (f)) rfl rfl (Nat.le_of_ble_eq_true rfl) ⟨Nat.le_of_ble_eq_true rfl, Nat.le_of_ble_eq_true rfl⟩ dX11_stand_2 (fun r_2 S_2 e_2 => ?_)
  obtain ⟨e1_2, e2_2⟩ := e_2
  subst e1_2
  replace e2_2 := e2_2.symm
  subst e2_2
  refine jm_ifeq_b (tgt := 35) C dX11_stand_5 (by decide) (fun c_5 => ?_) (fun c_5 => ?_)
  · refine jm_iconst (v := 0) C dX11_stand_35 (by decide) ?_
    exact ret _ _ _ _ (if_neg (fun z => by first | exact c_5 z.1 | exact z.1 c_5)).symm (by decide) dX11_stand_36
  · refine jm_aload_n C dX11_stand_8 rfl ?_
    refine jm_iload_n C dX11_stand_9 rfl ?_
    refine jm_calli (As := [.int yr]) (rest := []) C fG_X11_160 (c_isYear (yr)) rfl rfl (Nat.le_of_ble_eq_true rfl) ⟨Nat.le_of_ble_eq_true rfl, Nat.le_of_ble_eq_true rfl⟩ dX11_stand_10 (fun r_10 S_10 e_10 => ?_)
    obtain ⟨e1_10, e2_10⟩ := e_10
    subst e1_10
    replace e2_10 := e2_10.symm
    subst e2_10
    refine jm_ifeq_b (tgt := 35) C dX11_stand_13 (by decide) (fun c_13 => ?_) (fun c_13 => ?_)
    · refine jm_iconst (v := 0) C dX11_stand_35 (by decide) ?_
      exact ret _ _ _ _ (if_neg (fun z => by first | exact c_13 z.2.1 | exact z.2.1 c_13)).symm (by decide) dX11_stand_36
    · refine jm_iload_n C dX11_stand_16 rfl ?_
      refine jm_iconst (v := 0) C dX11_stand_17 (by decide) ?_
      refine jm_iconst (v := 4) C dX11_stand_18 (by decide) ?_
      refine jm_calls (As := [.int cr, .int 0, .int 4]) (rest := []) C fG_X11_134 (c_in (cr) (0) (4)) rfl rfl (Nat.le_of_ble_eq_true rfl) ⟨Nat.le_of_ble_eq_true rfl, Nat.le_of_ble_eq_true rfl⟩ dX11_stand_19 (fun r_19 e_19 => ?_)
      subst e_19
      refine jm_ifeq_b (tgt := 35) C dX11_stand_22 (by decide) (fun c_22 => ?_) (fun c_22 => ?_)
      · refine jm_iconst (v := 0) C dX11_stand_35 (by decide) ?_
        exact ret _ _ _ _ (if_neg (fun z => by first | exact c_22 z.2.2.1 | exact z.2.2.1 c_22)).symm (by decide) dX11_stand_36
      · refine jm_aload_n C dX11_stand_25 rfl ?_
        refine jm_getSe (v := nI ns) C fF_X11_163 (by decide) hs dX11_stand_26 ?_
        refine jm_sipush (v := 300) C dX11_stand_29 (by decide) ?_
        refine jm_icmp_ne (tgt := 37) C dX11_stand_32 (by decide) (fun c_32 => ?_) (fun c_32 => ?_)
        · have hlt : ns < 300 := ne_lt rfl c_32 (by omega)
          refine jm_aload_n C dX11_stand_37 rfl ?_
          refine jm_getA C fF_X11_22 (by decide) (by decide) dX11_stand_38 ?_
          refine jm_aload_n C dX11_stand_41 rfl ?_
          refine jm_getSe (v := nI ns) C fF_X11_163 (by decide) hs dX11_stand_42 ?_
          refine jm_iload_n C dX11_stand_45 rfl ?_
          refine jm_astN C 13 (n := 300) (by decide) (by decide) rfl (by omega) dX11_stand_46 ?_
          refine jm_aload_n C dX11_stand_47 rfl ?_
          refine jm_getA C fF_X11_25 (by decide) (by decide) dX11_stand_48 ?_
          refine jm_aload_n C dX11_stand_51 rfl ?_
          refine jm_getSe (v := nI ns) C fF_X11_163 (by decide) hs dX11_stand_52 ?_
          refine jm_iload_n C dX11_stand_55 rfl ?_
          refine jm_astN C 14 (n := 300) (by decide) (by decide) rfl (by omega) dX11_stand_56 ?_
          refine jm_aload_n C dX11_stand_57 rfl ?_
          refine jm_getA C fF_X11_28 (by decide) (by decide) dX11_stand_58 ?_
          refine jm_aload_n C dX11_stand_61 rfl ?_
          refine jm_getSe (v := nI ns) C fF_X11_163 (by decide) hs dX11_stand_62 ?_
          refine jm_iload_n C dX11_stand_65 rfl ?_
          refine jm_astN C 15 (n := 300) (by decide) (by decide) rfl (by omega) dX11_stand_66 ?_
          refine jm_aload_n C dX11_stand_67 rfl ?_
          refine jm_getA C fF_X11_31 (by decide) (by decide) dX11_stand_68 ?_
          refine jm_aload_n C dX11_stand_71 rfl ?_
          refine jm_getSe (v := nI ns) C fF_X11_163 (by decide) hs dX11_stand_72 ?_
          refine jm_aload_n C dX11_stand_75 rfl ?_
          refine jm_getS C fF_X11_141 (by decide) dX11_stand_76 ?_
          refine jm_astN C 16 (n := 300) (by decide) (by decide) rfl (by omega) dX11_stand_79 ?_
          refine jm_aload_n C dX11_stand_80 rfl ?_
          refine jm_dup C dX11_stand_81 rfl ?_
          refine jm_getSe (v := nI ns) C fF_X11_163 (by decide) hs dX11_stand_82 ?_
          refine jm_iconst (v := 1) C dX11_stand_85 (by decide) ?_
          refine jm_iadd C dX11_stand_86 ?_
          refine jm_putS C fP_X11_163 (by decide) dX11_stand_87 ?_
          refine jm_iconst (v := 1) C dX11_stand_90 (by decide) ?_
          exact ret _ _ _ _ (if_pos ⟨c_5, c_13, c_22, c_32⟩).symm (by decide) dX11_stand_91
        · refine jm_iconst (v := 0) C dX11_stand_35 (by decide) ?_
          exact ret _ _ _ _ (if_neg (fun z => by first | exact c_32 z.2.2.2 | exact z.2.2.2 c_32)).symm (by decide) dX11_stand_36
def isValS (kind v : Int32) : Bool := tsel 4 kind (fun i => ([decide (0 ≤ v ∧ v ≤ 1000), decide (0 ≤ v ∧ v ≤ 10), decide (0 ≤ v ∧ v ≤ 5), decide (0 ≤ v ∧ v ≤ 1000), decide (0 ≤ v ∧ v ≤ 8)] : List Bool).getD i false) false
theorem bI_dec (P : Prop) [Decidable P] : bI P = bI (decide P = true) := by unfold bI; simp
set_option maxHeartbeats 4000000 in
set_option maxRecDepth 100000 in
theorem c_isValue {l : Launch} {D : va_G} {cy : Nat → ClassId} (kind v : Int32) : sI l D cy yX11_isValue (.code yX11_isValue cX11_isValue 2 ((Option.some FieldType.boolean))) 1 [.int kind, .int v] (fun r => r = bI (isValS kind v = true)) := fun h => by
  refine j_ofZ (by decide) (Nat.le_of_ble_eq_true rfl) (fun p e s m args below meth c Q C hn ret => ?_)
  refine j_iload_n C dX11_isValue_0 rfl ?_
  refine j_tsw (hi := 4) C dX11_isValue_1 (fun i_1 hi_1 e_1 => ?_) (fun c_1 => ⟨77, by decide, ?_⟩)
  · subst e_1
    rcases (show i_1 = 0 ∨ i_1 = 1 ∨ i_1 = 2 ∨ i_1 = 3 ∨ i_1 = 4 by omega) with rfl | rfl | rfl | rfl | rfl
    · refine ⟨35, 36, rfl, by decide, ?_⟩
      refine j_iload_n C dX11_isValue_36 rfl ?_
      refine j_iconst (v := 0) C dX11_isValue_37 (by decide) ?_
      refine j_sipush (v := 1000) C dX11_isValue_38 (by decide) ?_
      refine j_callSi (As := [.int v, .int 0, .int 1000]) (rest := []) C fG_X11_134 ((c_in (v) (0) (1000)) h) rfl rfl (Nat.le_of_ble_eq_true rfl) ⟨Nat.le_of_ble_eq_true rfl, Nat.le_of_ble_eq_true rfl⟩ ⟨Nat.zero_le _, Nat.zero_le _⟩ dX11_isValue_41 (fun r_41 h_41 e_41 => ?_)
      obtain ⟨e1_41, e2_41⟩ := e_41
      subst e1_41
      replace e2_41 := e2_41.symm
      subst e2_41
      exact ret _ _ 0 0 _ _ ⟨by rw [isValS, tsel_in (by decide)]; exact bI_dec _, rfl⟩ (bI_01 _) (Nat.zero_le _) (Nat.zero_le _) dX11_isValue_44
    · refine ⟨44, 45, rfl, by decide, ?_⟩
      refine j_iload_n C dX11_isValue_45 rfl ?_
      refine j_iconst (v := 0) C dX11_isValue_46 (by decide) ?_
      refine j_bipush (v := 10) C dX11_isValue_47 (by decide) ?_
      refine j_callSi (As := [.int v, .int 0, .int 10]) (rest := []) C fG_X11_134 ((c_in (v) (0) (10)) h) rfl rfl (Nat.le_of_ble_eq_true rfl) ⟨Nat.le_of_ble_eq_true rfl, Nat.le_of_ble_eq_true rfl⟩ ⟨Nat.zero_le _, Nat.zero_le _⟩ dX11_isValue_49 (fun r_49 h_49 e_49 => ?_)
      obtain ⟨e1_49, e2_49⟩ := e_49
      subst e1_49
      replace e2_49 := e2_49.symm
      subst e2_49
      exact ret _ _ 0 0 _ _ ⟨by rw [isValS, tsel_in (by decide)]; exact bI_dec _, rfl⟩ (bI_01 _) (Nat.zero_le _) (Nat.zero_le _) dX11_isValue_52
    · refine ⟨52, 53, rfl, by decide, ?_⟩
      refine j_iload_n C dX11_isValue_53 rfl ?_
      refine j_iconst (v := 0) C dX11_isValue_54 (by decide) ?_
      refine j_iconst (v := 5) C dX11_isValue_55 (by decide) ?_
      refine j_callSi (As := [.int v, .int 0, .int 5]) (rest := []) C fG_X11_134 ((c_in (v) (0) (5)) h) rfl rfl (Nat.le_of_ble_eq_true rfl) ⟨Nat.le_of_ble_eq_true rfl, Nat.le_of_ble_eq_true rfl⟩ ⟨Nat.zero_le _, Nat.zero_le _⟩ dX11_isValue_56 (fun r_56 h_56 e_56 => ?_)
      obtain ⟨e1_56, e2_56⟩ := e_56
      subst e1_56
      replace e2_56 := e2_56.symm
      subst e2_56
      exact ret _ _ 0 0 _ _ ⟨by rw [isValS, tsel_in (by decide)]; exact bI_dec _, rfl⟩ (bI_01 _) (Nat.zero_le _) (Nat.zero_le _) dX11_isValue_59
    · refine ⟨59, 60, rfl, by decide, ?_⟩
      refine j_iload_n C dX11_isValue_60 rfl ?_
      refine j_iconst (v := 0) C dX11_isValue_61 (by decide) ?_
      refine j_sipush (v := 1000) C dX11_isValue_62 (by decide) ?_
      refine j_callSi (As := [.int v, .int 0, .int 1000]) (rest := []) C fG_X11_134 ((c_in (v) (0) (1000)) h) rfl rfl (Nat.le_of_ble_eq_true rfl) ⟨Nat.le_of_ble_eq_true rfl, Nat.le_of_ble_eq_true rfl⟩ ⟨Nat.zero_le _, Nat.zero_le _⟩ dX11_isValue_65 (fun r_65 h_65 e_65 => ?_)
      obtain ⟨e1_65, e2_65⟩ := e_65
      subst e1_65
      replace e2_65 := e2_65.symm
      subst e2_65
      exact ret _ _ 0 0 _ _ ⟨by rw [isValS, tsel_in (by decide)]; exact bI_dec _, rfl⟩ (bI_01 _) (Nat.zero_le _) (Nat.zero_le _) dX11_isValue_68
    · refine ⟨68, 69, rfl, by decide, ?_⟩
      refine j_iload_n C dX11_isValue_69 rfl ?_
      refine j_iconst (v := 0) C dX11_isValue_70 (by decide) ?_
      refine j_bipush (v := 8) C dX11_isValue_71 (by decide) ?_
      refine j_callSi (As := [.int v, .int 0, .int 8]) (rest := []) C fG_X11_134 ((c_in (v) (0) (8)) h) rfl rfl (Nat.le_of_ble_eq_true rfl) ⟨Nat.le_of_ble_eq_true rfl, Nat.le_of_ble_eq_true rfl⟩ ⟨Nat.zero_le _, Nat.zero_le _⟩ dX11_isValue_73 (fun r_73 h_73 e_73 => ?_)
      obtain ⟨e1_73, e2_73⟩ := e_73
      subst e1_73
      replace e2_73 := e2_73.symm
      subst e2_73
      exact ret _ _ 0 0 _ _ ⟨by rw [isValS, tsel_in (by decide)]; exact bI_dec _, rfl⟩ (bI_01 _) (Nat.zero_le _) (Nat.zero_le _) dX11_isValue_76
  · refine j_iconst (v := 0) C dX11_isValue_77 (by decide) ?_
    exact ret _ _ 0 0 _ _ ⟨by rw [isValS, tsel_out c_1]; rfl, rfl⟩ (by decide) (Nat.zero_le _) (Nat.zero_le _) dX11_isValue_78
def mS_statute (S : Nat → Nat → Int32) (kind fr v : Int32) (nt : Nat)  : Nat → Nat → Int32 := (u2 (u2 (u2 (u2 (u2 S 17 nt kind) 18 nt fr) 19 nt v) 20 nt ((u2 (u2 (u2 S 17 nt kind) 18 nt fr) 19 nt v) 0 0)) 6 0 ((nI nt) + 1))
def m_statute (S : Nat → Nat → Int32) (kind fr v : Int32) (nt : Nat)  : Int32 × (Nat → Nat → Int32) := if (isValS kind v = true) ∧ (0 ≤ fr ∧ fr ≤ 60) ∧ (¬ nI nt = 100) then ((((nI nt) + 1)), mS_statute S kind fr v nt) else ((-1), S)
set_option maxHeartbeats 4000000 in
set_option maxRecDepth 100000 in
theorem c_statute {l : Launch} {D : va_G} {cy : Nat → ClassId} {m0 : Nat} {ad : Nat → Nat} {S : Nat → Nat → Int32} (kind fr v : Int32) {nt : Nat} (ht : S 6 0 = nI nt) (hnt : nt ≤ 100) : mI l D cy yX11_statute (.code yX11_statute cX11_statute 4 ((Option.some FieldType.int))) 2 m0 ad [.int kind, .int fr, .int v] S (fun r S' => (r, S') = m_statute S kind fr v nt) := by
  refine m_ofI rfl (Nat.le_of_ble_eq_true rfl) (fun p e s m args below meth c A Q h0 C ret => ?_)
  refine jm_iload_n C dX11_statute_0 rfl ?_
  refine jm_iload_n C dX11_statute_1 rfl ?_
  refine jm_calls (As := [.int kind, .int v]) (rest := []) C fG_X11_173 (c_isValue (kind) (v)) rfl rfl (Nat.le_of_ble_eq_true rfl) ⟨Nat.le_of_ble_eq_true rfl, Nat.le_of_ble_eq_true rfl⟩ dX11_statute_2 (fun r_2 e_2 => ?_)
  subst e_2
  refine jm_ifeq_b (tgt := 27) C dX11_statute_5 (by decide) (fun c_5 => ?_) (fun c_5 => ?_)
  · refine jm_iconst (v := (-1)) C dX11_statute_27 (by decide) ?_
    exact ret _ _ _ _ (if_neg (fun z => by first | exact c_5 z.1 | exact z.1 c_5)).symm dX11_statute_28
  · refine jm_iload_n C dX11_statute_8 rfl ?_
    refine jm_iconst (v := 0) C dX11_statute_9 (by decide) ?_
    refine jm_bipush (v := 60) C dX11_statute_10 (by decide) ?_
    refine jm_calls (As := [.int fr, .int 0, .int 60]) (rest := []) C fG_X11_134 (c_in (fr) (0) (60)) rfl rfl (Nat.le_of_ble_eq_true rfl) ⟨Nat.le_of_ble_eq_true rfl, Nat.le_of_ble_eq_true rfl⟩ dX11_statute_12 (fun r_12 e_12 => ?_)
    subst e_12
    refine jm_ifeq_b (tgt := 27) C dX11_statute_15 (by decide) (fun c_15 => ?_) (fun c_15 => ?_)
    · refine jm_iconst (v := (-1)) C dX11_statute_27 (by decide) ?_
      exact ret _ _ _ _ (if_neg (fun z => by first | exact c_15 z.2.1 | exact z.2.1 c_15)).symm dX11_statute_28
    · refine jm_aload_n C dX11_statute_18 rfl ?_
      refine jm_getSe (v := nI nt) C fF_X11_177 (by decide) ht dX11_statute_19 ?_
      refine jm_bipush (v := 100) C dX11_statute_22 (by decide) ?_
      refine jm_icmp_ne (tgt := 29) C dX11_statute_24 (by decide) (fun c_24 => ?_) (fun c_24 => ?_)
      · have hlt : nt < 100 := ne_lt rfl c_24 (by omega)
        refine jm_aload_n C dX11_statute_29 rfl ?_
        refine jm_getA C fF_X11_34 (by decide) (by decide) dX11_statute_30 ?_
        refine jm_aload_n C dX11_statute_33 rfl ?_
        refine jm_getSe (v := nI nt) C fF_X11_177 (by decide) ht dX11_statute_34 ?_
        refine jm_iload_n C dX11_statute_37 rfl ?_
        refine jm_astN C 17 (n := 100) (by decide) (by decide) rfl (by omega) dX11_statute_38 ?_
        refine jm_aload_n C dX11_statute_39 rfl ?_
        refine jm_getA C fF_X11_37 (by decide) (by decide) dX11_statute_40 ?_
        refine jm_aload_n C dX11_statute_43 rfl ?_
        refine jm_getSe (v := nI nt) C fF_X11_177 (by decide) ht dX11_statute_44 ?_
        refine jm_iload_n C dX11_statute_47 rfl ?_
        refine jm_astN C 18 (n := 100) (by decide) (by decide) rfl (by omega) dX11_statute_48 ?_
        refine jm_aload_n C dX11_statute_49 rfl ?_
        refine jm_getA C fF_X11_40 (by decide) (by decide) dX11_statute_50 ?_
        refine jm_aload_n C dX11_statute_53 rfl ?_
        refine jm_getSe (v := nI nt) C fF_X11_177 (by decide) ht dX11_statute_54 ?_
        refine jm_iload_n C dX11_statute_57 rfl ?_
        refine jm_astN C 19 (n := 100) (by decide) (by decide) rfl (by omega) dX11_statute_58 ?_
        refine jm_aload_n C dX11_statute_59 rfl ?_
        refine jm_getA C fF_X11_43 (by decide) (by decide) dX11_statute_60 ?_
        refine jm_aload_n C dX11_statute_63 rfl ?_
        refine jm_getSe (v := nI nt) C fF_X11_177 (by decide) ht dX11_statute_64 ?_
        refine jm_aload_n C dX11_statute_67 rfl ?_
        refine jm_getS C fF_X11_141 (by decide) dX11_statute_68 ?_
        refine jm_astN C 20 (n := 100) (by decide) (by decide) rfl (by omega) dX11_statute_71 ?_
        refine jm_aload_n C dX11_statute_72 rfl ?_
        refine jm_dup C dX11_statute_73 rfl ?_
        refine jm_getSe (v := nI nt) C fF_X11_177 (by decide) ht dX11_statute_74 ?_
        refine jm_iconst (v := 1) C dX11_statute_77 (by decide) ?_
        refine jm_iadd C dX11_statute_78 ?_
        refine jm_putS C fP_X11_177 (by decide) dX11_statute_79 ?_
        refine jm_aload_n C dX11_statute_82 rfl ?_
        refine jm_getSe (v := ((nI nt) + 1)) C fF_X11_177 (by decide) rfl dX11_statute_83 ?_
        exact ret _ _ _ _ (if_pos ⟨c_5, c_15, c_24⟩).symm dX11_statute_86
      · refine jm_iconst (v := (-1)) C dX11_statute_27 (by decide) ?_
        exact ret _ _ _ _ (if_neg (fun z => by first | exact c_24 z.2.2 | exact z.2.2 c_24)).symm dX11_statute_28
def lotS (S : Nat → Nat → Int32) (so cr : Int32) (nl : Nat) : Nat → Nat → Int32 := (u2 (u2 (u2 (u2 (u2 (u2 (u2 (u2 (u2 (u2 S 2 0 ((nI nl) + 1)) 21 nl so) 22 nl cr) 23 nl 0) 24 nl ((u2 (u2 (u2 (u2 S 2 0 ((nI nl) + 1)) 21 nl so) 22 nl cr) 23 nl 0) 0 0)) 25 nl (-1)) 26 nl (-1)) 27 nl (-1)) 28 nl (-1)) 33 nl (-1))
set_option maxHeartbeats 4000000 in
set_option maxRecDepth 100000 in
theorem c_lot {l : Launch} {D : va_G} {cy : Nat → ClassId} {m0 : Nat} {ad : Nat → Nat} {S : Nat → Nat → Int32} (so cr : Int32) {nl : Nat} (hl : S 2 0 = nI nl) (hlt : nl < 200) : mI l D cy yX11_lot (.code yX11_lot cX11_lot 4 ((Option.some FieldType.int))) 1 m0 ad [.int so, .int cr] S (fun r S' => r = nI nl ∧ S' = lotS S so cr nl) := by
  refine m_ofI rfl (Nat.le_of_ble_eq_true rfl) (fun p e s m args below meth c A Q h0 C ret => ?_)
  refine jm_aload_n C dX11_lot_0 rfl ?_
  refine jm_getSe (v := nI nl) C fF_X11_138 (by decide) hl dX11_lot_1 ?_
  refine jm_istore_n (lv' := [(0, .ref m0), (1, .int so), (2, .int cr), (3, .int (nI nl))]) C dX11_lot_4 (by decide) rfl ?_
  refine jm_aload_n C dX11_lot_5 rfl ?_
  refine jm_dup C dX11_lot_6 rfl ?_
  refine jm_getSe (v := nI nl) C fF_X11_138 (by decide) hl dX11_lot_7 ?_
  refine jm_iconst (v := 1) C dX11_lot_10 (by decide) ?_
  refine jm_iadd C dX11_lot_11 ?_
  refine jm_putS C fP_X11_138 (by decide) dX11_lot_12 ?_
  refine jm_aload_n C dX11_lot_15 rfl ?_
  refine jm_getA C fF_X11_46 (by decide) (by decide) dX11_lot_16 ?_
  refine jm_iload_n C dX11_lot_19 rfl ?_
  refine jm_iload_n C dX11_lot_20 rfl ?_
  refine jm_astN C 21 (n := 200) (by decide) (by decide) rfl (by omega) dX11_lot_21 ?_
  refine jm_aload_n C dX11_lot_22 rfl ?_
  refine jm_getA C fF_X11_49 (by decide) (by decide) dX11_lot_23 ?_
  refine jm_iload_n C dX11_lot_26 rfl ?_
  refine jm_iload_n C dX11_lot_27 rfl ?_
  refine jm_astN C 22 (n := 200) (by decide) (by decide) rfl (by omega) dX11_lot_28 ?_
  refine jm_aload_n C dX11_lot_29 rfl ?_
  refine jm_getA C fF_X11_52 (by decide) (by decide) dX11_lot_30 ?_
  refine jm_iload_n C dX11_lot_33 rfl ?_
  refine jm_iconst (v := 0) C dX11_lot_34 (by decide) ?_
  refine jm_astN C 23 (n := 200) (by decide) (by decide) rfl (by omega) dX11_lot_35 ?_
  refine jm_aload_n C dX11_lot_36 rfl ?_
  refine jm_getA C fF_X11_55 (by decide) (by decide) dX11_lot_37 ?_
  refine jm_iload_n C dX11_lot_40 rfl ?_
  refine jm_aload_n C dX11_lot_41 rfl ?_
  refine jm_getS C fF_X11_141 (by decide) dX11_lot_42 ?_
  refine jm_astN C 24 (n := 200) (by decide) (by decide) rfl (by omega) dX11_lot_45 ?_
  refine jm_aload_n C dX11_lot_46 rfl ?_
  refine jm_getA C fF_X11_58 (by decide) (by decide) dX11_lot_47 ?_
  refine jm_iload_n C dX11_lot_50 rfl ?_
  refine jm_iconst (v := (-1)) C dX11_lot_51 (by decide) ?_
  refine jm_astN C 25 (n := 200) (by decide) (by decide) rfl (by omega) dX11_lot_52 ?_
  refine jm_aload_n C dX11_lot_53 rfl ?_
  refine jm_getA C fF_X11_61 (by decide) (by decide) dX11_lot_54 ?_
  refine jm_iload_n C dX11_lot_57 rfl ?_
  refine jm_iconst (v := (-1)) C dX11_lot_58 (by decide) ?_
  refine jm_astN C 26 (n := 200) (by decide) (by decide) rfl (by omega) dX11_lot_59 ?_
  refine jm_aload_n C dX11_lot_60 rfl ?_
  refine jm_getA C fF_X11_64 (by decide) (by decide) dX11_lot_61 ?_
  refine jm_iload_n C dX11_lot_64 rfl ?_
  refine jm_iconst (v := (-1)) C dX11_lot_65 (by decide) ?_
  refine jm_astN C 27 (n := 200) (by decide) (by decide) rfl (by omega) dX11_lot_66 ?_
  refine jm_aload_n C dX11_lot_67 rfl ?_
  refine jm_getA C fF_X11_67 (by decide) (by decide) dX11_lot_68 ?_
  refine jm_iload_n C dX11_lot_71 rfl ?_
  refine jm_iconst (v := (-1)) C dX11_lot_72 (by decide) ?_
  refine jm_astN C 28 (n := 200) (by decide) (by decide) rfl (by omega) dX11_lot_73 ?_
  refine jm_aload_n C dX11_lot_74 rfl ?_
  refine jm_getA C fF_X11_82 (by decide) (by decide) dX11_lot_75 ?_
  refine jm_iload_n C dX11_lot_78 rfl ?_
  refine jm_iconst (v := (-1)) C dX11_lot_79 (by decide) ?_
  refine jm_astN C 33 (n := 200) (by decide) (by decide) rfl (by omega) dX11_lot_80 ?_
  refine jm_iload_n C dX11_lot_81 rfl ?_
  exact ret _ _ _ _ ⟨rfl, rfl⟩ dX11_lot_82
def mS_tube (S : Nat → Nat → Int32) (cr : Int32) (nl : Nat)  : Nat → Nat → Int32 := (u2 (u2 (lotS S (0) (cr) nl) 23 nl 100) 28 nl 100)
def m_tube (S : Nat → Nat → Int32) (cr : Int32) (nl : Nat)  : Int32 × (Nat → Nat → Int32) := if (1 ≤ cr ∧ cr ≤ 4) ∧ (¬ nI nl = 200) then ((nI nl), mS_tube S cr nl) else ((-1), S)
set_option maxHeartbeats 4000000 in
set_option maxRecDepth 100000 in
theorem c_tube {l : Launch} {D : va_G} {cy : Nat → ClassId} {m0 : Nat} {ad : Nat → Nat} {S : Nat → Nat → Int32} (cr : Int32) {nl : Nat} (hl : S 2 0 = nI nl) (hnl : nl ≤ 200) : mI l D cy yX11_tube (.code yX11_tube cX11_tube 3 ((Option.some FieldType.int))) 2 m0 ad [.int cr] S (fun r S' => (r, S') = m_tube S cr nl) := by
  refine m_ofI rfl (Nat.le_of_ble_eq_true rfl) (fun p e s m args below meth c A Q h0 C ret => ?_)
  refine jm_iload_n C dX11_tube_0 rfl ?_
  refine jm_iconst (v := 1) C dX11_tube_1 (by decide) ?_
  refine jm_iconst (v := 4) C dX11_tube_2 (by decide) ?_
  refine jm_calls (As := [.int cr, .int 1, .int 4]) (rest := []) C fG_X11_134 (c_in (cr) (1) (4)) rfl rfl (Nat.le_of_ble_eq_true rfl) ⟨Nat.le_of_ble_eq_true rfl, Nat.le_of_ble_eq_true rfl⟩ dX11_tube_3 (fun r_3 e_3 => ?_)
  subst e_3
  refine jm_ifeq_b (tgt := 19) C dX11_tube_6 (by decide) (fun c_6 => ?_) (fun c_6 => ?_)
  · refine jm_iconst (v := (-1)) C dX11_tube_19 (by decide) ?_
    exact ret _ _ _ _ (if_neg (fun z => by first | exact c_6 z.1 | exact z.1 c_6)).symm dX11_tube_20
  · refine jm_aload_n C dX11_tube_9 rfl ?_
    refine jm_getSe (v := nI nl) C fF_X11_138 (by decide) hl dX11_tube_10 ?_
    refine jm_sipush (v := 200) C dX11_tube_13 (by decide) ?_
    refine jm_icmp_ne (tgt := 21) C dX11_tube_16 (by decide) (fun c_16 => ?_) (fun c_16 => ?_)
    · have hlt : nl < 200 := ne_lt rfl c_16 (by omega)
      refine jm_aload_n C dX11_tube_21 rfl ?_
      refine jm_iconst (v := 0) C dX11_tube_22 (by decide) ?_
      refine jm_iload_n C dX11_tube_23 rfl ?_
      refine jm_calli (As := [.int 0, .int cr]) (rest := []) C fG_X11_183 (c_lot (0) (cr) hl hlt) rfl rfl (Nat.le_of_ble_eq_true rfl) ⟨Nat.le_of_ble_eq_true rfl, Nat.le_of_ble_eq_true rfl⟩ dX11_tube_24 (fun r_24 S_24 e_24 => ?_)
      obtain ⟨e1_24, e2_24⟩ := e_24
      subst e1_24
      replace e2_24 := e2_24.symm
      subst e2_24
      refine jm_istore_n (lv' := [(0, .ref m0), (1, .int cr), (2, .int (nI nl))]) C dX11_tube_27 (by decide) rfl ?_
      refine jm_aload_n C dX11_tube_28 rfl ?_
      refine jm_getA C fF_X11_52 (by decide) (by decide) dX11_tube_29 ?_
      refine jm_iload_n C dX11_tube_32 rfl ?_
      refine jm_bipush (v := 100) C dX11_tube_33 (by decide) ?_
      refine jm_astN C 23 (n := 200) (by decide) (by decide) rfl (by omega) dX11_tube_35 ?_
      refine jm_aload_n C dX11_tube_36 rfl ?_
      refine jm_getA C fF_X11_67 (by decide) (by decide) dX11_tube_37 ?_
      refine jm_iload_n C dX11_tube_40 rfl ?_
      refine jm_bipush (v := 100) C dX11_tube_41 (by decide) ?_
      refine jm_astN C 28 (n := 200) (by decide) (by decide) rfl (by omega) dX11_tube_43 ?_
      refine jm_iload_n C dX11_tube_44 rfl ?_
      exact ret _ _ _ _ (if_pos ⟨c_6, c_16⟩).symm dX11_tube_45
    · refine jm_iconst (v := (-1)) C dX11_tube_19 (by decide) ?_
      exact ret _ _ _ _ (if_neg (fun z => by first | exact c_16 z.2 | exact z.2 c_16)).symm dX11_tube_20
def mS_sow (S : Nat → Nat → Int32) (fr fd g : Int32) (nl : Nat)  : Nat → Nat → Int32 := (u2 (u2 (u2 (u2 (lotS S (1) ((S 22 (fr).toNatClampNeg)) nl) 23 (fr).toNatClampNeg (((lotS S (1) ((S 22 (fr).toNatClampNeg)) nl) 23 (fr).toNatClampNeg) - g)) 29 (fr).toNatClampNeg (((u2 (lotS S (1) ((S 22 (fr).toNatClampNeg)) nl) 23 (fr).toNatClampNeg (((lotS S (1) ((S 22 (fr).toNatClampNeg)) nl) 23 (fr).toNatClampNeg) - g)) 29 (fr).toNatClampNeg) + g)) 26 nl fr) 25 nl fd)
def m_sow (S : Nat → Nat → Int32) (fr fd g : Int32) (nl : Nat)  : Int32 × (Nat → Nat → Int32) := if (0 ≤ fr ∧ fr ≤ S 2 0 - 1) ∧ (0 ≤ fd ∧ fd ≤ S 1 0 - 1) ∧ (¬ g < 1) ∧ (¬ 200 ≤ nI nl) ∧ (¬ S 23 fr.toNatClampNeg < g) ∧ (S 21 fr.toNatClampNeg = 0 ∨ ¬ S 24 fr.toNatClampNeg = S 0 0) ∧ (lotInS S fd (S 0 0) nl = -1) then ((nI nl), mS_sow S fr fd g nl) else ((-1), S)
set_option maxHeartbeats 4000000 in
set_option maxRecDepth 100000 in
theorem c_sow {l : Launch} {D : va_G} {cy : Nat → ClassId} {m0 : Nat} {ad : Nat → Nat} {S : Nat → Nat → Int32} (fr fd g : Int32) {nf : Nat} (hf : S 1 0 = nI nf) (hnf : nf ≤ 40) {nl : Nat} (hl : S 2 0 = nI nl) (hnl : nl ≤ 200) : mI l D cy yX11_sow (.code yX11_sow cX11_sow 6 ((Option.some FieldType.int))) 2 m0 ad [.int fr, .int fd, .int g] S (fun r S' => (r, S') = m_sow S fr fd g nl) := by
  refine m_ofI rfl (Nat.le_of_ble_eq_true rfl) (fun p e s m args below meth c A Q h0 C ret => ?_)
  refine jm_aload_n C dX11_sow_0 rfl ?_
  refine jm_iload_n C dX11_sow_1 rfl ?_
  refine jm_calli (As := [.int fr]) (rest := []) C fG_X11_186 (c_isLot (fr)) rfl rfl (Nat.le_of_ble_eq_true rfl) ⟨Nat.le_of_ble_eq_true rfl, Nat.le_of_ble_eq_true rfl⟩ dX11_sow_2 (fun r_2 S_2 e_2 => ?_)
  obtain ⟨e1_2, e2_2⟩ := e_2
  subst e1_2
  replace e2_2 := e2_2.symm
  subst e2_2
  refine jm_ifeq_b (tgt := 35) C dX11_sow_5 (by decide) (fun c_5 => ?_) (fun c_5 => ?_)
  · refine jm_iconst (v := 0) C dX11_sow_35 (by decide) ?_
    refine jm_istore (lv' := [(0, .ref m0), (1, .int fr), (2, .int fd), (3, .int g), (4, .int 0)]) C dX11_sow_36 (by decide) rfl ?_
    refine jm_iload C dX11_sow_38 rfl ?_
    refine jm_if_eq (tgt := 88) C dX11_sow_40 (by decide) (fun c_40 => ?_) (fun c_40 => ?_)
    · refine jm_iconst (v := (-1)) C dX11_sow_88 (by decide) ?_
      exact ret _ _ _ _ (if_neg (fun z => by first | exact c_5 z.1 | exact z.1 c_5)).symm dX11_sow_89
    · exact absurd rfl c_40
  · refine jm_aload_n C dX11_sow_8 rfl ?_
    refine jm_iload_n C dX11_sow_9 rfl ?_
    refine jm_calli (As := [.int fd]) (rest := []) C fG_X11_153 (c_isField (fd)) rfl rfl (Nat.le_of_ble_eq_true rfl) ⟨Nat.le_of_ble_eq_true rfl, Nat.le_of_ble_eq_true rfl⟩ dX11_sow_10 (fun r_10 S_10 e_10 => ?_)
    obtain ⟨e1_10, e2_10⟩ := e_10
    subst e1_10
    replace e2_10 := e2_10.symm
    subst e2_10
    refine jm_ifeq_b (tgt := 35) C dX11_sow_13 (by decide) (fun c_13 => ?_) (fun c_13 => ?_)
    · refine jm_iconst (v := 0) C dX11_sow_35 (by decide) ?_
      refine jm_istore (lv' := [(0, .ref m0), (1, .int fr), (2, .int fd), (3, .int g), (4, .int 0)]) C dX11_sow_36 (by decide) rfl ?_
      refine jm_iload C dX11_sow_38 rfl ?_
      refine jm_if_eq (tgt := 88) C dX11_sow_40 (by decide) (fun c_40 => ?_) (fun c_40 => ?_)
      · refine jm_iconst (v := (-1)) C dX11_sow_88 (by decide) ?_
        exact ret _ _ _ _ (if_neg (fun z => by first | exact c_13 z.2.1 | exact z.2.1 c_13)).symm dX11_sow_89
      · exact absurd rfl c_40
    · refine jm_iload_n C dX11_sow_16 rfl ?_
      refine jm_iconst (v := 1) C dX11_sow_17 (by decide) ?_
      refine jm_icmp_lt (tgt := 35) C dX11_sow_18 (by decide) (fun c_18 => ?_) (fun c_18 => ?_)
      · refine jm_iconst (v := 0) C dX11_sow_35 (by decide) ?_
        refine jm_istore (lv' := [(0, .ref m0), (1, .int fr), (2, .int fd), (3, .int g), (4, .int 0)]) C dX11_sow_36 (by decide) rfl ?_
        refine jm_iload C dX11_sow_38 rfl ?_
        refine jm_if_eq (tgt := 88) C dX11_sow_40 (by decide) (fun c_40 => ?_) (fun c_40 => ?_)
        · refine jm_iconst (v := (-1)) C dX11_sow_88 (by decide) ?_
          exact ret _ _ _ _ (if_neg (fun z => by first | exact c_18 z.2.2.1 | exact z.2.2.1 c_18)).symm dX11_sow_89
        · exact absurd rfl c_40
      · refine jm_aload_n C dX11_sow_21 rfl ?_
        refine jm_getSe (v := nI nl) C fF_X11_138 (by decide) hl dX11_sow_22 ?_
        refine jm_sipush (v := 200) C dX11_sow_25 (by decide) ?_
        refine jm_icmp_ge (tgt := 35) C dX11_sow_28 (by decide) (fun c_28 => ?_) (fun c_28 => ?_)
        · refine jm_iconst (v := 0) C dX11_sow_35 (by decide) ?_
          refine jm_istore (lv' := [(0, .ref m0), (1, .int fr), (2, .int fd), (3, .int g), (4, .int 0)]) C dX11_sow_36 (by decide) rfl ?_
          refine jm_iload C dX11_sow_38 rfl ?_
          refine jm_if_eq (tgt := 88) C dX11_sow_40 (by decide) (fun c_40 => ?_) (fun c_40 => ?_)
          · refine jm_iconst (v := (-1)) C dX11_sow_88 (by decide) ?_
            exact ret _ _ _ _ (if_neg (fun z => by first | exact c_28 z.2.2.2.1 | exact z.2.2.2.1 c_28)).symm dX11_sow_89
          · exact absurd rfl c_40
        · refine jm_iconst (v := 1) C dX11_sow_31 (by decide) ?_
          refine jm_goto (tgt := 36) C dX11_sow_32 (by decide) ?_
          refine jm_istore (lv' := [(0, .ref m0), (1, .int fr), (2, .int fd), (3, .int g), (4, .int 1)]) C dX11_sow_36 (by decide) rfl ?_
          refine jm_iload C dX11_sow_38 rfl ?_
          refine jm_if_eq (tgt := 88) C dX11_sow_40 (by decide) (fun c_40 => ?_) (fun c_40 => ?_)
          · exact absurd c_40 (by decide)
          refine jm_iload_n C dX11_sow_43 rfl ?_
          refine jm_aload_n C dX11_sow_44 rfl ?_
          refine jm_getA C fF_X11_52 (by decide) (by decide) dX11_sow_45 ?_
          refine jm_iload_n C dX11_sow_48 rfl ?_
          refine jm_ald C 23 (n := 200) (by decide) (by decide) rfl (in_vp hl hnl c_5) dX11_sow_49 ?_
          refine jm_icmp_gt (tgt := 88) C dX11_sow_50 (by decide) (fun c_50 => ?_) (fun c_50 => ?_)
          · refine jm_iconst (v := (-1)) C dX11_sow_88 (by decide) ?_
            exact ret _ _ _ _ (if_neg (fun z => by first | exact c_50 z.2.2.2.2.1 | exact z.2.2.2.2.1 c_50)).symm dX11_sow_89
          · refine jm_aload_n C dX11_sow_53 rfl ?_
            refine jm_getA C fF_X11_46 (by decide) (by decide) dX11_sow_54 ?_
            refine jm_iload_n C dX11_sow_57 rfl ?_
            refine jm_ald C 21 (n := 200) (by decide) (by decide) rfl (in_vp hl hnl c_5) dX11_sow_58 ?_
            refine jm_if_eq (tgt := 75) C dX11_sow_59 (by decide) (fun c_59 => ?_) (fun c_59 => ?_)
            · refine jm_aload_n C dX11_sow_75 rfl ?_
              refine jm_iload_n C dX11_sow_76 rfl ?_
              refine jm_aload_n C dX11_sow_77 rfl ?_
              refine jm_getS C fF_X11_141 (by decide) dX11_sow_78 ?_
              refine jm_calli (As := [.int fd, .int (S 0 0)]) (rest := []) C fG_X11_166 (c_lotIn (fd) ((S 0 0)) hl hnl) rfl rfl (Nat.le_of_ble_eq_true rfl) ⟨Nat.le_of_ble_eq_true rfl, Nat.le_of_ble_eq_true rfl⟩ dX11_sow_81 (fun r_81 S_81 e_81 => ?_)
              obtain ⟨e1_81, e2_81⟩ := e_81
              subst e1_81
              replace e2_81 := e2_81.symm
              subst e2_81
              refine jm_iconst (v := (-1)) C dX11_sow_84 (by decide) ?_
              refine jm_icmp_eq (tgt := 90) C dX11_sow_85 (by decide) (fun c_85 => ?_) (fun c_85 => ?_)
              · have hlt : nl < 200 := nge_lt rfl c_28 (by omega)
                refine jm_aload_n C dX11_sow_90 rfl ?_
                refine jm_iconst (v := 1) C dX11_sow_91 (by decide) ?_
                refine jm_aload_n C dX11_sow_92 rfl ?_
                refine jm_getA C fF_X11_49 (by decide) (by decide) dX11_sow_93 ?_
                refine jm_iload_n C dX11_sow_96 rfl ?_
                refine jm_ald C 22 (n := 200) (by decide) (by decide) rfl (in_vp hl hnl c_5) dX11_sow_97 ?_
                refine jm_calli (As := [.int 1, .int (S 22 (fr).toNatClampNeg)]) (rest := []) C fG_X11_183 (c_lot (1) ((S 22 (fr).toNatClampNeg)) hl hlt) rfl rfl (Nat.le_of_ble_eq_true rfl) ⟨Nat.le_of_ble_eq_true rfl, Nat.le_of_ble_eq_true rfl⟩ dX11_sow_98 (fun r_98 S_98 e_98 => ?_)
                obtain ⟨e1_98, e2_98⟩ := e_98
                subst e1_98
                replace e2_98 := e2_98.symm
                subst e2_98
                refine jm_istore (lv' := [(0, .ref m0), (1, .int fr), (2, .int fd), (3, .int g), (4, .int 1), (5, .int (nI nl))]) C dX11_sow_101 (by decide) rfl ?_
                refine jm_aload_n C dX11_sow_103 rfl ?_
                refine jm_getA C fF_X11_52 (by decide) (by decide) dX11_sow_104 ?_
                refine jm_iload_n C dX11_sow_107 rfl ?_
                refine jm_dup2 C dX11_sow_108 rfl rfl ?_
                refine jm_ald C 23 (n := 200) (by decide) (by decide) rfl (in_vp hl hnl c_5) dX11_sow_109 ?_
                refine jm_iload_n C dX11_sow_110 rfl ?_
                refine jm_isub C dX11_sow_111 ?_
                refine jm_ast C 23 (n := 200) (by decide) (by decide) rfl (in_vp hl hnl c_5) dX11_sow_112 ?_
                refine jm_aload_n C dX11_sow_113 rfl ?_
                refine jm_getA C fF_X11_70 (by decide) (by decide) dX11_sow_114 ?_
                refine jm_iload_n C dX11_sow_117 rfl ?_
                refine jm_dup2 C dX11_sow_118 rfl rfl ?_
                refine jm_ald C 29 (n := 200) (by decide) (by decide) rfl (in_vp hl hnl c_5) dX11_sow_119 ?_
                refine jm_iload_n C dX11_sow_120 rfl ?_
                refine jm_iadd C dX11_sow_121 ?_
                refine jm_ast C 29 (n := 200) (by decide) (by decide) rfl (in_vp hl hnl c_5) dX11_sow_122 ?_
                refine jm_aload_n C dX11_sow_123 rfl ?_
                refine jm_getA C fF_X11_61 (by decide) (by decide) dX11_sow_124 ?_
                refine jm_iload C dX11_sow_127 rfl ?_
                refine jm_iload_n C dX11_sow_129 rfl ?_
                refine jm_astN C 26 (n := 200) (by decide) (by decide) rfl (by omega) dX11_sow_130 ?_
                refine jm_aload_n C dX11_sow_131 rfl ?_
                refine jm_getA C fF_X11_58 (by decide) (by decide) dX11_sow_132 ?_
                refine jm_iload C dX11_sow_135 rfl ?_
                refine jm_iload_n C dX11_sow_137 rfl ?_
                refine jm_astN C 25 (n := 200) (by decide) (by decide) rfl (by omega) dX11_sow_138 ?_
                refine jm_iload C dX11_sow_139 rfl ?_
                exact ret _ _ _ _ (if_pos ⟨c_5, c_13, c_18, c_28, c_50, Or.inl c_59, c_85⟩).symm dX11_sow_141
              · refine jm_iconst (v := (-1)) C dX11_sow_88 (by decide) ?_
                exact ret _ _ _ _ (if_neg (fun z => by first | exact c_85 z.2.2.2.2.2.2 | exact z.2.2.2.2.2.2 c_85)).symm dX11_sow_89
            · refine jm_aload_n C dX11_sow_62 rfl ?_
              refine jm_getA C fF_X11_55 (by decide) (by decide) dX11_sow_63 ?_
              refine jm_iload_n C dX11_sow_66 rfl ?_
              refine jm_ald C 24 (n := 200) (by decide) (by decide) rfl (in_vp hl hnl c_5) dX11_sow_67 ?_
              refine jm_aload_n C dX11_sow_68 rfl ?_
              refine jm_getS C fF_X11_141 (by decide) dX11_sow_69 ?_
              refine jm_icmp_eq (tgt := 88) C dX11_sow_72 (by decide) (fun c_72 => ?_) (fun c_72 => ?_)
              · refine jm_iconst (v := (-1)) C dX11_sow_88 (by decide) ?_
                exact ret _ _ _ _ (if_neg (fun z => z.2.2.2.2.2.1.elim c_59 (fun q => q c_72))).symm dX11_sow_89
              · refine jm_aload_n C dX11_sow_75 rfl ?_
                refine jm_iload_n C dX11_sow_76 rfl ?_
                refine jm_aload_n C dX11_sow_77 rfl ?_
                refine jm_getS C fF_X11_141 (by decide) dX11_sow_78 ?_
                refine jm_calli (As := [.int fd, .int (S 0 0)]) (rest := []) C fG_X11_166 (c_lotIn (fd) ((S 0 0)) hl hnl) rfl rfl (Nat.le_of_ble_eq_true rfl) ⟨Nat.le_of_ble_eq_true rfl, Nat.le_of_ble_eq_true rfl⟩ dX11_sow_81 (fun r_81 S_81 e_81 => ?_)
                obtain ⟨e1_81, e2_81⟩ := e_81
                subst e1_81
                replace e2_81 := e2_81.symm
                subst e2_81
                refine jm_iconst (v := (-1)) C dX11_sow_84 (by decide) ?_
                refine jm_icmp_eq (tgt := 90) C dX11_sow_85 (by decide) (fun c_85 => ?_) (fun c_85 => ?_)
                · have hlt : nl < 200 := nge_lt rfl c_28 (by omega)
                  refine jm_aload_n C dX11_sow_90 rfl ?_
                  refine jm_iconst (v := 1) C dX11_sow_91 (by decide) ?_
                  refine jm_aload_n C dX11_sow_92 rfl ?_
                  refine jm_getA C fF_X11_49 (by decide) (by decide) dX11_sow_93 ?_
                  refine jm_iload_n C dX11_sow_96 rfl ?_
                  refine jm_ald C 22 (n := 200) (by decide) (by decide) rfl (in_vp hl hnl c_5) dX11_sow_97 ?_
                  refine jm_calli (As := [.int 1, .int (S 22 (fr).toNatClampNeg)]) (rest := []) C fG_X11_183 (c_lot (1) ((S 22 (fr).toNatClampNeg)) hl hlt) rfl rfl (Nat.le_of_ble_eq_true rfl) ⟨Nat.le_of_ble_eq_true rfl, Nat.le_of_ble_eq_true rfl⟩ dX11_sow_98 (fun r_98 S_98 e_98 => ?_)
                  obtain ⟨e1_98, e2_98⟩ := e_98
                  subst e1_98
                  replace e2_98 := e2_98.symm
                  subst e2_98
                  refine jm_istore (lv' := [(0, .ref m0), (1, .int fr), (2, .int fd), (3, .int g), (4, .int 1), (5, .int (nI nl))]) C dX11_sow_101 (by decide) rfl ?_
                  refine jm_aload_n C dX11_sow_103 rfl ?_
                  refine jm_getA C fF_X11_52 (by decide) (by decide) dX11_sow_104 ?_
                  refine jm_iload_n C dX11_sow_107 rfl ?_
                  refine jm_dup2 C dX11_sow_108 rfl rfl ?_
                  refine jm_ald C 23 (n := 200) (by decide) (by decide) rfl (in_vp hl hnl c_5) dX11_sow_109 ?_
                  refine jm_iload_n C dX11_sow_110 rfl ?_
                  refine jm_isub C dX11_sow_111 ?_
                  refine jm_ast C 23 (n := 200) (by decide) (by decide) rfl (in_vp hl hnl c_5) dX11_sow_112 ?_
                  refine jm_aload_n C dX11_sow_113 rfl ?_
                  refine jm_getA C fF_X11_70 (by decide) (by decide) dX11_sow_114 ?_
                  refine jm_iload_n C dX11_sow_117 rfl ?_
                  refine jm_dup2 C dX11_sow_118 rfl rfl ?_
                  refine jm_ald C 29 (n := 200) (by decide) (by decide) rfl (in_vp hl hnl c_5) dX11_sow_119 ?_
                  refine jm_iload_n C dX11_sow_120 rfl ?_
                  refine jm_iadd C dX11_sow_121 ?_
                  refine jm_ast C 29 (n := 200) (by decide) (by decide) rfl (in_vp hl hnl c_5) dX11_sow_122 ?_
                  refine jm_aload_n C dX11_sow_123 rfl ?_
                  refine jm_getA C fF_X11_61 (by decide) (by decide) dX11_sow_124 ?_
                  refine jm_iload C dX11_sow_127 rfl ?_
                  refine jm_iload_n C dX11_sow_129 rfl ?_
                  refine jm_astN C 26 (n := 200) (by decide) (by decide) rfl (by omega) dX11_sow_130 ?_
                  refine jm_aload_n C dX11_sow_131 rfl ?_
                  refine jm_getA C fF_X11_58 (by decide) (by decide) dX11_sow_132 ?_
                  refine jm_iload C dX11_sow_135 rfl ?_
                  refine jm_iload_n C dX11_sow_137 rfl ?_
                  refine jm_astN C 25 (n := 200) (by decide) (by decide) rfl (by omega) dX11_sow_138 ?_
                  refine jm_iload C dX11_sow_139 rfl ?_
                  exact ret _ _ _ _ (if_pos ⟨c_5, c_13, c_18, c_28, c_50, Or.inr c_72, c_85⟩).symm dX11_sow_141
                · refine jm_iconst (v := (-1)) C dX11_sow_88 (by decide) ?_
                  exact ret _ _ _ _ (if_neg (fun z => by first | exact c_85 z.2.2.2.2.2.2 | exact z.2.2.2.2.2.2 c_85)).symm dX11_sow_89
def mS_harvest (S : Nat → Nat → Int32) (lt g : Int32)  : Nat → Nat → Int32 := (u2 (u2 S 23 (lt).toNatClampNeg g) 28 (lt).toNatClampNeg g)
def m_harvest (S : Nat → Nat → Int32) (lt g : Int32)  : Int32 × (Nat → Nat → Int32) := if (0 ≤ lt ∧ lt ≤ S 2 0 - 1) ∧ (S 21 lt.toNatClampNeg = 1) ∧ (S 28 lt.toNatClampNeg = -1) ∧ (1 ≤ g ∧ g ≤ 100000) then (1, mS_harvest S lt g) else (0, S)
set_option maxHeartbeats 4000000 in
set_option maxRecDepth 100000 in
theorem c_harvest {l : Launch} {D : va_G} {cy : Nat → ClassId} {m0 : Nat} {ad : Nat → Nat} {S : Nat → Nat → Int32} (lt g : Int32) {nl : Nat} (hl : S 2 0 = nI nl) (hnl : nl ≤ 200) : mI l D cy yX11_harvest (.code yX11_harvest cX11_harvest 3 ((Option.some FieldType.boolean))) 2 m0 ad [.int lt, .int g] S (fun r S' => (r, S') = m_harvest S lt g) := by
  refine m_ofZ rfl (Nat.le_of_ble_eq_true rfl) (fun p e s m args below meth c A Q h0 C ret => ?_)
  refine jm_aload_n C dX11_harvest_0 rfl ?_
  refine jm_iload_n C dX11_harvest_1 rfl ?_
  refine jm_calli (As := [.int lt]) (rest := []) C fG_X11_186 (c_isLot (lt)) rfl rfl (Nat.le_of_ble_eq_true rfl) ⟨Nat.le_of_ble_eq_true rfl, Nat.le_of_ble_eq_true rfl⟩ dX11_harvest_2 (fun r_2 S_2 e_2 => ?_)
  obtain ⟨e1_2, e2_2⟩ := e_2
  subst e1_2
  replace e2_2 := e2_2.symm
  subst e2_2
  refine jm_ifeq_b (tgt := 38) C dX11_harvest_5 (by decide) (fun c_5 => ?_) (fun c_5 => ?_)
  · refine jm_iconst (v := 0) C dX11_harvest_38 (by decide) ?_
    exact ret _ _ _ _ (if_neg (fun z => by first | exact c_5 z.1 | exact z.1 c_5)).symm (by decide) dX11_harvest_39
  · refine jm_aload_n C dX11_harvest_8 rfl ?_
    refine jm_getA C fF_X11_46 (by decide) (by decide) dX11_harvest_9 ?_
    refine jm_iload_n C dX11_harvest_12 rfl ?_
    refine jm_ald C 21 (n := 200) (by decide) (by decide) rfl (in_vp hl hnl c_5) dX11_harvest_13 ?_
    refine jm_iconst (v := 1) C dX11_harvest_14 (by decide) ?_
    refine jm_icmp_ne (tgt := 38) C dX11_harvest_15 (by decide) (fun c_15 => ?_) (fun c_15 => ?_)
    · refine jm_iconst (v := 0) C dX11_harvest_38 (by decide) ?_
      exact ret _ _ _ _ (if_neg (fun z => by first | exact c_15 z.2.1 | exact z.2.1 c_15)).symm (by decide) dX11_harvest_39
    · refine jm_aload_n C dX11_harvest_18 rfl ?_
      refine jm_getA C fF_X11_67 (by decide) (by decide) dX11_harvest_19 ?_
      refine jm_iload_n C dX11_harvest_22 rfl ?_
      refine jm_ald C 28 (n := 200) (by decide) (by decide) rfl (in_vp hl hnl c_5) dX11_harvest_23 ?_
      refine jm_iconst (v := (-1)) C dX11_harvest_24 (by decide) ?_
      refine jm_icmp_ne (tgt := 38) C dX11_harvest_25 (by decide) (fun c_25 => ?_) (fun c_25 => ?_)
      · refine jm_iconst (v := 0) C dX11_harvest_38 (by decide) ?_
        exact ret _ _ _ _ (if_neg (fun z => by first | exact c_25 z.2.2.1 | exact z.2.2.1 c_25)).symm (by decide) dX11_harvest_39
      · refine jm_iload_n C dX11_harvest_28 rfl ?_
        refine jm_iconst (v := 1) C dX11_harvest_29 (by decide) ?_
        refine jm_ldc C dX11_harvest_30 kK_X11_189 ?_
        refine jm_calls (As := [.int g, .int 1, .int 100000]) (rest := []) C fG_X11_134 (c_in (g) (1) (100000)) rfl rfl (Nat.le_of_ble_eq_true rfl) ⟨Nat.le_of_ble_eq_true rfl, Nat.le_of_ble_eq_true rfl⟩ dX11_harvest_32 (fun r_32 e_32 => ?_)
        subst e_32
        refine jm_ifne_b (tgt := 40) C dX11_harvest_35 (by decide) (fun c_35 => ?_) (fun c_35 => ?_)
        · refine jm_aload_n C dX11_harvest_40 rfl ?_
          refine jm_getA C fF_X11_52 (by decide) (by decide) dX11_harvest_41 ?_
          refine jm_iload_n C dX11_harvest_44 rfl ?_
          refine jm_iload_n C dX11_harvest_45 rfl ?_
          refine jm_ast C 23 (n := 200) (by decide) (by decide) rfl (in_vp hl hnl c_5) dX11_harvest_46 ?_
          refine jm_aload_n C dX11_harvest_47 rfl ?_
          refine jm_getA C fF_X11_67 (by decide) (by decide) dX11_harvest_48 ?_
          refine jm_iload_n C dX11_harvest_51 rfl ?_
          refine jm_iload_n C dX11_harvest_52 rfl ?_
          refine jm_ast C 28 (n := 200) (by decide) (by decide) rfl (in_vp hl hnl c_5) dX11_harvest_53 ?_
          refine jm_iconst (v := 1) C dX11_harvest_54 (by decide) ?_
          exact ret _ _ _ _ (if_pos ⟨c_5, c_15, c_25, c_35⟩).symm (by decide) dX11_harvest_55
        · refine jm_iconst (v := 0) C dX11_harvest_38 (by decide) ?_
          exact ret _ _ _ _ (if_neg (fun z => by first | exact c_35 z.2.2.2 | exact z.2.2.2 c_35)).symm (by decide) dX11_harvest_39
def mS_mix (S : Nat → Nat → Int32) (one g oth more : Int32) (nl : Nat)  : Nat → Nat → Int32 := (u2 (u2 (u2 (u2 (u2 (u2 (u2 (u2 (lotS S (2) ((S 22 (one).toNatClampNeg)) nl) 23 (one).toNatClampNeg (((lotS S (2) ((S 22 (one).toNatClampNeg)) nl) 23 (one).toNatClampNeg) - g)) 23 (oth).toNatClampNeg (((u2 (lotS S (2) ((S 22 (one).toNatClampNeg)) nl) 23 (one).toNatClampNeg (((lotS S (2) ((S 22 (one).toNatClampNeg)) nl) 23 (one).toNatClampNeg) - g)) 23 (oth).toNatClampNeg) - more)) 30 (one).toNatClampNeg (((u2 (u2 (lotS S (2) ((S 22 (one).toNatClampNeg)) nl) 23 (one).toNatClampNeg (((lotS S (2) ((S 22 (one).toNatClampNeg)) nl) 23 (one).toNatClampNeg) - g)) 23 (oth).toNatClampNeg (((u2 (lotS S (2) ((S 22 (one).toNatClampNeg)) nl) 23 (one).toNatClampNeg (((lotS S (2) ((S 22 (one).toNatClampNeg)) nl) 23 (one).toNatClampNeg) - g)) 23 (oth).toNatClampNeg) - more)) 30 (one).toNatClampNeg) + g)) 30 (oth).toNatClampNeg (((u2 (u2 (u2 (lotS S (2) ((S 22 (one).toNatClampNeg)) nl) 23 (one).toNatClampNeg (((lotS S (2) ((S 22 (one).toNatClampNeg)) nl) 23 (one).toNatClampNeg) - g)) 23 (oth).toNatClampNeg (((u2 (lotS S (2) ((S 22 (one).toNatClampNeg)) nl) 23 (one).toNatClampNeg (((lotS S (2) ((S 22 (one).toNatClampNeg)) nl) 23 (one).toNatClampNeg) - g)) 23 (oth).toNatClampNeg) - more)) 30 (one).toNatClampNeg (((u2 (u2 (lotS S (2) ((S 22 (one).toNatClampNeg)) nl) 23 (one).toNatClampNeg (((lotS S (2) ((S 22 (one).toNatClampNeg)) nl) 23 (one).toNatClampNeg) - g)) 23 (oth).toNatClampNeg (((u2 (lotS S (2) ((S 22 (one).toNatClampNeg)) nl) 23 (one).toNatClampNeg (((lotS S (2) ((S 22 (one).toNatClampNeg)) nl) 23 (one).toNatClampNeg) - g)) 23 (oth).toNatClampNeg) - more)) 30 (one).toNatClampNeg) + g)) 30 (oth).toNatClampNeg) + more)) 23 nl (g + more)) 28 nl (g + more)) 26 nl one) 27 nl oth)
def m_mix (S : Nat → Nat → Int32) (one g oth more : Int32) (nl : Nat)  : Int32 × (Nat → Nat → Int32) := if (0 ≤ one ∧ one ≤ S 2 0 - 1) ∧ (0 ≤ oth ∧ oth ≤ S 2 0 - 1) ∧ (¬ one = oth) ∧ (¬ g < 1) ∧ (¬ more < 1) ∧ (¬ 200 ≤ nI nl) ∧ (S 22 one.toNatClampNeg = S 22 oth.toNatClampNeg) ∧ (¬ S 23 one.toNatClampNeg < g) ∧ (more ≤ S 23 oth.toNatClampNeg) then ((nI nl), mS_mix S one g oth more nl) else ((-1), S)
set_option maxHeartbeats 4000000 in
set_option maxRecDepth 100000 in
theorem c_mix {l : Launch} {D : va_G} {cy : Nat → ClassId} {m0 : Nat} {ad : Nat → Nat} {S : Nat → Nat → Int32} (one g oth more : Int32) {nl : Nat} (hl : S 2 0 = nI nl) (hnl : nl ≤ 200) : mI l D cy yX11_mix (.code yX11_mix cX11_mix 7 ((Option.some FieldType.int))) 2 m0 ad [.int one, .int g, .int oth, .int more] S (fun r S' => (r, S') = m_mix S one g oth more nl) := by
  refine m_ofI rfl (Nat.le_of_ble_eq_true rfl) (fun p e s m args below meth c A Q h0 C ret => ?_)
  refine jm_aload_n C dX11_mix_0 rfl ?_
  refine jm_iload_n C dX11_mix_1 rfl ?_
  refine jm_calli (As := [.int one]) (rest := []) C fG_X11_186 (c_isLot (one)) rfl rfl (Nat.le_of_ble_eq_true rfl) ⟨Nat.le_of_ble_eq_true rfl, Nat.le_of_ble_eq_true rfl⟩ dX11_mix_2 (fun r_2 S_2 e_2 => ?_)
  obtain ⟨e1_2, e2_2⟩ := e_2
  subst e1_2
  replace e2_2 := e2_2.symm
  subst e2_2
  refine jm_ifeq_b (tgt := 46) C dX11_mix_5 (by decide) (fun c_5 => ?_) (fun c_5 => ?_)
  · refine jm_iconst (v := 0) C dX11_mix_46 (by decide) ?_
    refine jm_istore (lv' := [(0, .ref m0), (1, .int one), (2, .int g), (3, .int oth), (4, .int more), (5, .int 0)]) C dX11_mix_47 (by decide) rfl ?_
    refine jm_iload C dX11_mix_49 rfl ?_
    refine jm_if_eq (tgt := 90) C dX11_mix_51 (by decide) (fun c_51 => ?_) (fun c_51 => ?_)
    · refine jm_iconst (v := (-1)) C dX11_mix_90 (by decide) ?_
      exact ret _ _ _ _ (if_neg (fun z => by first | exact c_5 z.1 | exact z.1 c_5)).symm dX11_mix_91
    · exact absurd rfl c_51
  · refine jm_aload_n C dX11_mix_8 rfl ?_
    refine jm_iload_n C dX11_mix_9 rfl ?_
    refine jm_calli (As := [.int oth]) (rest := []) C fG_X11_186 (c_isLot (oth)) rfl rfl (Nat.le_of_ble_eq_true rfl) ⟨Nat.le_of_ble_eq_true rfl, Nat.le_of_ble_eq_true rfl⟩ dX11_mix_10 (fun r_10 S_10 e_10 => ?_)
    obtain ⟨e1_10, e2_10⟩ := e_10
    subst e1_10
    replace e2_10 := e2_10.symm
    subst e2_10
    refine jm_ifeq_b (tgt := 46) C dX11_mix_13 (by decide) (fun c_13 => ?_) (fun c_13 => ?_)
    · refine jm_iconst (v := 0) C dX11_mix_46 (by decide) ?_
      refine jm_istore (lv' := [(0, .ref m0), (1, .int one), (2, .int g), (3, .int oth), (4, .int more), (5, .int 0)]) C dX11_mix_47 (by decide) rfl ?_
      refine jm_iload C dX11_mix_49 rfl ?_
      refine jm_if_eq (tgt := 90) C dX11_mix_51 (by decide) (fun c_51 => ?_) (fun c_51 => ?_)
      · refine jm_iconst (v := (-1)) C dX11_mix_90 (by decide) ?_
        exact ret _ _ _ _ (if_neg (fun z => by first | exact c_13 z.2.1 | exact z.2.1 c_13)).symm dX11_mix_91
      · exact absurd rfl c_51
    · refine jm_iload_n C dX11_mix_16 rfl ?_
      refine jm_iload_n C dX11_mix_17 rfl ?_
      refine jm_icmp_eq (tgt := 46) C dX11_mix_18 (by decide) (fun c_18 => ?_) (fun c_18 => ?_)
      · refine jm_iconst (v := 0) C dX11_mix_46 (by decide) ?_
        refine jm_istore (lv' := [(0, .ref m0), (1, .int one), (2, .int g), (3, .int oth), (4, .int more), (5, .int 0)]) C dX11_mix_47 (by decide) rfl ?_
        refine jm_iload C dX11_mix_49 rfl ?_
        refine jm_if_eq (tgt := 90) C dX11_mix_51 (by decide) (fun c_51 => ?_) (fun c_51 => ?_)
        · refine jm_iconst (v := (-1)) C dX11_mix_90 (by decide) ?_
          exact ret _ _ _ _ (if_neg (fun z => by first | exact c_18 z.2.2.1 | exact z.2.2.1 c_18)).symm dX11_mix_91
        · exact absurd rfl c_51
      · refine jm_iload_n C dX11_mix_21 rfl ?_
        refine jm_iconst (v := 1) C dX11_mix_22 (by decide) ?_
        refine jm_icmp_lt (tgt := 46) C dX11_mix_23 (by decide) (fun c_23 => ?_) (fun c_23 => ?_)
        · refine jm_iconst (v := 0) C dX11_mix_46 (by decide) ?_
          refine jm_istore (lv' := [(0, .ref m0), (1, .int one), (2, .int g), (3, .int oth), (4, .int more), (5, .int 0)]) C dX11_mix_47 (by decide) rfl ?_
          refine jm_iload C dX11_mix_49 rfl ?_
          refine jm_if_eq (tgt := 90) C dX11_mix_51 (by decide) (fun c_51 => ?_) (fun c_51 => ?_)
          · refine jm_iconst (v := (-1)) C dX11_mix_90 (by decide) ?_
            exact ret _ _ _ _ (if_neg (fun z => by first | exact c_23 z.2.2.2.1 | exact z.2.2.2.1 c_23)).symm dX11_mix_91
          · exact absurd rfl c_51
        · refine jm_iload C dX11_mix_26 rfl ?_
          refine jm_iconst (v := 1) C dX11_mix_28 (by decide) ?_
          refine jm_icmp_lt (tgt := 46) C dX11_mix_29 (by decide) (fun c_29 => ?_) (fun c_29 => ?_)
          · refine jm_iconst (v := 0) C dX11_mix_46 (by decide) ?_
            refine jm_istore (lv' := [(0, .ref m0), (1, .int one), (2, .int g), (3, .int oth), (4, .int more), (5, .int 0)]) C dX11_mix_47 (by decide) rfl ?_
            refine jm_iload C dX11_mix_49 rfl ?_
            refine jm_if_eq (tgt := 90) C dX11_mix_51 (by decide) (fun c_51 => ?_) (fun c_51 => ?_)
            · refine jm_iconst (v := (-1)) C dX11_mix_90 (by decide) ?_
              exact ret _ _ _ _ (if_neg (fun z => by first | exact c_29 z.2.2.2.2.1 | exact z.2.2.2.2.1 c_29)).symm dX11_mix_91
            · exact absurd rfl c_51
          · refine jm_aload_n C dX11_mix_32 rfl ?_
            refine jm_getSe (v := nI nl) C fF_X11_138 (by decide) hl dX11_mix_33 ?_
            refine jm_sipush (v := 200) C dX11_mix_36 (by decide) ?_
            refine jm_icmp_ge (tgt := 46) C dX11_mix_39 (by decide) (fun c_39 => ?_) (fun c_39 => ?_)
            · refine jm_iconst (v := 0) C dX11_mix_46 (by decide) ?_
              refine jm_istore (lv' := [(0, .ref m0), (1, .int one), (2, .int g), (3, .int oth), (4, .int more), (5, .int 0)]) C dX11_mix_47 (by decide) rfl ?_
              refine jm_iload C dX11_mix_49 rfl ?_
              refine jm_if_eq (tgt := 90) C dX11_mix_51 (by decide) (fun c_51 => ?_) (fun c_51 => ?_)
              · refine jm_iconst (v := (-1)) C dX11_mix_90 (by decide) ?_
                exact ret _ _ _ _ (if_neg (fun z => by first | exact c_39 z.2.2.2.2.2.1 | exact z.2.2.2.2.2.1 c_39)).symm dX11_mix_91
              · exact absurd rfl c_51
            · refine jm_iconst (v := 1) C dX11_mix_42 (by decide) ?_
              refine jm_goto (tgt := 47) C dX11_mix_43 (by decide) ?_
              refine jm_istore (lv' := [(0, .ref m0), (1, .int one), (2, .int g), (3, .int oth), (4, .int more), (5, .int 1)]) C dX11_mix_47 (by decide) rfl ?_
              refine jm_iload C dX11_mix_49 rfl ?_
              refine jm_if_eq (tgt := 90) C dX11_mix_51 (by decide) (fun c_51 => ?_) (fun c_51 => ?_)
              · exact absurd c_51 (by decide)
              refine jm_aload_n C dX11_mix_54 rfl ?_
              refine jm_getA C fF_X11_49 (by decide) (by decide) dX11_mix_55 ?_
              refine jm_iload_n C dX11_mix_58 rfl ?_
              refine jm_ald C 22 (n := 200) (by decide) (by decide) rfl (in_vp hl hnl c_5) dX11_mix_59 ?_
              refine jm_aload_n C dX11_mix_60 rfl ?_
              refine jm_getA C fF_X11_49 (by decide) (by decide) dX11_mix_61 ?_
              refine jm_iload_n C dX11_mix_64 rfl ?_
              refine jm_ald C 22 (n := 200) (by decide) (by decide) rfl (in_vp hl hnl c_13) dX11_mix_65 ?_
              refine jm_icmp_ne (tgt := 90) C dX11_mix_66 (by decide) (fun c_66 => ?_) (fun c_66 => ?_)
              · refine jm_iconst (v := (-1)) C dX11_mix_90 (by decide) ?_
                exact ret _ _ _ _ (if_neg (fun z => by first | exact c_66 z.2.2.2.2.2.2.1 | exact z.2.2.2.2.2.2.1 c_66)).symm dX11_mix_91
              · refine jm_iload_n C dX11_mix_69 rfl ?_
                refine jm_aload_n C dX11_mix_70 rfl ?_
                refine jm_getA C fF_X11_52 (by decide) (by decide) dX11_mix_71 ?_
                refine jm_iload_n C dX11_mix_74 rfl ?_
                refine jm_ald C 23 (n := 200) (by decide) (by decide) rfl (in_vp hl hnl c_5) dX11_mix_75 ?_
                refine jm_icmp_gt (tgt := 90) C dX11_mix_76 (by decide) (fun c_76 => ?_) (fun c_76 => ?_)
                · refine jm_iconst (v := (-1)) C dX11_mix_90 (by decide) ?_
                  exact ret _ _ _ _ (if_neg (fun z => by first | exact c_76 z.2.2.2.2.2.2.2.1 | exact z.2.2.2.2.2.2.2.1 c_76)).symm dX11_mix_91
                · refine jm_iload C dX11_mix_79 rfl ?_
                  refine jm_aload_n C dX11_mix_81 rfl ?_
                  refine jm_getA C fF_X11_52 (by decide) (by decide) dX11_mix_82 ?_
                  refine jm_iload_n C dX11_mix_85 rfl ?_
                  refine jm_ald C 23 (n := 200) (by decide) (by decide) rfl (in_vp hl hnl c_13) dX11_mix_86 ?_
                  refine jm_icmp_le (tgt := 92) C dX11_mix_87 (by decide) (fun c_87 => ?_) (fun c_87 => ?_)
                  · have hlt : nl < 200 := nge_lt rfl c_39 (by omega)
                    refine jm_aload_n C dX11_mix_92 rfl ?_
                    refine jm_iconst (v := 2) C dX11_mix_93 (by decide) ?_
                    refine jm_aload_n C dX11_mix_94 rfl ?_
                    refine jm_getA C fF_X11_49 (by decide) (by decide) dX11_mix_95 ?_
                    refine jm_iload_n C dX11_mix_98 rfl ?_
                    refine jm_ald C 22 (n := 200) (by decide) (by decide) rfl (in_vp hl hnl c_5) dX11_mix_99 ?_
                    refine jm_calli (As := [.int 2, .int (S 22 (one).toNatClampNeg)]) (rest := []) C fG_X11_183 (c_lot (2) ((S 22 (one).toNatClampNeg)) hl hlt) rfl rfl (Nat.le_of_ble_eq_true rfl) ⟨Nat.le_of_ble_eq_true rfl, Nat.le_of_ble_eq_true rfl⟩ dX11_mix_100 (fun r_100 S_100 e_100 => ?_)
                    obtain ⟨e1_100, e2_100⟩ := e_100
                    subst e1_100
                    replace e2_100 := e2_100.symm
                    subst e2_100
                    refine jm_istore (lv' := [(0, .ref m0), (1, .int one), (2, .int g), (3, .int oth), (4, .int more), (5, .int 1), (6, .int (nI nl))]) C dX11_mix_103 (by decide) rfl ?_
                    refine jm_aload_n C dX11_mix_105 rfl ?_
                    refine jm_getA C fF_X11_52 (by decide) (by decide) dX11_mix_106 ?_
                    refine jm_iload_n C dX11_mix_109 rfl ?_
                    refine jm_dup2 C dX11_mix_110 rfl rfl ?_
                    refine jm_ald C 23 (n := 200) (by decide) (by decide) rfl (in_vp hl hnl c_5) dX11_mix_111 ?_
                    refine jm_iload_n C dX11_mix_112 rfl ?_
                    refine jm_isub C dX11_mix_113 ?_
                    refine jm_ast C 23 (n := 200) (by decide) (by decide) rfl (in_vp hl hnl c_5) dX11_mix_114 ?_
                    refine jm_aload_n C dX11_mix_115 rfl ?_
                    refine jm_getA C fF_X11_52 (by decide) (by decide) dX11_mix_116 ?_
                    refine jm_iload_n C dX11_mix_119 rfl ?_
                    refine jm_dup2 C dX11_mix_120 rfl rfl ?_
                    refine jm_ald C 23 (n := 200) (by decide) (by decide) rfl (in_vp hl hnl c_13) dX11_mix_121 ?_
                    refine jm_iload C dX11_mix_122 rfl ?_
                    refine jm_isub C dX11_mix_124 ?_
                    refine jm_ast C 23 (n := 200) (by decide) (by decide) rfl (in_vp hl hnl c_13) dX11_mix_125 ?_
                    refine jm_aload_n C dX11_mix_126 rfl ?_
                    refine jm_getA C fF_X11_73 (by decide) (by decide) dX11_mix_127 ?_
                    refine jm_iload_n C dX11_mix_130 rfl ?_
                    refine jm_dup2 C dX11_mix_131 rfl rfl ?_
                    refine jm_ald C 30 (n := 200) (by decide) (by decide) rfl (in_vp hl hnl c_5) dX11_mix_132 ?_
                    refine jm_iload_n C dX11_mix_133 rfl ?_
                    refine jm_iadd C dX11_mix_134 ?_
                    refine jm_ast C 30 (n := 200) (by decide) (by decide) rfl (in_vp hl hnl c_5) dX11_mix_135 ?_
                    refine jm_aload_n C dX11_mix_136 rfl ?_
                    refine jm_getA C fF_X11_73 (by decide) (by decide) dX11_mix_137 ?_
                    refine jm_iload_n C dX11_mix_140 rfl ?_
                    refine jm_dup2 C dX11_mix_141 rfl rfl ?_
                    refine jm_ald C 30 (n := 200) (by decide) (by decide) rfl (in_vp hl hnl c_13) dX11_mix_142 ?_
                    refine jm_iload C dX11_mix_143 rfl ?_
                    refine jm_iadd C dX11_mix_145 ?_
                    refine jm_ast C 30 (n := 200) (by decide) (by decide) rfl (in_vp hl hnl c_13) dX11_mix_146 ?_
                    refine jm_aload_n C dX11_mix_147 rfl ?_
                    refine jm_getA C fF_X11_52 (by decide) (by decide) dX11_mix_148 ?_
                    refine jm_iload C dX11_mix_151 rfl ?_
                    refine jm_iload_n C dX11_mix_153 rfl ?_
                    refine jm_iload C dX11_mix_154 rfl ?_
                    refine jm_iadd C dX11_mix_156 ?_
                    refine jm_astN C 23 (n := 200) (by decide) (by decide) rfl (by omega) dX11_mix_157 ?_
                    refine jm_aload_n C dX11_mix_158 rfl ?_
                    refine jm_getA C fF_X11_67 (by decide) (by decide) dX11_mix_159 ?_
                    refine jm_iload C dX11_mix_162 rfl ?_
                    refine jm_iload_n C dX11_mix_164 rfl ?_
                    refine jm_iload C dX11_mix_165 rfl ?_
                    refine jm_iadd C dX11_mix_167 ?_
                    refine jm_astN C 28 (n := 200) (by decide) (by decide) rfl (by omega) dX11_mix_168 ?_
                    refine jm_aload_n C dX11_mix_169 rfl ?_
                    refine jm_getA C fF_X11_61 (by decide) (by decide) dX11_mix_170 ?_
                    refine jm_iload C dX11_mix_173 rfl ?_
                    refine jm_iload_n C dX11_mix_175 rfl ?_
                    refine jm_astN C 26 (n := 200) (by decide) (by decide) rfl (by omega) dX11_mix_176 ?_
                    refine jm_aload_n C dX11_mix_177 rfl ?_
                    refine jm_getA C fF_X11_64 (by decide) (by decide) dX11_mix_178 ?_
                    refine jm_iload C dX11_mix_181 rfl ?_
                    refine jm_iload_n C dX11_mix_183 rfl ?_
                    refine jm_astN C 27 (n := 200) (by decide) (by decide) rfl (by omega) dX11_mix_184 ?_
                    refine jm_iload C dX11_mix_185 rfl ?_
                    exact ret _ _ _ _ (if_pos ⟨c_5, c_13, c_18, c_23, c_29, c_39, c_66, c_76, c_87⟩).symm dX11_mix_187
                  · refine jm_iconst (v := (-1)) C dX11_mix_90 (by decide) ?_
                    exact ret _ _ _ _ (if_neg (fun z => by first | exact c_87 z.2.2.2.2.2.2.2.2 | exact z.2.2.2.2.2.2.2.2 c_87)).symm dX11_mix_91
def mS_open (S : Nat → Nat → Int32) (bg : Int32)  : Nat → Nat → Int32 := (u2 S 40 (bg).toNatClampNeg 0)
def m_open (S : Nat → Nat → Int32) (bg : Int32)  : Int32 × (Nat → Nat → Int32) := if (0 ≤ bg ∧ bg ≤ S 3 0 - 1) ∧ (¬ S 40 bg.toNatClampNeg = 0) then (1, mS_open S bg) else (0, S)
set_option maxHeartbeats 4000000 in
set_option maxRecDepth 100000 in
theorem c_open {l : Launch} {D : va_G} {cy : Nat → ClassId} {m0 : Nat} {ad : Nat → Nat} {S : Nat → Nat → Int32} (bg : Int32) {nb : Nat} (hb : S 3 0 = nI nb) (hnb : nb ≤ 200) : mI l D cy yX11_open (.code yX11_open cX11_open 2 ((Option.some FieldType.boolean))) 2 m0 ad [.int bg] S (fun r S' => (r, S') = m_open S bg) := by
  refine m_ofZ rfl (Nat.le_of_ble_eq_true rfl) (fun p e s m args below meth c A Q h0 C ret => ?_)
  refine jm_aload_n C dX11_open_0 rfl ?_
  refine jm_iload_n C dX11_open_1 rfl ?_
  refine jm_calli (As := [.int bg]) (rest := []) C fG_X11_199 (c_isBag (bg)) rfl rfl (Nat.le_of_ble_eq_true rfl) ⟨Nat.le_of_ble_eq_true rfl, Nat.le_of_ble_eq_true rfl⟩ dX11_open_2 (fun r_2 S_2 e_2 => ?_)
  obtain ⟨e1_2, e2_2⟩ := e_2
  subst e1_2
  replace e2_2 := e2_2.symm
  subst e2_2
  refine jm_ifeq_b (tgt := 17) C dX11_open_5 (by decide) (fun c_5 => ?_) (fun c_5 => ?_)
  · refine jm_iconst (v := 0) C dX11_open_17 (by decide) ?_
    exact ret _ _ _ _ (if_neg (fun z => by first | exact c_5 z.1 | exact z.1 c_5)).symm (by decide) dX11_open_18
  · refine jm_aload_n C dX11_open_8 rfl ?_
    refine jm_getA C fF_X11_103 (by decide) (by decide) dX11_open_9 ?_
    refine jm_iload_n C dX11_open_12 rfl ?_
    refine jm_ald C 40 (n := 200) (by decide) (by decide) rfl (in_vp hb hnb c_5) dX11_open_13 ?_
    refine jm_if_ne (tgt := 19) C dX11_open_14 (by decide) (fun c_14 => ?_) (fun c_14 => ?_)
    · refine jm_aload_n C dX11_open_19 rfl ?_
      refine jm_getA C fF_X11_103 (by decide) (by decide) dX11_open_20 ?_
      refine jm_iload_n C dX11_open_23 rfl ?_
      refine jm_iconst (v := 0) C dX11_open_24 (by decide) ?_
      refine jm_ast C 40 (n := 200) (by decide) (by decide) rfl (in_vp hb hnb c_5) dX11_open_25 ?_
      refine jm_iconst (v := 1) C dX11_open_26 (by decide) ?_
      exact ret _ _ _ _ (if_pos ⟨c_5, c_14⟩).symm (by decide) dX11_open_27
    · refine jm_iconst (v := 0) C dX11_open_17 (by decide) ?_
      exact ret _ _ _ _ (if_neg (fun z => by first | exact c_14 z.2 | exact z.2 c_14)).symm (by decide) dX11_open_18
def mS_sell (S : Nat → Nat → Int32) (bg by_ : Int32)  : Nat → Nat → Int32 := (u2 S 41 (bg).toNatClampNeg by_)
def m_sell (S : Nat → Nat → Int32) (bg by_ : Int32)  : Int32 × (Nat → Nat → Int32) := if (0 ≤ bg ∧ bg ≤ S 3 0 - 1) ∧ (0 ≤ by_ ∧ by_ ≤ 19) ∧ (¬ S 40 bg.toNatClampNeg = 0) ∧ (S 41 bg.toNatClampNeg = -1) then (1, mS_sell S bg by_) else (0, S)
set_option maxHeartbeats 4000000 in
set_option maxRecDepth 100000 in
theorem c_sell {l : Launch} {D : va_G} {cy : Nat → ClassId} {m0 : Nat} {ad : Nat → Nat} {S : Nat → Nat → Int32} (bg by_ : Int32) {nb : Nat} (hb : S 3 0 = nI nb) (hnb : nb ≤ 200) : mI l D cy yX11_sell (.code yX11_sell cX11_sell 3 ((Option.some FieldType.boolean))) 2 m0 ad [.int bg, .int by_] S (fun r S' => (r, S') = m_sell S bg by_) := by
  refine m_ofZ rfl (Nat.le_of_ble_eq_true rfl) (fun p e s m args below meth c A Q h0 C ret => ?_)
  refine jm_aload_n C dX11_sell_0 rfl ?_
  refine jm_iload_n C dX11_sell_1 rfl ?_
  refine jm_calli (As := [.int bg]) (rest := []) C fG_X11_199 (c_isBag (bg)) rfl rfl (Nat.le_of_ble_eq_true rfl) ⟨Nat.le_of_ble_eq_true rfl, Nat.le_of_ble_eq_true rfl⟩ dX11_sell_2 (fun r_2 S_2 e_2 => ?_)
  obtain ⟨e1_2, e2_2⟩ := e_2
  subst e1_2
  replace e2_2 := e2_2.symm
  subst e2_2
  refine jm_ifeq_b (tgt := 37) C dX11_sell_5 (by decide) (fun c_5 => ?_) (fun c_5 => ?_)
  · refine jm_iconst (v := 0) C dX11_sell_37 (by decide) ?_
    exact ret _ _ _ _ (if_neg (fun z => by first | exact c_5 z.1 | exact z.1 c_5)).symm (by decide) dX11_sell_38
  · refine jm_iload_n C dX11_sell_8 rfl ?_
    refine jm_iconst (v := 0) C dX11_sell_9 (by decide) ?_
    refine jm_bipush (v := 19) C dX11_sell_10 (by decide) ?_
    refine jm_calls (As := [.int by_, .int 0, .int 19]) (rest := []) C fG_X11_134 (c_in (by_) (0) (19)) rfl rfl (Nat.le_of_ble_eq_true rfl) ⟨Nat.le_of_ble_eq_true rfl, Nat.le_of_ble_eq_true rfl⟩ dX11_sell_12 (fun r_12 e_12 => ?_)
    subst e_12
    refine jm_ifeq_b (tgt := 37) C dX11_sell_15 (by decide) (fun c_15 => ?_) (fun c_15 => ?_)
    · refine jm_iconst (v := 0) C dX11_sell_37 (by decide) ?_
      exact ret _ _ _ _ (if_neg (fun z => by first | exact c_15 z.2.1 | exact z.2.1 c_15)).symm (by decide) dX11_sell_38
    · refine jm_aload_n C dX11_sell_18 rfl ?_
      refine jm_getA C fF_X11_103 (by decide) (by decide) dX11_sell_19 ?_
      refine jm_iload_n C dX11_sell_22 rfl ?_
      refine jm_ald C 40 (n := 200) (by decide) (by decide) rfl (in_vp hb hnb c_5) dX11_sell_23 ?_
      refine jm_if_eq (tgt := 37) C dX11_sell_24 (by decide) (fun c_24 => ?_) (fun c_24 => ?_)
      · refine jm_iconst (v := 0) C dX11_sell_37 (by decide) ?_
        exact ret _ _ _ _ (if_neg (fun z => by first | exact c_24 z.2.2.1 | exact z.2.2.1 c_24)).symm (by decide) dX11_sell_38
      · refine jm_aload_n C dX11_sell_27 rfl ?_
        refine jm_getA C fF_X11_106 (by decide) (by decide) dX11_sell_28 ?_
        refine jm_iload_n C dX11_sell_31 rfl ?_
        refine jm_ald C 41 (n := 200) (by decide) (by decide) rfl (in_vp hb hnb c_5) dX11_sell_32 ?_
        refine jm_iconst (v := (-1)) C dX11_sell_33 (by decide) ?_
        refine jm_icmp_eq (tgt := 39) C dX11_sell_34 (by decide) (fun c_34 => ?_) (fun c_34 => ?_)
        · refine jm_aload_n C dX11_sell_39 rfl ?_
          refine jm_getA C fF_X11_106 (by decide) (by decide) dX11_sell_40 ?_
          refine jm_iload_n C dX11_sell_43 rfl ?_
          refine jm_iload_n C dX11_sell_44 rfl ?_
          refine jm_ast C 41 (n := 200) (by decide) (by decide) rfl (in_vp hb hnb c_5) dX11_sell_45 ?_
          refine jm_iconst (v := 1) C dX11_sell_46 (by decide) ?_
          exact ret _ _ _ _ (if_pos ⟨c_5, c_15, c_24, c_34⟩).symm (by decide) dX11_sell_47
        · refine jm_iconst (v := 0) C dX11_sell_37 (by decide) ?_
          exact ret _ _ _ _ (if_neg (fun z => by first | exact c_34 z.2.2.2 | exact z.2.2.2 c_34)).symm (by decide) dX11_sell_38
def mS_toss (S : Nat → Nat → Int32) (lt g : Int32)  : Nat → Nat → Int32 := (u2 (u2 S 23 (lt).toNatClampNeg ((S 23 (lt).toNatClampNeg) - g)) 32 (lt).toNatClampNeg (((u2 S 23 (lt).toNatClampNeg ((S 23 (lt).toNatClampNeg) - g)) 32 (lt).toNatClampNeg) + g))
def m_toss (S : Nat → Nat → Int32) (lt g : Int32)  : Int32 × (Nat → Nat → Int32) := if (0 ≤ lt ∧ lt ≤ S 2 0 - 1) ∧ (¬ g < 1) ∧ (g ≤ S 23 lt.toNatClampNeg) then (1, mS_toss S lt g) else (0, S)
set_option maxHeartbeats 4000000 in
set_option maxRecDepth 100000 in
theorem c_toss {l : Launch} {D : va_G} {cy : Nat → ClassId} {m0 : Nat} {ad : Nat → Nat} {S : Nat → Nat → Int32} (lt g : Int32) {nl : Nat} (hl : S 2 0 = nI nl) (hnl : nl ≤ 200) : mI l D cy yX11_toss (.code yX11_toss cX11_toss 3 ((Option.some FieldType.boolean))) 2 m0 ad [.int lt, .int g] S (fun r S' => (r, S') = m_toss S lt g) := by
  refine m_ofZ rfl (Nat.le_of_ble_eq_true rfl) (fun p e s m args below meth c A Q h0 C ret => ?_)
  refine jm_aload_n C dX11_toss_0 rfl ?_
  refine jm_iload_n C dX11_toss_1 rfl ?_
  refine jm_calli (As := [.int lt]) (rest := []) C fG_X11_186 (c_isLot (lt)) rfl rfl (Nat.le_of_ble_eq_true rfl) ⟨Nat.le_of_ble_eq_true rfl, Nat.le_of_ble_eq_true rfl⟩ dX11_toss_2 (fun r_2 S_2 e_2 => ?_)
  obtain ⟨e1_2, e2_2⟩ := e_2
  subst e1_2
  replace e2_2 := e2_2.symm
  subst e2_2
  refine jm_ifeq_b (tgt := 23) C dX11_toss_5 (by decide) (fun c_5 => ?_) (fun c_5 => ?_)
  · refine jm_iconst (v := 0) C dX11_toss_23 (by decide) ?_
    exact ret _ _ _ _ (if_neg (fun z => by first | exact c_5 z.1 | exact z.1 c_5)).symm (by decide) dX11_toss_24
  · refine jm_iload_n C dX11_toss_8 rfl ?_
    refine jm_iconst (v := 1) C dX11_toss_9 (by decide) ?_
    refine jm_icmp_lt (tgt := 23) C dX11_toss_10 (by decide) (fun c_10 => ?_) (fun c_10 => ?_)
    · refine jm_iconst (v := 0) C dX11_toss_23 (by decide) ?_
      exact ret _ _ _ _ (if_neg (fun z => by first | exact c_10 z.2.1 | exact z.2.1 c_10)).symm (by decide) dX11_toss_24
    · refine jm_iload_n C dX11_toss_13 rfl ?_
      refine jm_aload_n C dX11_toss_14 rfl ?_
      refine jm_getA C fF_X11_52 (by decide) (by decide) dX11_toss_15 ?_
      refine jm_iload_n C dX11_toss_18 rfl ?_
      refine jm_ald C 23 (n := 200) (by decide) (by decide) rfl (in_vp hl hnl c_5) dX11_toss_19 ?_
      refine jm_icmp_le (tgt := 25) C dX11_toss_20 (by decide) (fun c_20 => ?_) (fun c_20 => ?_)
      · refine jm_aload_n C dX11_toss_25 rfl ?_
        refine jm_getA C fF_X11_52 (by decide) (by decide) dX11_toss_26 ?_
        refine jm_iload_n C dX11_toss_29 rfl ?_
        refine jm_dup2 C dX11_toss_30 rfl rfl ?_
        refine jm_ald C 23 (n := 200) (by decide) (by decide) rfl (in_vp hl hnl c_5) dX11_toss_31 ?_
        refine jm_iload_n C dX11_toss_32 rfl ?_
        refine jm_isub C dX11_toss_33 ?_
        refine jm_ast C 23 (n := 200) (by decide) (by decide) rfl (in_vp hl hnl c_5) dX11_toss_34 ?_
        refine jm_aload_n C dX11_toss_35 rfl ?_
        refine jm_getA C fF_X11_79 (by decide) (by decide) dX11_toss_36 ?_
        refine jm_iload_n C dX11_toss_39 rfl ?_
        refine jm_dup2 C dX11_toss_40 rfl rfl ?_
        refine jm_ald C 32 (n := 200) (by decide) (by decide) rfl (in_vp hl hnl c_5) dX11_toss_41 ?_
        refine jm_iload_n C dX11_toss_42 rfl ?_
        refine jm_iadd C dX11_toss_43 ?_
        refine jm_ast C 32 (n := 200) (by decide) (by decide) rfl (in_vp hl hnl c_5) dX11_toss_44 ?_
        refine jm_iconst (v := 1) C dX11_toss_45 (by decide) ?_
        exact ret _ _ _ _ (if_pos ⟨c_5, c_10, c_20⟩).symm (by decide) dX11_toss_46
      · refine jm_iconst (v := 0) C dX11_toss_23 (by decide) ?_
        exact ret _ _ _ _ (if_neg (fun z => by first | exact c_20 z.2.2 | exact z.2.2 c_20)).symm (by decide) dX11_toss_24
def mS_prove (S : Nat → Nat → Int32) (lt : Int32)  : Nat → Nat → Int32 := (u2 S 33 (lt).toNatClampNeg (S 0 0))
def m_prove (S : Nat → Nat → Int32) (lt : Int32)  : Int32 × (Nat → Nat → Int32) := if (0 ≤ lt ∧ lt ≤ S 2 0 - 1) ∧ (S 33 lt.toNatClampNeg = -1) then (1, mS_prove S lt) else (0, S)
set_option maxHeartbeats 4000000 in
set_option maxRecDepth 100000 in
theorem c_prove {l : Launch} {D : va_G} {cy : Nat → ClassId} {m0 : Nat} {ad : Nat → Nat} {S : Nat → Nat → Int32} (lt : Int32) {nl : Nat} (hl : S 2 0 = nI nl) (hnl : nl ≤ 200) : mI l D cy yX11_prove (.code yX11_prove cX11_prove 2 ((Option.some FieldType.boolean))) 2 m0 ad [.int lt] S (fun r S' => (r, S') = m_prove S lt) := by
  refine m_ofZ rfl (Nat.le_of_ble_eq_true rfl) (fun p e s m args below meth c A Q h0 C ret => ?_)
  refine jm_aload_n C dX11_prove_0 rfl ?_
  refine jm_iload_n C dX11_prove_1 rfl ?_
  refine jm_calli (As := [.int lt]) (rest := []) C fG_X11_186 (c_isLot (lt)) rfl rfl (Nat.le_of_ble_eq_true rfl) ⟨Nat.le_of_ble_eq_true rfl, Nat.le_of_ble_eq_true rfl⟩ dX11_prove_2 (fun r_2 S_2 e_2 => ?_)
  obtain ⟨e1_2, e2_2⟩ := e_2
  subst e1_2
  replace e2_2 := e2_2.symm
  subst e2_2
  refine jm_ifeq_b (tgt := 18) C dX11_prove_5 (by decide) (fun c_5 => ?_) (fun c_5 => ?_)
  · refine jm_iconst (v := 0) C dX11_prove_18 (by decide) ?_
    exact ret _ _ _ _ (if_neg (fun z => by first | exact c_5 z.1 | exact z.1 c_5)).symm (by decide) dX11_prove_19
  · refine jm_aload_n C dX11_prove_8 rfl ?_
    refine jm_getA C fF_X11_82 (by decide) (by decide) dX11_prove_9 ?_
    refine jm_iload_n C dX11_prove_12 rfl ?_
    refine jm_ald C 33 (n := 200) (by decide) (by decide) rfl (in_vp hl hnl c_5) dX11_prove_13 ?_
    refine jm_iconst (v := (-1)) C dX11_prove_14 (by decide) ?_
    refine jm_icmp_eq (tgt := 20) C dX11_prove_15 (by decide) (fun c_15 => ?_) (fun c_15 => ?_)
    · refine jm_aload_n C dX11_prove_20 rfl ?_
      refine jm_getA C fF_X11_82 (by decide) (by decide) dX11_prove_21 ?_
      refine jm_iload_n C dX11_prove_24 rfl ?_
      refine jm_aload_n C dX11_prove_25 rfl ?_
      refine jm_getS C fF_X11_141 (by decide) dX11_prove_26 ?_
      refine jm_ast C 33 (n := 200) (by decide) (by decide) rfl (in_vp hl hnl c_5) dX11_prove_29 ?_
      refine jm_iconst (v := 1) C dX11_prove_30 (by decide) ?_
      exact ret _ _ _ _ (if_pos ⟨c_5, c_15⟩).symm (by decide) dX11_prove_31
    · refine jm_iconst (v := 0) C dX11_prove_18 (by decide) ?_
      exact ret _ _ _ _ (if_neg (fun z => by first | exact c_15 z.2 | exact z.2 c_15)).symm (by decide) dX11_prove_19
def mS_look (S : Nat → Nat → Int32) (lt pl ill : Int32) (nk : Nat)  : Nat → Nat → Int32 := (u2 (u2 (u2 (u2 (u2 S 34 nk lt) 35 nk pl) 36 nk ill) 37 nk ((u2 (u2 (u2 S 34 nk lt) 35 nk pl) 36 nk ill) 0 0)) 7 0 ((nI nk) + 1))
def m_look (S : Nat → Nat → Int32) (lt pl ill : Int32) (nk : Nat)  : Int32 × (Nat → Nat → Int32) := if (0 ≤ lt ∧ lt ≤ S 2 0 - 1) ∧ (S 21 lt.toNatClampNeg = 1) ∧ (1 ≤ pl ∧ pl ≤ 10000) ∧ (0 ≤ ill ∧ ill ≤ pl) ∧ (¬ nI nk = 300) then ((looksS (u2 (u2 (u2 (u2 (u2 S 34 nk lt) 35 nk pl) 36 nk ill) 37 nk ((u2 (u2 (u2 S 34 nk lt) 35 nk pl) 36 nk ill) 0 0)) 7 0 ((nI nk) + 1)) (lt) (((u2 (u2 (u2 (u2 (u2 S 34 nk lt) 35 nk pl) 36 nk ill) 37 nk ((u2 (u2 (u2 S 34 nk lt) 35 nk pl) 36 nk ill) 0 0)) 7 0 ((nI nk) + 1)) 0 0)) (nk + 1)), mS_look S lt pl ill nk) else ((-1), S)
set_option maxHeartbeats 4000000 in
set_option maxRecDepth 100000 in
theorem c_look {l : Launch} {D : va_G} {cy : Nat → ClassId} {m0 : Nat} {ad : Nat → Nat} {S : Nat → Nat → Int32} (lt pl ill : Int32) {nl : Nat} (hl : S 2 0 = nI nl) (hnl : nl ≤ 200) {nk : Nat} (hk : S 7 0 = nI nk) (hnk : nk ≤ 300) : mI l D cy yX11_look (.code yX11_look cX11_look 4 ((Option.some FieldType.int))) 2 m0 ad [.int lt, .int pl, .int ill] S (fun r S' => (r, S') = m_look S lt pl ill nk) := by
  refine m_ofI rfl (Nat.le_of_ble_eq_true rfl) (fun p e s m args below meth c A Q h0 C ret => ?_)
  refine jm_aload_n C dX11_look_0 rfl ?_
  refine jm_iload_n C dX11_look_1 rfl ?_
  refine jm_calli (As := [.int lt]) (rest := []) C fG_X11_186 (c_isLot (lt)) rfl rfl (Nat.le_of_ble_eq_true rfl) ⟨Nat.le_of_ble_eq_true rfl, Nat.le_of_ble_eq_true rfl⟩ dX11_look_2 (fun r_2 S_2 e_2 => ?_)
  obtain ⟨e1_2, e2_2⟩ := e_2
  subst e1_2
  replace e2_2 := e2_2.symm
  subst e2_2
  refine jm_ifeq_b (tgt := 48) C dX11_look_5 (by decide) (fun c_5 => ?_) (fun c_5 => ?_)
  · refine jm_iconst (v := (-1)) C dX11_look_48 (by decide) ?_
    exact ret _ _ _ _ (if_neg (fun z => by first | exact c_5 z.1 | exact z.1 c_5)).symm dX11_look_49
  · refine jm_aload_n C dX11_look_8 rfl ?_
    refine jm_getA C fF_X11_46 (by decide) (by decide) dX11_look_9 ?_
    refine jm_iload_n C dX11_look_12 rfl ?_
    refine jm_ald C 21 (n := 200) (by decide) (by decide) rfl (in_vp hl hnl c_5) dX11_look_13 ?_
    refine jm_iconst (v := 1) C dX11_look_14 (by decide) ?_
    refine jm_icmp_ne (tgt := 48) C dX11_look_15 (by decide) (fun c_15 => ?_) (fun c_15 => ?_)
    · refine jm_iconst (v := (-1)) C dX11_look_48 (by decide) ?_
      exact ret _ _ _ _ (if_neg (fun z => by first | exact c_15 z.2.1 | exact z.2.1 c_15)).symm dX11_look_49
    · refine jm_iload_n C dX11_look_18 rfl ?_
      refine jm_iconst (v := 1) C dX11_look_19 (by decide) ?_
      refine jm_sipush (v := 10000) C dX11_look_20 (by decide) ?_
      refine jm_calls (As := [.int pl, .int 1, .int 10000]) (rest := []) C fG_X11_134 (c_in (pl) (1) (10000)) rfl rfl (Nat.le_of_ble_eq_true rfl) ⟨Nat.le_of_ble_eq_true rfl, Nat.le_of_ble_eq_true rfl⟩ dX11_look_23 (fun r_23 e_23 => ?_)
      subst e_23
      refine jm_ifeq_b (tgt := 48) C dX11_look_26 (by decide) (fun c_26 => ?_) (fun c_26 => ?_)
      · refine jm_iconst (v := (-1)) C dX11_look_48 (by decide) ?_
        exact ret _ _ _ _ (if_neg (fun z => by first | exact c_26 z.2.2.1 | exact z.2.2.1 c_26)).symm dX11_look_49
      · refine jm_iload_n C dX11_look_29 rfl ?_
        refine jm_iconst (v := 0) C dX11_look_30 (by decide) ?_
        refine jm_iload_n C dX11_look_31 rfl ?_
        refine jm_calls (As := [.int ill, .int 0, .int pl]) (rest := []) C fG_X11_134 (c_in (ill) (0) (pl)) rfl rfl (Nat.le_of_ble_eq_true rfl) ⟨Nat.le_of_ble_eq_true rfl, Nat.le_of_ble_eq_true rfl⟩ dX11_look_32 (fun r_32 e_32 => ?_)
        subst e_32
        refine jm_ifeq_b (tgt := 48) C dX11_look_35 (by decide) (fun c_35 => ?_) (fun c_35 => ?_)
        · refine jm_iconst (v := (-1)) C dX11_look_48 (by decide) ?_
          exact ret _ _ _ _ (if_neg (fun z => by first | exact c_35 z.2.2.2.1 | exact z.2.2.2.1 c_35)).symm dX11_look_49
        · refine jm_aload_n C dX11_look_38 rfl ?_
          refine jm_getSe (v := nI nk) C fF_X11_202 (by decide) hk dX11_look_39 ?_
          refine jm_sipush (v := 300) C dX11_look_42 (by decide) ?_
          refine jm_icmp_ne (tgt := 50) C dX11_look_45 (by decide) (fun c_45 => ?_) (fun c_45 => ?_)
          · have hlt : nk < 300 := ne_lt rfl c_45 (by omega)
            refine jm_aload_n C dX11_look_50 rfl ?_
            refine jm_getA C fF_X11_85 (by decide) (by decide) dX11_look_51 ?_
            refine jm_aload_n C dX11_look_54 rfl ?_
            refine jm_getSe (v := nI nk) C fF_X11_202 (by decide) hk dX11_look_55 ?_
            refine jm_iload_n C dX11_look_58 rfl ?_
            refine jm_astN C 34 (n := 300) (by decide) (by decide) rfl (by omega) dX11_look_59 ?_
            refine jm_aload_n C dX11_look_60 rfl ?_
            refine jm_getA C fF_X11_88 (by decide) (by decide) dX11_look_61 ?_
            refine jm_aload_n C dX11_look_64 rfl ?_
            refine jm_getSe (v := nI nk) C fF_X11_202 (by decide) hk dX11_look_65 ?_
            refine jm_iload_n C dX11_look_68 rfl ?_
            refine jm_astN C 35 (n := 300) (by decide) (by decide) rfl (by omega) dX11_look_69 ?_
            refine jm_aload_n C dX11_look_70 rfl ?_
            refine jm_getA C fF_X11_91 (by decide) (by decide) dX11_look_71 ?_
            refine jm_aload_n C dX11_look_74 rfl ?_
            refine jm_getSe (v := nI nk) C fF_X11_202 (by decide) hk dX11_look_75 ?_
            refine jm_iload_n C dX11_look_78 rfl ?_
            refine jm_astN C 36 (n := 300) (by decide) (by decide) rfl (by omega) dX11_look_79 ?_
            refine jm_aload_n C dX11_look_80 rfl ?_
            refine jm_getA C fF_X11_94 (by decide) (by decide) dX11_look_81 ?_
            refine jm_aload_n C dX11_look_84 rfl ?_
            refine jm_getSe (v := nI nk) C fF_X11_202 (by decide) hk dX11_look_85 ?_
            refine jm_aload_n C dX11_look_88 rfl ?_
            refine jm_getS C fF_X11_141 (by decide) dX11_look_89 ?_
            refine jm_astN C 37 (n := 300) (by decide) (by decide) rfl (by omega) dX11_look_92 ?_
            refine jm_aload_n C dX11_look_93 rfl ?_
            refine jm_dup C dX11_look_94 rfl ?_
            refine jm_getSe (v := nI nk) C fF_X11_202 (by decide) hk dX11_look_95 ?_
            refine jm_iconst (v := 1) C dX11_look_98 (by decide) ?_
            refine jm_iadd C dX11_look_99 ?_
            refine jm_putS C fP_X11_202 (by decide) dX11_look_100 ?_
            refine jm_aload_n C dX11_look_103 rfl ?_
            refine jm_iload_n C dX11_look_104 rfl ?_
            refine jm_aload_n C dX11_look_105 rfl ?_
            refine jm_getS C fF_X11_141 (by decide) dX11_look_106 ?_
            refine jm_calli (As := [.int lt, .int ((u2 (u2 (u2 (u2 (u2 S 34 nk lt) 35 nk pl) 36 nk ill) 37 nk ((u2 (u2 (u2 S 34 nk lt) 35 nk pl) 36 nk ill) 0 0)) 7 0 ((nI nk) + 1)) 0 0)]) (rest := []) C fG_X11_205 (c_looksOf (lt) (((u2 (u2 (u2 (u2 (u2 S 34 nk lt) 35 nk pl) 36 nk ill) 37 nk ((u2 (u2 (u2 S 34 nk lt) 35 nk pl) 36 nk ill) 0 0)) 7 0 ((nI nk) + 1)) 0 0)) (nk := nk + 1) (nI_1 nk) (by omega)) rfl rfl (Nat.le_of_ble_eq_true rfl) ⟨Nat.le_of_ble_eq_true rfl, Nat.le_of_ble_eq_true rfl⟩ dX11_look_109 (fun r_109 S_109 e_109 => ?_)
            obtain ⟨e1_109, e2_109⟩ := e_109
            subst e1_109
            replace e2_109 := e2_109.symm
            subst e2_109
            exact ret _ _ _ _ (if_pos ⟨c_5, c_15, c_26, c_35, c_45⟩).symm dX11_look_112
          · refine jm_iconst (v := (-1)) C dX11_look_48 (by decide) ?_
            exact ret _ _ _ _ (if_neg (fun z => by first | exact c_45 z.2.2.2.2 | exact z.2.2.2.2 c_45)).symm dX11_look_49
