section MSUB
variable {p : Program} {l : Launch} {e : Env} {R : Room} {s : State} {m : MethodId} {args : Array Value} {below : List Frame} {meth : Method} {c : Code} {D : va_G} {cy : Nat → ClassId} {A : Nat → Prop} {Q : State → Prop} {m0 : Nat} {ad : Nat → Nat} {h0 : jH} {S : Nat → Nat → Int32} {nL : Nat} {cells slots : Nat} {h : jH} {lv lv' : List (Nat × Value)} {pc : Nat} {st : List Value}
theorem j_sub (ks : List Nat) (e' : lv_pick lv ks = lv') (k : jW p l e R s m args below meth c D cy A nL cells slots Q h lv' pc st) : jW p l e R s m args below meth c D cy A nL cells slots Q h lv pc st := fun H locs ls hP hD hS hl => k H locs ls hP hD hS (lv_sub hl ks e')
theorem jm_sub (ks : List Nat) (e' : lv_pick lv ks = lv') (k : jM p l e R s m args below meth c D cy A nL Q m0 ad h0 S lv' pc st) : jM p l e R s m args below meth c D cy A nL Q m0 ad h0 S lv pc st := fun h hM hF => j_sub ks e' (k h hM hF)
end MSUB
set_option maxHeartbeats 4000000 in
set_option maxRecDepth 100000 in
theorem c_nearness2 {l : Launch} {D : va_G} {cy : Nat → ClassId} {m0 : Nat} {ad : Nat → Nat} {S : Nat → Nat → Int32} (a b : Int32) (ha : vp_in a 40) (hb : vp_in b 40) : mI l D cy yX11_nearness (.code yX11_nearness cX11_nearness 5 ((Option.some FieldType.int))) 1 m0 ad [.int a, .int b] S (fun r S' => r = nearS S a.toNatClampNeg b.toNatClampNeg ∧ S' = S) := by
  refine m_ofI rfl (Nat.le_of_ble_eq_true rfl) (fun p e s m args below meth c A Q h0 C ret => ?_)
  refine jm_iconst (v := 0) C dX11_nearness_0 (by decide) ?_
  refine jm_aload_n C dX11_nearness_1 rfl ?_
  refine jm_getA C fF_X11_9 (by decide) (by decide) dX11_nearness_2 ?_
  refine jm_iload_n C dX11_nearness_5 rfl ?_
  refine jm_ald C 9 (n := 40) (by decide) (by decide) rfl ha dX11_nearness_6 ?_
  refine jm_aload_n C dX11_nearness_7 rfl ?_
  refine jm_getA C fF_X11_16 (by decide) (by decide) dX11_nearness_8 ?_
  refine jm_iload_n C dX11_nearness_11 rfl ?_
  refine jm_ald C 11 (n := 40) (by decide) (by decide) rfl hb dX11_nearness_12 ?_
  refine jm_isub C dX11_nearness_13 ?_
  refine jm_aload_n C dX11_nearness_14 rfl ?_
  refine jm_getA C fF_X11_9 (by decide) (by decide) dX11_nearness_15 ?_
  refine jm_iload_n C dX11_nearness_18 rfl ?_
  refine jm_ald C 9 (n := 40) (by decide) (by decide) rfl hb dX11_nearness_19 ?_
  refine jm_aload_n C dX11_nearness_20 rfl ?_
  refine jm_getA C fF_X11_16 (by decide) (by decide) dX11_nearness_21 ?_
  refine jm_iload_n C dX11_nearness_24 rfl ?_
  refine jm_ald C 11 (n := 40) (by decide) (by decide) rfl ha dX11_nearness_25 ?_
  refine jm_isub C dX11_nearness_26 ?_
  refine jm_max C kM_X11_150 dX11_nearness_27 (Nat.le_of_ble_eq_true rfl) (Nat.le_of_ble_eq_true rfl) ?_
  refine jm_max C kM_X11_150 dX11_nearness_30 (Nat.le_of_ble_eq_true rfl) (Nat.le_of_ble_eq_true rfl) ?_
  refine jm_istore_n (lv' := [(0, .ref m0), (1, .int a), (2, .int b), (3, .int (if 0 < (if ((S 9 (a).toNatClampNeg) - (S 11 (b).toNatClampNeg)) < ((S 9 (b).toNatClampNeg) - (S 11 (a).toNatClampNeg)) then ((S 9 (b).toNatClampNeg) - (S 11 (a).toNatClampNeg)) else ((S 9 (a).toNatClampNeg) - (S 11 (b).toNatClampNeg))) then (if ((S 9 (a).toNatClampNeg) - (S 11 (b).toNatClampNeg)) < ((S 9 (b).toNatClampNeg) - (S 11 (a).toNatClampNeg)) then ((S 9 (b).toNatClampNeg) - (S 11 (a).toNatClampNeg)) else ((S 9 (a).toNatClampNeg) - (S 11 (b).toNatClampNeg))) else 0))]) C dX11_nearness_33 (by decide) rfl ?_
  refine jm_iconst (v := 0) C dX11_nearness_34 (by decide) ?_
  refine jm_aload_n C dX11_nearness_35 rfl ?_
  refine jm_getA C fF_X11_13 (by decide) (by decide) dX11_nearness_36 ?_
  refine jm_iload_n C dX11_nearness_39 rfl ?_
  refine jm_ald C 10 (n := 40) (by decide) (by decide) rfl ha dX11_nearness_40 ?_
  refine jm_aload_n C dX11_nearness_41 rfl ?_
  refine jm_getA C fF_X11_19 (by decide) (by decide) dX11_nearness_42 ?_
  refine jm_iload_n C dX11_nearness_45 rfl ?_
  refine jm_ald C 12 (n := 40) (by decide) (by decide) rfl hb dX11_nearness_46 ?_
  refine jm_isub C dX11_nearness_47 ?_
  refine jm_aload_n C dX11_nearness_48 rfl ?_
  refine jm_getA C fF_X11_13 (by decide) (by decide) dX11_nearness_49 ?_
  refine jm_iload_n C dX11_nearness_52 rfl ?_
  refine jm_ald C 10 (n := 40) (by decide) (by decide) rfl hb dX11_nearness_53 ?_
  refine jm_aload_n C dX11_nearness_54 rfl ?_
  refine jm_getA C fF_X11_19 (by decide) (by decide) dX11_nearness_55 ?_
  refine jm_iload_n C dX11_nearness_58 rfl ?_
  refine jm_ald C 12 (n := 40) (by decide) (by decide) rfl ha dX11_nearness_59 ?_
  refine jm_isub C dX11_nearness_60 ?_
  refine jm_max C kM_X11_150 dX11_nearness_61 (Nat.le_of_ble_eq_true rfl) (Nat.le_of_ble_eq_true rfl) ?_
  refine jm_max C kM_X11_150 dX11_nearness_64 (Nat.le_of_ble_eq_true rfl) (Nat.le_of_ble_eq_true rfl) ?_
  refine jm_istore (lv' := [(0, .ref m0), (1, .int a), (2, .int b), (3, .int (if 0 < (if ((S 9 (a).toNatClampNeg) - (S 11 (b).toNatClampNeg)) < ((S 9 (b).toNatClampNeg) - (S 11 (a).toNatClampNeg)) then ((S 9 (b).toNatClampNeg) - (S 11 (a).toNatClampNeg)) else ((S 9 (a).toNatClampNeg) - (S 11 (b).toNatClampNeg))) then (if ((S 9 (a).toNatClampNeg) - (S 11 (b).toNatClampNeg)) < ((S 9 (b).toNatClampNeg) - (S 11 (a).toNatClampNeg)) then ((S 9 (b).toNatClampNeg) - (S 11 (a).toNatClampNeg)) else ((S 9 (a).toNatClampNeg) - (S 11 (b).toNatClampNeg))) else 0)), (4, .int (if 0 < (if ((S 10 (a).toNatClampNeg) - (S 12 (b).toNatClampNeg)) < ((S 10 (b).toNatClampNeg) - (S 12 (a).toNatClampNeg)) then ((S 10 (b).toNatClampNeg) - (S 12 (a).toNatClampNeg)) else ((S 10 (a).toNatClampNeg) - (S 12 (b).toNatClampNeg))) then (if ((S 10 (a).toNatClampNeg) - (S 12 (b).toNatClampNeg)) < ((S 10 (b).toNatClampNeg) - (S 12 (a).toNatClampNeg)) then ((S 10 (b).toNatClampNeg) - (S 12 (a).toNatClampNeg)) else ((S 10 (a).toNatClampNeg) - (S 12 (b).toNatClampNeg))) else 0))]) C dX11_nearness_67 (by decide) rfl ?_
  refine jm_iload_n C dX11_nearness_69 rfl ?_
  refine jm_iload_n C dX11_nearness_70 rfl ?_
  refine jm_imul C dX11_nearness_71 ?_
  refine jm_iload C dX11_nearness_72 rfl ?_
  refine jm_iload C dX11_nearness_74 rfl ?_
  refine jm_imul C dX11_nearness_76 ?_
  refine jm_iadd C dX11_nearness_77 ?_
  exact ret _ _ _ _ ⟨rfl, rfl⟩ dX11_nearness_78
def mS_near (S : Nat → Nat → Int32) (one oth : Int32)  : Nat → Nat → Int32 := S
def m_near (S : Nat → Nat → Int32) (one oth : Int32)  : Int32 × (Nat → Nat → Int32) := if (0 ≤ one ∧ one ≤ S 1 0 - 1) ∧ (0 ≤ oth ∧ oth ≤ S 1 0 - 1) then ((nearS S (one).toNatClampNeg (oth).toNatClampNeg), mS_near S one oth) else ((-1), S)
set_option maxHeartbeats 4000000 in
set_option maxRecDepth 100000 in
theorem c_near {l : Launch} {D : va_G} {cy : Nat → ClassId} {m0 : Nat} {ad : Nat → Nat} {S : Nat → Nat → Int32} (one oth : Int32) {nf : Nat} (hf : S 1 0 = nI nf) (hnf : nf ≤ 40) : mI l D cy yX11_near (.code yX11_near cX11_near 3 ((Option.some FieldType.int))) 2 m0 ad [.int one, .int oth] S (fun r S' => (r, S') = m_near S one oth) := by
  refine m_ofI rfl (Nat.le_of_ble_eq_true rfl) (fun p e s m args below meth c A Q h0 C ret => ?_)
  refine jm_aload_n C dX11_near_0 rfl ?_
  refine jm_iload_n C dX11_near_1 rfl ?_
  refine jm_calli (As := [.int one]) (rest := []) C fG_X11_153 (c_isField (one)) rfl rfl (Nat.le_of_ble_eq_true rfl) ⟨Nat.le_of_ble_eq_true rfl, Nat.le_of_ble_eq_true rfl⟩ dX11_near_2 (fun r_2 S_2 e_2 => ?_)
  obtain ⟨e1_2, e2_2⟩ := e_2
  subst e1_2
  replace e2_2 := e2_2.symm
  subst e2_2
  refine jm_ifeq_b (tgt := 25) C dX11_near_5 (by decide) (fun c_5 => ?_) (fun c_5 => ?_)
  · refine jm_iconst (v := (-1)) C dX11_near_25 (by decide) ?_
    exact ret _ _ _ _ (if_neg (fun z => by first | exact c_5 z.1 | exact z.1 c_5)).symm dX11_near_26
  · refine jm_aload_n C dX11_near_8 rfl ?_
    refine jm_iload_n C dX11_near_9 rfl ?_
    refine jm_calli (As := [.int oth]) (rest := []) C fG_X11_153 (c_isField (oth)) rfl rfl (Nat.le_of_ble_eq_true rfl) ⟨Nat.le_of_ble_eq_true rfl, Nat.le_of_ble_eq_true rfl⟩ dX11_near_10 (fun r_10 S_10 e_10 => ?_)
    obtain ⟨e1_10, e2_10⟩ := e_10
    subst e1_10
    replace e2_10 := e2_10.symm
    subst e2_10
    refine jm_ifeq_b (tgt := 25) C dX11_near_13 (by decide) (fun c_13 => ?_) (fun c_13 => ?_)
    · refine jm_iconst (v := (-1)) C dX11_near_25 (by decide) ?_
      exact ret _ _ _ _ (if_neg (fun z => by first | exact c_13 z.2 | exact z.2 c_13)).symm dX11_near_26
    · refine jm_aload_n C dX11_near_16 rfl ?_
      refine jm_iload_n C dX11_near_17 rfl ?_
      refine jm_iload_n C dX11_near_18 rfl ?_
      refine jm_calli (As := [.int one, .int oth]) (rest := []) C fG_X11_157 (c_nearness2 (one) (oth) (in_vp hf hnf c_5) (in_vp hf hnf c_13)) rfl rfl (Nat.le_of_ble_eq_true rfl) ⟨Nat.le_of_ble_eq_true rfl, Nat.le_of_ble_eq_true rfl⟩ dX11_near_19 (fun r_19 S_19 e_19 => ?_)
      obtain ⟨e1_19, e2_19⟩ := e_19
      subst e1_19
      replace e2_19 := e2_19.symm
      subst e2_19
      refine jm_goto (tgt := 26) C dX11_near_22 (by decide) ?_
      exact ret _ _ _ _ (if_pos ⟨c_5, c_13⟩).symm dX11_near_26
def mS_stands (S : Nat → Nat → Int32) (f yr q : Int32) (nl ns : Nat)  : Nat → Nat → Int32 := S
def m_stands (S : Nat → Nat → Int32) (f yr q : Int32) (nl ns : Nat)  : Int32 × (Nat → Nat → Int32) := if (0 ≤ f ∧ f ≤ S 1 0 - 1) ∧ (0 ≤ yr ∧ yr ≤ S 0 0) ∧ (0 ≤ q ∧ q ≤ S 0 0) then ((standS S (f) (yr) (q) nl ns), mS_stands S f yr q nl ns) else ((-1), S)
set_option maxHeartbeats 4000000 in
set_option maxRecDepth 100000 in
theorem c_stands {l : Launch} {D : va_G} {cy : Nat → ClassId} {m0 : Nat} {ad : Nat → Nat} {S : Nat → Nat → Int32} (f yr q : Int32) {nl : Nat} (hl : S 2 0 = nI nl) (hnl : nl ≤ 200) {ns : Nat} (hs : S 5 0 = nI ns) (hns : ns ≤ 300) : mI l D cy yX11_stands (.code yX11_stands cX11_stands 4 ((Option.some FieldType.int))) 3 m0 ad [.int f, .int yr, .int q] S (fun r S' => (r, S') = m_stands S f yr q nl ns) := by
  refine m_ofI rfl (Nat.le_of_ble_eq_true rfl) (fun p e s m args below meth c A Q h0 C ret => ?_)
  refine jm_aload_n C dX11_stands_0 rfl ?_
  refine jm_iload_n C dX11_stands_1 rfl ?_
  refine jm_calli (As := [.int f]) (rest := []) C fG_X11_153 (c_isField (f)) rfl rfl (Nat.le_of_ble_eq_true rfl) ⟨Nat.le_of_ble_eq_true rfl, Nat.le_of_ble_eq_true rfl⟩ dX11_stands_2 (fun r_2 S_2 e_2 => ?_)
  obtain ⟨e1_2, e2_2⟩ := e_2
  subst e1_2
  replace e2_2 := e2_2.symm
  subst e2_2
  refine jm_ifeq_b (tgt := 34) C dX11_stands_5 (by decide) (fun c_5 => ?_) (fun c_5 => ?_)
  · refine jm_iconst (v := (-1)) C dX11_stands_34 (by decide) ?_
    exact ret _ _ _ _ (if_neg (fun z => by first | exact c_5 z.1 | exact z.1 c_5)).symm dX11_stands_35
  · refine jm_aload_n C dX11_stands_8 rfl ?_
    refine jm_iload_n C dX11_stands_9 rfl ?_
    refine jm_calli (As := [.int yr]) (rest := []) C fG_X11_160 (c_isYear (yr)) rfl rfl (Nat.le_of_ble_eq_true rfl) ⟨Nat.le_of_ble_eq_true rfl, Nat.le_of_ble_eq_true rfl⟩ dX11_stands_10 (fun r_10 S_10 e_10 => ?_)
    obtain ⟨e1_10, e2_10⟩ := e_10
    subst e1_10
    replace e2_10 := e2_10.symm
    subst e2_10
    refine jm_ifeq_b (tgt := 34) C dX11_stands_13 (by decide) (fun c_13 => ?_) (fun c_13 => ?_)
    · refine jm_iconst (v := (-1)) C dX11_stands_34 (by decide) ?_
      exact ret _ _ _ _ (if_neg (fun z => by first | exact c_13 z.2.1 | exact z.2.1 c_13)).symm dX11_stands_35
    · refine jm_aload_n C dX11_stands_16 rfl ?_
      refine jm_iload_n C dX11_stands_17 rfl ?_
      refine jm_calli (As := [.int q]) (rest := []) C fG_X11_160 (c_isYear (q)) rfl rfl (Nat.le_of_ble_eq_true rfl) ⟨Nat.le_of_ble_eq_true rfl, Nat.le_of_ble_eq_true rfl⟩ dX11_stands_18 (fun r_18 S_18 e_18 => ?_)
      obtain ⟨e1_18, e2_18⟩ := e_18
      subst e1_18
      replace e2_18 := e2_18.symm
      subst e2_18
      refine jm_ifeq_b (tgt := 34) C dX11_stands_21 (by decide) (fun c_21 => ?_) (fun c_21 => ?_)
      · refine jm_iconst (v := (-1)) C dX11_stands_34 (by decide) ?_
        exact ret _ _ _ _ (if_neg (fun z => by first | exact c_21 z.2.2 | exact z.2.2 c_21)).symm dX11_stands_35
      · refine jm_aload_n C dX11_stands_24 rfl ?_
        refine jm_iload_n C dX11_stands_25 rfl ?_
        refine jm_iload_n C dX11_stands_26 rfl ?_
        refine jm_iload_n C dX11_stands_27 rfl ?_
        refine jm_calli (As := [.int f, .int yr, .int q]) (rest := []) C fG_X11_169 (c_standing (f) (yr) (q) hl hnl hs hns) rfl rfl (Nat.le_of_ble_eq_true rfl) ⟨Nat.le_of_ble_eq_true rfl, Nat.le_of_ble_eq_true rfl⟩ dX11_stands_28 (fun r_28 S_28 e_28 => ?_)
        obtain ⟨e1_28, e2_28⟩ := e_28
        subst e1_28
        replace e2_28 := e2_28.symm
        subst e2_28
        refine jm_goto (tgt := 35) C dX11_stands_31 (by decide) ?_
        exact ret _ _ _ _ (if_pos ⟨c_5, c_13, c_21⟩).symm dX11_stands_35
def mS_force (S : Nat → Nat → Int32) (kind yr q : Int32) (nt : Nat)  : Nat → Nat → Int32 := S
def m_force (S : Nat → Nat → Int32) (kind yr q : Int32) (nt : Nat)  : Int32 × (Nat → Nat → Int32) := if (0 ≤ kind ∧ kind ≤ 4) ∧ (0 ≤ yr ∧ yr ≤ 60) ∧ (0 ≤ q ∧ q ≤ S 0 0) then ((inForceS S (kind) (yr) (q) nt), mS_force S kind yr q nt) else ((-1), S)
set_option maxHeartbeats 4000000 in
set_option maxRecDepth 100000 in
theorem c_force {l : Launch} {D : va_G} {cy : Nat → ClassId} {m0 : Nat} {ad : Nat → Nat} {S : Nat → Nat → Int32} (kind yr q : Int32) {nt : Nat} (ht : S 6 0 = nI nt) (hnt : nt ≤ 100) : mI l D cy yX11_force (.code yX11_force cX11_force 4 ((Option.some FieldType.int))) 2 m0 ad [.int kind, .int yr, .int q] S (fun r S' => (r, S') = m_force S kind yr q nt) := by
  refine m_ofI rfl (Nat.le_of_ble_eq_true rfl) (fun p e s m args below meth c A Q h0 C ret => ?_)
  refine jm_iload_n C dX11_force_0 rfl ?_
  refine jm_iconst (v := 0) C dX11_force_1 (by decide) ?_
  refine jm_iconst (v := 4) C dX11_force_2 (by decide) ?_
  refine jm_calls (As := [.int kind, .int 0, .int 4]) (rest := []) C fG_X11_134 (c_in (kind) (0) (4)) rfl rfl (Nat.le_of_ble_eq_true rfl) ⟨Nat.le_of_ble_eq_true rfl, Nat.le_of_ble_eq_true rfl⟩ dX11_force_3 (fun r_3 e_3 => ?_)
  subst e_3
  refine jm_ifeq_b (tgt := 37) C dX11_force_6 (by decide) (fun c_6 => ?_) (fun c_6 => ?_)
  · refine jm_iconst (v := (-1)) C dX11_force_37 (by decide) ?_
    exact ret _ _ _ _ (if_neg (fun z => by first | exact c_6 z.1 | exact z.1 c_6)).symm dX11_force_38
  · refine jm_iload_n C dX11_force_9 rfl ?_
    refine jm_iconst (v := 0) C dX11_force_10 (by decide) ?_
    refine jm_bipush (v := 60) C dX11_force_11 (by decide) ?_
    refine jm_calls (As := [.int yr, .int 0, .int 60]) (rest := []) C fG_X11_134 (c_in (yr) (0) (60)) rfl rfl (Nat.le_of_ble_eq_true rfl) ⟨Nat.le_of_ble_eq_true rfl, Nat.le_of_ble_eq_true rfl⟩ dX11_force_13 (fun r_13 e_13 => ?_)
    subst e_13
    refine jm_ifeq_b (tgt := 37) C dX11_force_16 (by decide) (fun c_16 => ?_) (fun c_16 => ?_)
    · refine jm_iconst (v := (-1)) C dX11_force_37 (by decide) ?_
      exact ret _ _ _ _ (if_neg (fun z => by first | exact c_16 z.2.1 | exact z.2.1 c_16)).symm dX11_force_38
    · refine jm_aload_n C dX11_force_19 rfl ?_
      refine jm_iload_n C dX11_force_20 rfl ?_
      refine jm_calli (As := [.int q]) (rest := []) C fG_X11_160 (c_isYear (q)) rfl rfl (Nat.le_of_ble_eq_true rfl) ⟨Nat.le_of_ble_eq_true rfl, Nat.le_of_ble_eq_true rfl⟩ dX11_force_21 (fun r_21 S_21 e_21 => ?_)
      obtain ⟨e1_21, e2_21⟩ := e_21
      subst e1_21
      replace e2_21 := e2_21.symm
      subst e2_21
      refine jm_ifeq_b (tgt := 37) C dX11_force_24 (by decide) (fun c_24 => ?_) (fun c_24 => ?_)
      · refine jm_iconst (v := (-1)) C dX11_force_37 (by decide) ?_
        exact ret _ _ _ _ (if_neg (fun z => by first | exact c_24 z.2.2 | exact z.2.2 c_24)).symm dX11_force_38
      · refine jm_aload_n C dX11_force_27 rfl ?_
        refine jm_iload_n C dX11_force_28 rfl ?_
        refine jm_iload_n C dX11_force_29 rfl ?_
        refine jm_iload_n C dX11_force_30 rfl ?_
        refine jm_calli (As := [.int kind, .int yr, .int q]) (rest := []) C fG_X11_180 (c_inForce (kind) (yr) (q) ht hnt) rfl rfl (Nat.le_of_ble_eq_true rfl) ⟨Nat.le_of_ble_eq_true rfl, Nat.le_of_ble_eq_true rfl⟩ dX11_force_31 (fun r_31 S_31 e_31 => ?_)
        obtain ⟨e1_31, e2_31⟩ := e_31
        subst e1_31
        replace e2_31 := e2_31.symm
        subst e2_31
        refine jm_goto (tgt := 38) C dX11_force_34 (by decide) ?_
        exact ret _ _ _ _ (if_pos ⟨c_6, c_16, c_24⟩).symm dX11_force_38
def m_told (S : Nat → Nat → Int32) (lt what : Int32) (nk : Nat) : Int32 := if 0 ≤ lt ∧ lt ≤ S 2 0 - 1 then tsel 13 what (fun i => ([S 21 lt.toNatClampNeg, S 22 lt.toNatClampNeg, S 23 lt.toNatClampNeg, S 24 lt.toNatClampNeg, S 25 lt.toNatClampNeg, S 26 lt.toNatClampNeg, S 27 lt.toNatClampNeg, S 28 lt.toNatClampNeg, S 29 lt.toNatClampNeg, S 30 lt.toNatClampNeg, S 31 lt.toNatClampNeg, S 32 lt.toNatClampNeg, looksS S lt (S 0 0) nk, S 33 lt.toNatClampNeg] : List Int32).getD i (-1)) (-1) else -1
set_option maxHeartbeats 4000000 in
set_option maxRecDepth 100000 in
theorem c_told {l : Launch} {D : va_G} {cy : Nat → ClassId} {m0 : Nat} {ad : Nat → Nat} {S : Nat → Nat → Int32} (lt what : Int32) {nl : Nat} (hl : S 2 0 = nI nl) (hnl : nl ≤ 200) {nk : Nat} (hk : S 7 0 = nI nk) (hnk : nk ≤ 300) : mI l D cy yX11_told (.code yX11_told cX11_told 3 ((Option.some FieldType.int))) 2 m0 ad [.int lt, .int what] S (fun r S' => r = m_told S lt what nk ∧ S' = S) := by
  refine m_ofI rfl (Nat.le_of_ble_eq_true rfl) (fun p e s m args below meth c A Q h0 C ret => ?_)
  refine jm_aload_n C dX11_told_0 rfl ?_
  refine jm_iload_n C dX11_told_1 rfl ?_
  refine jm_calli (As := [.int lt]) (rest := []) C fG_X11_186 (c_isLot (lt)) rfl rfl (Nat.le_of_ble_eq_true rfl) ⟨Nat.le_of_ble_eq_true rfl, Nat.le_of_ble_eq_true rfl⟩ dX11_told_2 (fun r_2 S_2 e_2 => ?_)
  obtain ⟨e1_2, e2_2⟩ := e_2
  subst e1_2
  replace e2_2 := e2_2.symm
  subst e2_2
  refine jm_ifne_b (tgt := 10) C dX11_told_5 (by decide) (fun c_5 => ?_) (fun c_5 => ?_)
  · refine jm_iload_n C dX11_told_10 rfl ?_
    refine jm_tsw (hi := 13) C dX11_told_11 (fun i_11 hi_11 e_11 => ?_) (fun c_11 => ⟨181, by decide, ?_⟩)
    · subst e_11
      rcases (show i_11 = 0 ∨ i_11 = 1 ∨ i_11 = 2 ∨ i_11 = 3 ∨ i_11 = 4 ∨ i_11 = 5 ∨ i_11 = 6 ∨ i_11 = 7 ∨ i_11 = 8 ∨ i_11 = 9 ∨ i_11 = 10 ∨ i_11 = 11 ∨ i_11 = 12 ∨ i_11 = 13 by omega) with rfl | rfl | rfl | rfl | rfl | rfl | rfl | rfl | rfl | rfl | rfl | rfl | rfl | rfl
      · refine ⟨69, 80, rfl, by decide, ?_⟩
        refine jm_aload_n C dX11_told_80 rfl ?_
        refine jm_getA C fF_X11_46 (by decide) (by decide) dX11_told_81 ?_
        refine jm_iload_n C dX11_told_84 rfl ?_
        refine jm_ald C 21 (n := 200) (by decide) (by decide) rfl (in_vp hl hnl c_5) dX11_told_85 ?_
        exact ret _ _ _ _ ⟨by rw [m_told, if_pos c_5, tsel_in (by decide)]; rfl, rfl⟩ dX11_told_86
      · refine ⟨76, 87, rfl, by decide, ?_⟩
        refine jm_aload_n C dX11_told_87 rfl ?_
        refine jm_getA C fF_X11_49 (by decide) (by decide) dX11_told_88 ?_
        refine jm_iload_n C dX11_told_91 rfl ?_
        refine jm_ald C 22 (n := 200) (by decide) (by decide) rfl (in_vp hl hnl c_5) dX11_told_92 ?_
        exact ret _ _ _ _ ⟨by rw [m_told, if_pos c_5, tsel_in (by decide)]; rfl, rfl⟩ dX11_told_93
      · refine ⟨83, 94, rfl, by decide, ?_⟩
        refine jm_aload_n C dX11_told_94 rfl ?_
        refine jm_getA C fF_X11_52 (by decide) (by decide) dX11_told_95 ?_
        refine jm_iload_n C dX11_told_98 rfl ?_
        refine jm_ald C 23 (n := 200) (by decide) (by decide) rfl (in_vp hl hnl c_5) dX11_told_99 ?_
        exact ret _ _ _ _ ⟨by rw [m_told, if_pos c_5, tsel_in (by decide)]; rfl, rfl⟩ dX11_told_100
      · refine ⟨90, 101, rfl, by decide, ?_⟩
        refine jm_aload_n C dX11_told_101 rfl ?_
        refine jm_getA C fF_X11_55 (by decide) (by decide) dX11_told_102 ?_
        refine jm_iload_n C dX11_told_105 rfl ?_
        refine jm_ald C 24 (n := 200) (by decide) (by decide) rfl (in_vp hl hnl c_5) dX11_told_106 ?_
        exact ret _ _ _ _ ⟨by rw [m_told, if_pos c_5, tsel_in (by decide)]; rfl, rfl⟩ dX11_told_107
      · refine ⟨97, 108, rfl, by decide, ?_⟩
        refine jm_aload_n C dX11_told_108 rfl ?_
        refine jm_getA C fF_X11_58 (by decide) (by decide) dX11_told_109 ?_
        refine jm_iload_n C dX11_told_112 rfl ?_
        refine jm_ald C 25 (n := 200) (by decide) (by decide) rfl (in_vp hl hnl c_5) dX11_told_113 ?_
        exact ret _ _ _ _ ⟨by rw [m_told, if_pos c_5, tsel_in (by decide)]; rfl, rfl⟩ dX11_told_114
      · refine ⟨104, 115, rfl, by decide, ?_⟩
        refine jm_aload_n C dX11_told_115 rfl ?_
        refine jm_getA C fF_X11_61 (by decide) (by decide) dX11_told_116 ?_
        refine jm_iload_n C dX11_told_119 rfl ?_
        refine jm_ald C 26 (n := 200) (by decide) (by decide) rfl (in_vp hl hnl c_5) dX11_told_120 ?_
        exact ret _ _ _ _ ⟨by rw [m_told, if_pos c_5, tsel_in (by decide)]; rfl, rfl⟩ dX11_told_121
      · refine ⟨111, 122, rfl, by decide, ?_⟩
        refine jm_aload_n C dX11_told_122 rfl ?_
        refine jm_getA C fF_X11_64 (by decide) (by decide) dX11_told_123 ?_
        refine jm_iload_n C dX11_told_126 rfl ?_
        refine jm_ald C 27 (n := 200) (by decide) (by decide) rfl (in_vp hl hnl c_5) dX11_told_127 ?_
        exact ret _ _ _ _ ⟨by rw [m_told, if_pos c_5, tsel_in (by decide)]; rfl, rfl⟩ dX11_told_128
      · refine ⟨118, 129, rfl, by decide, ?_⟩
        refine jm_aload_n C dX11_told_129 rfl ?_
        refine jm_getA C fF_X11_67 (by decide) (by decide) dX11_told_130 ?_
        refine jm_iload_n C dX11_told_133 rfl ?_
        refine jm_ald C 28 (n := 200) (by decide) (by decide) rfl (in_vp hl hnl c_5) dX11_told_134 ?_
        exact ret _ _ _ _ ⟨by rw [m_told, if_pos c_5, tsel_in (by decide)]; rfl, rfl⟩ dX11_told_135
      · refine ⟨125, 136, rfl, by decide, ?_⟩
        refine jm_aload_n C dX11_told_136 rfl ?_
        refine jm_getA C fF_X11_70 (by decide) (by decide) dX11_told_137 ?_
        refine jm_iload_n C dX11_told_140 rfl ?_
        refine jm_ald C 29 (n := 200) (by decide) (by decide) rfl (in_vp hl hnl c_5) dX11_told_141 ?_
        exact ret _ _ _ _ ⟨by rw [m_told, if_pos c_5, tsel_in (by decide)]; rfl, rfl⟩ dX11_told_142
      · refine ⟨132, 143, rfl, by decide, ?_⟩
        refine jm_aload_n C dX11_told_143 rfl ?_
        refine jm_getA C fF_X11_73 (by decide) (by decide) dX11_told_144 ?_
        refine jm_iload_n C dX11_told_147 rfl ?_
        refine jm_ald C 30 (n := 200) (by decide) (by decide) rfl (in_vp hl hnl c_5) dX11_told_148 ?_
        exact ret _ _ _ _ ⟨by rw [m_told, if_pos c_5, tsel_in (by decide)]; rfl, rfl⟩ dX11_told_149
      · refine ⟨139, 150, rfl, by decide, ?_⟩
        refine jm_aload_n C dX11_told_150 rfl ?_
        refine jm_getA C fF_X11_76 (by decide) (by decide) dX11_told_151 ?_
        refine jm_iload_n C dX11_told_154 rfl ?_
        refine jm_ald C 31 (n := 200) (by decide) (by decide) rfl (in_vp hl hnl c_5) dX11_told_155 ?_
        exact ret _ _ _ _ ⟨by rw [m_told, if_pos c_5, tsel_in (by decide)]; rfl, rfl⟩ dX11_told_156
      · refine ⟨146, 157, rfl, by decide, ?_⟩
        refine jm_aload_n C dX11_told_157 rfl ?_
        refine jm_getA C fF_X11_79 (by decide) (by decide) dX11_told_158 ?_
        refine jm_iload_n C dX11_told_161 rfl ?_
        refine jm_ald C 32 (n := 200) (by decide) (by decide) rfl (in_vp hl hnl c_5) dX11_told_162 ?_
        exact ret _ _ _ _ ⟨by rw [m_told, if_pos c_5, tsel_in (by decide)]; rfl, rfl⟩ dX11_told_163
      · refine ⟨153, 164, rfl, by decide, ?_⟩
        refine jm_aload_n C dX11_told_164 rfl ?_
        refine jm_iload_n C dX11_told_165 rfl ?_
        refine jm_aload_n C dX11_told_166 rfl ?_
        refine jm_getS C fF_X11_141 (by decide) dX11_told_167 ?_
        refine jm_calli (As := [.int lt, .int (S 0 0)]) (rest := []) C fG_X11_205 (c_looksOf (lt) ((S 0 0)) hk hnk) rfl rfl (Nat.le_of_ble_eq_true rfl) ⟨Nat.le_of_ble_eq_true rfl, Nat.le_of_ble_eq_true rfl⟩ dX11_told_170 (fun r_170 S_170 e_170 => ?_)
        obtain ⟨e1_170, e2_170⟩ := e_170
        subst e1_170
        replace e2_170 := e2_170.symm
        subst e2_170
        exact ret _ _ _ _ ⟨by rw [m_told, if_pos c_5, tsel_in (by decide)]; rfl, rfl⟩ dX11_told_173
      · refine ⟨163, 174, rfl, by decide, ?_⟩
        refine jm_aload_n C dX11_told_174 rfl ?_
        refine jm_getA C fF_X11_82 (by decide) (by decide) dX11_told_175 ?_
        refine jm_iload_n C dX11_told_178 rfl ?_
        refine jm_ald C 33 (n := 200) (by decide) (by decide) rfl (in_vp hl hnl c_5) dX11_told_179 ?_
        exact ret _ _ _ _ ⟨by rw [m_told, if_pos c_5, tsel_in (by decide)]; rfl, rfl⟩ dX11_told_180
    · refine jm_iconst (v := (-1)) C dX11_told_181 (by decide) ?_
      exact ret _ _ _ _ ⟨by rw [m_told, if_pos c_5, tsel_out c_11], rfl⟩ dX11_told_182
  · refine jm_iconst (v := (-1)) C dX11_told_8 (by decide) ?_
    exact ret _ _ _ _ ⟨by rw [m_told, if_neg c_5], rfl⟩ dX11_told_9
def m_sack (S : Nat → Nat → Int32) (bg what : Int32) : Int32 := if 0 ≤ bg ∧ bg ≤ S 3 0 - 1 then (if what = 0 then S 38 bg.toNatClampNeg else if what = 1 then S 39 bg.toNatClampNeg else if what = 2 then S 40 bg.toNatClampNeg else if what = 3 then S 41 bg.toNatClampNeg else -1) else -1
set_option maxHeartbeats 4000000 in
set_option maxRecDepth 100000 in
theorem c_sack {l : Launch} {D : va_G} {cy : Nat → ClassId} {m0 : Nat} {ad : Nat → Nat} {S : Nat → Nat → Int32} (bg what : Int32) {nb : Nat} (hb : S 3 0 = nI nb) (hnb : nb ≤ 200) : mI l D cy yX11_sack (.code yX11_sack cX11_sack 3 ((Option.some FieldType.int))) 2 m0 ad [.int bg, .int what] S (fun r S' => r = m_sack S bg what ∧ S' = S) := by
  refine m_ofI rfl (Nat.le_of_ble_eq_true rfl) (fun p e s m args below meth c A Q h0 C ret => ?_)
  refine jm_aload_n C dX11_sack_0 rfl ?_
  refine jm_iload_n C dX11_sack_1 rfl ?_
  refine jm_calli (As := [.int bg]) (rest := []) C fG_X11_199 (c_isBag (bg)) rfl rfl (Nat.le_of_ble_eq_true rfl) ⟨Nat.le_of_ble_eq_true rfl, Nat.le_of_ble_eq_true rfl⟩ dX11_sack_2 (fun r_2 S_2 e_2 => ?_)
  obtain ⟨e1_2, e2_2⟩ := e_2
  subst e1_2
  replace e2_2 := e2_2.symm
  subst e2_2
  refine jm_ifne_b (tgt := 10) C dX11_sack_5 (by decide) (fun c_5 => ?_) (fun c_5 => ?_)
  · refine jm_iload_n C dX11_sack_10 rfl ?_
    refine jm_if_ne (tgt := 23) C dX11_sack_11 (by decide) (fun c_11 => ?_) (fun c_11 => ?_)
    · refine jm_iload_n C dX11_sack_23 rfl ?_
      refine jm_iconst (v := 1) C dX11_sack_24 (by decide) ?_
      refine jm_icmp_ne (tgt := 37) C dX11_sack_25 (by decide) (fun c_25 => ?_) (fun c_25 => ?_)
      · refine jm_iload_n C dX11_sack_37 rfl ?_
        refine jm_iconst (v := 2) C dX11_sack_38 (by decide) ?_
        refine jm_icmp_ne (tgt := 51) C dX11_sack_39 (by decide) (fun c_39 => ?_) (fun c_39 => ?_)
        · refine jm_iload_n C dX11_sack_51 rfl ?_
          refine jm_iconst (v := 3) C dX11_sack_52 (by decide) ?_
          refine jm_icmp_ne (tgt := 65) C dX11_sack_53 (by decide) (fun c_53 => ?_) (fun c_53 => ?_)
          · refine jm_iconst (v := (-1)) C dX11_sack_65 (by decide) ?_
            exact ret _ _ _ _ ⟨by rw [m_sack, if_pos c_5, if_neg c_11, if_neg c_25, if_neg c_39, if_neg c_53], rfl⟩ dX11_sack_66
          · refine jm_aload_n C dX11_sack_56 rfl ?_
            refine jm_getA C fF_X11_106 (by decide) (by decide) dX11_sack_57 ?_
            refine jm_iload_n C dX11_sack_60 rfl ?_
            refine jm_ald C 41 (n := 200) (by decide) (by decide) rfl (in_vp hb hnb c_5) dX11_sack_61 ?_
            refine jm_goto (tgt := 66) C dX11_sack_62 (by decide) ?_
            exact ret _ _ _ _ ⟨by rw [m_sack, if_pos c_5, if_neg c_11, if_neg c_25, if_neg c_39, if_pos c_53], rfl⟩ dX11_sack_66
        · refine jm_aload_n C dX11_sack_42 rfl ?_
          refine jm_getA C fF_X11_103 (by decide) (by decide) dX11_sack_43 ?_
          refine jm_iload_n C dX11_sack_46 rfl ?_
          refine jm_ald C 40 (n := 200) (by decide) (by decide) rfl (in_vp hb hnb c_5) dX11_sack_47 ?_
          refine jm_goto (tgt := 66) C dX11_sack_48 (by decide) ?_
          exact ret _ _ _ _ ⟨by rw [m_sack, if_pos c_5, if_neg c_11, if_neg c_25, if_pos c_39], rfl⟩ dX11_sack_66
      · refine jm_aload_n C dX11_sack_28 rfl ?_
        refine jm_getA C fF_X11_100 (by decide) (by decide) dX11_sack_29 ?_
        refine jm_iload_n C dX11_sack_32 rfl ?_
        refine jm_ald C 39 (n := 200) (by decide) (by decide) rfl (in_vp hb hnb c_5) dX11_sack_33 ?_
        refine jm_goto (tgt := 66) C dX11_sack_34 (by decide) ?_
        exact ret _ _ _ _ ⟨by rw [m_sack, if_pos c_5, if_neg c_11, if_pos c_25], rfl⟩ dX11_sack_66
    · refine jm_aload_n C dX11_sack_14 rfl ?_
      refine jm_getA C fF_X11_97 (by decide) (by decide) dX11_sack_15 ?_
      refine jm_iload_n C dX11_sack_18 rfl ?_
      refine jm_ald C 38 (n := 200) (by decide) (by decide) rfl (in_vp hb hnb c_5) dX11_sack_19 ?_
      refine jm_goto (tgt := 66) C dX11_sack_20 (by decide) ?_
      exact ret _ _ _ _ ⟨by rw [m_sack, if_pos c_5, if_pos c_11], rfl⟩ dX11_sack_66
  · refine jm_iconst (v := (-1)) C dX11_sack_8 (by decide) ?_
    exact ret _ _ _ _ ⟨by rw [m_sack, if_neg c_5], rfl⟩ dX11_sack_9
def wantB (S : Nat → Nat → Int32) (lt : Int32) (k : Nat) : Bool := decide (S 42 k = lt)
def mS_want (S : Nat → Nat → Int32) (lt : Int32) (nw : Nat) : Nat → Nat → Int32 := u2 (u2 S 42 nw lt) 8 0 (nI nw + 1)
def m_want (S : Nat → Nat → Int32) (lt : Int32) (nw : Nat) : Int32 × (Nat → Nat → Int32) := if lt = -1 then (0, u2 S 8 0 0) else if (0 ≤ lt ∧ lt ≤ S 2 0 - 1) ∧ ¬ nI nw = 5 ∧ ffst (wantB S lt) 0 nw = -1 then (nI nw + 1, mS_want S lt nw) else (-1, S)
theorem ffst_ge {p : Nat → Bool} {i k : Nat} (h : p i = true) (hi : i < 2 ^ 31) : ¬ ffst p i (k + 1) = -1 := by
  rw [ffst_t h]
  intro e
  have h2 := nI_toInt hi
  rw [e] at h2
  have h3 : (-1 : Int32).toInt = -1 := by decide
  omega
set_option maxHeartbeats 4000000 in
set_option maxRecDepth 100000 in
theorem L_want {p : Program} {l : Launch} {e : Env} {R : Room} {s : State} {m : MethodId} {args : Array Value} {below : List Frame} {meth : Method} {c : Code} {D : va_G} {cy : Nat → ClassId} {A : Nat → Prop} {Q : State → Prop} {m0 : Nat} {ad : Nat → Nat} {h0 : jH} {S : Nat → Nat → Int32} (C : jC p s m args meth c D cy A 3 RX11 cX11_want) {lt : Int32} {nw : Nat} (hw : S 8 0 = nI nw) (hnw : nw ≤ 5) (g1 : ¬ lt = -1) (g2 : 0 ≤ lt ∧ lt ≤ S 2 0 - 1) (g3 : ¬ nI nw = 5) (ret : ∀ (r : Int32) (S' : Nat → Nat → Int32) (lv : List (Nat × Value)) (pc : Nat), (r, S') = m_want S lt nw → decode cX11_want pc = .ok (.ireturn, 1) → jM p l e R s m args below meth c D cy A 3 Q m0 ad h0 S' lv pc [.int r]) : ∀ (n k i : Nat), k < n → i + k = nw → (ffst (wantB S lt) 0 nw = ffst (wantB S lt) i k) → jM p l e R s m args below meth c D cy A 3 Q m0 ad h0 S [(0, .ref m0), (1, .int lt), (2, .int (nI i))] 32 [] := by
  intro n
  induction n with
  | zero => intro k i  h1; exact absurd h1 (Nat.not_lt_zero _)
  | succ n ih =>
    intro k i  h1 h2 he
    refine jm_iload_n C dX11_want_32 rfl ?_
    refine jm_aload_n C dX11_want_33 rfl ?_
    refine jm_getSe (v := nI nw) C fF_X11_235 (by decide) hw dX11_want_34 ?_
    refine jm_icmp_ge (tgt := 58) C dX11_want_37 (by decide) (fun c_37 => ?_) (fun c_37 => ?_)
    · have hge : nw ≤ i := nI_ge_of c_37 (by omega) (by omega)
      obtain rfl : k = 0 := by omega
      have hlt : nw < 5 := ne_lt rfl g3 (by omega)
      refine jm_aload_n C dX11_want_58 rfl ?_
      refine jm_getA C fF_X11_109 (by decide) (by decide) dX11_want_59 ?_
      refine jm_aload_n C dX11_want_62 rfl ?_
      refine jm_getSe (v := nI nw) C fF_X11_235 (by decide) hw dX11_want_63 ?_
      refine jm_iload_n C dX11_want_66 rfl ?_
      refine jm_astN C 42 (n := 5) (by decide) (by decide) rfl (by omega) dX11_want_67 ?_
      refine jm_aload_n C dX11_want_68 rfl ?_
      refine jm_dup C dX11_want_69 rfl ?_
      refine jm_getSe (v := nI nw) C fF_X11_235 (by decide) hw dX11_want_70 ?_
      refine jm_iconst (v := 1) C dX11_want_73 (by decide) ?_
      refine jm_iadd C dX11_want_74 ?_
      refine jm_putS C fP_X11_235 (by decide) dX11_want_75 ?_
      refine jm_aload_n C dX11_want_78 rfl ?_
      refine jm_getSe (v := ((nI nw) + 1)) C fF_X11_235 (by decide) rfl dX11_want_79 ?_
      exact ret _ _ _ _ (by rw [m_want, if_neg g1, if_pos ⟨g2, g3, he⟩]; rfl) dX11_want_82
    · have hlt : i < nw := nI_lt_of c_37 (by omega)
      obtain ⟨k, rfl⟩ : ∃ q, k = q + 1 := ⟨k - 1, by omega⟩
      refine jm_aload_n C dX11_want_40 rfl ?_
      refine jm_getA C fF_X11_109 (by decide) (by decide) dX11_want_41 ?_
      refine jm_iload_n C dX11_want_44 rfl ?_
      refine jm_aldN C 42 (n := 5) (by decide) (by decide) rfl (by omega) dX11_want_45 ?_
      refine jm_iload_n C dX11_want_46 rfl ?_
      refine jm_icmp_ne (tgt := 52) C dX11_want_47 (by decide) (fun c_47 => ?_) (fun c_47 => ?_)
      · refine jm_iinc (lv' := [(0, .ref m0), (1, .int lt), (2, .int (nI (i + 1)))]) C dX11_want_52 rfl (nI_1 _) (by decide) rfl ?_
        refine jm_goto (tgt := 32) C dX11_want_55 (by decide) ?_
        exact ih k (i + 1) (by omega) (by omega) (he.trans (ffst_f (by simp [wantB, c_47])))
      · refine jm_iconst (v := (-1)) C dX11_want_50 (by decide) ?_
        exact ret _ _ _ _ (by rw [m_want, if_neg g1, if_neg (fun z => ffst_ge (by simp [wantB, c_47]) (by omega) (he.symm.trans z.2.2))]) dX11_want_51
set_option maxHeartbeats 4000000 in
set_option maxRecDepth 100000 in
theorem c_want {l : Launch} {D : va_G} {cy : Nat → ClassId} {m0 : Nat} {ad : Nat → Nat} {S : Nat → Nat → Int32} (lt : Int32) {nw : Nat} (hw : S 8 0 = nI nw) (hnw : nw ≤ 5) : mI l D cy yX11_want (.code yX11_want cX11_want 3 ((Option.some FieldType.int))) 2 m0 ad [.int lt] S (fun r S' => (r, S') = m_want S lt nw) := by
  refine m_ofI rfl (Nat.le_of_ble_eq_true rfl) (fun p e s m args below meth c A Q h0 C ret => ?_)
  refine jm_iload_n C dX11_want_0 rfl ?_
  refine jm_iconst (v := (-1)) C dX11_want_1 (by decide) ?_
  refine jm_icmp_ne (tgt := 12) C dX11_want_2 (by decide) (fun c_2 => ?_) (fun c_2 => ?_)
  · refine jm_aload_n C dX11_want_12 rfl ?_
    refine jm_iload_n C dX11_want_13 rfl ?_
    refine jm_calli (As := [.int lt]) (rest := []) C fG_X11_186 (c_isLot (lt)) rfl rfl (Nat.le_of_ble_eq_true rfl) ⟨Nat.le_of_ble_eq_true rfl, Nat.le_of_ble_eq_true rfl⟩ dX11_want_14 (fun r_14 S_14 e_14 => ?_)
    obtain ⟨e1_14, e2_14⟩ := e_14
    subst e1_14
    replace e2_14 := e2_14.symm
    subst e2_14
    refine jm_ifeq_b (tgt := 28) C dX11_want_17 (by decide) (fun c_17 => ?_) (fun c_17 => ?_)
    · refine jm_iconst (v := (-1)) C dX11_want_28 (by decide) ?_
      exact ret _ _ _ _ (by rw [m_want, if_neg c_2, if_neg (fun z => c_17 z.1)]) dX11_want_29
    · refine jm_aload_n C dX11_want_20 rfl ?_
      refine jm_getSe (v := nI nw) C fF_X11_235 (by decide) hw dX11_want_21 ?_
      refine jm_iconst (v := 5) C dX11_want_24 (by decide) ?_
      refine jm_icmp_ne (tgt := 30) C dX11_want_25 (by decide) (fun c_25 => ?_) (fun c_25 => ?_)
      · refine jm_iconst (v := 0) C dX11_want_30 (by decide) ?_
        refine jm_istore_n (lv' := [(0, .ref m0), (1, .int lt), (2, .int 0)]) C dX11_want_31 (by decide) rfl ?_
        exact L_want C hw hnw c_2 c_17 c_25 ret (nw + 1) nw 0 (by omega) (by omega) rfl
      · refine jm_iconst (v := (-1)) C dX11_want_28 (by decide) ?_
        exact ret _ _ _ _ (by rw [m_want, if_neg c_2, if_neg (fun z => z.2.1 c_25)]) dX11_want_29
  · refine jm_aload_n C dX11_want_5 rfl ?_
    refine jm_iconst (v := 0) C dX11_want_6 (by decide) ?_
    refine jm_putS C fP_X11_235 (by decide) dX11_want_7 ?_
    refine jm_iconst (v := 0) C dX11_want_10 (by decide) ?_
    exact ret _ _ _ _ (by rw [m_want, if_pos c_2]) dX11_want_11
def gRows (to : Int32) (i : Nat) (S : Nat → Nat → Int32) : Nat → Nat → Int32 :=
  if nI i = to then u2 S 46 i (mn 1 1000000)
  else if S 26 i = -1 then (if S 27 i = -1 then u2 S 46 i (mn 0 1000000) else u2 S 46 i (mn (0 + S 46 (S 27 i).toNatClampNeg) 1000000))
  else (if S 27 i = -1 then u2 S 46 i (mn (0 + S 46 (S 26 i).toNatClampNeg) 1000000) else u2 S 46 i (mn (0 + S 46 (S 26 i).toNatClampNeg + S 46 (S 27 i).toNatClampNeg) 1000000))
def rowsS (S : Nat → Nat → Int32) (to : Int32) (nl : Nat) : Nat → Nat → Int32 := flp (gRows to) 0 nl S
set_option maxHeartbeats 4000000 in
set_option maxRecDepth 100000 in
theorem L_rowsTo {p : Program} {l : Launch} {e : Env} {s : State} {m : MethodId} {args : Array Value} {below : List Frame} {meth : Method} {c : Code} {D : va_G} {cy : Nat → ClassId} {A : Nat → Prop} {Q : State → Prop} {m0 : Nat} {ad : Nat → Nat} {h0 : jH} (C : jC p s m args meth c D cy A 4 RX11 cX11_rowsTo) {S0 : Nat → Nat → Int32} {to : Int32} {nl : Nat} (hnl : nl ≤ 200) (ret : ∀ (S' : Nat → Nat → Int32) (lv : List (Nat × Value)) (pc : Nat), S' = rowsS S0 to nl → decode cX11_rowsTo pc = .ok (.return_, 1) → jM p l e (rmd 2 0 0) s m args below meth c D cy A 4 Q m0 ad h0 S' lv pc []) : ∀ (n k i : Nat) (S : Nat → Nat → Int32), k < n → i + k = nl → (S 2 0 = nI nl) → ((∀ q, q < nl → S 26 q = -1 ∨ vp_in (S 26 q) 200)) → ((∀ q, q < nl → S 27 q = -1 ∨ vp_in (S 27 q) 200)) → (rowsS S0 to nl = flp (gRows to) i k S) → jM p l e (rmd 2 0 0) s m args below meth c D cy A 4 Q m0 ad h0 S [(0, .ref m0), (1, .int to), (2, .int (nI i))] 2 [] := by
  intro n
  induction n with
  | zero => intro k i S h1; exact absurd h1 (Nat.not_lt_zero _)
  | succ n ih =>
    intro k i S h1 h2 hz ha hb he
    refine jm_iload_n C dX11_rowsTo_2 rfl ?_
    refine jm_aload_n C dX11_rowsTo_3 rfl ?_
    refine jm_getS C fF_X11_138 (by decide) dX11_rowsTo_4 ?_
    refine jm_icmp_ge (tgt := 97) C dX11_rowsTo_7 (by decide) (fun c_7 => ?_) (fun c_7 => ?_)
    · rw [hz] at c_7
      have hge : nl ≤ i := nI_ge_of c_7 (by omega) (by omega)
      obtain rfl : k = 0 := by omega
      exact ret _ _ _ (by rw [he]; rfl) dX11_rowsTo_97
    · rw [hz] at c_7
      have hlt : i < nl := nI_lt_of c_7 (by omega)
      obtain ⟨k, rfl⟩ : ∃ q, k = q + 1 := ⟨k - 1, by omega⟩
      refine jm_iload_n C dX11_rowsTo_10 rfl ?_
      refine jm_iload_n C dX11_rowsTo_11 rfl ?_
      refine jm_icmp_ne (tgt := 19) C dX11_rowsTo_12 (by decide) (fun c_12 => ?_) (fun c_12 => ?_)
      · refine jm_iconst (v := 0) C dX11_rowsTo_19 (by decide) ?_
        refine jm_istore_n (lv' := [(0, .ref m0), (1, .int to), (2, .int (nI i)), (3, .int 0)]) C dX11_rowsTo_20 (by decide) rfl ?_
        refine jm_iload_n C dX11_rowsTo_21 rfl ?_
        refine jm_iload_n C dX11_rowsTo_22 rfl ?_
        refine jm_icmp_eq (tgt := 50) C dX11_rowsTo_23 (by decide) (fun c_23 => ?_) (fun c_23 => ?_)
        · exact absurd c_23 c_12
        refine jm_aload_n C dX11_rowsTo_26 rfl ?_
        refine jm_getA C fF_X11_61 (by decide) (by decide) dX11_rowsTo_27 ?_
        refine jm_iload_n C dX11_rowsTo_30 rfl ?_
        refine jm_aldN C 26 (n := 200) (by decide) (by decide) rfl (by omega) dX11_rowsTo_31 ?_
        refine jm_iconst (v := (-1)) C dX11_rowsTo_32 (by decide) ?_
        refine jm_icmp_eq (tgt := 50) C dX11_rowsTo_33 (by decide) (fun c_33 => ?_) (fun c_33 => ?_)
        · refine jm_iload_n C dX11_rowsTo_50 rfl ?_
          refine jm_iload_n C dX11_rowsTo_51 rfl ?_
          refine jm_icmp_eq (tgt := 79) C dX11_rowsTo_52 (by decide) (fun c_52 => ?_) (fun c_52 => ?_)
          · exact absurd c_52 c_12
          refine jm_aload_n C dX11_rowsTo_55 rfl ?_
          refine jm_getA C fF_X11_64 (by decide) (by decide) dX11_rowsTo_56 ?_
          refine jm_iload_n C dX11_rowsTo_59 rfl ?_
          refine jm_aldN C 27 (n := 200) (by decide) (by decide) rfl (by omega) dX11_rowsTo_60 ?_
          refine jm_iconst (v := (-1)) C dX11_rowsTo_61 (by decide) ?_
          refine jm_icmp_eq (tgt := 79) C dX11_rowsTo_62 (by decide) (fun c_62 => ?_) (fun c_62 => ?_)
          · refine jm_aload_n C dX11_rowsTo_79 rfl ?_
            refine jm_getA C fF_X11_121 (by decide) (by decide) dX11_rowsTo_80 ?_
            refine jm_iload_n C dX11_rowsTo_83 rfl ?_
            refine jm_iload_n C dX11_rowsTo_84 rfl ?_
            refine jm_ldc C dX11_rowsTo_85 kK_X11_224 ?_
            refine jm_min C kM_X11_144 dX11_rowsTo_87 (Nat.le_of_ble_eq_true rfl) (Nat.le_of_ble_eq_true rfl) ?_
            refine jm_astN C 46 (n := 200) (by decide) (by decide) rfl (by omega) dX11_rowsTo_90 ?_
            refine jm_iinc (lv' := [(0, .ref m0), (1, .int to), (2, .int (nI (i + 1))), (3, .int 0)]) C dX11_rowsTo_91 rfl (nI_1 _) (by decide) rfl ?_
            refine jm_goto (tgt := 2) C dX11_rowsTo_94 (by decide) ?_
            refine jm_sub [0, 1, 2] rfl ?_
            exact ih k (i + 1) (u2 S 46 i (if 1000000 < 0 then 1000000 else 0)) (by omega) (by omega) hz ha hb (he.trans (flp_s (by rw [gRows, if_neg c_12, if_pos c_33, if_pos c_62]; rfl)))
          · refine jm_iload_n C dX11_rowsTo_65 rfl ?_
            refine jm_aload_n C dX11_rowsTo_66 rfl ?_
            refine jm_getA C fF_X11_121 (by decide) (by decide) dX11_rowsTo_67 ?_
            refine jm_aload_n C dX11_rowsTo_70 rfl ?_
            refine jm_getA C fF_X11_64 (by decide) (by decide) dX11_rowsTo_71 ?_
            refine jm_iload_n C dX11_rowsTo_74 rfl ?_
            refine jm_aldN C 27 (n := 200) (by decide) (by decide) rfl (by omega) dX11_rowsTo_75 ?_
            refine jm_ald C 46 (n := 200) (by decide) (by decide) rfl ((hb i hlt).resolve_left c_62) dX11_rowsTo_76 ?_
            refine jm_iadd C dX11_rowsTo_77 ?_
            refine jm_istore_n (lv' := [(0, .ref m0), (1, .int to), (2, .int (nI i)), (3, .int (0 + (S 46 ((S 27 i)).toNatClampNeg)))]) C dX11_rowsTo_78 (by decide) rfl ?_
            refine jm_aload_n C dX11_rowsTo_79 rfl ?_
            refine jm_getA C fF_X11_121 (by decide) (by decide) dX11_rowsTo_80 ?_
            refine jm_iload_n C dX11_rowsTo_83 rfl ?_
            refine jm_iload_n C dX11_rowsTo_84 rfl ?_
            refine jm_ldc C dX11_rowsTo_85 kK_X11_224 ?_
            refine jm_min C kM_X11_144 dX11_rowsTo_87 (Nat.le_of_ble_eq_true rfl) (Nat.le_of_ble_eq_true rfl) ?_
            refine jm_astN C 46 (n := 200) (by decide) (by decide) rfl (by omega) dX11_rowsTo_90 ?_
            refine jm_iinc (lv' := [(0, .ref m0), (1, .int to), (2, .int (nI (i + 1))), (3, .int (0 + (S 46 ((S 27 i)).toNatClampNeg)))]) C dX11_rowsTo_91 rfl (nI_1 _) (by decide) rfl ?_
            refine jm_goto (tgt := 2) C dX11_rowsTo_94 (by decide) ?_
            refine jm_sub [0, 1, 2] rfl ?_
            exact ih k (i + 1) (u2 S 46 i (if 1000000 < (0 + (S 46 ((S 27 i)).toNatClampNeg)) then 1000000 else (0 + (S 46 ((S 27 i)).toNatClampNeg)))) (by omega) (by omega) hz ha hb (he.trans (flp_s (by rw [gRows, if_neg c_12, if_pos c_33, if_neg c_62]; rfl)))
        · refine jm_iload_n C dX11_rowsTo_36 rfl ?_
          refine jm_aload_n C dX11_rowsTo_37 rfl ?_
          refine jm_getA C fF_X11_121 (by decide) (by decide) dX11_rowsTo_38 ?_
          refine jm_aload_n C dX11_rowsTo_41 rfl ?_
          refine jm_getA C fF_X11_61 (by decide) (by decide) dX11_rowsTo_42 ?_
          refine jm_iload_n C dX11_rowsTo_45 rfl ?_
          refine jm_aldN C 26 (n := 200) (by decide) (by decide) rfl (by omega) dX11_rowsTo_46 ?_
          refine jm_ald C 46 (n := 200) (by decide) (by decide) rfl ((ha i hlt).resolve_left c_33) dX11_rowsTo_47 ?_
          refine jm_iadd C dX11_rowsTo_48 ?_
          refine jm_istore_n (lv' := [(0, .ref m0), (1, .int to), (2, .int (nI i)), (3, .int (0 + (S 46 ((S 26 i)).toNatClampNeg)))]) C dX11_rowsTo_49 (by decide) rfl ?_
          refine jm_iload_n C dX11_rowsTo_50 rfl ?_
          refine jm_iload_n C dX11_rowsTo_51 rfl ?_
          refine jm_icmp_eq (tgt := 79) C dX11_rowsTo_52 (by decide) (fun c_52 => ?_) (fun c_52 => ?_)
          · exact absurd c_52 c_12
          refine jm_aload_n C dX11_rowsTo_55 rfl ?_
          refine jm_getA C fF_X11_64 (by decide) (by decide) dX11_rowsTo_56 ?_
          refine jm_iload_n C dX11_rowsTo_59 rfl ?_
          refine jm_aldN C 27 (n := 200) (by decide) (by decide) rfl (by omega) dX11_rowsTo_60 ?_
          refine jm_iconst (v := (-1)) C dX11_rowsTo_61 (by decide) ?_
          refine jm_icmp_eq (tgt := 79) C dX11_rowsTo_62 (by decide) (fun c_62 => ?_) (fun c_62 => ?_)
          · refine jm_aload_n C dX11_rowsTo_79 rfl ?_
            refine jm_getA C fF_X11_121 (by decide) (by decide) dX11_rowsTo_80 ?_
            refine jm_iload_n C dX11_rowsTo_83 rfl ?_
            refine jm_iload_n C dX11_rowsTo_84 rfl ?_
            refine jm_ldc C dX11_rowsTo_85 kK_X11_224 ?_
            refine jm_min C kM_X11_144 dX11_rowsTo_87 (Nat.le_of_ble_eq_true rfl) (Nat.le_of_ble_eq_true rfl) ?_
            refine jm_astN C 46 (n := 200) (by decide) (by decide) rfl (by omega) dX11_rowsTo_90 ?_
            refine jm_iinc (lv' := [(0, .ref m0), (1, .int to), (2, .int (nI (i + 1))), (3, .int (0 + (S 46 ((S 26 i)).toNatClampNeg)))]) C dX11_rowsTo_91 rfl (nI_1 _) (by decide) rfl ?_
            refine jm_goto (tgt := 2) C dX11_rowsTo_94 (by decide) ?_
            refine jm_sub [0, 1, 2] rfl ?_
            exact ih k (i + 1) (u2 S 46 i (if 1000000 < (0 + (S 46 ((S 26 i)).toNatClampNeg)) then 1000000 else (0 + (S 46 ((S 26 i)).toNatClampNeg)))) (by omega) (by omega) hz ha hb (he.trans (flp_s (by rw [gRows, if_neg c_12, if_neg c_33, if_pos c_62]; rfl)))
          · refine jm_iload_n C dX11_rowsTo_65 rfl ?_
            refine jm_aload_n C dX11_rowsTo_66 rfl ?_
            refine jm_getA C fF_X11_121 (by decide) (by decide) dX11_rowsTo_67 ?_
            refine jm_aload_n C dX11_rowsTo_70 rfl ?_
            refine jm_getA C fF_X11_64 (by decide) (by decide) dX11_rowsTo_71 ?_
            refine jm_iload_n C dX11_rowsTo_74 rfl ?_
            refine jm_aldN C 27 (n := 200) (by decide) (by decide) rfl (by omega) dX11_rowsTo_75 ?_
            refine jm_ald C 46 (n := 200) (by decide) (by decide) rfl ((hb i hlt).resolve_left c_62) dX11_rowsTo_76 ?_
            refine jm_iadd C dX11_rowsTo_77 ?_
            refine jm_istore_n (lv' := [(0, .ref m0), (1, .int to), (2, .int (nI i)), (3, .int ((0 + (S 46 ((S 26 i)).toNatClampNeg)) + (S 46 ((S 27 i)).toNatClampNeg)))]) C dX11_rowsTo_78 (by decide) rfl ?_
            refine jm_aload_n C dX11_rowsTo_79 rfl ?_
            refine jm_getA C fF_X11_121 (by decide) (by decide) dX11_rowsTo_80 ?_
            refine jm_iload_n C dX11_rowsTo_83 rfl ?_
            refine jm_iload_n C dX11_rowsTo_84 rfl ?_
            refine jm_ldc C dX11_rowsTo_85 kK_X11_224 ?_
            refine jm_min C kM_X11_144 dX11_rowsTo_87 (Nat.le_of_ble_eq_true rfl) (Nat.le_of_ble_eq_true rfl) ?_
            refine jm_astN C 46 (n := 200) (by decide) (by decide) rfl (by omega) dX11_rowsTo_90 ?_
            refine jm_iinc (lv' := [(0, .ref m0), (1, .int to), (2, .int (nI (i + 1))), (3, .int ((0 + (S 46 ((S 26 i)).toNatClampNeg)) + (S 46 ((S 27 i)).toNatClampNeg)))]) C dX11_rowsTo_91 rfl (nI_1 _) (by decide) rfl ?_
            refine jm_goto (tgt := 2) C dX11_rowsTo_94 (by decide) ?_
            refine jm_sub [0, 1, 2] rfl ?_
            exact ih k (i + 1) (u2 S 46 i (if 1000000 < ((0 + (S 46 ((S 26 i)).toNatClampNeg)) + (S 46 ((S 27 i)).toNatClampNeg)) then 1000000 else ((0 + (S 46 ((S 26 i)).toNatClampNeg)) + (S 46 ((S 27 i)).toNatClampNeg)))) (by omega) (by omega) hz ha hb (he.trans (flp_s (by rw [gRows, if_neg c_12, if_neg c_33, if_neg c_62]; rfl)))
      · refine jm_iconst (v := 1) C dX11_rowsTo_15 (by decide) ?_
        refine jm_goto (tgt := 20) C dX11_rowsTo_16 (by decide) ?_
        refine jm_istore_n (lv' := [(0, .ref m0), (1, .int to), (2, .int (nI i)), (3, .int 1)]) C dX11_rowsTo_20 (by decide) rfl ?_
        refine jm_iload_n C dX11_rowsTo_21 rfl ?_
        refine jm_iload_n C dX11_rowsTo_22 rfl ?_
        refine jm_icmp_eq (tgt := 50) C dX11_rowsTo_23 (by decide) (fun c_23 => ?_) (fun c_23 => ?_)
        · refine jm_iload_n C dX11_rowsTo_50 rfl ?_
          refine jm_iload_n C dX11_rowsTo_51 rfl ?_
          refine jm_icmp_eq (tgt := 79) C dX11_rowsTo_52 (by decide) (fun c_52 => ?_) (fun c_52 => ?_)
          · refine jm_aload_n C dX11_rowsTo_79 rfl ?_
            refine jm_getA C fF_X11_121 (by decide) (by decide) dX11_rowsTo_80 ?_
            refine jm_iload_n C dX11_rowsTo_83 rfl ?_
            refine jm_iload_n C dX11_rowsTo_84 rfl ?_
            refine jm_ldc C dX11_rowsTo_85 kK_X11_224 ?_
            refine jm_min C kM_X11_144 dX11_rowsTo_87 (Nat.le_of_ble_eq_true rfl) (Nat.le_of_ble_eq_true rfl) ?_
            refine jm_astN C 46 (n := 200) (by decide) (by decide) rfl (by omega) dX11_rowsTo_90 ?_
            refine jm_iinc (lv' := [(0, .ref m0), (1, .int to), (2, .int (nI (i + 1))), (3, .int 1)]) C dX11_rowsTo_91 rfl (nI_1 _) (by decide) rfl ?_
            refine jm_goto (tgt := 2) C dX11_rowsTo_94 (by decide) ?_
            refine jm_sub [0, 1, 2] rfl ?_
            exact ih k (i + 1) (u2 S 46 i (if 1000000 < 1 then 1000000 else 1)) (by omega) (by omega) hz ha hb (he.trans (flp_s (by rw [gRows, if_pos c_12]; rfl)))
          · exact absurd c_12 c_52
        · exact absurd c_12 c_23
set_option maxHeartbeats 4000000 in
set_option maxRecDepth 100000 in
theorem c_rowsTo {l : Launch} {D : va_G} {cy : Nat → ClassId} {m0 : Nat} {ad : Nat → Nat} {S : Nat → Nat → Int32} (to : Int32) {nl : Nat} (hl : S 2 0 = nI nl) (hnl : nl ≤ 200) (ha : (∀ q, q < nl → S 26 q = -1 ∨ vp_in (S 26 q) 200)) (hb : (∀ q, q < nl → S 27 q = -1 ∨ vp_in (S 27 q) 200)) : mV l D cy yX11_rowsTo (.code yX11_rowsTo cX11_rowsTo 4 ((Option.none : Option FieldType))) 2 m0 ad [.int to] S (fun S' => S' = rowsS S to nl) := by
  refine m_ofV rfl (Nat.le_of_ble_eq_true rfl) (fun p e s m args below meth c A Q h0 C ret => ?_)
  refine jm_iconst (v := 0) C dX11_rowsTo_0 (by decide) ?_
  refine jm_istore_n (lv' := [(0, .ref m0), (1, .int to), (2, .int 0)]) C dX11_rowsTo_1 (by decide) rfl ?_
  exact L_rowsTo C hnl ret (nl + 1) nl 0 S (by omega) (by omega) hl ha hb rfl
