theorem fre_e {S : Nat → Nat → Int32} {yy nl ns nt i f : Nat} {v : Int32} (hv : v = inForceS S 1 (nI yy + 1) (nI yy) nt) : frS S yy nl ns nt i f ↔ ¬ prv (fun k => decide (standS S (nI f) (nI (yy + 1) - nI k) (nI yy) nl ns = S 22 (S 42 i).toNatClampNeg)) v 1 (yy + 1) = true := by
  unfold frS freP
  rw [← hv, Bool.not_eq_true]
  have e : freB S (S 22 (S 42 i).toNatClampNeg) (nI f) yy nl ns = fun k => decide (standS S (nI f) (nI (yy + 1) - nI k) (nI yy) nl ns = S 22 (S 42 i).toNatClampNeg) := funext fun k => by
    unfold freB
    rw [nI_1]
  rw [e]
theorem fld_ge {S : Nat → Nat → Int32} {P : Nat → Nat → Nat} {nf f : Nat} (hf : S 1 0 = nI nf) (hnf : nf ≤ 40) (e : fldO S P (nI f) = none) : ¬ f < nf := fun z => by rw [fldO_i hf hnf z] at e; cases e
theorem fld_lt {S : Nat → Nat → Int32} {P : Nat → Nat → Nat} {nf f x : Nat} (hf : S 1 0 = nI nf) (hnf : nf ≤ 40) (h6 : f < 6) (e : fldO S P (nI f) = some x) : f < nf ∧ x = P 0 f := by
  obtain ⟨j, hj, e1, e2, _⟩ := fldO_s hf hnf e
  have := (nI_eq (by omega) (by omega)).mp e1
  subst this
  exact ⟨hj, e2⟩
set_option maxHeartbeats 4000000 in
set_option maxRecDepth 100000 in
theorem L_mmI {p : Program} {l : Launch} {e : Env} {s : State} {m : MethodId} {args : Array Value} {below : List Frame} {meth : Method} {c0 : Code} {D : va_G} {cy : Nat → ClassId} {A : Nat → Prop} {Q : State → Prop} (C : jC p s m args meth c0 D cy A 7 RX7 cX7_markMayTake) {S : Nat → Nat → Int32} {P : Nat → Nat → Nat} {T : Nat → Nat → Nat → List Nat} {nf nl nb ns nt nk nw yy : Nat} {h0 : jH} (I : SI S nf nl nb ns nt nk nw yy) {v : Int32} (hv : v = inForceS S 1 (nI yy + 1) (nI yy) nt) {ys : Nat} (hys : ys ≤ 1000) (eys : v = nI ys) (hnf : nf ≤ 40) (hnl : nl ≤ 200) (hyy : yy ≤ 40) (hnw : nw ≤ 5) {i : Nat} (hiw : i < nw) (nx : ∀ h, CP h S P T nf nl nb ns nt nk nw → FrC P h0 h → (∀ x, h_A h (P 5 12) x = h_A h0 (P 5 12) x) → (∀ j, j < i → mkP (h_A h (P 5 11) j) (fun f => f < mmS nf ∧ frS S yy nl ns nt j f) 6) → mkP (h_A h (P 5 11) i) (fun f => f < mmS nf ∧ frS S yy nl ns nt i f) 6 → jW p l e (rmd 3 0 0) s m args below meth c0 D cy A 7 0 0 Q h [(0, .ref (P 5 4)), (1, .int (nI (yy + 1))), (2, .int v), (3, .int (nI i))] 106 []) : ∀ (n k f : Nat) (h : jH), k < n → f + k = 6 → CP h S P T nf nl nb ns nt nk nw → FrC P h0 h → (∀ x, h_A h (P 5 12) x = h_A h0 (P 5 12) x) → (∀ j, j < i → mkP (h_A h (P 5 11) j) (fun f => f < mmS nf ∧ frS S yy nl ns nt j f) 6) → mkP (h_A h (P 5 11) i) (fun f => f < mmS nf ∧ frS S yy nl ns nt i f) f → jW p l e (rmd 3 0 0) s m args below meth c0 D cy A 7 0 0 Q h [(0, .ref (P 5 4)), (1, .int (nI (yy + 1))), (2, .int v), (3, .int (nI i)), (4, .ref (P 1 (S 42 i).toNatClampNeg)), (5, .int (nI f))] 37 [] := by
  intro n
  induction n with
  | zero => intro k f h h1; exact absurd h1 (Nat.not_lt_zero _)
  | succ n ih =>
    intro k f h h1 h2 c hf g12 hz hm
    refine j_iload C dX7_markMayTake_37 rfl ?_
    refine j_bipush (v := 6) C dX7_markMayTake_39 (by decide) ?_
    refine j_icmp_ge (tgt := 106) C dX7_markMayTake_41 (by decide) (fun c_41 => ?_) (fun c_41 => ?_)
    · obtain rfl : f = 6 := by have := nI_ge_of (n := 6) c_41 (by omega) (by omega); omega
      refine j_sub [0, 1, 2, 3] rfl ?_
      exact nx h c hf g12 hz hm
    · have hf6 : f < 6 := nI_lt_of (n := 6) c_41 (by omega)
      obtain ⟨k, rfl⟩ : ∃ q, k = q + 1 := ⟨k - 1, by omega⟩
      refine j_aload_n C dX7_markMayTake_44 rfl ?_
      refine j_gRe (f := 448) (v := .ref (P 5 1)) C fF_X7_37 rfl c.1.2.2.2.1.1 (by rw [c.1.2.2.2.1.2.1]; rfl) dX7_markMayTake_45 ?_
      refine j_iload C dX7_markMayTake_48 rfl ?_
      refine j_callVq (As := [.int (nI f)]) (rest := []) C fG_X7_61 (s_fieldAt c I.fl.1 I.fl.2 ((nI f))) c.2.1.1 rfl rfl (Nat.le_of_ble_eq_true rfl) ⟨Nat.le_of_ble_eq_true rfl, Nat.le_of_ble_eq_true rfl⟩ ⟨Nat.le_of_ble_eq_true rfl, Nat.le_of_ble_eq_true rfl⟩ dX7_markMayTake_50 (fun r_50 h_50 e_50 => ?_)
      obtain ⟨e1_50, e2_50⟩ := e_50
      subst e1_50
      replace e2_50 := e2_50.symm
      subst e2_50
      refine j_astoreQ (lv' := [(0, .ref (P 5 4)), (1, .int (nI (yy + 1))), (2, .int v), (3, .int (nI i)), (4, .ref (P 1 (S 42 i).toNatClampNeg)), (5, .int (nI f)), (6, va_rf (fldO S P (nI f)))]) C dX7_markMayTake_53 (by decide) rfl ?_
      refine j_aload C dX7_markMayTake_55 rfl ?_
      refine j_ifnull C dX7_markMayTake_57 ?_
      refine j_aloadQ C dX7_markMayTake_60 rfl ?_
      cases hq_62 : (fldO S P (nI f)) with
      | none =>
        refine j_ifnullN (tgt := 100) C dX7_markMayTake_62 (by decide) ?_
        refine j_iinc (lv' := [(0, .ref (P 5 4)), (1, .int (nI (yy + 1))), (2, .int v), (3, .int (nI i)), (4, .ref (P 1 (S 42 i).toNatClampNeg)), (5, .int (nI (f + 1))), (6, .null)]) C dX7_markMayTake_100 rfl (nI_1 _) (by decide) rfl ?_
        refine j_goto (tgt := 37) C dX7_markMayTake_103 (by decide) ?_
        refine j_sub [0, 1, 2, 3, 4, 5] rfl ?_
        exact ih k (f + 1) h (by omega) (by omega) c hf g12 hz (hm.skip (fun z => fld_ge I.fl.1 I.fl.2 hq_62 ((mm_6 hf6).mp z.1)))
      | some x_62 =>
        refine j_ifnull C dX7_markMayTake_62 ?_
        obtain ⟨hff, hxf⟩ := fld_lt I.fl.1 I.fl.2 hf6 hq_62
        subst hxf
        refine j_aload C dX7_markMayTake_65 rfl ?_
        refine j_iload_n C dX7_markMayTake_67 rfl ?_
        refine j_iload_n C dX7_markMayTake_68 rfl ?_
        refine j_aload C dX7_markMayTake_69 rfl ?_
        refine j_gIe (f := 386) (v := (S 22 (S 42 i).toNatClampNeg)) C fF_X7_65 rfl (okW c I hiw).1 (okW c I hiw).2 dX7_markMayTake_71 ?_
        refine j_aload_n C dX7_markMayTake_74 rfl ?_
        refine j_gRe (f := 448) (v := .ref (P 5 1)) C fF_X7_37 rfl c.1.2.2.2.1.1 (by rw [c.1.2.2.2.1.2.1]; rfl) dX7_markMayTake_75 ?_
        refine j_gIe (f := 128) (v := (nI yy)) C fF_X7_41 rfl c.2.1.1 (by exact c.2.1.2.1.1.trans I.yr.1) dX7_markMayTake_78 ?_
        refine j_callVi (As := [.int (nI (yy + 1)), .int v, .int (S 22 (S 42 i).toNatClampNeg), .int (nI yy)]) (rest := []) C fG_X7_68 (s_stood (g := f) (Y := yy + 1) c hnl hff (by omega) eys hys (S 22 (S 42 i).toNatClampNeg) (nI yy)) (c.2.2.1 f hff).1.2 rfl rfl (Nat.le_of_ble_eq_true rfl) ⟨Nat.le_of_ble_eq_true rfl, Nat.le_of_ble_eq_true rfl⟩ ⟨Nat.le_of_ble_eq_true rfl, Nat.le_of_ble_eq_true rfl⟩ dX7_markMayTake_81 (fun r_81 h_81 e_81 => ?_)
        obtain ⟨e1_81, e2_81⟩ := e_81
        subst e1_81
        replace e2_81 := e2_81.symm
        subst e2_81
        refine j_ifne_b (tgt := 100) C dX7_markMayTake_84 (by decide) (fun c_84 => ?_) (fun c_84 => ?_)
        · refine j_iinc (lv' := [(0, .ref (P 5 4)), (1, .int (nI (yy + 1))), (2, .int v), (3, .int (nI i)), (4, .ref (P 1 (S 42 i).toNatClampNeg)), (5, .int (nI (f + 1))), (6, .ref (P 0 f))]) C dX7_markMayTake_100 rfl (nI_1 _) (by decide) rfl ?_
          refine j_goto (tgt := 37) C dX7_markMayTake_103 (by decide) ?_
          refine j_sub [0, 1, 2, 3, 4, 5] rfl ?_
          exact ih k (f + 1) h (by omega) (by omega) c hf g12 hz (hm.skip (fun z => (fre_e hv).mp z.2 c_84))
        · refine j_aload_n C dX7_markMayTake_87 rfl ?_
          refine j_gRe (f := 450) (v := .ref (P 5 11)) C fF_X7_17 rfl c.1.2.2.2.1.1 (by rw [c.1.2.2.2.1.2.2.2.1]; rfl) dX7_markMayTake_88 ?_
          refine j_iload_n C dX7_markMayTake_91 rfl ?_
          refine j_dup2 C dX7_markMayTake_92 rfl rfl ?_
          refine j_ialdN C c.1.2.2.2.2.2.2.1.1 ⟨c.1.2.2.2.2.2.2.1.2, by omega, by decide⟩ dX7_markMayTake_93 ?_
          refine j_iconst (v := 1) C dX7_markMayTake_94 (by decide) ?_
          refine j_iload C dX7_markMayTake_95 rfl ?_
          refine j_ishl C dX7_markMayTake_97 ?_
          refine j_ior C dX7_markMayTake_98 ?_
          refine j_iastN C c.1.2.2.2.2.2.2.1.1 ⟨c.1.2.2.2.2.2.2.1.2, by omega, by decide⟩ dX7_markMayTake_99 ?_
          refine j_iinc (lv' := [(0, .ref (P 5 4)), (1, .int (nI (yy + 1))), (2, .int v), (3, .int (nI i)), (4, .ref (P 1 (S 42 i).toNatClampNeg)), (5, .int (nI (f + 1))), (6, .ref (P 0 f))]) C dX7_markMayTake_100 rfl (nI_1 _) (by decide) rfl ?_
          refine j_goto (tgt := 37) C dX7_markMayTake_103 (by decide) ?_
          refine j_sub [0, 1, 2, 3, 4, 5] rfl ?_
          refine ih k (f + 1) _ (by omega) (by omega) (c.ex Ex.rf.sA) (hf.tr (FrC.sA (i := 11) (by decide))) (fun x => by rw [g_AA, if_neg (fun e => (pd8 c).2.2.2.2.1 e.symm)]; exact g12 x) (fun j hj => ?_) ?_
          · rw [g_AA, if_pos rfl, if_neg (by omega)]; exact hz j hj
          · rw [g_AA, if_pos rfl, if_pos rfl]
            exact hm.set hf6 ⟨(mm_6 hf6).mpr hff, (fre_e hv).mpr c_84⟩
set_option maxHeartbeats 4000000 in
set_option maxRecDepth 100000 in
theorem L_mm {p : Program} {l : Launch} {e : Env} {s : State} {m : MethodId} {args : Array Value} {below : List Frame} {meth : Method} {c0 : Code} {D : va_G} {cy : Nat → ClassId} {A : Nat → Prop} {Q : State → Prop} (C : jC p s m args meth c0 D cy A 7 RX7 cX7_markMayTake) {S : Nat → Nat → Int32} {P : Nat → Nat → Nat} {T : Nat → Nat → Nat → List Nat} {nf nl nb ns nt nk nw yy : Nat} {h0 : jH} (I : SI S nf nl nb ns nt nk nw yy) {v : Int32} (hv : v = inForceS S 1 (nI yy + 1) (nI yy) nt) {ys : Nat} (hys : ys ≤ 1000) (eys : v = nI ys) (hnf : nf ≤ 40) (hnl : nl ≤ 200) (hyy : yy ≤ 40) (hnw : nw ≤ 5) (ret : ∀ h, CP h S P T nf nl nb ns nt nk nw → FrC P h0 h → (∀ x, h_A h (P 5 12) x = h_A h0 (P 5 12) x) → plM h S P nf nl ns nt nw yy → ∀ (lv : List (Nat × Value)) (pc : Nat), decode cX7_markMayTake pc = .ok (.return_, 1) → jW p l e (rmd 3 0 0) s m args below meth c0 D cy A 7 0 0 Q h lv pc []) : ∀ (n k i : Nat) (h : jH), k < n → i + k = nw → CP h S P T nf nl nb ns nt nk nw → FrC P h0 h → (∀ x, h_A h (P 5 12) x = h_A h0 (P 5 12) x) → (∀ j, j < i → mkP (h_A h (P 5 11) j) (fun f => f < mmS nf ∧ frS S yy nl ns nt j f) 6) → jW p l e (rmd 3 0 0) s m args below meth c0 D cy A 7 0 0 Q h [(0, .ref (P 5 4)), (1, .int (nI (yy + 1))), (2, .int v), (3, .int (nI i))] 2 [] := by
  intro n
  induction n with
  | zero => intro k i h h1; exact absurd h1 (Nat.not_lt_zero _)
  | succ n ih =>
    intro k i h h1 h2 c hf g12 hz
    refine j_iload_n C dX7_markMayTake_2 rfl ?_
    refine j_aload_n C dX7_markMayTake_3 rfl ?_
    refine j_gIe (f := 455) (v := (nI nw)) C fF_X7_34 rfl c.1.2.2.2.1.1 (by exact c.2.2.2.2.2.2.1.1.trans I.wt.1) dX7_markMayTake_4 ?_
    refine j_icmp_ge (tgt := 112) C dX7_markMayTake_7 (by decide) (fun c_7 => ?_) (fun c_7 => ?_)
    · have hge : nw ≤ i := nI_ge_of c_7 (by omega) (by omega)
      exact ret h c hf g12 (fun j hj => hz j (by omega)) _ _ dX7_markMayTake_112
    · have hiw : i < nw := nI_lt_of c_7 (by omega)
      obtain ⟨k, rfl⟩ : ∃ q, k = q + 1 := ⟨k - 1, by omega⟩
      refine j_iload_n C dX7_markMayTake_10 rfl ?_
      refine j_aload_n C dX7_markMayTake_11 rfl ?_
      refine j_gRe (f := 450) (v := .ref (P 5 11)) C fF_X7_17 rfl c.1.2.2.2.1.1 (by rw [c.1.2.2.2.1.2.2.2.1]; rfl) dX7_markMayTake_12 ?_
      refine j_alen (k := 12) (v := 5) C c.1.2.2.2.2.2.2.1.1 ⟨by decide, rfl⟩ (congrArg nI c.1.2.2.2.2.2.2.1.2) dX7_markMayTake_15 ?_
      refine j_icmp_ge (tgt := 112) C dX7_markMayTake_16 (by decide) (fun c_16 => ?_) (fun c_16 => ?_)
      · exact absurd (nI_ge_of (n := 5) c_16 (by omega) (by omega)) (by omega)
      · refine j_aload_n C dX7_markMayTake_19 rfl ?_
        refine j_gRe (f := 449) (v := .ref (P 5 10)) C fF_X7_11 rfl c.1.2.2.2.1.1 (by rw [c.1.2.2.2.1.2.2.1]; rfl) dX7_markMayTake_20 ?_
        refine j_iload_n C dX7_markMayTake_23 rfl ?_
        refine j_aaldN (k := 15) C c.1.2.2.2.2.2.1.1 (by decide) rfl ⟨c.1.2.2.2.2.2.1.2, by omega, by decide⟩ (by rw [c.2.2.2.2.2.2.1.2 i hiw]) dX7_markMayTake_24 ?_
        refine j_astore (lv' := [(0, .ref (P 5 4)), (1, .int (nI (yy + 1))), (2, .int v), (3, .int (nI i)), (4, .ref (P 1 (S 42 i).toNatClampNeg))]) C dX7_markMayTake_25 (by decide) rfl ?_
        refine j_aload_n C dX7_markMayTake_27 rfl ?_
        refine j_gRe (f := 450) (v := .ref (P 5 11)) C fF_X7_17 rfl c.1.2.2.2.1.1 (by rw [c.1.2.2.2.1.2.2.2.1]; rfl) dX7_markMayTake_28 ?_
        refine j_iload_n C dX7_markMayTake_31 rfl ?_
        refine j_iconst (v := 0) C dX7_markMayTake_32 (by decide) ?_
        refine j_iastN C c.1.2.2.2.2.2.2.1.1 ⟨c.1.2.2.2.2.2.2.1.2, by omega, by decide⟩ dX7_markMayTake_33 ?_
        refine j_iconst (v := 0) C dX7_markMayTake_34 (by decide) ?_
        refine j_istore (lv' := [(0, .ref (P 5 4)), (1, .int (nI (yy + 1))), (2, .int v), (3, .int (nI i)), (4, .ref (P 1 (S 42 i).toNatClampNeg)), (5, .int 0)]) C dX7_markMayTake_35 (by decide) rfl ?_
        refine L_mmI (h0 := h0) C I hv hys eys hnf hnl hyy hnw hiw (fun h1 c1 f1 g1 z1 m1 => ?_) 7 6 0 _ (by omega) (by omega) (c.ex Ex.rf.sA) (hf.tr (FrC.sA (i := 11) (by decide))) (fun x => by rw [g_AA, if_neg (fun e => (pd8 c).2.2.2.2.1 e.symm)]; exact g12 x) (fun j hj => by rw [g_AA, if_pos rfl, if_neg (by omega)]; exact hz j hj) (by rw [g_AA, if_pos rfl, if_pos rfl]; exact mkP.z _)
        refine j_iinc (lv' := [(0, .ref (P 5 4)), (1, .int (nI (yy + 1))), (2, .int v), (3, .int (nI (i + 1)))]) C dX7_markMayTake_106 rfl (nI_1 _) (by decide) rfl ?_
        refine j_goto (tgt := 2) C dX7_markMayTake_109 (by decide) ?_
        refine ih k (i + 1) h1 (by omega) (by omega) c1 f1 g1 (fun j hj => ?_)
        by_cases e : j = i
        · subst e; exact m1
        · exact z1 j (by omega)
set_option maxHeartbeats 4000000 in
set_option maxRecDepth 100000 in
theorem k_mayTake {l : Launch} {D : va_G} {cy : Nat → ClassId} {h : jH} {S : Nat → Nat → Int32} {P : Nat → Nat → Nat} {T : Nat → Nat → Nat → List Nat} {nf nl nb ns nt nk nw yy : Nat} (c : CP h S P T nf nl nb ns nt nk nw) (I : SI S nf nl nb ns nt nk nw yy) {v : Int32} (hv : v = inForceS S 1 (nI yy + 1) (nI yy) nt) {ys : Nat} (hys : ys ≤ 1000) (eys : v = nI ys) : jV l D cy yX7_markMayTake (.code yX7_markMayTake cX7_markMayTake 7 ((Option.none : Option FieldType))) (rmd 3 0 0) [.ref (P 5 4), .int (nI (yy + 1)), .int v] h (fun h' => CP h' S P T nf nl nb ns nt nk nw ∧ FrC P h h' ∧ (∀ x, h_A h' (P 5 12) x = h_A h (P 5 12) x) ∧ plM h' S P nf nl ns nt nw yy) := by
  refine j_ofV (by decide) (Nat.le_of_ble_eq_true rfl) (fun p e s m args below meth c0 Q C hin ret => ?_)
  refine j_iconst (v := 0) C dX7_markMayTake_0 (by decide) ?_
  refine j_istore_n (lv' := [(0, .ref (P 5 4)), (1, .int (nI (yy + 1))), (2, .int v), (3, .int 0)]) C dX7_markMayTake_1 (by decide) rfl ?_
  exact L_mm (h0 := h) C I hv hys eys I.fl.2 I.lt.2 I.yr.2 I.wt.2 (fun h' c' f' g' m' lv pc hd => ret h' 0 0 lv pc ⟨c', f', g', m'⟩ (Nat.zero_le _) (Nat.zero_le _) hd) (nw + 1) nw 0 h (by omega) (by omega) c FrC.rf (fun _ => rfl) (fun j hj => absurd hj (Nat.not_lt_zero _))
set_option maxHeartbeats 4000000 in
set_option maxRecDepth 100000 in
theorem L_tnI {p : Program} {l : Launch} {e : Env} {s : State} {m : MethodId} {args : Array Value} {below : List Frame} {meth : Method} {c0 : Code} {D : va_G} {cy : Nat → ClassId} {A : Nat → Prop} {Q : State → Prop} (C : jC p s m args meth c0 D cy A 6 RX7 cX7_markTooNear) {S : Nat → Nat → Int32} {P : Nat → Nat → Nat} {T : Nat → Nat → Nat → List Nat} {nf nl nb ns nt nk nw yy : Nat} {h0 : jH} (I : SI S nf nl nb ns nt nk nw yy) {fa : Int32} (hnf : nf ≤ 40) {f : Nat} (hf6 : f < 6) (nx : ∀ h, CP h S P T nf nl nb ns nt nk nw → FrC P h0 h → (∀ x, h_A h (P 5 11) x = h_A h0 (P 5 11) x) → (∀ j, j < f → mkP (h_A h (P 5 12) j) (fun g => j < nf ∧ g < nf ∧ ¬ fa * fa ≤ nearS S j g) 6) → mkP (h_A h (P 5 12) f) (fun g => f < nf ∧ g < nf ∧ ¬ fa * fa ≤ nearS S f g) 6 → jW p l e (rmd 2 0 0) s m args below meth c0 D cy A 6 0 0 Q h [(0, .ref (P 5 4)), (1, .int fa), (2, .int (nI f))] 91 []) : ∀ (n k g : Nat) (h : jH), k < n → g + k = 6 → CP h S P T nf nl nb ns nt nk nw → FrC P h0 h → (∀ x, h_A h (P 5 11) x = h_A h0 (P 5 11) x) → (∀ j, j < f → mkP (h_A h (P 5 12) j) (fun g => j < nf ∧ g < nf ∧ ¬ fa * fa ≤ nearS S j g) 6) → mkP (h_A h (P 5 12) f) (fun g => f < nf ∧ g < nf ∧ ¬ fa * fa ≤ nearS S f g) g → jW p l e (rmd 2 0 0) s m args below meth c0 D cy A 6 0 0 Q h [(0, .ref (P 5 4)), (1, .int fa), (2, .int (nI f)), (3, va_rf (fldO S P (nI f))), (4, .int (nI g))] 30 [] := by
  intro n
  induction n with
  | zero => intro k g h h1; exact absurd h1 (Nat.not_lt_zero _)
  | succ n ih =>
    intro k g h h1 h2 c hf g11 hz hm
    refine j_iload C dX7_markTooNear_30 rfl ?_
    refine j_aload_n C dX7_markTooNear_32 rfl ?_
    refine j_gRe (f := 451) (v := .ref (P 5 12)) C fF_X7_21 rfl c.1.2.2.2.1.1 (by rw [c.1.2.2.2.1.2.2.2.2.1]; rfl) dX7_markTooNear_33 ?_
    refine j_alen (k := 12) (v := 6) C c.1.2.2.2.2.2.2.2.1.1 ⟨by decide, rfl⟩ (congrArg nI c.1.2.2.2.2.2.2.2.1.2) dX7_markTooNear_36 ?_
    refine j_icmp_ge (tgt := 91) C dX7_markTooNear_37 (by decide) (fun c_37 => ?_) (fun c_37 => ?_)
    · obtain rfl : g = 6 := by have := nI_ge_of (n := 6) c_37 (by omega) (by omega); omega
      refine j_sub [0, 1, 2] rfl ?_
      exact nx h c hf g11 hz hm
    · have hg6 : g < 6 := nI_lt_of (n := 6) c_37 (by omega)
      obtain ⟨k, rfl⟩ : ∃ q, k = q + 1 := ⟨k - 1, by omega⟩
      refine j_aload_n C dX7_markTooNear_40 rfl ?_
      refine j_gRe (f := 448) (v := .ref (P 5 1)) C fF_X7_37 rfl c.1.2.2.2.1.1 (by rw [c.1.2.2.2.1.2.1]; rfl) dX7_markTooNear_41 ?_
      refine j_iload C dX7_markTooNear_44 rfl ?_
      refine j_callVq (As := [.int (nI g)]) (rest := []) C fG_X7_61 (s_fieldAt c I.fl.1 I.fl.2 ((nI g))) c.2.1.1 rfl rfl (Nat.le_of_ble_eq_true rfl) ⟨Nat.le_of_ble_eq_true rfl, Nat.le_of_ble_eq_true rfl⟩ ⟨Nat.le_of_ble_eq_true rfl, Nat.le_of_ble_eq_true rfl⟩ dX7_markTooNear_46 (fun r_46 h_46 e_46 => ?_)
      obtain ⟨e1_46, e2_46⟩ := e_46
      subst e1_46
      replace e2_46 := e2_46.symm
      subst e2_46
      refine j_astoreQ (lv' := [(0, .ref (P 5 4)), (1, .int fa), (2, .int (nI f)), (3, va_rf (fldO S P (nI f))), (4, .int (nI g)), (5, va_rf (fldO S P (nI g)))]) C dX7_markTooNear_49 (by decide) rfl ?_
      refine j_aload_nQ C dX7_markTooNear_51 rfl ?_
      cases hq_52 : (fldO S P (nI f)) with
      | none =>
        refine j_ifnullN (tgt := 85) C dX7_markTooNear_52 (by decide) ?_
        refine j_iinc (lv' := [(0, .ref (P 5 4)), (1, .int fa), (2, .int (nI f)), (3, .null), (4, .int (nI (g + 1))), (5, va_rf (fldO S P (nI g)))]) C dX7_markTooNear_85 rfl (nI_1 _) (by decide) rfl ?_
        refine j_goto (tgt := 30) C dX7_markTooNear_88 (by decide) ?_
        refine j_sub [0, 1, 2, 3, 4] rfl ?_
        have hi := ih k (g + 1) h (by omega) (by omega) c hf g11 hz (hm.skip (fun z => fld_ge I.fl.1 I.fl.2 hq_52 z.1))
        rw [hq_52] at hi
        exact hi
      | some x_52 =>
        refine j_ifnull C dX7_markTooNear_52 ?_
        refine j_aloadQ C dX7_markTooNear_55 rfl ?_
        cases hq_57 : (fldO S P (nI g)) with
        | none =>
          refine j_ifnullN (tgt := 85) C dX7_markTooNear_57 (by decide) ?_
          refine j_iinc (lv' := [(0, .ref (P 5 4)), (1, .int fa), (2, .int (nI f)), (3, .ref x_52), (4, .int (nI (g + 1))), (5, .null)]) C dX7_markTooNear_85 rfl (nI_1 _) (by decide) rfl ?_
          refine j_goto (tgt := 30) C dX7_markTooNear_88 (by decide) ?_
          refine j_sub [0, 1, 2, 3, 4] rfl ?_
          have hi := ih k (g + 1) h (by omega) (by omega) c hf g11 hz (hm.skip (fun z => fld_ge I.fl.1 I.fl.2 hq_57 z.2.1))
          rw [hq_52] at hi
          exact hi
        | some x_57 =>
          refine j_ifnull C dX7_markTooNear_57 ?_
          obtain ⟨hff, hxf⟩ := fld_lt I.fl.1 I.fl.2 hf6 hq_52
          obtain ⟨hgf, hxg⟩ := fld_lt I.fl.1 I.fl.2 hg6 hq_57
          subst hxf
          subst hxg
          refine j_aload_n C dX7_markTooNear_60 rfl ?_
          refine j_aload C dX7_markTooNear_61 rfl ?_
          refine j_callVi (As := [.ref (P 0 g)]) (rest := []) C fG_X7_74 (k_squareTo (a := (P 0 f)) (b := (P 0 g)) (c.2.2.1 f hff).1.2 (c.2.2.1 g hgf).1.2) (c.2.2.1 f hff).1.2 rfl rfl (Nat.le_of_ble_eq_true rfl) ⟨Nat.le_of_ble_eq_true rfl, Nat.le_of_ble_eq_true rfl⟩ ⟨Nat.le_of_ble_eq_true rfl, Nat.le_of_ble_eq_true rfl⟩ dX7_markTooNear_63 (fun r_63 h_63 e_63 => ?_)
          obtain ⟨e1_63, e2_63⟩ := e_63
          rw [sq_near c hff hgf] at e1_63
          subst e1_63
          replace e2_63 := e2_63.symm
          subst e2_63
          refine j_iload_n C dX7_markTooNear_66 rfl ?_
          refine j_iload_n C dX7_markTooNear_67 rfl ?_
          refine j_imul C dX7_markTooNear_68 ?_
          refine j_icmp_ge (tgt := 85) C dX7_markTooNear_69 (by decide) (fun c_69 => ?_) (fun c_69 => ?_)
          · refine j_iinc (lv' := [(0, .ref (P 5 4)), (1, .int fa), (2, .int (nI f)), (3, .ref (P 0 f)), (4, .int (nI (g + 1))), (5, .ref (P 0 g))]) C dX7_markTooNear_85 rfl (nI_1 _) (by decide) rfl ?_
            refine j_goto (tgt := 30) C dX7_markTooNear_88 (by decide) ?_
            refine j_sub [0, 1, 2, 3, 4] rfl ?_
            have hi := ih k (g + 1) h (by omega) (by omega) c hf g11 hz (hm.skip (fun z => z.2.2 c_69))
            rw [hq_52] at hi
            exact hi
          · refine j_aload_n C dX7_markTooNear_72 rfl ?_
            refine j_gRe (f := 451) (v := .ref (P 5 12)) C fF_X7_21 rfl c.1.2.2.2.1.1 (by rw [c.1.2.2.2.1.2.2.2.2.1]; rfl) dX7_markTooNear_73 ?_
            refine j_iload_n C dX7_markTooNear_76 rfl ?_
            refine j_dup2 C dX7_markTooNear_77 rfl rfl ?_
            refine j_ialdN C c.1.2.2.2.2.2.2.2.1.1 ⟨c.1.2.2.2.2.2.2.2.1.2, by omega, by decide⟩ dX7_markTooNear_78 ?_
            refine j_iconst (v := 1) C dX7_markTooNear_79 (by decide) ?_
            refine j_iload C dX7_markTooNear_80 rfl ?_
            refine j_ishl C dX7_markTooNear_82 ?_
            refine j_ior C dX7_markTooNear_83 ?_
            refine j_iastN C c.1.2.2.2.2.2.2.2.1.1 ⟨c.1.2.2.2.2.2.2.2.1.2, by omega, by decide⟩ dX7_markTooNear_84 ?_
            refine j_iinc (lv' := [(0, .ref (P 5 4)), (1, .int fa), (2, .int (nI f)), (3, .ref (P 0 f)), (4, .int (nI (g + 1))), (5, .ref (P 0 g))]) C dX7_markTooNear_85 rfl (nI_1 _) (by decide) rfl ?_
            refine j_goto (tgt := 30) C dX7_markTooNear_88 (by decide) ?_
            refine j_sub [0, 1, 2, 3, 4] rfl ?_
            have hi := ih k (g + 1) (s_A h (P 5 12) f ((h_A h (P 5 12) f) ||| (1 <<< ((nI g) &&& 31)))) (by omega) (by omega) (c.ex Ex.rf.sA) (hf.tr (FrC.sA (i := 12) (by decide))) (fun x => by rw [g_AA, if_neg (pd8 c).2.2.2.2.1]; exact g11 x) (fun j hj => by rw [g_AA, if_pos rfl, if_neg (by omega)]; exact hz j hj) (by rw [g_AA, if_pos rfl, if_pos rfl]; exact hm.set hg6 ⟨hff, hgf, c_69⟩)
            rw [hq_52] at hi
            exact hi
set_option maxHeartbeats 4000000 in
set_option maxRecDepth 100000 in
theorem L_tn {p : Program} {l : Launch} {e : Env} {s : State} {m : MethodId} {args : Array Value} {below : List Frame} {meth : Method} {c0 : Code} {D : va_G} {cy : Nat → ClassId} {A : Nat → Prop} {Q : State → Prop} (C : jC p s m args meth c0 D cy A 6 RX7 cX7_markTooNear) {S : Nat → Nat → Int32} {P : Nat → Nat → Nat} {T : Nat → Nat → Nat → List Nat} {nf nl nb ns nt nk nw yy : Nat} {h0 : jH} (I : SI S nf nl nb ns nt nk nw yy) {fa : Int32} (hnf : nf ≤ 40) (ret : ∀ h, CP h S P T nf nl nb ns nt nk nw → FrC P h0 h → (∀ x, h_A h (P 5 11) x = h_A h0 (P 5 11) x) → (∀ j, j < 6 → mkP (h_A h (P 5 12) j) (fun g => j < nf ∧ g < nf ∧ ¬ fa * fa ≤ nearS S j g) 6) → ∀ (lv : List (Nat × Value)) (pc : Nat), decode cX7_markTooNear pc = .ok (.return_, 1) → jW p l e (rmd 2 0 0) s m args below meth c0 D cy A 6 0 0 Q h lv pc []) : ∀ (n k f : Nat) (h : jH), k < n → f + k = 6 → CP h S P T nf nl nb ns nt nk nw → FrC P h0 h → (∀ x, h_A h (P 5 11) x = h_A h0 (P 5 11) x) → (∀ j, j < f → mkP (h_A h (P 5 12) j) (fun g => j < nf ∧ g < nf ∧ ¬ fa * fa ≤ nearS S j g) 6) → jW p l e (rmd 2 0 0) s m args below meth c0 D cy A 6 0 0 Q h [(0, .ref (P 5 4)), (1, .int fa), (2, .int (nI f))] 2 [] := by
  intro n
  induction n with
  | zero => intro k f h h1; exact absurd h1 (Nat.not_lt_zero _)
  | succ n ih =>
    intro k f h h1 h2 c hf g11 hz
    refine j_iload_n C dX7_markTooNear_2 rfl ?_
    refine j_aload_n C dX7_markTooNear_3 rfl ?_
    refine j_gRe (f := 451) (v := .ref (P 5 12)) C fF_X7_21 rfl c.1.2.2.2.1.1 (by rw [c.1.2.2.2.1.2.2.2.2.1]; rfl) dX7_markTooNear_4 ?_
    refine j_alen (k := 12) (v := 6) C c.1.2.2.2.2.2.2.2.1.1 ⟨by decide, rfl⟩ (congrArg nI c.1.2.2.2.2.2.2.2.1.2) dX7_markTooNear_7 ?_
    refine j_icmp_ge (tgt := 97) C dX7_markTooNear_8 (by decide) (fun c_8 => ?_) (fun c_8 => ?_)
    · obtain rfl : f = 6 := by have := nI_ge_of (n := 6) c_8 (by omega) (by omega); omega
      exact ret h c hf g11 (fun j hj => hz j hj) _ _ dX7_markTooNear_97
    · have hf6 : f < 6 := nI_lt_of (n := 6) c_8 (by omega)
      obtain ⟨k, rfl⟩ : ∃ q, k = q + 1 := ⟨k - 1, by omega⟩
      refine j_aload_n C dX7_markTooNear_11 rfl ?_
      refine j_gRe (f := 451) (v := .ref (P 5 12)) C fF_X7_21 rfl c.1.2.2.2.1.1 (by rw [c.1.2.2.2.1.2.2.2.2.1]; rfl) dX7_markTooNear_12 ?_
      refine j_iload_n C dX7_markTooNear_15 rfl ?_
      refine j_iconst (v := 0) C dX7_markTooNear_16 (by decide) ?_
      refine j_iastN C c.1.2.2.2.2.2.2.2.1.1 ⟨c.1.2.2.2.2.2.2.2.1.2, by omega, by decide⟩ dX7_markTooNear_17 ?_
      refine j_aload_n C dX7_markTooNear_18 rfl ?_
      refine j_gRe (f := 448) (v := .ref (P 5 1)) C fF_X7_37 rfl (okA c.1.2.2.2.1.1) (by show va_rf (h_R h 448 (P 5 4)) = _; rw [c.1.2.2.2.1.2.1]; rfl) dX7_markTooNear_19 ?_
      refine j_iload_n C dX7_markTooNear_22 rfl ?_
      refine j_callVq (As := [.int (nI f)]) (rest := []) C fG_X7_61 (s_fieldAt (h := (s_A h (P 5 12) f 0)) (c.ex Ex.rf.sA) I.fl.1 I.fl.2 ((nI f))) (okA c.2.1.1) rfl rfl (Nat.le_of_ble_eq_true rfl) ⟨Nat.le_of_ble_eq_true rfl, Nat.le_of_ble_eq_true rfl⟩ ⟨Nat.le_of_ble_eq_true rfl, Nat.le_of_ble_eq_true rfl⟩ dX7_markTooNear_23 (fun r_23 h_23 e_23 => ?_)
      obtain ⟨e1_23, e2_23⟩ := e_23
      subst e1_23
      replace e2_23 := e2_23.symm
      subst e2_23
      refine j_astore_nQ (lv' := [(0, .ref (P 5 4)), (1, .int fa), (2, .int (nI f)), (3, va_rf (fldO S P (nI f)))]) C dX7_markTooNear_26 (by decide) rfl ?_
      refine j_iconst (v := 0) C dX7_markTooNear_27 (by decide) ?_
      refine j_istore (lv' := [(0, .ref (P 5 4)), (1, .int fa), (2, .int (nI f)), (3, va_rf (fldO S P (nI f))), (4, .int 0)]) C dX7_markTooNear_28 (by decide) (by simp [js, va_cat]) ?_
      refine L_tnI (h0 := h0) C I hnf hf6 (fun h1 c1 f1 g1 z1 m1 => ?_) 7 6 0 _ (by omega) (by omega) (c.ex Ex.rf.sA) (hf.tr (FrC.sA (i := 12) (by decide))) (fun x => by rw [g_AA, if_neg (pd8 c).2.2.2.2.1]; exact g11 x) (fun j hj => by rw [g_AA, if_pos rfl, if_neg (by omega)]; exact hz j hj) (by rw [g_AA, if_pos rfl, if_pos rfl]; exact mkP.z _)
      refine j_iinc (lv' := [(0, .ref (P 5 4)), (1, .int fa), (2, .int (nI (f + 1)))]) C dX7_markTooNear_91 rfl (nI_1 _) (by decide) rfl ?_
      refine j_goto (tgt := 2) C dX7_markTooNear_94 (by decide) ?_
      refine ih k (f + 1) h1 (by omega) (by omega) c1 f1 g1 (fun j hj => ?_)
      by_cases e : j = f
      · subst e; exact m1
      · exact z1 j (by omega)
set_option maxHeartbeats 4000000 in
set_option maxRecDepth 100000 in
theorem k_tooNear {l : Launch} {D : va_G} {cy : Nat → ClassId} {h : jH} {S : Nat → Nat → Int32} {P : Nat → Nat → Nat} {T : Nat → Nat → Nat → List Nat} {nf nl nb ns nt nk nw yy : Nat} (c : CP h S P T nf nl nb ns nt nk nw) (I : SI S nf nl nb ns nt nk nw yy) (fa : Int32) : jV l D cy yX7_markTooNear (.code yX7_markTooNear cX7_markTooNear 6 ((Option.none : Option FieldType))) (rmd 2 0 0) [.ref (P 5 4), .int fa] h (fun h' => CP h' S P T nf nl nb ns nt nk nw ∧ FrC P h h' ∧ (∀ x, h_A h' (P 5 11) x = h_A h (P 5 11) x) ∧ ∀ j, j < 6 → mkP (h_A h' (P 5 12) j) (fun g => j < nf ∧ g < nf ∧ ¬ fa * fa ≤ nearS S j g) 6) := by
  refine j_ofV (by decide) (Nat.le_of_ble_eq_true rfl) (fun p e s m args below meth c0 Q C hin ret => ?_)
  refine j_iconst (v := 0) C dX7_markTooNear_0 (by decide) ?_
  refine j_istore_n (lv' := [(0, .ref (P 5 4)), (1, .int fa), (2, .int 0)]) C dX7_markTooNear_1 (by decide) rfl ?_
  exact L_tn (h0 := h) C I I.fl.2 (fun h' c' f' g' m' lv pc hd => ret h' 0 0 lv pc ⟨c', f', g', m'⟩ (Nat.zero_le _) (Nat.zero_le _) hd) 7 6 0 h (by omega) (by omega) c FrC.rf (fun _ => rfl) (fun j hj => absurd hj (Nat.not_lt_zero _))
