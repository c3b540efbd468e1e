theorem tlv_eq {h : jH} {S : Nat → Nat → Int32} (q : Int32) : ∀ (as ks : List Nat), zT h S as ks → tlv h q as = tlS S q ks
  | [], [], _ => rfl
  | a :: as, k :: ks, c => by
    show (if ¬ q < h_I h 577 a then h_I h 578 a else tlv h q as) = (if ¬ q < S 16 k then S 15 k else tlS S q ks)
    rw [c.1, c.2.1, tlv_eq q as ks c.2.2]
  | [], _ :: _, c => c.elim
  | _ :: _, [], c => c.elim
theorem cp_crop {h : jH} {S : Nat → Nat → Int32} {P : Nat → Nat → Nat} {T : Nat → Nat → Nat → List Nat} {nf nl nb ns nt nk nw : Nat} (c : CP h S P T nf nl nb ns nt nk nw) (hnl : nl ≤ 200) {f y : Nat} (hf : f < nf) (hy : y < 41) (q : Int32) : crp h (h_B h (P 3 f) y) (T 0 f y) q = standS S (nI f) (nI y) q nl ns := by
  have cf := (c.2.2.1 f hf).2.2.2.2 y hy
  rw [cf.1]
  have et : tlv h q (T 0 f y) = flp (gStand S (nI f) (nI y) q) 0 ns 0 := by rw [tlv_eq q _ _ cf.2.2, tl_eq]
  unfold standS adr
  by_cases e : lotInS S (nI f) (nI y) nl = -1
  · rw [if_pos e, if_neg (fun z => z.2 e)]
    exact et
  · rw [if_neg e]
    obtain ⟨j, hj, hb, ej⟩ := lotInS_ix e
    have h2 : S 21 j = 1 ∧ S 25 j = nI f ∧ S 24 j = nI y := by simpa [lotInB] using hb
    have cl := (c.2.2.2.1 j hj).2.1
    rw [ej, nI_clamp (by omega)]
    show (if ¬ q < h_I h 387 (P 1 j) then h_I h 386 (P 1 j) else tlv h q (T 0 f y)) = _
    rw [cl.2.2.2, cl.2.2.1, h2.2.2, et, ix_nI (by omega)]
    have e2 : ¬ nI j = -1 := by rw [← ej]; exact e
    by_cases k : q < nI y
    · rw [if_neg (fun z => z k), if_neg (fun z => z.1 k)]
    · rw [if_pos k, if_pos ⟨k, e2⟩]
def rel2 (h : jH) (S : Nat → Nat → Int32) (b c : Option Nat) : Prop := match b, c with
  | none, none => True
  | some x, some k => h_I h 514 x = S 18 k ∧ h_I h 515 x = S 19 k
  | none, some _ => False
  | some _, none => False
theorem ifb_eq {h : jH} {S : Nat → Nat → Int32} (y q : Int32) : ∀ (as ks : List Nat) (b c : Option Nat), zS h S as ks → rel2 h S b c → rel2 h S (ifb h y q as b) (ifS S y q ks c)
  | [], [], b, c, _, r => r
  | a :: as, k :: ks, b, c, z, r => by
    show rel2 h S (ifb h y q as _) (ifS S y q ks _)
    refine ifb_eq y q as ks _ _ z.2.2.2 ?_
    rw [z.1, z.2.1]
    by_cases e : ¬ q < S 20 k ∧ ¬ y < S 18 k
    · rw [if_pos (show cntB S y q k = true from decide_eq_true e)]
      cases b with
      | none =>
        cases c with
        | none =>
          rw [if_pos ⟨e, Or.inl rfl⟩]
          exact ⟨z.2.1, z.2.2.1⟩
        | some j => exact r.elim
      | some x =>
        cases c with
        | none => exact r.elim
        | some j =>
          show rel2 h S (if (¬ q < S 20 k ∧ ¬ y < S 18 k) ∧ (some x = none ∨ ¬ S 18 k ≤ h_I h 514 x) then some a else some x) (if (S 18 j).toInt < (S 18 k).toInt then some k else some j)
          rw [r.1]
          by_cases e2 : (S 18 j).toInt < (S 18 k).toInt
          · rw [if_pos ⟨e, Or.inr (fun u => by rw [Int32.le_iff_toInt_le] at u; omega)⟩, if_pos e2]
            exact ⟨z.2.1, z.2.2.1⟩
          · rw [if_neg (fun u => u.2.elim (fun v => by cases v) (fun v => v (by rw [Int32.le_iff_toInt_le]; omega))), if_neg e2]
            exact r
    · rw [if_neg (fun u => e u.1), if_neg (show ¬ cntB S y q k = true from fun u => e (of_decide_eq_true u))]
      exact r
  | [], _ :: _, _, _, z, _ => z.elim
  | _ :: _, [], _, _, z, _ => z.elim
theorem dflt_st : ∀ kd, kd < 5 → stFi kd = dflt (nI kd) := by decide
theorem cp_force {h : jH} {S : Nat → Nat → Int32} {P : Nat → Nat → Nat} {T : Nat → Nat → Nat → List Nat} {nf nl nb ns nt nk nw : Nat} (c : CP h S P T nf nl nb ns nt nk nw) (hp : ∀ k, k < nt → 0 ≤ (S 18 k).toInt) {kd : Nat} (hk : kd < 5) (y q : Int32) : ifv h kd (ifb h y q (T 1 kd 0) none) = inForceS S (nI kd) y q nt := by
  have r := ifb_eq (h := h) (S := S) y q _ _ none none (c.2.2.2.2.2.1 kd hk).2 trivial
  rw [inForce_eq S (nI kd) y q hp]
  generalize ifb h y q (T 1 kd 0) none = b at r ⊢
  generalize ifS S y q (dsc (knB S (nI kd)) nt) none = d at r ⊢
  cases b with
  | none =>
    cases d with
    | none => exact dflt_st kd hk
    | some j => exact r.elim
  | some x =>
    cases d with
    | none => exact r.elim
    | some j => exact r.2
theorem cp_lotok {h : jH} {S : Nat → Nat → Int32} {P : Nat → Nat → Nat} {T : Nat → Nat → Nat → List Nat} {nf nl nb ns nt nk nw : Nat} (c : CP h S P T nf nl nb ns nt nk nw) (hnl : nl ≤ 200) {f y : Nat} (hf : f < nf) (hy : y < 41) : ∀ x, h_B h (P 3 f) y = some x → h_ok h x 6 := by
  intro x hx
  rw [((c.2.2.1 f hf).2.2.2.2 y hy).1] at hx
  unfold adr at hx
  by_cases e : lotInS S (nI f) (nI y) nl = -1
  · rw [if_pos e] at hx; cases hx
  · rw [if_neg e] at hx
    obtain ⟨j, hj, -, ej⟩ := lotInS_ix e
    rw [ej, nI_clamp (by omega)] at hx
    cases hx
    exact (c.2.2.2.1 j hj).1.2
set_option maxHeartbeats 4000000 in
set_option maxRecDepth 100000 in
theorem x_stands {l : Launch} {D : va_G} {cy : Nat → ClassId} {h : jH} {S : Nat → Nat → Int32} {P : Nat → Nat → Nat} {T : Nat → Nat → Nat → List Nat} {nf nl nb ns nt nk nw : Nat} (c : CP h S P T nf nl nb ns nt nk nw) (hf : S 1 0 = nI nf) (hnf : nf ≤ 40) (hnl : nl ≤ 200) {yy : Nat} (hy : S 0 0 = nI yy) (hyy : yy ≤ 40) (f yr q : Int32) : jI l D cy yX10_stands (.code yX10_stands cX10_stands 5 ((Option.some FieldType.int))) (rmd 2 0 0) [.ref (P 5 0), .int f, .int yr, .int q] h (fun r h' => ∃ S', (r, S') = m_stands S f yr q nl ns ∧ CP h' S' P T nf nl nb ns nt nk nw ∧ FrC P h h') := by
  refine j_ofI (by decide) (Nat.le_of_ble_eq_true rfl) (fun p e s m args below meth c0 Q C hin ret => ?_)
  refine j_aload_n C dX10_stands_0 rfl ?_
  refine j_gRe (f := 640) (v := .ref (P 5 1)) C fF_X10_10 rfl c.1.1.1 (by rw [c.1.1.2.1]; rfl) dX10_stands_1 ?_
  refine j_iload_n C dX10_stands_4 rfl ?_
  refine j_callVq (As := [.int f]) (rest := []) C fG_X10_60 (s_fieldAt c hf hnf (f)) c.2.1.1 rfl rfl (Nat.le_of_ble_eq_true rfl) ⟨Nat.le_of_ble_eq_true rfl, Nat.le_of_ble_eq_true rfl⟩ ⟨Nat.le_of_ble_eq_true rfl, Nat.le_of_ble_eq_true rfl⟩ dX10_stands_5 (fun r_5 h_5 e_5 => ?_)
  obtain ⟨e1_5, e2_5⟩ := e_5
  subst e1_5
  replace e2_5 := e2_5.symm
  subst e2_5
  refine j_astoreQ (lv' := [(0, .ref (P 5 0)), (1, .int f), (2, .int yr), (3, .int q), (4, va_rf (fldO S P f))]) C dX10_stands_8 (by decide) rfl ?_
  refine j_aloadQ C dX10_stands_10 rfl ?_
  cases hq_12 : (fldO S P f) with
  | none =>
    refine j_ifnullN (tgt := 45) C dX10_stands_12 (by decide) ?_
    refine j_iconst (v := (-1)) C dX10_stands_45 (by decide) ?_
    exact ret _ _ 0 0 _ _ ⟨S, by rw [m_stands, if_neg (fun z => fldO_n hq_12 z.1)], c, FrC.rf⟩ (Nat.zero_le _) (Nat.zero_le _) dX10_stands_46
  | some x_12 =>
    refine j_ifnull C dX10_stands_12 ?_
    obtain ⟨j, hj, hx, ha, hL⟩ := fldO_s hf hnf hq_12
    subst hx
    subst ha
    refine j_iload_n C dX10_stands_15 rfl ?_
    refine j_iconst (v := 0) C dX10_stands_16 (by decide) ?_
    refine j_aload_n C dX10_stands_17 rfl ?_
    refine j_gRe (f := 640) (v := .ref (P 5 1)) C fF_X10_10 rfl c.1.1.1 (by rw [c.1.1.2.1]; rfl) dX10_stands_18 ?_
    refine j_gIe (f := 128) (v := (S 0 0)) C fF_X10_67 rfl c.2.1.1 c.2.1.2.1.1 dX10_stands_21 ?_
    refine j_callSi (As := [.int yr, .int 0, .int (S 0 0)]) (rest := []) C fG_X10_43 (k_within (yr) (0) ((S 0 0))) rfl rfl (Nat.le_of_ble_eq_true rfl) ⟨Nat.le_of_ble_eq_true rfl, Nat.le_of_ble_eq_true rfl⟩ ⟨Nat.le_of_ble_eq_true rfl, Nat.le_of_ble_eq_true rfl⟩ dX10_stands_24 (fun r_24 h_24 e_24 => ?_)
    obtain ⟨e1_24, e2_24⟩ := e_24
    subst e1_24
    replace e2_24 := e2_24.symm
    subst e2_24
    refine j_ifeq_b (tgt := 45) C dX10_stands_27 (by decide) (fun c_27 => ?_) (fun c_27 => ?_)
    · refine j_iconst (v := (-1)) C dX10_stands_45 (by decide) ?_
      exact ret _ _ 0 0 _ _ ⟨S, by rw [m_stands, if_neg (fun z => c_27 z.2.1)], c, FrC.rf⟩ (Nat.zero_le _) (Nat.zero_le _) dX10_stands_46
    · refine j_iload_n C dX10_stands_30 rfl ?_
      refine j_iconst (v := 0) C dX10_stands_31 (by decide) ?_
      refine j_aload_n C dX10_stands_32 rfl ?_
      refine j_gRe (f := 640) (v := .ref (P 5 1)) C fF_X10_10 rfl c.1.1.1 (by rw [c.1.1.2.1]; rfl) dX10_stands_33 ?_
      refine j_gIe (f := 128) (v := (S 0 0)) C fF_X10_67 rfl c.2.1.1 c.2.1.2.1.1 dX10_stands_36 ?_
      refine j_callSi (As := [.int q, .int 0, .int (S 0 0)]) (rest := []) C fG_X10_43 (k_within (q) (0) ((S 0 0))) rfl rfl (Nat.le_of_ble_eq_true rfl) ⟨Nat.le_of_ble_eq_true rfl, Nat.le_of_ble_eq_true rfl⟩ ⟨Nat.le_of_ble_eq_true rfl, Nat.le_of_ble_eq_true rfl⟩ dX10_stands_39 (fun r_39 h_39 e_39 => ?_)
      obtain ⟨e1_39, e2_39⟩ := e_39
      subst e1_39
      replace e2_39 := e2_39.symm
      subst e2_39
      refine j_ifne_b (tgt := 47) C dX10_stands_42 (by decide) (fun c_42 => ?_) (fun c_42 => ?_)
      · obtain ⟨i, hi, rfl⟩ := nI_of2 (x := yr) (M := S 0 0) (n := yy) (by rw [hy]; exact nI_toInt (by omega)) (Int32.not_lt.mpr c_27.1) c_27.2
        refine j_aload C dX10_stands_47 rfl ?_
        refine j_iload_n C dX10_stands_49 rfl ?_
        refine j_iload_n C dX10_stands_50 rfl ?_
        refine j_callVi (As := [.int (nI i), .int q]) (rest := []) C fG_X10_77 (k_cropIn (c.2.2.1 j hj).1.2 (c.2.2.1 j hj).2.2.1.1 (c.2.2.1 j hj).2.2.1.2.1 (c.2.2.1 j hj).2.2.1.2.2 (c.2.2.1 j hj).2.2.2.1.1 (c.2.2.1 j hj).2.2.2.1.2.1 (c.2.2.1 j hj).2.2.2.1.2.2 (yr := i) (by omega) (cp_lotok c hnl hj (by omega)) ((c.2.2.1 j hj).2.2.2.2 i (by omega)).2.1 q) (c.2.2.1 j hj).1.2 rfl rfl (Nat.le_of_ble_eq_true rfl) ⟨Nat.le_of_ble_eq_true rfl, Nat.le_of_ble_eq_true rfl⟩ ⟨Nat.le_of_ble_eq_true rfl, Nat.le_of_ble_eq_true rfl⟩ dX10_stands_51 (fun r_51 h_51 e_51 => ?_)
        obtain ⟨e1_51, e2_51⟩ := e_51
        rw [cp_crop c hnl hj (by omega)] at e1_51
        subst e1_51
        replace e2_51 := e2_51.symm
        subst e2_51
        exact ret _ _ 0 0 _ _ ⟨S, by rw [m_stands, if_pos ⟨hL, c_27, c_42⟩]; rfl, c, FrC.rf⟩ (Nat.zero_le _) (Nat.zero_le _) dX10_stands_54
      · refine j_iconst (v := (-1)) C dX10_stands_45 (by decide) ?_
        exact ret _ _ 0 0 _ _ ⟨S, by rw [m_stands, if_neg (fun z => c_42 z.2.2)], c, FrC.rf⟩ (Nat.zero_le _) (Nat.zero_le _) dX10_stands_46
