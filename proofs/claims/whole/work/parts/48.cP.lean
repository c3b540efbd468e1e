theorem lk_fact {h : jH} {S : Nat → Nat → Int32} {P : Nat → Nat → Nat} {T : Nat → Nat → Nat → List Nat} {nf nl nb ns nt nk nw : Nat} (c : CP h S P T nf nl nb ns nt nk nw) {yy : Nat} (I : SI S nf nl nb ns nt nk nw yy) {lt : Nat} (hlt : lt < nl) (q : Int32) : (llk h q (T 2 lt 0) = none → looksS S (nI lt) q nk = 0 ∧ sumS S lt q nk = (0, 0)) ∧ (∀ x, llk h q (T 2 lt 0) = some x → h_I h 322 x = looksS S (nI lt) q nk ∧ (h_I h 323 x).toInt64 = (sumS S lt q nk).1 ∧ (h_I h 324 x).toInt64 = (sumS S lt q nk).2) := by
  have cl := (c.2.2.2.1 lt hlt).2.2.2.2.2
  rw [looks_kn nk I.km, sum_kn nk I.lk.2 I.km (fun k hk => ⟨(I.ks k hk).1, (I.ks k hk).2.1⟩)]
  rcases llk_eq (q := q) _ _ cl with ⟨e1, e2⟩ | ⟨x, k, ks, e1, e2, e3, e4, e5⟩
  · rw [e1, e2]
    exact ⟨(fun _ => ⟨rfl, rfl⟩), (fun x hx => by cases hx)⟩
  · rw [e1, e2]
    refine ⟨(fun hx => by cases hx), fun y hy => ?_⟩
    cases hy
    exact ⟨e3, congrArg Int32.toInt64 e4, congrArg Int32.toInt64 e5⟩
theorem wrg_e {S : Nat → Nat → Int32} {z : Nat → Int32} {lt nf nl ns nt nk Y g : Nat} {q : Int32} (hY : S 24 lt = nI Y) (hYb : Y ≤ 40) (eg : S 25 lt = nI g) (hr : rkZ S z lt = z (S 26 lt).toNatClampNeg) : wrgZ S z lt q nf nl ns nt nk = if ¬ ffst (badZ S z lt q nl ns nt) 0 nf = -1 then 1 else if prv (fun k => decide (standS S (nI g) (nI Y - nI k) q nl ns = S 22 lt)) (inForceS S 1 (nI Y) q nt) 1 Y = true then 2 else if ¬ inForceS S 2 (nI Y) q nt ≤ looksS S (nI lt) q nk then 3 else if ¬ lg_cmp (1000 * (sumS S lt q nk).2) ((inForceS S 3 (nI Y) q nt).toInt64 * (sumS S lt q nk).1) ≤ 0 then 4 else if rkZ S z lt + 1 ≤ inForceS S 4 (nI Y) q nt then 0 else 6 := by
  have e : preB S lt q nl ns = fun k => decide (standS S (nI g) (nI Y - nI k) q nl ns = S 22 lt) := funext fun k => by
    unfold preB
    rw [hY, eg]
  unfold wrgZ
  rw [e, hY, nI_clamp (by omega), hr]
theorem cmp0 (x : Int64) : lg_cmp (1000 * 0) (x * 0) ≤ 0 := by
  rw [show (1000 * 0 : Int64) = 0 by decide, Int64.mul_zero]
  decide
def rsZ (S : Nat → Nat → Int32) (z : Nat → Int32) (lt : Nat) (q : Int32) (nf nl ns nt nk : Nat) : Int32 := if ¬ why0 S lt q = 0 then 5 else if rkZ S z lt = 9 then 7 else if S 21 lt = 1 then wrgZ S z lt q nf nl ns nt nk else 0
def rkN (S : Nat → Nat → Int32) (z : Nat → Int32) (lt : Nat) (w : Int32) : Int32 := if ¬ w = 0 then 9 else if S 21 lt = 1 then rkZ S z lt + 1 else rkZ S z lt
theorem wy_5 {S : Nat → Nat → Int32} {lt : Nat} {q : Int32} (h : ¬ S 33 lt = -1 ∧ ¬ q < S 33 lt) : ¬ why0 S lt q = 0 := by
  unfold why0
  rw [if_pos h]
  decide
theorem wy_0 {S : Nat → Nat → Int32} {lt : Nat} {q : Int32} (h : ¬ (¬ S 33 lt = -1 ∧ ¬ q < S 33 lt)) : why0 S lt q = 0 := by
  unfold why0
  rw [if_neg h]
theorem wy_or (S : Nat → Nat → Int32) (lt : Nat) (q : Int32) : why0 S lt q = 0 ∨ why0 S lt q = 5 := by
  unfold why0
  split
  · exact Or.inr rfl
  · exact Or.inl rfl
theorem as_t {S : Nat → Nat → Int32} {nf nl nb ns nt nk nw yy : Nat} (I : SI S nf nl nb ns nt nk nw yy) {z : Nat → Int32} {i : Nat} (hi : i < nl) (h0 : S 21 i = 0) (q : Int32) : rsZ S z i q nf nl ns nt nk = why0 S i q ∧ rkN S z i (rsZ S z i q nf nl ns nt nk) = (if why0 S i q = 0 then 0 else 9) := by
  have h1 : ¬ S 21 i = 1 := by rw [h0]; decide
  have hm : S 26 i = -1 ∧ S 27 i = -1 := by
    rcases (I.lo i hi).1 with h | h | h
    · exact ⟨h.2.2.1, h.2.2.2⟩
    · rw [h.1] at h0; exact absurd h0 (by decide)
    · rw [h.1] at h0; exact absurd h0 (by decide)
  have hr : rkZ S z i = 0 := rk_t hm.1 hm.2
  have e : rsZ S z i q nf nl ns nt nk = why0 S i q := by
    unfold rsZ
    rw [hr, if_neg h1]
    rcases wy_or S i q with w | w
    · rw [w]; decide
    · rw [w]; decide
  refine ⟨e, ?_⟩
  rw [e]
  unfold rkN
  rw [hr, if_neg h1]
  by_cases w : why0 S i q = 0
  · rw [if_neg (fun v => v w), if_pos w]
  · rw [if_pos w, if_neg w]
theorem as_n {S : Nat → Nat → Int32} {nf nl nb ns nt nk nw yy : Nat} (I : SI S nf nl nb ns nt nk nw yy) {z w : Nat → Int32} {i : Nat} (hi : i < nl) (b : Bd S nl i z) (h0 : ¬ S 21 i = 0) (q : Int32) : rsZ S z i q nf nl ns nt nk = whyZ S z w i q nf nl ns nt nk ∧ rkN S z i (rsZ S z i q nf nl ns nt nk) = rankZ S z w i q nf nl ns nt nk := by
  have hr : rkZ S z i = worstZ S z i := rk_w I b hi h0
  have e : rsZ S z i q nf nl ns nt nk = whyZ S z w i q nf nl ns nt nk := by
    rw [whyZ_e]
    unfold rsZ
    rw [hr]
  refine ⟨e, ?_⟩
  rw [e]
  unfold rkN rankZ
  rw [hr]
  by_cases v : whyZ S z w i q nf nl ns nt nk = 0
  · have v1 : ¬ ¬ whyZ S z w i q nf nl ns nt nk = 0 := fun u => u v
    have v2 : ¬ ¬ whyZ S z w i q nf nl ns nt nk ≤ 0 := fun u => u ((whyZ_0 ..).mpr v)
    rw [if_neg v1, if_neg v2]
    rcases (I.lo i hi).1 with h | h | h
    · exact absurd h.1 h0
    · have h2 : ¬ S 21 i = 2 := by rw [h.1]; decide
      rw [if_pos h.1, if_neg h2]
    · have h2 : ¬ S 21 i = 1 := by rw [h.1]; decide
      rw [if_neg h2, if_pos h.1]
  · have v2 : ¬ whyZ S z w i q nf nl ns nt nk ≤ 0 := fun u => v ((whyZ_0 ..).mp u)
    rw [if_pos v, if_pos v2]
set_option maxHeartbeats 4000000 in
set_option maxRecDepth 100000 in
theorem k_inField {l : Launch} {D : va_G} {cy : Nat → ClassId} {h : jH} {S : Nat → Nat → Int32} {P : Nat → Nat → Nat} {T : Nat → Nat → Nat → List Nat} {nf nl nb ns nt nk nw yy : Nat} (c : CP h S P T nf nl nb ns nt nk nw) (I : SI S nf nl nb ns nt nk nw yy) {z : Nat → Int32} (hz : ∀ a, a < nl → h_I h 399 (P 1 a) = z a) {lt : Nat} (hlt : lt < nl) {Y g : Nat} (b : Bd S nl lt z) (h1 : S 21 lt = 1) (hY : S 24 lt = nI Y) (hYb : Y ≤ 40) (hg : g < nf) (eg : S 25 lt = nI g) (q : Int32) : cI l D cy yX0_reasonInField (.code yX0_reasonInField cX0_reasonInField 7 ((Option.some FieldType.int))) 4 [.ref (P 5 2), .ref (P 1 lt), .int q] h (fun v => v = wrgZ S z lt q nf nl ns nt nk) := by
  have hnf' := I.fl.2
  refine j_ofI (by decide) (Nat.le_of_ble_eq_true rfl) (fun p e s m args below meth c0 Q C hin ret => ?_)
  refine j_aload_n C dX0_reasonInField_0 rfl ?_
  refine j_gRe (f := 388) (v := .ref (P 0 g)) C fF_X0_56 rfl (c.2.2.2.1 lt hlt).1.2 (by rw [(c.2.2.2.1 lt hlt).2.2.1.1, eg, adr_i (by omega)]; rfl) dX0_reasonInField_1 ?_
  refine j_ifnonnull (tgt := 9) C dX0_reasonInField_4 (by decide) ?_
  have hnl := I.lt.2
  have hnf := I.fl.2
  obtain ⟨ys, hys, eys⟩ := force_nI (S := S) (kd := 1) (y := nI Y) (q := q) (nt := nt) (fun k hk => (I.sv k hk).2)
  refine j_aload_n C dX0_reasonInField_9 rfl ?_
  refine j_aload_n C dX0_reasonInField_10 rfl ?_
  refine j_iload_n C dX0_reasonInField_11 rfl ?_
  refine j_callVi (As := [.ref (P 1 lt), .int q]) (rest := []) C fG_X0_60 (k_crowded c I hz hlt b h1 hY hYb hg eg q) c.1.2.1.1 rfl rfl (Nat.le_of_ble_eq_true rfl) ⟨Nat.le_of_ble_eq_true rfl, Nat.le_of_ble_eq_true rfl⟩ ⟨Nat.le_of_ble_eq_true rfl, Nat.le_of_ble_eq_true rfl⟩ dX0_reasonInField_12 (fun r_12 h_12 e_12 => ?_)
  obtain ⟨e1_12, e2_12⟩ := e_12
  subst e1_12
  replace e2_12 := e2_12.symm
  subst e2_12
  refine j_ifeq_b (tgt := 20) C dX0_reasonInField_15 (by decide) (fun c_15 => ?_) (fun c_15 => ?_)
  · refine j_aload_n C dX0_reasonInField_20 rfl ?_
    refine j_gRe (f := 0) (v := .ref (P 5 1)) C fF_X0_9 rfl c.1.2.1.1 (by rw [c.1.2.1.2]; rfl) dX0_reasonInField_21 ?_
    refine j_iconst (v := 1) C dX0_reasonInField_24 (by decide) ?_
    refine j_aload_n C dX0_reasonInField_25 rfl ?_
    refine j_gIe (f := 387) (v := (nI Y)) C fF_X0_64 rfl (c.2.2.2.1 lt hlt).1.2 (by rw [(c.2.2.2.1 lt hlt).2.1.2.2.2]; exact hY) dX0_reasonInField_26 ?_
    refine j_iload_n C dX0_reasonInField_29 rfl ?_
    refine j_callVi (As := [.int 1, .int (nI Y), .int q]) (rest := []) C fG_X0_67 (s_forceL c I (kd := 1) (x := 1) rfl (by decide) (nI Y) q) c.2.1.1 rfl rfl (Nat.le_of_ble_eq_true rfl) ⟨Nat.le_of_ble_eq_true rfl, Nat.le_of_ble_eq_true rfl⟩ ⟨Nat.le_of_ble_eq_true rfl, Nat.le_of_ble_eq_true rfl⟩ dX0_reasonInField_30 (fun r_30 h_30 e_30 => ?_)
    obtain ⟨e1_30, e2_30⟩ := e_30
    subst e1_30
    replace e2_30 := e2_30.symm
    subst e2_30
    refine j_istore_n (lv' := [(0, .ref (P 5 2)), (1, .ref (P 1 lt)), (2, .int q), (3, .int (inForceS S 1 (nI Y) q nt))]) C dX0_reasonInField_33 (by decide) rfl ?_
    refine j_aload_n C dX0_reasonInField_34 rfl ?_
    refine j_gRe (f := 388) (v := .ref (P 0 g)) C fF_X0_56 rfl (c.2.2.2.1 lt hlt).1.2 (by rw [(c.2.2.2.1 lt hlt).2.2.1.1, eg, adr_i (by omega)]; rfl) dX0_reasonInField_35 ?_
    refine j_aload_n C dX0_reasonInField_38 rfl ?_
    refine j_gIe (f := 387) (v := (nI Y)) C fF_X0_64 rfl (c.2.2.2.1 lt hlt).1.2 (by rw [(c.2.2.2.1 lt hlt).2.1.2.2.2]; exact hY) dX0_reasonInField_39 ?_
    refine j_iload_n C dX0_reasonInField_42 rfl ?_
    refine j_aload_n C dX0_reasonInField_43 rfl ?_
    refine j_gIe (f := 386) (v := (S 22 lt)) C fF_X0_71 rfl (c.2.2.2.1 lt hlt).1.2 (c.2.2.2.1 lt hlt).2.1.2.2.1 dX0_reasonInField_44 ?_
    refine j_iload_n C dX0_reasonInField_47 rfl ?_
    refine j_callVi (As := [.int (nI Y), .int (inForceS S 1 (nI Y) q nt), .int (S 22 lt), .int q]) (rest := []) C fG_X0_74 (s_stood c hnl hg (by omega) eys hys (S 22 lt) q) (c.2.2.1 g hg).1.2 rfl rfl (Nat.le_of_ble_eq_true rfl) ⟨Nat.le_of_ble_eq_true rfl, Nat.le_of_ble_eq_true rfl⟩ ⟨Nat.le_of_ble_eq_true rfl, Nat.le_of_ble_eq_true rfl⟩ dX0_reasonInField_48 (fun r_48 h_48 e_48 => ?_)
    obtain ⟨e1_48, e2_48⟩ := e_48
    subst e1_48
    replace e2_48 := e2_48.symm
    subst e2_48
    refine j_ifeq_b (tgt := 56) C dX0_reasonInField_51 (by decide) (fun c_51 => ?_) (fun c_51 => ?_)
    · refine j_aload_n C dX0_reasonInField_56 rfl ?_
      refine j_iload_n C dX0_reasonInField_57 rfl ?_
      refine j_callVq (As := [.int q]) (rest := []) C fG_X0_80 (k_lastLook (c.2.2.2.1 lt hlt).1.2 (c.2.2.2.1 lt hlt).2.2.2.2.1 q) (c.2.2.2.1 lt hlt).1.2 rfl rfl (Nat.le_of_ble_eq_true rfl) ⟨Nat.le_of_ble_eq_true rfl, Nat.le_of_ble_eq_true rfl⟩ ⟨Nat.le_of_ble_eq_true rfl, Nat.le_of_ble_eq_true rfl⟩ dX0_reasonInField_58 (fun r_58 h_58 e_58 => ?_)
      obtain ⟨e1_58, e2_58⟩ := e_58
      subst e1_58
      replace e2_58 := e2_58.symm
      subst e2_58
      refine j_astoreQ (lv' := [(0, .ref (P 5 2)), (1, .ref (P 1 lt)), (2, .int q), (3, .int (inForceS S 1 (nI Y) q nt)), (4, va_rf (llk h q (T 2 lt 0)))]) C dX0_reasonInField_61 (by decide) rfl ?_
      refine j_aloadQ C dX0_reasonInField_63 rfl ?_
      cases hq_65 : (llk h q (T 2 lt 0)) with
      | none =>
        refine j_ifnonnullN C dX0_reasonInField_65 ?_
        obtain ⟨hl0, hs0⟩ := (lk_fact c I hlt q).1 hq_65
        refine j_iconst (v := 0) C dX0_reasonInField_68 (by decide) ?_
        refine j_goto (tgt := 77) C dX0_reasonInField_69 (by decide) ?_
        refine j_istore (lv' := [(0, .ref (P 5 2)), (1, .ref (P 1 lt)), (2, .int q), (3, .int (inForceS S 1 (nI Y) q nt)), (4, .null), (5, .int 0)]) C dX0_reasonInField_77 (by decide) rfl ?_
        refine j_iload C dX0_reasonInField_79 rfl ?_
        refine j_aload_n C dX0_reasonInField_81 rfl ?_
        refine j_gRe (f := 0) (v := .ref (P 5 1)) C fF_X0_9 rfl c.1.2.1.1 (by rw [c.1.2.1.2]; rfl) dX0_reasonInField_82 ?_
        refine j_iconst (v := 2) C dX0_reasonInField_85 (by decide) ?_
        refine j_aload_n C dX0_reasonInField_86 rfl ?_
        refine j_gIe (f := 387) (v := (nI Y)) C fF_X0_64 rfl (c.2.2.2.1 lt hlt).1.2 (by rw [(c.2.2.2.1 lt hlt).2.1.2.2.2]; exact hY) dX0_reasonInField_87 ?_
        refine j_iload_n C dX0_reasonInField_90 rfl ?_
        refine j_callVi (As := [.int 2, .int (nI Y), .int q]) (rest := [.int 0]) C fG_X0_67 (s_forceL c I (kd := 2) (x := 2) rfl (by decide) (nI Y) q) c.2.1.1 rfl rfl (Nat.le_of_ble_eq_true rfl) ⟨Nat.le_of_ble_eq_true rfl, Nat.le_of_ble_eq_true rfl⟩ ⟨Nat.le_of_ble_eq_true rfl, Nat.le_of_ble_eq_true rfl⟩ dX0_reasonInField_91 (fun r_91 h_91 e_91 => ?_)
        obtain ⟨e1_91, e2_91⟩ := e_91
        subst e1_91
        replace e2_91 := e2_91.symm
        subst e2_91
        refine j_icmp_ge (tgt := 99) C dX0_reasonInField_94 (by decide) (fun c_94 => ?_) (fun c_94 => ?_)
        · refine j_aloadN C dX0_reasonInField_99 rfl ?_
          refine j_ifnullN (tgt := 141) C dX0_reasonInField_101 (by decide) ?_
          refine j_aload_n C dX0_reasonInField_141 rfl ?_
          refine j_callVi (As := []) (rest := []) C fG_X0_48 (s_rank c I hz hlt) (c.2.2.2.1 lt hlt).1.2 rfl rfl (Nat.le_of_ble_eq_true rfl) ⟨Nat.le_of_ble_eq_true rfl, Nat.le_of_ble_eq_true rfl⟩ ⟨Nat.le_of_ble_eq_true rfl, Nat.le_of_ble_eq_true rfl⟩ dX0_reasonInField_142 (fun r_142 h_142 e_142 => ?_)
          obtain ⟨e1_142, e2_142⟩ := e_142
          subst e1_142
          replace e2_142 := e2_142.symm
          subst e2_142
          refine j_iconst (v := 1) C dX0_reasonInField_145 (by decide) ?_
          refine j_iadd C dX0_reasonInField_146 ?_
          refine j_aload_n C dX0_reasonInField_147 rfl ?_
          refine j_gRe (f := 0) (v := .ref (P 5 1)) C fF_X0_9 rfl c.1.2.1.1 (by rw [c.1.2.1.2]; rfl) dX0_reasonInField_148 ?_
          refine j_iconst (v := 4) C dX0_reasonInField_151 (by decide) ?_
          refine j_aload_n C dX0_reasonInField_152 rfl ?_
          refine j_gIe (f := 387) (v := (nI Y)) C fF_X0_64 rfl (c.2.2.2.1 lt hlt).1.2 (by rw [(c.2.2.2.1 lt hlt).2.1.2.2.2]; exact hY) dX0_reasonInField_153 ?_
          refine j_iload_n C dX0_reasonInField_156 rfl ?_
          refine j_callVi (As := [.int 4, .int (nI Y), .int q]) (rest := [.int ((rkZ S z lt) + 1)]) C fG_X0_67 (s_forceL c I (kd := 4) (x := 4) rfl (by decide) (nI Y) q) c.2.1.1 rfl rfl (Nat.le_of_ble_eq_true rfl) ⟨Nat.le_of_ble_eq_true rfl, Nat.le_of_ble_eq_true rfl⟩ ⟨Nat.le_of_ble_eq_true rfl, Nat.le_of_ble_eq_true rfl⟩ dX0_reasonInField_157 (fun r_157 h_157 e_157 => ?_)
          obtain ⟨e1_157, e2_157⟩ := e_157
          subst e1_157
          replace e2_157 := e2_157.symm
          subst e2_157
          refine j_icmp_le (tgt := 167) C dX0_reasonInField_160 (by decide) (fun c_160 => ?_) (fun c_160 => ?_)
          · refine j_iconst (v := 0) C dX0_reasonInField_167 (by decide) ?_
            refine j_istore (lv' := [(0, .ref (P 5 2)), (1, .ref (P 1 lt)), (2, .int q), (3, .int (inForceS S 1 (nI Y) q nt)), (4, .null), (5, .int 0), (6, .int 0)]) C dX0_reasonInField_168 (by decide) rfl ?_
            refine j_iload C dX0_reasonInField_170 rfl ?_
            refine j_if_eq (tgt := 180) C dX0_reasonInField_172 (by decide) (fun c_172 => ?_) (fun c_172 => ?_)
            · refine j_iconst (v := 0) C dX0_reasonInField_180 (by decide) ?_
              exact ret _ _ 0 0 _ _ ⟨by rw [wrg_e hY hYb eg (rk_yr I b hlt hlt h1 rfl), if_neg c_15, if_neg c_51, if_neg (fun w => w (by rw [hl0]; exact c_94)), if_neg (by rw [hs0]; exact fun w => w (cmp0 _)), if_pos c_160], rfl⟩ (Nat.zero_le _) (Nat.zero_le _) dX0_reasonInField_181
            · exact (show False by revert c_172; decide).elim
          · refine j_iconst (v := 1) C dX0_reasonInField_163 (by decide) ?_
            refine j_goto (tgt := 168) C dX0_reasonInField_164 (by decide) ?_
            refine j_istore (lv' := [(0, .ref (P 5 2)), (1, .ref (P 1 lt)), (2, .int q), (3, .int (inForceS S 1 (nI Y) q nt)), (4, .null), (5, .int 0), (6, .int 1)]) C dX0_reasonInField_168 (by decide) rfl ?_
            refine j_iload C dX0_reasonInField_170 rfl ?_
            refine j_if_eq (tgt := 180) C dX0_reasonInField_172 (by decide) (fun c_172 => ?_) (fun c_172 => ?_)
            · exact (show False by revert c_172; decide).elim
            refine j_bipush (v := 6) C dX0_reasonInField_175 (by decide) ?_
            refine j_goto (tgt := 181) C dX0_reasonInField_177 (by decide) ?_
            exact ret _ _ 0 0 _ _ ⟨by rw [wrg_e hY hYb eg (rk_yr I b hlt hlt h1 rfl), if_neg c_15, if_neg c_51, if_neg (fun w => w (by rw [hl0]; exact c_94)), if_neg (by rw [hs0]; exact fun w => w (cmp0 _)), if_neg c_160], rfl⟩ (Nat.zero_le _) (Nat.zero_le _) dX0_reasonInField_181
        · refine j_iconst (v := 3) C dX0_reasonInField_97 (by decide) ?_
          exact ret _ _ 0 0 _ _ ⟨by rw [wrg_e hY hYb eg (rk_yr I b hlt hlt h1 rfl), if_neg c_15, if_neg c_51, if_pos (by rw [hl0]; exact c_94)], rfl⟩ (Nat.zero_le _) (Nat.zero_le _) dX0_reasonInField_98
      | some x_65 =>
        refine j_ifnonnull (tgt := 72) C dX0_reasonInField_65 (by decide) ?_
        obtain ⟨hl0, hs1, hs2⟩ := (lk_fact c I hlt q).2 _ hq_65
        refine j_aload C dX0_reasonInField_72 rfl ?_
        refine j_gIe (f := 322) (v := (looksS S (nI lt) q nk)) C fF_X0_84 rfl (chn_mem _ _ (c.2.2.2.1 lt hlt).2.2.2.2.1 _ (llk_mem _ _ hq_65)) hl0 dX0_reasonInField_74 ?_
        refine j_istore (lv' := [(0, .ref (P 5 2)), (1, .ref (P 1 lt)), (2, .int q), (3, .int (inForceS S 1 (nI Y) q nt)), (4, .ref x_65), (5, .int (looksS S (nI lt) q nk))]) C dX0_reasonInField_77 (by decide) rfl ?_
        refine j_iload C dX0_reasonInField_79 rfl ?_
        refine j_aload_n C dX0_reasonInField_81 rfl ?_
        refine j_gRe (f := 0) (v := .ref (P 5 1)) C fF_X0_9 rfl c.1.2.1.1 (by rw [c.1.2.1.2]; rfl) dX0_reasonInField_82 ?_
        refine j_iconst (v := 2) C dX0_reasonInField_85 (by decide) ?_
        refine j_aload_n C dX0_reasonInField_86 rfl ?_
        refine j_gIe (f := 387) (v := (nI Y)) C fF_X0_64 rfl (c.2.2.2.1 lt hlt).1.2 (by rw [(c.2.2.2.1 lt hlt).2.1.2.2.2]; exact hY) dX0_reasonInField_87 ?_
        refine j_iload_n C dX0_reasonInField_90 rfl ?_
        refine j_callVi (As := [.int 2, .int (nI Y), .int q]) (rest := [.int (looksS S (nI lt) q nk)]) C fG_X0_67 (s_forceL c I (kd := 2) (x := 2) rfl (by decide) (nI Y) q) c.2.1.1 rfl rfl (Nat.le_of_ble_eq_true rfl) ⟨Nat.le_of_ble_eq_true rfl, Nat.le_of_ble_eq_true rfl⟩ ⟨Nat.le_of_ble_eq_true rfl, Nat.le_of_ble_eq_true rfl⟩ dX0_reasonInField_91 (fun r_91 h_91 e_91 => ?_)
        obtain ⟨e1_91, e2_91⟩ := e_91
        subst e1_91
        replace e2_91 := e2_91.symm
        subst e2_91
        refine j_icmp_ge (tgt := 99) C dX0_reasonInField_94 (by decide) (fun c_94 => ?_) (fun c_94 => ?_)
        · refine j_aload C dX0_reasonInField_99 rfl ?_
          refine j_ifnull C dX0_reasonInField_101 ?_
          refine j_ldc2 C dX0_reasonInField_104 kK_X0_89 ?_
          refine j_aload C dX0_reasonInField_107 rfl ?_
          refine j_gI (f := 324) C fF_X0_91 rfl (chn_mem _ _ (c.2.2.2.1 lt hlt).2.2.2.2.1 _ (llk_mem _ _ hq_65)) dX0_reasonInField_109 ?_
          refine j_i2l C dX0_reasonInField_112 ?_
          refine j_lmul C dX0_reasonInField_113 ?_
          refine j_aload_n C dX0_reasonInField_114 rfl ?_
          refine j_gRe (f := 0) (v := .ref (P 5 1)) C fF_X0_9 rfl c.1.2.1.1 (by rw [c.1.2.1.2]; rfl) dX0_reasonInField_115 ?_
          refine j_iconst (v := 3) C dX0_reasonInField_118 (by decide) ?_
          refine j_aload_n C dX0_reasonInField_119 rfl ?_
          refine j_gIe (f := 387) (v := (nI Y)) C fF_X0_64 rfl (c.2.2.2.1 lt hlt).1.2 (by rw [(c.2.2.2.1 lt hlt).2.1.2.2.2]; exact hY) dX0_reasonInField_120 ?_
          refine j_iload_n C dX0_reasonInField_123 rfl ?_
          refine j_callVi (As := [.int 3, .int (nI Y), .int q]) (rest := [.long (1000 * ((h_I h 324 x_65)).toInt64)]) C fG_X0_67 (s_forceL c I (kd := 3) (x := 3) rfl (by decide) (nI Y) q) c.2.1.1 rfl rfl (Nat.le_of_ble_eq_true rfl) ⟨Nat.le_of_ble_eq_true rfl, Nat.le_of_ble_eq_true rfl⟩ ⟨Nat.le_of_ble_eq_true rfl, Nat.le_of_ble_eq_true rfl⟩ dX0_reasonInField_124 (fun r_124 h_124 e_124 => ?_)
          obtain ⟨e1_124, e2_124⟩ := e_124
          subst e1_124
          replace e2_124 := e2_124.symm
          subst e2_124
          refine j_i2l C dX0_reasonInField_127 ?_
          refine j_aload C dX0_reasonInField_128 rfl ?_
          refine j_gI (f := 323) C fF_X0_94 rfl (chn_mem _ _ (c.2.2.2.1 lt hlt).2.2.2.2.1 _ (llk_mem _ _ hq_65)) dX0_reasonInField_130 ?_
          refine j_i2l C dX0_reasonInField_133 ?_
          refine j_lmul C dX0_reasonInField_134 ?_
          refine j_lcmp C dX0_reasonInField_135 ?_
          refine j_if_le (tgt := 141) C dX0_reasonInField_136 (by decide) (fun c_136 => ?_) (fun c_136 => ?_)
          · refine j_aload_n C dX0_reasonInField_141 rfl ?_
            refine j_callVi (As := []) (rest := []) C fG_X0_48 (s_rank c I hz hlt) (c.2.2.2.1 lt hlt).1.2 rfl rfl (Nat.le_of_ble_eq_true rfl) ⟨Nat.le_of_ble_eq_true rfl, Nat.le_of_ble_eq_true rfl⟩ ⟨Nat.le_of_ble_eq_true rfl, Nat.le_of_ble_eq_true rfl⟩ dX0_reasonInField_142 (fun r_142 h_142 e_142 => ?_)
            obtain ⟨e1_142, e2_142⟩ := e_142
            subst e1_142
            replace e2_142 := e2_142.symm
            subst e2_142
            refine j_iconst (v := 1) C dX0_reasonInField_145 (by decide) ?_
            refine j_iadd C dX0_reasonInField_146 ?_
            refine j_aload_n C dX0_reasonInField_147 rfl ?_
            refine j_gRe (f := 0) (v := .ref (P 5 1)) C fF_X0_9 rfl c.1.2.1.1 (by rw [c.1.2.1.2]; rfl) dX0_reasonInField_148 ?_
            refine j_iconst (v := 4) C dX0_reasonInField_151 (by decide) ?_
            refine j_aload_n C dX0_reasonInField_152 rfl ?_
            refine j_gIe (f := 387) (v := (nI Y)) C fF_X0_64 rfl (c.2.2.2.1 lt hlt).1.2 (by rw [(c.2.2.2.1 lt hlt).2.1.2.2.2]; exact hY) dX0_reasonInField_153 ?_
            refine j_iload_n C dX0_reasonInField_156 rfl ?_
            refine j_callVi (As := [.int 4, .int (nI Y), .int q]) (rest := [.int ((rkZ S z lt) + 1)]) C fG_X0_67 (s_forceL c I (kd := 4) (x := 4) rfl (by decide) (nI Y) q) c.2.1.1 rfl rfl (Nat.le_of_ble_eq_true rfl) ⟨Nat.le_of_ble_eq_true rfl, Nat.le_of_ble_eq_true rfl⟩ ⟨Nat.le_of_ble_eq_true rfl, Nat.le_of_ble_eq_true rfl⟩ dX0_reasonInField_157 (fun r_157 h_157 e_157 => ?_)
            obtain ⟨e1_157, e2_157⟩ := e_157
            subst e1_157
            replace e2_157 := e2_157.symm
            subst e2_157
            refine j_icmp_le (tgt := 167) C dX0_reasonInField_160 (by decide) (fun c_160 => ?_) (fun c_160 => ?_)
            · refine j_iconst (v := 0) C dX0_reasonInField_167 (by decide) ?_
              refine j_istore (lv' := [(0, .ref (P 5 2)), (1, .ref (P 1 lt)), (2, .int q), (3, .int (inForceS S 1 (nI Y) q nt)), (4, .ref x_65), (5, .int (looksS S (nI lt) q nk)), (6, .int 0)]) C dX0_reasonInField_168 (by decide) rfl ?_
              refine j_iload C dX0_reasonInField_170 rfl ?_
              refine j_if_eq (tgt := 180) C dX0_reasonInField_172 (by decide) (fun c_172 => ?_) (fun c_172 => ?_)
              · refine j_iconst (v := 0) C dX0_reasonInField_180 (by decide) ?_
                exact ret _ _ 0 0 _ _ ⟨by rw [wrg_e hY hYb eg (rk_yr I b hlt hlt h1 rfl), if_neg c_15, if_neg c_51, if_neg (fun w => w c_94), if_neg (fun w => w (by rw [← hs1, ← hs2]; exact c_136)), if_pos c_160], rfl⟩ (Nat.zero_le _) (Nat.zero_le _) dX0_reasonInField_181
              · exact (show False by revert c_172; decide).elim
            · refine j_iconst (v := 1) C dX0_reasonInField_163 (by decide) ?_
              refine j_goto (tgt := 168) C dX0_reasonInField_164 (by decide) ?_
              refine j_istore (lv' := [(0, .ref (P 5 2)), (1, .ref (P 1 lt)), (2, .int q), (3, .int (inForceS S 1 (nI Y) q nt)), (4, .ref x_65), (5, .int (looksS S (nI lt) q nk)), (6, .int 1)]) C dX0_reasonInField_168 (by decide) rfl ?_
              refine j_iload C dX0_reasonInField_170 rfl ?_
              refine j_if_eq (tgt := 180) C dX0_reasonInField_172 (by decide) (fun c_172 => ?_) (fun c_172 => ?_)
              · exact (show False by revert c_172; decide).elim
              refine j_bipush (v := 6) C dX0_reasonInField_175 (by decide) ?_
              refine j_goto (tgt := 181) C dX0_reasonInField_177 (by decide) ?_
              exact ret _ _ 0 0 _ _ ⟨by rw [wrg_e hY hYb eg (rk_yr I b hlt hlt h1 rfl), if_neg c_15, if_neg c_51, if_neg (fun w => w c_94), if_neg (fun w => w (by rw [← hs1, ← hs2]; exact c_136)), if_neg c_160], rfl⟩ (Nat.zero_le _) (Nat.zero_le _) dX0_reasonInField_181
          · refine j_iconst (v := 4) C dX0_reasonInField_139 (by decide) ?_
            exact ret _ _ 0 0 _ _ ⟨by rw [wrg_e hY hYb eg (rk_yr I b hlt hlt h1 rfl), if_neg c_15, if_neg c_51, if_neg (fun w => w c_94), if_pos (by rw [← hs1, ← hs2]; exact c_136)], rfl⟩ (Nat.zero_le _) (Nat.zero_le _) dX0_reasonInField_140
        · refine j_iconst (v := 3) C dX0_reasonInField_97 (by decide) ?_
          exact ret _ _ 0 0 _ _ ⟨by rw [wrg_e hY hYb eg (rk_yr I b hlt hlt h1 rfl), if_neg c_15, if_neg c_51, if_pos c_94], rfl⟩ (Nat.zero_le _) (Nat.zero_le _) dX0_reasonInField_98
    · refine j_iconst (v := 2) C dX0_reasonInField_54 (by decide) ?_
      exact ret _ _ 0 0 _ _ ⟨by rw [wrg_e hY hYb eg (rk_yr I b hlt hlt h1 rfl), if_neg c_15, if_pos c_51], rfl⟩ (Nat.zero_le _) (Nat.zero_le _) dX0_reasonInField_55
  · refine j_iconst (v := 1) C dX0_reasonInField_18 (by decide) ?_
    exact ret _ _ 0 0 _ _ ⟨by rw [wrg_e hY hYb eg (rk_yr I b hlt hlt h1 rfl), if_pos c_15], rfl⟩ (Nat.zero_le _) (Nat.zero_le _) dX0_reasonInField_19
set_option maxHeartbeats 4000000 in
set_option maxRecDepth 100000 in
theorem k_assess {l : Launch} {D : va_G} {cy : Nat → ClassId} {h : jH} {S : Nat → Nat → Int32} {P : Nat → Nat → Nat} {T : Nat → Nat → Nat → List Nat} {nf nl nb ns nt nk nw yy : Nat} (c : CP h S P T nf nl nb ns nt nk nw) (I : SI S nf nl nb ns nt nk nw yy) {z : Nat → Int32} (hz : ∀ a, a < nl → h_I h 399 (P 1 a) = z a) {lt : Nat} (hlt : lt < nl) (b : S 21 lt = 1 → Bd S nl lt z) (q : Int32) : jV l D cy yX0_assess (.code yX0_assess cX0_assess 4 ((Option.none : Option FieldType))) (rmd 6 0 0) [.ref (P 5 2), .ref (P 1 lt), .int q] h (fun h' => h' = s_I (s_I h 400 (P 1 lt) (rsZ S z lt q nf nl ns nt nk)) 399 (P 1 lt) (rkN S z lt (rsZ S z lt q nf nl ns nt nk))) := by
  refine j_ofV (by decide) (Nat.le_of_ble_eq_true rfl) (fun p e s m args below meth c0 Q C hin ret => ?_)
  refine j_aload_n C dX0_assess_0 rfl ?_
  refine j_iload_n C dX0_assess_1 rfl ?_
  refine j_callVi (As := [.int q]) (rest := []) C fG_X0_41 (k_isFalse (a := (P 1 lt)) (c.2.2.2.1 lt hlt).1.2 q) (c.2.2.2.1 lt hlt).1.2 rfl rfl (Nat.le_of_ble_eq_true rfl) ⟨Nat.le_of_ble_eq_true rfl, Nat.le_of_ble_eq_true rfl⟩ ⟨Nat.le_of_ble_eq_true rfl, Nat.le_of_ble_eq_true rfl⟩ dX0_assess_2 (fun r_2 h_2 e_2 => ?_)
  obtain ⟨e1_2, e2_2⟩ := e_2
  rw [(c.2.2.2.1 lt hlt).2.2.2.1.2.2.2.2.2.2] at e1_2
  subst e1_2
  replace e2_2 := e2_2.symm
  subst e2_2
  refine j_ifeq_b (tgt := 16) C dX0_assess_5 (by decide) (fun c_5 => ?_) (fun c_5 => ?_)
  · refine j_aload_n C dX0_assess_16 rfl ?_
    refine j_callVi (As := []) (rest := []) C fG_X0_48 (s_rank c I hz hlt) (c.2.2.2.1 lt hlt).1.2 rfl rfl (Nat.le_of_ble_eq_true rfl) ⟨Nat.le_of_ble_eq_true rfl, Nat.le_of_ble_eq_true rfl⟩ ⟨Nat.le_of_ble_eq_true rfl, Nat.le_of_ble_eq_true rfl⟩ dX0_assess_17 (fun r_17 h_17 e_17 => ?_)
    obtain ⟨e1_17, e2_17⟩ := e_17
    subst e1_17
    replace e2_17 := e2_17.symm
    subst e2_17
    refine j_bipush (v := 9) C dX0_assess_20 (by decide) ?_
    refine j_icmp_ne (tgt := 34) C dX0_assess_22 (by decide) (fun c_22 => ?_) (fun c_22 => ?_)
    · refine j_aload_n C dX0_assess_34 rfl ?_
      refine j_aload_n C dX0_assess_35 rfl ?_
      refine j_gIe (f := 385) (v := (S 21 lt)) C fF_X0_25 rfl (c.2.2.2.1 lt hlt).1.2 (by exact (c.2.2.2.1 lt hlt).2.1.2.1) dX0_assess_36 ?_
      refine j_iconst (v := 1) C dX0_assess_39 (by decide) ?_
      refine j_icmp_ne (tgt := 52) C dX0_assess_40 (by decide) (fun c_40 => ?_) (fun c_40 => ?_)
      · refine j_iconst (v := 0) C dX0_assess_52 (by decide) ?_
        refine j_pI (f := 400) C fP_X0_45 rfl (c.2.2.2.1 lt hlt).1.2 rfl rfl dX0_assess_53 ?_
        refine j_aload_n C dX0_assess_56 rfl ?_
        refine j_gIe (f := 385) (v := (S 21 lt)) C fF_X0_25 rfl (okI (c.2.2.2.1 lt hlt).1.2) (by show h_I h 385 (P 1 lt) = _; exact (c.2.2.2.1 lt hlt).2.1.2.1) dX0_assess_57 ?_
        refine j_iconst (v := 1) C dX0_assess_60 (by decide) ?_
        refine j_icmp_ne (tgt := 73) C dX0_assess_61 (by decide) (fun c_61 => ?_) (fun c_61 => ?_)
        · refine j_aload_n C dX0_assess_73 rfl ?_
          refine j_callVi (As := []) (rest := []) C fG_X0_48 (s_rank (h := (s_I h 400 (P 1 lt) 0)) (z := z) (c.same (sameH.sI rfl)) I hz hlt) (okI (c.2.2.2.1 lt hlt).1.2) rfl rfl (Nat.le_of_ble_eq_true rfl) ⟨Nat.le_of_ble_eq_true rfl, Nat.le_of_ble_eq_true rfl⟩ ⟨Nat.le_of_ble_eq_true rfl, Nat.le_of_ble_eq_true rfl⟩ dX0_assess_74 (fun r_74 h_74 e_74 => ?_)
          obtain ⟨e1_74, e2_74⟩ := e_74
          subst e1_74
          replace e2_74 := e2_74.symm
          subst e2_74
          refine j_istore_n (lv' := [(0, .ref (P 5 2)), (1, .ref (P 1 lt)), (2, .int q), (3, .int (rkZ S z lt))]) C dX0_assess_77 (by decide) rfl ?_
          refine j_aload_n C dX0_assess_78 rfl ?_
          refine j_aload_n C dX0_assess_79 rfl ?_
          refine j_gIe (f := 400) (v := 0) C fF_X0_45 rfl (okI (c.2.2.2.1 lt hlt).1.2) (by rw [g_II, if_pos rfl, if_pos rfl]) dX0_assess_80 ?_
          refine j_if_ne (tgt := 90) C dX0_assess_83 (by decide) (fun c_83 => ?_) (fun c_83 => ?_)
          · exact (show False by revert c_83; decide).elim
          refine j_iload_n C dX0_assess_86 rfl ?_
          refine j_goto (tgt := 92) C dX0_assess_87 (by decide) ?_
          refine j_pI (f := 399) C fP_X0_38 rfl (okI (c.2.2.2.1 lt hlt).1.2) rfl rfl dX0_assess_92 ?_
          have eR : (rsZ S z lt q nf nl ns nt nk) = 0 := by rw [rsZ, if_neg (fun w => w (wy_0 c_5)), if_neg c_22, if_neg c_40]
          exact ret _ 0 0 _ _ (by rw [eR, rkN, if_neg (fun w => w rfl), if_neg c_40]) (Nat.zero_le _) (Nat.zero_le _) dX0_assess_95
        · exact absurd c_61 c_40
      · obtain ⟨Y, hYb0, hY⟩ := (I.lo lt hlt).2
        have hYb : Y ≤ 40 := Nat.le_trans hYb0 I.yr.2
        obtain ⟨g, hg, eg⟩ : ∃ f, f < nf ∧ S 25 lt = nI f := by
          rcases (I.lo lt hlt).1 with u | u | u
          · rw [u.1] at c_40; exact absurd c_40 (by decide)
          · exact u.2.1
          · rw [u.1] at c_40; exact absurd c_40 (by decide)
        refine j_aload_n C dX0_assess_43 rfl ?_
        refine j_aload_n C dX0_assess_44 rfl ?_
        refine j_iload_n C dX0_assess_45 rfl ?_
        refine j_callVi (As := [.ref (P 1 lt), .int q]) (rest := [.ref (P 1 lt)]) C fG_X0_52 (k_inField (g := g) c I hz hlt (b c_40) c_40 hY hYb hg eg q) c.1.2.1.1 rfl rfl (Nat.le_of_ble_eq_true rfl) ⟨Nat.le_of_ble_eq_true rfl, Nat.le_of_ble_eq_true rfl⟩ ⟨Nat.le_of_ble_eq_true rfl, Nat.le_of_ble_eq_true rfl⟩ dX0_assess_46 (fun r_46 h_46 e_46 => ?_)
        obtain ⟨e1_46, e2_46⟩ := e_46
        subst e1_46
        replace e2_46 := e2_46.symm
        subst e2_46
        refine j_goto (tgt := 53) C dX0_assess_49 (by decide) ?_
        refine j_pI (f := 400) C fP_X0_45 rfl (c.2.2.2.1 lt hlt).1.2 rfl rfl dX0_assess_53 ?_
        refine j_aload_n C dX0_assess_56 rfl ?_
        refine j_gIe (f := 385) (v := (S 21 lt)) C fF_X0_25 rfl (okI (c.2.2.2.1 lt hlt).1.2) (by show h_I h 385 (P 1 lt) = _; exact (c.2.2.2.1 lt hlt).2.1.2.1) dX0_assess_57 ?_
        refine j_iconst (v := 1) C dX0_assess_60 (by decide) ?_
        refine j_icmp_ne (tgt := 73) C dX0_assess_61 (by decide) (fun c_61 => ?_) (fun c_61 => ?_)
        · exact absurd c_40 c_61
        refine j_aload_n C dX0_assess_64 rfl ?_
        refine j_callVi (As := []) (rest := []) C fG_X0_48 (s_rank (h := (s_I h 400 (P 1 lt) (wrgZ S z lt q nf nl ns nt nk))) (z := z) (c.same (sameH.sI rfl)) I hz hlt) (okI (c.2.2.2.1 lt hlt).1.2) rfl rfl (Nat.le_of_ble_eq_true rfl) ⟨Nat.le_of_ble_eq_true rfl, Nat.le_of_ble_eq_true rfl⟩ ⟨Nat.le_of_ble_eq_true rfl, Nat.le_of_ble_eq_true rfl⟩ dX0_assess_65 (fun r_65 h_65 e_65 => ?_)
        obtain ⟨e1_65, e2_65⟩ := e_65
        subst e1_65
        replace e2_65 := e2_65.symm
        subst e2_65
        refine j_iconst (v := 1) C dX0_assess_68 (by decide) ?_
        refine j_iadd C dX0_assess_69 ?_
        refine j_goto (tgt := 77) C dX0_assess_70 (by decide) ?_
        refine j_istore_n (lv' := [(0, .ref (P 5 2)), (1, .ref (P 1 lt)), (2, .int q), (3, .int ((rkZ S z lt) + 1))]) C dX0_assess_77 (by decide) rfl ?_
        refine j_aload_n C dX0_assess_78 rfl ?_
        refine j_aload_n C dX0_assess_79 rfl ?_
        refine j_gIe (f := 400) (v := (wrgZ S z lt q nf nl ns nt nk)) C fF_X0_45 rfl (okI (c.2.2.2.1 lt hlt).1.2) (by rw [g_II, if_pos rfl, if_pos rfl]) dX0_assess_80 ?_
        refine j_if_ne (tgt := 90) C dX0_assess_83 (by decide) (fun c_83 => ?_) (fun c_83 => ?_)
        · refine j_bipush (v := 9) C dX0_assess_90 (by decide) ?_
          refine j_pI (f := 399) C fP_X0_38 rfl (okI (c.2.2.2.1 lt hlt).1.2) rfl rfl dX0_assess_92 ?_
          have eR : (rsZ S z lt q nf nl ns nt nk) = (wrgZ S z lt q nf nl ns nt nk) := by rw [rsZ, if_neg (fun w => w (wy_0 c_5)), if_neg c_22, if_pos c_40]
          exact ret _ 0 0 _ _ (by rw [eR, rkN, if_pos c_83]) (Nat.zero_le _) (Nat.zero_le _) dX0_assess_95
        · refine j_iload_n C dX0_assess_86 rfl ?_
          refine j_goto (tgt := 92) C dX0_assess_87 (by decide) ?_
          refine j_pI (f := 399) C fP_X0_38 rfl (okI (c.2.2.2.1 lt hlt).1.2) rfl rfl dX0_assess_92 ?_
          have eR : (rsZ S z lt q nf nl ns nt nk) = (wrgZ S z lt q nf nl ns nt nk) := by rw [rsZ, if_neg (fun w => w (wy_0 c_5)), if_neg c_22, if_pos c_40]
          exact ret _ 0 0 _ _ (by rw [eR, rkN, if_neg (fun w => w c_83), if_pos c_40]) (Nat.zero_le _) (Nat.zero_le _) dX0_assess_95
    · refine j_aload_n C dX0_assess_25 rfl ?_
      refine j_bipush (v := 7) C dX0_assess_26 (by decide) ?_
      refine j_pI (f := 400) C fP_X0_45 rfl (c.2.2.2.1 lt hlt).1.2 rfl rfl dX0_assess_28 ?_
      refine j_goto (tgt := 56) C dX0_assess_31 (by decide) ?_
      refine j_aload_n C dX0_assess_56 rfl ?_
      refine j_gIe (f := 385) (v := (S 21 lt)) C fF_X0_25 rfl (okI (c.2.2.2.1 lt hlt).1.2) (by show h_I h 385 (P 1 lt) = _; exact (c.2.2.2.1 lt hlt).2.1.2.1) dX0_assess_57 ?_
      refine j_iconst (v := 1) C dX0_assess_60 (by decide) ?_
      refine j_icmp_ne (tgt := 73) C dX0_assess_61 (by decide) (fun c_61 => ?_) (fun c_61 => ?_)
      · refine j_aload_n C dX0_assess_73 rfl ?_
        refine j_callVi (As := []) (rest := []) C fG_X0_48 (s_rank (h := (s_I h 400 (P 1 lt) 7)) (z := z) (c.same (sameH.sI rfl)) I hz hlt) (okI (c.2.2.2.1 lt hlt).1.2) rfl rfl (Nat.le_of_ble_eq_true rfl) ⟨Nat.le_of_ble_eq_true rfl, Nat.le_of_ble_eq_true rfl⟩ ⟨Nat.le_of_ble_eq_true rfl, Nat.le_of_ble_eq_true rfl⟩ dX0_assess_74 (fun r_74 h_74 e_74 => ?_)
        obtain ⟨e1_74, e2_74⟩ := e_74
        subst e1_74
        replace e2_74 := e2_74.symm
        subst e2_74
        refine j_istore_n (lv' := [(0, .ref (P 5 2)), (1, .ref (P 1 lt)), (2, .int q), (3, .int (rkZ S z lt))]) C dX0_assess_77 (by decide) rfl ?_
        refine j_aload_n C dX0_assess_78 rfl ?_
        refine j_aload_n C dX0_assess_79 rfl ?_
        refine j_gIe (f := 400) (v := 7) C fF_X0_45 rfl (okI (c.2.2.2.1 lt hlt).1.2) (by rw [g_II, if_pos rfl, if_pos rfl]) dX0_assess_80 ?_
        refine j_if_ne (tgt := 90) C dX0_assess_83 (by decide) (fun c_83 => ?_) (fun c_83 => ?_)
        · refine j_bipush (v := 9) C dX0_assess_90 (by decide) ?_
          refine j_pI (f := 399) C fP_X0_38 rfl (okI (c.2.2.2.1 lt hlt).1.2) rfl rfl dX0_assess_92 ?_
          have eR : (rsZ S z lt q nf nl ns nt nk) = 7 := by rw [rsZ, if_neg (fun w => w (wy_0 c_5)), if_pos c_22]
          exact ret _ 0 0 _ _ (by rw [eR, rkN, if_pos (by decide)]) (Nat.zero_le _) (Nat.zero_le _) dX0_assess_95
        · exact (show False by revert c_83; decide).elim
      · refine j_aload_n C dX0_assess_64 rfl ?_
        refine j_callVi (As := []) (rest := []) C fG_X0_48 (s_rank (h := (s_I h 400 (P 1 lt) 7)) (z := z) (c.same (sameH.sI rfl)) I hz hlt) (okI (c.2.2.2.1 lt hlt).1.2) rfl rfl (Nat.le_of_ble_eq_true rfl) ⟨Nat.le_of_ble_eq_true rfl, Nat.le_of_ble_eq_true rfl⟩ ⟨Nat.le_of_ble_eq_true rfl, Nat.le_of_ble_eq_true rfl⟩ dX0_assess_65 (fun r_65 h_65 e_65 => ?_)
        obtain ⟨e1_65, e2_65⟩ := e_65
        subst e1_65
        replace e2_65 := e2_65.symm
        subst e2_65
        refine j_iconst (v := 1) C dX0_assess_68 (by decide) ?_
        refine j_iadd C dX0_assess_69 ?_
        refine j_goto (tgt := 77) C dX0_assess_70 (by decide) ?_
        refine j_istore_n (lv' := [(0, .ref (P 5 2)), (1, .ref (P 1 lt)), (2, .int q), (3, .int ((rkZ S z lt) + 1))]) C dX0_assess_77 (by decide) rfl ?_
        refine j_aload_n C dX0_assess_78 rfl ?_
        refine j_aload_n C dX0_assess_79 rfl ?_
        refine j_gIe (f := 400) (v := 7) C fF_X0_45 rfl (okI (c.2.2.2.1 lt hlt).1.2) (by rw [g_II, if_pos rfl, if_pos rfl]) dX0_assess_80 ?_
        refine j_if_ne (tgt := 90) C dX0_assess_83 (by decide) (fun c_83 => ?_) (fun c_83 => ?_)
        · refine j_bipush (v := 9) C dX0_assess_90 (by decide) ?_
          refine j_pI (f := 399) C fP_X0_38 rfl (okI (c.2.2.2.1 lt hlt).1.2) rfl rfl dX0_assess_92 ?_
          have eR : (rsZ S z lt q nf nl ns nt nk) = 7 := by rw [rsZ, if_neg (fun w => w (wy_0 c_5)), if_pos c_22]
          exact ret _ 0 0 _ _ (by rw [eR, rkN, if_pos (by decide)]) (Nat.zero_le _) (Nat.zero_le _) dX0_assess_95
        · exact (show False by revert c_83; decide).elim
  · refine j_aload_n C dX0_assess_8 rfl ?_
    refine j_iconst (v := 5) C dX0_assess_9 (by decide) ?_
    refine j_pI (f := 400) C fP_X0_45 rfl (c.2.2.2.1 lt hlt).1.2 rfl rfl dX0_assess_10 ?_
    refine j_goto (tgt := 56) C dX0_assess_13 (by decide) ?_
    refine j_aload_n C dX0_assess_56 rfl ?_
    refine j_gIe (f := 385) (v := (S 21 lt)) C fF_X0_25 rfl (okI (c.2.2.2.1 lt hlt).1.2) (by show h_I h 385 (P 1 lt) = _; exact (c.2.2.2.1 lt hlt).2.1.2.1) dX0_assess_57 ?_
    refine j_iconst (v := 1) C dX0_assess_60 (by decide) ?_
    refine j_icmp_ne (tgt := 73) C dX0_assess_61 (by decide) (fun c_61 => ?_) (fun c_61 => ?_)
    · refine j_aload_n C dX0_assess_73 rfl ?_
      refine j_callVi (As := []) (rest := []) C fG_X0_48 (s_rank (h := (s_I h 400 (P 1 lt) 5)) (z := z) (c.same (sameH.sI rfl)) I hz hlt) (okI (c.2.2.2.1 lt hlt).1.2) rfl rfl (Nat.le_of_ble_eq_true rfl) ⟨Nat.le_of_ble_eq_true rfl, Nat.le_of_ble_eq_true rfl⟩ ⟨Nat.le_of_ble_eq_true rfl, Nat.le_of_ble_eq_true rfl⟩ dX0_assess_74 (fun r_74 h_74 e_74 => ?_)
      obtain ⟨e1_74, e2_74⟩ := e_74
      subst e1_74
      replace e2_74 := e2_74.symm
      subst e2_74
      refine j_istore_n (lv' := [(0, .ref (P 5 2)), (1, .ref (P 1 lt)), (2, .int q), (3, .int (rkZ S z lt))]) C dX0_assess_77 (by decide) rfl ?_
      refine j_aload_n C dX0_assess_78 rfl ?_
      refine j_aload_n C dX0_assess_79 rfl ?_
      refine j_gIe (f := 400) (v := 5) C fF_X0_45 rfl (okI (c.2.2.2.1 lt hlt).1.2) (by rw [g_II, if_pos rfl, if_pos rfl]) dX0_assess_80 ?_
      refine j_if_ne (tgt := 90) C dX0_assess_83 (by decide) (fun c_83 => ?_) (fun c_83 => ?_)
      · refine j_bipush (v := 9) C dX0_assess_90 (by decide) ?_
        refine j_pI (f := 399) C fP_X0_38 rfl (okI (c.2.2.2.1 lt hlt).1.2) rfl rfl dX0_assess_92 ?_
        have eR : (rsZ S z lt q nf nl ns nt nk) = 5 := by rw [rsZ, if_pos (wy_5 c_5)]
        exact ret _ 0 0 _ _ (by rw [eR, rkN, if_pos (by decide)]) (Nat.zero_le _) (Nat.zero_le _) dX0_assess_95
      · exact (show False by revert c_83; decide).elim
    · refine j_aload_n C dX0_assess_64 rfl ?_
      refine j_callVi (As := []) (rest := []) C fG_X0_48 (s_rank (h := (s_I h 400 (P 1 lt) 5)) (z := z) (c.same (sameH.sI rfl)) I hz hlt) (okI (c.2.2.2.1 lt hlt).1.2) rfl rfl (Nat.le_of_ble_eq_true rfl) ⟨Nat.le_of_ble_eq_true rfl, Nat.le_of_ble_eq_true rfl⟩ ⟨Nat.le_of_ble_eq_true rfl, Nat.le_of_ble_eq_true rfl⟩ dX0_assess_65 (fun r_65 h_65 e_65 => ?_)
      obtain ⟨e1_65, e2_65⟩ := e_65
      subst e1_65
      replace e2_65 := e2_65.symm
      subst e2_65
      refine j_iconst (v := 1) C dX0_assess_68 (by decide) ?_
      refine j_iadd C dX0_assess_69 ?_
      refine j_goto (tgt := 77) C dX0_assess_70 (by decide) ?_
      refine j_istore_n (lv' := [(0, .ref (P 5 2)), (1, .ref (P 1 lt)), (2, .int q), (3, .int ((rkZ S z lt) + 1))]) C dX0_assess_77 (by decide) rfl ?_
      refine j_aload_n C dX0_assess_78 rfl ?_
      refine j_aload_n C dX0_assess_79 rfl ?_
      refine j_gIe (f := 400) (v := 5) C fF_X0_45 rfl (okI (c.2.2.2.1 lt hlt).1.2) (by rw [g_II, if_pos rfl, if_pos rfl]) dX0_assess_80 ?_
      refine j_if_ne (tgt := 90) C dX0_assess_83 (by decide) (fun c_83 => ?_) (fun c_83 => ?_)
      · refine j_bipush (v := 9) C dX0_assess_90 (by decide) ?_
        refine j_pI (f := 399) C fP_X0_38 rfl (okI (c.2.2.2.1 lt hlt).1.2) rfl rfl dX0_assess_92 ?_
        have eR : (rsZ S z lt q nf nl ns nt nk) = 5 := by rw [rsZ, if_pos (wy_5 c_5)]
        exact ret _ 0 0 _ _ (by rw [eR, rkN, if_pos (by decide)]) (Nat.zero_le _) (Nat.zero_le _) dX0_assess_95
      · exact (show False by revert c_83; decide).elim
