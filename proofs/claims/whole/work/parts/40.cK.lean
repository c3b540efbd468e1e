theorem sameH.sI {h : jH} {f a : Nat} {v : Int32} (hf : scr f = true) : sameH h (s_I h f a v) := ⟨rfl, fun _ => rfl, fun _ => rfl, fun g b hg => by
  rw [g_II]
  by_cases e : g = f
  · rw [e, hf] at hg; cases hg
  · rw [if_neg e], fun _ _ => rfl, fun _ _ => rfl⟩
theorem mn_min (x : Int32) : (if x < 1000000 then x else 1000000) = mn x 1000000 := by
  unfold mn
  have e : (1000000 : Int32).toInt = 1000000 := by decide
  by_cases h1 : x < 1000000
  · rw [if_pos h1, if_neg (fun h2 => by rw [Int32.lt_iff_toInt_lt] at h1 h2; omega)]
  · rw [if_neg h1]
    by_cases h2 : 1000000 < x
    · rw [if_pos h2]
    · rw [if_neg h2]
      rw [Int32.lt_iff_toInt_lt] at h1 h2
      exact Int32.toInt_inj.mp (by omega)
def lnV (z : Nat → Int32) (v : Int32) : Int32 := if v = -1 then 0 else z v.toNatClampNeg
theorem cp_line {h : jH} {P : Nat → Nat → Nat} {z : Nat → Int32} {i nl : Nat} (hi : i < nl) (hnl : nl ≤ 200) (hz : ∀ a, a < i → h_I h 401 (P 1 a) = z a) {v : Int32} (hv : v = -1 ∨ ∃ j, j < i ∧ v = nI j) : oI h 401 0 (adr P 1 v) = lnV z v := by
  unfold adr lnV
  by_cases e : v = -1
  · rw [if_pos e, if_pos e]; rfl
  · rw [if_neg e, if_neg e]
    obtain ⟨j, hj, rfl⟩ := hv.resolve_left e
    rw [nI_clamp (by omega)]
    exact hz j hj
theorem gRows_ln (S : Nat → Nat → Int32) (to : Int32) (i : Nat) (z : Nat → Int32) : gRows to i (W46 S z) = W46 S (upd z i (if nI i = to then 1 else mn (lnV z (S 26 i) + lnV z (S 27 i)) 1000000)) := by
  have e26 : W46 S z 26 i = S 26 i := rfl
  have e27 : W46 S z 27 i = S 27 i := rfl
  have e46 : ∀ a, W46 S z 46 a = z a := fun _ => rfl
  unfold gRows lnV
  simp only [e26, e27, e46]
  by_cases c1 : nI i = to
  · rw [if_pos c1, if_pos c1, W46_u]; rfl
  · rw [if_neg c1, if_neg c1]
    by_cases c2 : S 26 i = -1
    · rw [if_pos c2, if_pos c2]
      by_cases c3 : S 27 i = -1
      · rw [if_pos c3, if_pos c3, W46_u]; rfl
      · rw [if_neg c3, if_neg c3, W46_u]
    · rw [if_neg c2, if_neg c2]
      by_cases c3 : S 27 i = -1
      · rw [if_pos c3, if_pos c3, W46_u, Int32.zero_add, Int32.add_zero]
      · rw [if_neg c3, if_neg c3, W46_u, Int32.zero_add]
set_option maxHeartbeats 4000000 in
set_option maxRecDepth 100000 in
theorem k_linesOf {l : Launch} {D : va_G} {cy : Nat → ClassId} {h : jH} (r : Option Nat) (ok : ∀ x, r = some x → h_ok h x 6) : cI l D cy yX4_linesOf (.code yX4_linesOf cX4_linesOf 1 ((Option.some FieldType.int))) 0 [va_rf r] h (fun v => v = oI h 401 0 r) := by
  cases r with
  | none =>
    refine j_ofI (by decide) (Nat.le_of_ble_eq_true rfl) (fun p e s m args below meth c Q C hin ret => ?_)
    refine j_aload_nN C dX4_linesOf_0 rfl ?_
    refine j_ifnonnullN C dX4_linesOf_1 ?_
    refine j_iconst (v := 0) C dX4_linesOf_4 (by decide) ?_
    refine j_goto (tgt := 12) C dX4_linesOf_5 (by decide) ?_
    exact ret _ _ 0 0 _ _ ⟨rfl, rfl⟩ (Nat.zero_le _) (Nat.zero_le _) dX4_linesOf_12
  | some x =>
    refine j_ofI (by decide) (Nat.le_of_ble_eq_true rfl) (fun p e s m args below meth c Q C hin ret => ?_)
    refine j_aload_n C dX4_linesOf_0 rfl ?_
    refine j_ifnonnull (tgt := 8) C dX4_linesOf_1 (by decide) ?_
    refine j_aload_n C dX4_linesOf_8 rfl ?_
    refine j_gI (f := 401) C fF_X4_45 rfl (ok x rfl) dX4_linesOf_9 ?_
    exact ret _ _ 0 0 _ _ ⟨rfl, rfl⟩ (Nat.zero_le _) (Nat.zero_le _) dX4_linesOf_12
theorem lotO_i {S : Nat → Nat → Int32} {P : Nat → Nat → Nat} {nl i : Nat} (hl : S 2 0 = nI nl) (hnl : nl ≤ 200) (hi : i < nl) : lotO S P (nI i) = some (P 1 i) := by
  unfold lotO
  rw [hl, if_pos ((idx_iff (N := 200) hnl (by decide)).mp ⟨nI_pos (by omega), fun z => absurd (nI_ge_of z (by omega) (by omega)) (by omega), fun z => absurd (nI_ge_of z (by omega) (by omega)) (by omega)⟩), nI_clamp (by omega)]
set_option maxHeartbeats 4000000 in
set_option maxRecDepth 100000 in
theorem L_trace {p : Program} {l : Launch} {e : Env} {s : State} {m : MethodId} {args : Array Value} {below : List Frame} {meth : Method} {c : Code} {D : va_G} {cy : Nat → ClassId} {A : Nat → Prop} {Q : State → Prop} (C : jC p s m args meth c D cy A 5 RX4 cX4_traceBelow) {S : Nat → Nat → Int32} {P : Nat → Nat → Nat} {T : Nat → Nat → Nat → List Nat} {nf nl nb ns nt nk nw o : Nat} {h0 : jH} (ho : o < nl) (hl : S 2 0 = nI nl) (hnl : nl ≤ 200) (hA : ∀ q, q < nl → S 26 q = -1 ∨ ∃ j, j < q ∧ S 26 q = nI j) (hB : ∀ q, q < nl → S 27 q = -1 ∨ ∃ j, j < q ∧ S 27 q = nI j) (ret : ∀ h', sameH h0 h' → FrC P h0 h' → (∀ a, a < nl → h_I h' 401 (P 1 a) = rowsV S (nI o) nl a) → ∀ (lv : List (Nat × Value)) (pc : Nat), decode cX4_traceBelow pc = .ok (.return_, 1) → jW p l e (rmd 2 0 0) s m args below meth c D cy A 5 0 0 Q h' lv pc []) : ∀ (n k i : Nat) (h : jH) (z : Nat → Int32), k < n → i + k = nl → CP h S P T nf nl nb ns nt nk nw → sameH h0 h → FrC P h0 h → (∀ a, a < i → h_I h 401 (P 1 a) = z a) → rowsS S (nI o) nl = flp (gRows (nI o)) i k (W46 S z) → jW p l e (rmd 2 0 0) s m args below meth c D cy A 5 0 0 Q h [(0, .ref (P 5 3)), (1, .ref (P 1 o)), (2, .int (nI i))] 2 [] := by
  intro n
  induction n with
  | zero => intro k i h z h1; exact absurd h1 (Nat.not_lt_zero _)
  | succ n ih =>
    intro k i h z h1 h2 c hs hf hz he
    refine j_iload_n C dX4_traceBelow_2 rfl ?_
    refine j_aload_n C dX4_traceBelow_3 rfl ?_
    refine j_gRe (f := 256) (v := .ref (P 5 1)) C fF_X4_9 rfl c.1.2.2.1.1 (by rw [c.1.2.2.1.2]; rfl) dX4_traceBelow_4 ?_
    refine j_gIe (f := 132) (v := (nI nl)) C fF_X4_15 rfl c.2.1.1 (by rw [c.2.1.2.1.2.2.1]; exact hl) dX4_traceBelow_7 ?_
    refine j_icmp_ge (tgt := 69) C dX4_traceBelow_10 (by decide) (fun c_10 => ?_) (fun c_10 => ?_)
    · have hge : nl ≤ i := nI_ge_of c_10 (by omega) (by omega)
      obtain rfl : k = 0 := by omega
      exact ret h hs hf (fun a ha => by rw [hz a (by omega), rowsV, he]; rfl) _ _ dX4_traceBelow_69
    · have hlt : i < nl := nI_lt_of c_10 (by omega)
      obtain ⟨k, rfl⟩ : ∃ q, k = q + 1 := ⟨k - 1, by omega⟩
      have hio : some (P 1 i) = some (P 1 o) → nI i = nI o := fun e => by rw [c.2.2.2.2.2.2.2.2.1 i o hlt ho (Option.some.inj e)]
      have hoi : nI i = nI o → some (P 1 i) = some (P 1 o) := fun e => by rw [(nI_eq (by omega) (by omega)).mp e]
      refine j_aload_n C dX4_traceBelow_13 rfl ?_
      refine j_gRe (f := 256) (v := .ref (P 5 1)) C fF_X4_9 rfl c.1.2.2.1.1 (by rw [c.1.2.2.1.2]; rfl) dX4_traceBelow_14 ?_
      refine j_iload_n C dX4_traceBelow_17 rfl ?_
      refine j_callVq (As := [.int (nI i)]) (rest := []) C fG_X4_21 (s_lotAt c hl hnl (nI i)) c.2.1.1 rfl rfl (Nat.le_of_ble_eq_true rfl) ⟨Nat.le_of_ble_eq_true rfl, Nat.le_of_ble_eq_true rfl⟩ ⟨Nat.le_of_ble_eq_true rfl, Nat.le_of_ble_eq_true rfl⟩ dX4_traceBelow_18 (fun r_18 h_18 e_18 => ?_)
      obtain ⟨e1_18, e2_18⟩ := e_18
      rw [lotO_i hl hnl hlt] at e1_18
      subst e1_18
      replace e2_18 := e2_18.symm
      subst e2_18
      refine j_astore_n (lv' := [(0, .ref (P 5 3)), (1, .ref (P 1 o)), (2, .int (nI i)), (3, .ref (P 1 i))]) C dX4_traceBelow_21 (by decide) rfl ?_
      refine j_aload_n C dX4_traceBelow_22 rfl ?_
      refine j_ifnull C dX4_traceBelow_23 ?_
      refine j_aload_n C dX4_traceBelow_26 rfl ?_
      refine j_gRe (f := 389) (v := va_rf (adr P 1 (S 26 i))) C fF_X4_25 rfl (c.2.2.2.1 i hlt).1.2 (by rw [(c.2.2.2.1 i hlt).2.2.1.2.1]) dX4_traceBelow_27 ?_
      refine j_callSi (As := [va_rf (adr P 1 (S 26 i))]) (rest := []) C fG_X4_31 (k_linesOf (adr P 1 (S 26 i)) (adr_ok1 c hnl ((hA i hlt).imp id (fun q => ⟨q.choose, Nat.lt_trans q.choose_spec.1 hlt, q.choose_spec.2⟩)))) rfl rfl (Nat.le_of_ble_eq_true rfl) ⟨Nat.le_of_ble_eq_true rfl, Nat.le_of_ble_eq_true rfl⟩ ⟨Nat.le_of_ble_eq_true rfl, Nat.le_of_ble_eq_true rfl⟩ dX4_traceBelow_30 (fun r_30 h_30 e_30 => ?_)
      obtain ⟨e1_30, e2_30⟩ := e_30
      rw [cp_line hlt hnl hz (hA i hlt)] at e1_30
      subst e1_30
      replace e2_30 := e2_30.symm
      subst e2_30
      refine j_aload_n C dX4_traceBelow_33 rfl ?_
      refine j_gRe (f := 390) (v := va_rf (adr P 1 (S 27 i))) C fF_X4_35 rfl (c.2.2.2.1 i hlt).1.2 (by rw [(c.2.2.2.1 i hlt).2.2.1.2.2]) dX4_traceBelow_34 ?_
      refine j_callSi (As := [va_rf (adr P 1 (S 27 i))]) (rest := [.int (lnV z (S 26 i))]) C fG_X4_31 (k_linesOf (adr P 1 (S 27 i)) (adr_ok1 c hnl ((hB i hlt).imp id (fun q => ⟨q.choose, Nat.lt_trans q.choose_spec.1 hlt, q.choose_spec.2⟩)))) rfl rfl (Nat.le_of_ble_eq_true rfl) ⟨Nat.le_of_ble_eq_true rfl, Nat.le_of_ble_eq_true rfl⟩ ⟨Nat.le_of_ble_eq_true rfl, Nat.le_of_ble_eq_true rfl⟩ dX4_traceBelow_37 (fun r_37 h_37 e_37 => ?_)
      obtain ⟨e1_37, e2_37⟩ := e_37
      rw [cp_line hlt hnl hz (hB i hlt)] at e1_37
      subst e1_37
      replace e2_37 := e2_37.symm
      subst e2_37
      refine j_iadd C dX4_traceBelow_40 ?_
      refine j_istore (lv' := [(0, .ref (P 5 3)), (1, .ref (P 1 o)), (2, .int (nI i)), (3, .ref (P 1 i)), (4, .int ((lnV z (S 26 i)) + (lnV z (S 27 i))))]) C dX4_traceBelow_41 (by decide) rfl ?_
      refine j_aload_n C dX4_traceBelow_43 rfl ?_
      refine j_aload_n C dX4_traceBelow_44 rfl ?_
      refine j_aload_n C dX4_traceBelow_45 rfl ?_
      refine j_acmp_ne (rx := (some (P 1 i))) (ry := (some (P 1 o))) (tgt := 53) C dX4_traceBelow_46 (by decide) (fun c_46 => ?_) (fun c_46 => ?_)
      · refine j_ldc C dX4_traceBelow_53 kK_X4_38 ?_
        refine j_iload C dX4_traceBelow_55 rfl ?_
        refine j_min C kM_X4_39 dX4_traceBelow_57 (Nat.le_of_ble_eq_true rfl) (Nat.le_of_ble_eq_true rfl) (Nat.le_of_ble_eq_true rfl) (Nat.le_of_ble_eq_true rfl) ?_
        refine j_pI (f := 401) C fP_X4_45 rfl (c.2.2.2.1 i hlt).1.2 rfl rfl dX4_traceBelow_60 ?_
        refine j_iinc (lv' := [(0, .ref (P 5 3)), (1, .ref (P 1 o)), (2, .int (nI (i + 1))), (3, .ref (P 1 i)), (4, .int ((lnV z (S 26 i)) + (lnV z (S 27 i))))]) C dX4_traceBelow_63 rfl (nI_1 _) (by decide) rfl ?_
        refine j_goto (tgt := 2) C dX4_traceBelow_66 (by decide) ?_
        have hv : ((if ((lnV z (S 26 i)) + (lnV z (S 27 i))) < 1000000 then ((lnV z (S 26 i)) + (lnV z (S 27 i))) else 1000000) : Int32) = (if nI i = nI o then 1 else mn (lnV z (S 26 i) + lnV z (S 27 i)) 1000000) := by
          rw [if_neg (fun e => c_46 (hoi e)), ← mn_min]
        refine j_sub [0, 1, 2] rfl ?_
        rw [hv]
        refine ih k (i + 1) _ (upd z i _) (by omega) (by omega) (c.same (sameH.sI rfl)) (hs.tr (sameH.sI rfl)) (hf.tr (FrC.sI (by decide))) (fun a ha => ?_) (he.trans (flp_s (gRows_ln S (nI o) i z)))
        rw [g_II, if_pos rfl]
        unfold upd
        by_cases e : a = i
        · rw [if_pos (by rw [e]), if_pos e]
        · rw [if_neg (fun q => e (c.2.2.2.2.2.2.2.2.1 a i (by omega) hlt q)), if_neg e]
          exact hz a (by omega)
      · refine j_iconst (v := 1) C dX4_traceBelow_49 (by decide) ?_
        refine j_goto (tgt := 60) C dX4_traceBelow_50 (by decide) ?_
        refine j_pI (f := 401) C fP_X4_45 rfl (c.2.2.2.1 i hlt).1.2 rfl rfl dX4_traceBelow_60 ?_
        refine j_iinc (lv' := [(0, .ref (P 5 3)), (1, .ref (P 1 o)), (2, .int (nI (i + 1))), (3, .ref (P 1 i)), (4, .int ((lnV z (S 26 i)) + (lnV z (S 27 i))))]) C dX4_traceBelow_63 rfl (nI_1 _) (by decide) rfl ?_
        refine j_goto (tgt := 2) C dX4_traceBelow_66 (by decide) ?_
        have hv : (1 : Int32) = (if nI i = nI o then 1 else mn (lnV z (S 26 i) + lnV z (S 27 i)) 1000000) := by
          rw [if_pos (hio c_46)]
        refine j_sub [0, 1, 2] rfl ?_
        rw [hv]
        refine ih k (i + 1) _ (upd z i _) (by omega) (by omega) (c.same (sameH.sI rfl)) (hs.tr (sameH.sI rfl)) (hf.tr (FrC.sI (by decide))) (fun a ha => ?_) (he.trans (flp_s (gRows_ln S (nI o) i z)))
        rw [g_II, if_pos rfl]
        unfold upd
        by_cases e : a = i
        · rw [if_pos (by rw [e]), if_pos e]
        · rw [if_neg (fun q => e (c.2.2.2.2.2.2.2.2.1 a i (by omega) hlt q)), if_neg e]
          exact hz a (by omega)
set_option maxHeartbeats 4000000 in
set_option maxRecDepth 100000 in
theorem k_trace {l : Launch} {D : va_G} {cy : Nat → ClassId} {h : jH} {S : Nat → Nat → Int32} {P : Nat → Nat → Nat} {T : Nat → Nat → Nat → List Nat} {nf nl nb ns nt nk nw : Nat} {o : Nat} (c : CP h S P T nf nl nb ns nt nk nw) (ho : o < nl) (hl : S 2 0 = nI nl) (hnl : nl ≤ 200) (hA : ∀ q, q < nl → S 26 q = -1 ∨ ∃ j, j < q ∧ S 26 q = nI j) (hB : ∀ q, q < nl → S 27 q = -1 ∨ ∃ j, j < q ∧ S 27 q = nI j) : jV l D cy yX4_traceBelow (.code yX4_traceBelow cX4_traceBelow 5 ((Option.none : Option FieldType))) (rmd 2 0 0) [.ref (P 5 3), .ref (P 1 o)] h (fun h' => sameH h h' ∧ FrC P h h' ∧ ∀ a, a < nl → h_I h' 401 (P 1 a) = rowsV S (nI o) nl a) := by
  refine j_ofV (by decide) (Nat.le_of_ble_eq_true rfl) (fun p e s m args below meth c0 Q C hin ret => ?_)
  refine j_iconst (v := 0) C dX4_traceBelow_0 (by decide) ?_
  refine j_istore_n (lv' := [(0, .ref (P 5 3)), (1, .ref (P 1 o)), (2, .int 0)]) C dX4_traceBelow_1 (by decide) rfl ?_
  refine L_trace C ho hl hnl hA hB (fun h' a1 a2 a3 lv pc hd => ret h' 0 0 lv pc ⟨a1, a2, a3⟩ (Nat.zero_le _) (Nat.zero_le _) hd) (nl + 1) nl 0 h (S 46) (by omega) (by omega) c sameH.rf FrC.rf (fun a ha => absurd ha (Nat.not_lt_zero _)) (by rw [W46_self]; rfl)
