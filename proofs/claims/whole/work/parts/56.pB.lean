theorem div_in {V B W : Nat} (h1 : V * B ≤ W) (h2 : W < (V + 1) * B) : W / B = V := Nat.div_eq_of_lt_le h1 h2
theorem dm_1 {V B d : Nat} (h : d < B) : (V * B + d) / B = V := by
  rw [Nat.add_comm, Nat.add_mul_div_right _ _ (by omega), Nat.div_eq_of_lt h, Nat.zero_add]
theorem dm_2 {V B d : Nat} (h : d < B) : (V * B + d) % B = d := by
  rw [Nat.add_comm, Nat.add_mul_mod_self_right, Nat.mod_eq_of_lt h]
theorem dl_1 {mm p V d k : Nat} (hd : d < mm + 1) (hk : k < p) : dlt mm (p + 1) (V * (mm + 1) + d) k = dlt mm p V k := by
  rw [dlt_s (by omega), dm_1 hd]
theorem dl_2 {mm p V d : Nat} (hd : d < mm + 1) : dlt mm (p + 1) (V * (mm + 1) + d) p = d := by
  rw [dlt_p, dm_2 hd]
theorem ct_1 {mm p V d : Nat} (hd : d < mm + 1) : ctN mm (p + 1) (V * (mm + 1) + d) = ctN mm p V + if d < mm then 1 else 0 := by
  show ctN mm p ((V * (mm + 1) + d) / (mm + 1)) + (if (V * (mm + 1) + d) % (mm + 1) < mm then 1 else 0) = _
  rw [dm_1 hd, dm_2 hd]
theorem gd_1 {mm : Nat} {fr : Nat → Nat → Prop} {cf : Nat → Nat → Nat → Nat → Prop} {p V d : Nat} (hd : d < mm + 1) : gdN mm fr cf (p + 1) (V * (mm + 1) + d) ↔ gdN mm fr cf p V ∧ (d = mm ∨ (fr p d ∧ ∀ k, k < p → dlt mm p V k = mm ∨ ¬ cf k p (dlt mm p V k) d)) := by
  show gdN mm fr cf p ((V * (mm + 1) + d) / (mm + 1)) ∧ okD mm fr cf (dlt mm (p + 1) (V * (mm + 1) + d)) p ↔ _
  unfold okD
  rw [dm_1 hd, dl_2 hd]
  have e : (∀ k, k < p → dlt mm (p + 1) (V * (mm + 1) + d) k = mm ∨ ¬ cf k p (dlt mm (p + 1) (V * (mm + 1) + d) k) d) ↔ ∀ k, k < p → dlt mm p V k = mm ∨ ¬ cf k p (dlt mm p V k) d := ⟨fun h k hk => by rw [← dl_1 hd hk]; exact h k hk, fun h k hk => by rw [dl_1 hd hk]; exact h k hk⟩
  rw [e]
theorem pw_1 (mm V d L : Nat) : (V * (mm + 1) + d) * (mm + 1) ^ L = V * (mm + 1) ^ (L + 1) + d * (mm + 1) ^ L := by
  rw [Nat.add_mul, Nat.mul_assoc, Nat.pow_succ, Nat.mul_comm ((mm + 1) ^ L)]
theorem pw_2 (mm V L : Nat) : (V * (mm + 1) + mm + 1) * (mm + 1) ^ L = (V + 1) * (mm + 1) ^ (L + 1) := by
  rw [show V * (mm + 1) + mm + 1 = (V + 1) * (mm + 1) by rw [Nat.add_mul]; omega, Nat.mul_assoc, Nat.pow_succ, Nat.mul_comm ((mm + 1) ^ L)]
/-- what one search does -/
def srP (S : Nat → Nat → Int32) (P : Nat → Nat → Nat) (T : Nat → Nat → Nat → List Nat) (nf nl nb ns nt nk nw yy pl V L : Nat) (h h' : jH) : Prop := CP h' S P T nf nl nb ns nt nk nw ∧ FrC P h h' ∧ (∀ i, h_A h' (P 5 11) i = h_A h (P 5 11) i) ∧ (∀ i, h_A h' (P 5 12) i = h_A h (P 5 12) i) ∧ (∀ k, k < pl → h_A h' (P 5 13) k = h_A h (P 5 13) k) ∧ ∃ b', b' ≤ nw + 1 ∧ h_I h' 454 (P 5 4) = nI b' - 1 ∧ Res (mmS nf) (frS S yy nl ns nt) (cfS S (farS S yy nt)) nw ((V + 1) * (mmS nf + 1) ^ L) (h_A h' (P 5 14)) b'
theorem b_lt {b n : Nat} (hn : n ≤ 100) (hb : b ≤ 100) : nI b - 1 < nI n ↔ b < n + 1 := by
  have e1 : (nI b - nI 1).toInt = (b : Int) - (1 : Nat) := pk_sub_toInt (by omega) (by omega)
  have e2 : (nI b - 1 : Int32) = nI b - nI 1 := rfl
  rw [Int32.lt_iff_toInt_lt, e2, e1, nI_toInt (by omega)]
  omega
theorem Res.prune {mm : Nat} {fr : Nat → Nat → Prop} {cf : Nat → Nat → Nat → Nat → Prop} {nw p V L b : Nat} {be : Nat → Int32} (r : Res mm fr cf nw (V * (mm + 1) ^ L) be b) (hp : p + L = nw) (h : ctN mm p V + L + 1 ≤ b) : Res mm fr cf nw ((V + 1) * (mm + 1) ^ L) be b := by
  refine r.skip (Nat.mul_le_mul_right _ (by omega)) (fun W h1 h2 _ => ?_)
  have e := ct_le (mm := mm) L p W
  rw [hp, div_in h1 h2] at e
  omega
theorem Res.none {mm : Nat} {fr : Nat → Nat → Prop} {cf : Nat → Nat → Nat → Nat → Prop} {nw p V L b : Nat} {be : Nat → Int32} (r : Res mm fr cf nw (V * (mm + 1) ^ L) be b) (hp : p + L = nw) (h : ¬ gdN mm fr cf p V) : Res mm fr cf nw ((V + 1) * (mm + 1) ^ L) be b := by
  refine r.skip (Nat.mul_le_mul_right _ (by omega)) (fun W h1 h2 g => ?_)
  rw [← hp] at g
  have e := gd_pre L p W g
  rw [div_in h1 h2] at e
  exact absurd e h
theorem plM.cg {h h' : jH} {S : Nat → Nat → Int32} {P : Nat → Nat → Nat} {nf nl ns nt nw yy : Nat} (m : plM h S P nf nl ns nt nw yy) (e : ∀ i, h_A h' (P 5 11) i = h_A h (P 5 11) i) : plM h' S P nf nl ns nt nw yy := fun i hi => by rw [e]; exact m i hi
theorem plT.cg {h h' : jH} {S : Nat → Nat → Int32} {P : Nat → Nat → Nat} {nf nt yy : Nat} (m : plT h S P nf nt yy) (e : ∀ i, h_A h' (P 5 12) i = h_A h (P 5 12) i) : plT h' S P nf nt yy := fun i hi => by rw [e]; exact m i hi
theorem pd8 {h : jH} {S : Nat → Nat → Int32} {P : Nat → Nat → Nat} {T : Nat → Nat → Nat → List Nat} {nf nl nb ns nt nk nw : Nat} (c : CP h S P T nf nl nb ns nt nk nw) : P 5 5 ≠ P 5 11 ∧ P 5 5 ≠ P 5 12 ∧ P 5 5 ≠ P 5 13 ∧ P 5 5 ≠ P 5 14 ∧ P 5 11 ≠ P 5 12 ∧ P 5 11 ≠ P 5 13 ∧ P 5 11 ≠ P 5 14 ∧ P 5 12 ≠ P 5 13 ∧ P 5 12 ≠ P 5 14 ∧ P 5 13 ≠ P 5 14 := c.2.2.2.2.2.2.2.2.2.2.2.2.2.2
set_option maxHeartbeats 4000000 in
set_option maxRecDepth 100000 in
theorem k_srch0 {l : Launch} {D : va_G} {cy : Nat → ClassId} {h : jH} {S : Nat → Nat → Int32} {P : Nat → Nat → Nat} {T : Nat → Nat → Nat → List Nat} {nf nl nb ns nt nk nw yy : Nat} (c : CP h S P T nf nl nb ns nt nk nw) (I : SI S nf nl nb ns nt nk nw yy) (MT : plM h S P nf nl ns nt nw yy) (TN : plT h S P nf nt yy) {pl V b : Nat} (hp : pl + 0 = nw) (g : gdN (mmS nf) (frS S yy nl ns nt) (cfS S (farS S yy nt)) pl V) (hgo : ∀ k, k < pl → h_A h (P 5 13) k = cdv (mmS nf) (dlt (mmS nf) pl V k)) (hb : h_I h 454 (P 5 4) = nI b - 1) (hb6 : b ≤ nw + 1) (r : Res (mmS nf) (frS S yy nl ns nt) (cfS S (farS S yy nt)) nw (V * (mmS nf + 1) ^ 0) (h_A h (P 5 14)) b) : jV l D cy yX7_search (.code yX7_search cX7_search 4 ((Option.none : Option FieldType))) (rmd 3 0 0) [.ref (P 5 4), .int (nI pl), .int (nI (ctN (mmS nf) pl V))] h (srP S P T nf nl nb ns nt nk nw yy pl V 0 h) := by
  have hnw := I.wt.2
  have hmm := mmS_le nf
  have hcc := ct_cap (mm := mmS nf) pl V
  refine j_ofV (by decide) (Nat.le_of_ble_eq_true rfl) (fun p e s m args below meth c0 Q C hin ret => ?_)
  refine j_iload_n C dX7_search_0 rfl ?_
  refine j_if_lt (tgt := 19) C dX7_search_1 (by decide) (fun c_1 => ?_) (fun c_1 => ?_)
  · exact absurd c_1 (nI_pos (by omega))
  · refine j_iload_n C dX7_search_4 rfl ?_
    refine j_aload_n C dX7_search_5 rfl ?_
    refine j_gIe (f := 455) (v := (nI nw)) C fF_X7_34 rfl c.1.2.2.2.1.1 (by exact c.2.2.2.2.2.2.1.1.trans I.wt.1) dX7_search_6 ?_
    refine j_iadd C dX7_search_9 ?_
    refine j_iload_n C dX7_search_10 rfl ?_
    refine j_isub C dX7_search_11 ?_
    refine j_top (show nI (ctN (mmS nf) pl V) + nI nw - nI pl = nI ((ctN (mmS nf) pl V) + 0) by rw [nI_add, pk_sub (by omega), show (ctN (mmS nf) pl V) + nw - pl = (ctN (mmS nf) pl V) + 0 by omega]) ?_
    refine j_aload_n C dX7_search_12 rfl ?_
    refine j_gIe (f := 454) (v := (nI b - 1)) C fF_X7_30 rfl c.1.2.2.2.1.1 hb dX7_search_13 ?_
    refine j_icmp_gt (tgt := 20) C dX7_search_16 (by decide) (fun c_16 => ?_) (fun c_16 => ?_)
    · refine j_iload_n C dX7_search_20 rfl ?_
      refine j_aload_n C dX7_search_21 rfl ?_
      refine j_gIe (f := 455) (v := (nI nw)) C fF_X7_34 rfl c.1.2.2.2.1.1 (by exact c.2.2.2.2.2.2.1.1.trans I.wt.1) dX7_search_22 ?_
      refine j_icmp_ge (tgt := 37) C dX7_search_25 (by decide) (fun c_25 => ?_) (fun c_25 => ?_)
      · refine j_aload_n C dX7_search_37 rfl ?_
        refine j_iload_n C dX7_search_38 rfl ?_
        refine j_pI (f := 454) C fP_X7_30 rfl c.1.2.2.2.1.1 rfl rfl dX7_search_39 ?_
        refine j_aload_n C dX7_search_42 rfl ?_
        refine j_gRe (f := 452) (v := .ref (P 5 13)) C fF_X7_24 rfl (okI c.1.2.2.2.1.1) (by show va_rf (h_R h 452 (P 5 4)) = _; rw [c.1.2.2.2.1.2.2.2.2.2.1]; rfl) dX7_search_43 ?_
        refine j_iconst (v := 0) C dX7_search_46 (by decide) ?_
        refine j_aload_n C dX7_search_47 rfl ?_
        refine j_gRe (f := 453) (v := .ref (P 5 14)) C fF_X7_27 rfl (okI c.1.2.2.2.1.1) (by show va_rf (h_R h 453 (P 5 4)) = _; rw [c.1.2.2.2.1.2.2.2.2.2.2]; rfl) dX7_search_48 ?_
        refine j_iconst (v := 0) C dX7_search_51 (by decide) ?_
        refine j_aload_n C dX7_search_52 rfl ?_
        refine j_gRe (f := 453) (v := .ref (P 5 14)) C fF_X7_27 rfl (okI c.1.2.2.2.1.1) (by show va_rf (h_R h 453 (P 5 4)) = _; rw [c.1.2.2.2.1.2.2.2.2.2.2]; rfl) dX7_search_53 ?_
        refine j_alen (k := 12) (v := 5) C (okI c.1.2.2.2.2.2.2.2.2.2.1) ⟨by decide, rfl⟩ (congrArg nI c.1.2.2.2.2.2.2.2.2.2.2) dX7_search_56 ?_
        refine j_copy C (okI c.1.2.2.2.2.2.2.2.2.1.1) (okI c.1.2.2.2.2.2.2.2.2.2.1) c.1.2.2.2.2.2.2.2.2.1.2 c.1.2.2.2.2.2.2.2.2.2.2 (Nat.le_of_ble_eq_true rfl) (Nat.le_of_ble_eq_true rfl) dX7_search_57 ?_
        rw [b_lt (by omega) (by omega)] at c_16
        obtain rfl : pl = nw := by omega
        refine ret _ 0 0 _ _ ⟨(c.same (sameH.sI rfl)).ex (Ex.rf.sW), (FrC.sI (by decide)).tr (FrC.sW (i := 14) (by decide)), fun i => ?_, fun i => ?_, fun k hk => ?_, (ctN (mmS nf) pl V) + 1, by have := ct_cap (mm := mmS nf) pl V; omega, ?_, ?_⟩ (Nat.zero_le _) (Nat.zero_le _) dX7_search_60
        · rw [g_AW, if_neg (pd8 c).2.2.2.2.2.2.1]; rfl
        · rw [g_AW, if_neg (pd8 c).2.2.2.2.2.2.2.2.1]; rfl
        · rw [g_AW, if_neg (pd8 c).2.2.2.2.2.2.2.2.2]; rfl
        · show h_I (s_I h 454 (P 5 4) _) 454 (P 5 4) = _
          rw [g_II, if_pos rfl, if_pos rfl, nI_pred]
        · have r2 := r
          rw [Nat.pow_zero, Nat.mul_one] at r2 ⊢
          refine r2.take g (by omega) (fun i hi => ?_)
          rw [g_AW, if_pos rfl]
          unfold va_cpy
          rw [if_pos ⟨Nat.zero_le _, by omega⟩, Nat.zero_add, Nat.sub_zero]
          exact hgo i hi
      · refine j_iload_n C dX7_search_28 rfl ?_
        refine j_aload_n C dX7_search_29 rfl ?_
        refine j_gRe (f := 452) (v := .ref (P 5 13)) C fF_X7_24 rfl c.1.2.2.2.1.1 (by rw [c.1.2.2.2.1.2.2.2.2.2.1]; rfl) dX7_search_30 ?_
        refine j_alen (k := 12) (v := 5) C c.1.2.2.2.2.2.2.2.2.1.1 ⟨by decide, rfl⟩ (congrArg nI c.1.2.2.2.2.2.2.2.2.1.2) dX7_search_33 ?_
        refine j_icmp_lt (tgt := 61) C dX7_search_34 (by decide) (fun c_34 => ?_) (fun c_34 => ?_)
        · refine j_iconst (v := 0) C dX7_search_61 (by decide) ?_
          refine j_istore_n (lv' := [(0, .ref (P 5 4)), (1, .int (nI pl)), (2, .int (nI (ctN (mmS nf) pl V))), (3, .int 0)]) C dX7_search_62 (by decide) rfl ?_
          exact absurd (nI_le (a := nw) (b := pl) (by omega) (by omega)) c_25
        · refine j_aload_n C dX7_search_37 rfl ?_
          refine j_iload_n C dX7_search_38 rfl ?_
          refine j_pI (f := 454) C fP_X7_30 rfl c.1.2.2.2.1.1 rfl rfl dX7_search_39 ?_
          refine j_aload_n C dX7_search_42 rfl ?_
          refine j_gRe (f := 452) (v := .ref (P 5 13)) C fF_X7_24 rfl (okI c.1.2.2.2.1.1) (by show va_rf (h_R h 452 (P 5 4)) = _; rw [c.1.2.2.2.1.2.2.2.2.2.1]; rfl) dX7_search_43 ?_
          refine j_iconst (v := 0) C dX7_search_46 (by decide) ?_
          refine j_aload_n C dX7_search_47 rfl ?_
          refine j_gRe (f := 453) (v := .ref (P 5 14)) C fF_X7_27 rfl (okI c.1.2.2.2.1.1) (by show va_rf (h_R h 453 (P 5 4)) = _; rw [c.1.2.2.2.1.2.2.2.2.2.2]; rfl) dX7_search_48 ?_
          refine j_iconst (v := 0) C dX7_search_51 (by decide) ?_
          refine j_aload_n C dX7_search_52 rfl ?_
          refine j_gRe (f := 453) (v := .ref (P 5 14)) C fF_X7_27 rfl (okI c.1.2.2.2.1.1) (by show va_rf (h_R h 453 (P 5 4)) = _; rw [c.1.2.2.2.1.2.2.2.2.2.2]; rfl) dX7_search_53 ?_
          refine j_alen (k := 12) (v := 5) C (okI c.1.2.2.2.2.2.2.2.2.2.1) ⟨by decide, rfl⟩ (congrArg nI c.1.2.2.2.2.2.2.2.2.2.2) dX7_search_56 ?_
          exact absurd (nI_le (a := nw) (b := pl) (by omega) (by omega)) c_25
    · rw [b_lt (by omega) (by omega)] at c_16
      exact ret h 0 0 _ _ ⟨c, FrC.rf, fun _ => rfl, fun _ => rfl, fun _ _ => rfl, b, hb6, hb, r.prune hp (by omega)⟩ (Nat.zero_le _) (Nat.zero_le _) dX7_search_19
set_option maxHeartbeats 4000000 in
set_option maxRecDepth 100000 in
theorem L_sr1 {p : Program} {l : Launch} {e : Env} {s : State} {m : MethodId} {args : Array Value} {below : List Frame} {meth : Method} {c0 : Code} {D : va_G} {cy : Nat → ClassId} {A : Nat → Prop} {Q : State → Prop} (C : jC p s m args meth c0 D cy A 4 RX7 cX7_search) {S : Nat → Nat → Int32} {P : Nat → Nat → Nat} {T : Nat → Nat → Nat → List Nat} {nf nl nb ns nt nk nw yy : Nat} {h0 : jH} (MT : plM h0 S P nf nl ns nt nw yy) (TN : plT h0 S P nf nt yy) {pl V : Nat} (hp : pl + 1 = nw) (g : gdN (mmS nf) (frS S yy nl ns nt) (cfS S (farS S yy nt)) pl V) (hgo : ∀ k, k < pl → h_A h0 (P 5 13) k = cdv (mmS nf) (dlt (mmS nf) pl V k)) (hnw : nw ≤ 5) (hmm : mmS nf ≤ 6) (I : SI S nf nl nb ns nt nk nw yy) (ret : ∀ h', srP S P T nf nl nb ns nt nk nw yy pl V 1 h0 h' → ∀ (lv : List (Nat × Value)) (pc : Nat), decode cX7_search pc = .ok (.return_, 1) → jW p l e (rmd 4 0 0) s m args below meth c0 D cy A 4 0 0 Q h' lv pc []) : ∀ (n k i : Nat) (h : jH) (b : Nat), k < n → i + k = 6 → CP h S P T nf nl nb ns nt nk nw → FrC P h0 h → (∀ j, h_A h (P 5 11) j = h_A h0 (P 5 11) j) → (∀ j, h_A h (P 5 12) j = h_A h0 (P 5 12) j) → (∀ j, j < pl → h_A h (P 5 13) j = h_A h0 (P 5 13) j) → h_I h 454 (P 5 4) = nI b - 1 → b ≤ nw + 1 → Res (mmS nf) (frS S yy nl ns nt) (cfS S (farS S yy nt)) nw (V * (mmS nf + 1) ^ 1 + min i (mmS nf) * (mmS nf + 1) ^ 0) (h_A h (P 5 14)) b → jW p l e (rmd 4 0 0) s m args below meth c0 D cy A 4 0 0 Q h [(0, .ref (P 5 4)), (1, .int (nI pl)), (2, .int (nI (ctN (mmS nf) pl V))), (3, .int (nI i))] 63 [] := by
  intro n
  induction n with
  | zero => intro k i h b h1; exact absurd h1 (Nat.not_lt_zero _)
  | succ n ih =>
    intro k i h b h1 h2 c hf g11 g12 g13 hb hb6 hr
    refine j_iload_n C dX7_search_63 rfl ?_
    refine j_bipush (v := 6) C dX7_search_64 (by decide) ?_
    refine j_icmp_ge (tgt := 101) C dX7_search_66 (by decide) (fun c_66 => ?_) (fun c_66 => ?_)
    · obtain rfl : i = 6 := by have := nI_ge_of (n := 6) c_66 (by omega) (by omega); omega
      have hd2 : mmS nf < mmS nf + 1 := by omega
      have hg2 : gdN (mmS nf) (frS S yy nl ns nt) (cfS S (farS S yy nt)) (pl + 1) (V * (mmS nf + 1) + mmS nf) := (gd_1 hd2).mpr ⟨g, Or.inl rfl⟩
      have hr2 : Res (mmS nf) (frS S yy nl ns nt) (cfS S (farS S yy nt)) nw (V * (mmS nf + 1) ^ 1 + mmS nf * (mmS nf + 1) ^ 0) (h_A h (P 5 14)) b := by rw [Nat.min_eq_right (by omega)] at hr; exact hr
      have hgo2 : ∀ k, k < pl + 1 → h_A (s_A h (P 5 13) pl (-1)) (P 5 13) k = cdv (mmS nf) (dlt (mmS nf) (pl + 1) (V * (mmS nf + 1) + (mmS nf)) k) := fun k hk => by
        rw [g_AA, if_pos rfl]
        by_cases e : k = pl
        · rw [if_pos e, e, dl_2 hd2]
          exact cdv_m.symm
        · rw [if_neg e, dl_1 hd2 (by omega), g13 k (by omega)]
          exact hgo k (by omega)
      refine j_aload_n C dX7_search_101 rfl ?_
      refine j_gRe (f := 452) (v := .ref (P 5 13)) C fF_X7_24 rfl c.1.2.2.2.1.1 (by rw [c.1.2.2.2.1.2.2.2.2.2.1]; rfl) dX7_search_102 ?_
      refine j_iload_n C dX7_search_105 rfl ?_
      refine j_iconst (v := (-1)) C dX7_search_106 (by decide) ?_
      refine j_iastN C c.1.2.2.2.2.2.2.2.2.1.1 ⟨c.1.2.2.2.2.2.2.2.2.1.2, by omega, by decide⟩ dX7_search_107 ?_
      refine j_aload_n C dX7_search_108 rfl ?_
      refine j_iload_n C dX7_search_109 rfl ?_
      refine j_iconst (v := 1) C dX7_search_110 (by decide) ?_
      refine j_iadd C dX7_search_111 ?_
      refine j_top (nI_1 pl) ?_
      refine j_iload_n C dX7_search_112 rfl ?_
      refine j_top (show nI (ctN (mmS nf) pl V) = nI (ctN (mmS nf) (pl + 1) (V * (mmS nf + 1) + mmS nf)) by rw [ct_1 hd2, if_neg (Nat.lt_irrefl _)]; rfl) ?_
      refine j_callVv (As := [.int (nI (pl + 1)), .int (nI (ctN (mmS nf) (pl + 1) (V * (mmS nf + 1) + mmS nf)))]) (rest := []) C fG_X7_58 (k_srch0 (pl := pl + 1) (V := (V * (mmS nf + 1) + (mmS nf))) (b := b) (c.ex Ex.rf.sA) I (MT.cg (fun j => by rw [g_AA, if_neg (pd8 c).2.2.2.2.2.1]; exact g11 j)) (TN.cg (fun j => by rw [g_AA, if_neg (pd8 c).2.2.2.2.2.2.2.1]; exact g12 j)) (by omega) hg2 hgo2 hb hb6 (by rw [pw_1, hA_ne _ _ _ (fun e => (pd8 c).2.2.2.2.2.2.2.2.2 e.symm)]; exact hr2)) (okA c.1.2.2.2.1.1) rfl rfl (Nat.le_of_ble_eq_true rfl) ⟨Nat.le_of_ble_eq_true rfl, Nat.le_of_ble_eq_true rfl⟩ ⟨Nat.le_of_ble_eq_true rfl, Nat.le_of_ble_eq_true rfl⟩ dX7_search_113 (fun h_113 e_113 => ?_)
      obtain ⟨d1, d2, d3, d4, d5, b', d6, d7, d8⟩ := e_113
      exact ret h_113 ⟨d1, (hf.tr (FrC.sA (i := 13) (by decide))).tr d2, fun j => by rw [d3, g_AA, if_neg (pd8 c).2.2.2.2.2.1]; exact g11 j, fun j => by rw [d4, g_AA, if_neg (pd8 c).2.2.2.2.2.2.2.1]; exact g12 j, fun j hj => by rw [d5 j (by omega), g_AA, if_pos rfl, if_neg (by omega)]; exact g13 j hj, b', d6, d7, by rw [pw_2] at d8; exact d8⟩ _ _ dX7_search_116
    · have hi6 : i < 6 := nI_lt_of (n := 6) c_66 (by omega)
      obtain ⟨k, rfl⟩ : ∃ q, k = q + 1 := ⟨k - 1, by omega⟩
      refine j_aload_n C dX7_search_69 rfl ?_
      refine j_iload_n C dX7_search_70 rfl ?_
      refine j_iload_n C dX7_search_71 rfl ?_
      refine j_callVi (As := [.int (nI pl), .int (nI i)]) (rest := []) C fG_X7_84 (k_fits (d := dlt (mmS nf) pl V) (pl := pl) (f := i) c I (MT.cg g11) (TN.cg g12) (by omega) (by omega) (fun k => dlt_le pl V k) (fun k hk => (g13 k hk).trans (hgo k hk))) c.1.2.2.2.1.1 rfl rfl (Nat.le_of_ble_eq_true rfl) ⟨Nat.le_of_ble_eq_true rfl, Nat.le_of_ble_eq_true rfl⟩ ⟨Nat.le_of_ble_eq_true rfl, Nat.le_of_ble_eq_true rfl⟩ dX7_search_72 (fun rv h_72 e_72 => ?_)
      obtain ⟨hv, e2_72⟩ := e_72
      replace e2_72 := e2_72.symm
      subst e2_72
      refine j_if_eq (tgt := 95) C dX7_search_75 (by decide) (fun c_75 => ?_) (fun c_75 => ?_)
      · refine j_iinc (lv' := [(0, .ref (P 5 4)), (1, .int (nI pl)), (2, .int (nI (ctN (mmS nf) pl V))), (3, .int (nI (i + 1)))]) C dX7_search_95 rfl (nI_1 _) (by decide) rfl ?_
        refine j_goto (tgt := 63) C dX7_search_98 (by decide) ?_
        refine j_sub [0, 1, 2, 3] rfl ?_
        refine ih k (i + 1) h b (by omega) (by omega) c hf g11 g12 g13 hb hb6 ?_
        by_cases e : i < mmS nf
        · rw [Nat.min_eq_left (by omega)] at hr ⊢
          have r3 : Res (mmS nf) (frS S yy nl ns nt) (cfS S (farS S yy nt)) nw ((V * (mmS nf + 1) + i) * (mmS nf + 1) ^ 0) (h_A h (P 5 14)) b := by rw [pw_1]; exact hr
          have r4 := r3.none (p := pl + 1) (by omega) (fun z => (hv.f c_75) (by
            have u := ((gd_1 (by omega)).mp z).2.resolve_left (by omega)
            exact ⟨⟨e, u.1⟩, u.2⟩))
          rw [Nat.add_assoc, pw_1] at r4
          exact r4
        · rw [Nat.min_eq_right (by omega)] at hr ⊢
          exact hr
      · have hfit := hv.t c_75
        have hdm : i < mmS nf := hfit.1.1
        have hd2 : i < mmS nf + 1 := by omega
        have hg2 : gdN (mmS nf) (frS S yy nl ns nt) (cfS S (farS S yy nt)) (pl + 1) (V * (mmS nf + 1) + i) := (gd_1 hd2).mpr ⟨g, Or.inr ⟨hfit.1.2, hfit.2⟩⟩
        have hr2 : Res (mmS nf) (frS S yy nl ns nt) (cfS S (farS S yy nt)) nw (V * (mmS nf + 1) ^ 1 + i * (mmS nf + 1) ^ 0) (h_A h (P 5 14)) b := by rw [Nat.min_eq_left (by omega)] at hr; exact hr
        have hgo2 : ∀ k, k < pl + 1 → h_A (s_A h (P 5 13) pl (nI i)) (P 5 13) k = cdv (mmS nf) (dlt (mmS nf) (pl + 1) (V * (mmS nf + 1) + i) k) := fun k hk => by
          rw [g_AA, if_pos rfl]
          by_cases e : k = pl
          · rw [if_pos e, e, dl_2 hd2]
            exact (cdv_lt hdm).symm
          · rw [if_neg e, dl_1 hd2 (by omega), g13 k (by omega)]
            exact hgo k (by omega)
        refine j_aload_n C dX7_search_78 rfl ?_
        refine j_gRe (f := 452) (v := .ref (P 5 13)) C fF_X7_24 rfl c.1.2.2.2.1.1 (by rw [c.1.2.2.2.1.2.2.2.2.2.1]; rfl) dX7_search_79 ?_
        refine j_iload_n C dX7_search_82 rfl ?_
        refine j_iload_n C dX7_search_83 rfl ?_
        refine j_iastN C c.1.2.2.2.2.2.2.2.2.1.1 ⟨c.1.2.2.2.2.2.2.2.2.1.2, by omega, by decide⟩ dX7_search_84 ?_
        refine j_aload_n C dX7_search_85 rfl ?_
        refine j_iload_n C dX7_search_86 rfl ?_
        refine j_iconst (v := 1) C dX7_search_87 (by decide) ?_
        refine j_iadd C dX7_search_88 ?_
        refine j_top (nI_1 pl) ?_
        refine j_iload_n C dX7_search_89 rfl ?_
        refine j_iconst (v := 1) C dX7_search_90 (by decide) ?_
        refine j_iadd C dX7_search_91 ?_
        refine j_top (show nI (ctN (mmS nf) pl V) + 1 = nI (ctN (mmS nf) (pl + 1) (V * (mmS nf + 1) + i)) by rw [ct_1 hd2, if_pos hdm]; exact nI_1 _) ?_
        refine j_callVv (As := [.int (nI (pl + 1)), .int (nI (ctN (mmS nf) (pl + 1) (V * (mmS nf + 1) + i)))]) (rest := []) C fG_X7_58 (k_srch0 (pl := pl + 1) (V := (V * (mmS nf + 1) + i)) (b := b) (c.ex Ex.rf.sA) I (MT.cg (fun j => by rw [g_AA, if_neg (pd8 c).2.2.2.2.2.1]; exact g11 j)) (TN.cg (fun j => by rw [g_AA, if_neg (pd8 c).2.2.2.2.2.2.2.1]; exact g12 j)) (by omega) hg2 hgo2 hb hb6 (by rw [pw_1, hA_ne _ _ _ (fun e => (pd8 c).2.2.2.2.2.2.2.2.2 e.symm)]; exact hr2)) (okA c.1.2.2.2.1.1) rfl rfl (Nat.le_of_ble_eq_true rfl) ⟨Nat.le_of_ble_eq_true rfl, Nat.le_of_ble_eq_true rfl⟩ ⟨Nat.le_of_ble_eq_true rfl, Nat.le_of_ble_eq_true rfl⟩ dX7_search_92 (fun h_92 e_92 => ?_)
        refine j_iinc (lv' := [(0, .ref (P 5 4)), (1, .int (nI pl)), (2, .int (nI (ctN (mmS nf) pl V))), (3, .int (nI (i + 1)))]) C dX7_search_95 rfl (nI_1 _) (by decide) rfl ?_
        refine j_goto (tgt := 63) C dX7_search_98 (by decide) ?_
        obtain ⟨d1, d2, d3, d4, d5, b', d6, d7, d8⟩ := e_92
        refine j_sub [0, 1, 2, 3] rfl ?_
        refine ih k (i + 1) h_92 b' (by omega) (by omega) d1 ((hf.tr (FrC.sA (i := 13) (by decide))).tr d2) (fun j => by rw [d3, g_AA, if_neg (pd8 c).2.2.2.2.2.1]; exact g11 j) (fun j => by rw [d4, g_AA, if_neg (pd8 c).2.2.2.2.2.2.2.1]; exact g12 j) (fun j hj => by rw [d5 j (by omega), g_AA, if_pos rfl, if_neg (by omega)]; exact g13 j hj) d7 d6 ?_
        rw [Nat.add_assoc, pw_1] at d8
        rw [Nat.min_eq_left (by omega)]
        exact d8
set_option maxHeartbeats 4000000 in
set_option maxRecDepth 100000 in
theorem k_srch1 {l : Launch} {D : va_G} {cy : Nat → ClassId} {h : jH} {S : Nat → Nat → Int32} {P : Nat → Nat → Nat} {T : Nat → Nat → Nat → List Nat} {nf nl nb ns nt nk nw yy : Nat} (c : CP h S P T nf nl nb ns nt nk nw) (I : SI S nf nl nb ns nt nk nw yy) (MT : plM h S P nf nl ns nt nw yy) (TN : plT h S P nf nt yy) {pl V b : Nat} (hp : pl + 1 = nw) (g : gdN (mmS nf) (frS S yy nl ns nt) (cfS S (farS S yy nt)) pl V) (hgo : ∀ k, k < pl → h_A h (P 5 13) k = cdv (mmS nf) (dlt (mmS nf) pl V k)) (hb : h_I h 454 (P 5 4) = nI b - 1) (hb6 : b ≤ nw + 1) (r : Res (mmS nf) (frS S yy nl ns nt) (cfS S (farS S yy nt)) nw (V * (mmS nf + 1) ^ 1) (h_A h (P 5 14)) b) : jV l D cy yX7_search (.code yX7_search cX7_search 4 ((Option.none : Option FieldType))) (rmd 4 0 0) [.ref (P 5 4), .int (nI pl), .int (nI (ctN (mmS nf) pl V))] h (srP S P T nf nl nb ns nt nk nw yy pl V 1 h) := by
  have hnw := I.wt.2
  have hmm := mmS_le nf
  have hcc := ct_cap (mm := mmS nf) pl V
  refine j_ofV (by decide) (Nat.le_of_ble_eq_true rfl) (fun p e s m args below meth c0 Q C hin ret => ?_)
  refine j_iload_n C dX7_search_0 rfl ?_
  refine j_if_lt (tgt := 19) C dX7_search_1 (by decide) (fun c_1 => ?_) (fun c_1 => ?_)
  · exact absurd c_1 (nI_pos (by omega))
  · refine j_iload_n C dX7_search_4 rfl ?_
    refine j_aload_n C dX7_search_5 rfl ?_
    refine j_gIe (f := 455) (v := (nI nw)) C fF_X7_34 rfl c.1.2.2.2.1.1 (by exact c.2.2.2.2.2.2.1.1.trans I.wt.1) dX7_search_6 ?_
    refine j_iadd C dX7_search_9 ?_
    refine j_iload_n C dX7_search_10 rfl ?_
    refine j_isub C dX7_search_11 ?_
    refine j_top (show nI (ctN (mmS nf) pl V) + nI nw - nI pl = nI ((ctN (mmS nf) pl V) + 1) by rw [nI_add, pk_sub (by omega), show (ctN (mmS nf) pl V) + nw - pl = (ctN (mmS nf) pl V) + 1 by omega]) ?_
    refine j_aload_n C dX7_search_12 rfl ?_
    refine j_gIe (f := 454) (v := (nI b - 1)) C fF_X7_30 rfl c.1.2.2.2.1.1 hb dX7_search_13 ?_
    refine j_icmp_gt (tgt := 20) C dX7_search_16 (by decide) (fun c_16 => ?_) (fun c_16 => ?_)
    · refine j_iload_n C dX7_search_20 rfl ?_
      refine j_aload_n C dX7_search_21 rfl ?_
      refine j_gIe (f := 455) (v := (nI nw)) C fF_X7_34 rfl c.1.2.2.2.1.1 (by exact c.2.2.2.2.2.2.1.1.trans I.wt.1) dX7_search_22 ?_
      refine j_icmp_ge (tgt := 37) C dX7_search_25 (by decide) (fun c_25 => ?_) (fun c_25 => ?_)
      · refine j_aload_n C dX7_search_37 rfl ?_
        refine j_iload_n C dX7_search_38 rfl ?_
        refine j_pI (f := 454) C fP_X7_30 rfl c.1.2.2.2.1.1 rfl rfl dX7_search_39 ?_
        refine j_aload_n C dX7_search_42 rfl ?_
        refine j_gRe (f := 452) (v := .ref (P 5 13)) C fF_X7_24 rfl (okI c.1.2.2.2.1.1) (by show va_rf (h_R h 452 (P 5 4)) = _; rw [c.1.2.2.2.1.2.2.2.2.2.1]; rfl) dX7_search_43 ?_
        refine j_iconst (v := 0) C dX7_search_46 (by decide) ?_
        refine j_aload_n C dX7_search_47 rfl ?_
        refine j_gRe (f := 453) (v := .ref (P 5 14)) C fF_X7_27 rfl (okI c.1.2.2.2.1.1) (by show va_rf (h_R h 453 (P 5 4)) = _; rw [c.1.2.2.2.1.2.2.2.2.2.2]; rfl) dX7_search_48 ?_
        refine j_iconst (v := 0) C dX7_search_51 (by decide) ?_
        refine j_aload_n C dX7_search_52 rfl ?_
        refine j_gRe (f := 453) (v := .ref (P 5 14)) C fF_X7_27 rfl (okI c.1.2.2.2.1.1) (by show va_rf (h_R h 453 (P 5 4)) = _; rw [c.1.2.2.2.1.2.2.2.2.2.2]; rfl) dX7_search_53 ?_
        refine j_alen (k := 12) (v := 5) C (okI c.1.2.2.2.2.2.2.2.2.2.1) ⟨by decide, rfl⟩ (congrArg nI c.1.2.2.2.2.2.2.2.2.2.2) dX7_search_56 ?_
        exact absurd (nI_ge_of c_25 (by omega) (by omega)) (by omega)
      · refine j_iload_n C dX7_search_28 rfl ?_
        refine j_aload_n C dX7_search_29 rfl ?_
        refine j_gRe (f := 452) (v := .ref (P 5 13)) C fF_X7_24 rfl c.1.2.2.2.1.1 (by rw [c.1.2.2.2.1.2.2.2.2.2.1]; rfl) dX7_search_30 ?_
        refine j_alen (k := 12) (v := 5) C c.1.2.2.2.2.2.2.2.2.1.1 ⟨by decide, rfl⟩ (congrArg nI c.1.2.2.2.2.2.2.2.2.1.2) dX7_search_33 ?_
        refine j_icmp_lt (tgt := 61) C dX7_search_34 (by decide) (fun c_34 => ?_) (fun c_34 => ?_)
        · refine j_iconst (v := 0) C dX7_search_61 (by decide) ?_
          refine j_istore_n (lv' := [(0, .ref (P 5 4)), (1, .int (nI pl)), (2, .int (nI (ctN (mmS nf) pl V))), (3, .int 0)]) C dX7_search_62 (by decide) rfl ?_
          exact L_sr1 (h0 := h) C MT TN hp g hgo hnw hmm I (fun h' e lv pc hd => ret h' 0 0 lv pc e (Nat.zero_le _) (Nat.zero_le _) hd) 7 6 0 h b (by omega) (by omega) c FrC.rf (fun _ => rfl) (fun _ => rfl) (fun _ _ => rfl) hb hb6 (by rw [show min 0 (mmS nf) = 0 by omega, Nat.zero_mul, Nat.add_zero]; exact r)
        · refine j_aload_n C dX7_search_37 rfl ?_
          refine j_iload_n C dX7_search_38 rfl ?_
          refine j_pI (f := 454) C fP_X7_30 rfl c.1.2.2.2.1.1 rfl rfl dX7_search_39 ?_
          refine j_aload_n C dX7_search_42 rfl ?_
          refine j_gRe (f := 452) (v := .ref (P 5 13)) C fF_X7_24 rfl (okI c.1.2.2.2.1.1) (by show va_rf (h_R h 452 (P 5 4)) = _; rw [c.1.2.2.2.1.2.2.2.2.2.1]; rfl) dX7_search_43 ?_
          refine j_iconst (v := 0) C dX7_search_46 (by decide) ?_
          refine j_aload_n C dX7_search_47 rfl ?_
          refine j_gRe (f := 453) (v := .ref (P 5 14)) C fF_X7_27 rfl (okI c.1.2.2.2.1.1) (by show va_rf (h_R h 453 (P 5 4)) = _; rw [c.1.2.2.2.1.2.2.2.2.2.2]; rfl) dX7_search_48 ?_
          refine j_iconst (v := 0) C dX7_search_51 (by decide) ?_
          refine j_aload_n C dX7_search_52 rfl ?_
          refine j_gRe (f := 453) (v := .ref (P 5 14)) C fF_X7_27 rfl (okI c.1.2.2.2.1.1) (by show va_rf (h_R h 453 (P 5 4)) = _; rw [c.1.2.2.2.1.2.2.2.2.2.2]; rfl) dX7_search_53 ?_
          refine j_alen (k := 12) (v := 5) C (okI c.1.2.2.2.2.2.2.2.2.2.1) ⟨by decide, rfl⟩ (congrArg nI c.1.2.2.2.2.2.2.2.2.2.2) dX7_search_56 ?_
          exact absurd (nI_lt (a := pl) (b := 5) (by omega) (by decide)) c_34
    · rw [b_lt (by omega) (by omega)] at c_16
      exact ret h 0 0 _ _ ⟨c, FrC.rf, fun _ => rfl, fun _ => rfl, fun _ _ => rfl, b, hb6, hb, r.prune hp (by omega)⟩ (Nat.zero_le _) (Nat.zero_le _) dX7_search_19
set_option maxHeartbeats 4000000 in
set_option maxRecDepth 100000 in
theorem L_sr2 {p : Program} {l : Launch} {e : Env} {s : State} {m : MethodId} {args : Array Value} {below : List Frame} {meth : Method} {c0 : Code} {D : va_G} {cy : Nat → ClassId} {A : Nat → Prop} {Q : State → Prop} (C : jC p s m args meth c0 D cy A 4 RX7 cX7_search) {S : Nat → Nat → Int32} {P : Nat → Nat → Nat} {T : Nat → Nat → Nat → List Nat} {nf nl nb ns nt nk nw yy : Nat} {h0 : jH} (MT : plM h0 S P nf nl ns nt nw yy) (TN : plT h0 S P nf nt yy) {pl V : Nat} (hp : pl + 2 = nw) (g : gdN (mmS nf) (frS S yy nl ns nt) (cfS S (farS S yy nt)) pl V) (hgo : ∀ k, k < pl → h_A h0 (P 5 13) k = cdv (mmS nf) (dlt (mmS nf) pl V k)) (hnw : nw ≤ 5) (hmm : mmS nf ≤ 6) (I : SI S nf nl nb ns nt nk nw yy) (ret : ∀ h', srP S P T nf nl nb ns nt nk nw yy pl V 2 h0 h' → ∀ (lv : List (Nat × Value)) (pc : Nat), decode cX7_search pc = .ok (.return_, 1) → jW p l e (rmd 5 0 0) s m args below meth c0 D cy A 4 0 0 Q h' lv pc []) : ∀ (n k i : Nat) (h : jH) (b : Nat), k < n → i + k = 6 → CP h S P T nf nl nb ns nt nk nw → FrC P h0 h → (∀ j, h_A h (P 5 11) j = h_A h0 (P 5 11) j) → (∀ j, h_A h (P 5 12) j = h_A h0 (P 5 12) j) → (∀ j, j < pl → h_A h (P 5 13) j = h_A h0 (P 5 13) j) → h_I h 454 (P 5 4) = nI b - 1 → b ≤ nw + 1 → Res (mmS nf) (frS S yy nl ns nt) (cfS S (farS S yy nt)) nw (V * (mmS nf + 1) ^ 2 + min i (mmS nf) * (mmS nf + 1) ^ 1) (h_A h (P 5 14)) b → jW p l e (rmd 5 0 0) s m args below meth c0 D cy A 4 0 0 Q h [(0, .ref (P 5 4)), (1, .int (nI pl)), (2, .int (nI (ctN (mmS nf) pl V))), (3, .int (nI i))] 63 [] := by
  intro n
  induction n with
  | zero => intro k i h b h1; exact absurd h1 (Nat.not_lt_zero _)
  | succ n ih =>
    intro k i h b h1 h2 c hf g11 g12 g13 hb hb6 hr
    refine j_iload_n C dX7_search_63 rfl ?_
    refine j_bipush (v := 6) C dX7_search_64 (by decide) ?_
    refine j_icmp_ge (tgt := 101) C dX7_search_66 (by decide) (fun c_66 => ?_) (fun c_66 => ?_)
    · obtain rfl : i = 6 := by have := nI_ge_of (n := 6) c_66 (by omega) (by omega); omega
      have hd2 : mmS nf < mmS nf + 1 := by omega
      have hg2 : gdN (mmS nf) (frS S yy nl ns nt) (cfS S (farS S yy nt)) (pl + 1) (V * (mmS nf + 1) + mmS nf) := (gd_1 hd2).mpr ⟨g, Or.inl rfl⟩
      have hr2 : Res (mmS nf) (frS S yy nl ns nt) (cfS S (farS S yy nt)) nw (V * (mmS nf + 1) ^ 2 + mmS nf * (mmS nf + 1) ^ 1) (h_A h (P 5 14)) b := by rw [Nat.min_eq_right (by omega)] at hr; exact hr
      have hgo2 : ∀ k, k < pl + 1 → h_A (s_A h (P 5 13) pl (-1)) (P 5 13) k = cdv (mmS nf) (dlt (mmS nf) (pl + 1) (V * (mmS nf + 1) + (mmS nf)) k) := fun k hk => by
        rw [g_AA, if_pos rfl]
        by_cases e : k = pl
        · rw [if_pos e, e, dl_2 hd2]
          exact cdv_m.symm
        · rw [if_neg e, dl_1 hd2 (by omega), g13 k (by omega)]
          exact hgo k (by omega)
      refine j_aload_n C dX7_search_101 rfl ?_
      refine j_gRe (f := 452) (v := .ref (P 5 13)) C fF_X7_24 rfl c.1.2.2.2.1.1 (by rw [c.1.2.2.2.1.2.2.2.2.2.1]; rfl) dX7_search_102 ?_
      refine j_iload_n C dX7_search_105 rfl ?_
      refine j_iconst (v := (-1)) C dX7_search_106 (by decide) ?_
      refine j_iastN C c.1.2.2.2.2.2.2.2.2.1.1 ⟨c.1.2.2.2.2.2.2.2.2.1.2, by omega, by decide⟩ dX7_search_107 ?_
      refine j_aload_n C dX7_search_108 rfl ?_
      refine j_iload_n C dX7_search_109 rfl ?_
      refine j_iconst (v := 1) C dX7_search_110 (by decide) ?_
      refine j_iadd C dX7_search_111 ?_
      refine j_top (nI_1 pl) ?_
      refine j_iload_n C dX7_search_112 rfl ?_
      refine j_top (show nI (ctN (mmS nf) pl V) = nI (ctN (mmS nf) (pl + 1) (V * (mmS nf + 1) + mmS nf)) by rw [ct_1 hd2, if_neg (Nat.lt_irrefl _)]; rfl) ?_
      refine j_callVv (As := [.int (nI (pl + 1)), .int (nI (ctN (mmS nf) (pl + 1) (V * (mmS nf + 1) + mmS nf)))]) (rest := []) C fG_X7_58 (k_srch1 (pl := pl + 1) (V := (V * (mmS nf + 1) + (mmS nf))) (b := b) (c.ex Ex.rf.sA) I (MT.cg (fun j => by rw [g_AA, if_neg (pd8 c).2.2.2.2.2.1]; exact g11 j)) (TN.cg (fun j => by rw [g_AA, if_neg (pd8 c).2.2.2.2.2.2.2.1]; exact g12 j)) (by omega) hg2 hgo2 hb hb6 (by rw [pw_1, hA_ne _ _ _ (fun e => (pd8 c).2.2.2.2.2.2.2.2.2 e.symm)]; exact hr2)) (okA c.1.2.2.2.1.1) rfl rfl (Nat.le_of_ble_eq_true rfl) ⟨Nat.le_of_ble_eq_true rfl, Nat.le_of_ble_eq_true rfl⟩ ⟨Nat.le_of_ble_eq_true rfl, Nat.le_of_ble_eq_true rfl⟩ dX7_search_113 (fun h_113 e_113 => ?_)
      obtain ⟨d1, d2, d3, d4, d5, b', d6, d7, d8⟩ := e_113
      exact ret h_113 ⟨d1, (hf.tr (FrC.sA (i := 13) (by decide))).tr d2, fun j => by rw [d3, g_AA, if_neg (pd8 c).2.2.2.2.2.1]; exact g11 j, fun j => by rw [d4, g_AA, if_neg (pd8 c).2.2.2.2.2.2.2.1]; exact g12 j, fun j hj => by rw [d5 j (by omega), g_AA, if_pos rfl, if_neg (by omega)]; exact g13 j hj, b', d6, d7, by rw [pw_2] at d8; exact d8⟩ _ _ dX7_search_116
    · have hi6 : i < 6 := nI_lt_of (n := 6) c_66 (by omega)
      obtain ⟨k, rfl⟩ : ∃ q, k = q + 1 := ⟨k - 1, by omega⟩
      refine j_aload_n C dX7_search_69 rfl ?_
      refine j_iload_n C dX7_search_70 rfl ?_
      refine j_iload_n C dX7_search_71 rfl ?_
      refine j_callVi (As := [.int (nI pl), .int (nI i)]) (rest := []) C fG_X7_84 (k_fits (d := dlt (mmS nf) pl V) (pl := pl) (f := i) c I (MT.cg g11) (TN.cg g12) (by omega) (by omega) (fun k => dlt_le pl V k) (fun k hk => (g13 k hk).trans (hgo k hk))) c.1.2.2.2.1.1 rfl rfl (Nat.le_of_ble_eq_true rfl) ⟨Nat.le_of_ble_eq_true rfl, Nat.le_of_ble_eq_true rfl⟩ ⟨Nat.le_of_ble_eq_true rfl, Nat.le_of_ble_eq_true rfl⟩ dX7_search_72 (fun rv h_72 e_72 => ?_)
      obtain ⟨hv, e2_72⟩ := e_72
      replace e2_72 := e2_72.symm
      subst e2_72
      refine j_if_eq (tgt := 95) C dX7_search_75 (by decide) (fun c_75 => ?_) (fun c_75 => ?_)
      · refine j_iinc (lv' := [(0, .ref (P 5 4)), (1, .int (nI pl)), (2, .int (nI (ctN (mmS nf) pl V))), (3, .int (nI (i + 1)))]) C dX7_search_95 rfl (nI_1 _) (by decide) rfl ?_
        refine j_goto (tgt := 63) C dX7_search_98 (by decide) ?_
        refine j_sub [0, 1, 2, 3] rfl ?_
        refine ih k (i + 1) h b (by omega) (by omega) c hf g11 g12 g13 hb hb6 ?_
        by_cases e : i < mmS nf
        · rw [Nat.min_eq_left (by omega)] at hr ⊢
          have r3 : Res (mmS nf) (frS S yy nl ns nt) (cfS S (farS S yy nt)) nw ((V * (mmS nf + 1) + i) * (mmS nf + 1) ^ 1) (h_A h (P 5 14)) b := by rw [pw_1]; exact hr
          have r4 := r3.none (p := pl + 1) (by omega) (fun z => (hv.f c_75) (by
            have u := ((gd_1 (by omega)).mp z).2.resolve_left (by omega)
            exact ⟨⟨e, u.1⟩, u.2⟩))
          rw [Nat.add_assoc, pw_1] at r4
          exact r4
        · rw [Nat.min_eq_right (by omega)] at hr ⊢
          exact hr
      · have hfit := hv.t c_75
        have hdm : i < mmS nf := hfit.1.1
        have hd2 : i < mmS nf + 1 := by omega
        have hg2 : gdN (mmS nf) (frS S yy nl ns nt) (cfS S (farS S yy nt)) (pl + 1) (V * (mmS nf + 1) + i) := (gd_1 hd2).mpr ⟨g, Or.inr ⟨hfit.1.2, hfit.2⟩⟩
        have hr2 : Res (mmS nf) (frS S yy nl ns nt) (cfS S (farS S yy nt)) nw (V * (mmS nf + 1) ^ 2 + i * (mmS nf + 1) ^ 1) (h_A h (P 5 14)) b := by rw [Nat.min_eq_left (by omega)] at hr; exact hr
        have hgo2 : ∀ k, k < pl + 1 → h_A (s_A h (P 5 13) pl (nI i)) (P 5 13) k = cdv (mmS nf) (dlt (mmS nf) (pl + 1) (V * (mmS nf + 1) + i) k) := fun k hk => by
          rw [g_AA, if_pos rfl]
          by_cases e : k = pl
          · rw [if_pos e, e, dl_2 hd2]
            exact (cdv_lt hdm).symm
          · rw [if_neg e, dl_1 hd2 (by omega), g13 k (by omega)]
            exact hgo k (by omega)
        refine j_aload_n C dX7_search_78 rfl ?_
        refine j_gRe (f := 452) (v := .ref (P 5 13)) C fF_X7_24 rfl c.1.2.2.2.1.1 (by rw [c.1.2.2.2.1.2.2.2.2.2.1]; rfl) dX7_search_79 ?_
        refine j_iload_n C dX7_search_82 rfl ?_
        refine j_iload_n C dX7_search_83 rfl ?_
        refine j_iastN C c.1.2.2.2.2.2.2.2.2.1.1 ⟨c.1.2.2.2.2.2.2.2.2.1.2, by omega, by decide⟩ dX7_search_84 ?_
        refine j_aload_n C dX7_search_85 rfl ?_
        refine j_iload_n C dX7_search_86 rfl ?_
        refine j_iconst (v := 1) C dX7_search_87 (by decide) ?_
        refine j_iadd C dX7_search_88 ?_
        refine j_top (nI_1 pl) ?_
        refine j_iload_n C dX7_search_89 rfl ?_
        refine j_iconst (v := 1) C dX7_search_90 (by decide) ?_
        refine j_iadd C dX7_search_91 ?_
        refine j_top (show nI (ctN (mmS nf) pl V) + 1 = nI (ctN (mmS nf) (pl + 1) (V * (mmS nf + 1) + i)) by rw [ct_1 hd2, if_pos hdm]; exact nI_1 _) ?_
        refine j_callVv (As := [.int (nI (pl + 1)), .int (nI (ctN (mmS nf) (pl + 1) (V * (mmS nf + 1) + i)))]) (rest := []) C fG_X7_58 (k_srch1 (pl := pl + 1) (V := (V * (mmS nf + 1) + i)) (b := b) (c.ex Ex.rf.sA) I (MT.cg (fun j => by rw [g_AA, if_neg (pd8 c).2.2.2.2.2.1]; exact g11 j)) (TN.cg (fun j => by rw [g_AA, if_neg (pd8 c).2.2.2.2.2.2.2.1]; exact g12 j)) (by omega) hg2 hgo2 hb hb6 (by rw [pw_1, hA_ne _ _ _ (fun e => (pd8 c).2.2.2.2.2.2.2.2.2 e.symm)]; exact hr2)) (okA c.1.2.2.2.1.1) rfl rfl (Nat.le_of_ble_eq_true rfl) ⟨Nat.le_of_ble_eq_true rfl, Nat.le_of_ble_eq_true rfl⟩ ⟨Nat.le_of_ble_eq_true rfl, Nat.le_of_ble_eq_true rfl⟩ dX7_search_92 (fun h_92 e_92 => ?_)
        refine j_iinc (lv' := [(0, .ref (P 5 4)), (1, .int (nI pl)), (2, .int (nI (ctN (mmS nf) pl V))), (3, .int (nI (i + 1)))]) C dX7_search_95 rfl (nI_1 _) (by decide) rfl ?_
        refine j_goto (tgt := 63) C dX7_search_98 (by decide) ?_
        obtain ⟨d1, d2, d3, d4, d5, b', d6, d7, d8⟩ := e_92
        refine j_sub [0, 1, 2, 3] rfl ?_
        refine ih k (i + 1) h_92 b' (by omega) (by omega) d1 ((hf.tr (FrC.sA (i := 13) (by decide))).tr d2) (fun j => by rw [d3, g_AA, if_neg (pd8 c).2.2.2.2.2.1]; exact g11 j) (fun j => by rw [d4, g_AA, if_neg (pd8 c).2.2.2.2.2.2.2.1]; exact g12 j) (fun j hj => by rw [d5 j (by omega), g_AA, if_pos rfl, if_neg (by omega)]; exact g13 j hj) d7 d6 ?_
        rw [Nat.add_assoc, pw_1] at d8
        rw [Nat.min_eq_left (by omega)]
        exact d8
set_option maxHeartbeats 4000000 in
set_option maxRecDepth 100000 in
theorem k_srch2 {l : Launch} {D : va_G} {cy : Nat → ClassId} {h : jH} {S : Nat → Nat → Int32} {P : Nat → Nat → Nat} {T : Nat → Nat → Nat → List Nat} {nf nl nb ns nt nk nw yy : Nat} (c : CP h S P T nf nl nb ns nt nk nw) (I : SI S nf nl nb ns nt nk nw yy) (MT : plM h S P nf nl ns nt nw yy) (TN : plT h S P nf nt yy) {pl V b : Nat} (hp : pl + 2 = nw) (g : gdN (mmS nf) (frS S yy nl ns nt) (cfS S (farS S yy nt)) pl V) (hgo : ∀ k, k < pl → h_A h (P 5 13) k = cdv (mmS nf) (dlt (mmS nf) pl V k)) (hb : h_I h 454 (P 5 4) = nI b - 1) (hb6 : b ≤ nw + 1) (r : Res (mmS nf) (frS S yy nl ns nt) (cfS S (farS S yy nt)) nw (V * (mmS nf + 1) ^ 2) (h_A h (P 5 14)) b) : jV l D cy yX7_search (.code yX7_search cX7_search 4 ((Option.none : Option FieldType))) (rmd 5 0 0) [.ref (P 5 4), .int (nI pl), .int (nI (ctN (mmS nf) pl V))] h (srP S P T nf nl nb ns nt nk nw yy pl V 2 h) := by
  have hnw := I.wt.2
  have hmm := mmS_le nf
  have hcc := ct_cap (mm := mmS nf) pl V
  refine j_ofV (by decide) (Nat.le_of_ble_eq_true rfl) (fun p e s m args below meth c0 Q C hin ret => ?_)
  refine j_iload_n C dX7_search_0 rfl ?_
  refine j_if_lt (tgt := 19) C dX7_search_1 (by decide) (fun c_1 => ?_) (fun c_1 => ?_)
  · exact absurd c_1 (nI_pos (by omega))
  · refine j_iload_n C dX7_search_4 rfl ?_
    refine j_aload_n C dX7_search_5 rfl ?_
    refine j_gIe (f := 455) (v := (nI nw)) C fF_X7_34 rfl c.1.2.2.2.1.1 (by exact c.2.2.2.2.2.2.1.1.trans I.wt.1) dX7_search_6 ?_
    refine j_iadd C dX7_search_9 ?_
    refine j_iload_n C dX7_search_10 rfl ?_
    refine j_isub C dX7_search_11 ?_
    refine j_top (show nI (ctN (mmS nf) pl V) + nI nw - nI pl = nI ((ctN (mmS nf) pl V) + 2) by rw [nI_add, pk_sub (by omega), show (ctN (mmS nf) pl V) + nw - pl = (ctN (mmS nf) pl V) + 2 by omega]) ?_
    refine j_aload_n C dX7_search_12 rfl ?_
    refine j_gIe (f := 454) (v := (nI b - 1)) C fF_X7_30 rfl c.1.2.2.2.1.1 hb dX7_search_13 ?_
    refine j_icmp_gt (tgt := 20) C dX7_search_16 (by decide) (fun c_16 => ?_) (fun c_16 => ?_)
    · refine j_iload_n C dX7_search_20 rfl ?_
      refine j_aload_n C dX7_search_21 rfl ?_
      refine j_gIe (f := 455) (v := (nI nw)) C fF_X7_34 rfl c.1.2.2.2.1.1 (by exact c.2.2.2.2.2.2.1.1.trans I.wt.1) dX7_search_22 ?_
      refine j_icmp_ge (tgt := 37) C dX7_search_25 (by decide) (fun c_25 => ?_) (fun c_25 => ?_)
      · refine j_aload_n C dX7_search_37 rfl ?_
        refine j_iload_n C dX7_search_38 rfl ?_
        refine j_pI (f := 454) C fP_X7_30 rfl c.1.2.2.2.1.1 rfl rfl dX7_search_39 ?_
        refine j_aload_n C dX7_search_42 rfl ?_
        refine j_gRe (f := 452) (v := .ref (P 5 13)) C fF_X7_24 rfl (okI c.1.2.2.2.1.1) (by show va_rf (h_R h 452 (P 5 4)) = _; rw [c.1.2.2.2.1.2.2.2.2.2.1]; rfl) dX7_search_43 ?_
        refine j_iconst (v := 0) C dX7_search_46 (by decide) ?_
        refine j_aload_n C dX7_search_47 rfl ?_
        refine j_gRe (f := 453) (v := .ref (P 5 14)) C fF_X7_27 rfl (okI c.1.2.2.2.1.1) (by show va_rf (h_R h 453 (P 5 4)) = _; rw [c.1.2.2.2.1.2.2.2.2.2.2]; rfl) dX7_search_48 ?_
        refine j_iconst (v := 0) C dX7_search_51 (by decide) ?_
        refine j_aload_n C dX7_search_52 rfl ?_
        refine j_gRe (f := 453) (v := .ref (P 5 14)) C fF_X7_27 rfl (okI c.1.2.2.2.1.1) (by show va_rf (h_R h 453 (P 5 4)) = _; rw [c.1.2.2.2.1.2.2.2.2.2.2]; rfl) dX7_search_53 ?_
        refine j_alen (k := 12) (v := 5) C (okI c.1.2.2.2.2.2.2.2.2.2.1) ⟨by decide, rfl⟩ (congrArg nI c.1.2.2.2.2.2.2.2.2.2.2) dX7_search_56 ?_
        exact absurd (nI_ge_of c_25 (by omega) (by omega)) (by omega)
      · refine j_iload_n C dX7_search_28 rfl ?_
        refine j_aload_n C dX7_search_29 rfl ?_
        refine j_gRe (f := 452) (v := .ref (P 5 13)) C fF_X7_24 rfl c.1.2.2.2.1.1 (by rw [c.1.2.2.2.1.2.2.2.2.2.1]; rfl) dX7_search_30 ?_
        refine j_alen (k := 12) (v := 5) C c.1.2.2.2.2.2.2.2.2.1.1 ⟨by decide, rfl⟩ (congrArg nI c.1.2.2.2.2.2.2.2.2.1.2) dX7_search_33 ?_
        refine j_icmp_lt (tgt := 61) C dX7_search_34 (by decide) (fun c_34 => ?_) (fun c_34 => ?_)
        · refine j_iconst (v := 0) C dX7_search_61 (by decide) ?_
          refine j_istore_n (lv' := [(0, .ref (P 5 4)), (1, .int (nI pl)), (2, .int (nI (ctN (mmS nf) pl V))), (3, .int 0)]) C dX7_search_62 (by decide) rfl ?_
          exact L_sr2 (h0 := h) C MT TN hp g hgo hnw hmm I (fun h' e lv pc hd => ret h' 0 0 lv pc e (Nat.zero_le _) (Nat.zero_le _) hd) 7 6 0 h b (by omega) (by omega) c FrC.rf (fun _ => rfl) (fun _ => rfl) (fun _ _ => rfl) hb hb6 (by rw [show min 0 (mmS nf) = 0 by omega, Nat.zero_mul, Nat.add_zero]; exact r)
        · refine j_aload_n C dX7_search_37 rfl ?_
          refine j_iload_n C dX7_search_38 rfl ?_
          refine j_pI (f := 454) C fP_X7_30 rfl c.1.2.2.2.1.1 rfl rfl dX7_search_39 ?_
          refine j_aload_n C dX7_search_42 rfl ?_
          refine j_gRe (f := 452) (v := .ref (P 5 13)) C fF_X7_24 rfl (okI c.1.2.2.2.1.1) (by show va_rf (h_R h 452 (P 5 4)) = _; rw [c.1.2.2.2.1.2.2.2.2.2.1]; rfl) dX7_search_43 ?_
          refine j_iconst (v := 0) C dX7_search_46 (by decide) ?_
          refine j_aload_n C dX7_search_47 rfl ?_
          refine j_gRe (f := 453) (v := .ref (P 5 14)) C fF_X7_27 rfl (okI c.1.2.2.2.1.1) (by show va_rf (h_R h 453 (P 5 4)) = _; rw [c.1.2.2.2.1.2.2.2.2.2.2]; rfl) dX7_search_48 ?_
          refine j_iconst (v := 0) C dX7_search_51 (by decide) ?_
          refine j_aload_n C dX7_search_52 rfl ?_
          refine j_gRe (f := 453) (v := .ref (P 5 14)) C fF_X7_27 rfl (okI c.1.2.2.2.1.1) (by show va_rf (h_R h 453 (P 5 4)) = _; rw [c.1.2.2.2.1.2.2.2.2.2.2]; rfl) dX7_search_53 ?_
          refine j_alen (k := 12) (v := 5) C (okI c.1.2.2.2.2.2.2.2.2.2.1) ⟨by decide, rfl⟩ (congrArg nI c.1.2.2.2.2.2.2.2.2.2.2) dX7_search_56 ?_
          exact absurd (nI_lt (a := pl) (b := 5) (by omega) (by decide)) c_34
    · rw [b_lt (by omega) (by omega)] at c_16
      exact ret h 0 0 _ _ ⟨c, FrC.rf, fun _ => rfl, fun _ => rfl, fun _ _ => rfl, b, hb6, hb, r.prune hp (by omega)⟩ (Nat.zero_le _) (Nat.zero_le _) dX7_search_19
set_option maxHeartbeats 4000000 in
set_option maxRecDepth 100000 in
theorem L_sr3 {p : Program} {l : Launch} {e : Env} {s : State} {m : MethodId} {args : Array Value} {below : List Frame} {meth : Method} {c0 : Code} {D : va_G} {cy : Nat → ClassId} {A : Nat → Prop} {Q : State → Prop} (C : jC p s m args meth c0 D cy A 4 RX7 cX7_search) {S : Nat → Nat → Int32} {P : Nat → Nat → Nat} {T : Nat → Nat → Nat → List Nat} {nf nl nb ns nt nk nw yy : Nat} {h0 : jH} (MT : plM h0 S P nf nl ns nt nw yy) (TN : plT h0 S P nf nt yy) {pl V : Nat} (hp : pl + 3 = nw) (g : gdN (mmS nf) (frS S yy nl ns nt) (cfS S (farS S yy nt)) pl V) (hgo : ∀ k, k < pl → h_A h0 (P 5 13) k = cdv (mmS nf) (dlt (mmS nf) pl V k)) (hnw : nw ≤ 5) (hmm : mmS nf ≤ 6) (I : SI S nf nl nb ns nt nk nw yy) (ret : ∀ h', srP S P T nf nl nb ns nt nk nw yy pl V 3 h0 h' → ∀ (lv : List (Nat × Value)) (pc : Nat), decode cX7_search pc = .ok (.return_, 1) → jW p l e (rmd 6 0 0) s m args below meth c0 D cy A 4 0 0 Q h' lv pc []) : ∀ (n k i : Nat) (h : jH) (b : Nat), k < n → i + k = 6 → CP h S P T nf nl nb ns nt nk nw → FrC P h0 h → (∀ j, h_A h (P 5 11) j = h_A h0 (P 5 11) j) → (∀ j, h_A h (P 5 12) j = h_A h0 (P 5 12) j) → (∀ j, j < pl → h_A h (P 5 13) j = h_A h0 (P 5 13) j) → h_I h 454 (P 5 4) = nI b - 1 → b ≤ nw + 1 → Res (mmS nf) (frS S yy nl ns nt) (cfS S (farS S yy nt)) nw (V * (mmS nf + 1) ^ 3 + min i (mmS nf) * (mmS nf + 1) ^ 2) (h_A h (P 5 14)) b → jW p l e (rmd 6 0 0) s m args below meth c0 D cy A 4 0 0 Q h [(0, .ref (P 5 4)), (1, .int (nI pl)), (2, .int (nI (ctN (mmS nf) pl V))), (3, .int (nI i))] 63 [] := by
  intro n
  induction n with
  | zero => intro k i h b h1; exact absurd h1 (Nat.not_lt_zero _)
  | succ n ih =>
    intro k i h b h1 h2 c hf g11 g12 g13 hb hb6 hr
    refine j_iload_n C dX7_search_63 rfl ?_
    refine j_bipush (v := 6) C dX7_search_64 (by decide) ?_
    refine j_icmp_ge (tgt := 101) C dX7_search_66 (by decide) (fun c_66 => ?_) (fun c_66 => ?_)
    · obtain rfl : i = 6 := by have := nI_ge_of (n := 6) c_66 (by omega) (by omega); omega
      have hd2 : mmS nf < mmS nf + 1 := by omega
      have hg2 : gdN (mmS nf) (frS S yy nl ns nt) (cfS S (farS S yy nt)) (pl + 1) (V * (mmS nf + 1) + mmS nf) := (gd_1 hd2).mpr ⟨g, Or.inl rfl⟩
      have hr2 : Res (mmS nf) (frS S yy nl ns nt) (cfS S (farS S yy nt)) nw (V * (mmS nf + 1) ^ 3 + mmS nf * (mmS nf + 1) ^ 2) (h_A h (P 5 14)) b := by rw [Nat.min_eq_right (by omega)] at hr; exact hr
      have hgo2 : ∀ k, k < pl + 1 → h_A (s_A h (P 5 13) pl (-1)) (P 5 13) k = cdv (mmS nf) (dlt (mmS nf) (pl + 1) (V * (mmS nf + 1) + (mmS nf)) k) := fun k hk => by
        rw [g_AA, if_pos rfl]
        by_cases e : k = pl
        · rw [if_pos e, e, dl_2 hd2]
          exact cdv_m.symm
        · rw [if_neg e, dl_1 hd2 (by omega), g13 k (by omega)]
          exact hgo k (by omega)
      refine j_aload_n C dX7_search_101 rfl ?_
      refine j_gRe (f := 452) (v := .ref (P 5 13)) C fF_X7_24 rfl c.1.2.2.2.1.1 (by rw [c.1.2.2.2.1.2.2.2.2.2.1]; rfl) dX7_search_102 ?_
      refine j_iload_n C dX7_search_105 rfl ?_
      refine j_iconst (v := (-1)) C dX7_search_106 (by decide) ?_
      refine j_iastN C c.1.2.2.2.2.2.2.2.2.1.1 ⟨c.1.2.2.2.2.2.2.2.2.1.2, by omega, by decide⟩ dX7_search_107 ?_
      refine j_aload_n C dX7_search_108 rfl ?_
      refine j_iload_n C dX7_search_109 rfl ?_
      refine j_iconst (v := 1) C dX7_search_110 (by decide) ?_
      refine j_iadd C dX7_search_111 ?_
      refine j_top (nI_1 pl) ?_
      refine j_iload_n C dX7_search_112 rfl ?_
      refine j_top (show nI (ctN (mmS nf) pl V) = nI (ctN (mmS nf) (pl + 1) (V * (mmS nf + 1) + mmS nf)) by rw [ct_1 hd2, if_neg (Nat.lt_irrefl _)]; rfl) ?_
      refine j_callVv (As := [.int (nI (pl + 1)), .int (nI (ctN (mmS nf) (pl + 1) (V * (mmS nf + 1) + mmS nf)))]) (rest := []) C fG_X7_58 (k_srch2 (pl := pl + 1) (V := (V * (mmS nf + 1) + (mmS nf))) (b := b) (c.ex Ex.rf.sA) I (MT.cg (fun j => by rw [g_AA, if_neg (pd8 c).2.2.2.2.2.1]; exact g11 j)) (TN.cg (fun j => by rw [g_AA, if_neg (pd8 c).2.2.2.2.2.2.2.1]; exact g12 j)) (by omega) hg2 hgo2 hb hb6 (by rw [pw_1, hA_ne _ _ _ (fun e => (pd8 c).2.2.2.2.2.2.2.2.2 e.symm)]; exact hr2)) (okA c.1.2.2.2.1.1) rfl rfl (Nat.le_of_ble_eq_true rfl) ⟨Nat.le_of_ble_eq_true rfl, Nat.le_of_ble_eq_true rfl⟩ ⟨Nat.le_of_ble_eq_true rfl, Nat.le_of_ble_eq_true rfl⟩ dX7_search_113 (fun h_113 e_113 => ?_)
      obtain ⟨d1, d2, d3, d4, d5, b', d6, d7, d8⟩ := e_113
      exact ret h_113 ⟨d1, (hf.tr (FrC.sA (i := 13) (by decide))).tr d2, fun j => by rw [d3, g_AA, if_neg (pd8 c).2.2.2.2.2.1]; exact g11 j, fun j => by rw [d4, g_AA, if_neg (pd8 c).2.2.2.2.2.2.2.1]; exact g12 j, fun j hj => by rw [d5 j (by omega), g_AA, if_pos rfl, if_neg (by omega)]; exact g13 j hj, b', d6, d7, by rw [pw_2] at d8; exact d8⟩ _ _ dX7_search_116
    · have hi6 : i < 6 := nI_lt_of (n := 6) c_66 (by omega)
      obtain ⟨k, rfl⟩ : ∃ q, k = q + 1 := ⟨k - 1, by omega⟩
      refine j_aload_n C dX7_search_69 rfl ?_
      refine j_iload_n C dX7_search_70 rfl ?_
      refine j_iload_n C dX7_search_71 rfl ?_
      refine j_callVi (As := [.int (nI pl), .int (nI i)]) (rest := []) C fG_X7_84 (k_fits (d := dlt (mmS nf) pl V) (pl := pl) (f := i) c I (MT.cg g11) (TN.cg g12) (by omega) (by omega) (fun k => dlt_le pl V k) (fun k hk => (g13 k hk).trans (hgo k hk))) c.1.2.2.2.1.1 rfl rfl (Nat.le_of_ble_eq_true rfl) ⟨Nat.le_of_ble_eq_true rfl, Nat.le_of_ble_eq_true rfl⟩ ⟨Nat.le_of_ble_eq_true rfl, Nat.le_of_ble_eq_true rfl⟩ dX7_search_72 (fun rv h_72 e_72 => ?_)
      obtain ⟨hv, e2_72⟩ := e_72
      replace e2_72 := e2_72.symm
      subst e2_72
      refine j_if_eq (tgt := 95) C dX7_search_75 (by decide) (fun c_75 => ?_) (fun c_75 => ?_)
      · refine j_iinc (lv' := [(0, .ref (P 5 4)), (1, .int (nI pl)), (2, .int (nI (ctN (mmS nf) pl V))), (3, .int (nI (i + 1)))]) C dX7_search_95 rfl (nI_1 _) (by decide) rfl ?_
        refine j_goto (tgt := 63) C dX7_search_98 (by decide) ?_
        refine j_sub [0, 1, 2, 3] rfl ?_
        refine ih k (i + 1) h b (by omega) (by omega) c hf g11 g12 g13 hb hb6 ?_
        by_cases e : i < mmS nf
        · rw [Nat.min_eq_left (by omega)] at hr ⊢
          have r3 : Res (mmS nf) (frS S yy nl ns nt) (cfS S (farS S yy nt)) nw ((V * (mmS nf + 1) + i) * (mmS nf + 1) ^ 2) (h_A h (P 5 14)) b := by rw [pw_1]; exact hr
          have r4 := r3.none (p := pl + 1) (by omega) (fun z => (hv.f c_75) (by
            have u := ((gd_1 (by omega)).mp z).2.resolve_left (by omega)
            exact ⟨⟨e, u.1⟩, u.2⟩))
          rw [Nat.add_assoc, pw_1] at r4
          exact r4
        · rw [Nat.min_eq_right (by omega)] at hr ⊢
          exact hr
      · have hfit := hv.t c_75
        have hdm : i < mmS nf := hfit.1.1
        have hd2 : i < mmS nf + 1 := by omega
        have hg2 : gdN (mmS nf) (frS S yy nl ns nt) (cfS S (farS S yy nt)) (pl + 1) (V * (mmS nf + 1) + i) := (gd_1 hd2).mpr ⟨g, Or.inr ⟨hfit.1.2, hfit.2⟩⟩
        have hr2 : Res (mmS nf) (frS S yy nl ns nt) (cfS S (farS S yy nt)) nw (V * (mmS nf + 1) ^ 3 + i * (mmS nf + 1) ^ 2) (h_A h (P 5 14)) b := by rw [Nat.min_eq_left (by omega)] at hr; exact hr
        have hgo2 : ∀ k, k < pl + 1 → h_A (s_A h (P 5 13) pl (nI i)) (P 5 13) k = cdv (mmS nf) (dlt (mmS nf) (pl + 1) (V * (mmS nf + 1) + i) k) := fun k hk => by
          rw [g_AA, if_pos rfl]
          by_cases e : k = pl
          · rw [if_pos e, e, dl_2 hd2]
            exact (cdv_lt hdm).symm
          · rw [if_neg e, dl_1 hd2 (by omega), g13 k (by omega)]
            exact hgo k (by omega)
        refine j_aload_n C dX7_search_78 rfl ?_
        refine j_gRe (f := 452) (v := .ref (P 5 13)) C fF_X7_24 rfl c.1.2.2.2.1.1 (by rw [c.1.2.2.2.1.2.2.2.2.2.1]; rfl) dX7_search_79 ?_
        refine j_iload_n C dX7_search_82 rfl ?_
        refine j_iload_n C dX7_search_83 rfl ?_
        refine j_iastN C c.1.2.2.2.2.2.2.2.2.1.1 ⟨c.1.2.2.2.2.2.2.2.2.1.2, by omega, by decide⟩ dX7_search_84 ?_
        refine j_aload_n C dX7_search_85 rfl ?_
        refine j_iload_n C dX7_search_86 rfl ?_
        refine j_iconst (v := 1) C dX7_search_87 (by decide) ?_
        refine j_iadd C dX7_search_88 ?_
        refine j_top (nI_1 pl) ?_
        refine j_iload_n C dX7_search_89 rfl ?_
        refine j_iconst (v := 1) C dX7_search_90 (by decide) ?_
        refine j_iadd C dX7_search_91 ?_
        refine j_top (show nI (ctN (mmS nf) pl V) + 1 = nI (ctN (mmS nf) (pl + 1) (V * (mmS nf + 1) + i)) by rw [ct_1 hd2, if_pos hdm]; exact nI_1 _) ?_
        refine j_callVv (As := [.int (nI (pl + 1)), .int (nI (ctN (mmS nf) (pl + 1) (V * (mmS nf + 1) + i)))]) (rest := []) C fG_X7_58 (k_srch2 (pl := pl + 1) (V := (V * (mmS nf + 1) + i)) (b := b) (c.ex Ex.rf.sA) I (MT.cg (fun j => by rw [g_AA, if_neg (pd8 c).2.2.2.2.2.1]; exact g11 j)) (TN.cg (fun j => by rw [g_AA, if_neg (pd8 c).2.2.2.2.2.2.2.1]; exact g12 j)) (by omega) hg2 hgo2 hb hb6 (by rw [pw_1, hA_ne _ _ _ (fun e => (pd8 c).2.2.2.2.2.2.2.2.2 e.symm)]; exact hr2)) (okA c.1.2.2.2.1.1) rfl rfl (Nat.le_of_ble_eq_true rfl) ⟨Nat.le_of_ble_eq_true rfl, Nat.le_of_ble_eq_true rfl⟩ ⟨Nat.le_of_ble_eq_true rfl, Nat.le_of_ble_eq_true rfl⟩ dX7_search_92 (fun h_92 e_92 => ?_)
        refine j_iinc (lv' := [(0, .ref (P 5 4)), (1, .int (nI pl)), (2, .int (nI (ctN (mmS nf) pl V))), (3, .int (nI (i + 1)))]) C dX7_search_95 rfl (nI_1 _) (by decide) rfl ?_
        refine j_goto (tgt := 63) C dX7_search_98 (by decide) ?_
        obtain ⟨d1, d2, d3, d4, d5, b', d6, d7, d8⟩ := e_92
        refine j_sub [0, 1, 2, 3] rfl ?_
        refine ih k (i + 1) h_92 b' (by omega) (by omega) d1 ((hf.tr (FrC.sA (i := 13) (by decide))).tr d2) (fun j => by rw [d3, g_AA, if_neg (pd8 c).2.2.2.2.2.1]; exact g11 j) (fun j => by rw [d4, g_AA, if_neg (pd8 c).2.2.2.2.2.2.2.1]; exact g12 j) (fun j hj => by rw [d5 j (by omega), g_AA, if_pos rfl, if_neg (by omega)]; exact g13 j hj) d7 d6 ?_
        rw [Nat.add_assoc, pw_1] at d8
        rw [Nat.min_eq_left (by omega)]
        exact d8
set_option maxHeartbeats 4000000 in
set_option maxRecDepth 100000 in
theorem k_srch3 {l : Launch} {D : va_G} {cy : Nat → ClassId} {h : jH} {S : Nat → Nat → Int32} {P : Nat → Nat → Nat} {T : Nat → Nat → Nat → List Nat} {nf nl nb ns nt nk nw yy : Nat} (c : CP h S P T nf nl nb ns nt nk nw) (I : SI S nf nl nb ns nt nk nw yy) (MT : plM h S P nf nl ns nt nw yy) (TN : plT h S P nf nt yy) {pl V b : Nat} (hp : pl + 3 = nw) (g : gdN (mmS nf) (frS S yy nl ns nt) (cfS S (farS S yy nt)) pl V) (hgo : ∀ k, k < pl → h_A h (P 5 13) k = cdv (mmS nf) (dlt (mmS nf) pl V k)) (hb : h_I h 454 (P 5 4) = nI b - 1) (hb6 : b ≤ nw + 1) (r : Res (mmS nf) (frS S yy nl ns nt) (cfS S (farS S yy nt)) nw (V * (mmS nf + 1) ^ 3) (h_A h (P 5 14)) b) : jV l D cy yX7_search (.code yX7_search cX7_search 4 ((Option.none : Option FieldType))) (rmd 6 0 0) [.ref (P 5 4), .int (nI pl), .int (nI (ctN (mmS nf) pl V))] h (srP S P T nf nl nb ns nt nk nw yy pl V 3 h) := by
  have hnw := I.wt.2
  have hmm := mmS_le nf
  have hcc := ct_cap (mm := mmS nf) pl V
  refine j_ofV (by decide) (Nat.le_of_ble_eq_true rfl) (fun p e s m args below meth c0 Q C hin ret => ?_)
  refine j_iload_n C dX7_search_0 rfl ?_
  refine j_if_lt (tgt := 19) C dX7_search_1 (by decide) (fun c_1 => ?_) (fun c_1 => ?_)
  · exact absurd c_1 (nI_pos (by omega))
  · refine j_iload_n C dX7_search_4 rfl ?_
    refine j_aload_n C dX7_search_5 rfl ?_
    refine j_gIe (f := 455) (v := (nI nw)) C fF_X7_34 rfl c.1.2.2.2.1.1 (by exact c.2.2.2.2.2.2.1.1.trans I.wt.1) dX7_search_6 ?_
    refine j_iadd C dX7_search_9 ?_
    refine j_iload_n C dX7_search_10 rfl ?_
    refine j_isub C dX7_search_11 ?_
    refine j_top (show nI (ctN (mmS nf) pl V) + nI nw - nI pl = nI ((ctN (mmS nf) pl V) + 3) by rw [nI_add, pk_sub (by omega), show (ctN (mmS nf) pl V) + nw - pl = (ctN (mmS nf) pl V) + 3 by omega]) ?_
    refine j_aload_n C dX7_search_12 rfl ?_
    refine j_gIe (f := 454) (v := (nI b - 1)) C fF_X7_30 rfl c.1.2.2.2.1.1 hb dX7_search_13 ?_
    refine j_icmp_gt (tgt := 20) C dX7_search_16 (by decide) (fun c_16 => ?_) (fun c_16 => ?_)
    · refine j_iload_n C dX7_search_20 rfl ?_
      refine j_aload_n C dX7_search_21 rfl ?_
      refine j_gIe (f := 455) (v := (nI nw)) C fF_X7_34 rfl c.1.2.2.2.1.1 (by exact c.2.2.2.2.2.2.1.1.trans I.wt.1) dX7_search_22 ?_
      refine j_icmp_ge (tgt := 37) C dX7_search_25 (by decide) (fun c_25 => ?_) (fun c_25 => ?_)
      · refine j_aload_n C dX7_search_37 rfl ?_
        refine j_iload_n C dX7_search_38 rfl ?_
        refine j_pI (f := 454) C fP_X7_30 rfl c.1.2.2.2.1.1 rfl rfl dX7_search_39 ?_
        refine j_aload_n C dX7_search_42 rfl ?_
        refine j_gRe (f := 452) (v := .ref (P 5 13)) C fF_X7_24 rfl (okI c.1.2.2.2.1.1) (by show va_rf (h_R h 452 (P 5 4)) = _; rw [c.1.2.2.2.1.2.2.2.2.2.1]; rfl) dX7_search_43 ?_
        refine j_iconst (v := 0) C dX7_search_46 (by decide) ?_
        refine j_aload_n C dX7_search_47 rfl ?_
        refine j_gRe (f := 453) (v := .ref (P 5 14)) C fF_X7_27 rfl (okI c.1.2.2.2.1.1) (by show va_rf (h_R h 453 (P 5 4)) = _; rw [c.1.2.2.2.1.2.2.2.2.2.2]; rfl) dX7_search_48 ?_
        refine j_iconst (v := 0) C dX7_search_51 (by decide) ?_
        refine j_aload_n C dX7_search_52 rfl ?_
        refine j_gRe (f := 453) (v := .ref (P 5 14)) C fF_X7_27 rfl (okI c.1.2.2.2.1.1) (by show va_rf (h_R h 453 (P 5 4)) = _; rw [c.1.2.2.2.1.2.2.2.2.2.2]; rfl) dX7_search_53 ?_
        refine j_alen (k := 12) (v := 5) C (okI c.1.2.2.2.2.2.2.2.2.2.1) ⟨by decide, rfl⟩ (congrArg nI c.1.2.2.2.2.2.2.2.2.2.2) dX7_search_56 ?_
        exact absurd (nI_ge_of c_25 (by omega) (by omega)) (by omega)
      · refine j_iload_n C dX7_search_28 rfl ?_
        refine j_aload_n C dX7_search_29 rfl ?_
        refine j_gRe (f := 452) (v := .ref (P 5 13)) C fF_X7_24 rfl c.1.2.2.2.1.1 (by rw [c.1.2.2.2.1.2.2.2.2.2.1]; rfl) dX7_search_30 ?_
        refine j_alen (k := 12) (v := 5) C c.1.2.2.2.2.2.2.2.2.1.1 ⟨by decide, rfl⟩ (congrArg nI c.1.2.2.2.2.2.2.2.2.1.2) dX7_search_33 ?_
        refine j_icmp_lt (tgt := 61) C dX7_search_34 (by decide) (fun c_34 => ?_) (fun c_34 => ?_)
        · refine j_iconst (v := 0) C dX7_search_61 (by decide) ?_
          refine j_istore_n (lv' := [(0, .ref (P 5 4)), (1, .int (nI pl)), (2, .int (nI (ctN (mmS nf) pl V))), (3, .int 0)]) C dX7_search_62 (by decide) rfl ?_
          exact L_sr3 (h0 := h) C MT TN hp g hgo hnw hmm I (fun h' e lv pc hd => ret h' 0 0 lv pc e (Nat.zero_le _) (Nat.zero_le _) hd) 7 6 0 h b (by omega) (by omega) c FrC.rf (fun _ => rfl) (fun _ => rfl) (fun _ _ => rfl) hb hb6 (by rw [show min 0 (mmS nf) = 0 by omega, Nat.zero_mul, Nat.add_zero]; exact r)
        · refine j_aload_n C dX7_search_37 rfl ?_
          refine j_iload_n C dX7_search_38 rfl ?_
          refine j_pI (f := 454) C fP_X7_30 rfl c.1.2.2.2.1.1 rfl rfl dX7_search_39 ?_
          refine j_aload_n C dX7_search_42 rfl ?_
          refine j_gRe (f := 452) (v := .ref (P 5 13)) C fF_X7_24 rfl (okI c.1.2.2.2.1.1) (by show va_rf (h_R h 452 (P 5 4)) = _; rw [c.1.2.2.2.1.2.2.2.2.2.1]; rfl) dX7_search_43 ?_
          refine j_iconst (v := 0) C dX7_search_46 (by decide) ?_
          refine j_aload_n C dX7_search_47 rfl ?_
          refine j_gRe (f := 453) (v := .ref (P 5 14)) C fF_X7_27 rfl (okI c.1.2.2.2.1.1) (by show va_rf (h_R h 453 (P 5 4)) = _; rw [c.1.2.2.2.1.2.2.2.2.2.2]; rfl) dX7_search_48 ?_
          refine j_iconst (v := 0) C dX7_search_51 (by decide) ?_
          refine j_aload_n C dX7_search_52 rfl ?_
          refine j_gRe (f := 453) (v := .ref (P 5 14)) C fF_X7_27 rfl (okI c.1.2.2.2.1.1) (by show va_rf (h_R h 453 (P 5 4)) = _; rw [c.1.2.2.2.1.2.2.2.2.2.2]; rfl) dX7_search_53 ?_
          refine j_alen (k := 12) (v := 5) C (okI c.1.2.2.2.2.2.2.2.2.2.1) ⟨by decide, rfl⟩ (congrArg nI c.1.2.2.2.2.2.2.2.2.2.2) dX7_search_56 ?_
          exact absurd (nI_lt (a := pl) (b := 5) (by omega) (by decide)) c_34
    · rw [b_lt (by omega) (by omega)] at c_16
      exact ret h 0 0 _ _ ⟨c, FrC.rf, fun _ => rfl, fun _ => rfl, fun _ _ => rfl, b, hb6, hb, r.prune hp (by omega)⟩ (Nat.zero_le _) (Nat.zero_le _) dX7_search_19
set_option maxHeartbeats 4000000 in
set_option maxRecDepth 100000 in
theorem L_sr4 {p : Program} {l : Launch} {e : Env} {s : State} {m : MethodId} {args : Array Value} {below : List Frame} {meth : Method} {c0 : Code} {D : va_G} {cy : Nat → ClassId} {A : Nat → Prop} {Q : State → Prop} (C : jC p s m args meth c0 D cy A 4 RX7 cX7_search) {S : Nat → Nat → Int32} {P : Nat → Nat → Nat} {T : Nat → Nat → Nat → List Nat} {nf nl nb ns nt nk nw yy : Nat} {h0 : jH} (MT : plM h0 S P nf nl ns nt nw yy) (TN : plT h0 S P nf nt yy) {pl V : Nat} (hp : pl + 4 = nw) (g : gdN (mmS nf) (frS S yy nl ns nt) (cfS S (farS S yy nt)) pl V) (hgo : ∀ k, k < pl → h_A h0 (P 5 13) k = cdv (mmS nf) (dlt (mmS nf) pl V k)) (hnw : nw ≤ 5) (hmm : mmS nf ≤ 6) (I : SI S nf nl nb ns nt nk nw yy) (ret : ∀ h', srP S P T nf nl nb ns nt nk nw yy pl V 4 h0 h' → ∀ (lv : List (Nat × Value)) (pc : Nat), decode cX7_search pc = .ok (.return_, 1) → jW p l e (rmd 7 0 0) s m args below meth c0 D cy A 4 0 0 Q h' lv pc []) : ∀ (n k i : Nat) (h : jH) (b : Nat), k < n → i + k = 6 → CP h S P T nf nl nb ns nt nk nw → FrC P h0 h → (∀ j, h_A h (P 5 11) j = h_A h0 (P 5 11) j) → (∀ j, h_A h (P 5 12) j = h_A h0 (P 5 12) j) → (∀ j, j < pl → h_A h (P 5 13) j = h_A h0 (P 5 13) j) → h_I h 454 (P 5 4) = nI b - 1 → b ≤ nw + 1 → Res (mmS nf) (frS S yy nl ns nt) (cfS S (farS S yy nt)) nw (V * (mmS nf + 1) ^ 4 + min i (mmS nf) * (mmS nf + 1) ^ 3) (h_A h (P 5 14)) b → jW p l e (rmd 7 0 0) s m args below meth c0 D cy A 4 0 0 Q h [(0, .ref (P 5 4)), (1, .int (nI pl)), (2, .int (nI (ctN (mmS nf) pl V))), (3, .int (nI i))] 63 [] := by
  intro n
  induction n with
  | zero => intro k i h b h1; exact absurd h1 (Nat.not_lt_zero _)
  | succ n ih =>
    intro k i h b h1 h2 c hf g11 g12 g13 hb hb6 hr
    refine j_iload_n C dX7_search_63 rfl ?_
    refine j_bipush (v := 6) C dX7_search_64 (by decide) ?_
    refine j_icmp_ge (tgt := 101) C dX7_search_66 (by decide) (fun c_66 => ?_) (fun c_66 => ?_)
    · obtain rfl : i = 6 := by have := nI_ge_of (n := 6) c_66 (by omega) (by omega); omega
      have hd2 : mmS nf < mmS nf + 1 := by omega
      have hg2 : gdN (mmS nf) (frS S yy nl ns nt) (cfS S (farS S yy nt)) (pl + 1) (V * (mmS nf + 1) + mmS nf) := (gd_1 hd2).mpr ⟨g, Or.inl rfl⟩
      have hr2 : Res (mmS nf) (frS S yy nl ns nt) (cfS S (farS S yy nt)) nw (V * (mmS nf + 1) ^ 4 + mmS nf * (mmS nf + 1) ^ 3) (h_A h (P 5 14)) b := by rw [Nat.min_eq_right (by omega)] at hr; exact hr
      have hgo2 : ∀ k, k < pl + 1 → h_A (s_A h (P 5 13) pl (-1)) (P 5 13) k = cdv (mmS nf) (dlt (mmS nf) (pl + 1) (V * (mmS nf + 1) + (mmS nf)) k) := fun k hk => by
        rw [g_AA, if_pos rfl]
        by_cases e : k = pl
        · rw [if_pos e, e, dl_2 hd2]
          exact cdv_m.symm
        · rw [if_neg e, dl_1 hd2 (by omega), g13 k (by omega)]
          exact hgo k (by omega)
      refine j_aload_n C dX7_search_101 rfl ?_
      refine j_gRe (f := 452) (v := .ref (P 5 13)) C fF_X7_24 rfl c.1.2.2.2.1.1 (by rw [c.1.2.2.2.1.2.2.2.2.2.1]; rfl) dX7_search_102 ?_
      refine j_iload_n C dX7_search_105 rfl ?_
      refine j_iconst (v := (-1)) C dX7_search_106 (by decide) ?_
      refine j_iastN C c.1.2.2.2.2.2.2.2.2.1.1 ⟨c.1.2.2.2.2.2.2.2.2.1.2, by omega, by decide⟩ dX7_search_107 ?_
      refine j_aload_n C dX7_search_108 rfl ?_
      refine j_iload_n C dX7_search_109 rfl ?_
      refine j_iconst (v := 1) C dX7_search_110 (by decide) ?_
      refine j_iadd C dX7_search_111 ?_
      refine j_top (nI_1 pl) ?_
      refine j_iload_n C dX7_search_112 rfl ?_
      refine j_top (show nI (ctN (mmS nf) pl V) = nI (ctN (mmS nf) (pl + 1) (V * (mmS nf + 1) + mmS nf)) by rw [ct_1 hd2, if_neg (Nat.lt_irrefl _)]; rfl) ?_
      refine j_callVv (As := [.int (nI (pl + 1)), .int (nI (ctN (mmS nf) (pl + 1) (V * (mmS nf + 1) + mmS nf)))]) (rest := []) C fG_X7_58 (k_srch3 (pl := pl + 1) (V := (V * (mmS nf + 1) + (mmS nf))) (b := b) (c.ex Ex.rf.sA) I (MT.cg (fun j => by rw [g_AA, if_neg (pd8 c).2.2.2.2.2.1]; exact g11 j)) (TN.cg (fun j => by rw [g_AA, if_neg (pd8 c).2.2.2.2.2.2.2.1]; exact g12 j)) (by omega) hg2 hgo2 hb hb6 (by rw [pw_1, hA_ne _ _ _ (fun e => (pd8 c).2.2.2.2.2.2.2.2.2 e.symm)]; exact hr2)) (okA c.1.2.2.2.1.1) rfl rfl (Nat.le_of_ble_eq_true rfl) ⟨Nat.le_of_ble_eq_true rfl, Nat.le_of_ble_eq_true rfl⟩ ⟨Nat.le_of_ble_eq_true rfl, Nat.le_of_ble_eq_true rfl⟩ dX7_search_113 (fun h_113 e_113 => ?_)
      obtain ⟨d1, d2, d3, d4, d5, b', d6, d7, d8⟩ := e_113
      exact ret h_113 ⟨d1, (hf.tr (FrC.sA (i := 13) (by decide))).tr d2, fun j => by rw [d3, g_AA, if_neg (pd8 c).2.2.2.2.2.1]; exact g11 j, fun j => by rw [d4, g_AA, if_neg (pd8 c).2.2.2.2.2.2.2.1]; exact g12 j, fun j hj => by rw [d5 j (by omega), g_AA, if_pos rfl, if_neg (by omega)]; exact g13 j hj, b', d6, d7, by rw [pw_2] at d8; exact d8⟩ _ _ dX7_search_116
    · have hi6 : i < 6 := nI_lt_of (n := 6) c_66 (by omega)
      obtain ⟨k, rfl⟩ : ∃ q, k = q + 1 := ⟨k - 1, by omega⟩
      refine j_aload_n C dX7_search_69 rfl ?_
      refine j_iload_n C dX7_search_70 rfl ?_
      refine j_iload_n C dX7_search_71 rfl ?_
      refine j_callVi (As := [.int (nI pl), .int (nI i)]) (rest := []) C fG_X7_84 (k_fits (d := dlt (mmS nf) pl V) (pl := pl) (f := i) c I (MT.cg g11) (TN.cg g12) (by omega) (by omega) (fun k => dlt_le pl V k) (fun k hk => (g13 k hk).trans (hgo k hk))) c.1.2.2.2.1.1 rfl rfl (Nat.le_of_ble_eq_true rfl) ⟨Nat.le_of_ble_eq_true rfl, Nat.le_of_ble_eq_true rfl⟩ ⟨Nat.le_of_ble_eq_true rfl, Nat.le_of_ble_eq_true rfl⟩ dX7_search_72 (fun rv h_72 e_72 => ?_)
      obtain ⟨hv, e2_72⟩ := e_72
      replace e2_72 := e2_72.symm
      subst e2_72
      refine j_if_eq (tgt := 95) C dX7_search_75 (by decide) (fun c_75 => ?_) (fun c_75 => ?_)
      · refine j_iinc (lv' := [(0, .ref (P 5 4)), (1, .int (nI pl)), (2, .int (nI (ctN (mmS nf) pl V))), (3, .int (nI (i + 1)))]) C dX7_search_95 rfl (nI_1 _) (by decide) rfl ?_
        refine j_goto (tgt := 63) C dX7_search_98 (by decide) ?_
        refine j_sub [0, 1, 2, 3] rfl ?_
        refine ih k (i + 1) h b (by omega) (by omega) c hf g11 g12 g13 hb hb6 ?_
        by_cases e : i < mmS nf
        · rw [Nat.min_eq_left (by omega)] at hr ⊢
          have r3 : Res (mmS nf) (frS S yy nl ns nt) (cfS S (farS S yy nt)) nw ((V * (mmS nf + 1) + i) * (mmS nf + 1) ^ 3) (h_A h (P 5 14)) b := by rw [pw_1]; exact hr
          have r4 := r3.none (p := pl + 1) (by omega) (fun z => (hv.f c_75) (by
            have u := ((gd_1 (by omega)).mp z).2.resolve_left (by omega)
            exact ⟨⟨e, u.1⟩, u.2⟩))
          rw [Nat.add_assoc, pw_1] at r4
          exact r4
        · rw [Nat.min_eq_right (by omega)] at hr ⊢
          exact hr
      · have hfit := hv.t c_75
        have hdm : i < mmS nf := hfit.1.1
        have hd2 : i < mmS nf + 1 := by omega
        have hg2 : gdN (mmS nf) (frS S yy nl ns nt) (cfS S (farS S yy nt)) (pl + 1) (V * (mmS nf + 1) + i) := (gd_1 hd2).mpr ⟨g, Or.inr ⟨hfit.1.2, hfit.2⟩⟩
        have hr2 : Res (mmS nf) (frS S yy nl ns nt) (cfS S (farS S yy nt)) nw (V * (mmS nf + 1) ^ 4 + i * (mmS nf + 1) ^ 3) (h_A h (P 5 14)) b := by rw [Nat.min_eq_left (by omega)] at hr; exact hr
        have hgo2 : ∀ k, k < pl + 1 → h_A (s_A h (P 5 13) pl (nI i)) (P 5 13) k = cdv (mmS nf) (dlt (mmS nf) (pl + 1) (V * (mmS nf + 1) + i) k) := fun k hk => by
          rw [g_AA, if_pos rfl]
          by_cases e : k = pl
          · rw [if_pos e, e, dl_2 hd2]
            exact (cdv_lt hdm).symm
          · rw [if_neg e, dl_1 hd2 (by omega), g13 k (by omega)]
            exact hgo k (by omega)
        refine j_aload_n C dX7_search_78 rfl ?_
        refine j_gRe (f := 452) (v := .ref (P 5 13)) C fF_X7_24 rfl c.1.2.2.2.1.1 (by rw [c.1.2.2.2.1.2.2.2.2.2.1]; rfl) dX7_search_79 ?_
        refine j_iload_n C dX7_search_82 rfl ?_
        refine j_iload_n C dX7_search_83 rfl ?_
        refine j_iastN C c.1.2.2.2.2.2.2.2.2.1.1 ⟨c.1.2.2.2.2.2.2.2.2.1.2, by omega, by decide⟩ dX7_search_84 ?_
        refine j_aload_n C dX7_search_85 rfl ?_
        refine j_iload_n C dX7_search_86 rfl ?_
        refine j_iconst (v := 1) C dX7_search_87 (by decide) ?_
        refine j_iadd C dX7_search_88 ?_
        refine j_top (nI_1 pl) ?_
        refine j_iload_n C dX7_search_89 rfl ?_
        refine j_iconst (v := 1) C dX7_search_90 (by decide) ?_
        refine j_iadd C dX7_search_91 ?_
        refine j_top (show nI (ctN (mmS nf) pl V) + 1 = nI (ctN (mmS nf) (pl + 1) (V * (mmS nf + 1) + i)) by rw [ct_1 hd2, if_pos hdm]; exact nI_1 _) ?_
        refine j_callVv (As := [.int (nI (pl + 1)), .int (nI (ctN (mmS nf) (pl + 1) (V * (mmS nf + 1) + i)))]) (rest := []) C fG_X7_58 (k_srch3 (pl := pl + 1) (V := (V * (mmS nf + 1) + i)) (b := b) (c.ex Ex.rf.sA) I (MT.cg (fun j => by rw [g_AA, if_neg (pd8 c).2.2.2.2.2.1]; exact g11 j)) (TN.cg (fun j => by rw [g_AA, if_neg (pd8 c).2.2.2.2.2.2.2.1]; exact g12 j)) (by omega) hg2 hgo2 hb hb6 (by rw [pw_1, hA_ne _ _ _ (fun e => (pd8 c).2.2.2.2.2.2.2.2.2 e.symm)]; exact hr2)) (okA c.1.2.2.2.1.1) rfl rfl (Nat.le_of_ble_eq_true rfl) ⟨Nat.le_of_ble_eq_true rfl, Nat.le_of_ble_eq_true rfl⟩ ⟨Nat.le_of_ble_eq_true rfl, Nat.le_of_ble_eq_true rfl⟩ dX7_search_92 (fun h_92 e_92 => ?_)
        refine j_iinc (lv' := [(0, .ref (P 5 4)), (1, .int (nI pl)), (2, .int (nI (ctN (mmS nf) pl V))), (3, .int (nI (i + 1)))]) C dX7_search_95 rfl (nI_1 _) (by decide) rfl ?_
        refine j_goto (tgt := 63) C dX7_search_98 (by decide) ?_
        obtain ⟨d1, d2, d3, d4, d5, b', d6, d7, d8⟩ := e_92
        refine j_sub [0, 1, 2, 3] rfl ?_
        refine ih k (i + 1) h_92 b' (by omega) (by omega) d1 ((hf.tr (FrC.sA (i := 13) (by decide))).tr d2) (fun j => by rw [d3, g_AA, if_neg (pd8 c).2.2.2.2.2.1]; exact g11 j) (fun j => by rw [d4, g_AA, if_neg (pd8 c).2.2.2.2.2.2.2.1]; exact g12 j) (fun j hj => by rw [d5 j (by omega), g_AA, if_pos rfl, if_neg (by omega)]; exact g13 j hj) d7 d6 ?_
        rw [Nat.add_assoc, pw_1] at d8
        rw [Nat.min_eq_left (by omega)]
        exact d8
set_option maxHeartbeats 4000000 in
set_option maxRecDepth 100000 in
theorem k_srch4 {l : Launch} {D : va_G} {cy : Nat → ClassId} {h : jH} {S : Nat → Nat → Int32} {P : Nat → Nat → Nat} {T : Nat → Nat → Nat → List Nat} {nf nl nb ns nt nk nw yy : Nat} (c : CP h S P T nf nl nb ns nt nk nw) (I : SI S nf nl nb ns nt nk nw yy) (MT : plM h S P nf nl ns nt nw yy) (TN : plT h S P nf nt yy) {pl V b : Nat} (hp : pl + 4 = nw) (g : gdN (mmS nf) (frS S yy nl ns nt) (cfS S (farS S yy nt)) pl V) (hgo : ∀ k, k < pl → h_A h (P 5 13) k = cdv (mmS nf) (dlt (mmS nf) pl V k)) (hb : h_I h 454 (P 5 4) = nI b - 1) (hb6 : b ≤ nw + 1) (r : Res (mmS nf) (frS S yy nl ns nt) (cfS S (farS S yy nt)) nw (V * (mmS nf + 1) ^ 4) (h_A h (P 5 14)) b) : jV l D cy yX7_search (.code yX7_search cX7_search 4 ((Option.none : Option FieldType))) (rmd 7 0 0) [.ref (P 5 4), .int (nI pl), .int (nI (ctN (mmS nf) pl V))] h (srP S P T nf nl nb ns nt nk nw yy pl V 4 h) := by
  have hnw := I.wt.2
  have hmm := mmS_le nf
  have hcc := ct_cap (mm := mmS nf) pl V
  refine j_ofV (by decide) (Nat.le_of_ble_eq_true rfl) (fun p e s m args below meth c0 Q C hin ret => ?_)
  refine j_iload_n C dX7_search_0 rfl ?_
  refine j_if_lt (tgt := 19) C dX7_search_1 (by decide) (fun c_1 => ?_) (fun c_1 => ?_)
  · exact absurd c_1 (nI_pos (by omega))
  · refine j_iload_n C dX7_search_4 rfl ?_
    refine j_aload_n C dX7_search_5 rfl ?_
    refine j_gIe (f := 455) (v := (nI nw)) C fF_X7_34 rfl c.1.2.2.2.1.1 (by exact c.2.2.2.2.2.2.1.1.trans I.wt.1) dX7_search_6 ?_
    refine j_iadd C dX7_search_9 ?_
    refine j_iload_n C dX7_search_10 rfl ?_
    refine j_isub C dX7_search_11 ?_
    refine j_top (show nI (ctN (mmS nf) pl V) + nI nw - nI pl = nI ((ctN (mmS nf) pl V) + 4) by rw [nI_add, pk_sub (by omega), show (ctN (mmS nf) pl V) + nw - pl = (ctN (mmS nf) pl V) + 4 by omega]) ?_
    refine j_aload_n C dX7_search_12 rfl ?_
    refine j_gIe (f := 454) (v := (nI b - 1)) C fF_X7_30 rfl c.1.2.2.2.1.1 hb dX7_search_13 ?_
    refine j_icmp_gt (tgt := 20) C dX7_search_16 (by decide) (fun c_16 => ?_) (fun c_16 => ?_)
    · refine j_iload_n C dX7_search_20 rfl ?_
      refine j_aload_n C dX7_search_21 rfl ?_
      refine j_gIe (f := 455) (v := (nI nw)) C fF_X7_34 rfl c.1.2.2.2.1.1 (by exact c.2.2.2.2.2.2.1.1.trans I.wt.1) dX7_search_22 ?_
      refine j_icmp_ge (tgt := 37) C dX7_search_25 (by decide) (fun c_25 => ?_) (fun c_25 => ?_)
      · refine j_aload_n C dX7_search_37 rfl ?_
        refine j_iload_n C dX7_search_38 rfl ?_
        refine j_pI (f := 454) C fP_X7_30 rfl c.1.2.2.2.1.1 rfl rfl dX7_search_39 ?_
        refine j_aload_n C dX7_search_42 rfl ?_
        refine j_gRe (f := 452) (v := .ref (P 5 13)) C fF_X7_24 rfl (okI c.1.2.2.2.1.1) (by show va_rf (h_R h 452 (P 5 4)) = _; rw [c.1.2.2.2.1.2.2.2.2.2.1]; rfl) dX7_search_43 ?_
        refine j_iconst (v := 0) C dX7_search_46 (by decide) ?_
        refine j_aload_n C dX7_search_47 rfl ?_
        refine j_gRe (f := 453) (v := .ref (P 5 14)) C fF_X7_27 rfl (okI c.1.2.2.2.1.1) (by show va_rf (h_R h 453 (P 5 4)) = _; rw [c.1.2.2.2.1.2.2.2.2.2.2]; rfl) dX7_search_48 ?_
        refine j_iconst (v := 0) C dX7_search_51 (by decide) ?_
        refine j_aload_n C dX7_search_52 rfl ?_
        refine j_gRe (f := 453) (v := .ref (P 5 14)) C fF_X7_27 rfl (okI c.1.2.2.2.1.1) (by show va_rf (h_R h 453 (P 5 4)) = _; rw [c.1.2.2.2.1.2.2.2.2.2.2]; rfl) dX7_search_53 ?_
        refine j_alen (k := 12) (v := 5) C (okI c.1.2.2.2.2.2.2.2.2.2.1) ⟨by decide, rfl⟩ (congrArg nI c.1.2.2.2.2.2.2.2.2.2.2) dX7_search_56 ?_
        exact absurd (nI_ge_of c_25 (by omega) (by omega)) (by omega)
      · refine j_iload_n C dX7_search_28 rfl ?_
        refine j_aload_n C dX7_search_29 rfl ?_
        refine j_gRe (f := 452) (v := .ref (P 5 13)) C fF_X7_24 rfl c.1.2.2.2.1.1 (by rw [c.1.2.2.2.1.2.2.2.2.2.1]; rfl) dX7_search_30 ?_
        refine j_alen (k := 12) (v := 5) C c.1.2.2.2.2.2.2.2.2.1.1 ⟨by decide, rfl⟩ (congrArg nI c.1.2.2.2.2.2.2.2.2.1.2) dX7_search_33 ?_
        refine j_icmp_lt (tgt := 61) C dX7_search_34 (by decide) (fun c_34 => ?_) (fun c_34 => ?_)
        · refine j_iconst (v := 0) C dX7_search_61 (by decide) ?_
          refine j_istore_n (lv' := [(0, .ref (P 5 4)), (1, .int (nI pl)), (2, .int (nI (ctN (mmS nf) pl V))), (3, .int 0)]) C dX7_search_62 (by decide) rfl ?_
          exact L_sr4 (h0 := h) C MT TN hp g hgo hnw hmm I (fun h' e lv pc hd => ret h' 0 0 lv pc e (Nat.zero_le _) (Nat.zero_le _) hd) 7 6 0 h b (by omega) (by omega) c FrC.rf (fun _ => rfl) (fun _ => rfl) (fun _ _ => rfl) hb hb6 (by rw [show min 0 (mmS nf) = 0 by omega, Nat.zero_mul, Nat.add_zero]; exact r)
        · refine j_aload_n C dX7_search_37 rfl ?_
          refine j_iload_n C dX7_search_38 rfl ?_
          refine j_pI (f := 454) C fP_X7_30 rfl c.1.2.2.2.1.1 rfl rfl dX7_search_39 ?_
          refine j_aload_n C dX7_search_42 rfl ?_
          refine j_gRe (f := 452) (v := .ref (P 5 13)) C fF_X7_24 rfl (okI c.1.2.2.2.1.1) (by show va_rf (h_R h 452 (P 5 4)) = _; rw [c.1.2.2.2.1.2.2.2.2.2.1]; rfl) dX7_search_43 ?_
          refine j_iconst (v := 0) C dX7_search_46 (by decide) ?_
          refine j_aload_n C dX7_search_47 rfl ?_
          refine j_gRe (f := 453) (v := .ref (P 5 14)) C fF_X7_27 rfl (okI c.1.2.2.2.1.1) (by show va_rf (h_R h 453 (P 5 4)) = _; rw [c.1.2.2.2.1.2.2.2.2.2.2]; rfl) dX7_search_48 ?_
          refine j_iconst (v := 0) C dX7_search_51 (by decide) ?_
          refine j_aload_n C dX7_search_52 rfl ?_
          refine j_gRe (f := 453) (v := .ref (P 5 14)) C fF_X7_27 rfl (okI c.1.2.2.2.1.1) (by show va_rf (h_R h 453 (P 5 4)) = _; rw [c.1.2.2.2.1.2.2.2.2.2.2]; rfl) dX7_search_53 ?_
          refine j_alen (k := 12) (v := 5) C (okI c.1.2.2.2.2.2.2.2.2.2.1) ⟨by decide, rfl⟩ (congrArg nI c.1.2.2.2.2.2.2.2.2.2.2) dX7_search_56 ?_
          exact absurd (nI_lt (a := pl) (b := 5) (by omega) (by decide)) c_34
    · rw [b_lt (by omega) (by omega)] at c_16
      exact ret h 0 0 _ _ ⟨c, FrC.rf, fun _ => rfl, fun _ => rfl, fun _ _ => rfl, b, hb6, hb, r.prune hp (by omega)⟩ (Nat.zero_le _) (Nat.zero_le _) dX7_search_19
set_option maxHeartbeats 4000000 in
set_option maxRecDepth 100000 in
theorem L_sr5 {p : Program} {l : Launch} {e : Env} {s : State} {m : MethodId} {args : Array Value} {below : List Frame} {meth : Method} {c0 : Code} {D : va_G} {cy : Nat → ClassId} {A : Nat → Prop} {Q : State → Prop} (C : jC p s m args meth c0 D cy A 4 RX7 cX7_search) {S : Nat → Nat → Int32} {P : Nat → Nat → Nat} {T : Nat → Nat → Nat → List Nat} {nf nl nb ns nt nk nw yy : Nat} {h0 : jH} (MT : plM h0 S P nf nl ns nt nw yy) (TN : plT h0 S P nf nt yy) {pl V : Nat} (hp : pl + 5 = nw) (g : gdN (mmS nf) (frS S yy nl ns nt) (cfS S (farS S yy nt)) pl V) (hgo : ∀ k, k < pl → h_A h0 (P 5 13) k = cdv (mmS nf) (dlt (mmS nf) pl V k)) (hnw : nw ≤ 5) (hmm : mmS nf ≤ 6) (I : SI S nf nl nb ns nt nk nw yy) (ret : ∀ h', srP S P T nf nl nb ns nt nk nw yy pl V 5 h0 h' → ∀ (lv : List (Nat × Value)) (pc : Nat), decode cX7_search pc = .ok (.return_, 1) → jW p l e (rmd 8 0 0) s m args below meth c0 D cy A 4 0 0 Q h' lv pc []) : ∀ (n k i : Nat) (h : jH) (b : Nat), k < n → i + k = 6 → CP h S P T nf nl nb ns nt nk nw → FrC P h0 h → (∀ j, h_A h (P 5 11) j = h_A h0 (P 5 11) j) → (∀ j, h_A h (P 5 12) j = h_A h0 (P 5 12) j) → (∀ j, j < pl → h_A h (P 5 13) j = h_A h0 (P 5 13) j) → h_I h 454 (P 5 4) = nI b - 1 → b ≤ nw + 1 → Res (mmS nf) (frS S yy nl ns nt) (cfS S (farS S yy nt)) nw (V * (mmS nf + 1) ^ 5 + min i (mmS nf) * (mmS nf + 1) ^ 4) (h_A h (P 5 14)) b → jW p l e (rmd 8 0 0) s m args below meth c0 D cy A 4 0 0 Q h [(0, .ref (P 5 4)), (1, .int (nI pl)), (2, .int (nI (ctN (mmS nf) pl V))), (3, .int (nI i))] 63 [] := by
  intro n
  induction n with
  | zero => intro k i h b h1; exact absurd h1 (Nat.not_lt_zero _)
  | succ n ih =>
    intro k i h b h1 h2 c hf g11 g12 g13 hb hb6 hr
    refine j_iload_n C dX7_search_63 rfl ?_
    refine j_bipush (v := 6) C dX7_search_64 (by decide) ?_
    refine j_icmp_ge (tgt := 101) C dX7_search_66 (by decide) (fun c_66 => ?_) (fun c_66 => ?_)
    · obtain rfl : i = 6 := by have := nI_ge_of (n := 6) c_66 (by omega) (by omega); omega
      have hd2 : mmS nf < mmS nf + 1 := by omega
      have hg2 : gdN (mmS nf) (frS S yy nl ns nt) (cfS S (farS S yy nt)) (pl + 1) (V * (mmS nf + 1) + mmS nf) := (gd_1 hd2).mpr ⟨g, Or.inl rfl⟩
      have hr2 : Res (mmS nf) (frS S yy nl ns nt) (cfS S (farS S yy nt)) nw (V * (mmS nf + 1) ^ 5 + mmS nf * (mmS nf + 1) ^ 4) (h_A h (P 5 14)) b := by rw [Nat.min_eq_right (by omega)] at hr; exact hr
      have hgo2 : ∀ k, k < pl + 1 → h_A (s_A h (P 5 13) pl (-1)) (P 5 13) k = cdv (mmS nf) (dlt (mmS nf) (pl + 1) (V * (mmS nf + 1) + (mmS nf)) k) := fun k hk => by
        rw [g_AA, if_pos rfl]
        by_cases e : k = pl
        · rw [if_pos e, e, dl_2 hd2]
          exact cdv_m.symm
        · rw [if_neg e, dl_1 hd2 (by omega), g13 k (by omega)]
          exact hgo k (by omega)
      refine j_aload_n C dX7_search_101 rfl ?_
      refine j_gRe (f := 452) (v := .ref (P 5 13)) C fF_X7_24 rfl c.1.2.2.2.1.1 (by rw [c.1.2.2.2.1.2.2.2.2.2.1]; rfl) dX7_search_102 ?_
      refine j_iload_n C dX7_search_105 rfl ?_
      refine j_iconst (v := (-1)) C dX7_search_106 (by decide) ?_
      refine j_iastN C c.1.2.2.2.2.2.2.2.2.1.1 ⟨c.1.2.2.2.2.2.2.2.2.1.2, by omega, by decide⟩ dX7_search_107 ?_
      refine j_aload_n C dX7_search_108 rfl ?_
      refine j_iload_n C dX7_search_109 rfl ?_
      refine j_iconst (v := 1) C dX7_search_110 (by decide) ?_
      refine j_iadd C dX7_search_111 ?_
      refine j_top (nI_1 pl) ?_
      refine j_iload_n C dX7_search_112 rfl ?_
      refine j_top (show nI (ctN (mmS nf) pl V) = nI (ctN (mmS nf) (pl + 1) (V * (mmS nf + 1) + mmS nf)) by rw [ct_1 hd2, if_neg (Nat.lt_irrefl _)]; rfl) ?_
      refine j_callVv (As := [.int (nI (pl + 1)), .int (nI (ctN (mmS nf) (pl + 1) (V * (mmS nf + 1) + mmS nf)))]) (rest := []) C fG_X7_58 (k_srch4 (pl := pl + 1) (V := (V * (mmS nf + 1) + (mmS nf))) (b := b) (c.ex Ex.rf.sA) I (MT.cg (fun j => by rw [g_AA, if_neg (pd8 c).2.2.2.2.2.1]; exact g11 j)) (TN.cg (fun j => by rw [g_AA, if_neg (pd8 c).2.2.2.2.2.2.2.1]; exact g12 j)) (by omega) hg2 hgo2 hb hb6 (by rw [pw_1, hA_ne _ _ _ (fun e => (pd8 c).2.2.2.2.2.2.2.2.2 e.symm)]; exact hr2)) (okA c.1.2.2.2.1.1) rfl rfl (Nat.le_of_ble_eq_true rfl) ⟨Nat.le_of_ble_eq_true rfl, Nat.le_of_ble_eq_true rfl⟩ ⟨Nat.le_of_ble_eq_true rfl, Nat.le_of_ble_eq_true rfl⟩ dX7_search_113 (fun h_113 e_113 => ?_)
      obtain ⟨d1, d2, d3, d4, d5, b', d6, d7, d8⟩ := e_113
      exact ret h_113 ⟨d1, (hf.tr (FrC.sA (i := 13) (by decide))).tr d2, fun j => by rw [d3, g_AA, if_neg (pd8 c).2.2.2.2.2.1]; exact g11 j, fun j => by rw [d4, g_AA, if_neg (pd8 c).2.2.2.2.2.2.2.1]; exact g12 j, fun j hj => by rw [d5 j (by omega), g_AA, if_pos rfl, if_neg (by omega)]; exact g13 j hj, b', d6, d7, by rw [pw_2] at d8; exact d8⟩ _ _ dX7_search_116
    · have hi6 : i < 6 := nI_lt_of (n := 6) c_66 (by omega)
      obtain ⟨k, rfl⟩ : ∃ q, k = q + 1 := ⟨k - 1, by omega⟩
      refine j_aload_n C dX7_search_69 rfl ?_
      refine j_iload_n C dX7_search_70 rfl ?_
      refine j_iload_n C dX7_search_71 rfl ?_
      refine j_callVi (As := [.int (nI pl), .int (nI i)]) (rest := []) C fG_X7_84 (k_fits (d := dlt (mmS nf) pl V) (pl := pl) (f := i) c I (MT.cg g11) (TN.cg g12) (by omega) (by omega) (fun k => dlt_le pl V k) (fun k hk => (g13 k hk).trans (hgo k hk))) c.1.2.2.2.1.1 rfl rfl (Nat.le_of_ble_eq_true rfl) ⟨Nat.le_of_ble_eq_true rfl, Nat.le_of_ble_eq_true rfl⟩ ⟨Nat.le_of_ble_eq_true rfl, Nat.le_of_ble_eq_true rfl⟩ dX7_search_72 (fun rv h_72 e_72 => ?_)
      obtain ⟨hv, e2_72⟩ := e_72
      replace e2_72 := e2_72.symm
      subst e2_72
      refine j_if_eq (tgt := 95) C dX7_search_75 (by decide) (fun c_75 => ?_) (fun c_75 => ?_)
      · refine j_iinc (lv' := [(0, .ref (P 5 4)), (1, .int (nI pl)), (2, .int (nI (ctN (mmS nf) pl V))), (3, .int (nI (i + 1)))]) C dX7_search_95 rfl (nI_1 _) (by decide) rfl ?_
        refine j_goto (tgt := 63) C dX7_search_98 (by decide) ?_
        refine j_sub [0, 1, 2, 3] rfl ?_
        refine ih k (i + 1) h b (by omega) (by omega) c hf g11 g12 g13 hb hb6 ?_
        by_cases e : i < mmS nf
        · rw [Nat.min_eq_left (by omega)] at hr ⊢
          have r3 : Res (mmS nf) (frS S yy nl ns nt) (cfS S (farS S yy nt)) nw ((V * (mmS nf + 1) + i) * (mmS nf + 1) ^ 4) (h_A h (P 5 14)) b := by rw [pw_1]; exact hr
          have r4 := r3.none (p := pl + 1) (by omega) (fun z => (hv.f c_75) (by
            have u := ((gd_1 (by omega)).mp z).2.resolve_left (by omega)
            exact ⟨⟨e, u.1⟩, u.2⟩))
          rw [Nat.add_assoc, pw_1] at r4
          exact r4
        · rw [Nat.min_eq_right (by omega)] at hr ⊢
          exact hr
      · have hfit := hv.t c_75
        have hdm : i < mmS nf := hfit.1.1
        have hd2 : i < mmS nf + 1 := by omega
        have hg2 : gdN (mmS nf) (frS S yy nl ns nt) (cfS S (farS S yy nt)) (pl + 1) (V * (mmS nf + 1) + i) := (gd_1 hd2).mpr ⟨g, Or.inr ⟨hfit.1.2, hfit.2⟩⟩
        have hr2 : Res (mmS nf) (frS S yy nl ns nt) (cfS S (farS S yy nt)) nw (V * (mmS nf + 1) ^ 5 + i * (mmS nf + 1) ^ 4) (h_A h (P 5 14)) b := by rw [Nat.min_eq_left (by omega)] at hr; exact hr
        have hgo2 : ∀ k, k < pl + 1 → h_A (s_A h (P 5 13) pl (nI i)) (P 5 13) k = cdv (mmS nf) (dlt (mmS nf) (pl + 1) (V * (mmS nf + 1) + i) k) := fun k hk => by
          rw [g_AA, if_pos rfl]
          by_cases e : k = pl
          · rw [if_pos e, e, dl_2 hd2]
            exact (cdv_lt hdm).symm
          · rw [if_neg e, dl_1 hd2 (by omega), g13 k (by omega)]
            exact hgo k (by omega)
        refine j_aload_n C dX7_search_78 rfl ?_
        refine j_gRe (f := 452) (v := .ref (P 5 13)) C fF_X7_24 rfl c.1.2.2.2.1.1 (by rw [c.1.2.2.2.1.2.2.2.2.2.1]; rfl) dX7_search_79 ?_
        refine j_iload_n C dX7_search_82 rfl ?_
        refine j_iload_n C dX7_search_83 rfl ?_
        refine j_iastN C c.1.2.2.2.2.2.2.2.2.1.1 ⟨c.1.2.2.2.2.2.2.2.2.1.2, by omega, by decide⟩ dX7_search_84 ?_
        refine j_aload_n C dX7_search_85 rfl ?_
        refine j_iload_n C dX7_search_86 rfl ?_
        refine j_iconst (v := 1) C dX7_search_87 (by decide) ?_
        refine j_iadd C dX7_search_88 ?_
        refine j_top (nI_1 pl) ?_
        refine j_iload_n C dX7_search_89 rfl ?_
        refine j_iconst (v := 1) C dX7_search_90 (by decide) ?_
        refine j_iadd C dX7_search_91 ?_
        refine j_top (show nI (ctN (mmS nf) pl V) + 1 = nI (ctN (mmS nf) (pl + 1) (V * (mmS nf + 1) + i)) by rw [ct_1 hd2, if_pos hdm]; exact nI_1 _) ?_
        refine j_callVv (As := [.int (nI (pl + 1)), .int (nI (ctN (mmS nf) (pl + 1) (V * (mmS nf + 1) + i)))]) (rest := []) C fG_X7_58 (k_srch4 (pl := pl + 1) (V := (V * (mmS nf + 1) + i)) (b := b) (c.ex Ex.rf.sA) I (MT.cg (fun j => by rw [g_AA, if_neg (pd8 c).2.2.2.2.2.1]; exact g11 j)) (TN.cg (fun j => by rw [g_AA, if_neg (pd8 c).2.2.2.2.2.2.2.1]; exact g12 j)) (by omega) hg2 hgo2 hb hb6 (by rw [pw_1, hA_ne _ _ _ (fun e => (pd8 c).2.2.2.2.2.2.2.2.2 e.symm)]; exact hr2)) (okA c.1.2.2.2.1.1) rfl rfl (Nat.le_of_ble_eq_true rfl) ⟨Nat.le_of_ble_eq_true rfl, Nat.le_of_ble_eq_true rfl⟩ ⟨Nat.le_of_ble_eq_true rfl, Nat.le_of_ble_eq_true rfl⟩ dX7_search_92 (fun h_92 e_92 => ?_)
        refine j_iinc (lv' := [(0, .ref (P 5 4)), (1, .int (nI pl)), (2, .int (nI (ctN (mmS nf) pl V))), (3, .int (nI (i + 1)))]) C dX7_search_95 rfl (nI_1 _) (by decide) rfl ?_
        refine j_goto (tgt := 63) C dX7_search_98 (by decide) ?_
        obtain ⟨d1, d2, d3, d4, d5, b', d6, d7, d8⟩ := e_92
        refine j_sub [0, 1, 2, 3] rfl ?_
        refine ih k (i + 1) h_92 b' (by omega) (by omega) d1 ((hf.tr (FrC.sA (i := 13) (by decide))).tr d2) (fun j => by rw [d3, g_AA, if_neg (pd8 c).2.2.2.2.2.1]; exact g11 j) (fun j => by rw [d4, g_AA, if_neg (pd8 c).2.2.2.2.2.2.2.1]; exact g12 j) (fun j hj => by rw [d5 j (by omega), g_AA, if_pos rfl, if_neg (by omega)]; exact g13 j hj) d7 d6 ?_
        rw [Nat.add_assoc, pw_1] at d8
        rw [Nat.min_eq_left (by omega)]
        exact d8
set_option maxHeartbeats 4000000 in
set_option maxRecDepth 100000 in
theorem k_srch5 {l : Launch} {D : va_G} {cy : Nat → ClassId} {h : jH} {S : Nat → Nat → Int32} {P : Nat → Nat → Nat} {T : Nat → Nat → Nat → List Nat} {nf nl nb ns nt nk nw yy : Nat} (c : CP h S P T nf nl nb ns nt nk nw) (I : SI S nf nl nb ns nt nk nw yy) (MT : plM h S P nf nl ns nt nw yy) (TN : plT h S P nf nt yy) {pl V b : Nat} (hp : pl + 5 = nw) (g : gdN (mmS nf) (frS S yy nl ns nt) (cfS S (farS S yy nt)) pl V) (hgo : ∀ k, k < pl → h_A h (P 5 13) k = cdv (mmS nf) (dlt (mmS nf) pl V k)) (hb : h_I h 454 (P 5 4) = nI b - 1) (hb6 : b ≤ nw + 1) (r : Res (mmS nf) (frS S yy nl ns nt) (cfS S (farS S yy nt)) nw (V * (mmS nf + 1) ^ 5) (h_A h (P 5 14)) b) : jV l D cy yX7_search (.code yX7_search cX7_search 4 ((Option.none : Option FieldType))) (rmd 8 0 0) [.ref (P 5 4), .int (nI pl), .int (nI (ctN (mmS nf) pl V))] h (srP S P T nf nl nb ns nt nk nw yy pl V 5 h) := by
  have hnw := I.wt.2
  have hmm := mmS_le nf
  have hcc := ct_cap (mm := mmS nf) pl V
  refine j_ofV (by decide) (Nat.le_of_ble_eq_true rfl) (fun p e s m args below meth c0 Q C hin ret => ?_)
  refine j_iload_n C dX7_search_0 rfl ?_
  refine j_if_lt (tgt := 19) C dX7_search_1 (by decide) (fun c_1 => ?_) (fun c_1 => ?_)
  · exact absurd c_1 (nI_pos (by omega))
  · refine j_iload_n C dX7_search_4 rfl ?_
    refine j_aload_n C dX7_search_5 rfl ?_
    refine j_gIe (f := 455) (v := (nI nw)) C fF_X7_34 rfl c.1.2.2.2.1.1 (by exact c.2.2.2.2.2.2.1.1.trans I.wt.1) dX7_search_6 ?_
    refine j_iadd C dX7_search_9 ?_
    refine j_iload_n C dX7_search_10 rfl ?_
    refine j_isub C dX7_search_11 ?_
    refine j_top (show nI (ctN (mmS nf) pl V) + nI nw - nI pl = nI ((ctN (mmS nf) pl V) + 5) by rw [nI_add, pk_sub (by omega), show (ctN (mmS nf) pl V) + nw - pl = (ctN (mmS nf) pl V) + 5 by omega]) ?_
    refine j_aload_n C dX7_search_12 rfl ?_
    refine j_gIe (f := 454) (v := (nI b - 1)) C fF_X7_30 rfl c.1.2.2.2.1.1 hb dX7_search_13 ?_
    refine j_icmp_gt (tgt := 20) C dX7_search_16 (by decide) (fun c_16 => ?_) (fun c_16 => ?_)
    · refine j_iload_n C dX7_search_20 rfl ?_
      refine j_aload_n C dX7_search_21 rfl ?_
      refine j_gIe (f := 455) (v := (nI nw)) C fF_X7_34 rfl c.1.2.2.2.1.1 (by exact c.2.2.2.2.2.2.1.1.trans I.wt.1) dX7_search_22 ?_
      refine j_icmp_ge (tgt := 37) C dX7_search_25 (by decide) (fun c_25 => ?_) (fun c_25 => ?_)
      · refine j_aload_n C dX7_search_37 rfl ?_
        refine j_iload_n C dX7_search_38 rfl ?_
        refine j_pI (f := 454) C fP_X7_30 rfl c.1.2.2.2.1.1 rfl rfl dX7_search_39 ?_
        refine j_aload_n C dX7_search_42 rfl ?_
        refine j_gRe (f := 452) (v := .ref (P 5 13)) C fF_X7_24 rfl (okI c.1.2.2.2.1.1) (by show va_rf (h_R h 452 (P 5 4)) = _; rw [c.1.2.2.2.1.2.2.2.2.2.1]; rfl) dX7_search_43 ?_
        refine j_iconst (v := 0) C dX7_search_46 (by decide) ?_
        refine j_aload_n C dX7_search_47 rfl ?_
        refine j_gRe (f := 453) (v := .ref (P 5 14)) C fF_X7_27 rfl (okI c.1.2.2.2.1.1) (by show va_rf (h_R h 453 (P 5 4)) = _; rw [c.1.2.2.2.1.2.2.2.2.2.2]; rfl) dX7_search_48 ?_
        refine j_iconst (v := 0) C dX7_search_51 (by decide) ?_
        refine j_aload_n C dX7_search_52 rfl ?_
        refine j_gRe (f := 453) (v := .ref (P 5 14)) C fF_X7_27 rfl (okI c.1.2.2.2.1.1) (by show va_rf (h_R h 453 (P 5 4)) = _; rw [c.1.2.2.2.1.2.2.2.2.2.2]; rfl) dX7_search_53 ?_
        refine j_alen (k := 12) (v := 5) C (okI c.1.2.2.2.2.2.2.2.2.2.1) ⟨by decide, rfl⟩ (congrArg nI c.1.2.2.2.2.2.2.2.2.2.2) dX7_search_56 ?_
        exact absurd (nI_ge_of c_25 (by omega) (by omega)) (by omega)
      · refine j_iload_n C dX7_search_28 rfl ?_
        refine j_aload_n C dX7_search_29 rfl ?_
        refine j_gRe (f := 452) (v := .ref (P 5 13)) C fF_X7_24 rfl c.1.2.2.2.1.1 (by rw [c.1.2.2.2.1.2.2.2.2.2.1]; rfl) dX7_search_30 ?_
        refine j_alen (k := 12) (v := 5) C c.1.2.2.2.2.2.2.2.2.1.1 ⟨by decide, rfl⟩ (congrArg nI c.1.2.2.2.2.2.2.2.2.1.2) dX7_search_33 ?_
        refine j_icmp_lt (tgt := 61) C dX7_search_34 (by decide) (fun c_34 => ?_) (fun c_34 => ?_)
        · refine j_iconst (v := 0) C dX7_search_61 (by decide) ?_
          refine j_istore_n (lv' := [(0, .ref (P 5 4)), (1, .int (nI pl)), (2, .int (nI (ctN (mmS nf) pl V))), (3, .int 0)]) C dX7_search_62 (by decide) rfl ?_
          exact L_sr5 (h0 := h) C MT TN hp g hgo hnw hmm I (fun h' e lv pc hd => ret h' 0 0 lv pc e (Nat.zero_le _) (Nat.zero_le _) hd) 7 6 0 h b (by omega) (by omega) c FrC.rf (fun _ => rfl) (fun _ => rfl) (fun _ _ => rfl) hb hb6 (by rw [show min 0 (mmS nf) = 0 by omega, Nat.zero_mul, Nat.add_zero]; exact r)
        · refine j_aload_n C dX7_search_37 rfl ?_
          refine j_iload_n C dX7_search_38 rfl ?_
          refine j_pI (f := 454) C fP_X7_30 rfl c.1.2.2.2.1.1 rfl rfl dX7_search_39 ?_
          refine j_aload_n C dX7_search_42 rfl ?_
          refine j_gRe (f := 452) (v := .ref (P 5 13)) C fF_X7_24 rfl (okI c.1.2.2.2.1.1) (by show va_rf (h_R h 452 (P 5 4)) = _; rw [c.1.2.2.2.1.2.2.2.2.2.1]; rfl) dX7_search_43 ?_
          refine j_iconst (v := 0) C dX7_search_46 (by decide) ?_
          refine j_aload_n C dX7_search_47 rfl ?_
          refine j_gRe (f := 453) (v := .ref (P 5 14)) C fF_X7_27 rfl (okI c.1.2.2.2.1.1) (by show va_rf (h_R h 453 (P 5 4)) = _; rw [c.1.2.2.2.1.2.2.2.2.2.2]; rfl) dX7_search_48 ?_
          refine j_iconst (v := 0) C dX7_search_51 (by decide) ?_
          refine j_aload_n C dX7_search_52 rfl ?_
          refine j_gRe (f := 453) (v := .ref (P 5 14)) C fF_X7_27 rfl (okI c.1.2.2.2.1.1) (by show va_rf (h_R h 453 (P 5 4)) = _; rw [c.1.2.2.2.1.2.2.2.2.2.2]; rfl) dX7_search_53 ?_
          refine j_alen (k := 12) (v := 5) C (okI c.1.2.2.2.2.2.2.2.2.2.1) ⟨by decide, rfl⟩ (congrArg nI c.1.2.2.2.2.2.2.2.2.2.2) dX7_search_56 ?_
          exact absurd (nI_lt (a := pl) (b := 5) (by omega) (by decide)) c_34
    · rw [b_lt (by omega) (by omega)] at c_16
      exact ret h 0 0 _ _ ⟨c, FrC.rf, fun _ => rfl, fun _ => rfl, fun _ _ => rfl, b, hb6, hb, r.prune hp (by omega)⟩ (Nat.zero_le _) (Nat.zero_le _) dX7_search_19
