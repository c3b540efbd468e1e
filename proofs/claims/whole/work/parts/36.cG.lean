theorem CP.bag66 {h : jH} {S : Nat → Nat → Int32} {P : Nat → Nat → Nat} {T : Nat → Nat → Nat → List Nat} {nf nl nb ns nt nk nw : Nat} {j : Nat} {v : Int32} (c : CP h S P T nf nl nb ns nt nk nw) (hj : j < nb) : CP (s_I h 66 (P 2 j) v) (u2 S 40 j v) P T nf nl nb ns nt nk nw := by
  obtain ⟨c1, c2, c3, c4, c5, c6, c7, c8⟩ := c
  have k3 : pFld (s_I h 66 (P 2 j) v) (u2 S 40 j v) P T nf nl ns := fun f hf => ⟨(c3 f hf).1, (c3 f hf).2.1, (c3 f hf).2.2.1, (c3 f hf).2.2.2.1, fun y hy => ⟨((c3 f hf).2.2.2.2 y hy).1, chn_cg (h := h) (h' := (s_I h 66 (P 2 j) v)) rfl (fun _ => rfl) (fun _ => rfl) _ _ ((c3 f hf).2.2.2.2 y hy).2.1, zT_cg (h := h) (h' := (s_I h 66 (P 2 j) v)) (S := S) (S' := (u2 S 40 j v)) (fun _ => rfl) (fun _ => rfl) (fun _ => rfl) (fun _ => rfl) _ _ ((c3 f hf).2.2.2.2 y hy).2.2⟩⟩
  have k4 : pLot (s_I h 66 (P 2 j) v) (u2 S 40 j v) P T nl nk := fun a ha => ⟨(c4 a ha).1, (c4 a ha).2.1, (c4 a ha).2.2.1, (c4 a ha).2.2.2.1, chn_cg (h := h) (h' := (s_I h 66 (P 2 j) v)) rfl (fun _ => rfl) (fun _ => rfl) _ _ (c4 a ha).2.2.2.2.1, zK_cg (h := h) (h' := (s_I h 66 (P 2 j) v)) (S := S) (S' := (u2 S 40 j v)) (fun _ => rfl) (fun _ => rfl) (fun _ => rfl) (fun _ => rfl) (fun _ => rfl) (fun _ => rfl) (fun _ => rfl) _ _ (c4 a ha).2.2.2.2.2⟩
  have k6 : pSta (s_I h 66 (P 2 j) v) (u2 S 40 j v) P T nt := fun kd hk => ⟨chn_cg (h := h) (h' := (s_I h 66 (P 2 j) v)) rfl (fun _ => rfl) (fun _ => rfl) _ _ (c6 kd hk).1, zS_cg (h := h) (h' := (s_I h 66 (P 2 j) v)) (S := S) (S' := (u2 S 40 j v)) (fun _ => rfl) (fun _ => rfl) (fun _ => rfl) (fun _ => rfl) (fun _ => rfl) (fun _ => rfl) _ _ (c6 kd hk).2⟩
  refine ⟨c1, c2, k3, k4, fun b hb => ?_, k6, c7, c8⟩
  have hm : h_I (s_I h 66 (P 2 j) v) 66 (P 2 b) = u2 S 40 j v 40 b := by
    show (if 66 = 66 then (if P 2 b = P 2 j then v else h_I h 66 (P 2 b)) else h_I h 66 (P 2 b)) = (if 40 = 40 then (if b = j then v else S 40 b) else S 40 b)
    rw [if_pos rfl, if_pos rfl]
    by_cases e : b = j
    · rw [if_pos e, if_pos (by rw [e])]
    · rw [if_neg e, if_neg (fun z => e (c8.2.2.1 b j hb hj z))]
      exact (c5 b hb).2.2.2.1
  exact ⟨(c5 b hb).1, (c5 b hb).2.1, (c5 b hb).2.2.1, hm, (c5 b hb).2.2.2.2⟩
theorem CP.bag67 {h : jH} {S : Nat → Nat → Int32} {P : Nat → Nat → Nat} {T : Nat → Nat → Nat → List Nat} {nf nl nb ns nt nk nw : Nat} {j : Nat} {v : Int32} (c : CP h S P T nf nl nb ns nt nk nw) (hj : j < nb) : CP (s_I h 67 (P 2 j) v) (u2 S 41 j v) P T nf nl nb ns nt nk nw := by
  obtain ⟨c1, c2, c3, c4, c5, c6, c7, c8⟩ := c
  have k3 : pFld (s_I h 67 (P 2 j) v) (u2 S 41 j v) P T nf nl ns := fun f hf => ⟨(c3 f hf).1, (c3 f hf).2.1, (c3 f hf).2.2.1, (c3 f hf).2.2.2.1, fun y hy => ⟨((c3 f hf).2.2.2.2 y hy).1, chn_cg (h := h) (h' := (s_I h 67 (P 2 j) v)) rfl (fun _ => rfl) (fun _ => rfl) _ _ ((c3 f hf).2.2.2.2 y hy).2.1, zT_cg (h := h) (h' := (s_I h 67 (P 2 j) v)) (S := S) (S' := (u2 S 41 j v)) (fun _ => rfl) (fun _ => rfl) (fun _ => rfl) (fun _ => rfl) _ _ ((c3 f hf).2.2.2.2 y hy).2.2⟩⟩
  have k4 : pLot (s_I h 67 (P 2 j) v) (u2 S 41 j v) P T nl nk := fun a ha => ⟨(c4 a ha).1, (c4 a ha).2.1, (c4 a ha).2.2.1, (c4 a ha).2.2.2.1, chn_cg (h := h) (h' := (s_I h 67 (P 2 j) v)) rfl (fun _ => rfl) (fun _ => rfl) _ _ (c4 a ha).2.2.2.2.1, zK_cg (h := h) (h' := (s_I h 67 (P 2 j) v)) (S := S) (S' := (u2 S 41 j v)) (fun _ => rfl) (fun _ => rfl) (fun _ => rfl) (fun _ => rfl) (fun _ => rfl) (fun _ => rfl) (fun _ => rfl) _ _ (c4 a ha).2.2.2.2.2⟩
  have k6 : pSta (s_I h 67 (P 2 j) v) (u2 S 41 j v) P T nt := fun kd hk => ⟨chn_cg (h := h) (h' := (s_I h 67 (P 2 j) v)) rfl (fun _ => rfl) (fun _ => rfl) _ _ (c6 kd hk).1, zS_cg (h := h) (h' := (s_I h 67 (P 2 j) v)) (S := S) (S' := (u2 S 41 j v)) (fun _ => rfl) (fun _ => rfl) (fun _ => rfl) (fun _ => rfl) (fun _ => rfl) (fun _ => rfl) _ _ (c6 kd hk).2⟩
  refine ⟨c1, c2, k3, k4, fun b hb => ?_, k6, c7, c8⟩
  have hm : h_I (s_I h 67 (P 2 j) v) 67 (P 2 b) = u2 S 41 j v 41 b := by
    show (if 67 = 67 then (if P 2 b = P 2 j then v else h_I h 67 (P 2 b)) else h_I h 67 (P 2 b)) = (if 41 = 41 then (if b = j then v else S 41 b) else S 41 b)
    rw [if_pos rfl, if_pos rfl]
    by_cases e : b = j
    · rw [if_pos e, if_pos (by rw [e])]
    · rw [if_neg e, if_neg (fun z => e (c8.2.2.1 b j hb hj z))]
      exact (c5 b hb).2.2.2.2
  exact ⟨(c5 b hb).1, (c5 b hb).2.1, (c5 b hb).2.2.1, (c5 b hb).2.2.2.1, hm⟩
theorem CP.book128 {h : jH} {S : Nat → Nat → Int32} {P : Nat → Nat → Nat} {T : Nat → Nat → Nat → List Nat} {nf nl nb ns nt nk nw : Nat} {v : Int32} (c : CP h S P T nf nl nb ns nt nk nw) : CP (s_I h 128 (P 5 1) v) (u2 S 0 0 v) P T nf nl nb ns nt nk nw := by
  obtain ⟨c1, c2, c3, c4, c5, c6, c7, c8⟩ := c
  have k3 : pFld (s_I h 128 (P 5 1) v) (u2 S 0 0 v) P T nf nl ns := fun f hf => ⟨(c3 f hf).1, (c3 f hf).2.1, (c3 f hf).2.2.1, (c3 f hf).2.2.2.1, fun y hy => ⟨((c3 f hf).2.2.2.2 y hy).1, chn_cg (h := h) (h' := (s_I h 128 (P 5 1) v)) rfl (fun _ => rfl) (fun _ => rfl) _ _ ((c3 f hf).2.2.2.2 y hy).2.1, zT_cg (h := h) (h' := (s_I h 128 (P 5 1) v)) (S := S) (S' := (u2 S 0 0 v)) (fun _ => rfl) (fun _ => rfl) (fun _ => rfl) (fun _ => rfl) _ _ ((c3 f hf).2.2.2.2 y hy).2.2⟩⟩
  have k4 : pLot (s_I h 128 (P 5 1) v) (u2 S 0 0 v) P T nl nk := fun a ha => ⟨(c4 a ha).1, (c4 a ha).2.1, (c4 a ha).2.2.1, (c4 a ha).2.2.2.1, chn_cg (h := h) (h' := (s_I h 128 (P 5 1) v)) rfl (fun _ => rfl) (fun _ => rfl) _ _ (c4 a ha).2.2.2.2.1, zK_cg (h := h) (h' := (s_I h 128 (P 5 1) v)) (S := S) (S' := (u2 S 0 0 v)) (fun _ => rfl) (fun _ => rfl) (fun _ => rfl) (fun _ => rfl) (fun _ => rfl) (fun _ => rfl) (fun _ => rfl) _ _ (c4 a ha).2.2.2.2.2⟩
  have k6 : pSta (s_I h 128 (P 5 1) v) (u2 S 0 0 v) P T nt := fun kd hk => ⟨chn_cg (h := h) (h' := (s_I h 128 (P 5 1) v)) rfl (fun _ => rfl) (fun _ => rfl) _ _ (c6 kd hk).1, zS_cg (h := h) (h' := (s_I h 128 (P 5 1) v)) (S := S) (S' := (u2 S 0 0 v)) (fun _ => rfl) (fun _ => rfl) (fun _ => rfl) (fun _ => rfl) (fun _ => rfl) (fun _ => rfl) _ _ (c6 kd hk).2⟩
  have hm : h_I (s_I h 128 (P 5 1) v) 128 (P 5 1) = u2 S 0 0 v 0 0 := by rw [g_II, if_pos rfl, if_pos rfl, u2_same]
  exact ⟨c1, ⟨c2.1, ⟨hm, c2.2.1.2.1, c2.2.1.2.2.1, c2.2.1.2.2.2.1, c2.2.1.2.2.2.2.1, c2.2.1.2.2.2.2.2.1, c2.2.1.2.2.2.2.2.2.1, c2.2.1.2.2.2.2.2.2.2⟩, c2.2.2⟩, k3, k4, c5, k6, c7, c8⟩
theorem CP.book135 {h : jH} {S : Nat → Nat → Int32} {P : Nat → Nat → Nat} {T : Nat → Nat → Nat → List Nat} {nf nl nb ns nt nk nw : Nat} {v : Int32} (c : CP h S P T nf nl nb ns nt nk nw) : CP (s_I h 135 (P 5 1) v) (u2 S 4 0 v) P T nf nl nb ns nt nk nw := by
  obtain ⟨c1, c2, c3, c4, c5, c6, c7, c8⟩ := c
  have k3 : pFld (s_I h 135 (P 5 1) v) (u2 S 4 0 v) P T nf nl ns := fun f hf => ⟨(c3 f hf).1, (c3 f hf).2.1, (c3 f hf).2.2.1, (c3 f hf).2.2.2.1, fun y hy => ⟨((c3 f hf).2.2.2.2 y hy).1, chn_cg (h := h) (h' := (s_I h 135 (P 5 1) v)) rfl (fun _ => rfl) (fun _ => rfl) _ _ ((c3 f hf).2.2.2.2 y hy).2.1, zT_cg (h := h) (h' := (s_I h 135 (P 5 1) v)) (S := S) (S' := (u2 S 4 0 v)) (fun _ => rfl) (fun _ => rfl) (fun _ => rfl) (fun _ => rfl) _ _ ((c3 f hf).2.2.2.2 y hy).2.2⟩⟩
  have k4 : pLot (s_I h 135 (P 5 1) v) (u2 S 4 0 v) P T nl nk := fun a ha => ⟨(c4 a ha).1, (c4 a ha).2.1, (c4 a ha).2.2.1, (c4 a ha).2.2.2.1, chn_cg (h := h) (h' := (s_I h 135 (P 5 1) v)) rfl (fun _ => rfl) (fun _ => rfl) _ _ (c4 a ha).2.2.2.2.1, zK_cg (h := h) (h' := (s_I h 135 (P 5 1) v)) (S := S) (S' := (u2 S 4 0 v)) (fun _ => rfl) (fun _ => rfl) (fun _ => rfl) (fun _ => rfl) (fun _ => rfl) (fun _ => rfl) (fun _ => rfl) _ _ (c4 a ha).2.2.2.2.2⟩
  have k6 : pSta (s_I h 135 (P 5 1) v) (u2 S 4 0 v) P T nt := fun kd hk => ⟨chn_cg (h := h) (h' := (s_I h 135 (P 5 1) v)) rfl (fun _ => rfl) (fun _ => rfl) _ _ (c6 kd hk).1, zS_cg (h := h) (h' := (s_I h 135 (P 5 1) v)) (S := S) (S' := (u2 S 4 0 v)) (fun _ => rfl) (fun _ => rfl) (fun _ => rfl) (fun _ => rfl) (fun _ => rfl) (fun _ => rfl) _ _ (c6 kd hk).2⟩
  have hm : h_I (s_I h 135 (P 5 1) v) 135 (P 5 1) = u2 S 4 0 v 4 0 := by rw [g_II, if_pos rfl, if_pos rfl, u2_same]
  exact ⟨c1, ⟨c2.1, ⟨c2.2.1.1, c2.2.1.2.1, c2.2.1.2.2.1, c2.2.1.2.2.2.1, hm, c2.2.1.2.2.2.2.2.1, c2.2.1.2.2.2.2.2.2.1, c2.2.1.2.2.2.2.2.2.2⟩, c2.2.2⟩, k3, k4, c5, k6, c7, c8⟩
theorem mx_comm (x y : Int32) : mx x y = mx y x := by
  unfold mx
  by_cases h1 : x < y
  · by_cases h2 : y < x
    · rw [Int32.lt_iff_toInt_lt] at h1 h2; omega
    · rw [if_pos h1, if_neg h2]
  · by_cases h2 : y < x
    · rw [if_neg h1, if_pos h2]
    · rw [if_neg h1, if_neg h2]
      rw [Int32.lt_iff_toInt_lt] at h1 h2
      exact Int32.toInt_inj.mp (by omega)
theorem bagO_s {S : Nat → Nat → Int32} {P : Nat → Nat → Nat} {x : Int32} {nl a : Nat} (hl : S 3 0 = nI nl) (hnl : nl ≤ 200) (e : bagO S P x = some a) : ∃ j, j < nl ∧ x = nI j ∧ a = P 2 j ∧ (0 ≤ x ∧ x ≤ S 3 0 - 1) := by
  unfold bagO at e
  by_cases c : 0 ≤ x ∧ x ≤ S 3 0 - 1
  · rw [if_pos c] at e
    obtain ⟨j, hj, rfl⟩ := in_ix (n := nl) (by omega) (by rw [← hl]; exact c)
    rw [nI_clamp (by omega)] at e
    exact ⟨j, hj, rfl, (Option.some.inj e).symm, c⟩
  · rw [if_neg c] at e; cases e
theorem bagO_n {S : Nat → Nat → Int32} {P : Nat → Nat → Nat} {x : Int32} (e : bagO S P x = none) : ¬ (0 ≤ x ∧ x ≤ S 3 0 - 1) := fun c => by
  unfold bagO at e
  rw [if_pos c] at e
  cases e
set_option maxHeartbeats 4000000 in
set_option maxRecDepth 100000 in
theorem x_open {l : Launch} {D : va_G} {cy : Nat → ClassId} {h : jH} {S : Nat → Nat → Int32} {P : Nat → Nat → Nat} {T : Nat → Nat → Nat → List Nat} {nf nl nb ns nt nk nw : Nat} (c : CP h S P T nf nl nb ns nt nk nw) (hb : S 3 0 = nI nb) (hnb : nb ≤ 200) (bg : Int32) : jI l D cy yX10_open (.code yX10_open cX10_open 3 ((Option.some FieldType.boolean))) (rmd 1 0 0) [.ref (P 5 0), .int bg] h (fun r h' => ∃ S', (r, S') = m_open S bg ∧ CP h' S' P T nf nl nb ns nt nk nw ∧ FrC P h h') := by
  refine j_ofZ (by decide) (Nat.le_of_ble_eq_true rfl) (fun p e s m args below meth c0 Q C hin ret => ?_)
  refine j_aload_n C dX10_open_0 rfl ?_
  refine j_gRe (f := 640) (v := .ref (P 5 1)) C fF_X10_10 rfl c.1.1.1 (by rw [c.1.1.2.1]; rfl) dX10_open_1 ?_
  refine j_iload_n C dX10_open_4 rfl ?_
  refine j_callVq (As := [.int bg]) (rest := []) C fG_X10_184 (s_bagAt c hb hnb (bg)) c.2.1.1 rfl rfl (Nat.le_of_ble_eq_true rfl) ⟨Nat.le_of_ble_eq_true rfl, Nat.le_of_ble_eq_true rfl⟩ ⟨Nat.le_of_ble_eq_true rfl, Nat.le_of_ble_eq_true rfl⟩ dX10_open_5 (fun r_5 h_5 e_5 => ?_)
  obtain ⟨e1_5, e2_5⟩ := e_5
  subst e1_5
  replace e2_5 := e2_5.symm
  subst e2_5
  refine j_astore_nQ (lv' := [(0, .ref (P 5 0)), (1, .int bg), (2, va_rf (bagO S P bg))]) C dX10_open_8 (by decide) rfl ?_
  refine j_aload_nQ C dX10_open_9 rfl ?_
  cases hq_10 : (bagO S P bg) with
  | none =>
    refine j_ifnullN (tgt := 20) C dX10_open_10 (by decide) ?_
    refine j_iconst (v := 0) C dX10_open_20 (by decide) ?_
    exact ret _ _ 0 0 _ _ ⟨S, by rw [m_open, if_neg (fun z => bagO_n hq_10 z.1)], c, FrC.rf⟩ (by decide) (Nat.zero_le _) (Nat.zero_le _) dX10_open_21
  | some x_10 =>
    refine j_ifnull C dX10_open_10 ?_
    obtain ⟨j, hj, hx, ha, hL⟩ := bagO_s hb hnb hq_10
    subst hx
    subst ha
    refine j_aload_n C dX10_open_13 rfl ?_
    refine j_callVi (As := []) (rest := []) C fG_X10_188 (k_isOpened (a := (P 2 j)) (c.2.2.2.2.1 j hj).1.2) (c.2.2.2.2.1 j hj).1.2 rfl rfl (Nat.le_of_ble_eq_true rfl) ⟨Nat.le_of_ble_eq_true rfl, Nat.le_of_ble_eq_true rfl⟩ ⟨Nat.le_of_ble_eq_true rfl, Nat.le_of_ble_eq_true rfl⟩ dX10_open_14 (fun r_14 h_14 e_14 => ?_)
    obtain ⟨e1_14, e2_14⟩ := e_14
    subst e1_14
    replace e2_14 := e2_14.symm
    subst e2_14
    refine j_ifeq_b (tgt := 22) C dX10_open_17 (by decide) (fun c_17 => ?_) (fun c_17 => ?_)
    · refine j_aload_n C dX10_open_22 rfl ?_
      refine j_iconst (v := 0) C dX10_open_23 (by decide) ?_
      refine j_pI (f := 66) C fP_X10_192 rfl (c.2.2.2.2.1 j hj).1.2 rfl rfl dX10_open_24 ?_
      refine j_iconst (v := 1) C dX10_open_27 (by decide) ?_
      have hp : (1, u2 S 40 j 0) = m_open S (nI j) := by
        rw [m_open, if_pos ⟨hL, by rw [nI_clamp (by omega), ← (c.2.2.2.2.1 j hj).2.2.2.1]; exact c_17⟩]
        unfold mS_open
        rw [nI_clamp (by omega)]
      exact ret _ _ 0 0 _ _ ⟨_, hp, c.bag66 hj, FrC.sI (by decide)⟩ (by decide) (Nat.zero_le _) (Nat.zero_le _) dX10_open_28
    · refine j_iconst (v := 0) C dX10_open_20 (by decide) ?_
      exact ret _ _ 0 0 _ _ ⟨S, by rw [m_open, if_neg (fun z => z.2 (by rw [nI_clamp (by omega), ← (c.2.2.2.2.1 j hj).2.2.2.1]; exact c_17))], c, FrC.rf⟩ (by decide) (Nat.zero_le _) (Nat.zero_le _) dX10_open_21
