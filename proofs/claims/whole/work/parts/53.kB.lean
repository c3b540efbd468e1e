theorem sis_h {h : jH} {S : Nat → Nat → Int32} {P : Nat → Nat → Nat} {T : Nat → Nat → Nat → List Nat} {nf nl nb ns nt nk nw : Nat} (c : CP h S P T nf nl nb ns nt nk nw) (hnl : nl ≤ 200) (hA : ∀ q, q < nl → S 26 q = -1 ∨ ∃ j, j < q ∧ S 26 q = nI j) (hB : ∀ q, q < nl → S 27 q = -1 ∨ ∃ j, j < q ∧ S 27 q = nI j) {o i : Nat} (ho : o < nl) (hi : i < nl) (hv : ∀ a, a < i → vP (h_I h 403 (P 1 a)) (sisP S nl a o)) : sisP S nl i o ↔ some (P 1 i) = adr P 1 (S 26 o) ∨ some (P 1 i) = adr P 1 (S 27 o) ∨ ¬ oI h 403 0 (adr P 1 (S 26 i)) = 0 ∨ ¬ oI h 403 0 (adr P 1 (S 27 i)) = 0 := by
  have hd := c.2.2.2.2.2.2.2.2.1
  have h1 : ∀ {v : Int32}, (v = -1 ∨ ∃ j, j < o ∧ v = nI j) → (some (P 1 i) = adr P 1 v ↔ v = nI i) := fun {v} g => by
    rcases g with e | ⟨j, hj, e⟩
    · rw [e, adr_n]
      exact ⟨(fun z => by cases z), (fun z => absurd z.symm (nI_m1 (by omega)))⟩
    · rw [e, adr_i (by omega)]
      exact ⟨fun z => by rw [hd i j hi (by omega) (Option.some.inj z)], fun z => by rw [(nI_eq (by omega) (by omega)).mp z]⟩
  have h2 : ∀ {v : Int32}, (v = -1 ∨ ∃ j, j < i ∧ v = nI j) → (¬ oI h 403 0 (adr P 1 v) = 0 ↔ ∃ j, j < i ∧ v = nI j ∧ sisP S nl j o) := fun {v} g => by
    rcases g with e | ⟨j, hj, e⟩
    · rw [e, adr_n]
      exact ⟨fun z => absurd rfl z, fun ⟨j, _, z, _⟩ => absurd z.symm (nI_m1 (by omega))⟩
    · rw [e, adr_i (by omega)]
      show ¬ h_I h 403 (P 1 j) = 0 ↔ _
      refine ⟨fun z => ⟨j, hj, rfl, (hv j hj).t z⟩, fun ⟨k, k1, k2, k3⟩ z => ?_⟩
      have := (nI_eq (by omega) (by omega)).mp k2
      subst this
      exact (hv j hj).f z k3
  rw [sis_rec hA hB hnl ho hi, h1 (hA o ho), h1 (hB o ho), h2 (hA i hi), h2 (hB i hi)]
  constructor
  · rintro ((e | e) | ⟨j, j1, j2 | j2, j3⟩)
    · exact Or.inl e
    · exact Or.inr (Or.inl e)
    · exact Or.inr (Or.inr (Or.inl ⟨j, j1, j2, j3⟩))
    · exact Or.inr (Or.inr (Or.inr ⟨j, j1, j2, j3⟩))
  · rintro (e | e | ⟨j, j1, j2, j3⟩ | ⟨j, j1, j2, j3⟩)
    · exact Or.inl (Or.inl e)
    · exact Or.inl (Or.inr e)
    · exact Or.inr ⟨j, j1, Or.inl j2, j3⟩
    · exact Or.inr ⟨j, j1, Or.inr j2, j3⟩
set_option maxHeartbeats 4000000 in
set_option maxRecDepth 100000 in
theorem L_mk {p : Program} {l : Launch} {e : Env} {s : State} {m : MethodId} {args : Array Value} {below : List Frame} {meth : Method} {c0 : Code} {D : va_G} {cy : Nat → ClassId} {A : Nat → Prop} {Q : State → Prop} (C : jC p s m args meth c0 D cy A 5 RX4 cX4_markAkin) {S : Nat → Nat → Int32} {P : Nat → Nat → Nat} {T : Nat → Nat → Nat → List Nat} {nf nl nb ns nt nk nw o : Nat} {h0 : jH} (ho : o < nl) (hl : S 2 0 = nI nl) (hnl : nl ≤ 200) (hA : ∀ q, q < nl → S 26 q = -1 ∨ ∃ j, j < q ∧ S 26 q = nI j) (hB : ∀ q, q < nl → S 27 q = -1 ∨ ∃ j, j < q ∧ S 27 q = nI j) (ret : ∀ (h : jH), sameH h0 h → FrC P h0 h → (∀ a, h_I h 401 a = h_I h0 401 a) → (∀ a, h_I h 402 a = h_I h0 402 a) → (∀ a, a < nl → vP (h_I h 403 (P 1 a)) (sisP S nl a o)) → ∀ (lv : List (Nat × Value)) (pc : Nat), decode cX4_markAkin pc = .ok (.return_, 1) → jW p l e (rmd 1 0 0) s m args below meth c0 D cy A 5 0 0 Q h lv pc []) : ∀ (n k i : Nat) (h : jH), k < n → i + k = nl → CP h S P T nf nl nb ns nt nk nw → sameH h0 h → FrC P h0 h → (∀ a, h_I h 401 a = h_I h0 401 a) → (∀ a, h_I h 402 a = h_I h0 402 a) → (∀ a, a < i → vP (h_I h 403 (P 1 a)) (sisP S nl a o)) → jW p l e (rmd 1 0 0) s m args below meth c0 D cy A 5 0 0 Q h [(0, .ref (P 5 3)), (1, .ref (P 1 o)), (2, .int (nI i))] 2 [] := by
  intro n
  induction n with
  | zero => intro k i h h1; exact absurd h1 (Nat.not_lt_zero _)
  | succ n ih =>
    intro k i h h1 h2 c hs hf h4 h5 hv
    refine j_iload_n C dX4_markAkin_2 rfl ?_
    refine j_aload_n C dX4_markAkin_3 rfl ?_
    refine j_gRe (f := 256) (v := .ref (P 5 1)) C fF_X4_9 rfl c.1.2.2.1.1 (by rw [c.1.2.2.1.2]; rfl) dX4_markAkin_4 ?_
    refine j_gIe (f := 132) (v := (nI nl)) C fF_X4_15 rfl c.2.1.1 (by rw [c.2.1.2.1.2.2.1]; exact hl) dX4_markAkin_7 ?_
    refine j_icmp_ge (tgt := 89) C dX4_markAkin_10 (by decide) (fun c_10 => ?_) (fun c_10 => ?_)
    · have hge : nl ≤ i := nI_ge_of c_10 (by omega) (by omega)
      obtain rfl : k = 0 := by omega
      exact ret h hs hf h4 h5 (fun a ha => hv a (by omega)) _ _ dX4_markAkin_89
    · have hlt : i < nl := nI_lt_of c_10 (by omega)
      obtain ⟨k, rfl⟩ : ∃ q, k = q + 1 := ⟨k - 1, by omega⟩
      have hsis := sis_h c hnl hA hB ho hlt hv
      refine j_aload_n C dX4_markAkin_13 rfl ?_
      refine j_gRe (f := 256) (v := .ref (P 5 1)) C fF_X4_9 rfl c.1.2.2.1.1 (by rw [c.1.2.2.1.2]; rfl) dX4_markAkin_14 ?_
      refine j_iload_n C dX4_markAkin_17 rfl ?_
      refine j_callVq (As := [.int (nI i)]) (rest := []) C fG_X4_21 (s_lotAt c hl hnl (nI i)) c.2.1.1 rfl rfl (Nat.le_of_ble_eq_true rfl) ⟨Nat.le_of_ble_eq_true rfl, Nat.le_of_ble_eq_true rfl⟩ ⟨Nat.le_of_ble_eq_true rfl, Nat.le_of_ble_eq_true rfl⟩ dX4_markAkin_18 (fun r_18 h_18 e_18 => ?_)
      obtain ⟨e1_18, e2_18⟩ := e_18
      rw [lotO_i hl hnl hlt] at e1_18
      subst e1_18
      replace e2_18 := e2_18.symm
      subst e2_18
      refine j_astore_n (lv' := [(0, .ref (P 5 3)), (1, .ref (P 1 o)), (2, .int (nI i)), (3, .ref (P 1 i))]) C dX4_markAkin_21 (by decide) rfl ?_
      refine j_aload_n C dX4_markAkin_22 rfl ?_
      refine j_ifnull C dX4_markAkin_23 ?_
      refine j_aload_n C dX4_markAkin_26 rfl ?_
      refine j_aload_n C dX4_markAkin_27 rfl ?_
      refine j_gRe (f := 389) (v := va_rf (adr P 1 (S 26 o))) C fF_X4_25 rfl (c.2.2.2.1 o ho).1.2 (by rw [(c.2.2.2.1 o ho).2.2.1.2.1]) dX4_markAkin_28 ?_
      refine j_acmp_eq (rx := (some (P 1 i))) (ry := (adr P 1 (S 26 o))) (tgt := 42) C dX4_markAkin_31 (by decide) (fun c_31 => ?_) (fun c_31 => ?_)
      · refine j_iconst (v := 1) C dX4_markAkin_42 (by decide) ?_
        refine j_goto (tgt := 47) C dX4_markAkin_43 (by decide) ?_
        refine j_istore (lv' := [(0, .ref (P 5 3)), (1, .ref (P 1 o)), (2, .int (nI i)), (3, .ref (P 1 i)), (4, .int 1)]) C dX4_markAkin_47 (by decide) rfl ?_
        refine j_aload_n C dX4_markAkin_49 rfl ?_
        refine j_iload C dX4_markAkin_50 rfl ?_
        refine j_if_ne (tgt := 75) C dX4_markAkin_52 (by decide) (fun c_52 => ?_) (fun c_52 => ?_)
        · refine j_iconst (v := 1) C dX4_markAkin_75 (by decide) ?_
          refine j_goto (tgt := 80) C dX4_markAkin_76 (by decide) ?_
          refine j_pI (f := 403) C fP_X4_94 rfl (c.2.2.2.1 i hlt).1.2 (by decide) (by decide) dX4_markAkin_80 ?_
          refine j_iinc (lv' := [(0, .ref (P 5 3)), (1, .ref (P 1 o)), (2, .int (nI (i + 1))), (3, .ref (P 1 i)), (4, .int 1)]) C dX4_markAkin_83 rfl (nI_1 _) (by decide) rfl ?_
          refine j_goto (tgt := 2) C dX4_markAkin_86 (by decide) ?_
          refine j_sub [0, 1, 2] rfl ?_
          refine ih k (i + 1) _ (by omega) (by omega) (c.same (sameH.sI rfl)) (hs.tr (sameH.sI rfl)) (hf.tr (FrC.sI (by decide))) h4 h5 (fun a ha => ?_)
          rw [g_II, if_pos rfl]
          by_cases e : a = i
          · subst e
            rw [if_pos rfl]
            exact Or.inl ⟨rfl, hsis.mpr (Or.inl c_31)⟩
          · rw [if_neg (fun q => e (c.2.2.2.2.2.2.2.2.1 a i (by omega) hlt q))]
            exact hv a (by omega)
        · exact (show False by revert c_52; decide).elim
      · refine j_aload_n C dX4_markAkin_34 rfl ?_
        refine j_aload_n C dX4_markAkin_35 rfl ?_
        refine j_gRe (f := 390) (v := va_rf (adr P 1 (S 27 o))) C fF_X4_35 rfl (c.2.2.2.1 o ho).1.2 (by rw [(c.2.2.2.1 o ho).2.2.1.2.2]) dX4_markAkin_36 ?_
        refine j_acmp_ne (rx := (some (P 1 i))) (ry := (adr P 1 (S 27 o))) (tgt := 46) C dX4_markAkin_39 (by decide) (fun c_39 => ?_) (fun c_39 => ?_)
        · refine j_iconst (v := 0) C dX4_markAkin_46 (by decide) ?_
          refine j_istore (lv' := [(0, .ref (P 5 3)), (1, .ref (P 1 o)), (2, .int (nI i)), (3, .ref (P 1 i)), (4, .int 0)]) C dX4_markAkin_47 (by decide) rfl ?_
          refine j_aload_n C dX4_markAkin_49 rfl ?_
          refine j_iload C dX4_markAkin_50 rfl ?_
          refine j_if_ne (tgt := 75) C dX4_markAkin_52 (by decide) (fun c_52 => ?_) (fun c_52 => ?_)
          · exact (show False by revert c_52; decide).elim
          refine j_aload_n C dX4_markAkin_55 rfl ?_
          refine j_gRe (f := 389) (v := va_rf (adr P 1 (S 26 i))) C fF_X4_25 rfl (c.2.2.2.1 i hlt).1.2 (by rw [(c.2.2.2.1 i hlt).2.2.1.2.1]) dX4_markAkin_56 ?_
          refine j_callSi (As := [va_rf (adr P 1 (S 26 i))]) (rest := [.ref (P 1 i)]) C fG_X4_90 (k_isAkin (adr P 1 (S 26 i)) (adr_ok1 c hnl ((hA i hlt).imp id (fun q => ⟨q.choose, Nat.lt_trans q.choose_spec.1 hlt, q.choose_spec.2⟩)))) rfl rfl (Nat.le_of_ble_eq_true rfl) ⟨Nat.le_of_ble_eq_true rfl, Nat.le_of_ble_eq_true rfl⟩ ⟨Nat.le_of_ble_eq_true rfl, Nat.le_of_ble_eq_true rfl⟩ dX4_markAkin_59 (fun r_59 h_59 e_59 => ?_)
          obtain ⟨e1_59, e2_59⟩ := e_59
          subst e1_59
          replace e2_59 := e2_59.symm
          subst e2_59
          refine j_ifne_b (tgt := 75) C dX4_markAkin_62 (by decide) (fun c_62 => ?_) (fun c_62 => ?_)
          · refine j_iconst (v := 1) C dX4_markAkin_75 (by decide) ?_
            refine j_goto (tgt := 80) C dX4_markAkin_76 (by decide) ?_
            refine j_pI (f := 403) C fP_X4_94 rfl (c.2.2.2.1 i hlt).1.2 (by decide) (by decide) dX4_markAkin_80 ?_
            refine j_iinc (lv' := [(0, .ref (P 5 3)), (1, .ref (P 1 o)), (2, .int (nI (i + 1))), (3, .ref (P 1 i)), (4, .int 0)]) C dX4_markAkin_83 rfl (nI_1 _) (by decide) rfl ?_
            refine j_goto (tgt := 2) C dX4_markAkin_86 (by decide) ?_
            refine j_sub [0, 1, 2] rfl ?_
            refine ih k (i + 1) _ (by omega) (by omega) (c.same (sameH.sI rfl)) (hs.tr (sameH.sI rfl)) (hf.tr (FrC.sI (by decide))) h4 h5 (fun a ha => ?_)
            rw [g_II, if_pos rfl]
            by_cases e : a = i
            · subst e
              rw [if_pos rfl]
              exact Or.inl ⟨rfl, hsis.mpr (Or.inr (Or.inr (Or.inl c_62)))⟩
            · rw [if_neg (fun q => e (c.2.2.2.2.2.2.2.2.1 a i (by omega) hlt q))]
              exact hv a (by omega)
          · refine j_aload_n C dX4_markAkin_65 rfl ?_
            refine j_gRe (f := 390) (v := va_rf (adr P 1 (S 27 i))) C fF_X4_35 rfl (c.2.2.2.1 i hlt).1.2 (by rw [(c.2.2.2.1 i hlt).2.2.1.2.2]) dX4_markAkin_66 ?_
            refine j_callSi (As := [va_rf (adr P 1 (S 27 i))]) (rest := [.ref (P 1 i)]) C fG_X4_90 (k_isAkin (adr P 1 (S 27 i)) (adr_ok1 c hnl ((hB i hlt).imp id (fun q => ⟨q.choose, Nat.lt_trans q.choose_spec.1 hlt, q.choose_spec.2⟩)))) rfl rfl (Nat.le_of_ble_eq_true rfl) ⟨Nat.le_of_ble_eq_true rfl, Nat.le_of_ble_eq_true rfl⟩ ⟨Nat.le_of_ble_eq_true rfl, Nat.le_of_ble_eq_true rfl⟩ dX4_markAkin_69 (fun r_69 h_69 e_69 => ?_)
            obtain ⟨e1_69, e2_69⟩ := e_69
            subst e1_69
            replace e2_69 := e2_69.symm
            subst e2_69
            refine j_ifeq_b (tgt := 79) C dX4_markAkin_72 (by decide) (fun c_72 => ?_) (fun c_72 => ?_)
            · refine j_iconst (v := 0) C dX4_markAkin_79 (by decide) ?_
              refine j_pI (f := 403) C fP_X4_94 rfl (c.2.2.2.1 i hlt).1.2 (by decide) (by decide) dX4_markAkin_80 ?_
              refine j_iinc (lv' := [(0, .ref (P 5 3)), (1, .ref (P 1 o)), (2, .int (nI (i + 1))), (3, .ref (P 1 i)), (4, .int 0)]) C dX4_markAkin_83 rfl (nI_1 _) (by decide) rfl ?_
              refine j_goto (tgt := 2) C dX4_markAkin_86 (by decide) ?_
              refine j_sub [0, 1, 2] rfl ?_
              refine ih k (i + 1) _ (by omega) (by omega) (c.same (sameH.sI rfl)) (hs.tr (sameH.sI rfl)) (hf.tr (FrC.sI (by decide))) h4 h5 (fun a ha => ?_)
              rw [g_II, if_pos rfl]
              by_cases e : a = i
              · subst e
                rw [if_pos rfl]
                exact Or.inr ⟨rfl, fun z => (hsis.mp z).elim c_31 (fun z => z.elim c_39 (fun z => z.elim c_62 c_72))⟩
              · rw [if_neg (fun q => e (c.2.2.2.2.2.2.2.2.1 a i (by omega) hlt q))]
                exact hv a (by omega)
            · refine j_iconst (v := 1) C dX4_markAkin_75 (by decide) ?_
              refine j_goto (tgt := 80) C dX4_markAkin_76 (by decide) ?_
              refine j_pI (f := 403) C fP_X4_94 rfl (c.2.2.2.1 i hlt).1.2 (by decide) (by decide) dX4_markAkin_80 ?_
              refine j_iinc (lv' := [(0, .ref (P 5 3)), (1, .ref (P 1 o)), (2, .int (nI (i + 1))), (3, .ref (P 1 i)), (4, .int 0)]) C dX4_markAkin_83 rfl (nI_1 _) (by decide) rfl ?_
              refine j_goto (tgt := 2) C dX4_markAkin_86 (by decide) ?_
              refine j_sub [0, 1, 2] rfl ?_
              refine ih k (i + 1) _ (by omega) (by omega) (c.same (sameH.sI rfl)) (hs.tr (sameH.sI rfl)) (hf.tr (FrC.sI (by decide))) h4 h5 (fun a ha => ?_)
              rw [g_II, if_pos rfl]
              by_cases e : a = i
              · subst e
                rw [if_pos rfl]
                exact Or.inl ⟨rfl, hsis.mpr (Or.inr (Or.inr (Or.inr c_72)))⟩
              · rw [if_neg (fun q => e (c.2.2.2.2.2.2.2.2.1 a i (by omega) hlt q))]
                exact hv a (by omega)
        · refine j_iconst (v := 1) C dX4_markAkin_42 (by decide) ?_
          refine j_goto (tgt := 47) C dX4_markAkin_43 (by decide) ?_
          refine j_istore (lv' := [(0, .ref (P 5 3)), (1, .ref (P 1 o)), (2, .int (nI i)), (3, .ref (P 1 i)), (4, .int 1)]) C dX4_markAkin_47 (by decide) rfl ?_
          refine j_aload_n C dX4_markAkin_49 rfl ?_
          refine j_iload C dX4_markAkin_50 rfl ?_
          refine j_if_ne (tgt := 75) C dX4_markAkin_52 (by decide) (fun c_52 => ?_) (fun c_52 => ?_)
          · refine j_iconst (v := 1) C dX4_markAkin_75 (by decide) ?_
            refine j_goto (tgt := 80) C dX4_markAkin_76 (by decide) ?_
            refine j_pI (f := 403) C fP_X4_94 rfl (c.2.2.2.1 i hlt).1.2 (by decide) (by decide) dX4_markAkin_80 ?_
            refine j_iinc (lv' := [(0, .ref (P 5 3)), (1, .ref (P 1 o)), (2, .int (nI (i + 1))), (3, .ref (P 1 i)), (4, .int 1)]) C dX4_markAkin_83 rfl (nI_1 _) (by decide) rfl ?_
            refine j_goto (tgt := 2) C dX4_markAkin_86 (by decide) ?_
            refine j_sub [0, 1, 2] rfl ?_
            refine ih k (i + 1) _ (by omega) (by omega) (c.same (sameH.sI rfl)) (hs.tr (sameH.sI rfl)) (hf.tr (FrC.sI (by decide))) h4 h5 (fun a ha => ?_)
            rw [g_II, if_pos rfl]
            by_cases e : a = i
            · subst e
              rw [if_pos rfl]
              exact Or.inl ⟨rfl, hsis.mpr (Or.inr (Or.inl c_39))⟩
            · rw [if_neg (fun q => e (c.2.2.2.2.2.2.2.2.1 a i (by omega) hlt q))]
              exact hv a (by omega)
          · exact (show False by revert c_52; decide).elim
set_option maxHeartbeats 4000000 in
set_option maxRecDepth 100000 in
theorem k_markAkin {l : Launch} {D : va_G} {cy : Nat → ClassId} {h : jH} {S : Nat → Nat → Int32} {P : Nat → Nat → Nat} {T : Nat → Nat → Nat → List Nat} {nf nl nb ns nt nk nw : Nat} {o : Nat} (c : CP h S P T nf nl nb ns nt nk nw) (ho : o < nl) (hl : S 2 0 = nI nl) (hnl : nl ≤ 200) (hA : ∀ q, q < nl → S 26 q = -1 ∨ ∃ j, j < q ∧ S 26 q = nI j) (hB : ∀ q, q < nl → S 27 q = -1 ∨ ∃ j, j < q ∧ S 27 q = nI j) : jV l D cy yX4_markAkin (.code yX4_markAkin cX4_markAkin 5 ((Option.none : Option FieldType))) (rmd 1 0 0) [.ref (P 5 3), .ref (P 1 o)] h (fun h' => sameH h h' ∧ FrC P h h' ∧ (∀ a, h_I h' 401 a = h_I h 401 a) ∧ (∀ a, h_I h' 402 a = h_I h 402 a) ∧ ∀ a, a < nl → vP (h_I h' 403 (P 1 a)) (sisP S nl a o)) := by
  refine j_ofV (by decide) (Nat.le_of_ble_eq_true rfl) (fun p e s m args below meth c0 Q C hin ret => ?_)
  refine j_iconst (v := 0) C dX4_markAkin_0 (by decide) ?_
  refine j_istore_n (lv' := [(0, .ref (P 5 3)), (1, .ref (P 1 o)), (2, .int 0)]) C dX4_markAkin_1 (by decide) rfl ?_
  exact L_mk (h0 := h) C ho hl hnl hA hB (fun h' a1 a2 a3 a4 a5 lv pc hd => ret h' 0 0 lv pc ⟨a1, a2, a3, a4, a5⟩ (Nat.zero_le _) (Nat.zero_le _) hd) (nl + 1) nl 0 h (by omega) (by omega) c sameH.rf FrC.rf (fun _ => rfl) (fun _ => rfl) (fun a ha => absurd ha (Nat.not_lt_zero _))
set_option maxHeartbeats 4000000 in
set_option maxRecDepth 100000 in
theorem L_tb {p : Program} {l : Launch} {e : Env} {s : State} {m : MethodId} {args : Array Value} {below : List Frame} {meth : Method} {c0 : Code} {D : va_G} {cy : Nat → ClassId} {A : Nat → Prop} {Q : State → Prop} (C : jC p s m args meth c0 D cy A 7 RX4 cX4_touchedBy) {h : jH} {S : Nat → Nat → Int32} {P : Nat → Nat → Nat} {T : Nat → Nat → Nat → List Nat} {nf nl nb ns nt nk nw o : Nat} {row t : Int32} (c : CP h S P T nf nl nb ns nt nk nw) (ho : o < nl) (hl : S 2 0 = nI nl) (hnl : nl ≤ 200) (hA : ∀ q, q < nl → S 26 q = -1 ∨ ∃ j, j < q ∧ S 26 q = nI j) (hB : ∀ q, q < nl → S 27 q = -1 ∨ ∃ j, j < q ∧ S 27 q = nI j) (hrow : row = 0 ∨ row = 1 ∨ row = 2) (hz : ∀ a, a < nl → h_I h 401 (P 1 a) = rowsV S (nI o) nl a) (hv : ∀ a, a < nl → vP (h_I h 402 (P 1 a)) (in1 S nl a o)) (hw : ∀ a, a < nl → vP (h_I h 403 (P 1 a)) (sisP S nl a o)) (ret : ∀ r, tch (inB S nl o row) t 0 nl 0 = r → ∀ (lv : List (Nat × Value)) (pc : Nat), decode cX4_touchedBy pc = .ok (.ireturn, 1) → jW p l e (rmd 3 0 0) s m args below meth c0 D cy A 7 0 0 Q h lv pc [.int r]) : ∀ (n k i : Nat) (n_ : Int32), k < n → i + k = nl → tch (inB S nl o row) t 0 nl 0 = tch (inB S nl o row) t i k n_ → jW p l e (rmd 3 0 0) s m args below meth c0 D cy A 7 0 0 Q h [(0, .ref (P 5 3)), (1, .ref (P 1 o)), (2, .int row), (3, .int t), (4, .int n_), (5, .int (nI i))] 21 [] := by
  intro n
  induction n with
  | zero => intro k i n_ h1; exact absurd h1 (Nat.not_lt_zero _)
  | succ n ih =>
    intro k i n_ h1 h2 he
    refine j_iload C dX4_touchedBy_21 rfl ?_
    refine j_aload_n C dX4_touchedBy_23 rfl ?_
    refine j_gRe (f := 256) (v := .ref (P 5 1)) C fF_X4_9 rfl c.1.2.2.1.1 (by rw [c.1.2.2.1.2]; rfl) dX4_touchedBy_24 ?_
    refine j_gIe (f := 132) (v := (nI nl)) C fF_X4_15 rfl c.2.1.1 (by rw [c.2.1.2.1.2.2.1]; exact hl) dX4_touchedBy_27 ?_
    refine j_icmp_ge (tgt := 76) C dX4_touchedBy_30 (by decide) (fun c_30 => ?_) (fun c_30 => ?_)
    · refine j_iconst (v := (-1)) C dX4_touchedBy_76 (by decide) ?_
      have hge : nl ≤ i := nI_ge_of c_30 (by omega) (by omega)
      obtain rfl : k = 0 := by omega
      exact ret _ he _ _ dX4_touchedBy_77
    · have hlt : i < nl := nI_lt_of c_30 (by omega)
      obtain ⟨k, rfl⟩ : ∃ q, k = q + 1 := ⟨k - 1, by omega⟩
      refine j_aload_n C dX4_touchedBy_33 rfl ?_
      refine j_gRe (f := 256) (v := .ref (P 5 1)) C fF_X4_9 rfl c.1.2.2.1.1 (by rw [c.1.2.2.1.2]; rfl) dX4_touchedBy_34 ?_
      refine j_iload C dX4_touchedBy_37 rfl ?_
      refine j_callVq (As := [.int (nI i)]) (rest := []) C fG_X4_21 (s_lotAt c hl hnl (nI i)) c.2.1.1 rfl rfl (Nat.le_of_ble_eq_true rfl) ⟨Nat.le_of_ble_eq_true rfl, Nat.le_of_ble_eq_true rfl⟩ ⟨Nat.le_of_ble_eq_true rfl, Nat.le_of_ble_eq_true rfl⟩ dX4_touchedBy_39 (fun r_39 h_39 e_39 => ?_)
      obtain ⟨e1_39, e2_39⟩ := e_39
      rw [lotO_i hl hnl hlt] at e1_39
      subst e1_39
      replace e2_39 := e2_39.symm
      subst e2_39
      refine j_astore (lv' := [(0, .ref (P 5 3)), (1, .ref (P 1 o)), (2, .int row), (3, .int t), (4, .int n_), (5, .int (nI i)), (6, .ref (P 1 i))]) C dX4_touchedBy_42 (by decide) rfl ?_
      refine j_aload C dX4_touchedBy_44 rfl ?_
      refine j_ifnull C dX4_touchedBy_46 ?_
      refine j_aload C dX4_touchedBy_49 rfl ?_
      refine j_callSi (As := [.ref (P 1 i)]) (rest := []) C fG_X4_77 (k_rowOf (a := (P 1 i)) (c.2.2.2.1 i hlt).1.2) rfl rfl (Nat.le_of_ble_eq_true rfl) ⟨Nat.le_of_ble_eq_true rfl, Nat.le_of_ble_eq_true rfl⟩ ⟨Nat.le_of_ble_eq_true rfl, Nat.le_of_ble_eq_true rfl⟩ dX4_touchedBy_51 (fun rv h_51 e_51 => ?_)
      obtain ⟨e1_51, e2_51⟩ := e_51
      rw [hz i hlt] at e1_51
      have hr := row_eq hA hB hnl ho hlt (hv i hlt) (hw i hlt) e1_51 hrow
      replace e2_51 := e2_51.symm
      subst e2_51
      refine j_iload_n C dX4_touchedBy_54 rfl ?_
      refine j_icmp_ne (tgt := 70) C dX4_touchedBy_55 (by decide) (fun c_55 => ?_) (fun c_55 => ?_)
      · refine j_iinc (lv' := [(0, .ref (P 5 3)), (1, .ref (P 1 o)), (2, .int row), (3, .int t), (4, .int n_), (5, .int (nI (i + 1))), (6, .ref (P 1 i))]) C dX4_touchedBy_70 rfl (nI_1 _) (by decide) rfl ?_
        refine j_goto (tgt := 21) C dX4_touchedBy_73 (by decide) ?_
        refine j_sub [0, 1, 2, 3, 4, 5] rfl ?_
        exact ih k (i + 1) _ (by omega) (by omega) (he.trans (by rw [tch_s, if_neg (fun z => c_55 (hr.mpr z))]))
      · refine j_iload C dX4_touchedBy_58 rfl ?_
        refine j_iload_n C dX4_touchedBy_60 rfl ?_
        refine j_icmp_ne (tgt := 67) C dX4_touchedBy_61 (by decide) (fun c_61 => ?_) (fun c_61 => ?_)
        · refine j_iinc (lv' := [(0, .ref (P 5 3)), (1, .ref (P 1 o)), (2, .int row), (3, .int t), (4, .int (n_ + 1)), (5, .int (nI i)), (6, .ref (P 1 i))]) C dX4_touchedBy_67 rfl rfl (by decide) rfl ?_
          refine j_iinc (lv' := [(0, .ref (P 5 3)), (1, .ref (P 1 o)), (2, .int row), (3, .int t), (4, .int (n_ + 1)), (5, .int (nI (i + 1))), (6, .ref (P 1 i))]) C dX4_touchedBy_70 rfl (nI_1 _) (by decide) rfl ?_
          refine j_goto (tgt := 21) C dX4_touchedBy_73 (by decide) ?_
          refine j_sub [0, 1, 2, 3, 4, 5] rfl ?_
          exact ih k (i + 1) _ (by omega) (by omega) (he.trans (by rw [tch_s, if_pos (hr.mp c_55), if_neg c_61]))
        · refine j_iload C dX4_touchedBy_64 rfl ?_
          exact ret _ (he.trans (by rw [tch_s, if_pos (hr.mp c_55), if_pos c_61])) _ _ dX4_touchedBy_66
set_option maxHeartbeats 4000000 in
set_option maxRecDepth 100000 in
theorem k_touchedBy {l : Launch} {D : va_G} {cy : Nat → ClassId} {h : jH} {S : Nat → Nat → Int32} {P : Nat → Nat → Nat} {T : Nat → Nat → Nat → List Nat} {nf nl nb ns nt nk nw : Nat} {o : Nat} {row t : Int32} (c : CP h S P T nf nl nb ns nt nk nw) (ho : o < nl) (hl : S 2 0 = nI nl) (hnl : nl ≤ 200) (hA : ∀ q, q < nl → S 26 q = -1 ∨ ∃ j, j < q ∧ S 26 q = nI j) (hB : ∀ q, q < nl → S 27 q = -1 ∨ ∃ j, j < q ∧ S 27 q = nI j) (hrow : row = 0 ∨ row = 1 ∨ row = 2) : jI l D cy yX4_touchedBy (.code yX4_touchedBy cX4_touchedBy 7 ((Option.some FieldType.int))) (rmd 3 0 0) [.ref (P 5 3), .ref (P 1 o), .int row, .int t] h (fun r h' => r = tch (inB S nl o row) t 0 nl 0 ∧ sameH h h' ∧ FrC P h h') := by
  refine j_ofI (by decide) (Nat.le_of_ble_eq_true rfl) (fun p e s m args below meth c0 Q C hin ret => ?_)
  refine j_aload_n C dX4_touchedBy_0 rfl ?_
  refine j_aload_n C dX4_touchedBy_1 rfl ?_
  refine j_callVv (As := [.ref (P 1 o)]) (rest := []) C fG_X4_48 (k_trace (o := o) c ho hl hnl hA hB) c.1.2.2.1.1 rfl rfl (Nat.le_of_ble_eq_true rfl) ⟨Nat.le_of_ble_eq_true rfl, Nat.le_of_ble_eq_true rfl⟩ ⟨Nat.le_of_ble_eq_true rfl, Nat.le_of_ble_eq_true rfl⟩ dX4_touchedBy_2 (fun h_2 e_2 => ?_)
  refine j_aload_n C dX4_touchedBy_5 rfl ?_
  refine j_aload_n C dX4_touchedBy_6 rfl ?_
  refine j_callVv (As := [.ref (P 1 o)]) (rest := []) C fG_X4_71 (k_markAbove (o := o) (c.same e_2.1) ho hl hnl hA hB) (e_2.1.ok.mpr c.1.2.2.1.1) rfl rfl (Nat.le_of_ble_eq_true rfl) ⟨Nat.le_of_ble_eq_true rfl, Nat.le_of_ble_eq_true rfl⟩ ⟨Nat.le_of_ble_eq_true rfl, Nat.le_of_ble_eq_true rfl⟩ dX4_touchedBy_7 (fun h_7 e_7 => ?_)
  refine j_aload_n C dX4_touchedBy_10 rfl ?_
  refine j_aload_n C dX4_touchedBy_11 rfl ?_
  refine j_callVv (As := [.ref (P 1 o)]) (rest := []) C fG_X4_74 (k_markAkin (o := o) (c.same (e_2.1.tr e_7.1)) ho hl hnl hA hB) ((e_2.1.tr e_7.1).ok.mpr c.1.2.2.1.1) rfl rfl (Nat.le_of_ble_eq_true rfl) ⟨Nat.le_of_ble_eq_true rfl, Nat.le_of_ble_eq_true rfl⟩ ⟨Nat.le_of_ble_eq_true rfl, Nat.le_of_ble_eq_true rfl⟩ dX4_touchedBy_12 (fun h_12 e_12 => ?_)
  refine j_iconst (v := 0) C dX4_touchedBy_15 (by decide) ?_
  refine j_istore (lv' := [(0, .ref (P 5 3)), (1, .ref (P 1 o)), (2, .int row), (3, .int t), (4, .int 0)]) C dX4_touchedBy_16 (by decide) rfl ?_
  refine j_iconst (v := 0) C dX4_touchedBy_18 (by decide) ?_
  refine j_istore (lv' := [(0, .ref (P 5 3)), (1, .ref (P 1 o)), (2, .int row), (3, .int t), (4, .int 0), (5, .int 0)]) C dX4_touchedBy_19 (by decide) rfl ?_
  exact L_tb C (c.same ((e_2.1.tr e_7.1).tr e_12.1)) ho hl hnl hA hB hrow (fun a ha => by rw [e_12.2.2.1, e_7.2.2.1]; exact e_2.2.2 a ha) (fun a ha => by rw [e_12.2.2.2.1]; exact e_7.2.2.2 a ha) e_12.2.2.2.2 (fun r hr lv pc hd => ret r _ 0 0 lv pc ⟨hr.symm, (e_2.1.tr e_7.1).tr e_12.1, (e_2.2.1.tr e_7.2.1).tr e_12.2.1⟩ (Nat.zero_le _) (Nat.zero_le _) hd) (nl + 1) nl 0 0 (by omega) (by omega) rfl
theorem row_3 {row : Int32} (h : 0 ≤ row ∧ row ≤ 2) : row = 0 ∨ row = 1 ∨ row = 2 := by
  obtain ⟨j, hj, rfl⟩ := nI_of2 (x := row) (M := 2) (n := 2) (by decide) (Int32.not_lt.mpr h.1) h.2
  rcases (show j = 0 ∨ j = 1 ∨ j = 2 by omega) with e | e | e
  · exact Or.inl (by rw [e]; rfl)
  · exact Or.inr (Or.inl (by rw [e]; rfl))
  · exact Or.inr (Or.inr (by rw [e]; rfl))
set_option maxHeartbeats 4000000 in
set_option maxRecDepth 100000 in
theorem x_touched {l : Launch} {D : va_G} {cy : Nat → ClassId} {h : jH} {S : Nat → Nat → Int32} {P : Nat → Nat → Nat} {T : Nat → Nat → Nat → List Nat} {nf nl nb ns nt nk nw : Nat} (c : CP h S P T nf nl nb ns nt nk nw) (hl : S 2 0 = nI nl) (hnl : nl ≤ 200) (hA : ∀ q, q < nl → S 26 q = -1 ∨ ∃ j, j < q ∧ S 26 q = nI j) (hB : ∀ q, q < nl → S 27 q = -1 ∨ ∃ j, j < q ∧ S 27 q = nI j) (lt : Int32) (row : Int32) (t : Int32) : jI l D cy yX10_touched (.code yX10_touched cX10_touched 5 ((Option.some FieldType.int))) (rmd 4 0 0) [.ref (P 5 0), .int lt, .int row, .int t] h (fun r h' => r = m_touched S lt row t nl ∧ CP h' S P T nf nl nb ns nt nk nw ∧ FrC P h h') := by
  refine j_ofI (by decide) (Nat.le_of_ble_eq_true rfl) (fun p e s m args below meth c0 Q C hin ret => ?_)
  refine j_aload_n C dX10_touched_0 rfl ?_
  refine j_gRe (f := 640) (v := .ref (P 5 1)) C fF_X10_10 rfl c.1.1.1 (by rw [c.1.1.2.1]; rfl) dX10_touched_1 ?_
  refine j_iload_n C dX10_touched_4 rfl ?_
  refine j_callVq (As := [.int lt]) (rest := []) C fG_X10_107 (s_lotAt c hl hnl (lt)) c.2.1.1 rfl rfl (Nat.le_of_ble_eq_true rfl) ⟨Nat.le_of_ble_eq_true rfl, Nat.le_of_ble_eq_true rfl⟩ ⟨Nat.le_of_ble_eq_true rfl, Nat.le_of_ble_eq_true rfl⟩ dX10_touched_5 (fun r_5 h_5 e_5 => ?_)
  obtain ⟨e1_5, e2_5⟩ := e_5
  subst e1_5
  replace e2_5 := e2_5.symm
  subst e2_5
  refine j_astoreQ (lv' := [(0, .ref (P 5 0)), (1, .int lt), (2, .int row), (3, .int t), (4, va_rf (lotO S P lt))]) C dX10_touched_8 (by decide) rfl ?_
  refine j_aloadQ C dX10_touched_10 rfl ?_
  cases hq_12 : (lotO S P lt) with
  | none =>
    refine j_ifnullN (tgt := 28) C dX10_touched_12 (by decide) ?_
    refine j_iconst (v := (-1)) C dX10_touched_28 (by decide) ?_
    exact ret _ _ 0 0 _ _ ⟨by rw [m_touched, if_neg (fun z => lotO_n hq_12 z.1)], c, FrC.rf⟩ (Nat.zero_le _) (Nat.zero_le _) dX10_touched_29
  | some x_12 =>
    refine j_ifnull C dX10_touched_12 ?_
    obtain ⟨j, hj, hx, ha, hL⟩ := lotO_s hl hnl hq_12
    subst hx
    subst ha
    refine j_iload_n C dX10_touched_15 rfl ?_
    refine j_iconst (v := 0) C dX10_touched_16 (by decide) ?_
    refine j_iconst (v := 2) C dX10_touched_17 (by decide) ?_
    refine j_callSi (As := [.int row, .int 0, .int 2]) (rest := []) C fG_X10_43 (k_within (row) (0) (2)) rfl rfl (Nat.le_of_ble_eq_true rfl) ⟨Nat.le_of_ble_eq_true rfl, Nat.le_of_ble_eq_true rfl⟩ ⟨Nat.le_of_ble_eq_true rfl, Nat.le_of_ble_eq_true rfl⟩ dX10_touched_18 (fun r_18 h_18 e_18 => ?_)
    obtain ⟨e1_18, e2_18⟩ := e_18
    subst e1_18
    replace e2_18 := e2_18.symm
    subst e2_18
    refine j_ifeq_b (tgt := 28) C dX10_touched_21 (by decide) (fun c_21 => ?_) (fun c_21 => ?_)
    · refine j_iconst (v := (-1)) C dX10_touched_28 (by decide) ?_
      exact ret _ _ 0 0 _ _ ⟨by rw [m_touched, if_neg (fun z => c_21 z.2.1)], c, FrC.rf⟩ (Nat.zero_le _) (Nat.zero_le _) dX10_touched_29
    · refine j_iload_n C dX10_touched_24 rfl ?_
      refine j_if_ge (tgt := 30) C dX10_touched_25 (by decide) (fun c_25 => ?_) (fun c_25 => ?_)
      · refine j_aload_n C dX10_touched_30 rfl ?_
        refine j_gRe (f := 642) (v := .ref (P 5 3)) C fF_X10_28 rfl c.1.1.1 (by rw [c.1.1.2.2.2.1]; rfl) dX10_touched_31 ?_
        refine j_aload C dX10_touched_34 rfl ?_
        refine j_iload_n C dX10_touched_36 rfl ?_
        refine j_iload_n C dX10_touched_37 rfl ?_
        refine j_callVi (As := [.ref (P 1 j), .int row, .int t]) (rest := []) C fG_X10_247 (k_touchedBy (o := j) (row := row) (t := t) c hj hl hnl hA hB (row_3 c_21)) c.1.2.2.1.1 rfl rfl (Nat.le_of_ble_eq_true rfl) ⟨Nat.le_of_ble_eq_true rfl, Nat.le_of_ble_eq_true rfl⟩ ⟨Nat.le_of_ble_eq_true rfl, Nat.le_of_ble_eq_true rfl⟩ dX10_touched_38 (fun r_38 h_38 e_38 => ?_)
        exact ret _ _ 0 0 _ _ ⟨by rw [e_38.1, m_touched, if_pos ⟨hL, c_21, c_25⟩, nI_clamp (by omega)], c.same e_38.2.1, e_38.2.2⟩ (Nat.zero_le _) (Nat.zero_le _) dX10_touched_41
      · refine j_iconst (v := (-1)) C dX10_touched_28 (by decide) ?_
        exact ret _ _ 0 0 _ _ ⟨by rw [m_touched, if_neg (fun z => c_25 z.2.2)], c, FrC.rf⟩ (Nat.zero_le _) (Nat.zero_le _) dX10_touched_29
