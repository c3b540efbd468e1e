theorem gt_M {M i : Nat} (hM : M ≤ 200) (hi : i ≤ 200) : nI M - 1 < nI i ↔ M ≤ i := by
  have e1 : (nI M - nI 1).toInt = (M : Int) - (1 : Nat) := pk_sub_toInt (by omega) (by omega)
  have e2 : (nI M - 1 : Int32) = nI M - nI 1 := rfl
  rw [Int32.lt_iff_toInt_lt, e2, e1, nI_toInt (by omega)]
  omega
theorem cl1_n {S : Nat → Nat → Int32} {q : Int32} {i : Nat} {z w : Nat → Int32} (h : ¬ S 21 i = 0) : cl1 S q i (z, w) = (z, w) := if_neg h
theorem cl1_t {S : Nat → Nat → Int32} {q : Int32} {i : Nat} {z w : Nat → Int32} (h : S 21 i = 0) : cl1 S q i (z, w) = (upd z i (if why0 S i q = 0 then 0 else 9), upd w i (why0 S i q)) := if_pos h
theorem c2_t {S : Nat → Nat → Int32} {q : Int32} {nf nl ns nt nk i : Nat} {z w : Nat → Int32} (h : S 21 i = 0) : c2 S q nf nl ns nt nk i (z, w) = (z, w) := if_neg (fun u => u h)
theorem c2_n {S : Nat → Nat → Int32} {q : Int32} {nf nl ns nt nk i : Nat} {z w : Nat → Int32} (h : ¬ S 21 i = 0) : c2 S q nf nl ns nt nk i (z, w) = (upd z i (rankZ S z w i q nf nl ns nt nk), upd w i (whyZ S z w i q nf nl ns nt nk)) := if_pos h
theorem up_at {h : jH} {P : Nat → Nat → Nat} {i a f : Nat} {z : Nat → Int32} {v : Int32} (hd : P 1 a = P 1 i → a = i) (hz : h_I h f (P 1 a) = z a) : h_I (s_I h f (P 1 i) v) f (P 1 a) = upd z i v a := by
  rw [g_II, if_pos rfl]
  unfold upd
  by_cases e : a = i
  · rw [if_pos (by rw [e]), if_pos e]
  · rw [if_neg (fun q => e (hd q)), if_neg e]
    exact hz
theorem SI.now {S : Nat → Nat → Int32} {nf nl nb ns nt nk nw yy : Nat} (I : SI S nf nl nb ns nt nk nw yy) {a : Nat} (ha : a < nl) : ¬ S 0 0 < S 24 a := by
  obtain ⟨y, h1, h2⟩ := (I.lo a ha).2
  have := I.yr.2
  rw [h2, I.yr.1]
  exact nI_nlt h1 (by omega)
/-- the class has judged up to M -/
def asP (S : Nat → Nat → Int32) (P : Nat → Nat → Nat) (q : Int32) (nf nl ns nt nk M : Nat) (h h' : jH) : Prop := sameH h h' ∧ FrC P h h' ∧ ∀ a, a < M → ¬ q < S 24 a → h_I h' 399 (P 1 a) = (clsZ S q nf nl ns nt nk).1 a ∧ h_I h' 400 (P 1 a) = (clsZ S q nf nl ns nt nk).2 a
set_option maxHeartbeats 4000000 in
set_option maxRecDepth 100000 in
theorem L_as1 {p : Program} {l : Launch} {e : Env} {s : State} {m : MethodId} {args : Array Value} {below : List Frame} {meth : Method} {c0 : Code} {D : va_G} {cy : Nat → ClassId} {A : Nat → Prop} {Q : State → Prop} (C : jC p s m args meth c0 D cy A 5 RX0 cX0_assessUpTo) {S : Nat → Nat → Int32} {P : Nat → Nat → Nat} {T : Nat → Nat → Nat → List Nat} {nf nl nb ns nt nk nw yy : Nat} {h0 : jH} {num q : Int32} (I : SI S nf nl nb ns nt nk nw yy) (hl : S 2 0 = nI nl) (hnl : nl ≤ 200) {pE : (Nat → Int32) × (Nat → Int32)} (nx : ∀ (h : jH) (z w : Nat → Int32), CP h S P T nf nl nb ns nt nk nw → sameH h0 h → FrC P h0 h → (∀ a, a < nl → h_I h 399 (P 1 a) = z a) → (∀ a, a < nl → h_I h 400 (P 1 a) = w a) → (z, w) = pE → jW p l e (rmd 7 0 0) s m args below meth c0 D cy A 5 0 0 Q h [(0, .ref (P 5 2)), (1, .int num), (2, .int q)] 49 []) : ∀ (n k i : Nat) (h : jH) (z w : Nat → Int32), k < n → i + k = nl → CP h S P T nf nl nb ns nt nk nw → sameH h0 h → FrC P h0 h → (∀ a, a < nl → h_I h 399 (P 1 a) = z a) → (∀ a, a < nl → h_I h 400 (P 1 a) = w a) → pE = flp (cl1 S q) i k (z, w) → jW p l e (rmd 7 0 0) s m args below meth c0 D cy A 5 0 0 Q h [(0, .ref (P 5 2)), (1, .int num), (2, .int q), (3, .int (nI i))] 2 [] := by
  intro n
  induction n with
  | zero => intro k i h z w h1; exact absurd h1 (Nat.not_lt_zero _)
  | succ n ih =>
    intro k i h z w h1 h2 c hs hf hz hw he
    refine j_iload_n C dX0_assessUpTo_2 rfl ?_
    refine j_aload_n C dX0_assessUpTo_3 rfl ?_
    refine j_gRe (f := 0) (v := .ref (P 5 1)) C fF_X0_9 rfl c.1.2.1.1 (by rw [c.1.2.1.2]; rfl) dX0_assessUpTo_4 ?_
    refine j_gIe (f := 132) (v := (nI nl)) C fF_X0_15 rfl c.2.1.1 (by rw [c.2.1.2.1.2.2.1]; exact hl) dX0_assessUpTo_7 ?_
    refine j_icmp_ge (tgt := 49) C dX0_assessUpTo_10 (by decide) (fun c_10 => ?_) (fun c_10 => ?_)
    · have hge : nl ≤ i := nI_ge_of c_10 (by omega) (by omega)
      obtain rfl : k = 0 := by omega
      refine j_sub [0, 1, 2] rfl ?_
      exact nx h z w c hs hf hz hw he.symm
    · have hlt : i < nl := nI_lt_of c_10 (by omega)
      obtain ⟨k, rfl⟩ : ∃ q, k = q + 1 := ⟨k - 1, by omega⟩
      refine j_aload_n C dX0_assessUpTo_13 rfl ?_
      refine j_gRe (f := 0) (v := .ref (P 5 1)) C fF_X0_9 rfl c.1.2.1.1 (by rw [c.1.2.1.2]; rfl) dX0_assessUpTo_14 ?_
      refine j_iload_n C dX0_assessUpTo_17 rfl ?_
      refine j_callVq (As := [.int (nI i)]) (rest := []) C fG_X0_21 (s_lotAt c hl hnl (nI i)) c.2.1.1 rfl rfl (Nat.le_of_ble_eq_true rfl) ⟨Nat.le_of_ble_eq_true rfl, Nat.le_of_ble_eq_true rfl⟩ ⟨Nat.le_of_ble_eq_true rfl, Nat.le_of_ble_eq_true rfl⟩ dX0_assessUpTo_18 (fun r_18 h_18 e_18 => ?_)
      obtain ⟨e1_18, e2_18⟩ := e_18
      rw [lotO_i hl hnl hlt] at e1_18
      subst e1_18
      replace e2_18 := e2_18.symm
      subst e2_18
      refine j_astore (lv' := [(0, .ref (P 5 2)), (1, .int num), (2, .int q), (3, .int (nI i)), (4, .ref (P 1 i))]) C dX0_assessUpTo_21 (by decide) rfl ?_
      refine j_aload C dX0_assessUpTo_23 rfl ?_
      refine j_ifnull C dX0_assessUpTo_25 ?_
      refine j_aload C dX0_assessUpTo_28 rfl ?_
      refine j_gIe (f := 385) (v := (S 21 i)) C fF_X0_25 rfl (c.2.2.2.1 i hlt).1.2 (c.2.2.2.1 i hlt).2.1.2.1 dX0_assessUpTo_30 ?_
      refine j_if_ne (tgt := 43) C dX0_assessUpTo_33 (by decide) (fun c_33 => ?_) (fun c_33 => ?_)
      · refine j_iinc (lv' := [(0, .ref (P 5 2)), (1, .int num), (2, .int q), (3, .int (nI (i + 1))), (4, .ref (P 1 i))]) C dX0_assessUpTo_43 rfl (nI_1 _) (by decide) rfl ?_
        refine j_goto (tgt := 2) C dX0_assessUpTo_46 (by decide) ?_
        refine j_sub [0, 1, 2, 3] rfl ?_
        exact ih k (i + 1) h z w (by omega) (by omega) c hs hf hz hw (he.trans (flp_s (cl1_n c_33)))
      · refine j_aload_n C dX0_assessUpTo_36 rfl ?_
        refine j_aload C dX0_assessUpTo_37 rfl ?_
        refine j_iload_n C dX0_assessUpTo_39 rfl ?_
        refine j_callVv (As := [.ref (P 1 i), .int q]) (rest := []) C fG_X0_30 (k_assess (lt := i) c I hz hlt (fun u => absurd (u.symm.trans c_33) (by decide)) q) c.1.2.1.1 rfl rfl (Nat.le_of_ble_eq_true rfl) ⟨Nat.le_of_ble_eq_true rfl, Nat.le_of_ble_eq_true rfl⟩ ⟨Nat.le_of_ble_eq_true rfl, Nat.le_of_ble_eq_true rfl⟩ dX0_assessUpTo_40 (fun h_40 e_40 => ?_)
        subst e_40
        refine j_iinc (lv' := [(0, .ref (P 5 2)), (1, .int num), (2, .int q), (3, .int (nI (i + 1))), (4, .ref (P 1 i))]) C dX0_assessUpTo_43 rfl (nI_1 _) (by decide) rfl ?_
        refine j_goto (tgt := 2) C dX0_assessUpTo_46 (by decide) ?_
        have hv := as_t (z := z) I hlt c_33 q
        rw [hv.2, hv.1]
        refine j_sub [0, 1, 2, 3] rfl ?_
        refine ih k (i + 1) _ (upd z i _) (upd w i _) (by omega) (by omega) ((c.same (sameH.sI rfl)).same (sameH.sI rfl)) ((hs.tr (sameH.sI rfl)).tr (sameH.sI rfl)) ((hf.tr (FrC.sI (by decide))).tr (FrC.sI (by decide))) (fun a ha => up_at (h := s_I h 400 (P 1 i) _) (c.2.2.2.2.2.2.2.2.1 a i ha hlt) (hz a ha)) (fun a ha => ?_) (he.trans (flp_s (cl1_t c_33)))
        exact up_at (c.2.2.2.2.2.2.2.2.1 a i ha hlt) (hw a ha)
set_option maxHeartbeats 4000000 in
set_option maxRecDepth 100000 in
theorem L_as2 {p : Program} {l : Launch} {e : Env} {s : State} {m : MethodId} {args : Array Value} {below : List Frame} {meth : Method} {c0 : Code} {D : va_G} {cy : Nat → ClassId} {A : Nat → Prop} {Q : State → Prop} (C : jC p s m args meth c0 D cy A 5 RX0 cX0_assessUpTo) {S : Nat → Nat → Int32} {P : Nat → Nat → Nat} {T : Nat → Nat → Nat → List Nat} {nf nl nb ns nt nk nw yy : Nat} {h0 : jH} {num q : Int32} (I : SI S nf nl nb ns nt nk nw yy) (hl : S 2 0 = nI nl) (hnl : nl ≤ 200) {M : Nat} (hn : num = nI M - 1) (hM : M ≤ nl) {pE : (Nat → Int32) × (Nat → Int32)} (ret : ∀ (h : jH) (z w : Nat → Int32), CP h S P T nf nl nb ns nt nk nw → sameH h0 h → FrC P h0 h → (∀ a, a < nl → h_I h 399 (P 1 a) = z a) → (∀ a, a < nl → h_I h 400 (P 1 a) = w a) → (z, w) = pE → ∀ (lv : List (Nat × Value)) (pc : Nat), decode cX0_assessUpTo pc = .ok (.return_, 1) → jW p l e (rmd 7 0 0) s m args below meth c0 D cy A 5 0 0 Q h lv pc []) : ∀ (n k i : Nat) (h : jH) (z w : Nat → Int32), k < n → i + k = M → CP h S P T nf nl nb ns nt nk nw → sameH h0 h → FrC P h0 h → (∀ a, a < nl → h_I h 399 (P 1 a) = z a) → (∀ a, a < nl → h_I h 400 (P 1 a) = w a) → Bd S nl i z → pE = flp (c2 S q nf nl ns nt nk) i k (z, w) → jW p l e (rmd 7 0 0) s m args below meth c0 D cy A 5 0 0 Q h [(0, .ref (P 5 2)), (1, .int num), (2, .int q), (3, .int (nI i))] 51 [] := by
  intro n
  induction n with
  | zero => intro k i h z w h1; exact absurd h1 (Nat.not_lt_zero _)
  | succ n ih =>
    intro k i h z w h1 h2 c hs hf hz hw bd he
    refine j_iload_n C dX0_assessUpTo_51 rfl ?_
    refine j_iload_n C dX0_assessUpTo_52 rfl ?_
    refine j_icmp_gt (tgt := 103) C dX0_assessUpTo_53 (by decide) (fun c_53 => ?_) (fun c_53 => ?_)
    · rw [hn] at c_53
      have hge := (gt_M (by omega) (by omega)).mp c_53
      obtain rfl : k = 0 := by omega
      exact ret h z w c hs hf hz hw he.symm _ _ dX0_assessUpTo_103
    · have hiM : i < M := Nat.lt_of_not_le (fun u => c_53 (by rw [hn]; exact (gt_M (by omega) (by omega)).mpr u))
      have hlt : i < nl := by omega
      obtain ⟨k, rfl⟩ : ∃ q, k = q + 1 := ⟨k - 1, by omega⟩
      refine j_iload_n C dX0_assessUpTo_56 rfl ?_
      refine j_aload_n C dX0_assessUpTo_57 rfl ?_
      refine j_gRe (f := 0) (v := .ref (P 5 1)) C fF_X0_9 rfl c.1.2.1.1 (by rw [c.1.2.1.2]; rfl) dX0_assessUpTo_58 ?_
      refine j_gIe (f := 132) (v := (nI nl)) C fF_X0_15 rfl c.2.1.1 (by rw [c.2.1.2.1.2.2.1]; exact hl) dX0_assessUpTo_61 ?_
      refine j_icmp_ge (tgt := 103) C dX0_assessUpTo_64 (by decide) (fun c_64 => ?_) (fun c_64 => ?_)
      · exact absurd (nI_ge_of c_64 (by omega) (by omega)) (by omega)
      · refine j_aload_n C dX0_assessUpTo_67 rfl ?_
        refine j_gRe (f := 0) (v := .ref (P 5 1)) C fF_X0_9 rfl c.1.2.1.1 (by rw [c.1.2.1.2]; rfl) dX0_assessUpTo_68 ?_
        refine j_iload_n C dX0_assessUpTo_71 rfl ?_
        refine j_callVq (As := [.int (nI i)]) (rest := []) C fG_X0_21 (s_lotAt c hl hnl (nI i)) c.2.1.1 rfl rfl (Nat.le_of_ble_eq_true rfl) ⟨Nat.le_of_ble_eq_true rfl, Nat.le_of_ble_eq_true rfl⟩ ⟨Nat.le_of_ble_eq_true rfl, Nat.le_of_ble_eq_true rfl⟩ dX0_assessUpTo_72 (fun r_72 h_72 e_72 => ?_)
        obtain ⟨e1_72, e2_72⟩ := e_72
        rw [lotO_i hl hnl hlt] at e1_72
        subst e1_72
        replace e2_72 := e2_72.symm
        subst e2_72
        refine j_astore (lv' := [(0, .ref (P 5 2)), (1, .int num), (2, .int q), (3, .int (nI i)), (4, .ref (P 1 i))]) C dX0_assessUpTo_75 (by decide) rfl ?_
        refine j_aload C dX0_assessUpTo_77 rfl ?_
        refine j_ifnull C dX0_assessUpTo_79 ?_
        refine j_aload C dX0_assessUpTo_82 rfl ?_
        refine j_gIe (f := 385) (v := (S 21 i)) C fF_X0_25 rfl (c.2.2.2.1 i hlt).1.2 (c.2.2.2.1 i hlt).2.1.2.1 dX0_assessUpTo_84 ?_
        refine j_if_eq (tgt := 97) C dX0_assessUpTo_87 (by decide) (fun c_87 => ?_) (fun c_87 => ?_)
        · refine j_iinc (lv' := [(0, .ref (P 5 2)), (1, .int num), (2, .int q), (3, .int (nI (i + 1))), (4, .ref (P 1 i))]) C dX0_assessUpTo_97 rfl (nI_1 _) (by decide) rfl ?_
          refine j_goto (tgt := 51) C dX0_assessUpTo_100 (by decide) ?_
          refine j_sub [0, 1, 2, 3] rfl ?_
          exact ih k (i + 1) h z w (by omega) (by omega) c hs hf hz hw (fun a ha u => bd a ha (u.elim Or.inl (fun v => by
            by_cases e : a = i
            · subst e; exact Or.inl c_87
            · exact Or.inr (by omega)))) (he.trans (flp_s (c2_t c_87)))
        · refine j_aload_n C dX0_assessUpTo_90 rfl ?_
          refine j_aload C dX0_assessUpTo_91 rfl ?_
          refine j_iload_n C dX0_assessUpTo_93 rfl ?_
          refine j_callVv (As := [.ref (P 1 i), .int q]) (rest := []) C fG_X0_30 (k_assess (lt := i) c I hz hlt (fun _ => bd) q) c.1.2.1.1 rfl rfl (Nat.le_of_ble_eq_true rfl) ⟨Nat.le_of_ble_eq_true rfl, Nat.le_of_ble_eq_true rfl⟩ ⟨Nat.le_of_ble_eq_true rfl, Nat.le_of_ble_eq_true rfl⟩ dX0_assessUpTo_94 (fun h_94 e_94 => ?_)
          subst e_94
          refine j_iinc (lv' := [(0, .ref (P 5 2)), (1, .int num), (2, .int q), (3, .int (nI (i + 1))), (4, .ref (P 1 i))]) C dX0_assessUpTo_97 rfl (nI_1 _) (by decide) rfl ?_
          refine j_goto (tgt := 51) C dX0_assessUpTo_100 (by decide) ?_
          have hv := as_n (w := w) I hlt bd c_87 q
          rw [hv.2, hv.1]
          refine j_sub [0, 1, 2, 3] rfl ?_
          refine ih k (i + 1) _ (upd z i _) (upd w i _) (by omega) (by omega) ((c.same (sameH.sI rfl)).same (sameH.sI rfl)) ((hs.tr (sameH.sI rfl)).tr (sameH.sI rfl)) ((hf.tr (FrC.sI (by decide))).tr (FrC.sI (by decide))) (fun a ha => up_at (h := s_I h 400 (P 1 i) _) (c.2.2.2.2.2.2.2.2.1 a i ha hlt) (hz a ha)) (fun a ha => ?_) (by have := Bd.st2 (q := q) I (p := (z, w)) hlt bd; rw [c2_n c_87] at this; exact this) (he.trans (flp_s (c2_n c_87)))
          exact up_at (c.2.2.2.2.2.2.2.2.1 a i ha hlt) (hw a ha)
set_option maxHeartbeats 4000000 in
set_option maxRecDepth 100000 in
theorem k_upTo {l : Launch} {D : va_G} {cy : Nat → ClassId} {h : jH} {S : Nat → Nat → Int32} {P : Nat → Nat → Nat} {T : Nat → Nat → Nat → List Nat} {nf nl nb ns nt nk nw yy : Nat} (c : CP h S P T nf nl nb ns nt nk nw) (I : SI S nf nl nb ns nt nk nw yy) {M : Nat} {num : Int32} (hn : num = nI M - 1) (hM : M ≤ nl) (q : Int32) : jV l D cy yX0_assessUpTo (.code yX0_assessUpTo cX0_assessUpTo 5 ((Option.none : Option FieldType))) (rmd 7 0 0) [.ref (P 5 2), .int num, .int q] h (fun h' => asP S P q nf nl ns nt nk M h h') := by
  refine j_ofV (by decide) (Nat.le_of_ble_eq_true rfl) (fun p e s m args below meth c0 Q C hin ret => ?_)
  refine j_iconst (v := 0) C dX0_assessUpTo_0 (by decide) ?_
  refine j_istore_n (lv' := [(0, .ref (P 5 2)), (1, .int num), (2, .int q), (3, .int 0)]) C dX0_assessUpTo_1 (by decide) rfl ?_
  refine L_as1 (h0 := h) (pE := flp (cl1 S q) 0 nl ((fun a => h_I h 399 (P 1 a)), (fun a => h_I h 400 (P 1 a)))) C I I.lt.1 I.lt.2 (fun h1 z w c1 s1 f1 z1 w1 e1 => ?_) (nl + 1) nl 0 h _ _ (by omega) (by omega) c sameH.rf FrC.rf (fun _ _ => rfl) (fun _ _ => rfl) rfl
  refine j_iconst (v := 0) C dX0_assessUpTo_49 (by decide) ?_
  refine j_istore_n (lv' := [(0, .ref (P 5 2)), (1, .int num), (2, .int q), (3, .int 0)]) C dX0_assessUpTo_50 (by decide) rfl ?_
  refine L_as2 (pE := flp (c2 S q nf nl ns nt nk) 0 M (z, w)) C I I.lt.1 I.lt.2 hn hM (fun h' z' w' c' s' f' z1' w1' e' lv pc hd => ret h' 0 0 lv pc ⟨s', f', fun a ha hq => ?_⟩ (Nat.zero_le _) (Nat.zero_le _) hd) (M + 1) M 0 h1 z w (by omega) (by omega) c1 s1 f1 z1 w1 ?_ rfl
  · have ce := cls_eq I q ((fun a => h_I h 399 (P 1 a)), (fun a => h_I h 400 (P 1 a))) hM ha hq
    rw [← e1, ← e'] at ce
    exact ⟨(z1' a (by omega)).trans ce.1, (w1' a (by omega)).trans ce.2⟩
  · have b1 := Bd.st1 (S := S) (q := q) (nl := nl) ((fun a => h_I h 399 (P 1 a)), (fun a => h_I h 400 (P 1 a)))
    rw [← e1] at b1
    exact b1
set_option maxHeartbeats 4000000 in
set_option maxRecDepth 100000 in
theorem L_out {p : Program} {l : Launch} {e : Env} {s : State} {m : MethodId} {args : Array Value} {below : List Frame} {meth : Method} {c0 : Code} {D : va_G} {cy : Nat → ClassId} {A : Nat → Prop} {Q : State → Prop} (C : jC p s m args meth c0 D cy A 5 RX0 cX0_countOut) {h : jH} {S : Nat → Nat → Int32} {P : Nat → Nat → Nat} {T : Nat → Nat → Nat → List Nat} {nf nl nb ns nt nk nw : Nat} {q : Int32} (c : CP h S P T nf nl nb ns nt nk nw) (hl : S 2 0 = nI nl) (hnl : nl ≤ 200) {z : Nat → Int32} (hz : ∀ a, a < nl → h_I h 399 (P 1 a) = z a) (ret : ∀ r, flp (gOut z) 0 nl 0 = r → ∀ (lv : List (Nat × Value)) (pc : Nat), decode cX0_countOut pc = .ok (.ireturn, 1) → jW p l e (rmd 8 0 0) s m args below meth c0 D cy A 5 0 0 Q h lv pc [.int r]) : ∀ (n k i : Nat) (n_ : Int32), k < n → i + k = nl → flp (gOut z) 0 nl 0 = flp (gOut z) i k n_ → jW p l e (rmd 8 0 0) s m args below meth c0 D cy A 5 0 0 Q h [(0, .ref (P 5 2)), (1, .int q), (2, .int n_), (3, .int (nI i))] 18 [] := by
  intro n
  induction n with
  | zero => intro k i n_ h1; exact absurd h1 (Nat.not_lt_zero _)
  | succ n ih =>
    intro k i n_ h1 h2 he
    refine j_iload_n C dX0_countOut_18 rfl ?_
    refine j_aload_n C dX0_countOut_19 rfl ?_
    refine j_gRe (f := 0) (v := .ref (P 5 1)) C fF_X0_9 rfl c.1.2.1.1 (by rw [c.1.2.1.2]; rfl) dX0_countOut_20 ?_
    refine j_gIe (f := 132) (v := (nI nl)) C fF_X0_15 rfl c.2.1.1 (by rw [c.2.1.2.1.2.2.1]; exact hl) dX0_countOut_23 ?_
    refine j_icmp_ge (tgt := 63) C dX0_countOut_26 (by decide) (fun c_26 => ?_) (fun c_26 => ?_)
    · refine j_iload_n C dX0_countOut_63 rfl ?_
      have hge : nl ≤ i := nI_ge_of c_26 (by omega) (by omega)
      obtain rfl : k = 0 := by omega
      exact ret _ he _ _ dX0_countOut_64
    · have hlt : i < nl := nI_lt_of c_26 (by omega)
      obtain ⟨k, rfl⟩ : ∃ q, k = q + 1 := ⟨k - 1, by omega⟩
      refine j_aload_n C dX0_countOut_29 rfl ?_
      refine j_gRe (f := 0) (v := .ref (P 5 1)) C fF_X0_9 rfl c.1.2.1.1 (by rw [c.1.2.1.2]; rfl) dX0_countOut_30 ?_
      refine j_iload_n C dX0_countOut_33 rfl ?_
      refine j_callVq (As := [.int (nI i)]) (rest := []) C fG_X0_21 (s_lotAt c hl hnl (nI i)) c.2.1.1 rfl rfl (Nat.le_of_ble_eq_true rfl) ⟨Nat.le_of_ble_eq_true rfl, Nat.le_of_ble_eq_true rfl⟩ ⟨Nat.le_of_ble_eq_true rfl, Nat.le_of_ble_eq_true rfl⟩ dX0_countOut_34 (fun r_34 h_34 e_34 => ?_)
      obtain ⟨e1_34, e2_34⟩ := e_34
      rw [lotO_i hl hnl hlt] at e1_34
      subst e1_34
      replace e2_34 := e2_34.symm
      subst e2_34
      refine j_astore (lv' := [(0, .ref (P 5 2)), (1, .int q), (2, .int n_), (3, .int (nI i)), (4, .ref (P 1 i))]) C dX0_countOut_37 (by decide) rfl ?_
      refine j_aload C dX0_countOut_39 rfl ?_
      refine j_ifnull C dX0_countOut_41 ?_
      refine j_aload C dX0_countOut_44 rfl ?_
      refine j_gIe (f := 399) (v := (z i)) C fF_X0_38 rfl (c.2.2.2.1 i hlt).1.2 (hz i hlt) dX0_countOut_46 ?_
      refine j_bipush (v := 9) C dX0_countOut_49 (by decide) ?_
      refine j_icmp_ne (tgt := 57) C dX0_countOut_51 (by decide) (fun c_51 => ?_) (fun c_51 => ?_)
      · refine j_iinc (lv' := [(0, .ref (P 5 2)), (1, .int q), (2, .int n_), (3, .int (nI (i + 1))), (4, .ref (P 1 i))]) C dX0_countOut_57 rfl (nI_1 _) (by decide) rfl ?_
        refine j_goto (tgt := 18) C dX0_countOut_60 (by decide) ?_
        refine j_sub [0, 1, 2, 3] rfl ?_
        exact ih k (i + 1) _ (by omega) (by omega) (he.trans (flp_s (by unfold gOut; rw [if_neg c_51]; exact Int32.add_zero _)))
      · refine j_iinc (lv' := [(0, .ref (P 5 2)), (1, .int q), (2, .int (n_ + 1)), (3, .int (nI i)), (4, .ref (P 1 i))]) C dX0_countOut_54 rfl rfl (by decide) rfl ?_
        refine j_iinc (lv' := [(0, .ref (P 5 2)), (1, .int q), (2, .int (n_ + 1)), (3, .int (nI (i + 1))), (4, .ref (P 1 i))]) C dX0_countOut_57 rfl (nI_1 _) (by decide) rfl ?_
        refine j_goto (tgt := 18) C dX0_countOut_60 (by decide) ?_
        refine j_sub [0, 1, 2, 3] rfl ?_
        exact ih k (i + 1) _ (by omega) (by omega) (he.trans (flp_s (by unfold gOut; rw [if_pos c_51])))
set_option maxHeartbeats 4000000 in
set_option maxRecDepth 100000 in
theorem k_countOut {l : Launch} {D : va_G} {cy : Nat → ClassId} {h : jH} {S : Nat → Nat → Int32} {P : Nat → Nat → Nat} {T : Nat → Nat → Nat → List Nat} {nf nl nb ns nt nk nw yy : Nat} (c : CP h S P T nf nl nb ns nt nk nw) (I : SI S nf nl nb ns nt nk nw yy) : jI l D cy yX0_countOut (.code yX0_countOut cX0_countOut 5 ((Option.some FieldType.int))) (rmd 8 0 0) [.ref (P 5 2), .int (S 0 0)] h (fun r h' => r = outsS S nf nl ns nt nk ∧ sameH h h' ∧ FrC P h h') := by
  refine j_ofI (by decide) (Nat.le_of_ble_eq_true rfl) (fun p e s m args below meth c0 Q C hin ret => ?_)
  refine j_aload_n C dX0_countOut_0 rfl ?_
  refine j_aload_n C dX0_countOut_1 rfl ?_
  refine j_gRe (f := 0) (v := .ref (P 5 1)) C fF_X0_9 rfl c.1.2.1.1 (by rw [c.1.2.1.2]; rfl) dX0_countOut_2 ?_
  refine j_gIe (f := 132) (v := (nI nl)) C fF_X0_15 rfl c.2.1.1 (by rw [c.2.1.2.1.2.2.1]; exact I.lt.1) dX0_countOut_5 ?_
  refine j_iconst (v := 1) C dX0_countOut_8 (by decide) ?_
  refine j_isub C dX0_countOut_9 ?_
  refine j_iload_n C dX0_countOut_10 rfl ?_
  refine j_callVv (As := [.int ((nI nl) - 1), .int (S 0 0)]) (rest := []) C fG_X0_34 (k_upTo (M := nl) c I rfl (Nat.le_refl _) ((S 0 0))) c.1.2.1.1 rfl rfl (Nat.le_of_ble_eq_true rfl) ⟨Nat.le_of_ble_eq_true rfl, Nat.le_of_ble_eq_true rfl⟩ ⟨Nat.le_of_ble_eq_true rfl, Nat.le_of_ble_eq_true rfl⟩ dX0_countOut_11 (fun h_11 e_11 => ?_)
  refine j_iconst (v := 0) C dX0_countOut_14 (by decide) ?_
  refine j_istore_n (lv' := [(0, .ref (P 5 2)), (1, .int (S 0 0)), (2, .int 0)]) C dX0_countOut_15 (by decide) rfl ?_
  refine j_iconst (v := 0) C dX0_countOut_16 (by decide) ?_
  refine j_istore_n (lv' := [(0, .ref (P 5 2)), (1, .int (S 0 0)), (2, .int 0), (3, .int 0)]) C dX0_countOut_17 (by decide) rfl ?_
  exact L_out (z := (clsZ S (S 0 0) nf nl ns nt nk).1) C (c.same e_11.1) I.lt.1 I.lt.2 (fun a ha => (e_11.2.2 a ha (I.now ha)).1) (fun r hr lv pc hd => ret r h_11 0 0 lv pc ⟨hr.symm, e_11.1, e_11.2.1⟩ (Nat.zero_le _) (Nat.zero_le _) hd) (nl + 1) nl 0 0 (by omega) (by omega) rfl
