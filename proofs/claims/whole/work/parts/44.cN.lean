theorem j_top {p : Program} {l : Launch} {e : Env} {R : Room} {s : State} {m : MethodId} {args : Array Value} {below : List Frame} {meth : Method} {c0 : Code} {D : va_G} {cy : Nat → ClassId} {A : Nat → Prop} {Q : State → Prop} {h : jH} {nL : Nat} {lv : List (Nat × Value)} {pc : Nat} {st : List Value} {v v' : Int32} (e' : v = v') (k : jW p l e R s m args below meth c0 D cy A nL 0 0 Q h lv pc (.int v' :: st)) : jW p l e R s m args below meth c0 D cy A nL 0 0 Q h lv pc (.int v :: st) := by rw [e']; exact k
theorem j_topl {p : Program} {l : Launch} {e : Env} {R : Room} {s : State} {m : MethodId} {args : Array Value} {below : List Frame} {meth : Method} {c0 : Code} {D : va_G} {cy : Nat → ClassId} {A : Nat → Prop} {Q : State → Prop} {h : jH} {nL : Nat} {lv : List (Nat × Value)} {pc : Nat} {st : List Value} {v v' : Int64} (e' : v = v') (k : jW p l e R s m args below meth c0 D cy A nL 0 0 Q h lv pc (.long v' :: st)) : jW p l e R s m args below meth c0 D cy A nL 0 0 Q h lv pc (.long v :: st) := by rw [e']; exact k
theorem hA_upd (h : jH) (a i : Nat) (v : Int32) : h_A (s_A h a i v) a = upd (h_A h a) i v := by
  funext j
  rw [g_AA, if_pos rfl]
  rfl
theorem hA_ne (h : jH) {a b : Nat} (i : Nat) (v : Int32) (n : b ≠ a) : h_A (s_A h a i v) b = h_A h b := by
  funext j
  rw [g_AA, if_neg n]
def gDg (lc : Int64 → Int64) (d : Int64 → Nat) (N : Nat) (j : Nat) (p : Int64 × (Nat → Int32)) : Int64 × (Nat → Int32) := (lc p.1, upd (upd p.2 j (p.2 (j + d (lc p.1) % (N - j)))) (j + d (lc p.1) % (N - j)) (p.2 j))
theorem gDr_g (N j : Nat) (p : Int64 × (Nat → Int32)) : gDr N j p = gDg lcg dq N j p := rfl
theorem gDr_f (N : Nat) : gDr N = gDg lcg dq N := funext fun j => funext fun p => gDr_g N j p
/-- two lines that agree below N stay so -/
theorem dr_ag {lc : Int64 → Int64} {d : Int64 → Nat} {N : Nat} : ∀ (k j : Nat) (x : Int64) (z w : Nat → Int32), j + k ≤ N → (∀ a, a < N → z a = w a) → ∀ a, a < N → (flp (gDg lc d N) j k (x, z)).2 a = (flp (gDg lc d N) j k (x, w)).2 a := by
  intro k
  induction k with
  | zero => intro j x z w _ g a ha; exact g a ha
  | succ k ih =>
    intro j x z w hj g a ha
    have hp : j + d (lc x) % (N - j) < N := by have := Nat.mod_lt (d (lc x)) (show N - j > 0 by omega); omega
    refine ih (j + 1) (lc x) _ _ (by omega) (fun b hb => ?_) a ha
    unfold upd
    simp only [g b hb, g j (by omega), g _ hp]
/-- a place that has been passed stays -/
theorem dr_st {lc : Int64 → Int64} {d : Int64 → Nat} {N t : Nat} : ∀ (k j : Nat) (p : Int64 × (Nat → Int32)), j + k ≤ N → t < j → (flp (gDg lc d N) j k p).2 t = p.2 t := by
  intro k
  induction k with
  | zero => intro j p _ _; rfl
  | succ k ih =>
    intro j p hj ht
    refine (ih (j + 1) (gDg lc d N j p) (by omega) (by omega)).trans ?_
    unfold gDg upd
    simp only []
    rw [if_neg (by omega), if_neg (by omega)]
theorem flp_app {α : Type} (g : Nat → α → α) : ∀ (k i m : Nat) (a : α), flp g i (k + m) a = flp g (i + k) m (flp g i k a)
  | 0, i, m, a => by rw [Nat.zero_add]; rfl
  | k + 1, i, m, a => by
    rw [show k + 1 + m = (k + m) + 1 by omega]
    show flp g (i + 1) (k + m) (g i a) = _
    rw [flp_app g k (i + 1) m (g i a), show i + 1 + k = i + (k + 1) by omega]
    rfl
theorem lin_at : ∀ (k i : Nat) (z : Nat → Int32) (a : Nat), i ≤ a → a < i + k → flp gLin i k z a = nI a
  | 0, i, z, a, h1, h2 => absurd h2 (by omega)
  | k + 1, i, z, a, h1, h2 => by
    show flp gLin (i + 1) k (upd z i (nI i)) a = nI a
    by_cases e : a = i
    · subst e
      have q : ∀ (k i : Nat) (z : Nat → Int32) (a : Nat), a < i → flp gLin i k z a = z a := by
        intro k
        induction k with
        | zero => intro i z a _; rfl
        | succ k ih =>
          intro i z a h
          show flp gLin (i + 1) k (upd z i (nI i)) a = z a
          rw [ih (i + 1) _ a (by omega)]
          unfold upd
          rw [if_neg (by omega)]
      rw [q k (a + 1) _ a (by omega)]
      unfold upd
      rw [if_pos rfl]
    · exact lin_at k (i + 1) _ a (by omega) (by omega)
theorem dr_eq {lc : Int64 → Int64} {d : Int64 → Nat} {N K t : Nat} (x : Int64) (z w : Nat → Int32) (hK : K ≤ N) (ht : t < K) : (flp (gDg lc d N) 0 K (x, flp gLin 0 N z)).2 t = (flp (gDg lc d N) 0 (t + 1) (x, flp gLin 0 N w)).2 t := by
  rw [show K = (t + 1) + (K - (t + 1)) by omega, flp_app, dr_st _ _ _ (by omega) (by omega)]
  exact dr_ag (t + 1) 0 x _ _ (by omega) (fun a ha => by rw [lin_at N 0 z a (by omega) (by omega), lin_at N 0 w a (by omega) (by omega)]) t (by omega)
set_option maxHeartbeats 4000000 in
set_option maxRecDepth 100000 in
theorem L_dw1 {p : Program} {l : Launch} {e : Env} {s : State} {m : MethodId} {args : Array Value} {below : List Frame} {meth : Method} {c0 : Code} {D : va_G} {cy : Nat → ClassId} {A : Nat → Prop} {Q : State → Prop} (C : jC p s m args meth c0 D cy A 11 RX10 cX10_drawn) {S : Nat → Nat → Int32} {P : Nat → Nat → Nat} {T : Nat → Nat → Nat → List Nat} {nf nl nb ns nt nk nw N Kk t : Nat} {sd : Int64} {h0 : jH} {z0 : Nat → Int32} (hN : N ≤ 500) (nx : ∀ h, CP h S P T nf nl nb ns nt nk nw → FrC P h0 h → h_A h (P 5 5) = z0 → jW p l e (rmd 1 0 0) s m args below meth c0 D cy A 11 0 0 Q h [(0, .ref (P 5 0)), (1, .int (nI N)), (2, .int (nI Kk)), (3, .long sd), (5, .int (nI t))] 63 []) : ∀ (n k i : Nat) (h : jH), k < n → i + k = N → CP h S P T nf nl nb ns nt nk nw → FrC P h0 h → z0 = flp gLin i k (h_A h (P 5 5)) → jW p l e (rmd 1 0 0) s m args below meth c0 D cy A 11 0 0 Q h [(0, .ref (P 5 0)), (1, .int (nI N)), (2, .int (nI Kk)), (3, .long sd), (5, .int (nI t)), (6, .int (nI i))] 42 [] := by
  intro n
  induction n with
  | zero => intro k i h h1; exact absurd h1 (Nat.not_lt_zero _)
  | succ n ih =>
    intro k i h h1 h2 c hf he
    refine j_iload C dX10_drawn_42 rfl ?_
    refine j_iload_n C dX10_drawn_44 rfl ?_
    refine j_icmp_ge (tgt := 63) C dX10_drawn_45 (by decide) (fun c_45 => ?_) (fun c_45 => ?_)
    · have hge : N ≤ i := nI_ge_of c_45 (by omega) (by omega)
      obtain rfl : k = 0 := by omega
      refine j_sub [0, 1, 2, 3, 4] rfl ?_
      exact nx h c hf he.symm
    · have hlt : i < N := nI_lt_of c_45 (by omega)
      obtain ⟨k, rfl⟩ : ∃ q, k = q + 1 := ⟨k - 1, by omega⟩
      refine j_aload_n C dX10_drawn_48 rfl ?_
      refine j_gRe (f := 644) (v := .ref (P 5 5)) C fF_X10_39 rfl c.1.1.1 (by rw [c.1.1.2.2.2.2.2]; rfl) dX10_drawn_49 ?_
      refine j_iload C dX10_drawn_52 rfl ?_
      refine j_iload C dX10_drawn_54 rfl ?_
      refine j_iastN C c.1.2.2.2.2.1.1 ⟨c.1.2.2.2.2.1.2, by omega, by decide⟩ dX10_drawn_56 ?_
      refine j_iinc (lv' := [(0, .ref (P 5 0)), (1, .int (nI N)), (2, .int (nI Kk)), (3, .long sd), (5, .int (nI t)), (6, .int (nI (i + 1)))]) C dX10_drawn_57 rfl (nI_1 _) (by decide) rfl ?_
      refine j_goto (tgt := 42) C dX10_drawn_60 (by decide) ?_
      refine ih k (i + 1) _ (by omega) (by omega) (c.ex Ex.rf.sA) (hf.tr (FrC.sA (i := 5) (by decide))) ?_
      rw [hA_upd]
      exact he
set_option maxHeartbeats 4000000 in
set_option maxRecDepth 100000 in
theorem L_dw2 {p : Program} {l : Launch} {e : Env} {s : State} {m : MethodId} {args : Array Value} {below : List Frame} {meth : Method} {c0 : Code} {D : va_G} {cy : Nat → ClassId} {A : Nat → Prop} {Q : State → Prop} (C : jC p s m args meth c0 D cy A 11 RX10 cX10_drawn) {S : Nat → Nat → Int32} {P : Nat → Nat → Nat} {T : Nat → Nat → Nat → List Nat} {nf nl nb ns nt nk nw N Kk t : Nat} {sd : Int64} {h0 : jH} {p0 : Int64 × (Nat → Int32)} (hN : N ≤ 500) (hK : Kk ≤ N) (ht : t < Kk) (ret : ∀ r h' (lv : List (Nat × Value)) (pc : Nat), (r = p0.2 t ∧ CP h' S P T nf nl nb ns nt nk nw ∧ FrC P h0 h') → decode cX10_drawn pc = .ok (.ireturn, 1) → jW p l e (rmd 1 0 0) s m args below meth c0 D cy A 11 0 0 Q h' lv pc [.int r]) : ∀ (n k i : Nat) (h : jH) (x : Int64), k < n → i + k = t + 1 → CP h S P T nf nl nb ns nt nk nw → FrC P h0 h → p0 = flp (gDr N) i k (x, h_A h (P 5 5)) → jW p l e (rmd 1 0 0) s m args below meth c0 D cy A 11 0 0 Q h [(0, .ref (P 5 0)), (1, .int (nI N)), (2, .int (nI Kk)), (3, .long sd), (5, .int (nI t)), (6, .long x), (8, .int (nI i))] 69 [] := by
  intro n
  induction n with
  | zero => intro k i h x h1; exact absurd h1 (Nat.not_lt_zero _)
  | succ n ih =>
    intro k i h x h1 h2 c hf he
    refine j_iload C dX10_drawn_69 rfl ?_
    refine j_iload C dX10_drawn_71 rfl ?_
    refine j_icmp_gt (tgt := 143) C dX10_drawn_73 (by decide) (fun c_73 => ?_) (fun c_73 => ?_)
    · refine j_aload_n C dX10_drawn_143 rfl ?_
      refine j_gRe (f := 644) (v := .ref (P 5 5)) C fF_X10_39 rfl c.1.1.1 (by rw [c.1.1.2.2.2.2.2]; rfl) dX10_drawn_144 ?_
      refine j_iload C dX10_drawn_147 rfl ?_
      refine j_ialdN C c.1.2.2.2.2.1.1 ⟨c.1.2.2.2.2.1.2, by omega, by decide⟩ dX10_drawn_149 ?_
      have hge : t + 1 ≤ i := (nI_ltI (by omega) (by omega)).mp c_73
      obtain rfl : k = 0 := by omega
      exact ret _ h _ _ ⟨by rw [he]; rfl, c, hf⟩ dX10_drawn_150
    · have hlt : i < t + 1 := by have q : ¬ t < i := fun z => c_73 ((nI_ltI (by omega) (by omega)).mpr z); omega
      obtain ⟨k, rfl⟩ : ∃ q, k = q + 1 := ⟨k - 1, by omega⟩
      refine j_lload C dX10_drawn_76 rfl ?_
      refine j_ldc2 C dX10_drawn_78 kK_X10_227 ?_
      refine j_lmul C dX10_drawn_81 ?_
      refine j_ldc2 C dX10_drawn_82 kK_X10_229 ?_
      refine j_ladd C dX10_drawn_85 ?_
      refine j_topl (lcg_e x) ?_
      refine j_lstore (lv' := [(0, .ref (P 5 0)), (1, .int (nI N)), (2, .int (nI Kk)), (3, .long sd), (5, .int (nI t)), (6, .long (lcg x)), (8, .int (nI i))]) C dX10_drawn_86 (by decide) rfl ?_
      refine j_iload C dX10_drawn_88 rfl ?_
      refine j_lload C dX10_drawn_90 rfl ?_
      refine j_bipush (v := 33) C dX10_drawn_92 (by decide) ?_
      refine j_lushr C dX10_drawn_94 ?_
      refine j_iload_n C dX10_drawn_95 rfl ?_
      refine j_iload C dX10_drawn_96 rfl ?_
      refine j_isub C dX10_drawn_98 ?_
      refine j_i2l C dX10_drawn_99 ?_
      refine j_lrem C dX10_drawn_100 (dr_0 (by omega) hN) ?_
      refine j_l2i C dX10_drawn_101 ?_
      refine j_iadd C dX10_drawn_102 ?_
      refine j_top (dr_p _ (by omega) hN) ?_
      refine j_istore (lv' := [(0, .ref (P 5 0)), (1, .int (nI N)), (2, .int (nI Kk)), (3, .long sd), (5, .int (nI t)), (6, .long (lcg x)), (8, .int (nI i)), (9, .int (nI (i + dq (lcg x) % (N - i))))]) C dX10_drawn_103 (by decide) rfl ?_
      refine j_aload_n C dX10_drawn_105 rfl ?_
      refine j_gRe (f := 644) (v := .ref (P 5 5)) C fF_X10_39 rfl c.1.1.1 (by rw [c.1.1.2.2.2.2.2]; rfl) dX10_drawn_106 ?_
      refine j_iload C dX10_drawn_109 rfl ?_
      refine j_ialdN C c.1.2.2.2.2.1.1 ⟨c.1.2.2.2.2.1.2, by omega, by decide⟩ dX10_drawn_111 ?_
      refine j_istore (lv' := [(0, .ref (P 5 0)), (1, .int (nI N)), (2, .int (nI Kk)), (3, .long sd), (5, .int (nI t)), (6, .long (lcg x)), (8, .int (nI i)), (9, .int (nI (i + dq (lcg x) % (N - i)))), (10, .int (h_A h (P 5 5) i))]) C dX10_drawn_112 (by decide) rfl ?_
      refine j_aload_n C dX10_drawn_114 rfl ?_
      refine j_gRe (f := 644) (v := .ref (P 5 5)) C fF_X10_39 rfl c.1.1.1 (by rw [c.1.1.2.2.2.2.2]; rfl) dX10_drawn_115 ?_
      refine j_iload C dX10_drawn_118 rfl ?_
      refine j_aload_n C dX10_drawn_120 rfl ?_
      refine j_gRe (f := 644) (v := .ref (P 5 5)) C fF_X10_39 rfl c.1.1.1 (by rw [c.1.1.2.2.2.2.2]; rfl) dX10_drawn_121 ?_
      refine j_iload C dX10_drawn_124 rfl ?_
      refine j_ialdN C c.1.2.2.2.2.1.1 ⟨c.1.2.2.2.2.1.2, by have := Nat.mod_lt (dq (lcg x)) (show N - i > 0 by omega); omega, by decide⟩ dX10_drawn_126 ?_
      refine j_iastN C c.1.2.2.2.2.1.1 ⟨c.1.2.2.2.2.1.2, by omega, by decide⟩ dX10_drawn_127 ?_
      refine j_aload_n C dX10_drawn_128 rfl ?_
      refine j_gRe (f := 644) (v := .ref (P 5 5)) C fF_X10_39 rfl (okA c.1.1.1) (by show va_rf (h_R h 644 (P 5 0)) = _; rw [c.1.1.2.2.2.2.2]; rfl) dX10_drawn_129 ?_
      refine j_iload C dX10_drawn_132 rfl ?_
      refine j_iload C dX10_drawn_134 rfl ?_
      refine j_iastN C (okA c.1.2.2.2.2.1.1) ⟨c.1.2.2.2.2.1.2, by have := Nat.mod_lt (dq (lcg x)) (show N - i > 0 by omega); omega, by decide⟩ dX10_drawn_136 ?_
      refine j_iinc (lv' := [(0, .ref (P 5 0)), (1, .int (nI N)), (2, .int (nI Kk)), (3, .long sd), (5, .int (nI t)), (6, .long (lcg x)), (8, .int (nI (i + 1))), (9, .int (nI (i + dq (lcg x) % (N - i)))), (10, .int (h_A h (P 5 5) i))]) C dX10_drawn_137 rfl (nI_1 _) (by decide) rfl ?_
      refine j_goto (tgt := 69) C dX10_drawn_140 (by decide) ?_
      refine j_sub [0, 1, 2, 3, 4, 5, 6] rfl ?_
      refine ih k (i + 1) _ (lcg x) (by omega) (by omega) (c.ex (Ex.rf.sA.sA)) ((hf.tr (FrC.sA (i := 5) (by decide))).tr (FrC.sA (i := 5) (by decide))) (he.trans (flp_s ?_))
      rw [hA_upd, hA_upd]
      rfl
set_option maxHeartbeats 4000000 in
set_option maxRecDepth 100000 in
theorem x_drawn {l : Launch} {D : va_G} {cy : Nat → ClassId} {h : jH} {S : Nat → Nat → Int32} {P : Nat → Nat → Nat} {T : Nat → Nat → Nat → List Nat} {nf nl nb ns nt nk nw : Nat} (c : CP h S P T nf nl nb ns nt nk nw) (n : Int32) (k : Int32) (sd : Int64) (t : Int32) : jI l D cy yX10_drawn (.code yX10_drawn cX10_drawn 11 ((Option.some FieldType.int))) (rmd 1 0 0) [.ref (P 5 0), .int n, .int k, .long sd, .int t] h (fun r h' => r = m_drawn S n k sd t ∧ CP h' S P T nf nl nb ns nt nk nw ∧ FrC P h h') := by
  refine j_ofI (by decide) (Nat.le_of_ble_eq_true rfl) (fun p e s m args below meth c0 Q C hin ret => ?_)
  refine j_iload_n C dX10_drawn_0 rfl ?_
  refine j_iconst (v := 1) C dX10_drawn_1 (by decide) ?_
  refine j_sipush (v := 500) C dX10_drawn_2 (by decide) ?_
  refine j_callSi (As := [.int n, .int 1, .int 500]) (rest := []) C fG_X10_43 (k_within (n) (1) (500)) rfl rfl (Nat.le_of_ble_eq_true rfl) ⟨Nat.le_of_ble_eq_true rfl, Nat.le_of_ble_eq_true rfl⟩ ⟨Nat.le_of_ble_eq_true rfl, Nat.le_of_ble_eq_true rfl⟩ dX10_drawn_5 (fun r_5 h_5 e_5 => ?_)
  obtain ⟨e1_5, e2_5⟩ := e_5
  subst e1_5
  replace e2_5 := e2_5.symm
  subst e2_5
  refine j_ifeq_b (tgt := 37) C dX10_drawn_8 (by decide) (fun c_8 => ?_) (fun c_8 => ?_)
  · refine j_iconst (v := (-1)) C dX10_drawn_37 (by decide) ?_
    exact ret _ _ 0 0 _ _ ⟨by unfold m_drawn; exact (if_neg (fun u => c_8 u.1)).symm, c, FrC.rf⟩ (Nat.zero_le _) (Nat.zero_le _) dX10_drawn_38
  · refine j_iload_n C dX10_drawn_11 rfl ?_
    refine j_iconst (v := 0) C dX10_drawn_12 (by decide) ?_
    refine j_iload_n C dX10_drawn_13 rfl ?_
    refine j_bipush (v := 40) C dX10_drawn_14 (by decide) ?_
    refine j_min C kM_X10_222 dX10_drawn_16 (Nat.le_of_ble_eq_true rfl) (Nat.le_of_ble_eq_true rfl) (Nat.le_of_ble_eq_true rfl) (Nat.le_of_ble_eq_true rfl) ?_
    refine j_callSi (As := [.int k, .int 0, .int (if 40 < n then 40 else n)]) (rest := []) C fG_X10_43 (k_within (k) (0) ((if 40 < n then 40 else n))) rfl rfl (Nat.le_of_ble_eq_true rfl) ⟨Nat.le_of_ble_eq_true rfl, Nat.le_of_ble_eq_true rfl⟩ ⟨Nat.le_of_ble_eq_true rfl, Nat.le_of_ble_eq_true rfl⟩ dX10_drawn_19 (fun r_19 h_19 e_19 => ?_)
    obtain ⟨e1_19, e2_19⟩ := e_19
    subst e1_19
    replace e2_19 := e2_19.symm
    subst e2_19
    refine j_ifeq_b (tgt := 37) C dX10_drawn_22 (by decide) (fun c_22 => ?_) (fun c_22 => ?_)
    · refine j_iconst (v := (-1)) C dX10_drawn_37 (by decide) ?_
      exact ret _ _ 0 0 _ _ ⟨by unfold m_drawn; exact (if_neg (fun u => c_22 u.2.1)).symm, c, FrC.rf⟩ (Nat.zero_le _) (Nat.zero_le _) dX10_drawn_38
    · refine j_iload C dX10_drawn_25 rfl ?_
      refine j_iconst (v := 0) C dX10_drawn_27 (by decide) ?_
      refine j_iload_n C dX10_drawn_28 rfl ?_
      refine j_iconst (v := 1) C dX10_drawn_29 (by decide) ?_
      refine j_isub C dX10_drawn_30 ?_
      refine j_callSi (As := [.int t, .int 0, .int (k - 1)]) (rest := []) C fG_X10_43 (k_within (t) (0) ((k - 1))) rfl rfl (Nat.le_of_ble_eq_true rfl) ⟨Nat.le_of_ble_eq_true rfl, Nat.le_of_ble_eq_true rfl⟩ ⟨Nat.le_of_ble_eq_true rfl, Nat.le_of_ble_eq_true rfl⟩ dX10_drawn_31 (fun r_31 h_31 e_31 => ?_)
      obtain ⟨e1_31, e2_31⟩ := e_31
      subst e1_31
      replace e2_31 := e2_31.symm
      subst e2_31
      refine j_ifne_b (tgt := 39) C dX10_drawn_34 (by decide) (fun c_34 => ?_) (fun c_34 => ?_)
      · obtain ⟨N, hN, rfl⟩ := nI_of2 (x := n) (M := 500) (n := 500) (by decide) (ge1 c_8.1) c_8.2
        have hk2 := mn_le (n := nI N) c_22.2
        obtain ⟨Kk, hKk, rfl⟩ := nI_of2 (x := k) (M := 40) (n := 40) (by decide) (Int32.not_lt.mpr c_22.1) hk2.1
        have hK : Kk ≤ N := (nI_leI (by omega) (by omega)).mp hk2.2
        obtain ⟨t, ht, rfl⟩ := in_ix (n := Kk) (by omega) c_34
        refine j_iconst (v := 0) C dX10_drawn_39 (by decide) ?_
        refine j_istore (lv' := [(0, .ref (P 5 0)), (1, .int (nI N)), (2, .int (nI Kk)), (3, .long sd), (5, .int (nI t)), (6, .int 0)]) C dX10_drawn_40 (by decide) rfl ?_
        refine L_dw1 (t := t) (Kk := Kk) (sd := sd) (h0 := h) (z0 := flp gLin 0 N (h_A h (P 5 5))) C hN (fun h1 c1 f1 z1 => ?_) (N + 1) N 0 h (by omega) (by omega) c FrC.rf rfl
        refine j_lload_n C dX10_drawn_63 rfl ?_
        refine j_lstore (lv' := [(0, .ref (P 5 0)), (1, .int (nI N)), (2, .int (nI Kk)), (3, .long sd), (5, .int (nI t)), (6, .long sd)]) C dX10_drawn_64 (by decide) rfl ?_
        refine j_iconst (v := 0) C dX10_drawn_66 (by decide) ?_
        refine j_istore (lv' := [(0, .ref (P 5 0)), (1, .int (nI N)), (2, .int (nI Kk)), (3, .long sd), (5, .int (nI t)), (6, .long sd), (8, .int 0)]) C dX10_drawn_67 (by decide) rfl ?_
        exact L_dw2 (p0 := flp (gDr N) 0 (t + 1) (sd, h_A h1 (P 5 5))) C hN hK ht (fun r h' lv pc g d => ret r h' 0 0 lv pc ⟨by rw [g.1]; unfold m_drawn; rw [if_pos ⟨c_8, c_22, c_34⟩, nI_clamp (by omega), nI_clamp (by omega), nI_clamp (by omega), z1, gDr_f, dr_eq sd _ (h_A h (P 5 5)) hK ht], g.2.1, g.2.2⟩ (Nat.zero_le _) (Nat.zero_le _) d) (t + 2) (t + 1) 0 h1 sd (by omega) (by omega) c1 f1 rfl
      · refine j_iconst (v := (-1)) C dX10_drawn_37 (by decide) ?_
        exact ret _ _ 0 0 _ _ ⟨by unfold m_drawn; exact (if_neg (fun u => c_34 u.2.2)).symm, c, FrC.rf⟩ (Nat.zero_le _) (Nat.zero_le _) dX10_drawn_38
