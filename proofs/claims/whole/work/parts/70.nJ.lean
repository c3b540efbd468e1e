theorem bkP.mv {a q q6 q7 q8 q9 : Nat} {h h' : jH} (x : Fi a h h') (b : bkP h q q6 q7 q8 q9) (n : q ≠ a) : bkP h' q q6 q7 q8 q9 := by
  obtain ⟨o, ⟨i1, i2, i3, i4, i5, i6, i7, i8⟩, ⟨r1, o1, n1⟩, ⟨r2, o2, n2⟩, ⟨r3, o3, n3⟩, ⟨r4, o4, n4⟩, z⟩ := b
  have e := (x.2 q o.1).2.2.2.2 n
  exact ⟨x.ok o, ⟨(e.1 _).trans i1, (e.1 _).trans i2, (e.1 _).trans i3, (e.1 _).trans i4, (e.1 _).trans i5, (e.1 _).trans i6, (e.1 _).trans i7, (e.1 _).trans i8⟩, ⟨(e.2 _).trans r1, x.ok o1, ((x.2 _ o1.1).2.1).trans n1⟩, ⟨(e.2 _).trans r2, x.ok o2, ((x.2 _ o2.1).2.1).trans n2⟩, ⟨(e.2 _).trans r3, x.ok o3, ((x.2 _ o3.1).2.1).trans n3⟩, ⟨(e.2 _).trans r4, x.ok o4, ((x.2 _ o4.1).2.1).trans n4⟩, fun i => ((x.2 _ o4.1).2.2.2.1 i).trans (z i)⟩
theorem plQ.mv {a q b q10 q11 q12 q13 q14 : Nat} {h h' : jH} (x : Fi a h h') (p : plQ h q b q10 q11 q12 q13 q14) (n : q ≠ a) : plQ h' q b q10 q11 q12 q13 q14 := by
  obtain ⟨⟨o, r1, r2, r3, r4, r5, r6⟩, i, ⟨o1, n1⟩, ⟨o2, n2⟩, ⟨o3, n3⟩, ⟨o4, n4⟩, ⟨o5, n5⟩, d⟩ := p
  have e := (x.2 q o.1).2.2.2.2 n
  exact ⟨⟨x.ok o, (e.2 _).trans r1, (e.2 _).trans r2, (e.2 _).trans r3, (e.2 _).trans r4, (e.2 _).trans r5, (e.2 _).trans r6⟩, (e.1 _).trans i, ⟨x.ok o1, ((x.2 _ o1.1).2.1).trans n1⟩, ⟨x.ok o2, ((x.2 _ o2.1).2.1).trans n2⟩, ⟨x.ok o3, ((x.2 _ o3.1).2.1).trans n3⟩, ⟨x.ok o4, ((x.2 _ o4.1).2.1).trans n4⟩, ⟨x.ok o5, ((x.2 _ o5.1).2.1).trans n5⟩, d⟩
def PL (l : List Nat) : Nat → Nat → Nat := fun k i => if k = 5 then l.getD i 0 else 0
set_option maxHeartbeats 4000000 in
set_option maxRecDepth 100000 in
theorem k_Xinit {l : Launch} {D : va_G} {cy : Nat → ClassId} {h : jH} {a : Nat} (oa : h_ok h a 10) : jV l D cy yX10_init (.code yX10_init cX10_init 1 ((Option.none : Option FieldType))) (rmd 2 14 993) [.ref a] h (fun h' => ∃ P T, CP h' (fun _ _ => 0) P T 0 0 0 0 0 0 0 ∧ P 5 0 = a ∧ Fi a h h') := by
  refine j_ofV (by decide) (Nat.le_of_ble_eq_true rfl) (fun p e s m args below meth c0 Q C hin ret => ?_)
  refine j_aload_n C dX10_init_0 rfl ?_
  refine j_objInit C kM_X10_1 dX10_init_1 (Nat.le_of_ble_eq_true rfl) (Nat.le_of_ble_eq_true rfl) ?_
  refine j_aload_n C dX10_init_4 rfl ?_
  refine j_new C fO_X10_7 (Nat.le_of_ble_eq_true rfl) (Nat.le_of_ble_eq_true rfl) dX10_init_5 (fun q_5 hn_5 => ?_)
  refine j_dup C dX10_init_8 rfl ?_
  refine j_callIvN (As := []) (rest := [.ref q_5, .ref a]) (nLc := 1) (bytes := cX2_init) (y := yX2_init) C C.2.2.2.2.2.2.2.2.2.2.1 kN_X2 kC_yX2_init (by decide +kernel) kI_yX2_init rfl (k_Bkinit (a := q_5) ok_sO) rfl rfl (Nat.le_of_ble_eq_true rfl) ⟨Nat.le_of_ble_eq_true rfl, Nat.le_of_ble_eq_true rfl⟩ ⟨Nat.le_of_ble_eq_true rfl, Nat.le_of_ble_eq_true rfl⟩ dX10_init_9 (fun h1 e_9 => ?_)
  obtain ⟨q6, q7, q8, q9, bk, F1, m6, m7, m8, m9⟩ := e_9
  have oa1 : h_ok h1 a 10 := F1.ok (okO hn_5 oa)
  refine j_pFR (f := 640) (v := (some q_5)) C hin fP_X10_10 rfl oa1 rfl rfl rfl dX10_init_12 ?_
  refine j_aload_n C dX10_init_15 rfl ?_
  refine j_new C fO_X10_16 (Nat.le_of_ble_eq_true rfl) (Nat.le_of_ble_eq_true rfl) dX10_init_16 (fun q_16 hn_16 => ?_)
  refine j_dup C dX10_init_19 rfl ?_
  have na16 : a ≠ q_16 := nq hn_16 (okR (f := 640) (b := a) (v := some q_5) oa1)
  refine j_aload_n C dX10_init_20 rfl ?_
  refine j_gRe (f := 640) (v := .ref q_5) C fF_X10_10 rfl (okO hn_16 (okR oa1)) (by rw [gR_O na16, g_RR, if_pos rfl, if_pos rfl]; rfl) dX10_init_21 ?_
  refine j_callIv (ret := none) (As := [.ref q_5]) (rest := [.ref q_16, .ref a]) C fG_X10_18 (k_X0init (a := q_16) ok_sO q_5) rfl rfl (Nat.le_of_ble_eq_true rfl) ⟨Nat.le_of_ble_eq_true rfl, Nat.le_of_ble_eq_true rfl⟩ ⟨Nat.le_of_ble_eq_true rfl, Nat.le_of_ble_eq_true rfl⟩ dX10_init_24 (fun h_24 e_24 => ?_)
  unfold hX0_ at e_24
  subst e_24
  refine j_pFR (f := 641) (v := (some q_16)) C hin fP_X10_21 rfl (okR (okO hn_16 (okR oa1))) rfl rfl rfl dX10_init_27 ?_
  refine j_aload_n C dX10_init_30 rfl ?_
  refine j_new C fO_X10_25 (Nat.le_of_ble_eq_true rfl) (Nat.le_of_ble_eq_true rfl) dX10_init_31 (fun q_31 hn_31 => ?_)
  refine j_dup C dX10_init_34 rfl ?_
  have na31 : a ≠ q_31 := nq hn_31 (okR (okR (okO hn_16 (okR oa1))))
  refine j_aload_n C dX10_init_35 rfl ?_
  refine j_gRe (f := 640) (v := .ref q_5) C fF_X10_10 rfl (okO hn_31 (okR (okR (okO hn_16 (okR oa1))))) (by rw [gR_O na31, g_RR, if_neg (by decide), g_RR, if_neg (by decide), gR_O na16, g_RR, if_pos rfl, if_pos rfl]; rfl) dX10_init_36 ?_
  refine j_callIv (ret := none) (As := [.ref q_5]) (rest := [.ref q_31, .ref a]) C fG_X10_27 (k_X4init (a := q_31) ok_sO q_5) rfl rfl (Nat.le_of_ble_eq_true rfl) ⟨Nat.le_of_ble_eq_true rfl, Nat.le_of_ble_eq_true rfl⟩ ⟨Nat.le_of_ble_eq_true rfl, Nat.le_of_ble_eq_true rfl⟩ dX10_init_39 (fun h_39 e_39 => ?_)
  unfold hX4_ at e_39
  subst e_39
  refine j_pFR (f := 642) (v := (some q_31)) C hin fP_X10_28 rfl (okR (okO hn_31 (okR (okR (okO hn_16 (okR oa1)))))) rfl rfl rfl dX10_init_42 ?_
  refine j_aload_n C dX10_init_45 rfl ?_
  refine j_new C fO_X10_32 (Nat.le_of_ble_eq_true rfl) (Nat.le_of_ble_eq_true rfl) dX10_init_46 (fun q_46 hn_46 => ?_)
  refine j_dup C dX10_init_49 rfl ?_
  have na46 : a ≠ q_46 := nq hn_46 (okR (okR (okO hn_31 (okR (okR (okO hn_16 (okR oa1)))))))
  refine j_aload_n C dX10_init_50 rfl ?_
  refine j_gRe (f := 640) (v := .ref q_5) C fF_X10_10 rfl (okO hn_46 (okR (okR (okO hn_31 (okR (okR (okO hn_16 (okR oa1)))))))) (by rw [gR_O na46, g_RR, if_neg (by decide), g_RR, if_neg (by decide), gR_O na31, g_RR, if_neg (by decide), g_RR, if_neg (by decide), gR_O na16, g_RR, if_pos rfl, if_pos rfl]; rfl) dX10_init_51 ?_
  refine j_callIv (ret := none) (As := [.ref q_5]) (rest := [.ref q_46, .ref a]) C fG_X10_34 (k_Plinit (a := q_46) (b := q_5) ok_sO) rfl rfl (Nat.le_of_ble_eq_true rfl) ⟨Nat.le_of_ble_eq_true rfl, Nat.le_of_ble_eq_true rfl⟩ ⟨Nat.le_of_ble_eq_true rfl, Nat.le_of_ble_eq_true rfl⟩ dX10_init_54 (fun h3 e_54 => ?_)
  obtain ⟨q10, q11, q12, q13, q14, pq, F3, m10, m11, m12, m13, m14⟩ := e_54
  have oa3 := F3.ok (okO hn_46 (okR (okR (okO hn_31 (okR (okR (okO hn_16 (okR oa1))))))))
  refine j_pFR (f := 643) (v := (some q_46)) C hin fP_X10_35 rfl oa3 rfl rfl rfl dX10_init_57 ?_
  refine j_aload_n C dX10_init_60 rfl ?_
  refine j_sipush (v := 500) C dX10_init_61 (by decide) ?_
  refine j_newI (N := 500) C (by decide) (by decide) (by decide) (Nat.le_of_ble_eq_true rfl) (Nat.le_of_ble_eq_true rfl) dX10_init_64 (fun q_64 hn_64 => ?_)
  refine j_pFR (f := 644) (v := (some q_64)) C hin fP_X10_39 rfl (okN hn_64 (okR oa3)) rfl rfl rfl dX10_init_66 ?_
  have m16 : q_16 ∉ h_L h1 := hn_16
  have X5 : Fi a h1 (s_R (s_R (s_O (s_R h1 640 a (some q_5)) q_16 0) 0 q_16 (some q_5)) 641 a (some q_16)) := ((Fi.sR.tr (Fi.sO hn_16)).fr Fi.sR m16).tr Fi.sR
  have m31 : q_31 ∉ h_L h1 := fun z => hn_31 (X5.1 _ z)
  have X8 : Fi a h1 (s_R (s_R (s_O (s_R (s_R (s_O (s_R h1 640 a (some q_5)) q_16 0) 0 q_16 (some q_5)) 641 a (some q_16)) q_31 4) 256 q_31 (some q_5)) 642 a (some q_31)) := ((X5.tr (Fi.sO hn_31)).fr Fi.sR m31).tr Fi.sR
  have m46 : q_46 ∉ h_L h1 := fun z => hn_46 (X8.1 _ z)
  have Y : Fi a h3 (s_R (s_N (s_R h3 643 a (some q_46)) q_64 12 500) 644 a (some q_64)) := (Fi.sR.tr (Fi.sN hn_64)).tr Fi.sR
  have X : Fi a h1 (s_R (s_N (s_R h3 643 a (some q_46)) q_64 12 500) 644 a (some q_64)) := (((X8.tr (Fi.sO hn_46)).fr F3 m46).tr Y)
  have X4 : Fi a (s_R (s_O (s_R h1 640 a (some q_5)) q_16 0) 0 q_16 (some q_5)) (s_R (s_N (s_R h3 643 a (some q_46)) q_64 12 500) 644 a (some q_64)) := ((((((Fi.sR.tr (Fi.sO hn_31)).fr Fi.sR (fun z => hn_31 z)).tr Fi.sR).tr (Fi.sO hn_46)).fr F3 (fun z => hn_46 (((Fi.sR (a := a) (f := 641) (v := some q_16)).tr (Fi.sO hn_31) |>.fr (Fi.sR (f := 256) (v := some q_5)) (fun z => hn_31 z) |>.tr (Fi.sR (f := 642) (v := some q_31))).1 _ z))).tr Y)
  have X7 : Fi a (s_R (s_O (s_R (s_R (s_O (s_R h1 640 a (some q_5)) q_16 0) 0 q_16 (some q_5)) 641 a (some q_16)) q_31 4) 256 q_31 (some q_5)) (s_R (s_N (s_R h3 643 a (some q_46)) q_64 12 500) 644 a (some q_64)) := (((Fi.sR.tr (Fi.sO hn_46)).fr F3 (fun z => hn_46 z)).tr Y)
  have W0 : Fi a h (s_R (s_N (s_R h3 643 a (some q_46)) q_64 12 500) 644 a (some q_64)) := ((Fi.sO hn_5).fr F1 hn_5).tr X
  have na5 : q_5 ≠ a := fun e => hn_5 (e ▸ oa.1)
  have B := bk.mv X na5
  have Pq := pq.mv Y (fun e => na46 e.symm)
  have f46 : ∀ f, h_R h3 f a = h_R (s_O (s_R (s_R (s_O (s_R (s_R (s_O (s_R h1 640 a (some q_5)) q_16 0) 0 q_16 (some q_5)) 641 a (some q_16)) q_31 4) 256 q_31 (some q_5)) 642 a (some q_31)) q_46 7) f a := fun f => ((F3.2 a (okO hn_46 (okR (okR (okO hn_31 (okR (okR (okO hn_16 (okR oa1)))))))).1).2.2.2.2 na46).2 f
  have g16 : h_R (s_R (s_N (s_R h3 643 a (some q_46)) q_64 12 500) 644 a (some q_64)) 0 q_16 = some q_5 := (((X4.2 q_16 (okR (f := 0) (b := q_16) (v := some q_5) ok_sO).1).2.2.2.2 (fun e => na16 e.symm)).2 0).trans (by rw [g_RR, if_pos rfl, if_pos rfl])
  have g31 : h_R (s_R (s_N (s_R h3 643 a (some q_46)) q_64 12 500) 644 a (some q_64)) 256 q_31 = some q_5 := (((X7.2 q_31 (okR (f := 256) (b := q_31) (v := some q_5) ok_sO).1).2.2.2.2 (fun e => na31 e.symm)).2 256).trans (by rw [g_RR, if_pos rfl, if_pos rfl])
  have d64 : ∀ {b k : Nat}, h_ok h3 b k → q_64 ≠ b := fun o e => hn_64 (e ▸ o.1)
  have a0 := fun f (hf : f < 643) => (show h_R (s_R (s_N (s_R h3 643 a (some q_46)) q_64 12 500) 644 a (some q_64)) f a = h_R (s_O (s_R (s_R (s_O (s_R (s_R (s_O (s_R h1 640 a (some q_5)) q_16 0) 0 q_16 (some q_5)) 641 a (some q_16)) q_31 4) 256 q_31 (some q_5)) 642 a (some q_31)) q_46 7) f a by rw [g_RR, if_neg (by omega), g_RN, g_RR, if_neg (by omega), f46 f])
  refine ret _ _ _ _ _ ⟨(PL [a, q_5, q_16, q_31, q_46, q_64, q6, q7, q8, q9, q10, q11, q12, q13, q14]), fun _ _ _ => [], ⟨⟨⟨W0.ok oa, ?_, ?_, ?_, ?_, ?_⟩, ⟨X4.ok (okR ok_sO), g16⟩, ⟨X7.ok (okR ok_sO), g31⟩, Pq.1, ⟨okR ok_sN, ?_⟩, Pq.2.2.1, Pq.2.2.2.1, Pq.2.2.2.2.1, Pq.2.2.2.2.2.1, Pq.2.2.2.2.2.2.1⟩, ⟨B.1, B.2.1, B.2.2.1, B.2.2.2.1, B.2.2.2.2.1, B.2.2.2.2.2.1⟩, fun f hf => absurd hf (Nat.not_lt_zero _), fun f hf => absurd hf (Nat.not_lt_zero _), fun f hf => absurd hf (Nat.not_lt_zero _), fun kd hk => ⟨B.2.2.2.2.2.2 kd, trivial⟩, ⟨Pq.2.1, fun k hk => absurd hk (Nat.not_lt_zero _)⟩, fun i j hi => absurd hi (Nat.not_lt_zero _), fun i j hi => absurd hi (Nat.not_lt_zero _), fun i j hi => absurd hi (Nat.not_lt_zero _), fun i j hi => absurd hi (Nat.not_lt_zero _), fun i j hi => absurd hi (Nat.not_lt_zero _), fun i hi => absurd hi (Nat.not_lt_zero _), ?_, d64 pq.2.2.2.1.1, d64 pq.2.2.2.2.1.1, d64 pq.2.2.2.2.2.1.1, d64 pq.2.2.2.2.2.2.1.1, pq.2.2.2.2.2.2.2⟩, rfl, W0⟩ (Nat.le_of_ble_eq_true rfl) (Nat.le_of_ble_eq_true rfl) dX10_init_69
  · show h_R (s_R (s_N (s_R h3 643 a (some q_46)) q_64 12 500) 644 a (some q_64)) 640 a = some q_5
    rw [a0 640 (by decide), gR_O na46, g_RR, if_neg (by decide), g_RR, if_neg (by decide), gR_O na31, g_RR, if_neg (by decide), g_RR, if_neg (by decide), gR_O na16, g_RR, if_pos rfl, if_pos rfl]
  · show h_R (s_R (s_N (s_R h3 643 a (some q_46)) q_64 12 500) 644 a (some q_64)) 641 a = some q_16
    rw [a0 641 (by decide), gR_O na46, g_RR, if_neg (by decide), g_RR, if_neg (by decide), gR_O na31, g_RR, if_pos rfl, if_pos rfl]
  · show h_R (s_R (s_N (s_R h3 643 a (some q_46)) q_64 12 500) 644 a (some q_64)) 642 a = some q_31
    rw [a0 642 (by decide), gR_O na46, g_RR, if_pos rfl, if_pos rfl]
  · show h_R (s_R (s_N (s_R h3 643 a (some q_46)) q_64 12 500) 644 a (some q_64)) 643 a = some q_46
    rw [g_RR, if_neg (by decide), g_RN, g_RR, if_pos rfl, if_pos rfl]
  · show h_R (s_R (s_N (s_R h3 643 a (some q_46)) q_64 12 500) 644 a (some q_64)) 644 a = some q_64
    rw [g_RR, if_pos rfl, if_pos rfl]
  · show h_N (s_R (s_N (s_R h3 643 a (some q_46)) q_64 12 500) 644 a (some q_64)) q_64 = 500
    rw [g_NR, g_NN, if_pos rfl]
  · show q7 ≠ q10
    exact fun e => m10 (e ▸ (X8.tr (Fi.sO hn_46)).1 _ bk.2.2.2.1.2.1.1)
