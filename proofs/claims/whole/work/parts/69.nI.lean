theorem j_callIvN {p : Program} {l : Launch} {e : Env} {R : Room} {s : State} {m : MethodId} {args : Array Value} {below : List Frame} {meth : Method} {c : Code} {D : va_G} {cy : Nat → ClassId} {A : Nat → Prop} {nL cells slots : Nat} {Q : State → Prop} {own : String} {cc : ByteArray} {h : jH} {lv : List (Nat × Value)} {pc : Nat} {st : List Value} (C : jC p s m args meth c D cy A nL own cc) {index b n nLc : Nat} {y : MethodName} {bytes : ByteArray} {host : String} {rmc : Room} {As rest : List Value} {post : jH → Prop} (hl0 : va_Nw (.methodLinkNest own index y host) s) (hini : Cond.initialized y.cls ∈ wall) (hcode : Cond.code y bytes nLc none ∈ wall) (hdd : y.cls ≠ "java/lang/invoke/MethodHandle" ∧ y.cls ≠ "java/lang/invoke/VarHandle" ∧ (parseMethodDescriptor y.desc).map (fun d => d.parameters.length) = some n) (hinst : Cond.instanceMethod y ∈ wall) (hnm : y.name = "<init>") (M : jV l D cy y (.code y bytes nLc none) rmc (.ref b :: As) h post) (hn : As.length = n) (hst : st = As.reverse ++ .ref b :: rest) (hW : (rest.map fun v => v.category).sum ≤ 8) (hR : rmc.frames + 1 ≤ R.frames ∧ 8 + (nLc + 11) + rmc.locals ≤ R.locals) (hf : cells + rmc.cells ≤ R.cells ∧ slots + rmc.slots ≤ R.slots) (hd : decode cc pc = .ok (.invokespecial index, 3)) (kk : ∀ (h' : jH), post h' → jW p l e R s m args below meth c D cy A nL (cells + rmc.cells) (slots + rmc.slots) Q h' lv (pc + 3) (rest)) : jW p l e R s m args below meth c D cy A nL cells slots Q h lv pc st := fun H locs ls hP hD hS hl => by
  have hFc := j_in C hD hS
  refine va_callv (va_runIN (As := As) (rest := rest) ⟨C.1, C.2.1, C.2.2.1, C.2.2.2.1, C.2.2.2.2.1⟩ (M H.size) ⟨va_cnB n C.2.2.2.2.1 (wl_cons hcode) rfl rfl rfl hl0 (C.2.2.2.2.1 _ hini) hdd hR, hnm, C.2.2.2.2.1 _ hinst⟩ (j_pre C hP hD hS) rfl hn hl.1 hst (lv_room hW) hd hf) hS (fun q _ hq => hFc q hq) hFc (fun u t H1 locs1 ht hvm hw hB hz1 hk1 hS1 => ?_)
  obtain ⟨hP1, hK1, hD1⟩ := hB
  rw [ht] at hP1
  exact kk u hw H1 locs1 ls hP1 (hD1.weaken (fun _ q _ hq => hFc q.1 hq)) hS1 hl
theorem Fi.tr {a : Nat} {h1 h2 h3 : jH} (x : Fi a h1 h2) (y : Fi a h2 h3) : Fi a h1 h3 := ⟨fun b hb => y.1 b (x.1 b hb), fun b hb => by
  have p := x.2 b hb
  have q := y.2 b (x.1 b hb)
  exact ⟨q.1.trans p.1, q.2.1.trans p.2.1, fun i => (q.2.2.1 i).trans (p.2.2.1 i), fun i => (q.2.2.2.1 i).trans (p.2.2.2.1 i), fun n => ⟨fun f => ((q.2.2.2.2 n).1 f).trans ((p.2.2.2.2 n).1 f), fun f => ((q.2.2.2.2 n).2 f).trans ((p.2.2.2.2 n).2 f)⟩⟩⟩
/-- another cell, new since h0 -/
theorem Fi.fr {a q : Nat} {h0 h1 h2 : jH} (x : Fi a h0 h1) (y : Fi q h1 h2) (hq : q ∉ h_L h0) : Fi a h0 h2 := ⟨fun b hb => y.1 b (x.1 b hb), fun b hb => by
  have p := x.2 b hb
  have r := y.2 b (x.1 b hb)
  have nb : b ≠ q := fun e => hq (e ▸ hb)
  exact ⟨r.1.trans p.1, r.2.1.trans p.2.1, fun i => (r.2.2.1 i).trans (p.2.2.1 i), fun i => (r.2.2.2.1 i).trans (p.2.2.2.1 i), fun n => ⟨fun f => ((r.2.2.2.2 nb).1 f).trans ((p.2.2.2.2 n).1 f), fun f => ((r.2.2.2.2 nb).2 f).trans ((p.2.2.2.2 n).2 f)⟩⟩⟩
theorem Fi.sI {a f : Nat} {v : Int32} {h : jH} : Fi a h (s_I h f a v) := ⟨fun _ hb => hb, fun b _ => ⟨rfl, rfl, fun _ => rfl, fun _ => rfl, fun n => ⟨fun g => gI_n n, fun _ => rfl⟩⟩⟩
theorem Fi.sR {a f : Nat} {v : Option Nat} {h : jH} : Fi a h (s_R h f a v) := ⟨fun _ hb => hb, fun b _ => ⟨rfl, rfl, fun _ => rfl, fun _ => rfl, fun n => ⟨fun _ => rfl, fun g => gR_n n⟩⟩⟩
theorem Fi.sO {a q k : Nat} {h : jH} (hq : q ∉ h_L h) : Fi a h (s_O h q k) := ⟨fun b hb => by rw [g_LO]; exact List.mem_append_left _ hb, fun b hb => by
  have nb : b ≠ q := fun e => hq (e ▸ hb)
  exact ⟨by rw [g_KO, if_neg nb], rfl, fun _ => rfl, fun _ => rfl, fun _ => ⟨fun g => gI_O nb, fun g => gR_O nb⟩⟩⟩
theorem Fi.sN {a q k N : Nat} {h : jH} (hq : q ∉ h_L h) : Fi a h (s_N h q k N) := ⟨fun b hb => by rw [g_LN]; exact List.mem_append_left _ hb, fun b hb => by
  have nb : b ≠ q := fun e => hq (e ▸ hb)
  exact ⟨by rw [g_KN, if_neg nb], by rw [g_NN, if_neg nb], fun i => by rw [g_AN, if_neg nb], fun i => by rw [g_BN, if_neg nb], fun _ => ⟨fun g => rfl, fun g => rfl⟩⟩⟩
theorem Fi.ok {a b k : Nat} {h h' : jH} (x : Fi a h h') (o : h_ok h b k) : h_ok h' b k := ⟨x.1 b o.1, (x.2 b o.1).1.trans o.2⟩
theorem Fi.ne {a b : Nat} {h h' : jH} (x : Fi a h h') {q : Nat} (hq : q ∉ h_L h') (hb : b ∈ h_L h) : b ≠ q := fun e => hq (e ▸ x.1 b hb)
theorem ex_Fi {a : Nat} {h h' : jH} (x : Fi a h h') (ha : h_ok h a 11) : Ex h h' := ⟨fun b k o n => by
  have p := x.2 b o.1
  have nb : b ≠ a := fun e => n (by rw [← o.2, e]; exact ha.2)
  exact ⟨x.ok o, p.2.1, fun f _ _ => (p.2.2.2.2 nb).1 f, fun f _ => (p.2.2.2.2 nb).2 f⟩, fun b k o _ i => (x.2 b o.1).2.2.2.1 i⟩
def bkP (h : jH) (a q6 q7 q8 q9 : Nat) : Prop := h_ok h a 2 ∧ (h_I h 128 a = 0 ∧ h_I h 130 a = 0 ∧ h_I h 132 a = 0 ∧ h_I h 134 a = 0 ∧ h_I h 135 a = 0 ∧ h_I h 137 a = 0 ∧ h_I h 138 a = 0 ∧ h_I h 139 a = 0) ∧ (h_R h 129 a = some q6 ∧ h_ok h q6 14 ∧ h_N h q6 = 40) ∧ (h_R h 131 a = some q7 ∧ h_ok h q7 15 ∧ h_N h q7 = 200) ∧ (h_R h 133 a = some q8 ∧ h_ok h q8 13 ∧ h_N h q8 = 200) ∧ (h_R h 136 a = some q9 ∧ h_ok h q9 16 ∧ h_N h q9 = 5) ∧ ∀ i, h_B h q9 i = none
set_option maxHeartbeats 4000000 in
set_option maxRecDepth 100000 in
theorem k_Bkinit {l : Launch} {D : va_G} {cy : Nat → ClassId} {h : jH} {a : Nat} (oa : h_ok h a 2) : jV l D cy yX2_init (.code yX2_init cX2_init 1 ((Option.none : Option FieldType))) (rmd 1 4 445) [.ref a] h (fun h' => ∃ q6 q7 q8 q9, bkP h' a q6 q7 q8 q9 ∧ Fi a h h' ∧ q6 ∉ h_L h ∧ q7 ∉ h_L h ∧ q8 ∉ h_L h ∧ q9 ∉ h_L h) := by
  refine j_ofV (by decide) (Nat.le_of_ble_eq_true rfl) (fun p e s m args below meth c Q C hin ret => ?_)
  refine j_aload_n C dX2_init_0 rfl ?_
  refine j_objInit C kM_X2_3 dX2_init_1 (Nat.le_of_ble_eq_true rfl) (Nat.le_of_ble_eq_true rfl) ?_
  refine j_aload_n C dX2_init_4 rfl ?_
  refine j_iconst (v := 0) C dX2_init_5 (by decide) ?_
  refine j_pI (f := 128) C fP_X2_9 rfl oa rfl rfl dX2_init_6 ?_
  refine j_aload_n C dX2_init_9 rfl ?_
  refine j_bipush (v := 40) C dX2_init_10 (by decide) ?_
  refine j_newR (N := 40) (k := 14) C kL_X2_15 C.2.2.2.2.2.2.2.2.2.1.1 (by decide) rfl (by decide) (by decide) (by decide) (Nat.le_of_ble_eq_true rfl) (Nat.le_of_ble_eq_true rfl) dX2_init_12 (fun q_12 hn_12 => ?_)
  refine j_pFR (f := 129) (v := (some q_12)) C hin fP_X2_17 rfl (okN hn_12 (okI oa)) rfl rfl rfl dX2_init_15 ?_
  refine j_aload_n C dX2_init_18 rfl ?_
  refine j_iconst (v := 0) C dX2_init_19 (by decide) ?_
  refine j_pI (f := 130) C fP_X2_21 rfl (okR (okN hn_12 (okI oa))) rfl rfl dX2_init_20 ?_
  refine j_aload_n C dX2_init_23 rfl ?_
  refine j_sipush (v := 200) C dX2_init_24 (by decide) ?_
  refine j_newR (N := 200) (k := 15) C kL_X2_24 C.2.2.2.2.2.2.2.2.2.1.2.1 (by decide) rfl (by decide) (by decide) (by decide) (Nat.le_of_ble_eq_true rfl) (Nat.le_of_ble_eq_true rfl) dX2_init_27 (fun q_27 hn_27 => ?_)
  refine j_pFR (f := 131) (v := (some q_27)) C hin fP_X2_26 rfl (okN hn_27 (okI (okR (okN hn_12 (okI oa))))) rfl rfl rfl dX2_init_30 ?_
  refine j_aload_n C dX2_init_33 rfl ?_
  refine j_iconst (v := 0) C dX2_init_34 (by decide) ?_
  refine j_pI (f := 132) C fP_X2_30 rfl (okR (okN hn_27 (okI (okR (okN hn_12 (okI oa)))))) rfl rfl dX2_init_35 ?_
  refine j_aload_n C dX2_init_38 rfl ?_
  refine j_sipush (v := 200) C dX2_init_39 (by decide) ?_
  refine j_newR (N := 200) (k := 13) C kL_X2_33 C.2.2.2.2.2.2.2.2.2.1.2.2.1 (by decide) rfl (by decide) (by decide) (by decide) (Nat.le_of_ble_eq_true rfl) (Nat.le_of_ble_eq_true rfl) dX2_init_42 (fun q_42 hn_42 => ?_)
  refine j_pFR (f := 133) (v := (some q_42)) C hin fP_X2_35 rfl (okN hn_42 (okI (okR (okN hn_27 (okI (okR (okN hn_12 (okI oa)))))))) rfl rfl rfl dX2_init_45 ?_
  refine j_aload_n C dX2_init_48 rfl ?_
  refine j_iconst (v := 0) C dX2_init_49 (by decide) ?_
  refine j_pI (f := 134) C fP_X2_39 rfl (okR (okN hn_42 (okI (okR (okN hn_27 (okI (okR (okN hn_12 (okI oa))))))))) rfl rfl dX2_init_50 ?_
  refine j_aload_n C dX2_init_53 rfl ?_
  refine j_iconst (v := 0) C dX2_init_54 (by decide) ?_
  refine j_pI (f := 135) C fP_X2_42 rfl (okI (okR (okN hn_42 (okI (okR (okN hn_27 (okI (okR (okN hn_12 (okI oa)))))))))) rfl rfl dX2_init_55 ?_
  refine j_aload_n C dX2_init_58 rfl ?_
  refine j_gsN1 C C.2.2.2.2.2.2.2.2.2.2.2.1 dX2_init_59 (fun t_59 hT_59 => ?_)
  refine j_tlen (v := 5) C hT_59 rfl dX2_init_62 ?_
  refine j_newR (N := 5) (k := 16) C kL_X2_49 C.2.2.2.2.2.2.2.2.2.1.2.2.2.1 (by decide) rfl (by decide) (by decide) (by decide) (Nat.le_of_ble_eq_true rfl) (Nat.le_of_ble_eq_true rfl) dX2_init_63 (fun q_63 hn_63 => ?_)
  refine j_pFR (f := 136) (v := (some q_63)) C hin fP_X2_51 rfl (okN hn_63 (okI (okI (okR (okN hn_42 (okI (okR (okN hn_27 (okI (okR (okN hn_12 (okI oa)))))))))))) rfl rfl rfl dX2_init_66 ?_
  refine j_aload_n C dX2_init_69 rfl ?_
  refine j_iconst (v := 0) C dX2_init_70 (by decide) ?_
  refine j_pI (f := 137) C fP_X2_55 rfl (okR (okN hn_63 (okI (okI (okR (okN hn_42 (okI (okR (okN hn_27 (okI (okR (okN hn_12 (okI oa))))))))))))) rfl rfl dX2_init_71 ?_
  refine j_aload_n C dX2_init_74 rfl ?_
  refine j_iconst (v := 0) C dX2_init_75 (by decide) ?_
  refine j_pI (f := 138) C fP_X2_58 rfl (okI (okR (okN hn_63 (okI (okI (okR (okN hn_42 (okI (okR (okN hn_27 (okI (okR (okN hn_12 (okI oa)))))))))))))) rfl rfl dX2_init_76 ?_
  refine j_aload_n C dX2_init_79 rfl ?_
  refine j_iconst (v := 0) C dX2_init_80 (by decide) ?_
  refine j_pI (f := 139) C fP_X2_61 rfl (okI (okI (okR (okN hn_63 (okI (okI (okR (okN hn_42 (okI (okR (okN hn_27 (okI (okR (okN hn_12 (okI oa))))))))))))))) rfl rfl dX2_init_81 ?_
  have ne_12_27 : q_12 ≠ q_27 := fun e => hn_27 (e ▸ (okI (okR ok_sN)).1)
  have ne_12_42 : q_12 ≠ q_42 := fun e => hn_42 (e ▸ (okI (okR (okN hn_27 (okI (okR ok_sN))))).1)
  have ne_12_63 : q_12 ≠ q_63 := fun e => hn_63 (e ▸ (okI (okI (okR (okN hn_42 (okI (okR (okN hn_27 (okI (okR ok_sN))))))))).1)
  have ne_27_42 : q_27 ≠ q_42 := fun e => hn_42 (e ▸ (okI (okR ok_sN)).1)
  have ne_27_63 : q_27 ≠ q_63 := fun e => hn_63 (e ▸ (okI (okI (okR (okN hn_42 (okI (okR ok_sN)))))).1)
  have ne_42_63 : q_42 ≠ q_63 := fun e => hn_63 (e ▸ (okI (okI (okR ok_sN))).1)
  refine ret _ _ _ _ _ ⟨q_12, q_27, q_42, q_63, ⟨(okI (okI (okI (okR (okN hn_63 (okI (okI (okR (okN hn_42 (okI (okR (okN hn_27 (okI (okR (okN hn_12 (okI oa)))))))))))))))), ⟨by rw [g_II, if_neg (by decide), g_II, if_neg (by decide), g_II, if_neg (by decide), g_IR, g_IN, g_II, if_neg (by decide), g_II, if_neg (by decide), g_IR, g_IN, g_II, if_neg (by decide), g_IR, g_IN, g_II, if_neg (by decide), g_IR, g_IN, g_II, if_pos rfl, if_pos rfl], by rw [g_II, if_neg (by decide), g_II, if_neg (by decide), g_II, if_neg (by decide), g_IR, g_IN, g_II, if_neg (by decide), g_II, if_neg (by decide), g_IR, g_IN, g_II, if_neg (by decide), g_IR, g_IN, g_II, if_pos rfl, if_pos rfl], by rw [g_II, if_neg (by decide), g_II, if_neg (by decide), g_II, if_neg (by decide), g_IR, g_IN, g_II, if_neg (by decide), g_II, if_neg (by decide), g_IR, g_IN, g_II, if_pos rfl, if_pos rfl], by rw [g_II, if_neg (by decide), g_II, if_neg (by decide), g_II, if_neg (by decide), g_IR, g_IN, g_II, if_neg (by decide), g_II, if_pos rfl, if_pos rfl], by rw [g_II, if_neg (by decide), g_II, if_neg (by decide), g_II, if_neg (by decide), g_IR, g_IN, g_II, if_pos rfl, if_pos rfl], by rw [g_II, if_neg (by decide), g_II, if_neg (by decide), g_II, if_pos rfl, if_pos rfl], by rw [g_II, if_neg (by decide), g_II, if_pos rfl, if_pos rfl], by rw [g_II, if_pos rfl, if_pos rfl]⟩, ⟨by rw [g_RI, g_RI, g_RI, g_RR, if_neg (by decide), g_RN, g_RI, g_RI, g_RR, if_neg (by decide), g_RN, g_RI, g_RR, if_neg (by decide), g_RN, g_RI, g_RR, if_pos rfl, if_pos rfl], (okI (okI (okI (okR (okN hn_63 (okI (okI (okR (okN hn_42 (okI (okR (okN hn_27 (okI (okR ok_sN)))))))))))))), by rw [g_NI, g_NI, g_NI, g_NR, g_NN, if_neg ne_12_63, g_NI, g_NI, g_NR, g_NN, if_neg ne_12_42, g_NI, g_NR, g_NN, if_neg ne_12_27, g_NI, g_NR, g_NN, if_pos rfl]⟩, ⟨by rw [g_RI, g_RI, g_RI, g_RR, if_neg (by decide), g_RN, g_RI, g_RI, g_RR, if_neg (by decide), g_RN, g_RI, g_RR, if_pos rfl, if_pos rfl], (okI (okI (okI (okR (okN hn_63 (okI (okI (okR (okN hn_42 (okI (okR ok_sN))))))))))), by rw [g_NI, g_NI, g_NI, g_NR, g_NN, if_neg ne_27_63, g_NI, g_NI, g_NR, g_NN, if_neg ne_27_42, g_NI, g_NR, g_NN, if_pos rfl]⟩, ⟨by rw [g_RI, g_RI, g_RI, g_RR, if_neg (by decide), g_RN, g_RI, g_RI, g_RR, if_pos rfl, if_pos rfl], (okI (okI (okI (okR (okN hn_63 (okI (okI (okR ok_sN)))))))), by rw [g_NI, g_NI, g_NI, g_NR, g_NN, if_neg ne_42_63, g_NI, g_NI, g_NR, g_NN, if_pos rfl]⟩, ⟨by rw [g_RI, g_RI, g_RI, g_RR, if_pos rfl, if_pos rfl], (okI (okI (okI (okR ok_sN)))), by rw [g_NI, g_NI, g_NI, g_NR, g_NN, if_pos rfl]⟩, fun i => ?_⟩, (((((((((((((((Fi.sI.tr (Fi.sN hn_12)).tr Fi.sR).tr Fi.sI).tr (Fi.sN hn_27)).tr Fi.sR).tr Fi.sI).tr (Fi.sN hn_42)).tr Fi.sR).tr Fi.sI).tr Fi.sI).tr (Fi.sN hn_63)).tr Fi.sR).tr Fi.sI).tr Fi.sI).tr Fi.sI), fun z => hn_12 ((Fi.sI).1 _ z), fun z => hn_27 (((((Fi.sI.tr (Fi.sN hn_12)).tr Fi.sR).tr Fi.sI)).1 _ z), fun z => hn_42 ((((((((Fi.sI.tr (Fi.sN hn_12)).tr Fi.sR).tr Fi.sI).tr (Fi.sN hn_27)).tr Fi.sR).tr Fi.sI)).1 _ z), fun z => hn_63 ((((((((((((Fi.sI.tr (Fi.sN hn_12)).tr Fi.sR).tr Fi.sI).tr (Fi.sN hn_27)).tr Fi.sR).tr Fi.sI).tr (Fi.sN hn_42)).tr Fi.sR).tr Fi.sI).tr Fi.sI)).1 _ z)⟩ (Nat.le_of_ble_eq_true rfl) (Nat.le_of_ble_eq_true rfl) dX2_init_84
  rw [g_BI, g_BI, g_BI, g_BR, g_BN, if_pos rfl]
def plQ (h : jH) (a b q10 q11 q12 q13 q14 : Nat) : Prop := (h_ok h a 7 ∧ h_R h 448 a = some b ∧ h_R h 449 a = some q10 ∧ h_R h 450 a = some q11 ∧ h_R h 451 a = some q12 ∧ h_R h 452 a = some q13 ∧ h_R h 453 a = some q14) ∧ h_I h 455 a = 0 ∧ (h_ok h q10 15 ∧ h_N h q10 = 5) ∧ (h_ok h q11 12 ∧ h_N h q11 = 5) ∧ (h_ok h q12 12 ∧ h_N h q12 = 6) ∧ (h_ok h q13 12 ∧ h_N h q13 = 5) ∧ (h_ok h q14 12 ∧ h_N h q14 = 5) ∧ (q11 ≠ q12 ∧ q11 ≠ q13 ∧ q11 ≠ q14 ∧ q12 ≠ q13 ∧ q12 ≠ q14 ∧ q13 ≠ q14)
set_option maxHeartbeats 4000000 in
set_option maxRecDepth 100000 in
theorem k_Plinit {l : Launch} {D : va_G} {cy : Nat → ClassId} {h : jH} {a b : Nat} (oa : h_ok h a 7) : jV l D cy yX7_init (.code yX7_init cX7_init 2 ((Option.none : Option FieldType))) (rmd 1 5 26) [.ref a, .ref b] h (fun h' => ∃ q10 q11 q12 q13 q14, plQ h' a b q10 q11 q12 q13 q14 ∧ Fi a h h' ∧ q10 ∉ h_L h ∧ q11 ∉ h_L h ∧ q12 ∉ h_L h ∧ q13 ∉ h_L h ∧ q14 ∉ h_L h) := by
  refine j_ofV (by decide) (Nat.le_of_ble_eq_true rfl) (fun p e s m args below meth c Q C hin ret => ?_)
  refine j_aload_n C dX7_init_0 rfl ?_
  refine j_objInit C kM_X7_3 dX7_init_1 (Nat.le_of_ble_eq_true rfl) (Nat.le_of_ble_eq_true rfl) ?_
  refine j_aload_n C dX7_init_4 rfl ?_
  refine j_iconst (v := 5) C dX7_init_5 (by decide) ?_
  refine j_newR (N := 5) (k := 15) C kL_X7_9 C.2.2.2.2.2.2.2.2.2.1.2.1 (by decide) rfl (by decide) (by decide) (by decide) (Nat.le_of_ble_eq_true rfl) (Nat.le_of_ble_eq_true rfl) dX7_init_6 (fun q_6 hn_6 => ?_)
  refine j_pFR (f := 449) (v := (some q_6)) C hin fP_X7_11 rfl (okN hn_6 oa) rfl rfl rfl dX7_init_9 ?_
  refine j_aload_n C dX7_init_12 rfl ?_
  refine j_iconst (v := 5) C dX7_init_13 (by decide) ?_
  refine j_newI (N := 5) C (by decide) (by decide) (by decide) (Nat.le_of_ble_eq_true rfl) (Nat.le_of_ble_eq_true rfl) dX7_init_14 (fun q_14 hn_14 => ?_)
  refine j_pFR (f := 450) (v := (some q_14)) C hin fP_X7_17 rfl (okN hn_14 (okR (okN hn_6 oa))) rfl rfl rfl dX7_init_16 ?_
  refine j_aload_n C dX7_init_19 rfl ?_
  refine j_bipush (v := 6) C dX7_init_20 (by decide) ?_
  refine j_newI (N := 6) C (by decide) (by decide) (by decide) (Nat.le_of_ble_eq_true rfl) (Nat.le_of_ble_eq_true rfl) dX7_init_22 (fun q_22 hn_22 => ?_)
  refine j_pFR (f := 451) (v := (some q_22)) C hin fP_X7_21 rfl (okN hn_22 (okR (okN hn_14 (okR (okN hn_6 oa))))) rfl rfl rfl dX7_init_24 ?_
  refine j_aload_n C dX7_init_27 rfl ?_
  refine j_iconst (v := 5) C dX7_init_28 (by decide) ?_
  refine j_newI (N := 5) C (by decide) (by decide) (by decide) (Nat.le_of_ble_eq_true rfl) (Nat.le_of_ble_eq_true rfl) dX7_init_29 (fun q_29 hn_29 => ?_)
  refine j_pFR (f := 452) (v := (some q_29)) C hin fP_X7_24 rfl (okN hn_29 (okR (okN hn_22 (okR (okN hn_14 (okR (okN hn_6 oa))))))) rfl rfl rfl dX7_init_31 ?_
  refine j_aload_n C dX7_init_34 rfl ?_
  refine j_iconst (v := 5) C dX7_init_35 (by decide) ?_
  refine j_newI (N := 5) C (by decide) (by decide) (by decide) (Nat.le_of_ble_eq_true rfl) (Nat.le_of_ble_eq_true rfl) dX7_init_36 (fun q_36 hn_36 => ?_)
  refine j_pFR (f := 453) (v := (some q_36)) C hin fP_X7_27 rfl (okN hn_36 (okR (okN hn_29 (okR (okN hn_22 (okR (okN hn_14 (okR (okN hn_6 oa))))))))) rfl rfl rfl dX7_init_38 ?_
  refine j_aload_n C dX7_init_41 rfl ?_
  refine j_iconst (v := (-1)) C dX7_init_42 (by decide) ?_
  refine j_pI (f := 454) C fP_X7_30 rfl (okR (okN hn_36 (okR (okN hn_29 (okR (okN hn_22 (okR (okN hn_14 (okR (okN hn_6 oa)))))))))) rfl rfl dX7_init_43 ?_
  refine j_aload_n C dX7_init_46 rfl ?_
  refine j_iconst (v := 0) C dX7_init_47 (by decide) ?_
  refine j_pI (f := 455) C fP_X7_34 rfl (okI (okR (okN hn_36 (okR (okN hn_29 (okR (okN hn_22 (okR (okN hn_14 (okR (okN hn_6 oa))))))))))) rfl rfl dX7_init_48 ?_
  refine j_aload_n C dX7_init_51 rfl ?_
  refine j_aload_n C dX7_init_52 rfl ?_
  refine j_pFR (f := 448) (v := (some b)) C hin fP_X7_37 rfl (okI (okI (okR (okN hn_36 (okR (okN hn_29 (okR (okN hn_22 (okR (okN hn_14 (okR (okN hn_6 oa)))))))))))) rfl rfl rfl dX7_init_53 ?_
  have ne_6_14 : q_6 ≠ q_14 := fun e => hn_14 (e ▸ (okR ok_sN).1)
  have ne_6_22 : q_6 ≠ q_22 := fun e => hn_22 (e ▸ (okR (okN hn_14 (okR ok_sN))).1)
  have ne_6_29 : q_6 ≠ q_29 := fun e => hn_29 (e ▸ (okR (okN hn_22 (okR (okN hn_14 (okR ok_sN))))).1)
  have ne_6_36 : q_6 ≠ q_36 := fun e => hn_36 (e ▸ (okR (okN hn_29 (okR (okN hn_22 (okR (okN hn_14 (okR ok_sN))))))).1)
  have ne_14_22 : q_14 ≠ q_22 := fun e => hn_22 (e ▸ (okR ok_sN).1)
  have ne_14_29 : q_14 ≠ q_29 := fun e => hn_29 (e ▸ (okR (okN hn_22 (okR ok_sN))).1)
  have ne_14_36 : q_14 ≠ q_36 := fun e => hn_36 (e ▸ (okR (okN hn_29 (okR (okN hn_22 (okR ok_sN))))).1)
  have ne_22_29 : q_22 ≠ q_29 := fun e => hn_29 (e ▸ (okR ok_sN).1)
  have ne_22_36 : q_22 ≠ q_36 := fun e => hn_36 (e ▸ (okR (okN hn_29 (okR ok_sN))).1)
  have ne_29_36 : q_29 ≠ q_36 := fun e => hn_36 (e ▸ (okR ok_sN).1)
  exact ret _ _ _ _ _ ⟨q_6, q_14, q_22, q_29, q_36, ⟨⟨(okR (okI (okI (okR (okN hn_36 (okR (okN hn_29 (okR (okN hn_22 (okR (okN hn_14 (okR (okN hn_6 oa))))))))))))), by rw [g_RR, if_pos rfl, if_pos rfl], by rw [g_RR, if_neg (by decide), g_RI, g_RI, g_RR, if_neg (by decide), g_RN, g_RR, if_neg (by decide), g_RN, g_RR, if_neg (by decide), g_RN, g_RR, if_neg (by decide), g_RN, g_RR, if_pos rfl, if_pos rfl], by rw [g_RR, if_neg (by decide), g_RI, g_RI, g_RR, if_neg (by decide), g_RN, g_RR, if_neg (by decide), g_RN, g_RR, if_neg (by decide), g_RN, g_RR, if_pos rfl, if_pos rfl], by rw [g_RR, if_neg (by decide), g_RI, g_RI, g_RR, if_neg (by decide), g_RN, g_RR, if_neg (by decide), g_RN, g_RR, if_pos rfl, if_pos rfl], by rw [g_RR, if_neg (by decide), g_RI, g_RI, g_RR, if_neg (by decide), g_RN, g_RR, if_pos rfl, if_pos rfl], by rw [g_RR, if_neg (by decide), g_RI, g_RI, g_RR, if_pos rfl, if_pos rfl]⟩, by rw [g_IR, g_II, if_pos rfl, if_pos rfl], ⟨(okR (okI (okI (okR (okN hn_36 (okR (okN hn_29 (okR (okN hn_22 (okR (okN hn_14 (okR ok_sN)))))))))))), by rw [g_NR, g_NI, g_NI, g_NR, g_NN, if_neg ne_6_36, g_NR, g_NN, if_neg ne_6_29, g_NR, g_NN, if_neg ne_6_22, g_NR, g_NN, if_neg ne_6_14, g_NR, g_NN, if_pos rfl]⟩, ⟨(okR (okI (okI (okR (okN hn_36 (okR (okN hn_29 (okR (okN hn_22 (okR ok_sN)))))))))), by rw [g_NR, g_NI, g_NI, g_NR, g_NN, if_neg ne_14_36, g_NR, g_NN, if_neg ne_14_29, g_NR, g_NN, if_neg ne_14_22, g_NR, g_NN, if_pos rfl]⟩, ⟨(okR (okI (okI (okR (okN hn_36 (okR (okN hn_29 (okR ok_sN)))))))), by rw [g_NR, g_NI, g_NI, g_NR, g_NN, if_neg ne_22_36, g_NR, g_NN, if_neg ne_22_29, g_NR, g_NN, if_pos rfl]⟩, ⟨(okR (okI (okI (okR (okN hn_36 (okR ok_sN)))))), by rw [g_NR, g_NI, g_NI, g_NR, g_NN, if_neg ne_29_36, g_NR, g_NN, if_pos rfl]⟩, ⟨(okR (okI (okI (okR ok_sN)))), by rw [g_NR, g_NI, g_NI, g_NR, g_NN, if_pos rfl]⟩, ⟨ne_14_22, ne_14_29, ne_14_36, ne_22_29, ne_22_36, ne_29_36⟩⟩, (((((((((((((Fi.sN hn_6).tr Fi.sR).tr (Fi.sN hn_14)).tr Fi.sR).tr (Fi.sN hn_22)).tr Fi.sR).tr (Fi.sN hn_29)).tr Fi.sR).tr (Fi.sN hn_36)).tr Fi.sR).tr Fi.sI).tr Fi.sI).tr Fi.sR), fun z => hn_6 ( z), fun z => hn_14 ((((Fi.sN hn_6).tr Fi.sR)).1 _ z), fun z => hn_22 ((((((Fi.sN hn_6).tr Fi.sR).tr (Fi.sN hn_14)).tr Fi.sR)).1 _ z), fun z => hn_29 ((((((((Fi.sN hn_6).tr Fi.sR).tr (Fi.sN hn_14)).tr Fi.sR).tr (Fi.sN hn_22)).tr Fi.sR)).1 _ z), fun z => hn_36 ((((((((((Fi.sN hn_6).tr Fi.sR).tr (Fi.sN hn_14)).tr Fi.sR).tr (Fi.sN hn_22)).tr Fi.sR).tr (Fi.sN hn_29)).tr Fi.sR)).1 _ z)⟩ (Nat.le_of_ble_eq_true rfl) (Nat.le_of_ble_eq_true rfl) dX7_init_56
