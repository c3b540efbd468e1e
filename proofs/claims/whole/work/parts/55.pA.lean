def s_W (h : jH) (a : Nat) (g : Nat → Int32) : jH := (h.1, h.2.1, h.2.2.1, h.2.2.2.1, h.2.2.2.2.1, (fun b i => if b = a then g i else h.2.2.2.2.2.1 b i), h.2.2.2.2.2.2)
theorem g_AW (h : jH) (a : Nat) (g : Nat → Int32) (b j : Nat) : h_A (s_W h a g) b j = if b = a then g j else h_A h b j := rfl
theorem pset_W {cy : Nat → ClassId} {h : jH} {A : Nat → Prop} {a k : Nat} {g : Nat → Int32} (hD : va_D A (pool cy h)) (hL : h_ok h a 12) (hk : (pool cy h)[k]? = some (a, pf cy h a)) : (pool cy h).set k (a, .inl (cy 12, h_N h a, .inl g)) = pool cy (s_W h a g) := by
  refine pool_set hD hL.1 hk rfl ?_ (fun b hb => pf_congr rfl rfl (fun _ => rfl) (fun _ => rfl) (fun j => by rw [g_AW]; simp [hb]) (fun _ => rfl))
  rw [pf_int (show h_K (s_W h a g) a = 12 from hL.2), show h_A (s_W h a g) a = g from funext fun j => by rw [g_AW]; simp]
  rfl
theorem kY_link : Cond.methodLink RX7 78 arraycopyName ∈ wall := wl_m 695 (by decide +kernel) rfl
theorem kY_stat : Cond.static arraycopyName ∈ wall := wl_m 696 (by decide +kernel) rfl
theorem kY_nat : Cond.native arraycopyName ∈ wall := wl_m 697 (by decide +kernel) rfl
theorem kY_ini : Cond.initialized "java/lang/System" ∈ wall := wl_m 14 (by decide +kernel) rfl
theorem j_copy {p : Program} {l : Launch} {e : Env} {R : Room} {s : State} {m : MethodId} {args : Array Value} {below : List Frame} {meth : Method} {c : Code} {D : va_G} {cy : Nat → ClassId} {A : Nat → Prop} {nL cells slots : Nat} {Q : State → Prop} {cc : ByteArray} {h : jH} {lv : List (Nat × Value)} {pc : Nat} (C : jC p s m args meth c D cy A nL RX7 cc) {a0 a : Nat} (o0 : h_ok h a0 12) (o1 : h_ok h a 12) (n0 : h_N h a0 = 5) (n1 : h_N h a = 5) (hf : 1 ≤ R.frames) (hl : 31 ≤ R.locals) (hd : decode cc pc = .ok (.invokestatic 78, 3)) (k : jW p l e R s m args below meth c D cy A nL cells slots Q (s_W h a (va_cpy (h_A h a0) (h_A h a) 0 0 5)) lv (pc + 3) []) : jW p l e R s m args below meth c D cy A nL cells slots Q h lv pc [.int 5, .int 0, .ref a, .int 0, .ref a0] := fun H locs ls hP hD hS hl' => by
  obtain ⟨q0, h0⟩ := pool_get (cy := cy) o0.1
  obtain ⟨q1, h1⟩ := pool_get (cy := cy) o1.1
  have h1' := h1
  rw [pf_int o0.2] at h0
  rw [pf_int o1.2] at h1
  refine va_copyi C.1 C.2.1 (C.2.2.1.trans hl'.1.symm) C.2.2.2.1 (C.2.2.2.2.1 _ kY_link) (C.2.2.2.2.1 _ kY_nat) (C.2.2.2.2.1 _ kY_stat) (C.2.2.2.2.1 _ kY_ini) C.2.2.2.2.2.1 hP hD hS q0 q1 0 0 h0 h1 rfl rfl rfl (by decide) (by decide) (by decide) (by rw [n0]; decide) (by rw [n1]; decide) (fun i _ => rfl) hf (Nat.le_trans (by decide +kernel) hl) hd (fun H1 locs1 hP1 hD1 hS1 => ?_)
  rw [pset_W hD o1 h1'] at hP1 hD1
  exact k H1 locs1 ls hP1 hD1 hS1 hl'
theorem FrC.sW {P : Nat → Nat → Nat} {h : jH} {i : Nat} {g : Nat → Int32} (hi : i ∈ [5, 11, 12, 13, 14]) : FrC P h (s_W h (P 5 i) g) := fun m0 ad S n M => ⟨M.1, M.2.1, fun k h1 h2 => ⟨(M.2.2.1 k h1 h2).1, (M.2.2.1 k h1 h2).2.1, (M.2.2.1 k h1 h2).2.2.1, fun x => by rw [g_AW, if_neg (n k h1 h2 i hi)]; exact (M.2.2.1 k h1 h2).2.2.2 x⟩, M.2.2.2⟩
theorem Ex.sW {h0 h : jH} {a : Nat} {g : Nat → Int32} (x : Ex h0 h) : Ex h0 (s_W h a g) := x
abbrev farS (S : Nat → Nat → Int32) (yy nt : Nat) : Int32 := inForceS S 0 (nI yy + 1) (nI yy) nt
/-- the planner's masks -/
def plM (h : jH) (S : Nat → Nat → Int32) (P : Nat → Nat → Nat) (nf nl ns nt nw yy : Nat) : Prop := ∀ i, i < nw → mkP (h_A h (P 5 11) i) (fun f => f < mmS nf ∧ frS S yy nl ns nt i f) 6
def plT (h : jH) (S : Nat → Nat → Int32) (P : Nat → Nat → Nat) (nf nt yy : Nat) : Prop := ∀ f, f < 6 → mkP (h_A h (P 5 12) f) (fun g => f < nf ∧ g < nf ∧ ¬ farS S yy nt * farS S yy nt ≤ nearS S f g) 6
theorem near_comm (S : Nat → Nat → Int32) (a b : Nat) : nearS S a b = nearS S b a := by
  unfold nearS
  rw [mx_comm (S 9 a - S 11 b), mx_comm (S 10 a - S 12 b)]
def fitP (S : Nat → Nat → Int32) (nf nl ns nt yy : Nat) (d : Nat → Nat) (p f : Nat) : Prop := (f < mmS nf ∧ frS S yy nl ns nt p f) ∧ ∀ k, k < p → d k = mmS nf ∨ ¬ cfS S (farS S yy nt) k p (d k) f
theorem mm_6 {nf f : Nat} (hf : f < 6) : f < mmS nf ↔ f < nf := by
  unfold mmS
  split
  · exact Iff.rfl
  · exact ⟨fun _ => by omega, fun _ => hf⟩
theorem cdv_lt {mm d : Nat} (h : d < mm) : cdv mm d = nI d := if_pos h
theorem cdv_m {mm : Nat} : cdv mm mm = -1 := if_neg (Nat.lt_irrefl _)
theorem cdv_ge {mm d : Nat} (h : d ≤ mm) (hm : mm ≤ 6) (e : ¬ cdv mm d = -1) : d < mm := by
  unfold cdv at e
  by_cases c : d < mm
  · exact c
  · rw [if_neg c] at e; exact absurd rfl e
theorem cdv_n1 {mm d : Nat} (h : d ≤ mm) (hm : mm ≤ 6) (e : cdv mm d = -1) : d = mm := by
  unfold cdv at e
  by_cases c : d < mm
  · rw [if_pos c] at e; exact absurd e (nI_m1 (by omega))
  · omega
theorem okW {h : jH} {S : Nat → Nat → Int32} {P : Nat → Nat → Nat} {T : Nat → Nat → Nat → List Nat} {nf nl nb ns nt nk nw : Nat} (c : CP h S P T nf nl nb ns nt nk nw) {yy : Nat} (I : SI S nf nl nb ns nt nk nw yy) {i : Nat} (hi : i < nw) : h_ok h (P 1 (S 42 i).toNatClampNeg) 6 ∧ h_I h 386 (P 1 (S 42 i).toNatClampNeg) = S 22 (S 42 i).toNatClampNeg := by
  obtain ⟨j, hj, e⟩ := I.wn i hi
  have hnl := I.lt.2
  rw [e, nI_clamp (by omega)]
  exact ⟨(c.2.2.2.1 j hj).1.2, (c.2.2.2.1 j hj).2.1.2.2.1⟩
set_option maxHeartbeats 4000000 in
set_option maxRecDepth 100000 in
theorem k_oneCrop {l : Launch} {D : va_G} {cy : Nat → ClassId} {h : jH} {a b : Nat} (oa : h_ok h a 6) (ob : h_ok h b 6) : cI l D cy yX7_areOfOneCrop (.code yX7_areOfOneCrop cX7_areOfOneCrop 2 ((Option.some FieldType.boolean))) 0 [.ref a, .ref b] h (fun r => r = bI (h_I h 386 a = h_I h 386 b)) := by
  refine j_ofZ (by decide) (Nat.le_of_ble_eq_true rfl) (fun p e s m args below meth c Q C hin ret => ?_)
  refine j_aload_n C dX7_areOfOneCrop_0 rfl ?_
  refine j_ifnull C dX7_areOfOneCrop_1 ?_
  refine j_aload_n C dX7_areOfOneCrop_4 rfl ?_
  refine j_ifnull C dX7_areOfOneCrop_5 ?_
  refine j_aload_n C dX7_areOfOneCrop_8 rfl ?_
  refine j_gI (f := 386) C fF_X7_65 rfl oa dX7_areOfOneCrop_9 ?_
  refine j_aload_n C dX7_areOfOneCrop_12 rfl ?_
  refine j_gI (f := 386) C fF_X7_65 rfl ob dX7_areOfOneCrop_13 ?_
  refine j_icmp_ne (tgt := 23) C dX7_areOfOneCrop_16 (by decide) (fun c_16 => ?_) (fun c_16 => ?_)
  · refine j_iconst (v := 0) C dX7_areOfOneCrop_23 (by decide) ?_
    exact ret _ _ 0 0 _ _ ⟨(bI_f c_16).symm, rfl⟩ (by decide) (Nat.zero_le _) (Nat.zero_le _) dX7_areOfOneCrop_24
  · refine j_iconst (v := 1) C dX7_areOfOneCrop_19 (by decide) ?_
    refine j_goto (tgt := 24) C dX7_areOfOneCrop_20 (by decide) ?_
    exact ret _ _ 0 0 _ _ ⟨(bI_t c_16).symm, rfl⟩ (by decide) (Nat.zero_le _) (Nat.zero_le _) dX7_areOfOneCrop_24
set_option maxHeartbeats 4000000 in
set_option maxRecDepth 100000 in
theorem L_fit {p : Program} {l : Launch} {e : Env} {s : State} {m : MethodId} {args : Array Value} {below : List Frame} {meth : Method} {c0 : Code} {D : va_G} {cy : Nat → ClassId} {A : Nat → Prop} {Q : State → Prop} (C : jC p s m args meth c0 D cy A 6 RX7 cX7_fits) {h : jH} {S : Nat → Nat → Int32} {P : Nat → Nat → Nat} {T : Nat → Nat → Nat → List Nat} {nf nl nb ns nt nk nw yy : Nat} (c : CP h S P T nf nl nb ns nt nk nw) (I : SI S nf nl nb ns nt nk nw yy) (MT : plM h S P nf nl ns nt nw yy) (TN : plT h S P nf nt yy) {d : Nat → Nat} {pl f : Nat} (hpw : pl < nw) (hf6 : f < 6) (hd : ∀ k, d k ≤ mmS nf) (hgo : ∀ k, k < pl → h_A h (P 5 13) k = cdv (mmS nf) (d k)) (hnw : nw ≤ 5) (hmm : mmS nf ≤ 6) (hfm : f < mmS nf) (hfr : frS S yy nl ns nt pl f) (ret : ∀ (v : Int32) (lv : List (Nat × Value)) (pc : Nat), vP v (fitP S nf nl ns nt yy d pl f) → (v = 0 ∨ v = 1) → decode cX7_fits pc = .ok (.ireturn, 1) → jW p l e (rmd 1 0 0) s m args below meth c0 D cy A 6 0 0 Q h lv pc [.int v]) : ∀ (n k i : Nat), k < n → i + k = pl → (∀ j, j < i → d j = mmS nf ∨ ¬ cfS S (farS S yy nt) j pl (d j) f) → jW p l e (rmd 1 0 0) s m args below meth c0 D cy A 6 0 0 Q h [(0, .ref (P 5 4)), (1, .int (nI pl)), (2, .int (nI f)), (3, .int (nI i))] 43 [] := by
  intro n
  induction n with
  | zero => intro k i h1; exact absurd h1 (Nat.not_lt_zero _)
  | succ n ih =>
    intro k i h1 h2 he
    refine j_iload_n C dX7_fits_43 rfl ?_
    refine j_iload_n C dX7_fits_44 rfl ?_
    refine j_icmp_ge (tgt := 122) C dX7_fits_45 (by decide) (fun c_45 => ?_) (fun c_45 => ?_)
    · refine j_iconst (v := 1) C dX7_fits_122 (by decide) ?_
      have hge : pl ≤ i := nI_ge_of c_45 (by omega) (by omega)
      exact ret _ _ _ (Or.inl ⟨rfl, ⟨hfm, hfr⟩, fun k hk => he k (by omega)⟩) (by decide) dX7_fits_123
    · have hlt : i < pl := nI_lt_of c_45 (by omega)
      have hiw : i < nw := by omega
      obtain ⟨k, rfl⟩ : ∃ q, k = q + 1 := ⟨k - 1, by omega⟩
      have hdi := hd i
      refine j_aload_n C dX7_fits_48 rfl ?_
      refine j_gRe (f := 452) (v := .ref (P 5 13)) C fF_X7_24 rfl c.1.2.2.2.1.1 (by rw [c.1.2.2.2.1.2.2.2.2.2.1]; rfl) dX7_fits_49 ?_
      refine j_iload_n C dX7_fits_52 rfl ?_
      refine j_ialdN C c.1.2.2.2.2.2.2.2.2.1.1 ⟨c.1.2.2.2.2.2.2.2.2.1.2, by omega, by decide⟩ dX7_fits_53 ?_
      refine j_top (hgo i hlt) ?_
      refine j_istore (lv' := [(0, .ref (P 5 4)), (1, .int (nI pl)), (2, .int (nI f)), (3, .int (nI i)), (4, .int (cdv (mmS nf) (d i)))]) C dX7_fits_54 (by decide) rfl ?_
      refine j_iload C dX7_fits_56 rfl ?_
      refine j_iload_n C dX7_fits_58 rfl ?_
      refine j_icmp_ne (tgt := 64) C dX7_fits_59 (by decide) (fun c_59 => ?_) (fun c_59 => ?_)
      · refine j_iload C dX7_fits_64 rfl ?_
        refine j_iconst (v := (-1)) C dX7_fits_66 (by decide) ?_
        refine j_icmp_eq (tgt := 88) C dX7_fits_67 (by decide) (fun c_67 => ?_) (fun c_67 => ?_)
        · refine j_iconst (v := 0) C dX7_fits_88 (by decide) ?_
          refine j_istore (lv' := [(0, .ref (P 5 4)), (1, .int (nI pl)), (2, .int (nI f)), (3, .int (nI i)), (4, .int (cdv (mmS nf) (d i))), (5, .int 0)]) C dX7_fits_89 (by decide) rfl ?_
          refine j_iload C dX7_fits_91 rfl ?_
          refine j_if_eq (tgt := 116) C dX7_fits_93 (by decide) (fun c_93 => ?_) (fun c_93 => ?_)
          · refine j_iinc (lv' := [(0, .ref (P 5 4)), (1, .int (nI pl)), (2, .int (nI f)), (3, .int (nI (i + 1))), (4, .int (cdv (mmS nf) (d i))), (5, .int 0)]) C dX7_fits_116 rfl (nI_1 _) (by decide) rfl ?_
            refine j_goto (tgt := 43) C dX7_fits_119 (by decide) ?_
            refine j_sub [0, 1, 2, 3] rfl ?_
            refine ih k (i + 1) (by omega) (by omega) (fun j hj => ?_)
            by_cases e : j = i
            · subst e
              exact Or.inl (cdv_n1 hdi hmm c_67)
            · exact he j (by omega)
          · exact (show False by revert c_93; decide).elim
        · have hdm : d i < mmS nf := cdv_ge hdi hmm c_67
          have hdn : d i < 6 := by omega
          rw [cdv_lt hdm]
          refine j_aload_n C dX7_fits_70 rfl ?_
          refine j_gRe (f := 451) (v := .ref (P 5 12)) C fF_X7_21 rfl c.1.2.2.2.1.1 (by rw [c.1.2.2.2.1.2.2.2.2.1]; rfl) dX7_fits_71 ?_
          refine j_iload_n C dX7_fits_74 rfl ?_
          refine j_ialdN C c.1.2.2.2.2.2.2.2.1.1 ⟨c.1.2.2.2.2.2.2.2.1.2, by omega, by decide⟩ dX7_fits_75 ?_
          refine j_iload C dX7_fits_76 rfl ?_
          refine j_ishr C dX7_fits_78 ?_
          refine j_iconst (v := 1) C dX7_fits_79 (by decide) ?_
          refine j_iand C dX7_fits_80 ?_
          refine j_if_eq (tgt := 88) C dX7_fits_81 (by decide) (fun c_81 => ?_) (fun c_81 => ?_)
          · refine j_iconst (v := 0) C dX7_fits_88 (by decide) ?_
            refine j_istore (lv' := [(0, .ref (P 5 4)), (1, .int (nI pl)), (2, .int (nI f)), (3, .int (nI i)), (4, .int (nI (d i))), (5, .int 0)]) C dX7_fits_89 (by decide) rfl ?_
            refine j_iload C dX7_fits_91 rfl ?_
            refine j_if_eq (tgt := 116) C dX7_fits_93 (by decide) (fun c_93 => ?_) (fun c_93 => ?_)
            · refine j_iinc (lv' := [(0, .ref (P 5 4)), (1, .int (nI pl)), (2, .int (nI f)), (3, .int (nI (i + 1))), (4, .int (nI (d i))), (5, .int 0)]) C dX7_fits_116 rfl (nI_1 _) (by decide) rfl ?_
              refine j_goto (tgt := 43) C dX7_fits_119 (by decide) ?_
              refine j_sub [0, 1, 2, 3] rfl ?_
              refine ih k (i + 1) (by omega) (by omega) (fun j hj => ?_)
              by_cases e : j = i
              · subst e
                exact Or.inr (fun z => z.elim (fun e => c_59 (by rw [cdv_lt hdm, e])) (fun e => (TN f hf6).bit hdn |>.mp c_81 ⟨(mm_6 hf6).mp hfm, (mm_6 hdn).mp hdm, by rw [near_comm]; exact e.2⟩))
              · exact he j (by omega)
            · exact (show False by revert c_93; decide).elim
          · refine j_iconst (v := 1) C dX7_fits_84 (by decide) ?_
            refine j_goto (tgt := 89) C dX7_fits_85 (by decide) ?_
            refine j_istore (lv' := [(0, .ref (P 5 4)), (1, .int (nI pl)), (2, .int (nI f)), (3, .int (nI i)), (4, .int (nI (d i))), (5, .int 1)]) C dX7_fits_89 (by decide) rfl ?_
            refine j_iload C dX7_fits_91 rfl ?_
            refine j_if_eq (tgt := 116) C dX7_fits_93 (by decide) (fun c_93 => ?_) (fun c_93 => ?_)
            · exact (show False by revert c_93; decide).elim
            refine j_aload_n C dX7_fits_96 rfl ?_
            refine j_gRe (f := 449) (v := .ref (P 5 10)) C fF_X7_11 rfl c.1.2.2.2.1.1 (by rw [c.1.2.2.2.1.2.2.1]; rfl) dX7_fits_97 ?_
            refine j_iload_n C dX7_fits_100 rfl ?_
            refine j_aaldN (k := 15) C c.1.2.2.2.2.2.1.1 (by decide) rfl ⟨c.1.2.2.2.2.2.1.2, by omega, by decide⟩ (by rw [c.2.2.2.2.2.2.1.2 i hiw]) dX7_fits_101 ?_
            refine j_aload_n C dX7_fits_102 rfl ?_
            refine j_gRe (f := 449) (v := .ref (P 5 10)) C fF_X7_11 rfl c.1.2.2.2.1.1 (by rw [c.1.2.2.2.1.2.2.1]; rfl) dX7_fits_103 ?_
            refine j_iload_n C dX7_fits_106 rfl ?_
            refine j_aaldN (k := 15) C c.1.2.2.2.2.2.1.1 (by decide) rfl ⟨c.1.2.2.2.2.2.1.2, by omega, by decide⟩ (by rw [c.2.2.2.2.2.2.1.2 pl hpw]) dX7_fits_107 ?_
            refine j_callSi (As := [.ref (P 1 (S 42 i).toNatClampNeg), .ref (P 1 (S 42 pl).toNatClampNeg)]) (rest := []) C fG_X7_88 (k_oneCrop (a := (P 1 (S 42 i).toNatClampNeg)) (b := (P 1 (S 42 pl).toNatClampNeg)) (okW c I hiw).1 (okW c I hpw).1) rfl rfl (Nat.le_of_ble_eq_true rfl) ⟨Nat.le_of_ble_eq_true rfl, Nat.le_of_ble_eq_true rfl⟩ ⟨Nat.le_of_ble_eq_true rfl, Nat.le_of_ble_eq_true rfl⟩ dX7_fits_108 (fun r_108 h_108 e_108 => ?_)
            obtain ⟨e1_108, e2_108⟩ := e_108
            rw [(okW c I hiw).2, (okW c I hpw).2] at e1_108
            subst e1_108
            replace e2_108 := e2_108.symm
            subst e2_108
            refine j_ifeq_b (tgt := 116) C dX7_fits_111 (by decide) (fun c_111 => ?_) (fun c_111 => ?_)
            · refine j_iinc (lv' := [(0, .ref (P 5 4)), (1, .int (nI pl)), (2, .int (nI f)), (3, .int (nI (i + 1))), (4, .int (nI (d i))), (5, .int 1)]) C dX7_fits_116 rfl (nI_1 _) (by decide) rfl ?_
              refine j_goto (tgt := 43) C dX7_fits_119 (by decide) ?_
              refine j_sub [0, 1, 2, 3] rfl ?_
              refine ih k (i + 1) (by omega) (by omega) (fun j hj => ?_)
              by_cases e : j = i
              · subst e
                exact Or.inr (fun z => z.elim (fun e => c_59 (by rw [cdv_lt hdm, e])) (fun e => c_111 e.1))
              · exact he j (by omega)
            · refine j_iconst (v := 0) C dX7_fits_114 (by decide) ?_
              exact ret _ _ _ (Or.inr ⟨rfl, fun z => (z.2 i hlt).elim (fun e => by omega) (fun e => e (Or.inr ⟨c_111, by
                have u := Classical.byContradiction (fun q => c_81 (((TN f hf6).bit hdn).mpr q))
                rw [near_comm]
                exact u.2.2⟩))⟩) (by decide) dX7_fits_115
      · refine j_iconst (v := 0) C dX7_fits_62 (by decide) ?_
        exact ret _ _ _ (Or.inr ⟨rfl, fun z => (z.2 i hlt).elim (fun e => nI_m1 (show f < 2 ^ 31 by omega) (by rw [← c_59, e, cdv_m])) (fun e => e (Or.inl (by have u := cdv_ge hdi hmm (by rw [c_59]; exact nI_m1 (by omega)); rw [cdv_lt u] at c_59; exact (nI_eq (by omega) (by omega)).mp c_59)))⟩) (by decide) dX7_fits_63
set_option maxHeartbeats 4000000 in
set_option maxRecDepth 100000 in
theorem k_fits {l : Launch} {D : va_G} {cy : Nat → ClassId} {h : jH} {S : Nat → Nat → Int32} {P : Nat → Nat → Nat} {T : Nat → Nat → Nat → List Nat} {nf nl nb ns nt nk nw yy : Nat} (c : CP h S P T nf nl nb ns nt nk nw) (I : SI S nf nl nb ns nt nk nw yy) (MT : plM h S P nf nl ns nt nw yy) (TN : plT h S P nf nt yy) {d : Nat → Nat} {pl f : Nat} (hpw : pl < nw) (hf6 : f < 6) (hd : ∀ k, d k ≤ mmS nf) (hgo : ∀ k, k < pl → h_A h (P 5 13) k = cdv (mmS nf) (d k)) : cI l D cy yX7_fits (.code yX7_fits cX7_fits 6 ((Option.some FieldType.boolean))) 1 [.ref (P 5 4), .int (nI pl), .int (nI f)] h (fun v => vP v (fitP S nf nl ns nt yy d pl f)) := by
  have hnw := I.wt.2
  refine j_ofZ (by decide) (Nat.le_of_ble_eq_true rfl) (fun p e s m args below meth c0 Q C hin ret => ?_)
  refine j_iload_n C dX7_fits_0 rfl ?_
  refine j_if_lt (tgt := 39) C dX7_fits_1 (by decide) (fun c_1 => ?_) (fun c_1 => ?_)
  · refine j_iconst (v := 0) C dX7_fits_39 (by decide) ?_
    exact absurd c_1 (nI_pos (by omega))
  · refine j_iload_n C dX7_fits_4 rfl ?_
    refine j_aload_n C dX7_fits_5 rfl ?_
    refine j_gRe (f := 450) (v := .ref (P 5 11)) C fF_X7_17 rfl c.1.2.2.2.1.1 (by rw [c.1.2.2.2.1.2.2.2.1]; rfl) dX7_fits_6 ?_
    refine j_alen (k := 12) (v := 5) C c.1.2.2.2.2.2.2.1.1 ⟨by decide, rfl⟩ (congrArg nI c.1.2.2.2.2.2.2.1.2) dX7_fits_9 ?_
    refine j_icmp_ge (tgt := 39) C dX7_fits_10 (by decide) (fun c_10 => ?_) (fun c_10 => ?_)
    · refine j_iconst (v := 0) C dX7_fits_39 (by decide) ?_
      exact absurd (nI_ge_of (n := 5) c_10 (by omega) (by omega)) (by omega)
    · refine j_iload_n C dX7_fits_13 rfl ?_
      refine j_if_lt (tgt := 39) C dX7_fits_14 (by decide) (fun c_14 => ?_) (fun c_14 => ?_)
      · refine j_iconst (v := 0) C dX7_fits_39 (by decide) ?_
        exact absurd c_14 (nI_pos (by omega))
      · refine j_iload_n C dX7_fits_17 rfl ?_
        refine j_aload_n C dX7_fits_18 rfl ?_
        refine j_gRe (f := 451) (v := .ref (P 5 12)) C fF_X7_21 rfl c.1.2.2.2.1.1 (by rw [c.1.2.2.2.1.2.2.2.2.1]; rfl) dX7_fits_19 ?_
        refine j_alen (k := 12) (v := 6) C c.1.2.2.2.2.2.2.2.1.1 ⟨by decide, rfl⟩ (congrArg nI c.1.2.2.2.2.2.2.2.1.2) dX7_fits_22 ?_
        refine j_icmp_ge (tgt := 39) C dX7_fits_23 (by decide) (fun c_23 => ?_) (fun c_23 => ?_)
        · refine j_iconst (v := 0) C dX7_fits_39 (by decide) ?_
          exact absurd (nI_ge_of (n := 6) c_23 (by omega) (by omega)) (by omega)
        · refine j_aload_n C dX7_fits_26 rfl ?_
          refine j_gRe (f := 450) (v := .ref (P 5 11)) C fF_X7_17 rfl c.1.2.2.2.1.1 (by rw [c.1.2.2.2.1.2.2.2.1]; rfl) dX7_fits_27 ?_
          refine j_iload_n C dX7_fits_30 rfl ?_
          refine j_ialdN C c.1.2.2.2.2.2.2.1.1 ⟨c.1.2.2.2.2.2.2.1.2, by omega, by decide⟩ dX7_fits_31 ?_
          refine j_iload_n C dX7_fits_32 rfl ?_
          refine j_ishr C dX7_fits_33 ?_
          refine j_iconst (v := 1) C dX7_fits_34 (by decide) ?_
          refine j_iand C dX7_fits_35 ?_
          refine j_if_ne (tgt := 41) C dX7_fits_36 (by decide) (fun c_36 => ?_) (fun c_36 => ?_)
          · refine j_iconst (v := 0) C dX7_fits_41 (by decide) ?_
            refine j_istore_n (lv' := [(0, .ref (P 5 4)), (1, .int (nI pl)), (2, .int (nI f)), (3, .int 0)]) C dX7_fits_42 (by decide) rfl ?_
            have hb := Classical.byContradiction (fun q => c_36 (((MT pl hpw).bit hf6).mpr q))
            exact L_fit C c I MT TN hpw hf6 hd hgo hnw (mmS_le nf) hb.1 hb.2 (fun v lv pc hv hz hd => ret v h 0 0 lv pc ⟨hv, rfl⟩ hz (Nat.zero_le _) (Nat.zero_le _) hd) (pl + 1) pl 0 (by omega) (by omega) (fun j hj => absurd hj (Nat.not_lt_zero _))
          · refine j_iconst (v := 0) C dX7_fits_39 (by decide) ?_
            exact ret _ _ 0 0 _ _ ⟨Or.inr ⟨rfl, fun z => ((MT pl hpw).bit hf6).mp c_36 z.1⟩, rfl⟩ (by decide) (Nat.zero_le _) (Nat.zero_le _) dX7_fits_40
