section CST
variable {p : Program} {l : Launch} {e : Env} {R : Room} {s : State} {m : MethodId} {args : Array Value} {below : List Frame} {meth : Method} {c : Code} {D : va_G} {cy : Nat → ClassId} {A : Nat → Prop} {nL cells slots : Nat} {Q : State → Prop} {own : String} {cc : ByteArray} {h : jH} {lv lv' : List (Nat × Value)} {pc : Nat} {st : List Value}
def stTi (j : Nat) : Int32 := ([1000, 10, 5, 1000, 8] : List Int32).getD j 0
def stFi (j : Nat) : Int32 := ([50, 2, 1, 10, 6] : List Int32).getD j 0
theorem j_gsN1 (C : jC p s m args meth c D cy A nL own cc) {index : Nat} (hk : va_Nw (.fieldLinkNest own index "CleanSeed" "STATUTE_TOPS" "[I" "CleanSeed") s) (hd : decode cc pc = .ok (.getstatic index, 3)) (kk : ∀ t : Nat, va_T .int t 5 stT A s s.heap → jW p l e R s m args below meth c D cy A nL cells slots Q h lv (pc + 3) (.ref t :: st)) : jW p l e R s m args below meth c D cy A nL cells slots Q h lv pc st := fun H locs ls hP hD hS hl => by
  obtain ⟨⟨t, h1, h2⟩, -⟩ := C.2.2.2.2.2.2.2.2.1
  exact va_getsN C.1 C.2.1 h1 hS C.2.2.2.1 (va_Nw.use rfl hk) (fun x hx => hx) hd (kk t h2 H locs ls hP hD hS hl)
theorem j_gsN2 (C : jC p s m args meth c D cy A nL own cc) {index : Nat} (hk : va_Nw (.fieldLinkNest own index "CleanSeed" "STATUTES_AT_FIRST" "[I" "CleanSeed") s) (hd : decode cc pc = .ok (.getstatic index, 3)) (kk : ∀ t : Nat, va_T .int t 5 stF A s s.heap → jW p l e R s m args below meth c D cy A nL cells slots Q h lv (pc + 3) (.ref t :: st)) : jW p l e R s m args below meth c D cy A nL cells slots Q h lv pc st := fun H locs ls hP hD hS hl => by
  obtain ⟨-, t, h1, h2⟩ := C.2.2.2.2.2.2.2.2.1
  exact va_getsN C.1 C.2.1 h1 hS C.2.2.2.1 (va_Nw.use rfl hk) (fun x hx => hx) hd (kk t h2 H locs ls hP hD hS hl)
theorem j_gs1 (C : jC p s m args meth c D cy A nL own cc) {index : Nat} (hk : Cond.fieldLink own index "CleanSeed" "STATUTE_TOPS" "[I" ∈ wall) (hd : decode cc pc = .ok (.getstatic index, 3)) (kk : ∀ t : Nat, va_T .int t 5 stT A s s.heap → jW p l e R s m args below meth c D cy A nL cells slots Q h lv (pc + 3) (.ref t :: st)) : jW p l e R s m args below meth c D cy A nL cells slots Q h lv pc st := fun H locs ls hP hD hS hl => by
  obtain ⟨⟨t, h1, h2⟩, -⟩ := C.2.2.2.2.2.2.2.2.1
  exact va_gets C.1 C.2.1 h1 hS C.2.2.2.1 (C.2.2.2.2.1 _ hk) (fun x hx => hx) hd (kk t h2 H locs ls hP hD hS hl)
theorem j_tlen (C : jC p s m args meth c D cy A nL own cc) {t : Nat} {f : Nat → Value} {v : Int32} (hT : va_T .int t 5 f A s s.heap) (hv : Int32.ofNat 5 = v) (hd : decode cc pc = .ok (.arraylength, 1)) (kk : jW p l e R s m args below meth c D cy A nL cells slots Q h lv (pc + 1) (.int v :: st)) : jW p l e R s m args below meth c D cy A nL cells slots Q h lv pc (.ref t :: st) := fun H locs ls hP hD hS hl => va_tlen C.1 C.2.1 hT hS hv hd (kk H locs ls hP hD hS hl)
theorem j_tiT (C : jC p s m args meth c D cy A nL own cc) {t : Nat} {i : Int32} (hT : va_T .int t 5 stT A s s.heap) (hi : vp_in i 5) (hd : decode cc pc = .ok (.iaload, 1)) (kk : jW p l e R s m args below meth c D cy A nL cells slots Q h lv (pc + 1) (.int (stTi i.toNatClampNeg) :: st)) : jW p l e R s m args below meth c D cy A nL cells slots Q h lv pc (.int i :: .ref t :: st) := fun H locs ls hP hD hS hl => va_ti C.1 C.2.1 hT hS hi rfl hd (kk H locs ls hP hD hS hl)
theorem j_tiF (C : jC p s m args meth c D cy A nL own cc) {t : Nat} {i : Int32} (hT : va_T .int t 5 stF A s s.heap) (hi : vp_in i 5) (hd : decode cc pc = .ok (.iaload, 1)) (kk : jW p l e R s m args below meth c D cy A nL cells slots Q h lv (pc + 1) (.int (stFi i.toNatClampNeg) :: st)) : jW p l e R s m args below meth c D cy A nL cells slots Q h lv pc (.int i :: .ref t :: st) := fun H locs ls hP hD hS hl => va_ti C.1 C.2.1 hT hS hi rfl hd (kk H locs ls hP hD hS hl)
end CST
/-- a chain of cells of kind k, from r on by field f -/
def chn (h : jH) (k f : Nat) : Option Nat → List Nat → Prop
  | r, [] => r = none
  | r, a :: as => r = some a ∧ h_ok h a k ∧ chn h k f (h_R h f a) as
def tlv (h : jH) (q : Int32) : List Nat → Int32
  | [] => 0
  | a :: as => if ¬ q < h_I h 577 a then h_I h 578 a else tlv h q as
def llk (h : jH) (q : Int32) : List Nat → Option Nat
  | [] => none
  | a :: as => if ¬ q < h_I h 321 a then some a else llk h q as
def ifb (h : jH) (y q : Int32) : List Nat → Option Nat → Option Nat
  | [], b => b
  | a :: as, b => ifb h y q as (if (¬ q < h_I h 513 a ∧ ¬ y < h_I h 514 a) ∧ (b = none ∨ ¬ h_I h 514 a ≤ oI h 514 0 b) then some a else b)
set_option maxHeartbeats 4000000 in
set_option maxRecDepth 100000 in
theorem L_lastLook {p : Program} {l : Launch} {e : Env} {R : Room} {s : State} {m : MethodId} {args : Array Value} {below : List Frame} {meth : Method} {c : Code} {D : va_G} {cy : Nat → ClassId} {A : Nat → Prop} {Q : State → Prop} {h : jH} (C : jC p s m args meth c D cy A 3 RX6 cX6_lastLookAsKnownIn) {a : Nat} {q : Int32} {v0 : Option Nat} (ret : ∀ (v : Option Nat) (lv : List (Nat × Value)) (pc : Nat), v = v0 → decode cX6_lastLookAsKnownIn pc = .ok (.areturn, 1) → jW p l e R s m args below meth c D cy A 3 0 0 Q h lv pc [va_rf v]) : ∀ (ts : List Nat) (r : Option Nat), chn h 5 320 r ts → v0 = llk h q ts → jW p l e R s m args below meth c D cy A 3 0 0 Q h [(0, .ref a), (1, .int q), (2, va_rf r)] 5 [] := by
  intro ts
  induction ts with
  | nil =>
    intro r  hc he
    obtain rfl : r = none := hc
    refine j_aload_nN C dX6_lastLookAsKnownIn_5 rfl ?_
    refine j_ifnullN (tgt := 27) C dX6_lastLookAsKnownIn_6 (by decide) ?_
    refine j_null C dX6_lastLookAsKnownIn_27 ?_
    exact ret none _ _ he.symm dX6_lastLookAsKnownIn_28
  | cons x ts ih =>
    intro r  hc he
    obtain ⟨rfl, ox, hc⟩ := hc
    refine j_aload_n C dX6_lastLookAsKnownIn_5 rfl ?_
    refine j_ifnull C dX6_lastLookAsKnownIn_6 ?_
    refine j_aload_n C dX6_lastLookAsKnownIn_9 rfl ?_
    refine j_gI (f := 321) C fF_X6_79 rfl ox dX6_lastLookAsKnownIn_10 ?_
    refine j_iload_n C dX6_lastLookAsKnownIn_13 rfl ?_
    refine j_icmp_gt (tgt := 19) C dX6_lastLookAsKnownIn_14 (by decide) (fun c_14 => ?_) (fun c_14 => ?_)
    · refine j_aload_n C dX6_lastLookAsKnownIn_19 rfl ?_
      refine j_gR (f := 320) C fF_X6_82 rfl ox dX6_lastLookAsKnownIn_20 ?_
      refine j_astore_nQ (lv' := [(0, .ref a), (1, .int q), (2, va_rf (h_R h 320 x))]) C dX6_lastLookAsKnownIn_23 (by decide) rfl ?_
      refine j_goto (tgt := 5) C dX6_lastLookAsKnownIn_24 (by decide) ?_
      exact ih _ hc (he.trans (if_neg (fun z => z c_14)))
    · refine j_aload_n C dX6_lastLookAsKnownIn_17 rfl ?_
      exact ret (some x) _ _ (by rw [he]; exact (if_pos c_14).symm) dX6_lastLookAsKnownIn_18
set_option maxHeartbeats 4000000 in
set_option maxRecDepth 100000 in
theorem k_lastLook {l : Launch} {D : va_G} {cy : Nat → ClassId} {h : jH} {a : Nat} (oa : h_ok h a 6) {ts : List Nat} (hc : chn h 5 320 (h_R h 397 a) ts) (q : Int32) : cQ l D cy yX6_lastLookAsKnownIn (.code yX6_lastLookAsKnownIn cX6_lastLookAsKnownIn 3 ((Option.some (FieldType.object "CleanSeed$Look")))) 0 [.ref a, .int q] h (fun r => r = llk h q ts) := by
  refine j_ofQ (by decide) (Nat.le_of_ble_eq_true rfl) (fun p e s m args below meth c Q C hin ret => ?_)
  refine j_aload_n C dX6_lastLookAsKnownIn_0 rfl ?_
  refine j_gR (f := 397) C fF_X6_41 rfl oa dX6_lastLookAsKnownIn_1 ?_
  refine j_astore_nQ (lv' := [(0, .ref a), (1, .int q), (2, va_rf (h_R h 397 a))]) C dX6_lastLookAsKnownIn_4 (by decide) rfl ?_
  exact L_lastLook C (fun v lv pc hv hd => ret v h 0 0 lv pc ⟨hv, rfl⟩ (Nat.zero_le _) (Nat.zero_le _) hd) ts _ hc rfl
set_option maxHeartbeats 4000000 in
set_option maxRecDepth 100000 in
theorem L_cropIn {p : Program} {l : Launch} {e : Env} {R : Room} {s : State} {m : MethodId} {args : Array Value} {below : List Frame} {meth : Method} {c : Code} {D : va_G} {cy : Nat → ClassId} {A : Nat → Prop} {Q : State → Prop} {h : jH} (C : jC p s m args meth c D cy A 5 RX3 cX3_cropIn) {a yr : Nat} {q v0 : Int32} (ret : ∀ (v : Int32) (lv : List (Nat × Value)) (pc : Nat), v = v0 → decode cX3_cropIn pc = .ok (.ireturn, 1) → jW p l e R s m args below meth c D cy A 5 0 0 Q h lv pc [.int v]) : ∀ (ts : List Nat) (r : Option Nat), chn h 9 576 r ts → v0 = tlv h q ts → jW p l e R s m args below meth c D cy A 5 0 0 Q h [(0, .ref a), (1, .int (nI yr)), (2, .int q), (4, va_rf r)] 46 [] := by
  intro ts
  induction ts with
  | nil =>
    intro r  hc he
    obtain rfl : r = none := hc
    refine j_aloadN C dX3_cropIn_46 rfl ?_
    refine j_ifnullN (tgt := 76) C dX3_cropIn_48 (by decide) ?_
    refine j_iconst (v := 0) C dX3_cropIn_76 (by decide) ?_
    exact ret _ _ _ he.symm dX3_cropIn_77
  | cons x ts ih =>
    intro r  hc he
    obtain ⟨rfl, ox, hc⟩ := hc
    refine j_aload C dX3_cropIn_46 rfl ?_
    refine j_ifnull C dX3_cropIn_48 ?_
    refine j_aload C dX3_cropIn_51 rfl ?_
    refine j_gI (f := 577) C fF_X3_61 rfl ox dX3_cropIn_53 ?_
    refine j_iload_n C dX3_cropIn_56 rfl ?_
    refine j_icmp_gt (tgt := 66) C dX3_cropIn_57 (by decide) (fun c_57 => ?_) (fun c_57 => ?_)
    · refine j_aload C dX3_cropIn_66 rfl ?_
      refine j_gR (f := 576) C fF_X3_65 rfl ox dX3_cropIn_68 ?_
      refine j_astoreQ (lv' := [(0, .ref a), (1, .int (nI yr)), (2, .int q), (4, va_rf (h_R h 576 x))]) C dX3_cropIn_71 (by decide) rfl ?_
      refine j_goto (tgt := 46) C dX3_cropIn_73 (by decide) ?_
      exact ih _ hc (he.trans (if_neg (fun z => z c_57)))
    · refine j_aload C dX3_cropIn_60 rfl ?_
      refine j_gI (f := 578) C fF_X3_64 rfl ox dX3_cropIn_62 ?_
      exact ret _ _ _ (by rw [he]; exact (if_pos c_57).symm) dX3_cropIn_65
def crp (h : jH) (r : Option Nat) (ts : List Nat) (q : Int32) : Int32 := match r with
  | none => tlv h q ts
  | some x => if ¬ q < h_I h 387 x then h_I h 386 x else tlv h q ts
theorem grw_nI {h : jH} {g yr : Nat} (hy : yr < 41) : grw h g (nI yr) = h_B h g yr := by
  unfold grw
  rw [if_pos ⟨nI_pos (by omega), fun z => absurd (nI_ge_of (n := 41) z (by decide) (by omega)) (by omega)⟩, nI_clamp (by omega)]
set_option maxHeartbeats 4000000 in
set_option maxRecDepth 100000 in
theorem k_cropIn {l : Launch} {D : va_G} {cy : Nat → ClassId} {h : jH} {a g : Nat} (oa : h_ok h a 3) (hg : h_R h 197 a = some g) (og : h_ok h g 15) (hn : h_N h g = 41) {t yr : Nat} (ht : h_R h 198 a = some t) (ot : h_ok h t 17) (hnt : h_N h t = 41) (hy : yr < 41) (ol : ∀ x, h_B h g yr = some x → h_ok h x 6) {ts : List Nat} (hc : chn h 9 576 (h_B h t yr) ts) (q : Int32) : cI l D cy yX3_cropIn (.code yX3_cropIn cX3_cropIn 5 ((Option.some FieldType.int))) 1 [.ref a, .int (nI yr), .int q] h (fun v => v = crp h (h_B h g yr) ts q) := by
  refine j_ofI (by decide) (Nat.le_of_ble_eq_true rfl) (fun p e s m args below meth c Q C hin ret => ?_)
  refine j_iload_n C dX3_cropIn_0 rfl ?_
  refine j_if_lt (tgt := 13) C dX3_cropIn_1 (by decide) (fun c_1 => ?_) (fun c_1 => ?_)
  · refine j_iconst (v := 0) C dX3_cropIn_13 (by decide) ?_
    exact (show False from by first | exact absurd c_1 (nI_pos (by omega)) | exact c_10 (nI_lt (b := 41) hy (by decide))).elim
  · refine j_iload_n C dX3_cropIn_4 rfl ?_
    refine j_aload_n C dX3_cropIn_5 rfl ?_
    refine j_gRe (f := 198) (v := .ref t) C fF_X3_19 rfl oa (by rw [ht]; rfl) dX3_cropIn_6 ?_
    refine j_alen (k := 17) (v := 41) C ot ⟨by decide, rfl⟩ (by rw [hnt]; rfl) dX3_cropIn_9 ?_
    refine j_icmp_lt (tgt := 15) C dX3_cropIn_10 (by decide) (fun c_10 => ?_) (fun c_10 => ?_)
    · refine j_aload_n C dX3_cropIn_15 rfl ?_
      refine j_iload_n C dX3_cropIn_16 rfl ?_
      refine j_callVq (As := [.int (nI yr)]) (rest := []) C fG_X3_54 (k_grownIn oa hg og hn ((nI yr))) oa rfl rfl (Nat.le_of_ble_eq_true rfl) ⟨Nat.le_of_ble_eq_true rfl, Nat.le_of_ble_eq_true rfl⟩ ⟨Nat.le_of_ble_eq_true rfl, Nat.le_of_ble_eq_true rfl⟩ dX3_cropIn_17 (fun r_17 h_17 e_17 => ?_)
      obtain ⟨e1_17, e2_17⟩ := e_17
      rw [grw_nI hy] at e1_17
      subst e1_17
      replace e2_17 := e2_17.symm
      subst e2_17
      refine j_astore_nQ (lv' := [(0, .ref a), (1, .int (nI yr)), (2, .int q), (3, va_rf (h_B h g yr))]) C dX3_cropIn_20 (by decide) rfl ?_
      refine j_aload_nQ C dX3_cropIn_21 rfl ?_
      cases hq_22 : (h_B h g yr) with
      | none =>
        refine j_ifnullN (tgt := 38) C dX3_cropIn_22 (by decide) ?_
        refine j_aload_n C dX3_cropIn_38 rfl ?_
        refine j_gRe (f := 198) (v := .ref t) C fF_X3_19 rfl oa (by rw [ht]; rfl) dX3_cropIn_39 ?_
        refine j_iload_n C dX3_cropIn_42 rfl ?_
        refine j_aaldN (k := 17) C ot (by decide) rfl ⟨hnt, hy, by decide⟩ rfl dX3_cropIn_43 ?_
        refine j_astoreQ (lv' := [(0, .ref a), (1, .int (nI yr)), (2, .int q), (3, .null), (4, va_rf (h_B h t yr))]) C dX3_cropIn_44 (by decide) rfl ?_
        refine j_sub [0, 1, 2, 4] rfl ?_
        exact L_cropIn C (fun v lv pc hv hd => ret v h 0 0 lv pc ⟨hv, rfl⟩ (Nat.zero_le _) (Nat.zero_le _) hd) ts _ hc (by rw [hq_22]; rfl)
      | some x_22 =>
        refine j_ifnull C dX3_cropIn_22 ?_
        refine j_aload_n C dX3_cropIn_25 rfl ?_
        refine j_gI (f := 387) C fF_X3_48 rfl (ol _ hq_22) dX3_cropIn_26 ?_
        refine j_iload_n C dX3_cropIn_29 rfl ?_
        refine j_icmp_gt (tgt := 38) C dX3_cropIn_30 (by decide) (fun c_30 => ?_) (fun c_30 => ?_)
        · refine j_aload_n C dX3_cropIn_38 rfl ?_
          refine j_gRe (f := 198) (v := .ref t) C fF_X3_19 rfl oa (by rw [ht]; rfl) dX3_cropIn_39 ?_
          refine j_iload_n C dX3_cropIn_42 rfl ?_
          refine j_aaldN (k := 17) C ot (by decide) rfl ⟨hnt, hy, by decide⟩ rfl dX3_cropIn_43 ?_
          refine j_astoreQ (lv' := [(0, .ref a), (1, .int (nI yr)), (2, .int q), (3, .ref x_22), (4, va_rf (h_B h t yr))]) C dX3_cropIn_44 (by decide) rfl ?_
          refine j_sub [0, 1, 2, 4] rfl ?_
          exact L_cropIn C (fun v lv pc hv hd => ret v h 0 0 lv pc ⟨hv, rfl⟩ (Nat.zero_le _) (Nat.zero_le _) hd) ts _ hc (by rw [hq_22]; exact if_neg (fun z => z c_30))
        · refine j_aload_n C dX3_cropIn_33 rfl ?_
          refine j_gI (f := 386) C fF_X3_58 rfl (ol _ hq_22) dX3_cropIn_34 ?_
          exact ret _ _ 0 0 _ _ ⟨by rw [hq_22]; exact (if_pos c_30).symm, rfl⟩ (Nat.zero_le _) (Nat.zero_le _) dX3_cropIn_37
    · refine j_iconst (v := 0) C dX3_cropIn_13 (by decide) ?_
      exact (show False from by first | exact absurd c_1 (nI_pos (by omega)) | exact c_10 (nI_lt (b := 41) hy (by decide))).elim
