def ifv (h : jH) (kd : Nat) (b : Option Nat) : Int32 := match b with
  | none => stFi kd
  | some x => h_I h 515 x
set_option maxHeartbeats 4000000 in
set_option maxRecDepth 100000 in
theorem L_inForceC {p : Program} {l : Launch} {e : Env} {R : Room} {s : State} {m : MethodId} {args : Array Value} {below : List Frame} {meth : Method} {c : Code} {D : va_G} {cy : Nat → ClassId} {A : Nat → Prop} {Q : State → Prop} {h : jH} (C : jC p s m args meth c D cy A 7 RX2 cX2_inForce) {a kd : Nat} {yr q v0 : Int32} (oa : h_ok h a 2) (hkd : kd < 5) (ret : ∀ (v : Int32) (lv : List (Nat × Value)) (pc : Nat), v = v0 → decode cX2_inForce pc = .ok (.ireturn, 1) → jW p l e R s m args below meth c D cy A 7 0 0 Q h lv pc [.int v]) : ∀ (ts : List Nat) (r best : Option Nat), chn h 8 512 r ts → (∀ z, best = some z → h_ok h z 8) → v0 = ifv h kd (ifb h yr q ts best) → jW p l e R s m args below meth c D cy A 7 0 0 Q h [(0, .ref a), (1, .int (nI kd)), (2, .int yr), (3, .int q), (4, va_rf best), (5, va_rf r)] 34 [] := by
  intro ts
  induction ts with
  | nil =>
    intro r best hc okb he
    obtain rfl : r = none := hc
    cases best with
    | none =>
      refine j_aloadN C dX2_inForce_34 rfl ?_
      refine j_ifnullN (tgt := 101) C dX2_inForce_36 (by decide) ?_
      refine j_aloadN C dX2_inForce_101 rfl ?_
      refine j_ifnonnullN C dX2_inForce_103 ?_
      refine j_gsN2 C C.2.2.2.2.2.2.2.2.2.2.2.2 dX2_inForce_106 (fun t_106 hT_106 => ?_)
      refine j_iload_n C dX2_inForce_109 rfl ?_
      refine j_tiF C hT_106 (vp_in_nI hkd (by decide)) dX2_inForce_110 ?_
      refine j_goto (tgt := 119) C dX2_inForce_111 (by decide) ?_
      exact ret _ _ _ (by rw [he]; first | rfl | (show _ = stFi kd; rw [nI_clamp (by omega)])) dX2_inForce_119
    | some b =>
      refine j_aloadN C dX2_inForce_34 rfl ?_
      refine j_ifnullN (tgt := 101) C dX2_inForce_36 (by decide) ?_
      refine j_aload C dX2_inForce_101 rfl ?_
      refine j_ifnonnull (tgt := 114) C dX2_inForce_103 (by decide) ?_
      refine j_aload C dX2_inForce_114 rfl ?_
      refine j_gI (f := 515) C fF_X2_80 rfl (okb b rfl) dX2_inForce_116 ?_
      exact ret _ _ _ (by rw [he]; first | rfl | (show _ = stFi kd; rw [nI_clamp (by omega)])) dX2_inForce_119
  | cons x ts ih =>
    intro r best hc okb he
    obtain ⟨rfl, ox, hc⟩ := hc
    cases best with
    | none =>
      refine j_aload C dX2_inForce_34 rfl ?_
      refine j_ifnull C dX2_inForce_36 ?_
      refine j_aload C dX2_inForce_39 rfl ?_
      refine j_gI (f := 513) C fF_X2_70 rfl ox dX2_inForce_41 ?_
      refine j_iload_n C dX2_inForce_44 rfl ?_
      refine j_icmp_gt (tgt := 61) C dX2_inForce_45 (by decide) (fun c_45 => ?_) (fun c_45 => ?_)
      · refine j_iconst (v := 0) C dX2_inForce_61 (by decide) ?_
        refine j_istore (lv' := [(0, .ref a), (1, .int (nI kd)), (2, .int yr), (3, .int q), (4, .null), (5, .ref x), (6, .int 0)]) C dX2_inForce_62 (by decide) rfl ?_
        refine j_iload C dX2_inForce_64 rfl ?_
        refine j_if_eq (tgt := 91) C dX2_inForce_66 (by decide) (fun c_66 => ?_) (fun c_66 => ?_)
        · refine j_aload C dX2_inForce_91 rfl ?_
          refine j_gR (f := 512) C fF_X2_76 rfl ox dX2_inForce_93 ?_
          refine j_astoreQ (lv' := [(0, .ref a), (1, .int (nI kd)), (2, .int yr), (3, .int q), (4, .null), (5, va_rf (h_R h 512 x)), (6, .int 0)]) C dX2_inForce_96 (by decide) rfl ?_
          refine j_goto (tgt := 34) C dX2_inForce_98 (by decide) ?_
          refine j_sub [0, 1, 2, 3, 4, 5] rfl ?_
          exact ih _ none hc okb (he.trans (congrArg (fun z => ifv h kd (ifb h yr q ts z)) (if_neg (fun z => z.1.1 c_45))))
        · exact (show False by revert c_66; decide).elim
      · refine j_aload C dX2_inForce_48 rfl ?_
        refine j_gI (f := 514) C fF_X2_73 rfl ox dX2_inForce_50 ?_
        refine j_iload_n C dX2_inForce_53 rfl ?_
        refine j_icmp_gt (tgt := 61) C dX2_inForce_54 (by decide) (fun c_54 => ?_) (fun c_54 => ?_)
        · refine j_iconst (v := 0) C dX2_inForce_61 (by decide) ?_
          refine j_istore (lv' := [(0, .ref a), (1, .int (nI kd)), (2, .int yr), (3, .int q), (4, .null), (5, .ref x), (6, .int 0)]) C dX2_inForce_62 (by decide) rfl ?_
          refine j_iload C dX2_inForce_64 rfl ?_
          refine j_if_eq (tgt := 91) C dX2_inForce_66 (by decide) (fun c_66 => ?_) (fun c_66 => ?_)
          · refine j_aload C dX2_inForce_91 rfl ?_
            refine j_gR (f := 512) C fF_X2_76 rfl ox dX2_inForce_93 ?_
            refine j_astoreQ (lv' := [(0, .ref a), (1, .int (nI kd)), (2, .int yr), (3, .int q), (4, .null), (5, va_rf (h_R h 512 x)), (6, .int 0)]) C dX2_inForce_96 (by decide) rfl ?_
            refine j_goto (tgt := 34) C dX2_inForce_98 (by decide) ?_
            refine j_sub [0, 1, 2, 3, 4, 5] rfl ?_
            exact ih _ none hc okb (he.trans (congrArg (fun z => ifv h kd (ifb h yr q ts z)) (if_neg (fun z => z.1.2 c_54))))
          · exact (show False by revert c_66; decide).elim
        · refine j_iconst (v := 1) C dX2_inForce_57 (by decide) ?_
          refine j_goto (tgt := 62) C dX2_inForce_58 (by decide) ?_
          refine j_istore (lv' := [(0, .ref a), (1, .int (nI kd)), (2, .int yr), (3, .int q), (4, .null), (5, .ref x), (6, .int 1)]) C dX2_inForce_62 (by decide) rfl ?_
          refine j_iload C dX2_inForce_64 rfl ?_
          refine j_if_eq (tgt := 91) C dX2_inForce_66 (by decide) (fun c_66 => ?_) (fun c_66 => ?_)
          · exact (show False by revert c_66; decide).elim
          refine j_aloadN C dX2_inForce_69 rfl ?_
          refine j_ifnullN (tgt := 87) C dX2_inForce_71 (by decide) ?_
          refine j_aload C dX2_inForce_87 rfl ?_
          refine j_astore (lv' := [(0, .ref a), (1, .int (nI kd)), (2, .int yr), (3, .int q), (4, .ref x), (5, .ref x), (6, .int 1)]) C dX2_inForce_89 (by decide) rfl ?_
          refine j_aload C dX2_inForce_91 rfl ?_
          refine j_gR (f := 512) C fF_X2_76 rfl ox dX2_inForce_93 ?_
          refine j_astoreQ (lv' := [(0, .ref a), (1, .int (nI kd)), (2, .int yr), (3, .int q), (4, .ref x), (5, va_rf (h_R h 512 x)), (6, .int 1)]) C dX2_inForce_96 (by decide) rfl ?_
          refine j_goto (tgt := 34) C dX2_inForce_98 (by decide) ?_
          refine j_sub [0, 1, 2, 3, 4, 5] rfl ?_
          exact ih _ (some x) hc (fun z hz => by cases hz; exact ox) (he.trans (congrArg (fun z => ifv h kd (ifb h yr q ts z)) (if_pos ⟨⟨c_45, c_54⟩, Or.inl rfl⟩)))
    | some b =>
      refine j_aload C dX2_inForce_34 rfl ?_
      refine j_ifnull C dX2_inForce_36 ?_
      refine j_aload C dX2_inForce_39 rfl ?_
      refine j_gI (f := 513) C fF_X2_70 rfl ox dX2_inForce_41 ?_
      refine j_iload_n C dX2_inForce_44 rfl ?_
      refine j_icmp_gt (tgt := 61) C dX2_inForce_45 (by decide) (fun c_45 => ?_) (fun c_45 => ?_)
      · refine j_iconst (v := 0) C dX2_inForce_61 (by decide) ?_
        refine j_istore (lv' := [(0, .ref a), (1, .int (nI kd)), (2, .int yr), (3, .int q), (4, .ref b), (5, .ref x), (6, .int 0)]) C dX2_inForce_62 (by decide) rfl ?_
        refine j_iload C dX2_inForce_64 rfl ?_
        refine j_if_eq (tgt := 91) C dX2_inForce_66 (by decide) (fun c_66 => ?_) (fun c_66 => ?_)
        · refine j_aload C dX2_inForce_91 rfl ?_
          refine j_gR (f := 512) C fF_X2_76 rfl ox dX2_inForce_93 ?_
          refine j_astoreQ (lv' := [(0, .ref a), (1, .int (nI kd)), (2, .int yr), (3, .int q), (4, .ref b), (5, va_rf (h_R h 512 x)), (6, .int 0)]) C dX2_inForce_96 (by decide) rfl ?_
          refine j_goto (tgt := 34) C dX2_inForce_98 (by decide) ?_
          refine j_sub [0, 1, 2, 3, 4, 5] rfl ?_
          exact ih _ (some b) hc okb (he.trans (congrArg (fun z => ifv h kd (ifb h yr q ts z)) (if_neg (fun z => z.1.1 c_45))))
        · exact (show False by revert c_66; decide).elim
      · refine j_aload C dX2_inForce_48 rfl ?_
        refine j_gI (f := 514) C fF_X2_73 rfl ox dX2_inForce_50 ?_
        refine j_iload_n C dX2_inForce_53 rfl ?_
        refine j_icmp_gt (tgt := 61) C dX2_inForce_54 (by decide) (fun c_54 => ?_) (fun c_54 => ?_)
        · refine j_iconst (v := 0) C dX2_inForce_61 (by decide) ?_
          refine j_istore (lv' := [(0, .ref a), (1, .int (nI kd)), (2, .int yr), (3, .int q), (4, .ref b), (5, .ref x), (6, .int 0)]) C dX2_inForce_62 (by decide) rfl ?_
          refine j_iload C dX2_inForce_64 rfl ?_
          refine j_if_eq (tgt := 91) C dX2_inForce_66 (by decide) (fun c_66 => ?_) (fun c_66 => ?_)
          · refine j_aload C dX2_inForce_91 rfl ?_
            refine j_gR (f := 512) C fF_X2_76 rfl ox dX2_inForce_93 ?_
            refine j_astoreQ (lv' := [(0, .ref a), (1, .int (nI kd)), (2, .int yr), (3, .int q), (4, .ref b), (5, va_rf (h_R h 512 x)), (6, .int 0)]) C dX2_inForce_96 (by decide) rfl ?_
            refine j_goto (tgt := 34) C dX2_inForce_98 (by decide) ?_
            refine j_sub [0, 1, 2, 3, 4, 5] rfl ?_
            exact ih _ (some b) hc okb (he.trans (congrArg (fun z => ifv h kd (ifb h yr q ts z)) (if_neg (fun z => z.1.2 c_54))))
          · exact (show False by revert c_66; decide).elim
        · refine j_iconst (v := 1) C dX2_inForce_57 (by decide) ?_
          refine j_goto (tgt := 62) C dX2_inForce_58 (by decide) ?_
          refine j_istore (lv' := [(0, .ref a), (1, .int (nI kd)), (2, .int yr), (3, .int q), (4, .ref b), (5, .ref x), (6, .int 1)]) C dX2_inForce_62 (by decide) rfl ?_
          refine j_iload C dX2_inForce_64 rfl ?_
          refine j_if_eq (tgt := 91) C dX2_inForce_66 (by decide) (fun c_66 => ?_) (fun c_66 => ?_)
          · exact (show False by revert c_66; decide).elim
          refine j_aload C dX2_inForce_69 rfl ?_
          refine j_ifnull C dX2_inForce_71 ?_
          refine j_aload C dX2_inForce_74 rfl ?_
          refine j_gI (f := 514) C fF_X2_73 rfl ox dX2_inForce_76 ?_
          refine j_aload C dX2_inForce_79 rfl ?_
          refine j_gI (f := 514) C fF_X2_73 rfl (okb b rfl) dX2_inForce_81 ?_
          refine j_icmp_le (tgt := 91) C dX2_inForce_84 (by decide) (fun c_84 => ?_) (fun c_84 => ?_)
          · refine j_aload C dX2_inForce_91 rfl ?_
            refine j_gR (f := 512) C fF_X2_76 rfl ox dX2_inForce_93 ?_
            refine j_astoreQ (lv' := [(0, .ref a), (1, .int (nI kd)), (2, .int yr), (3, .int q), (4, .ref b), (5, va_rf (h_R h 512 x)), (6, .int 1)]) C dX2_inForce_96 (by decide) rfl ?_
            refine j_goto (tgt := 34) C dX2_inForce_98 (by decide) ?_
            refine j_sub [0, 1, 2, 3, 4, 5] rfl ?_
            exact ih _ (some b) hc okb (he.trans (congrArg (fun z => ifv h kd (ifb h yr q ts z)) (if_neg (fun z => z.2.elim (fun u => by cases u) (fun u => u c_84)))))
          · refine j_aload C dX2_inForce_87 rfl ?_
            refine j_astore (lv' := [(0, .ref a), (1, .int (nI kd)), (2, .int yr), (3, .int q), (4, .ref x), (5, .ref x), (6, .int 1)]) C dX2_inForce_89 (by decide) rfl ?_
            refine j_aload C dX2_inForce_91 rfl ?_
            refine j_gR (f := 512) C fF_X2_76 rfl ox dX2_inForce_93 ?_
            refine j_astoreQ (lv' := [(0, .ref a), (1, .int (nI kd)), (2, .int yr), (3, .int q), (4, .ref x), (5, va_rf (h_R h 512 x)), (6, .int 1)]) C dX2_inForce_96 (by decide) rfl ?_
            refine j_goto (tgt := 34) C dX2_inForce_98 (by decide) ?_
            refine j_sub [0, 1, 2, 3, 4, 5] rfl ?_
            exact ih _ (some x) hc (fun z hz => by cases hz; exact ox) (he.trans (congrArg (fun z => ifv h kd (ifb h yr q ts z)) (if_pos ⟨⟨c_45, c_54⟩, Or.inr c_84⟩)))
set_option maxHeartbeats 4000000 in
set_option maxRecDepth 100000 in
theorem k_inForce {l : Launch} {D : va_G} {cy : Nat → ClassId} {h : jH} {a sa kd : Nat} (oa : h_ok h a 2) (hsa : h_R h 136 a = some sa) (os : h_ok h sa 16) (hn : h_N h sa = 5) (hkd : kd < 5) {ss : List Nat} (hc : chn h 8 512 (h_B h sa kd) ss) (yr q : Int32) : cI l D cy yX2_inForce (.code yX2_inForce cX2_inForce 7 ((Option.some FieldType.int))) 0 [.ref a, .int (nI kd), .int yr, .int q] h (fun v => v = ifv h kd (ifb h yr q ss none)) := by
  refine j_ofI (by decide) (Nat.le_of_ble_eq_true rfl) (fun p e s m args below meth c Q C hin ret => ?_)
  refine j_iload_n C dX2_inForce_0 rfl ?_
  refine j_if_lt (tgt := 21) C dX2_inForce_1 (by decide) (fun c_1 => ?_) (fun c_1 => ?_)
  · refine j_iconst (v := (-1)) C dX2_inForce_21 (by decide) ?_
    exact (show False from by first | exact absurd c_1 (nI_pos (by omega)) | exact absurd (nI_ge_of (n := 5) c_10 (by decide) (by omega)) (by omega) | exact c_18 (nI_lt (b := 5) hkd (by decide))).elim
  · refine j_iload_n C dX2_inForce_4 rfl ?_
    refine j_aload_n C dX2_inForce_5 rfl ?_
    refine j_gRe (f := 136) (v := .ref sa) C fF_X2_51 rfl oa (by rw [hsa]; rfl) dX2_inForce_6 ?_
    refine j_alen (k := 16) (v := 5) C os ⟨by decide, rfl⟩ (by rw [hn]; rfl) dX2_inForce_9 ?_
    refine j_icmp_ge (tgt := 21) C dX2_inForce_10 (by decide) (fun c_10 => ?_) (fun c_10 => ?_)
    · refine j_iconst (v := (-1)) C dX2_inForce_21 (by decide) ?_
      exact (show False from by first | exact absurd c_1 (nI_pos (by omega)) | exact absurd (nI_ge_of (n := 5) c_10 (by decide) (by omega)) (by omega) | exact c_18 (nI_lt (b := 5) hkd (by decide))).elim
    · refine j_iload_n C dX2_inForce_13 rfl ?_
      refine j_gsN2 C C.2.2.2.2.2.2.2.2.2.2.2.2 dX2_inForce_14 (fun t_14 hT_14 => ?_)
      refine j_tlen (v := 5) C hT_14 rfl dX2_inForce_17 ?_
      refine j_icmp_lt (tgt := 23) C dX2_inForce_18 (by decide) (fun c_18 => ?_) (fun c_18 => ?_)
      · refine j_null C dX2_inForce_23 ?_
        refine j_astoreN (lv' := [(0, .ref a), (1, .int (nI kd)), (2, .int yr), (3, .int q), (4, .null)]) C dX2_inForce_24 (by decide) rfl ?_
        refine j_aload_n C dX2_inForce_26 rfl ?_
        refine j_gRe (f := 136) (v := .ref sa) C fF_X2_51 rfl oa (by rw [hsa]; rfl) dX2_inForce_27 ?_
        refine j_iload_n C dX2_inForce_30 rfl ?_
        refine j_aaldN (k := 16) C os (by decide) rfl ⟨hn, hkd, by decide⟩ rfl dX2_inForce_31 ?_
        refine j_astoreQ (lv' := [(0, .ref a), (1, .int (nI kd)), (2, .int yr), (3, .int q), (4, .null), (5, va_rf (h_B h sa kd))]) C dX2_inForce_32 (by decide) rfl ?_
        exact L_inForceC C oa hkd (fun v lv pc hv hd => ret v h 0 0 lv pc ⟨hv, rfl⟩ (Nat.zero_le _) (Nat.zero_le _) hd) ss _ none hc (fun z hz => by cases hz) rfl
      · refine j_iconst (v := (-1)) C dX2_inForce_21 (by decide) ?_
        exact (show False from by first | exact absurd c_1 (nI_pos (by omega)) | exact absurd (nI_ge_of (n := 5) c_10 (by decide) (by omega)) (by omega) | exact c_18 (nI_lt (b := 5) hkd (by decide))).elim
def stB (h : jH) (g : Nat) (TS : Nat → List Nat) (Y : Nat) (cr q : Int32) (k : Nat) : Bool := decide (crp h (h_B h g (Y - k)) (TS (Y - k)) q = cr)
theorem far_lt {Y ys k : Nat} (hY : Y ≤ 41) (hys : ys ≤ 1000) (hk : k ≤ Y) : nI (Y - k) < (if (0 : Int32) < nI Y - nI ys then nI Y - nI ys else 0) ↔ ys < k := by
  have e1 := pk_sub_toInt (a := Y) (b := ys) (by omega) (by omega)
  have e2 := nI_toInt (n := Y - k) (by omega)
  have e0 : (0 : Int32).toInt = 0 := by decide
  by_cases c : (0 : Int32) < nI Y - nI ys
  · rw [if_pos c, Int32.lt_iff_toInt_lt, e1, e2]
    rw [Int32.lt_iff_toInt_lt, e0, e1] at c
    omega
  · rw [if_neg c, Int32.lt_iff_toInt_lt, e0, e2]
    rw [Int32.lt_iff_toInt_lt, e0, e1] at c
    omega
theorem neg_far (Y ys : Nat) (hY : Y ≤ 41) (hys : ys ≤ 1000) : nI 0 + (-1) < (if (0 : Int32) < nI Y - nI ys then nI Y - nI ys else 0) := by
  have e0 : (0 : Int32).toInt = 0 := by decide
  have e1 : (nI 0 + (-1) : Int32).toInt = -1 := by decide
  by_cases c : (0 : Int32) < nI Y - nI ys
  · rw [if_pos c, Int32.lt_iff_toInt_lt, e1]
    rw [Int32.lt_iff_toInt_lt, e0] at c
    omega
  · rw [if_neg c, Int32.lt_iff_toInt_lt, e0, e1]
    omega
set_option maxHeartbeats 4000000 in
set_option maxRecDepth 100000 in
theorem L_stood {p : Program} {l : Launch} {e : Env} {s : State} {m : MethodId} {args : Array Value} {below : List Frame} {meth : Method} {c : Code} {D : va_G} {cy : Nat → ClassId} {A : Nat → Prop} {Q : State → Prop} {h : jH} (C : jC p s m args meth c D cy A 7 RX3 cX3_stoodAheadOf) {a g : Nat} (oa : h_ok h a 3) (hg : h_R h 197 a = some g) (og : h_ok h g 15) (hn : h_N h g = 41) {t : Nat} (ht : h_R h 198 a = some t) (ot : h_ok h t 17) (hnt : h_N h t = 41) (ol : ∀ yr, yr < 41 → ∀ x, h_B h g yr = some x → h_ok h x 6) {TS : Nat → List Nat} (hc : ∀ yr, yr < 41 → chn h 9 576 (h_B h t yr) (TS yr)) {Y ys : Nat} (hY : Y ≤ 41) (hys : ys ≤ 1000) {cr q : Int32} (ret : ∀ (v : Int32) (lv : List (Nat × Value)) (pc : Nat), v = bI (prv (stB h g TS Y cr q) (nI ys) 1 Y = true) → (v = 0 ∨ v = 1) → decode cX3_stoodAheadOf pc = .ok (.ireturn, 1) → jW p l e (rmd 2 0 0) s m args below meth c D cy A 7 0 0 Q h lv pc [.int v]) : ∀ (n k i : Nat), k < n → i + k = Y + 1 → 1 ≤ i → i ≤ Y → prv (stB h g TS Y cr q) (nI ys) 1 Y = prv (stB h g TS Y cr q) (nI ys) i k → jW p l e (rmd 2 0 0) s m args below meth c D cy A 7 0 0 Q h [(0, .ref a), (1, .int (nI Y)), (2, .int (nI ys)), (3, .int cr), (4, .int q), (5, .int (if 0 < ((nI Y) - (nI ys)) then ((nI Y) - (nI ys)) else 0)), (6, .int (nI (Y - i)))] 14 [] := by
  intro n
  induction n with
  | zero => intro k i h1; exact absurd h1 (Nat.not_lt_zero _)
  | succ n ih =>
    intro k i h1 h2 h3 h4 he
    refine j_iload C dX3_stoodAheadOf_14 rfl ?_
    refine j_iload C dX3_stoodAheadOf_16 rfl ?_
    refine j_icmp_lt (tgt := 41) C dX3_stoodAheadOf_18 (by decide) (fun c_18 => ?_) (fun c_18 => ?_)
    · refine j_iconst (v := 0) C dX3_stoodAheadOf_41 (by decide) ?_
      exact ret _ _ _ (bI_f (fun z => by rw [he, prv_x (nI_lt ((far_lt hY hys (by omega)).mp c_18) (by omega))] at z; cases z)).symm (by decide) dX3_stoodAheadOf_42
    · have hnl2 : ¬ nI ys < nI i := fun z => c_18 ((far_lt hY hys (by omega)).mpr ((nI_ltI (by omega) (by omega)).mp z))
      obtain ⟨k, rfl⟩ : ∃ u, k = u + 1 := ⟨k - 1, by omega⟩
      refine j_aload_n C dX3_stoodAheadOf_21 rfl ?_
      refine j_iload C dX3_stoodAheadOf_22 rfl ?_
      refine j_iload C dX3_stoodAheadOf_24 rfl ?_
      refine j_callVi (As := [.int (nI (Y - i)), .int q]) (rest := []) C fG_X3_69 (k_cropIn oa hg og hn ht ot hnt (yr := Y - i) (by omega) (ol _ (by omega)) (hc _ (by omega)) q) oa rfl rfl (Nat.le_of_ble_eq_true rfl) ⟨Nat.le_of_ble_eq_true rfl, Nat.le_of_ble_eq_true rfl⟩ ⟨Nat.le_of_ble_eq_true rfl, Nat.le_of_ble_eq_true rfl⟩ dX3_stoodAheadOf_26 (fun r_26 h_26 e_26 => ?_)
      obtain ⟨e1_26, e2_26⟩ := e_26
      subst e1_26
      replace e2_26 := e2_26.symm
      subst e2_26
      refine j_iload_n C dX3_stoodAheadOf_29 rfl ?_
      refine j_icmp_ne (tgt := 35) C dX3_stoodAheadOf_30 (by decide) (fun c_30 => ?_) (fun c_30 => ?_)
      · refine j_iinc (lv' := [(0, .ref a), (1, .int (nI Y)), (2, .int (nI ys)), (3, .int cr), (4, .int q), (5, .int (if 0 < ((nI Y) - (nI ys)) then ((nI Y) - (nI ys)) else 0)), (6, .int ((nI (Y - i)) + (-1)))]) C dX3_stoodAheadOf_35 rfl rfl (by decide) rfl ?_
        refine j_goto (tgt := 14) C dX3_stoodAheadOf_38 (by decide) ?_
        by_cases hi : i + 1 ≤ Y
        · have e6 : nI (Y - i) + (-1) = nI (Y - (i + 1)) := by rw [show Y - i = (Y - (i + 1)) + 1 by omega]; exact pk_m1 _
          rw [e6]
          exact ih k (i + 1) (by omega) (by omega) (by omega) hi (he.trans (by rw [prv_s, if_neg hnl2, if_neg (by simp [stB, c_30])]))
        · have hk0 : k = 0 := by omega
          subst hk0
          have hiY : i = Y := by omega
          subst hiY
          rw [show i - i = 0 by omega]
          refine j_iload C dX3_stoodAheadOf_14 rfl ?_
          refine j_iload C dX3_stoodAheadOf_16 rfl ?_
          refine j_icmp_lt (tgt := 41) C dX3_stoodAheadOf_18 (by decide) (fun c_18b => ?_) (fun c_18b => ?_)
          · refine j_iconst (v := 0) C dX3_stoodAheadOf_41 (by decide) ?_
            exact ret _ _ _ (bI_f (fun z => by rw [he, prv_s, if_neg hnl2, if_neg (show ¬ stB h g TS i cr q i = true from fun w => c_30 (of_decide_eq_true w))] at z; cases z)).symm (by decide) dX3_stoodAheadOf_42
          · exact absurd (neg_far i ys hY hys) c_18b
      · refine j_iconst (v := 1) C dX3_stoodAheadOf_33 (by decide) ?_
        exact ret _ _ _ (bI_t (by rw [he, prv_s, if_neg hnl2, if_pos (by simp [stB, c_30])])).symm (by decide) dX3_stoodAheadOf_34
set_option maxHeartbeats 4000000 in
set_option maxRecDepth 100000 in
theorem k_stood {l : Launch} {D : va_G} {cy : Nat → ClassId} {h : jH} {a g : Nat} (oa : h_ok h a 3) (hg : h_R h 197 a = some g) (og : h_ok h g 15) (hn : h_N h g = 41) {t : Nat} (ht : h_R h 198 a = some t) (ot : h_ok h t 17) (hnt : h_N h t = 41) (ol : ∀ yr, yr < 41 → ∀ x, h_B h g yr = some x → h_ok h x 6) {TS : Nat → List Nat} (hc : ∀ yr, yr < 41 → chn h 9 576 (h_B h t yr) (TS yr)) {Y ys : Nat} (hY : Y ≤ 41) (hys : ys ≤ 1000) (cr q : Int32) : cI l D cy yX3_stoodAheadOf (.code yX3_stoodAheadOf cX3_stoodAheadOf 7 ((Option.some FieldType.boolean))) 2 [.ref a, .int (nI Y), .int (nI ys), .int cr, .int q] h (fun v => v = bI (prv (stB h g TS Y cr q) (nI ys) 1 Y = true)) := by
  refine j_ofZ (by decide) (Nat.le_of_ble_eq_true rfl) (fun p e s m args below meth c Q C hin ret => ?_)
  refine j_iconst (v := 0) C dX3_stoodAheadOf_0 (by decide) ?_
  refine j_iload_n C dX3_stoodAheadOf_1 rfl ?_
  refine j_iload_n C dX3_stoodAheadOf_2 rfl ?_
  refine j_isub C dX3_stoodAheadOf_3 ?_
  refine j_max C kM_X3_36 dX3_stoodAheadOf_4 (Nat.le_of_ble_eq_true rfl) (Nat.le_of_ble_eq_true rfl) (Nat.le_of_ble_eq_true rfl) (Nat.le_of_ble_eq_true rfl) ?_
  refine j_istore (lv' := [(0, .ref a), (1, .int (nI Y)), (2, .int (nI ys)), (3, .int cr), (4, .int q), (5, .int (if 0 < ((nI Y) - (nI ys)) then ((nI Y) - (nI ys)) else 0))]) C dX3_stoodAheadOf_7 (by decide) rfl ?_
  refine j_iload_n C dX3_stoodAheadOf_9 rfl ?_
  refine j_iconst (v := 1) C dX3_stoodAheadOf_10 (by decide) ?_
  refine j_isub C dX3_stoodAheadOf_11 ?_
  refine j_istore (lv' := [(0, .ref a), (1, .int (nI Y)), (2, .int (nI ys)), (3, .int cr), (4, .int q), (5, .int (if 0 < ((nI Y) - (nI ys)) then ((nI Y) - (nI ys)) else 0)), (6, .int ((nI Y) - 1))]) C dX3_stoodAheadOf_12 (by decide) rfl ?_
  by_cases hY0 : 1 ≤ Y
  · rw [show nI Y - 1 = nI (Y - 1) by rw [show Y = (Y - 1) + 1 by omega]; exact nI_pred _]
    exact L_stood C oa hg og hn ht ot hnt ol hc hY hys (fun v lv pc hv hz hd => ret v h 0 0 lv pc ⟨hv, rfl⟩ hz (Nat.zero_le _) (Nat.zero_le _) hd) (Y + 1) Y 1 (by omega) (by omega) (by omega) hY0 rfl
  · have e0 : Y = 0 := by omega
    subst e0
    refine j_iload C dX3_stoodAheadOf_14 rfl ?_
    refine j_iload C dX3_stoodAheadOf_16 rfl ?_
    refine j_icmp_lt (tgt := 41) C dX3_stoodAheadOf_18 (by decide) (fun c_18b => ?_) (fun c_18b => ?_)
    · refine j_iconst (v := 0) C dX3_stoodAheadOf_41 (by decide) ?_
      exact ret _ _ 0 0 _ _ ⟨rfl, rfl⟩ (by decide) (Nat.zero_le _) (Nat.zero_le _) dX3_stoodAheadOf_42
    · exact absurd (neg_far 0 ys hY hys) c_18b
