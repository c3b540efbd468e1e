theorem ffst_ix {p : Nat → Bool} : ∀ (k i : Nat), ¬ ffst p i k = -1 → ∃ j, i ≤ j ∧ j < i + k ∧ p j = true ∧ ffst p i k = nI j
  | 0, i, h => absurd rfl h
  | k + 1, i, h => by
    by_cases e : p i = true
    · exact ⟨i, Nat.le_refl _, by omega, e, ffst_t e⟩
    · have e2 : p i = false := by simpa using e
      rw [ffst_f e2] at h ⊢
      obtain ⟨j, h1, h2, h3, h4⟩ := ffst_ix k (i + 1) h
      exact ⟨j, by omega, by omega, h3, h4⟩
theorem lotInS_ix {S : Nat → Nat → Int32} {f y : Int32} {nl : Nat} (h : ¬ lotInS S f y nl = -1) : ∃ j, j < nl ∧ lotInB S f y j = true ∧ lotInS S f y nl = nI j := by
  obtain ⟨j, h1, h2, h3, h4⟩ := ffst_ix nl 0 h
  exact ⟨j, by omega, h3, h4⟩
def ix (x : Int32) : Nat := x.toNatClampNeg
theorem ix_nI {j : Nat} (h : j < 2 ^ 31) : ix (nI j) = j := nI_clamp h
/-- 0 ≤ x ≤ n - 1 -/
theorem in_ix {x : Int32} {n : Nat} (hn : n < 2 ^ 31) (h : 0 ≤ x ∧ x ≤ nI n - 1) : ∃ j, j < n ∧ x = nI j := by
  obtain ⟨j, h1, rfl⟩ := nI_of (Int32.not_lt.mpr h.1)
  refine ⟨j, ?_, rfl⟩
  cases n with
  | zero =>
    have h2 := h.2
    rw [Int32.le_iff_toInt_le, nI_toInt h1] at h2
    have : (nI 0 - 1 : Int32).toInt = -1 := by decide
    omega
  | succ n =>
    have h2 := h.2
    rw [nI_pred, nI_leI h1 (by omega)] at h2
    omega
def gStand (S : Nat → Nat → Int32) (f y q : Int32) (k : Nat) (c : Int32) : Int32 := if S 13 k = f ∧ S 14 k = y ∧ ¬ q < S 16 k then S 15 k else c
def standS (S : Nat → Nat → Int32) (f y q : Int32) (nl ns : Nat) : Int32 := if ¬ q < y ∧ ¬ lotInS S f y nl = -1 then S 22 (ix (lotInS S f y nl)) else flp (gStand S f y q) 0 ns 0
set_option maxHeartbeats 4000000 in
set_option maxRecDepth 100000 in
theorem L_standing {p : Program} {l : Launch} {e : Env} {R : Room} {s : State} {m : MethodId} {args : Array Value} {below : List Frame} {meth : Method} {c : Code} {D : va_G} {cy : Nat → ClassId} {A : Nat → Prop} {Q : State → Prop} {m0 : Nat} {ad : Nat → Nat} {h0 : jH} {S : Nat → Nat → Int32} (C : jC p s m args meth c D cy A 7 RX11 cX11_standing) {f y q r4 : Int32} {nl ns : Nat} (hs : S 5 0 = nI ns) (hns : ns ≤ 300) (ret : ∀ (r : Int32) (S' : Nat → Nat → Int32) (lv : List (Nat × Value)) (pc : Nat), r = standS S f y q nl ns ∧ S' = S → decode cX11_standing pc = .ok (.ireturn, 1) → jM p l e R s m args below meth c D cy A 7 Q m0 ad h0 S' lv pc [.int r]) : ∀ (n k i : Nat) (a : Int32), k < n → i + k = ns → standS S f y q nl ns = flp (gStand S f y q) i k a → jM p l e R s m args below meth c D cy A 7 Q m0 ad h0 S [(0, .ref m0), (1, .int f), (2, .int y), (3, .int q), (4, .int r4), (5, .int a), (6, .int (nI i))] 37 [] := by
  intro n
  induction n with
  | zero => intro k i a h1; exact absurd h1 (Nat.not_lt_zero _)
  | succ n ih =>
    intro k i a h1 h2 he
    refine jm_iload C dX11_standing_37 rfl ?_
    refine jm_aload_n C dX11_standing_39 rfl ?_
    refine jm_getS C fF_X11_163 (by decide) dX11_standing_40 ?_
    refine jm_icmp_ge (tgt := 94) C dX11_standing_43 (by decide) (fun c_43 => ?_) (fun c_43 => ?_)
    · rw [hs] at c_43
      have hge : ns ≤ i := nI_ge_of c_43 (by omega) (by omega)
      obtain rfl : k = 0 := by omega
      refine jm_iload C dX11_standing_94 rfl ?_
      exact ret _ _ _ _ ⟨by rw [he]; rfl, rfl⟩ dX11_standing_96
    · rw [hs] at c_43
      have hlt : i < ns := nI_lt_of c_43 (by omega)
      obtain ⟨k, rfl⟩ : ∃ q, k = q + 1 := ⟨k - 1, by omega⟩
      refine jm_aload_n C dX11_standing_46 rfl ?_
      refine jm_getA C fF_X11_22 (by decide) (by decide) dX11_standing_47 ?_
      refine jm_iload C dX11_standing_50 rfl ?_
      refine jm_aldN C 13 (n := 300) (by decide) (by decide) rfl (by omega) dX11_standing_52 ?_
      refine jm_iload_n C dX11_standing_53 rfl ?_
      refine jm_icmp_ne (tgt := 88) C dX11_standing_54 (by decide) (fun c_54 => ?_) (fun c_54 => ?_)
      · refine jm_iinc (lv' := [(0, .ref m0), (1, .int f), (2, .int y), (3, .int q), (4, .int r4), (5, .int a), (6, .int (nI (i + 1)))]) C dX11_standing_88 rfl (nI_1 _) (by decide) rfl ?_
        refine jm_goto (tgt := 37) C dX11_standing_91 (by decide) ?_
        exact ih k (i + 1) _ (by omega) (by omega) (he.trans (flp_s (by simp [gStand, c_54])))
      · refine jm_aload_n C dX11_standing_57 rfl ?_
        refine jm_getA C fF_X11_25 (by decide) (by decide) dX11_standing_58 ?_
        refine jm_iload C dX11_standing_61 rfl ?_
        refine jm_aldN C 14 (n := 300) (by decide) (by decide) rfl (by omega) dX11_standing_63 ?_
        refine jm_iload_n C dX11_standing_64 rfl ?_
        refine jm_icmp_ne (tgt := 88) C dX11_standing_65 (by decide) (fun c_65 => ?_) (fun c_65 => ?_)
        · refine jm_iinc (lv' := [(0, .ref m0), (1, .int f), (2, .int y), (3, .int q), (4, .int r4), (5, .int a), (6, .int (nI (i + 1)))]) C dX11_standing_88 rfl (nI_1 _) (by decide) rfl ?_
          refine jm_goto (tgt := 37) C dX11_standing_91 (by decide) ?_
          exact ih k (i + 1) _ (by omega) (by omega) (he.trans (flp_s (by simp [gStand, c_54, c_65])))
        · refine jm_aload_n C dX11_standing_68 rfl ?_
          refine jm_getA C fF_X11_31 (by decide) (by decide) dX11_standing_69 ?_
          refine jm_iload C dX11_standing_72 rfl ?_
          refine jm_aldN C 16 (n := 300) (by decide) (by decide) rfl (by omega) dX11_standing_74 ?_
          refine jm_iload_n C dX11_standing_75 rfl ?_
          refine jm_icmp_gt (tgt := 88) C dX11_standing_76 (by decide) (fun c_76 => ?_) (fun c_76 => ?_)
          · refine jm_iinc (lv' := [(0, .ref m0), (1, .int f), (2, .int y), (3, .int q), (4, .int r4), (5, .int a), (6, .int (nI (i + 1)))]) C dX11_standing_88 rfl (nI_1 _) (by decide) rfl ?_
            refine jm_goto (tgt := 37) C dX11_standing_91 (by decide) ?_
            exact ih k (i + 1) _ (by omega) (by omega) (he.trans (flp_s (by simp [gStand, c_54, c_65, c_76])))
          · refine jm_aload_n C dX11_standing_79 rfl ?_
            refine jm_getA C fF_X11_28 (by decide) (by decide) dX11_standing_80 ?_
            refine jm_iload C dX11_standing_83 rfl ?_
            refine jm_aldN C 15 (n := 300) (by decide) (by decide) rfl (by omega) dX11_standing_85 ?_
            refine jm_istore (lv' := [(0, .ref m0), (1, .int f), (2, .int y), (3, .int q), (4, .int r4), (5, .int (S 15 i)), (6, .int (nI i))]) C dX11_standing_86 (by decide) rfl ?_
            refine jm_iinc (lv' := [(0, .ref m0), (1, .int f), (2, .int y), (3, .int q), (4, .int r4), (5, .int (S 15 i)), (6, .int (nI (i + 1)))]) C dX11_standing_88 rfl (nI_1 _) (by decide) rfl ?_
            refine jm_goto (tgt := 37) C dX11_standing_91 (by decide) ?_
            exact ih k (i + 1) _ (by omega) (by omega) (he.trans (flp_s (by simp [gStand, c_54, c_65, c_76])))
set_option maxHeartbeats 4000000 in
set_option maxRecDepth 100000 in
theorem c_standing {l : Launch} {D : va_G} {cy : Nat → ClassId} {m0 : Nat} {ad : Nat → Nat} {S : Nat → Nat → Int32} (f y q : Int32) {nl ns : Nat} (hl : S 2 0 = nI nl) (hnl : nl ≤ 200) (hs : S 5 0 = nI ns) (hns : ns ≤ 300) : mI l D cy yX11_standing (.code yX11_standing cX11_standing 7 ((Option.some FieldType.int))) 2 m0 ad [.int f, .int y, .int q] S (fun r S' => r = standS S f y q nl ns ∧ S' = S) := by
  refine m_ofI rfl (Nat.le_of_ble_eq_true rfl) (fun p e s m args below meth c A Q h0 C ret => ?_)
  refine jm_iload_n C dX11_standing_0 rfl ?_
  refine jm_iload_n C dX11_standing_1 rfl ?_
  refine jm_icmp_gt (tgt := 14) C dX11_standing_2 (by decide) (fun c_2 => ?_) (fun c_2 => ?_)
  · refine jm_iconst (v := (-1)) C dX11_standing_14 (by decide) ?_
    refine jm_istore (lv' := [(0, .ref m0), (1, .int f), (2, .int y), (3, .int q), (4, .int (-1))]) C dX11_standing_15 (by decide) rfl ?_
    refine jm_iload C dX11_standing_17 rfl ?_
    refine jm_iconst (v := (-1)) C dX11_standing_19 (by decide) ?_
    refine jm_icmp_eq (tgt := 31) C dX11_standing_20 (by decide) (fun c_20 => ?_) (fun c_20 => ?_)
    · refine jm_iconst (v := 0) C dX11_standing_31 (by decide) ?_
      refine jm_istore (lv' := [(0, .ref m0), (1, .int f), (2, .int y), (3, .int q), (4, .int (-1)), (5, .int 0)]) C dX11_standing_32 (by decide) rfl ?_
      refine jm_iconst (v := 0) C dX11_standing_34 (by decide) ?_
      refine jm_istore (lv' := [(0, .ref m0), (1, .int f), (2, .int y), (3, .int q), (4, .int (-1)), (5, .int 0), (6, .int 0)]) C dX11_standing_35 (by decide) rfl ?_
      exact L_standing C hs hns ret (ns + 1) ns 0 0 (by omega) (by omega) (if_neg (fun z => z.1 c_2))
    · exact absurd rfl c_20
  · refine jm_aload_n C dX11_standing_5 rfl ?_
    refine jm_iload_n C dX11_standing_6 rfl ?_
    refine jm_iload_n C dX11_standing_7 rfl ?_
    refine jm_calli (As := [.int f, .int y]) (rest := []) C fG_X11_166 (c_lotIn (f) (y) hl hnl) rfl rfl (Nat.le_of_ble_eq_true rfl) ⟨Nat.le_of_ble_eq_true rfl, Nat.le_of_ble_eq_true rfl⟩ dX11_standing_8 (fun r_8 S_8 e_8 => ?_)
    obtain ⟨e1_8, e2_8⟩ := e_8
    replace e2_8 := e2_8.symm
    subst e2_8
    refine jm_goto (tgt := 15) C dX11_standing_11 (by decide) ?_
    refine jm_istore (lv' := [(0, .ref m0), (1, .int f), (2, .int y), (3, .int q), (4, .int r_8)]) C dX11_standing_15 (by decide) rfl ?_
    refine jm_iload C dX11_standing_17 rfl ?_
    refine jm_iconst (v := (-1)) C dX11_standing_19 (by decide) ?_
    refine jm_icmp_eq (tgt := 31) C dX11_standing_20 (by decide) (fun c_20 => ?_) (fun c_20 => ?_)
    · refine jm_iconst (v := 0) C dX11_standing_31 (by decide) ?_
      refine jm_istore (lv' := [(0, .ref m0), (1, .int f), (2, .int y), (3, .int q), (4, .int r_8), (5, .int 0)]) C dX11_standing_32 (by decide) rfl ?_
      refine jm_iconst (v := 0) C dX11_standing_34 (by decide) ?_
      refine jm_istore (lv' := [(0, .ref m0), (1, .int f), (2, .int y), (3, .int q), (4, .int r_8), (5, .int 0), (6, .int 0)]) C dX11_standing_35 (by decide) rfl ?_
      exact L_standing C hs hns ret (ns + 1) ns 0 0 (by omega) (by omega) (if_neg (fun z => z.2 (e1_8.symm.trans c_20)))
    · obtain ⟨j_8, hj_8, hb_8, ej_8⟩ := lotInS_ix (fun z => c_20 (e1_8.trans z))
      obtain rfl : r_8 = nI j_8 := e1_8.trans ej_8
      refine jm_aload_n C dX11_standing_23 rfl ?_
      refine jm_getA C fF_X11_49 (by decide) (by decide) dX11_standing_24 ?_
      refine jm_iload C dX11_standing_27 rfl ?_
      refine jm_aldN C 22 (n := 200) (by decide) (by decide) rfl (by omega) dX11_standing_29 ?_
      exact ret _ _ _ _ ⟨by rw [standS, if_pos ⟨c_2, fun z => c_20 (e1_8.trans z)⟩, ← e1_8, ix_nI (by omega)], rfl⟩ dX11_standing_30
def dflt (kind : Int32) : Int32 := if kind = 0 then 50 else if kind = 1 then 2 else if kind = 2 then 1 else if kind = 3 then 10 else 6
def gForce (S : Nat → Nat → Int32) (kind y q : Int32) (k : Nat) (v : Int32 × Int32) : Int32 × Int32 := if S 17 k = kind ∧ ¬ q < S 20 k ∧ ¬ y < S 18 k ∧ ¬ S 18 k < v.2 then (S 19 k, S 18 k) else v
def inForceS (S : Nat → Nat → Int32) (kind y q : Int32) (nt : Nat) : Int32 := (flp (gForce S kind y q) 0 nt (dflt kind, -1)).1
set_option maxHeartbeats 4000000 in
set_option maxRecDepth 100000 in
theorem L_inForce {p : Program} {l : Launch} {e : Env} {R : Room} {s : State} {m : MethodId} {args : Array Value} {below : List Frame} {meth : Method} {c : Code} {D : va_G} {cy : Nat → ClassId} {A : Nat → Prop} {Q : State → Prop} {m0 : Nat} {ad : Nat → Nat} {h0 : jH} {S : Nat → Nat → Int32} (C : jC p s m args meth c D cy A 7 RX11 cX11_inForce) {kind y q : Int32} {nt : Nat} (ht : S 6 0 = nI nt) (hnt : nt ≤ 100) (ret : ∀ (r : Int32) (S' : Nat → Nat → Int32) (lv : List (Nat × Value)) (pc : Nat), r = inForceS S kind y q nt ∧ S' = S → decode cX11_inForce pc = .ok (.ireturn, 1) → jM p l e R s m args below meth c D cy A 7 Q m0 ad h0 S' lv pc [.int r]) : ∀ (n k i : Nat) (a b : Int32), k < n → i + k = nt → inForceS S kind y q nt = (flp (gForce S kind y q) i k (a, b)).1 → jM p l e R s m args below meth c D cy A 7 Q m0 ad h0 S [(0, .ref m0), (1, .int kind), (2, .int y), (3, .int q), (4, .int a), (5, .int b), (6, .int (nI i))] 47 [] := by
  intro n
  induction n with
  | zero => intro k i a b h1; exact absurd h1 (Nat.not_lt_zero _)
  | succ n ih =>
    intro k i a b h1 h2 he
    refine jm_iload C dX11_inForce_47 rfl ?_
    refine jm_aload_n C dX11_inForce_49 rfl ?_
    refine jm_getS C fF_X11_177 (by decide) dX11_inForce_50 ?_
    refine jm_icmp_ge (tgt := 125) C dX11_inForce_53 (by decide) (fun c_53 => ?_) (fun c_53 => ?_)
    · rw [ht] at c_53
      have hge : nt ≤ i := nI_ge_of c_53 (by omega) (by omega)
      obtain rfl : k = 0 := by omega
      refine jm_iload C dX11_inForce_125 rfl ?_
      exact ret _ _ _ _ ⟨by rw [he]; rfl, rfl⟩ dX11_inForce_127
    · rw [ht] at c_53
      have hlt : i < nt := nI_lt_of c_53 (by omega)
      obtain ⟨k, rfl⟩ : ∃ q, k = q + 1 := ⟨k - 1, by omega⟩
      refine jm_aload_n C dX11_inForce_56 rfl ?_
      refine jm_getA C fF_X11_34 (by decide) (by decide) dX11_inForce_57 ?_
      refine jm_iload C dX11_inForce_60 rfl ?_
      refine jm_aldN C 17 (n := 100) (by decide) (by decide) rfl (by omega) dX11_inForce_62 ?_
      refine jm_iload_n C dX11_inForce_63 rfl ?_
      refine jm_icmp_ne (tgt := 119) C dX11_inForce_64 (by decide) (fun c_64 => ?_) (fun c_64 => ?_)
      · refine jm_iinc (lv' := [(0, .ref m0), (1, .int kind), (2, .int y), (3, .int q), (4, .int a), (5, .int b), (6, .int (nI (i + 1)))]) C dX11_inForce_119 rfl (nI_1 _) (by decide) rfl ?_
        refine jm_goto (tgt := 47) C dX11_inForce_122 (by decide) ?_
        exact ih k (i + 1) _ _ (by omega) (by omega) (he.trans (congrArg Prod.fst (flp_s (by simp [gForce, c_64]))))
      · refine jm_aload_n C dX11_inForce_67 rfl ?_
        refine jm_getA C fF_X11_43 (by decide) (by decide) dX11_inForce_68 ?_
        refine jm_iload C dX11_inForce_71 rfl ?_
        refine jm_aldN C 20 (n := 100) (by decide) (by decide) rfl (by omega) dX11_inForce_73 ?_
        refine jm_iload_n C dX11_inForce_74 rfl ?_
        refine jm_icmp_gt (tgt := 119) C dX11_inForce_75 (by decide) (fun c_75 => ?_) (fun c_75 => ?_)
        · refine jm_iinc (lv' := [(0, .ref m0), (1, .int kind), (2, .int y), (3, .int q), (4, .int a), (5, .int b), (6, .int (nI (i + 1)))]) C dX11_inForce_119 rfl (nI_1 _) (by decide) rfl ?_
          refine jm_goto (tgt := 47) C dX11_inForce_122 (by decide) ?_
          exact ih k (i + 1) _ _ (by omega) (by omega) (he.trans (congrArg Prod.fst (flp_s (by simp [gForce, c_64, c_75]))))
        · refine jm_aload_n C dX11_inForce_78 rfl ?_
          refine jm_getA C fF_X11_37 (by decide) (by decide) dX11_inForce_79 ?_
          refine jm_iload C dX11_inForce_82 rfl ?_
          refine jm_aldN C 18 (n := 100) (by decide) (by decide) rfl (by omega) dX11_inForce_84 ?_
          refine jm_iload_n C dX11_inForce_85 rfl ?_
          refine jm_icmp_gt (tgt := 119) C dX11_inForce_86 (by decide) (fun c_86 => ?_) (fun c_86 => ?_)
          · refine jm_iinc (lv' := [(0, .ref m0), (1, .int kind), (2, .int y), (3, .int q), (4, .int a), (5, .int b), (6, .int (nI (i + 1)))]) C dX11_inForce_119 rfl (nI_1 _) (by decide) rfl ?_
            refine jm_goto (tgt := 47) C dX11_inForce_122 (by decide) ?_
            exact ih k (i + 1) _ _ (by omega) (by omega) (he.trans (congrArg Prod.fst (flp_s (by simp [gForce, c_64, c_75, c_86]))))
          · refine jm_aload_n C dX11_inForce_89 rfl ?_
            refine jm_getA C fF_X11_37 (by decide) (by decide) dX11_inForce_90 ?_
            refine jm_iload C dX11_inForce_93 rfl ?_
            refine jm_aldN C 18 (n := 100) (by decide) (by decide) rfl (by omega) dX11_inForce_95 ?_
            refine jm_iload C dX11_inForce_96 rfl ?_
            refine jm_icmp_lt (tgt := 119) C dX11_inForce_98 (by decide) (fun c_98 => ?_) (fun c_98 => ?_)
            · refine jm_iinc (lv' := [(0, .ref m0), (1, .int kind), (2, .int y), (3, .int q), (4, .int a), (5, .int b), (6, .int (nI (i + 1)))]) C dX11_inForce_119 rfl (nI_1 _) (by decide) rfl ?_
              refine jm_goto (tgt := 47) C dX11_inForce_122 (by decide) ?_
              exact ih k (i + 1) _ _ (by omega) (by omega) (he.trans (congrArg Prod.fst (flp_s (by simp [gForce, c_64, c_75, c_86, c_98]))))
            · refine jm_aload_n C dX11_inForce_101 rfl ?_
              refine jm_getA C fF_X11_40 (by decide) (by decide) dX11_inForce_102 ?_
              refine jm_iload C dX11_inForce_105 rfl ?_
              refine jm_aldN C 19 (n := 100) (by decide) (by decide) rfl (by omega) dX11_inForce_107 ?_
              refine jm_istore (lv' := [(0, .ref m0), (1, .int kind), (2, .int y), (3, .int q), (4, .int (S 19 i)), (5, .int b), (6, .int (nI i))]) C dX11_inForce_108 (by decide) rfl ?_
              refine jm_aload_n C dX11_inForce_110 rfl ?_
              refine jm_getA C fF_X11_37 (by decide) (by decide) dX11_inForce_111 ?_
              refine jm_iload C dX11_inForce_114 rfl ?_
              refine jm_aldN C 18 (n := 100) (by decide) (by decide) rfl (by omega) dX11_inForce_116 ?_
              refine jm_istore (lv' := [(0, .ref m0), (1, .int kind), (2, .int y), (3, .int q), (4, .int (S 19 i)), (5, .int (S 18 i)), (6, .int (nI i))]) C dX11_inForce_117 (by decide) rfl ?_
              refine jm_iinc (lv' := [(0, .ref m0), (1, .int kind), (2, .int y), (3, .int q), (4, .int (S 19 i)), (5, .int (S 18 i)), (6, .int (nI (i + 1)))]) C dX11_inForce_119 rfl (nI_1 _) (by decide) rfl ?_
              refine jm_goto (tgt := 47) C dX11_inForce_122 (by decide) ?_
              exact ih k (i + 1) _ _ (by omega) (by omega) (he.trans (congrArg Prod.fst (flp_s (by simp [gForce, c_64, c_75, c_86, c_98]))))
set_option maxHeartbeats 4000000 in
set_option maxRecDepth 100000 in
theorem c_inForce {l : Launch} {D : va_G} {cy : Nat → ClassId} {m0 : Nat} {ad : Nat → Nat} {S : Nat → Nat → Int32} (kind y q : Int32) {nt : Nat} (ht : S 6 0 = nI nt) (hnt : nt ≤ 100) : mI l D cy yX11_inForce (.code yX11_inForce cX11_inForce 7 ((Option.some FieldType.int))) 1 m0 ad [.int kind, .int y, .int q] S (fun r S' => r = inForceS S kind y q nt ∧ S' = S) := by
  refine m_ofI rfl (Nat.le_of_ble_eq_true rfl) (fun p e s m args below meth c A Q h0 C ret => ?_)
  refine jm_iload_n C dX11_inForce_0 rfl ?_
  refine jm_if_ne (tgt := 9) C dX11_inForce_1 (by decide) (fun c_1 => ?_) (fun c_1 => ?_)
  · refine jm_iload_n C dX11_inForce_9 rfl ?_
    refine jm_iconst (v := 1) C dX11_inForce_10 (by decide) ?_
    refine jm_icmp_ne (tgt := 18) C dX11_inForce_11 (by decide) (fun c_11 => ?_) (fun c_11 => ?_)
    · refine jm_iload_n C dX11_inForce_18 rfl ?_
      refine jm_iconst (v := 2) C dX11_inForce_19 (by decide) ?_
      refine jm_icmp_ne (tgt := 27) C dX11_inForce_20 (by decide) (fun c_20 => ?_) (fun c_20 => ?_)
      · refine jm_iload_n C dX11_inForce_27 rfl ?_
        refine jm_iconst (v := 3) C dX11_inForce_28 (by decide) ?_
        refine jm_icmp_ne (tgt := 37) C dX11_inForce_29 (by decide) (fun c_29 => ?_) (fun c_29 => ?_)
        · refine jm_bipush (v := 6) C dX11_inForce_37 (by decide) ?_
          refine jm_istore (lv' := [(0, .ref m0), (1, .int kind), (2, .int y), (3, .int q), (4, .int 6)]) C dX11_inForce_39 (by decide) rfl ?_
          refine jm_iconst (v := (-1)) C dX11_inForce_41 (by decide) ?_
          refine jm_istore (lv' := [(0, .ref m0), (1, .int kind), (2, .int y), (3, .int q), (4, .int 6), (5, .int (-1))]) C dX11_inForce_42 (by decide) rfl ?_
          refine jm_iconst (v := 0) C dX11_inForce_44 (by decide) ?_
          refine jm_istore (lv' := [(0, .ref m0), (1, .int kind), (2, .int y), (3, .int q), (4, .int 6), (5, .int (-1)), (6, .int 0)]) C dX11_inForce_45 (by decide) rfl ?_
          exact L_inForce C ht hnt ret (nt + 1) nt 0 _ _ (by omega) (by omega) (by simp [inForceS, dflt, c_1, c_11, c_20, c_29])
        · refine jm_bipush (v := 10) C dX11_inForce_32 (by decide) ?_
          refine jm_goto (tgt := 39) C dX11_inForce_34 (by decide) ?_
          refine jm_istore (lv' := [(0, .ref m0), (1, .int kind), (2, .int y), (3, .int q), (4, .int 10)]) C dX11_inForce_39 (by decide) rfl ?_
          refine jm_iconst (v := (-1)) C dX11_inForce_41 (by decide) ?_
          refine jm_istore (lv' := [(0, .ref m0), (1, .int kind), (2, .int y), (3, .int q), (4, .int 10), (5, .int (-1))]) C dX11_inForce_42 (by decide) rfl ?_
          refine jm_iconst (v := 0) C dX11_inForce_44 (by decide) ?_
          refine jm_istore (lv' := [(0, .ref m0), (1, .int kind), (2, .int y), (3, .int q), (4, .int 10), (5, .int (-1)), (6, .int 0)]) C dX11_inForce_45 (by decide) rfl ?_
          exact L_inForce C ht hnt ret (nt + 1) nt 0 _ _ (by omega) (by omega) (by simp [inForceS, dflt, c_1, c_11, c_20, c_29])
      · refine jm_iconst (v := 1) C dX11_inForce_23 (by decide) ?_
        refine jm_goto (tgt := 39) C dX11_inForce_24 (by decide) ?_
        refine jm_istore (lv' := [(0, .ref m0), (1, .int kind), (2, .int y), (3, .int q), (4, .int 1)]) C dX11_inForce_39 (by decide) rfl ?_
        refine jm_iconst (v := (-1)) C dX11_inForce_41 (by decide) ?_
        refine jm_istore (lv' := [(0, .ref m0), (1, .int kind), (2, .int y), (3, .int q), (4, .int 1), (5, .int (-1))]) C dX11_inForce_42 (by decide) rfl ?_
        refine jm_iconst (v := 0) C dX11_inForce_44 (by decide) ?_
        refine jm_istore (lv' := [(0, .ref m0), (1, .int kind), (2, .int y), (3, .int q), (4, .int 1), (5, .int (-1)), (6, .int 0)]) C dX11_inForce_45 (by decide) rfl ?_
        exact L_inForce C ht hnt ret (nt + 1) nt 0 _ _ (by omega) (by omega) (by simp [inForceS, dflt, c_1, c_11, c_20])
    · refine jm_iconst (v := 2) C dX11_inForce_14 (by decide) ?_
      refine jm_goto (tgt := 39) C dX11_inForce_15 (by decide) ?_
      refine jm_istore (lv' := [(0, .ref m0), (1, .int kind), (2, .int y), (3, .int q), (4, .int 2)]) C dX11_inForce_39 (by decide) rfl ?_
      refine jm_iconst (v := (-1)) C dX11_inForce_41 (by decide) ?_
      refine jm_istore (lv' := [(0, .ref m0), (1, .int kind), (2, .int y), (3, .int q), (4, .int 2), (5, .int (-1))]) C dX11_inForce_42 (by decide) rfl ?_
      refine jm_iconst (v := 0) C dX11_inForce_44 (by decide) ?_
      refine jm_istore (lv' := [(0, .ref m0), (1, .int kind), (2, .int y), (3, .int q), (4, .int 2), (5, .int (-1)), (6, .int 0)]) C dX11_inForce_45 (by decide) rfl ?_
      exact L_inForce C ht hnt ret (nt + 1) nt 0 _ _ (by omega) (by omega) (by simp [inForceS, dflt, c_1, c_11])
  · refine jm_bipush (v := 50) C dX11_inForce_4 (by decide) ?_
    refine jm_goto (tgt := 39) C dX11_inForce_6 (by decide) ?_
    refine jm_istore (lv' := [(0, .ref m0), (1, .int kind), (2, .int y), (3, .int q), (4, .int 50)]) C dX11_inForce_39 (by decide) rfl ?_
    refine jm_iconst (v := (-1)) C dX11_inForce_41 (by decide) ?_
    refine jm_istore (lv' := [(0, .ref m0), (1, .int kind), (2, .int y), (3, .int q), (4, .int 50), (5, .int (-1))]) C dX11_inForce_42 (by decide) rfl ?_
    refine jm_iconst (v := 0) C dX11_inForce_44 (by decide) ?_
    refine jm_istore (lv' := [(0, .ref m0), (1, .int kind), (2, .int y), (3, .int q), (4, .int 50), (5, .int (-1)), (6, .int 0)]) C dX11_inForce_45 (by decide) rfl ?_
    exact L_inForce C ht hnt ret (nt + 1) nt 0 _ _ (by omega) (by omega) (by simp [inForceS, dflt, c_1])
def mS_year (S : Nat → Nat → Int32)  : Nat → Nat → Int32 := (u2 S 0 0 ((S 0 0) + 1))
def m_year (S : Nat → Nat → Int32)  : Int32 × (Nat → Nat → Int32) := if (¬ S 0 0 = 40) then ((((S 0 0) + 1)), mS_year S ) else ((-1), S)
set_option maxHeartbeats 4000000 in
set_option maxRecDepth 100000 in
theorem c_year {l : Launch} {D : va_G} {cy : Nat → ClassId} {m0 : Nat} {ad : Nat → Nat} {S : Nat → Nat → Int32} : mI l D cy yX11_year (.code yX11_year cX11_year 1 ((Option.some FieldType.int))) 1 m0 ad [] S (fun r S' => (r, S') = m_year S ) := by
  refine m_ofI rfl (Nat.le_of_ble_eq_true rfl) (fun p e s m args below meth c A Q h0 C ret => ?_)
  refine jm_aload_n C dX11_year_0 rfl ?_
  refine jm_getS C fF_X11_141 (by decide) dX11_year_1 ?_
  refine jm_bipush (v := 40) C dX11_year_4 (by decide) ?_
  refine jm_icmp_ne (tgt := 11) C dX11_year_6 (by decide) (fun c_6 => ?_) (fun c_6 => ?_)
  · refine jm_aload_n C dX11_year_11 rfl ?_
    refine jm_dup C dX11_year_12 rfl ?_
    refine jm_getS C fF_X11_141 (by decide) dX11_year_13 ?_
    refine jm_iconst (v := 1) C dX11_year_16 (by decide) ?_
    refine jm_iadd C dX11_year_17 ?_
    refine jm_putS C fP_X11_141 (by decide) dX11_year_18 ?_
    refine jm_aload_n C dX11_year_21 rfl ?_
    refine jm_getSe (v := ((S 0 0) + 1)) C fF_X11_141 (by decide) rfl dX11_year_22 ?_
    exact ret _ _ _ _ (if_pos c_6).symm dX11_year_25
  · refine jm_iconst (v := (-1)) C dX11_year_9 (by decide) ?_
    exact ret _ _ _ _ (if_neg (fun z => by first | exact c_6 z | exact z c_6)).symm dX11_year_10
def mS_field (S : Nat → Nat → Int32) (x y u v : Int32) (nf : Nat)  : Nat → Nat → Int32 := (u2 (u2 (u2 (u2 (u2 S 9 nf (if u < x then u else x)) 11 nf (if x < u then u else x)) 10 nf (if v < y then v else y)) 12 nf (if y < v then v else y)) 1 0 ((nI nf) + 1))
def m_field (S : Nat → Nat → Int32) (x y u v : Int32) (nf : Nat)  : Int32 × (Nat → Nat → Int32) := if (¬ nI nf = 40) ∧ (0 ≤ x ∧ x ≤ 1000) ∧ (0 ≤ y ∧ y ≤ 1000) ∧ (0 ≤ u ∧ u ≤ 1000) ∧ (0 ≤ v ∧ v ≤ 1000) ∧ (¬ x = u) ∧ (¬ y = v) then (((((nI nf) + 1)) - 1), mS_field S x y u v nf) else ((-1), S)
set_option maxHeartbeats 4000000 in
set_option maxRecDepth 100000 in
theorem c_field {l : Launch} {D : va_G} {cy : Nat → ClassId} {m0 : Nat} {ad : Nat → Nat} {S : Nat → Nat → Int32} (x y u v : Int32) {nf : Nat} (hf : S 1 0 = nI nf) (hnf : nf ≤ 40) : mI l D cy yX11_field (.code yX11_field cX11_field 5 ((Option.some FieldType.int))) 1 m0 ad [.int x, .int y, .int u, .int v] S (fun r S' => (r, S') = m_field S x y u v nf) := by
  refine m_ofI rfl (Nat.le_of_ble_eq_true rfl) (fun p e s m args below meth c A Q h0 C ret => ?_)
  refine jm_aload_n C dX11_field_0 rfl ?_
  refine jm_getSe (v := nI nf) C fF_X11_130 (by decide) hf dX11_field_1 ?_
  refine jm_bipush (v := 40) C dX11_field_4 (by decide) ?_
  refine jm_icmp_eq (tgt := 65) C dX11_field_6 (by decide) (fun c_6 => ?_) (fun c_6 => ?_)
  · refine jm_iconst (v := (-1)) C dX11_field_65 (by decide) ?_
    exact ret _ _ _ _ (if_neg (fun z => by first | exact c_6 z.1 | exact z.1 c_6)).symm dX11_field_66
  · refine jm_iload_n C dX11_field_9 rfl ?_
    refine jm_iconst (v := 0) C dX11_field_10 (by decide) ?_
    refine jm_sipush (v := 1000) C dX11_field_11 (by decide) ?_
    refine jm_calls (As := [.int x, .int 0, .int 1000]) (rest := []) C fG_X11_134 (c_in (x) (0) (1000)) rfl rfl (Nat.le_of_ble_eq_true rfl) ⟨Nat.le_of_ble_eq_true rfl, Nat.le_of_ble_eq_true rfl⟩ dX11_field_14 (fun r_14 e_14 => ?_)
    subst e_14
    refine jm_ifeq_b (tgt := 65) C dX11_field_17 (by decide) (fun c_17 => ?_) (fun c_17 => ?_)
    · refine jm_iconst (v := (-1)) C dX11_field_65 (by decide) ?_
      exact ret _ _ _ _ (if_neg (fun z => by first | exact c_17 z.2.1 | exact z.2.1 c_17)).symm dX11_field_66
    · refine jm_iload_n C dX11_field_20 rfl ?_
      refine jm_iconst (v := 0) C dX11_field_21 (by decide) ?_
      refine jm_sipush (v := 1000) C dX11_field_22 (by decide) ?_
      refine jm_calls (As := [.int y, .int 0, .int 1000]) (rest := []) C fG_X11_134 (c_in (y) (0) (1000)) rfl rfl (Nat.le_of_ble_eq_true rfl) ⟨Nat.le_of_ble_eq_true rfl, Nat.le_of_ble_eq_true rfl⟩ dX11_field_25 (fun r_25 e_25 => ?_)
      subst e_25
      refine jm_ifeq_b (tgt := 65) C dX11_field_28 (by decide) (fun c_28 => ?_) (fun c_28 => ?_)
      · refine jm_iconst (v := (-1)) C dX11_field_65 (by decide) ?_
        exact ret _ _ _ _ (if_neg (fun z => by first | exact c_28 z.2.2.1 | exact z.2.2.1 c_28)).symm dX11_field_66
      · refine jm_iload_n C dX11_field_31 rfl ?_
        refine jm_iconst (v := 0) C dX11_field_32 (by decide) ?_
        refine jm_sipush (v := 1000) C dX11_field_33 (by decide) ?_
        refine jm_calls (As := [.int u, .int 0, .int 1000]) (rest := []) C fG_X11_134 (c_in (u) (0) (1000)) rfl rfl (Nat.le_of_ble_eq_true rfl) ⟨Nat.le_of_ble_eq_true rfl, Nat.le_of_ble_eq_true rfl⟩ dX11_field_36 (fun r_36 e_36 => ?_)
        subst e_36
        refine jm_ifeq_b (tgt := 65) C dX11_field_39 (by decide) (fun c_39 => ?_) (fun c_39 => ?_)
        · refine jm_iconst (v := (-1)) C dX11_field_65 (by decide) ?_
          exact ret _ _ _ _ (if_neg (fun z => by first | exact c_39 z.2.2.2.1 | exact z.2.2.2.1 c_39)).symm dX11_field_66
        · refine jm_iload C dX11_field_42 rfl ?_
          refine jm_iconst (v := 0) C dX11_field_44 (by decide) ?_
          refine jm_sipush (v := 1000) C dX11_field_45 (by decide) ?_
          refine jm_calls (As := [.int v, .int 0, .int 1000]) (rest := []) C fG_X11_134 (c_in (v) (0) (1000)) rfl rfl (Nat.le_of_ble_eq_true rfl) ⟨Nat.le_of_ble_eq_true rfl, Nat.le_of_ble_eq_true rfl⟩ dX11_field_48 (fun r_48 e_48 => ?_)
          subst e_48
          refine jm_ifeq_b (tgt := 65) C dX11_field_51 (by decide) (fun c_51 => ?_) (fun c_51 => ?_)
          · refine jm_iconst (v := (-1)) C dX11_field_65 (by decide) ?_
            exact ret _ _ _ _ (if_neg (fun z => by first | exact c_51 z.2.2.2.2.1 | exact z.2.2.2.2.1 c_51)).symm dX11_field_66
          · refine jm_iload_n C dX11_field_54 rfl ?_
            refine jm_iload_n C dX11_field_55 rfl ?_
            refine jm_icmp_eq (tgt := 65) C dX11_field_56 (by decide) (fun c_56 => ?_) (fun c_56 => ?_)
            · refine jm_iconst (v := (-1)) C dX11_field_65 (by decide) ?_
              exact ret _ _ _ _ (if_neg (fun z => by first | exact c_56 z.2.2.2.2.2.1 | exact z.2.2.2.2.2.1 c_56)).symm dX11_field_66
            · refine jm_iload_n C dX11_field_59 rfl ?_
              refine jm_iload C dX11_field_60 rfl ?_
              refine jm_icmp_ne (tgt := 67) C dX11_field_62 (by decide) (fun c_62 => ?_) (fun c_62 => ?_)
              · have hlt : nf < 40 := by
                  rcases Nat.lt_or_ge nf 40 with q | q
                  · exact q
                  · exact absurd (by rw [show nf = 40 by omega]; rfl) c_6
                refine jm_aload_n C dX11_field_67 rfl ?_
                refine jm_getA C fF_X11_9 (by decide) (by decide) dX11_field_68 ?_
                refine jm_aload_n C dX11_field_71 rfl ?_
                refine jm_getSe (v := nI nf) C fF_X11_130 (by decide) hf dX11_field_72 ?_
                refine jm_iload_n C dX11_field_75 rfl ?_
                refine jm_iload_n C dX11_field_76 rfl ?_
                refine jm_min C kM_X11_144 dX11_field_77 (Nat.le_of_ble_eq_true rfl) (Nat.le_of_ble_eq_true rfl) ?_
                refine jm_astN C 9 (n := 40) (by decide) (by decide) rfl (by omega) dX11_field_80 ?_
                refine jm_aload_n C dX11_field_81 rfl ?_
                refine jm_getA C fF_X11_16 (by decide) (by decide) dX11_field_82 ?_
                refine jm_aload_n C dX11_field_85 rfl ?_
                refine jm_getSe (v := nI nf) C fF_X11_130 (by decide) hf dX11_field_86 ?_
                refine jm_iload_n C dX11_field_89 rfl ?_
                refine jm_iload_n C dX11_field_90 rfl ?_
                refine jm_max C kM_X11_150 dX11_field_91 (Nat.le_of_ble_eq_true rfl) (Nat.le_of_ble_eq_true rfl) ?_
                refine jm_astN C 11 (n := 40) (by decide) (by decide) rfl (by omega) dX11_field_94 ?_
                refine jm_aload_n C dX11_field_95 rfl ?_
                refine jm_getA C fF_X11_13 (by decide) (by decide) dX11_field_96 ?_
                refine jm_aload_n C dX11_field_99 rfl ?_
                refine jm_getSe (v := nI nf) C fF_X11_130 (by decide) hf dX11_field_100 ?_
                refine jm_iload_n C dX11_field_103 rfl ?_
                refine jm_iload C dX11_field_104 rfl ?_
                refine jm_min C kM_X11_144 dX11_field_106 (Nat.le_of_ble_eq_true rfl) (Nat.le_of_ble_eq_true rfl) ?_
                refine jm_astN C 10 (n := 40) (by decide) (by decide) rfl (by omega) dX11_field_109 ?_
                refine jm_aload_n C dX11_field_110 rfl ?_
                refine jm_getA C fF_X11_19 (by decide) (by decide) dX11_field_111 ?_
                refine jm_aload_n C dX11_field_114 rfl ?_
                refine jm_getSe (v := nI nf) C fF_X11_130 (by decide) hf dX11_field_115 ?_
                refine jm_iload_n C dX11_field_118 rfl ?_
                refine jm_iload C dX11_field_119 rfl ?_
                refine jm_max C kM_X11_150 dX11_field_121 (Nat.le_of_ble_eq_true rfl) (Nat.le_of_ble_eq_true rfl) ?_
                refine jm_astN C 12 (n := 40) (by decide) (by decide) rfl (by omega) dX11_field_124 ?_
                refine jm_aload_n C dX11_field_125 rfl ?_
                refine jm_dup C dX11_field_126 rfl ?_
                refine jm_getSe (v := nI nf) C fF_X11_130 (by decide) hf dX11_field_127 ?_
                refine jm_iconst (v := 1) C dX11_field_130 (by decide) ?_
                refine jm_iadd C dX11_field_131 ?_
                refine jm_putS C fP_X11_130 (by decide) dX11_field_132 ?_
                refine jm_aload_n C dX11_field_135 rfl ?_
                refine jm_getSe (v := ((nI nf) + 1)) C fF_X11_130 (by decide) rfl dX11_field_136 ?_
                refine jm_iconst (v := 1) C dX11_field_139 (by decide) ?_
                refine jm_isub C dX11_field_140 ?_
                exact ret _ _ _ _ (if_pos ⟨c_6, c_17, c_28, c_39, c_51, c_56, c_62⟩).symm dX11_field_141
              · refine jm_iconst (v := (-1)) C dX11_field_65 (by decide) ?_
                exact ret _ _ _ _ (if_neg (fun z => by first | exact c_62 z.2.2.2.2.2.2 | exact z.2.2.2.2.2.2 c_62)).symm dX11_field_66
