theorem wb_tb (n : Nat) : (lN n).toBitVec = BitVec.ofNat 64 n := rfl
theorem wb_inj {a b : Int64} (h : a.toBitVec = b.toBitVec) : a = b := Int64.toBitVec_inj.mp h
theorem wb_tn {n : Nat} (h : n < 2 ^ 64) : (lN n).toBitVec.toNat = n := by rw [wb_tb, BitVec.toNat_ofNat, Nat.mod_eq_of_lt h]
theorem wb_of (x : Int64) : ∃ n, n < 2 ^ 64 ∧ x = lN n := ⟨x.toBitVec.toNat, x.toBitVec.isLt, wb_inj (by rw [wb_tb]; simp)⟩
theorem wb_cu : ∀ k, k < 64 → ((nI k).toInt64.toUInt64 &&& Int64.toUInt64 63) = UInt64.ofNat k := by decide +kernel
theorem wb_shr {n k : Nat} (hn : n < 2 ^ 64) (hk : k < 64) : ((lN n).toUInt64 >>> ((nI k).toInt64.toUInt64 &&& Int64.toUInt64 63)).toInt64 = lN (n / 2 ^ k) := by
  rw [wb_cu k hk]
  apply wb_inj
  apply BitVec.eq_of_toNat_eq
  show ((lN n).toUInt64 >>> UInt64.ofNat k).toNat = (BitVec.ofNat 64 _).toNat
  have h1 : (UInt64.ofNat k).toNat = k := by
    show (BitVec.ofNat 64 k).toNat = k
    rw [BitVec.toNat_ofNat, Nat.mod_eq_of_lt (by omega)]
  have h2 : (lN n).toUInt64.toNat = n := wb_tn hn
  rw [UInt64.toNat_shiftRight, h1, h2, Nat.mod_eq_of_lt hk, Nat.shiftRight_eq_div_pow, BitVec.toNat_ofNat, Nat.mod_eq_of_lt (Nat.lt_of_le_of_lt (Nat.div_le_self _ _) hn)]
def m_plan (S : Nat → Nat → Int32) (t : Int32) (nf yy nl ns nt nw : Nat) : Int32 := if 0 ≤ t ∧ t ≤ S 8 0 - 1 then (planZ S yy nl ns nt nw (mmS nf)).2.1 t.toNatClampNeg else -1
set_option maxHeartbeats 4000000 in
set_option maxRecDepth 100000 in
theorem c_plan {l : Launch} {D : va_G} {cy : Nat → ClassId} {m0 : Nat} {ad : Nat → Nat} {S : Nat → Nat → Int32} (t : Int32) {nf yy nl ns nt nw : Nat} (hf : S 1 0 = nI nf) (hnf : nf ≤ 40) (hy : S 0 0 = nI yy) (hyy : yy ≤ 40) (hl : S 2 0 = nI nl) (hnl : nl ≤ 200) (hs : S 5 0 = nI ns) (hns : ns ≤ 300) (ht : S 6 0 = nI nt) (hnt : nt ≤ 100) (hw : S 8 0 = nI nw) (hnw : nw ≤ 5) (hwn : ∀ k, k < nw → ∃ j, j < nl ∧ S 42 k = nI j) : mI l D cy yX11_plan (.code yX11_plan cX11_plan 2 ((Option.some FieldType.int))) 6 m0 ad [.int t] S (fun r S' => r = m_plan S t nf yy nl ns nt nw ∧ ∃ go be, S' = W47 S go be) := by
  refine m_ofI rfl (Nat.le_of_ble_eq_true rfl) (fun p e s m args below meth c A Q h0 C ret => ?_)
  refine jm_iload_n C dX11_plan_0 rfl ?_
  refine jm_iconst (v := 0) C dX11_plan_1 (by decide) ?_
  refine jm_aload_n C dX11_plan_2 rfl ?_
  refine jm_getS C fF_X11_235 (by decide) dX11_plan_3 ?_
  refine jm_iconst (v := 1) C dX11_plan_6 (by decide) ?_
  refine jm_isub C dX11_plan_7 ?_
  refine jm_calls (As := [.int t, .int 0, .int ((S 8 0) - 1)]) (rest := []) C fG_X11_134 (c_in (t) (0) (((S 8 0) - 1))) rfl rfl (Nat.le_of_ble_eq_true rfl) ⟨Nat.le_of_ble_eq_true rfl, Nat.le_of_ble_eq_true rfl⟩ dX11_plan_8 (fun r_8 e_8 => ?_)
  subst e_8
  refine jm_ifne_b (tgt := 16) C dX11_plan_11 (by decide) (fun c_11 => ?_) (fun c_11 => ?_)
  · refine jm_aload_n C dX11_plan_16 rfl ?_
    refine jm_callv (As := []) (rest := []) C fG_X11_244 (c_findPlan hf hnf hy hyy hl hnl hs hns ht hnt hw hnw hwn) rfl rfl (Nat.le_of_ble_eq_true rfl) ⟨Nat.le_of_ble_eq_true rfl, Nat.le_of_ble_eq_true rfl⟩ dX11_plan_17 (fun S_17 e_17 => ?_)
    subst e_17
    refine jm_aload_n C dX11_plan_20 rfl ?_
    refine jm_getA C fF_X11_127 (by decide) (by decide) dX11_plan_21 ?_
    refine jm_iload_n C dX11_plan_24 rfl ?_
    refine jm_ald C 48 (n := 5) (by decide) (by decide) rfl (in_vp hw hnw c_11) dX11_plan_25 ?_
    exact ret _ _ _ _ ⟨by unfold m_plan; exact (if_pos c_11).symm, _, _, rfl⟩ dX11_plan_26
  · refine jm_iconst (v := (-1)) C dX11_plan_14 (by decide) ?_
    exact ret _ _ _ _ ⟨by unfold m_plan; exact (if_neg c_11).symm, _, _, (W47_self S).symm⟩ dX11_plan_15
/-- S, with another row 43 -/
def W43 (S : Nat → Nat → Int32) (z : Nat → Int32) : Nat → Nat → Int32 := fun k i => if k = 43 then z i else S k i
theorem W43_self (S : Nat → Nat → Int32) : W43 S (S 43) = S := by
  funext k i
  unfold W43
  split
  · next h => rw [h]
  · rfl
theorem W43_u (S : Nat → Nat → Int32) (z : Nat → Int32) (i : Nat) (v : Int32) : u2 (W43 S z) 43 i v = W43 S (upd z i v) := by
  funext k j
  unfold u2 W43 upd
  by_cases h : k = 43
  · simp [h]
  · simp [h]
def dq (x : Int64) : Nat := x.toBitVec.toNat / 2 ^ 33
theorem dq_lt (x : Int64) : dq x < 2 ^ 31 := by
  have h := x.toBitVec.isLt
  unfold dq
  omega
theorem dr_sh (x : Int64) : (x.toUInt64 >>> ((33 : Int32).toInt64.toUInt64 &&& Int64.toUInt64 63)).toInt64 = lN (dq x) := by
  obtain ⟨n, hn, rfl⟩ := wb_of x
  unfold dq
  rw [wb_tn hn]
  exact wb_shr (k := 33) hn (by decide)
theorem dr_b {N j : Nat} (hj : j < N) (hN : N ≤ 500) : (nI N - nI j).toInt64 = lN (N - j) := by
  rw [pk_sub (by omega), nI_l (by omega)]
theorem dr_0 {N j : Nat} (hj : j < N) (hN : N ≤ 500) : ¬ (nI N - nI j).toInt64 = 0 := by
  rw [dr_b hj hN]
  intro e
  have h := (lN_eq (a := N - j) (b := 0) (by omega) (by omega)).mp e
  omega
theorem dr_p {N j : Nat} (x : Int64) (hj : j < N) (hN : N ≤ 500) : nI j + ((x.toUInt64 >>> ((33 : Int32).toInt64.toUInt64 &&& Int64.toUInt64 63)).toInt64 - (x.toUInt64 >>> ((33 : Int32).toInt64.toUInt64 &&& Int64.toUInt64 63)).toInt64 / (nI N - nI j).toInt64 * (nI N - nI j).toInt64).toInt32 = nI (j + dq x % (N - j)) := by
  have h := dq_lt x
  rw [dr_sh, dr_b hj hN, pk_lRem (by omega) (by omega) (by omega), lN_i, nI_add]
def lcg (x : Int64) : Int64 := x * 6364136223846793005 + 1442695040888963407
theorem lcg_e (x : Int64) : x * 6364136223846793005 + 1442695040888963407 = lcg x := rfl
theorem jm_topl {p : Program} {l : Launch} {e : Env} {R : Room} {s : State} {m : MethodId} {args : Array Value} {below : List Frame} {meth : Method} {c : Code} {D : va_G} {cy : Nat → ClassId} {A : Nat → Prop} {Q : State → Prop} {m0 : Nat} {ad : Nat → Nat} {h0 : jH} {S : Nat → Nat → Int32} {nL : Nat} {lv : List (Nat × Value)} {pc : Nat} {st : List Value} {v v' : Int64} (e' : v = v') (k : jM p l e R s m args below meth c D cy A nL Q m0 ad h0 S lv pc (.long v' :: st)) : jM p l e R s m args below meth c D cy A nL Q m0 ad h0 S lv pc (.long v :: st) := by rw [e']; exact k
def gLin (j : Nat) (z : Nat → Int32) : Nat → Int32 := upd z j (nI j)
def gDr (N : Nat) (j : Nat) (p : Int64 × (Nat → Int32)) : Int64 × (Nat → Int32) := (lcg p.1, upd (upd p.2 j (p.2 (j + dq (lcg p.1) % (N - j)))) (j + dq (lcg p.1) % (N - j)) (p.2 j))
def m_drawn (S : Nat → Nat → Int32) (n k : Int32) (sd : Int64) (t : Int32) : Int32 := if (1 ≤ n ∧ n ≤ 500) ∧ (0 ≤ k ∧ k ≤ mn n 40) ∧ (0 ≤ t ∧ t ≤ k - 1) then (flp (gDr n.toNatClampNeg) 0 k.toNatClampNeg (sd, flp gLin 0 n.toNatClampNeg (S 43))).2 t.toNatClampNeg else -1
theorem ge1 {x : Int32} (h : 1 ≤ x) : ¬ x < 0 := by
  rw [Int32.lt_iff_toInt_lt]
  rw [Int32.le_iff_toInt_le] at h
  have h1 : (1 : Int32).toInt = 1 := by decide
  have h2 : (0 : Int32).toInt = 0 := by decide
  omega
theorem mn_le {k n : Int32} (h : k ≤ mn n 40) : k ≤ 40 ∧ k ≤ n := by
  unfold mn at h
  by_cases c : 40 < n
  · rw [if_pos c] at h
    rw [Int32.lt_iff_toInt_lt] at c
    rw [Int32.le_iff_toInt_le] at h
    exact ⟨Int32.le_iff_toInt_le.mpr h, Int32.le_iff_toInt_le.mpr (by omega)⟩
  · rw [if_neg c] at h
    rw [Int32.lt_iff_toInt_lt] at c
    rw [Int32.le_iff_toInt_le] at h
    exact ⟨Int32.le_iff_toInt_le.mpr (by omega), Int32.le_iff_toInt_le.mpr h⟩
set_option maxHeartbeats 4000000 in
set_option maxRecDepth 100000 in
theorem L_dr1 {p : Program} {l : Launch} {e : Env} {R : Room} {s : State} {m : MethodId} {args : Array Value} {below : List Frame} {meth : Method} {c : Code} {D : va_G} {cy : Nat → ClassId} {A : Nat → Prop} {Q : State → Prop} {m0 : Nat} {ad : Nat → Nat} {h0 : jH} {S : Nat → Nat → Int32} (C : jC p s m args meth c D cy A 11 RX11 cX11_drawn) {N Kk : Nat} {sd : Int64} {t : Int32} {z0 : Nat → Int32} (hN : N ≤ 500) (nx : ∀ z, z = z0 → jM p l e R s m args below meth c D cy A 11 Q m0 ad h0 (W43 S z) [(0, .ref m0), (1, .int (nI N)), (2, .int (nI Kk)), (3, .long sd), (5, .int t)] 63 [])  : ∀ (n k i : Nat) (z : Nat → Int32), k < n → i + k = N → (z0 = flp gLin i k z) → jM p l e R s m args below meth c D cy A 11 Q m0 ad h0 (W43 S z) [(0, .ref m0), (1, .int (nI N)), (2, .int (nI Kk)), (3, .long sd), (5, .int t), (6, .int (nI i))] 42 [] := by
  intro n
  induction n with
  | zero => intro k i z h1; exact absurd h1 (Nat.not_lt_zero _)
  | succ n ih =>
    intro k i z h1 h2 he
    refine jm_iload C dX11_drawn_42 rfl ?_
    refine jm_iload_n C dX11_drawn_44 rfl ?_
    refine jm_icmp_ge (tgt := 63) C dX11_drawn_45 (by decide) (fun c_45 => ?_) (fun c_45 => ?_)
    · have hge : N ≤ i := nI_ge_of c_45 (by omega) (by omega)
      obtain rfl : k = 0 := by omega
      refine jm_sub [0, 1, 2, 3, 4] rfl ?_
      exact nx z he.symm
    · have hlt : i < N := nI_lt_of c_45 (by omega)
      obtain ⟨k, rfl⟩ : ∃ q, k = q + 1 := ⟨k - 1, by omega⟩
      refine jm_aload_n C dX11_drawn_48 rfl ?_
      refine jm_getA C fF_X11_112 (by decide) (by decide) dX11_drawn_49 ?_
      refine jm_iload C dX11_drawn_52 rfl ?_
      refine jm_iload C dX11_drawn_54 rfl ?_
      refine jm_astN C 43 (n := 500) (by decide) (by decide) rfl (by omega) dX11_drawn_56 ?_
      refine jm_iinc (lv' := [(0, .ref m0), (1, .int (nI N)), (2, .int (nI Kk)), (3, .long sd), (5, .int t), (6, .int (nI (i + 1)))]) C dX11_drawn_57 rfl (nI_1 _) (by decide) rfl ?_
      refine jm_goto (tgt := 42) C dX11_drawn_60 (by decide) ?_
      rw [W43_u]
      exact ih k (i + 1) _ (by omega) (by omega) he
set_option maxHeartbeats 4000000 in
set_option maxRecDepth 100000 in
theorem L_dr2 {p : Program} {l : Launch} {e : Env} {R : Room} {s : State} {m : MethodId} {args : Array Value} {below : List Frame} {meth : Method} {c : Code} {D : va_G} {cy : Nat → ClassId} {A : Nat → Prop} {Q : State → Prop} {m0 : Nat} {ad : Nat → Nat} {h0 : jH} {S : Nat → Nat → Int32} (C : jC p s m args meth c D cy A 11 RX11 cX11_drawn) {N Kk : Nat} {sd : Int64} {t : Int32} {p0 : Int64 × (Nat → Int32)} (hN : N ≤ 500) (hK : Kk ≤ N) (hv : vp_in t 500) (ret : ∀ (r : Int32) (S' : Nat → Nat → Int32) (lv : List (Nat × Value)) (pc : Nat), (r = p0.2 t.toNatClampNeg ∧ ∃ z', S' = W43 S z') → decode cX11_drawn pc = .ok (.ireturn, 1) → jM p l e R s m args below meth c D cy A 11 Q m0 ad h0 S' lv pc [.int r]) : ∀ (n k i : Nat) (x : Int64) (z : Nat → Int32), k < n → i + k = Kk → (p0 = flp (gDr N) i k (x, z)) → jM p l e R s m args below meth c D cy A 11 Q m0 ad h0 (W43 S z) [(0, .ref m0), (1, .int (nI N)), (2, .int (nI Kk)), (3, .long sd), (5, .int t), (6, .long x), (8, .int (nI i))] 69 [] := by
  intro n
  induction n with
  | zero => intro k i x z h1; exact absurd h1 (Nat.not_lt_zero _)
  | succ n ih =>
    intro k i x z h1 h2 he
    refine jm_iload C dX11_drawn_69 rfl ?_
    refine jm_iload_n C dX11_drawn_71 rfl ?_
    refine jm_icmp_ge (tgt := 142) C dX11_drawn_72 (by decide) (fun c_72 => ?_) (fun c_72 => ?_)
    · have hge : Kk ≤ i := nI_ge_of c_72 (by omega) (by omega)
      obtain rfl : k = 0 := by omega
      refine jm_aload_n C dX11_drawn_142 rfl ?_
      refine jm_getA C fF_X11_112 (by decide) (by decide) dX11_drawn_143 ?_
      refine jm_iload C dX11_drawn_146 rfl ?_
      refine jm_ald C 43 (n := 500) (by decide) (by decide) rfl hv dX11_drawn_148 ?_
      exact ret _ _ _ _ ⟨by rw [he]; rfl, z, rfl⟩ dX11_drawn_149
    · have hlt : i < Kk := nI_lt_of c_72 (by omega)
      obtain ⟨k, rfl⟩ : ∃ q, k = q + 1 := ⟨k - 1, by omega⟩
      refine jm_lload C dX11_drawn_75 rfl ?_
      refine jm_ldc2 C dX11_drawn_77 kK_X11_208 ?_
      refine jm_lmul C dX11_drawn_80 ?_
      refine jm_ldc2 C dX11_drawn_81 kK_X11_210 ?_
      refine jm_ladd C dX11_drawn_84 ?_
      refine jm_topl (lcg_e x) ?_
      refine jm_lstore (lv' := [(0, .ref m0), (1, .int (nI N)), (2, .int (nI Kk)), (3, .long sd), (5, .int t), (6, .long (lcg x)), (8, .int (nI i))]) C dX11_drawn_85 (by decide) rfl ?_
      refine jm_iload C dX11_drawn_87 rfl ?_
      refine jm_lload C dX11_drawn_89 rfl ?_
      refine jm_bipush (v := 33) C dX11_drawn_91 (by decide) ?_
      refine jm_lushr C dX11_drawn_93 ?_
      refine jm_iload_n C dX11_drawn_94 rfl ?_
      refine jm_iload C dX11_drawn_95 rfl ?_
      refine jm_isub C dX11_drawn_97 ?_
      refine jm_i2l C dX11_drawn_98 ?_
      refine jm_lrem C dX11_drawn_99 (dr_0 (by omega) hN) ?_
      refine jm_l2i C dX11_drawn_100 ?_
      refine jm_iadd C dX11_drawn_101 ?_
      refine jm_top (dr_p _ (by omega) hN) ?_
      refine jm_istore (lv' := [(0, .ref m0), (1, .int (nI N)), (2, .int (nI Kk)), (3, .long sd), (5, .int t), (6, .long (lcg x)), (8, .int (nI i)), (9, .int (nI (i + dq (lcg x) % (N - i))))]) C dX11_drawn_102 (by decide) rfl ?_
      refine jm_aload_n C dX11_drawn_104 rfl ?_
      refine jm_getA C fF_X11_112 (by decide) (by decide) dX11_drawn_105 ?_
      refine jm_iload C dX11_drawn_108 rfl ?_
      refine jm_aldN C 43 (n := 500) (by decide) (by decide) rfl (by omega) dX11_drawn_110 ?_
      refine jm_istore (lv' := [(0, .ref m0), (1, .int (nI N)), (2, .int (nI Kk)), (3, .long sd), (5, .int t), (6, .long (lcg x)), (8, .int (nI i)), (9, .int (nI (i + dq (lcg x) % (N - i)))), (10, .int ((W43 S z) 43 i))]) C dX11_drawn_111 (by decide) rfl ?_
      refine jm_aload_n C dX11_drawn_113 rfl ?_
      refine jm_getA C fF_X11_112 (by decide) (by decide) dX11_drawn_114 ?_
      refine jm_iload C dX11_drawn_117 rfl ?_
      refine jm_aload_n C dX11_drawn_119 rfl ?_
      refine jm_getA C fF_X11_112 (by decide) (by decide) dX11_drawn_120 ?_
      refine jm_iload C dX11_drawn_123 rfl ?_
      refine jm_aldN C 43 (n := 500) (by decide) (by decide) rfl (by have := Nat.mod_lt (dq (lcg x)) (show N - i > 0 by omega); omega) dX11_drawn_125 ?_
      refine jm_astN C 43 (n := 500) (by decide) (by decide) rfl (by omega) dX11_drawn_126 ?_
      rw [W43_u]
      refine jm_aload_n C dX11_drawn_127 rfl ?_
      refine jm_getA C fF_X11_112 (by decide) (by decide) dX11_drawn_128 ?_
      refine jm_iload C dX11_drawn_131 rfl ?_
      refine jm_iload C dX11_drawn_133 rfl ?_
      refine jm_astN C 43 (n := 500) (by decide) (by decide) rfl (by have := Nat.mod_lt (dq (lcg x)) (show N - i > 0 by omega); omega) dX11_drawn_135 ?_
      rw [W43_u]
      refine jm_iinc (lv' := [(0, .ref m0), (1, .int (nI N)), (2, .int (nI Kk)), (3, .long sd), (5, .int t), (6, .long (lcg x)), (8, .int (nI (i + 1))), (9, .int (nI (i + dq (lcg x) % (N - i)))), (10, .int ((W43 S z) 43 i))]) C dX11_drawn_136 rfl (nI_1 _) (by decide) rfl ?_
      refine jm_goto (tgt := 69) C dX11_drawn_139 (by decide) ?_
      refine jm_sub [0, 1, 2, 3, 4, 5, 6] rfl ?_
      exact ih k (i + 1) (lcg x) _ (by omega) (by omega) (he.trans (flp_s rfl))
set_option maxHeartbeats 4000000 in
set_option maxRecDepth 100000 in
theorem c_drawn {l : Launch} {D : va_G} {cy : Nat → ClassId} {m0 : Nat} {ad : Nat → Nat} {S : Nat → Nat → Int32} (n k : Int32) (sd : Int64) (t : Int32) : mI l D cy yX11_drawn (.code yX11_drawn cX11_drawn 11 ((Option.some FieldType.int))) 1 m0 ad [.int n, .int k, .long sd, .int t] S (fun r S' => r = m_drawn S n k sd t ∧ ∃ z', S' = W43 S z') := by
  refine m_ofI rfl (Nat.le_of_ble_eq_true rfl) (fun p e s m args below meth c A Q h0 C ret => ?_)
  refine jm_iload_n C dX11_drawn_0 rfl ?_
  refine jm_iconst (v := 1) C dX11_drawn_1 (by decide) ?_
  refine jm_sipush (v := 500) C dX11_drawn_2 (by decide) ?_
  refine jm_calls (As := [.int n, .int 1, .int 500]) (rest := []) C fG_X11_134 (c_in (n) (1) (500)) rfl rfl (Nat.le_of_ble_eq_true rfl) ⟨Nat.le_of_ble_eq_true rfl, Nat.le_of_ble_eq_true rfl⟩ dX11_drawn_5 (fun r_5 e_5 => ?_)
  subst e_5
  refine jm_ifeq_b (tgt := 37) C dX11_drawn_8 (by decide) (fun c_8 => ?_) (fun c_8 => ?_)
  · refine jm_iconst (v := (-1)) C dX11_drawn_37 (by decide) ?_
    exact ret _ _ _ _ ⟨by unfold m_drawn; exact (if_neg (fun u => c_8 u.1)).symm, _, (W43_self S).symm⟩ dX11_drawn_38
  · refine jm_iload_n C dX11_drawn_11 rfl ?_
    refine jm_iconst (v := 0) C dX11_drawn_12 (by decide) ?_
    refine jm_iload_n C dX11_drawn_13 rfl ?_
    refine jm_bipush (v := 40) C dX11_drawn_14 (by decide) ?_
    refine jm_min C kM_X11_144 dX11_drawn_16 (Nat.le_of_ble_eq_true rfl) (Nat.le_of_ble_eq_true rfl) ?_
    refine jm_calls (As := [.int k, .int 0, .int (if 40 < n then 40 else n)]) (rest := []) C fG_X11_134 (c_in (k) (0) ((if 40 < n then 40 else n))) rfl rfl (Nat.le_of_ble_eq_true rfl) ⟨Nat.le_of_ble_eq_true rfl, Nat.le_of_ble_eq_true rfl⟩ dX11_drawn_19 (fun r_19 e_19 => ?_)
    subst e_19
    refine jm_ifeq_b (tgt := 37) C dX11_drawn_22 (by decide) (fun c_22 => ?_) (fun c_22 => ?_)
    · refine jm_iconst (v := (-1)) C dX11_drawn_37 (by decide) ?_
      exact ret _ _ _ _ ⟨by unfold m_drawn; exact (if_neg (fun u => c_22 u.2.1)).symm, _, (W43_self S).symm⟩ dX11_drawn_38
    · refine jm_iload C dX11_drawn_25 rfl ?_
      refine jm_iconst (v := 0) C dX11_drawn_27 (by decide) ?_
      refine jm_iload_n C dX11_drawn_28 rfl ?_
      refine jm_iconst (v := 1) C dX11_drawn_29 (by decide) ?_
      refine jm_isub C dX11_drawn_30 ?_
      refine jm_calls (As := [.int t, .int 0, .int (k - 1)]) (rest := []) C fG_X11_134 (c_in (t) (0) ((k - 1))) rfl rfl (Nat.le_of_ble_eq_true rfl) ⟨Nat.le_of_ble_eq_true rfl, Nat.le_of_ble_eq_true rfl⟩ dX11_drawn_31 (fun r_31 e_31 => ?_)
      subst e_31
      refine jm_ifne_b (tgt := 39) C dX11_drawn_34 (by decide) (fun c_34 => ?_) (fun c_34 => ?_)
      · obtain ⟨N, hN, rfl⟩ := nI_of2 (x := n) (M := 500) (n := 500) (by decide) (ge1 c_8.1) c_8.2
        have hk2 := mn_le (n := nI N) c_22.2
        obtain ⟨Kk, hKk, rfl⟩ := nI_of2 (x := k) (M := 40) (n := 40) (by decide) (Int32.not_lt.mpr c_22.1) hk2.1
        have hK : Kk ≤ N := (nI_leI (by omega) (by omega)).mp hk2.2
        have hv : vp_in t 500 := in_vp (n := Kk) rfl (by omega) c_34
        refine jm_iconst (v := 0) C dX11_drawn_39 (by decide) ?_
        refine jm_istore (lv' := [(0, .ref m0), (1, .int (nI N)), (2, .int (nI Kk)), (3, .long sd), (5, .int t), (6, .int 0)]) C dX11_drawn_40 (by decide) rfl ?_
        rw [← W43_self S]
        refine L_dr1 (z0 := flp gLin 0 N (S 43)) C hN (fun z hz => ?_) (N + 1) N 0 _ (by omega) (by omega) rfl
        subst hz
        refine jm_lload_n C dX11_drawn_63 rfl ?_
        refine jm_lstore (lv' := [(0, .ref m0), (1, .int (nI N)), (2, .int (nI Kk)), (3, .long sd), (5, .int t), (6, .long sd)]) C dX11_drawn_64 (by decide) rfl ?_
        refine jm_iconst (v := 0) C dX11_drawn_66 (by decide) ?_
        refine jm_istore (lv' := [(0, .ref m0), (1, .int (nI N)), (2, .int (nI Kk)), (3, .long sd), (5, .int t), (6, .long sd), (8, .int 0)]) C dX11_drawn_67 (by decide) rfl ?_
        exact L_dr2 (p0 := flp (gDr N) 0 Kk (sd, flp gLin 0 N (S 43))) C hN hK hv (fun r S' lv pc g d => ret r S' lv pc ⟨by rw [g.1]; unfold m_drawn; rw [if_pos ⟨c_8, c_22, c_34⟩, nI_clamp (by omega), nI_clamp (by omega)], g.2⟩ d) (Kk + 1) Kk 0 _ _ (by omega) (by omega) rfl
      · refine jm_iconst (v := (-1)) C dX11_drawn_37 (by decide) ?_
        exact ret _ _ _ _ ⟨by unfold m_drawn; exact (if_neg (fun u => c_34 u.2.2)).symm, _, (W43_self S).symm⟩ dX11_drawn_38
