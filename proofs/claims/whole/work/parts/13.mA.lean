/-- the first i from i on, among k, with p; else -1 -/
def ffst (p : Nat → Bool) : Nat → Nat → Int32
  | _, 0 => -1
  | i, k + 1 => if p i = true then nI i else ffst p (i + 1) k
theorem ffst_t {p : Nat → Bool} {i k : Nat} (h : p i = true) : ffst p i (k + 1) = nI i := if_pos h
theorem ffst_f {p : Nat → Bool} {i k : Nat} (h : p i = false) : ffst p i (k + 1) = ffst p (i + 1) k := if_neg (by rw [h]; decide)

/-- k turns of a loop from i on -/
def flp {α : Type} (g : Nat → α → α) : Nat → Nat → α → α
  | _, 0, a => a
  | i, k + 1, a => flp g (i + 1) k (g i a)
theorem flp_s {α : Type} {g : Nat → α → α} {i k : Nat} {a a' : α} (h : g i a = a') : flp g i (k + 1) a = flp g (i + 1) k a' := by rw [← h]; rfl
theorem nI_ge_of {i n : Nat} (h : nI n ≤ nI i) (hn : n < 2 ^ 31) (hi : i < 2 ^ 31) : n ≤ i := (nI_leI hn hi).mp h
theorem nI_lt_of {i n : Nat} (h : ¬ nI n ≤ nI i) (hi : i < 2 ^ 31) : i < n := by
  rcases Nat.lt_or_ge i n with q | q
  · exact q
  · exact absurd (nI_le q (by omega)) h
set_option maxHeartbeats 4000000 in
set_option maxRecDepth 100000 in
theorem c_in {l : Launch} {D : va_G} {cy : Nat → ClassId} (v lo hi : Int32) : sI l D cy yX11_in (.code yX11_in cX11_in 3 ((Option.some FieldType.boolean))) 0 [.int v, .int lo, .int hi] (fun r => r = bI (lo ≤ v ∧ v ≤ hi)) := fun h => by
  refine j_ofZ (by decide) (Nat.le_of_ble_eq_true rfl) (fun p e s m args below meth c Q C hn ret => ?_)
  refine j_iload_n C dX11_in_0 rfl ?_
  refine j_iload_n C dX11_in_1 rfl ?_
  refine j_icmp_lt (tgt := 14) C dX11_in_2 (by decide) (fun c_2 => ?_) (fun c_2 => ?_)
  · refine j_iconst (v := 0) C dX11_in_14 (by decide) ?_
    exact ret _ h 0 0 _ _ ⟨(bI_f (fun z => Int32.not_lt.mpr z.1 c_2)).symm, rfl⟩ (by decide) (Nat.zero_le _) (Nat.zero_le _) dX11_in_15
  · refine j_iload_n C dX11_in_5 rfl ?_
    refine j_iload_n C dX11_in_6 rfl ?_
    refine j_icmp_gt (tgt := 14) C dX11_in_7 (by decide) (fun c_7 => ?_) (fun c_7 => ?_)
    · refine j_iconst (v := 0) C dX11_in_14 (by decide) ?_
      exact ret _ h 0 0 _ _ ⟨(bI_f (fun z => Int32.not_lt.mpr z.2 c_7)).symm, rfl⟩ (by decide) (Nat.zero_le _) (Nat.zero_le _) dX11_in_15
    · refine j_iconst (v := 1) C dX11_in_10 (by decide) ?_
      refine j_goto (tgt := 15) C dX11_in_11 (by decide) ?_
      exact ret _ h 0 0 _ _ ⟨(bI_t ⟨Int32.not_lt.mp c_2, Int32.not_lt.mp c_7⟩).symm, rfl⟩ (by decide) (Nat.zero_le _) (Nat.zero_le _) dX11_in_15
set_option maxHeartbeats 4000000 in
set_option maxRecDepth 100000 in
theorem c_isField {l : Launch} {D : va_G} {cy : Nat → ClassId} {m0 : Nat} {ad : Nat → Nat} {S : Nat → Nat → Int32} (x : Int32) : mI l D cy yX11_isField (.code yX11_isField cX11_isField 2 ((Option.some FieldType.boolean))) 1 m0 ad [.int x] S (fun r S' => r = bI (0 ≤ x ∧ x ≤ S 1 0 - 1) ∧ S' = S) := by
  refine m_ofZ rfl (Nat.le_of_ble_eq_true rfl) (fun p e s m args below meth c A Q h0 C ret => ?_)
  refine jm_iload_n C dX11_isField_0 rfl ?_
  refine jm_iconst (v := 0) C dX11_isField_1 (by decide) ?_
  refine jm_aload_n C dX11_isField_2 rfl ?_
  refine jm_getS C fF_X11_130 (by decide) dX11_isField_3 ?_
  refine jm_iconst (v := 1) C dX11_isField_6 (by decide) ?_
  refine jm_isub C dX11_isField_7 ?_
  refine jm_calls (As := [.int x, .int 0, .int ((S 1 0) - 1)]) (rest := []) C fG_X11_134 (c_in (x) (0) (((S 1 0) - 1))) rfl rfl (Nat.le_of_ble_eq_true rfl) ⟨Nat.le_of_ble_eq_true rfl, Nat.le_of_ble_eq_true rfl⟩ dX11_isField_8 (fun r_8 e_8 => ?_)
  subst e_8
  exact ret _ _ _ _ ⟨rfl, rfl⟩ (bI_01 _) dX11_isField_11
set_option maxHeartbeats 4000000 in
set_option maxRecDepth 100000 in
theorem c_isLot {l : Launch} {D : va_G} {cy : Nat → ClassId} {m0 : Nat} {ad : Nat → Nat} {S : Nat → Nat → Int32} (x : Int32) : mI l D cy yX11_isLot (.code yX11_isLot cX11_isLot 2 ((Option.some FieldType.boolean))) 1 m0 ad [.int x] S (fun r S' => r = bI (0 ≤ x ∧ x ≤ S 2 0 - 1) ∧ S' = S) := by
  refine m_ofZ rfl (Nat.le_of_ble_eq_true rfl) (fun p e s m args below meth c A Q h0 C ret => ?_)
  refine jm_iload_n C dX11_isLot_0 rfl ?_
  refine jm_iconst (v := 0) C dX11_isLot_1 (by decide) ?_
  refine jm_aload_n C dX11_isLot_2 rfl ?_
  refine jm_getS C fF_X11_138 (by decide) dX11_isLot_3 ?_
  refine jm_iconst (v := 1) C dX11_isLot_6 (by decide) ?_
  refine jm_isub C dX11_isLot_7 ?_
  refine jm_calls (As := [.int x, .int 0, .int ((S 2 0) - 1)]) (rest := []) C fG_X11_134 (c_in (x) (0) (((S 2 0) - 1))) rfl rfl (Nat.le_of_ble_eq_true rfl) ⟨Nat.le_of_ble_eq_true rfl, Nat.le_of_ble_eq_true rfl⟩ dX11_isLot_8 (fun r_8 e_8 => ?_)
  subst e_8
  exact ret _ _ _ _ ⟨rfl, rfl⟩ (bI_01 _) dX11_isLot_11
set_option maxHeartbeats 4000000 in
set_option maxRecDepth 100000 in
theorem c_isYear {l : Launch} {D : va_G} {cy : Nat → ClassId} {m0 : Nat} {ad : Nat → Nat} {S : Nat → Nat → Int32} (x : Int32) : mI l D cy yX11_isYear (.code yX11_isYear cX11_isYear 2 ((Option.some FieldType.boolean))) 1 m0 ad [.int x] S (fun r S' => r = bI (0 ≤ x ∧ x ≤ S 0 0) ∧ S' = S) := by
  refine m_ofZ rfl (Nat.le_of_ble_eq_true rfl) (fun p e s m args below meth c A Q h0 C ret => ?_)
  refine jm_iload_n C dX11_isYear_0 rfl ?_
  refine jm_iconst (v := 0) C dX11_isYear_1 (by decide) ?_
  refine jm_aload_n C dX11_isYear_2 rfl ?_
  refine jm_getS C fF_X11_141 (by decide) dX11_isYear_3 ?_
  refine jm_calls (As := [.int x, .int 0, .int (S 0 0)]) (rest := []) C fG_X11_134 (c_in (x) (0) ((S 0 0))) rfl rfl (Nat.le_of_ble_eq_true rfl) ⟨Nat.le_of_ble_eq_true rfl, Nat.le_of_ble_eq_true rfl⟩ dX11_isYear_6 (fun r_6 e_6 => ?_)
  subst e_6
  exact ret _ _ _ _ ⟨rfl, rfl⟩ (bI_01 _) dX11_isYear_9
set_option maxHeartbeats 4000000 in
set_option maxRecDepth 100000 in
theorem c_isBag {l : Launch} {D : va_G} {cy : Nat → ClassId} {m0 : Nat} {ad : Nat → Nat} {S : Nat → Nat → Int32} (x : Int32) : mI l D cy yX11_isBag (.code yX11_isBag cX11_isBag 2 ((Option.some FieldType.boolean))) 1 m0 ad [.int x] S (fun r S' => r = bI (0 ≤ x ∧ x ≤ S 3 0 - 1) ∧ S' = S) := by
  refine m_ofZ rfl (Nat.le_of_ble_eq_true rfl) (fun p e s m args below meth c A Q h0 C ret => ?_)
  refine jm_iload_n C dX11_isBag_0 rfl ?_
  refine jm_iconst (v := 0) C dX11_isBag_1 (by decide) ?_
  refine jm_aload_n C dX11_isBag_2 rfl ?_
  refine jm_getS C fF_X11_190 (by decide) dX11_isBag_3 ?_
  refine jm_iconst (v := 1) C dX11_isBag_6 (by decide) ?_
  refine jm_isub C dX11_isBag_7 ?_
  refine jm_calls (As := [.int x, .int 0, .int ((S 3 0) - 1)]) (rest := []) C fG_X11_134 (c_in (x) (0) (((S 3 0) - 1))) rfl rfl (Nat.le_of_ble_eq_true rfl) ⟨Nat.le_of_ble_eq_true rfl, Nat.le_of_ble_eq_true rfl⟩ dX11_isBag_8 (fun r_8 e_8 => ?_)
  subst e_8
  exact ret _ _ _ _ ⟨rfl, rfl⟩ (bI_01 _) dX11_isBag_11
def mx (x y : Int32) : Int32 := if x < y then y else x
def mn (x y : Int32) : Int32 := if y < x then y else x
def nearS (S : Nat → Nat → Int32) (a b : Nat) : Int32 := mx 0 (mx (S 9 a - S 11 b) (S 9 b - S 11 a)) * mx 0 (mx (S 9 a - S 11 b) (S 9 b - S 11 a)) + mx 0 (mx (S 10 a - S 12 b) (S 10 b - S 12 a)) * mx 0 (mx (S 10 a - S 12 b) (S 10 b - S 12 a))
set_option maxHeartbeats 4000000 in
set_option maxRecDepth 100000 in
theorem c_nearness {l : Launch} {D : va_G} {cy : Nat → ClassId} {m0 : Nat} {ad : Nat → Nat} {S : Nat → Nat → Int32} {a b : Nat} (ha : a < 40) (hb : b < 40) : mI l D cy yX11_nearness (.code yX11_nearness cX11_nearness 5 ((Option.some FieldType.int))) 1 m0 ad [.int (nI a), .int (nI b)] S (fun r S' => r = nearS S a b ∧ S' = S) := by
  refine m_ofI rfl (Nat.le_of_ble_eq_true rfl) (fun p e s m args below meth c A Q h0 C ret => ?_)
  refine jm_iconst (v := 0) C dX11_nearness_0 (by decide) ?_
  refine jm_aload_n C dX11_nearness_1 rfl ?_
  refine jm_getA C fF_X11_9 (by decide) (by decide) dX11_nearness_2 ?_
  refine jm_iload_n C dX11_nearness_5 rfl ?_
  refine jm_aldN C 9 (n := 40) (by decide) (by decide) rfl (by omega) dX11_nearness_6 ?_
  refine jm_aload_n C dX11_nearness_7 rfl ?_
  refine jm_getA C fF_X11_16 (by decide) (by decide) dX11_nearness_8 ?_
  refine jm_iload_n C dX11_nearness_11 rfl ?_
  refine jm_aldN C 11 (n := 40) (by decide) (by decide) rfl (by omega) dX11_nearness_12 ?_
  refine jm_isub C dX11_nearness_13 ?_
  refine jm_aload_n C dX11_nearness_14 rfl ?_
  refine jm_getA C fF_X11_9 (by decide) (by decide) dX11_nearness_15 ?_
  refine jm_iload_n C dX11_nearness_18 rfl ?_
  refine jm_aldN C 9 (n := 40) (by decide) (by decide) rfl (by omega) dX11_nearness_19 ?_
  refine jm_aload_n C dX11_nearness_20 rfl ?_
  refine jm_getA C fF_X11_16 (by decide) (by decide) dX11_nearness_21 ?_
  refine jm_iload_n C dX11_nearness_24 rfl ?_
  refine jm_aldN C 11 (n := 40) (by decide) (by decide) rfl (by omega) dX11_nearness_25 ?_
  refine jm_isub C dX11_nearness_26 ?_
  refine jm_max C kM_X11_150 dX11_nearness_27 (Nat.le_of_ble_eq_true rfl) (Nat.le_of_ble_eq_true rfl) ?_
  refine jm_max C kM_X11_150 dX11_nearness_30 (Nat.le_of_ble_eq_true rfl) (Nat.le_of_ble_eq_true rfl) ?_
  refine jm_istore_n (lv' := [(0, .ref m0), (1, .int (nI a)), (2, .int (nI b)), (3, .int (if 0 < (if ((S 9 a) - (S 11 b)) < ((S 9 b) - (S 11 a)) then ((S 9 b) - (S 11 a)) else ((S 9 a) - (S 11 b))) then (if ((S 9 a) - (S 11 b)) < ((S 9 b) - (S 11 a)) then ((S 9 b) - (S 11 a)) else ((S 9 a) - (S 11 b))) else 0))]) C dX11_nearness_33 (by decide) rfl ?_
  refine jm_iconst (v := 0) C dX11_nearness_34 (by decide) ?_
  refine jm_aload_n C dX11_nearness_35 rfl ?_
  refine jm_getA C fF_X11_13 (by decide) (by decide) dX11_nearness_36 ?_
  refine jm_iload_n C dX11_nearness_39 rfl ?_
  refine jm_aldN C 10 (n := 40) (by decide) (by decide) rfl (by omega) dX11_nearness_40 ?_
  refine jm_aload_n C dX11_nearness_41 rfl ?_
  refine jm_getA C fF_X11_19 (by decide) (by decide) dX11_nearness_42 ?_
  refine jm_iload_n C dX11_nearness_45 rfl ?_
  refine jm_aldN C 12 (n := 40) (by decide) (by decide) rfl (by omega) dX11_nearness_46 ?_
  refine jm_isub C dX11_nearness_47 ?_
  refine jm_aload_n C dX11_nearness_48 rfl ?_
  refine jm_getA C fF_X11_13 (by decide) (by decide) dX11_nearness_49 ?_
  refine jm_iload_n C dX11_nearness_52 rfl ?_
  refine jm_aldN C 10 (n := 40) (by decide) (by decide) rfl (by omega) dX11_nearness_53 ?_
  refine jm_aload_n C dX11_nearness_54 rfl ?_
  refine jm_getA C fF_X11_19 (by decide) (by decide) dX11_nearness_55 ?_
  refine jm_iload_n C dX11_nearness_58 rfl ?_
  refine jm_aldN C 12 (n := 40) (by decide) (by decide) rfl (by omega) dX11_nearness_59 ?_
  refine jm_isub C dX11_nearness_60 ?_
  refine jm_max C kM_X11_150 dX11_nearness_61 (Nat.le_of_ble_eq_true rfl) (Nat.le_of_ble_eq_true rfl) ?_
  refine jm_max C kM_X11_150 dX11_nearness_64 (Nat.le_of_ble_eq_true rfl) (Nat.le_of_ble_eq_true rfl) ?_
  refine jm_istore (lv' := [(0, .ref m0), (1, .int (nI a)), (2, .int (nI b)), (3, .int (if 0 < (if ((S 9 a) - (S 11 b)) < ((S 9 b) - (S 11 a)) then ((S 9 b) - (S 11 a)) else ((S 9 a) - (S 11 b))) then (if ((S 9 a) - (S 11 b)) < ((S 9 b) - (S 11 a)) then ((S 9 b) - (S 11 a)) else ((S 9 a) - (S 11 b))) else 0)), (4, .int (if 0 < (if ((S 10 a) - (S 12 b)) < ((S 10 b) - (S 12 a)) then ((S 10 b) - (S 12 a)) else ((S 10 a) - (S 12 b))) then (if ((S 10 a) - (S 12 b)) < ((S 10 b) - (S 12 a)) then ((S 10 b) - (S 12 a)) else ((S 10 a) - (S 12 b))) else 0))]) C dX11_nearness_67 (by decide) rfl ?_
  refine jm_iload_n C dX11_nearness_69 rfl ?_
  refine jm_iload_n C dX11_nearness_70 rfl ?_
  refine jm_imul C dX11_nearness_71 ?_
  refine jm_iload C dX11_nearness_72 rfl ?_
  refine jm_iload C dX11_nearness_74 rfl ?_
  refine jm_imul C dX11_nearness_76 ?_
  refine jm_iadd C dX11_nearness_77 ?_
  exact ret _ _ _ _ ⟨rfl, rfl⟩ dX11_nearness_78
def lotInB (S : Nat → Nat → Int32) (f y : Int32) (l : Nat) : Bool := decide (S 21 l = 1 ∧ S 25 l = f ∧ S 24 l = y)
def lotInS (S : Nat → Nat → Int32) (f y : Int32) (nl : Nat) : Int32 := ffst (lotInB S f y) 0 nl
set_option maxHeartbeats 4000000 in
set_option maxRecDepth 100000 in
theorem L_lotIn {p : Program} {l : Launch} {e : Env} {R : Room} {s : State} {m : MethodId} {args : Array Value} {below : List Frame} {meth : Method} {c : Code} {D : va_G} {cy : Nat → ClassId} {A : Nat → Prop} {Q : State → Prop} {m0 : Nat} {ad : Nat → Nat} {h0 : jH} {S : Nat → Nat → Int32} (C : jC p s m args meth c D cy A 4 RX11 cX11_lotIn) {f y : Int32} {nl : Nat} (hl : S 2 0 = nI nl) (hnl : nl ≤ 200) (ret : ∀ (r : Int32) (S' : Nat → Nat → Int32) (lv : List (Nat × Value)) (pc : Nat), r = lotInS S f y nl ∧ S' = S → decode cX11_lotIn pc = .ok (.ireturn, 1) → jM p l e R s m args below meth c D cy A 4 Q m0 ad h0 S' lv pc [.int r]) : ∀ (n k i : Nat), k < n → i + k = nl → lotInS S f y nl = ffst (lotInB S f y) i k → jM p l e R s m args below meth c D cy A 4 Q m0 ad h0 S [(0, .ref m0), (1, .int f), (2, .int y), (3, .int (nI i))] 2 [] := by
  intro n
  induction n with
  | zero => intro k i  h1; exact absurd h1 (Nat.not_lt_zero _)
  | succ n ih =>
    intro k i  h1 h2 he
    refine jm_iload_n C dX11_lotIn_2 rfl ?_
    refine jm_aload_n C dX11_lotIn_3 rfl ?_
    refine jm_getS C fF_X11_138 (by decide) dX11_lotIn_4 ?_
    refine jm_icmp_ge (tgt := 48) C dX11_lotIn_7 (by decide) (fun c_7 => ?_) (fun c_7 => ?_)
    · rw [hl] at c_7
      have hge : nl ≤ i := nI_ge_of c_7 (by omega) (by omega)
      obtain rfl : k = 0 := by omega
      refine jm_iconst (v := (-1)) C dX11_lotIn_48 (by decide) ?_
      exact ret _ _ _ _ ⟨by rw [he]; rfl, rfl⟩ dX11_lotIn_49
    · rw [hl] at c_7
      have hlt : i < nl := nI_lt_of c_7 (by omega)
      obtain ⟨k, rfl⟩ : ∃ q, k = q + 1 := ⟨k - 1, by omega⟩
      refine jm_aload_n C dX11_lotIn_10 rfl ?_
      refine jm_getA C fF_X11_46 (by decide) (by decide) dX11_lotIn_11 ?_
      refine jm_iload_n C dX11_lotIn_14 rfl ?_
      refine jm_aldN C 21 (n := 200) (by decide) (by decide) rfl (by omega) dX11_lotIn_15 ?_
      refine jm_iconst (v := 1) C dX11_lotIn_16 (by decide) ?_
      refine jm_icmp_ne (tgt := 42) C dX11_lotIn_17 (by decide) (fun c_17 => ?_) (fun c_17 => ?_)
      · refine jm_iinc (lv' := [(0, .ref m0), (1, .int f), (2, .int y), (3, .int (nI (i + 1)))]) C dX11_lotIn_42 rfl (nI_1 _) (by decide) rfl ?_
        refine jm_goto (tgt := 2) C dX11_lotIn_45 (by decide) ?_
        exact ih k (i + 1) (by omega) (by omega) (he.trans (ffst_f (by simp [lotInB, c_17])))
      · refine jm_aload_n C dX11_lotIn_20 rfl ?_
        refine jm_getA C fF_X11_58 (by decide) (by decide) dX11_lotIn_21 ?_
        refine jm_iload_n C dX11_lotIn_24 rfl ?_
        refine jm_aldN C 25 (n := 200) (by decide) (by decide) rfl (by omega) dX11_lotIn_25 ?_
        refine jm_iload_n C dX11_lotIn_26 rfl ?_
        refine jm_icmp_ne (tgt := 42) C dX11_lotIn_27 (by decide) (fun c_27 => ?_) (fun c_27 => ?_)
        · refine jm_iinc (lv' := [(0, .ref m0), (1, .int f), (2, .int y), (3, .int (nI (i + 1)))]) C dX11_lotIn_42 rfl (nI_1 _) (by decide) rfl ?_
          refine jm_goto (tgt := 2) C dX11_lotIn_45 (by decide) ?_
          exact ih k (i + 1) (by omega) (by omega) (he.trans (ffst_f (by simp [lotInB, c_17, c_27])))
        · refine jm_aload_n C dX11_lotIn_30 rfl ?_
          refine jm_getA C fF_X11_55 (by decide) (by decide) dX11_lotIn_31 ?_
          refine jm_iload_n C dX11_lotIn_34 rfl ?_
          refine jm_aldN C 24 (n := 200) (by decide) (by decide) rfl (by omega) dX11_lotIn_35 ?_
          refine jm_iload_n C dX11_lotIn_36 rfl ?_
          refine jm_icmp_ne (tgt := 42) C dX11_lotIn_37 (by decide) (fun c_37 => ?_) (fun c_37 => ?_)
          · refine jm_iinc (lv' := [(0, .ref m0), (1, .int f), (2, .int y), (3, .int (nI (i + 1)))]) C dX11_lotIn_42 rfl (nI_1 _) (by decide) rfl ?_
            refine jm_goto (tgt := 2) C dX11_lotIn_45 (by decide) ?_
            exact ih k (i + 1) (by omega) (by omega) (he.trans (ffst_f (by simp [lotInB, c_17, c_27, c_37])))
          · refine jm_iload_n C dX11_lotIn_40 rfl ?_
            exact ret _ _ _ _ ⟨by rw [he]; exact (ffst_t (by simp [lotInB, c_17, c_27, c_37])).symm, rfl⟩ dX11_lotIn_41
set_option maxHeartbeats 4000000 in
set_option maxRecDepth 100000 in
theorem c_lotIn {l : Launch} {D : va_G} {cy : Nat → ClassId} {m0 : Nat} {ad : Nat → Nat} {S : Nat → Nat → Int32} (f y : Int32) {nl : Nat} (hl : S 2 0 = nI nl) (hnl : nl ≤ 200) : mI l D cy yX11_lotIn (.code yX11_lotIn cX11_lotIn 4 ((Option.some FieldType.int))) 1 m0 ad [.int f, .int y] S (fun r S' => r = lotInS S f y nl ∧ S' = S) := by
  refine m_ofI rfl (Nat.le_of_ble_eq_true rfl) (fun p e s m args below meth c A Q h0 C ret => ?_)
  refine jm_iconst (v := 0) C dX11_lotIn_0 (by decide) ?_
  refine jm_istore_n (lv' := [(0, .ref m0), (1, .int f), (2, .int y), (3, .int 0)]) C dX11_lotIn_1 (by decide) rfl ?_
  exact L_lotIn C hl hnl ret (nl + 1) nl 0 (by omega) (by omega) rfl
def gLooks (S : Nat → Nat → Int32) (l q : Int32) (k : Nat) (n : Int32) : Int32 := n + if S 34 k = l ∧ ¬ q < S 37 k then 1 else 0
def looksS (S : Nat → Nat → Int32) (l q : Int32) (nk : Nat) : Int32 := flp (gLooks S l q) 0 nk 0
set_option maxHeartbeats 4000000 in
set_option maxRecDepth 100000 in
theorem L_looksOf {p : Program} {l : Launch} {e : Env} {R : Room} {s : State} {m : MethodId} {args : Array Value} {below : List Frame} {meth : Method} {c : Code} {D : va_G} {cy : Nat → ClassId} {A : Nat → Prop} {Q : State → Prop} {m0 : Nat} {ad : Nat → Nat} {h0 : jH} {S : Nat → Nat → Int32} (C : jC p s m args meth c D cy A 5 RX11 cX11_looksOf) {l0 q : Int32} {nk : Nat} (hk : S 7 0 = nI nk) (hnk : nk ≤ 300) (ret : ∀ (r : Int32) (S' : Nat → Nat → Int32) (lv : List (Nat × Value)) (pc : Nat), r = looksS S l0 q nk ∧ S' = S → decode cX11_looksOf pc = .ok (.ireturn, 1) → jM p l e R s m args below meth c D cy A 5 Q m0 ad h0 S' lv pc [.int r]) : ∀ (n k i : Nat) (a : Int32), k < n → i + k = nk → looksS S l0 q nk = flp (gLooks S l0 q) i k a → jM p l e R s m args below meth c D cy A 5 Q m0 ad h0 S [(0, .ref m0), (1, .int l0), (2, .int q), (3, .int a), (4, .int (nI i))] 5 [] := by
  intro n
  induction n with
  | zero => intro k i a h1; exact absurd h1 (Nat.not_lt_zero _)
  | succ n ih =>
    intro k i a h1 h2 he
    refine jm_iload C dX11_looksOf_5 rfl ?_
    refine jm_aload_n C dX11_looksOf_7 rfl ?_
    refine jm_getS C fF_X11_202 (by decide) dX11_looksOf_8 ?_
    refine jm_icmp_ge (tgt := 50) C dX11_looksOf_11 (by decide) (fun c_11 => ?_) (fun c_11 => ?_)
    · rw [hk] at c_11
      have hge : nk ≤ i := nI_ge_of c_11 (by omega) (by omega)
      obtain rfl : k = 0 := by omega
      refine jm_iload_n C dX11_looksOf_50 rfl ?_
      exact ret _ _ _ _ ⟨by rw [he]; rfl, rfl⟩ dX11_looksOf_51
    · rw [hk] at c_11
      have hlt : i < nk := nI_lt_of c_11 (by omega)
      obtain ⟨k, rfl⟩ : ∃ q, k = q + 1 := ⟨k - 1, by omega⟩
      refine jm_iload_n C dX11_looksOf_14 rfl ?_
      refine jm_aload_n C dX11_looksOf_15 rfl ?_
      refine jm_getA C fF_X11_85 (by decide) (by decide) dX11_looksOf_16 ?_
      refine jm_iload C dX11_looksOf_19 rfl ?_
      refine jm_aldN C 34 (n := 300) (by decide) (by decide) rfl (by omega) dX11_looksOf_21 ?_
      refine jm_iload_n C dX11_looksOf_22 rfl ?_
      refine jm_icmp_ne (tgt := 41) C dX11_looksOf_23 (by decide) (fun c_23 => ?_) (fun c_23 => ?_)
      · refine jm_iconst (v := 0) C dX11_looksOf_41 (by decide) ?_
        refine jm_iadd C dX11_looksOf_42 ?_
        refine jm_istore_n (lv' := [(0, .ref m0), (1, .int l0), (2, .int q), (3, .int (a + 0)), (4, .int (nI i))]) C dX11_looksOf_43 (by decide) rfl ?_
        refine jm_iinc (lv' := [(0, .ref m0), (1, .int l0), (2, .int q), (3, .int (a + 0)), (4, .int (nI (i + 1)))]) C dX11_looksOf_44 rfl (nI_1 _) (by decide) rfl ?_
        refine jm_goto (tgt := 5) C dX11_looksOf_47 (by decide) ?_
        exact ih k (i + 1) _ (by omega) (by omega) (he.trans (flp_s (by simp [gLooks, c_23])))
      · refine jm_aload_n C dX11_looksOf_26 rfl ?_
        refine jm_getA C fF_X11_94 (by decide) (by decide) dX11_looksOf_27 ?_
        refine jm_iload C dX11_looksOf_30 rfl ?_
        refine jm_aldN C 37 (n := 300) (by decide) (by decide) rfl (by omega) dX11_looksOf_32 ?_
        refine jm_iload_n C dX11_looksOf_33 rfl ?_
        refine jm_icmp_gt (tgt := 41) C dX11_looksOf_34 (by decide) (fun c_34 => ?_) (fun c_34 => ?_)
        · refine jm_iconst (v := 0) C dX11_looksOf_41 (by decide) ?_
          refine jm_iadd C dX11_looksOf_42 ?_
          refine jm_istore_n (lv' := [(0, .ref m0), (1, .int l0), (2, .int q), (3, .int (a + 0)), (4, .int (nI i))]) C dX11_looksOf_43 (by decide) rfl ?_
          refine jm_iinc (lv' := [(0, .ref m0), (1, .int l0), (2, .int q), (3, .int (a + 0)), (4, .int (nI (i + 1)))]) C dX11_looksOf_44 rfl (nI_1 _) (by decide) rfl ?_
          refine jm_goto (tgt := 5) C dX11_looksOf_47 (by decide) ?_
          exact ih k (i + 1) _ (by omega) (by omega) (he.trans (flp_s (by simp [gLooks, c_23, c_34])))
        · refine jm_iconst (v := 1) C dX11_looksOf_37 (by decide) ?_
          refine jm_goto (tgt := 42) C dX11_looksOf_38 (by decide) ?_
          refine jm_iadd C dX11_looksOf_42 ?_
          refine jm_istore_n (lv' := [(0, .ref m0), (1, .int l0), (2, .int q), (3, .int (a + 1)), (4, .int (nI i))]) C dX11_looksOf_43 (by decide) rfl ?_
          refine jm_iinc (lv' := [(0, .ref m0), (1, .int l0), (2, .int q), (3, .int (a + 1)), (4, .int (nI (i + 1)))]) C dX11_looksOf_44 rfl (nI_1 _) (by decide) rfl ?_
          refine jm_goto (tgt := 5) C dX11_looksOf_47 (by decide) ?_
          exact ih k (i + 1) _ (by omega) (by omega) (he.trans (flp_s (by simp [gLooks, c_23, c_34])))
set_option maxHeartbeats 4000000 in
set_option maxRecDepth 100000 in
theorem c_looksOf {l : Launch} {D : va_G} {cy : Nat → ClassId} {m0 : Nat} {ad : Nat → Nat} {S : Nat → Nat → Int32} (l0 q : Int32) {nk : Nat} (hk : S 7 0 = nI nk) (hnk : nk ≤ 300) : mI l D cy yX11_looksOf (.code yX11_looksOf cX11_looksOf 5 ((Option.some FieldType.int))) 1 m0 ad [.int l0, .int q] S (fun r S' => r = looksS S l0 q nk ∧ S' = S) := by
  refine m_ofI rfl (Nat.le_of_ble_eq_true rfl) (fun p e s m args below meth c A Q h0 C ret => ?_)
  refine jm_iconst (v := 0) C dX11_looksOf_0 (by decide) ?_
  refine jm_istore_n (lv' := [(0, .ref m0), (1, .int l0), (2, .int q), (3, .int 0)]) C dX11_looksOf_1 (by decide) rfl ?_
  refine jm_iconst (v := 0) C dX11_looksOf_2 (by decide) ?_
  refine jm_istore (lv' := [(0, .ref m0), (1, .int l0), (2, .int q), (3, .int 0), (4, .int 0)]) C dX11_looksOf_3 (by decide) rfl ?_
  exact L_looksOf C hk hnk ret (nk + 1) nk 0 0 (by omega) (by omega) rfl
