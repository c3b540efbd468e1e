set_option maxHeartbeats 4000000 in
set_option maxRecDepth 100000 in
theorem c_isIn0s {l : Launch} {D : va_G} {cy : Nat → ClassId} {m0 : Nat} {ad : Nat → Nat} {S : Nat → Nat → Int32} {nl : Nat} (hl : S 2 0 = nI nl) (hnl : nl ≤ 200) (hA : ∀ q, q < nl → S 26 q = -1 ∨ ∃ j, j < q ∧ S 26 q = nI j) (hB : ∀ q, q < nl → S 27 q = -1 ∨ ∃ j, j < q ∧ S 27 q = nI j) (z : Nat → Int32) {a b : Nat} (ha : a < nl) (hb : b < nl) : mI l D cy yX11_isIn (.code yX11_isIn cX11_isIn 5 ((Option.some FieldType.boolean))) 5 m0 ad [.int 0, .int (nI a), .int (nI b)] (W46 S z) (fun r S' => r = bI (in0 S nl a b) ∧ ∃ z', S' = W46 S z') := by
  refine m_ofZ rfl (Nat.le_of_ble_eq_true rfl) (fun p e s m args below meth c A Q h0 C ret => ?_)
  refine jm_iload_n C dX11_isIn_0 rfl ?_
  refine jm_if_ne (tgt := 11) C dX11_isIn_1 (by decide) (fun c_1 => ?_) (fun c_1 => ?_)
  · exact absurd rfl c_1
  refine jm_aload_n C dX11_isIn_4 rfl ?_
  refine jm_iload_n C dX11_isIn_5 rfl ?_
  refine jm_iload_n C dX11_isIn_6 rfl ?_
  refine jm_calli (As := [.int (nI a), .int (nI b)]) (rest := []) C fG_X11_229 (c_isOf hl hnl hA hB z ha ((nI b))) rfl rfl (Nat.le_of_ble_eq_true rfl) ⟨Nat.le_of_ble_eq_true rfl, Nat.le_of_ble_eq_true rfl⟩ dX11_isIn_7 (fun r_7 S_7 e_7 => ?_)
  obtain ⟨e1_7, z_7, e2_7⟩ := e_7
  subst e1_7
  subst e2_7
  exact ret _ _ _ _ ⟨rfl, _, rfl⟩ (bI_01 _) dX11_isIn_10
set_option maxHeartbeats 4000000 in
set_option maxRecDepth 100000 in
theorem c_isIn1s {l : Launch} {D : va_G} {cy : Nat → ClassId} {m0 : Nat} {ad : Nat → Nat} {S : Nat → Nat → Int32} {nl : Nat} (hl : S 2 0 = nI nl) (hnl : nl ≤ 200) (hA : ∀ q, q < nl → S 26 q = -1 ∨ ∃ j, j < q ∧ S 26 q = nI j) (hB : ∀ q, q < nl → S 27 q = -1 ∨ ∃ j, j < q ∧ S 27 q = nI j) (z : Nat → Int32) {a b : Nat} (ha : a < nl) (hb : b < nl) : mI l D cy yX11_isIn (.code yX11_isIn cX11_isIn 5 ((Option.some FieldType.boolean))) 5 m0 ad [.int 1, .int (nI a), .int (nI b)] (W46 S z) (fun r S' => r = bI (in1 S nl a b) ∧ ∃ z', S' = W46 S z') := by
  refine m_ofZ rfl (Nat.le_of_ble_eq_true rfl) (fun p e s m args below meth c A Q h0 C ret => ?_)
  refine jm_iload_n C dX11_isIn_0 rfl ?_
  refine jm_if_ne (tgt := 11) C dX11_isIn_1 (by decide) (fun c_1 => ?_) (fun c_1 => ?_)
  · refine jm_iload_n C dX11_isIn_11 rfl ?_
    refine jm_iconst (v := 1) C dX11_isIn_12 (by decide) ?_
    refine jm_icmp_ne (tgt := 36) C dX11_isIn_13 (by decide) (fun c_13 => ?_) (fun c_13 => ?_)
    · exact (show False by revert c_13; decide).elim
    refine jm_iload_n C dX11_isIn_16 rfl ?_
    refine jm_iload_n C dX11_isIn_17 rfl ?_
    refine jm_icmp_eq (tgt := 34) C dX11_isIn_18 (by decide) (fun c_18 => ?_) (fun c_18 => ?_)
    · refine jm_iconst (v := 0) C dX11_isIn_34 (by decide) ?_
      exact ret _ _ _ _ ⟨(bI_f (fun q => q.1 c_18)).symm, _, rfl⟩ (by decide) dX11_isIn_35
    · refine jm_aload_n C dX11_isIn_21 rfl ?_
      refine jm_iload_n C dX11_isIn_22 rfl ?_
      refine jm_iload_n C dX11_isIn_23 rfl ?_
      refine jm_calli (As := [.int (nI b), .int (nI a)]) (rest := []) C fG_X11_229 (c_isOf hl hnl hA hB z hb ((nI a))) rfl rfl (Nat.le_of_ble_eq_true rfl) ⟨Nat.le_of_ble_eq_true rfl, Nat.le_of_ble_eq_true rfl⟩ dX11_isIn_24 (fun r_24 S_24 e_24 => ?_)
      obtain ⟨e1_24, z_24, e2_24⟩ := e_24
      subst e1_24
      subst e2_24
      refine jm_ifeq_b (tgt := 34) C dX11_isIn_27 (by decide) (fun c_27 => ?_) (fun c_27 => ?_)
      · refine jm_iconst (v := 0) C dX11_isIn_34 (by decide) ?_
        exact ret _ _ _ _ ⟨(bI_f (fun q => c_27 q.2)).symm, _, rfl⟩ (by decide) dX11_isIn_35
      · refine jm_iconst (v := 1) C dX11_isIn_30 (by decide) ?_
        refine jm_goto (tgt := 35) C dX11_isIn_31 (by decide) ?_
        exact ret _ _ _ _ ⟨(bI_t ⟨c_18, c_27⟩).symm, _, rfl⟩ (by decide) dX11_isIn_35
  · exact absurd c_1 (by decide)
def inB (S : Nat → Nat → Int32) (nl b : Nat) (row : Int32) (a : Nat) : Bool := if row = 0 then decide (in0 S nl a b) else if row = 1 then decide (in1 S nl a b) else decide (in2 S nl a b)
def tch (p : Nat → Bool) (t : Int32) : Nat → Nat → Int32 → Int32
  | _, 0, _ => -1
  | i, k + 1, n => if p i = true then (if n = t then nI i else tch p t (i + 1) k (n + 1)) else tch p t (i + 1) k n
theorem tch_s {p : Nat → Bool} {t : Int32} {i k : Nat} {n : Int32} : tch p t i (k + 1) n = if p i = true then (if n = t then nI i else tch p t (i + 1) k (n + 1)) else tch p t (i + 1) k n := rfl
def m_touched (S : Nat → Nat → Int32) (lt row t : Int32) (nl : Nat) : Int32 := if (0 ≤ lt ∧ lt ≤ S 2 0 - 1) ∧ (0 ≤ row ∧ row ≤ 2) ∧ 0 ≤ t then tch (inB S nl lt.toNatClampNeg row) t 0 nl 0 else -1
theorem bI_bb {P : Prop} [Decidable P] {b : Bool} (h : b = decide P) : bI P = bI (b = true) := by subst h; exact bI_dec P
theorem row3 {x : Int32} (h : 0 ≤ x ∧ x ≤ 2) : x = 0 ∨ x = 1 ∨ x = 2 := by
  obtain ⟨j, h1, h2⟩ := nI_of2 (M := 2) (n := 2) (by decide) (Int32.not_lt.mpr h.1) h.2
  subst h2
  rcases (show j = 0 ∨ j = 1 ∨ j = 2 by omega) with rfl | rfl | rfl
  · exact Or.inl rfl
  · exact Or.inr (Or.inl rfl)
  · exact Or.inr (Or.inr rfl)
set_option maxHeartbeats 4000000 in
set_option maxRecDepth 100000 in
theorem L_touched {p : Program} {l : Launch} {e : Env} {s : State} {m : MethodId} {args : Array Value} {below : List Frame} {meth : Method} {c : Code} {D : va_G} {cy : Nat → ClassId} {A : Nat → Prop} {Q : State → Prop} {m0 : Nat} {ad : Nat → Nat} {h0 : jH} {S : Nat → Nat → Int32} (C : jC p s m args meth c D cy A 6 RX11 cX11_touched) {row t v0 : Int32} {nl b : Nat} (hl : S 2 0 = nI nl) (hnl : nl ≤ 200) (hI : ∀ (z : Nat → Int32) (a : Nat), a < nl → mI l D cy yX11_isIn (.code yX11_isIn cX11_isIn 5 ((Option.some FieldType.boolean))) 5 m0 ad [.int row, .int (nI a), .int (nI b)] (W46 S z) (fun r S' => r = bI (inB S nl b row a = true) ∧ ∃ z', S' = W46 S z')) (ret : ∀ (r : Int32) (S' : Nat → Nat → Int32) (lv : List (Nat × Value)) (pc : Nat), (r = v0 ∧ ∃ z', S' = W46 S z') → decode cX11_touched pc = .ok (.ireturn, 1) → jM p l e (rmd 6 0 0) s m args below meth c D cy A 6 Q m0 ad h0 S' lv pc [.int r]) : ∀ (n k i : Nat) (z : Nat → Int32) (a : Int32), k < n → i + k = nl → (v0 = tch (inB S nl b row) t i k a) → jM p l e (rmd 6 0 0) s m args below meth c D cy A 6 Q m0 ad h0 (W46 S z) [(0, .ref m0), (1, .int (nI b)), (2, .int row), (3, .int t), (4, .int a), (5, .int (nI i))] 29 [] := by
  intro n
  induction n with
  | zero => intro k i z a h1; exact absurd h1 (Nat.not_lt_zero _)
  | succ n ih =>
    intro k i z a h1 h2 he
    refine jm_iload C dX11_touched_29 rfl ?_
    refine jm_aload_n C dX11_touched_31 rfl ?_
    refine jm_getSe (v := nI nl) C fF_X11_138 (by decide) hl dX11_touched_32 ?_
    refine jm_icmp_ge (tgt := 67) C dX11_touched_35 (by decide) (fun c_35 => ?_) (fun c_35 => ?_)
    · have hge : nl ≤ i := nI_ge_of c_35 (by omega) (by omega)
      obtain rfl : k = 0 := by omega
      refine jm_iconst (v := (-1)) C dX11_touched_67 (by decide) ?_
      exact ret _ _ _ _ ⟨by rw [he]; rfl, _, rfl⟩ dX11_touched_68
    · have hlt : i < nl := nI_lt_of c_35 (by omega)
      obtain ⟨k, rfl⟩ : ∃ q, k = q + 1 := ⟨k - 1, by omega⟩
      refine jm_aload_n C dX11_touched_38 rfl ?_
      refine jm_iload_n C dX11_touched_39 rfl ?_
      refine jm_iload C dX11_touched_40 rfl ?_
      refine jm_iload_n C dX11_touched_42 rfl ?_
      refine jm_calli (As := [.int row, .int (nI i), .int (nI b)]) (rest := []) C fG_X11_232 (hI z i hlt) rfl rfl (Nat.le_of_ble_eq_true rfl) ⟨Nat.le_of_ble_eq_true rfl, Nat.le_of_ble_eq_true rfl⟩ dX11_touched_43 (fun r_43 S_43 e_43 => ?_)
      obtain ⟨e1_43, z_43, e2_43⟩ := e_43
      subst e1_43
      subst e2_43
      refine jm_ifeq_b (tgt := 61) C dX11_touched_46 (by decide) (fun c_46 => ?_) (fun c_46 => ?_)
      · refine jm_iinc (lv' := [(0, .ref m0), (1, .int (nI b)), (2, .int row), (3, .int t), (4, .int a), (5, .int (nI (i + 1)))]) C dX11_touched_61 rfl (nI_1 _) (by decide) rfl ?_
        refine jm_goto (tgt := 29) C dX11_touched_64 (by decide) ?_
        exact ih k (i + 1) z_43 a (by omega) (by omega) (he.trans (by rw [tch_s, if_neg c_46]))
      · refine jm_iload C dX11_touched_49 rfl ?_
        refine jm_iload_n C dX11_touched_51 rfl ?_
        refine jm_icmp_ne (tgt := 58) C dX11_touched_52 (by decide) (fun c_52 => ?_) (fun c_52 => ?_)
        · refine jm_iinc (lv' := [(0, .ref m0), (1, .int (nI b)), (2, .int row), (3, .int t), (4, .int (a + 1)), (5, .int (nI i))]) C dX11_touched_58 rfl rfl (by decide) rfl ?_
          refine jm_iinc (lv' := [(0, .ref m0), (1, .int (nI b)), (2, .int row), (3, .int t), (4, .int (a + 1)), (5, .int (nI (i + 1)))]) C dX11_touched_61 rfl (nI_1 _) (by decide) rfl ?_
          refine jm_goto (tgt := 29) C dX11_touched_64 (by decide) ?_
          exact ih k (i + 1) z_43 (a + 1) (by omega) (by omega) (he.trans (by rw [tch_s, if_pos c_46, if_neg c_52]))
        · refine jm_iload C dX11_touched_55 rfl ?_
          exact ret _ _ _ _ ⟨by rw [he, tch_s, if_pos c_46, if_pos c_52], _, rfl⟩ dX11_touched_57
set_option maxHeartbeats 4000000 in
set_option maxRecDepth 100000 in
theorem c_touched {l : Launch} {D : va_G} {cy : Nat → ClassId} {m0 : Nat} {ad : Nat → Nat} {S : Nat → Nat → Int32} (lt row t : Int32) {nl : Nat} (hl : S 2 0 = nI nl) (hnl : nl ≤ 200) (hA : ∀ q, q < nl → S 26 q = -1 ∨ ∃ j, j < q ∧ S 26 q = nI j) (hB : ∀ q, q < nl → S 27 q = -1 ∨ ∃ j, j < q ∧ S 27 q = nI j) : mI l D cy yX11_touched (.code yX11_touched cX11_touched 6 ((Option.some FieldType.int))) 6 m0 ad [.int lt, .int row, .int t] S (fun r S' => r = m_touched S lt row t nl ∧ ∃ z', S' = W46 S z') := by
  refine m_ofI rfl (Nat.le_of_ble_eq_true rfl) (fun p e s m args below meth c A Q h0 C ret => ?_)
  refine jm_aload_n C dX11_touched_0 rfl ?_
  refine jm_iload_n C dX11_touched_1 rfl ?_
  refine jm_calli (As := [.int lt]) (rest := []) C fG_X11_186 (c_isLot (lt)) rfl rfl (Nat.le_of_ble_eq_true rfl) ⟨Nat.le_of_ble_eq_true rfl, Nat.le_of_ble_eq_true rfl⟩ dX11_touched_2 (fun r_2 S_2 e_2 => ?_)
  obtain ⟨e1_2, e2_2⟩ := e_2
  subst e1_2
  replace e2_2 := e2_2.symm
  subst e2_2
  refine jm_ifeq_b (tgt := 21) C dX11_touched_5 (by decide) (fun c_5 => ?_) (fun c_5 => ?_)
  · refine jm_iconst (v := (-1)) C dX11_touched_21 (by decide) ?_
    exact ret _ _ _ _ ⟨by rw [m_touched, if_neg (fun q => c_5 q.1)], S 46, (W46_self S).symm⟩ dX11_touched_22
  · refine jm_iload_n C dX11_touched_8 rfl ?_
    refine jm_iconst (v := 0) C dX11_touched_9 (by decide) ?_
    refine jm_iconst (v := 2) C dX11_touched_10 (by decide) ?_
    refine jm_calls (As := [.int row, .int 0, .int 2]) (rest := []) C fG_X11_134 (c_in (row) (0) (2)) rfl rfl (Nat.le_of_ble_eq_true rfl) ⟨Nat.le_of_ble_eq_true rfl, Nat.le_of_ble_eq_true rfl⟩ dX11_touched_11 (fun r_11 e_11 => ?_)
    subst e_11
    refine jm_ifeq_b (tgt := 21) C dX11_touched_14 (by decide) (fun c_14 => ?_) (fun c_14 => ?_)
    · refine jm_iconst (v := (-1)) C dX11_touched_21 (by decide) ?_
      exact ret _ _ _ _ ⟨by rw [m_touched, if_neg (fun q => c_14 q.2.1)], S 46, (W46_self S).symm⟩ dX11_touched_22
    · refine jm_iload_n C dX11_touched_17 rfl ?_
      refine jm_if_ge (tgt := 23) C dX11_touched_18 (by decide) (fun c_18 => ?_) (fun c_18 => ?_)
      · refine jm_iconst (v := 0) C dX11_touched_23 (by decide) ?_
        refine jm_istore (lv' := [(0, .ref m0), (1, .int lt), (2, .int row), (3, .int t), (4, .int 0)]) C dX11_touched_24 (by decide) rfl ?_
        refine jm_iconst (v := 0) C dX11_touched_26 (by decide) ?_
        refine jm_istore (lv' := [(0, .ref m0), (1, .int lt), (2, .int row), (3, .int t), (4, .int 0), (5, .int 0)]) C dX11_touched_27 (by decide) rfl ?_
        obtain ⟨b, hb, rfl⟩ := in_ix (x := lt) (n := nl) (by omega) (by rw [← hl]; exact c_5)
        rw [← W46_self S]
        refine L_touched (row := row) (b := b) C hl hnl ?_ ret (nl + 1) nl 0 (S 46) 0 (by omega) (by omega) ?_
        · intro z a ha
          rcases row3 c_14 with rfl | rfl | rfl
          · have q := c_isIn0s (l := l) (D := D) (cy := cy) (m0 := m0) (ad := ad) hl hnl hA hB z ha hb
            rw [bI_bb (b := inB S nl b 0 a) (by simp [inB])] at q
            exact q
          · have q := c_isIn1s (l := l) (D := D) (cy := cy) (m0 := m0) (ad := ad) hl hnl hA hB z ha hb
            rw [bI_bb (b := inB S nl b 1 a) (by simp [inB])] at q
            exact q
          · have q := c_isIn2 (l := l) (D := D) (cy := cy) (m0 := m0) (ad := ad) hl hnl hA hB z ha hb
            rw [bI_bb (b := inB S nl b 2 a) (by simp [inB])] at q
            exact q
        · rw [m_touched, if_pos ⟨c_5, c_14, c_18⟩, nI_clamp (by omega)]
      · refine jm_iconst (v := (-1)) C dX11_touched_21 (by decide) ?_
        exact ret _ _ _ _ ⟨by rw [m_touched, if_neg (fun q => c_18 q.2.2)], S 46, (W46_self S).symm⟩ dX11_touched_22
def gBuy (S : Nat → Nat → Int32) (lt : Int32) (nl : Nat) (b : Nat) (bits : Int32) : Int32 := if ¬ S 41 b = -1 ∧ ¬ rowsV S lt nl (S 38 b).toNatClampNeg ≤ 0 then bits ||| (1 <<< (S 41 b &&& 31)) else bits
def m_buyers (S : Nat → Nat → Int32) (lt : Int32) (nl nb : Nat) : Int32 := if 0 ≤ lt ∧ lt ≤ S 2 0 - 1 then flp (gBuy S lt nl) 0 nb 0 else 0
theorem bl_vp {S : Nat → Nat → Int32} {nl nb : Nat} (h : ∀ q, q < nb → ∃ j, j < nl ∧ S 38 q = nI j) (hnl : nl ≤ 200) {q : Nat} (hq : q < nb) : vp_in (S 38 q) 200 := by
  obtain ⟨j, hj, e⟩ := h q hq
  rw [e]; exact vp_in_nI (by omega) (by decide)
set_option maxHeartbeats 4000000 in
set_option maxRecDepth 100000 in
theorem L_buyers {p : Program} {l : Launch} {e : Env} {R : Room} {s : State} {m : MethodId} {args : Array Value} {below : List Frame} {meth : Method} {c : Code} {D : va_G} {cy : Nat → ClassId} {A : Nat → Prop} {Q : State → Prop} {m0 : Nat} {ad : Nat → Nat} {h0 : jH} {S : Nat → Nat → Int32} (C : jC p s m args meth c D cy A 4 RX11 cX11_buyers) {lt : Int32} {nl nb : Nat} {z : Nat → Int32} (hb : S 3 0 = nI nb) (hnb : nb ≤ 200) (hnl : nl ≤ 200) (hbl : ∀ q, q < nb → ∃ j, j < nl ∧ S 38 q = nI j) (hzr : ∀ q, z q = rowsV S lt nl q) {v0 : Int32} (ret : ∀ (r : Int32) (S' : Nat → Nat → Int32) (lv : List (Nat × Value)) (pc : Nat), (r = v0 ∧ ∃ z', S' = W46 S z') → decode cX11_buyers pc = .ok (.ireturn, 1) → jM p l e R s m args below meth c D cy A 4 Q m0 ad h0 S' lv pc [.int r]) : ∀ (n k i : Nat) (a : Int32), k < n → i + k = nb → (v0 = flp (gBuy S lt nl) i k a) → jM p l e R s m args below meth c D cy A 4 Q m0 ad h0 (W46 S z) [(0, .ref m0), (1, .int lt), (2, .int a), (3, .int (nI i))] 19 [] := by
  intro n
  induction n with
  | zero => intro k i a h1; exact absurd h1 (Nat.not_lt_zero _)
  | succ n ih =>
    intro k i a h1 h2 he
    refine jm_iload_n C dX11_buyers_19 rfl ?_
    refine jm_aload_n C dX11_buyers_20 rfl ?_
    refine jm_getSe (v := nI nb) C fF_X11_190 (by decide) hb dX11_buyers_21 ?_
    refine jm_icmp_ge (tgt := 68) C dX11_buyers_24 (by decide) (fun c_24 => ?_) (fun c_24 => ?_)
    · have hge : nb ≤ i := nI_ge_of c_24 (by omega) (by omega)
      obtain rfl : k = 0 := by omega
      refine jm_iload_n C dX11_buyers_68 rfl ?_
      exact ret _ _ _ _ ⟨by rw [he]; rfl, _, rfl⟩ dX11_buyers_69
    · have hlt : i < nb := nI_lt_of c_24 (by omega)
      obtain ⟨k, rfl⟩ : ∃ q, k = q + 1 := ⟨k - 1, by omega⟩
      refine jm_aload_n C dX11_buyers_27 rfl ?_
      refine jm_getA C fF_X11_106 (by decide) (by decide) dX11_buyers_28 ?_
      refine jm_iload_n C dX11_buyers_31 rfl ?_
      refine jm_aldN C 41 (n := 200) (by decide) (by decide) rfl (by omega) dX11_buyers_32 ?_
      refine jm_iconst (v := (-1)) C dX11_buyers_33 (by decide) ?_
      refine jm_icmp_eq (tgt := 62) C dX11_buyers_34 (by decide) (fun c_34 => ?_) (fun c_34 => ?_)
      · refine jm_iinc (lv' := [(0, .ref m0), (1, .int lt), (2, .int a), (3, .int (nI (i + 1)))]) C dX11_buyers_62 rfl (nI_1 _) (by decide) rfl ?_
        refine jm_goto (tgt := 19) C dX11_buyers_65 (by decide) ?_
        exact ih k (i + 1) _ (by omega) (by omega) (he.trans (flp_s (by rw [gBuy, if_neg (fun q => q.1 c_34)])))
      · refine jm_aload_n C dX11_buyers_37 rfl ?_
        refine jm_getA C fF_X11_121 (by decide) (by decide) dX11_buyers_38 ?_
        refine jm_aload_n C dX11_buyers_41 rfl ?_
        refine jm_getA C fF_X11_97 (by decide) (by decide) dX11_buyers_42 ?_
        refine jm_iload_n C dX11_buyers_45 rfl ?_
        refine jm_aldN C 38 (n := 200) (by decide) (by decide) rfl (by omega) dX11_buyers_46 ?_
        refine jm_ald C 46 (n := 200) (by decide) (by decide) rfl (bl_vp hbl hnl hlt) dX11_buyers_47 ?_
        refine jm_if_le (tgt := 62) C dX11_buyers_48 (by decide) (fun c_48 => ?_) (fun c_48 => ?_)
        · refine jm_iinc (lv' := [(0, .ref m0), (1, .int lt), (2, .int a), (3, .int (nI (i + 1)))]) C dX11_buyers_62 rfl (nI_1 _) (by decide) rfl ?_
          refine jm_goto (tgt := 19) C dX11_buyers_65 (by decide) ?_
          exact ih k (i + 1) _ (by omega) (by omega) (he.trans (flp_s (by rw [gBuy, if_neg (fun q => q.2 (by rw [← hzr]; exact c_48))])))
        · refine jm_iload_n C dX11_buyers_51 rfl ?_
          refine jm_iconst (v := 1) C dX11_buyers_52 (by decide) ?_
          refine jm_aload_n C dX11_buyers_53 rfl ?_
          refine jm_getA C fF_X11_106 (by decide) (by decide) dX11_buyers_54 ?_
          refine jm_iload_n C dX11_buyers_57 rfl ?_
          refine jm_aldN C 41 (n := 200) (by decide) (by decide) rfl (by omega) dX11_buyers_58 ?_
          refine jm_ishl C dX11_buyers_59 ?_
          refine jm_ior C dX11_buyers_60 ?_
          refine jm_istore_n (lv' := [(0, .ref m0), (1, .int lt), (2, .int (a ||| (1 <<< (((W46 S z) 41 i) &&& 31)))), (3, .int (nI i))]) C dX11_buyers_61 (by decide) rfl ?_
          refine jm_iinc (lv' := [(0, .ref m0), (1, .int lt), (2, .int (a ||| (1 <<< (((W46 S z) 41 i) &&& 31)))), (3, .int (nI (i + 1)))]) C dX11_buyers_62 rfl (nI_1 _) (by decide) rfl ?_
          refine jm_goto (tgt := 19) C dX11_buyers_65 (by decide) ?_
          exact ih k (i + 1) _ (by omega) (by omega) (he.trans (flp_s (by rw [gBuy, if_pos ⟨c_34, by rw [← hzr]; exact c_48⟩]; rfl)))
set_option maxHeartbeats 4000000 in
set_option maxRecDepth 100000 in
theorem c_buyers {l : Launch} {D : va_G} {cy : Nat → ClassId} {m0 : Nat} {ad : Nat → Nat} {S : Nat → Nat → Int32} (lt : Int32) {nl : Nat} (hl : S 2 0 = nI nl) (hnl : nl ≤ 200) {nb : Nat} (hb : S 3 0 = nI nb) (hnb : nb ≤ 200) (hA : ∀ q, q < nl → S 26 q = -1 ∨ ∃ j, j < q ∧ S 26 q = nI j) (hB : ∀ q, q < nl → S 27 q = -1 ∨ ∃ j, j < q ∧ S 27 q = nI j) (hbl : ∀ q, q < nb → ∃ j, j < nl ∧ S 38 q = nI j) : mI l D cy yX11_buyers (.code yX11_buyers cX11_buyers 4 ((Option.some FieldType.int))) 3 m0 ad [.int lt] S (fun r S' => r = m_buyers S lt nl nb ∧ ∃ z', S' = W46 S z') := by
  refine m_ofI rfl (Nat.le_of_ble_eq_true rfl) (fun p e s m args below meth c A Q h0 C ret => ?_)
  refine jm_aload_n C dX11_buyers_0 rfl ?_
  refine jm_iload_n C dX11_buyers_1 rfl ?_
  refine jm_calli (As := [.int lt]) (rest := []) C fG_X11_186 (c_isLot (lt)) rfl rfl (Nat.le_of_ble_eq_true rfl) ⟨Nat.le_of_ble_eq_true rfl, Nat.le_of_ble_eq_true rfl⟩ dX11_buyers_2 (fun r_2 S_2 e_2 => ?_)
  obtain ⟨e1_2, e2_2⟩ := e_2
  subst e1_2
  replace e2_2 := e2_2.symm
  subst e2_2
  refine jm_ifne_b (tgt := 10) C dX11_buyers_5 (by decide) (fun c_5 => ?_) (fun c_5 => ?_)
  · refine jm_aload_n C dX11_buyers_10 rfl ?_
    refine jm_iload_n C dX11_buyers_11 rfl ?_
    refine jm_callv (As := [.int lt]) (rest := []) C fG_X11_225 (c_rowsTo (lt) hl hnl (mo_vp hA hnl) (mo_vp hB hnl)) rfl rfl (Nat.le_of_ble_eq_true rfl) ⟨Nat.le_of_ble_eq_true rfl, Nat.le_of_ble_eq_true rfl⟩ dX11_buyers_12 (fun S_12 e_12 => ?_)
    subst e_12
    obtain ⟨z_12, hz_12⟩ := rowsS_W S (lt) nl (S 46)
    rw [W46_self] at hz_12
    rw [hz_12]
    have hr_12 : ∀ q, z_12 q = rowsV S (lt) nl q := fun q => by rw [rowsV, hz_12]; rfl
    refine jm_iconst (v := 0) C dX11_buyers_15 (by decide) ?_
    refine jm_istore_n (lv' := [(0, .ref m0), (1, .int lt), (2, .int 0)]) C dX11_buyers_16 (by decide) rfl ?_
    refine jm_iconst (v := 0) C dX11_buyers_17 (by decide) ?_
    refine jm_istore_n (lv' := [(0, .ref m0), (1, .int lt), (2, .int 0), (3, .int 0)]) C dX11_buyers_18 (by decide) rfl ?_
    exact L_buyers C hb hnb hnl hbl hr_12 ret (nb + 1) nb 0 0 (by omega) (by omega) (by rw [m_buyers, if_pos c_5])
  · refine jm_iconst (v := 0) C dX11_buyers_8 (by decide) ?_
    exact ret _ _ _ _ ⟨by rw [m_buyers, if_neg c_5], S 46, (W46_self S).symm⟩ dX11_buyers_9
