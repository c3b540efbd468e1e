theorem flp_inv {α : Type} {g : Nat → α → α} (P : Nat → α → Prop) : ∀ (k i : Nat) (a : α), P i a → (∀ j b, i ≤ j → j < i + k → P j b → P (j + 1) (g j b)) → P (i + k) (flp g i k a)
  | 0, _, _, h, _ => h
  | k + 1, i, a, h, hs => by
    have h2 := flp_inv P k (i + 1) (g i a) (hs i a (Nat.le_refl _) (by omega) h) (fun j b h1 h2 => hs j b (by omega) (by omega))
    rw [show i + (k + 1) = i + 1 + k by omega]
    exact h2
/-- S, with another row 46 -/
def W46 (S : Nat → Nat → Int32) (z : Nat → Int32) : Nat → Nat → Int32 := fun k i => if k = 46 then z i else S k i
theorem W46_self (S : Nat → Nat → Int32) : W46 S (S 46) = S := by
  funext k i
  unfold W46
  split
  · next h => rw [h]
  · rfl
theorem W46_u (S : Nat → Nat → Int32) (z : Nat → Int32) (i : Nat) (v : Int32) : u2 (W46 S z) 46 i v = W46 S (upd z i v) := by
  funext k j
  unfold u2 W46 upd
  by_cases h : k = 46
  · simp [h]
  · simp [h]
theorem gRows_W (S : Nat → Nat → Int32) (to : Int32) (i : Nat) (z : Nat → Int32) : ∃ v, gRows to i (W46 S z) = W46 S (upd z i v) := by
  unfold gRows
  repeat' split
  all_goals exact ⟨_, W46_u _ _ _ _⟩
theorem rowsS_W (S : Nat → Nat → Int32) (to : Int32) (nl : Nat) (z : Nat → Int32) : ∃ z', rowsS (W46 S z) to nl = W46 S z' := by
  refine flp_inv (P := fun _ T => ∃ z', T = W46 S z') nl 0 _ ⟨z, rfl⟩ (fun j b _ _ hb => ?_)
  obtain ⟨z', rfl⟩ := hb
  obtain ⟨v, hv⟩ := gRows_W S to j z'
  exact ⟨_, hv⟩
/-- what rowsTo finds doesn't lean on what lay in row 46 -/
theorem rows_ind {S : Nat → Nat → Int32} {nl : Nat} (hA : ∀ q, q < nl → S 26 q = -1 ∨ ∃ j, j < q ∧ S 26 q = nI j) (hB : ∀ q, q < nl → S 27 q = -1 ∨ ∃ j, j < q ∧ S 27 q = nI j) (to : Int32) (hnl : nl < 2 ^ 31) : ∀ (k i : Nat) (z w : Nat → Int32), i + k = nl → (∀ a, a < i → z a = w a) → ∀ a, a < nl → flp (gRows to) i k (W46 S z) 46 a = flp (gRows to) i k (W46 S w) 46 a
  | 0, i, z, w, hi, h, a, ha => h a (by omega)
  | k + 1, i, z, w, hi, h, a, ha => by
    have e : ∃ v, gRows to i (W46 S z) = W46 S (upd z i v) ∧ gRows to i (W46 S w) = W46 S (upd w i v) := by
      have hm : ∀ r, (r = 26 ∨ r = 27) → ¬ S r i = -1 → z (S r i).toNatClampNeg = w (S r i).toNatClampNeg := by
        intro r hr hne
        have : ∃ j, j < i ∧ S r i = nI j := by
          rcases hr with rfl | rfl
          · exact (hA i (by omega)).resolve_left hne
          · exact (hB i (by omega)).resolve_left hne
        obtain ⟨j, hj, ej⟩ := this
        rw [ej, nI_clamp (by omega)]
        exact h j hj
      have e26 : ∀ y, W46 S y 26 i = S 26 i := fun _ => rfl
      have e27 : ∀ y, W46 S y 27 i = S 27 i := fun _ => rfl
      have e46 : ∀ (y : Nat → Int32) a, W46 S y 46 a = y a := fun _ _ => rfl
      unfold gRows
      simp only [e26, e27, e46]
      by_cases c1 : nI i = to
      · simp only [if_pos c1]; exact ⟨_, W46_u _ _ _ _, W46_u _ _ _ _⟩
      · simp only [if_neg c1]
        by_cases c2 : S 26 i = -1
        · simp only [if_pos c2]
          by_cases c3 : S 27 i = -1
          · simp only [if_pos c3]; exact ⟨_, W46_u _ _ _ _, W46_u _ _ _ _⟩
          · simp only [if_neg c3, hm 27 (Or.inr rfl) c3]; exact ⟨_, W46_u _ _ _ _, W46_u _ _ _ _⟩
        · simp only [if_neg c2, hm 26 (Or.inl rfl) c2]
          by_cases c3 : S 27 i = -1
          · simp only [if_pos c3]; exact ⟨_, W46_u _ _ _ _, W46_u _ _ _ _⟩
          · simp only [if_neg c3, hm 27 (Or.inr rfl) c3]; exact ⟨_, W46_u _ _ _ _, W46_u _ _ _ _⟩
    obtain ⟨v, e1, e2⟩ := e
    show flp (gRows to) (i + 1) k (gRows to i (W46 S z)) 46 a = flp (gRows to) (i + 1) k (gRows to i (W46 S w)) 46 a
    rw [e1, e2]
    refine rows_ind hA hB to hnl k (i + 1) _ _ (by omega) (fun b hb => ?_) a ha
    unfold upd
    by_cases hbi : b = i
    · simp [hbi]
    · simp [hbi]; exact h b (by omega)
/-- how many rows of mothers lead from lot a to 'to' -/
def rowsV (S : Nat → Nat → Int32) (to : Int32) (nl a : Nat) : Int32 := rowsS S to nl 46 a
theorem rowsV_W {S : Nat → Nat → Int32} {nl : Nat} (hA : ∀ q, q < nl → S 26 q = -1 ∨ ∃ j, j < q ∧ S 26 q = nI j) (hB : ∀ q, q < nl → S 27 q = -1 ∨ ∃ j, j < q ∧ S 27 q = nI j) (hnl : nl ≤ 200) (to : Int32) (z : Nat → Int32) {a : Nat} (ha : a < nl) : rowsS (W46 S z) to nl 46 a = rowsV S to nl a := by
  unfold rowsV
  conv => rhs; rw [← W46_self S]
  exact rows_ind hA hB to (by omega) nl 0 z (S 46) (by omega) (fun a h => absurd h (Nat.not_lt_zero _)) a ha
abbrev ofP (S : Nat → Nat → Int32) (nl a : Nat) (to : Int32) : Prop := ¬ rowsV S to nl a ≤ 0
theorem mo_vp {S : Nat → Nat → Int32} {nl r : Nat} (h : ∀ q, q < nl → S r q = -1 ∨ ∃ j, j < q ∧ S r q = nI j) (hnl : nl ≤ 200) : ∀ q, q < nl → S r q = -1 ∨ vp_in (S r q) 200 := fun q hq => (h q hq).imp id (fun z => by
  obtain ⟨j, hj, e⟩ := z
  rw [e]; exact vp_in_nI (by omega) (by decide))
set_option maxHeartbeats 4000000 in
set_option maxRecDepth 100000 in
theorem c_isOf {l : Launch} {D : va_G} {cy : Nat → ClassId} {m0 : Nat} {ad : Nat → Nat} {S : Nat → Nat → Int32} {nl : Nat} (hl : S 2 0 = nI nl) (hnl : nl ≤ 200) (hA : ∀ q, q < nl → S 26 q = -1 ∨ ∃ j, j < q ∧ S 26 q = nI j) (hB : ∀ q, q < nl → S 27 q = -1 ∨ ∃ j, j < q ∧ S 27 q = nI j) (z : Nat → Int32) {a : Nat} (ha : a < nl) (to : Int32) : mI l D cy yX11_isOf (.code yX11_isOf cX11_isOf 3 ((Option.some FieldType.boolean))) 3 m0 ad [.int (nI a), .int to] (W46 S z) (fun r S' => r = bI (ofP S nl a to) ∧ ∃ z', S' = W46 S z') := by
  refine m_ofZ rfl (Nat.le_of_ble_eq_true rfl) (fun p e s m args below meth c A Q h0 C ret => ?_)
  refine jm_aload_n C dX11_isOf_0 rfl ?_
  refine jm_iload_n C dX11_isOf_1 rfl ?_
  refine jm_callv (As := [.int to]) (rest := []) C fG_X11_225 (c_rowsTo (to) hl hnl (mo_vp hA hnl) (mo_vp hB hnl)) rfl rfl (Nat.le_of_ble_eq_true rfl) ⟨Nat.le_of_ble_eq_true rfl, Nat.le_of_ble_eq_true rfl⟩ dX11_isOf_2 (fun S_2 e_2 => ?_)
  subst e_2
  refine jm_aload_n C dX11_isOf_5 rfl ?_
  refine jm_getA C fF_X11_121 (by decide) (by decide) dX11_isOf_6 ?_
  refine jm_iload_n C dX11_isOf_9 rfl ?_
  refine jm_aldN C 46 (n := 200) (by decide) (by decide) rfl (by omega) dX11_isOf_10 ?_
  refine jm_if_le (tgt := 18) C dX11_isOf_11 (by decide) (fun c_11 => ?_) (fun c_11 => ?_)
  · refine jm_iconst (v := 0) C dX11_isOf_18 (by decide) ?_
    exact ret _ _ _ _ ⟨(bI_f (fun q => q (by rw [← rowsV_W hA hB hnl to z ha]; exact c_11))).symm, rowsS_W S to nl z⟩ (by decide) dX11_isOf_19
  · refine jm_iconst (v := 1) C dX11_isOf_14 (by decide) ?_
    refine jm_goto (tgt := 19) C dX11_isOf_15 (by decide) ?_
    exact ret _ _ _ _ ⟨(bI_t (by rw [ofP, ← rowsV_W hA hB hnl to z ha]; exact c_11)).symm, rowsS_W S to nl z⟩ (by decide) dX11_isOf_19
abbrev in0 (S : Nat → Nat → Int32) (nl a b : Nat) : Prop := ofP S nl a (nI b)
abbrev in1 (S : Nat → Nat → Int32) (nl a b : Nat) : Prop := ¬ nI a = nI b ∧ ofP S nl b (nI a)
abbrev sisP (S : Nat → Nat → Int32) (nl a b : Nat) : Prop := (¬ S 26 b = -1 ∧ ofP S nl a (S 26 b)) ∨ (¬ S 27 b = -1 ∧ ofP S nl a (S 27 b))
abbrev in2 (S : Nat → Nat → Int32) (nl a b : Nat) : Prop := sisP S nl a b ∧ ¬ in0 S nl a b ∧ ¬ in1 S nl a b
set_option maxHeartbeats 4000000 in
set_option maxRecDepth 100000 in
theorem c_isIn0 {l : Launch} {D : va_G} {cy : Nat → ClassId} {m0 : Nat} {ad : Nat → Nat} {S : Nat → Nat → Int32} {nl : Nat} (hl : S 2 0 = nI nl) (hnl : nl ≤ 200) (hA : ∀ q, q < nl → S 26 q = -1 ∨ ∃ j, j < q ∧ S 26 q = nI j) (hB : ∀ q, q < nl → S 27 q = -1 ∨ ∃ j, j < q ∧ S 27 q = nI j) (z : Nat → Int32) {a b : Nat} (ha : a < nl) (hb : b < nl) : mI l D cy yX11_isIn (.code yX11_isIn cX11_isIn 5 ((Option.some FieldType.boolean))) 4 m0 ad [.int 0, .int (nI a), .int (nI b)] (W46 S z) (fun r S' => r = bI (in0 S nl a b) ∧ ∃ z', S' = W46 S z') := by
  refine m_ofZ rfl (Nat.le_of_ble_eq_true rfl) (fun p e s m args below meth c A Q h0 C ret => ?_)
  refine jm_iload_n C dX11_isIn_0 rfl ?_
  refine jm_if_ne (tgt := 11) C dX11_isIn_1 (by decide) (fun c_1 => ?_) (fun c_1 => ?_)
  · exact absurd rfl c_1
  refine jm_aload_n C dX11_isIn_4 rfl ?_
  refine jm_iload_n C dX11_isIn_5 rfl ?_
  refine jm_iload_n C dX11_isIn_6 rfl ?_
  refine jm_calli (As := [.int (nI a), .int (nI b)]) (rest := []) C fG_X11_229 (c_isOf hl hnl hA hB z ha ((nI b))) rfl rfl (Nat.le_of_ble_eq_true rfl) ⟨Nat.le_of_ble_eq_true rfl, Nat.le_of_ble_eq_true rfl⟩ dX11_isIn_7 (fun r_7 S_7 e_7 => ?_)
  obtain ⟨e1_7, z_7, e2_7⟩ := e_7
  subst e1_7
  subst e2_7
  exact ret _ _ _ _ ⟨rfl, _, rfl⟩ (bI_01 _) dX11_isIn_10
set_option maxHeartbeats 4000000 in
set_option maxRecDepth 100000 in
theorem c_isIn1 {l : Launch} {D : va_G} {cy : Nat → ClassId} {m0 : Nat} {ad : Nat → Nat} {S : Nat → Nat → Int32} {nl : Nat} (hl : S 2 0 = nI nl) (hnl : nl ≤ 200) (hA : ∀ q, q < nl → S 26 q = -1 ∨ ∃ j, j < q ∧ S 26 q = nI j) (hB : ∀ q, q < nl → S 27 q = -1 ∨ ∃ j, j < q ∧ S 27 q = nI j) (z : Nat → Int32) {a b : Nat} (ha : a < nl) (hb : b < nl) : mI l D cy yX11_isIn (.code yX11_isIn cX11_isIn 5 ((Option.some FieldType.boolean))) 4 m0 ad [.int 1, .int (nI a), .int (nI b)] (W46 S z) (fun r S' => r = bI (in1 S nl a b) ∧ ∃ z', S' = W46 S z') := by
  refine m_ofZ rfl (Nat.le_of_ble_eq_true rfl) (fun p e s m args below meth c A Q h0 C ret => ?_)
  refine jm_iload_n C dX11_isIn_0 rfl ?_
  refine jm_if_ne (tgt := 11) C dX11_isIn_1 (by decide) (fun c_1 => ?_) (fun c_1 => ?_)
  · refine jm_iload_n C dX11_isIn_11 rfl ?_
    refine jm_iconst (v := 1) C dX11_isIn_12 (by decide) ?_
    refine jm_icmp_ne (tgt := 36) C dX11_isIn_13 (by decide) (fun c_13 => ?_) (fun c_13 => ?_)
    · exact (show False by revert c_13; decide).elim
    refine jm_iload_n C dX11_isIn_16 rfl ?_
    refine jm_iload_n C dX11_isIn_17 rfl ?_
    refine jm_icmp_eq (tgt := 34) C dX11_isIn_18 (by decide) (fun c_18 => ?_) (fun c_18 => ?_)
    · refine jm_iconst (v := 0) C dX11_isIn_34 (by decide) ?_
      exact ret _ _ _ _ ⟨(bI_f (fun q => q.1 c_18)).symm, _, rfl⟩ (by decide) dX11_isIn_35
    · refine jm_aload_n C dX11_isIn_21 rfl ?_
      refine jm_iload_n C dX11_isIn_22 rfl ?_
      refine jm_iload_n C dX11_isIn_23 rfl ?_
      refine jm_calli (As := [.int (nI b), .int (nI a)]) (rest := []) C fG_X11_229 (c_isOf hl hnl hA hB z hb ((nI a))) rfl rfl (Nat.le_of_ble_eq_true rfl) ⟨Nat.le_of_ble_eq_true rfl, Nat.le_of_ble_eq_true rfl⟩ dX11_isIn_24 (fun r_24 S_24 e_24 => ?_)
      obtain ⟨e1_24, z_24, e2_24⟩ := e_24
      subst e1_24
      subst e2_24
      refine jm_ifeq_b (tgt := 34) C dX11_isIn_27 (by decide) (fun c_27 => ?_) (fun c_27 => ?_)
      · refine jm_iconst (v := 0) C dX11_isIn_34 (by decide) ?_
        exact ret _ _ _ _ ⟨(bI_f (fun q => c_27 q.2)).symm, _, rfl⟩ (by decide) dX11_isIn_35
      · refine jm_iconst (v := 1) C dX11_isIn_30 (by decide) ?_
        refine jm_goto (tgt := 35) C dX11_isIn_31 (by decide) ?_
        exact ret _ _ _ _ ⟨(bI_t ⟨c_18, c_27⟩).symm, _, rfl⟩ (by decide) dX11_isIn_35
  · exact absurd c_1 (by decide)
set_option maxHeartbeats 4000000 in
set_option maxRecDepth 100000 in
theorem c_isIn2 {l : Launch} {D : va_G} {cy : Nat → ClassId} {m0 : Nat} {ad : Nat → Nat} {S : Nat → Nat → Int32} {nl : Nat} (hl : S 2 0 = nI nl) (hnl : nl ≤ 200) (hA : ∀ q, q < nl → S 26 q = -1 ∨ ∃ j, j < q ∧ S 26 q = nI j) (hB : ∀ q, q < nl → S 27 q = -1 ∨ ∃ j, j < q ∧ S 27 q = nI j) (z : Nat → Int32) {a b : Nat} (ha : a < nl) (hb : b < nl) : mI l D cy yX11_isIn (.code yX11_isIn cX11_isIn 5 ((Option.some FieldType.boolean))) 5 m0 ad [.int 2, .int (nI a), .int (nI b)] (W46 S z) (fun r S' => r = bI (in2 S nl a b) ∧ ∃ z', S' = W46 S z') := by
  refine m_ofZ rfl (Nat.le_of_ble_eq_true rfl) (fun p e s m args below meth c A Q h0 C ret => ?_)
  refine jm_iload_n C dX11_isIn_0 rfl ?_
  refine jm_if_ne (tgt := 11) C dX11_isIn_1 (by decide) (fun c_1 => ?_) (fun c_1 => ?_)
  · refine jm_iload_n C dX11_isIn_11 rfl ?_
    refine jm_iconst (v := 1) C dX11_isIn_12 (by decide) ?_
    refine jm_icmp_ne (tgt := 36) C dX11_isIn_13 (by decide) (fun c_13 => ?_) (fun c_13 => ?_)
    · refine jm_aload_n C dX11_isIn_36 rfl ?_
      refine jm_getA C fF_X11_61 (by decide) (by decide) dX11_isIn_37 ?_
      refine jm_iload_n C dX11_isIn_40 rfl ?_
      refine jm_aldN C 26 (n := 200) (by decide) (by decide) rfl (by omega) dX11_isIn_41 ?_
      refine jm_iconst (v := (-1)) C dX11_isIn_42 (by decide) ?_
      refine jm_icmp_eq (tgt := 60) C dX11_isIn_43 (by decide) (fun c_43 => ?_) (fun c_43 => ?_)
      · refine jm_aload_n C dX11_isIn_60 rfl ?_
        refine jm_getA C fF_X11_64 (by decide) (by decide) dX11_isIn_61 ?_
        refine jm_iload_n C dX11_isIn_64 rfl ?_
        refine jm_aldN C 27 (n := 200) (by decide) (by decide) rfl (by omega) dX11_isIn_65 ?_
        refine jm_iconst (v := (-1)) C dX11_isIn_66 (by decide) ?_
        refine jm_icmp_eq (tgt := 88) C dX11_isIn_67 (by decide) (fun c_67 => ?_) (fun c_67 => ?_)
        · refine jm_iconst (v := 0) C dX11_isIn_88 (by decide) ?_
          refine jm_istore (lv' := [(0, .ref m0), (1, .int 2), (2, .int (nI a)), (3, .int (nI b)), (4, .int 0)]) C dX11_isIn_89 (by decide) rfl ?_
          refine jm_iload C dX11_isIn_91 rfl ?_
          refine jm_if_eq (tgt := 120) C dX11_isIn_93 (by decide) (fun c_93 => ?_) (fun c_93 => ?_)
          · refine jm_iconst (v := 0) C dX11_isIn_120 (by decide) ?_
            exact ret _ _ _ _ ⟨(bI_f (fun q => q.1.elim (fun u => u.1 c_43) (fun u => u.1 c_67))).symm, _, rfl⟩ (by decide) dX11_isIn_121
          · exact absurd rfl c_93
        · refine jm_aload_n C dX11_isIn_70 rfl ?_
          refine jm_iload_n C dX11_isIn_71 rfl ?_
          refine jm_aload_n C dX11_isIn_72 rfl ?_
          refine jm_getA C fF_X11_64 (by decide) (by decide) dX11_isIn_73 ?_
          refine jm_iload_n C dX11_isIn_76 rfl ?_
          refine jm_aldN C 27 (n := 200) (by decide) (by decide) rfl (by omega) dX11_isIn_77 ?_
          refine jm_calli (As := [.int (nI a), .int ((W46 S z) 27 b)]) (rest := []) C fG_X11_229 (c_isOf hl hnl hA hB z ha (((W46 S z) 27 b))) rfl rfl (Nat.le_of_ble_eq_true rfl) ⟨Nat.le_of_ble_eq_true rfl, Nat.le_of_ble_eq_true rfl⟩ dX11_isIn_78 (fun r_78 S_78 e_78 => ?_)
          obtain ⟨e1_78, z_78, e2_78⟩ := e_78
          subst e1_78
          subst e2_78
          refine jm_ifeq_b (tgt := 88) C dX11_isIn_81 (by decide) (fun c_81 => ?_) (fun c_81 => ?_)
          · refine jm_iconst (v := 0) C dX11_isIn_88 (by decide) ?_
            refine jm_istore (lv' := [(0, .ref m0), (1, .int 2), (2, .int (nI a)), (3, .int (nI b)), (4, .int 0)]) C dX11_isIn_89 (by decide) rfl ?_
            refine jm_iload C dX11_isIn_91 rfl ?_
            refine jm_if_eq (tgt := 120) C dX11_isIn_93 (by decide) (fun c_93 => ?_) (fun c_93 => ?_)
            · refine jm_iconst (v := 0) C dX11_isIn_120 (by decide) ?_
              exact ret _ _ _ _ ⟨(bI_f (fun q => q.1.elim (fun u => u.1 c_43) (fun u => c_81 u.2))).symm, _, rfl⟩ (by decide) dX11_isIn_121
            · exact absurd rfl c_93
          · refine jm_iconst (v := 1) C dX11_isIn_84 (by decide) ?_
            refine jm_goto (tgt := 89) C dX11_isIn_85 (by decide) ?_
            refine jm_istore (lv' := [(0, .ref m0), (1, .int 2), (2, .int (nI a)), (3, .int (nI b)), (4, .int 1)]) C dX11_isIn_89 (by decide) rfl ?_
            refine jm_iload C dX11_isIn_91 rfl ?_
            refine jm_if_eq (tgt := 120) C dX11_isIn_93 (by decide) (fun c_93 => ?_) (fun c_93 => ?_)
            · exact absurd c_93 (by decide)
            refine jm_aload_n C dX11_isIn_96 rfl ?_
            refine jm_iconst (v := 0) C dX11_isIn_97 (by decide) ?_
            refine jm_iload_n C dX11_isIn_98 rfl ?_
            refine jm_iload_n C dX11_isIn_99 rfl ?_
            refine jm_calli (As := [.int 0, .int (nI a), .int (nI b)]) (rest := []) C fG_X11_232 (c_isIn0 hl hnl hA hB z_78 ha hb) rfl rfl (Nat.le_of_ble_eq_true rfl) ⟨Nat.le_of_ble_eq_true rfl, Nat.le_of_ble_eq_true rfl⟩ dX11_isIn_100 (fun r_100 S_100 e_100 => ?_)
            obtain ⟨e1_100, z_100, e2_100⟩ := e_100
            subst e1_100
            subst e2_100
            refine jm_ifne_b (tgt := 120) C dX11_isIn_103 (by decide) (fun c_103 => ?_) (fun c_103 => ?_)
            · refine jm_iconst (v := 0) C dX11_isIn_120 (by decide) ?_
              exact ret _ _ _ _ ⟨(bI_f (fun q => q.2.1 c_103)).symm, _, rfl⟩ (by decide) dX11_isIn_121
            · refine jm_aload_n C dX11_isIn_106 rfl ?_
              refine jm_iconst (v := 1) C dX11_isIn_107 (by decide) ?_
              refine jm_iload_n C dX11_isIn_108 rfl ?_
              refine jm_iload_n C dX11_isIn_109 rfl ?_
              refine jm_calli (As := [.int 1, .int (nI a), .int (nI b)]) (rest := []) C fG_X11_232 (c_isIn1 hl hnl hA hB z_100 ha hb) rfl rfl (Nat.le_of_ble_eq_true rfl) ⟨Nat.le_of_ble_eq_true rfl, Nat.le_of_ble_eq_true rfl⟩ dX11_isIn_110 (fun r_110 S_110 e_110 => ?_)
              obtain ⟨e1_110, z_110, e2_110⟩ := e_110
              subst e1_110
              subst e2_110
              refine jm_ifne_b (tgt := 120) C dX11_isIn_113 (by decide) (fun c_113 => ?_) (fun c_113 => ?_)
              · refine jm_iconst (v := 0) C dX11_isIn_120 (by decide) ?_
                exact ret _ _ _ _ ⟨(bI_f (fun q => q.2.2 c_113)).symm, _, rfl⟩ (by decide) dX11_isIn_121
              · refine jm_iconst (v := 1) C dX11_isIn_116 (by decide) ?_
                refine jm_goto (tgt := 121) C dX11_isIn_117 (by decide) ?_
                exact ret _ _ _ _ ⟨(bI_t ⟨Or.inr ⟨c_67, c_81⟩, c_103, c_113⟩).symm, _, rfl⟩ (by decide) dX11_isIn_121
      · refine jm_aload_n C dX11_isIn_46 rfl ?_
        refine jm_iload_n C dX11_isIn_47 rfl ?_
        refine jm_aload_n C dX11_isIn_48 rfl ?_
        refine jm_getA C fF_X11_61 (by decide) (by decide) dX11_isIn_49 ?_
        refine jm_iload_n C dX11_isIn_52 rfl ?_
        refine jm_aldN C 26 (n := 200) (by decide) (by decide) rfl (by omega) dX11_isIn_53 ?_
        refine jm_calli (As := [.int (nI a), .int ((W46 S z) 26 b)]) (rest := []) C fG_X11_229 (c_isOf hl hnl hA hB z ha (((W46 S z) 26 b))) rfl rfl (Nat.le_of_ble_eq_true rfl) ⟨Nat.le_of_ble_eq_true rfl, Nat.le_of_ble_eq_true rfl⟩ dX11_isIn_54 (fun r_54 S_54 e_54 => ?_)
        obtain ⟨e1_54, z_54, e2_54⟩ := e_54
        subst e1_54
        subst e2_54
        refine jm_ifne_b (tgt := 84) C dX11_isIn_57 (by decide) (fun c_57 => ?_) (fun c_57 => ?_)
        · refine jm_iconst (v := 1) C dX11_isIn_84 (by decide) ?_
          refine jm_goto (tgt := 89) C dX11_isIn_85 (by decide) ?_
          refine jm_istore (lv' := [(0, .ref m0), (1, .int 2), (2, .int (nI a)), (3, .int (nI b)), (4, .int 1)]) C dX11_isIn_89 (by decide) rfl ?_
          refine jm_iload C dX11_isIn_91 rfl ?_
          refine jm_if_eq (tgt := 120) C dX11_isIn_93 (by decide) (fun c_93 => ?_) (fun c_93 => ?_)
          · exact absurd c_93 (by decide)
          refine jm_aload_n C dX11_isIn_96 rfl ?_
          refine jm_iconst (v := 0) C dX11_isIn_97 (by decide) ?_
          refine jm_iload_n C dX11_isIn_98 rfl ?_
          refine jm_iload_n C dX11_isIn_99 rfl ?_
          refine jm_calli (As := [.int 0, .int (nI a), .int (nI b)]) (rest := []) C fG_X11_232 (c_isIn0 hl hnl hA hB z_54 ha hb) rfl rfl (Nat.le_of_ble_eq_true rfl) ⟨Nat.le_of_ble_eq_true rfl, Nat.le_of_ble_eq_true rfl⟩ dX11_isIn_100 (fun r_100 S_100 e_100 => ?_)
          obtain ⟨e1_100, z_100, e2_100⟩ := e_100
          subst e1_100
          subst e2_100
          refine jm_ifne_b (tgt := 120) C dX11_isIn_103 (by decide) (fun c_103 => ?_) (fun c_103 => ?_)
          · refine jm_iconst (v := 0) C dX11_isIn_120 (by decide) ?_
            exact ret _ _ _ _ ⟨(bI_f (fun q => q.2.1 c_103)).symm, _, rfl⟩ (by decide) dX11_isIn_121
          · refine jm_aload_n C dX11_isIn_106 rfl ?_
            refine jm_iconst (v := 1) C dX11_isIn_107 (by decide) ?_
            refine jm_iload_n C dX11_isIn_108 rfl ?_
            refine jm_iload_n C dX11_isIn_109 rfl ?_
            refine jm_calli (As := [.int 1, .int (nI a), .int (nI b)]) (rest := []) C fG_X11_232 (c_isIn1 hl hnl hA hB z_100 ha hb) rfl rfl (Nat.le_of_ble_eq_true rfl) ⟨Nat.le_of_ble_eq_true rfl, Nat.le_of_ble_eq_true rfl⟩ dX11_isIn_110 (fun r_110 S_110 e_110 => ?_)
            obtain ⟨e1_110, z_110, e2_110⟩ := e_110
            subst e1_110
            subst e2_110
            refine jm_ifne_b (tgt := 120) C dX11_isIn_113 (by decide) (fun c_113 => ?_) (fun c_113 => ?_)
            · refine jm_iconst (v := 0) C dX11_isIn_120 (by decide) ?_
              exact ret _ _ _ _ ⟨(bI_f (fun q => q.2.2 c_113)).symm, _, rfl⟩ (by decide) dX11_isIn_121
            · refine jm_iconst (v := 1) C dX11_isIn_116 (by decide) ?_
              refine jm_goto (tgt := 121) C dX11_isIn_117 (by decide) ?_
              exact ret _ _ _ _ ⟨(bI_t ⟨Or.inl ⟨c_43, c_57⟩, c_103, c_113⟩).symm, _, rfl⟩ (by decide) dX11_isIn_121
        · refine jm_aload_n C dX11_isIn_60 rfl ?_
          refine jm_getA C fF_X11_64 (by decide) (by decide) dX11_isIn_61 ?_
          refine jm_iload_n C dX11_isIn_64 rfl ?_
          refine jm_aldN C 27 (n := 200) (by decide) (by decide) rfl (by omega) dX11_isIn_65 ?_
          refine jm_iconst (v := (-1)) C dX11_isIn_66 (by decide) ?_
          refine jm_icmp_eq (tgt := 88) C dX11_isIn_67 (by decide) (fun c_67 => ?_) (fun c_67 => ?_)
          · refine jm_iconst (v := 0) C dX11_isIn_88 (by decide) ?_
            refine jm_istore (lv' := [(0, .ref m0), (1, .int 2), (2, .int (nI a)), (3, .int (nI b)), (4, .int 0)]) C dX11_isIn_89 (by decide) rfl ?_
            refine jm_iload C dX11_isIn_91 rfl ?_
            refine jm_if_eq (tgt := 120) C dX11_isIn_93 (by decide) (fun c_93 => ?_) (fun c_93 => ?_)
            · refine jm_iconst (v := 0) C dX11_isIn_120 (by decide) ?_
              exact ret _ _ _ _ ⟨(bI_f (fun q => q.1.elim (fun u => c_57 u.2) (fun u => u.1 c_67))).symm, _, rfl⟩ (by decide) dX11_isIn_121
            · exact absurd rfl c_93
          · refine jm_aload_n C dX11_isIn_70 rfl ?_
            refine jm_iload_n C dX11_isIn_71 rfl ?_
            refine jm_aload_n C dX11_isIn_72 rfl ?_
            refine jm_getA C fF_X11_64 (by decide) (by decide) dX11_isIn_73 ?_
            refine jm_iload_n C dX11_isIn_76 rfl ?_
            refine jm_aldN C 27 (n := 200) (by decide) (by decide) rfl (by omega) dX11_isIn_77 ?_
            refine jm_calli (As := [.int (nI a), .int ((W46 S z_54) 27 b)]) (rest := []) C fG_X11_229 (c_isOf hl hnl hA hB z_54 ha (((W46 S z_54) 27 b))) rfl rfl (Nat.le_of_ble_eq_true rfl) ⟨Nat.le_of_ble_eq_true rfl, Nat.le_of_ble_eq_true rfl⟩ dX11_isIn_78 (fun r_78 S_78 e_78 => ?_)
            obtain ⟨e1_78, z_78, e2_78⟩ := e_78
            subst e1_78
            subst e2_78
            refine jm_ifeq_b (tgt := 88) C dX11_isIn_81 (by decide) (fun c_81 => ?_) (fun c_81 => ?_)
            · refine jm_iconst (v := 0) C dX11_isIn_88 (by decide) ?_
              refine jm_istore (lv' := [(0, .ref m0), (1, .int 2), (2, .int (nI a)), (3, .int (nI b)), (4, .int 0)]) C dX11_isIn_89 (by decide) rfl ?_
              refine jm_iload C dX11_isIn_91 rfl ?_
              refine jm_if_eq (tgt := 120) C dX11_isIn_93 (by decide) (fun c_93 => ?_) (fun c_93 => ?_)
              · refine jm_iconst (v := 0) C dX11_isIn_120 (by decide) ?_
                exact ret _ _ _ _ ⟨(bI_f (fun q => q.1.elim (fun u => c_57 u.2) (fun u => c_81 u.2))).symm, _, rfl⟩ (by decide) dX11_isIn_121
              · exact absurd rfl c_93
            · refine jm_iconst (v := 1) C dX11_isIn_84 (by decide) ?_
              refine jm_goto (tgt := 89) C dX11_isIn_85 (by decide) ?_
              refine jm_istore (lv' := [(0, .ref m0), (1, .int 2), (2, .int (nI a)), (3, .int (nI b)), (4, .int 1)]) C dX11_isIn_89 (by decide) rfl ?_
              refine jm_iload C dX11_isIn_91 rfl ?_
              refine jm_if_eq (tgt := 120) C dX11_isIn_93 (by decide) (fun c_93 => ?_) (fun c_93 => ?_)
              · exact absurd c_93 (by decide)
              refine jm_aload_n C dX11_isIn_96 rfl ?_
              refine jm_iconst (v := 0) C dX11_isIn_97 (by decide) ?_
              refine jm_iload_n C dX11_isIn_98 rfl ?_
              refine jm_iload_n C dX11_isIn_99 rfl ?_
              refine jm_calli (As := [.int 0, .int (nI a), .int (nI b)]) (rest := []) C fG_X11_232 (c_isIn0 hl hnl hA hB z_78 ha hb) rfl rfl (Nat.le_of_ble_eq_true rfl) ⟨Nat.le_of_ble_eq_true rfl, Nat.le_of_ble_eq_true rfl⟩ dX11_isIn_100 (fun r_100 S_100 e_100 => ?_)
              obtain ⟨e1_100, z_100, e2_100⟩ := e_100
              subst e1_100
              subst e2_100
              refine jm_ifne_b (tgt := 120) C dX11_isIn_103 (by decide) (fun c_103 => ?_) (fun c_103 => ?_)
              · refine jm_iconst (v := 0) C dX11_isIn_120 (by decide) ?_
                exact ret _ _ _ _ ⟨(bI_f (fun q => q.2.1 c_103)).symm, _, rfl⟩ (by decide) dX11_isIn_121
              · refine jm_aload_n C dX11_isIn_106 rfl ?_
                refine jm_iconst (v := 1) C dX11_isIn_107 (by decide) ?_
                refine jm_iload_n C dX11_isIn_108 rfl ?_
                refine jm_iload_n C dX11_isIn_109 rfl ?_
                refine jm_calli (As := [.int 1, .int (nI a), .int (nI b)]) (rest := []) C fG_X11_232 (c_isIn1 hl hnl hA hB z_100 ha hb) rfl rfl (Nat.le_of_ble_eq_true rfl) ⟨Nat.le_of_ble_eq_true rfl, Nat.le_of_ble_eq_true rfl⟩ dX11_isIn_110 (fun r_110 S_110 e_110 => ?_)
                obtain ⟨e1_110, z_110, e2_110⟩ := e_110
                subst e1_110
                subst e2_110
                refine jm_ifne_b (tgt := 120) C dX11_isIn_113 (by decide) (fun c_113 => ?_) (fun c_113 => ?_)
                · refine jm_iconst (v := 0) C dX11_isIn_120 (by decide) ?_
                  exact ret _ _ _ _ ⟨(bI_f (fun q => q.2.2 c_113)).symm, _, rfl⟩ (by decide) dX11_isIn_121
                · refine jm_iconst (v := 1) C dX11_isIn_116 (by decide) ?_
                  refine jm_goto (tgt := 121) C dX11_isIn_117 (by decide) ?_
                  exact ret _ _ _ _ ⟨(bI_t ⟨Or.inr ⟨c_67, c_81⟩, c_103, c_113⟩).symm, _, rfl⟩ (by decide) dX11_isIn_121
    · exact (show False by revert c_13; decide).elim
  · exact absurd c_1 (by decide)
def m_ways (S : Nat → Nat → Int32) (lt oth : Int32) (nl : Nat) : Int32 := if (0 ≤ lt ∧ lt ≤ S 2 0 - 1) ∧ (0 ≤ oth ∧ oth ≤ S 2 0 - 1) then rowsV S oth nl lt.toNatClampNeg else 0
set_option maxHeartbeats 4000000 in
set_option maxRecDepth 100000 in
theorem c_ways {l : Launch} {D : va_G} {cy : Nat → ClassId} {m0 : Nat} {ad : Nat → Nat} {S : Nat → Nat → Int32} (lt oth : Int32) {nl : Nat} (hl : S 2 0 = nI nl) (hnl : nl ≤ 200) (hA : ∀ q, q < nl → S 26 q = -1 ∨ ∃ j, j < q ∧ S 26 q = nI j) (hB : ∀ q, q < nl → S 27 q = -1 ∨ ∃ j, j < q ∧ S 27 q = nI j) : mI l D cy yX11_ways (.code yX11_ways cX11_ways 3 ((Option.some FieldType.int))) 3 m0 ad [.int lt, .int oth] S (fun r S' => r = m_ways S lt oth nl ∧ ∃ z', S' = W46 S z') := by
  refine m_ofI rfl (Nat.le_of_ble_eq_true rfl) (fun p e s m args below meth c A Q h0 C ret => ?_)
  refine jm_aload_n C dX11_ways_0 rfl ?_
  refine jm_iload_n C dX11_ways_1 rfl ?_
  refine jm_calli (As := [.int lt]) (rest := []) C fG_X11_186 (c_isLot (lt)) rfl rfl (Nat.le_of_ble_eq_true rfl) ⟨Nat.le_of_ble_eq_true rfl, Nat.le_of_ble_eq_true rfl⟩ dX11_ways_2 (fun r_2 S_2 e_2 => ?_)
  obtain ⟨e1_2, e2_2⟩ := e_2
  subst e1_2
  replace e2_2 := e2_2.symm
  subst e2_2
  refine jm_ifeq_b (tgt := 16) C dX11_ways_5 (by decide) (fun c_5 => ?_) (fun c_5 => ?_)
  · refine jm_iconst (v := 0) C dX11_ways_16 (by decide) ?_
    exact ret _ _ _ _ ⟨by rw [m_ways, if_neg (fun q => c_5 q.1)], ⟨S 46, (W46_self S).symm⟩⟩ dX11_ways_17
  · refine jm_aload_n C dX11_ways_8 rfl ?_
    refine jm_iload_n C dX11_ways_9 rfl ?_
    refine jm_calli (As := [.int oth]) (rest := []) C fG_X11_186 (c_isLot (oth)) rfl rfl (Nat.le_of_ble_eq_true rfl) ⟨Nat.le_of_ble_eq_true rfl, Nat.le_of_ble_eq_true rfl⟩ dX11_ways_10 (fun r_10 S_10 e_10 => ?_)
    obtain ⟨e1_10, e2_10⟩ := e_10
    subst e1_10
    replace e2_10 := e2_10.symm
    subst e2_10
    refine jm_ifne_b (tgt := 18) C dX11_ways_13 (by decide) (fun c_13 => ?_) (fun c_13 => ?_)
    · refine jm_aload_n C dX11_ways_18 rfl ?_
      refine jm_iload_n C dX11_ways_19 rfl ?_
      refine jm_callv (As := [.int oth]) (rest := []) C fG_X11_225 (c_rowsTo (oth) hl hnl (mo_vp hA hnl) (mo_vp hB hnl)) rfl rfl (Nat.le_of_ble_eq_true rfl) ⟨Nat.le_of_ble_eq_true rfl, Nat.le_of_ble_eq_true rfl⟩ dX11_ways_20 (fun S_20 e_20 => ?_)
      subst e_20
      refine jm_aload_n C dX11_ways_23 rfl ?_
      refine jm_getA C fF_X11_121 (by decide) (by decide) dX11_ways_24 ?_
      refine jm_iload_n C dX11_ways_27 rfl ?_
      refine jm_ald C 46 (n := 200) (by decide) (by decide) rfl (in_vp hl hnl c_5) dX11_ways_28 ?_
      exact ret _ _ _ _ ⟨by rw [m_ways, if_pos ⟨c_5, c_13⟩]; rfl, by have q := rowsS_W S oth nl (S 46); rw [W46_self] at q; exact q⟩ dX11_ways_29
    · refine jm_iconst (v := 0) C dX11_ways_16 (by decide) ?_
      exact ret _ _ _ _ ⟨by rw [m_ways, if_neg (fun q => c_13 q.2)], ⟨S 46, (W46_self S).symm⟩⟩ dX11_ways_17
