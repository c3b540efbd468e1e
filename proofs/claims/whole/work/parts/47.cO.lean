theorem fldO_i {S : Nat → Nat → Int32} {P : Nat → Nat → Nat} {nf i : Nat} (hf : S 1 0 = nI nf) (hnf : nf ≤ 40) (hi : i < nf) : fldO S P (nI i) = some (P 0 i) := by
  unfold fldO
  rw [hf, if_pos ((idx_iff (N := 40) hnf (by decide)).mp ⟨nI_pos (by omega), fun z => absurd (nI_ge_of z (by omega) (by omega)) (by omega), fun z => absurd (nI_ge_of z (by omega) (by omega)) (by omega)⟩), nI_clamp (by omega)]
theorem nI_m1 {j : Nat} (hj : j < 2 ^ 31) : ¬ nI j = -1 := fun e => by
  have h := congrArg Int32.toInt e
  rw [nI_toInt hj] at h
  have e1 : (-1 : Int32).toInt = -1 := by decide
  omega
theorem adr_i {P : Nat → Nat → Nat} {k j : Nat} (hj : j < 2 ^ 31) : adr P k (nI j) = some (P k j) := by
  unfold adr
  rw [if_neg (nI_m1 hj), nI_clamp hj]
theorem adr_n {P : Nat → Nat → Nat} {k : Nat} : adr P k (-1) = none := if_pos rfl
theorem cp_ln {h : jH} {P : Nat → Nat → Nat} {z : Nat → Int32} {nl : Nat} (hnl : nl ≤ 200) (hz : ∀ a, a < nl → h_I h 399 (P 1 a) = z a) {v : Int32} (hv : v = -1 ∨ ∃ j, j < nl ∧ v = nI j) : oI h 399 0 (adr P 1 v) = lnV z v := by
  rcases hv with e | ⟨j, hj, e⟩
  · rw [e, adr_n, lnV_n]; rfl
  · rw [e, adr_i (by omega), lnV_i z (by omega)]
    exact hz j hj
theorem SI.mA2 {S : Nat → Nat → Int32} {nf nl nb ns nt nk nw yy : Nat} (I : SI S nf nl nb ns nt nk nw yy) {q : Nat} (hq : q < nl) : S 26 q = -1 ∨ ∃ j, j < nl ∧ S 26 q = nI j := (I.mA q hq).imp id (fun ⟨j, h1, h2⟩ => ⟨j, by omega, h2⟩)
theorem SI.mB2 {S : Nat → Nat → Int32} {nf nl nb ns nt nk nw yy : Nat} (I : SI S nf nl nb ns nt nk nw yy) {q : Nat} (hq : q < nl) : S 27 q = -1 ∨ ∃ j, j < nl ∧ S 27 q = nI j := (I.mB q hq).imp id (fun ⟨j, h1, h2⟩ => ⟨j, by omega, h2⟩)
theorem cp_rk {h : jH} {S : Nat → Nat → Int32} {P : Nat → Nat → Nat} {T : Nat → Nat → Nat → List Nat} {nf nl nb ns nt nk nw : Nat} (c : CP h S P T nf nl nb ns nt nk nw) {yy : Nat} (I : SI S nf nl nb ns nt nk nw yy) {z : Nat → Int32} (hz : ∀ a, a < nl → h_I h 399 (P 1 a) = z a) {i : Nat} (hi : i < nl) : rkm h (P 1 i) = rkZ S z i := by
  unfold rkm rkZ
  have cl := (c.2.2.2.1 i hi).2.2.1
  rw [cl.2.1, cl.2.2, cp_ln I.lt.2 hz (I.mA2 hi), cp_ln I.lt.2 hz (I.mB2 hi)]
theorem s_rank {l : Launch} {D : va_G} {cy : Nat → ClassId} {h : jH} {S : Nat → Nat → Int32} {P : Nat → Nat → Nat} {T : Nat → Nat → Nat → List Nat} {nf nl nb ns nt nk nw : Nat} (c : CP h S P T nf nl nb ns nt nk nw) {yy : Nat} (I : SI S nf nl nb ns nt nk nw yy) {z : Nat → Int32} (hz : ∀ a, a < nl → h_I h 399 (P 1 a) = z a) {i : Nat} (hi : i < nl) : cI l D cy yX6_rankOfMothers (.code yX6_rankOfMothers cX6_rankOfMothers 3 ((Option.some FieldType.int))) 1 [.ref (P 1 i)] h (fun r => r = rkZ S z i) := by
  have cl := (c.2.2.2.1 i hi).2.2.1
  have q := k_rankOfMothers (l := l) (D := D) (cy := cy) (c.2.2.2.1 i hi).1.2 (by rw [cl.2.1]; exact adr_ok1 c I.lt.2 (I.mA2 hi)) (by rw [cl.2.2]; exact adr_ok1 c I.lt.2 (I.mB2 hi))
  rw [cp_rk c I hz hi] at q
  exact q
theorem s_forceL {l : Launch} {D : va_G} {cy : Nat → ClassId} {h : jH} {S : Nat → Nat → Int32} {P : Nat → Nat → Nat} {T : Nat → Nat → Nat → List Nat} {nf nl nb ns nt nk nw : Nat} (c : CP h S P T nf nl nb ns nt nk nw) {yy : Nat} (I : SI S nf nl nb ns nt nk nw yy) {kd : Nat} {x : Int32} (hx : x = nI kd) (hk : kd < 5) (yr q : Int32) : cI l D cy yX2_inForce (.code yX2_inForce cX2_inForce 7 ((Option.some FieldType.int))) 0 [.ref (P 5 1), .int x, .int yr, .int q] h (fun v => v = inForceS S x yr q nt) := by
  subst hx
  have w := k_inForce (l := l) (D := D) (cy := cy) (kd := kd) c.2.1.1 c.2.1.2.2.2.2.2.1 c.2.1.2.2.2.2.2.2.1 c.2.1.2.2.2.2.2.2.2 hk (c.2.2.2.2.2.1 kd hk).1 yr q
  rw [cp_force c (fun k hk => (I.sv k hk).1) hk] at w
  exact w
abbrev agP (S : Nat → Nat → Int32) (z : Nat → Int32) (lt nl Y i : Nat) : Prop := ¬ (lotInS S (nI i) (nI Y) nl = -1 ∨ ¬ z (S 26 (lotInS S (nI i) (nI Y) nl).toNatClampNeg).toNatClampNeg ≤ z (S 26 lt).toNatClampNeg)
theorem bad_iff {S : Nat → Nat → Int32} {z : Nat → Int32} {lt nl ns nt Y g i : Nat} {q : Int32} (hY : S 24 lt = nI Y) (hg : S 25 lt = nI g) (h1 : g < 40) (h2 : i < 40) : badZ S z lt q nl ns nt i = true ↔ (¬ nI i = nI g ∧ standS S (nI i) (nI Y) q nl ns = S 22 lt ∧ ¬ inForceS S 0 (nI Y) q nt * inForceS S 0 (nI Y) q nt ≤ nearS S i g ∧ ¬ agP S z lt nl Y i) := by
  unfold badZ agP
  rw [decide_eq_true_iff, hY, hg, nI_clamp (by omega), nI_clamp (by omega), Classical.not_not]
theorem s_asGood {l : Launch} {D : va_G} {cy : Nat → ClassId} {h : jH} {S : Nat → Nat → Int32} {P : Nat → Nat → Nat} {T : Nat → Nat → Nat → List Nat} {nf nl nb ns nt nk nw : Nat} (c : CP h S P T nf nl nb ns nt nk nw) {yy : Nat} (I : SI S nf nl nb ns nt nk nw yy) {z : Nat → Int32} (hz : ∀ a, a < nl → h_I h 399 (P 1 a) = z a) {lt i Y : Nat} (hlt : lt < nl) (b : Bd S nl lt z) (h1 : S 21 lt = 1) (hY : S 24 lt = nI Y) : cI l D cy yX0_isAsGood (.code yX0_isAsGood cX0_isAsGood 3 ((Option.some FieldType.boolean))) 2 [.ref (P 5 2), va_rf (adr P 1 (lotInS S (nI i) (nI Y) nl)), .ref (P 1 lt)] h (fun v => v = bI (agP S z lt nl Y i)) := by
  have hnl := I.lt.2
  have okm : ∀ j, j < nl → (∀ x, h_R h 389 (P 1 j) = some x → h_ok h x 6) ∧ (∀ x, h_R h 390 (P 1 j) = some x → h_ok h x 6) := fun j hj => ⟨by rw [(c.2.2.2.1 j hj).2.2.1.2.1]; exact adr_ok1 c I.lt.2 (I.mA2 hj), by rw [(c.2.2.2.1 j hj).2.2.1.2.2]; exact adr_ok1 c I.lt.2 (I.mB2 hj)⟩
  by_cases e : lotInS S (nI i) (nI Y) nl = -1
  · have ea : adr P 1 (lotInS S (nI i) (nI Y) nl) = none := by rw [e]; exact adr_n
    rw [ea]
    have q := k_isAsGood (l := l) (D := D) (cy := cy) (r := none) c.1.2.1.1 (c.2.2.2.1 lt hlt).1.2 (fun x hx => by cases hx) (fun a x ha hx => by
      rcases ha with ha | ha
      · cases ha
      · subst ha; exact (okm lt hlt).1 x hx) (fun a x ha hx => by
      rcases ha with ha | ha
      · cases ha
      · subst ha; exact (okm lt hlt).2 x hx)
    rw [show asGI h none (P 1 lt) = bI (agP S z lt nl Y i) from (bI_f (fun w => w (Or.inl e))).symm] at q
    exact q
  · obtain ⟨o', o1, o2, o3, o4, o5, o6⟩ := lotIn_at hnl e
    have ea : adr P 1 (lotInS S (nI i) (nI Y) nl) = some (P 1 o') := by rw [o2]; exact adr_i (by omega)
    rw [ea]
    have q := k_isAsGood (l := l) (D := D) (cy := cy) (r := some (P 1 o')) c.1.2.1.1 (c.2.2.2.1 lt hlt).1.2 (fun x hx => by cases hx; exact (c.2.2.2.1 o' o1).1.2) (fun a x ha hx => by
      rcases ha with ha | ha
      · cases ha; exact (okm o' o1).1 x hx
      · subst ha; exact (okm lt hlt).1 x hx) (fun a x ha hx => by
      rcases ha with ha | ha
      · cases ha; exact (okm o' o1).2 x hx
      · subst ha; exact (okm lt hlt).2 x hx)
    have e2 : asGI h (some (P 1 o')) (P 1 lt) = bI (agP S z lt nl Y i) := by
      show bI (¬ rkm h (P 1 lt) < rkm h (P 1 o')) = _
      rw [cp_rk c I hz hlt, cp_rk c I hz o1, rk_yr I b hlt hlt h1 rfl, rk_yr I b hlt o1 o4 (o6.trans hY.symm)]
      by_cases k : z (S 26 o').toNatClampNeg ≤ z (S 26 lt).toNatClampNeg
      · have k1 : ¬ z (S 26 lt).toNatClampNeg < z (S 26 o').toNatClampNeg := fun w => by rw [Int32.lt_iff_toInt_lt] at w; rw [Int32.le_iff_toInt_le] at k; omega
        have k2 : agP S z lt nl Y i := fun w => w.elim e (fun v => v (by rw [o3]; exact k))
        rw [bI_t k1, bI_t k2]
      · rw [bI_f (fun w => w (by rw [Int32.lt_iff_toInt_lt]; rw [Int32.le_iff_toInt_le] at k; omega)), bI_f (fun w => w (Or.inr (by rw [o3]; exact k)))]
    rw [e2] at q
    exact q
theorem s_stood {l : Launch} {D : va_G} {cy : Nat → ClassId} {h : jH} {S : Nat → Nat → Int32} {P : Nat → Nat → Nat} {T : Nat → Nat → Nat → List Nat} {nf nl nb ns nt nk nw : Nat} (c : CP h S P T nf nl nb ns nt nk nw) (hnl : nl ≤ 200) {g Y ys : Nat} {v : Int32} (hg : g < nf) (hY : Y ≤ 41) (hv : v = nI ys) (hys : ys ≤ 1000) (cr q : Int32) : cI l D cy yX3_stoodAheadOf (.code yX3_stoodAheadOf cX3_stoodAheadOf 7 ((Option.some FieldType.boolean))) 2 [.ref (P 0 g), .int (nI Y), .int v, .int cr, .int q] h (fun r => r = bI (prv (fun k => decide (standS S (nI g) (nI Y - nI k) q nl ns = cr)) v 1 Y = true)) := by
  subst hv
  have cf := c.2.2.1 g hg
  have w := k_stood (l := l) (D := D) (cy := cy) cf.1.2 cf.2.2.1.1 cf.2.2.1.2.1 cf.2.2.1.2.2 cf.2.2.2.1.1 cf.2.2.2.1.2.1 cf.2.2.2.1.2.2 (fun y hy => cp_lotok c hnl hg hy) (TS := T 0 g) (fun y hy => (cf.2.2.2.2 y hy).2.1) hY hys cr q
  rw [prv_cg (p' := stB h (P 3 g) (T 0 g) Y cr q) (p := fun k => decide (standS S (nI g) (nI Y - nI k) q nl ns = cr)) Y 1 (fun j h1 h2 => by
    show decide _ = decide _
    rw [cp_crop c hnl hg (by omega), pk_sub (by omega)])] at w
  exact w
set_option maxHeartbeats 4000000 in
set_option maxRecDepth 100000 in
theorem L_crowd {p : Program} {l : Launch} {e : Env} {s : State} {m : MethodId} {args : Array Value} {below : List Frame} {meth : Method} {c0 : Code} {D : va_G} {cy : Nat → ClassId} {A : Nat → Prop} {Q : State → Prop} (C : jC p s m args meth c0 D cy A 6 RX0 cX0_isCrowded) {h : jH} {S : Nat → Nat → Int32} {P : Nat → Nat → Nat} {T : Nat → Nat → Nat → List Nat} {nf nl nb ns nt nk nw yy : Nat} (c : CP h S P T nf nl nb ns nt nk nw) (I : SI S nf nl nb ns nt nk nw yy) {z : Nat → Int32} (hz : ∀ a, a < nl → h_I h 399 (P 1 a) = z a) {lt : Nat} (hlt : lt < nl) {Y g : Nat} (b : Bd S nl lt z) (h1 : S 21 lt = 1) (hY : S 24 lt = nI Y) (hYb : Y ≤ 40) (hg : g < nf) (eg : S 25 lt = nI g) {q : Int32} (ret : ∀ (v : Int32) (lv : List (Nat × Value)) (pc : Nat), v = bI (¬ ffst (badZ S z lt q nl ns nt) 0 nf = -1) → (v = 0 ∨ v = 1) → decode cX0_isCrowded pc = .ok (.ireturn, 1) → jW p l e (rmd 3 0 0) s m args below meth c0 D cy A 6 0 0 Q h lv pc [.int v]) : ∀ (n k i : Nat), k < n → i + k = nf → ffst (badZ S z lt q nl ns nt) 0 nf = ffst (badZ S z lt q nl ns nt) i k → jW p l e (rmd 3 0 0) s m args below meth c0 D cy A 6 0 0 Q h [(0, .ref (P 5 2)), (1, .ref (P 1 lt)), (2, .int q), (3, .int (inForceS S 0 (nI Y) q nt)), (4, .int (nI i))] 17 [] := by
  intro n
  induction n with
  | zero => intro k i h1; exact absurd h1 (Nat.not_lt_zero _)
  | succ n ih =>
    intro k i hk1 hk2 he
    refine j_iload C dX0_isCrowded_17 rfl ?_
    refine j_aload_n C dX0_isCrowded_19 rfl ?_
    refine j_gRe (f := 0) (v := .ref (P 5 1)) C fF_X0_9 rfl c.1.2.1.1 (by rw [c.1.2.1.2]; rfl) dX0_isCrowded_20 ?_
    refine j_gIe (f := 130) (v := (nI nf)) C fF_X0_97 rfl c.2.1.1 (by rw [c.2.1.2.1.2.1]; exact I.fl.1) dX0_isCrowded_23 ?_
    refine j_icmp_ge (tgt := 111) C dX0_isCrowded_26 (by decide) (fun c_26 => ?_) (fun c_26 => ?_)
    · refine j_iconst (v := 0) C dX0_isCrowded_111 (by decide) ?_
      have hge : nf ≤ i := nI_ge_of c_26 (by have := I.fl.2; omega) (by have := I.fl.2; omega)
      obtain rfl : k = 0 := by omega
      exact ret _ _ _ (bI_f (fun w => w (by rw [he]; rfl))).symm (by decide) dX0_isCrowded_112
    · have hnf := I.fl.2
      have hnl := I.lt.2
      have hi : i < nf := nI_lt_of c_26 (by omega)
      obtain ⟨k, rfl⟩ : ∃ q, k = q + 1 := ⟨k - 1, by omega⟩
      refine j_aload_n C dX0_isCrowded_29 rfl ?_
      refine j_gRe (f := 0) (v := .ref (P 5 1)) C fF_X0_9 rfl c.1.2.1.1 (by rw [c.1.2.1.2]; rfl) dX0_isCrowded_30 ?_
      refine j_iload C dX0_isCrowded_33 rfl ?_
      refine j_callVq (As := [.int (nI i)]) (rest := []) C fG_X0_100 (s_fieldAt c I.fl.1 I.fl.2 (nI i)) c.2.1.1 rfl rfl (Nat.le_of_ble_eq_true rfl) ⟨Nat.le_of_ble_eq_true rfl, Nat.le_of_ble_eq_true rfl⟩ ⟨Nat.le_of_ble_eq_true rfl, Nat.le_of_ble_eq_true rfl⟩ dX0_isCrowded_35 (fun r_35 h_35 e_35 => ?_)
      obtain ⟨e1_35, e2_35⟩ := e_35
      rw [fldO_i I.fl.1 I.fl.2 hi] at e1_35
      subst e1_35
      replace e2_35 := e2_35.symm
      subst e2_35
      refine j_astore (lv' := [(0, .ref (P 5 2)), (1, .ref (P 1 lt)), (2, .int q), (3, .int (inForceS S 0 (nI Y) q nt)), (4, .int (nI i)), (5, .ref (P 0 i))]) C dX0_isCrowded_38 (by decide) rfl ?_
      refine j_aload C dX0_isCrowded_40 rfl ?_
      refine j_ifnull C dX0_isCrowded_42 ?_
      refine j_aload C dX0_isCrowded_45 rfl ?_
      refine j_aload_n C dX0_isCrowded_47 rfl ?_
      refine j_gRe (f := 388) (v := .ref (P 0 g)) C fF_X0_56 rfl (c.2.2.2.1 lt hlt).1.2 (by rw [(c.2.2.2.1 lt hlt).2.2.1.1, eg, adr_i (by omega)]; rfl) dX0_isCrowded_48 ?_
      refine j_acmp_eq (rx := (some (P 0 i))) (ry := (some (P 0 g))) (tgt := 105) C dX0_isCrowded_51 (by decide) (fun c_51 => ?_) (fun c_51 => ?_)
      · refine j_iinc (lv' := [(0, .ref (P 5 2)), (1, .ref (P 1 lt)), (2, .int q), (3, .int (inForceS S 0 (nI Y) q nt)), (4, .int (nI (i + 1))), (5, .ref (P 0 i))]) C dX0_isCrowded_105 rfl (nI_1 _) (by decide) rfl ?_
        refine j_goto (tgt := 17) C dX0_isCrowded_108 (by decide) ?_
        refine j_sub [0, 1, 2, 3, 4] rfl ?_
        exact ih k (i + 1) (by omega) (by omega) (he.trans (ffst_f (Bool.eq_false_iff.mpr (fun v => by
          have u := (bad_iff hY eg (by have := I.fl.2; omega) (by have := I.fl.2; omega)).mp v
          exact u.1 (by rw [c.2.2.2.2.2.2.2.1 i g hi hg (Option.some.inj c_51)])))))
      · refine j_aload C dX0_isCrowded_54 rfl ?_
        refine j_aload_n C dX0_isCrowded_56 rfl ?_
        refine j_gIe (f := 387) (v := (nI Y)) C fF_X0_64 rfl (c.2.2.2.1 lt hlt).1.2 (by rw [(c.2.2.2.1 lt hlt).2.1.2.2.2]; exact hY) dX0_isCrowded_57 ?_
        refine j_iload_n C dX0_isCrowded_60 rfl ?_
        refine j_callVi (As := [.int (nI Y), .int q]) (rest := []) C fG_X0_104 (k_cropIn (c.2.2.1 i hi).1.2 (c.2.2.1 i hi).2.2.1.1 (c.2.2.1 i hi).2.2.1.2.1 (c.2.2.1 i hi).2.2.1.2.2 (c.2.2.1 i hi).2.2.2.1.1 (c.2.2.1 i hi).2.2.2.1.2.1 (c.2.2.1 i hi).2.2.2.1.2.2 (yr := Y) (by omega) (cp_lotok c hnl hi (by omega)) ((c.2.2.1 i hi).2.2.2.2 Y (by omega)).2.1 q) (c.2.2.1 i hi).1.2 rfl rfl (Nat.le_of_ble_eq_true rfl) ⟨Nat.le_of_ble_eq_true rfl, Nat.le_of_ble_eq_true rfl⟩ ⟨Nat.le_of_ble_eq_true rfl, Nat.le_of_ble_eq_true rfl⟩ dX0_isCrowded_61 (fun r_61 h_61 e_61 => ?_)
        obtain ⟨e1_61, e2_61⟩ := e_61
        rw [cp_crop c hnl hi (by omega)] at e1_61
        subst e1_61
        replace e2_61 := e2_61.symm
        subst e2_61
        refine j_aload_n C dX0_isCrowded_64 rfl ?_
        refine j_gIe (f := 386) (v := (S 22 lt)) C fF_X0_71 rfl (c.2.2.2.1 lt hlt).1.2 (c.2.2.2.1 lt hlt).2.1.2.2.1 dX0_isCrowded_65 ?_
        refine j_icmp_ne (tgt := 105) C dX0_isCrowded_68 (by decide) (fun c_68 => ?_) (fun c_68 => ?_)
        · refine j_iinc (lv' := [(0, .ref (P 5 2)), (1, .ref (P 1 lt)), (2, .int q), (3, .int (inForceS S 0 (nI Y) q nt)), (4, .int (nI (i + 1))), (5, .ref (P 0 i))]) C dX0_isCrowded_105 rfl (nI_1 _) (by decide) rfl ?_
          refine j_goto (tgt := 17) C dX0_isCrowded_108 (by decide) ?_
          refine j_sub [0, 1, 2, 3, 4] rfl ?_
          exact ih k (i + 1) (by omega) (by omega) (he.trans (ffst_f (Bool.eq_false_iff.mpr (fun v => by
            have u := (bad_iff hY eg (by have := I.fl.2; omega) (by have := I.fl.2; omega)).mp v
            exact c_68 u.2.1))))
        · refine j_aload C dX0_isCrowded_71 rfl ?_
          refine j_aload_n C dX0_isCrowded_73 rfl ?_
          refine j_gRe (f := 388) (v := .ref (P 0 g)) C fF_X0_56 rfl (c.2.2.2.1 lt hlt).1.2 (by rw [(c.2.2.2.1 lt hlt).2.2.1.1, eg, adr_i (by omega)]; rfl) dX0_isCrowded_74 ?_
          refine j_callVi (As := [.ref (P 0 g)]) (rest := []) C fG_X0_108 (k_squareTo (a := (P 0 i)) (b := (P 0 g)) (c.2.2.1 i hi).1.2 (c.2.2.1 g hg).1.2) (c.2.2.1 i hi).1.2 rfl rfl (Nat.le_of_ble_eq_true rfl) ⟨Nat.le_of_ble_eq_true rfl, Nat.le_of_ble_eq_true rfl⟩ ⟨Nat.le_of_ble_eq_true rfl, Nat.le_of_ble_eq_true rfl⟩ dX0_isCrowded_77 (fun r_77 h_77 e_77 => ?_)
          obtain ⟨e1_77, e2_77⟩ := e_77
          rw [sq_near c hi hg] at e1_77
          subst e1_77
          replace e2_77 := e2_77.symm
          subst e2_77
          refine j_iload_n C dX0_isCrowded_80 rfl ?_
          refine j_iload_n C dX0_isCrowded_81 rfl ?_
          refine j_imul C dX0_isCrowded_82 ?_
          refine j_icmp_ge (tgt := 105) C dX0_isCrowded_83 (by decide) (fun c_83 => ?_) (fun c_83 => ?_)
          · refine j_iinc (lv' := [(0, .ref (P 5 2)), (1, .ref (P 1 lt)), (2, .int q), (3, .int (inForceS S 0 (nI Y) q nt)), (4, .int (nI (i + 1))), (5, .ref (P 0 i))]) C dX0_isCrowded_105 rfl (nI_1 _) (by decide) rfl ?_
            refine j_goto (tgt := 17) C dX0_isCrowded_108 (by decide) ?_
            refine j_sub [0, 1, 2, 3, 4] rfl ?_
            exact ih k (i + 1) (by omega) (by omega) (he.trans (ffst_f (Bool.eq_false_iff.mpr (fun v => by
              have u := (bad_iff hY eg (by have := I.fl.2; omega) (by have := I.fl.2; omega)).mp v
              exact u.2.2.1 c_83))))
          · refine j_aload_n C dX0_isCrowded_86 rfl ?_
            refine j_aload C dX0_isCrowded_87 rfl ?_
            refine j_aload_n C dX0_isCrowded_89 rfl ?_
            refine j_gIe (f := 387) (v := (nI Y)) C fF_X0_64 rfl (c.2.2.2.1 lt hlt).1.2 (by rw [(c.2.2.2.1 lt hlt).2.1.2.2.2]; exact hY) dX0_isCrowded_90 ?_
            refine j_callVq (As := [.int (nI Y)]) (rest := [.ref (P 5 2)]) C fG_X0_112 (k_grownIn (c.2.2.1 i hi).1.2 (c.2.2.1 i hi).2.2.1.1 (c.2.2.1 i hi).2.2.1.2.1 (c.2.2.1 i hi).2.2.1.2.2 (nI Y)) (c.2.2.1 i hi).1.2 rfl rfl (Nat.le_of_ble_eq_true rfl) ⟨Nat.le_of_ble_eq_true rfl, Nat.le_of_ble_eq_true rfl⟩ ⟨Nat.le_of_ble_eq_true rfl, Nat.le_of_ble_eq_true rfl⟩ dX0_isCrowded_93 (fun r_93 h_93 e_93 => ?_)
            obtain ⟨e1_93, e2_93⟩ := e_93
            rw [grw_nI (by omega), ((c.2.2.1 i hi).2.2.2.2 Y (by omega)).1] at e1_93
            subst e1_93
            replace e2_93 := e2_93.symm
            subst e2_93
            refine j_aload_n C dX0_isCrowded_96 rfl ?_
            refine j_callVi (As := [va_rf (adr P 1 (lotInS S (nI i) (nI Y) nl)), .ref (P 1 lt)]) (rest := []) C fG_X0_115 (s_asGood (i := i) c I hz hlt b h1 hY) c.1.2.1.1 rfl rfl (Nat.le_of_ble_eq_true rfl) ⟨Nat.le_of_ble_eq_true rfl, Nat.le_of_ble_eq_true rfl⟩ ⟨Nat.le_of_ble_eq_true rfl, Nat.le_of_ble_eq_true rfl⟩ dX0_isCrowded_97 (fun r_97 h_97 e_97 => ?_)
            obtain ⟨e1_97, e2_97⟩ := e_97
            subst e1_97
            replace e2_97 := e2_97.symm
            subst e2_97
            refine j_ifne_b (tgt := 105) C dX0_isCrowded_100 (by decide) (fun c_100 => ?_) (fun c_100 => ?_)
            · refine j_iinc (lv' := [(0, .ref (P 5 2)), (1, .ref (P 1 lt)), (2, .int q), (3, .int (inForceS S 0 (nI Y) q nt)), (4, .int (nI (i + 1))), (5, .ref (P 0 i))]) C dX0_isCrowded_105 rfl (nI_1 _) (by decide) rfl ?_
              refine j_goto (tgt := 17) C dX0_isCrowded_108 (by decide) ?_
              refine j_sub [0, 1, 2, 3, 4] rfl ?_
              exact ih k (i + 1) (by omega) (by omega) (he.trans (ffst_f (Bool.eq_false_iff.mpr (fun v => by
                have u := (bad_iff hY eg (by have := I.fl.2; omega) (by have := I.fl.2; omega)).mp v
                exact u.2.2.2 c_100))))
            · refine j_iconst (v := 1) C dX0_isCrowded_103 (by decide) ?_
              have hb : badZ S z lt q nl ns nt i = true := (bad_iff hY eg (by have := I.fl.2; omega) (by have := I.fl.2; omega)).mpr ⟨fun e => c_51 (by rw [(nI_eq (by have := I.fl.2; omega) (by have := I.fl.2; omega)).mp e]), c_68, c_83, c_100⟩
              exact ret _ _ _ (bI_t (by rw [he]; exact ffst_ge hb (by have := I.fl.2; omega))).symm (by decide) dX0_isCrowded_104
set_option maxHeartbeats 4000000 in
set_option maxRecDepth 100000 in
theorem k_crowded {l : Launch} {D : va_G} {cy : Nat → ClassId} {h : jH} {S : Nat → Nat → Int32} {P : Nat → Nat → Nat} {T : Nat → Nat → Nat → List Nat} {nf nl nb ns nt nk nw yy : Nat} (c : CP h S P T nf nl nb ns nt nk nw) (I : SI S nf nl nb ns nt nk nw yy) {z : Nat → Int32} (hz : ∀ a, a < nl → h_I h 399 (P 1 a) = z a) {lt : Nat} (hlt : lt < nl) {Y g : Nat} (b : Bd S nl lt z) (h1 : S 21 lt = 1) (hY : S 24 lt = nI Y) (hYb : Y ≤ 40) (hg : g < nf) (eg : S 25 lt = nI g) (q : Int32) : cI l D cy yX0_isCrowded (.code yX0_isCrowded cX0_isCrowded 6 ((Option.some FieldType.boolean))) 3 [.ref (P 5 2), .ref (P 1 lt), .int q] h (fun v => v = bI (¬ ffst (badZ S z lt q nl ns nt) 0 nf = -1)) := by
  refine j_ofZ (by decide) (Nat.le_of_ble_eq_true rfl) (fun p e s m args below meth c0 Q C hin ret => ?_)
  refine j_aload_n C dX0_isCrowded_0 rfl ?_
  refine j_gRe (f := 0) (v := .ref (P 5 1)) C fF_X0_9 rfl c.1.2.1.1 (by rw [c.1.2.1.2]; rfl) dX0_isCrowded_1 ?_
  refine j_iconst (v := 0) C dX0_isCrowded_4 (by decide) ?_
  refine j_aload_n C dX0_isCrowded_5 rfl ?_
  refine j_gIe (f := 387) (v := (nI Y)) C fF_X0_64 rfl (c.2.2.2.1 lt hlt).1.2 (by rw [(c.2.2.2.1 lt hlt).2.1.2.2.2]; exact hY) dX0_isCrowded_6 ?_
  refine j_iload_n C dX0_isCrowded_9 rfl ?_
  refine j_callVi (As := [.int 0, .int (nI Y), .int q]) (rest := []) C fG_X0_67 (s_forceL c I (kd := 0) (x := 0) rfl (by decide) (nI Y) q) c.2.1.1 rfl rfl (Nat.le_of_ble_eq_true rfl) ⟨Nat.le_of_ble_eq_true rfl, Nat.le_of_ble_eq_true rfl⟩ ⟨Nat.le_of_ble_eq_true rfl, Nat.le_of_ble_eq_true rfl⟩ dX0_isCrowded_10 (fun r_10 h_10 e_10 => ?_)
  obtain ⟨e1_10, e2_10⟩ := e_10
  subst e1_10
  replace e2_10 := e2_10.symm
  subst e2_10
  refine j_istore_n (lv' := [(0, .ref (P 5 2)), (1, .ref (P 1 lt)), (2, .int q), (3, .int (inForceS S 0 (nI Y) q nt))]) C dX0_isCrowded_13 (by decide) rfl ?_
  refine j_iconst (v := 0) C dX0_isCrowded_14 (by decide) ?_
  refine j_istore (lv' := [(0, .ref (P 5 2)), (1, .ref (P 1 lt)), (2, .int q), (3, .int (inForceS S 0 (nI Y) q nt)), (4, .int 0)]) C dX0_isCrowded_15 (by decide) rfl ?_
  exact L_crowd C c I hz hlt b h1 hY hYb hg eg (fun v lv pc hv hz hd => ret v h 0 0 lv pc ⟨hv, rfl⟩ hz (Nat.zero_le _) (Nat.zero_le _) hd) (nf + 1) nf 0 (by omega) (by omega) rfl
