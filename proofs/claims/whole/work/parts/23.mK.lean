section MK
variable {p : Program} {l : Launch} {e : Env} {R : Room} {s : State} {m : MethodId} {args : Array Value} {below : List Frame} {meth : Method} {c : Code} {D : va_G} {cy : Nat → ClassId} {A : Nat → Prop} {Q : State → Prop} {m0 : Nat} {ad : Nat → Nat} {h0 : jH} {S : Nat → Nat → Int32} {nL : Nat} {lv : List (Nat × Value)} {pc : Nat} {st : List Value} {cc : ByteArray}
theorem jm_top {v v' : Int32} (e' : v = v') (k : jM p l e R s m args below meth c D cy A nL Q m0 ad h0 S lv pc (.int v' :: st)) : jM p l e R s m args below meth c D cy A nL Q m0 ad h0 S lv pc (.int v :: st) := by rw [e']; exact k
theorem jm_iremN (C : jC p s m args meth c D cy A nL RX11 cc) {a d : Nat} (hd : decode cc pc = .ok (.irem, 1)) (h : a < 2 ^ 31 ∧ 0 < d ∧ d < 2 ^ 31) (k : jM p l e R s m args below meth c D cy A nL Q m0 ad h0 S lv (pc + 1) (.int (nI (a % d)) :: st)) : jM p l e R s m args below meth c D cy A nL Q m0 ad h0 S lv pc (.int (nI d) :: .int (nI a) :: st) := jm_irem C hd (nI_ne0 h.2.1 h.2.2) (by rw [pk_rem h.1 h.2.1 h.2.2]; exact k)
theorem jm_idivN (C : jC p s m args meth c D cy A nL RX11 cc) {a d : Nat} (hd : decode cc pc = .ok (.idiv, 1)) (h : a < 2 ^ 31 ∧ 0 < d ∧ d < 2 ^ 31) (k : jM p l e R s m args below meth c D cy A nL Q m0 ad h0 S lv (pc + 1) (.int (nI (a / d)) :: st)) : jM p l e R s m args below meth c D cy A nL Q m0 ad h0 S lv pc (.int (nI d) :: .int (nI a) :: st) := jm_idiv C hd (nI_ne0 h.2.1 h.2.2) (by rw [pk_div h.1 h.2.1 h.2.2]; exact k)
end MK
/-- S, with other rows 47 and 48 -/
def W47 (S : Nat → Nat → Int32) (go be : Nat → Int32) : Nat → Nat → Int32 := fun k i => if k = 47 then go i else if k = 48 then be i else S k i
theorem W47_self (S : Nat → Nat → Int32) : W47 S (S 47) (S 48) = S := by
  funext k i
  unfold W47
  split
  · next h => rw [h]
  · split
    · next h => rw [h]
    · rfl
theorem W47_47 (S : Nat → Nat → Int32) (z w : Nat → Int32) (i : Nat) (v : Int32) : u2 (W47 S z w) 47 i v = W47 S (upd z i v) w := by
  funext k j
  unfold u2 W47 upd
  by_cases h : k = 47
  · simp [h]
  · simp [h]
theorem W47_48 (S : Nat → Nat → Int32) (z w : Nat → Int32) (i : Nat) (v : Int32) : u2 (W47 S z w) 48 i v = W47 S z (upd w i v) := by
  funext k j
  unfold u2 W47 upd
  by_cases h : k = 47
  · simp [h]
  · by_cases h2 : k = 48
    · simp [h2]
    · simp [h, h2]
/-- a way's number, read as digits from the last place on -/
def digs (mm : Nat) : Nat → (Nat → Int32) → Nat → Nat → (Nat → Int32) × Nat
  | 0, go, _, c => (go, c)
  | j + 1, go, lf, c => digs mm j (upd go j (nI (lf % (mm + 1)))) (lf / (mm + 1)) (c + if lf % (mm + 1) < mm then 1 else 0)
theorem digs_ok {mm nw : Nat} : ∀ (j : Nat) (go : Nat → Int32) (lf c : Nat), (∀ k, j ≤ k → k < nw → ∃ g, g ≤ mm ∧ go k = nI g) → ∀ k, k < nw → ∃ g, g ≤ mm ∧ (digs mm j go lf c).1 k = nI g
  | 0, _, _, _, h, k, hk => h k (Nat.zero_le _) hk
  | j + 1, go, lf, c, h, k, hk => by
    refine digs_ok j _ _ _ (fun q h1 h2 => ?_) k hk
    unfold upd
    by_cases e : q = j
    · exact ⟨lf % (mm + 1), by have := Nat.mod_lt lf (show mm + 1 > 0 by omega); omega, by simp [e]⟩
    · simp only [e, if_false]
      exact h q (by omega) h2
theorem digs_le {mm : Nat} : ∀ (j : Nat) (go : Nat → Int32) (lf c : Nat), (digs mm j go lf c).2 ≤ c + j
  | 0, _, _, _ => Nat.le_refl _
  | j + 1, go, lf, c => by
    have h := digs_le (mm := mm) j (upd go j (nI (lf % (mm + 1)))) (lf / (mm + 1)) (c + if lf % (mm + 1) < mm then 1 else 0)
    have h2 : (if lf % (mm + 1) < mm then 1 else 0) ≤ 1 := by split <;> omega
    show (digs mm j _ _ _).2 ≤ _
    omega
def gBest (go : Nat → Int32) (mm : Nat) (i : Nat) (be : Nat → Int32) : Nat → Int32 := upd be i (if nI mm ≤ go i then -1 else go i)
/-- one way: its digits, and the best so far -/
def gWay (S : Nat → Nat → Int32) (yy nl ns nt nw mm : Nat) (w : Nat) (p : (Nat → Int32) × (Nat → Int32) × Int32) : (Nat → Int32) × (Nat → Int32) × Int32 :=
  if ¬ nI (digs mm nw p.1 w 0).2 ≤ p.2.2 ∧ goodP (W47 S (digs mm nw p.1 w 0).1 p.2.1) (nI mm) yy nl ns nt nw then ((digs mm nw p.1 w 0).1, flp (gBest (digs mm nw p.1 w 0).1 mm) 0 nw p.2.1, nI (digs mm nw p.1 w 0).2) else ((digs mm nw p.1 w 0).1, p.2.1, p.2.2)
def planZ (S : Nat → Nat → Int32) (yy nl ns nt nw mm : Nat) : (Nat → Int32) × (Nat → Int32) × Int32 := flp (gWay S yy nl ns nt nw mm) 0 ((mm + 1) ^ nw) (S 47, S 48, -1)
theorem im1 (j : Nat) : nI j + (-1) = nI j - 1 := by
  cases j with
  | zero => decide
  | succ n => rw [pk_m1, nI_pred]
theorem all_le {mm nw : Nat} (h : mm ≤ 6) (h2 : nw ≤ 5) : (mm + 1) ^ nw ≤ 16807 := by
  have h1 : (mm + 1) ^ nw ≤ 7 ^ nw := Nat.pow_le_pow_left (by omega) nw
  have h3 : 7 ^ nw ≤ 7 ^ 5 := Nat.pow_le_pow_right (by omega) h2
  have h4 : 7 ^ 5 = 16807 := by decide
  omega
theorem pow_le_all {mm nw i : Nat} (h : mm ≤ 6) (h2 : nw ≤ 5) (hi : i ≤ nw) : (mm + 1) ^ i ≤ 16807 := all_le h (by omega)
set_option maxHeartbeats 4000000 in
set_option maxRecDepth 100000 in
theorem L_pA {p : Program} {l : Launch} {e : Env} {R : Room} {s : State} {m : MethodId} {args : Array Value} {below : List Frame} {meth : Method} {c : Code} {D : va_G} {cy : Nat → ClassId} {A : Nat → Prop} {Q : State → Prop} {m0 : Nat} {ad : Nat → Nat} {h0 : jH} {S : Nat → Nat → Int32} (C : jC p s m args meth c D cy A 8 RX11 cX11_findPlan) {nw mm : Nat}  (hw : S 8 0 = nI nw) (hnw : nw ≤ 5) (hmm : mm ≤ 6) (nx : jM p l e R s m args below meth c D cy A 8 Q m0 ad h0 S [(0, .ref m0), (1, .int (nI mm)), (2, .int (-1)), (3, .int (nI ((mm + 1) ^ nw)))] 38 [])  : ∀ (n k i : Nat) (P : Nat), k < n → i + k = nw → (P = (mm + 1) ^ i) → jM p l e R s m args below meth c D cy A 8 Q m0 ad h0 S [(0, .ref m0), (1, .int (nI mm)), (2, .int (-1)), (3, .int (nI P)), (4, .int (nI i))] 17 [] := by
  intro n
  induction n with
  | zero => intro k i P h1; exact absurd h1 (Nat.not_lt_zero _)
  | succ n ih =>
    intro k i P h1 h2 he
    refine jm_iload C dX11_findPlan_17 rfl ?_
    refine jm_aload_n C dX11_findPlan_19 rfl ?_
    refine jm_getSe (v := nI nw) C fF_X11_235 (by decide) hw dX11_findPlan_20 ?_
    refine jm_icmp_ge (tgt := 38) C dX11_findPlan_23 (by decide) (fun c_23 => ?_) (fun c_23 => ?_)
    · have hge : nw ≤ i := nI_ge_of c_23 (by omega) (by omega)
      obtain rfl : k = 0 := by omega
      obtain rfl : i = nw := by omega
      subst he
      refine jm_sub [0, 1, 2, 3] rfl ?_
      exact nx
    · have hlt : i < nw := nI_lt_of c_23 (by omega)
      obtain ⟨k, rfl⟩ : ∃ q, k = q + 1 := ⟨k - 1, by omega⟩
      refine jm_iload_n C dX11_findPlan_26 rfl ?_
      refine jm_iload_n C dX11_findPlan_27 rfl ?_
      refine jm_iconst (v := 1) C dX11_findPlan_28 (by decide) ?_
      refine jm_iadd C dX11_findPlan_29 ?_
      refine jm_top (nI_1 mm) ?_
      refine jm_imul C dX11_findPlan_30 ?_
      refine jm_top (pk_mul _ _) ?_
      refine jm_istore_n (lv' := [(0, .ref m0), (1, .int (nI mm)), (2, .int (-1)), (3, .int (nI (P * (mm + 1)))), (4, .int (nI i))]) C dX11_findPlan_31 (by decide) rfl ?_
      refine jm_iinc (lv' := [(0, .ref m0), (1, .int (nI mm)), (2, .int (-1)), (3, .int (nI (P * (mm + 1)))), (4, .int (nI (i + 1)))]) C dX11_findPlan_32 rfl (nI_1 _) (by decide) rfl ?_
      refine jm_goto (tgt := 17) C dX11_findPlan_35 (by decide) ?_
      exact ih k (i + 1) _ (by omega) (by omega) (by rw [he, Nat.pow_succ])
set_option maxHeartbeats 4000000 in
set_option maxRecDepth 100000 in
theorem L_pC {p : Program} {l : Launch} {e : Env} {R : Room} {s : State} {m : MethodId} {args : Array Value} {below : List Frame} {meth : Method} {c : Code} {D : va_G} {cy : Nat → ClassId} {A : Nat → Prop} {Q : State → Prop} {m0 : Nat} {ad : Nat → Nat} {h0 : jH} {S : Nat → Nat → Int32} (C : jC p s m args meth c D cy A 8 RX11 cX11_findPlan) {nw mm : Nat}  {be go0 : Nat → Int32} {most : Int32} {NA w : Nat} (hnw : nw ≤ 5) (hmm : mm ≤ 6) (nx : jM p l e R s m args below meth c D cy A 8 Q m0 ad h0 (W47 S (digs mm nw go0 w 0).1 be) [(0, .ref m0), (1, .int (nI mm)), (2, .int most), (3, .int (nI NA)), (4, .int (nI w)), (6, .int (nI (digs mm nw go0 w 0).2))] 115 []) : ∀ (n j : Nat) (go : Nat → Int32) (lf cn : Nat), j < n → j ≤ nw → lf < 20000 → cn + j ≤ 5 → digs mm nw go0 w 0 = digs mm j go lf cn → jM p l e R s m args below meth c D cy A 8 Q m0 ad h0 (W47 S go be) [(0, .ref m0), (1, .int (nI mm)), (2, .int most), (3, .int (nI NA)), (4, .int (nI w)), (5, .int (nI lf)), (6, .int (nI cn)), (7, .int (nI j - 1))] 62 [] := by
  intro n
  induction n with
  | zero => intro j go lf cn h1; exact absurd h1 (Nat.not_lt_zero _)
  | succ n ih =>
    intro j go lf cn h1 h2 hlf hcn he
    refine jm_iload C dX11_findPlan_62 rfl ?_
    refine jm_if_lt (tgt := 115) C dX11_findPlan_64 (by decide) (fun c_64 => ?_) (fun c_64 => ?_)
    · have hj0 : j = 0 := by
        rcases Nat.eq_zero_or_pos j with q | q
        · exact q
        · obtain ⟨j, rfl⟩ : ∃ q, j = q + 1 := ⟨j - 1, by omega⟩
          rw [nI_pred] at c_64
          exact absurd c_64 (nI_pos (by omega))
      subst hj0
      have e1 : go = (digs mm nw go0 w 0).1 := by rw [he]; rfl
      have e2 : cn = (digs mm nw go0 w 0).2 := by rw [he]; rfl
      subst e1; subst e2
      refine jm_sub [0, 1, 2, 3, 4, 6] rfl ?_
      exact nx
    · obtain ⟨j, rfl⟩ : ∃ q, j = q + 1 := ⟨j - 1, by
        rcases Nat.eq_zero_or_pos j with q | q
        · subst q; exact absurd (by decide) c_64
        · omega⟩
      rw [nI_pred j]
      refine jm_aload_n C dX11_findPlan_67 rfl ?_
      refine jm_getA C fF_X11_124 (by decide) (by decide) dX11_findPlan_68 ?_
      refine jm_iload C dX11_findPlan_71 rfl ?_
      refine jm_iload C dX11_findPlan_73 rfl ?_
      refine jm_iload_n C dX11_findPlan_75 rfl ?_
      refine jm_iconst (v := 1) C dX11_findPlan_76 (by decide) ?_
      refine jm_iadd C dX11_findPlan_77 ?_
      refine jm_top (nI_1 mm) ?_
      refine jm_iremN C dX11_findPlan_78 ⟨by omega, by omega, by omega⟩ ?_
      refine jm_astN C 47 (n := 5) (by decide) (by decide) rfl (by omega) dX11_findPlan_79 ?_
      rw [W47_47]
      refine jm_iload C dX11_findPlan_80 rfl ?_
      refine jm_iload_n C dX11_findPlan_82 rfl ?_
      refine jm_iconst (v := 1) C dX11_findPlan_83 (by decide) ?_
      refine jm_iadd C dX11_findPlan_84 ?_
      refine jm_top (nI_1 mm) ?_
      refine jm_idivN C dX11_findPlan_85 ⟨by omega, by omega, by omega⟩ ?_
      refine jm_istore (lv' := [(0, .ref m0), (1, .int (nI mm)), (2, .int most), (3, .int (nI NA)), (4, .int (nI w)), (5, .int (nI (lf / (mm + 1)))), (6, .int (nI cn)), (7, .int (nI j))]) C dX11_findPlan_86 (by decide) rfl ?_
      refine jm_iload C dX11_findPlan_88 rfl ?_
      refine jm_aload_n C dX11_findPlan_90 rfl ?_
      refine jm_getA C fF_X11_124 (by decide) (by decide) dX11_findPlan_91 ?_
      refine jm_iload C dX11_findPlan_94 rfl ?_
      refine jm_aldN C 47 (n := 5) (by decide) (by decide) rfl (by omega) dX11_findPlan_96 ?_
      refine jm_iload_n C dX11_findPlan_97 rfl ?_
      refine jm_icmp_ge (tgt := 105) C dX11_findPlan_98 (by decide) (fun c_98 => ?_) (fun c_98 => ?_)
      · refine jm_iconst (v := 0) C dX11_findPlan_105 (by decide) ?_
        refine jm_iadd C dX11_findPlan_106 ?_
        refine jm_top (by rw [show (0 : Int32) = nI 0 from rfl, nI_add]; rfl) (v' := nI cn) ?_
        refine jm_istore (lv' := [(0, .ref m0), (1, .int (nI mm)), (2, .int most), (3, .int (nI NA)), (4, .int (nI w)), (5, .int (nI (lf / (mm + 1)))), (6, .int (nI cn)), (7, .int (nI j))]) C dX11_findPlan_107 (by decide) rfl ?_
        refine jm_iinc (lv' := [(0, .ref m0), (1, .int (nI mm)), (2, .int most), (3, .int (nI NA)), (4, .int (nI w)), (5, .int (nI (lf / (mm + 1)))), (6, .int (nI cn)), (7, .int ((nI j) + (-1)))]) C dX11_findPlan_109 rfl rfl (by decide) rfl ?_
        refine jm_goto (tgt := 62) C dX11_findPlan_112 (by decide) ?_
        have hmd : lf % (mm + 1) < mm + 1 := Nat.mod_lt lf (by omega)
        have hq : nI mm ≤ nI (lf % (mm + 1)) := by simpa [W47, upd] using c_98
        rw [nI_leI (by omega) (by omega)] at hq
        rw [im1 j]
        exact ih j _ (lf / (mm + 1)) cn (by omega) (by omega) (Nat.lt_of_le_of_lt (Nat.div_le_self _ _) hlf) (by omega) (he.trans (by rw [digs, if_neg (by omega)]; rfl))
      · refine jm_iconst (v := 1) C dX11_findPlan_101 (by decide) ?_
        refine jm_goto (tgt := 106) C dX11_findPlan_102 (by decide) ?_
        refine jm_iadd C dX11_findPlan_106 ?_
        refine jm_top (nI_1 cn) ?_
        refine jm_istore (lv' := [(0, .ref m0), (1, .int (nI mm)), (2, .int most), (3, .int (nI NA)), (4, .int (nI w)), (5, .int (nI (lf / (mm + 1)))), (6, .int (nI (cn + 1))), (7, .int (nI j))]) C dX11_findPlan_107 (by decide) rfl ?_
        refine jm_iinc (lv' := [(0, .ref m0), (1, .int (nI mm)), (2, .int most), (3, .int (nI NA)), (4, .int (nI w)), (5, .int (nI (lf / (mm + 1)))), (6, .int (nI (cn + 1))), (7, .int ((nI j) + (-1)))]) C dX11_findPlan_109 rfl rfl (by decide) rfl ?_
        refine jm_goto (tgt := 62) C dX11_findPlan_112 (by decide) ?_
        have hmd : lf % (mm + 1) < mm + 1 := Nat.mod_lt lf (by omega)
        have hq : ¬ nI mm ≤ nI (lf % (mm + 1)) := by simpa [W47, upd] using c_98
        rw [nI_leI (by omega) (by omega)] at hq
        rw [im1 j]
        exact ih j _ (lf / (mm + 1)) (cn + 1) (by omega) (by omega) (Nat.lt_of_le_of_lt (Nat.div_le_self _ _) hlf) (by omega) (he.trans (by rw [digs, if_pos (by omega)]))
set_option maxHeartbeats 4000000 in
set_option maxRecDepth 100000 in
theorem L_pD {p : Program} {l : Launch} {e : Env} {R : Room} {s : State} {m : MethodId} {args : Array Value} {below : List Frame} {meth : Method} {c : Code} {D : va_G} {cy : Nat → ClassId} {A : Nat → Prop} {Q : State → Prop} {m0 : Nat} {ad : Nat → Nat} {h0 : jH} {S : Nat → Nat → Int32} (C : jC p s m args meth c D cy A 8 RX11 cX11_findPlan) {nw mm : Nat}  {go b0 : Nat → Int32} {most x6 : Int32} {NA w : Nat} (hw : S 8 0 = nI nw) (hnw : nw ≤ 5) (nx : ∀ be, be = b0 → jM p l e R s m args below meth c D cy A 8 Q m0 ad h0 (W47 S go be) [(0, .ref m0), (1, .int (nI mm)), (2, .int most), (3, .int (nI NA)), (4, .int (nI w))] 179 [])  : ∀ (n k i : Nat) (be : Nat → Int32), k < n → i + k = nw → (b0 = flp (gBest go mm) i k be) → jM p l e R s m args below meth c D cy A 8 Q m0 ad h0 (W47 S go be) [(0, .ref m0), (1, .int (nI mm)), (2, .int most), (3, .int (nI NA)), (4, .int (nI w)), (6, .int x6), (7, .int (nI i))] 135 [] := by
  intro n
  induction n with
  | zero => intro k i be h1; exact absurd h1 (Nat.not_lt_zero _)
  | succ n ih =>
    intro k i be h1 h2 he
    refine jm_iload C dX11_findPlan_135 rfl ?_
    refine jm_aload_n C dX11_findPlan_137 rfl ?_
    refine jm_getSe (v := nI nw) C fF_X11_235 (by decide) hw dX11_findPlan_138 ?_
    refine jm_icmp_ge (tgt := 179) C dX11_findPlan_141 (by decide) (fun c_141 => ?_) (fun c_141 => ?_)
    · have hge : nw ≤ i := nI_ge_of c_141 (by omega) (by omega)
      obtain rfl : k = 0 := by omega
      refine jm_sub [0, 1, 2, 3, 4] rfl ?_
      exact nx _ he.symm
    · have hlt : i < nw := nI_lt_of c_141 (by omega)
      obtain ⟨k, rfl⟩ : ∃ q, k = q + 1 := ⟨k - 1, by omega⟩
      refine jm_aload_n C dX11_findPlan_144 rfl ?_
      refine jm_getA C fF_X11_127 (by decide) (by decide) dX11_findPlan_145 ?_
      refine jm_iload C dX11_findPlan_148 rfl ?_
      refine jm_aload_n C dX11_findPlan_150 rfl ?_
      refine jm_getA C fF_X11_124 (by decide) (by decide) dX11_findPlan_151 ?_
      refine jm_iload C dX11_findPlan_154 rfl ?_
      refine jm_aldN C 47 (n := 5) (by decide) (by decide) rfl (by omega) dX11_findPlan_156 ?_
      refine jm_iload_n C dX11_findPlan_157 rfl ?_
      refine jm_icmp_ge (tgt := 171) C dX11_findPlan_158 (by decide) (fun c_158 => ?_) (fun c_158 => ?_)
      · refine jm_iconst (v := (-1)) C dX11_findPlan_171 (by decide) ?_
        refine jm_astN C 48 (n := 5) (by decide) (by decide) rfl (by omega) dX11_findPlan_172 ?_
        refine jm_iinc (lv' := [(0, .ref m0), (1, .int (nI mm)), (2, .int most), (3, .int (nI NA)), (4, .int (nI w)), (6, .int x6), (7, .int (nI (i + 1)))]) C dX11_findPlan_173 rfl (nI_1 _) (by decide) rfl ?_
        refine jm_goto (tgt := 135) C dX11_findPlan_176 (by decide) ?_
        rw [W47_48]
        exact ih k (i + 1) _ (by omega) (by omega) (he.trans (flp_s (congrArg (upd be i) (if_pos c_158))))
      · refine jm_aload_n C dX11_findPlan_161 rfl ?_
        refine jm_getA C fF_X11_124 (by decide) (by decide) dX11_findPlan_162 ?_
        refine jm_iload C dX11_findPlan_165 rfl ?_
        refine jm_aldN C 47 (n := 5) (by decide) (by decide) rfl (by omega) dX11_findPlan_167 ?_
        refine jm_goto (tgt := 172) C dX11_findPlan_168 (by decide) ?_
        refine jm_astN C 48 (n := 5) (by decide) (by decide) rfl (by omega) dX11_findPlan_172 ?_
        refine jm_iinc (lv' := [(0, .ref m0), (1, .int (nI mm)), (2, .int most), (3, .int (nI NA)), (4, .int (nI w)), (6, .int x6), (7, .int (nI (i + 1)))]) C dX11_findPlan_173 rfl (nI_1 _) (by decide) rfl ?_
        refine jm_goto (tgt := 135) C dX11_findPlan_176 (by decide) ?_
        rw [W47_48]
        exact ih k (i + 1) _ (by omega) (by omega) (he.trans (flp_s (congrArg (upd be i) (if_neg c_158))))
set_option maxHeartbeats 4000000 in
set_option maxRecDepth 100000 in
theorem L_pB {p : Program} {l : Launch} {e : Env} {s : State} {m : MethodId} {args : Array Value} {below : List Frame} {meth : Method} {c : Code} {D : va_G} {cy : Nat → ClassId} {A : Nat → Prop} {Q : State → Prop} {m0 : Nat} {ad : Nat → Nat} {h0 : jH} {S : Nat → Nat → Int32} (C : jC p s m args meth c D cy A 8 RX11 cX11_findPlan) {yy nl ns nt nw mm : Nat} {NA : Nat} {p0 : (Nat → Int32) × (Nat → Int32) × Int32}  (hNA : NA ≤ 16807) (hNe : NA = (mm + 1) ^ nw) (hy : S 0 0 = nI yy) (hyy : yy ≤ 40) (hl : S 2 0 = nI nl) (hnl : nl ≤ 200) (hs : S 5 0 = nI ns) (hns : ns ≤ 300) (ht : S 6 0 = nI nt) (hnt : nt ≤ 100) (hw : S 8 0 = nI nw) (hnw : nw ≤ 5) (hwn : ∀ k, k < nw → ∃ j, j < nl ∧ S 42 k = nI j) (hmm : mm ≤ 6) (ret : ∀ (S' : Nat → Nat → Int32) (lv : List (Nat × Value)) (pc : Nat), S' = W47 S p0.1 p0.2.1 → decode cX11_findPlan pc = .ok (.return_, 1) → jM p l e (rmd 5 0 0) s m args below meth c D cy A 8 Q m0 ad h0 S' lv pc [])  : ∀ (n k i : Nat) (go be : Nat → Int32) (most : Int32), k < n → i + k = NA → (p0 = flp (gWay S yy nl ns nt nw mm) i k (go, be, most)) → jM p l e (rmd 5 0 0) s m args below meth c D cy A 8 Q m0 ad h0 (W47 S go be) [(0, .ref m0), (1, .int (nI mm)), (2, .int most), (3, .int (nI NA)), (4, .int (nI i))] 41 [] := by
  intro n
  induction n with
  | zero => intro k i go be most h1; exact absurd h1 (Nat.not_lt_zero _)
  | succ n ih =>
    intro k i go be most h1 h2 he
    refine jm_iload C dX11_findPlan_41 rfl ?_
    refine jm_iload_n C dX11_findPlan_43 rfl ?_
    refine jm_icmp_ge (tgt := 185) C dX11_findPlan_44 (by decide) (fun c_44 => ?_) (fun c_44 => ?_)
    · have hge : NA ≤ i := nI_ge_of c_44 (by omega) (by omega)
      obtain rfl : k = 0 := by omega
      exact ret _ _ _ (by rw [he]; rfl) dX11_findPlan_185
    · have hlt : i < NA := nI_lt_of c_44 (by omega)
      obtain ⟨k, rfl⟩ : ∃ q, k = q + 1 := ⟨k - 1, by omega⟩
      refine jm_iload C dX11_findPlan_47 rfl ?_
      refine jm_istore (lv' := [(0, .ref m0), (1, .int (nI mm)), (2, .int most), (3, .int (nI NA)), (4, .int (nI i)), (5, .int (nI i))]) C dX11_findPlan_49 (by decide) rfl ?_
      refine jm_iconst (v := 0) C dX11_findPlan_51 (by decide) ?_
      refine jm_istore (lv' := [(0, .ref m0), (1, .int (nI mm)), (2, .int most), (3, .int (nI NA)), (4, .int (nI i)), (5, .int (nI i)), (6, .int 0)]) C dX11_findPlan_52 (by decide) rfl ?_
      refine jm_aload_n C dX11_findPlan_54 rfl ?_
      refine jm_getSe (v := nI nw) C fF_X11_235 (by decide) hw dX11_findPlan_55 ?_
      refine jm_iconst (v := 1) C dX11_findPlan_58 (by decide) ?_
      refine jm_isub C dX11_findPlan_59 ?_
      refine jm_istore (lv' := [(0, .ref m0), (1, .int (nI mm)), (2, .int most), (3, .int (nI NA)), (4, .int (nI i)), (5, .int (nI i)), (6, .int 0), (7, .int ((nI nw) - 1))]) C dX11_findPlan_60 (by decide) rfl ?_
      refine L_pC (go0 := go) (w := i) C hnw hmm ?_ (nw + 1) nw go i 0 (by omega) (by omega) (by have := all_le hmm hnw; omega) (by omega) rfl
      refine jm_iload C dX11_findPlan_115 rfl ?_
      refine jm_iload_n C dX11_findPlan_117 rfl ?_
      refine jm_icmp_le (tgt := 179) C dX11_findPlan_118 (by decide) (fun c_118 => ?_) (fun c_118 => ?_)
      · refine jm_sub [0, 1, 2, 3, 4] rfl ?_
        refine jm_iinc (lv' := [(0, .ref m0), (1, .int (nI mm)), (2, .int most), (3, .int (nI NA)), (4, .int (nI (i + 1)))]) C dX11_findPlan_179 rfl (nI_1 _) (by decide) rfl ?_
        refine jm_goto (tgt := 41) C dX11_findPlan_182 (by decide) ?_
        exact ih k (i + 1) _ _ _ (by omega) (by omega) (he.trans (flp_s (by rw [gWay, if_neg (fun u => u.1 c_118)])))
      · refine jm_aload_n C dX11_findPlan_121 rfl ?_
        refine jm_iload_n C dX11_findPlan_122 rfl ?_
        refine jm_calli (As := [.int (nI mm)]) (rest := []) C fG_X11_241 (c_isGood (S := (W47 S (digs mm nw go i 0).1 be)) (nI mm) (yy := yy) (nl := nl) (ns := ns) (nt := nt) (nw := nw) (mm := mm) hy hyy hl hnl hs hns ht hnt hw hnw hwn (digs_ok nw go i 0 (fun k h1 h2 => absurd h2 (by omega))) hmm) rfl rfl (Nat.le_of_ble_eq_true rfl) ⟨Nat.le_of_ble_eq_true rfl, Nat.le_of_ble_eq_true rfl⟩ dX11_findPlan_123 (fun r_123 S_123 e_123 => ?_)
        obtain ⟨e1_123, e2_123⟩ := e_123
        subst e1_123
        subst e2_123
        refine jm_ifeq_b (tgt := 179) C dX11_findPlan_126 (by decide) (fun c_126 => ?_) (fun c_126 => ?_)
        · refine jm_sub [0, 1, 2, 3, 4] rfl ?_
          refine jm_iinc (lv' := [(0, .ref m0), (1, .int (nI mm)), (2, .int most), (3, .int (nI NA)), (4, .int (nI (i + 1)))]) C dX11_findPlan_179 rfl (nI_1 _) (by decide) rfl ?_
          refine jm_goto (tgt := 41) C dX11_findPlan_182 (by decide) ?_
          exact ih k (i + 1) _ _ _ (by omega) (by omega) (he.trans (flp_s (by rw [gWay, if_neg (fun u => c_126 u.2)])))
        · refine jm_iload C dX11_findPlan_129 rfl ?_
          refine jm_istore_n (lv' := [(0, .ref m0), (1, .int (nI mm)), (2, .int (nI (digs mm nw go i 0).2)), (3, .int (nI NA)), (4, .int (nI i)), (6, .int (nI (digs mm nw go i 0).2))]) C dX11_findPlan_131 (by decide) rfl ?_
          refine jm_iconst (v := 0) C dX11_findPlan_132 (by decide) ?_
          refine jm_istore (lv' := [(0, .ref m0), (1, .int (nI mm)), (2, .int (nI (digs mm nw go i 0).2)), (3, .int (nI NA)), (4, .int (nI i)), (6, .int (nI (digs mm nw go i 0).2)), (7, .int 0)]) C dX11_findPlan_133 (by decide) rfl ?_
          refine L_pD (b0 := flp (gBest (digs mm nw go i 0).1 mm) 0 nw be) C hw hnw (fun be2 hbe2 => ?_) (nw + 1) nw 0 be (by omega) (by omega) rfl
          subst hbe2
          refine jm_iinc (lv' := [(0, .ref m0), (1, .int (nI mm)), (2, .int (nI (digs mm nw go i 0).2)), (3, .int (nI NA)), (4, .int (nI (i + 1)))]) C dX11_findPlan_179 rfl (nI_1 _) (by decide) rfl ?_
          refine jm_goto (tgt := 41) C dX11_findPlan_182 (by decide) ?_
          exact ih k (i + 1) _ _ _ (by omega) (by omega) (he.trans (flp_s (by rw [gWay, if_pos ⟨c_118, c_126⟩])))
def mmS (nf : Nat) : Nat := if nf < 6 then nf else 6
theorem mmS_le (nf : Nat) : mmS nf ≤ 6 := by unfold mmS; split <;> omega
theorem mmS_eq {nf : Nat} (h : nf ≤ 40) : (if nI nf < 6 then nI nf else 6) = nI (mmS nf) := by
  unfold mmS
  by_cases q : nf < 6
  · rw [if_pos (show nI nf < 6 from nI_lt (b := 6) q (by decide)), if_pos q]
  · rw [if_neg (show ¬ nI nf < 6 from nI_nlt (b := 6) (by omega) (by omega)), if_neg q]; rfl
set_option maxHeartbeats 4000000 in
set_option maxRecDepth 100000 in
theorem c_findPlan {l : Launch} {D : va_G} {cy : Nat → ClassId} {m0 : Nat} {ad : Nat → Nat} {S : Nat → Nat → Int32} {nf yy nl ns nt nw : Nat} (hf : S 1 0 = nI nf) (hnf : nf ≤ 40) (hy : S 0 0 = nI yy) (hyy : yy ≤ 40) (hl : S 2 0 = nI nl) (hnl : nl ≤ 200) (hs : S 5 0 = nI ns) (hns : ns ≤ 300) (ht : S 6 0 = nI nt) (hnt : nt ≤ 100) (hw : S 8 0 = nI nw) (hnw : nw ≤ 5) (hwn : ∀ k, k < nw → ∃ j, j < nl ∧ S 42 k = nI j) : mV l D cy yX11_findPlan (.code yX11_findPlan cX11_findPlan 8 ((Option.none : Option FieldType))) 5 m0 ad [] S (fun S' => S' = W47 S (planZ S yy nl ns nt nw (mmS nf)).1 (planZ S yy nl ns nt nw (mmS nf)).2.1) := by
  refine m_ofV rfl (Nat.le_of_ble_eq_true rfl) (fun p e s m args below meth c A Q h0 C ret => ?_)
  refine jm_bipush (v := 6) C dX11_findPlan_0 (by decide) ?_
  refine jm_aload_n C dX11_findPlan_2 rfl ?_
  refine jm_getSe (v := nI nf) C fF_X11_130 (by decide) hf dX11_findPlan_3 ?_
  refine jm_min C kM_X11_144 dX11_findPlan_6 (Nat.le_of_ble_eq_true rfl) (Nat.le_of_ble_eq_true rfl) ?_
  refine jm_top (mmS_eq hnf) ?_
  refine jm_istore_n (lv' := [(0, .ref m0), (1, .int (nI (mmS nf)))]) C dX11_findPlan_9 (by decide) rfl ?_
  refine jm_iconst (v := (-1)) C dX11_findPlan_10 (by decide) ?_
  refine jm_istore_n (lv' := [(0, .ref m0), (1, .int (nI (mmS nf))), (2, .int (-1))]) C dX11_findPlan_11 (by decide) rfl ?_
  refine jm_iconst (v := 1) C dX11_findPlan_12 (by decide) ?_
  refine jm_istore_n (lv' := [(0, .ref m0), (1, .int (nI (mmS nf))), (2, .int (-1)), (3, .int 1)]) C dX11_findPlan_13 (by decide) rfl ?_
  refine jm_iconst (v := 0) C dX11_findPlan_14 (by decide) ?_
  refine jm_istore (lv' := [(0, .ref m0), (1, .int (nI (mmS nf))), (2, .int (-1)), (3, .int 1), (4, .int 0)]) C dX11_findPlan_15 (by decide) rfl ?_
  refine L_pA C hw hnw (mmS_le nf) ?_ (nw + 1) nw 0 1 (by omega) (by omega) rfl
  refine jm_iconst (v := 0) C dX11_findPlan_38 (by decide) ?_
  refine jm_istore (lv' := [(0, .ref m0), (1, .int (nI (mmS nf))), (2, .int (-1)), (3, .int (nI ((mmS nf + 1) ^ nw))), (4, .int 0)]) C dX11_findPlan_39 (by decide) rfl ?_
  rw [← W47_self S]
  exact L_pB (p0 := planZ S yy nl ns nt nw (mmS nf)) C (all_le (mmS_le nf) hnw) rfl hy hyy hl hnl hs hns ht hnt hw hnw hwn (mmS_le nf) ret ((mmS nf + 1) ^ nw + 1) ((mmS nf + 1) ^ nw) 0 _ _ _ (by omega) (by omega) rfl
