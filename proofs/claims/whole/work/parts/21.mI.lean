def CI (S : Nat → Nat → Int32) (nf nl ns nt nk : Nat) : Prop := (S 1 0 = nI nf ∧ nf ≤ 40) ∧ (S 2 0 = nI nl ∧ nl ≤ 200) ∧ (S 5 0 = nI ns ∧ ns ≤ 300) ∧ (S 6 0 = nI nt ∧ nt ≤ 100) ∧ (S 7 0 = nI nk ∧ nk ≤ 300) ∧ (∀ a, a < nl → ¬ S 21 a = 0 → (S 21 a = 1 → vp_in (S 25 a) 40) ∧ vp_in (S 26 a) 200 ∧ (S 21 a = 2 → vp_in (S 27 a) 200)) ∧ (∀ a, a < nl → ∃ yy, yy ≤ 40 ∧ S 24 a = nI yy)
def cl1 (S : Nat → Nat → Int32) (q : Int32) (k : Nat) (p : (Nat → Int32) × (Nat → Int32)) : (Nat → Int32) × (Nat → Int32) := if S 21 k = 0 then (upd p.1 k (if why0 S k q = 0 then 0 else 9), upd p.2 k (why0 S k q)) else p
def cl2 (S : Nat → Nat → Int32) (q : Int32) (nf nl ns nt nk : Nat) (k : Nat) (p : (Nat → Int32) × (Nat → Int32)) : (Nat → Int32) × (Nat → Int32) := if ¬ S 21 k = 0 ∧ ¬ q < S 24 k then (upd p.1 k (rankZ S p.1 p.2 k q nf nl ns nt nk), upd p.2 k (whyZ S p.1 p.2 k q nf nl ns nt nk)) else p
/-- ranks and reasons of all lots as known in q, laid over what lay there -/
def clsZ (S : Nat → Nat → Int32) (q : Int32) (nf nl ns nt nk : Nat) : (Nat → Int32) × (Nat → Int32) := flp (cl2 S q nf nl ns nt nk) 0 nl (flp (cl1 S q) 0 nl (S 44, S 45))
theorem cl1_5 {S : Nat → Nat → Int32} {q : Int32} {k : Nat} {z w : Nat → Int32} (h : S 21 k = 0) (h1 : ¬ S 33 k = -1) (h2 : ¬ q < S 33 k) : cl1 S q k (z, w) = (upd z k 9, upd w k 5) := by
  rw [cl1, if_pos h, if_neg (why0_5 h1 h2), show why0 S k q = 5 from if_pos ⟨h1, h2⟩]
theorem cl1_0 {S : Nat → Nat → Int32} {q : Int32} {k : Nat} {z w : Nat → Int32} (h : S 21 k = 0) (h1 : why0 S k q = 0) : cl1 S q k (z, w) = (upd z k 0, upd w k 0) := by
  rw [cl1, if_pos h, if_pos h1, h1]
set_option maxHeartbeats 4000000 in
set_option maxRecDepth 100000 in
theorem L_cl1 {p : Program} {l : Launch} {e : Env} {R : Room} {s : State} {m : MethodId} {args : Array Value} {below : List Frame} {meth : Method} {c : Code} {D : va_G} {cy : Nat → ClassId} {A : Nat → Prop} {Q : State → Prop} {m0 : Nat} {ad : Nat → Nat} {h0 : jH} {S : Nat → Nat → Int32} (C : jC p s m args meth c D cy A 5 RX11 cX11_classOf) {x q : Int32} {nl : Nat} {p0 : (Nat → Int32) × (Nat → Int32)} (hl : S 2 0 = nI nl) (hnl : nl ≤ 200) (nx : ∀ z w : Nat → Int32, (z, w) = p0 → jM p l e R s m args below meth c D cy A 5 Q m0 ad h0 (W45 S z w) [(0, .ref m0), (1, .int x), (2, .int q)] 85 [])  : ∀ (n k i : Nat) (z w : Nat → Int32), k < n → i + k = nl → (p0 = flp (cl1 S q) i k (z, w)) → jM p l e R s m args below meth c D cy A 5 Q m0 ad h0 (W45 S z w) [(0, .ref m0), (1, .int x), (2, .int q), (3, .int (nI i))] 2 [] := by
  intro n
  induction n with
  | zero => intro k i z w h1; exact absurd h1 (Nat.not_lt_zero _)
  | succ n ih =>
    intro k i z w h1 h2 he
    refine jm_iload_n C dX11_classOf_2 rfl ?_
    refine jm_aload_n C dX11_classOf_3 rfl ?_
    refine jm_getSe (v := nI nl) C fF_X11_138 (by decide) hl dX11_classOf_4 ?_
    refine jm_icmp_ge (tgt := 85) C dX11_classOf_7 (by decide) (fun c_7 => ?_) (fun c_7 => ?_)
    · have hge : nl ≤ i := nI_ge_of c_7 (by omega) (by omega)
      obtain rfl : k = 0 := by omega
      refine jm_sub [0, 1, 2] rfl ?_
      exact nx z w he.symm
    · have hlt : i < nl := nI_lt_of c_7 (by omega)
      obtain ⟨k, rfl⟩ : ∃ q, k = q + 1 := ⟨k - 1, by omega⟩
      refine jm_aload_n C dX11_classOf_10 rfl ?_
      refine jm_getA C fF_X11_46 (by decide) (by decide) dX11_classOf_11 ?_
      refine jm_iload_n C dX11_classOf_14 rfl ?_
      refine jm_aldN C 21 (n := 200) (by decide) (by decide) rfl (by omega) dX11_classOf_15 ?_
      refine jm_if_ne (tgt := 79) C dX11_classOf_16 (by decide) (fun c_16 => ?_) (fun c_16 => ?_)
      · refine jm_iinc (lv' := [(0, .ref m0), (1, .int x), (2, .int q), (3, .int (nI (i + 1)))]) C dX11_classOf_79 rfl (nI_1 _) (by decide) rfl ?_
        refine jm_goto (tgt := 2) C dX11_classOf_82 (by decide) ?_
        replace c_16 : ¬ S 21 i = 0 := c_16
        exact ih k (i + 1) z w (by omega) (by omega) (he.trans (flp_s (by rw [cl1, if_neg c_16])))
      · refine jm_aload_n C dX11_classOf_19 rfl ?_
        refine jm_getA C fF_X11_82 (by decide) (by decide) dX11_classOf_20 ?_
        refine jm_iload_n C dX11_classOf_23 rfl ?_
        refine jm_aldN C 33 (n := 200) (by decide) (by decide) rfl (by omega) dX11_classOf_24 ?_
        refine jm_iconst (v := (-1)) C dX11_classOf_25 (by decide) ?_
        refine jm_icmp_eq (tgt := 43) C dX11_classOf_26 (by decide) (fun c_26 => ?_) (fun c_26 => ?_)
        · refine jm_iconst (v := 0) C dX11_classOf_43 (by decide) ?_
          refine jm_istore (lv' := [(0, .ref m0), (1, .int x), (2, .int q), (3, .int (nI i)), (4, .int 0)]) C dX11_classOf_44 (by decide) rfl ?_
          refine jm_aload_n C dX11_classOf_46 rfl ?_
          refine jm_getA C fF_X11_115 (by decide) (by decide) dX11_classOf_47 ?_
          refine jm_iload_n C dX11_classOf_50 rfl ?_
          refine jm_iload C dX11_classOf_51 rfl ?_
          refine jm_if_eq (tgt := 61) C dX11_classOf_53 (by decide) (fun c_53 => ?_) (fun c_53 => ?_)
          · refine jm_iconst (v := 0) C dX11_classOf_61 (by decide) ?_
            refine jm_astN C 44 (n := 200) (by decide) (by decide) rfl (by omega) dX11_classOf_62 ?_
            refine jm_aload_n C dX11_classOf_63 rfl ?_
            refine jm_getA C fF_X11_118 (by decide) (by decide) dX11_classOf_64 ?_
            refine jm_iload_n C dX11_classOf_67 rfl ?_
            refine jm_iload C dX11_classOf_68 rfl ?_
            refine jm_if_eq (tgt := 77) C dX11_classOf_70 (by decide) (fun c_70 => ?_) (fun c_70 => ?_)
            · refine jm_iconst (v := 0) C dX11_classOf_77 (by decide) ?_
              refine jm_astN C 45 (n := 200) (by decide) (by decide) rfl (by omega) dX11_classOf_78 ?_
              refine jm_iinc (lv' := [(0, .ref m0), (1, .int x), (2, .int q), (3, .int (nI (i + 1))), (4, .int 0)]) C dX11_classOf_79 rfl (nI_1 _) (by decide) rfl ?_
              refine jm_goto (tgt := 2) C dX11_classOf_82 (by decide) ?_
              refine jm_sub [0, 1, 2, 3] rfl ?_
              replace c_16 : S 21 i = 0 := c_16
              rw [W45_44, W45_45]
              exact ih k (i + 1) _ _ (by omega) (by omega) (he.trans (flp_s (cl1_0 c_16 (why0_a c_26))))
            · exact absurd rfl c_70
          · exact absurd rfl c_53
        · refine jm_aload_n C dX11_classOf_29 rfl ?_
          refine jm_getA C fF_X11_82 (by decide) (by decide) dX11_classOf_30 ?_
          refine jm_iload_n C dX11_classOf_33 rfl ?_
          refine jm_aldN C 33 (n := 200) (by decide) (by decide) rfl (by omega) dX11_classOf_34 ?_
          refine jm_iload_n C dX11_classOf_35 rfl ?_
          refine jm_icmp_gt (tgt := 43) C dX11_classOf_36 (by decide) (fun c_36 => ?_) (fun c_36 => ?_)
          · refine jm_iconst (v := 0) C dX11_classOf_43 (by decide) ?_
            refine jm_istore (lv' := [(0, .ref m0), (1, .int x), (2, .int q), (3, .int (nI i)), (4, .int 0)]) C dX11_classOf_44 (by decide) rfl ?_
            refine jm_aload_n C dX11_classOf_46 rfl ?_
            refine jm_getA C fF_X11_115 (by decide) (by decide) dX11_classOf_47 ?_
            refine jm_iload_n C dX11_classOf_50 rfl ?_
            refine jm_iload C dX11_classOf_51 rfl ?_
            refine jm_if_eq (tgt := 61) C dX11_classOf_53 (by decide) (fun c_53 => ?_) (fun c_53 => ?_)
            · refine jm_iconst (v := 0) C dX11_classOf_61 (by decide) ?_
              refine jm_astN C 44 (n := 200) (by decide) (by decide) rfl (by omega) dX11_classOf_62 ?_
              refine jm_aload_n C dX11_classOf_63 rfl ?_
              refine jm_getA C fF_X11_118 (by decide) (by decide) dX11_classOf_64 ?_
              refine jm_iload_n C dX11_classOf_67 rfl ?_
              refine jm_iload C dX11_classOf_68 rfl ?_
              refine jm_if_eq (tgt := 77) C dX11_classOf_70 (by decide) (fun c_70 => ?_) (fun c_70 => ?_)
              · refine jm_iconst (v := 0) C dX11_classOf_77 (by decide) ?_
                refine jm_astN C 45 (n := 200) (by decide) (by decide) rfl (by omega) dX11_classOf_78 ?_
                refine jm_iinc (lv' := [(0, .ref m0), (1, .int x), (2, .int q), (3, .int (nI (i + 1))), (4, .int 0)]) C dX11_classOf_79 rfl (nI_1 _) (by decide) rfl ?_
                refine jm_goto (tgt := 2) C dX11_classOf_82 (by decide) ?_
                refine jm_sub [0, 1, 2, 3] rfl ?_
                replace c_16 : S 21 i = 0 := c_16
                rw [W45_44, W45_45]
                exact ih k (i + 1) _ _ (by omega) (by omega) (he.trans (flp_s (cl1_0 c_16 (why0_b c_36))))
              · exact absurd rfl c_70
            · exact absurd rfl c_53
          · refine jm_iconst (v := 1) C dX11_classOf_39 (by decide) ?_
            refine jm_goto (tgt := 44) C dX11_classOf_40 (by decide) ?_
            refine jm_istore (lv' := [(0, .ref m0), (1, .int x), (2, .int q), (3, .int (nI i)), (4, .int 1)]) C dX11_classOf_44 (by decide) rfl ?_
            refine jm_aload_n C dX11_classOf_46 rfl ?_
            refine jm_getA C fF_X11_115 (by decide) (by decide) dX11_classOf_47 ?_
            refine jm_iload_n C dX11_classOf_50 rfl ?_
            refine jm_iload C dX11_classOf_51 rfl ?_
            refine jm_if_eq (tgt := 61) C dX11_classOf_53 (by decide) (fun c_53 => ?_) (fun c_53 => ?_)
            · exact absurd c_53 (by decide)
            refine jm_bipush (v := 9) C dX11_classOf_56 (by decide) ?_
            refine jm_goto (tgt := 62) C dX11_classOf_58 (by decide) ?_
            refine jm_astN C 44 (n := 200) (by decide) (by decide) rfl (by omega) dX11_classOf_62 ?_
            refine jm_aload_n C dX11_classOf_63 rfl ?_
            refine jm_getA C fF_X11_118 (by decide) (by decide) dX11_classOf_64 ?_
            refine jm_iload_n C dX11_classOf_67 rfl ?_
            refine jm_iload C dX11_classOf_68 rfl ?_
            refine jm_if_eq (tgt := 77) C dX11_classOf_70 (by decide) (fun c_70 => ?_) (fun c_70 => ?_)
            · exact absurd c_70 (by decide)
            refine jm_iconst (v := 5) C dX11_classOf_73 (by decide) ?_
            refine jm_goto (tgt := 78) C dX11_classOf_74 (by decide) ?_
            refine jm_astN C 45 (n := 200) (by decide) (by decide) rfl (by omega) dX11_classOf_78 ?_
            refine jm_iinc (lv' := [(0, .ref m0), (1, .int x), (2, .int q), (3, .int (nI (i + 1))), (4, .int 1)]) C dX11_classOf_79 rfl (nI_1 _) (by decide) rfl ?_
            refine jm_goto (tgt := 2) C dX11_classOf_82 (by decide) ?_
            refine jm_sub [0, 1, 2, 3] rfl ?_
            replace c_16 : S 21 i = 0 := c_16
            rw [W45_44, W45_45]
            exact ih k (i + 1) _ _ (by omega) (by omega) (he.trans (flp_s (cl1_5 c_16 c_26 c_36)))
set_option maxHeartbeats 4000000 in
set_option maxRecDepth 100000 in
theorem L_cl2 {p : Program} {l : Launch} {e : Env} {s : State} {m : MethodId} {args : Array Value} {below : List Frame} {meth : Method} {c : Code} {D : va_G} {cy : Nat → ClassId} {A : Nat → Prop} {Q : State → Prop} {m0 : Nat} {ad : Nat → Nat} {h0 : jH} {S : Nat → Nat → Int32} (C : jC p s m args meth c D cy A 5 RX11 cX11_classOf) {x q : Int32} {nf nl ns nt nk : Nat} {p0 : (Nat → Int32) × (Nat → Int32)} (hc : CI S nf nl ns nt nk) (hnl : nl ≤ 200) (hx : vp_in x 200) (ret : ∀ (r : Int32) (S' : Nat → Nat → Int32) (lv : List (Nat × Value)) (pc : Nat), (r = p0.1 x.toNatClampNeg ∧ S' = W45 S p0.1 p0.2) → decode cX11_classOf pc = .ok (.ireturn, 1) → jM p l e (rmd 5 0 0) s m args below meth c D cy A 5 Q m0 ad h0 S' lv pc [.int r]) : ∀ (n k i : Nat) (z w : Nat → Int32), k < n → i + k = nl → (p0 = flp (cl2 S q nf nl ns nt nk) i k (z, w)) → jM p l e (rmd 5 0 0) s m args below meth c D cy A 5 Q m0 ad h0 (W45 S z w) [(0, .ref m0), (1, .int x), (2, .int q), (3, .int (nI i))] 87 [] := by
  intro n
  induction n with
  | zero => intro k i z w h1; exact absurd h1 (Nat.not_lt_zero _)
  | succ n ih =>
    intro k i z w h1 h2 he
    refine jm_iload_n C dX11_classOf_87 rfl ?_
    refine jm_aload_n C dX11_classOf_88 rfl ?_
    refine jm_getSe (v := nI nl) C fF_X11_138 (by decide) hc.2.1.1 dX11_classOf_89 ?_
    refine jm_icmp_ge (tgt := 126) C dX11_classOf_92 (by decide) (fun c_92 => ?_) (fun c_92 => ?_)
    · have hge : nl ≤ i := nI_ge_of c_92 (by omega) (by omega)
      obtain rfl : k = 0 := by omega
      refine jm_aload_n C dX11_classOf_126 rfl ?_
      refine jm_getA C fF_X11_115 (by decide) (by decide) dX11_classOf_127 ?_
      refine jm_iload_n C dX11_classOf_130 rfl ?_
      refine jm_ald C 44 (n := 200) (by decide) (by decide) rfl hx dX11_classOf_131 ?_
      exact ret _ _ _ _ ⟨by rw [he]; rfl, by rw [he]; rfl⟩ dX11_classOf_132
    · have hlt : i < nl := nI_lt_of c_92 (by omega)
      obtain ⟨k, rfl⟩ : ∃ q, k = q + 1 := ⟨k - 1, by omega⟩
      refine jm_aload_n C dX11_classOf_95 rfl ?_
      refine jm_getA C fF_X11_46 (by decide) (by decide) dX11_classOf_96 ?_
      refine jm_iload_n C dX11_classOf_99 rfl ?_
      refine jm_aldN C 21 (n := 200) (by decide) (by decide) rfl (by omega) dX11_classOf_100 ?_
      refine jm_if_eq (tgt := 120) C dX11_classOf_101 (by decide) (fun c_101 => ?_) (fun c_101 => ?_)
      · refine jm_iinc (lv' := [(0, .ref m0), (1, .int x), (2, .int q), (3, .int (nI (i + 1)))]) C dX11_classOf_120 rfl (nI_1 _) (by decide) rfl ?_
        refine jm_goto (tgt := 87) C dX11_classOf_123 (by decide) ?_
        exact ih k (i + 1) z w (by omega) (by omega) (he.trans (flp_s (by rw [cl2, if_neg (fun u => u.1 c_101)])))
      · refine jm_aload_n C dX11_classOf_104 rfl ?_
        refine jm_getA C fF_X11_55 (by decide) (by decide) dX11_classOf_105 ?_
        refine jm_iload_n C dX11_classOf_108 rfl ?_
        refine jm_aldN C 24 (n := 200) (by decide) (by decide) rfl (by omega) dX11_classOf_109 ?_
        refine jm_iload_n C dX11_classOf_110 rfl ?_
        refine jm_icmp_gt (tgt := 120) C dX11_classOf_111 (by decide) (fun c_111 => ?_) (fun c_111 => ?_)
        · refine jm_iinc (lv' := [(0, .ref m0), (1, .int x), (2, .int q), (3, .int (nI (i + 1)))]) C dX11_classOf_120 rfl (nI_1 _) (by decide) rfl ?_
          refine jm_goto (tgt := 87) C dX11_classOf_123 (by decide) ?_
          exact ih k (i + 1) z w (by omega) (by omega) (he.trans (flp_s (by rw [cl2, if_neg (fun u => u.2 c_111)])))
        · obtain ⟨yy_117, hyy_117⟩ := hc.2.2.2.2.2.2 i hlt
          refine jm_aload_n C dX11_classOf_114 rfl ?_
          refine jm_iload_n C dX11_classOf_115 rfl ?_
          refine jm_iload_n C dX11_classOf_116 rfl ?_
          refine jm_callv (As := [.int (nI i), .int q]) (rest := []) C fG_X11_212 (c_judgeOne (z := z) (w := w) (lt := i) (q := q) (yy := yy_117) hc.1.1 hc.1.2 hc.2.1.1 hc.2.1.2 hc.2.2.1.1 hc.2.2.1.2 hc.2.2.2.1.1 hc.2.2.2.1.2 hc.2.2.2.2.1.1 hc.2.2.2.2.1.2 (by omega) (hc.2.2.2.2.2.1 i hlt c_101).1 (hc.2.2.2.2.2.1 i hlt c_101).2.1 (hc.2.2.2.2.2.1 i hlt c_101).2.2 (fun a ha h1 => (hc.2.2.2.2.2.1 a ha (fun h0 => absurd (h0.symm.trans h1) (by decide))).2.1) hyy_117.2 hyy_117.1) rfl rfl (Nat.le_of_ble_eq_true rfl) ⟨Nat.le_of_ble_eq_true rfl, Nat.le_of_ble_eq_true rfl⟩ dX11_classOf_117 (fun S_117 e_117 => ?_)
          subst e_117
          refine jm_iinc (lv' := [(0, .ref m0), (1, .int x), (2, .int q), (3, .int (nI (i + 1)))]) C dX11_classOf_120 rfl (nI_1 _) (by decide) rfl ?_
          refine jm_goto (tgt := 87) C dX11_classOf_123 (by decide) ?_
          exact ih k (i + 1) _ _ (by omega) (by omega) (he.trans (flp_s (by rw [cl2, if_pos ⟨c_101, c_111⟩])))
set_option maxHeartbeats 4000000 in
set_option maxRecDepth 100000 in
theorem c_classOf {l : Launch} {D : va_G} {cy : Nat → ClassId} {m0 : Nat} {ad : Nat → Nat} {S : Nat → Nat → Int32} (x q : Int32) {nf nl ns nt nk : Nat} (hc : CI S nf nl ns nt nk) (hx : vp_in x 200) : mI l D cy yX11_classOf (.code yX11_classOf cX11_classOf 5 ((Option.some FieldType.int))) 5 m0 ad [.int x, .int q] S (fun r S' => r = (clsZ S q nf nl ns nt nk).1 x.toNatClampNeg ∧ S' = W45 S (clsZ S q nf nl ns nt nk).1 (clsZ S q nf nl ns nt nk).2) := by
  have hnl := hc.2.1.2
  refine m_ofI rfl (Nat.le_of_ble_eq_true rfl) (fun p e s m args below meth c A Q h0 C ret => ?_)
  refine jm_iconst (v := 0) C dX11_classOf_0 (by decide) ?_
  refine jm_istore_n (lv' := [(0, .ref m0), (1, .int x), (2, .int q), (3, .int 0)]) C dX11_classOf_1 (by decide) rfl ?_
  rw [← W45_self S]
  refine L_cl1 (p0 := flp (cl1 S q) 0 nl (S 44, S 45)) C hc.2.1.1 hc.2.1.2 (fun z w g => ?_) (nl + 1) nl 0 _ _ (by omega) (by omega) rfl
  refine jm_iconst (v := 0) C dX11_classOf_85 (by decide) ?_
  refine jm_istore_n (lv' := [(0, .ref m0), (1, .int x), (2, .int q), (3, .int 0)]) C dX11_classOf_86 (by decide) rfl ?_
  exact L_cl2 (p0 := clsZ S q nf nl ns nt nk) C hc hc.2.1.2 hx ret (nl + 1) nl 0 z w (by omega) (by omega) (by rw [clsZ, ← g])
abbrev jdgP (S : Nat → Nat → Int32) (lt q : Int32) : Prop := (0 ≤ lt ∧ lt ≤ S 2 0 - 1) ∧ (S 24 lt.toNatClampNeg ≤ q ∧ q ≤ S 0 0)
set_option maxHeartbeats 4000000 in
set_option maxRecDepth 100000 in
theorem c_isJudged {l : Launch} {D : va_G} {cy : Nat → ClassId} {m0 : Nat} {ad : Nat → Nat} {S : Nat → Nat → Int32} (lt q : Int32) {nl : Nat} (hl : S 2 0 = nI nl) (hnl : nl ≤ 200) : mI l D cy yX11_isJudged (.code yX11_isJudged cX11_isJudged 3 ((Option.some FieldType.boolean))) 2 m0 ad [.int lt, .int q] S (fun r S' => r = bI (jdgP S lt q) ∧ S' = S) := by
  refine m_ofZ rfl (Nat.le_of_ble_eq_true rfl) (fun p e s m args below meth c A Q h0 C ret => ?_)
  refine jm_aload_n C dX11_isJudged_0 rfl ?_
  refine jm_iload_n C dX11_isJudged_1 rfl ?_
  refine jm_calli (As := [.int lt]) (rest := []) C fG_X11_186 (c_isLot (lt)) rfl rfl (Nat.le_of_ble_eq_true rfl) ⟨Nat.le_of_ble_eq_true rfl, Nat.le_of_ble_eq_true rfl⟩ dX11_isJudged_2 (fun r_2 S_2 e_2 => ?_)
  obtain ⟨e1_2, e2_2⟩ := e_2
  subst e1_2
  replace e2_2 := e2_2.symm
  subst e2_2
  refine jm_ifeq_b (tgt := 29) C dX11_isJudged_5 (by decide) (fun c_5 => ?_) (fun c_5 => ?_)
  · refine jm_iconst (v := 0) C dX11_isJudged_29 (by decide) ?_
    exact ret _ _ _ _ ⟨(bI_f (fun u => c_5 u.1)).symm, rfl⟩ (by decide) dX11_isJudged_30
  · refine jm_iload_n C dX11_isJudged_8 rfl ?_
    refine jm_aload_n C dX11_isJudged_9 rfl ?_
    refine jm_getA C fF_X11_55 (by decide) (by decide) dX11_isJudged_10 ?_
    refine jm_iload_n C dX11_isJudged_13 rfl ?_
    refine jm_ald C 24 (n := 200) (by decide) (by decide) rfl (in_vp hl hnl c_5) dX11_isJudged_14 ?_
    refine jm_aload_n C dX11_isJudged_15 rfl ?_
    refine jm_getS C fF_X11_141 (by decide) dX11_isJudged_16 ?_
    refine jm_calls (As := [.int q, .int (S 24 (lt).toNatClampNeg), .int (S 0 0)]) (rest := []) C fG_X11_134 (c_in (q) ((S 24 (lt).toNatClampNeg)) ((S 0 0))) rfl rfl (Nat.le_of_ble_eq_true rfl) ⟨Nat.le_of_ble_eq_true rfl, Nat.le_of_ble_eq_true rfl⟩ dX11_isJudged_19 (fun r_19 e_19 => ?_)
    subst e_19
    refine jm_ifeq_b (tgt := 29) C dX11_isJudged_22 (by decide) (fun c_22 => ?_) (fun c_22 => ?_)
    · refine jm_iconst (v := 0) C dX11_isJudged_29 (by decide) ?_
      exact ret _ _ _ _ ⟨(bI_f (fun u => c_22 u.2)).symm, rfl⟩ (by decide) dX11_isJudged_30
    · refine jm_iconst (v := 1) C dX11_isJudged_25 (by decide) ?_
      refine jm_goto (tgt := 30) C dX11_isJudged_26 (by decide) ?_
      exact ret _ _ _ _ ⟨(bI_t ⟨c_5, c_22⟩).symm, rfl⟩ (by decide) dX11_isJudged_30
def m_judge (S : Nat → Nat → Int32) (lt q : Int32) (nf nl ns nt nk : Nat) : Int32 := if jdgP S lt q then (clsZ S q nf nl ns nt nk).1 lt.toNatClampNeg else -1
set_option maxHeartbeats 4000000 in
set_option maxRecDepth 100000 in
theorem c_judge {l : Launch} {D : va_G} {cy : Nat → ClassId} {m0 : Nat} {ad : Nat → Nat} {S : Nat → Nat → Int32} (lt q : Int32) {nf nl ns nt nk : Nat} (hc : CI S nf nl ns nt nk) : mI l D cy yX11_judge (.code yX11_judge cX11_judge 3 ((Option.some FieldType.int))) 6 m0 ad [.int lt, .int q] S (fun r S' => r = m_judge S lt q nf nl ns nt nk ∧ ∃ z w, S' = W45 S z w) := by
  refine m_ofI rfl (Nat.le_of_ble_eq_true rfl) (fun p e s m args below meth c A Q h0 C ret => ?_)
  refine jm_aload_n C dX11_judge_0 rfl ?_
  refine jm_iload_n C dX11_judge_1 rfl ?_
  refine jm_iload_n C dX11_judge_2 rfl ?_
  refine jm_calli (As := [.int lt, .int q]) (rest := []) C fG_X11_221 (c_isJudged (lt) (q) hc.2.1.1 hc.2.1.2) rfl rfl (Nat.le_of_ble_eq_true rfl) ⟨Nat.le_of_ble_eq_true rfl, Nat.le_of_ble_eq_true rfl⟩ dX11_judge_3 (fun r_3 S_3 e_3 => ?_)
  obtain ⟨e1_3, e2_3⟩ := e_3
  subst e1_3
  replace e2_3 := e2_3.symm
  subst e2_3
  refine jm_ifeq_b (tgt := 18) C dX11_judge_6 (by decide) (fun c_6 => ?_) (fun c_6 => ?_)
  · refine jm_iconst (v := (-1)) C dX11_judge_18 (by decide) ?_
    exact ret _ _ _ _ ⟨by rw [m_judge, if_neg c_6], _, _, (W45_self S).symm⟩ dX11_judge_19
  · refine jm_aload_n C dX11_judge_9 rfl ?_
    refine jm_iload_n C dX11_judge_10 rfl ?_
    refine jm_iload_n C dX11_judge_11 rfl ?_
    refine jm_calli (As := [.int lt, .int q]) (rest := []) C fG_X11_193 (c_classOf (lt) (q) hc (in_vp hc.2.1.1 hc.2.1.2 c_6.1)) rfl rfl (Nat.le_of_ble_eq_true rfl) ⟨Nat.le_of_ble_eq_true rfl, Nat.le_of_ble_eq_true rfl⟩ dX11_judge_12 (fun r_12 S_12 e_12 => ?_)
    obtain ⟨e1_12, e2_12⟩ := e_12
    subst e1_12
    subst e2_12
    refine jm_goto (tgt := 19) C dX11_judge_15 (by decide) ?_
    exact ret _ _ _ _ ⟨by unfold m_judge; exact (if_pos c_6).symm, _, _, rfl⟩ dX11_judge_19
def m_why (S : Nat → Nat → Int32) (lt q : Int32) (nf nl ns nt nk : Nat) : Int32 := if jdgP S lt q then (clsZ S q nf nl ns nt nk).2 lt.toNatClampNeg else -1
set_option maxHeartbeats 4000000 in
set_option maxRecDepth 100000 in
theorem c_why {l : Launch} {D : va_G} {cy : Nat → ClassId} {m0 : Nat} {ad : Nat → Nat} {S : Nat → Nat → Int32} (lt q : Int32) {nf nl ns nt nk : Nat} (hc : CI S nf nl ns nt nk) : mI l D cy yX11_why (.code yX11_why cX11_why 3 ((Option.some FieldType.int))) 6 m0 ad [.int lt, .int q] S (fun r S' => r = m_why S lt q nf nl ns nt nk ∧ ∃ z w, S' = W45 S z w) := by
  refine m_ofI rfl (Nat.le_of_ble_eq_true rfl) (fun p e s m args below meth c A Q h0 C ret => ?_)
  refine jm_aload_n C dX11_why_0 rfl ?_
  refine jm_iload_n C dX11_why_1 rfl ?_
  refine jm_iload_n C dX11_why_2 rfl ?_
  refine jm_calli (As := [.int lt, .int q]) (rest := []) C fG_X11_221 (c_isJudged (lt) (q) hc.2.1.1 hc.2.1.2) rfl rfl (Nat.le_of_ble_eq_true rfl) ⟨Nat.le_of_ble_eq_true rfl, Nat.le_of_ble_eq_true rfl⟩ dX11_why_3 (fun r_3 S_3 e_3 => ?_)
  obtain ⟨e1_3, e2_3⟩ := e_3
  subst e1_3
  replace e2_3 := e2_3.symm
  subst e2_3
  refine jm_ifne_b (tgt := 11) C dX11_why_6 (by decide) (fun c_6 => ?_) (fun c_6 => ?_)
  · refine jm_aload_n C dX11_why_11 rfl ?_
    refine jm_iload_n C dX11_why_12 rfl ?_
    refine jm_iload_n C dX11_why_13 rfl ?_
    refine jm_calli (As := [.int lt, .int q]) (rest := []) C fG_X11_193 (c_classOf (lt) (q) hc (in_vp hc.2.1.1 hc.2.1.2 c_6.1)) rfl rfl (Nat.le_of_ble_eq_true rfl) ⟨Nat.le_of_ble_eq_true rfl, Nat.le_of_ble_eq_true rfl⟩ dX11_why_14 (fun r_14 S_14 e_14 => ?_)
    obtain ⟨e1_14, e2_14⟩ := e_14
    subst e1_14
    subst e2_14
    refine jm_pop C dX11_why_17 rfl ?_
    refine jm_aload_n C dX11_why_18 rfl ?_
    refine jm_getA C fF_X11_118 (by decide) (by decide) dX11_why_19 ?_
    refine jm_iload_n C dX11_why_22 rfl ?_
    refine jm_ald C 45 (n := 200) (by decide) (by decide) rfl (in_vp hc.2.1.1 hc.2.1.2 c_6.1) dX11_why_23 ?_
    exact ret _ _ _ _ ⟨by unfold m_why; exact (if_pos c_6).symm, _, _, rfl⟩ dX11_why_24
  · refine jm_iconst (v := (-1)) C dX11_why_9 (by decide) ?_
    exact ret _ _ _ _ ⟨by rw [m_why, if_neg c_6], _, _, (W45_self S).symm⟩ dX11_why_10
def gOut (z : Nat → Int32) (k : Nat) (n : Int32) : Int32 := n + if z k = 9 then 1 else 0
def outsS (S : Nat → Nat → Int32) (nf nl ns nt nk : Nat) : Int32 := flp (gOut (clsZ S (S 0 0) nf nl ns nt nk).1) 0 nl 0
set_option maxHeartbeats 4000000 in
set_option maxRecDepth 100000 in
theorem L_outs {p : Program} {l : Launch} {e : Env} {R : Room} {s : State} {m : MethodId} {args : Array Value} {below : List Frame} {meth : Method} {c : Code} {D : va_G} {cy : Nat → ClassId} {A : Nat → Prop} {Q : State → Prop} {m0 : Nat} {ad : Nat → Nat} {h0 : jH} {S : Nat → Nat → Int32} (C : jC p s m args meth c D cy A 3 RX11 cX11_outs) {nl : Nat} {z w : Nat → Int32} {v0 : Int32} (hl : S 2 0 = nI nl) (hnl : nl ≤ 200) (ret : ∀ (r : Int32) (S' : Nat → Nat → Int32) (lv : List (Nat × Value)) (pc : Nat), (r = v0 ∧ S' = W45 S z w) → decode cX11_outs pc = .ok (.ireturn, 1) → jM p l e R s m args below meth c D cy A 3 Q m0 ad h0 S' lv pc [.int r]) : ∀ (n k i : Nat) (a : Int32), k < n → i + k = nl → (v0 = flp (gOut z) i k a) → jM p l e R s m args below meth c D cy A 3 Q m0 ad h0 (W45 S z w) [(0, .ref m0), (1, .int a), (2, .int (nI i))] 14 [] := by
  intro n
  induction n with
  | zero => intro k i a h1; exact absurd h1 (Nat.not_lt_zero _)
  | succ n ih =>
    intro k i a h1 h2 he
    refine jm_iload_n C dX11_outs_14 rfl ?_
    refine jm_aload_n C dX11_outs_15 rfl ?_
    refine jm_getSe (v := nI nl) C fF_X11_138 (by decide) hl dX11_outs_16 ?_
    refine jm_icmp_ge (tgt := 47) C dX11_outs_19 (by decide) (fun c_19 => ?_) (fun c_19 => ?_)
    · have hge : nl ≤ i := nI_ge_of c_19 (by omega) (by omega)
      obtain rfl : k = 0 := by omega
      refine jm_iload_n C dX11_outs_47 rfl ?_
      exact ret _ _ _ _ ⟨by rw [he]; rfl, rfl⟩ dX11_outs_48
    · have hlt : i < nl := nI_lt_of c_19 (by omega)
      obtain ⟨k, rfl⟩ : ∃ q, k = q + 1 := ⟨k - 1, by omega⟩
      refine jm_iload_n C dX11_outs_22 rfl ?_
      refine jm_aload_n C dX11_outs_23 rfl ?_
      refine jm_getA C fF_X11_115 (by decide) (by decide) dX11_outs_24 ?_
      refine jm_iload_n C dX11_outs_27 rfl ?_
      refine jm_aldN C 44 (n := 200) (by decide) (by decide) rfl (by omega) dX11_outs_28 ?_
      refine jm_bipush (v := 9) C dX11_outs_29 (by decide) ?_
      refine jm_icmp_ne (tgt := 38) C dX11_outs_31 (by decide) (fun c_31 => ?_) (fun c_31 => ?_)
      · refine jm_iconst (v := 0) C dX11_outs_38 (by decide) ?_
        refine jm_iadd C dX11_outs_39 ?_
        refine jm_istore_n (lv' := [(0, .ref m0), (1, .int (a + 0)), (2, .int (nI i))]) C dX11_outs_40 (by decide) rfl ?_
        refine jm_iinc (lv' := [(0, .ref m0), (1, .int (a + 0)), (2, .int (nI (i + 1)))]) C dX11_outs_41 rfl (nI_1 _) (by decide) rfl ?_
        refine jm_goto (tgt := 14) C dX11_outs_44 (by decide) ?_
        exact ih k (i + 1) _ (by omega) (by omega) (he.trans (flp_s (by unfold gOut; exact congrArg (a + ·) (if_neg c_31))))
      · refine jm_iconst (v := 1) C dX11_outs_34 (by decide) ?_
        refine jm_goto (tgt := 39) C dX11_outs_35 (by decide) ?_
        refine jm_iadd C dX11_outs_39 ?_
        refine jm_istore_n (lv' := [(0, .ref m0), (1, .int (a + 1)), (2, .int (nI i))]) C dX11_outs_40 (by decide) rfl ?_
        refine jm_iinc (lv' := [(0, .ref m0), (1, .int (a + 1)), (2, .int (nI (i + 1)))]) C dX11_outs_41 rfl (nI_1 _) (by decide) rfl ?_
        refine jm_goto (tgt := 14) C dX11_outs_44 (by decide) ?_
        exact ih k (i + 1) _ (by omega) (by omega) (he.trans (flp_s (by unfold gOut; exact congrArg (a + ·) (if_pos c_31))))
set_option maxHeartbeats 4000000 in
set_option maxRecDepth 100000 in
theorem c_outs {l : Launch} {D : va_G} {cy : Nat → ClassId} {m0 : Nat} {ad : Nat → Nat} {S : Nat → Nat → Int32} {nf nl ns nt nk : Nat} (hc : CI S nf nl ns nt nk) : mI l D cy yX11_outs (.code yX11_outs cX11_outs 3 ((Option.some FieldType.int))) 6 m0 ad [] S (fun r S' => r = outsS S nf nl ns nt nk ∧ ∃ z w, S' = W45 S z w) := by
  have hnl := hc.2.1.2
  refine m_ofI rfl (Nat.le_of_ble_eq_true rfl) (fun p e s m args below meth c A Q h0 C ret => ?_)
  refine jm_iconst (v := 0) C dX11_outs_0 (by decide) ?_
  refine jm_istore_n (lv' := [(0, .ref m0), (1, .int 0)]) C dX11_outs_1 (by decide) rfl ?_
  refine jm_aload_n C dX11_outs_2 rfl ?_
  refine jm_iconst (v := 0) C dX11_outs_3 (by decide) ?_
  refine jm_aload_n C dX11_outs_4 rfl ?_
  refine jm_getS C fF_X11_141 (by decide) dX11_outs_5 ?_
  refine jm_calli (As := [.int 0, .int (S 0 0)]) (rest := []) C fG_X11_193 (c_classOf (0) ((S 0 0)) hc (vp_in_nI (n := 0) (N := 200) (by decide) (by decide))) rfl rfl (Nat.le_of_ble_eq_true rfl) ⟨Nat.le_of_ble_eq_true rfl, Nat.le_of_ble_eq_true rfl⟩ dX11_outs_8 (fun r_8 S_8 e_8 => ?_)
  obtain ⟨e1_8, e2_8⟩ := e_8
  subst e1_8
  subst e2_8
  refine jm_pop C dX11_outs_11 rfl ?_
  refine jm_iconst (v := 0) C dX11_outs_12 (by decide) ?_
  refine jm_istore_n (lv' := [(0, .ref m0), (1, .int 0), (2, .int 0)]) C dX11_outs_13 (by decide) rfl ?_
  exact L_outs C hc.2.1.1 hc.2.1.2 (fun r S' lv pc g d => ret r S' lv pc ⟨g.1, _, _, g.2⟩ d) (nl + 1) nl 0 0 (by omega) (by omega) rfl
def m_count (S : Nat → Nat → Int32) (what : Int32) (nf nl ns nt nk : Nat) : Int32 := tsel 8 what (fun i => ([S 0 0, S 1 0, S 2 0, S 3 0, S 4 0, S 6 0, S 7 0, outsS S nf nl ns nt nk, S 8 0] : List Int32).getD i (-1)) (-1)
set_option maxHeartbeats 4000000 in
set_option maxRecDepth 100000 in
theorem c_count {l : Launch} {D : va_G} {cy : Nat → ClassId} {m0 : Nat} {ad : Nat → Nat} {S : Nat → Nat → Int32} (what : Int32) {nf nl ns nt nk : Nat} (hc : CI S nf nl ns nt nk) : mI l D cy yX11_count (.code yX11_count cX11_count 2 ((Option.some FieldType.int))) 7 m0 ad [.int what] S (fun r S' => r = m_count S what nf nl ns nt nk ∧ ∃ z w, S' = W45 S z w) := by
  refine m_ofI rfl (Nat.le_of_ble_eq_true rfl) (fun p e s m args below meth c A Q h0 C ret => ?_)
  refine jm_iload_n C dX11_count_0 rfl ?_
  refine jm_tsw (hi := 8) C dX11_count_1 (fun i_1 hi_1 e_1 => ?_) (fun c_1 => ⟨97, by decide, ?_⟩)
  · subst e_1
    rcases (show i_1 = 0 ∨ i_1 = 1 ∨ i_1 = 2 ∨ i_1 = 3 ∨ i_1 = 4 ∨ i_1 = 5 ∨ i_1 = 6 ∨ i_1 = 7 ∨ i_1 = 8 by omega) with rfl | rfl | rfl | rfl | rfl | rfl | rfl | rfl | rfl
    · refine ⟨51, 52, rfl, by decide, ?_⟩
      refine jm_aload_n C dX11_count_52 rfl ?_
      refine jm_getS C fF_X11_141 (by decide) dX11_count_53 ?_
      exact ret _ _ _ _ ⟨by rw [m_count, tsel_in (by decide)]; rfl, _, _, (W45_self S).symm⟩ dX11_count_56
    · refine ⟨56, 57, rfl, by decide, ?_⟩
      refine jm_aload_n C dX11_count_57 rfl ?_
      refine jm_getS C fF_X11_130 (by decide) dX11_count_58 ?_
      exact ret _ _ _ _ ⟨by rw [m_count, tsel_in (by decide)]; rfl, _, _, (W45_self S).symm⟩ dX11_count_61
    · refine ⟨61, 62, rfl, by decide, ?_⟩
      refine jm_aload_n C dX11_count_62 rfl ?_
      refine jm_getS C fF_X11_138 (by decide) dX11_count_63 ?_
      exact ret _ _ _ _ ⟨by rw [m_count, tsel_in (by decide)]; rfl, _, _, (W45_self S).symm⟩ dX11_count_66
    · refine ⟨66, 67, rfl, by decide, ?_⟩
      refine jm_aload_n C dX11_count_67 rfl ?_
      refine jm_getS C fF_X11_190 (by decide) dX11_count_68 ?_
      exact ret _ _ _ _ ⟨by rw [m_count, tsel_in (by decide)]; rfl, _, _, (W45_self S).symm⟩ dX11_count_71
    · refine ⟨71, 72, rfl, by decide, ?_⟩
      refine jm_aload_n C dX11_count_72 rfl ?_
      refine jm_getS C fF_X11_196 (by decide) dX11_count_73 ?_
      exact ret _ _ _ _ ⟨by rw [m_count, tsel_in (by decide)]; rfl, _, _, (W45_self S).symm⟩ dX11_count_76
    · refine ⟨76, 77, rfl, by decide, ?_⟩
      refine jm_aload_n C dX11_count_77 rfl ?_
      refine jm_getS C fF_X11_177 (by decide) dX11_count_78 ?_
      exact ret _ _ _ _ ⟨by rw [m_count, tsel_in (by decide)]; rfl, _, _, (W45_self S).symm⟩ dX11_count_81
    · refine ⟨81, 82, rfl, by decide, ?_⟩
      refine jm_aload_n C dX11_count_82 rfl ?_
      refine jm_getS C fF_X11_202 (by decide) dX11_count_83 ?_
      exact ret _ _ _ _ ⟨by rw [m_count, tsel_in (by decide)]; rfl, _, _, (W45_self S).symm⟩ dX11_count_86
    · refine ⟨86, 87, rfl, by decide, ?_⟩
      refine jm_aload_n C dX11_count_87 rfl ?_
      refine jm_calli (As := []) (rest := []) C fG_X11_247 (c_outs hc) rfl rfl (Nat.le_of_ble_eq_true rfl) ⟨Nat.le_of_ble_eq_true rfl, Nat.le_of_ble_eq_true rfl⟩ dX11_count_88 (fun r_88 S_88 e_88 => ?_)
      obtain ⟨e1_88, z_88, w_88, e2_88⟩ := e_88
      subst e1_88
      subst e2_88
      exact ret _ _ _ _ ⟨by rw [m_count, tsel_in (by decide)]; rfl, _, _, rfl⟩ dX11_count_91
    · refine ⟨91, 92, rfl, by decide, ?_⟩
      refine jm_aload_n C dX11_count_92 rfl ?_
      refine jm_getS C fF_X11_235 (by decide) dX11_count_93 ?_
      exact ret _ _ _ _ ⟨by rw [m_count, tsel_in (by decide)]; rfl, _, _, (W45_self S).symm⟩ dX11_count_96
  · refine jm_iconst (v := (-1)) C dX11_count_97 (by decide) ?_
    exact ret _ _ _ _ ⟨by rw [m_count, tsel_out c_1], _, _, (W45_self S).symm⟩ dX11_count_98
