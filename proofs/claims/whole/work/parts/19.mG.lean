section MLCMP
variable {p : Program} {l : Launch} {e : Env} {R : Room} {s : State} {m : MethodId} {args : Array Value} {below : List Frame} {meth : Method} {c : Code} {D : va_G} {cy : Nat → ClassId} {A : Nat → Prop} {Q : State → Prop} {m0 : Nat} {ad : Nat → Nat} {h0 : jH} {S : Nat → Nat → Int32} {nL : Nat} {cells slots : Nat} {h : jH} {lv : List (Nat × Value)} {pc : Nat} {st : List Value} {own : String} {cc : ByteArray}
theorem j_lcmp (C : jC p s m args meth c D cy A nL own cc) {x y : Int64} (hd : decode cc pc = .ok (.lcmp, 1)) (k : jW p l e R s m args below meth c D cy A nL cells slots Q h lv (pc + 1) (.int (lg_cmp x y) :: st)) : jW p l e R s m args below meth c D cy A nL cells slots Q h lv pc (.long y :: .long x :: st) := fun H locs ls hP hD hS hl => W.lcmp C.1 C.2.1 hd (k H locs ls hP hD hS hl)
theorem jm_lcmp (C : jC p s m args meth c D cy A nL RX11 cc) {x y : Int64} (hd : decode cc pc = .ok (.lcmp, 1)) (k : jM p l e R s m args below meth c D cy A nL Q m0 ad h0 S lv (pc + 1) (.int (lg_cmp x y) :: st)) : jM p l e R s m args below meth c D cy A nL Q m0 ad h0 S lv pc (.long y :: .long x :: st) := fun h hM hF => j_lcmp C hd (k h hM hF)
end MLCMP
theorem lotIn_vp {S : Nat → Nat → Int32} {f y : Int32} {nl : Nat} (hnl : nl ≤ 200) (c : ¬ lotInS S f y nl = -1) : vp_in (lotInS S f y nl) 200 := by
  obtain ⟨j, hj, -, e⟩ := lotInS_ix c
  rw [e]; exact vp_in_nI (by omega) (by decide)
theorem mot_vp {S : Nat → Nat → Int32} {f y : Int32} {nl : Nat} (hnl : nl ≤ 200) (ho : ∀ q, q < nl → S 21 q = 1 → vp_in (S 26 q) 200) (c : ¬ lotInS S f y nl = -1) : vp_in (S 26 (lotInS S f y nl).toNatClampNeg) 200 := by
  obtain ⟨j, hj, hb, e⟩ := lotInS_ix c
  rw [e, nI_clamp (by omega)]
  have h2 : S 21 j = 1 ∧ S 25 j = f ∧ S 24 j = y := by simpa [lotInB] using hb
  exact ho j hj h2.1
def badB (S : Nat → Nat → Int32) (lt : Nat) (q : Int32) (nl ns nt : Nat) (f : Nat) : Bool := decide (¬ nI f = S 25 lt ∧ standS S (nI f) (S 24 lt) q nl ns = S 22 lt ∧ ¬ inForceS S 0 (S 24 lt) q nt * inForceS S 0 (S 24 lt) q nt ≤ nearS S (nI f).toNatClampNeg (S 25 lt).toNatClampNeg ∧ (lotInS S (nI f) (S 24 lt) nl = -1 ∨ ¬ S 44 (S 26 (lotInS S (nI f) (S 24 lt) nl).toNatClampNeg).toNatClampNeg ≤ S 44 (S 26 lt).toNatClampNeg))
def prv (p : Nat → Bool) (since : Int32) : Nat → Nat → Bool
  | _, 0 => false
  | i, k + 1 => if since < nI i then false else if p i = true then true else prv p since (i + 1) k
theorem prv_x {p : Nat → Bool} {since : Int32} {i k : Nat} (h : since < nI i) : prv p since i k = false := by
  cases k with
  | zero => rfl
  | succ k => exact if_pos h
theorem prv_s {p : Nat → Bool} {since : Int32} {i k : Nat} : prv p since i (k + 1) = if since < nI i then false else if p i = true then true else prv p since (i + 1) k := rfl
def preB (S : Nat → Nat → Int32) (lt : Nat) (q : Int32) (nl ns : Nat) (k : Nat) : Bool := decide (standS S (S 25 lt) (S 24 lt - nI k) q nl ns = S 22 lt)
def gSum (S : Nat → Nat → Int32) (lt : Nat) (q : Int32) (k : Nat) (p : Int64 × Int64) : Int64 × Int64 := if S 34 k = nI lt ∧ ¬ q < S 37 k then (p.1 + (S 35 k).toInt64, p.2 + (S 36 k).toInt64) else p
def sumS (S : Nat → Nat → Int32) (lt : Nat) (q : Int32) (nk : Nat) : Int64 × Int64 := flp (gSum S lt q) 0 nk (0, 0)
def wrongS (S : Nat → Nat → Int32) (lt : Nat) (q : Int32) (nf nl ns nt nk : Nat) : Int32 :=
  if ¬ ffst (badB S lt q nl ns nt) 0 nf = -1 then 1
  else if prv (preB S lt q nl ns) (inForceS S 1 (S 24 lt) q nt) 1 (S 24 lt).toNatClampNeg = true then 2
  else if ¬ inForceS S 2 (S 24 lt) q nt ≤ looksS S (nI lt) q nk then 3
  else if ¬ lg_cmp (1000 * (sumS S lt q nk).2) ((inForceS S 3 (S 24 lt) q nt).toInt64 * (sumS S lt q nk).1) ≤ 0 then 4
  else if S 44 (S 26 lt).toNatClampNeg + 1 ≤ inForceS S 4 (S 24 lt) q nt then 0 else 6
set_option maxHeartbeats 4000000 in
set_option maxRecDepth 100000 in
theorem L_wf1 {p : Program} {l : Launch} {e : Env} {s : State} {m : MethodId} {args : Array Value} {below : List Frame} {meth : Method} {c : Code} {D : va_G} {cy : Nat → ClassId} {A : Nat → Prop} {Q : State → Prop} {m0 : Nat} {ad : Nat → Nat} {h0 : jH} {S : Nat → Nat → Int32} (C : jC p s m args meth c D cy A 11 RX11 cX11_wrongField) {lt nf nl ns nt nk : Nat} {q : Int32}  (hf : S 1 0 = nI nf) (hnf : nf ≤ 40) (hl : S 2 0 = nI nl) (hnl : nl ≤ 200) (hs : S 5 0 = nI ns) (hns : ns ≤ 300) (ht : S 6 0 = nI nt) (hnt : nt ≤ 100) (hk : S 7 0 = nI nk) (hnk : nk ≤ 300) (hlt0 : lt < 200) (hg : vp_in (S 25 lt) 40) (hm : vp_in (S 26 lt) 200) (ho : ∀ q, q < nl → S 21 q = 1 → vp_in (S 26 q) 200) (ret1 : ∀ (lv : List (Nat × Value)) (pc : Nat), ¬ ffst (badB S lt q nl ns nt) 0 nf = -1 → decode cX11_wrongField pc = .ok (.ireturn, 1) → jM p l e (rmd 3 0 0) s m args below meth c D cy A 11 Q m0 ad h0 S lv pc [.int 1]) (nx : ffst (badB S lt q nl ns nt) 0 nf = -1 → jM p l e (rmd 3 0 0) s m args below meth c D cy A 11 Q m0 ad h0 S [(0, .ref m0), (1, .int (nI lt)), (2, .int q), (3, .int (S 24 lt)), (4, .int (inForceS S (0) ((S 24 lt)) (q) nt))] 125 [])  : ∀ (n k i : Nat), k < n → i + k = nf → (ffst (badB S lt q nl ns nt) 0 nf = ffst (badB S lt q nl ns nt) i k) → jM p l e (rmd 3 0 0) s m args below meth c D cy A 11 Q m0 ad h0 S [(0, .ref m0), (1, .int (nI lt)), (2, .int q), (3, .int (S 24 lt)), (4, .int (inForceS S (0) ((S 24 lt)) (q) nt)), (5, .int (nI i))] 19 [] := by
  intro n
  induction n with
  | zero => intro k i  h1; exact absurd h1 (Nat.not_lt_zero _)
  | succ n ih =>
    intro k i  h1 h2 he
    refine jm_iload C dX11_wrongField_19 rfl ?_
    refine jm_aload_n C dX11_wrongField_21 rfl ?_
    refine jm_getSe (v := nI nf) C fF_X11_130 (by decide) hf dX11_wrongField_22 ?_
    refine jm_icmp_ge (tgt := 125) C dX11_wrongField_25 (by decide) (fun c_25 => ?_) (fun c_25 => ?_)
    · have hge : nf ≤ i := nI_ge_of c_25 (by omega) (by omega)
      obtain rfl : k = 0 := by omega
      refine jm_sub [0, 1, 2, 3, 4] rfl ?_
      exact nx he
    · have hlt : i < nf := nI_lt_of c_25 (by omega)
      obtain ⟨k, rfl⟩ : ∃ q, k = q + 1 := ⟨k - 1, by omega⟩
      refine jm_iload C dX11_wrongField_28 rfl ?_
      refine jm_aload_n C dX11_wrongField_30 rfl ?_
      refine jm_getA C fF_X11_58 (by decide) (by decide) dX11_wrongField_31 ?_
      refine jm_iload_n C dX11_wrongField_34 rfl ?_
      refine jm_aldN C 25 (n := 200) (by decide) (by decide) rfl (by omega) dX11_wrongField_35 ?_
      refine jm_icmp_eq (tgt := 119) C dX11_wrongField_36 (by decide) (fun c_36 => ?_) (fun c_36 => ?_)
      · refine jm_iinc (lv' := [(0, .ref m0), (1, .int (nI lt)), (2, .int q), (3, .int (S 24 lt)), (4, .int (inForceS S (0) ((S 24 lt)) (q) nt)), (5, .int (nI (i + 1)))]) C dX11_wrongField_119 rfl (nI_1 _) (by decide) rfl ?_
        refine jm_goto (tgt := 19) C dX11_wrongField_122 (by decide) ?_
        exact ih k (i + 1) (by omega) (by omega) (he.trans (ffst_f (decide_eq_false (fun u => u.1 c_36))))
      · refine jm_aload_n C dX11_wrongField_39 rfl ?_
        refine jm_iload C dX11_wrongField_40 rfl ?_
        refine jm_iload_n C dX11_wrongField_42 rfl ?_
        refine jm_iload_n C dX11_wrongField_43 rfl ?_
        refine jm_calli (As := [.int (nI i), .int (S 24 lt), .int q]) (rest := []) C fG_X11_169 (c_standing ((nI i)) ((S 24 lt)) (q) hl hnl hs hns) rfl rfl (Nat.le_of_ble_eq_true rfl) ⟨Nat.le_of_ble_eq_true rfl, Nat.le_of_ble_eq_true rfl⟩ dX11_wrongField_44 (fun r_44 S_44 e_44 => ?_)
        obtain ⟨e1_44, e2_44⟩ := e_44
        subst e1_44
        replace e2_44 := e2_44.symm
        subst e2_44
        refine jm_aload_n C dX11_wrongField_47 rfl ?_
        refine jm_getA C fF_X11_49 (by decide) (by decide) dX11_wrongField_48 ?_
        refine jm_iload_n C dX11_wrongField_51 rfl ?_
        refine jm_aldN C 22 (n := 200) (by decide) (by decide) rfl (by omega) dX11_wrongField_52 ?_
        refine jm_icmp_ne (tgt := 119) C dX11_wrongField_53 (by decide) (fun c_53 => ?_) (fun c_53 => ?_)
        · refine jm_iinc (lv' := [(0, .ref m0), (1, .int (nI lt)), (2, .int q), (3, .int (S 24 lt)), (4, .int (inForceS S (0) ((S 24 lt)) (q) nt)), (5, .int (nI (i + 1)))]) C dX11_wrongField_119 rfl (nI_1 _) (by decide) rfl ?_
          refine jm_goto (tgt := 19) C dX11_wrongField_122 (by decide) ?_
          exact ih k (i + 1) (by omega) (by omega) (he.trans (ffst_f (decide_eq_false (fun u => c_53 u.2.1))))
        · refine jm_aload_n C dX11_wrongField_56 rfl ?_
          refine jm_iload C dX11_wrongField_57 rfl ?_
          refine jm_aload_n C dX11_wrongField_59 rfl ?_
          refine jm_getA C fF_X11_58 (by decide) (by decide) dX11_wrongField_60 ?_
          refine jm_iload_n C dX11_wrongField_63 rfl ?_
          refine jm_aldN C 25 (n := 200) (by decide) (by decide) rfl (by omega) dX11_wrongField_64 ?_
          refine jm_calli (As := [.int (nI i), .int (S 25 lt)]) (rest := []) C fG_X11_157 (c_nearness2 ((nI i)) ((S 25 lt)) (vp_in_nI (by omega) (by decide)) hg) rfl rfl (Nat.le_of_ble_eq_true rfl) ⟨Nat.le_of_ble_eq_true rfl, Nat.le_of_ble_eq_true rfl⟩ dX11_wrongField_65 (fun r_65 S_65 e_65 => ?_)
          obtain ⟨e1_65, e2_65⟩ := e_65
          subst e1_65
          replace e2_65 := e2_65.symm
          subst e2_65
          refine jm_iload C dX11_wrongField_68 rfl ?_
          refine jm_iload C dX11_wrongField_70 rfl ?_
          refine jm_imul C dX11_wrongField_72 ?_
          refine jm_icmp_ge (tgt := 119) C dX11_wrongField_73 (by decide) (fun c_73 => ?_) (fun c_73 => ?_)
          · refine jm_iinc (lv' := [(0, .ref m0), (1, .int (nI lt)), (2, .int q), (3, .int (S 24 lt)), (4, .int (inForceS S (0) ((S 24 lt)) (q) nt)), (5, .int (nI (i + 1)))]) C dX11_wrongField_119 rfl (nI_1 _) (by decide) rfl ?_
            refine jm_goto (tgt := 19) C dX11_wrongField_122 (by decide) ?_
            exact ih k (i + 1) (by omega) (by omega) (he.trans (ffst_f (decide_eq_false (fun u => u.2.2.1 c_73))))
          · refine jm_aload_n C dX11_wrongField_76 rfl ?_
            refine jm_iload C dX11_wrongField_77 rfl ?_
            refine jm_iload_n C dX11_wrongField_79 rfl ?_
            refine jm_calli (As := [.int (nI i), .int (S 24 lt)]) (rest := []) C fG_X11_166 (c_lotIn ((nI i)) ((S 24 lt)) hl hnl) rfl rfl (Nat.le_of_ble_eq_true rfl) ⟨Nat.le_of_ble_eq_true rfl, Nat.le_of_ble_eq_true rfl⟩ dX11_wrongField_80 (fun r_80 S_80 e_80 => ?_)
            obtain ⟨e1_80, e2_80⟩ := e_80
            subst e1_80
            replace e2_80 := e2_80.symm
            subst e2_80
            refine jm_istore (lv' := [(0, .ref m0), (1, .int (nI lt)), (2, .int q), (3, .int (S 24 lt)), (4, .int (inForceS S (0) ((S 24 lt)) (q) nt)), (5, .int (nI i)), (6, .int (lotInS S ((nI i)) ((S 24 lt)) nl))]) C dX11_wrongField_83 (by decide) rfl ?_
            refine jm_iload C dX11_wrongField_85 rfl ?_
            refine jm_iconst (v := (-1)) C dX11_wrongField_87 (by decide) ?_
            refine jm_icmp_eq (tgt := 117) C dX11_wrongField_88 (by decide) (fun c_88 => ?_) (fun c_88 => ?_)
            · refine jm_iconst (v := 1) C dX11_wrongField_117 (by decide) ?_
              exact ret1 _ _ (fun z => ffst_ge (decide_eq_true ⟨c_36, c_53, c_73, Or.inl c_88⟩) (by omega) (he.symm.trans z)) dX11_wrongField_118
            · refine jm_aload_n C dX11_wrongField_91 rfl ?_
              refine jm_getA C fF_X11_115 (by decide) (by decide) dX11_wrongField_92 ?_
              refine jm_aload_n C dX11_wrongField_95 rfl ?_
              refine jm_getA C fF_X11_61 (by decide) (by decide) dX11_wrongField_96 ?_
              refine jm_iload C dX11_wrongField_99 rfl ?_
              refine jm_ald C 26 (n := 200) (by decide) (by decide) rfl (lotIn_vp hnl c_88) dX11_wrongField_101 ?_
              refine jm_ald C 44 (n := 200) (by decide) (by decide) rfl (mot_vp hnl ho c_88) dX11_wrongField_102 ?_
              refine jm_aload_n C dX11_wrongField_103 rfl ?_
              refine jm_getA C fF_X11_115 (by decide) (by decide) dX11_wrongField_104 ?_
              refine jm_aload_n C dX11_wrongField_107 rfl ?_
              refine jm_getA C fF_X11_61 (by decide) (by decide) dX11_wrongField_108 ?_
              refine jm_iload_n C dX11_wrongField_111 rfl ?_
              refine jm_aldN C 26 (n := 200) (by decide) (by decide) rfl (by omega) dX11_wrongField_112 ?_
              refine jm_ald C 44 (n := 200) (by decide) (by decide) rfl hm dX11_wrongField_113 ?_
              refine jm_icmp_le (tgt := 119) C dX11_wrongField_114 (by decide) (fun c_114 => ?_) (fun c_114 => ?_)
              · refine jm_iinc (lv' := [(0, .ref m0), (1, .int (nI lt)), (2, .int q), (3, .int (S 24 lt)), (4, .int (inForceS S (0) ((S 24 lt)) (q) nt)), (5, .int (nI (i + 1))), (6, .int (lotInS S ((nI i)) ((S 24 lt)) nl))]) C dX11_wrongField_119 rfl (nI_1 _) (by decide) rfl ?_
                refine jm_goto (tgt := 19) C dX11_wrongField_122 (by decide) ?_
                refine jm_sub [0, 1, 2, 3, 4, 5] rfl ?_
                exact ih k (i + 1) (by omega) (by omega) (he.trans (ffst_f (decide_eq_false (fun u => u.2.2.2.elim c_88 (fun v => v c_114)))))
              · refine jm_iconst (v := 1) C dX11_wrongField_117 (by decide) ?_
                exact ret1 _ _ (fun z => ffst_ge (decide_eq_true ⟨c_36, c_53, c_73, Or.inr c_114⟩) (by omega) (he.symm.trans z)) dX11_wrongField_118
set_option maxHeartbeats 4000000 in
set_option maxRecDepth 100000 in
theorem L_wf2 {p : Program} {l : Launch} {e : Env} {s : State} {m : MethodId} {args : Array Value} {below : List Frame} {meth : Method} {c : Code} {D : va_G} {cy : Nat → ClassId} {A : Nat → Prop} {Q : State → Prop} {m0 : Nat} {ad : Nat → Nat} {h0 : jH} {S : Nat → Nat → Int32} (C : jC p s m args meth c D cy A 11 RX11 cX11_wrongField) {lt nf nl ns nt nk : Nat} {q : Int32}  {yy : Nat} (hf : S 1 0 = nI nf) (hnf : nf ≤ 40) (hl : S 2 0 = nI nl) (hnl : nl ≤ 200) (hs : S 5 0 = nI ns) (hns : ns ≤ 300) (ht : S 6 0 = nI nt) (hnt : nt ≤ 100) (hk : S 7 0 = nI nk) (hnk : nk ≤ 300) (hlt0 : lt < 200) (hg : vp_in (S 25 lt) 40) (hm : vp_in (S 26 lt) 200) (ho : ∀ q, q < nl → S 21 q = 1 → vp_in (S 26 q) 200) (hy : S 24 lt = nI yy) (hyy : yy ≤ 40) (ret2 : ∀ (lv : List (Nat × Value)) (pc : Nat), prv (preB S lt q nl ns) (inForceS S (1) ((S 24 lt)) (q) nt) 1 yy = true → decode cX11_wrongField pc = .ok (.ireturn, 1) → jM p l e (rmd 3 0 0) s m args below meth c D cy A 11 Q m0 ad h0 S lv pc [.int 2]) (nx : prv (preB S lt q nl ns) (inForceS S (1) ((S 24 lt)) (q) nt) 1 yy = false → jM p l e (rmd 3 0 0) s m args below meth c D cy A 11 Q m0 ad h0 S [(0, .ref m0), (1, .int (nI lt)), (2, .int q), (3, .int (S 24 lt)), (4, .int (inForceS S (0) ((S 24 lt)) (q) nt)), (5, .int (inForceS S (1) ((S 24 lt)) (q) nt))] 182 []) : ∀ (n k i : Nat), k < n → i + k = yy + 1 → 1 ≤ i → prv (preB S lt q nl ns) (inForceS S (1) ((S 24 lt)) (q) nt) 1 yy = prv (preB S lt q nl ns) (inForceS S (1) ((S 24 lt)) (q) nt) i k → jM p l e (rmd 3 0 0) s m args below meth c D cy A 11 Q m0 ad h0 S [(0, .ref m0), (1, .int (nI lt)), (2, .int q), (3, .int (S 24 lt)), (4, .int (inForceS S (0) ((S 24 lt)) (q) nt)), (5, .int (inForceS S (1) ((S 24 lt)) (q) nt)), (6, .int (nI i))] 137 [] := by
  intro n
  induction n with
  | zero => intro k i h1; exact absurd h1 (Nat.not_lt_zero _)
  | succ n ih =>
    intro k i h1 h2 h3 he
    refine jm_iload C dX11_wrongField_137 rfl ?_
    refine jm_iload C dX11_wrongField_139 rfl ?_
    refine jm_icmp_gt (tgt := 182) C dX11_wrongField_141 (by decide) (fun c_141 => ?_) (fun c_141 => ?_)
    · refine jm_sub [0, 1, 2, 3, 4, 5] rfl ?_
      exact nx (he.trans (prv_x c_141))
    · refine jm_iload C dX11_wrongField_144 rfl ?_
      refine jm_iload_n C dX11_wrongField_146 rfl ?_
      refine jm_icmp_gt (tgt := 182) C dX11_wrongField_147 (by decide) (fun c_147 => ?_) (fun c_147 => ?_)
      · have hk0 : k = 0 := by
          rw [hy] at c_147
          have := (nI_ltI (a := yy) (b := i) (by omega) (by omega)).mp c_147
          omega
        subst hk0
        refine jm_sub [0, 1, 2, 3, 4, 5] rfl ?_
        exact nx (he)
      · obtain ⟨k, rfl⟩ : ∃ u, k = u + 1 := ⟨k - 1, by
          have hle : i ≤ yy := by
            rw [hy] at c_147
            exact Nat.not_lt.mp (fun z => c_147 (nI_lt z (by omega)))
          omega⟩
        refine jm_aload_n C dX11_wrongField_150 rfl ?_
        refine jm_aload_n C dX11_wrongField_151 rfl ?_
        refine jm_getA C fF_X11_58 (by decide) (by decide) dX11_wrongField_152 ?_
        refine jm_iload_n C dX11_wrongField_155 rfl ?_
        refine jm_aldN C 25 (n := 200) (by decide) (by decide) rfl (by omega) dX11_wrongField_156 ?_
        refine jm_iload_n C dX11_wrongField_157 rfl ?_
        refine jm_iload C dX11_wrongField_158 rfl ?_
        refine jm_isub C dX11_wrongField_160 ?_
        refine jm_iload_n C dX11_wrongField_161 rfl ?_
        refine jm_calli (As := [.int (S 25 lt), .int ((S 24 lt) - (nI i)), .int q]) (rest := []) C fG_X11_169 (c_standing ((S 25 lt)) (((S 24 lt) - (nI i))) (q) hl hnl hs hns) rfl rfl (Nat.le_of_ble_eq_true rfl) ⟨Nat.le_of_ble_eq_true rfl, Nat.le_of_ble_eq_true rfl⟩ dX11_wrongField_162 (fun r_162 S_162 e_162 => ?_)
        obtain ⟨e1_162, e2_162⟩ := e_162
        subst e1_162
        replace e2_162 := e2_162.symm
        subst e2_162
        refine jm_aload_n C dX11_wrongField_165 rfl ?_
        refine jm_getA C fF_X11_49 (by decide) (by decide) dX11_wrongField_166 ?_
        refine jm_iload_n C dX11_wrongField_169 rfl ?_
        refine jm_aldN C 22 (n := 200) (by decide) (by decide) rfl (by omega) dX11_wrongField_170 ?_
        refine jm_icmp_ne (tgt := 176) C dX11_wrongField_171 (by decide) (fun c_171 => ?_) (fun c_171 => ?_)
        · refine jm_iinc (lv' := [(0, .ref m0), (1, .int (nI lt)), (2, .int q), (3, .int (S 24 lt)), (4, .int (inForceS S (0) ((S 24 lt)) (q) nt)), (5, .int (inForceS S (1) ((S 24 lt)) (q) nt)), (6, .int (nI (i + 1)))]) C dX11_wrongField_176 rfl (nI_1 _) (by decide) rfl ?_
          refine jm_goto (tgt := 137) C dX11_wrongField_179 (by decide) ?_
          exact ih k (i + 1) (by omega) (by omega) (by omega) (he.trans (by rw [prv_s, if_neg c_141, if_neg (by simp [preB, c_171])]))
        · refine jm_iconst (v := 2) C dX11_wrongField_174 (by decide) ?_
          exact ret2 _ _ (he.trans (by rw [prv_s, if_neg c_141, if_pos (by simp [preB, c_171])])) dX11_wrongField_175
set_option maxHeartbeats 4000000 in
set_option maxRecDepth 100000 in
theorem L_wf3 {p : Program} {l : Launch} {e : Env} {R : Room} {s : State} {m : MethodId} {args : Array Value} {below : List Frame} {meth : Method} {c : Code} {D : va_G} {cy : Nat → ClassId} {A : Nat → Prop} {Q : State → Prop} {m0 : Nat} {ad : Nat → Nat} {h0 : jH} {S : Nat → Nat → Int32} (C : jC p s m args meth c D cy A 11 RX11 cX11_wrongField) {lt nf nl ns nt nk : Nat} {q : Int32}  (hf : S 1 0 = nI nf) (hnf : nf ≤ 40) (hl : S 2 0 = nI nl) (hnl : nl ≤ 200) (hs : S 5 0 = nI ns) (hns : ns ≤ 300) (ht : S 6 0 = nI nt) (hnt : nt ≤ 100) (hk : S 7 0 = nI nk) (hnk : nk ≤ 300) (nx : jM p l e R s m args below meth c D cy A 11 Q m0 ad h0 S [(0, .ref m0), (1, .int (nI lt)), (2, .int q), (3, .int (S 24 lt)), (4, .int (inForceS S (0) ((S 24 lt)) (q) nt)), (5, .int (inForceS S (1) ((S 24 lt)) (q) nt)), (6, .long (sumS S lt q nk).1), (8, .long (sumS S lt q nk).2)] 272 [])  : ∀ (n k i : Nat) (a b : Int64), k < n → i + k = nk → (sumS S lt q nk = flp (gSum S lt q) i k (a, b)) → jM p l e R s m args below meth c D cy A 11 Q m0 ad h0 S [(0, .ref m0), (1, .int (nI lt)), (2, .int q), (3, .int (S 24 lt)), (4, .int (inForceS S (0) ((S 24 lt)) (q) nt)), (5, .int (inForceS S (1) ((S 24 lt)) (q) nt)), (6, .long a), (8, .long b), (10, .int (nI i))] 209 [] := by
  intro n
  induction n with
  | zero => intro k i a b h1; exact absurd h1 (Nat.not_lt_zero _)
  | succ n ih =>
    intro k i a b h1 h2 he
    refine jm_iload C dX11_wrongField_209 rfl ?_
    refine jm_aload_n C dX11_wrongField_211 rfl ?_
    refine jm_getSe (v := nI nk) C fF_X11_202 (by decide) hk dX11_wrongField_212 ?_
    refine jm_icmp_ge (tgt := 272) C dX11_wrongField_215 (by decide) (fun c_215 => ?_) (fun c_215 => ?_)
    · have hge : nk ≤ i := nI_ge_of c_215 (by omega) (by omega)
      obtain rfl : k = 0 := by omega
      have e1 : a = (sumS S lt q nk).1 := by rw [he]; rfl
      have e2 : b = (sumS S lt q nk).2 := by rw [he]; rfl
      subst e1; subst e2
      refine jm_sub [0, 1, 2, 3, 4, 5, 6, 7] rfl ?_
      exact nx
    · have hlt : i < nk := nI_lt_of c_215 (by omega)
      obtain ⟨k, rfl⟩ : ∃ q, k = q + 1 := ⟨k - 1, by omega⟩
      refine jm_aload_n C dX11_wrongField_218 rfl ?_
      refine jm_getA C fF_X11_85 (by decide) (by decide) dX11_wrongField_219 ?_
      refine jm_iload C dX11_wrongField_222 rfl ?_
      refine jm_aldN C 34 (n := 300) (by decide) (by decide) rfl (by omega) dX11_wrongField_224 ?_
      refine jm_iload_n C dX11_wrongField_225 rfl ?_
      refine jm_icmp_ne (tgt := 266) C dX11_wrongField_226 (by decide) (fun c_226 => ?_) (fun c_226 => ?_)
      · refine jm_iinc (lv' := [(0, .ref m0), (1, .int (nI lt)), (2, .int q), (3, .int (S 24 lt)), (4, .int (inForceS S (0) ((S 24 lt)) (q) nt)), (5, .int (inForceS S (1) ((S 24 lt)) (q) nt)), (6, .long a), (8, .long b), (10, .int (nI (i + 1)))]) C dX11_wrongField_266 rfl (nI_1 _) (by decide) rfl ?_
        refine jm_goto (tgt := 209) C dX11_wrongField_269 (by decide) ?_
        exact ih k (i + 1) _ _ (by omega) (by omega) (he.trans (flp_s (by rw [gSum, if_neg (fun u => c_226 u.1)])))
      · refine jm_aload_n C dX11_wrongField_229 rfl ?_
        refine jm_getA C fF_X11_94 (by decide) (by decide) dX11_wrongField_230 ?_
        refine jm_iload C dX11_wrongField_233 rfl ?_
        refine jm_aldN C 37 (n := 300) (by decide) (by decide) rfl (by omega) dX11_wrongField_235 ?_
        refine jm_iload_n C dX11_wrongField_236 rfl ?_
        refine jm_icmp_gt (tgt := 266) C dX11_wrongField_237 (by decide) (fun c_237 => ?_) (fun c_237 => ?_)
        · refine jm_iinc (lv' := [(0, .ref m0), (1, .int (nI lt)), (2, .int q), (3, .int (S 24 lt)), (4, .int (inForceS S (0) ((S 24 lt)) (q) nt)), (5, .int (inForceS S (1) ((S 24 lt)) (q) nt)), (6, .long a), (8, .long b), (10, .int (nI (i + 1)))]) C dX11_wrongField_266 rfl (nI_1 _) (by decide) rfl ?_
          refine jm_goto (tgt := 209) C dX11_wrongField_269 (by decide) ?_
          exact ih k (i + 1) _ _ (by omega) (by omega) (he.trans (flp_s (by rw [gSum, if_neg (fun u => u.2 c_237)])))
        · refine jm_lload C dX11_wrongField_240 rfl ?_
          refine jm_aload_n C dX11_wrongField_242 rfl ?_
          refine jm_getA C fF_X11_88 (by decide) (by decide) dX11_wrongField_243 ?_
          refine jm_iload C dX11_wrongField_246 rfl ?_
          refine jm_aldN C 35 (n := 300) (by decide) (by decide) rfl (by omega) dX11_wrongField_248 ?_
          refine jm_i2l C dX11_wrongField_249 ?_
          refine jm_ladd C dX11_wrongField_250 ?_
          refine jm_lstore (lv' := [(0, .ref m0), (1, .int (nI lt)), (2, .int q), (3, .int (S 24 lt)), (4, .int (inForceS S (0) ((S 24 lt)) (q) nt)), (5, .int (inForceS S (1) ((S 24 lt)) (q) nt)), (6, .long (a + ((S 35 i)).toInt64)), (8, .long b), (10, .int (nI i))]) C dX11_wrongField_251 (by decide) rfl ?_
          refine jm_lload C dX11_wrongField_253 rfl ?_
          refine jm_aload_n C dX11_wrongField_255 rfl ?_
          refine jm_getA C fF_X11_91 (by decide) (by decide) dX11_wrongField_256 ?_
          refine jm_iload C dX11_wrongField_259 rfl ?_
          refine jm_aldN C 36 (n := 300) (by decide) (by decide) rfl (by omega) dX11_wrongField_261 ?_
          refine jm_i2l C dX11_wrongField_262 ?_
          refine jm_ladd C dX11_wrongField_263 ?_
          refine jm_lstore (lv' := [(0, .ref m0), (1, .int (nI lt)), (2, .int q), (3, .int (S 24 lt)), (4, .int (inForceS S (0) ((S 24 lt)) (q) nt)), (5, .int (inForceS S (1) ((S 24 lt)) (q) nt)), (6, .long (a + ((S 35 i)).toInt64)), (8, .long (b + ((S 36 i)).toInt64)), (10, .int (nI i))]) C dX11_wrongField_264 (by decide) rfl ?_
          refine jm_iinc (lv' := [(0, .ref m0), (1, .int (nI lt)), (2, .int q), (3, .int (S 24 lt)), (4, .int (inForceS S (0) ((S 24 lt)) (q) nt)), (5, .int (inForceS S (1) ((S 24 lt)) (q) nt)), (6, .long (a + ((S 35 i)).toInt64)), (8, .long (b + ((S 36 i)).toInt64)), (10, .int (nI (i + 1)))]) C dX11_wrongField_266 rfl (nI_1 _) (by decide) rfl ?_
          refine jm_goto (tgt := 209) C dX11_wrongField_269 (by decide) ?_
          exact ih k (i + 1) _ _ (by omega) (by omega) (he.trans (flp_s (by rw [gSum, if_pos ⟨c_226, c_237⟩])))
set_option maxHeartbeats 4000000 in
set_option maxRecDepth 100000 in
theorem c_wrongField {l : Launch} {D : va_G} {cy : Nat → ClassId} {m0 : Nat} {ad : Nat → Nat} {S : Nat → Nat → Int32} {lt nf nl ns nt nk : Nat} {q : Int32} {yy : Nat} (hf : S 1 0 = nI nf) (hnf : nf ≤ 40) (hl : S 2 0 = nI nl) (hnl : nl ≤ 200) (hs : S 5 0 = nI ns) (hns : ns ≤ 300) (ht : S 6 0 = nI nt) (hnt : nt ≤ 100) (hk : S 7 0 = nI nk) (hnk : nk ≤ 300) (hlt0 : lt < 200) (hg : vp_in (S 25 lt) 40) (hm : vp_in (S 26 lt) 200) (ho : ∀ q, q < nl → S 21 q = 1 → vp_in (S 26 q) 200) (hy : S 24 lt = nI yy) (hyy : yy ≤ 40) : mI l D cy yX11_wrongField (.code yX11_wrongField cX11_wrongField 11 ((Option.some FieldType.int))) 3 m0 ad [.int (nI lt), .int q] S (fun r S' => r = wrongS S lt q nf nl ns nt nk ∧ S' = S) := by
  refine m_ofI rfl (Nat.le_of_ble_eq_true rfl) (fun p e s m args below meth c A Q h0 C ret => ?_)
  refine jm_aload_n C dX11_wrongField_0 rfl ?_
  refine jm_getA C fF_X11_55 (by decide) (by decide) dX11_wrongField_1 ?_
  refine jm_iload_n C dX11_wrongField_4 rfl ?_
  refine jm_aldN C 24 (n := 200) (by decide) (by decide) rfl (by omega) dX11_wrongField_5 ?_
  refine jm_istore_n (lv' := [(0, .ref m0), (1, .int (nI lt)), (2, .int q), (3, .int (S 24 lt))]) C dX11_wrongField_6 (by decide) rfl ?_
  refine jm_aload_n C dX11_wrongField_7 rfl ?_
  refine jm_iconst (v := 0) C dX11_wrongField_8 (by decide) ?_
  refine jm_iload_n C dX11_wrongField_9 rfl ?_
  refine jm_iload_n C dX11_wrongField_10 rfl ?_
  refine jm_calli (As := [.int 0, .int (S 24 lt), .int q]) (rest := []) C fG_X11_180 (c_inForce (0) ((S 24 lt)) (q) ht hnt) rfl rfl (Nat.le_of_ble_eq_true rfl) ⟨Nat.le_of_ble_eq_true rfl, Nat.le_of_ble_eq_true rfl⟩ dX11_wrongField_11 (fun r_11 S_11 e_11 => ?_)
  obtain ⟨e1_11, e2_11⟩ := e_11
  subst e1_11
  replace e2_11 := e2_11.symm
  subst e2_11
  refine jm_istore (lv' := [(0, .ref m0), (1, .int (nI lt)), (2, .int q), (3, .int (S 24 lt)), (4, .int (inForceS S (0) ((S 24 lt)) (q) nt))]) C dX11_wrongField_14 (by decide) rfl ?_
  refine jm_iconst (v := 0) C dX11_wrongField_16 (by decide) ?_
  refine jm_istore (lv' := [(0, .ref m0), (1, .int (nI lt)), (2, .int q), (3, .int (S 24 lt)), (4, .int (inForceS S (0) ((S 24 lt)) (q) nt)), (5, .int 0)]) C dX11_wrongField_17 (by decide) rfl ?_
  refine L_wf1 C hf hnf hl hnl hs hns ht hnt hk hnk hlt0 hg hm ho (fun lv pc g d => ret _ _ _ _ ⟨by rw [wrongS, if_pos g], rfl⟩ d) (fun f1 => ?_) (nf + 1) nf 0 (by omega) (by omega) rfl
  refine jm_aload_n C dX11_wrongField_125 rfl ?_
  refine jm_iconst (v := 1) C dX11_wrongField_126 (by decide) ?_
  refine jm_iload_n C dX11_wrongField_127 rfl ?_
  refine jm_iload_n C dX11_wrongField_128 rfl ?_
  refine jm_calli (As := [.int 1, .int (S 24 lt), .int q]) (rest := []) C fG_X11_180 (c_inForce (1) ((S 24 lt)) (q) ht hnt) rfl rfl (Nat.le_of_ble_eq_true rfl) ⟨Nat.le_of_ble_eq_true rfl, Nat.le_of_ble_eq_true rfl⟩ dX11_wrongField_129 (fun r_129 S_129 e_129 => ?_)
  obtain ⟨e1_129, e2_129⟩ := e_129
  subst e1_129
  replace e2_129 := e2_129.symm
  subst e2_129
  refine jm_istore (lv' := [(0, .ref m0), (1, .int (nI lt)), (2, .int q), (3, .int (S 24 lt)), (4, .int (inForceS S (0) ((S 24 lt)) (q) nt)), (5, .int (inForceS S (1) ((S 24 lt)) (q) nt))]) C dX11_wrongField_132 (by decide) rfl ?_
  refine jm_iconst (v := 1) C dX11_wrongField_134 (by decide) ?_
  refine jm_istore (lv' := [(0, .ref m0), (1, .int (nI lt)), (2, .int q), (3, .int (S 24 lt)), (4, .int (inForceS S (0) ((S 24 lt)) (q) nt)), (5, .int (inForceS S (1) ((S 24 lt)) (q) nt)), (6, .int 1)]) C dX11_wrongField_135 (by decide) rfl ?_
  refine L_wf2 C hf hnf hl hnl hs hns ht hnt hk hnk hlt0 hg hm ho hy hyy (fun lv pc g d => ret _ _ _ _ ⟨by rw [wrongS, if_neg (fun u => u f1), if_pos (by rw [hy, nI_clamp (by omega), ← hy]; exact g)], rfl⟩ d) (fun g => ?_) (yy + 1) yy 1 (by omega) (by omega) (by omega) rfl
  have f2 : prv (preB S lt q nl ns) (inForceS S 1 (S 24 lt) q nt) 1 (S 24 lt).toNatClampNeg = false := by rw [hy, nI_clamp (by omega), ← hy]; exact g
  refine jm_aload_n C dX11_wrongField_182 rfl ?_
  refine jm_iload_n C dX11_wrongField_183 rfl ?_
  refine jm_iload_n C dX11_wrongField_184 rfl ?_
  refine jm_calli (As := [.int (nI lt), .int q]) (rest := []) C fG_X11_205 (c_looksOf ((nI lt)) (q) hk hnk) rfl rfl (Nat.le_of_ble_eq_true rfl) ⟨Nat.le_of_ble_eq_true rfl, Nat.le_of_ble_eq_true rfl⟩ dX11_wrongField_185 (fun r_185 S_185 e_185 => ?_)
  obtain ⟨e1_185, e2_185⟩ := e_185
  subst e1_185
  replace e2_185 := e2_185.symm
  subst e2_185
  refine jm_aload_n C dX11_wrongField_188 rfl ?_
  refine jm_iconst (v := 2) C dX11_wrongField_189 (by decide) ?_
  refine jm_iload_n C dX11_wrongField_190 rfl ?_
  refine jm_iload_n C dX11_wrongField_191 rfl ?_
  refine jm_calli (As := [.int 2, .int (S 24 lt), .int q]) (rest := [.int (looksS S ((nI lt)) (q) nk)]) C fG_X11_180 (c_inForce (2) ((S 24 lt)) (q) ht hnt) rfl rfl (Nat.le_of_ble_eq_true rfl) ⟨Nat.le_of_ble_eq_true rfl, Nat.le_of_ble_eq_true rfl⟩ dX11_wrongField_192 (fun r_192 S_192 e_192 => ?_)
  obtain ⟨e1_192, e2_192⟩ := e_192
  subst e1_192
  replace e2_192 := e2_192.symm
  subst e2_192
  refine jm_icmp_ge (tgt := 200) C dX11_wrongField_195 (by decide) (fun c_195 => ?_) (fun c_195 => ?_)
  · refine jm_lconst (v := 0) C dX11_wrongField_200 (by decide) ?_
    refine jm_lstore (lv' := [(0, .ref m0), (1, .int (nI lt)), (2, .int q), (3, .int (S 24 lt)), (4, .int (inForceS S (0) ((S 24 lt)) (q) nt)), (5, .int (inForceS S (1) ((S 24 lt)) (q) nt)), (6, .long 0)]) C dX11_wrongField_201 (by decide) rfl ?_
    refine jm_lconst (v := 0) C dX11_wrongField_203 (by decide) ?_
    refine jm_lstore (lv' := [(0, .ref m0), (1, .int (nI lt)), (2, .int q), (3, .int (S 24 lt)), (4, .int (inForceS S (0) ((S 24 lt)) (q) nt)), (5, .int (inForceS S (1) ((S 24 lt)) (q) nt)), (6, .long 0), (8, .long 0)]) C dX11_wrongField_204 (by decide) rfl ?_
    refine jm_iconst (v := 0) C dX11_wrongField_206 (by decide) ?_
    refine jm_istore (lv' := [(0, .ref m0), (1, .int (nI lt)), (2, .int q), (3, .int (S 24 lt)), (4, .int (inForceS S (0) ((S 24 lt)) (q) nt)), (5, .int (inForceS S (1) ((S 24 lt)) (q) nt)), (6, .long 0), (8, .long 0), (10, .int 0)]) C dX11_wrongField_207 (by decide) rfl ?_
    refine L_wf3 C hf hnf hl hnl hs hns ht hnt hk hnk ?_ (nk + 1) nk 0 0 0 (by omega) (by omega) rfl
    refine jm_ldc2 C dX11_wrongField_272 kK_X11_219 ?_
    refine jm_lload C dX11_wrongField_275 rfl ?_
    refine jm_lmul C dX11_wrongField_277 ?_
    refine jm_aload_n C dX11_wrongField_278 rfl ?_
    refine jm_iconst (v := 3) C dX11_wrongField_279 (by decide) ?_
    refine jm_iload_n C dX11_wrongField_280 rfl ?_
    refine jm_iload_n C dX11_wrongField_281 rfl ?_
    refine jm_calli (As := [.int 3, .int (S 24 lt), .int q]) (rest := [.long (1000 * (sumS S lt q nk).2)]) C fG_X11_180 (c_inForce (3) ((S 24 lt)) (q) ht hnt) rfl rfl (Nat.le_of_ble_eq_true rfl) ⟨Nat.le_of_ble_eq_true rfl, Nat.le_of_ble_eq_true rfl⟩ dX11_wrongField_282 (fun r_282 S_282 e_282 => ?_)
    obtain ⟨e1_282, e2_282⟩ := e_282
    subst e1_282
    replace e2_282 := e2_282.symm
    subst e2_282
    refine jm_i2l C dX11_wrongField_285 ?_
    refine jm_lload C dX11_wrongField_286 rfl ?_
    refine jm_lmul C dX11_wrongField_288 ?_
    refine jm_lcmp C dX11_wrongField_289 ?_
    refine jm_if_le (tgt := 295) C dX11_wrongField_290 (by decide) (fun c_290 => ?_) (fun c_290 => ?_)
    · refine jm_aload_n C dX11_wrongField_295 rfl ?_
      refine jm_getA C fF_X11_115 (by decide) (by decide) dX11_wrongField_296 ?_
      refine jm_aload_n C dX11_wrongField_299 rfl ?_
      refine jm_getA C fF_X11_61 (by decide) (by decide) dX11_wrongField_300 ?_
      refine jm_iload_n C dX11_wrongField_303 rfl ?_
      refine jm_aldN C 26 (n := 200) (by decide) (by decide) rfl (by omega) dX11_wrongField_304 ?_
      refine jm_ald C 44 (n := 200) (by decide) (by decide) rfl hm dX11_wrongField_305 ?_
      refine jm_iconst (v := 1) C dX11_wrongField_306 (by decide) ?_
      refine jm_iadd C dX11_wrongField_307 ?_
      refine jm_aload_n C dX11_wrongField_308 rfl ?_
      refine jm_iconst (v := 4) C dX11_wrongField_309 (by decide) ?_
      refine jm_iload_n C dX11_wrongField_310 rfl ?_
      refine jm_iload_n C dX11_wrongField_311 rfl ?_
      refine jm_calli (As := [.int 4, .int (S 24 lt), .int q]) (rest := [.int ((S 44 ((S 26 lt)).toNatClampNeg) + 1)]) C fG_X11_180 (c_inForce (4) ((S 24 lt)) (q) ht hnt) rfl rfl (Nat.le_of_ble_eq_true rfl) ⟨Nat.le_of_ble_eq_true rfl, Nat.le_of_ble_eq_true rfl⟩ dX11_wrongField_312 (fun r_312 S_312 e_312 => ?_)
      obtain ⟨e1_312, e2_312⟩ := e_312
      subst e1_312
      replace e2_312 := e2_312.symm
      subst e2_312
      refine jm_icmp_le (tgt := 323) C dX11_wrongField_315 (by decide) (fun c_315 => ?_) (fun c_315 => ?_)
      · refine jm_iconst (v := 0) C dX11_wrongField_323 (by decide) ?_
        exact ret _ _ _ _ ⟨by rw [wrongS, if_neg (fun u => u f1), if_neg (by rw [f2]; decide), if_neg (fun u => u c_195), if_neg (fun u => u c_290), if_pos c_315], rfl⟩ dX11_wrongField_324
      · refine jm_bipush (v := 6) C dX11_wrongField_318 (by decide) ?_
        refine jm_goto (tgt := 324) C dX11_wrongField_320 (by decide) ?_
        exact ret _ _ _ _ ⟨by rw [wrongS, if_neg (fun u => u f1), if_neg (by rw [f2]; decide), if_neg (fun u => u c_195), if_neg (fun u => u c_290), if_neg c_315], rfl⟩ dX11_wrongField_324
    · refine jm_iconst (v := 4) C dX11_wrongField_293 (by decide) ?_
      exact ret _ _ _ _ ⟨by rw [wrongS, if_neg (fun u => u f1), if_neg (by rw [f2]; decide), if_neg (fun u => u c_195), if_pos c_290], rfl⟩ dX11_wrongField_294
  · refine jm_iconst (v := 3) C dX11_wrongField_198 (by decide) ?_
    exact ret _ _ _ _ ⟨by rw [wrongS, if_neg (fun u => u f1), if_neg (by rw [f2]; decide), if_pos c_195], rfl⟩ dX11_wrongField_199
