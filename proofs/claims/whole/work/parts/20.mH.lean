/-- S, with other rows 44 and 45 -/
def W45 (S : Nat → Nat → Int32) (z w : Nat → Int32) : Nat → Nat → Int32 := fun k i => if k = 44 then z i else if k = 45 then w i else S k i
theorem W45_self (S : Nat → Nat → Int32) : W45 S (S 44) (S 45) = S := by
  funext k i
  unfold W45
  split
  · next h => rw [h]
  · split
    · next h => rw [h]
    · rfl
theorem W45_44 (S : Nat → Nat → Int32) (z w : Nat → Int32) (i : Nat) (v : Int32) : u2 (W45 S z w) 44 i v = W45 S (upd z i v) w := by
  funext k j
  unfold u2 W45 upd
  by_cases h : k = 44
  · simp [h]
  · simp [h]
theorem W45_45 (S : Nat → Nat → Int32) (z w : Nat → Int32) (i : Nat) (v : Int32) : u2 (W45 S z w) 45 i v = W45 S z (upd w i v) := by
  funext k j
  unfold u2 W45 upd
  by_cases h : k = 44
  · simp [h]
  · by_cases h2 : k = 45
    · simp [h2]
    · simp [h, h2]
def why0 (S : Nat → Nat → Int32) (lt : Nat) (q : Int32) : Int32 := if ¬ S 33 lt = -1 ∧ ¬ q < S 33 lt then 5 else 0
def worstZ (S : Nat → Nat → Int32) (z : Nat → Int32) (lt : Nat) : Int32 := if S 21 lt = 2 then mx (z (S 26 lt).toNatClampNeg) (z (S 27 lt).toNatClampNeg) else z (S 26 lt).toNatClampNeg
def whyZ (S : Nat → Nat → Int32) (z w : Nat → Int32) (lt : Nat) (q : Int32) (nf nl ns nt nk : Nat) : Int32 := if ¬ why0 S lt q = 0 then 5 else if worstZ S z lt = 9 then 7 else if S 21 lt = 1 then wrongS (W45 S z w) lt q nf nl ns nt nk else 0
def rankZ (S : Nat → Nat → Int32) (z w : Nat → Int32) (lt : Nat) (q : Int32) (nf nl ns nt nk : Nat) : Int32 := if ¬ whyZ S z w lt q nf nl ns nt nk ≤ 0 then 9 else if S 21 lt = 2 then worstZ S z lt else worstZ S z lt + 1
theorem why0_5 {S : Nat → Nat → Int32} {lt : Nat} {q : Int32} (h1 : ¬ S 33 lt = -1) (h2 : ¬ q < S 33 lt) : ¬ why0 S lt q = 0 := by rw [why0, if_pos ⟨h1, h2⟩]; decide
theorem why0_a {S : Nat → Nat → Int32} {lt : Nat} {q : Int32} (h1 : S 33 lt = -1) : why0 S lt q = 0 := by rw [why0, if_neg (fun u => u.1 h1)]
theorem why0_b {S : Nat → Nat → Int32} {lt : Nat} {q : Int32} (h2 : q < S 33 lt) : why0 S lt q = 0 := by rw [why0, if_neg (fun u => u.2 h2)]
theorem jdg_end {S : Nat → Nat → Int32} {z w : Nat → Int32} {lt : Nat} {q : Int32} {nf nl ns nt nk : Nat} {v r : Int32} (h1 : whyZ S z w lt q nf nl ns nt nk = v) (h2 : rankZ S z w lt q nf nl ns nt nk = r) : u2 (u2 (W45 S z w) 45 lt v) 44 lt r = W45 S (upd z lt (rankZ S z w lt q nf nl ns nt nk)) (upd w lt (whyZ S z w lt q nf nl ns nt nk)) := by
  rw [h1, h2, W45_45, W45_44]
set_option maxHeartbeats 4000000 in
set_option maxRecDepth 100000 in
theorem c_judgeOne {l : Launch} {D : va_G} {cy : Nat → ClassId} {m0 : Nat} {ad : Nat → Nat} {S : Nat → Nat → Int32} {z w : Nat → Int32} {lt nf nl ns nt nk yy : Nat} {q : Int32} (hf : S 1 0 = nI nf) (hnf : nf ≤ 40) (hl : S 2 0 = nI nl) (hnl : nl ≤ 200) (hs : S 5 0 = nI ns) (hns : ns ≤ 300) (ht : S 6 0 = nI nt) (hnt : nt ≤ 100) (hk : S 7 0 = nI nk) (hnk : nk ≤ 300) (hlt0 : lt < 200) (hg : S 21 lt = 1 → vp_in (S 25 lt) 40) (hm : vp_in (S 26 lt) 200) (hm2 : S 21 lt = 2 → vp_in (S 27 lt) 200) (ho : ∀ q, q < nl → S 21 q = 1 → vp_in (S 26 q) 200) (hy : S 24 lt = nI yy) (hyy : yy ≤ 40) : mV l D cy yX11_judgeOne (.code yX11_judgeOne cX11_judgeOne 5 ((Option.none : Option FieldType))) 4 m0 ad [.int (nI lt), .int q] (W45 S z w) (fun S' => S' = W45 S (upd z lt (rankZ S z w lt q nf nl ns nt nk)) (upd w lt (whyZ S z w lt q nf nl ns nt nk))) := by
  refine m_ofV rfl (Nat.le_of_ble_eq_true rfl) (fun p e s m args below meth c A Q h0 C ret => ?_)
  refine jm_aload_n C dX11_judgeOne_0 rfl ?_
  refine jm_getA C fF_X11_82 (by decide) (by decide) dX11_judgeOne_1 ?_
  refine jm_iload_n C dX11_judgeOne_4 rfl ?_
  refine jm_aldN C 33 (n := 200) (by decide) (by decide) rfl (by omega) dX11_judgeOne_5 ?_
  refine jm_iconst (v := (-1)) C dX11_judgeOne_6 (by decide) ?_
  refine jm_icmp_eq (tgt := 24) C dX11_judgeOne_7 (by decide) (fun c_7 => ?_) (fun c_7 => ?_)
  · refine jm_iconst (v := 0) C dX11_judgeOne_24 (by decide) ?_
    refine jm_istore_n (lv' := [(0, .ref m0), (1, .int (nI lt)), (2, .int q), (3, .int 0)]) C dX11_judgeOne_25 (by decide) rfl ?_
    refine jm_aload_n C dX11_judgeOne_26 rfl ?_
    refine jm_getA C fF_X11_46 (by decide) (by decide) dX11_judgeOne_27 ?_
    refine jm_iload_n C dX11_judgeOne_30 rfl ?_
    refine jm_aldN C 21 (n := 200) (by decide) (by decide) rfl (by omega) dX11_judgeOne_31 ?_
    refine jm_iconst (v := 2) C dX11_judgeOne_32 (by decide) ?_
    refine jm_icmp_ne (tgt := 64) C dX11_judgeOne_33 (by decide) (fun c_33 => ?_) (fun c_33 => ?_)
    · refine jm_aload_n C dX11_judgeOne_64 rfl ?_
      refine jm_getA C fF_X11_115 (by decide) (by decide) dX11_judgeOne_65 ?_
      refine jm_aload_n C dX11_judgeOne_68 rfl ?_
      refine jm_getA C fF_X11_61 (by decide) (by decide) dX11_judgeOne_69 ?_
      refine jm_iload_n C dX11_judgeOne_72 rfl ?_
      refine jm_aldN C 26 (n := 200) (by decide) (by decide) rfl (by omega) dX11_judgeOne_73 ?_
      refine jm_ald C 44 (n := 200) (by decide) (by decide) rfl hm dX11_judgeOne_74 ?_
      refine jm_istore (lv' := [(0, .ref m0), (1, .int (nI lt)), (2, .int q), (3, .int 0), (4, .int ((W45 S z w) 44 ((S 26 lt)).toNatClampNeg))]) C dX11_judgeOne_75 (by decide) rfl ?_
      refine jm_iload_n C dX11_judgeOne_77 rfl ?_
      refine jm_if_ne (tgt := 91) C dX11_judgeOne_78 (by decide) (fun c_78 => ?_) (fun c_78 => ?_)
      · exact absurd rfl c_78
      refine jm_iload C dX11_judgeOne_81 rfl ?_
      refine jm_bipush (v := 9) C dX11_judgeOne_83 (by decide) ?_
      refine jm_icmp_ne (tgt := 91) C dX11_judgeOne_85 (by decide) (fun c_85 => ?_) (fun c_85 => ?_)
      · refine jm_iload_n C dX11_judgeOne_91 rfl ?_
        refine jm_if_ne (tgt := 112) C dX11_judgeOne_92 (by decide) (fun c_92 => ?_) (fun c_92 => ?_)
        · exact absurd rfl c_92
        refine jm_aload_n C dX11_judgeOne_95 rfl ?_
        refine jm_getA C fF_X11_46 (by decide) (by decide) dX11_judgeOne_96 ?_
        refine jm_iload_n C dX11_judgeOne_99 rfl ?_
        refine jm_aldN C 21 (n := 200) (by decide) (by decide) rfl (by omega) dX11_judgeOne_100 ?_
        refine jm_iconst (v := 1) C dX11_judgeOne_101 (by decide) ?_
        refine jm_icmp_ne (tgt := 112) C dX11_judgeOne_102 (by decide) (fun c_102 => ?_) (fun c_102 => ?_)
        · refine jm_aload_n C dX11_judgeOne_112 rfl ?_
          refine jm_getA C fF_X11_118 (by decide) (by decide) dX11_judgeOne_113 ?_
          refine jm_iload_n C dX11_judgeOne_116 rfl ?_
          refine jm_iload_n C dX11_judgeOne_117 rfl ?_
          refine jm_astN C 45 (n := 200) (by decide) (by decide) rfl (by omega) dX11_judgeOne_118 ?_
          refine jm_aload_n C dX11_judgeOne_119 rfl ?_
          refine jm_getA C fF_X11_115 (by decide) (by decide) dX11_judgeOne_120 ?_
          refine jm_iload_n C dX11_judgeOne_123 rfl ?_
          refine jm_iload_n C dX11_judgeOne_124 rfl ?_
          refine jm_if_le (tgt := 133) C dX11_judgeOne_125 (by decide) (fun c_125 => ?_) (fun c_125 => ?_)
          · refine jm_aload_n C dX11_judgeOne_133 rfl ?_
            refine jm_getA C fF_X11_46 (by decide) (by decide) dX11_judgeOne_134 ?_
            refine jm_iload_n C dX11_judgeOne_137 rfl ?_
            refine jm_aldN C 21 (n := 200) (by decide) (by decide) rfl (by omega) dX11_judgeOne_138 ?_
            refine jm_iconst (v := 2) C dX11_judgeOne_139 (by decide) ?_
            refine jm_icmp_ne (tgt := 148) C dX11_judgeOne_140 (by decide) (fun c_140 => ?_) (fun c_140 => ?_)
            · refine jm_iload C dX11_judgeOne_148 rfl ?_
              refine jm_iconst (v := 1) C dX11_judgeOne_150 (by decide) ?_
              refine jm_iadd C dX11_judgeOne_151 ?_
              refine jm_astN C 44 (n := 200) (by decide) (by decide) rfl (by omega) dX11_judgeOne_152 ?_
              replace c_33 : ¬ S 21 lt = 2 := c_33
              replace c_102 : ¬ S 21 lt = 1 := c_102
              have hwz : worstZ S z lt = (z ((S 26 lt)).toNatClampNeg) := by unfold worstZ; exact if_neg c_33
              have hwy : whyZ S z w lt q nf nl ns nt nk = 0 := by rw [whyZ, if_neg (fun u => u (why0_a c_7)), if_neg (by rw [hwz]; exact c_85), if_neg c_102]
              exact ret _ _ _ (jdg_end hwy (by rw [rankZ, if_neg (fun u => u (by rw [hwy]; decide)), if_neg c_33]; exact congrArg (· + 1) hwz)) dX11_judgeOne_153
            · exact absurd c_140 c_33
          · exact absurd (by decide) c_125
        · refine jm_aload_n C dX11_judgeOne_105 rfl ?_
          refine jm_iload_n C dX11_judgeOne_106 rfl ?_
          refine jm_iload_n C dX11_judgeOne_107 rfl ?_
          refine jm_calli (As := [.int (nI lt), .int q]) (rest := []) C fG_X11_216 (c_wrongField (S := W45 S z w) (lt := lt) (q := q) (yy := yy) hf hnf hl hnl hs hns ht hnt hk hnk hlt0 (hg c_102) hm ho hy hyy) rfl rfl (Nat.le_of_ble_eq_true rfl) ⟨Nat.le_of_ble_eq_true rfl, Nat.le_of_ble_eq_true rfl⟩ dX11_judgeOne_108 (fun r_108 S_108 e_108 => ?_)
          obtain ⟨e1_108, e2_108⟩ := e_108
          subst e1_108
          subst e2_108
          refine jm_istore_n (lv' := [(0, .ref m0), (1, .int (nI lt)), (2, .int q), (3, .int (wrongS (W45 S z w) lt q nf nl ns nt nk)), (4, .int ((W45 S z w) 44 ((S 26 lt)).toNatClampNeg))]) C dX11_judgeOne_111 (by decide) rfl ?_
          refine jm_aload_n C dX11_judgeOne_112 rfl ?_
          refine jm_getA C fF_X11_118 (by decide) (by decide) dX11_judgeOne_113 ?_
          refine jm_iload_n C dX11_judgeOne_116 rfl ?_
          refine jm_iload_n C dX11_judgeOne_117 rfl ?_
          refine jm_astN C 45 (n := 200) (by decide) (by decide) rfl (by omega) dX11_judgeOne_118 ?_
          refine jm_aload_n C dX11_judgeOne_119 rfl ?_
          refine jm_getA C fF_X11_115 (by decide) (by decide) dX11_judgeOne_120 ?_
          refine jm_iload_n C dX11_judgeOne_123 rfl ?_
          refine jm_iload_n C dX11_judgeOne_124 rfl ?_
          refine jm_if_le (tgt := 133) C dX11_judgeOne_125 (by decide) (fun c_125 => ?_) (fun c_125 => ?_)
          · refine jm_aload_n C dX11_judgeOne_133 rfl ?_
            refine jm_getA C fF_X11_46 (by decide) (by decide) dX11_judgeOne_134 ?_
            refine jm_iload_n C dX11_judgeOne_137 rfl ?_
            refine jm_aldN C 21 (n := 200) (by decide) (by decide) rfl (by omega) dX11_judgeOne_138 ?_
            refine jm_iconst (v := 2) C dX11_judgeOne_139 (by decide) ?_
            refine jm_icmp_ne (tgt := 148) C dX11_judgeOne_140 (by decide) (fun c_140 => ?_) (fun c_140 => ?_)
            · refine jm_iload C dX11_judgeOne_148 rfl ?_
              refine jm_iconst (v := 1) C dX11_judgeOne_150 (by decide) ?_
              refine jm_iadd C dX11_judgeOne_151 ?_
              refine jm_astN C 44 (n := 200) (by decide) (by decide) rfl (by omega) dX11_judgeOne_152 ?_
              replace c_33 : ¬ S 21 lt = 2 := c_33
              replace c_102 : S 21 lt = 1 := c_102
              have hwz : worstZ S z lt = (z ((S 26 lt)).toNatClampNeg) := by unfold worstZ; exact if_neg c_33
              have hwy : whyZ S z w lt q nf nl ns nt nk = wrongS (W45 S z w) lt q nf nl ns nt nk := by rw [whyZ, if_neg (fun u => u (why0_a c_7)), if_neg (by rw [hwz]; exact c_85), if_pos c_102]
              exact ret _ _ _ (jdg_end hwy (by rw [rankZ, if_neg (fun u => u (by rw [hwy]; exact c_125)), if_neg c_33]; exact congrArg (· + 1) hwz)) dX11_judgeOne_153
            · exact absurd c_140 c_33
          · refine jm_bipush (v := 9) C dX11_judgeOne_128 (by decide) ?_
            refine jm_goto (tgt := 152) C dX11_judgeOne_130 (by decide) ?_
            refine jm_astN C 44 (n := 200) (by decide) (by decide) rfl (by omega) dX11_judgeOne_152 ?_
            replace c_33 : ¬ S 21 lt = 2 := c_33
            replace c_102 : S 21 lt = 1 := c_102
            have hwz : worstZ S z lt = (z ((S 26 lt)).toNatClampNeg) := by unfold worstZ; exact if_neg c_33
            have hwy : whyZ S z w lt q nf nl ns nt nk = wrongS (W45 S z w) lt q nf nl ns nt nk := by rw [whyZ, if_neg (fun u => u (why0_a c_7)), if_neg (by rw [hwz]; exact c_85), if_pos c_102]
            exact ret _ _ _ (jdg_end hwy (if_pos (by rw [hwy]; exact c_125))) dX11_judgeOne_153
      · refine jm_bipush (v := 7) C dX11_judgeOne_88 (by decide) ?_
        refine jm_istore_n (lv' := [(0, .ref m0), (1, .int (nI lt)), (2, .int q), (3, .int 7), (4, .int ((W45 S z w) 44 ((S 26 lt)).toNatClampNeg))]) C dX11_judgeOne_90 (by decide) rfl ?_
        refine jm_iload_n C dX11_judgeOne_91 rfl ?_
        refine jm_if_ne (tgt := 112) C dX11_judgeOne_92 (by decide) (fun c_92 => ?_) (fun c_92 => ?_)
        · refine jm_aload_n C dX11_judgeOne_112 rfl ?_
          refine jm_getA C fF_X11_118 (by decide) (by decide) dX11_judgeOne_113 ?_
          refine jm_iload_n C dX11_judgeOne_116 rfl ?_
          refine jm_iload_n C dX11_judgeOne_117 rfl ?_
          refine jm_astN C 45 (n := 200) (by decide) (by decide) rfl (by omega) dX11_judgeOne_118 ?_
          refine jm_aload_n C dX11_judgeOne_119 rfl ?_
          refine jm_getA C fF_X11_115 (by decide) (by decide) dX11_judgeOne_120 ?_
          refine jm_iload_n C dX11_judgeOne_123 rfl ?_
          refine jm_iload_n C dX11_judgeOne_124 rfl ?_
          refine jm_if_le (tgt := 133) C dX11_judgeOne_125 (by decide) (fun c_125 => ?_) (fun c_125 => ?_)
          · exact absurd c_125 (by decide)
          refine jm_bipush (v := 9) C dX11_judgeOne_128 (by decide) ?_
          refine jm_goto (tgt := 152) C dX11_judgeOne_130 (by decide) ?_
          refine jm_astN C 44 (n := 200) (by decide) (by decide) rfl (by omega) dX11_judgeOne_152 ?_
          replace c_33 : ¬ S 21 lt = 2 := c_33
          have hwz : worstZ S z lt = (z ((S 26 lt)).toNatClampNeg) := by unfold worstZ; exact if_neg c_33
          have hwy : whyZ S z w lt q nf nl ns nt nk = 7 := by rw [whyZ, if_neg (fun u => u (why0_a c_7)), if_pos (by rw [hwz]; exact c_85)]
          exact ret _ _ _ (jdg_end hwy (if_pos (by rw [hwy]; decide))) dX11_judgeOne_153
        · exact absurd c_92 (by decide)
    · refine jm_aload_n C dX11_judgeOne_36 rfl ?_
      refine jm_getA C fF_X11_115 (by decide) (by decide) dX11_judgeOne_37 ?_
      refine jm_aload_n C dX11_judgeOne_40 rfl ?_
      refine jm_getA C fF_X11_61 (by decide) (by decide) dX11_judgeOne_41 ?_
      refine jm_iload_n C dX11_judgeOne_44 rfl ?_
      refine jm_aldN C 26 (n := 200) (by decide) (by decide) rfl (by omega) dX11_judgeOne_45 ?_
      refine jm_ald C 44 (n := 200) (by decide) (by decide) rfl hm dX11_judgeOne_46 ?_
      refine jm_aload_n C dX11_judgeOne_47 rfl ?_
      refine jm_getA C fF_X11_115 (by decide) (by decide) dX11_judgeOne_48 ?_
      refine jm_aload_n C dX11_judgeOne_51 rfl ?_
      refine jm_getA C fF_X11_64 (by decide) (by decide) dX11_judgeOne_52 ?_
      refine jm_iload_n C dX11_judgeOne_55 rfl ?_
      refine jm_aldN C 27 (n := 200) (by decide) (by decide) rfl (by omega) dX11_judgeOne_56 ?_
      refine jm_ald C 44 (n := 200) (by decide) (by decide) rfl (hm2 c_33) dX11_judgeOne_57 ?_
      refine jm_max C kM_X11_150 dX11_judgeOne_58 (Nat.le_of_ble_eq_true rfl) (Nat.le_of_ble_eq_true rfl) ?_
      refine jm_goto (tgt := 75) C dX11_judgeOne_61 (by decide) ?_
      refine jm_istore (lv' := [(0, .ref m0), (1, .int (nI lt)), (2, .int q), (3, .int 0), (4, .int (if ((W45 S z w) 44 ((S 26 lt)).toNatClampNeg) < ((W45 S z w) 44 ((S 27 lt)).toNatClampNeg) then ((W45 S z w) 44 ((S 27 lt)).toNatClampNeg) else ((W45 S z w) 44 ((S 26 lt)).toNatClampNeg)))]) C dX11_judgeOne_75 (by decide) rfl ?_
      refine jm_iload_n C dX11_judgeOne_77 rfl ?_
      refine jm_if_ne (tgt := 91) C dX11_judgeOne_78 (by decide) (fun c_78 => ?_) (fun c_78 => ?_)
      · exact absurd rfl c_78
      refine jm_iload C dX11_judgeOne_81 rfl ?_
      refine jm_bipush (v := 9) C dX11_judgeOne_83 (by decide) ?_
      refine jm_icmp_ne (tgt := 91) C dX11_judgeOne_85 (by decide) (fun c_85 => ?_) (fun c_85 => ?_)
      · refine jm_iload_n C dX11_judgeOne_91 rfl ?_
        refine jm_if_ne (tgt := 112) C dX11_judgeOne_92 (by decide) (fun c_92 => ?_) (fun c_92 => ?_)
        · exact absurd rfl c_92
        refine jm_aload_n C dX11_judgeOne_95 rfl ?_
        refine jm_getA C fF_X11_46 (by decide) (by decide) dX11_judgeOne_96 ?_
        refine jm_iload_n C dX11_judgeOne_99 rfl ?_
        refine jm_aldN C 21 (n := 200) (by decide) (by decide) rfl (by omega) dX11_judgeOne_100 ?_
        refine jm_iconst (v := 1) C dX11_judgeOne_101 (by decide) ?_
        refine jm_icmp_ne (tgt := 112) C dX11_judgeOne_102 (by decide) (fun c_102 => ?_) (fun c_102 => ?_)
        · refine jm_aload_n C dX11_judgeOne_112 rfl ?_
          refine jm_getA C fF_X11_118 (by decide) (by decide) dX11_judgeOne_113 ?_
          refine jm_iload_n C dX11_judgeOne_116 rfl ?_
          refine jm_iload_n C dX11_judgeOne_117 rfl ?_
          refine jm_astN C 45 (n := 200) (by decide) (by decide) rfl (by omega) dX11_judgeOne_118 ?_
          refine jm_aload_n C dX11_judgeOne_119 rfl ?_
          refine jm_getA C fF_X11_115 (by decide) (by decide) dX11_judgeOne_120 ?_
          refine jm_iload_n C dX11_judgeOne_123 rfl ?_
          refine jm_iload_n C dX11_judgeOne_124 rfl ?_
          refine jm_if_le (tgt := 133) C dX11_judgeOne_125 (by decide) (fun c_125 => ?_) (fun c_125 => ?_)
          · refine jm_aload_n C dX11_judgeOne_133 rfl ?_
            refine jm_getA C fF_X11_46 (by decide) (by decide) dX11_judgeOne_134 ?_
            refine jm_iload_n C dX11_judgeOne_137 rfl ?_
            refine jm_aldN C 21 (n := 200) (by decide) (by decide) rfl (by omega) dX11_judgeOne_138 ?_
            refine jm_iconst (v := 2) C dX11_judgeOne_139 (by decide) ?_
            refine jm_icmp_ne (tgt := 148) C dX11_judgeOne_140 (by decide) (fun c_140 => ?_) (fun c_140 => ?_)
            · exact absurd c_33 c_140
            refine jm_iload C dX11_judgeOne_143 rfl ?_
            refine jm_goto (tgt := 152) C dX11_judgeOne_145 (by decide) ?_
            refine jm_astN C 44 (n := 200) (by decide) (by decide) rfl (by omega) dX11_judgeOne_152 ?_
            replace c_33 : S 21 lt = 2 := c_33
            replace c_102 : ¬ S 21 lt = 1 := c_102
            have hwz : worstZ S z lt = (if (z ((S 26 lt)).toNatClampNeg) < (z ((S 27 lt)).toNatClampNeg) then (z ((S 27 lt)).toNatClampNeg) else (z ((S 26 lt)).toNatClampNeg)) := by unfold worstZ; exact if_pos c_33
            have hwy : whyZ S z w lt q nf nl ns nt nk = 0 := by rw [whyZ, if_neg (fun u => u (why0_a c_7)), if_neg (by rw [hwz]; exact c_85), if_neg c_102]
            exact ret _ _ _ (jdg_end hwy (by rw [rankZ, if_neg (fun u => u (by rw [hwy]; decide)), if_pos c_33]; exact hwz)) dX11_judgeOne_153
          · exact absurd (by decide) c_125
        · refine jm_aload_n C dX11_judgeOne_105 rfl ?_
          refine jm_iload_n C dX11_judgeOne_106 rfl ?_
          refine jm_iload_n C dX11_judgeOne_107 rfl ?_
          refine jm_calli (As := [.int (nI lt), .int q]) (rest := []) C fG_X11_216 (c_wrongField (S := W45 S z w) (lt := lt) (q := q) (yy := yy) hf hnf hl hnl hs hns ht hnt hk hnk hlt0 (hg c_102) hm ho hy hyy) rfl rfl (Nat.le_of_ble_eq_true rfl) ⟨Nat.le_of_ble_eq_true rfl, Nat.le_of_ble_eq_true rfl⟩ dX11_judgeOne_108 (fun r_108 S_108 e_108 => ?_)
          obtain ⟨e1_108, e2_108⟩ := e_108
          subst e1_108
          subst e2_108
          refine jm_istore_n (lv' := [(0, .ref m0), (1, .int (nI lt)), (2, .int q), (3, .int (wrongS (W45 S z w) lt q nf nl ns nt nk)), (4, .int (if ((W45 S z w) 44 ((S 26 lt)).toNatClampNeg) < ((W45 S z w) 44 ((S 27 lt)).toNatClampNeg) then ((W45 S z w) 44 ((S 27 lt)).toNatClampNeg) else ((W45 S z w) 44 ((S 26 lt)).toNatClampNeg)))]) C dX11_judgeOne_111 (by decide) rfl ?_
          refine jm_aload_n C dX11_judgeOne_112 rfl ?_
          refine jm_getA C fF_X11_118 (by decide) (by decide) dX11_judgeOne_113 ?_
          refine jm_iload_n C dX11_judgeOne_116 rfl ?_
          refine jm_iload_n C dX11_judgeOne_117 rfl ?_
          refine jm_astN C 45 (n := 200) (by decide) (by decide) rfl (by omega) dX11_judgeOne_118 ?_
          refine jm_aload_n C dX11_judgeOne_119 rfl ?_
          refine jm_getA C fF_X11_115 (by decide) (by decide) dX11_judgeOne_120 ?_
          refine jm_iload_n C dX11_judgeOne_123 rfl ?_
          refine jm_iload_n C dX11_judgeOne_124 rfl ?_
          refine jm_if_le (tgt := 133) C dX11_judgeOne_125 (by decide) (fun c_125 => ?_) (fun c_125 => ?_)
          · refine jm_aload_n C dX11_judgeOne_133 rfl ?_
            refine jm_getA C fF_X11_46 (by decide) (by decide) dX11_judgeOne_134 ?_
            refine jm_iload_n C dX11_judgeOne_137 rfl ?_
            refine jm_aldN C 21 (n := 200) (by decide) (by decide) rfl (by omega) dX11_judgeOne_138 ?_
            refine jm_iconst (v := 2) C dX11_judgeOne_139 (by decide) ?_
            refine jm_icmp_ne (tgt := 148) C dX11_judgeOne_140 (by decide) (fun c_140 => ?_) (fun c_140 => ?_)
            · exact absurd c_33 c_140
            refine jm_iload C dX11_judgeOne_143 rfl ?_
            refine jm_goto (tgt := 152) C dX11_judgeOne_145 (by decide) ?_
            refine jm_astN C 44 (n := 200) (by decide) (by decide) rfl (by omega) dX11_judgeOne_152 ?_
            replace c_33 : S 21 lt = 2 := c_33
            replace c_102 : S 21 lt = 1 := c_102
            have hwz : worstZ S z lt = (if (z ((S 26 lt)).toNatClampNeg) < (z ((S 27 lt)).toNatClampNeg) then (z ((S 27 lt)).toNatClampNeg) else (z ((S 26 lt)).toNatClampNeg)) := by unfold worstZ; exact if_pos c_33
            have hwy : whyZ S z w lt q nf nl ns nt nk = wrongS (W45 S z w) lt q nf nl ns nt nk := by rw [whyZ, if_neg (fun u => u (why0_a c_7)), if_neg (by rw [hwz]; exact c_85), if_pos c_102]
            exact ret _ _ _ (jdg_end hwy (by rw [rankZ, if_neg (fun u => u (by rw [hwy]; exact c_125)), if_pos c_33]; exact hwz)) dX11_judgeOne_153
          · refine jm_bipush (v := 9) C dX11_judgeOne_128 (by decide) ?_
            refine jm_goto (tgt := 152) C dX11_judgeOne_130 (by decide) ?_
            refine jm_astN C 44 (n := 200) (by decide) (by decide) rfl (by omega) dX11_judgeOne_152 ?_
            replace c_33 : S 21 lt = 2 := c_33
            replace c_102 : S 21 lt = 1 := c_102
            have hwz : worstZ S z lt = (if (z ((S 26 lt)).toNatClampNeg) < (z ((S 27 lt)).toNatClampNeg) then (z ((S 27 lt)).toNatClampNeg) else (z ((S 26 lt)).toNatClampNeg)) := by unfold worstZ; exact if_pos c_33
            have hwy : whyZ S z w lt q nf nl ns nt nk = wrongS (W45 S z w) lt q nf nl ns nt nk := by rw [whyZ, if_neg (fun u => u (why0_a c_7)), if_neg (by rw [hwz]; exact c_85), if_pos c_102]
            exact ret _ _ _ (jdg_end hwy (if_pos (by rw [hwy]; exact c_125))) dX11_judgeOne_153
      · refine jm_bipush (v := 7) C dX11_judgeOne_88 (by decide) ?_
        refine jm_istore_n (lv' := [(0, .ref m0), (1, .int (nI lt)), (2, .int q), (3, .int 7), (4, .int (if ((W45 S z w) 44 ((S 26 lt)).toNatClampNeg) < ((W45 S z w) 44 ((S 27 lt)).toNatClampNeg) then ((W45 S z w) 44 ((S 27 lt)).toNatClampNeg) else ((W45 S z w) 44 ((S 26 lt)).toNatClampNeg)))]) C dX11_judgeOne_90 (by decide) rfl ?_
        refine jm_iload_n C dX11_judgeOne_91 rfl ?_
        refine jm_if_ne (tgt := 112) C dX11_judgeOne_92 (by decide) (fun c_92 => ?_) (fun c_92 => ?_)
        · refine jm_aload_n C dX11_judgeOne_112 rfl ?_
          refine jm_getA C fF_X11_118 (by decide) (by decide) dX11_judgeOne_113 ?_
          refine jm_iload_n C dX11_judgeOne_116 rfl ?_
          refine jm_iload_n C dX11_judgeOne_117 rfl ?_
          refine jm_astN C 45 (n := 200) (by decide) (by decide) rfl (by omega) dX11_judgeOne_118 ?_
          refine jm_aload_n C dX11_judgeOne_119 rfl ?_
          refine jm_getA C fF_X11_115 (by decide) (by decide) dX11_judgeOne_120 ?_
          refine jm_iload_n C dX11_judgeOne_123 rfl ?_
          refine jm_iload_n C dX11_judgeOne_124 rfl ?_
          refine jm_if_le (tgt := 133) C dX11_judgeOne_125 (by decide) (fun c_125 => ?_) (fun c_125 => ?_)
          · exact absurd c_125 (by decide)
          refine jm_bipush (v := 9) C dX11_judgeOne_128 (by decide) ?_
          refine jm_goto (tgt := 152) C dX11_judgeOne_130 (by decide) ?_
          refine jm_astN C 44 (n := 200) (by decide) (by decide) rfl (by omega) dX11_judgeOne_152 ?_
          replace c_33 : S 21 lt = 2 := c_33
          have hwz : worstZ S z lt = (if (z ((S 26 lt)).toNatClampNeg) < (z ((S 27 lt)).toNatClampNeg) then (z ((S 27 lt)).toNatClampNeg) else (z ((S 26 lt)).toNatClampNeg)) := by unfold worstZ; exact if_pos c_33
          have hwy : whyZ S z w lt q nf nl ns nt nk = 7 := by rw [whyZ, if_neg (fun u => u (why0_a c_7)), if_pos (by rw [hwz]; exact c_85)]
          exact ret _ _ _ (jdg_end hwy (if_pos (by rw [hwy]; decide))) dX11_judgeOne_153
        · exact absurd c_92 (by decide)
  · refine jm_aload_n C dX11_judgeOne_10 rfl ?_
    refine jm_getA C fF_X11_82 (by decide) (by decide) dX11_judgeOne_11 ?_
    refine jm_iload_n C dX11_judgeOne_14 rfl ?_
    refine jm_aldN C 33 (n := 200) (by decide) (by decide) rfl (by omega) dX11_judgeOne_15 ?_
    refine jm_iload_n C dX11_judgeOne_16 rfl ?_
    refine jm_icmp_gt (tgt := 24) C dX11_judgeOne_17 (by decide) (fun c_17 => ?_) (fun c_17 => ?_)
    · refine jm_iconst (v := 0) C dX11_judgeOne_24 (by decide) ?_
      refine jm_istore_n (lv' := [(0, .ref m0), (1, .int (nI lt)), (2, .int q), (3, .int 0)]) C dX11_judgeOne_25 (by decide) rfl ?_
      refine jm_aload_n C dX11_judgeOne_26 rfl ?_
      refine jm_getA C fF_X11_46 (by decide) (by decide) dX11_judgeOne_27 ?_
      refine jm_iload_n C dX11_judgeOne_30 rfl ?_
      refine jm_aldN C 21 (n := 200) (by decide) (by decide) rfl (by omega) dX11_judgeOne_31 ?_
      refine jm_iconst (v := 2) C dX11_judgeOne_32 (by decide) ?_
      refine jm_icmp_ne (tgt := 64) C dX11_judgeOne_33 (by decide) (fun c_33 => ?_) (fun c_33 => ?_)
      · refine jm_aload_n C dX11_judgeOne_64 rfl ?_
        refine jm_getA C fF_X11_115 (by decide) (by decide) dX11_judgeOne_65 ?_
        refine jm_aload_n C dX11_judgeOne_68 rfl ?_
        refine jm_getA C fF_X11_61 (by decide) (by decide) dX11_judgeOne_69 ?_
        refine jm_iload_n C dX11_judgeOne_72 rfl ?_
        refine jm_aldN C 26 (n := 200) (by decide) (by decide) rfl (by omega) dX11_judgeOne_73 ?_
        refine jm_ald C 44 (n := 200) (by decide) (by decide) rfl hm dX11_judgeOne_74 ?_
        refine jm_istore (lv' := [(0, .ref m0), (1, .int (nI lt)), (2, .int q), (3, .int 0), (4, .int ((W45 S z w) 44 ((S 26 lt)).toNatClampNeg))]) C dX11_judgeOne_75 (by decide) rfl ?_
        refine jm_iload_n C dX11_judgeOne_77 rfl ?_
        refine jm_if_ne (tgt := 91) C dX11_judgeOne_78 (by decide) (fun c_78 => ?_) (fun c_78 => ?_)
        · exact absurd rfl c_78
        refine jm_iload C dX11_judgeOne_81 rfl ?_
        refine jm_bipush (v := 9) C dX11_judgeOne_83 (by decide) ?_
        refine jm_icmp_ne (tgt := 91) C dX11_judgeOne_85 (by decide) (fun c_85 => ?_) (fun c_85 => ?_)
        · refine jm_iload_n C dX11_judgeOne_91 rfl ?_
          refine jm_if_ne (tgt := 112) C dX11_judgeOne_92 (by decide) (fun c_92 => ?_) (fun c_92 => ?_)
          · exact absurd rfl c_92
          refine jm_aload_n C dX11_judgeOne_95 rfl ?_
          refine jm_getA C fF_X11_46 (by decide) (by decide) dX11_judgeOne_96 ?_
          refine jm_iload_n C dX11_judgeOne_99 rfl ?_
          refine jm_aldN C 21 (n := 200) (by decide) (by decide) rfl (by omega) dX11_judgeOne_100 ?_
          refine jm_iconst (v := 1) C dX11_judgeOne_101 (by decide) ?_
          refine jm_icmp_ne (tgt := 112) C dX11_judgeOne_102 (by decide) (fun c_102 => ?_) (fun c_102 => ?_)
          · refine jm_aload_n C dX11_judgeOne_112 rfl ?_
            refine jm_getA C fF_X11_118 (by decide) (by decide) dX11_judgeOne_113 ?_
            refine jm_iload_n C dX11_judgeOne_116 rfl ?_
            refine jm_iload_n C dX11_judgeOne_117 rfl ?_
            refine jm_astN C 45 (n := 200) (by decide) (by decide) rfl (by omega) dX11_judgeOne_118 ?_
            refine jm_aload_n C dX11_judgeOne_119 rfl ?_
            refine jm_getA C fF_X11_115 (by decide) (by decide) dX11_judgeOne_120 ?_
            refine jm_iload_n C dX11_judgeOne_123 rfl ?_
            refine jm_iload_n C dX11_judgeOne_124 rfl ?_
            refine jm_if_le (tgt := 133) C dX11_judgeOne_125 (by decide) (fun c_125 => ?_) (fun c_125 => ?_)
            · refine jm_aload_n C dX11_judgeOne_133 rfl ?_
              refine jm_getA C fF_X11_46 (by decide) (by decide) dX11_judgeOne_134 ?_
              refine jm_iload_n C dX11_judgeOne_137 rfl ?_
              refine jm_aldN C 21 (n := 200) (by decide) (by decide) rfl (by omega) dX11_judgeOne_138 ?_
              refine jm_iconst (v := 2) C dX11_judgeOne_139 (by decide) ?_
              refine jm_icmp_ne (tgt := 148) C dX11_judgeOne_140 (by decide) (fun c_140 => ?_) (fun c_140 => ?_)
              · refine jm_iload C dX11_judgeOne_148 rfl ?_
                refine jm_iconst (v := 1) C dX11_judgeOne_150 (by decide) ?_
                refine jm_iadd C dX11_judgeOne_151 ?_
                refine jm_astN C 44 (n := 200) (by decide) (by decide) rfl (by omega) dX11_judgeOne_152 ?_
                replace c_33 : ¬ S 21 lt = 2 := c_33
                replace c_102 : ¬ S 21 lt = 1 := c_102
                have hwz : worstZ S z lt = (z ((S 26 lt)).toNatClampNeg) := by unfold worstZ; exact if_neg c_33
                have hwy : whyZ S z w lt q nf nl ns nt nk = 0 := by rw [whyZ, if_neg (fun u => u (why0_b c_17)), if_neg (by rw [hwz]; exact c_85), if_neg c_102]
                exact ret _ _ _ (jdg_end hwy (by rw [rankZ, if_neg (fun u => u (by rw [hwy]; decide)), if_neg c_33]; exact congrArg (· + 1) hwz)) dX11_judgeOne_153
              · exact absurd c_140 c_33
            · exact absurd (by decide) c_125
          · refine jm_aload_n C dX11_judgeOne_105 rfl ?_
            refine jm_iload_n C dX11_judgeOne_106 rfl ?_
            refine jm_iload_n C dX11_judgeOne_107 rfl ?_
            refine jm_calli (As := [.int (nI lt), .int q]) (rest := []) C fG_X11_216 (c_wrongField (S := W45 S z w) (lt := lt) (q := q) (yy := yy) hf hnf hl hnl hs hns ht hnt hk hnk hlt0 (hg c_102) hm ho hy hyy) rfl rfl (Nat.le_of_ble_eq_true rfl) ⟨Nat.le_of_ble_eq_true rfl, Nat.le_of_ble_eq_true rfl⟩ dX11_judgeOne_108 (fun r_108 S_108 e_108 => ?_)
            obtain ⟨e1_108, e2_108⟩ := e_108
            subst e1_108
            subst e2_108
            refine jm_istore_n (lv' := [(0, .ref m0), (1, .int (nI lt)), (2, .int q), (3, .int (wrongS (W45 S z w) lt q nf nl ns nt nk)), (4, .int ((W45 S z w) 44 ((S 26 lt)).toNatClampNeg))]) C dX11_judgeOne_111 (by decide) rfl ?_
            refine jm_aload_n C dX11_judgeOne_112 rfl ?_
            refine jm_getA C fF_X11_118 (by decide) (by decide) dX11_judgeOne_113 ?_
            refine jm_iload_n C dX11_judgeOne_116 rfl ?_
            refine jm_iload_n C dX11_judgeOne_117 rfl ?_
            refine jm_astN C 45 (n := 200) (by decide) (by decide) rfl (by omega) dX11_judgeOne_118 ?_
            refine jm_aload_n C dX11_judgeOne_119 rfl ?_
            refine jm_getA C fF_X11_115 (by decide) (by decide) dX11_judgeOne_120 ?_
            refine jm_iload_n C dX11_judgeOne_123 rfl ?_
            refine jm_iload_n C dX11_judgeOne_124 rfl ?_
            refine jm_if_le (tgt := 133) C dX11_judgeOne_125 (by decide) (fun c_125 => ?_) (fun c_125 => ?_)
            · refine jm_aload_n C dX11_judgeOne_133 rfl ?_
              refine jm_getA C fF_X11_46 (by decide) (by decide) dX11_judgeOne_134 ?_
              refine jm_iload_n C dX11_judgeOne_137 rfl ?_
              refine jm_aldN C 21 (n := 200) (by decide) (by decide) rfl (by omega) dX11_judgeOne_138 ?_
              refine jm_iconst (v := 2) C dX11_judgeOne_139 (by decide) ?_
              refine jm_icmp_ne (tgt := 148) C dX11_judgeOne_140 (by decide) (fun c_140 => ?_) (fun c_140 => ?_)
              · refine jm_iload C dX11_judgeOne_148 rfl ?_
                refine jm_iconst (v := 1) C dX11_judgeOne_150 (by decide) ?_
                refine jm_iadd C dX11_judgeOne_151 ?_
                refine jm_astN C 44 (n := 200) (by decide) (by decide) rfl (by omega) dX11_judgeOne_152 ?_
                replace c_33 : ¬ S 21 lt = 2 := c_33
                replace c_102 : S 21 lt = 1 := c_102
                have hwz : worstZ S z lt = (z ((S 26 lt)).toNatClampNeg) := by unfold worstZ; exact if_neg c_33
                have hwy : whyZ S z w lt q nf nl ns nt nk = wrongS (W45 S z w) lt q nf nl ns nt nk := by rw [whyZ, if_neg (fun u => u (why0_b c_17)), if_neg (by rw [hwz]; exact c_85), if_pos c_102]
                exact ret _ _ _ (jdg_end hwy (by rw [rankZ, if_neg (fun u => u (by rw [hwy]; exact c_125)), if_neg c_33]; exact congrArg (· + 1) hwz)) dX11_judgeOne_153
              · exact absurd c_140 c_33
            · refine jm_bipush (v := 9) C dX11_judgeOne_128 (by decide) ?_
              refine jm_goto (tgt := 152) C dX11_judgeOne_130 (by decide) ?_
              refine jm_astN C 44 (n := 200) (by decide) (by decide) rfl (by omega) dX11_judgeOne_152 ?_
              replace c_33 : ¬ S 21 lt = 2 := c_33
              replace c_102 : S 21 lt = 1 := c_102
              have hwz : worstZ S z lt = (z ((S 26 lt)).toNatClampNeg) := by unfold worstZ; exact if_neg c_33
              have hwy : whyZ S z w lt q nf nl ns nt nk = wrongS (W45 S z w) lt q nf nl ns nt nk := by rw [whyZ, if_neg (fun u => u (why0_b c_17)), if_neg (by rw [hwz]; exact c_85), if_pos c_102]
              exact ret _ _ _ (jdg_end hwy (if_pos (by rw [hwy]; exact c_125))) dX11_judgeOne_153
        · refine jm_bipush (v := 7) C dX11_judgeOne_88 (by decide) ?_
          refine jm_istore_n (lv' := [(0, .ref m0), (1, .int (nI lt)), (2, .int q), (3, .int 7), (4, .int ((W45 S z w) 44 ((S 26 lt)).toNatClampNeg))]) C dX11_judgeOne_90 (by decide) rfl ?_
          refine jm_iload_n C dX11_judgeOne_91 rfl ?_
          refine jm_if_ne (tgt := 112) C dX11_judgeOne_92 (by decide) (fun c_92 => ?_) (fun c_92 => ?_)
          · refine jm_aload_n C dX11_judgeOne_112 rfl ?_
            refine jm_getA C fF_X11_118 (by decide) (by decide) dX11_judgeOne_113 ?_
            refine jm_iload_n C dX11_judgeOne_116 rfl ?_
            refine jm_iload_n C dX11_judgeOne_117 rfl ?_
            refine jm_astN C 45 (n := 200) (by decide) (by decide) rfl (by omega) dX11_judgeOne_118 ?_
            refine jm_aload_n C dX11_judgeOne_119 rfl ?_
            refine jm_getA C fF_X11_115 (by decide) (by decide) dX11_judgeOne_120 ?_
            refine jm_iload_n C dX11_judgeOne_123 rfl ?_
            refine jm_iload_n C dX11_judgeOne_124 rfl ?_
            refine jm_if_le (tgt := 133) C dX11_judgeOne_125 (by decide) (fun c_125 => ?_) (fun c_125 => ?_)
            · exact absurd c_125 (by decide)
            refine jm_bipush (v := 9) C dX11_judgeOne_128 (by decide) ?_
            refine jm_goto (tgt := 152) C dX11_judgeOne_130 (by decide) ?_
            refine jm_astN C 44 (n := 200) (by decide) (by decide) rfl (by omega) dX11_judgeOne_152 ?_
            replace c_33 : ¬ S 21 lt = 2 := c_33
            have hwz : worstZ S z lt = (z ((S 26 lt)).toNatClampNeg) := by unfold worstZ; exact if_neg c_33
            have hwy : whyZ S z w lt q nf nl ns nt nk = 7 := by rw [whyZ, if_neg (fun u => u (why0_b c_17)), if_pos (by rw [hwz]; exact c_85)]
            exact ret _ _ _ (jdg_end hwy (if_pos (by rw [hwy]; decide))) dX11_judgeOne_153
          · exact absurd c_92 (by decide)
      · refine jm_aload_n C dX11_judgeOne_36 rfl ?_
        refine jm_getA C fF_X11_115 (by decide) (by decide) dX11_judgeOne_37 ?_
        refine jm_aload_n C dX11_judgeOne_40 rfl ?_
        refine jm_getA C fF_X11_61 (by decide) (by decide) dX11_judgeOne_41 ?_
        refine jm_iload_n C dX11_judgeOne_44 rfl ?_
        refine jm_aldN C 26 (n := 200) (by decide) (by decide) rfl (by omega) dX11_judgeOne_45 ?_
        refine jm_ald C 44 (n := 200) (by decide) (by decide) rfl hm dX11_judgeOne_46 ?_
        refine jm_aload_n C dX11_judgeOne_47 rfl ?_
        refine jm_getA C fF_X11_115 (by decide) (by decide) dX11_judgeOne_48 ?_
        refine jm_aload_n C dX11_judgeOne_51 rfl ?_
        refine jm_getA C fF_X11_64 (by decide) (by decide) dX11_judgeOne_52 ?_
        refine jm_iload_n C dX11_judgeOne_55 rfl ?_
        refine jm_aldN C 27 (n := 200) (by decide) (by decide) rfl (by omega) dX11_judgeOne_56 ?_
        refine jm_ald C 44 (n := 200) (by decide) (by decide) rfl (hm2 c_33) dX11_judgeOne_57 ?_
        refine jm_max C kM_X11_150 dX11_judgeOne_58 (Nat.le_of_ble_eq_true rfl) (Nat.le_of_ble_eq_true rfl) ?_
        refine jm_goto (tgt := 75) C dX11_judgeOne_61 (by decide) ?_
        refine jm_istore (lv' := [(0, .ref m0), (1, .int (nI lt)), (2, .int q), (3, .int 0), (4, .int (if ((W45 S z w) 44 ((S 26 lt)).toNatClampNeg) < ((W45 S z w) 44 ((S 27 lt)).toNatClampNeg) then ((W45 S z w) 44 ((S 27 lt)).toNatClampNeg) else ((W45 S z w) 44 ((S 26 lt)).toNatClampNeg)))]) C dX11_judgeOne_75 (by decide) rfl ?_
        refine jm_iload_n C dX11_judgeOne_77 rfl ?_
        refine jm_if_ne (tgt := 91) C dX11_judgeOne_78 (by decide) (fun c_78 => ?_) (fun c_78 => ?_)
        · exact absurd rfl c_78
        refine jm_iload C dX11_judgeOne_81 rfl ?_
        refine jm_bipush (v := 9) C dX11_judgeOne_83 (by decide) ?_
        refine jm_icmp_ne (tgt := 91) C dX11_judgeOne_85 (by decide) (fun c_85 => ?_) (fun c_85 => ?_)
        · refine jm_iload_n C dX11_judgeOne_91 rfl ?_
          refine jm_if_ne (tgt := 112) C dX11_judgeOne_92 (by decide) (fun c_92 => ?_) (fun c_92 => ?_)
          · exact absurd rfl c_92
          refine jm_aload_n C dX11_judgeOne_95 rfl ?_
          refine jm_getA C fF_X11_46 (by decide) (by decide) dX11_judgeOne_96 ?_
          refine jm_iload_n C dX11_judgeOne_99 rfl ?_
          refine jm_aldN C 21 (n := 200) (by decide) (by decide) rfl (by omega) dX11_judgeOne_100 ?_
          refine jm_iconst (v := 1) C dX11_judgeOne_101 (by decide) ?_
          refine jm_icmp_ne (tgt := 112) C dX11_judgeOne_102 (by decide) (fun c_102 => ?_) (fun c_102 => ?_)
          · refine jm_aload_n C dX11_judgeOne_112 rfl ?_
            refine jm_getA C fF_X11_118 (by decide) (by decide) dX11_judgeOne_113 ?_
            refine jm_iload_n C dX11_judgeOne_116 rfl ?_
            refine jm_iload_n C dX11_judgeOne_117 rfl ?_
            refine jm_astN C 45 (n := 200) (by decide) (by decide) rfl (by omega) dX11_judgeOne_118 ?_
            refine jm_aload_n C dX11_judgeOne_119 rfl ?_
            refine jm_getA C fF_X11_115 (by decide) (by decide) dX11_judgeOne_120 ?_
            refine jm_iload_n C dX11_judgeOne_123 rfl ?_
            refine jm_iload_n C dX11_judgeOne_124 rfl ?_
            refine jm_if_le (tgt := 133) C dX11_judgeOne_125 (by decide) (fun c_125 => ?_) (fun c_125 => ?_)
            · refine jm_aload_n C dX11_judgeOne_133 rfl ?_
              refine jm_getA C fF_X11_46 (by decide) (by decide) dX11_judgeOne_134 ?_
              refine jm_iload_n C dX11_judgeOne_137 rfl ?_
              refine jm_aldN C 21 (n := 200) (by decide) (by decide) rfl (by omega) dX11_judgeOne_138 ?_
              refine jm_iconst (v := 2) C dX11_judgeOne_139 (by decide) ?_
              refine jm_icmp_ne (tgt := 148) C dX11_judgeOne_140 (by decide) (fun c_140 => ?_) (fun c_140 => ?_)
              · exact absurd c_33 c_140
              refine jm_iload C dX11_judgeOne_143 rfl ?_
              refine jm_goto (tgt := 152) C dX11_judgeOne_145 (by decide) ?_
              refine jm_astN C 44 (n := 200) (by decide) (by decide) rfl (by omega) dX11_judgeOne_152 ?_
              replace c_33 : S 21 lt = 2 := c_33
              replace c_102 : ¬ S 21 lt = 1 := c_102
              have hwz : worstZ S z lt = (if (z ((S 26 lt)).toNatClampNeg) < (z ((S 27 lt)).toNatClampNeg) then (z ((S 27 lt)).toNatClampNeg) else (z ((S 26 lt)).toNatClampNeg)) := by unfold worstZ; exact if_pos c_33
              have hwy : whyZ S z w lt q nf nl ns nt nk = 0 := by rw [whyZ, if_neg (fun u => u (why0_b c_17)), if_neg (by rw [hwz]; exact c_85), if_neg c_102]
              exact ret _ _ _ (jdg_end hwy (by rw [rankZ, if_neg (fun u => u (by rw [hwy]; decide)), if_pos c_33]; exact hwz)) dX11_judgeOne_153
            · exact absurd (by decide) c_125
          · refine jm_aload_n C dX11_judgeOne_105 rfl ?_
            refine jm_iload_n C dX11_judgeOne_106 rfl ?_
            refine jm_iload_n C dX11_judgeOne_107 rfl ?_
            refine jm_calli (As := [.int (nI lt), .int q]) (rest := []) C fG_X11_216 (c_wrongField (S := W45 S z w) (lt := lt) (q := q) (yy := yy) hf hnf hl hnl hs hns ht hnt hk hnk hlt0 (hg c_102) hm ho hy hyy) rfl rfl (Nat.le_of_ble_eq_true rfl) ⟨Nat.le_of_ble_eq_true rfl, Nat.le_of_ble_eq_true rfl⟩ dX11_judgeOne_108 (fun r_108 S_108 e_108 => ?_)
            obtain ⟨e1_108, e2_108⟩ := e_108
            subst e1_108
            subst e2_108
            refine jm_istore_n (lv' := [(0, .ref m0), (1, .int (nI lt)), (2, .int q), (3, .int (wrongS (W45 S z w) lt q nf nl ns nt nk)), (4, .int (if ((W45 S z w) 44 ((S 26 lt)).toNatClampNeg) < ((W45 S z w) 44 ((S 27 lt)).toNatClampNeg) then ((W45 S z w) 44 ((S 27 lt)).toNatClampNeg) else ((W45 S z w) 44 ((S 26 lt)).toNatClampNeg)))]) C dX11_judgeOne_111 (by decide) rfl ?_
            refine jm_aload_n C dX11_judgeOne_112 rfl ?_
            refine jm_getA C fF_X11_118 (by decide) (by decide) dX11_judgeOne_113 ?_
            refine jm_iload_n C dX11_judgeOne_116 rfl ?_
            refine jm_iload_n C dX11_judgeOne_117 rfl ?_
            refine jm_astN C 45 (n := 200) (by decide) (by decide) rfl (by omega) dX11_judgeOne_118 ?_
            refine jm_aload_n C dX11_judgeOne_119 rfl ?_
            refine jm_getA C fF_X11_115 (by decide) (by decide) dX11_judgeOne_120 ?_
            refine jm_iload_n C dX11_judgeOne_123 rfl ?_
            refine jm_iload_n C dX11_judgeOne_124 rfl ?_
            refine jm_if_le (tgt := 133) C dX11_judgeOne_125 (by decide) (fun c_125 => ?_) (fun c_125 => ?_)
            · refine jm_aload_n C dX11_judgeOne_133 rfl ?_
              refine jm_getA C fF_X11_46 (by decide) (by decide) dX11_judgeOne_134 ?_
              refine jm_iload_n C dX11_judgeOne_137 rfl ?_
              refine jm_aldN C 21 (n := 200) (by decide) (by decide) rfl (by omega) dX11_judgeOne_138 ?_
              refine jm_iconst (v := 2) C dX11_judgeOne_139 (by decide) ?_
              refine jm_icmp_ne (tgt := 148) C dX11_judgeOne_140 (by decide) (fun c_140 => ?_) (fun c_140 => ?_)
              · exact absurd c_33 c_140
              refine jm_iload C dX11_judgeOne_143 rfl ?_
              refine jm_goto (tgt := 152) C dX11_judgeOne_145 (by decide) ?_
              refine jm_astN C 44 (n := 200) (by decide) (by decide) rfl (by omega) dX11_judgeOne_152 ?_
              replace c_33 : S 21 lt = 2 := c_33
              replace c_102 : S 21 lt = 1 := c_102
              have hwz : worstZ S z lt = (if (z ((S 26 lt)).toNatClampNeg) < (z ((S 27 lt)).toNatClampNeg) then (z ((S 27 lt)).toNatClampNeg) else (z ((S 26 lt)).toNatClampNeg)) := by unfold worstZ; exact if_pos c_33
              have hwy : whyZ S z w lt q nf nl ns nt nk = wrongS (W45 S z w) lt q nf nl ns nt nk := by rw [whyZ, if_neg (fun u => u (why0_b c_17)), if_neg (by rw [hwz]; exact c_85), if_pos c_102]
              exact ret _ _ _ (jdg_end hwy (by rw [rankZ, if_neg (fun u => u (by rw [hwy]; exact c_125)), if_pos c_33]; exact hwz)) dX11_judgeOne_153
            · refine jm_bipush (v := 9) C dX11_judgeOne_128 (by decide) ?_
              refine jm_goto (tgt := 152) C dX11_judgeOne_130 (by decide) ?_
              refine jm_astN C 44 (n := 200) (by decide) (by decide) rfl (by omega) dX11_judgeOne_152 ?_
              replace c_33 : S 21 lt = 2 := c_33
              replace c_102 : S 21 lt = 1 := c_102
              have hwz : worstZ S z lt = (if (z ((S 26 lt)).toNatClampNeg) < (z ((S 27 lt)).toNatClampNeg) then (z ((S 27 lt)).toNatClampNeg) else (z ((S 26 lt)).toNatClampNeg)) := by unfold worstZ; exact if_pos c_33
              have hwy : whyZ S z w lt q nf nl ns nt nk = wrongS (W45 S z w) lt q nf nl ns nt nk := by rw [whyZ, if_neg (fun u => u (why0_b c_17)), if_neg (by rw [hwz]; exact c_85), if_pos c_102]
              exact ret _ _ _ (jdg_end hwy (if_pos (by rw [hwy]; exact c_125))) dX11_judgeOne_153
        · refine jm_bipush (v := 7) C dX11_judgeOne_88 (by decide) ?_
          refine jm_istore_n (lv' := [(0, .ref m0), (1, .int (nI lt)), (2, .int q), (3, .int 7), (4, .int (if ((W45 S z w) 44 ((S 26 lt)).toNatClampNeg) < ((W45 S z w) 44 ((S 27 lt)).toNatClampNeg) then ((W45 S z w) 44 ((S 27 lt)).toNatClampNeg) else ((W45 S z w) 44 ((S 26 lt)).toNatClampNeg)))]) C dX11_judgeOne_90 (by decide) rfl ?_
          refine jm_iload_n C dX11_judgeOne_91 rfl ?_
          refine jm_if_ne (tgt := 112) C dX11_judgeOne_92 (by decide) (fun c_92 => ?_) (fun c_92 => ?_)
          · refine jm_aload_n C dX11_judgeOne_112 rfl ?_
            refine jm_getA C fF_X11_118 (by decide) (by decide) dX11_judgeOne_113 ?_
            refine jm_iload_n C dX11_judgeOne_116 rfl ?_
            refine jm_iload_n C dX11_judgeOne_117 rfl ?_
            refine jm_astN C 45 (n := 200) (by decide) (by decide) rfl (by omega) dX11_judgeOne_118 ?_
            refine jm_aload_n C dX11_judgeOne_119 rfl ?_
            refine jm_getA C fF_X11_115 (by decide) (by decide) dX11_judgeOne_120 ?_
            refine jm_iload_n C dX11_judgeOne_123 rfl ?_
            refine jm_iload_n C dX11_judgeOne_124 rfl ?_
            refine jm_if_le (tgt := 133) C dX11_judgeOne_125 (by decide) (fun c_125 => ?_) (fun c_125 => ?_)
            · exact absurd c_125 (by decide)
            refine jm_bipush (v := 9) C dX11_judgeOne_128 (by decide) ?_
            refine jm_goto (tgt := 152) C dX11_judgeOne_130 (by decide) ?_
            refine jm_astN C 44 (n := 200) (by decide) (by decide) rfl (by omega) dX11_judgeOne_152 ?_
            replace c_33 : S 21 lt = 2 := c_33
            have hwz : worstZ S z lt = (if (z ((S 26 lt)).toNatClampNeg) < (z ((S 27 lt)).toNatClampNeg) then (z ((S 27 lt)).toNatClampNeg) else (z ((S 26 lt)).toNatClampNeg)) := by unfold worstZ; exact if_pos c_33
            have hwy : whyZ S z w lt q nf nl ns nt nk = 7 := by rw [whyZ, if_neg (fun u => u (why0_b c_17)), if_pos (by rw [hwz]; exact c_85)]
            exact ret _ _ _ (jdg_end hwy (if_pos (by rw [hwy]; decide))) dX11_judgeOne_153
          · exact absurd c_92 (by decide)
    · refine jm_iconst (v := 5) C dX11_judgeOne_20 (by decide) ?_
      refine jm_goto (tgt := 25) C dX11_judgeOne_21 (by decide) ?_
      refine jm_istore_n (lv' := [(0, .ref m0), (1, .int (nI lt)), (2, .int q), (3, .int 5)]) C dX11_judgeOne_25 (by decide) rfl ?_
      refine jm_aload_n C dX11_judgeOne_26 rfl ?_
      refine jm_getA C fF_X11_46 (by decide) (by decide) dX11_judgeOne_27 ?_
      refine jm_iload_n C dX11_judgeOne_30 rfl ?_
      refine jm_aldN C 21 (n := 200) (by decide) (by decide) rfl (by omega) dX11_judgeOne_31 ?_
      refine jm_iconst (v := 2) C dX11_judgeOne_32 (by decide) ?_
      refine jm_icmp_ne (tgt := 64) C dX11_judgeOne_33 (by decide) (fun c_33 => ?_) (fun c_33 => ?_)
      · refine jm_aload_n C dX11_judgeOne_64 rfl ?_
        refine jm_getA C fF_X11_115 (by decide) (by decide) dX11_judgeOne_65 ?_
        refine jm_aload_n C dX11_judgeOne_68 rfl ?_
        refine jm_getA C fF_X11_61 (by decide) (by decide) dX11_judgeOne_69 ?_
        refine jm_iload_n C dX11_judgeOne_72 rfl ?_
        refine jm_aldN C 26 (n := 200) (by decide) (by decide) rfl (by omega) dX11_judgeOne_73 ?_
        refine jm_ald C 44 (n := 200) (by decide) (by decide) rfl hm dX11_judgeOne_74 ?_
        refine jm_istore (lv' := [(0, .ref m0), (1, .int (nI lt)), (2, .int q), (3, .int 5), (4, .int ((W45 S z w) 44 ((S 26 lt)).toNatClampNeg))]) C dX11_judgeOne_75 (by decide) rfl ?_
        refine jm_iload_n C dX11_judgeOne_77 rfl ?_
        refine jm_if_ne (tgt := 91) C dX11_judgeOne_78 (by decide) (fun c_78 => ?_) (fun c_78 => ?_)
        · refine jm_iload_n C dX11_judgeOne_91 rfl ?_
          refine jm_if_ne (tgt := 112) C dX11_judgeOne_92 (by decide) (fun c_92 => ?_) (fun c_92 => ?_)
          · refine jm_aload_n C dX11_judgeOne_112 rfl ?_
            refine jm_getA C fF_X11_118 (by decide) (by decide) dX11_judgeOne_113 ?_
            refine jm_iload_n C dX11_judgeOne_116 rfl ?_
            refine jm_iload_n C dX11_judgeOne_117 rfl ?_
            refine jm_astN C 45 (n := 200) (by decide) (by decide) rfl (by omega) dX11_judgeOne_118 ?_
            refine jm_aload_n C dX11_judgeOne_119 rfl ?_
            refine jm_getA C fF_X11_115 (by decide) (by decide) dX11_judgeOne_120 ?_
            refine jm_iload_n C dX11_judgeOne_123 rfl ?_
            refine jm_iload_n C dX11_judgeOne_124 rfl ?_
            refine jm_if_le (tgt := 133) C dX11_judgeOne_125 (by decide) (fun c_125 => ?_) (fun c_125 => ?_)
            · exact absurd c_125 (by decide)
            refine jm_bipush (v := 9) C dX11_judgeOne_128 (by decide) ?_
            refine jm_goto (tgt := 152) C dX11_judgeOne_130 (by decide) ?_
            refine jm_astN C 44 (n := 200) (by decide) (by decide) rfl (by omega) dX11_judgeOne_152 ?_
            replace c_33 : ¬ S 21 lt = 2 := c_33
            have hwz : worstZ S z lt = (z ((S 26 lt)).toNatClampNeg) := by unfold worstZ; exact if_neg c_33
            have hwy : whyZ S z w lt q nf nl ns nt nk = 5 := if_pos (why0_5 c_7 c_17)
            exact ret _ _ _ (jdg_end hwy (if_pos (by rw [hwy]; decide))) dX11_judgeOne_153
          · exact absurd c_92 (by decide)
        · exact absurd c_78 (by decide)
      · refine jm_aload_n C dX11_judgeOne_36 rfl ?_
        refine jm_getA C fF_X11_115 (by decide) (by decide) dX11_judgeOne_37 ?_
        refine jm_aload_n C dX11_judgeOne_40 rfl ?_
        refine jm_getA C fF_X11_61 (by decide) (by decide) dX11_judgeOne_41 ?_
        refine jm_iload_n C dX11_judgeOne_44 rfl ?_
        refine jm_aldN C 26 (n := 200) (by decide) (by decide) rfl (by omega) dX11_judgeOne_45 ?_
        refine jm_ald C 44 (n := 200) (by decide) (by decide) rfl hm dX11_judgeOne_46 ?_
        refine jm_aload_n C dX11_judgeOne_47 rfl ?_
        refine jm_getA C fF_X11_115 (by decide) (by decide) dX11_judgeOne_48 ?_
        refine jm_aload_n C dX11_judgeOne_51 rfl ?_
        refine jm_getA C fF_X11_64 (by decide) (by decide) dX11_judgeOne_52 ?_
        refine jm_iload_n C dX11_judgeOne_55 rfl ?_
        refine jm_aldN C 27 (n := 200) (by decide) (by decide) rfl (by omega) dX11_judgeOne_56 ?_
        refine jm_ald C 44 (n := 200) (by decide) (by decide) rfl (hm2 c_33) dX11_judgeOne_57 ?_
        refine jm_max C kM_X11_150 dX11_judgeOne_58 (Nat.le_of_ble_eq_true rfl) (Nat.le_of_ble_eq_true rfl) ?_
        refine jm_goto (tgt := 75) C dX11_judgeOne_61 (by decide) ?_
        refine jm_istore (lv' := [(0, .ref m0), (1, .int (nI lt)), (2, .int q), (3, .int 5), (4, .int (if ((W45 S z w) 44 ((S 26 lt)).toNatClampNeg) < ((W45 S z w) 44 ((S 27 lt)).toNatClampNeg) then ((W45 S z w) 44 ((S 27 lt)).toNatClampNeg) else ((W45 S z w) 44 ((S 26 lt)).toNatClampNeg)))]) C dX11_judgeOne_75 (by decide) rfl ?_
        refine jm_iload_n C dX11_judgeOne_77 rfl ?_
        refine jm_if_ne (tgt := 91) C dX11_judgeOne_78 (by decide) (fun c_78 => ?_) (fun c_78 => ?_)
        · refine jm_iload_n C dX11_judgeOne_91 rfl ?_
          refine jm_if_ne (tgt := 112) C dX11_judgeOne_92 (by decide) (fun c_92 => ?_) (fun c_92 => ?_)
          · refine jm_aload_n C dX11_judgeOne_112 rfl ?_
            refine jm_getA C fF_X11_118 (by decide) (by decide) dX11_judgeOne_113 ?_
            refine jm_iload_n C dX11_judgeOne_116 rfl ?_
            refine jm_iload_n C dX11_judgeOne_117 rfl ?_
            refine jm_astN C 45 (n := 200) (by decide) (by decide) rfl (by omega) dX11_judgeOne_118 ?_
            refine jm_aload_n C dX11_judgeOne_119 rfl ?_
            refine jm_getA C fF_X11_115 (by decide) (by decide) dX11_judgeOne_120 ?_
            refine jm_iload_n C dX11_judgeOne_123 rfl ?_
            refine jm_iload_n C dX11_judgeOne_124 rfl ?_
            refine jm_if_le (tgt := 133) C dX11_judgeOne_125 (by decide) (fun c_125 => ?_) (fun c_125 => ?_)
            · exact absurd c_125 (by decide)
            refine jm_bipush (v := 9) C dX11_judgeOne_128 (by decide) ?_
            refine jm_goto (tgt := 152) C dX11_judgeOne_130 (by decide) ?_
            refine jm_astN C 44 (n := 200) (by decide) (by decide) rfl (by omega) dX11_judgeOne_152 ?_
            replace c_33 : S 21 lt = 2 := c_33
            have hwz : worstZ S z lt = (if (z ((S 26 lt)).toNatClampNeg) < (z ((S 27 lt)).toNatClampNeg) then (z ((S 27 lt)).toNatClampNeg) else (z ((S 26 lt)).toNatClampNeg)) := by unfold worstZ; exact if_pos c_33
            have hwy : whyZ S z w lt q nf nl ns nt nk = 5 := if_pos (why0_5 c_7 c_17)
            exact ret _ _ _ (jdg_end hwy (if_pos (by rw [hwy]; decide))) dX11_judgeOne_153
          · exact absurd c_92 (by decide)
        · exact absurd c_78 (by decide)
