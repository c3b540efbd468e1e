def mS_bag (T : Nat → Nat → Int32) (lt g : Int32) (nb : Nat) : Nat → Nat → Int32 := (u2 (u2 (u2 (u2 (u2 (u2 (u2 (u2 T 23 (lt).toNatClampNeg ((T 23 (lt).toNatClampNeg) - g)) 31 (lt).toNatClampNeg (((u2 T 23 (lt).toNatClampNeg ((T 23 (lt).toNatClampNeg) - g)) 31 (lt).toNatClampNeg) + g)) 4 0 (((u2 (u2 T 23 (lt).toNatClampNeg ((T 23 (lt).toNatClampNeg) - g)) 31 (lt).toNatClampNeg (((u2 T 23 (lt).toNatClampNeg ((T 23 (lt).toNatClampNeg) - g)) 31 (lt).toNatClampNeg) + g)) 4 0) + 1)) 38 nb lt) 39 nb g) 40 nb ((((u2 (u2 T 23 (lt).toNatClampNeg ((T 23 (lt).toNatClampNeg) - g)) 31 (lt).toNatClampNeg (((u2 T 23 (lt).toNatClampNeg ((T 23 (lt).toNatClampNeg) - g)) 31 (lt).toNatClampNeg) + g)) 4 0) + 1))) 41 nb (-1)) 3 0 ((nI nb) + 1))
def m_bag (S : Nat → Nat → Int32) (lt g : Int32) (nb nf nl ns nt nk : Nat) : Int32 × (Nat → Nat → Int32) := if (0 ≤ lt ∧ lt ≤ S 2 0 - 1) ∧ (¬ g < 1) ∧ (¬ S 23 lt.toNatClampNeg < g) ∧ (¬ nI nb = 200) then (if (clsZ S (S 0 0) nf nl ns nt nk).1 lt.toNatClampNeg = 9 then (-1, (W45 S (clsZ S ((S 0 0)) nf nl ns nt nk).1 (clsZ S ((S 0 0)) nf nl ns nt nk).2)) else (((((nI nb) + 1)) - 1), mS_bag (W45 S (clsZ S ((S 0 0)) nf nl ns nt nk).1 (clsZ S ((S 0 0)) nf nl ns nt nk).2) lt g nb)) else (-1, S)
set_option maxHeartbeats 4000000 in
set_option maxRecDepth 100000 in
theorem c_bag {l : Launch} {D : va_G} {cy : Nat → ClassId} {m0 : Nat} {ad : Nat → Nat} {S : Nat → Nat → Int32} (lt g : Int32) {nb nf nl ns nt nk : Nat} (hc : CI S nf nl ns nt nk) (hb : S 3 0 = nI nb) (hnb : nb ≤ 200) : mI l D cy yX11_bag (.code yX11_bag cX11_bag 3 ((Option.some FieldType.int))) 6 m0 ad [.int lt, .int g] S (fun r S' => (r, S') = m_bag S lt g nb nf nl ns nt nk) := by
  refine m_ofI rfl (Nat.le_of_ble_eq_true rfl) (fun p e s m args below meth c A Q h0 C ret => ?_)
  refine jm_aload_n C dX11_bag_0 rfl ?_
  refine jm_iload_n C dX11_bag_1 rfl ?_
  refine jm_calli (As := [.int lt]) (rest := []) C fG_X11_186 (c_isLot (lt)) rfl rfl (Nat.le_of_ble_eq_true rfl) ⟨Nat.le_of_ble_eq_true rfl, Nat.le_of_ble_eq_true rfl⟩ dX11_bag_2 (fun r_2 S_2 e_2 => ?_)
  obtain ⟨e1_2, e2_2⟩ := e_2
  subst e1_2
  replace e2_2 := e2_2.symm
  subst e2_2
  refine jm_ifeq_b (tgt := 47) C dX11_bag_5 (by decide) (fun c_5 => ?_) (fun c_5 => ?_)
  · refine jm_iconst (v := (-1)) C dX11_bag_47 (by decide) ?_
    exact ret _ _ _ _ (by rw [m_bag, if_neg (fun z => by first | exact c_5 z.1 | exact z.1 c_5)]) dX11_bag_48
  · refine jm_iload_n C dX11_bag_8 rfl ?_
    refine jm_iconst (v := 1) C dX11_bag_9 (by decide) ?_
    refine jm_icmp_lt (tgt := 47) C dX11_bag_10 (by decide) (fun c_10 => ?_) (fun c_10 => ?_)
    · refine jm_iconst (v := (-1)) C dX11_bag_47 (by decide) ?_
      exact ret _ _ _ _ (by rw [m_bag, if_neg (fun z => by first | exact c_10 z.2.1 | exact z.2.1 c_10)]) dX11_bag_48
    · refine jm_iload_n C dX11_bag_13 rfl ?_
      refine jm_aload_n C dX11_bag_14 rfl ?_
      refine jm_getA C fF_X11_52 (by decide) (by decide) dX11_bag_15 ?_
      refine jm_iload_n C dX11_bag_18 rfl ?_
      refine jm_ald C 23 (n := 200) (by decide) (by decide) rfl (in_vp hc.2.1.1 hc.2.1.2 c_5) dX11_bag_19 ?_
      refine jm_icmp_gt (tgt := 47) C dX11_bag_20 (by decide) (fun c_20 => ?_) (fun c_20 => ?_)
      · refine jm_iconst (v := (-1)) C dX11_bag_47 (by decide) ?_
        exact ret _ _ _ _ (by rw [m_bag, if_neg (fun z => by first | exact c_20 z.2.2.1 | exact z.2.2.1 c_20)]) dX11_bag_48
      · refine jm_aload_n C dX11_bag_23 rfl ?_
        refine jm_getSe (v := nI nb) C fF_X11_190 (by decide) hb dX11_bag_24 ?_
        refine jm_sipush (v := 200) C dX11_bag_27 (by decide) ?_
        refine jm_icmp_eq (tgt := 47) C dX11_bag_30 (by decide) (fun c_30 => ?_) (fun c_30 => ?_)
        · refine jm_iconst (v := (-1)) C dX11_bag_47 (by decide) ?_
          exact ret _ _ _ _ (by rw [m_bag, if_neg (fun z => by first | exact c_30 z.2.2.2 | exact z.2.2.2 c_30)]) dX11_bag_48
        · refine jm_aload_n C dX11_bag_33 rfl ?_
          refine jm_iload_n C dX11_bag_34 rfl ?_
          refine jm_aload_n C dX11_bag_35 rfl ?_
          refine jm_getS C fF_X11_141 (by decide) dX11_bag_36 ?_
          refine jm_calli (As := [.int lt, .int (S 0 0)]) (rest := []) C fG_X11_193 (c_classOf (lt) ((S 0 0)) hc (in_vp hc.2.1.1 hc.2.1.2 c_5)) rfl rfl (Nat.le_of_ble_eq_true rfl) ⟨Nat.le_of_ble_eq_true rfl, Nat.le_of_ble_eq_true rfl⟩ dX11_bag_39 (fun r_39 S_39 e_39 => ?_)
          obtain ⟨e1_39, e2_39⟩ := e_39
          subst e1_39
          subst e2_39
          refine jm_bipush (v := 9) C dX11_bag_42 (by decide) ?_
          refine jm_icmp_ne (tgt := 49) C dX11_bag_44 (by decide) (fun c_44 => ?_) (fun c_44 => ?_)
          · have hlt : nb < 200 := ne_lt rfl c_30 (by omega)
            refine jm_aload_n C dX11_bag_49 rfl ?_
            refine jm_getA C fF_X11_52 (by decide) (by decide) dX11_bag_50 ?_
            refine jm_iload_n C dX11_bag_53 rfl ?_
            refine jm_dup2 C dX11_bag_54 rfl rfl ?_
            refine jm_ald C 23 (n := 200) (by decide) (by decide) rfl (in_vp hc.2.1.1 hc.2.1.2 c_5) dX11_bag_55 ?_
            refine jm_iload_n C dX11_bag_56 rfl ?_
            refine jm_isub C dX11_bag_57 ?_
            refine jm_ast C 23 (n := 200) (by decide) (by decide) rfl (in_vp hc.2.1.1 hc.2.1.2 c_5) dX11_bag_58 ?_
            refine jm_aload_n C dX11_bag_59 rfl ?_
            refine jm_getA C fF_X11_76 (by decide) (by decide) dX11_bag_60 ?_
            refine jm_iload_n C dX11_bag_63 rfl ?_
            refine jm_dup2 C dX11_bag_64 rfl rfl ?_
            refine jm_ald C 31 (n := 200) (by decide) (by decide) rfl (in_vp hc.2.1.1 hc.2.1.2 c_5) dX11_bag_65 ?_
            refine jm_iload_n C dX11_bag_66 rfl ?_
            refine jm_iadd C dX11_bag_67 ?_
            refine jm_ast C 31 (n := 200) (by decide) (by decide) rfl (in_vp hc.2.1.1 hc.2.1.2 c_5) dX11_bag_68 ?_
            refine jm_aload_n C dX11_bag_69 rfl ?_
            refine jm_dup C dX11_bag_70 rfl ?_
            refine jm_getS C fF_X11_196 (by decide) dX11_bag_71 ?_
            refine jm_iconst (v := 1) C dX11_bag_74 (by decide) ?_
            refine jm_iadd C dX11_bag_75 ?_
            refine jm_putS C fP_X11_196 (by decide) dX11_bag_76 ?_
            refine jm_aload_n C dX11_bag_79 rfl ?_
            refine jm_getA C fF_X11_97 (by decide) (by decide) dX11_bag_80 ?_
            refine jm_aload_n C dX11_bag_83 rfl ?_
            refine jm_getSe (v := nI nb) C fF_X11_190 (by decide) hb dX11_bag_84 ?_
            refine jm_iload_n C dX11_bag_87 rfl ?_
            refine jm_astN C 38 (n := 200) (by decide) (by decide) rfl (by omega) dX11_bag_88 ?_
            refine jm_aload_n C dX11_bag_89 rfl ?_
            refine jm_getA C fF_X11_100 (by decide) (by decide) dX11_bag_90 ?_
            refine jm_aload_n C dX11_bag_93 rfl ?_
            refine jm_getSe (v := nI nb) C fF_X11_190 (by decide) hb dX11_bag_94 ?_
            refine jm_iload_n C dX11_bag_97 rfl ?_
            refine jm_astN C 39 (n := 200) (by decide) (by decide) rfl (by omega) dX11_bag_98 ?_
            refine jm_aload_n C dX11_bag_99 rfl ?_
            refine jm_getA C fF_X11_103 (by decide) (by decide) dX11_bag_100 ?_
            refine jm_aload_n C dX11_bag_103 rfl ?_
            refine jm_getSe (v := nI nb) C fF_X11_190 (by decide) hb dX11_bag_104 ?_
            refine jm_aload_n C dX11_bag_107 rfl ?_
            refine jm_getSe (v := (((u2 (u2 (W45 S (clsZ S ((S 0 0)) nf nl ns nt nk).1 (clsZ S ((S 0 0)) nf nl ns nt nk).2) 23 (lt).toNatClampNeg (((W45 S (clsZ S ((S 0 0)) nf nl ns nt nk).1 (clsZ S ((S 0 0)) nf nl ns nt nk).2) 23 (lt).toNatClampNeg) - g)) 31 (lt).toNatClampNeg (((u2 (W45 S (clsZ S ((S 0 0)) nf nl ns nt nk).1 (clsZ S ((S 0 0)) nf nl ns nt nk).2) 23 (lt).toNatClampNeg (((W45 S (clsZ S ((S 0 0)) nf nl ns nt nk).1 (clsZ S ((S 0 0)) nf nl ns nt nk).2) 23 (lt).toNatClampNeg) - g)) 31 (lt).toNatClampNeg) + g)) 4 0) + 1)) C fF_X11_196 (by decide) rfl dX11_bag_108 ?_
            refine jm_astN C 40 (n := 200) (by decide) (by decide) rfl (by omega) dX11_bag_111 ?_
            refine jm_aload_n C dX11_bag_112 rfl ?_
            refine jm_getA C fF_X11_106 (by decide) (by decide) dX11_bag_113 ?_
            refine jm_aload_n C dX11_bag_116 rfl ?_
            refine jm_getSe (v := nI nb) C fF_X11_190 (by decide) hb dX11_bag_117 ?_
            refine jm_iconst (v := (-1)) C dX11_bag_120 (by decide) ?_
            refine jm_astN C 41 (n := 200) (by decide) (by decide) rfl (by omega) dX11_bag_121 ?_
            refine jm_aload_n C dX11_bag_122 rfl ?_
            refine jm_dup C dX11_bag_123 rfl ?_
            refine jm_getSe (v := nI nb) C fF_X11_190 (by decide) hb dX11_bag_124 ?_
            refine jm_iconst (v := 1) C dX11_bag_127 (by decide) ?_
            refine jm_iadd C dX11_bag_128 ?_
            refine jm_putS C fP_X11_190 (by decide) dX11_bag_129 ?_
            refine jm_aload_n C dX11_bag_132 rfl ?_
            refine jm_getSe (v := ((nI nb) + 1)) C fF_X11_190 (by decide) rfl dX11_bag_133 ?_
            refine jm_iconst (v := 1) C dX11_bag_136 (by decide) ?_
            refine jm_isub C dX11_bag_137 ?_
            exact ret _ _ _ _ (by rw [m_bag, if_pos ⟨c_5, c_10, c_20, c_30⟩, if_neg c_44]; rfl) dX11_bag_138
          · refine jm_iconst (v := (-1)) C dX11_bag_47 (by decide) ?_
            exact ret _ _ _ _ (by rw [m_bag, if_pos ⟨c_5, c_10, c_20, c_30⟩, if_pos c_44]) dX11_bag_48
theorem blx_vp {S : Nat → Nat → Int32} {nl nb : Nat} {bg : Int32} (hb : S 3 0 = nI nb) (hnb : nb ≤ 200) (hbl : ∀ q, q < nb → ∃ j, j < nl ∧ S 38 q = nI j) (hnl : nl ≤ 200) (c : 0 ≤ bg ∧ bg ≤ S 3 0 - 1) : vp_in (S 38 bg.toNatClampNeg) 200 := by
  obtain ⟨j, hj, rfl⟩ := in_ix (x := bg) (n := nb) (by omega) (by rw [← hb]; exact c)
  rw [nI_clamp (by omega)]
  exact bl_vp hbl hnl hj
def mS_seal (T : Nat → Nat → Int32) (bg : Int32) (nb : Nat) : Nat → Nat → Int32 := (u2 (u2 T 4 0 ((T 4 0) + 1)) 40 (bg).toNatClampNeg (((T 4 0) + 1)))
def m_seal (S : Nat → Nat → Int32) (bg : Int32) (nb nf nl ns nt nk : Nat) : Int32 × (Nat → Nat → Int32) := if (0 ≤ bg ∧ bg ≤ S 3 0 - 1) ∧ (S 40 bg.toNatClampNeg = 0) ∧ (S 41 bg.toNatClampNeg = -1) then (if (clsZ S (S 0 0) nf nl ns nt nk).1 (S 38 bg.toNatClampNeg).toNatClampNeg = 9 then (-1, (W45 S (clsZ S ((S 0 0)) nf nl ns nt nk).1 (clsZ S ((S 0 0)) nf nl ns nt nk).2)) else (((((W45 S (clsZ S ((S 0 0)) nf nl ns nt nk).1 (clsZ S ((S 0 0)) nf nl ns nt nk).2) 4 0) + 1)), mS_seal (W45 S (clsZ S ((S 0 0)) nf nl ns nt nk).1 (clsZ S ((S 0 0)) nf nl ns nt nk).2) bg nb)) else (-1, S)
set_option maxHeartbeats 4000000 in
set_option maxRecDepth 100000 in
theorem c_seal {l : Launch} {D : va_G} {cy : Nat → ClassId} {m0 : Nat} {ad : Nat → Nat} {S : Nat → Nat → Int32} (bg : Int32) {nb nf nl ns nt nk : Nat} (hc : CI S nf nl ns nt nk) (hb : S 3 0 = nI nb) (hnb : nb ≤ 200) (hbl : ∀ q, q < nb → ∃ j, j < nl ∧ S 38 q = nI j) : mI l D cy yX11_seal (.code yX11_seal cX11_seal 2 ((Option.some FieldType.int))) 6 m0 ad [.int bg] S (fun r S' => (r, S') = m_seal S bg nb nf nl ns nt nk) := by
  refine m_ofI rfl (Nat.le_of_ble_eq_true rfl) (fun p e s m args below meth c A Q h0 C ret => ?_)
  refine jm_aload_n C dX11_seal_0 rfl ?_
  refine jm_iload_n C dX11_seal_1 rfl ?_
  refine jm_calli (As := [.int bg]) (rest := []) C fG_X11_199 (c_isBag (bg)) rfl rfl (Nat.le_of_ble_eq_true rfl) ⟨Nat.le_of_ble_eq_true rfl, Nat.le_of_ble_eq_true rfl⟩ dX11_seal_2 (fun r_2 S_2 e_2 => ?_)
  obtain ⟨e1_2, e2_2⟩ := e_2
  subst e1_2
  replace e2_2 := e2_2.symm
  subst e2_2
  refine jm_ifeq_b (tgt := 46) C dX11_seal_5 (by decide) (fun c_5 => ?_) (fun c_5 => ?_)
  · refine jm_iconst (v := (-1)) C dX11_seal_46 (by decide) ?_
    exact ret _ _ _ _ (by rw [m_seal, if_neg (fun z => by first | exact c_5 z.1 | exact z.1 c_5)]) dX11_seal_47
  · refine jm_aload_n C dX11_seal_8 rfl ?_
    refine jm_getA C fF_X11_103 (by decide) (by decide) dX11_seal_9 ?_
    refine jm_iload_n C dX11_seal_12 rfl ?_
    refine jm_ald C 40 (n := 200) (by decide) (by decide) rfl (in_vp hb hnb c_5) dX11_seal_13 ?_
    refine jm_if_ne (tgt := 46) C dX11_seal_14 (by decide) (fun c_14 => ?_) (fun c_14 => ?_)
    · refine jm_iconst (v := (-1)) C dX11_seal_46 (by decide) ?_
      exact ret _ _ _ _ (by rw [m_seal, if_neg (fun z => by first | exact c_14 z.2.1 | exact z.2.1 c_14)]) dX11_seal_47
    · refine jm_aload_n C dX11_seal_17 rfl ?_
      refine jm_getA C fF_X11_106 (by decide) (by decide) dX11_seal_18 ?_
      refine jm_iload_n C dX11_seal_21 rfl ?_
      refine jm_ald C 41 (n := 200) (by decide) (by decide) rfl (in_vp hb hnb c_5) dX11_seal_22 ?_
      refine jm_iconst (v := (-1)) C dX11_seal_23 (by decide) ?_
      refine jm_icmp_ne (tgt := 46) C dX11_seal_24 (by decide) (fun c_24 => ?_) (fun c_24 => ?_)
      · refine jm_iconst (v := (-1)) C dX11_seal_46 (by decide) ?_
        exact ret _ _ _ _ (by rw [m_seal, if_neg (fun z => by first | exact c_24 z.2.2 | exact z.2.2 c_24)]) dX11_seal_47
      · refine jm_aload_n C dX11_seal_27 rfl ?_
        refine jm_aload_n C dX11_seal_28 rfl ?_
        refine jm_getA C fF_X11_97 (by decide) (by decide) dX11_seal_29 ?_
        refine jm_iload_n C dX11_seal_32 rfl ?_
        refine jm_ald C 38 (n := 200) (by decide) (by decide) rfl (in_vp hb hnb c_5) dX11_seal_33 ?_
        refine jm_aload_n C dX11_seal_34 rfl ?_
        refine jm_getS C fF_X11_141 (by decide) dX11_seal_35 ?_
        refine jm_calli (As := [.int (S 38 (bg).toNatClampNeg), .int (S 0 0)]) (rest := []) C fG_X11_193 (c_classOf ((S 38 (bg).toNatClampNeg)) ((S 0 0)) hc (blx_vp hb hnb hbl hc.2.1.2 c_5)) rfl rfl (Nat.le_of_ble_eq_true rfl) ⟨Nat.le_of_ble_eq_true rfl, Nat.le_of_ble_eq_true rfl⟩ dX11_seal_38 (fun r_38 S_38 e_38 => ?_)
        obtain ⟨e1_38, e2_38⟩ := e_38
        subst e1_38
        subst e2_38
        refine jm_bipush (v := 9) C dX11_seal_41 (by decide) ?_
        refine jm_icmp_ne (tgt := 48) C dX11_seal_43 (by decide) (fun c_43 => ?_) (fun c_43 => ?_)
        · refine jm_aload_n C dX11_seal_48 rfl ?_
          refine jm_dup C dX11_seal_49 rfl ?_
          refine jm_getS C fF_X11_196 (by decide) dX11_seal_50 ?_
          refine jm_iconst (v := 1) C dX11_seal_53 (by decide) ?_
          refine jm_iadd C dX11_seal_54 ?_
          refine jm_putS C fP_X11_196 (by decide) dX11_seal_55 ?_
          refine jm_aload_n C dX11_seal_58 rfl ?_
          refine jm_getA C fF_X11_103 (by decide) (by decide) dX11_seal_59 ?_
          refine jm_iload_n C dX11_seal_62 rfl ?_
          refine jm_aload_n C dX11_seal_63 rfl ?_
          refine jm_getSe (v := (((W45 S (clsZ S ((S 0 0)) nf nl ns nt nk).1 (clsZ S ((S 0 0)) nf nl ns nt nk).2) 4 0) + 1)) C fF_X11_196 (by decide) rfl dX11_seal_64 ?_
          refine jm_ast C 40 (n := 200) (by decide) (by decide) rfl (in_vp hb hnb c_5) dX11_seal_67 ?_
          refine jm_aload_n C dX11_seal_68 rfl ?_
          refine jm_getSe (v := (((W45 S (clsZ S ((S 0 0)) nf nl ns nt nk).1 (clsZ S ((S 0 0)) nf nl ns nt nk).2) 4 0) + 1)) C fF_X11_196 (by decide) rfl dX11_seal_69 ?_
          exact ret _ _ _ _ (by rw [m_seal, if_pos ⟨c_5, c_14, c_24⟩, if_neg c_43]; rfl) dX11_seal_72
        · refine jm_iconst (v := (-1)) C dX11_seal_46 (by decide) ?_
          exact ret _ _ _ _ (by rw [m_seal, if_pos ⟨c_5, c_14, c_24⟩, if_pos c_43]) dX11_seal_47
def freB (S : Nat → Nat → Int32) (cr f : Int32) (yy nl ns : Nat) (k : Nat) : Bool := decide (standS S f (nI yy + 1 - nI k) (nI yy) nl ns = cr)
abbrev freP (S : Nat → Nat → Int32) (cr f : Int32) (yy nl ns nt : Nat) : Prop := prv (freB S cr f yy nl ns) (inForceS S 1 (nI yy + 1) (nI yy) nt) 1 (yy + 1) = false
set_option maxHeartbeats 4000000 in
set_option maxRecDepth 100000 in
theorem L_free {p : Program} {l : Launch} {e : Env} {s : State} {m : MethodId} {args : Array Value} {below : List Frame} {meth : Method} {c : Code} {D : va_G} {cy : Nat → ClassId} {A : Nat → Prop} {Q : State → Prop} {m0 : Nat} {ad : Nat → Nat} {h0 : jH} {S : Nat → Nat → Int32} (C : jC p s m args meth c D cy A 5 RX11 cX11_isFree) {cr f : Int32} {yy nl ns nt : Nat} (hy : S 0 0 = nI yy) (hyy : yy ≤ 40) (hl : S 2 0 = nI nl) (hnl : nl ≤ 200) (hs : S 5 0 = nI ns) (hns : ns ≤ 300) (ht : S 6 0 = nI nt) (hnt : nt ≤ 100) (ret : ∀ (r : Int32) (S' : Nat → Nat → Int32) (lv : List (Nat × Value)) (pc : Nat), (r = bI (freP S cr f yy nl ns nt) ∧ S' = S) → (r = 0 ∨ r = 1) → decode cX11_isFree pc = .ok (.ireturn, 1) → jM p l e (rmd 3 0 0) s m args below meth c D cy A 5 Q m0 ad h0 S' lv pc [.int r]) : ∀ (n k i : Nat), k < n → i + k = yy + 2 → 1 ≤ i → prv (freB S cr f yy nl ns) (inForceS S (1) ((nI yy + 1)) ((nI yy)) nt) 1 (yy + 1) = prv (freB S cr f yy nl ns) (inForceS S (1) ((nI yy + 1)) ((nI yy)) nt) i k → jM p l e (rmd 3 0 0) s m args below meth c D cy A 5 Q m0 ad h0 S [(0, .ref m0), (1, .int cr), (2, .int f), (3, .int (inForceS S (1) ((nI yy + 1)) ((nI yy)) nt)), (4, .int (nI i))] 19 [] := by
  intro n
  induction n with
  | zero => intro k i h1; exact absurd h1 (Nat.not_lt_zero _)
  | succ n ih =>
    intro k i h1 h2 h3 he
    refine jm_iload C dX11_isFree_19 rfl ?_
    refine jm_iload_n C dX11_isFree_21 rfl ?_
    refine jm_icmp_gt (tgt := 66) C dX11_isFree_22 (by decide) (fun c_22 => ?_) (fun c_22 => ?_)
    · refine jm_iconst (v := 1) C dX11_isFree_66 (by decide) ?_
      exact ret _ _ _ _ ⟨(bI_t (he.trans (prv_x c_22))).symm, rfl⟩ (by decide) dX11_isFree_67
    · refine jm_iload C dX11_isFree_25 rfl ?_
      refine jm_aload_n C dX11_isFree_27 rfl ?_
      refine jm_getSe (v := nI yy) C fF_X11_141 (by decide) hy dX11_isFree_28 ?_
      refine jm_iconst (v := 1) C dX11_isFree_31 (by decide) ?_
      refine jm_iadd C dX11_isFree_32 ?_
      refine jm_icmp_gt (tgt := 66) C dX11_isFree_33 (by decide) (fun c_33 => ?_) (fun c_33 => ?_)
      · refine jm_iconst (v := 1) C dX11_isFree_66 (by decide) ?_
        have hk0 : k = 0 := by
          rw [nI_1] at c_33
          have := (nI_ltI (a := yy + 1) (b := i) (by omega) (by omega)).mp c_33
          omega
        subst hk0
        exact ret _ _ _ _ ⟨(bI_t he).symm, rfl⟩ (by decide) dX11_isFree_67
      · obtain ⟨k, rfl⟩ : ∃ u, k = u + 1 := ⟨k - 1, by
          have hle : i ≤ yy + 1 := by
            rw [nI_1] at c_33
            exact Nat.not_lt.mp (fun z => c_33 (nI_lt z (by omega)))
          omega⟩
        refine jm_aload_n C dX11_isFree_36 rfl ?_
        refine jm_iload_n C dX11_isFree_37 rfl ?_
        refine jm_aload_n C dX11_isFree_38 rfl ?_
        refine jm_getSe (v := nI yy) C fF_X11_141 (by decide) hy dX11_isFree_39 ?_
        refine jm_iconst (v := 1) C dX11_isFree_42 (by decide) ?_
        refine jm_iadd C dX11_isFree_43 ?_
        refine jm_iload C dX11_isFree_44 rfl ?_
        refine jm_isub C dX11_isFree_46 ?_
        refine jm_aload_n C dX11_isFree_47 rfl ?_
        refine jm_getSe (v := nI yy) C fF_X11_141 (by decide) hy dX11_isFree_48 ?_
        refine jm_calli (As := [.int f, .int (((nI yy) + 1) - (nI i)), .int (nI yy)]) (rest := []) C fG_X11_169 (c_standing (f) ((((nI yy) + 1) - (nI i))) ((nI yy)) hl hnl hs hns) rfl rfl (Nat.le_of_ble_eq_true rfl) ⟨Nat.le_of_ble_eq_true rfl, Nat.le_of_ble_eq_true rfl⟩ dX11_isFree_51 (fun r_51 S_51 e_51 => ?_)
        obtain ⟨e1_51, e2_51⟩ := e_51
        subst e1_51
        replace e2_51 := e2_51.symm
        subst e2_51
        refine jm_iload_n C dX11_isFree_54 rfl ?_
        refine jm_icmp_ne (tgt := 60) C dX11_isFree_55 (by decide) (fun c_55 => ?_) (fun c_55 => ?_)
        · refine jm_iinc (lv' := [(0, .ref m0), (1, .int cr), (2, .int f), (3, .int (inForceS S (1) ((nI yy + 1)) ((nI yy)) nt)), (4, .int (nI (i + 1)))]) C dX11_isFree_60 rfl (nI_1 _) (by decide) rfl ?_
          refine jm_goto (tgt := 19) C dX11_isFree_63 (by decide) ?_
          exact ih k (i + 1) (by omega) (by omega) (by omega) (he.trans (by rw [prv_s, if_neg c_22, if_neg (by simp [freB, c_55])]))
        · refine jm_iconst (v := 0) C dX11_isFree_58 (by decide) ?_
          exact ret _ _ _ _ ⟨(bI_f (fun u => by rw [freP, he, prv_s, if_neg c_22, if_pos (by simp [freB, c_55])] at u; cases u)).symm, rfl⟩ (by decide) dX11_isFree_59
set_option maxHeartbeats 4000000 in
set_option maxRecDepth 100000 in
theorem c_isFree {l : Launch} {D : va_G} {cy : Nat → ClassId} {m0 : Nat} {ad : Nat → Nat} {S : Nat → Nat → Int32} (cr f : Int32) {yy nl ns nt : Nat} (hy : S 0 0 = nI yy) (hyy : yy ≤ 40) (hl : S 2 0 = nI nl) (hnl : nl ≤ 200) (hs : S 5 0 = nI ns) (hns : ns ≤ 300) (ht : S 6 0 = nI nt) (hnt : nt ≤ 100) : mI l D cy yX11_isFree (.code yX11_isFree cX11_isFree 5 ((Option.some FieldType.boolean))) 3 m0 ad [.int cr, .int f] S (fun r S' => r = bI (freP S cr f yy nl ns nt) ∧ S' = S) := by
  refine m_ofZ rfl (Nat.le_of_ble_eq_true rfl) (fun p e s m args below meth c A Q h0 C ret => ?_)
  refine jm_aload_n C dX11_isFree_0 rfl ?_
  refine jm_iconst (v := 1) C dX11_isFree_1 (by decide) ?_
  refine jm_aload_n C dX11_isFree_2 rfl ?_
  refine jm_getSe (v := nI yy) C fF_X11_141 (by decide) hy dX11_isFree_3 ?_
  refine jm_iconst (v := 1) C dX11_isFree_6 (by decide) ?_
  refine jm_iadd C dX11_isFree_7 ?_
  refine jm_aload_n C dX11_isFree_8 rfl ?_
  refine jm_getSe (v := nI yy) C fF_X11_141 (by decide) hy dX11_isFree_9 ?_
  refine jm_calli (As := [.int 1, .int ((nI yy) + 1), .int (nI yy)]) (rest := []) C fG_X11_180 (c_inForce (1) (((nI yy) + 1)) ((nI yy)) ht hnt) rfl rfl (Nat.le_of_ble_eq_true rfl) ⟨Nat.le_of_ble_eq_true rfl, Nat.le_of_ble_eq_true rfl⟩ dX11_isFree_12 (fun r_12 S_12 e_12 => ?_)
  obtain ⟨e1_12, e2_12⟩ := e_12
  subst e1_12
  replace e2_12 := e2_12.symm
  subst e2_12
  refine jm_istore_n (lv' := [(0, .ref m0), (1, .int cr), (2, .int f), (3, .int (inForceS S (1) (((nI yy) + 1)) ((nI yy)) nt))]) C dX11_isFree_15 (by decide) rfl ?_
  refine jm_iconst (v := 1) C dX11_isFree_16 (by decide) ?_
  refine jm_istore (lv' := [(0, .ref m0), (1, .int cr), (2, .int f), (3, .int (inForceS S (1) (((nI yy) + 1)) ((nI yy)) nt)), (4, .int 1)]) C dX11_isFree_17 (by decide) rfl ?_
  exact L_free C hy hyy hl hnl hs hns ht hnt ret (yy + 2) (yy + 1) 1 (by omega) (by omega) (by omega) rfl
def pairB (S : Nat → Nat → Int32) (far many : Int32) (i k : Nat) : Bool := decide (¬ many ≤ S 47 k ∧ (S 47 k = S 47 i ∨ (S 22 (S 42 k).toNatClampNeg = S 22 (S 42 i).toNatClampNeg ∧ ¬ far * far ≤ nearS S (S 47 k).toNatClampNeg (S 47 i).toNatClampNeg)))
def rowB (S : Nat → Nat → Int32) (far many : Int32) (yy nl ns nt : Nat) (i : Nat) : Bool := decide (¬ S 47 i = many ∧ (¬ freP S (S 22 (S 42 i).toNatClampNeg) (S 47 i) yy nl ns nt ∨ ¬ ffst (pairB S far many i) 0 i = -1))
abbrev goodP (S : Nat → Nat → Int32) (many : Int32) (yy nl ns nt nw : Nat) : Prop := ffst (rowB S (inForceS S 0 (nI yy + 1) (nI yy) nt) many yy nl ns nt) 0 nw = -1
theorem go_vp {S : Nat → Nat → Int32} {mm nw k : Nat} (hgo : ∀ k, k < nw → ∃ g, g ≤ mm ∧ S 47 k = nI g) (hk : k < nw) (hmm : mm ≤ 6) : vp_in (S 47 k) 40 := by
  obtain ⟨g, h1, h2⟩ := hgo k hk
  rw [h2]; exact vp_in_nI (by omega) (by decide)
theorem wa_vp {S : Nat → Nat → Int32} {nl nw k : Nat} (hwn : ∀ k, k < nw → ∃ j, j < nl ∧ S 42 k = nI j) (hk : k < nw) (hnl : nl ≤ 200) : vp_in (S 42 k) 200 := by
  obtain ⟨g, h1, h2⟩ := hwn k hk
  rw [h2]; exact vp_in_nI (by omega) (by decide)
set_option maxHeartbeats 4000000 in
set_option maxRecDepth 100000 in
theorem L_good1 {p : Program} {l : Launch} {e : Env} {s : State} {m : MethodId} {args : Array Value} {below : List Frame} {meth : Method} {c : Code} {D : va_G} {cy : Nat → ClassId} {A : Nat → Prop} {Q : State → Prop} {m0 : Nat} {ad : Nat → Nat} {h0 : jH} {S : Nat → Nat → Int32} (C : jC p s m args meth c D cy A 6 RX11 cX11_isGood) {many : Int32} {yy nl ns nt nw mm : Nat} {i0 : Nat}  (hy : S 0 0 = nI yy) (hyy : yy ≤ 40) (hl : S 2 0 = nI nl) (hnl : nl ≤ 200) (hs : S 5 0 = nI ns) (hns : ns ≤ 300) (ht : S 6 0 = nI nt) (hnt : nt ≤ 100) (hw : S 8 0 = nI nw) (hnw : nw ≤ 5) (hwn : ∀ k, k < nw → ∃ j, j < nl ∧ S 42 k = nI j) (hgo : ∀ k, k < nw → ∃ g, g ≤ mm ∧ S 47 k = nI g) (hmm : mm ≤ 6) (hiw : i0 < nw) (bad : ∀ (lv : List (Nat × Value)) (pc : Nat), ¬ ffst (pairB S (inForceS S 0 (nI yy + 1) (nI yy) nt) many i0) 0 i0 = -1 → decode cX11_isGood pc = .ok (.ireturn, 1) → jM p l e (rmd 4 0 0) s m args below meth c D cy A 6 Q m0 ad h0 S lv pc [.int 0]) (nx : ffst (pairB S (inForceS S 0 (nI yy + 1) (nI yy) nt) many i0) 0 i0 = -1 → jM p l e (rmd 4 0 0) s m args below meth c D cy A 6 Q m0 ad h0 S [(0, .ref m0), (1, .int many), (2, .int (inForceS S (0) ((nI yy + 1)) ((nI yy)) nt)), (3, .int (nI i0))] 170 [])  : ∀ (n k i : Nat), k < n → i + k = i0 → (ffst (pairB S (inForceS S 0 (nI yy + 1) (nI yy) nt) many i0) 0 i0 = ffst (pairB S (inForceS S 0 (nI yy + 1) (nI yy) nt) many i0) i k) → jM p l e (rmd 4 0 0) s m args below meth c D cy A 6 Q m0 ad h0 S [(0, .ref m0), (1, .int many), (2, .int (inForceS S (0) ((nI yy + 1)) ((nI yy)) nt)), (3, .int (nI i0)), (4, .int (nI i))] 68 [] := by
  intro n
  induction n with
  | zero => intro k i  h1; exact absurd h1 (Nat.not_lt_zero _)
  | succ n ih =>
    intro k i  h1 h2 he
    refine jm_iload C dX11_isGood_68 rfl ?_
    refine jm_iload_n C dX11_isGood_70 rfl ?_
    refine jm_icmp_ge (tgt := 170) C dX11_isGood_71 (by decide) (fun c_71 => ?_) (fun c_71 => ?_)
    · have hge : i0 ≤ i := nI_ge_of c_71 (by omega) (by omega)
      obtain rfl : k = 0 := by omega
      refine jm_sub [0, 1, 2, 3] rfl ?_
      exact nx he
    · have hlt : i < i0 := nI_lt_of c_71 (by omega)
      obtain ⟨k, rfl⟩ : ∃ q, k = q + 1 := ⟨k - 1, by omega⟩
      refine jm_aload_n C dX11_isGood_74 rfl ?_
      refine jm_getA C fF_X11_124 (by decide) (by decide) dX11_isGood_75 ?_
      refine jm_iload C dX11_isGood_78 rfl ?_
      refine jm_aldN C 47 (n := 5) (by decide) (by decide) rfl (by omega) dX11_isGood_80 ?_
      refine jm_iload_n C dX11_isGood_81 rfl ?_
      refine jm_icmp_ge (tgt := 89) C dX11_isGood_82 (by decide) (fun c_82 => ?_) (fun c_82 => ?_)
      · refine jm_iconst (v := 0) C dX11_isGood_89 (by decide) ?_
        refine jm_istore (lv' := [(0, .ref m0), (1, .int many), (2, .int (inForceS S (0) ((nI yy + 1)) ((nI yy)) nt)), (3, .int (nI i0)), (4, .int (nI i)), (5, .int 0)]) C dX11_isGood_90 (by decide) rfl ?_
        refine jm_iload C dX11_isGood_92 rfl ?_
        refine jm_if_eq (tgt := 164) C dX11_isGood_94 (by decide) (fun c_94 => ?_) (fun c_94 => ?_)
        · refine jm_iinc (lv' := [(0, .ref m0), (1, .int many), (2, .int (inForceS S (0) ((nI yy + 1)) ((nI yy)) nt)), (3, .int (nI i0)), (4, .int (nI (i + 1))), (5, .int 0)]) C dX11_isGood_164 rfl (nI_1 _) (by decide) rfl ?_
          refine jm_goto (tgt := 68) C dX11_isGood_167 (by decide) ?_
          refine jm_sub [0, 1, 2, 3, 4] rfl ?_
          exact ih k (i + 1) (by omega) (by omega) (he.trans (ffst_f (decide_eq_false (fun u => u.1 c_82))))
        · exact absurd rfl c_94
      · refine jm_iconst (v := 1) C dX11_isGood_85 (by decide) ?_
        refine jm_goto (tgt := 90) C dX11_isGood_86 (by decide) ?_
        refine jm_istore (lv' := [(0, .ref m0), (1, .int many), (2, .int (inForceS S (0) ((nI yy + 1)) ((nI yy)) nt)), (3, .int (nI i0)), (4, .int (nI i)), (5, .int 1)]) C dX11_isGood_90 (by decide) rfl ?_
        refine jm_iload C dX11_isGood_92 rfl ?_
        refine jm_if_eq (tgt := 164) C dX11_isGood_94 (by decide) (fun c_94 => ?_) (fun c_94 => ?_)
        · exact absurd c_94 (by decide)
        refine jm_aload_n C dX11_isGood_97 rfl ?_
        refine jm_getA C fF_X11_124 (by decide) (by decide) dX11_isGood_98 ?_
        refine jm_iload C dX11_isGood_101 rfl ?_
        refine jm_aldN C 47 (n := 5) (by decide) (by decide) rfl (by omega) dX11_isGood_103 ?_
        refine jm_aload_n C dX11_isGood_104 rfl ?_
        refine jm_getA C fF_X11_124 (by decide) (by decide) dX11_isGood_105 ?_
        refine jm_iload_n C dX11_isGood_108 rfl ?_
        refine jm_aldN C 47 (n := 5) (by decide) (by decide) rfl (by omega) dX11_isGood_109 ?_
        refine jm_icmp_eq (tgt := 162) C dX11_isGood_110 (by decide) (fun c_110 => ?_) (fun c_110 => ?_)
        · refine jm_iconst (v := 0) C dX11_isGood_162 (by decide) ?_
          exact bad _ _ (fun z => ffst_ge (decide_eq_true ⟨c_82, Or.inl c_110⟩) (by omega) (he.symm.trans z)) dX11_isGood_163
        · refine jm_aload_n C dX11_isGood_113 rfl ?_
          refine jm_getA C fF_X11_49 (by decide) (by decide) dX11_isGood_114 ?_
          refine jm_aload_n C dX11_isGood_117 rfl ?_
          refine jm_getA C fF_X11_109 (by decide) (by decide) dX11_isGood_118 ?_
          refine jm_iload C dX11_isGood_121 rfl ?_
          refine jm_aldN C 42 (n := 5) (by decide) (by decide) rfl (by omega) dX11_isGood_123 ?_
          refine jm_ald C 22 (n := 200) (by decide) (by decide) rfl (wa_vp hwn (by omega) hnl) dX11_isGood_124 ?_
          refine jm_aload_n C dX11_isGood_125 rfl ?_
          refine jm_getA C fF_X11_49 (by decide) (by decide) dX11_isGood_126 ?_
          refine jm_aload_n C dX11_isGood_129 rfl ?_
          refine jm_getA C fF_X11_109 (by decide) (by decide) dX11_isGood_130 ?_
          refine jm_iload_n C dX11_isGood_133 rfl ?_
          refine jm_aldN C 42 (n := 5) (by decide) (by decide) rfl (by omega) dX11_isGood_134 ?_
          refine jm_ald C 22 (n := 200) (by decide) (by decide) rfl (wa_vp hwn hiw hnl) dX11_isGood_135 ?_
          refine jm_icmp_ne (tgt := 164) C dX11_isGood_136 (by decide) (fun c_136 => ?_) (fun c_136 => ?_)
          · refine jm_iinc (lv' := [(0, .ref m0), (1, .int many), (2, .int (inForceS S (0) ((nI yy + 1)) ((nI yy)) nt)), (3, .int (nI i0)), (4, .int (nI (i + 1))), (5, .int 1)]) C dX11_isGood_164 rfl (nI_1 _) (by decide) rfl ?_
            refine jm_goto (tgt := 68) C dX11_isGood_167 (by decide) ?_
            refine jm_sub [0, 1, 2, 3, 4] rfl ?_
            exact ih k (i + 1) (by omega) (by omega) (he.trans (ffst_f (decide_eq_false (fun u => u.2.elim c_110 (fun v => c_136 v.1)))))
          · refine jm_aload_n C dX11_isGood_139 rfl ?_
            refine jm_aload_n C dX11_isGood_140 rfl ?_
            refine jm_getA C fF_X11_124 (by decide) (by decide) dX11_isGood_141 ?_
            refine jm_iload C dX11_isGood_144 rfl ?_
            refine jm_aldN C 47 (n := 5) (by decide) (by decide) rfl (by omega) dX11_isGood_146 ?_
            refine jm_aload_n C dX11_isGood_147 rfl ?_
            refine jm_getA C fF_X11_124 (by decide) (by decide) dX11_isGood_148 ?_
            refine jm_iload_n C dX11_isGood_151 rfl ?_
            refine jm_aldN C 47 (n := 5) (by decide) (by decide) rfl (by omega) dX11_isGood_152 ?_
            refine jm_calli (As := [.int (S 47 i), .int (S 47 i0)]) (rest := []) C fG_X11_157 (c_nearness2 ((S 47 i)) ((S 47 i0)) (go_vp hgo (by omega) hmm) (go_vp hgo hiw hmm)) rfl rfl (Nat.le_of_ble_eq_true rfl) ⟨Nat.le_of_ble_eq_true rfl, Nat.le_of_ble_eq_true rfl⟩ dX11_isGood_153 (fun r_153 S_153 e_153 => ?_)
            obtain ⟨e1_153, e2_153⟩ := e_153
            subst e1_153
            replace e2_153 := e2_153.symm
            subst e2_153
            refine jm_iload_n C dX11_isGood_156 rfl ?_
            refine jm_iload_n C dX11_isGood_157 rfl ?_
            refine jm_imul C dX11_isGood_158 ?_
            refine jm_icmp_ge (tgt := 164) C dX11_isGood_159 (by decide) (fun c_159 => ?_) (fun c_159 => ?_)
            · refine jm_iinc (lv' := [(0, .ref m0), (1, .int many), (2, .int (inForceS S (0) ((nI yy + 1)) ((nI yy)) nt)), (3, .int (nI i0)), (4, .int (nI (i + 1))), (5, .int 1)]) C dX11_isGood_164 rfl (nI_1 _) (by decide) rfl ?_
              refine jm_goto (tgt := 68) C dX11_isGood_167 (by decide) ?_
              refine jm_sub [0, 1, 2, 3, 4] rfl ?_
              exact ih k (i + 1) (by omega) (by omega) (he.trans (ffst_f (decide_eq_false (fun u => u.2.elim c_110 (fun v => v.2 c_159)))))
            · refine jm_iconst (v := 0) C dX11_isGood_162 (by decide) ?_
              exact bad _ _ (fun z => ffst_ge (decide_eq_true ⟨c_82, Or.inr ⟨c_136, c_159⟩⟩) (by omega) (he.symm.trans z)) dX11_isGood_163
set_option maxHeartbeats 4000000 in
set_option maxRecDepth 100000 in
theorem L_good2 {p : Program} {l : Launch} {e : Env} {s : State} {m : MethodId} {args : Array Value} {below : List Frame} {meth : Method} {c : Code} {D : va_G} {cy : Nat → ClassId} {A : Nat → Prop} {Q : State → Prop} {m0 : Nat} {ad : Nat → Nat} {h0 : jH} {S : Nat → Nat → Int32} (C : jC p s m args meth c D cy A 6 RX11 cX11_isGood) {many : Int32} {yy nl ns nt nw mm : Nat}  (hy : S 0 0 = nI yy) (hyy : yy ≤ 40) (hl : S 2 0 = nI nl) (hnl : nl ≤ 200) (hs : S 5 0 = nI ns) (hns : ns ≤ 300) (ht : S 6 0 = nI nt) (hnt : nt ≤ 100) (hw : S 8 0 = nI nw) (hnw : nw ≤ 5) (hwn : ∀ k, k < nw → ∃ j, j < nl ∧ S 42 k = nI j) (hgo : ∀ k, k < nw → ∃ g, g ≤ mm ∧ S 47 k = nI g) (hmm : mm ≤ 6) (ret : ∀ (r : Int32) (S' : Nat → Nat → Int32) (lv : List (Nat × Value)) (pc : Nat), (r = bI (goodP S many yy nl ns nt nw) ∧ S' = S) → (r = 0 ∨ r = 1) → decode cX11_isGood pc = .ok (.ireturn, 1) → jM p l e (rmd 4 0 0) s m args below meth c D cy A 6 Q m0 ad h0 S' lv pc [.int r])  : ∀ (n k i : Nat), k < n → i + k = nw → (ffst (rowB S (inForceS S 0 (nI yy + 1) (nI yy) nt) many yy nl ns nt) 0 nw = ffst (rowB S (inForceS S 0 (nI yy + 1) (nI yy) nt) many yy nl ns nt) i k) → jM p l e (rmd 4 0 0) s m args below meth c D cy A 6 Q m0 ad h0 S [(0, .ref m0), (1, .int many), (2, .int (inForceS S (0) ((nI yy + 1)) ((nI yy)) nt)), (3, .int (nI i))] 18 [] := by
  intro n
  induction n with
  | zero => intro k i  h1; exact absurd h1 (Nat.not_lt_zero _)
  | succ n ih =>
    intro k i  h1 h2 he
    refine jm_iload_n C dX11_isGood_18 rfl ?_
    refine jm_aload_n C dX11_isGood_19 rfl ?_
    refine jm_getSe (v := nI nw) C fF_X11_235 (by decide) hw dX11_isGood_20 ?_
    refine jm_icmp_ge (tgt := 176) C dX11_isGood_23 (by decide) (fun c_23 => ?_) (fun c_23 => ?_)
    · have hge : nw ≤ i := nI_ge_of c_23 (by omega) (by omega)
      obtain rfl : k = 0 := by omega
      refine jm_iconst (v := 1) C dX11_isGood_176 (by decide) ?_
      exact ret _ _ _ _ ⟨(bI_t he).symm, rfl⟩ (by decide) dX11_isGood_177
    · have hlt : i < nw := nI_lt_of c_23 (by omega)
      obtain ⟨k, rfl⟩ : ∃ q, k = q + 1 := ⟨k - 1, by omega⟩
      refine jm_aload_n C dX11_isGood_26 rfl ?_
      refine jm_getA C fF_X11_124 (by decide) (by decide) dX11_isGood_27 ?_
      refine jm_iload_n C dX11_isGood_30 rfl ?_
      refine jm_aldN C 47 (n := 5) (by decide) (by decide) rfl (by omega) dX11_isGood_31 ?_
      refine jm_iload_n C dX11_isGood_32 rfl ?_
      refine jm_icmp_ne (tgt := 39) C dX11_isGood_33 (by decide) (fun c_33 => ?_) (fun c_33 => ?_)
      · refine jm_aload_n C dX11_isGood_39 rfl ?_
        refine jm_aload_n C dX11_isGood_40 rfl ?_
        refine jm_getA C fF_X11_49 (by decide) (by decide) dX11_isGood_41 ?_
        refine jm_aload_n C dX11_isGood_44 rfl ?_
        refine jm_getA C fF_X11_109 (by decide) (by decide) dX11_isGood_45 ?_
        refine jm_iload_n C dX11_isGood_48 rfl ?_
        refine jm_aldN C 42 (n := 5) (by decide) (by decide) rfl (by omega) dX11_isGood_49 ?_
        refine jm_ald C 22 (n := 200) (by decide) (by decide) rfl (wa_vp hwn hlt hnl) dX11_isGood_50 ?_
        refine jm_aload_n C dX11_isGood_51 rfl ?_
        refine jm_getA C fF_X11_124 (by decide) (by decide) dX11_isGood_52 ?_
        refine jm_iload_n C dX11_isGood_55 rfl ?_
        refine jm_aldN C 47 (n := 5) (by decide) (by decide) rfl (by omega) dX11_isGood_56 ?_
        refine jm_calli (As := [.int (S 22 ((S 42 i)).toNatClampNeg), .int (S 47 i)]) (rest := []) C fG_X11_238 (c_isFree ((S 22 ((S 42 i)).toNatClampNeg)) ((S 47 i)) hy hyy hl hnl hs hns ht hnt) rfl rfl (Nat.le_of_ble_eq_true rfl) ⟨Nat.le_of_ble_eq_true rfl, Nat.le_of_ble_eq_true rfl⟩ dX11_isGood_57 (fun r_57 S_57 e_57 => ?_)
        obtain ⟨e1_57, e2_57⟩ := e_57
        subst e1_57
        replace e2_57 := e2_57.symm
        subst e2_57
        refine jm_ifne_b (tgt := 65) C dX11_isGood_60 (by decide) (fun c_60 => ?_) (fun c_60 => ?_)
        · refine jm_iconst (v := 0) C dX11_isGood_65 (by decide) ?_
          refine jm_istore (lv' := [(0, .ref m0), (1, .int many), (2, .int (inForceS S (0) ((nI yy + 1)) ((nI yy)) nt)), (3, .int (nI i)), (4, .int 0)]) C dX11_isGood_66 (by decide) rfl ?_
          refine jm_sub [0, 1, 2, 3, 4] rfl ?_
          refine L_good1 (i0 := i) C hy hyy hl hnl hs hns ht hnt hw hnw hwn hgo hmm hlt (fun lv pc g d => ret _ _ _ _ ⟨(bI_f (fun u => ffst_ge (decide_eq_true ⟨c_33, Or.inr g⟩) (by omega) (he.symm.trans u))).symm, rfl⟩ (by decide) d) (fun g => ?_) (i + 1) i 0 (by omega) (by omega) rfl
          refine jm_iinc (lv' := [(0, .ref m0), (1, .int many), (2, .int (inForceS S (0) ((nI yy + 1)) ((nI yy)) nt)), (3, .int (nI (i + 1)))]) C dX11_isGood_170 rfl (nI_1 _) (by decide) rfl ?_
          refine jm_goto (tgt := 18) C dX11_isGood_173 (by decide) ?_
          exact ih k (i + 1) (by omega) (by omega) (he.trans (ffst_f (decide_eq_false (fun u => u.2.elim (fun v => v c_60) (fun v => v g)))))
        · refine jm_iconst (v := 0) C dX11_isGood_63 (by decide) ?_
          exact ret _ _ _ _ ⟨(bI_f (fun u => ffst_ge (decide_eq_true ⟨c_33, Or.inl c_60⟩) (by omega) (he.symm.trans u))).symm, rfl⟩ (by decide) dX11_isGood_64
      · refine jm_goto (tgt := 170) C dX11_isGood_36 (by decide) ?_
        refine jm_iinc (lv' := [(0, .ref m0), (1, .int many), (2, .int (inForceS S (0) ((nI yy + 1)) ((nI yy)) nt)), (3, .int (nI (i + 1)))]) C dX11_isGood_170 rfl (nI_1 _) (by decide) rfl ?_
        refine jm_goto (tgt := 18) C dX11_isGood_173 (by decide) ?_
        exact ih k (i + 1) (by omega) (by omega) (he.trans (ffst_f (decide_eq_false (fun u => u.1 c_33))))
set_option maxHeartbeats 4000000 in
set_option maxRecDepth 100000 in
theorem c_isGood {l : Launch} {D : va_G} {cy : Nat → ClassId} {m0 : Nat} {ad : Nat → Nat} {S : Nat → Nat → Int32} (many : Int32) {yy nl ns nt nw mm : Nat} (hy : S 0 0 = nI yy) (hyy : yy ≤ 40) (hl : S 2 0 = nI nl) (hnl : nl ≤ 200) (hs : S 5 0 = nI ns) (hns : ns ≤ 300) (ht : S 6 0 = nI nt) (hnt : nt ≤ 100) (hw : S 8 0 = nI nw) (hnw : nw ≤ 5) (hwn : ∀ k, k < nw → ∃ j, j < nl ∧ S 42 k = nI j) (hgo : ∀ k, k < nw → ∃ g, g ≤ mm ∧ S 47 k = nI g) (hmm : mm ≤ 6) : mI l D cy yX11_isGood (.code yX11_isGood cX11_isGood 6 ((Option.some FieldType.boolean))) 4 m0 ad [.int many] S (fun r S' => r = bI (goodP S many yy nl ns nt nw) ∧ S' = S) := by
  refine m_ofZ rfl (Nat.le_of_ble_eq_true rfl) (fun p e s m args below meth c A Q h0 C ret => ?_)
  refine jm_aload_n C dX11_isGood_0 rfl ?_
  refine jm_iconst (v := 0) C dX11_isGood_1 (by decide) ?_
  refine jm_aload_n C dX11_isGood_2 rfl ?_
  refine jm_getSe (v := nI yy) C fF_X11_141 (by decide) hy dX11_isGood_3 ?_
  refine jm_iconst (v := 1) C dX11_isGood_6 (by decide) ?_
  refine jm_iadd C dX11_isGood_7 ?_
  refine jm_aload_n C dX11_isGood_8 rfl ?_
  refine jm_getSe (v := nI yy) C fF_X11_141 (by decide) hy dX11_isGood_9 ?_
  refine jm_calli (As := [.int 0, .int ((nI yy) + 1), .int (nI yy)]) (rest := []) C fG_X11_180 (c_inForce (0) (((nI yy) + 1)) ((nI yy)) ht hnt) rfl rfl (Nat.le_of_ble_eq_true rfl) ⟨Nat.le_of_ble_eq_true rfl, Nat.le_of_ble_eq_true rfl⟩ dX11_isGood_12 (fun r_12 S_12 e_12 => ?_)
  obtain ⟨e1_12, e2_12⟩ := e_12
  subst e1_12
  replace e2_12 := e2_12.symm
  subst e2_12
  refine jm_istore_n (lv' := [(0, .ref m0), (1, .int many), (2, .int (inForceS S (0) (((nI yy) + 1)) ((nI yy)) nt))]) C dX11_isGood_15 (by decide) rfl ?_
  refine jm_iconst (v := 0) C dX11_isGood_16 (by decide) ?_
  refine jm_istore_n (lv' := [(0, .ref m0), (1, .int many), (2, .int (inForceS S (0) (((nI yy) + 1)) ((nI yy)) nt)), (3, .int 0)]) C dX11_isGood_17 (by decide) rfl ?_
  exact L_good2 C hy hyy hl hnl hs hns ht hnt hw hnw hwn hgo hmm ret (nw + 1) nw 0 (by omega) (by omega) rfl
