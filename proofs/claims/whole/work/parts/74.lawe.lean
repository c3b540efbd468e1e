theorem tb_m {w : Cond} (i : Nat) (h : tables_1[i]? = some w) : w ∈ lw_tbl := List.mem_append_right _ (List.mem_of_getElem? h)
def hJ0 : jH := ([], fun _ => 0, fun _ => 0, fun _ _ => 0, fun _ _ => none, fun _ _ => 0, fun _ _ => none)
theorem ao_K {C : String} {s : State} (h : va_AO C s) : ∃ cA : ClassId, ArrOfT s cA (.object C) ∧ va_RA s cA (.object C) := by
  obtain ⟨comp, cA, kA, g1, g2, g3, g4, g5⟩ := Cond.arrayOver_spec h
  exact ⟨cA, fun N z => ⟨(fun k h => by cases h), kA, g3, comp, g4⟩, kA, comp, g3, g4, g1, g5⟩
theorem ac_K {s : State} {args : Array Value} (h : (Cond.arrayClass .int).before args s = true) : ∃ cA : ClassId, ArrOfT s cA .int ∧ va_RA s cA .int := by
  obtain ⟨cA, kA, comp, g1, g2, g3⟩ := Cond.arrayClass_spec h
  exact ⟨cA, fun N z => ⟨(fun k h => by cases h), kA, g2, comp, g3⟩, g1⟩
theorem k_start {s : State} {args : Array Value} (hw : ∀ w ∈ wall, w.before args s = true) (a1 : va_AO "CleanSeed$Field" s) (a2 : va_AO "CleanSeed$Lot" s) (a3 : va_AO "CleanSeed$Bag" s) (a4 : va_AO "CleanSeed$Statute" s) (a5 : va_AO "CleanSeed$Telling" s) : ∃ (D : va_G) (cy : Nat → ClassId), va_K D vwCl (jTys cy) s := by
  obtain ⟨c0, i0, hK0⟩ := u_known (C := RX0) (T := TX0) (N := 1) (n := 1) hw i_X0 (hw _ kT_X0)
  obtain ⟨c1, i1, hK1⟩ := u_known (C := RX1) (T := TX1) (N := 4) (n := 4) hw i_X1 (hw _ kT_X1)
  obtain ⟨c2, i2, hK2⟩ := u_known (C := RX2) (T := TX2) (N := 12) (n := 12) hw i_X2 (hw _ kT_X2)
  obtain ⟨c3, i3, hK3⟩ := u_known (C := RX3) (T := TX3) (N := 7) (n := 7) hw i_X3 (hw _ kT_X3)
  obtain ⟨c4, i4, hK4⟩ := u_known (C := RX4) (T := TX4) (N := 1) (n := 1) hw i_X4 (hw _ kT_X4)
  obtain ⟨c5, i5, hK5⟩ := u_known (C := RX5) (T := TX5) (N := 5) (n := 5) hw i_X5 (hw _ kT_X5)
  obtain ⟨c6, i6, hK6⟩ := u_known (C := RX6) (T := TX6) (N := 20) (n := 20) hw i_X6 (hw _ kT_X6)
  obtain ⟨c7, i7, hK7⟩ := u_known (C := RX7) (T := TX7) (N := 8) (n := 8) hw i_X7 (hw _ kT_X7)
  obtain ⟨c8, i8, hK8⟩ := u_known (C := RX8) (T := TX8) (N := 4) (n := 4) hw i_X8 (hw _ kT_X8)
  obtain ⟨c9, i9, hK9⟩ := u_known (C := RX9) (T := TX9) (N := 3) (n := 3) hw i_X9 (hw _ kT_X9)
  obtain ⟨c10, i10, hK10⟩ := u_known (C := RX10) (T := TX10) (N := 5) (n := 5) hw i_X10 (hw _ kT_X10)
  obtain ⟨c11, i11, hK11⟩ := u_known (C := RX11) (T := TX11) (N := 49) (n := 49) hw i_X11 (hw _ kT_X11)
  obtain ⟨b0, g0⟩ := ac_K (hw _ kA_142)
  obtain ⟨b1, g1⟩ := ao_K a3
  obtain ⟨b2, g2⟩ := ao_K a1
  obtain ⟨b3, g3⟩ := ao_K a2
  obtain ⟨b4, g4⟩ := ao_K a4
  obtain ⟨b5, g5⟩ := ao_K a5
  refine ⟨(fun k => ([c0, c1, c2, c3, c4, c5, c6, c7, c8, c9, c10, c11] : List ClassId).getD k c0, fun k => ([i0, i1, i2, i3, i4, i5, i6, i7, i8, i9, i10, i11] : List (Nat → Nat)).getD k i0), fun k => ([b0, b1, b2, b3, b4, b5] : List ClassId).getD (k - 12) b0, fun k q hq => ?_, fun k q hq => ?_⟩
  · have hk : k < 12 := (List.getElem?_eq_some_iff.mp hq).1
    rcases (show k = 0 ∨ k = 1 ∨ k = 2 ∨ k = 3 ∨ k = 4 ∨ k = 5 ∨ k = 6 ∨ k = 7 ∨ k = 8 ∨ k = 9 ∨ k = 10 ∨ k = 11 by omega) with rfl | rfl | rfl | rfl | rfl | rfl | rfl | rfl | rfl | rfl | rfl | rfl
    · cases hq; exact hK0
    · cases hq; exact hK1
    · cases hq; exact hK2
    · cases hq; exact hK3
    · cases hq; exact hK4
    · cases hq; exact hK5
    · cases hq; exact hK6
    · cases hq; exact hK7
    · cases hq; exact hK8
    · cases hq; exact hK9
    · cases hq; exact hK10
    · cases hq; exact hK11
  · have hk : k < 6 := (List.getElem?_eq_some_iff.mp hq).1
    rcases (show k = 0 ∨ k = 1 ∨ k = 2 ∨ k = 3 ∨ k = 4 ∨ k = 5 by omega) with rfl | rfl | rfl | rfl | rfl | rfl
    · cases hq; exact g0
    · cases hq; exact g1
    · cases hq; exact g2
    · cases hq; exact g3
    · cases hq; exact g4
    · cases hq; exact g5
theorem st_start {s : State} {args : Array Value} {A : Nat → Prop} (hA : ∀ a : Nat, a < s.heap.size → ¬ A a) (hgv : (Jvm.Cond.and given_1 narrow_1).before args s = true) (h36 : (Cond.laysStatic "CleanSeed" "STATUTE_TOPS" "[I").before args s = true) (h298 : (Cond.laysStatic "CleanSeed" "STATUTES_AT_FIRST" "[I").before args s = true) (hini : (Cond.initialized "CleanSeed").before args s = true) : jSt A s s.heap := by
  have hs := flat_of_before _ hgv
  have T1 : ∃ t : Nat, (Term.static "CleanSeed" "STATUTE_TOPS" "[I").eval args s none [] s = some (.ref t) ∧ va_T .int t 5 stT A s s.heap := by
    refine va_Tof (tm := (.static "CleanSeed" "STATUTE_TOPS" "[I")) (ty := .int) (N := 5) (f := stT) (by decide) (hs (.arrayOf (.static "CleanSeed" "STATUTE_TOPS" "[I") .int) (by decide +kernel)) (va_eqt (hs (.eq (.length (.static "CleanSeed" "STATUTE_TOPS" "[I")) (.int 5)) (by decide +kernel))) (fun j hj => ?_) hA
    rcases (show j = 0 ∨ j = 1 ∨ j = 2 ∨ j = 3 ∨ j = 4 by omega) with rfl | rfl | rfl | rfl | rfl
    · exact va_eqt (hs (.eq (.elem (.static "CleanSeed" "STATUTE_TOPS" "[I") (.int 0)) (.int 1000)) (by decide +kernel))
    · exact va_eqt (hs (.eq (.elem (.static "CleanSeed" "STATUTE_TOPS" "[I") (.int 1)) (.int 10)) (by decide +kernel))
    · exact va_eqt (hs (.eq (.elem (.static "CleanSeed" "STATUTE_TOPS" "[I") (.int 2)) (.int 5)) (by decide +kernel))
    · exact va_eqt (hs (.eq (.elem (.static "CleanSeed" "STATUTE_TOPS" "[I") (.int 3)) (.int 1000)) (by decide +kernel))
    · exact va_eqt (hs (.eq (.elem (.static "CleanSeed" "STATUTE_TOPS" "[I") (.int 4)) (.int 8)) (by decide +kernel))
  have T2 : ∃ t : Nat, (Term.static "CleanSeed" "STATUTES_AT_FIRST" "[I").eval args s none [] s = some (.ref t) ∧ va_T .int t 5 stF A s s.heap := by
    refine va_Tof (tm := (.static "CleanSeed" "STATUTES_AT_FIRST" "[I")) (ty := .int) (N := 5) (f := stF) (by decide) (hs (.arrayOf (.static "CleanSeed" "STATUTES_AT_FIRST" "[I") .int) (by decide +kernel)) (va_eqt (hs (.eq (.length (.static "CleanSeed" "STATUTES_AT_FIRST" "[I")) (.int 5)) (by decide +kernel))) (fun j hj => ?_) hA
    rcases (show j = 0 ∨ j = 1 ∨ j = 2 ∨ j = 3 ∨ j = 4 by omega) with rfl | rfl | rfl | rfl | rfl
    · exact va_eqt (hs (.eq (.elem (.static "CleanSeed" "STATUTES_AT_FIRST" "[I") (.int 0)) (.int 50)) (by decide +kernel))
    · exact va_eqt (hs (.eq (.elem (.static "CleanSeed" "STATUTES_AT_FIRST" "[I") (.int 1)) (.int 2)) (by decide +kernel))
    · exact va_eqt (hs (.eq (.elem (.static "CleanSeed" "STATUTES_AT_FIRST" "[I") (.int 2)) (.int 1)) (by decide +kernel))
    · exact va_eqt (hs (.eq (.elem (.static "CleanSeed" "STATUTES_AT_FIRST" "[I") (.int 3)) (.int 10)) (by decide +kernel))
    · exact va_eqt (hs (.eq (.elem (.static "CleanSeed" "STATUTES_AT_FIRST" "[I") (.int 4)) (.int 6)) (by decide +kernel))
  obtain ⟨t1, e1, T1⟩ := T1
  obtain ⟨t2, e2, T2⟩ := T2
  exact ⟨⟨t1, va_Zref h36 hini e1 hA, T1⟩, t2, va_Zref h298 hini e2 hA, T2⟩
set_option maxHeartbeats 4000000 in
set_option maxRecDepth 100000 in
/-- from the entry, for every script of at most 3072 ints, the law comes to its end with true -/
theorem whole_start {p : Program} {e : Env} {s : State} {m : MethodId} {below : List Frame} {meth : Method} {c : Code} (l : Launch) {b L : Nat} {xs : Nat → Int32} (hL : L ≤ 3072) (C0 : lw_At p s m meth c b L xs) : W p l e room_1 s m #[Value.ref b] below meth c s.heap [] 0 0 (lw_Z below #[Value.ref b] s) (entryFrame m ([Value.ref b] : List Value).toArray 4) := by
  obtain ⟨hx, hb, hr, hml, hown, hts, hX, hbl, hlocks, hgv⟩ := C0
  have hw : ∀ w ∈ wall, w.before #[Value.ref b] s = true := fun w h => hts w (List.mem_filter.mp h).1
  have a1 : va_AO "CleanSeed$Field" s := va_AO.of (hts _ (tb_m 30 (by decide +kernel)))
  have a2 : va_AO "CleanSeed$Lot" s := va_AO.of (hts _ (tb_m 32 (by decide +kernel)))
  have a3 : va_AO "CleanSeed$Bag" s := va_AO.of (hts _ (tb_m 34 (by decide +kernel)))
  have a4 : va_AO "CleanSeed$Statute" s := va_AO.of (hts _ (tb_m 38 (by decide +kernel)))
  have a5 : va_AO "CleanSeed$Telling" s := va_AO.of (hts _ (tb_m 174 (by decide +kernel)))
  obtain ⟨D, cy, hK⟩ := k_start hw a1 a2 a3 a4 a5
  have hA : ∀ a : Nat, a < s.heap.size → ¬ (fun q : Nat => s.heap.size ≤ q) a := fun a h => Nat.not_le.mpr h
  have hSt : jSt (fun q : Nat => s.heap.size ≤ q) s s.heap := st_start hA hgv (hts _ (tb_m 36 (by decide +kernel))) (hts _ (tb_m 298 (by decide +kernel))) (hw _ kN_X10)
  have hNw : jNw s := ⟨⟨a1, a2, a3, a4, a5⟩, va_Nw.of rfl (hts _ (tb_m 25 (by decide +kernel))), va_Nw.of rfl (hts _ (tb_m 35 (by decide +kernel))), va_Nw.of rfl (hts _ (tb_m 297 (by decide +kernel)))⟩
  have C : jC p s m #[Value.ref b] meth c D cy (fun q : Nat => s.heap.size ≤ q) 4 RL cL_law := ⟨hx, hb, hml, hown, hw, hK, fun q h => h, hlocks, hSt, hNw⟩
  have K : jW p l e room_1 s m #[Value.ref b] below meth c D cy (fun q : Nat => s.heap.size ≤ q) 4 0 0 (lw_Z below #[Value.ref b] s) hJ0 [(0, .ref b)] 0 [] := by
    refine j_new C fO_L_7 (Nat.le_of_ble_eq_true rfl) (Nat.le_of_ble_eq_true rfl) dL_law_0 (fun q_0 hn_0 => ?_)
    refine j_dup C dL_law_3 rfl ?_
    refine j_callIv (ret := none) (As := []) (rest := [.ref q_0]) C fG_L_9 (k_Xinit (a := q_0) ok_sO) rfl rfl (Nat.le_of_ble_eq_true rfl) ⟨Nat.le_of_ble_eq_true rfl, Nat.le_of_ble_eq_true rfl⟩ ⟨Nat.le_of_ble_eq_true rfl, Nat.le_of_ble_eq_true rfl⟩ dL_law_4 (fun h_4 e_4 => ?_)
    obtain ⟨P, T, c1, hP0, F1⟩ := e_4
    refine j_astore_n (lv' := [(0, .ref b), (1, .ref q_0)]) C dL_law_7 (by decide) rfl ?_
    refine j_new C fO_L_10 (Nat.le_of_ble_eq_true rfl) (Nat.le_of_ble_eq_true rfl) dL_law_8 (fun q_8 hn_8 => ?_)
    refine j_dup C dL_law_11 rfl ?_
    refine j_callIv (ret := none) (As := []) (rest := [.ref q_8]) C fG_L_12 (c_Minit (m0 := q_8) ok_sO (fun k hk => by rw [g_IO, if_pos rfl])) rfl rfl (Nat.le_of_ble_eq_true rfl) ⟨Nat.le_of_ble_eq_true rfl, Nat.le_of_ble_eq_true rfl⟩ ⟨Nat.le_of_ble_eq_true rfl, Nat.le_of_ble_eq_true rfl⟩ dL_law_12 (fun h_12 e_12 => ?_)
    obtain ⟨ad, M, F2, fr⟩ := e_12
    refine j_astore_n (lv' := [(0, .ref b), (1, .ref q_0), (2, .ref q_8)]) C dL_law_15 (by decide) rfl ?_
    refine j_iconst (v := 0) C dL_law_16 (by decide) ?_
    refine j_istore_n (lv' := [(0, .ref b), (1, .ref q_0), (2, .ref q_8), (3, .int 0)]) C dL_law_17 (by decide) rfl ?_
    have c2 : CP h_12 (fun _ _ => 0) P T 0 0 0 0 0 0 0 := (c1.ex (Ex.sO hn_8)).ex (ex_Fi F2 ok_sO)
    have inv : INV q_0 q_8 ad h_12 := ⟨_, P, T, 0, 0, 0, 0, 0, 0, 0, 0, si_0, c2, M, hP0, fun k k1 k2 i hi e => fr k k1 k2 (by
      rw [e, g_LO]
      refine List.mem_append_left _ ?_
      have hi2 : i = 5 ∨ i = 11 ∨ i = 12 ∨ i = 13 ∨ i = 14 := by simpa using hi
      rcases hi2 with rfl | rfl | rfl | rfl | rfl
      · exact c1.1.2.2.2.2.1.1.1
      · exact c1.1.2.2.2.2.2.2.1.1.1
      · exact c1.1.2.2.2.2.2.2.2.1.1.1
      · exact c1.1.2.2.2.2.2.2.2.2.1.1.1
      · exact c1.1.2.2.2.2.2.2.2.2.2.1.1)⟩
    refine j_wd (c2 := 56 + 3 * 0) (s2 := 8522 + 89 * 0) (Nat.le_of_ble_eq_true rfl) (Nat.le_of_ble_eq_true rfl) ?_
    exact law_loop hL C hr hX hbl 513 0 h_12 q_0 (by omega) (by omega) inv
  rw [lg_entry_eq]
  exact K s.heap [] _ (fun k q h => by cases h) ⟨(fun i j p q h => by cases h), (fun k q h => by cases h)⟩ va_S.rf (lv_entry ([.ref b]) (n := 4) (Nat.le_of_ble_eq_true rfl))
