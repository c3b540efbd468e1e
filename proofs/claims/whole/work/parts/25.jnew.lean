theorem kC_objectInit : Cond.code objectInit ⟨#[0xb1]⟩ 1 none ∈ wall := wl_m 22 (by decide +kernel) rfl
section JNEW
variable {p : Program} {l : Launch} {e : Env} {R : Room} {s : State} {m : MethodId} {args : Array Value} {below : List Frame} {meth : Method} {c : Code} {D : va_G} {cy : Nat → ClassId} {A : Nat → Prop} {nL cells slots : Nat} {Q : State → Prop} {own : String} {cc : ByteArray} {h : jH} {lv lv' : List (Nat × Value)} {pc : Nat} {st : List Value}
theorem j_objInit (C : jC p s m args meth c D cy A nL own cc) {index a : Nat} (hk : Cond.methodLink own index objectInit ∈ wall) (hd : decode cc pc = .ok (.invokespecial index, 3)) (h1 : 1 ≤ R.frames) (h2 : (st.map fun v => v.category).sum + 12 ≤ R.locals) (k : jW p l e R s m args below meth c D cy A nL cells slots Q h lv (pc + 3) st) : jW p l e R s m args below meth c D cy A nL cells slots Q h lv pc (.ref a :: st) := fun H locs ls hP hD hS hl => by
  refine W.objInit C.1 C.2.1 C.2.2.2.1 (C.2.2.2.2.1 _ hk) (C.2.2.2.2.1 _ kI_objectInit) (C.2.2.2.2.1 _ kC_objectInit) (g := F0 m pc ls (.ref a :: st)) rfl (by rw [C.2.2.1]; exact hl.1) rfl hd h1 (by show 2 * 0 + _ + 12 ≤ _; rw [Nat.mul_zero, Nat.zero_add]; exact h2) ?_
  exact k H locs ls hP hD hS hl
theorem ra_eq {U : State} {a b : ClassId} {ty : FieldType} (h1 : va_RA U a ty) (h2 : va_RA U b ty) : a = b := by
  cases ty with
  | object C =>
    obtain ⟨_, _, _, _, _, e1⟩ := h1
    obtain ⟨_, _, _, _, _, e2⟩ := h2
    exact Option.some.inj (e1.symm.trans e2)
  | _ => exact Option.some.inj (h1.symm.trans h2)
theorem j_newI (C : jC p s m args meth c D cy A nL own cc) {n : Int32} {N : Nat} (hn : ¬ n < 0) (hN : n.toNatClampNeg = N) (hb : N * componentBytes .int ≤ 536870912) (hc : cells + 1 ≤ R.cells) (hs : slots + N ≤ R.slots) (hd : decode cc pc = .ok (.newarray .int, 2)) (kk : ∀ q : Nat, q ∉ h_L h → jW p l e R s m args below meth c D cy A nL (cells + 1) (slots + N) Q (s_N h q 12 N) lv (pc + 2) (.ref q :: st)) : jW p l e R s m args below meth c D cy A nL cells slots Q h lv pc (.int n :: st) := fun H locs ls hP hD hS hl => by
  refine va_newa C.1 C.2.1 (atype := .int) (C.2.2.2.2.1 _ kA_142) (ty := .int) rfl C.2.2.2.2.2.1 hP hD hS C.2.2.2.2.2.2.1 (a0 := (N, .inl (fun _ => 0))) (fun _ => rfl) hn hN hb hc hs hd (fun q cA H1 hK1 hP1 hD1 hS1 => ?_)
  have e1 : cA = cy 12 := ra_eq (hK1.2 6 (cA, .int) rfl).2 (hK1.2 0 (cy 12, .int) rfl).2
  subst e1
  have hq := pool_fresh hD1
  have e2 : pool cy h ++ [(q, .inl (cy 12, N, .inl (fun _ => 0)))] = pool cy (s_N h q 12 N) := by
    refine pool_push hq rfl ?_ (fun b hb => pf_congr (by rw [g_KN, if_neg hb]) (by rw [g_NN, if_neg hb]) (fun _ => rfl) (fun _ => rfl) (fun j => by rw [g_AN, if_neg hb]) (fun j => by rw [g_BN, if_neg hb]))
    rw [pf_int (by rw [g_KN, if_pos rfl]), g_NN, if_pos rfl, show h_A (s_N h q 12 N) q = (fun _ => 0) from funext fun j => by rw [g_AN, if_pos rfl]]
  rw [e2] at hP1 hD1
  exact kk q hq H1 locs ls hP1 hD1 hS1 hl
theorem j_newR (C : jC p s m args meth c D cy A nL own cc) {n : Int32} {N k index : Nat} {Cn : String} (hcl : Cond.classLink own index Cn ∈ wall) (hao : va_AO Cn s) (hk : 12 < k) (ht : (jTys cy)[k - 12]? = some (cy k, .object Cn)) (hn : ¬ n < 0) (hN : n.toNatClampNeg = N) (hb : N * 4 ≤ 536870912) (hc : cells + 1 ≤ R.cells) (hs : slots + N ≤ R.slots) (hd : decode cc pc = .ok (.anewarray index, 3)) (kk : ∀ q : Nat, q ∉ h_L h → jW p l e R s m args below meth c D cy A nL (cells + 1) (slots + N) Q (s_N h q k N) lv (pc + 3) (.ref q :: st)) : jW p l e R s m args below meth c D cy A nL cells slots Q h lv pc (.int n :: st) := fun H locs ls hP hD hS hl => by
  refine va_newq C.1 C.2.1 C.2.2.2.1 (C.2.2.2.2.1 _ hcl) hao C.2.2.2.2.2.1 hP hD hS C.2.2.2.2.2.2.1 hn hN hb hc hs hd (fun q cA H1 hK1 hP1 hD1 hS1 => ?_)
  have e1 : cA = cy k := ra_eq (hK1.2 6 (cA, .object Cn) rfl).2 (hK1.2 (k - 12) (cy k, .object Cn) (by rw [List.getElem?_append_left (List.getElem?_eq_some_iff.mp ht).1]; exact ht)).2
  subst e1
  have hq := pool_fresh hD1
  have e2 : pool cy h ++ [(q, .inl (cy k, N, .inr (.inr (.inr (.inr (fun _ => none))))))] = pool cy (s_N h q k N) := by
    refine pool_push hq rfl ?_ (fun b hb => pf_congr (by rw [g_KN, if_neg hb]) (by rw [g_NN, if_neg hb]) (fun _ => rfl) (fun _ => rfl) (fun j => by rw [g_AN, if_neg hb]) (fun j => by rw [g_BN, if_neg hb]))
    rw [pf_ref (by rw [g_KN, if_pos rfl]) hk, g_NN, if_pos rfl, show h_B (s_N h q k N) q = (fun _ => none) from funext fun j => by rw [g_BN, if_pos rfl]]
  rw [e2] at hP1 hD1
  exact kk q hq H1 locs ls hP1 hD1 hS1 hl
def fd (c : Nat) : List Value := (List.range (nf c)).map (fun k => if rfb c k = true then .null else .int 0)
/-- a class that can be made -/
def jO (own : String) (index ci N : Nat) : Prop := ∃ (Cn : String) (T : u_T) (ty : Nat → FieldType), vwCl[ci]? = some (Cn, T, N) ∧ (∀ w ∈ u_ws Cn T N, w ∈ wall) ∧ (∀ k, k < N → parseFieldDescriptor (T k).2.2.1 = some (ty k)) ∧ Cond.classLink own index Cn ∈ wall ∧ Cond.instantiable Cn N ∈ wall ∧ Cond.initialized Cn ∈ wall ∧ (∀ j, j < N → defaultValue (ty j) = vp_V (fd ci) j) ∧ ci < 12
theorem j_new (C : jC p s m args meth c D cy A nL own cc) {index ci N : Nat} (F : jO own index ci N) (hc : cells + 1 ≤ R.cells) (hs : slots + N ≤ R.slots) (hd : decode cc pc = .ok (.new index, 3)) (kk : ∀ q : Nat, q ∉ h_L h → jW p l e R s m args below meth c D cy A nL (cells + 1) (slots + N) Q (s_O h q ci) lv (pc + 3) (.ref q :: st)) : jW p l e R s m args below meth c D cy A nL cells slots Q h lv pc st := fun H locs ls hP hD hS hl => by
  obtain ⟨Cn, T, ty, h1, h2, h3, h4, h5, h6, h7, h8⟩ := F
  refine va_new C.1 C.2.1 C.2.2.2.2.1 h2 ty h3 C.2.2.2.1 (C.2.2.2.2.1 _ h4) (C.2.2.2.2.1 _ h5) (C.2.2.2.2.1 _ h6) C.2.2.2.2.2.1 hP hD hS C.2.2.2.2.2.2.1 h1 (fs := fd ci) h7 hc hs hd (fun q H1 hP1 hD1 hS1 => ?_)
  have hq := pool_fresh hD1
  have e2 : pool cy h ++ [(q, .inr (ci, fd ci))] = pool cy (s_O h q ci) := by
    refine pool_push hq rfl ?_ (fun b hb => pf_congr (by rw [g_KO, if_neg hb]) rfl (fun f => by rw [g_IO, if_neg hb]) (fun f => by rw [g_RO, if_neg hb]) (fun _ => rfl) (fun _ => rfl))
    rw [pf_obj (by rw [g_KO, if_pos rfl]) h8]
    refine congrArg (fun x => Sum.inr (ci, x)) ?_
    unfold fl fd
    refine List.map_congr_left (fun k _ => ?_)
    unfold fv
    rw [g_RO, if_pos rfl, g_IO, if_pos rfl]
    rfl
  rw [e2] at hP1 hD1
  exact kk q hq H1 locs ls hP1 hD1 hS1 hl
end JNEW
theorem fO_L_7 : jO RL 7 10 5 := ⟨_, _, tyX10, rfl, i_X10, tyX10_ok, kL_L_7, kT_X10, kN_X10, (fun j hj => by rcases (show j = 0 ∨ j = 1 ∨ j = 2 ∨ j = 3 ∨ j = 4 by omega) with rfl | rfl | rfl | rfl | rfl <;> rfl), by decide⟩
theorem fO_X10_7 : jO RX10 7 2 12 := ⟨_, _, tyX2, rfl, i_X2, tyX2_ok, kL_X10_7, kT_X2, kN_X2, (fun j hj => by rcases (show j = 0 ∨ j = 1 ∨ j = 2 ∨ j = 3 ∨ j = 4 ∨ j = 5 ∨ j = 6 ∨ j = 7 ∨ j = 8 ∨ j = 9 ∨ j = 10 ∨ j = 11 by omega) with rfl | rfl | rfl | rfl | rfl | rfl | rfl | rfl | rfl | rfl | rfl | rfl <;> rfl), by decide⟩
theorem fO_X2_49 : jO RX2 49 8 4 := ⟨_, _, tyX8, rfl, i_X8, tyX8_ok, kL_X2_49, kT_X8, kN_X8, (fun j hj => by rcases (show j = 0 ∨ j = 1 ∨ j = 2 ∨ j = 3 by omega) with rfl | rfl | rfl | rfl <;> rfl), by decide⟩
theorem fO_X10_16 : jO RX10 16 0 1 := ⟨_, _, tyX0, rfl, i_X0, tyX0_ok, kL_X10_16, kT_X0, kN_X0, (fun j hj => by rcases (show j = 0 by omega) with rfl <;> rfl), by decide⟩
theorem fO_X10_25 : jO RX10 25 4 1 := ⟨_, _, tyX4, rfl, i_X4, tyX4_ok, kL_X10_25, kT_X4, kN_X4, (fun j hj => by rcases (show j = 0 by omega) with rfl <;> rfl), by decide⟩
theorem fO_X10_32 : jO RX10 32 7 8 := ⟨_, _, tyX7, rfl, i_X7, tyX7_ok, kL_X10_32, kT_X7, kN_X7, (fun j hj => by rcases (show j = 0 ∨ j = 1 ∨ j = 2 ∨ j = 3 ∨ j = 4 ∨ j = 5 ∨ j = 6 ∨ j = 7 by omega) with rfl | rfl | rfl | rfl | rfl | rfl | rfl | rfl <;> rfl), by decide⟩
theorem fO_X10_51 : jO RX10 51 3 7 := ⟨_, _, tyX3, rfl, i_X3, tyX3_ok, kL_X10_51, kT_X3, kN_X3, (fun j hj => by rcases (show j = 0 ∨ j = 1 ∨ j = 2 ∨ j = 3 ∨ j = 4 ∨ j = 5 ∨ j = 6 by omega) with rfl | rfl | rfl | rfl | rfl | rfl | rfl <;> rfl), by decide⟩
theorem fO_X3_17 : jO RX3 17 9 3 := ⟨_, _, tyX9, rfl, i_X9, tyX9_ok, kL_X3_17, kT_X9, kN_X9, (fun j hj => by rcases (show j = 0 ∨ j = 1 ∨ j = 2 by omega) with rfl | rfl | rfl <;> rfl), by decide⟩
theorem fO_X10_94 : jO RX10 94 6 20 := ⟨_, _, tyX6, rfl, i_X6, tyX6_ok, kL_X10_94, kT_X6, kN_X6, (fun j hj => by rcases (show j = 0 ∨ j = 1 ∨ j = 2 ∨ j = 3 ∨ j = 4 ∨ j = 5 ∨ j = 6 ∨ j = 7 ∨ j = 8 ∨ j = 9 ∨ j = 10 ∨ j = 11 ∨ j = 12 ∨ j = 13 ∨ j = 14 ∨ j = 15 ∨ j = 16 ∨ j = 17 ∨ j = 18 ∨ j = 19 by omega) with rfl | rfl | rfl | rfl | rfl | rfl | rfl | rfl | rfl | rfl | rfl | rfl | rfl | rfl | rfl | rfl | rfl | rfl | rfl | rfl <;> rfl), by decide⟩
theorem fO_X10_171 : jO RX10 171 1 4 := ⟨_, _, tyX1, rfl, i_X1, tyX1_ok, kL_X10_171, kT_X1, kN_X1, (fun j hj => by rcases (show j = 0 ∨ j = 1 ∨ j = 2 ∨ j = 3 by omega) with rfl | rfl | rfl | rfl <;> rfl), by decide⟩
theorem fO_X10_210 : jO RX10 210 5 5 := ⟨_, _, tyX5, rfl, i_X5, tyX5_ok, kL_X10_210, kT_X5, kN_X5, (fun j hj => by rcases (show j = 0 ∨ j = 1 ∨ j = 2 ∨ j = 3 ∨ j = 4 by omega) with rfl | rfl | rfl | rfl | rfl <;> rfl), by decide⟩
theorem fO_L_10 : jO RL 10 11 49 := ⟨_, _, tyX11, rfl, i_X11, tyX11_ok, kL_L_10, kT_X11, kN_X11, (fun j hj => by rcases (show j = 0 ∨ j = 1 ∨ j = 2 ∨ j = 3 ∨ j = 4 ∨ j = 5 ∨ j = 6 ∨ j = 7 ∨ j = 8 ∨ j = 9 ∨ j = 10 ∨ j = 11 ∨ j = 12 ∨ j = 13 ∨ j = 14 ∨ j = 15 ∨ j = 16 ∨ j = 17 ∨ j = 18 ∨ j = 19 ∨ j = 20 ∨ j = 21 ∨ j = 22 ∨ j = 23 ∨ j = 24 ∨ j = 25 ∨ j = 26 ∨ j = 27 ∨ j = 28 ∨ j = 29 ∨ j = 30 ∨ j = 31 ∨ j = 32 ∨ j = 33 ∨ j = 34 ∨ j = 35 ∨ j = 36 ∨ j = 37 ∨ j = 38 ∨ j = 39 ∨ j = 40 ∨ j = 41 ∨ j = 42 ∨ j = 43 ∨ j = 44 ∨ j = 45 ∨ j = 46 ∨ j = 47 ∨ j = 48 by omega) with rfl | rfl | rfl | rfl | rfl | rfl | rfl | rfl | rfl | rfl | rfl | rfl | rfl | rfl | rfl | rfl | rfl | rfl | rfl | rfl | rfl | rfl | rfl | rfl | rfl | rfl | rfl | rfl | rfl | rfl | rfl | rfl | rfl | rfl | rfl | rfl | rfl | rfl | rfl | rfl | rfl | rfl | rfl | rfl | rfl | rfl | rfl | rfl | rfl <;> rfl), by decide⟩
