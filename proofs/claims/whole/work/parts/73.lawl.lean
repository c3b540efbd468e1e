/-! THE CLAIM OUT OF ONE WALK OF THE LAW'S BODY. Your part is whole_start (and what it stands on); all else here is the same for every law, but numbers. -/
def R_law : String := "CleanSeedLaw"
def lw_P (b : Addr) (xs : List Int32) (args : Array Value) (s : State) : Prop := args = #[.ref b] ∧ s.IntsAt b xs ∧ xs.length ≤ 3072 ∧ (Jvm.Cond.and given_1 narrow_1).before args s = true
def lw_Q (_ : Array Value) (s : State) (o : Outcome) (t : State) : Prop := o = .returned (some (.int 1)) ∧ Framed s o t [] 600000 7302250
def lw_Z (below : List Frame) (a : Array Value) (s : State) : State → Prop := fun t => ∃ o, t.status = .running ∧ Ended t below o ∧ lw_Q a s o t
/-- the law's own end, with 1 on the stack, nothing written that was there before, its room as the claim has it -/
theorem lw_ret {p : Program} {l : Launch} {e : Env} {s : State} {m : MethodId} {below : List Frame} {meth : Method} {c : Code} {b : Nat} (hx : p.tables.exec = Jvm.exec) (hb : c.code = code) (hr : meth.sig.returnType = ret) (hlocks : meth.locks = false) {pc : Nat} {H : Heap} {ls : Array Slot} (hdg : decode code pc = .ok (.ireturn, 1)) : W p l e room_1 s m #[Value.ref b] below meth c H [] 600000 7302250 (lw_Z below #[Value.ref b] s) (F0 m pc ls [.int 1]) := by
  intro T hT X
  obtain ⟨fs, hret, hrun, hended, hW, hframe⟩ := X.leave (v := some (.int 1)) (hlocks := hlocks) (fun h => by rw [hr] at h; cases h)
  have hmeth' : T.vm.method? m = some meth := X.method'
  refine ⟨T.setFrames fs, ?_, .returned (some (.int 1)), hrun, hended, rfl, ⟨_, rfl⟩, hW, hframe⟩
  jvm_step X.here [X.here.top, hx, hb, hdg, hmeth', hr, ret, narrow_b1]
  (try refine ⟨rfl, ?_⟩); (try refine ⟨rfl, ?_⟩)
  first | (intro acts; rw [hret _ acts rfl rfl rfl]) | rw [hret _ _ rfl rfl rfl]
  exact Steps.refl _
/-- what holds at the law's entry: the machine, the code, the tables' words (any of lw_tbl by 'hts w (by decide +kernel)'), the script of L ints xs at the cell b, what the Statement gives of the start (any of its parts by flat_of_before) -/
def lw_At (p : Program) (s : State) (m : MethodId) (meth : Method) (c : Code) (b L : Nat) (xs : Nat → Int32) : Prop :=
  p.tables.exec = Jvm.exec ∧ c.code = code ∧ meth.sig.returnType = ret ∧ c.maxLocals = 4 ∧ s.vm.findClass R_law = some m.cls ∧ (∀ w ∈ lw_tbl, w.before #[Value.ref b] s = true) ∧ va_X b L xs s s.heap ∧ b < s.heap.size ∧ meth.locks = false ∧ (Jvm.Cond.and given_1 narrow_1).before #[Value.ref b] s = true
section LROWS
variable {p : Program} {l : Launch} {e : Env} {R : Room} {s : State} {m : MethodId} {args : Array Value} {below : List Frame} {meth : Method} {c : Code} {D : va_G} {cy : Nat → ClassId} {A : Nat → Prop} {nL cells slots : Nat} {Q : State → Prop} {own : String} {cc : ByteArray} {h : jH} {lv : List (Nat × Value)} {pc : Nat} {st : List Value}
theorem j_sld (C : jC p s m args meth c D cy A nL own cc) {b L : Nat} {xs : Nat → Int32} (hX : va_X b L xs s s.heap) (hbl : b < s.heap.size) (hbA : ¬ A b) {v : Int32} {j : Nat} (hv : v = nI j) (hj : j < L) (hL : L < 2 ^ 31) (hd : decode cc pc = .ok (.iaload, 1)) (k : jW p l e R s m args below meth c D cy A nL cells slots Q h lv (pc + 1) (.int (xs j) :: st)) : jW p l e R s m args below meth c D cy A nL cells slots Q h lv pc (.int v :: .ref b :: st) := fun H locs ls hP hD hS hl => by
  subst hv
  refine va_sld C.1 C.2.1 hX hbl hbA hS (vp_in_nI hj hL) hd ?_
  rw [nI_clamp (by omega)]
  exact k H locs ls hP hD hS hl
theorem j_slen (C : jC p s m args meth c D cy A nL own cc) {b L : Nat} {xs : Nat → Int32} (hX : va_X b L xs s s.heap) (hbl : b < s.heap.size) (hbA : ¬ A b) (hd : decode cc pc = .ok (.arraylength, 1)) (k : jW p l e R s m args below meth c D cy A nL cells slots Q h lv (pc + 1) (.int (nI L) :: st)) : jW p l e R s m args below meth c D cy A nL cells slots Q h lv pc (.ref b :: st) := fun H locs ls hP hD hS hl => va_slen C.1 C.2.1 hX hbl hbA hS hd (k H locs ls hP hD hS hl)
theorem j_lshl (C : jC p s m args meth c D cy A nL own cc) {x : Int64} {y : Int32} (hd : decode cc pc = .ok (.lshl, 1)) (k : jW p l e R s m args below meth c D cy A nL cells slots Q h lv (pc + 1) (.long (x <<< (y.toInt64 &&& 63)) :: st)) : jW p l e R s m args below meth c D cy A nL cells slots Q h lv pc (.int y :: .long x :: st) := fun H locs ls hP hD hS hl => lv_lshl C.1 C.2.1 hd rfl (k H locs ls hP hD hS hl)
theorem j_wd {c2 s2 : Nat} (h1 : cells ≤ c2) (h2 : slots ≤ s2) (k : jW p l e R s m args below meth c D cy A nL c2 s2 Q h lv pc st) : jW p l e R s m args below meth c D cy A nL cells slots Q h lv pc st := fun H locs ls hP hD hS hl => W.widen h1 h2 (k H locs ls hP hD hS hl)
end LROWS
theorem j_true {p : Program} {l : Launch} {e : Env} {s : State} {m : MethodId} {below : List Frame} {meth : Method} {c : Code} {D : va_G} {cy : Nat → ClassId} {cells slots b : Nat} {h : jH} {lv : List (Nat × Value)} {pc : Nat} (C : jC p s m #[Value.ref b] meth c D cy (fun q => s.heap.size ≤ q) 4 RL cL_law) (hr : meth.sig.returnType = ret) (h1 : cells ≤ 600000) (h2 : slots ≤ 7302250) (hd : decode cL_law pc = .ok (.ireturn, 1)) : jW p l e room_1 s m #[Value.ref b] below meth c D cy (fun q => s.heap.size ≤ q) 4 cells slots (lw_Z below #[Value.ref b] s) h lv pc [.int 1] := fun H locs ls hP hD hS hl => va_forget (fun q hq => hS.2.2 q hq) (W.widen h1 h2 (lw_ret C.1 C.2.1 hr C.2.2.2.2.2.2.2.1 hd))
theorem fit1 {n mc ms : Nat} (hn : n ≤ 512) (h1 : mc ≤ 3) (h2 : ms ≤ 89) : 56 + 3 * n + mc ≤ room_1.cells ∧ 8522 + 89 * n + ms ≤ room_1.slots := ⟨show _ ≤ 600000 by omega, show _ ≤ 7302250 by omega⟩
theorem fit2 {n mc ms a b : Nat} (hn : n ≤ 512) (h1 : mc ≤ 3) (h2 : ms ≤ 89) (ha : a = 0) (hb : b = 0) : 56 + 3 * n + mc + a ≤ room_1.cells ∧ 8522 + 89 * n + ms + b ≤ room_1.slots := ⟨show _ ≤ 600000 by omega, show _ ≤ 7302250 by omega⟩
theorem fit3 {n a b : Nat} (h1 : a ≤ 3) (h2 : b = 0) : 56 + 3 * n + a + b ≤ 56 + 3 * (n + 1) := by omega
theorem fit4 {n a b : Nat} (h1 : a ≤ 89) (h2 : b = 0) : 8522 + 89 * n + a + b ≤ 8522 + 89 * (n + 1) := by omega
theorem gt_6 {L n : Nat} (hL : L ≤ 3072) (hn : n ≤ 512) : nI L - 6 < nI (6 * n) ↔ L < 6 * n + 6 := by
  have e1 : (nI L - nI 6).toInt = (L : Int) - (6 : Nat) := pk_sub_toInt (by omega) (by omega)
  have e2 : (nI L - 6 : Int32) = nI L - nI 6 := rfl
  rw [Int32.lt_iff_toInt_lt, e2, e1, nI_toInt (by omega)]
  omega
set_option maxHeartbeats 4000000 in
set_option maxRecDepth 100000 in
theorem law_loop {p : Program} {l : Launch} {e : Env} {s : State} {m : MethodId} {below : List Frame} {meth : Method} {c0 : Code} {D : va_G} {cy : Nat → ClassId} {b L : Nat} {xs : Nat → Int32} (hL : L ≤ 3072) (C : jC p s m #[Value.ref b] meth c0 D cy (fun q => s.heap.size ≤ q) 4 RL cL_law) (hr : meth.sig.returnType = ret) (hX : va_X b L xs s s.heap) (hbl : b < s.heap.size) {m0 : Nat} {ad : Nat → Nat} : ∀ (t n : Nat) (h : jH) (x0 : Nat), n + t = 513 → n ≤ 512 → INV x0 m0 ad h → jW p l e room_1 s m #[Value.ref b] below meth c0 D cy (fun q => s.heap.size ≤ q) 4 (56 + 3 * n) (8522 + 89 * n) (lw_Z below #[Value.ref b] s) h [(0, .ref b), (1, .ref x0), (2, .ref m0), (3, .int (nI (6 * n)))] 18 [] := by
  have hbA : ¬ (fun q : Nat => s.heap.size ≤ q) b := Nat.not_le.mpr hbl
  intro t
  induction t with
  | zero => intro n h x0 h1 h2; exact absurd h1 (by omega)
  | succ t ih =>
    intro n h x0 ht hn5 inv
    obtain ⟨S, P, T, nf, nl, nb, ns, nt, nk, nw, yy, I, c, M, hx, hd⟩ := id inv
    subst hx
    have hn6 : nI (6 * n) + 6 = nI (6 * (n + 1)) := nI_add (6 * n) 6
    refine j_iload_n C dL_law_18 rfl ?_
    refine j_aload_n C dL_law_19 rfl ?_
    refine j_slen C hX hbl hbA dL_law_20 ?_
    refine j_bipush (v := 6) C dL_law_21 (by decide) ?_
    refine j_isub C dL_law_23 ?_
    refine j_icmp_gt (tgt := 1187) C dL_law_24 (by decide) (fun c_24 => ?_) (fun c_24 => ?_)
    · refine j_iconst (v := 1) C dL_law_1187 (by decide) ?_
      exact j_true C hr (by omega) (by omega) dL_law_1188
    · have h6 : 6 * n + 6 ≤ L := Nat.le_of_not_lt (fun z => c_24 ((gt_6 hL hn5).mpr z))
      refine j_aload_n C dL_law_27 rfl ?_
      refine j_iload_n C dL_law_28 rfl ?_
      refine j_sld (j := 6 * n) C hX hbl hbA rfl (by omega) (by omega) dL_law_29 ?_
      refine j_bipush (v := 31) C dL_law_30 (by decide) ?_
      refine j_iand C dL_law_32 ?_
      refine j_tsw (hi := 28) C dL_law_33 (fun i_33 hi_33 e_33 => ?_) (fun c_33 => ⟨1181, by decide, ?_⟩)
      · clear e_33
        rcases (show i_33 = 0 ∨ i_33 = 1 ∨ i_33 = 2 ∨ i_33 = 3 ∨ i_33 = 4 ∨ i_33 = 5 ∨ i_33 = 6 ∨ i_33 = 7 ∨ i_33 = 8 ∨ i_33 = 9 ∨ i_33 = 10 ∨ i_33 = 11 ∨ i_33 = 12 ∨ i_33 = 13 ∨ i_33 = 14 ∨ i_33 = 15 ∨ i_33 = 16 ∨ i_33 = 17 ∨ i_33 = 18 ∨ i_33 = 19 ∨ i_33 = 20 ∨ i_33 = 21 ∨ i_33 = 22 ∨ i_33 = 23 ∨ i_33 = 24 ∨ i_33 = 25 ∨ i_33 = 26 ∨ i_33 = 27 ∨ i_33 = 28 by omega) with rfl | rfl | rfl | rfl | rfl | rfl | rfl | rfl | rfl | rfl | rfl | rfl | rfl | rfl | rfl | rfl | rfl | rfl | rfl | rfl | rfl | rfl | rfl | rfl | rfl | rfl | rfl | rfl | rfl
        · refine ⟨131, 164, rfl, by decide, ?_⟩
          refine j_aload_n C dL_law_164 rfl ?_
          refine j_aload_n C dL_law_165 rfl ?_
          refine j_iload_n C dL_law_166 rfl ?_
          refine j_iconst (v := 1) C dL_law_167 (by decide) ?_
          refine j_iadd C dL_law_168 ?_
          refine j_sld (j := 6 * n + 1) C hX hbl hbA (nI_add (6 * n) 1) (by omega) (by omega) dL_law_169 ?_
          refine j_aload_n C dL_law_170 rfl ?_
          refine j_iload_n C dL_law_171 rfl ?_
          refine j_iconst (v := 2) C dL_law_172 (by decide) ?_
          refine j_iadd C dL_law_173 ?_
          refine j_sld (j := 6 * n + 2) C hX hbl hbA (nI_add (6 * n) 2) (by omega) (by omega) dL_law_174 ?_
          refine j_aload_n C dL_law_175 rfl ?_
          refine j_iload_n C dL_law_176 rfl ?_
          refine j_iconst (v := 3) C dL_law_177 (by decide) ?_
          refine j_iadd C dL_law_178 ?_
          refine j_sld (j := 6 * n + 3) C hX hbl hbA (nI_add (6 * n) 3) (by omega) (by omega) dL_law_179 ?_
          refine j_aload_n C dL_law_180 rfl ?_
          refine j_iload_n C dL_law_181 rfl ?_
          refine j_iconst (v := 4) C dL_law_182 (by decide) ?_
          refine j_iadd C dL_law_183 ?_
          refine j_sld (j := 6 * n + 4) C hX hbl hbA (nI_add (6 * n) 4) (by omega) (by omega) dL_law_184 ?_
          refine j_callVi (As := [.int (xs (6 * n + 1)), .int (xs (6 * n + 2)), .int (xs (6 * n + 3)), .int (xs (6 * n + 4))]) (rest := []) C fG_L_13 (x_field c I (xs (6 * n + 1)) (xs (6 * n + 2)) (xs (6 * n + 3)) (xs (6 * n + 4))) c.1.1.1 rfl rfl (Nat.le_of_ble_eq_true rfl) ⟨Nat.le_of_ble_eq_true rfl, Nat.le_of_ble_eq_true rfl⟩ (fit1 hn5 (Nat.le_of_ble_eq_true rfl) (Nat.le_of_ble_eq_true rfl)) dL_law_185 (fun r_185 h_185 e_185 => ?_)
          have M_185 := v_field c I M hd (xs (6 * n + 1)) (xs (6 * n + 2)) (xs (6 * n + 3)) (xs (6 * n + 4)) e_185
          refine j_aload_n C dL_law_188 rfl ?_
          refine j_aload_n C dL_law_189 rfl ?_
          refine j_iload_n C dL_law_190 rfl ?_
          refine j_iconst (v := 1) C dL_law_191 (by decide) ?_
          refine j_iadd C dL_law_192 ?_
          refine j_sld (j := 6 * n + 1) C hX hbl hbA (nI_add (6 * n) 1) (by omega) (by omega) dL_law_193 ?_
          refine j_aload_n C dL_law_194 rfl ?_
          refine j_iload_n C dL_law_195 rfl ?_
          refine j_iconst (v := 2) C dL_law_196 (by decide) ?_
          refine j_iadd C dL_law_197 ?_
          refine j_sld (j := 6 * n + 2) C hX hbl hbA (nI_add (6 * n) 2) (by omega) (by omega) dL_law_198 ?_
          refine j_aload_n C dL_law_199 rfl ?_
          refine j_iload_n C dL_law_200 rfl ?_
          refine j_iconst (v := 3) C dL_law_201 (by decide) ?_
          refine j_iadd C dL_law_202 ?_
          refine j_sld (j := 6 * n + 3) C hX hbl hbA (nI_add (6 * n) 3) (by omega) (by omega) dL_law_203 ?_
          refine j_aload_n C dL_law_204 rfl ?_
          refine j_iload_n C dL_law_205 rfl ?_
          refine j_iconst (v := 4) C dL_law_206 (by decide) ?_
          refine j_iadd C dL_law_207 ?_
          refine j_sld (j := 6 * n + 4) C hX hbl hbA (nI_add (6 * n) 4) (by omega) (by omega) dL_law_208 ?_
          refine j_callVi (As := [.int (xs (6 * n + 1)), .int (xs (6 * n + 2)), .int (xs (6 * n + 3)), .int (xs (6 * n + 4))]) (rest := [.int r_185]) C fG_L_17 (c_field (xs (6 * n + 1)) (xs (6 * n + 2)) (xs (6 * n + 3)) (xs (6 * n + 4)) I.fl.1 I.fl.2 h_185 M_185) M_185.1 rfl rfl (Nat.le_of_ble_eq_true rfl) ⟨Nat.le_of_ble_eq_true rfl, Nat.le_of_ble_eq_true rfl⟩ (fit2 hn5 (Nat.le_of_ble_eq_true rfl) (Nat.le_of_ble_eq_true rfl) rfl rfl) dL_law_209 (fun r_209 h_209 e_209 => ?_)
          obtain ⟨er_209, inv_209⟩ := w_field c I M hd (xs (6 * n + 1)) (xs (6 * n + 2)) (xs (6 * n + 3)) (xs (6 * n + 4)) e_185 e_209
          refine j_icmp_eq (tgt := 1181) C dL_law_212 (by decide) (fun c_212 => ?_) (fun c_212 => ?_)
          · refine j_iinc (lv' := [(0, .ref b), (1, .ref (P 5 0)), (2, .ref m0), (3, .int ((nI (6 * n)) + 6))]) C dL_law_1181 rfl rfl (by decide) rfl ?_
            refine j_goto (tgt := 18) C dL_law_1184 (by decide) ?_
            refine j_wd (c2 := 56 + 3 * (n + 1)) (s2 := 8522 + 89 * (n + 1)) (fit3 (Nat.le_of_ble_eq_true rfl) rfl) (fit4 (Nat.le_of_ble_eq_true rfl) rfl) ?_
            rw [hn6]
            exact ih (n + 1) h_209 (P 5 0) (by omega) (by omega) inv_209
          · exact absurd er_209 c_212
        · refine ⟨184, 217, rfl, by decide, ?_⟩
          refine j_aload_n C dL_law_217 rfl ?_
          refine j_aload_n C dL_law_218 rfl ?_
          refine j_iload_n C dL_law_219 rfl ?_
          refine j_iconst (v := 1) C dL_law_220 (by decide) ?_
          refine j_iadd C dL_law_221 ?_
          refine j_sld (j := 6 * n + 1) C hX hbl hbA (nI_add (6 * n) 1) (by omega) (by omega) dL_law_222 ?_
          refine j_aload_n C dL_law_223 rfl ?_
          refine j_iload_n C dL_law_224 rfl ?_
          refine j_iconst (v := 2) C dL_law_225 (by decide) ?_
          refine j_iadd C dL_law_226 ?_
          refine j_sld (j := 6 * n + 2) C hX hbl hbA (nI_add (6 * n) 2) (by omega) (by omega) dL_law_227 ?_
          refine j_callVi (As := [.int (xs (6 * n + 1)), .int (xs (6 * n + 2))]) (rest := []) C fG_L_18 (x_near c I.fl.1 I.fl.2 (xs (6 * n + 1)) (xs (6 * n + 2))) c.1.1.1 rfl rfl (Nat.le_of_ble_eq_true rfl) ⟨Nat.le_of_ble_eq_true rfl, Nat.le_of_ble_eq_true rfl⟩ (fit1 hn5 (Nat.le_of_ble_eq_true rfl) (Nat.le_of_ble_eq_true rfl)) dL_law_228 (fun r_228 h_228 e_228 => ?_)
          have M_228 := v_near c I M hd (xs (6 * n + 1)) (xs (6 * n + 2)) e_228
          refine j_aload_n C dL_law_231 rfl ?_
          refine j_aload_n C dL_law_232 rfl ?_
          refine j_iload_n C dL_law_233 rfl ?_
          refine j_iconst (v := 1) C dL_law_234 (by decide) ?_
          refine j_iadd C dL_law_235 ?_
          refine j_sld (j := 6 * n + 1) C hX hbl hbA (nI_add (6 * n) 1) (by omega) (by omega) dL_law_236 ?_
          refine j_aload_n C dL_law_237 rfl ?_
          refine j_iload_n C dL_law_238 rfl ?_
          refine j_iconst (v := 2) C dL_law_239 (by decide) ?_
          refine j_iadd C dL_law_240 ?_
          refine j_sld (j := 6 * n + 2) C hX hbl hbA (nI_add (6 * n) 2) (by omega) (by omega) dL_law_241 ?_
          refine j_callVi (As := [.int (xs (6 * n + 1)), .int (xs (6 * n + 2))]) (rest := [.int r_228]) C fG_L_22 (c_near (xs (6 * n + 1)) (xs (6 * n + 2)) I.fl.1 I.fl.2 h_228 M_228) M_228.1 rfl rfl (Nat.le_of_ble_eq_true rfl) ⟨Nat.le_of_ble_eq_true rfl, Nat.le_of_ble_eq_true rfl⟩ (fit2 hn5 (Nat.le_of_ble_eq_true rfl) (Nat.le_of_ble_eq_true rfl) rfl rfl) dL_law_242 (fun r_242 h_242 e_242 => ?_)
          obtain ⟨er_242, inv_242⟩ := w_near c I M hd (xs (6 * n + 1)) (xs (6 * n + 2)) e_228 e_242
          refine j_icmp_eq (tgt := 1181) C dL_law_245 (by decide) (fun c_245 => ?_) (fun c_245 => ?_)
          · refine j_iinc (lv' := [(0, .ref b), (1, .ref (P 5 0)), (2, .ref m0), (3, .int ((nI (6 * n)) + 6))]) C dL_law_1181 rfl rfl (by decide) rfl ?_
            refine j_goto (tgt := 18) C dL_law_1184 (by decide) ?_
            refine j_wd (c2 := 56 + 3 * (n + 1)) (s2 := 8522 + 89 * (n + 1)) (fit3 (Nat.le_of_ble_eq_true rfl) rfl) (fit4 (Nat.le_of_ble_eq_true rfl) rfl) ?_
            rw [hn6]
            exact ih (n + 1) h_242 (P 5 0) (by omega) (by omega) inv_242
          · exact absurd er_242 c_245
        · refine ⟨217, 250, rfl, by decide, ?_⟩
          refine j_aload_n C dL_law_250 rfl ?_
          refine j_aload_n C dL_law_251 rfl ?_
          refine j_iload_n C dL_law_252 rfl ?_
          refine j_iconst (v := 1) C dL_law_253 (by decide) ?_
          refine j_iadd C dL_law_254 ?_
          refine j_sld (j := 6 * n + 1) C hX hbl hbA (nI_add (6 * n) 1) (by omega) (by omega) dL_law_255 ?_
          refine j_aload_n C dL_law_256 rfl ?_
          refine j_iload_n C dL_law_257 rfl ?_
          refine j_iconst (v := 2) C dL_law_258 (by decide) ?_
          refine j_iadd C dL_law_259 ?_
          refine j_sld (j := 6 * n + 2) C hX hbl hbA (nI_add (6 * n) 2) (by omega) (by omega) dL_law_260 ?_
          refine j_aload_n C dL_law_261 rfl ?_
          refine j_iload_n C dL_law_262 rfl ?_
          refine j_iconst (v := 3) C dL_law_263 (by decide) ?_
          refine j_iadd C dL_law_264 ?_
          refine j_sld (j := 6 * n + 3) C hX hbl hbA (nI_add (6 * n) 3) (by omega) (by omega) dL_law_265 ?_
          refine j_callVi (As := [.int (xs (6 * n + 1)), .int (xs (6 * n + 2)), .int (xs (6 * n + 3))]) (rest := []) C fG_L_23 (x_stand c I (xs (6 * n + 1)) (xs (6 * n + 2)) (xs (6 * n + 3))) c.1.1.1 rfl rfl (Nat.le_of_ble_eq_true rfl) ⟨Nat.le_of_ble_eq_true rfl, Nat.le_of_ble_eq_true rfl⟩ (fit1 hn5 (Nat.le_of_ble_eq_true rfl) (Nat.le_of_ble_eq_true rfl)) dL_law_266 (fun r_266 h_266 e_266 => ?_)
          have M_266 := v_stand c I M hd (xs (6 * n + 1)) (xs (6 * n + 2)) (xs (6 * n + 3)) e_266
          refine j_aload_n C dL_law_269 rfl ?_
          refine j_aload_n C dL_law_270 rfl ?_
          refine j_iload_n C dL_law_271 rfl ?_
          refine j_iconst (v := 1) C dL_law_272 (by decide) ?_
          refine j_iadd C dL_law_273 ?_
          refine j_sld (j := 6 * n + 1) C hX hbl hbA (nI_add (6 * n) 1) (by omega) (by omega) dL_law_274 ?_
          refine j_aload_n C dL_law_275 rfl ?_
          refine j_iload_n C dL_law_276 rfl ?_
          refine j_iconst (v := 2) C dL_law_277 (by decide) ?_
          refine j_iadd C dL_law_278 ?_
          refine j_sld (j := 6 * n + 2) C hX hbl hbA (nI_add (6 * n) 2) (by omega) (by omega) dL_law_279 ?_
          refine j_aload_n C dL_law_280 rfl ?_
          refine j_iload_n C dL_law_281 rfl ?_
          refine j_iconst (v := 3) C dL_law_282 (by decide) ?_
          refine j_iadd C dL_law_283 ?_
          refine j_sld (j := 6 * n + 3) C hX hbl hbA (nI_add (6 * n) 3) (by omega) (by omega) dL_law_284 ?_
          refine j_callVi (As := [.int (xs (6 * n + 1)), .int (xs (6 * n + 2)), .int (xs (6 * n + 3))]) (rest := [.int r_266]) C fG_L_27 (c_stand (xs (6 * n + 1)) (xs (6 * n + 2)) (xs (6 * n + 3)) I.st.1 I.st.2 h_266 M_266) M_266.1 rfl rfl (Nat.le_of_ble_eq_true rfl) ⟨Nat.le_of_ble_eq_true rfl, Nat.le_of_ble_eq_true rfl⟩ (fit2 hn5 (Nat.le_of_ble_eq_true rfl) (Nat.le_of_ble_eq_true rfl) rfl rfl) dL_law_285 (fun r_285 h_285 e_285 => ?_)
          obtain ⟨er_285, inv_285⟩ := w_stand c I M hd (xs (6 * n + 1)) (xs (6 * n + 2)) (xs (6 * n + 3)) e_266 e_285
          refine j_icmp_eq (tgt := 1181) C dL_law_288 (by decide) (fun c_288 => ?_) (fun c_288 => ?_)
          · refine j_iinc (lv' := [(0, .ref b), (1, .ref (P 5 0)), (2, .ref m0), (3, .int ((nI (6 * n)) + 6))]) C dL_law_1181 rfl rfl (by decide) rfl ?_
            refine j_goto (tgt := 18) C dL_law_1184 (by decide) ?_
            refine j_wd (c2 := 56 + 3 * (n + 1)) (s2 := 8522 + 89 * (n + 1)) (fit3 (Nat.le_of_ble_eq_true rfl) rfl) (fit4 (Nat.le_of_ble_eq_true rfl) rfl) ?_
            rw [hn6]
            exact ih (n + 1) h_285 (P 5 0) (by omega) (by omega) inv_285
          · exact absurd er_285 c_288
        · refine ⟨260, 293, rfl, by decide, ?_⟩
          refine j_aload_n C dL_law_293 rfl ?_
          refine j_aload_n C dL_law_294 rfl ?_
          refine j_iload_n C dL_law_295 rfl ?_
          refine j_iconst (v := 1) C dL_law_296 (by decide) ?_
          refine j_iadd C dL_law_297 ?_
          refine j_sld (j := 6 * n + 1) C hX hbl hbA (nI_add (6 * n) 1) (by omega) (by omega) dL_law_298 ?_
          refine j_aload_n C dL_law_299 rfl ?_
          refine j_iload_n C dL_law_300 rfl ?_
          refine j_iconst (v := 2) C dL_law_301 (by decide) ?_
          refine j_iadd C dL_law_302 ?_
          refine j_sld (j := 6 * n + 2) C hX hbl hbA (nI_add (6 * n) 2) (by omega) (by omega) dL_law_303 ?_
          refine j_aload_n C dL_law_304 rfl ?_
          refine j_iload_n C dL_law_305 rfl ?_
          refine j_iconst (v := 3) C dL_law_306 (by decide) ?_
          refine j_iadd C dL_law_307 ?_
          refine j_sld (j := 6 * n + 3) C hX hbl hbA (nI_add (6 * n) 3) (by omega) (by omega) dL_law_308 ?_
          refine j_callVi (As := [.int (xs (6 * n + 1)), .int (xs (6 * n + 2)), .int (xs (6 * n + 3))]) (rest := []) C fG_L_28 (x_stands c I.fl.1 I.fl.2 I.lt.2 I.yr.1 I.yr.2 (xs (6 * n + 1)) (xs (6 * n + 2)) (xs (6 * n + 3))) c.1.1.1 rfl rfl (Nat.le_of_ble_eq_true rfl) ⟨Nat.le_of_ble_eq_true rfl, Nat.le_of_ble_eq_true rfl⟩ (fit1 hn5 (Nat.le_of_ble_eq_true rfl) (Nat.le_of_ble_eq_true rfl)) dL_law_309 (fun r_309 h_309 e_309 => ?_)
          have M_309 := v_stands c I M hd (xs (6 * n + 1)) (xs (6 * n + 2)) (xs (6 * n + 3)) e_309
          refine j_aload_n C dL_law_312 rfl ?_
          refine j_aload_n C dL_law_313 rfl ?_
          refine j_iload_n C dL_law_314 rfl ?_
          refine j_iconst (v := 1) C dL_law_315 (by decide) ?_
          refine j_iadd C dL_law_316 ?_
          refine j_sld (j := 6 * n + 1) C hX hbl hbA (nI_add (6 * n) 1) (by omega) (by omega) dL_law_317 ?_
          refine j_aload_n C dL_law_318 rfl ?_
          refine j_iload_n C dL_law_319 rfl ?_
          refine j_iconst (v := 2) C dL_law_320 (by decide) ?_
          refine j_iadd C dL_law_321 ?_
          refine j_sld (j := 6 * n + 2) C hX hbl hbA (nI_add (6 * n) 2) (by omega) (by omega) dL_law_322 ?_
          refine j_aload_n C dL_law_323 rfl ?_
          refine j_iload_n C dL_law_324 rfl ?_
          refine j_iconst (v := 3) C dL_law_325 (by decide) ?_
          refine j_iadd C dL_law_326 ?_
          refine j_sld (j := 6 * n + 3) C hX hbl hbA (nI_add (6 * n) 3) (by omega) (by omega) dL_law_327 ?_
          refine j_callVi (As := [.int (xs (6 * n + 1)), .int (xs (6 * n + 2)), .int (xs (6 * n + 3))]) (rest := [.int r_309]) C fG_L_32 (c_stands (xs (6 * n + 1)) (xs (6 * n + 2)) (xs (6 * n + 3)) I.lt.1 I.lt.2 I.st.1 I.st.2 h_309 M_309) M_309.1 rfl rfl (Nat.le_of_ble_eq_true rfl) ⟨Nat.le_of_ble_eq_true rfl, Nat.le_of_ble_eq_true rfl⟩ (fit2 hn5 (Nat.le_of_ble_eq_true rfl) (Nat.le_of_ble_eq_true rfl) rfl rfl) dL_law_328 (fun r_328 h_328 e_328 => ?_)
          obtain ⟨er_328, inv_328⟩ := w_stands c I M hd (xs (6 * n + 1)) (xs (6 * n + 2)) (xs (6 * n + 3)) e_309 e_328
          refine j_icmp_eq (tgt := 1181) C dL_law_331 (by decide) (fun c_331 => ?_) (fun c_331 => ?_)
          · refine j_iinc (lv' := [(0, .ref b), (1, .ref (P 5 0)), (2, .ref m0), (3, .int ((nI (6 * n)) + 6))]) C dL_law_1181 rfl rfl (by decide) rfl ?_
            refine j_goto (tgt := 18) C dL_law_1184 (by decide) ?_
            refine j_wd (c2 := 56 + 3 * (n + 1)) (s2 := 8522 + 89 * (n + 1)) (fit3 (Nat.le_of_ble_eq_true rfl) rfl) (fit4 (Nat.le_of_ble_eq_true rfl) rfl) ?_
            rw [hn6]
            exact ih (n + 1) h_328 (P 5 0) (by omega) (by omega) inv_328
          · exact absurd er_328 c_331
        · refine ⟨303, 336, rfl, by decide, ?_⟩
          refine j_aload_n C dL_law_336 rfl ?_
          refine j_aload_n C dL_law_337 rfl ?_
          refine j_iload_n C dL_law_338 rfl ?_
          refine j_iconst (v := 1) C dL_law_339 (by decide) ?_
          refine j_iadd C dL_law_340 ?_
          refine j_sld (j := 6 * n + 1) C hX hbl hbA (nI_add (6 * n) 1) (by omega) (by omega) dL_law_341 ?_
          refine j_aload_n C dL_law_342 rfl ?_
          refine j_iload_n C dL_law_343 rfl ?_
          refine j_iconst (v := 2) C dL_law_344 (by decide) ?_
          refine j_iadd C dL_law_345 ?_
          refine j_sld (j := 6 * n + 2) C hX hbl hbA (nI_add (6 * n) 2) (by omega) (by omega) dL_law_346 ?_
          refine j_aload_n C dL_law_347 rfl ?_
          refine j_iload_n C dL_law_348 rfl ?_
          refine j_iconst (v := 3) C dL_law_349 (by decide) ?_
          refine j_iadd C dL_law_350 ?_
          refine j_sld (j := 6 * n + 3) C hX hbl hbA (nI_add (6 * n) 3) (by omega) (by omega) dL_law_351 ?_
          refine j_callVi (As := [.int (xs (6 * n + 1)), .int (xs (6 * n + 2)), .int (xs (6 * n + 3))]) (rest := []) C fG_L_33 (x_statute c I (xs (6 * n + 1)) (xs (6 * n + 2)) (xs (6 * n + 3))) c.1.1.1 rfl rfl (Nat.le_of_ble_eq_true rfl) ⟨Nat.le_of_ble_eq_true rfl, Nat.le_of_ble_eq_true rfl⟩ (fit1 hn5 (Nat.le_of_ble_eq_true rfl) (Nat.le_of_ble_eq_true rfl)) dL_law_352 (fun r_352 h_352 e_352 => ?_)
          have M_352 := v_statute c I M hd (xs (6 * n + 1)) (xs (6 * n + 2)) (xs (6 * n + 3)) e_352
          refine j_aload_n C dL_law_355 rfl ?_
          refine j_aload_n C dL_law_356 rfl ?_
          refine j_iload_n C dL_law_357 rfl ?_
          refine j_iconst (v := 1) C dL_law_358 (by decide) ?_
          refine j_iadd C dL_law_359 ?_
          refine j_sld (j := 6 * n + 1) C hX hbl hbA (nI_add (6 * n) 1) (by omega) (by omega) dL_law_360 ?_
          refine j_aload_n C dL_law_361 rfl ?_
          refine j_iload_n C dL_law_362 rfl ?_
          refine j_iconst (v := 2) C dL_law_363 (by decide) ?_
          refine j_iadd C dL_law_364 ?_
          refine j_sld (j := 6 * n + 2) C hX hbl hbA (nI_add (6 * n) 2) (by omega) (by omega) dL_law_365 ?_
          refine j_aload_n C dL_law_366 rfl ?_
          refine j_iload_n C dL_law_367 rfl ?_
          refine j_iconst (v := 3) C dL_law_368 (by decide) ?_
          refine j_iadd C dL_law_369 ?_
          refine j_sld (j := 6 * n + 3) C hX hbl hbA (nI_add (6 * n) 3) (by omega) (by omega) dL_law_370 ?_
          refine j_callVi (As := [.int (xs (6 * n + 1)), .int (xs (6 * n + 2)), .int (xs (6 * n + 3))]) (rest := [.int r_352]) C fG_L_36 (c_statute (xs (6 * n + 1)) (xs (6 * n + 2)) (xs (6 * n + 3)) I.tt.1 I.tt.2 h_352 M_352) M_352.1 rfl rfl (Nat.le_of_ble_eq_true rfl) ⟨Nat.le_of_ble_eq_true rfl, Nat.le_of_ble_eq_true rfl⟩ (fit2 hn5 (Nat.le_of_ble_eq_true rfl) (Nat.le_of_ble_eq_true rfl) rfl rfl) dL_law_371 (fun r_371 h_371 e_371 => ?_)
          obtain ⟨er_371, inv_371⟩ := w_statute c I M hd (xs (6 * n + 1)) (xs (6 * n + 2)) (xs (6 * n + 3)) e_352 e_371
          refine j_icmp_eq (tgt := 1181) C dL_law_374 (by decide) (fun c_374 => ?_) (fun c_374 => ?_)
          · refine j_iinc (lv' := [(0, .ref b), (1, .ref (P 5 0)), (2, .ref m0), (3, .int ((nI (6 * n)) + 6))]) C dL_law_1181 rfl rfl (by decide) rfl ?_
            refine j_goto (tgt := 18) C dL_law_1184 (by decide) ?_
            refine j_wd (c2 := 56 + 3 * (n + 1)) (s2 := 8522 + 89 * (n + 1)) (fit3 (Nat.le_of_ble_eq_true rfl) rfl) (fit4 (Nat.le_of_ble_eq_true rfl) rfl) ?_
            rw [hn6]
            exact ih (n + 1) h_371 (P 5 0) (by omega) (by omega) inv_371
          · exact absurd er_371 c_374
        · refine ⟨346, 379, rfl, by decide, ?_⟩
          refine j_aload_n C dL_law_379 rfl ?_
          refine j_aload_n C dL_law_380 rfl ?_
          refine j_iload_n C dL_law_381 rfl ?_
          refine j_iconst (v := 1) C dL_law_382 (by decide) ?_
          refine j_iadd C dL_law_383 ?_
          refine j_sld (j := 6 * n + 1) C hX hbl hbA (nI_add (6 * n) 1) (by omega) (by omega) dL_law_384 ?_
          refine j_aload_n C dL_law_385 rfl ?_
          refine j_iload_n C dL_law_386 rfl ?_
          refine j_iconst (v := 2) C dL_law_387 (by decide) ?_
          refine j_iadd C dL_law_388 ?_
          refine j_sld (j := 6 * n + 2) C hX hbl hbA (nI_add (6 * n) 2) (by omega) (by omega) dL_law_389 ?_
          refine j_aload_n C dL_law_390 rfl ?_
          refine j_iload_n C dL_law_391 rfl ?_
          refine j_iconst (v := 3) C dL_law_392 (by decide) ?_
          refine j_iadd C dL_law_393 ?_
          refine j_sld (j := 6 * n + 3) C hX hbl hbA (nI_add (6 * n) 3) (by omega) (by omega) dL_law_394 ?_
          refine j_callVi (As := [.int (xs (6 * n + 1)), .int (xs (6 * n + 2)), .int (xs (6 * n + 3))]) (rest := []) C fG_L_37 (x_force c (fun k hk => (I.sv k hk).1) (xs (6 * n + 1)) (xs (6 * n + 2)) (xs (6 * n + 3))) c.1.1.1 rfl rfl (Nat.le_of_ble_eq_true rfl) ⟨Nat.le_of_ble_eq_true rfl, Nat.le_of_ble_eq_true rfl⟩ (fit1 hn5 (Nat.le_of_ble_eq_true rfl) (Nat.le_of_ble_eq_true rfl)) dL_law_395 (fun r_395 h_395 e_395 => ?_)
          have M_395 := v_force c I M hd (xs (6 * n + 1)) (xs (6 * n + 2)) (xs (6 * n + 3)) e_395
          refine j_aload_n C dL_law_398 rfl ?_
          refine j_aload_n C dL_law_399 rfl ?_
          refine j_iload_n C dL_law_400 rfl ?_
          refine j_iconst (v := 1) C dL_law_401 (by decide) ?_
          refine j_iadd C dL_law_402 ?_
          refine j_sld (j := 6 * n + 1) C hX hbl hbA (nI_add (6 * n) 1) (by omega) (by omega) dL_law_403 ?_
          refine j_aload_n C dL_law_404 rfl ?_
          refine j_iload_n C dL_law_405 rfl ?_
          refine j_iconst (v := 2) C dL_law_406 (by decide) ?_
          refine j_iadd C dL_law_407 ?_
          refine j_sld (j := 6 * n + 2) C hX hbl hbA (nI_add (6 * n) 2) (by omega) (by omega) dL_law_408 ?_
          refine j_aload_n C dL_law_409 rfl ?_
          refine j_iload_n C dL_law_410 rfl ?_
          refine j_iconst (v := 3) C dL_law_411 (by decide) ?_
          refine j_iadd C dL_law_412 ?_
          refine j_sld (j := 6 * n + 3) C hX hbl hbA (nI_add (6 * n) 3) (by omega) (by omega) dL_law_413 ?_
          refine j_callVi (As := [.int (xs (6 * n + 1)), .int (xs (6 * n + 2)), .int (xs (6 * n + 3))]) (rest := [.int r_395]) C fG_L_40 (c_force (xs (6 * n + 1)) (xs (6 * n + 2)) (xs (6 * n + 3)) I.tt.1 I.tt.2 h_395 M_395) M_395.1 rfl rfl (Nat.le_of_ble_eq_true rfl) ⟨Nat.le_of_ble_eq_true rfl, Nat.le_of_ble_eq_true rfl⟩ (fit2 hn5 (Nat.le_of_ble_eq_true rfl) (Nat.le_of_ble_eq_true rfl) rfl rfl) dL_law_414 (fun r_414 h_414 e_414 => ?_)
          obtain ⟨er_414, inv_414⟩ := w_force c I M hd (xs (6 * n + 1)) (xs (6 * n + 2)) (xs (6 * n + 3)) e_395 e_414
          refine j_icmp_eq (tgt := 1181) C dL_law_417 (by decide) (fun c_417 => ?_) (fun c_417 => ?_)
          · refine j_iinc (lv' := [(0, .ref b), (1, .ref (P 5 0)), (2, .ref m0), (3, .int ((nI (6 * n)) + 6))]) C dL_law_1181 rfl rfl (by decide) rfl ?_
            refine j_goto (tgt := 18) C dL_law_1184 (by decide) ?_
            refine j_wd (c2 := 56 + 3 * (n + 1)) (s2 := 8522 + 89 * (n + 1)) (fit3 (Nat.le_of_ble_eq_true rfl) rfl) (fit4 (Nat.le_of_ble_eq_true rfl) rfl) ?_
            rw [hn6]
            exact ih (n + 1) h_414 (P 5 0) (by omega) (by omega) inv_414
          · exact absurd er_414 c_417
        · refine ⟨389, 422, rfl, by decide, ?_⟩
          refine j_aload_n C dL_law_422 rfl ?_
          refine j_aload_n C dL_law_423 rfl ?_
          refine j_iload_n C dL_law_424 rfl ?_
          refine j_iconst (v := 1) C dL_law_425 (by decide) ?_
          refine j_iadd C dL_law_426 ?_
          refine j_sld (j := 6 * n + 1) C hX hbl hbA (nI_add (6 * n) 1) (by omega) (by omega) dL_law_427 ?_
          refine j_callVi (As := [.int (xs (6 * n + 1))]) (rest := []) C fG_L_41 (x_tube c I (xs (6 * n + 1))) c.1.1.1 rfl rfl (Nat.le_of_ble_eq_true rfl) ⟨Nat.le_of_ble_eq_true rfl, Nat.le_of_ble_eq_true rfl⟩ (fit1 hn5 (Nat.le_of_ble_eq_true rfl) (Nat.le_of_ble_eq_true rfl)) dL_law_428 (fun r_428 h_428 e_428 => ?_)
          have M_428 := v_tube c I M hd (xs (6 * n + 1)) e_428
          refine j_aload_n C dL_law_431 rfl ?_
          refine j_aload_n C dL_law_432 rfl ?_
          refine j_iload_n C dL_law_433 rfl ?_
          refine j_iconst (v := 1) C dL_law_434 (by decide) ?_
          refine j_iadd C dL_law_435 ?_
          refine j_sld (j := 6 * n + 1) C hX hbl hbA (nI_add (6 * n) 1) (by omega) (by omega) dL_law_436 ?_
          refine j_callVi (As := [.int (xs (6 * n + 1))]) (rest := [.int r_428]) C fG_L_45 (c_tube (xs (6 * n + 1)) I.lt.1 I.lt.2 h_428 M_428) M_428.1 rfl rfl (Nat.le_of_ble_eq_true rfl) ⟨Nat.le_of_ble_eq_true rfl, Nat.le_of_ble_eq_true rfl⟩ (fit2 hn5 (Nat.le_of_ble_eq_true rfl) (Nat.le_of_ble_eq_true rfl) rfl rfl) dL_law_437 (fun r_437 h_437 e_437 => ?_)
          obtain ⟨er_437, inv_437⟩ := w_tube c I M hd (xs (6 * n + 1)) e_428 e_437
          refine j_icmp_eq (tgt := 1181) C dL_law_440 (by decide) (fun c_440 => ?_) (fun c_440 => ?_)
          · refine j_iinc (lv' := [(0, .ref b), (1, .ref (P 5 0)), (2, .ref m0), (3, .int ((nI (6 * n)) + 6))]) C dL_law_1181 rfl rfl (by decide) rfl ?_
            refine j_goto (tgt := 18) C dL_law_1184 (by decide) ?_
            refine j_wd (c2 := 56 + 3 * (n + 1)) (s2 := 8522 + 89 * (n + 1)) (fit3 (Nat.le_of_ble_eq_true rfl) rfl) (fit4 (Nat.le_of_ble_eq_true rfl) rfl) ?_
            rw [hn6]
            exact ih (n + 1) h_437 (P 5 0) (by omega) (by omega) inv_437
          · exact absurd er_437 c_440
        · refine ⟨412, 445, rfl, by decide, ?_⟩
          refine j_aload_n C dL_law_445 rfl ?_
          refine j_aload_n C dL_law_446 rfl ?_
          refine j_iload_n C dL_law_447 rfl ?_
          refine j_iconst (v := 1) C dL_law_448 (by decide) ?_
          refine j_iadd C dL_law_449 ?_
          refine j_sld (j := 6 * n + 1) C hX hbl hbA (nI_add (6 * n) 1) (by omega) (by omega) dL_law_450 ?_
          refine j_aload_n C dL_law_451 rfl ?_
          refine j_iload_n C dL_law_452 rfl ?_
          refine j_iconst (v := 2) C dL_law_453 (by decide) ?_
          refine j_iadd C dL_law_454 ?_
          refine j_sld (j := 6 * n + 2) C hX hbl hbA (nI_add (6 * n) 2) (by omega) (by omega) dL_law_455 ?_
          refine j_aload_n C dL_law_456 rfl ?_
          refine j_iload_n C dL_law_457 rfl ?_
          refine j_iconst (v := 3) C dL_law_458 (by decide) ?_
          refine j_iadd C dL_law_459 ?_
          refine j_sld (j := 6 * n + 3) C hX hbl hbA (nI_add (6 * n) 3) (by omega) (by omega) dL_law_460 ?_
          refine j_callVi (As := [.int (xs (6 * n + 1)), .int (xs (6 * n + 2)), .int (xs (6 * n + 3))]) (rest := []) C fG_L_46 (x_sow c I (xs (6 * n + 1)) (xs (6 * n + 2)) (xs (6 * n + 3))) c.1.1.1 rfl rfl (Nat.le_of_ble_eq_true rfl) ⟨Nat.le_of_ble_eq_true rfl, Nat.le_of_ble_eq_true rfl⟩ (fit1 hn5 (Nat.le_of_ble_eq_true rfl) (Nat.le_of_ble_eq_true rfl)) dL_law_461 (fun r_461 h_461 e_461 => ?_)
          have M_461 := v_sow c I M hd (xs (6 * n + 1)) (xs (6 * n + 2)) (xs (6 * n + 3)) e_461
          refine j_aload_n C dL_law_464 rfl ?_
          refine j_aload_n C dL_law_465 rfl ?_
          refine j_iload_n C dL_law_466 rfl ?_
          refine j_iconst (v := 1) C dL_law_467 (by decide) ?_
          refine j_iadd C dL_law_468 ?_
          refine j_sld (j := 6 * n + 1) C hX hbl hbA (nI_add (6 * n) 1) (by omega) (by omega) dL_law_469 ?_
          refine j_aload_n C dL_law_470 rfl ?_
          refine j_iload_n C dL_law_471 rfl ?_
          refine j_iconst (v := 2) C dL_law_472 (by decide) ?_
          refine j_iadd C dL_law_473 ?_
          refine j_sld (j := 6 * n + 2) C hX hbl hbA (nI_add (6 * n) 2) (by omega) (by omega) dL_law_474 ?_
          refine j_aload_n C dL_law_475 rfl ?_
          refine j_iload_n C dL_law_476 rfl ?_
          refine j_iconst (v := 3) C dL_law_477 (by decide) ?_
          refine j_iadd C dL_law_478 ?_
          refine j_sld (j := 6 * n + 3) C hX hbl hbA (nI_add (6 * n) 3) (by omega) (by omega) dL_law_479 ?_
          refine j_callVi (As := [.int (xs (6 * n + 1)), .int (xs (6 * n + 2)), .int (xs (6 * n + 3))]) (rest := [.int r_461]) C fG_L_49 (c_sow (xs (6 * n + 1)) (xs (6 * n + 2)) (xs (6 * n + 3)) I.fl.1 I.fl.2 I.lt.1 I.lt.2 h_461 M_461) M_461.1 rfl rfl (Nat.le_of_ble_eq_true rfl) ⟨Nat.le_of_ble_eq_true rfl, Nat.le_of_ble_eq_true rfl⟩ (fit2 hn5 (Nat.le_of_ble_eq_true rfl) (Nat.le_of_ble_eq_true rfl) rfl rfl) dL_law_480 (fun r_480 h_480 e_480 => ?_)
          obtain ⟨er_480, inv_480⟩ := w_sow c I M hd (xs (6 * n + 1)) (xs (6 * n + 2)) (xs (6 * n + 3)) e_461 e_480
          refine j_icmp_eq (tgt := 1181) C dL_law_483 (by decide) (fun c_483 => ?_) (fun c_483 => ?_)
          · refine j_iinc (lv' := [(0, .ref b), (1, .ref (P 5 0)), (2, .ref m0), (3, .int ((nI (6 * n)) + 6))]) C dL_law_1181 rfl rfl (by decide) rfl ?_
            refine j_goto (tgt := 18) C dL_law_1184 (by decide) ?_
            refine j_wd (c2 := 56 + 3 * (n + 1)) (s2 := 8522 + 89 * (n + 1)) (fit3 (Nat.le_of_ble_eq_true rfl) rfl) (fit4 (Nat.le_of_ble_eq_true rfl) rfl) ?_
            rw [hn6]
            exact ih (n + 1) h_480 (P 5 0) (by omega) (by omega) inv_480
          · exact absurd er_480 c_483
        · refine ⟨455, 488, rfl, by decide, ?_⟩
          refine j_aload_n C dL_law_488 rfl ?_
          refine j_aload_n C dL_law_489 rfl ?_
          refine j_iload_n C dL_law_490 rfl ?_
          refine j_iconst (v := 1) C dL_law_491 (by decide) ?_
          refine j_iadd C dL_law_492 ?_
          refine j_sld (j := 6 * n + 1) C hX hbl hbA (nI_add (6 * n) 1) (by omega) (by omega) dL_law_493 ?_
          refine j_aload_n C dL_law_494 rfl ?_
          refine j_iload_n C dL_law_495 rfl ?_
          refine j_iconst (v := 2) C dL_law_496 (by decide) ?_
          refine j_iadd C dL_law_497 ?_
          refine j_sld (j := 6 * n + 2) C hX hbl hbA (nI_add (6 * n) 2) (by omega) (by omega) dL_law_498 ?_
          refine j_callVi (As := [.int (xs (6 * n + 1)), .int (xs (6 * n + 2))]) (rest := []) C fG_L_50 (x_harvest c I.lt.1 I.lt.2 (xs (6 * n + 1)) (xs (6 * n + 2))) c.1.1.1 rfl rfl (Nat.le_of_ble_eq_true rfl) ⟨Nat.le_of_ble_eq_true rfl, Nat.le_of_ble_eq_true rfl⟩ (fit1 hn5 (Nat.le_of_ble_eq_true rfl) (Nat.le_of_ble_eq_true rfl)) dL_law_499 (fun r_499 h_499 e_499 => ?_)
          have M_499 := v_harvest c I M hd (xs (6 * n + 1)) (xs (6 * n + 2)) e_499
          refine j_aload_n C dL_law_502 rfl ?_
          refine j_aload_n C dL_law_503 rfl ?_
          refine j_iload_n C dL_law_504 rfl ?_
          refine j_iconst (v := 1) C dL_law_505 (by decide) ?_
          refine j_iadd C dL_law_506 ?_
          refine j_sld (j := 6 * n + 1) C hX hbl hbA (nI_add (6 * n) 1) (by omega) (by omega) dL_law_507 ?_
          refine j_aload_n C dL_law_508 rfl ?_
          refine j_iload_n C dL_law_509 rfl ?_
          refine j_iconst (v := 2) C dL_law_510 (by decide) ?_
          refine j_iadd C dL_law_511 ?_
          refine j_sld (j := 6 * n + 2) C hX hbl hbA (nI_add (6 * n) 2) (by omega) (by omega) dL_law_512 ?_
          refine j_callVi (As := [.int (xs (6 * n + 1)), .int (xs (6 * n + 2))]) (rest := [.int r_499]) C fG_L_54 (c_harvest (xs (6 * n + 1)) (xs (6 * n + 2)) I.lt.1 I.lt.2 h_499 M_499) M_499.1 rfl rfl (Nat.le_of_ble_eq_true rfl) ⟨Nat.le_of_ble_eq_true rfl, Nat.le_of_ble_eq_true rfl⟩ (fit2 hn5 (Nat.le_of_ble_eq_true rfl) (Nat.le_of_ble_eq_true rfl) rfl rfl) dL_law_513 (fun r_513 h_513 e_513 => ?_)
          obtain ⟨er_513, inv_513⟩ := w_harvest c I M hd (xs (6 * n + 1)) (xs (6 * n + 2)) e_499 e_513
          refine j_icmp_eq (tgt := 1181) C dL_law_516 (by decide) (fun c_516 => ?_) (fun c_516 => ?_)
          · refine j_iinc (lv' := [(0, .ref b), (1, .ref (P 5 0)), (2, .ref m0), (3, .int ((nI (6 * n)) + 6))]) C dL_law_1181 rfl rfl (by decide) rfl ?_
            refine j_goto (tgt := 18) C dL_law_1184 (by decide) ?_
            refine j_wd (c2 := 56 + 3 * (n + 1)) (s2 := 8522 + 89 * (n + 1)) (fit3 (Nat.le_of_ble_eq_true rfl) rfl) (fit4 (Nat.le_of_ble_eq_true rfl) rfl) ?_
            rw [hn6]
            exact ih (n + 1) h_513 (P 5 0) (by omega) (by omega) inv_513
          · exact absurd er_513 c_516
        · refine ⟨488, 521, rfl, by decide, ?_⟩
          refine j_aload_n C dL_law_521 rfl ?_
          refine j_aload_n C dL_law_522 rfl ?_
          refine j_iload_n C dL_law_523 rfl ?_
          refine j_iconst (v := 1) C dL_law_524 (by decide) ?_
          refine j_iadd C dL_law_525 ?_
          refine j_sld (j := 6 * n + 1) C hX hbl hbA (nI_add (6 * n) 1) (by omega) (by omega) dL_law_526 ?_
          refine j_aload_n C dL_law_527 rfl ?_
          refine j_iload_n C dL_law_528 rfl ?_
          refine j_iconst (v := 2) C dL_law_529 (by decide) ?_
          refine j_iadd C dL_law_530 ?_
          refine j_sld (j := 6 * n + 2) C hX hbl hbA (nI_add (6 * n) 2) (by omega) (by omega) dL_law_531 ?_
          refine j_aload_n C dL_law_532 rfl ?_
          refine j_iload_n C dL_law_533 rfl ?_
          refine j_iconst (v := 3) C dL_law_534 (by decide) ?_
          refine j_iadd C dL_law_535 ?_
          refine j_sld (j := 6 * n + 3) C hX hbl hbA (nI_add (6 * n) 3) (by omega) (by omega) dL_law_536 ?_
          refine j_aload_n C dL_law_537 rfl ?_
          refine j_iload_n C dL_law_538 rfl ?_
          refine j_iconst (v := 4) C dL_law_539 (by decide) ?_
          refine j_iadd C dL_law_540 ?_
          refine j_sld (j := 6 * n + 4) C hX hbl hbA (nI_add (6 * n) 4) (by omega) (by omega) dL_law_541 ?_
          refine j_callVi (As := [.int (xs (6 * n + 1)), .int (xs (6 * n + 2)), .int (xs (6 * n + 3)), .int (xs (6 * n + 4))]) (rest := []) C fG_L_55 (x_mix c I (xs (6 * n + 1)) (xs (6 * n + 2)) (xs (6 * n + 3)) (xs (6 * n + 4))) c.1.1.1 rfl rfl (Nat.le_of_ble_eq_true rfl) ⟨Nat.le_of_ble_eq_true rfl, Nat.le_of_ble_eq_true rfl⟩ (fit1 hn5 (Nat.le_of_ble_eq_true rfl) (Nat.le_of_ble_eq_true rfl)) dL_law_542 (fun r_542 h_542 e_542 => ?_)
          have M_542 := v_mix c I M hd (xs (6 * n + 1)) (xs (6 * n + 2)) (xs (6 * n + 3)) (xs (6 * n + 4)) e_542
          refine j_aload_n C dL_law_545 rfl ?_
          refine j_aload_n C dL_law_546 rfl ?_
          refine j_iload_n C dL_law_547 rfl ?_
          refine j_iconst (v := 1) C dL_law_548 (by decide) ?_
          refine j_iadd C dL_law_549 ?_
          refine j_sld (j := 6 * n + 1) C hX hbl hbA (nI_add (6 * n) 1) (by omega) (by omega) dL_law_550 ?_
          refine j_aload_n C dL_law_551 rfl ?_
          refine j_iload_n C dL_law_552 rfl ?_
          refine j_iconst (v := 2) C dL_law_553 (by decide) ?_
          refine j_iadd C dL_law_554 ?_
          refine j_sld (j := 6 * n + 2) C hX hbl hbA (nI_add (6 * n) 2) (by omega) (by omega) dL_law_555 ?_
          refine j_aload_n C dL_law_556 rfl ?_
          refine j_iload_n C dL_law_557 rfl ?_
          refine j_iconst (v := 3) C dL_law_558 (by decide) ?_
          refine j_iadd C dL_law_559 ?_
          refine j_sld (j := 6 * n + 3) C hX hbl hbA (nI_add (6 * n) 3) (by omega) (by omega) dL_law_560 ?_
          refine j_aload_n C dL_law_561 rfl ?_
          refine j_iload_n C dL_law_562 rfl ?_
          refine j_iconst (v := 4) C dL_law_563 (by decide) ?_
          refine j_iadd C dL_law_564 ?_
          refine j_sld (j := 6 * n + 4) C hX hbl hbA (nI_add (6 * n) 4) (by omega) (by omega) dL_law_565 ?_
          refine j_callVi (As := [.int (xs (6 * n + 1)), .int (xs (6 * n + 2)), .int (xs (6 * n + 3)), .int (xs (6 * n + 4))]) (rest := [.int r_542]) C fG_L_58 (c_mix (xs (6 * n + 1)) (xs (6 * n + 2)) (xs (6 * n + 3)) (xs (6 * n + 4)) I.lt.1 I.lt.2 h_542 M_542) M_542.1 rfl rfl (Nat.le_of_ble_eq_true rfl) ⟨Nat.le_of_ble_eq_true rfl, Nat.le_of_ble_eq_true rfl⟩ (fit2 hn5 (Nat.le_of_ble_eq_true rfl) (Nat.le_of_ble_eq_true rfl) rfl rfl) dL_law_566 (fun r_566 h_566 e_566 => ?_)
          obtain ⟨er_566, inv_566⟩ := w_mix c I M hd (xs (6 * n + 1)) (xs (6 * n + 2)) (xs (6 * n + 3)) (xs (6 * n + 4)) e_542 e_566
          refine j_icmp_eq (tgt := 1181) C dL_law_569 (by decide) (fun c_569 => ?_) (fun c_569 => ?_)
          · refine j_iinc (lv' := [(0, .ref b), (1, .ref (P 5 0)), (2, .ref m0), (3, .int ((nI (6 * n)) + 6))]) C dL_law_1181 rfl rfl (by decide) rfl ?_
            refine j_goto (tgt := 18) C dL_law_1184 (by decide) ?_
            refine j_wd (c2 := 56 + 3 * (n + 1)) (s2 := 8522 + 89 * (n + 1)) (fit3 (Nat.le_of_ble_eq_true rfl) rfl) (fit4 (Nat.le_of_ble_eq_true rfl) rfl) ?_
            rw [hn6]
            exact ih (n + 1) h_566 (P 5 0) (by omega) (by omega) inv_566
          · exact absurd er_566 c_569
        · refine ⟨541, 574, rfl, by decide, ?_⟩
          refine j_aload_n C dL_law_574 rfl ?_
          refine j_aload_n C dL_law_575 rfl ?_
          refine j_iload_n C dL_law_576 rfl ?_
          refine j_iconst (v := 1) C dL_law_577 (by decide) ?_
          refine j_iadd C dL_law_578 ?_
          refine j_sld (j := 6 * n + 1) C hX hbl hbA (nI_add (6 * n) 1) (by omega) (by omega) dL_law_579 ?_
          refine j_aload_n C dL_law_580 rfl ?_
          refine j_iload_n C dL_law_581 rfl ?_
          refine j_iconst (v := 2) C dL_law_582 (by decide) ?_
          refine j_iadd C dL_law_583 ?_
          refine j_sld (j := 6 * n + 2) C hX hbl hbA (nI_add (6 * n) 2) (by omega) (by omega) dL_law_584 ?_
          refine j_callVi (As := [.int (xs (6 * n + 1)), .int (xs (6 * n + 2))]) (rest := []) C fG_L_59 (x_bag c I (xs (6 * n + 1)) (xs (6 * n + 2))) c.1.1.1 rfl rfl (Nat.le_of_ble_eq_true rfl) ⟨Nat.le_of_ble_eq_true rfl, Nat.le_of_ble_eq_true rfl⟩ (fit1 hn5 (Nat.le_of_ble_eq_true rfl) (Nat.le_of_ble_eq_true rfl)) dL_law_585 (fun r_585 h_585 e_585 => ?_)
          have M_585 := v_bag c I M hd (xs (6 * n + 1)) (xs (6 * n + 2)) e_585
          refine j_aload_n C dL_law_588 rfl ?_
          refine j_aload_n C dL_law_589 rfl ?_
          refine j_iload_n C dL_law_590 rfl ?_
          refine j_iconst (v := 1) C dL_law_591 (by decide) ?_
          refine j_iadd C dL_law_592 ?_
          refine j_sld (j := 6 * n + 1) C hX hbl hbA (nI_add (6 * n) 1) (by omega) (by omega) dL_law_593 ?_
          refine j_aload_n C dL_law_594 rfl ?_
          refine j_iload_n C dL_law_595 rfl ?_
          refine j_iconst (v := 2) C dL_law_596 (by decide) ?_
          refine j_iadd C dL_law_597 ?_
          refine j_sld (j := 6 * n + 2) C hX hbl hbA (nI_add (6 * n) 2) (by omega) (by omega) dL_law_598 ?_
          refine j_callVi (As := [.int (xs (6 * n + 1)), .int (xs (6 * n + 2))]) (rest := [.int r_585]) C fG_L_62 (c_bag (xs (6 * n + 1)) (xs (6 * n + 2)) I.ci I.bg.1 I.bg.2 h_585 M_585) M_585.1 rfl rfl (Nat.le_of_ble_eq_true rfl) ⟨Nat.le_of_ble_eq_true rfl, Nat.le_of_ble_eq_true rfl⟩ (fit2 hn5 (Nat.le_of_ble_eq_true rfl) (Nat.le_of_ble_eq_true rfl) rfl rfl) dL_law_599 (fun r_599 h_599 e_599 => ?_)
          obtain ⟨er_599, inv_599⟩ := w_bag c I M hd (xs (6 * n + 1)) (xs (6 * n + 2)) e_585 e_599
          refine j_icmp_eq (tgt := 1181) C dL_law_602 (by decide) (fun c_602 => ?_) (fun c_602 => ?_)
          · refine j_iinc (lv' := [(0, .ref b), (1, .ref (P 5 0)), (2, .ref m0), (3, .int ((nI (6 * n)) + 6))]) C dL_law_1181 rfl rfl (by decide) rfl ?_
            refine j_goto (tgt := 18) C dL_law_1184 (by decide) ?_
            refine j_wd (c2 := 56 + 3 * (n + 1)) (s2 := 8522 + 89 * (n + 1)) (fit3 (Nat.le_of_ble_eq_true rfl) rfl) (fit4 (Nat.le_of_ble_eq_true rfl) rfl) ?_
            rw [hn6]
            exact ih (n + 1) h_599 (P 5 0) (by omega) (by omega) inv_599
          · exact absurd er_599 c_602
        · refine ⟨574, 607, rfl, by decide, ?_⟩
          refine j_aload_n C dL_law_607 rfl ?_
          refine j_aload_n C dL_law_608 rfl ?_
          refine j_iload_n C dL_law_609 rfl ?_
          refine j_iconst (v := 1) C dL_law_610 (by decide) ?_
          refine j_iadd C dL_law_611 ?_
          refine j_sld (j := 6 * n + 1) C hX hbl hbA (nI_add (6 * n) 1) (by omega) (by omega) dL_law_612 ?_
          refine j_callVi (As := [.int (xs (6 * n + 1))]) (rest := []) C fG_L_63 (x_open c I.bg.1 I.bg.2 (xs (6 * n + 1))) c.1.1.1 rfl rfl (Nat.le_of_ble_eq_true rfl) ⟨Nat.le_of_ble_eq_true rfl, Nat.le_of_ble_eq_true rfl⟩ (fit1 hn5 (Nat.le_of_ble_eq_true rfl) (Nat.le_of_ble_eq_true rfl)) dL_law_613 (fun r_613 h_613 e_613 => ?_)
          have M_613 := v_open c I M hd (xs (6 * n + 1)) e_613
          refine j_aload_n C dL_law_616 rfl ?_
          refine j_aload_n C dL_law_617 rfl ?_
          refine j_iload_n C dL_law_618 rfl ?_
          refine j_iconst (v := 1) C dL_law_619 (by decide) ?_
          refine j_iadd C dL_law_620 ?_
          refine j_sld (j := 6 * n + 1) C hX hbl hbA (nI_add (6 * n) 1) (by omega) (by omega) dL_law_621 ?_
          refine j_callVi (As := [.int (xs (6 * n + 1))]) (rest := [.int r_613]) C fG_L_67 (c_open (xs (6 * n + 1)) I.bg.1 I.bg.2 h_613 M_613) M_613.1 rfl rfl (Nat.le_of_ble_eq_true rfl) ⟨Nat.le_of_ble_eq_true rfl, Nat.le_of_ble_eq_true rfl⟩ (fit2 hn5 (Nat.le_of_ble_eq_true rfl) (Nat.le_of_ble_eq_true rfl) rfl rfl) dL_law_622 (fun r_622 h_622 e_622 => ?_)
          obtain ⟨er_622, inv_622⟩ := w_open c I M hd (xs (6 * n + 1)) e_613 e_622
          refine j_icmp_eq (tgt := 1181) C dL_law_625 (by decide) (fun c_625 => ?_) (fun c_625 => ?_)
          · refine j_iinc (lv' := [(0, .ref b), (1, .ref (P 5 0)), (2, .ref m0), (3, .int ((nI (6 * n)) + 6))]) C dL_law_1181 rfl rfl (by decide) rfl ?_
            refine j_goto (tgt := 18) C dL_law_1184 (by decide) ?_
            refine j_wd (c2 := 56 + 3 * (n + 1)) (s2 := 8522 + 89 * (n + 1)) (fit3 (Nat.le_of_ble_eq_true rfl) rfl) (fit4 (Nat.le_of_ble_eq_true rfl) rfl) ?_
            rw [hn6]
            exact ih (n + 1) h_622 (P 5 0) (by omega) (by omega) inv_622
          · exact absurd er_622 c_625
        · refine ⟨597, 630, rfl, by decide, ?_⟩
          refine j_aload_n C dL_law_630 rfl ?_
          refine j_aload_n C dL_law_631 rfl ?_
          refine j_iload_n C dL_law_632 rfl ?_
          refine j_iconst (v := 1) C dL_law_633 (by decide) ?_
          refine j_iadd C dL_law_634 ?_
          refine j_sld (j := 6 * n + 1) C hX hbl hbA (nI_add (6 * n) 1) (by omega) (by omega) dL_law_635 ?_
          refine j_callVi (As := [.int (xs (6 * n + 1))]) (rest := []) C fG_L_68 (x_seal c I (xs (6 * n + 1))) c.1.1.1 rfl rfl (Nat.le_of_ble_eq_true rfl) ⟨Nat.le_of_ble_eq_true rfl, Nat.le_of_ble_eq_true rfl⟩ (fit1 hn5 (Nat.le_of_ble_eq_true rfl) (Nat.le_of_ble_eq_true rfl)) dL_law_636 (fun r_636 h_636 e_636 => ?_)
          have M_636 := v_seal c I M hd (xs (6 * n + 1)) e_636
          refine j_aload_n C dL_law_639 rfl ?_
          refine j_aload_n C dL_law_640 rfl ?_
          refine j_iload_n C dL_law_641 rfl ?_
          refine j_iconst (v := 1) C dL_law_642 (by decide) ?_
          refine j_iadd C dL_law_643 ?_
          refine j_sld (j := 6 * n + 1) C hX hbl hbA (nI_add (6 * n) 1) (by omega) (by omega) dL_law_644 ?_
          refine j_callVi (As := [.int (xs (6 * n + 1))]) (rest := [.int r_636]) C fG_L_71 (c_seal (xs (6 * n + 1)) I.ci I.bg.1 I.bg.2 I.bl h_636 M_636) M_636.1 rfl rfl (Nat.le_of_ble_eq_true rfl) ⟨Nat.le_of_ble_eq_true rfl, Nat.le_of_ble_eq_true rfl⟩ (fit2 hn5 (Nat.le_of_ble_eq_true rfl) (Nat.le_of_ble_eq_true rfl) rfl rfl) dL_law_645 (fun r_645 h_645 e_645 => ?_)
          obtain ⟨er_645, inv_645⟩ := w_seal c I M hd (xs (6 * n + 1)) e_636 e_645
          refine j_icmp_eq (tgt := 1181) C dL_law_648 (by decide) (fun c_648 => ?_) (fun c_648 => ?_)
          · refine j_iinc (lv' := [(0, .ref b), (1, .ref (P 5 0)), (2, .ref m0), (3, .int ((nI (6 * n)) + 6))]) C dL_law_1181 rfl rfl (by decide) rfl ?_
            refine j_goto (tgt := 18) C dL_law_1184 (by decide) ?_
            refine j_wd (c2 := 56 + 3 * (n + 1)) (s2 := 8522 + 89 * (n + 1)) (fit3 (Nat.le_of_ble_eq_true rfl) rfl) (fit4 (Nat.le_of_ble_eq_true rfl) rfl) ?_
            rw [hn6]
            exact ih (n + 1) h_645 (P 5 0) (by omega) (by omega) inv_645
          · exact absurd er_645 c_648
        · refine ⟨620, 653, rfl, by decide, ?_⟩
          refine j_aload_n C dL_law_653 rfl ?_
          refine j_aload_n C dL_law_654 rfl ?_
          refine j_iload_n C dL_law_655 rfl ?_
          refine j_iconst (v := 1) C dL_law_656 (by decide) ?_
          refine j_iadd C dL_law_657 ?_
          refine j_sld (j := 6 * n + 1) C hX hbl hbA (nI_add (6 * n) 1) (by omega) (by omega) dL_law_658 ?_
          refine j_aload_n C dL_law_659 rfl ?_
          refine j_iload_n C dL_law_660 rfl ?_
          refine j_iconst (v := 2) C dL_law_661 (by decide) ?_
          refine j_iadd C dL_law_662 ?_
          refine j_sld (j := 6 * n + 2) C hX hbl hbA (nI_add (6 * n) 2) (by omega) (by omega) dL_law_663 ?_
          refine j_callVi (As := [.int (xs (6 * n + 1)), .int (xs (6 * n + 2))]) (rest := []) C fG_L_72 (x_sell c I.bg.1 I.bg.2 (xs (6 * n + 1)) (xs (6 * n + 2))) c.1.1.1 rfl rfl (Nat.le_of_ble_eq_true rfl) ⟨Nat.le_of_ble_eq_true rfl, Nat.le_of_ble_eq_true rfl⟩ (fit1 hn5 (Nat.le_of_ble_eq_true rfl) (Nat.le_of_ble_eq_true rfl)) dL_law_664 (fun r_664 h_664 e_664 => ?_)
          have M_664 := v_sell c I M hd (xs (6 * n + 1)) (xs (6 * n + 2)) e_664
          refine j_aload_n C dL_law_667 rfl ?_
          refine j_aload_n C dL_law_668 rfl ?_
          refine j_iload_n C dL_law_669 rfl ?_
          refine j_iconst (v := 1) C dL_law_670 (by decide) ?_
          refine j_iadd C dL_law_671 ?_
          refine j_sld (j := 6 * n + 1) C hX hbl hbA (nI_add (6 * n) 1) (by omega) (by omega) dL_law_672 ?_
          refine j_aload_n C dL_law_673 rfl ?_
          refine j_iload_n C dL_law_674 rfl ?_
          refine j_iconst (v := 2) C dL_law_675 (by decide) ?_
          refine j_iadd C dL_law_676 ?_
          refine j_sld (j := 6 * n + 2) C hX hbl hbA (nI_add (6 * n) 2) (by omega) (by omega) dL_law_677 ?_
          refine j_callVi (As := [.int (xs (6 * n + 1)), .int (xs (6 * n + 2))]) (rest := [.int r_664]) C fG_L_75 (c_sell (xs (6 * n + 1)) (xs (6 * n + 2)) I.bg.1 I.bg.2 h_664 M_664) M_664.1 rfl rfl (Nat.le_of_ble_eq_true rfl) ⟨Nat.le_of_ble_eq_true rfl, Nat.le_of_ble_eq_true rfl⟩ (fit2 hn5 (Nat.le_of_ble_eq_true rfl) (Nat.le_of_ble_eq_true rfl) rfl rfl) dL_law_678 (fun r_678 h_678 e_678 => ?_)
          obtain ⟨er_678, inv_678⟩ := w_sell c I M hd (xs (6 * n + 1)) (xs (6 * n + 2)) e_664 e_678
          refine j_icmp_eq (tgt := 1181) C dL_law_681 (by decide) (fun c_681 => ?_) (fun c_681 => ?_)
          · refine j_iinc (lv' := [(0, .ref b), (1, .ref (P 5 0)), (2, .ref m0), (3, .int ((nI (6 * n)) + 6))]) C dL_law_1181 rfl rfl (by decide) rfl ?_
            refine j_goto (tgt := 18) C dL_law_1184 (by decide) ?_
            refine j_wd (c2 := 56 + 3 * (n + 1)) (s2 := 8522 + 89 * (n + 1)) (fit3 (Nat.le_of_ble_eq_true rfl) rfl) (fit4 (Nat.le_of_ble_eq_true rfl) rfl) ?_
            rw [hn6]
            exact ih (n + 1) h_678 (P 5 0) (by omega) (by omega) inv_678
          · exact absurd er_678 c_681
        · refine ⟨653, 686, rfl, by decide, ?_⟩
          refine j_aload_n C dL_law_686 rfl ?_
          refine j_aload_n C dL_law_687 rfl ?_
          refine j_iload_n C dL_law_688 rfl ?_
          refine j_iconst (v := 1) C dL_law_689 (by decide) ?_
          refine j_iadd C dL_law_690 ?_
          refine j_sld (j := 6 * n + 1) C hX hbl hbA (nI_add (6 * n) 1) (by omega) (by omega) dL_law_691 ?_
          refine j_aload_n C dL_law_692 rfl ?_
          refine j_iload_n C dL_law_693 rfl ?_
          refine j_iconst (v := 2) C dL_law_694 (by decide) ?_
          refine j_iadd C dL_law_695 ?_
          refine j_sld (j := 6 * n + 2) C hX hbl hbA (nI_add (6 * n) 2) (by omega) (by omega) dL_law_696 ?_
          refine j_callVi (As := [.int (xs (6 * n + 1)), .int (xs (6 * n + 2))]) (rest := []) C fG_L_76 (x_toss c I.lt.1 I.lt.2 (xs (6 * n + 1)) (xs (6 * n + 2))) c.1.1.1 rfl rfl (Nat.le_of_ble_eq_true rfl) ⟨Nat.le_of_ble_eq_true rfl, Nat.le_of_ble_eq_true rfl⟩ (fit1 hn5 (Nat.le_of_ble_eq_true rfl) (Nat.le_of_ble_eq_true rfl)) dL_law_697 (fun r_697 h_697 e_697 => ?_)
          have M_697 := v_toss c I M hd (xs (6 * n + 1)) (xs (6 * n + 2)) e_697
          refine j_aload_n C dL_law_700 rfl ?_
          refine j_aload_n C dL_law_701 rfl ?_
          refine j_iload_n C dL_law_702 rfl ?_
          refine j_iconst (v := 1) C dL_law_703 (by decide) ?_
          refine j_iadd C dL_law_704 ?_
          refine j_sld (j := 6 * n + 1) C hX hbl hbA (nI_add (6 * n) 1) (by omega) (by omega) dL_law_705 ?_
          refine j_aload_n C dL_law_706 rfl ?_
          refine j_iload_n C dL_law_707 rfl ?_
          refine j_iconst (v := 2) C dL_law_708 (by decide) ?_
          refine j_iadd C dL_law_709 ?_
          refine j_sld (j := 6 * n + 2) C hX hbl hbA (nI_add (6 * n) 2) (by omega) (by omega) dL_law_710 ?_
          refine j_callVi (As := [.int (xs (6 * n + 1)), .int (xs (6 * n + 2))]) (rest := [.int r_697]) C fG_L_79 (c_toss (xs (6 * n + 1)) (xs (6 * n + 2)) I.lt.1 I.lt.2 h_697 M_697) M_697.1 rfl rfl (Nat.le_of_ble_eq_true rfl) ⟨Nat.le_of_ble_eq_true rfl, Nat.le_of_ble_eq_true rfl⟩ (fit2 hn5 (Nat.le_of_ble_eq_true rfl) (Nat.le_of_ble_eq_true rfl) rfl rfl) dL_law_711 (fun r_711 h_711 e_711 => ?_)
          obtain ⟨er_711, inv_711⟩ := w_toss c I M hd (xs (6 * n + 1)) (xs (6 * n + 2)) e_697 e_711
          refine j_icmp_eq (tgt := 1181) C dL_law_714 (by decide) (fun c_714 => ?_) (fun c_714 => ?_)
          · refine j_iinc (lv' := [(0, .ref b), (1, .ref (P 5 0)), (2, .ref m0), (3, .int ((nI (6 * n)) + 6))]) C dL_law_1181 rfl rfl (by decide) rfl ?_
            refine j_goto (tgt := 18) C dL_law_1184 (by decide) ?_
            refine j_wd (c2 := 56 + 3 * (n + 1)) (s2 := 8522 + 89 * (n + 1)) (fit3 (Nat.le_of_ble_eq_true rfl) rfl) (fit4 (Nat.le_of_ble_eq_true rfl) rfl) ?_
            rw [hn6]
            exact ih (n + 1) h_711 (P 5 0) (by omega) (by omega) inv_711
          · exact absurd er_711 c_714
        · refine ⟨686, 719, rfl, by decide, ?_⟩
          refine j_aload_n C dL_law_719 rfl ?_
          refine j_aload_n C dL_law_720 rfl ?_
          refine j_iload_n C dL_law_721 rfl ?_
          refine j_iconst (v := 1) C dL_law_722 (by decide) ?_
          refine j_iadd C dL_law_723 ?_
          refine j_sld (j := 6 * n + 1) C hX hbl hbA (nI_add (6 * n) 1) (by omega) (by omega) dL_law_724 ?_
          refine j_aload_n C dL_law_725 rfl ?_
          refine j_iload_n C dL_law_726 rfl ?_
          refine j_iconst (v := 2) C dL_law_727 (by decide) ?_
          refine j_iadd C dL_law_728 ?_
          refine j_sld (j := 6 * n + 2) C hX hbl hbA (nI_add (6 * n) 2) (by omega) (by omega) dL_law_729 ?_
          refine j_aload_n C dL_law_730 rfl ?_
          refine j_iload_n C dL_law_731 rfl ?_
          refine j_iconst (v := 3) C dL_law_732 (by decide) ?_
          refine j_iadd C dL_law_733 ?_
          refine j_sld (j := 6 * n + 3) C hX hbl hbA (nI_add (6 * n) 3) (by omega) (by omega) dL_law_734 ?_
          refine j_callVi (As := [.int (xs (6 * n + 1)), .int (xs (6 * n + 2)), .int (xs (6 * n + 3))]) (rest := []) C fG_L_80 (x_look c I (xs (6 * n + 1)) (xs (6 * n + 2)) (xs (6 * n + 3))) c.1.1.1 rfl rfl (Nat.le_of_ble_eq_true rfl) ⟨Nat.le_of_ble_eq_true rfl, Nat.le_of_ble_eq_true rfl⟩ (fit1 hn5 (Nat.le_of_ble_eq_true rfl) (Nat.le_of_ble_eq_true rfl)) dL_law_735 (fun r_735 h_735 e_735 => ?_)
          have M_735 := v_look c I M hd (xs (6 * n + 1)) (xs (6 * n + 2)) (xs (6 * n + 3)) e_735
          refine j_aload_n C dL_law_738 rfl ?_
          refine j_aload_n C dL_law_739 rfl ?_
          refine j_iload_n C dL_law_740 rfl ?_
          refine j_iconst (v := 1) C dL_law_741 (by decide) ?_
          refine j_iadd C dL_law_742 ?_
          refine j_sld (j := 6 * n + 1) C hX hbl hbA (nI_add (6 * n) 1) (by omega) (by omega) dL_law_743 ?_
          refine j_aload_n C dL_law_744 rfl ?_
          refine j_iload_n C dL_law_745 rfl ?_
          refine j_iconst (v := 2) C dL_law_746 (by decide) ?_
          refine j_iadd C dL_law_747 ?_
          refine j_sld (j := 6 * n + 2) C hX hbl hbA (nI_add (6 * n) 2) (by omega) (by omega) dL_law_748 ?_
          refine j_aload_n C dL_law_749 rfl ?_
          refine j_iload_n C dL_law_750 rfl ?_
          refine j_iconst (v := 3) C dL_law_751 (by decide) ?_
          refine j_iadd C dL_law_752 ?_
          refine j_sld (j := 6 * n + 3) C hX hbl hbA (nI_add (6 * n) 3) (by omega) (by omega) dL_law_753 ?_
          refine j_callVi (As := [.int (xs (6 * n + 1)), .int (xs (6 * n + 2)), .int (xs (6 * n + 3))]) (rest := [.int r_735]) C fG_L_83 (c_look (xs (6 * n + 1)) (xs (6 * n + 2)) (xs (6 * n + 3)) I.lt.1 I.lt.2 I.lk.1 I.lk.2 h_735 M_735) M_735.1 rfl rfl (Nat.le_of_ble_eq_true rfl) ⟨Nat.le_of_ble_eq_true rfl, Nat.le_of_ble_eq_true rfl⟩ (fit2 hn5 (Nat.le_of_ble_eq_true rfl) (Nat.le_of_ble_eq_true rfl) rfl rfl) dL_law_754 (fun r_754 h_754 e_754 => ?_)
          obtain ⟨er_754, inv_754⟩ := w_look c I M hd (xs (6 * n + 1)) (xs (6 * n + 2)) (xs (6 * n + 3)) e_735 e_754
          refine j_icmp_eq (tgt := 1181) C dL_law_757 (by decide) (fun c_757 => ?_) (fun c_757 => ?_)
          · refine j_iinc (lv' := [(0, .ref b), (1, .ref (P 5 0)), (2, .ref m0), (3, .int ((nI (6 * n)) + 6))]) C dL_law_1181 rfl rfl (by decide) rfl ?_
            refine j_goto (tgt := 18) C dL_law_1184 (by decide) ?_
            refine j_wd (c2 := 56 + 3 * (n + 1)) (s2 := 8522 + 89 * (n + 1)) (fit3 (Nat.le_of_ble_eq_true rfl) rfl) (fit4 (Nat.le_of_ble_eq_true rfl) rfl) ?_
            rw [hn6]
            exact ih (n + 1) h_754 (P 5 0) (by omega) (by omega) inv_754
          · exact absurd er_754 c_757
        · refine ⟨729, 762, rfl, by decide, ?_⟩
          refine j_aload_n C dL_law_762 rfl ?_
          refine j_aload_n C dL_law_763 rfl ?_
          refine j_iload_n C dL_law_764 rfl ?_
          refine j_iconst (v := 1) C dL_law_765 (by decide) ?_
          refine j_iadd C dL_law_766 ?_
          refine j_sld (j := 6 * n + 1) C hX hbl hbA (nI_add (6 * n) 1) (by omega) (by omega) dL_law_767 ?_
          refine j_aload_n C dL_law_768 rfl ?_
          refine j_iload_n C dL_law_769 rfl ?_
          refine j_iconst (v := 2) C dL_law_770 (by decide) ?_
          refine j_iadd C dL_law_771 ?_
          refine j_sld (j := 6 * n + 2) C hX hbl hbA (nI_add (6 * n) 2) (by omega) (by omega) dL_law_772 ?_
          refine j_aload_n C dL_law_773 rfl ?_
          refine j_iload_n C dL_law_774 rfl ?_
          refine j_iconst (v := 3) C dL_law_775 (by decide) ?_
          refine j_iadd C dL_law_776 ?_
          refine j_sld (j := 6 * n + 3) C hX hbl hbA (nI_add (6 * n) 3) (by omega) (by omega) dL_law_777 ?_
          refine j_i2l C dL_law_778 ?_
          refine j_bipush (v := 32) C dL_law_779 (by decide) ?_
          refine j_lshl C dL_law_781 ?_
          refine j_aload_n C dL_law_782 rfl ?_
          refine j_iload_n C dL_law_783 rfl ?_
          refine j_iconst (v := 4) C dL_law_784 (by decide) ?_
          refine j_iadd C dL_law_785 ?_
          refine j_sld (j := 6 * n + 4) C hX hbl hbA (nI_add (6 * n) 4) (by omega) (by omega) dL_law_786 ?_
          refine j_i2l C dL_law_787 ?_
          refine j_ldc2 C dL_law_788 kK_L_84 ?_
          refine j_land C dL_law_791 ?_
          refine j_lor C dL_law_792 ?_
          refine j_aload_n C dL_law_793 rfl ?_
          refine j_iload_n C dL_law_794 rfl ?_
          refine j_iconst (v := 5) C dL_law_795 (by decide) ?_
          refine j_iadd C dL_law_796 ?_
          refine j_sld (j := 6 * n + 5) C hX hbl hbA (nI_add (6 * n) 5) (by omega) (by omega) dL_law_797 ?_
          refine j_callVi (As := [.int (xs (6 * n + 1)), .int (xs (6 * n + 2)), .long ((((xs (6 * n + 3))).toInt64 <<< (Int32.toInt64 32 &&& 63)) ||| (((xs (6 * n + 4))).toInt64 &&& 4294967295)), .int (xs (6 * n + 5))]) (rest := []) C fG_L_86 (x_drawn c (xs (6 * n + 1)) (xs (6 * n + 2)) ((((xs (6 * n + 3))).toInt64 <<< (Int32.toInt64 32 &&& 63)) ||| (((xs (6 * n + 4))).toInt64 &&& 4294967295)) (xs (6 * n + 5))) c.1.1.1 rfl rfl (Nat.le_of_ble_eq_true rfl) ⟨Nat.le_of_ble_eq_true rfl, Nat.le_of_ble_eq_true rfl⟩ (fit1 hn5 (Nat.le_of_ble_eq_true rfl) (Nat.le_of_ble_eq_true rfl)) dL_law_798 (fun r_798 h_798 e_798 => ?_)
          have M_798 := v_drawn c I M hd (xs (6 * n + 1)) (xs (6 * n + 2)) ((((xs (6 * n + 3))).toInt64 <<< (Int32.toInt64 32 &&& 63)) ||| (((xs (6 * n + 4))).toInt64 &&& 4294967295)) (xs (6 * n + 5)) e_798
          refine j_aload_n C dL_law_801 rfl ?_
          refine j_aload_n C dL_law_802 rfl ?_
          refine j_iload_n C dL_law_803 rfl ?_
          refine j_iconst (v := 1) C dL_law_804 (by decide) ?_
          refine j_iadd C dL_law_805 ?_
          refine j_sld (j := 6 * n + 1) C hX hbl hbA (nI_add (6 * n) 1) (by omega) (by omega) dL_law_806 ?_
          refine j_aload_n C dL_law_807 rfl ?_
          refine j_iload_n C dL_law_808 rfl ?_
          refine j_iconst (v := 2) C dL_law_809 (by decide) ?_
          refine j_iadd C dL_law_810 ?_
          refine j_sld (j := 6 * n + 2) C hX hbl hbA (nI_add (6 * n) 2) (by omega) (by omega) dL_law_811 ?_
          refine j_aload_n C dL_law_812 rfl ?_
          refine j_iload_n C dL_law_813 rfl ?_
          refine j_iconst (v := 3) C dL_law_814 (by decide) ?_
          refine j_iadd C dL_law_815 ?_
          refine j_sld (j := 6 * n + 3) C hX hbl hbA (nI_add (6 * n) 3) (by omega) (by omega) dL_law_816 ?_
          refine j_i2l C dL_law_817 ?_
          refine j_bipush (v := 32) C dL_law_818 (by decide) ?_
          refine j_lshl C dL_law_820 ?_
          refine j_aload_n C dL_law_821 rfl ?_
          refine j_iload_n C dL_law_822 rfl ?_
          refine j_iconst (v := 4) C dL_law_823 (by decide) ?_
          refine j_iadd C dL_law_824 ?_
          refine j_sld (j := 6 * n + 4) C hX hbl hbA (nI_add (6 * n) 4) (by omega) (by omega) dL_law_825 ?_
          refine j_i2l C dL_law_826 ?_
          refine j_ldc2 C dL_law_827 kK_L_84 ?_
          refine j_land C dL_law_830 ?_
          refine j_lor C dL_law_831 ?_
          refine j_aload_n C dL_law_832 rfl ?_
          refine j_iload_n C dL_law_833 rfl ?_
          refine j_iconst (v := 5) C dL_law_834 (by decide) ?_
          refine j_iadd C dL_law_835 ?_
          refine j_sld (j := 6 * n + 5) C hX hbl hbA (nI_add (6 * n) 5) (by omega) (by omega) dL_law_836 ?_
          refine j_callVi (As := [.int (xs (6 * n + 1)), .int (xs (6 * n + 2)), .long ((((xs (6 * n + 3))).toInt64 <<< (Int32.toInt64 32 &&& 63)) ||| (((xs (6 * n + 4))).toInt64 &&& 4294967295)), .int (xs (6 * n + 5))]) (rest := [.int r_798]) C fG_L_90 (c_drawn (xs (6 * n + 1)) (xs (6 * n + 2)) ((((xs (6 * n + 3))).toInt64 <<< (Int32.toInt64 32 &&& 63)) ||| (((xs (6 * n + 4))).toInt64 &&& 4294967295)) (xs (6 * n + 5)) h_798 M_798) M_798.1 rfl rfl (Nat.le_of_ble_eq_true rfl) ⟨Nat.le_of_ble_eq_true rfl, Nat.le_of_ble_eq_true rfl⟩ (fit2 hn5 (Nat.le_of_ble_eq_true rfl) (Nat.le_of_ble_eq_true rfl) rfl rfl) dL_law_837 (fun r_837 h_837 e_837 => ?_)
          obtain ⟨er_837, inv_837⟩ := w_drawn c I M hd (xs (6 * n + 1)) (xs (6 * n + 2)) ((((xs (6 * n + 3))).toInt64 <<< (Int32.toInt64 32 &&& 63)) ||| (((xs (6 * n + 4))).toInt64 &&& 4294967295)) (xs (6 * n + 5)) e_798 e_837
          refine j_icmp_eq (tgt := 1181) C dL_law_840 (by decide) (fun c_840 => ?_) (fun c_840 => ?_)
          · refine j_iinc (lv' := [(0, .ref b), (1, .ref (P 5 0)), (2, .ref m0), (3, .int ((nI (6 * n)) + 6))]) C dL_law_1181 rfl rfl (by decide) rfl ?_
            refine j_goto (tgt := 18) C dL_law_1184 (by decide) ?_
            refine j_wd (c2 := 56 + 3 * (n + 1)) (s2 := 8522 + 89 * (n + 1)) (fit3 (Nat.le_of_ble_eq_true rfl) rfl) (fit4 (Nat.le_of_ble_eq_true rfl) rfl) ?_
            rw [hn6]
            exact ih (n + 1) h_837 (P 5 0) (by omega) (by omega) inv_837
          · exact absurd er_837 c_840
        · refine ⟨812, 845, rfl, by decide, ?_⟩
          refine j_aload_n C dL_law_845 rfl ?_
          refine j_aload_n C dL_law_846 rfl ?_
          refine j_iload_n C dL_law_847 rfl ?_
          refine j_iconst (v := 1) C dL_law_848 (by decide) ?_
          refine j_iadd C dL_law_849 ?_
          refine j_sld (j := 6 * n + 1) C hX hbl hbA (nI_add (6 * n) 1) (by omega) (by omega) dL_law_850 ?_
          refine j_callVi (As := [.int (xs (6 * n + 1))]) (rest := []) C fG_L_91 (x_prove c I.lt.1 I.lt.2 (xs (6 * n + 1))) c.1.1.1 rfl rfl (Nat.le_of_ble_eq_true rfl) ⟨Nat.le_of_ble_eq_true rfl, Nat.le_of_ble_eq_true rfl⟩ (fit1 hn5 (Nat.le_of_ble_eq_true rfl) (Nat.le_of_ble_eq_true rfl)) dL_law_851 (fun r_851 h_851 e_851 => ?_)
          have M_851 := v_prove c I M hd (xs (6 * n + 1)) e_851
          refine j_aload_n C dL_law_854 rfl ?_
          refine j_aload_n C dL_law_855 rfl ?_
          refine j_iload_n C dL_law_856 rfl ?_
          refine j_iconst (v := 1) C dL_law_857 (by decide) ?_
          refine j_iadd C dL_law_858 ?_
          refine j_sld (j := 6 * n + 1) C hX hbl hbA (nI_add (6 * n) 1) (by omega) (by omega) dL_law_859 ?_
          refine j_callVi (As := [.int (xs (6 * n + 1))]) (rest := [.int r_851]) C fG_L_94 (c_prove (xs (6 * n + 1)) I.lt.1 I.lt.2 h_851 M_851) M_851.1 rfl rfl (Nat.le_of_ble_eq_true rfl) ⟨Nat.le_of_ble_eq_true rfl, Nat.le_of_ble_eq_true rfl⟩ (fit2 hn5 (Nat.le_of_ble_eq_true rfl) (Nat.le_of_ble_eq_true rfl) rfl rfl) dL_law_860 (fun r_860 h_860 e_860 => ?_)
          obtain ⟨er_860, inv_860⟩ := w_prove c I M hd (xs (6 * n + 1)) e_851 e_860
          refine j_icmp_eq (tgt := 1181) C dL_law_863 (by decide) (fun c_863 => ?_) (fun c_863 => ?_)
          · refine j_iinc (lv' := [(0, .ref b), (1, .ref (P 5 0)), (2, .ref m0), (3, .int ((nI (6 * n)) + 6))]) C dL_law_1181 rfl rfl (by decide) rfl ?_
            refine j_goto (tgt := 18) C dL_law_1184 (by decide) ?_
            refine j_wd (c2 := 56 + 3 * (n + 1)) (s2 := 8522 + 89 * (n + 1)) (fit3 (Nat.le_of_ble_eq_true rfl) rfl) (fit4 (Nat.le_of_ble_eq_true rfl) rfl) ?_
            rw [hn6]
            exact ih (n + 1) h_860 (P 5 0) (by omega) (by omega) inv_860
          · exact absurd er_860 c_863
        · refine ⟨835, 868, rfl, by decide, ?_⟩
          refine j_aload_n C dL_law_868 rfl ?_
          refine j_callVi (As := []) (rest := []) C fG_L_95 (x_year c I.yr.1 I.yr.2) c.1.1.1 rfl rfl (Nat.le_of_ble_eq_true rfl) ⟨Nat.le_of_ble_eq_true rfl, Nat.le_of_ble_eq_true rfl⟩ (fit1 hn5 (Nat.le_of_ble_eq_true rfl) (Nat.le_of_ble_eq_true rfl)) dL_law_869 (fun r_869 h_869 e_869 => ?_)
          have M_869 := v_year c I M hd  e_869
          refine j_aload_n C dL_law_872 rfl ?_
          refine j_callVi (As := []) (rest := [.int r_869]) C fG_L_99 (c_year  h_869 M_869) M_869.1 rfl rfl (Nat.le_of_ble_eq_true rfl) ⟨Nat.le_of_ble_eq_true rfl, Nat.le_of_ble_eq_true rfl⟩ (fit2 hn5 (Nat.le_of_ble_eq_true rfl) (Nat.le_of_ble_eq_true rfl) rfl rfl) dL_law_873 (fun r_873 h_873 e_873 => ?_)
          obtain ⟨er_873, inv_873⟩ := w_year c I M hd  e_869 e_873
          refine j_icmp_eq (tgt := 1181) C dL_law_876 (by decide) (fun c_876 => ?_) (fun c_876 => ?_)
          · refine j_iinc (lv' := [(0, .ref b), (1, .ref (P 5 0)), (2, .ref m0), (3, .int ((nI (6 * n)) + 6))]) C dL_law_1181 rfl rfl (by decide) rfl ?_
            refine j_goto (tgt := 18) C dL_law_1184 (by decide) ?_
            refine j_wd (c2 := 56 + 3 * (n + 1)) (s2 := 8522 + 89 * (n + 1)) (fit3 (Nat.le_of_ble_eq_true rfl) rfl) (fit4 (Nat.le_of_ble_eq_true rfl) rfl) ?_
            rw [hn6]
            exact ih (n + 1) h_873 (P 5 0) (by omega) (by omega) inv_873
          · exact absurd er_873 c_876
        · refine ⟨848, 881, rfl, by decide, ?_⟩
          refine j_aload_n C dL_law_881 rfl ?_
          refine j_aload_n C dL_law_882 rfl ?_
          refine j_iload_n C dL_law_883 rfl ?_
          refine j_iconst (v := 1) C dL_law_884 (by decide) ?_
          refine j_iadd C dL_law_885 ?_
          refine j_sld (j := 6 * n + 1) C hX hbl hbA (nI_add (6 * n) 1) (by omega) (by omega) dL_law_886 ?_
          refine j_aload_n C dL_law_887 rfl ?_
          refine j_iload_n C dL_law_888 rfl ?_
          refine j_iconst (v := 2) C dL_law_889 (by decide) ?_
          refine j_iadd C dL_law_890 ?_
          refine j_sld (j := 6 * n + 2) C hX hbl hbA (nI_add (6 * n) 2) (by omega) (by omega) dL_law_891 ?_
          refine j_callVi (As := [.int (xs (6 * n + 1)), .int (xs (6 * n + 2))]) (rest := []) C fG_L_100 (x_judge c I (xs (6 * n + 1)) (xs (6 * n + 2))) c.1.1.1 rfl rfl (Nat.le_of_ble_eq_true rfl) ⟨Nat.le_of_ble_eq_true rfl, Nat.le_of_ble_eq_true rfl⟩ (fit1 hn5 (Nat.le_of_ble_eq_true rfl) (Nat.le_of_ble_eq_true rfl)) dL_law_892 (fun r_892 h_892 e_892 => ?_)
          have M_892 := v_judge c I M hd (xs (6 * n + 1)) (xs (6 * n + 2)) e_892
          refine j_aload_n C dL_law_895 rfl ?_
          refine j_aload_n C dL_law_896 rfl ?_
          refine j_iload_n C dL_law_897 rfl ?_
          refine j_iconst (v := 1) C dL_law_898 (by decide) ?_
          refine j_iadd C dL_law_899 ?_
          refine j_sld (j := 6 * n + 1) C hX hbl hbA (nI_add (6 * n) 1) (by omega) (by omega) dL_law_900 ?_
          refine j_aload_n C dL_law_901 rfl ?_
          refine j_iload_n C dL_law_902 rfl ?_
          refine j_iconst (v := 2) C dL_law_903 (by decide) ?_
          refine j_iadd C dL_law_904 ?_
          refine j_sld (j := 6 * n + 2) C hX hbl hbA (nI_add (6 * n) 2) (by omega) (by omega) dL_law_905 ?_
          refine j_callVi (As := [.int (xs (6 * n + 1)), .int (xs (6 * n + 2))]) (rest := [.int r_892]) C fG_L_103 (c_judge (xs (6 * n + 1)) (xs (6 * n + 2)) I.ci h_892 M_892) M_892.1 rfl rfl (Nat.le_of_ble_eq_true rfl) ⟨Nat.le_of_ble_eq_true rfl, Nat.le_of_ble_eq_true rfl⟩ (fit2 hn5 (Nat.le_of_ble_eq_true rfl) (Nat.le_of_ble_eq_true rfl) rfl rfl) dL_law_906 (fun r_906 h_906 e_906 => ?_)
          obtain ⟨er_906, inv_906⟩ := w_judge c I M hd (xs (6 * n + 1)) (xs (6 * n + 2)) e_892 e_906
          refine j_icmp_eq (tgt := 1181) C dL_law_909 (by decide) (fun c_909 => ?_) (fun c_909 => ?_)
          · refine j_iinc (lv' := [(0, .ref b), (1, .ref (P 5 0)), (2, .ref m0), (3, .int ((nI (6 * n)) + 6))]) C dL_law_1181 rfl rfl (by decide) rfl ?_
            refine j_goto (tgt := 18) C dL_law_1184 (by decide) ?_
            refine j_wd (c2 := 56 + 3 * (n + 1)) (s2 := 8522 + 89 * (n + 1)) (fit3 (Nat.le_of_ble_eq_true rfl) rfl) (fit4 (Nat.le_of_ble_eq_true rfl) rfl) ?_
            rw [hn6]
            exact ih (n + 1) h_906 (P 5 0) (by omega) (by omega) inv_906
          · exact absurd er_906 c_909
        · refine ⟨881, 914, rfl, by decide, ?_⟩
          refine j_aload_n C dL_law_914 rfl ?_
          refine j_aload_n C dL_law_915 rfl ?_
          refine j_iload_n C dL_law_916 rfl ?_
          refine j_iconst (v := 1) C dL_law_917 (by decide) ?_
          refine j_iadd C dL_law_918 ?_
          refine j_sld (j := 6 * n + 1) C hX hbl hbA (nI_add (6 * n) 1) (by omega) (by omega) dL_law_919 ?_
          refine j_aload_n C dL_law_920 rfl ?_
          refine j_iload_n C dL_law_921 rfl ?_
          refine j_iconst (v := 2) C dL_law_922 (by decide) ?_
          refine j_iadd C dL_law_923 ?_
          refine j_sld (j := 6 * n + 2) C hX hbl hbA (nI_add (6 * n) 2) (by omega) (by omega) dL_law_924 ?_
          refine j_callVi (As := [.int (xs (6 * n + 1)), .int (xs (6 * n + 2))]) (rest := []) C fG_L_104 (x_why c I (xs (6 * n + 1)) (xs (6 * n + 2))) c.1.1.1 rfl rfl (Nat.le_of_ble_eq_true rfl) ⟨Nat.le_of_ble_eq_true rfl, Nat.le_of_ble_eq_true rfl⟩ (fit1 hn5 (Nat.le_of_ble_eq_true rfl) (Nat.le_of_ble_eq_true rfl)) dL_law_925 (fun r_925 h_925 e_925 => ?_)
          have M_925 := v_why c I M hd (xs (6 * n + 1)) (xs (6 * n + 2)) e_925
          refine j_aload_n C dL_law_928 rfl ?_
          refine j_aload_n C dL_law_929 rfl ?_
          refine j_iload_n C dL_law_930 rfl ?_
          refine j_iconst (v := 1) C dL_law_931 (by decide) ?_
          refine j_iadd C dL_law_932 ?_
          refine j_sld (j := 6 * n + 1) C hX hbl hbA (nI_add (6 * n) 1) (by omega) (by omega) dL_law_933 ?_
          refine j_aload_n C dL_law_934 rfl ?_
          refine j_iload_n C dL_law_935 rfl ?_
          refine j_iconst (v := 2) C dL_law_936 (by decide) ?_
          refine j_iadd C dL_law_937 ?_
          refine j_sld (j := 6 * n + 2) C hX hbl hbA (nI_add (6 * n) 2) (by omega) (by omega) dL_law_938 ?_
          refine j_callVi (As := [.int (xs (6 * n + 1)), .int (xs (6 * n + 2))]) (rest := [.int r_925]) C fG_L_107 (c_why (xs (6 * n + 1)) (xs (6 * n + 2)) I.ci h_925 M_925) M_925.1 rfl rfl (Nat.le_of_ble_eq_true rfl) ⟨Nat.le_of_ble_eq_true rfl, Nat.le_of_ble_eq_true rfl⟩ (fit2 hn5 (Nat.le_of_ble_eq_true rfl) (Nat.le_of_ble_eq_true rfl) rfl rfl) dL_law_939 (fun r_939 h_939 e_939 => ?_)
          obtain ⟨er_939, inv_939⟩ := w_why c I M hd (xs (6 * n + 1)) (xs (6 * n + 2)) e_925 e_939
          refine j_icmp_eq (tgt := 1181) C dL_law_942 (by decide) (fun c_942 => ?_) (fun c_942 => ?_)
          · refine j_iinc (lv' := [(0, .ref b), (1, .ref (P 5 0)), (2, .ref m0), (3, .int ((nI (6 * n)) + 6))]) C dL_law_1181 rfl rfl (by decide) rfl ?_
            refine j_goto (tgt := 18) C dL_law_1184 (by decide) ?_
            refine j_wd (c2 := 56 + 3 * (n + 1)) (s2 := 8522 + 89 * (n + 1)) (fit3 (Nat.le_of_ble_eq_true rfl) rfl) (fit4 (Nat.le_of_ble_eq_true rfl) rfl) ?_
            rw [hn6]
            exact ih (n + 1) h_939 (P 5 0) (by omega) (by omega) inv_939
          · exact absurd er_939 c_942
        · refine ⟨914, 947, rfl, by decide, ?_⟩
          refine j_aload_n C dL_law_947 rfl ?_
          refine j_aload_n C dL_law_948 rfl ?_
          refine j_iload_n C dL_law_949 rfl ?_
          refine j_iconst (v := 1) C dL_law_950 (by decide) ?_
          refine j_iadd C dL_law_951 ?_
          refine j_sld (j := 6 * n + 1) C hX hbl hbA (nI_add (6 * n) 1) (by omega) (by omega) dL_law_952 ?_
          refine j_aload_n C dL_law_953 rfl ?_
          refine j_iload_n C dL_law_954 rfl ?_
          refine j_iconst (v := 2) C dL_law_955 (by decide) ?_
          refine j_iadd C dL_law_956 ?_
          refine j_sld (j := 6 * n + 2) C hX hbl hbA (nI_add (6 * n) 2) (by omega) (by omega) dL_law_957 ?_
          refine j_callVi (As := [.int (xs (6 * n + 1)), .int (xs (6 * n + 2))]) (rest := []) C fG_L_108 (x_ways c I.lt.1 I.lt.2 I.mA I.mB (xs (6 * n + 1)) (xs (6 * n + 2))) c.1.1.1 rfl rfl (Nat.le_of_ble_eq_true rfl) ⟨Nat.le_of_ble_eq_true rfl, Nat.le_of_ble_eq_true rfl⟩ (fit1 hn5 (Nat.le_of_ble_eq_true rfl) (Nat.le_of_ble_eq_true rfl)) dL_law_958 (fun r_958 h_958 e_958 => ?_)
          have M_958 := v_ways c I M hd (xs (6 * n + 1)) (xs (6 * n + 2)) e_958
          refine j_aload_n C dL_law_961 rfl ?_
          refine j_aload_n C dL_law_962 rfl ?_
          refine j_iload_n C dL_law_963 rfl ?_
          refine j_iconst (v := 1) C dL_law_964 (by decide) ?_
          refine j_iadd C dL_law_965 ?_
          refine j_sld (j := 6 * n + 1) C hX hbl hbA (nI_add (6 * n) 1) (by omega) (by omega) dL_law_966 ?_
          refine j_aload_n C dL_law_967 rfl ?_
          refine j_iload_n C dL_law_968 rfl ?_
          refine j_iconst (v := 2) C dL_law_969 (by decide) ?_
          refine j_iadd C dL_law_970 ?_
          refine j_sld (j := 6 * n + 2) C hX hbl hbA (nI_add (6 * n) 2) (by omega) (by omega) dL_law_971 ?_
          refine j_callVi (As := [.int (xs (6 * n + 1)), .int (xs (6 * n + 2))]) (rest := [.int r_958]) C fG_L_111 (c_ways (xs (6 * n + 1)) (xs (6 * n + 2)) I.lt.1 I.lt.2 I.mA I.mB h_958 M_958) M_958.1 rfl rfl (Nat.le_of_ble_eq_true rfl) ⟨Nat.le_of_ble_eq_true rfl, Nat.le_of_ble_eq_true rfl⟩ (fit2 hn5 (Nat.le_of_ble_eq_true rfl) (Nat.le_of_ble_eq_true rfl) rfl rfl) dL_law_972 (fun r_972 h_972 e_972 => ?_)
          obtain ⟨er_972, inv_972⟩ := w_ways c I M hd (xs (6 * n + 1)) (xs (6 * n + 2)) e_958 e_972
          refine j_icmp_eq (tgt := 1181) C dL_law_975 (by decide) (fun c_975 => ?_) (fun c_975 => ?_)
          · refine j_iinc (lv' := [(0, .ref b), (1, .ref (P 5 0)), (2, .ref m0), (3, .int ((nI (6 * n)) + 6))]) C dL_law_1181 rfl rfl (by decide) rfl ?_
            refine j_goto (tgt := 18) C dL_law_1184 (by decide) ?_
            refine j_wd (c2 := 56 + 3 * (n + 1)) (s2 := 8522 + 89 * (n + 1)) (fit3 (Nat.le_of_ble_eq_true rfl) rfl) (fit4 (Nat.le_of_ble_eq_true rfl) rfl) ?_
            rw [hn6]
            exact ih (n + 1) h_972 (P 5 0) (by omega) (by omega) inv_972
          · exact absurd er_972 c_975
        · refine ⟨947, 980, rfl, by decide, ?_⟩
          refine j_aload_n C dL_law_980 rfl ?_
          refine j_aload_n C dL_law_981 rfl ?_
          refine j_iload_n C dL_law_982 rfl ?_
          refine j_iconst (v := 1) C dL_law_983 (by decide) ?_
          refine j_iadd C dL_law_984 ?_
          refine j_sld (j := 6 * n + 1) C hX hbl hbA (nI_add (6 * n) 1) (by omega) (by omega) dL_law_985 ?_
          refine j_aload_n C dL_law_986 rfl ?_
          refine j_iload_n C dL_law_987 rfl ?_
          refine j_iconst (v := 2) C dL_law_988 (by decide) ?_
          refine j_iadd C dL_law_989 ?_
          refine j_sld (j := 6 * n + 2) C hX hbl hbA (nI_add (6 * n) 2) (by omega) (by omega) dL_law_990 ?_
          refine j_aload_n C dL_law_991 rfl ?_
          refine j_iload_n C dL_law_992 rfl ?_
          refine j_iconst (v := 3) C dL_law_993 (by decide) ?_
          refine j_iadd C dL_law_994 ?_
          refine j_sld (j := 6 * n + 3) C hX hbl hbA (nI_add (6 * n) 3) (by omega) (by omega) dL_law_995 ?_
          refine j_callVi (As := [.int (xs (6 * n + 1)), .int (xs (6 * n + 2)), .int (xs (6 * n + 3))]) (rest := []) C fG_L_112 (x_touched c I.lt.1 I.lt.2 I.mA I.mB (xs (6 * n + 1)) (xs (6 * n + 2)) (xs (6 * n + 3))) c.1.1.1 rfl rfl (Nat.le_of_ble_eq_true rfl) ⟨Nat.le_of_ble_eq_true rfl, Nat.le_of_ble_eq_true rfl⟩ (fit1 hn5 (Nat.le_of_ble_eq_true rfl) (Nat.le_of_ble_eq_true rfl)) dL_law_996 (fun r_996 h_996 e_996 => ?_)
          have M_996 := v_touched c I M hd (xs (6 * n + 1)) (xs (6 * n + 2)) (xs (6 * n + 3)) e_996
          refine j_aload_n C dL_law_999 rfl ?_
          refine j_aload_n C dL_law_1000 rfl ?_
          refine j_iload_n C dL_law_1001 rfl ?_
          refine j_iconst (v := 1) C dL_law_1002 (by decide) ?_
          refine j_iadd C dL_law_1003 ?_
          refine j_sld (j := 6 * n + 1) C hX hbl hbA (nI_add (6 * n) 1) (by omega) (by omega) dL_law_1004 ?_
          refine j_aload_n C dL_law_1005 rfl ?_
          refine j_iload_n C dL_law_1006 rfl ?_
          refine j_iconst (v := 2) C dL_law_1007 (by decide) ?_
          refine j_iadd C dL_law_1008 ?_
          refine j_sld (j := 6 * n + 2) C hX hbl hbA (nI_add (6 * n) 2) (by omega) (by omega) dL_law_1009 ?_
          refine j_aload_n C dL_law_1010 rfl ?_
          refine j_iload_n C dL_law_1011 rfl ?_
          refine j_iconst (v := 3) C dL_law_1012 (by decide) ?_
          refine j_iadd C dL_law_1013 ?_
          refine j_sld (j := 6 * n + 3) C hX hbl hbA (nI_add (6 * n) 3) (by omega) (by omega) dL_law_1014 ?_
          refine j_callVi (As := [.int (xs (6 * n + 1)), .int (xs (6 * n + 2)), .int (xs (6 * n + 3))]) (rest := [.int r_996]) C fG_L_115 (c_touched (xs (6 * n + 1)) (xs (6 * n + 2)) (xs (6 * n + 3)) I.lt.1 I.lt.2 I.mA I.mB h_996 M_996) M_996.1 rfl rfl (Nat.le_of_ble_eq_true rfl) ⟨Nat.le_of_ble_eq_true rfl, Nat.le_of_ble_eq_true rfl⟩ (fit2 hn5 (Nat.le_of_ble_eq_true rfl) (Nat.le_of_ble_eq_true rfl) rfl rfl) dL_law_1015 (fun r_1015 h_1015 e_1015 => ?_)
          obtain ⟨er_1015, inv_1015⟩ := w_touched c I M hd (xs (6 * n + 1)) (xs (6 * n + 2)) (xs (6 * n + 3)) e_996 e_1015
          refine j_icmp_eq (tgt := 1181) C dL_law_1018 (by decide) (fun c_1018 => ?_) (fun c_1018 => ?_)
          · refine j_iinc (lv' := [(0, .ref b), (1, .ref (P 5 0)), (2, .ref m0), (3, .int ((nI (6 * n)) + 6))]) C dL_law_1181 rfl rfl (by decide) rfl ?_
            refine j_goto (tgt := 18) C dL_law_1184 (by decide) ?_
            refine j_wd (c2 := 56 + 3 * (n + 1)) (s2 := 8522 + 89 * (n + 1)) (fit3 (Nat.le_of_ble_eq_true rfl) rfl) (fit4 (Nat.le_of_ble_eq_true rfl) rfl) ?_
            rw [hn6]
            exact ih (n + 1) h_1015 (P 5 0) (by omega) (by omega) inv_1015
          · exact absurd er_1015 c_1018
        · refine ⟨990, 1023, rfl, by decide, ?_⟩
          refine j_aload_n C dL_law_1023 rfl ?_
          refine j_aload_n C dL_law_1024 rfl ?_
          refine j_iload_n C dL_law_1025 rfl ?_
          refine j_iconst (v := 1) C dL_law_1026 (by decide) ?_
          refine j_iadd C dL_law_1027 ?_
          refine j_sld (j := 6 * n + 1) C hX hbl hbA (nI_add (6 * n) 1) (by omega) (by omega) dL_law_1028 ?_
          refine j_callVi (As := [.int (xs (6 * n + 1))]) (rest := []) C fG_L_116 (x_buyers c I.lt.1 I.lt.2 I.mA I.mB I.bg.1 I.bg.2 I.bl (xs (6 * n + 1))) c.1.1.1 rfl rfl (Nat.le_of_ble_eq_true rfl) ⟨Nat.le_of_ble_eq_true rfl, Nat.le_of_ble_eq_true rfl⟩ (fit1 hn5 (Nat.le_of_ble_eq_true rfl) (Nat.le_of_ble_eq_true rfl)) dL_law_1029 (fun r_1029 h_1029 e_1029 => ?_)
          have M_1029 := v_buyers c I M hd (xs (6 * n + 1)) e_1029
          refine j_aload_n C dL_law_1032 rfl ?_
          refine j_aload_n C dL_law_1033 rfl ?_
          refine j_iload_n C dL_law_1034 rfl ?_
          refine j_iconst (v := 1) C dL_law_1035 (by decide) ?_
          refine j_iadd C dL_law_1036 ?_
          refine j_sld (j := 6 * n + 1) C hX hbl hbA (nI_add (6 * n) 1) (by omega) (by omega) dL_law_1037 ?_
          refine j_callVi (As := [.int (xs (6 * n + 1))]) (rest := [.int r_1029]) C fG_L_119 (c_buyers (xs (6 * n + 1)) I.lt.1 I.lt.2 I.bg.1 I.bg.2 I.mA I.mB I.bl h_1029 M_1029) M_1029.1 rfl rfl (Nat.le_of_ble_eq_true rfl) ⟨Nat.le_of_ble_eq_true rfl, Nat.le_of_ble_eq_true rfl⟩ (fit2 hn5 (Nat.le_of_ble_eq_true rfl) (Nat.le_of_ble_eq_true rfl) rfl rfl) dL_law_1038 (fun r_1038 h_1038 e_1038 => ?_)
          obtain ⟨er_1038, inv_1038⟩ := w_buyers c I M hd (xs (6 * n + 1)) e_1029 e_1038
          refine j_icmp_eq (tgt := 1181) C dL_law_1041 (by decide) (fun c_1041 => ?_) (fun c_1041 => ?_)
          · refine j_iinc (lv' := [(0, .ref b), (1, .ref (P 5 0)), (2, .ref m0), (3, .int ((nI (6 * n)) + 6))]) C dL_law_1181 rfl rfl (by decide) rfl ?_
            refine j_goto (tgt := 18) C dL_law_1184 (by decide) ?_
            refine j_wd (c2 := 56 + 3 * (n + 1)) (s2 := 8522 + 89 * (n + 1)) (fit3 (Nat.le_of_ble_eq_true rfl) rfl) (fit4 (Nat.le_of_ble_eq_true rfl) rfl) ?_
            rw [hn6]
            exact ih (n + 1) h_1038 (P 5 0) (by omega) (by omega) inv_1038
          · exact absurd er_1038 c_1041
        · refine ⟨1013, 1046, rfl, by decide, ?_⟩
          refine j_aload_n C dL_law_1046 rfl ?_
          refine j_aload_n C dL_law_1047 rfl ?_
          refine j_iload_n C dL_law_1048 rfl ?_
          refine j_iconst (v := 1) C dL_law_1049 (by decide) ?_
          refine j_iadd C dL_law_1050 ?_
          refine j_sld (j := 6 * n + 1) C hX hbl hbA (nI_add (6 * n) 1) (by omega) (by omega) dL_law_1051 ?_
          refine j_callVi (As := [.int (xs (6 * n + 1))]) (rest := []) C fG_L_120 (x_want c I.lt.1 I.lt.2 I.wt.1 I.wt.2 I.wn (xs (6 * n + 1))) c.1.1.1 rfl rfl (Nat.le_of_ble_eq_true rfl) ⟨Nat.le_of_ble_eq_true rfl, Nat.le_of_ble_eq_true rfl⟩ (fit1 hn5 (Nat.le_of_ble_eq_true rfl) (Nat.le_of_ble_eq_true rfl)) dL_law_1052 (fun r_1052 h_1052 e_1052 => ?_)
          have M_1052 := v_want c I M hd (xs (6 * n + 1)) e_1052
          refine j_aload_n C dL_law_1055 rfl ?_
          refine j_aload_n C dL_law_1056 rfl ?_
          refine j_iload_n C dL_law_1057 rfl ?_
          refine j_iconst (v := 1) C dL_law_1058 (by decide) ?_
          refine j_iadd C dL_law_1059 ?_
          refine j_sld (j := 6 * n + 1) C hX hbl hbA (nI_add (6 * n) 1) (by omega) (by omega) dL_law_1060 ?_
          refine j_callVi (As := [.int (xs (6 * n + 1))]) (rest := [.int r_1052]) C fG_L_123 (c_want (xs (6 * n + 1)) I.wt.1 I.wt.2 h_1052 M_1052) M_1052.1 rfl rfl (Nat.le_of_ble_eq_true rfl) ⟨Nat.le_of_ble_eq_true rfl, Nat.le_of_ble_eq_true rfl⟩ (fit2 hn5 (Nat.le_of_ble_eq_true rfl) (Nat.le_of_ble_eq_true rfl) rfl rfl) dL_law_1061 (fun r_1061 h_1061 e_1061 => ?_)
          obtain ⟨er_1061, inv_1061⟩ := w_want c I M hd (xs (6 * n + 1)) e_1052 e_1061
          refine j_icmp_eq (tgt := 1181) C dL_law_1064 (by decide) (fun c_1064 => ?_) (fun c_1064 => ?_)
          · refine j_iinc (lv' := [(0, .ref b), (1, .ref (P 5 0)), (2, .ref m0), (3, .int ((nI (6 * n)) + 6))]) C dL_law_1181 rfl rfl (by decide) rfl ?_
            refine j_goto (tgt := 18) C dL_law_1184 (by decide) ?_
            refine j_wd (c2 := 56 + 3 * (n + 1)) (s2 := 8522 + 89 * (n + 1)) (fit3 (Nat.le_of_ble_eq_true rfl) rfl) (fit4 (Nat.le_of_ble_eq_true rfl) rfl) ?_
            rw [hn6]
            exact ih (n + 1) h_1061 (P 5 0) (by omega) (by omega) inv_1061
          · exact absurd er_1061 c_1064
        · refine ⟨1036, 1069, rfl, by decide, ?_⟩
          refine j_aload_n C dL_law_1069 rfl ?_
          refine j_aload_n C dL_law_1070 rfl ?_
          refine j_iload_n C dL_law_1071 rfl ?_
          refine j_iconst (v := 1) C dL_law_1072 (by decide) ?_
          refine j_iadd C dL_law_1073 ?_
          refine j_sld (j := 6 * n + 1) C hX hbl hbA (nI_add (6 * n) 1) (by omega) (by omega) dL_law_1074 ?_
          refine j_callVi (As := [.int (xs (6 * n + 1))]) (rest := []) C fG_L_124 (x_plan c I (xs (6 * n + 1))) c.1.1.1 rfl rfl (Nat.le_of_ble_eq_true rfl) ⟨Nat.le_of_ble_eq_true rfl, Nat.le_of_ble_eq_true rfl⟩ (fit1 hn5 (Nat.le_of_ble_eq_true rfl) (Nat.le_of_ble_eq_true rfl)) dL_law_1075 (fun r_1075 h_1075 e_1075 => ?_)
          have M_1075 := v_plan c I M hd (xs (6 * n + 1)) e_1075
          refine j_aload_n C dL_law_1078 rfl ?_
          refine j_aload_n C dL_law_1079 rfl ?_
          refine j_iload_n C dL_law_1080 rfl ?_
          refine j_iconst (v := 1) C dL_law_1081 (by decide) ?_
          refine j_iadd C dL_law_1082 ?_
          refine j_sld (j := 6 * n + 1) C hX hbl hbA (nI_add (6 * n) 1) (by omega) (by omega) dL_law_1083 ?_
          refine j_callVi (As := [.int (xs (6 * n + 1))]) (rest := [.int r_1075]) C fG_L_127 (c_plan (xs (6 * n + 1)) I.fl.1 I.fl.2 I.yr.1 I.yr.2 I.lt.1 I.lt.2 I.st.1 I.st.2 I.tt.1 I.tt.2 I.wt.1 I.wt.2 I.wn h_1075 M_1075) M_1075.1 rfl rfl (Nat.le_of_ble_eq_true rfl) ⟨Nat.le_of_ble_eq_true rfl, Nat.le_of_ble_eq_true rfl⟩ (fit2 hn5 (Nat.le_of_ble_eq_true rfl) (Nat.le_of_ble_eq_true rfl) rfl rfl) dL_law_1084 (fun r_1084 h_1084 e_1084 => ?_)
          obtain ⟨er_1084, inv_1084⟩ := w_plan c I M hd (xs (6 * n + 1)) e_1075 e_1084
          refine j_icmp_eq (tgt := 1181) C dL_law_1087 (by decide) (fun c_1087 => ?_) (fun c_1087 => ?_)
          · refine j_iinc (lv' := [(0, .ref b), (1, .ref (P 5 0)), (2, .ref m0), (3, .int ((nI (6 * n)) + 6))]) C dL_law_1181 rfl rfl (by decide) rfl ?_
            refine j_goto (tgt := 18) C dL_law_1184 (by decide) ?_
            refine j_wd (c2 := 56 + 3 * (n + 1)) (s2 := 8522 + 89 * (n + 1)) (fit3 (Nat.le_of_ble_eq_true rfl) rfl) (fit4 (Nat.le_of_ble_eq_true rfl) rfl) ?_
            rw [hn6]
            exact ih (n + 1) h_1084 (P 5 0) (by omega) (by omega) inv_1084
          · exact absurd er_1084 c_1087
        · refine ⟨1059, 1092, rfl, by decide, ?_⟩
          refine j_aload_n C dL_law_1092 rfl ?_
          refine j_aload_n C dL_law_1093 rfl ?_
          refine j_iload_n C dL_law_1094 rfl ?_
          refine j_iconst (v := 1) C dL_law_1095 (by decide) ?_
          refine j_iadd C dL_law_1096 ?_
          refine j_sld (j := 6 * n + 1) C hX hbl hbA (nI_add (6 * n) 1) (by omega) (by omega) dL_law_1097 ?_
          refine j_aload_n C dL_law_1098 rfl ?_
          refine j_iload_n C dL_law_1099 rfl ?_
          refine j_iconst (v := 2) C dL_law_1100 (by decide) ?_
          refine j_iadd C dL_law_1101 ?_
          refine j_sld (j := 6 * n + 2) C hX hbl hbA (nI_add (6 * n) 2) (by omega) (by omega) dL_law_1102 ?_
          refine j_callVi (As := [.int (xs (6 * n + 1)), .int (xs (6 * n + 2))]) (rest := []) C fG_L_128 (x_told c I.fl.2 I.lt.1 I.lt.2 I.mF (fun a ha => I.mA2 ha) (fun a ha => I.mB2 ha) I.n37 (xs (6 * n + 1)) (xs (6 * n + 2))) c.1.1.1 rfl rfl (Nat.le_of_ble_eq_true rfl) ⟨Nat.le_of_ble_eq_true rfl, Nat.le_of_ble_eq_true rfl⟩ (fit1 hn5 (Nat.le_of_ble_eq_true rfl) (Nat.le_of_ble_eq_true rfl)) dL_law_1103 (fun r_1103 h_1103 e_1103 => ?_)
          have M_1103 := v_told c I M hd (xs (6 * n + 1)) (xs (6 * n + 2)) e_1103
          refine j_aload_n C dL_law_1106 rfl ?_
          refine j_aload_n C dL_law_1107 rfl ?_
          refine j_iload_n C dL_law_1108 rfl ?_
          refine j_iconst (v := 1) C dL_law_1109 (by decide) ?_
          refine j_iadd C dL_law_1110 ?_
          refine j_sld (j := 6 * n + 1) C hX hbl hbA (nI_add (6 * n) 1) (by omega) (by omega) dL_law_1111 ?_
          refine j_aload_n C dL_law_1112 rfl ?_
          refine j_iload_n C dL_law_1113 rfl ?_
          refine j_iconst (v := 2) C dL_law_1114 (by decide) ?_
          refine j_iadd C dL_law_1115 ?_
          refine j_sld (j := 6 * n + 2) C hX hbl hbA (nI_add (6 * n) 2) (by omega) (by omega) dL_law_1116 ?_
          refine j_callVi (As := [.int (xs (6 * n + 1)), .int (xs (6 * n + 2))]) (rest := [.int r_1103]) C fG_L_131 (c_told (xs (6 * n + 1)) (xs (6 * n + 2)) I.lt.1 I.lt.2 I.lk.1 I.lk.2 h_1103 M_1103) M_1103.1 rfl rfl (Nat.le_of_ble_eq_true rfl) ⟨Nat.le_of_ble_eq_true rfl, Nat.le_of_ble_eq_true rfl⟩ (fit2 hn5 (Nat.le_of_ble_eq_true rfl) (Nat.le_of_ble_eq_true rfl) rfl rfl) dL_law_1117 (fun r_1117 h_1117 e_1117 => ?_)
          obtain ⟨er_1117, inv_1117⟩ := w_told c I M hd (xs (6 * n + 1)) (xs (6 * n + 2)) e_1103 e_1117
          refine j_icmp_eq (tgt := 1181) C dL_law_1120 (by decide) (fun c_1120 => ?_) (fun c_1120 => ?_)
          · refine j_iinc (lv' := [(0, .ref b), (1, .ref (P 5 0)), (2, .ref m0), (3, .int ((nI (6 * n)) + 6))]) C dL_law_1181 rfl rfl (by decide) rfl ?_
            refine j_goto (tgt := 18) C dL_law_1184 (by decide) ?_
            refine j_wd (c2 := 56 + 3 * (n + 1)) (s2 := 8522 + 89 * (n + 1)) (fit3 (Nat.le_of_ble_eq_true rfl) rfl) (fit4 (Nat.le_of_ble_eq_true rfl) rfl) ?_
            rw [hn6]
            exact ih (n + 1) h_1117 (P 5 0) (by omega) (by omega) inv_1117
          · exact absurd er_1117 c_1120
        · refine ⟨1092, 1125, rfl, by decide, ?_⟩
          refine j_aload_n C dL_law_1125 rfl ?_
          refine j_aload_n C dL_law_1126 rfl ?_
          refine j_iload_n C dL_law_1127 rfl ?_
          refine j_iconst (v := 1) C dL_law_1128 (by decide) ?_
          refine j_iadd C dL_law_1129 ?_
          refine j_sld (j := 6 * n + 1) C hX hbl hbA (nI_add (6 * n) 1) (by omega) (by omega) dL_law_1130 ?_
          refine j_aload_n C dL_law_1131 rfl ?_
          refine j_iload_n C dL_law_1132 rfl ?_
          refine j_iconst (v := 2) C dL_law_1133 (by decide) ?_
          refine j_iadd C dL_law_1134 ?_
          refine j_sld (j := 6 * n + 2) C hX hbl hbA (nI_add (6 * n) 2) (by omega) (by omega) dL_law_1135 ?_
          refine j_callVi (As := [.int (xs (6 * n + 1)), .int (xs (6 * n + 2))]) (rest := []) C fG_L_132 (x_sack c I.lt.2 I.bg.1 I.bg.2 I.bl (xs (6 * n + 1)) (xs (6 * n + 2))) c.1.1.1 rfl rfl (Nat.le_of_ble_eq_true rfl) ⟨Nat.le_of_ble_eq_true rfl, Nat.le_of_ble_eq_true rfl⟩ (fit1 hn5 (Nat.le_of_ble_eq_true rfl) (Nat.le_of_ble_eq_true rfl)) dL_law_1136 (fun r_1136 h_1136 e_1136 => ?_)
          have M_1136 := v_sack c I M hd (xs (6 * n + 1)) (xs (6 * n + 2)) e_1136
          refine j_aload_n C dL_law_1139 rfl ?_
          refine j_aload_n C dL_law_1140 rfl ?_
          refine j_iload_n C dL_law_1141 rfl ?_
          refine j_iconst (v := 1) C dL_law_1142 (by decide) ?_
          refine j_iadd C dL_law_1143 ?_
          refine j_sld (j := 6 * n + 1) C hX hbl hbA (nI_add (6 * n) 1) (by omega) (by omega) dL_law_1144 ?_
          refine j_aload_n C dL_law_1145 rfl ?_
          refine j_iload_n C dL_law_1146 rfl ?_
          refine j_iconst (v := 2) C dL_law_1147 (by decide) ?_
          refine j_iadd C dL_law_1148 ?_
          refine j_sld (j := 6 * n + 2) C hX hbl hbA (nI_add (6 * n) 2) (by omega) (by omega) dL_law_1149 ?_
          refine j_callVi (As := [.int (xs (6 * n + 1)), .int (xs (6 * n + 2))]) (rest := [.int r_1136]) C fG_L_135 (c_sack (xs (6 * n + 1)) (xs (6 * n + 2)) I.bg.1 I.bg.2 h_1136 M_1136) M_1136.1 rfl rfl (Nat.le_of_ble_eq_true rfl) ⟨Nat.le_of_ble_eq_true rfl, Nat.le_of_ble_eq_true rfl⟩ (fit2 hn5 (Nat.le_of_ble_eq_true rfl) (Nat.le_of_ble_eq_true rfl) rfl rfl) dL_law_1150 (fun r_1150 h_1150 e_1150 => ?_)
          obtain ⟨er_1150, inv_1150⟩ := w_sack c I M hd (xs (6 * n + 1)) (xs (6 * n + 2)) e_1136 e_1150
          refine j_icmp_eq (tgt := 1181) C dL_law_1153 (by decide) (fun c_1153 => ?_) (fun c_1153 => ?_)
          · refine j_iinc (lv' := [(0, .ref b), (1, .ref (P 5 0)), (2, .ref m0), (3, .int ((nI (6 * n)) + 6))]) C dL_law_1181 rfl rfl (by decide) rfl ?_
            refine j_goto (tgt := 18) C dL_law_1184 (by decide) ?_
            refine j_wd (c2 := 56 + 3 * (n + 1)) (s2 := 8522 + 89 * (n + 1)) (fit3 (Nat.le_of_ble_eq_true rfl) rfl) (fit4 (Nat.le_of_ble_eq_true rfl) rfl) ?_
            rw [hn6]
            exact ih (n + 1) h_1150 (P 5 0) (by omega) (by omega) inv_1150
          · exact absurd er_1150 c_1153
        · refine ⟨1125, 1158, rfl, by decide, ?_⟩
          refine j_aload_n C dL_law_1158 rfl ?_
          refine j_aload_n C dL_law_1159 rfl ?_
          refine j_iload_n C dL_law_1160 rfl ?_
          refine j_iconst (v := 1) C dL_law_1161 (by decide) ?_
          refine j_iadd C dL_law_1162 ?_
          refine j_sld (j := 6 * n + 1) C hX hbl hbA (nI_add (6 * n) 1) (by omega) (by omega) dL_law_1163 ?_
          refine j_callVi (As := [.int (xs (6 * n + 1))]) (rest := []) C fG_L_136 (x_count c I (xs (6 * n + 1))) c.1.1.1 rfl rfl (Nat.le_of_ble_eq_true rfl) ⟨Nat.le_of_ble_eq_true rfl, Nat.le_of_ble_eq_true rfl⟩ (fit1 hn5 (Nat.le_of_ble_eq_true rfl) (Nat.le_of_ble_eq_true rfl)) dL_law_1164 (fun r_1164 h_1164 e_1164 => ?_)
          have M_1164 := v_count c I M hd (xs (6 * n + 1)) e_1164
          refine j_aload_n C dL_law_1167 rfl ?_
          refine j_aload_n C dL_law_1168 rfl ?_
          refine j_iload_n C dL_law_1169 rfl ?_
          refine j_iconst (v := 1) C dL_law_1170 (by decide) ?_
          refine j_iadd C dL_law_1171 ?_
          refine j_sld (j := 6 * n + 1) C hX hbl hbA (nI_add (6 * n) 1) (by omega) (by omega) dL_law_1172 ?_
          refine j_callVi (As := [.int (xs (6 * n + 1))]) (rest := [.int r_1164]) C fG_L_139 (c_count (xs (6 * n + 1)) I.ci h_1164 M_1164) M_1164.1 rfl rfl (Nat.le_of_ble_eq_true rfl) ⟨Nat.le_of_ble_eq_true rfl, Nat.le_of_ble_eq_true rfl⟩ (fit2 hn5 (Nat.le_of_ble_eq_true rfl) (Nat.le_of_ble_eq_true rfl) rfl rfl) dL_law_1173 (fun r_1173 h_1173 e_1173 => ?_)
          obtain ⟨er_1173, inv_1173⟩ := w_count c I M hd (xs (6 * n + 1)) e_1164 e_1173
          refine j_icmp_eq (tgt := 1181) C dL_law_1176 (by decide) (fun c_1176 => ?_) (fun c_1176 => ?_)
          · refine j_iinc (lv' := [(0, .ref b), (1, .ref (P 5 0)), (2, .ref m0), (3, .int ((nI (6 * n)) + 6))]) C dL_law_1181 rfl rfl (by decide) rfl ?_
            refine j_goto (tgt := 18) C dL_law_1184 (by decide) ?_
            refine j_wd (c2 := 56 + 3 * (n + 1)) (s2 := 8522 + 89 * (n + 1)) (fit3 (Nat.le_of_ble_eq_true rfl) rfl) (fit4 (Nat.le_of_ble_eq_true rfl) rfl) ?_
            rw [hn6]
            exact ih (n + 1) h_1173 (P 5 0) (by omega) (by omega) inv_1173
          · exact absurd er_1173 c_1176
      · refine j_iinc (lv' := [(0, .ref b), (1, .ref (P 5 0)), (2, .ref m0), (3, .int ((nI (6 * n)) + 6))]) C dL_law_1181 rfl rfl (by decide) rfl ?_
        refine j_goto (tgt := 18) C dL_law_1184 (by decide) ?_
        refine j_wd (c2 := 56 + 3 * (n + 1)) (s2 := 8522 + 89 * (n + 1)) (by omega) (by omega) ?_
        rw [hn6]
        exact ih (n + 1) h (P 5 0) (by omega) (by omega) inv
