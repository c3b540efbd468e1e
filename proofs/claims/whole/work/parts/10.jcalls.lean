theorem kC_max : Cond.code Lib.Math.max.name Lib.Math.max.code 2 (some .int) ∈ wall := wl_m 180 (by decide +kernel) rfl
theorem kC_min : Cond.code Lib.Math.min.name Lib.Math.min.code 2 (some .int) ∈ wall := wl_m 177 (by decide +kernel) rfl
/-! contracts: from any state whose heap is h, the method returns, 'post answer h\'' -/
def jPre (D : va_G) (cy : Nat → ClassId) (av : List Value) (h : jH) (sz : Nat) : Array Value → State → Prop := va_Pc av (fun U => U.heap.size = sz ∧ va_P D vwCl (pool cy h) U.heap ∧ va_K D vwCl (jTys cy) U ∧ va_D (fun _ => True) (pool cy h) ∧ jSt (va_A (pool cy h) sz) U U.heap ∧ jNw U)
def jB (D : va_G) (cy : Nat → ClassId) (h : jH) (sz : Nat) (h' : jH) (t : State) : Prop := va_P D vwCl (pool cy h') t.heap ∧ va_K D vwCl (jTys cy) t ∧ va_D (va_A (pool cy h) sz) (pool cy h')
def jI (l : Launch) (D : va_G) (cy : Nat → ClassId) (y : MethodName) (cd : Cond) (rm : Room) (av : List Value) (h : jH) (post : Int32 → jH → Prop) : Prop := ∀ sz : Nat, Met l y (cd :: wall) rm (jPre D cy av h sz) (va_Qi post (jB D cy h sz) (va_A (pool cy h) sz)) rm.cells rm.slots (va_A (pool cy h) sz)
def jV (l : Launch) (D : va_G) (cy : Nat → ClassId) (y : MethodName) (cd : Cond) (rm : Room) (av : List Value) (h : jH) (post : jH → Prop) : Prop := ∀ sz : Nat, Met l y (cd :: wall) rm (jPre D cy av h sz) (va_Qv post (jB D cy h sz) (va_A (pool cy h) sz)) rm.cells rm.slots (va_A (pool cy h) sz)
def jQ (l : Launch) (D : va_G) (cy : Nat → ClassId) (y : MethodName) (cd : Cond) (rm : Room) (av : List Value) (h : jH) (post : Option Nat → jH → Prop) : Prop := ∀ sz : Nat, Met l y (cd :: wall) rm (jPre D cy av h sz) (va_Qq post (jB D cy h sz) (va_A (pool cy h) sz)) rm.cells rm.slots (va_A (pool cy h) sz)
/-- the room of a method d calls deep -/
def rmd (d mc ms : Nat) : Room := { frames := d, cells := mc, slots := ms, locals := 40 * d }
theorem jPre_blind {D : va_G} {cy : Nat → ClassId} {av : List Value} {h : jH} {sz : Nat} : FrameBlind (jPre D cy av h sz) := fun a U g mk q => by
  obtain ⟨q0, q1, qP, qK, qD, qT, qN⟩ := q
  exact ⟨q0, q1, qP, va_K.moved (u := U) (U := U.calling g mk a) (Vm.Alike.refl U.vm) qK, qD, jSt.moved (u := U) (U := U.calling g mk a) (Vm.Alike.refl U.vm) qT, qN.calling⟩
theorem j_ofI {l : Launch} {D : va_G} {cy : Nat → ClassId} {y : MethodName} {cc : ByteArray} {nL : Nat} {rm : Room} {av : List Value} {h : jH} {post : Int32 → jH → Prop} (hy : plainName y.cls = true) (hlen : (lg_sl av).length ≤ nL)
    (body : ∀ (p : Program) (e : Env) (s : State) (m : MethodId) (args : Array Value) (below : List Frame) (meth : Method) (c : Code) (Q : State → Prop), jC p s m args meth c D cy (va_A (pool cy h) s.heap.size) nL y.cls cc → meth.name = y.name → (∀ (r : Int32) (h' : jH) (cells slots : Nat) (lv : List (Nat × Value)) (pc : Nat), post r h' → cells ≤ rm.cells → slots ≤ rm.slots → decode cc pc = .ok (.ireturn, 1) → jW p l e rm s m args below meth c D cy (va_A (pool cy h) s.heap.size) nL cells slots Q h' lv pc [.int r]) → jW p l e rm s m args below meth c D cy (va_A (pool cy h) s.heap.size) nL 0 0 Q h (lv_args 0 av) 0 []) : jI l D cy y (.code y cc nL (some .int)) rm av h post := by
  intro sz
  refine Met.ofW (cc := cc) (maxL := nL) (ret := (some .int)) hy rfl ?_
  intro p e s m args below meth c s₁ B hml hv
  obtain ⟨rfl, hsz, hP, hK, hD0, hT0, hN0⟩ := hv
  subst hsz
  have C : jC p s m av.toArray meth c D cy (va_A (pool cy h) s.heap.size) nL y.cls cc := ⟨B.exec, B.bytes, hml, findClass_of_methodNamed B.named, fun w hw => atoms_spec (ws := .code y cc nL (some .int) :: wall) B.pre w (List.mem_cons_of_mem _ hw), hK, fun q h => Or.inr h, B.notSynchronized, hT0, hN0⟩
  have hlocks := B.notSynchronized
  rw [lg_entry_eq]
  refine body p e s m _ below meth c _ C (name_of_methodNamed B.named B.method).1 ?_ s.heap [] _ hP hD0.self va_S.rf (lv_entry av hlen)
  intro r h' cells slots lv pc hp hc hs hd H locs ls hP' hD' hS hl
  refine W.widen hc hs ?_
  exact W.iret C.1 C.2.1 B.returns (fun t ht hW => ⟨⟨r, h', rfl, hp, by rw [ht]; exact hP', va_K.moved hW.alike hK, hD'⟩, hS.F ht⟩) hS.2.2 hd
theorem j_ofZ {l : Launch} {D : va_G} {cy : Nat → ClassId} {y : MethodName} {cc : ByteArray} {nL : Nat} {rm : Room} {av : List Value} {h : jH} {post : Int32 → jH → Prop} (hy : plainName y.cls = true) (hlen : (lg_sl av).length ≤ nL)
    (body : ∀ (p : Program) (e : Env) (s : State) (m : MethodId) (args : Array Value) (below : List Frame) (meth : Method) (c : Code) (Q : State → Prop), jC p s m args meth c D cy (va_A (pool cy h) s.heap.size) nL y.cls cc → meth.name = y.name → (∀ (r : Int32) (h' : jH) (cells slots : Nat) (lv : List (Nat × Value)) (pc : Nat), post r h' → (r = 0 ∨ r = 1) → cells ≤ rm.cells → slots ≤ rm.slots → decode cc pc = .ok (.ireturn, 1) → jW p l e rm s m args below meth c D cy (va_A (pool cy h) s.heap.size) nL cells slots Q h' lv pc [.int r]) → jW p l e rm s m args below meth c D cy (va_A (pool cy h) s.heap.size) nL 0 0 Q h (lv_args 0 av) 0 []) : jI l D cy y (.code y cc nL (some .boolean)) rm av h post := by
  intro sz
  refine Met.ofW (cc := cc) (maxL := nL) (ret := (some .boolean)) hy rfl ?_
  intro p e s m args below meth c s₁ B hml hv
  obtain ⟨rfl, hsz, hP, hK, hD0, hT0, hN0⟩ := hv
  subst hsz
  have C : jC p s m av.toArray meth c D cy (va_A (pool cy h) s.heap.size) nL y.cls cc := ⟨B.exec, B.bytes, hml, findClass_of_methodNamed B.named, fun w hw => atoms_spec (ws := .code y cc nL (some .boolean) :: wall) B.pre w (List.mem_cons_of_mem _ hw), hK, fun q h => Or.inr h, B.notSynchronized, hT0, hN0⟩
  have hlocks := B.notSynchronized
  rw [lg_entry_eq]
  refine body p e s m _ below meth c _ C (name_of_methodNamed B.named B.method).1 ?_ s.heap [] _ hP hD0.self va_S.rf (lv_entry av hlen)
  intro r h' cells slots lv pc hp hz hc hs hd H locs ls hP' hD' hS hl
  refine W.widen hc hs ?_
  exact W.zret C.1 C.2.1 B.returns (by rcases hz with rfl | rfl <;> decide) (fun t ht hW => ⟨⟨r, h', rfl, hp, by rw [ht]; exact hP', va_K.moved hW.alike hK, hD'⟩, hS.F ht⟩) hS.2.2 hd
theorem j_ofV {l : Launch} {D : va_G} {cy : Nat → ClassId} {y : MethodName} {cc : ByteArray} {nL : Nat} {rm : Room} {av : List Value} {h : jH} {post : jH → Prop} (hy : plainName y.cls = true) (hlen : (lg_sl av).length ≤ nL)
    (body : ∀ (p : Program) (e : Env) (s : State) (m : MethodId) (args : Array Value) (below : List Frame) (meth : Method) (c : Code) (Q : State → Prop), jC p s m args meth c D cy (va_A (pool cy h) s.heap.size) nL y.cls cc → meth.name = y.name → (∀ (h' : jH) (cells slots : Nat) (lv : List (Nat × Value)) (pc : Nat), post h' → cells ≤ rm.cells → slots ≤ rm.slots → decode cc pc = .ok (.return_, 1) → jW p l e rm s m args below meth c D cy (va_A (pool cy h) s.heap.size) nL cells slots Q h' lv pc []) → jW p l e rm s m args below meth c D cy (va_A (pool cy h) s.heap.size) nL 0 0 Q h (lv_args 0 av) 0 []) : jV l D cy y (.code y cc nL none) rm av h post := by
  intro sz
  refine Met.ofW (cc := cc) (maxL := nL) (ret := none) hy rfl ?_
  intro p e s m args below meth c s₁ B hml hv
  obtain ⟨rfl, hsz, hP, hK, hD0, hT0, hN0⟩ := hv
  subst hsz
  have C : jC p s m av.toArray meth c D cy (va_A (pool cy h) s.heap.size) nL y.cls cc := ⟨B.exec, B.bytes, hml, findClass_of_methodNamed B.named, fun w hw => atoms_spec (ws := .code y cc nL none :: wall) B.pre w (List.mem_cons_of_mem _ hw), hK, fun q h => Or.inr h, B.notSynchronized, hT0, hN0⟩
  have hlocks := B.notSynchronized
  rw [lg_entry_eq]
  refine body p e s m _ below meth c _ C (name_of_methodNamed B.named B.method).1 ?_ s.heap [] _ hP hD0.self va_S.rf (lv_entry av hlen)
  intro h' cells slots lv pc hp hc hs hd H locs ls hP' hD' hS hl
  refine W.widen hc hs ?_
  exact W.vret C.1 C.2.1 B.returns (fun t ht hW => ⟨⟨h', rfl, hp, by rw [ht]; exact hP', va_K.moved hW.alike hK, hD'⟩, hS.F ht⟩) hS.2.2 hd
theorem j_ofQ {l : Launch} {D : va_G} {cy : Nat → ClassId} {y : MethodName} {cc : ByteArray} {nL : Nat} {rm : Room} {av : List Value} {h : jH} {post : Option Nat → jH → Prop} {Cn : String} (hy : plainName y.cls = true) (hlen : (lg_sl av).length ≤ nL)
    (body : ∀ (p : Program) (e : Env) (s : State) (m : MethodId) (args : Array Value) (below : List Frame) (meth : Method) (c : Code) (Q : State → Prop), jC p s m args meth c D cy (va_A (pool cy h) s.heap.size) nL y.cls cc → meth.name = y.name → (∀ (r : Option Nat) (h' : jH) (cells slots : Nat) (lv : List (Nat × Value)) (pc : Nat), post r h' → cells ≤ rm.cells → slots ≤ rm.slots → decode cc pc = .ok (.areturn, 1) → jW p l e rm s m args below meth c D cy (va_A (pool cy h) s.heap.size) nL cells slots Q h' lv pc [va_rf r]) → jW p l e rm s m args below meth c D cy (va_A (pool cy h) s.heap.size) nL 0 0 Q h (lv_args 0 av) 0 []) : jQ l D cy y (.code y cc nL (some (.object Cn))) rm av h post := by
  intro sz
  refine Met.ofW (cc := cc) (maxL := nL) (ret := (some (.object Cn))) hy rfl ?_
  intro p e s m args below meth c s₁ B hml hv
  obtain ⟨rfl, hsz, hP, hK, hD0, hT0, hN0⟩ := hv
  subst hsz
  have C : jC p s m av.toArray meth c D cy (va_A (pool cy h) s.heap.size) nL y.cls cc := ⟨B.exec, B.bytes, hml, findClass_of_methodNamed B.named, fun w hw => atoms_spec (ws := .code y cc nL (some (.object Cn)) :: wall) B.pre w (List.mem_cons_of_mem _ hw), hK, fun q h => Or.inr h, B.notSynchronized, hT0, hN0⟩
  have hlocks := B.notSynchronized
  rw [lg_entry_eq]
  refine body p e s m _ below meth c _ C (name_of_methodNamed B.named B.method).1 ?_ s.heap [] _ hP hD0.self va_S.rf (lv_entry av hlen)
  intro r h' cells slots lv pc hp hc hs hd H locs ls hP' hD' hS hl
  refine W.widen hc hs ?_
  exact W.aret C.1 C.2.1 B.returns (Or.inl ⟨_, rfl⟩) (va_rf_or r) (fun t ht hW => ⟨⟨r, h', rfl, hp, by rw [ht]; exact hP', va_K.moved hW.alike hK, hD'⟩, hS.F ht⟩) hS.2.2 hd
/-- a call's words: pool number index of own is the method y, with these bytes, n parameters -/
def jG (own : String) (index : Nat) (y : MethodName) (bytes : ByteArray) (nLc : Nat) (ret : Option FieldType) (n : Nat) : Prop := Cond.methodLink own index y ∈ wall ∧ Cond.initialized y.cls ∈ wall ∧ Cond.code y bytes nLc ret ∈ wall ∧ (y.cls ≠ "java/lang/invoke/MethodHandle" ∧ y.cls ≠ "java/lang/invoke/VarHandle" ∧ (parseMethodDescriptor y.desc).map (fun d => d.parameters.length) = some n)
def jGv (own : String) (index : Nat) (y : MethodName) (bytes : ByteArray) (nLc : Nat) (ret : Option FieldType) (n ci : Nat) : Prop := jG own index y bytes nLc ret n ∧ Cond.instanceMethod y ∈ wall ∧ Cond.selects y.cls y y ∈ wall ∧ ci < 12 ∧ ∃ r : vw_C, vwCl[ci]? = some r ∧ r.1 = y.cls
def jGs (own : String) (index : Nat) (y : MethodName) (bytes : ByteArray) (nLc : Nat) (ret : Option FieldType) (n : Nat) : Prop := jG own index y bytes nLc ret n ∧ Cond.static y ∈ wall
def jGi (own : String) (index : Nat) (y : MethodName) (bytes : ByteArray) (nLc : Nat) (n : Nat) : Prop := jG own index y bytes nLc none n ∧ Cond.instanceMethod y ∈ wall ∧ y.name = "<init>"
theorem wl_self : GoodIn wall wall := fun w hw => ⟨hw, wl_good hw⟩
theorem wl_cons {d : Cond} (h : d ∈ wall) : GoodIn wall (d :: wall) := fun w hw => by
  rcases List.mem_cons.mp hw with rfl | h2
  · exact ⟨h, wl_good h⟩
  · exact ⟨h2, wl_good h2⟩
section JCALLS
variable {p : Program} {l : Launch} {e : Env} {R : Room} {s : State} {m : MethodId} {args : Array Value} {below : List Frame} {meth : Method} {c : Code} {D : va_G} {cy : Nat → ClassId} {A : Nat → Prop} {nL cells slots : Nat} {Q : State → Prop} {own : String} {cc : ByteArray} {h : jH} {lv lv' : List (Nat × Value)} {pc : Nat} {st : List Value}
theorem jG_B (C : jC p s m args meth c D cy A nL own cc) {index : Nat} {y : MethodName} {bytes : ByteArray} {nLc n : Nat} {ret : Option FieldType} {rmc : Room} (G : jG own index y bytes nLc ret n) (hR : rmc.frames + 1 ≤ R.frames ∧ 8 + (nLc + 11) + rmc.locals ≤ R.locals) : CallB R s args own index y bytes nLc ret (.code y bytes nLc ret :: wall) rmc rmc.cells rmc.slots n :=
  callB_of (Ts := wall) n C.2.2.2.2.1 (wl_cons G.2.2.1) rfl rfl rfl (C.2.2.2.2.1 _ G.2.1) (C.2.2.2.2.1 _ G.1) G.2.2.2 hR
theorem j_in (C : jC p s m args meth c D cy A nL own cc) {H : Heap} {locs : List Loc} (hD : va_D A (pool cy h)) (hS : va_S A s.heap H locs) : ∀ q, va_A (pool cy h) H.size q → A q := fun q hq => by
  rcases hq with ⟨k, x, hk⟩ | hq
  · exact hD.2 k _ hk
  · exact C.2.2.2.2.2.2.1 q (Nat.le_trans hS.1 hq)
theorem j_pre (C : jC p s m args meth c D cy A nL own cc) {H : Heap} {locs : List Loc} {av : List Value} (hP : va_P D vwCl (pool cy h) H) (hD : va_D A (pool cy h)) (hS : va_S A s.heap H locs) : PreS s H (jPre D cy av h H.size) av := ⟨jPre_blind, fun U hU hW => ⟨rfl, by rw [hU], by rw [hU]; exact hP, va_K.moved hW.alike C.2.2.2.2.2.1, hD.weaken (fun _ _ _ _ => trivial), by rw [hU]; exact (((C.2.2.2.2.2.2.2.2.1).kept hS.2.1).narrow (j_in C hD hS)).moved hW.alike, (C.2.2.2.2.2.2.2.2.2).warm hW⟩⟩
theorem j_callVi (C : jC p s m args meth c D cy A nL own cc) {index b ci n nLc : Nat} {y : MethodName} {bytes : ByteArray} {ret : Option FieldType} {rmc : Room} {As rest : List Value} {post : Int32 → jH → Prop} (G : jGv own index y bytes nLc ret n ci) (M : jI l D cy y (.code y bytes nLc ret) rmc (.ref b :: As) h post) (ok : h_ok h b ci) (hn : As.length = n) (hst : st = As.reverse ++ .ref b :: rest) (hW : (rest.map fun v => v.category).sum ≤ 8) (hR : rmc.frames + 1 ≤ R.frames ∧ 8 + (nLc + 11) + rmc.locals ≤ R.locals) (hf : cells + rmc.cells ≤ R.cells ∧ slots + rmc.slots ≤ R.slots) (hd : decode cc pc = .ok (.invokevirtual index, 3)) (kk : ∀ (r : Int32) (h' : jH), post r h' → jW p l e R s m args below meth c D cy A nL (cells + rmc.cells) (slots + rmc.slots) Q h' lv (pc + 3) (.int r :: rest)) : jW p l e R s m args below meth c D cy A nL cells slots Q h lv pc st := fun H locs ls hP hD hS hl => by
  have hFc := j_in C hD hS
  obtain ⟨vr, hvr, hvn⟩ := G.2.2.2.2
  have hrecv : ∃ cellB : Cell, H[b]? = some cellB ∧ cellB.vm.isStatics = false ∧ s.vm.findClass y.cls = some cellB.cls := by
    obtain ⟨q, hq⟩ := pool_get (cy := cy) ok.1
    rw [pf_obj ok.2 G.2.2.2.1] at hq
    rw [← hvn]
    exact va_recv C.2.2.2.2.2.1 hP hvr hq
  refine va_calli (va_runV (As := As) (rest := rest) ⟨C.1, C.2.1, C.2.2.1, C.2.2.2.1, C.2.2.2.2.1⟩ (M H.size) ⟨jG_B C G.1 hR, C.2.2.2.2.1 _ G.2.1, C.2.2.2.2.1 _ G.2.2.1⟩ ⟨(j_pre C (av := .ref b :: As) hP hD hS).1, hrecv, (j_pre C hP hD hS).2⟩ rfl hn hl.1 hst (lv_room hW) hd hf) hS (fun q _ hq => hFc q hq) hFc (fun r u t H1 locs1 ht hvm hw hB hz1 hk1 hS1 => ?_)
  obtain ⟨hP1, hK1, hD1⟩ := hB
  rw [ht] at hP1
  exact kk r u hw H1 locs1 ls hP1 (hD1.weaken (fun _ q _ hq => hFc q.1 hq)) hS1 hl
theorem j_callVv (C : jC p s m args meth c D cy A nL own cc) {index b ci n nLc : Nat} {y : MethodName} {bytes : ByteArray} {ret : Option FieldType} {rmc : Room} {As rest : List Value} {post : jH → Prop} (G : jGv own index y bytes nLc ret n ci) (M : jV l D cy y (.code y bytes nLc ret) rmc (.ref b :: As) h post) (ok : h_ok h b ci) (hn : As.length = n) (hst : st = As.reverse ++ .ref b :: rest) (hW : (rest.map fun v => v.category).sum ≤ 8) (hR : rmc.frames + 1 ≤ R.frames ∧ 8 + (nLc + 11) + rmc.locals ≤ R.locals) (hf : cells + rmc.cells ≤ R.cells ∧ slots + rmc.slots ≤ R.slots) (hd : decode cc pc = .ok (.invokevirtual index, 3)) (kk : ∀ (h' : jH), post h' → jW p l e R s m args below meth c D cy A nL (cells + rmc.cells) (slots + rmc.slots) Q h' lv (pc + 3) (rest)) : jW p l e R s m args below meth c D cy A nL cells slots Q h lv pc st := fun H locs ls hP hD hS hl => by
  have hFc := j_in C hD hS
  obtain ⟨vr, hvr, hvn⟩ := G.2.2.2.2
  have hrecv : ∃ cellB : Cell, H[b]? = some cellB ∧ cellB.vm.isStatics = false ∧ s.vm.findClass y.cls = some cellB.cls := by
    obtain ⟨q, hq⟩ := pool_get (cy := cy) ok.1
    rw [pf_obj ok.2 G.2.2.2.1] at hq
    rw [← hvn]
    exact va_recv C.2.2.2.2.2.1 hP hvr hq
  refine va_callv (va_runV (As := As) (rest := rest) ⟨C.1, C.2.1, C.2.2.1, C.2.2.2.1, C.2.2.2.2.1⟩ (M H.size) ⟨jG_B C G.1 hR, C.2.2.2.2.1 _ G.2.1, C.2.2.2.2.1 _ G.2.2.1⟩ ⟨(j_pre C (av := .ref b :: As) hP hD hS).1, hrecv, (j_pre C hP hD hS).2⟩ rfl hn hl.1 hst (lv_room hW) hd hf) hS (fun q _ hq => hFc q hq) hFc (fun u t H1 locs1 ht hvm hw hB hz1 hk1 hS1 => ?_)
  obtain ⟨hP1, hK1, hD1⟩ := hB
  rw [ht] at hP1
  exact kk u hw H1 locs1 ls hP1 (hD1.weaken (fun _ q _ hq => hFc q.1 hq)) hS1 hl
theorem j_callVq (C : jC p s m args meth c D cy A nL own cc) {index b ci n nLc : Nat} {y : MethodName} {bytes : ByteArray} {ret : Option FieldType} {rmc : Room} {As rest : List Value} {post : Option Nat → jH → Prop} (G : jGv own index y bytes nLc ret n ci) (M : jQ l D cy y (.code y bytes nLc ret) rmc (.ref b :: As) h post) (ok : h_ok h b ci) (hn : As.length = n) (hst : st = As.reverse ++ .ref b :: rest) (hW : (rest.map fun v => v.category).sum ≤ 8) (hR : rmc.frames + 1 ≤ R.frames ∧ 8 + (nLc + 11) + rmc.locals ≤ R.locals) (hf : cells + rmc.cells ≤ R.cells ∧ slots + rmc.slots ≤ R.slots) (hd : decode cc pc = .ok (.invokevirtual index, 3)) (kk : ∀ (r : Option Nat) (h' : jH), post r h' → jW p l e R s m args below meth c D cy A nL (cells + rmc.cells) (slots + rmc.slots) Q h' lv (pc + 3) (va_rf r :: rest)) : jW p l e R s m args below meth c D cy A nL cells slots Q h lv pc st := fun H locs ls hP hD hS hl => by
  have hFc := j_in C hD hS
  obtain ⟨vr, hvr, hvn⟩ := G.2.2.2.2
  have hrecv : ∃ cellB : Cell, H[b]? = some cellB ∧ cellB.vm.isStatics = false ∧ s.vm.findClass y.cls = some cellB.cls := by
    obtain ⟨q, hq⟩ := pool_get (cy := cy) ok.1
    rw [pf_obj ok.2 G.2.2.2.1] at hq
    rw [← hvn]
    exact va_recv C.2.2.2.2.2.1 hP hvr hq
  refine va_callq (va_runV (As := As) (rest := rest) ⟨C.1, C.2.1, C.2.2.1, C.2.2.2.1, C.2.2.2.2.1⟩ (M H.size) ⟨jG_B C G.1 hR, C.2.2.2.2.1 _ G.2.1, C.2.2.2.2.1 _ G.2.2.1⟩ ⟨(j_pre C (av := .ref b :: As) hP hD hS).1, hrecv, (j_pre C hP hD hS).2⟩ rfl hn hl.1 hst (lv_room hW) hd hf) hS (fun q _ hq => hFc q hq) hFc (fun r u t H1 locs1 ht hvm hw hB hz1 hk1 hS1 => ?_)
  obtain ⟨hP1, hK1, hD1⟩ := hB
  rw [ht] at hP1
  exact kk r u hw H1 locs1 ls hP1 (hD1.weaken (fun _ q _ hq => hFc q.1 hq)) hS1 hl
theorem j_callSi (C : jC p s m args meth c D cy A nL own cc) {index n nLc : Nat} {y : MethodName} {bytes : ByteArray} {ret : Option FieldType} {rmc : Room} {As rest : List Value} {post : Int32 → jH → Prop} (G : jGs own index y bytes nLc ret n) (M : jI l D cy y (.code y bytes nLc ret) rmc As h post) (hn : As.length = n) (hst : st = As.reverse ++ rest) (hW : (rest.map fun v => v.category).sum ≤ 8) (hR : rmc.frames + 1 ≤ R.frames ∧ 8 + (nLc + 11) + rmc.locals ≤ R.locals) (hf : cells + rmc.cells ≤ R.cells ∧ slots + rmc.slots ≤ R.slots) (hd : decode cc pc = .ok (.invokestatic index, 3)) (kk : ∀ (r : Int32) (h' : jH), post r h' → jW p l e R s m args below meth c D cy A nL (cells + rmc.cells) (slots + rmc.slots) Q h' lv (pc + 3) (.int r :: rest)) : jW p l e R s m args below meth c D cy A nL cells slots Q h lv pc st := fun H locs ls hP hD hS hl => by
  have hFc := j_in C hD hS
  refine va_calli (va_runS (As := As) (rest := rest) ⟨C.1, C.2.1, C.2.2.1, C.2.2.2.1, C.2.2.2.2.1⟩ (M H.size) ⟨jG_B C G.1 hR, C.2.2.2.2.1 _ G.2⟩ (j_pre C hP hD hS) rfl hn hl.1 hst (lv_room hW) hd hf) hS (fun q _ hq => hFc q hq) hFc (fun r u t H1 locs1 ht hvm hw hB hz1 hk1 hS1 => ?_)
  obtain ⟨hP1, hK1, hD1⟩ := hB
  rw [ht] at hP1
  exact kk r u hw H1 locs1 ls hP1 (hD1.weaken (fun _ q _ hq => hFc q.1 hq)) hS1 hl
theorem j_callSv (C : jC p s m args meth c D cy A nL own cc) {index n nLc : Nat} {y : MethodName} {bytes : ByteArray} {ret : Option FieldType} {rmc : Room} {As rest : List Value} {post : jH → Prop} (G : jGs own index y bytes nLc ret n) (M : jV l D cy y (.code y bytes nLc ret) rmc As h post) (hn : As.length = n) (hst : st = As.reverse ++ rest) (hW : (rest.map fun v => v.category).sum ≤ 8) (hR : rmc.frames + 1 ≤ R.frames ∧ 8 + (nLc + 11) + rmc.locals ≤ R.locals) (hf : cells + rmc.cells ≤ R.cells ∧ slots + rmc.slots ≤ R.slots) (hd : decode cc pc = .ok (.invokestatic index, 3)) (kk : ∀ (h' : jH), post h' → jW p l e R s m args below meth c D cy A nL (cells + rmc.cells) (slots + rmc.slots) Q h' lv (pc + 3) (rest)) : jW p l e R s m args below meth c D cy A nL cells slots Q h lv pc st := fun H locs ls hP hD hS hl => by
  have hFc := j_in C hD hS
  refine va_callv (va_runS (As := As) (rest := rest) ⟨C.1, C.2.1, C.2.2.1, C.2.2.2.1, C.2.2.2.2.1⟩ (M H.size) ⟨jG_B C G.1 hR, C.2.2.2.2.1 _ G.2⟩ (j_pre C hP hD hS) rfl hn hl.1 hst (lv_room hW) hd hf) hS (fun q _ hq => hFc q hq) hFc (fun u t H1 locs1 ht hvm hw hB hz1 hk1 hS1 => ?_)
  obtain ⟨hP1, hK1, hD1⟩ := hB
  rw [ht] at hP1
  exact kk u hw H1 locs1 ls hP1 (hD1.weaken (fun _ q _ hq => hFc q.1 hq)) hS1 hl
theorem j_callSq (C : jC p s m args meth c D cy A nL own cc) {index n nLc : Nat} {y : MethodName} {bytes : ByteArray} {ret : Option FieldType} {rmc : Room} {As rest : List Value} {post : Option Nat → jH → Prop} (G : jGs own index y bytes nLc ret n) (M : jQ l D cy y (.code y bytes nLc ret) rmc As h post) (hn : As.length = n) (hst : st = As.reverse ++ rest) (hW : (rest.map fun v => v.category).sum ≤ 8) (hR : rmc.frames + 1 ≤ R.frames ∧ 8 + (nLc + 11) + rmc.locals ≤ R.locals) (hf : cells + rmc.cells ≤ R.cells ∧ slots + rmc.slots ≤ R.slots) (hd : decode cc pc = .ok (.invokestatic index, 3)) (kk : ∀ (r : Option Nat) (h' : jH), post r h' → jW p l e R s m args below meth c D cy A nL (cells + rmc.cells) (slots + rmc.slots) Q h' lv (pc + 3) (va_rf r :: rest)) : jW p l e R s m args below meth c D cy A nL cells slots Q h lv pc st := fun H locs ls hP hD hS hl => by
  have hFc := j_in C hD hS
  refine va_callq (va_runS (As := As) (rest := rest) ⟨C.1, C.2.1, C.2.2.1, C.2.2.2.1, C.2.2.2.2.1⟩ (M H.size) ⟨jG_B C G.1 hR, C.2.2.2.2.1 _ G.2⟩ (j_pre C hP hD hS) rfl hn hl.1 hst (lv_room hW) hd hf) hS (fun q _ hq => hFc q hq) hFc (fun r u t H1 locs1 ht hvm hw hB hz1 hk1 hS1 => ?_)
  obtain ⟨hP1, hK1, hD1⟩ := hB
  rw [ht] at hP1
  exact kk r u hw H1 locs1 ls hP1 (hD1.weaken (fun _ q _ hq => hFc q.1 hq)) hS1 hl
theorem j_callIv (C : jC p s m args meth c D cy A nL own cc) {index b n nLc : Nat} {y : MethodName} {bytes : ByteArray} {ret : Option FieldType} {rmc : Room} {As rest : List Value} {post : jH → Prop} (G : jGi own index y bytes nLc n) (M : jV l D cy y (.code y bytes nLc none) rmc (.ref b :: As) h post) (hn : As.length = n) (hst : st = As.reverse ++ .ref b :: rest) (hW : (rest.map fun v => v.category).sum ≤ 8) (hR : rmc.frames + 1 ≤ R.frames ∧ 8 + (nLc + 11) + rmc.locals ≤ R.locals) (hf : cells + rmc.cells ≤ R.cells ∧ slots + rmc.slots ≤ R.slots) (hd : decode cc pc = .ok (.invokespecial index, 3)) (kk : ∀ (h' : jH), post h' → jW p l e R s m args below meth c D cy A nL (cells + rmc.cells) (slots + rmc.slots) Q h' lv (pc + 3) (rest)) : jW p l e R s m args below meth c D cy A nL cells slots Q h lv pc st := fun H locs ls hP hD hS hl => by
  have hFc := j_in C hD hS
  refine va_callv (va_runI (As := As) (rest := rest) ⟨C.1, C.2.1, C.2.2.1, C.2.2.2.1, C.2.2.2.2.1⟩ (M H.size) ⟨jG_B C G.1 hR, G.2.2, C.2.2.2.2.1 _ G.2.1⟩ (j_pre C hP hD hS) rfl hn hl.1 hst (lv_room hW) hd hf) hS (fun q _ hq => hFc q hq) hFc (fun u t H1 locs1 ht hvm hw hB hz1 hk1 hS1 => ?_)
  obtain ⟨hP1, hK1, hD1⟩ := hB
  rw [ht] at hP1
  exact kk u hw H1 locs1 ls hP1 (hD1.weaken (fun _ q _ hq => hFc q.1 hq)) hS1 hl
theorem j_max (C : jC p s m args meth c D cy A nL own cc) {index : Nat} {x y : Int32} (hk : Cond.methodLink own index Lib.Math.max.name ∈ wall) (hd : decode cc pc = .ok (.invokestatic index, 3)) (h1 : 1 ≤ R.frames) (h2 : (st.map fun v => v.category).sum + 13 ≤ R.locals) (hc : cells ≤ R.cells) (hs : slots ≤ R.slots) (k : jW p l e R s m args below meth c D cy A nL cells slots Q h lv (pc + 3) (.int (if x < y then y else x) :: st)) : jW p l e R s m args below meth c D cy A nL cells slots Q h lv pc (.int y :: .int x :: st) := fun H locs ls hP hD hS hl => va_mmax C.1 C.2.1 (C.2.2.1.trans hl.1.symm) C.2.2.2.1 (C.2.2.2.2.1 _ hk) (C.2.2.2.2.1 _ kS_Lib_Math_max_name) (C.2.2.2.2.1 _ kN_Math) (C.2.2.2.2.1 _ kC_max) h1 h2 hc hs hd (k H locs ls hP hD hS hl)
theorem j_min (C : jC p s m args meth c D cy A nL own cc) {index : Nat} {x y : Int32} (hk : Cond.methodLink own index Lib.Math.min.name ∈ wall) (hd : decode cc pc = .ok (.invokestatic index, 3)) (h1 : 1 ≤ R.frames) (h2 : (st.map fun v => v.category).sum + 13 ≤ R.locals) (hc : cells ≤ R.cells) (hs : slots ≤ R.slots) (k : jW p l e R s m args below meth c D cy A nL cells slots Q h lv (pc + 3) (.int (if y < x then y else x) :: st)) : jW p l e R s m args below meth c D cy A nL cells slots Q h lv pc (.int y :: .int x :: st) := fun H locs ls hP hD hS hl => va_mmin C.1 C.2.1 (C.2.2.1.trans hl.1.symm) C.2.2.2.1 (C.2.2.2.2.1 _ hk) (C.2.2.2.2.1 _ kS_Lib_Math_min_name) (C.2.2.2.2.1 _ kN_Math) (C.2.2.2.2.1 _ kC_min) h1 h2 hc hs hd (k H locs ls hP hD hS hl)
end JCALLS
