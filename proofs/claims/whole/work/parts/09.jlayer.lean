/-! the heap of the system as functions: addresses, kind of each (0..11 objects, 12 rows of ints, 13.. rows of references), lengths, int fields, reference fields, int rows, reference rows -/
def jH : Type := List Nat × (Nat → Nat) × (Nat → Nat) × (Nat → Nat → Int32) × (Nat → Nat → Option Nat) × (Nat → Nat → Int32) × (Nat → Nat → Option Nat)
def h_L (h : jH) : List Nat := h.1
def h_K (h : jH) (a : Nat) : Nat := h.2.1 a
def h_N (h : jH) (a : Nat) : Nat := h.2.2.1 a
def h_I (h : jH) (f a : Nat) : Int32 := h.2.2.2.1 f a
def h_R (h : jH) (f a : Nat) : Option Nat := h.2.2.2.2.1 f a
def h_A (h : jH) (a i : Nat) : Int32 := h.2.2.2.2.2.1 a i
def h_B (h : jH) (a i : Nat) : Option Nat := h.2.2.2.2.2.2 a i
def u2 {α : Type} (g : Nat → Nat → α) (f a : Nat) (v : α) : Nat → Nat → α := fun f' a' => if f' = f then (if a' = a then v else g f' a') else g f' a'
def z2 {α : Type} (g : Nat → Nat → α) (a : Nat) (v : α) : Nat → Nat → α := fun f' a' => if a' = a then v else g f' a'
def r2 {α : Type} (g : Nat → Nat → α) (a : Nat) (v : α) : Nat → Nat → α := fun a' i => if a' = a then v else g a' i
def s_I (h : jH) (f a : Nat) (v : Int32) : jH := (h.1, h.2.1, h.2.2.1, u2 h.2.2.2.1 f a v, h.2.2.2.2.1, h.2.2.2.2.2.1, h.2.2.2.2.2.2)
def s_R (h : jH) (f a : Nat) (v : Option Nat) : jH := (h.1, h.2.1, h.2.2.1, h.2.2.2.1, u2 h.2.2.2.2.1 f a v, h.2.2.2.2.2.1, h.2.2.2.2.2.2)
def s_A (h : jH) (a i : Nat) (v : Int32) : jH := (h.1, h.2.1, h.2.2.1, h.2.2.2.1, h.2.2.2.2.1, u2 h.2.2.2.2.2.1 a i v, h.2.2.2.2.2.2)
def s_B (h : jH) (a i : Nat) (v : Option Nat) : jH := (h.1, h.2.1, h.2.2.1, h.2.2.2.1, h.2.2.2.2.1, h.2.2.2.2.2.1, u2 h.2.2.2.2.2.2 a i v)
def s_O (h : jH) (q k : Nat) : jH := (h.1 ++ [q], va_up h.2.1 q k, h.2.2.1, z2 h.2.2.2.1 q 0, z2 h.2.2.2.2.1 q none, h.2.2.2.2.2.1, h.2.2.2.2.2.2)
def s_N (h : jH) (q k n : Nat) : jH := (h.1 ++ [q], va_up h.2.1 q k, va_up h.2.2.1 q n, h.2.2.2.1, h.2.2.2.2.1, r2 h.2.2.2.2.2.1 q 0, r2 h.2.2.2.2.2.2 q none)
theorem g_LI (h : jH) (f0 a : Nat) (v : Int32) : h_L (s_I h f0 a v) = h_L h := rfl
theorem g_KI (h : jH) (f0 a : Nat) (v : Int32) (b : Nat) : h_K (s_I h f0 a v) b = h_K h b := rfl
theorem g_NI (h : jH) (f0 a : Nat) (v : Int32) (b : Nat) : h_N (s_I h f0 a v) b = h_N h b := rfl
theorem g_II (h : jH) (f0 a : Nat) (v : Int32) (f b : Nat) : h_I (s_I h f0 a v) f b = if f = f0 then (if b = a then v else h_I h f b) else h_I h f b := rfl
theorem g_RI (h : jH) (f0 a : Nat) (v : Int32) (f b : Nat) : h_R (s_I h f0 a v) f b = h_R h f b := rfl
theorem g_AI (h : jH) (f0 a : Nat) (v : Int32) (b j : Nat) : h_A (s_I h f0 a v) b j = h_A h b j := rfl
theorem g_BI (h : jH) (f0 a : Nat) (v : Int32) (b j : Nat) : h_B (s_I h f0 a v) b j = h_B h b j := rfl
theorem g_LR (h : jH) (f0 a : Nat) (v : Option Nat) : h_L (s_R h f0 a v) = h_L h := rfl
theorem g_KR (h : jH) (f0 a : Nat) (v : Option Nat) (b : Nat) : h_K (s_R h f0 a v) b = h_K h b := rfl
theorem g_NR (h : jH) (f0 a : Nat) (v : Option Nat) (b : Nat) : h_N (s_R h f0 a v) b = h_N h b := rfl
theorem g_IR (h : jH) (f0 a : Nat) (v : Option Nat) (f b : Nat) : h_I (s_R h f0 a v) f b = h_I h f b := rfl
theorem g_RR (h : jH) (f0 a : Nat) (v : Option Nat) (f b : Nat) : h_R (s_R h f0 a v) f b = if f = f0 then (if b = a then v else h_R h f b) else h_R h f b := rfl
theorem g_AR (h : jH) (f0 a : Nat) (v : Option Nat) (b j : Nat) : h_A (s_R h f0 a v) b j = h_A h b j := rfl
theorem g_BR (h : jH) (f0 a : Nat) (v : Option Nat) (b j : Nat) : h_B (s_R h f0 a v) b j = h_B h b j := rfl
theorem g_LA (h : jH) (a i : Nat) (v : Int32) : h_L (s_A h a i v) = h_L h := rfl
theorem g_KA (h : jH) (a i : Nat) (v : Int32) (b : Nat) : h_K (s_A h a i v) b = h_K h b := rfl
theorem g_NA (h : jH) (a i : Nat) (v : Int32) (b : Nat) : h_N (s_A h a i v) b = h_N h b := rfl
theorem g_IA (h : jH) (a i : Nat) (v : Int32) (f b : Nat) : h_I (s_A h a i v) f b = h_I h f b := rfl
theorem g_RA (h : jH) (a i : Nat) (v : Int32) (f b : Nat) : h_R (s_A h a i v) f b = h_R h f b := rfl
theorem g_AA (h : jH) (a i : Nat) (v : Int32) (b j : Nat) : h_A (s_A h a i v) b j = if b = a then (if j = i then v else h_A h b j) else h_A h b j := rfl
theorem g_BA (h : jH) (a i : Nat) (v : Int32) (b j : Nat) : h_B (s_A h a i v) b j = h_B h b j := rfl
theorem g_LB (h : jH) (a i : Nat) (v : Option Nat) : h_L (s_B h a i v) = h_L h := rfl
theorem g_KB (h : jH) (a i : Nat) (v : Option Nat) (b : Nat) : h_K (s_B h a i v) b = h_K h b := rfl
theorem g_NB (h : jH) (a i : Nat) (v : Option Nat) (b : Nat) : h_N (s_B h a i v) b = h_N h b := rfl
theorem g_IB (h : jH) (a i : Nat) (v : Option Nat) (f b : Nat) : h_I (s_B h a i v) f b = h_I h f b := rfl
theorem g_RB (h : jH) (a i : Nat) (v : Option Nat) (f b : Nat) : h_R (s_B h a i v) f b = h_R h f b := rfl
theorem g_AB (h : jH) (a i : Nat) (v : Option Nat) (b j : Nat) : h_A (s_B h a i v) b j = h_A h b j := rfl
theorem g_BB (h : jH) (a i : Nat) (v : Option Nat) (b j : Nat) : h_B (s_B h a i v) b j = if b = a then (if j = i then v else h_B h b j) else h_B h b j := rfl
theorem g_LO (h : jH) (q k : Nat) : h_L (s_O h q k) = h_L h ++ [q] := rfl
theorem g_KO (h : jH) (q k b : Nat) : h_K (s_O h q k) b = if b = q then k else h_K h b := rfl
theorem g_NO (h : jH) (q k b : Nat) : h_N (s_O h q k) b = h_N h b := rfl
theorem g_IO (h : jH) (q k f b : Nat) : h_I (s_O h q k) f b = if b = q then 0 else h_I h f b := rfl
theorem g_RO (h : jH) (q k f b : Nat) : h_R (s_O h q k) f b = if b = q then none else h_R h f b := rfl
theorem g_AO (h : jH) (q k b j : Nat) : h_A (s_O h q k) b j = h_A h b j := rfl
theorem g_BO (h : jH) (q k b j : Nat) : h_B (s_O h q k) b j = h_B h b j := rfl
theorem g_LN (h : jH) (q k n : Nat) : h_L (s_N h q k n) = h_L h ++ [q] := rfl
theorem g_KN (h : jH) (q k n b : Nat) : h_K (s_N h q k n) b = if b = q then k else h_K h b := rfl
theorem g_NN (h : jH) (q k n b : Nat) : h_N (s_N h q k n) b = if b = q then n else h_N h b := rfl
theorem g_IN (h : jH) (q k n f b : Nat) : h_I (s_N h q k n) f b = h_I h f b := rfl
theorem g_RN (h : jH) (q k n f b : Nat) : h_R (s_N h q k n) f b = h_R h f b := rfl
theorem g_AN (h : jH) (q k n b j : Nat) : h_A (s_N h q k n) b j = if b = q then 0 else h_A h b j := rfl
theorem g_BN (h : jH) (q k n b j : Nat) : h_B (s_N h q k n) b j = if b = q then none else h_B h b j := rfl
def nf (c : Nat) : Nat := ([1, 4, 12, 7, 1, 5, 20, 8, 4, 3, 5, 49] : List Nat).getD c 0
def rfb (c k : Nat) : Bool := (([[true], [true, false, false, false], [false, true, false, true, false, true, false, false, true, false, false, false], [false, false, false, false, false, true, true], [true], [true, false, false, false, false], [false, false, false, false, true, true, true, false, false, false, false, false, false, true, false, false, false, false, false, false], [true, true, true, true, true, true, false, false], [true, false, false, false], [true, false, false], [true, true, true, true, true], [false, false, false, false, false, false, false, false, false, true, true, true, true, true, true, true, true, true, true, true, true, true, true, true, true, true, true, true, true, true, true, true, true, true, true, true, true, true, true, true, true, true, true, true, true, true, true, true, true]] : List (List Bool)).getD c []).getD k false
def fv (c k : Nat) (h : jH) (a : Nat) : Value := if rfb c k = true then va_rf (h_R h (64 * c + k) a) else .int (h_I h (64 * c + k) a)
def fl (c : Nat) (h : jH) (a : Nat) : List Value := (List.range (nf c)).map (fun k => fv c k h a)
def pf (cy : Nat → ClassId) (h : jH) (a : Nat) : va_E := if h_K h a < 12 then .inr (h_K h a, fl (h_K h a) h a) else if h_K h a = 12 then .inl (cy 12, h_N h a, .inl (h_A h a)) else .inl (cy (h_K h a), h_N h a, .inr (.inr (.inr (.inr (h_B h a)))))
def pool (cy : Nat → ClassId) (h : jH) : va_W := [] ++ va_pl (h_L h) (pf cy h)
def h_ok (h : jH) (a k : Nat) : Prop := a ∈ h_L h ∧ h_K h a = k
theorem fl_len (c : Nat) (h : jH) (a : Nat) : (fl c h a).length = nf c := by simp [fl]
theorem fl_get {c k : Nat} (h : jH) (a : Nat) (hk : k < nf c) : (fl c h a)[k]? = some (fv c k h a) := by simp [fl, hk]
theorem fl_set {c k : Nat} {h h' : jH} {a : Nat} {v : Value} (hk : k < nf c) (h1 : fv c k h' a = v) (h2 : ∀ j, j < nf c → j ≠ k → fv c j h' a = fv c j h a) : (fl c h a).set k v = fl c h' a := by
  apply List.ext_getElem?
  intro j
  rw [List.getElem?_set, fl_len]
  by_cases hj : k = j
  · subst hj
    rw [if_pos rfl, if_pos hk, fl_get h' a hk, h1]
  · rw [if_neg hj]
    by_cases hl : j < nf c
    · rw [fl_get h a hl, fl_get h' a hl, h2 j hl (fun e => hj e.symm)]
    · rw [List.getElem?_eq_none (by rw [fl_len]; omega), List.getElem?_eq_none (by rw [fl_len]; omega)]
theorem fv_congr {c k : Nat} {h h' : jH} {a : Nat} (h1 : ∀ f, h_I h' f a = h_I h f a) (h2 : ∀ f, h_R h' f a = h_R h f a) : fv c k h' a = fv c k h a := by unfold fv; rw [h1, h2]
theorem fl_congr {c : Nat} {h h' : jH} {a : Nat} (h1 : ∀ f, h_I h' f a = h_I h f a) (h2 : ∀ f, h_R h' f a = h_R h f a) : fl c h' a = fl c h a := by
  unfold fl
  exact List.map_congr_left (fun k _ => fv_congr h1 h2)
theorem pf_obj {cy : Nat → ClassId} {h : jH} {a c : Nat} (hk : h_K h a = c) (hc : c < 12) : pf cy h a = .inr (c, fl c h a) := by
  subst hk
  unfold pf
  rw [if_pos hc]
theorem pf_int {cy : Nat → ClassId} {h : jH} {a : Nat} (hk : h_K h a = 12) : pf cy h a = .inl (cy 12, h_N h a, .inl (h_A h a)) := by
  unfold pf
  rw [if_neg (by rw [hk]; decide), if_pos hk]
theorem pf_ref {cy : Nat → ClassId} {h : jH} {a k : Nat} (hk : h_K h a = k) (hc : 12 < k) : pf cy h a = .inl (cy k, h_N h a, .inr (.inr (.inr (.inr (h_B h a))))) := by
  subst hk
  unfold pf
  rw [if_neg (by omega), if_neg (by omega)]
theorem pf_congr {cy : Nat → ClassId} {h h' : jH} {a : Nat} (h0 : h_K h' a = h_K h a) (h00 : h_N h' a = h_N h a) (h1 : ∀ f, h_I h' f a = h_I h f a) (h2 : ∀ f, h_R h' f a = h_R h f a) (h3 : ∀ j, h_A h' a j = h_A h a j) (h4 : ∀ j, h_B h' a j = h_B h a j) : pf cy h' a = pf cy h a := by
  unfold pf
  rw [h0, h00, fl_congr h1 h2, show h_A h' a = h_A h a from funext h3, show h_B h' a = h_B h a from funext h4]
theorem pool_get {cy : Nat → ClassId} {h : jH} {a : Nat} (hL : a ∈ h_L h) : ∃ k : Nat, (pool cy h)[k]? = some (a, pf cy h a) := va_pl_get hL
theorem pool_set {cy : Nat → ClassId} {h h' : jH} {A : Nat → Prop} {a k : Nat} {e : va_E} (hD : va_D A (pool cy h)) (hL : a ∈ h_L h) (hk : (pool cy h)[k]? = some (a, pf cy h a)) (hl : h_L h' = h_L h) (he : pf cy h' a = e) (ho : ∀ b, b ≠ a → pf cy h' b = pf cy h b) : (pool cy h).set k (a, e) = pool cy h' := by
  unfold pool
  rw [va_pl_set hD hL hk, hl]
  refine congrArg (fun l => [] ++ l) (va_pl_congr (fun b => ?_))
  by_cases hb : b = a
  · subst hb; rw [va_up_self, he]
  · rw [va_up_ne _ _ hb, ho b hb]
theorem pool_push {cy : Nat → ClassId} {h h' : jH} {q : Nat} {e : va_E} (hq : q ∉ h_L h) (hl : h_L h' = h_L h ++ [q]) (he : pf cy h' q = e) (ho : ∀ b, b ≠ q → pf cy h' b = pf cy h b) : pool cy h ++ [(q, e)] = pool cy h' := by
  unfold pool
  rw [List.append_assoc, va_pl_push hq, hl]
  refine congrArg (fun l => [] ++ l) (va_pl_congr (fun b => ?_))
  by_cases hb : b = q
  · subst hb; rw [va_up_self, he]
  · rw [va_up_ne _ _ hb, ho b hb]
theorem pool_fresh {cy : Nat → ClassId} {h : jH} {A : Nat → Prop} {q : Nat} {e : va_E} (hD : va_D A (pool cy h ++ [(q, e)])) : q ∉ h_L h := va_pl_fresh2 hD
theorem fid_ne {c j k : Nat} (h : j ≠ k) : ¬ (64 * c + j = 64 * c + k) := fun e => h (by omega)
theorem pset_I {cy : Nat → ClassId} {h : jH} {A : Nat → Prop} {a k c i : Nat} {v : Int32} (hD : va_D A (pool cy h)) (hL : h_ok h a c) (hc : c < 12) (hi : i < nf c) (hb : rfb c i = false) (hk : (pool cy h)[k]? = some (a, pf cy h a)) : (pool cy h).set k (a, .inr (c, (fl c h a).set i (.int v))) = pool cy (s_I h (64 * c + i) a v) := by
  refine pool_set hD hL.1 hk rfl ?_ (fun b hb => pf_congr rfl rfl (fun f => by rw [g_II]; simp [hb]) (fun _ => rfl) (fun _ => rfl) (fun _ => rfl))
  rw [pf_obj (c := c) (by exact hL.2) hc, fl_set (h' := s_I h (64 * c + i) a v) hi]
  · unfold fv; rw [hb, g_II]; simp
  · intro j hj hne
    unfold fv
    rw [g_RI, g_II, if_neg (fid_ne hne)]
theorem pset_R {cy : Nat → ClassId} {h : jH} {A : Nat → Prop} {a k c i : Nat} {v : Option Nat} (hD : va_D A (pool cy h)) (hL : h_ok h a c) (hc : c < 12) (hi : i < nf c) (hb : rfb c i = true) (hk : (pool cy h)[k]? = some (a, pf cy h a)) : (pool cy h).set k (a, .inr (c, (fl c h a).set i (va_rf v))) = pool cy (s_R h (64 * c + i) a v) := by
  refine pool_set hD hL.1 hk rfl ?_ (fun b hb => pf_congr rfl rfl (fun _ => rfl) (fun f => by rw [g_RR]; simp [hb]) (fun _ => rfl) (fun _ => rfl))
  rw [pf_obj (c := c) (by exact hL.2) hc, fl_set (h' := s_R h (64 * c + i) a v) hi]
  · unfold fv; rw [hb, g_RR]; simp
  · intro j hj hne
    unfold fv
    rw [g_RR, g_IR, if_neg (fid_ne hne)]
theorem pset_A {cy : Nat → ClassId} {h : jH} {A : Nat → Prop} {a k i : Nat} {v : Int32} (hD : va_D A (pool cy h)) (hL : h_ok h a 12) (hk : (pool cy h)[k]? = some (a, pf cy h a)) : (pool cy h).set k (a, .inl (cy 12, h_N h a, .inl (upd (h_A h a) i v))) = pool cy (s_A h a i v) := by
  refine pool_set hD hL.1 hk rfl ?_ (fun b hb => pf_congr rfl rfl (fun _ => rfl) (fun _ => rfl) (fun j => by rw [g_AA]; simp [hb]) (fun _ => rfl))
  rw [pf_int (show h_K (s_A h a i v) a = 12 from hL.2), show h_A (s_A h a i v) a = upd (h_A h a) i v from funext fun j => by rw [g_AA]; simp [upd], g_NA]
theorem pset_B {cy : Nat → ClassId} {h : jH} {A : Nat → Prop} {a k i c : Nat} {v : Option Nat} (hD : va_D A (pool cy h)) (hL : h_ok h a c) (hc : 12 < c) (hk : (pool cy h)[k]? = some (a, pf cy h a)) : (pool cy h).set k (a, .inl (cy c, h_N h a, .inr (.inr (.inr (.inr (va_up (h_B h a) i v)))))) = pool cy (s_B h a i v) := by
  refine pool_set hD hL.1 hk rfl ?_ (fun b hb => pf_congr rfl rfl (fun _ => rfl) (fun _ => rfl) (fun _ => rfl) (fun j => by rw [g_BB]; simp [hb]))
  rw [pf_ref (show h_K (s_B h a i v) a = c from hL.2) hc, show h_B (s_B h a i v) a = va_up (h_B h a) i v from funext fun j => by rw [g_BB]; simp [va_up], g_NB]
def jTys (cy : Nat → ClassId) : List (ClassId × FieldType) := [(cy 12, .int), (cy 13, .object "CleanSeed$Bag"), (cy 14, .object "CleanSeed$Field"), (cy 15, .object "CleanSeed$Lot"), (cy 16, .object "CleanSeed$Statute"), (cy 17, .object "CleanSeed$Telling")]

/-- the machine, in a method of the system, at pc, with these locals, this stack and this heap, comes to Q -/
def jW (p : Program) (l : Launch) (e : Env) (R : Room) (s : State) (m : MethodId) (args : Array Value) (below : List Frame) (meth : Method) (c : Code) (D : va_G) (cy : Nat → ClassId) (A : Nat → Prop) (nL cells slots : Nat) (Q : State → Prop) (h : jH) (lv : List (Nat × Value)) (pc : Nat) (st : List Value) : Prop :=
  ∀ (H : Heap) (locs : List Loc) (ls : Array Slot), va_P D vwCl (pool cy h) H → va_D A (pool cy h) → va_S A s.heap H locs → lv_has ls nL lv → W p l e R s m args below meth c H locs cells slots Q (F0 m pc ls st)
/-- the two rows of numbers that the class keeps in statics, outside A -/
def stT (j : Nat) : Value := .int (([1000, 10, 5, 1000, 8] : List Int32).getD j 0)
def stF (j : Nat) : Value := .int (([50, 2, 1, 10, 6] : List Int32).getD j 0)
def jSt (A : Nat → Prop) (U : State) (H : Heap) : Prop := (∃ t : Nat, va_Z "CleanSeed" "STATUTE_TOPS" "[I" (.ref t) A U H ∧ va_T .int t 5 stT A U H) ∧ ∃ t : Nat, va_Z "CleanSeed" "STATUTES_AT_FIRST" "[I" (.ref t) A U H ∧ va_T .int t 5 stF A U H
theorem jSt.moved {A : Nat → Prop} {u U : State} {H : Heap} (hvm : u.vm.Alike U.vm) (h : jSt A u H) : jSt A U H := by
  obtain ⟨⟨t, h1, h2⟩, t2, h3, h4⟩ := h
  exact ⟨⟨t, h1.moved hvm, h2.moved hvm⟩, t2, h3.moved hvm, h4.moved hvm⟩
theorem jSt.kept {A : Nat → Prop} {U : State} {H H1 : Heap} (h : jSt A U H) (hq : ∀ a : Nat, a < H.size → ¬ A a → H1[a]? = H[a]?) : jSt A U H1 := by
  obtain ⟨⟨t, h1, h2⟩, t2, h3, h4⟩ := h
  exact ⟨⟨t, h1.kept hq, h2.kept hq⟩, t2, h3.kept hq, h4.kept hq⟩
theorem jSt.narrow {A B : Nat → Prop} {U : State} {H : Heap} (h : jSt A U H) (hAB : ∀ q, B q → A q) : jSt B U H := by
  obtain ⟨⟨t, h1, h2⟩, t2, h3, h4⟩ := h
  exact ⟨⟨t, h1.narrow hAB, h2.narrow hAB⟩, t2, h3.narrow hAB, h4.narrow hAB⟩
/-- words that are not handed on with the others: rows of references over these classes; links between nest mates -/
def jNw (U : State) : Prop := (va_AO "CleanSeed$Field" U ∧ va_AO "CleanSeed$Lot" U ∧ va_AO "CleanSeed$Bag" U ∧ va_AO "CleanSeed$Statute" U ∧ va_AO "CleanSeed$Telling" U) ∧ va_Nw (.methodLinkNest "CleanSeed" 9 ⟨"CleanSeed$Book", "<init>", "()V"⟩ "CleanSeed") U ∧ va_Nw (.fieldLinkNest "CleanSeed$Book" 45 "CleanSeed" "STATUTE_TOPS" "[I" "CleanSeed") U ∧ va_Nw (.fieldLinkNest "CleanSeed$Book" 67 "CleanSeed" "STATUTES_AT_FIRST" "[I" "CleanSeed") U
theorem jNw.warm {s U : State} (hW : s.WarmedH U.vm) (h : jNw s) : jNw U := ⟨⟨h.1.1.moved hW.alike, h.1.2.1.moved hW.alike, h.1.2.2.1.moved hW.alike, h.1.2.2.2.1.moved hW.alike, h.1.2.2.2.2.moved hW.alike⟩, va_Nw.warmM hW h.2.1, va_Nw.warmF hW h.2.2.1, va_Nw.warmF hW h.2.2.2⟩
theorem jNw.calling {U : State} {g : JFrame} {mk : MethodId} {a : Array Value} (h : jNw U) : jNw (U.calling g mk a) := ⟨⟨va_AO.moved (u := U) (U := U.calling g mk a) (Vm.Alike.refl U.vm) h.1.1, va_AO.moved (u := U) (U := U.calling g mk a) (Vm.Alike.refl U.vm) h.1.2.1, va_AO.moved (u := U) (U := U.calling g mk a) (Vm.Alike.refl U.vm) h.1.2.2.1, va_AO.moved (u := U) (U := U.calling g mk a) (Vm.Alike.refl U.vm) h.1.2.2.2.1, va_AO.moved (u := U) (U := U.calling g mk a) (Vm.Alike.refl U.vm) h.1.2.2.2.2⟩, va_Nw.same rfl rfl h.2.1, va_Nw.same rfl rfl h.2.2.1, va_Nw.same rfl rfl h.2.2.2⟩
/-- what holds all through a method of class own with the bytes cc -/
def jC (p : Program) (s : State) (m : MethodId) (args : Array Value) (meth : Method) (c : Code) (D : va_G) (cy : Nat → ClassId) (A : Nat → Prop) (nL : Nat) (own : String) (cc : ByteArray) : Prop :=
  p.tables.exec = Jvm.exec ∧ c.code = cc ∧ c.maxLocals = nL ∧ s.vm.findClass own = some m.cls ∧ (∀ w ∈ wall, w.before args s = true) ∧ va_K D vwCl (jTys cy) s ∧ (∀ q, s.heap.size ≤ q → A q) ∧ meth.locks = false ∧ jSt A s s.heap ∧ jNw s
def jg (lv : List (Nat × Value)) (i : Nat) : Option Value := (lv.find? (fun q => q.1 == i)).map Prod.snd
def js (lv : List (Nat × Value)) (i : Nat) (v : Value) : List (Nat × Value) := lv.filter (fun q => Nat.blt q.1 i && !(q.1 + 1 == i && q.2.category == 2)) ++ (i, v) :: lv.filter (fun q => Nat.blt i q.1)
def js2 (lv : List (Nat × Value)) (i : Nat) (v : Value) : List (Nat × Value) := lv.filter (fun q => Nat.blt q.1 i && !(q.1 + 1 == i && q.2.category == 2)) ++ (i, v) :: lv.filter (fun q => Nat.blt (i + 1) q.1)
theorem jg_has {ls : Array Slot} {nL i : Nat} {lv : List (Nat × Value)} {v : Value} (h : lv_has ls nL lv) (hg : jg lv i = some v) : ls[i]? = some (.val v) := by
  unfold jg at hg
  cases hf : lv.find? (fun q => q.1 == i) with
  | none => rw [hf] at hg; cases hg
  | some q =>
    rw [hf] at hg
    have h1 := List.find?_some hf
    have h2 := h.2.2 q (List.mem_of_find?_eq_some hf)
    have h3 : q.1 = i := by simpa using h1
    have h4 : q.2 = v := by simpa using hg
    rw [← h3, ← h4]; exact h2
theorem js_has {ls : Array Slot} {nL i : Nat} {lv lv' : List (Nat × Value)} {v : Value} (h : lv_has ls nL ((i, v) :: lv.filter (fun q => !(q.1 == i) && !(q.1 + 1 == i && q.2.category == 2)))) (e : js lv i v = lv') : lv_has ls nL lv' := by
  subst e
  refine ⟨h.1, h.2.1, fun q hq => h.2.2 q ?_⟩
  unfold js at hq
  simp only [List.mem_append, List.mem_cons, List.mem_filter, Nat.blt_eq, Bool.and_eq_true] at hq ⊢
  rcases hq with ⟨h1, h2, h3⟩ | rfl | ⟨h1, h2⟩
  · exact Or.inr ⟨h1, by simp; omega, h3⟩
  · exact Or.inl rfl
  · refine Or.inr ⟨h1, by simp; omega, ?_⟩
    have : (q.1 + 1 == i) = false := by simp; omega
    rw [this]; rfl
theorem js2_has {ls : Array Slot} {nL i : Nat} {lv lv' : List (Nat × Value)} {v : Value} (h : lv_has ls nL ((i, v) :: lv.filter (fun q => !(q.1 == i) && (!(q.1 == i + 1) && !(q.1 + 1 == i && q.2.category == 2))))) (e : js2 lv i v = lv') : lv_has ls nL lv' := by
  subst e
  refine ⟨h.1, h.2.1, fun q hq => h.2.2 q ?_⟩
  unfold js2 at hq
  simp only [List.mem_append, List.mem_cons, List.mem_filter, Nat.blt_eq, Bool.and_eq_true] at hq ⊢
  rcases hq with ⟨h1, h2, h3⟩ | rfl | ⟨h1, h2⟩
  · exact Or.inr ⟨h1, by simp; omega, by simp; omega, h3⟩
  · exact Or.inl rfl
  · refine Or.inr ⟨h1, by simp; omega, by simp; omega, ?_⟩
    have : (q.1 + 1 == i) = false := by simp; omega
    rw [this]; rfl
section JROWS
variable {p : Program} {l : Launch} {e : Env} {R : Room} {s : State} {m : MethodId} {args : Array Value} {below : List Frame} {meth : Method} {c : Code} {D : va_G} {cy : Nat → ClassId} {A : Nat → Prop} {nL cells slots : Nat} {Q : State → Prop} {own : String} {cc : ByteArray} {h : jH} {lv lv' : List (Nat × Value)} {pc : Nat} {st : List Value}
theorem j_iconst (C : jC p s m args meth c D cy A nL own cc) {n : Int} {v : Int32} (hd : decode cc pc = .ok (.iconst n, 1)) (hv : Int32.ofInt n = v) (k : jW p l e R s m args below meth c D cy A nL cells slots Q h lv (pc + 1) (.int v :: st)) : jW p l e R s m args below meth c D cy A nL cells slots Q h lv pc (st) := fun H locs ls hP hD hS hl => lv_iconst C.1 C.2.1 hd hv (k H locs ls hP hD hS hl)
theorem j_bipush (C : jC p s m args meth c D cy A nL own cc) {n : Int} {v : Int32} (hd : decode cc pc = .ok (.bipush n, 2)) (hv : (Int8.ofInt n).toInt32 = v) (k : jW p l e R s m args below meth c D cy A nL cells slots Q h lv (pc + 2) (.int v :: st)) : jW p l e R s m args below meth c D cy A nL cells slots Q h lv pc (st) := fun H locs ls hP hD hS hl => lv_bipush C.1 C.2.1 hd hv (k H locs ls hP hD hS hl)
theorem j_sipush (C : jC p s m args meth c D cy A nL own cc) {n : Int} {v : Int32} (hd : decode cc pc = .ok (.sipush n, 3)) (hv : (Int16.ofInt n).toInt32 = v) (k : jW p l e R s m args below meth c D cy A nL cells slots Q h lv (pc + 3) (.int v :: st)) : jW p l e R s m args below meth c D cy A nL cells slots Q h lv pc (st) := fun H locs ls hP hD hS hl => lv_sipush C.1 C.2.1 hd hv (k H locs ls hP hD hS hl)
theorem j_lconst (C : jC p s m args meth c D cy A nL own cc) {n : Fin 2} {v : Int64} (hd : decode cc pc = .ok (.lconst n, 1)) (hv : Int64.ofNat (n : Nat) = v) (k : jW p l e R s m args below meth c D cy A nL cells slots Q h lv (pc + 1) (.long v :: st)) : jW p l e R s m args below meth c D cy A nL cells slots Q h lv pc (st) := fun H locs ls hP hD hS hl => lv_lconst C.1 C.2.1 hd hv (k H locs ls hP hD hS hl)
theorem j_null (C : jC p s m args meth c D cy A nL own cc)  (hd : decode cc pc = .ok (.aconst_null, 1)) (k : jW p l e R s m args below meth c D cy A nL cells slots Q h lv (pc + 1) (.null :: st)) : jW p l e R s m args below meth c D cy A nL cells slots Q h lv pc (st) := fun H locs ls hP hD hS hl => lv_null C.1 C.2.1 hd (k H locs ls hP hD hS hl)
theorem j_ldc (C : jC p s m args meth c D cy A nL own cc) {i : Nat} {v : Int32} (hd : decode cc pc = .ok (.ldc i, 2)) (hv : Cond.constant own i v ∈ wall) (k : jW p l e R s m args below meth c D cy A nL cells slots Q h lv (pc + 2) (.int v :: st)) : jW p l e R s m args below meth c D cy A nL cells slots Q h lv pc (st) := fun H locs ls hP hD hS hl => lv_ldc C.1 C.2.1 C.2.2.2.1 (C.2.2.2.2.1 _ hv) hd (k H locs ls hP hD hS hl)
theorem j_ldc2 (C : jC p s m args meth c D cy A nL own cc) {i : Nat} {v : Int64} (hd : decode cc pc = .ok (.ldc2_w i, 3)) (hv : Cond.constantLong own i v ∈ wall) (k : jW p l e R s m args below meth c D cy A nL cells slots Q h lv (pc + 3) (.long v :: st)) : jW p l e R s m args below meth c D cy A nL cells slots Q h lv pc (st) := fun H locs ls hP hD hS hl => lv_ldc2 C.1 C.2.1 C.2.2.2.1 (C.2.2.2.2.1 _ hv) hd (k H locs ls hP hD hS hl)
theorem j_iload (C : jC p s m args meth c D cy A nL own cc) {i : Nat} {x : Int32} (hd : decode cc pc = .ok (.iload i, 2)) (hg : jg lv i = some (.int x)) (k : jW p l e R s m args below meth c D cy A nL cells slots Q h lv (pc + 2) (.int x :: st)) : jW p l e R s m args below meth c D cy A nL cells slots Q h lv pc (st) := fun H locs ls hP hD hS hl => lv_iload C.1 C.2.1 hd (jg_has hl hg) (k H locs ls hP hD hS hl)
theorem j_iload_n (C : jC p s m args meth c D cy A nL own cc) {n : Fin 4} {x : Int32} (hd : decode cc pc = .ok (.iload_n n, 1)) (hg : jg lv n.val = some (.int x)) (k : jW p l e R s m args below meth c D cy A nL cells slots Q h lv (pc + 1) (.int x :: st)) : jW p l e R s m args below meth c D cy A nL cells slots Q h lv pc (st) := fun H locs ls hP hD hS hl => lv_iload_n C.1 C.2.1 hd rfl (jg_has hl hg) (k H locs ls hP hD hS hl)
theorem j_aload (C : jC p s m args meth c D cy A nL own cc) {i : Nat} {x : Nat} (hd : decode cc pc = .ok (.aload i, 2)) (hg : jg lv i = some (.ref x)) (k : jW p l e R s m args below meth c D cy A nL cells slots Q h lv (pc + 2) (.ref x :: st)) : jW p l e R s m args below meth c D cy A nL cells slots Q h lv pc (st) := fun H locs ls hP hD hS hl => lv_aload C.1 C.2.1 hd (jg_has hl hg) (k H locs ls hP hD hS hl)
theorem j_aload_n (C : jC p s m args meth c D cy A nL own cc) {n : Fin 4} {x : Nat} (hd : decode cc pc = .ok (.aload_n n, 1)) (hg : jg lv n.val = some (.ref x)) (k : jW p l e R s m args below meth c D cy A nL cells slots Q h lv (pc + 1) (.ref x :: st)) : jW p l e R s m args below meth c D cy A nL cells slots Q h lv pc (st) := fun H locs ls hP hD hS hl => lv_aload_n C.1 C.2.1 hd rfl (jg_has hl hg) (k H locs ls hP hD hS hl)
theorem j_lload (C : jC p s m args meth c D cy A nL own cc) {i : Nat} {x : Int64} (hd : decode cc pc = .ok (.lload i, 2)) (hg : jg lv i = some (.long x)) (k : jW p l e R s m args below meth c D cy A nL cells slots Q h lv (pc + 2) (.long x :: st)) : jW p l e R s m args below meth c D cy A nL cells slots Q h lv pc (st) := fun H locs ls hP hD hS hl => lv_lload C.1 C.2.1 hd (jg_has hl hg) (k H locs ls hP hD hS hl)
theorem j_lload_n (C : jC p s m args meth c D cy A nL own cc) {n : Fin 4} {x : Int64} (hd : decode cc pc = .ok (.lload_n n, 1)) (hg : jg lv n.val = some (.long x)) (k : jW p l e R s m args below meth c D cy A nL cells slots Q h lv (pc + 1) (.long x :: st)) : jW p l e R s m args below meth c D cy A nL cells slots Q h lv pc (st) := fun H locs ls hP hD hS hl => lv_lload_n C.1 C.2.1 hd rfl (jg_has hl hg) (k H locs ls hP hD hS hl)
theorem j_aloadN (C : jC p s m args meth c D cy A nL own cc) {i : Nat} (hd : decode cc pc = .ok (.aload i, 2)) (hg : jg lv i = some .null) (k : jW p l e R s m args below meth c D cy A nL cells slots Q h lv (pc + 2) (.null :: st)) : jW p l e R s m args below meth c D cy A nL cells slots Q h lv pc (st) := fun H locs ls hP hD hS hl => lv_aloadN C.1 C.2.1 hd (jg_has hl hg) (k H locs ls hP hD hS hl)
theorem j_aload_nN (C : jC p s m args meth c D cy A nL own cc) {n : Fin 4} (hd : decode cc pc = .ok (.aload_n n, 1)) (hg : jg lv n.val = some .null) (k : jW p l e R s m args below meth c D cy A nL cells slots Q h lv (pc + 1) (.null :: st)) : jW p l e R s m args below meth c D cy A nL cells slots Q h lv pc (st) := fun H locs ls hP hD hS hl => lv_aload_nN C.1 C.2.1 hd rfl (jg_has hl hg) (k H locs ls hP hD hS hl)
theorem j_istore (C : jC p s m args meth c D cy A nL own cc) {i : Nat} {x : Int32} (hd : decode cc pc = .ok (.istore i, 2)) (hn : i < nL) (he : js lv i (.int x) = lv') (k : jW p l e R s m args below meth c D cy A nL cells slots Q h lv' (pc + 2) st) : jW p l e R s m args below meth c D cy A nL cells slots Q h lv pc (.int x :: st) := fun H locs ls hP hD hS hl => lv_istore C.1 C.2.1 hd hl hn rfl (fun ls2 hl2 => k H locs ls2 hP hD hS (js_has hl2 he))
theorem j_istore_n (C : jC p s m args meth c D cy A nL own cc) {n : Fin 4} {x : Int32} (hd : decode cc pc = .ok (.istore_n n, 1)) (hn : n.val < nL) (he : js lv n.val (.int x) = lv') (k : jW p l e R s m args below meth c D cy A nL cells slots Q h lv' (pc + 1) st) : jW p l e R s m args below meth c D cy A nL cells slots Q h lv pc (.int x :: st) := fun H locs ls hP hD hS hl => lv_istore_n C.1 C.2.1 hd rfl hl hn rfl (fun ls2 hl2 => k H locs ls2 hP hD hS (js_has hl2 he))
theorem j_astore (C : jC p s m args meth c D cy A nL own cc) {i : Nat} {x : Nat} (hd : decode cc pc = .ok (.astore i, 2)) (hn : i < nL) (he : js lv i (.ref x) = lv') (k : jW p l e R s m args below meth c D cy A nL cells slots Q h lv' (pc + 2) st) : jW p l e R s m args below meth c D cy A nL cells slots Q h lv pc (.ref x :: st) := fun H locs ls hP hD hS hl => lv_astore C.1 C.2.1 hd hl hn rfl (fun ls2 hl2 => k H locs ls2 hP hD hS (js_has hl2 he))
theorem j_astore_n (C : jC p s m args meth c D cy A nL own cc) {n : Fin 4} {x : Nat} (hd : decode cc pc = .ok (.astore_n n, 1)) (hn : n.val < nL) (he : js lv n.val (.ref x) = lv') (k : jW p l e R s m args below meth c D cy A nL cells slots Q h lv' (pc + 1) st) : jW p l e R s m args below meth c D cy A nL cells slots Q h lv pc (.ref x :: st) := fun H locs ls hP hD hS hl => lv_astore_n C.1 C.2.1 hd rfl hl hn rfl (fun ls2 hl2 => k H locs ls2 hP hD hS (js_has hl2 he))
theorem j_lstore (C : jC p s m args meth c D cy A nL own cc) {i : Nat} {x : Int64} (hd : decode cc pc = .ok (.lstore i, 2)) (hn : i + 1 < nL) (he : js2 lv i (.long x) = lv') (k : jW p l e R s m args below meth c D cy A nL cells slots Q h lv' (pc + 2) st) : jW p l e R s m args below meth c D cy A nL cells slots Q h lv pc (.long x :: st) := fun H locs ls hP hD hS hl => lv_lstore C.1 C.2.1 hd hl hn rfl (fun ls2 hl2 => k H locs ls2 hP hD hS (js2_has hl2 he))
theorem j_astoreN (C : jC p s m args meth c D cy A nL own cc) {i : Nat} (hd : decode cc pc = .ok (.astore i, 2)) (hn : i < nL) (he : js lv i .null = lv') (k : jW p l e R s m args below meth c D cy A nL cells slots Q h lv' (pc + 2) st) : jW p l e R s m args below meth c D cy A nL cells slots Q h lv pc (.null :: st) := fun H locs ls hP hD hS hl => lv_astoreN C.1 C.2.1 hd hl hn rfl (fun ls2 hl2 => k H locs ls2 hP hD hS (js_has hl2 he))
theorem j_astore_nN (C : jC p s m args meth c D cy A nL own cc) {n : Fin 4} (hd : decode cc pc = .ok (.astore_n n, 1)) (hn : n.val < nL) (he : js lv n.val .null = lv') (k : jW p l e R s m args below meth c D cy A nL cells slots Q h lv' (pc + 1) st) : jW p l e R s m args below meth c D cy A nL cells slots Q h lv pc (.null :: st) := fun H locs ls hP hD hS hl => lv_astore_nN C.1 C.2.1 hd rfl hl hn rfl (fun ls2 hl2 => k H locs ls2 hP hD hS (js_has hl2 he))
theorem j_iinc (C : jC p s m args meth c D cy A nL own cc) {i : Nat} {n : Int} {x v : Int32} (hd : decode cc pc = .ok (.iinc i n, 3)) (hg : jg lv i = some (.int x)) (hv : x + Int32.ofInt n = v) (hn : i < nL) (he : js lv i (.int v) = lv') (k : jW p l e R s m args below meth c D cy A nL cells slots Q h lv' (pc + 3) st) : jW p l e R s m args below meth c D cy A nL cells slots Q h lv pc st := fun H locs ls hP hD hS hl => by
  have hm : (i, Value.int x) ∈ lv := by
    unfold jg at hg
    cases hf : lv.find? (fun q => q.1 == i) with
    | none => rw [hf] at hg; cases hg
    | some q =>
      rw [hf] at hg
      have h1 := List.find?_some hf
      have h3 : q.1 = i := by simpa using h1
      have h4 : q.2 = .int x := by simpa using hg
      have h5 := List.mem_of_find?_eq_some hf
      rw [← h3, ← h4]; exact h5
  obtain ⟨kk, hkk⟩ := List.getElem?_of_mem hm
  exact lv_iinc C.1 C.2.1 hd hl hkk hv hn rfl (fun ls2 hl2 => k H locs ls2 hP hD hS (js_has hl2 he))
theorem j_iadd (C : jC p s m args meth c D cy A nL own cc) {x y : Int32} (hd : decode cc pc = .ok (.iadd, 1)) (k : jW p l e R s m args below meth c D cy A nL cells slots Q h lv (pc + 1) (.int (x + y) :: st)) : jW p l e R s m args below meth c D cy A nL cells slots Q h lv pc (.int y :: .int x :: st) := fun H locs ls hP hD hS hl => lv_iadd C.1 C.2.1 hd (k H locs ls hP hD hS hl)
theorem j_isub (C : jC p s m args meth c D cy A nL own cc) {x y : Int32} (hd : decode cc pc = .ok (.isub, 1)) (k : jW p l e R s m args below meth c D cy A nL cells slots Q h lv (pc + 1) (.int (x - y) :: st)) : jW p l e R s m args below meth c D cy A nL cells slots Q h lv pc (.int y :: .int x :: st) := fun H locs ls hP hD hS hl => lv_isub C.1 C.2.1 hd (k H locs ls hP hD hS hl)
theorem j_imul (C : jC p s m args meth c D cy A nL own cc) {x y : Int32} (hd : decode cc pc = .ok (.imul, 1)) (k : jW p l e R s m args below meth c D cy A nL cells slots Q h lv (pc + 1) (.int (x * y) :: st)) : jW p l e R s m args below meth c D cy A nL cells slots Q h lv pc (.int y :: .int x :: st) := fun H locs ls hP hD hS hl => lv_imul C.1 C.2.1 hd (k H locs ls hP hD hS hl)
theorem j_iand (C : jC p s m args meth c D cy A nL own cc) {x y : Int32} (hd : decode cc pc = .ok (.iand, 1)) (k : jW p l e R s m args below meth c D cy A nL cells slots Q h lv (pc + 1) (.int (x &&& y) :: st)) : jW p l e R s m args below meth c D cy A nL cells slots Q h lv pc (.int y :: .int x :: st) := fun H locs ls hP hD hS hl => lv_iand C.1 C.2.1 hd (k H locs ls hP hD hS hl)
theorem j_ior (C : jC p s m args meth c D cy A nL own cc) {x y : Int32} (hd : decode cc pc = .ok (.ior, 1)) (k : jW p l e R s m args below meth c D cy A nL cells slots Q h lv (pc + 1) (.int (x ||| y) :: st)) : jW p l e R s m args below meth c D cy A nL cells slots Q h lv pc (.int y :: .int x :: st) := fun H locs ls hP hD hS hl => lv_ior C.1 C.2.1 hd (k H locs ls hP hD hS hl)
theorem j_ladd (C : jC p s m args meth c D cy A nL own cc) {x y : Int64} (hd : decode cc pc = .ok (.ladd, 1)) (k : jW p l e R s m args below meth c D cy A nL cells slots Q h lv (pc + 1) (.long (x + y) :: st)) : jW p l e R s m args below meth c D cy A nL cells slots Q h lv pc (.long y :: .long x :: st) := fun H locs ls hP hD hS hl => lv_ladd C.1 C.2.1 hd (k H locs ls hP hD hS hl)
theorem j_lmul (C : jC p s m args meth c D cy A nL own cc) {x y : Int64} (hd : decode cc pc = .ok (.lmul, 1)) (k : jW p l e R s m args below meth c D cy A nL cells slots Q h lv (pc + 1) (.long (x * y) :: st)) : jW p l e R s m args below meth c D cy A nL cells slots Q h lv pc (.long y :: .long x :: st) := fun H locs ls hP hD hS hl => lv_lmul C.1 C.2.1 hd (k H locs ls hP hD hS hl)
theorem j_lor (C : jC p s m args meth c D cy A nL own cc) {x y : Int64} (hd : decode cc pc = .ok (.lor, 1)) (k : jW p l e R s m args below meth c D cy A nL cells slots Q h lv (pc + 1) (.long (x ||| y) :: st)) : jW p l e R s m args below meth c D cy A nL cells slots Q h lv pc (.long y :: .long x :: st) := fun H locs ls hP hD hS hl => lv_lor C.1 C.2.1 hd (k H locs ls hP hD hS hl)
theorem j_land (C : jC p s m args meth c D cy A nL own cc) {x y : Int64} (hd : decode cc pc = .ok (.land, 1)) (k : jW p l e R s m args below meth c D cy A nL cells slots Q h lv (pc + 1) (.long (x &&& y) :: st)) : jW p l e R s m args below meth c D cy A nL cells slots Q h lv pc (.long y :: .long x :: st) := fun H locs ls hP hD hS hl => lv_land C.1 C.2.1 hd (k H locs ls hP hD hS hl)
theorem j_irem (C : jC p s m args meth c D cy A nL own cc) {x y : Int32} (hd : decode cc pc = .ok (.irem, 1)) (hne : ¬ y = 0) (k : jW p l e R s m args below meth c D cy A nL cells slots Q h lv (pc + 1) (.int (x - x / y * y) :: st)) : jW p l e R s m args below meth c D cy A nL cells slots Q h lv pc (.int y :: .int x :: st) := fun H locs ls hP hD hS hl => lv_irem C.1 C.2.1 hd hne (k H locs ls hP hD hS hl)
theorem j_idiv (C : jC p s m args meth c D cy A nL own cc) {x y : Int32} (hd : decode cc pc = .ok (.idiv, 1)) (hne : ¬ y = 0) (k : jW p l e R s m args below meth c D cy A nL cells slots Q h lv (pc + 1) (.int (x / y) :: st)) : jW p l e R s m args below meth c D cy A nL cells slots Q h lv pc (.int y :: .int x :: st) := fun H locs ls hP hD hS hl => lv_idiv C.1 C.2.1 hd hne (k H locs ls hP hD hS hl)
theorem j_lrem (C : jC p s m args meth c D cy A nL own cc) {x y : Int64} (hd : decode cc pc = .ok (.lrem, 1)) (hne : ¬ y = 0) (k : jW p l e R s m args below meth c D cy A nL cells slots Q h lv (pc + 1) (.long (x - x / y * y) :: st)) : jW p l e R s m args below meth c D cy A nL cells slots Q h lv pc (.long y :: .long x :: st) := fun H locs ls hP hD hS hl => lv_lrem C.1 C.2.1 hd hne (k H locs ls hP hD hS hl)
theorem j_ishl (C : jC p s m args meth c D cy A nL own cc) {x y : Int32} (hd : decode cc pc = .ok (.ishl, 1)) (k : jW p l e R s m args below meth c D cy A nL cells slots Q h lv (pc + 1) (.int (x <<< (y &&& 31)) :: st)) : jW p l e R s m args below meth c D cy A nL cells slots Q h lv pc (.int y :: .int x :: st) := fun H locs ls hP hD hS hl => lv_ishl C.1 C.2.1 hd (k H locs ls hP hD hS hl)
theorem j_ishr (C : jC p s m args meth c D cy A nL own cc) {x y : Int32} (hd : decode cc pc = .ok (.ishr, 1)) (k : jW p l e R s m args below meth c D cy A nL cells slots Q h lv (pc + 1) (.int (x >>> (y &&& 31)) :: st)) : jW p l e R s m args below meth c D cy A nL cells slots Q h lv pc (.int y :: .int x :: st) := fun H locs ls hP hD hS hl => lv_ishr C.1 C.2.1 hd (k H locs ls hP hD hS hl)
theorem j_i2l (C : jC p s m args meth c D cy A nL own cc) {x : Int32} (hd : decode cc pc = .ok (.i2l, 1)) (k : jW p l e R s m args below meth c D cy A nL cells slots Q h lv (pc + 1) (.long x.toInt64 :: st)) : jW p l e R s m args below meth c D cy A nL cells slots Q h lv pc (.int x :: st) := fun H locs ls hP hD hS hl => lv_i2l C.1 C.2.1 hd rfl (k H locs ls hP hD hS hl)
theorem j_l2i (C : jC p s m args meth c D cy A nL own cc) {x : Int64} (hd : decode cc pc = .ok (.l2i, 1)) (k : jW p l e R s m args below meth c D cy A nL cells slots Q h lv (pc + 1) (.int x.toInt32 :: st)) : jW p l e R s m args below meth c D cy A nL cells slots Q h lv pc (.long x :: st) := fun H locs ls hP hD hS hl => lv_l2i C.1 C.2.1 hd rfl (k H locs ls hP hD hS hl)
theorem j_lushr (C : jC p s m args meth c D cy A nL own cc) {x : Int64} {y : Int32} (hd : decode cc pc = .ok (.lushr, 1)) (k : jW p l e R s m args below meth c D cy A nL cells slots Q h lv (pc + 1) (.long (x.toUInt64 >>> (y.toInt64.toUInt64 &&& Int64.toUInt64 63)).toInt64 :: st)) : jW p l e R s m args below meth c D cy A nL cells slots Q h lv pc (.int y :: .long x :: st) := fun H locs ls hP hD hS hl => lv_lushr C.1 C.2.1 hd rfl (k H locs ls hP hD hS hl)
theorem j_dup (C : jC p s m args meth c D cy A nL own cc) {v : Value} (hd : decode cc pc = .ok (.dup, 1)) (hv : v.category = 1) (k : jW p l e R s m args below meth c D cy A nL cells slots Q h lv (pc + 1) (v :: v :: st)) : jW p l e R s m args below meth c D cy A nL cells slots Q h lv pc (v :: st) := fun H locs ls hP hD hS hl => lv_dup C.1 C.2.1 hd hv (k H locs ls hP hD hS hl)
theorem j_pop (C : jC p s m args meth c D cy A nL own cc) {v : Value} (hd : decode cc pc = .ok (.pop, 1)) (hv : v.category = 1) (k : jW p l e R s m args below meth c D cy A nL cells slots Q h lv (pc + 1) (st)) : jW p l e R s m args below meth c D cy A nL cells slots Q h lv pc (v :: st) := fun H locs ls hP hD hS hl => lv_pop C.1 C.2.1 hd hv (k H locs ls hP hD hS hl)
theorem j_dup2 (C : jC p s m args meth c D cy A nL own cc) {v w : Value} (hd : decode cc pc = .ok (.dup2, 1)) (hv : v.category = 1) (hw : w.category = 1) (k : jW p l e R s m args below meth c D cy A nL cells slots Q h lv (pc + 1) (v :: w :: v :: w :: st)) : jW p l e R s m args below meth c D cy A nL cells slots Q h lv pc (v :: w :: st) := fun H locs ls hP hD hS hl => lv_dup2_11 C.1 C.2.1 hd hv hw (k H locs ls hP hD hS hl)
theorem j_goto (C : jC p s m args meth c D cy A nL own cc) {off : Int} {tgt : Nat} (hd : decode cc pc = .ok (.goto off, 3)) (ht : (pc : Int) + off = (tgt : Int)) (k : jW p l e R s m args below meth c D cy A nL cells slots Q h lv tgt st) : jW p l e R s m args below meth c D cy A nL cells slots Q h lv pc st := fun H locs ls hP hD hS hl => lv_goto C.1 C.2.1 hd ht (k H locs ls hP hD hS hl)
theorem j_if_eq (C : jC p s m args meth c D cy A nL own cc) {x : Int32} {off : Int} {tgt : Nat} (hd : decode cc pc = .ok (.ifCond .eq off, 3)) (ht : (pc : Int) + off = (tgt : Int)) (kt : x = 0 → jW p l e R s m args below meth c D cy A nL cells slots Q h lv tgt st) (kf : ¬ x = 0 → jW p l e R s m args below meth c D cy A nL cells slots Q h lv (pc + 3) st) : jW p l e R s m args below meth c D cy A nL cells slots Q h lv pc (.int x :: st) := fun H locs ls hP hD hS hl => lv_if_eq C.1 C.2.1 hd ht (fun z => kt z H locs ls hP hD hS hl) (fun z => kf z H locs ls hP hD hS hl)
theorem j_icmp_eq (C : jC p s m args meth c D cy A nL own cc) {x y : Int32} {off : Int} {tgt : Nat} (hd : decode cc pc = .ok (.if_icmp .eq off, 3)) (ht : (pc : Int) + off = (tgt : Int)) (kt : x = y → jW p l e R s m args below meth c D cy A nL cells slots Q h lv tgt st) (kf : ¬ x = y → jW p l e R s m args below meth c D cy A nL cells slots Q h lv (pc + 3) st) : jW p l e R s m args below meth c D cy A nL cells slots Q h lv pc (.int y :: .int x :: st) := fun H locs ls hP hD hS hl => lv_icmp_eq C.1 C.2.1 hd ht (fun z => kt z H locs ls hP hD hS hl) (fun z => kf z H locs ls hP hD hS hl)
theorem j_if_ne (C : jC p s m args meth c D cy A nL own cc) {x : Int32} {off : Int} {tgt : Nat} (hd : decode cc pc = .ok (.ifCond .ne off, 3)) (ht : (pc : Int) + off = (tgt : Int)) (kt : ¬ x = 0 → jW p l e R s m args below meth c D cy A nL cells slots Q h lv tgt st) (kf : x = 0 → jW p l e R s m args below meth c D cy A nL cells slots Q h lv (pc + 3) st) : jW p l e R s m args below meth c D cy A nL cells slots Q h lv pc (.int x :: st) := fun H locs ls hP hD hS hl => lv_if_ne C.1 C.2.1 hd ht (fun z => kt z H locs ls hP hD hS hl) (fun z => kf z H locs ls hP hD hS hl)
theorem j_icmp_ne (C : jC p s m args meth c D cy A nL own cc) {x y : Int32} {off : Int} {tgt : Nat} (hd : decode cc pc = .ok (.if_icmp .ne off, 3)) (ht : (pc : Int) + off = (tgt : Int)) (kt : ¬ x = y → jW p l e R s m args below meth c D cy A nL cells slots Q h lv tgt st) (kf : x = y → jW p l e R s m args below meth c D cy A nL cells slots Q h lv (pc + 3) st) : jW p l e R s m args below meth c D cy A nL cells slots Q h lv pc (.int y :: .int x :: st) := fun H locs ls hP hD hS hl => lv_icmp_ne C.1 C.2.1 hd ht (fun z => kt z H locs ls hP hD hS hl) (fun z => kf z H locs ls hP hD hS hl)
theorem j_if_lt (C : jC p s m args meth c D cy A nL own cc) {x : Int32} {off : Int} {tgt : Nat} (hd : decode cc pc = .ok (.ifCond .lt off, 3)) (ht : (pc : Int) + off = (tgt : Int)) (kt : x < 0 → jW p l e R s m args below meth c D cy A nL cells slots Q h lv tgt st) (kf : ¬ x < 0 → jW p l e R s m args below meth c D cy A nL cells slots Q h lv (pc + 3) st) : jW p l e R s m args below meth c D cy A nL cells slots Q h lv pc (.int x :: st) := fun H locs ls hP hD hS hl => lv_if_lt C.1 C.2.1 hd ht (fun z => kt z H locs ls hP hD hS hl) (fun z => kf z H locs ls hP hD hS hl)
theorem j_icmp_lt (C : jC p s m args meth c D cy A nL own cc) {x y : Int32} {off : Int} {tgt : Nat} (hd : decode cc pc = .ok (.if_icmp .lt off, 3)) (ht : (pc : Int) + off = (tgt : Int)) (kt : x < y → jW p l e R s m args below meth c D cy A nL cells slots Q h lv tgt st) (kf : ¬ x < y → jW p l e R s m args below meth c D cy A nL cells slots Q h lv (pc + 3) st) : jW p l e R s m args below meth c D cy A nL cells slots Q h lv pc (.int y :: .int x :: st) := fun H locs ls hP hD hS hl => lv_icmp_lt C.1 C.2.1 hd ht (fun z => kt z H locs ls hP hD hS hl) (fun z => kf z H locs ls hP hD hS hl)
theorem j_if_ge (C : jC p s m args meth c D cy A nL own cc) {x : Int32} {off : Int} {tgt : Nat} (hd : decode cc pc = .ok (.ifCond .ge off, 3)) (ht : (pc : Int) + off = (tgt : Int)) (kt : 0 ≤ x → jW p l e R s m args below meth c D cy A nL cells slots Q h lv tgt st) (kf : ¬ 0 ≤ x → jW p l e R s m args below meth c D cy A nL cells slots Q h lv (pc + 3) st) : jW p l e R s m args below meth c D cy A nL cells slots Q h lv pc (.int x :: st) := fun H locs ls hP hD hS hl => lv_if_ge C.1 C.2.1 hd ht (fun z => kt z H locs ls hP hD hS hl) (fun z => kf z H locs ls hP hD hS hl)
theorem j_icmp_ge (C : jC p s m args meth c D cy A nL own cc) {x y : Int32} {off : Int} {tgt : Nat} (hd : decode cc pc = .ok (.if_icmp .ge off, 3)) (ht : (pc : Int) + off = (tgt : Int)) (kt : y ≤ x → jW p l e R s m args below meth c D cy A nL cells slots Q h lv tgt st) (kf : ¬ y ≤ x → jW p l e R s m args below meth c D cy A nL cells slots Q h lv (pc + 3) st) : jW p l e R s m args below meth c D cy A nL cells slots Q h lv pc (.int y :: .int x :: st) := fun H locs ls hP hD hS hl => lv_icmp_ge C.1 C.2.1 hd ht (fun z => kt z H locs ls hP hD hS hl) (fun z => kf z H locs ls hP hD hS hl)
theorem j_if_gt (C : jC p s m args meth c D cy A nL own cc) {x : Int32} {off : Int} {tgt : Nat} (hd : decode cc pc = .ok (.ifCond .gt off, 3)) (ht : (pc : Int) + off = (tgt : Int)) (kt : 0 < x → jW p l e R s m args below meth c D cy A nL cells slots Q h lv tgt st) (kf : ¬ 0 < x → jW p l e R s m args below meth c D cy A nL cells slots Q h lv (pc + 3) st) : jW p l e R s m args below meth c D cy A nL cells slots Q h lv pc (.int x :: st) := fun H locs ls hP hD hS hl => lv_if_gt C.1 C.2.1 hd ht (fun z => kt z H locs ls hP hD hS hl) (fun z => kf z H locs ls hP hD hS hl)
theorem j_icmp_gt (C : jC p s m args meth c D cy A nL own cc) {x y : Int32} {off : Int} {tgt : Nat} (hd : decode cc pc = .ok (.if_icmp .gt off, 3)) (ht : (pc : Int) + off = (tgt : Int)) (kt : y < x → jW p l e R s m args below meth c D cy A nL cells slots Q h lv tgt st) (kf : ¬ y < x → jW p l e R s m args below meth c D cy A nL cells slots Q h lv (pc + 3) st) : jW p l e R s m args below meth c D cy A nL cells slots Q h lv pc (.int y :: .int x :: st) := fun H locs ls hP hD hS hl => lv_icmp_gt C.1 C.2.1 hd ht (fun z => kt z H locs ls hP hD hS hl) (fun z => kf z H locs ls hP hD hS hl)
theorem j_if_le (C : jC p s m args meth c D cy A nL own cc) {x : Int32} {off : Int} {tgt : Nat} (hd : decode cc pc = .ok (.ifCond .le off, 3)) (ht : (pc : Int) + off = (tgt : Int)) (kt : x ≤ 0 → jW p l e R s m args below meth c D cy A nL cells slots Q h lv tgt st) (kf : ¬ x ≤ 0 → jW p l e R s m args below meth c D cy A nL cells slots Q h lv (pc + 3) st) : jW p l e R s m args below meth c D cy A nL cells slots Q h lv pc (.int x :: st) := fun H locs ls hP hD hS hl => lv_if_le C.1 C.2.1 hd ht (fun z => kt z H locs ls hP hD hS hl) (fun z => kf z H locs ls hP hD hS hl)
theorem j_icmp_le (C : jC p s m args meth c D cy A nL own cc) {x y : Int32} {off : Int} {tgt : Nat} (hd : decode cc pc = .ok (.if_icmp .le off, 3)) (ht : (pc : Int) + off = (tgt : Int)) (kt : x ≤ y → jW p l e R s m args below meth c D cy A nL cells slots Q h lv tgt st) (kf : ¬ x ≤ y → jW p l e R s m args below meth c D cy A nL cells slots Q h lv (pc + 3) st) : jW p l e R s m args below meth c D cy A nL cells slots Q h lv pc (.int y :: .int x :: st) := fun H locs ls hP hD hS hl => lv_icmp_le C.1 C.2.1 hd ht (fun z => kt z H locs ls hP hD hS hl) (fun z => kf z H locs ls hP hD hS hl)
theorem j_acmp_eq (C : jC p s m args meth c D cy A nL own cc) {rx ry : Option Nat} {off : Int} {tgt : Nat} (hd : decode cc pc = .ok (.if_acmp .eq off, 3)) (ht : (pc : Int) + off = (tgt : Int)) (kt : rx = ry → jW p l e R s m args below meth c D cy A nL cells slots Q h lv tgt st) (kf : ¬ rx = ry → jW p l e R s m args below meth c D cy A nL cells slots Q h lv (pc + 3) st) : jW p l e R s m args below meth c D cy A nL cells slots Q h lv pc (va_rf ry :: va_rf rx :: st) := fun H locs ls hP hD hS hl => lv_acmp_eq C.1 C.2.1 hd ht (fun z => kt z H locs ls hP hD hS hl) (fun z => kf z H locs ls hP hD hS hl)
theorem j_acmp_ne (C : jC p s m args meth c D cy A nL own cc) {rx ry : Option Nat} {off : Int} {tgt : Nat} (hd : decode cc pc = .ok (.if_acmp .ne off, 3)) (ht : (pc : Int) + off = (tgt : Int)) (kt : ¬ rx = ry → jW p l e R s m args below meth c D cy A nL cells slots Q h lv tgt st) (kf : rx = ry → jW p l e R s m args below meth c D cy A nL cells slots Q h lv (pc + 3) st) : jW p l e R s m args below meth c D cy A nL cells slots Q h lv pc (va_rf ry :: va_rf rx :: st) := fun H locs ls hP hD hS hl => lv_acmp_ne C.1 C.2.1 hd ht (fun z => kt z H locs ls hP hD hS hl) (fun z => kf z H locs ls hP hD hS hl)
theorem j_ifnull (C : jC p s m args meth c D cy A nL own cc) {x : Nat} {off : Int} (hd : decode cc pc = .ok (.ifnull off, 3)) (k : jW p l e R s m args below meth c D cy A nL cells slots Q h lv (pc + 3) st) : jW p l e R s m args below meth c D cy A nL cells slots Q h lv pc (.ref x :: st) := fun H locs ls hP hD hS hl => lv_ifnull C.1 C.2.1 hd (k H locs ls hP hD hS hl)
theorem j_ifnullN (C : jC p s m args meth c D cy A nL own cc) {off : Int} {tgt : Nat} (hd : decode cc pc = .ok (.ifnull off, 3)) (ht : (pc : Int) + off = (tgt : Int)) (k : jW p l e R s m args below meth c D cy A nL cells slots Q h lv tgt st) : jW p l e R s m args below meth c D cy A nL cells slots Q h lv pc (.null :: st) := fun H locs ls hP hD hS hl => lv_ifnullN C.1 C.2.1 hd ht (k H locs ls hP hD hS hl)
theorem j_ifnonnull (C : jC p s m args meth c D cy A nL own cc) {x : Nat} {off : Int} {tgt : Nat} (hd : decode cc pc = .ok (.ifnonnull off, 3)) (ht : (pc : Int) + off = (tgt : Int)) (k : jW p l e R s m args below meth c D cy A nL cells slots Q h lv tgt st) : jW p l e R s m args below meth c D cy A nL cells slots Q h lv pc (.ref x :: st) := fun H locs ls hP hD hS hl => lv_ifnonnull C.1 C.2.1 hd ht (k H locs ls hP hD hS hl)
theorem j_ifnonnullN (C : jC p s m args meth c D cy A nL own cc) {off : Int} (hd : decode cc pc = .ok (.ifnonnull off, 3)) (k : jW p l e R s m args below meth c D cy A nL cells slots Q h lv (pc + 3) st) : jW p l e R s m args below meth c D cy A nL cells slots Q h lv pc (.null :: st) := fun H locs ls hP hD hS hl => lv_ifnonnullN C.1 C.2.1 hd (k H locs ls hP hD hS hl)
/-- a field link of own: pool number index is field k of class ci -/
def jF (own : String) (index ci k : Nat) (r : Bool) : Prop := ∃ (Cn : String) (T : u_T) (N : Nat), vwCl[ci]? = some (Cn, T, N) ∧ (∀ w ∈ u_ws Cn T N, w ∈ wall) ∧ Cond.fieldLink own index Cn (T k).2.1 (T k).2.2.1 ∈ wall ∧ (T k).1 = Cn ∧ k < N ∧ nf ci = N ∧ rfb ci k = r ∧ ci < 12
/-- .. that may be written -/
def jP (own : String) (index ci k : Nat) (r fin : Bool) (ty : FieldType) : Prop := ∃ (Cn : String) (T : u_T) (N : Nat) (ty0 : Nat → FieldType), vwCl[ci]? = some (Cn, T, N) ∧ (∀ w ∈ u_ws Cn T N, w ∈ wall) ∧ Cond.fieldLink own index Cn (T k).2.1 (T k).2.2.1 ∈ wall ∧ (T k).1 = Cn ∧ k < N ∧ nf ci = N ∧ rfb ci k = r ∧ ci < 12 ∧ (∀ k, k < N → parseFieldDescriptor (T k).2.2.1 = some (ty0 k)) ∧ (∀ a, a < N → ∀ b, b < N → a ≠ b → (T a).2.1 ≠ (T b).2.1) ∧ (T k).2.2.2 = fin ∧ parseFieldDescriptor (T k).2.2.1 = some ty ∧ (fin = true → (T k).1 = own)
theorem j_getI (C : jC p s m args meth c D cy A nL own cc) {index ci k a : Nat} (F : jF own index ci k false) (ok : h_ok h a ci) (hd : decode cc pc = .ok (.getfield index, 3)) (kk : jW p l e R s m args below meth c D cy A nL cells slots Q h lv (pc + 3) (.int (h_I h (64 * ci + k) a) :: st)) : jW p l e R s m args below meth c D cy A nL cells slots Q h lv pc (.ref a :: st) := fun H locs ls hP hD hS hl => by
  obtain ⟨Cn, T, N, h1, h2, h3, h4, h5, h6, h7, h8⟩ := F
  obtain ⟨q, hq⟩ := pool_get (cy := cy) ok.1
  rw [pf_obj ok.2 h8] at hq
  refine va_get C.1 C.2.1 C.2.2.2.2.1 h2 C.2.2.2.1 C.2.2.2.2.2.1 hP q hq h1 k h5 (C.2.2.2.2.1 _ h3) (fun x hx => by rw [h4] at hx; exact hx) (v := .int (h_I h (64 * ci + k) a)) ?_ hd (kk H locs ls hP hD hS hl)
  rw [fl_get h a (by omega)]
  unfold fv; rw [h7]; rfl
theorem j_getR (C : jC p s m args meth c D cy A nL own cc) {index ci k a : Nat} {v : Value} (F : jF own index ci k true) (ok : h_ok h a ci) (hv : va_rf (h_R h (64 * ci + k) a) = v) (hd : decode cc pc = .ok (.getfield index, 3)) (kk : jW p l e R s m args below meth c D cy A nL cells slots Q h lv (pc + 3) (v :: st)) : jW p l e R s m args below meth c D cy A nL cells slots Q h lv pc (.ref a :: st) := fun H locs ls hP hD hS hl => by
  obtain ⟨Cn, T, N, h1, h2, h3, h4, h5, h6, h7, h8⟩ := F
  obtain ⟨q, hq⟩ := pool_get (cy := cy) ok.1
  rw [pf_obj ok.2 h8] at hq
  refine va_get C.1 C.2.1 C.2.2.2.2.1 h2 C.2.2.2.1 C.2.2.2.2.2.1 hP q hq h1 k h5 (C.2.2.2.2.1 _ h3) (fun x hx => by rw [h4] at hx; exact hx) (v := v) ?_ hd (kk H locs ls hP hD hS hl)
  rw [fl_get h a (by omega), ← hv]
  unfold fv; rw [h7]; rfl
theorem j_putI (C : jC p s m args meth c D cy A nL own cc) {index ci k a : Nat} {v : Int32} {ty : FieldType} (F : jP own index ci k false false ty) (ok : h_ok h a ci) (hn : narrow ty (.int v) = .int v) (hfit : fits ty (.int v) = true) (hd : decode cc pc = .ok (.putfield index, 3)) (kk : jW p l e R s m args below meth c D cy A nL cells slots Q (s_I h (64 * ci + k) a v) lv (pc + 3) st) : jW p l e R s m args below meth c D cy A nL cells slots Q h lv pc (.int v :: .ref a :: st) := fun H locs ls hP hD hS hl => by
  obtain ⟨Cn, T, N, ty0, h1, h2, h3, h4, h5, h6, h7, h8, h9, h10, h11, h12, h13⟩ := F
  obtain ⟨q, hq⟩ := pool_get (cy := cy) ok.1
  have hq2 := hq
  rw [pf_obj ok.2 h8] at hq2
  refine va_put C.1 C.2.1 C.2.2.2.2.1 h2 ty0 h9 h10 C.2.2.2.1 C.2.2.2.2.2.1 hP hD hS q hq2 h1 k h5 (C.2.2.2.2.1 _ h3) (fun x hx => by rw [h4] at hx; exact hx) h11 (v := .int v) h12 hn hfit (by rw [fl_len]; omega) hd (fun H1 locs1 hP1 hD1 hS1 => ?_)
  rw [pset_I hD ok h8 (by omega) h7 hq] at hP1 hD1
  exact kk H1 locs1 ls hP1 hD1 hS1 hl
theorem j_putR (C : jC p s m args meth c D cy A nL own cc) {index ci k a : Nat} {v : Option Nat} {w : Value} {ty : FieldType} (F : jP own index ci k true false ty) (ok : h_ok h a ci) (hw : va_rf v = w) (hn : narrow ty w = w) (hfit : fits ty w = true) (hd : decode cc pc = .ok (.putfield index, 3)) (kk : jW p l e R s m args below meth c D cy A nL cells slots Q (s_R h (64 * ci + k) a v) lv (pc + 3) st) : jW p l e R s m args below meth c D cy A nL cells slots Q h lv pc (w :: .ref a :: st) := fun H locs ls hP hD hS hl => by
  obtain ⟨Cn, T, N, ty0, h1, h2, h3, h4, h5, h6, h7, h8, h9, h10, h11, h12, h13⟩ := F
  obtain ⟨q, hq⟩ := pool_get (cy := cy) ok.1
  have hq2 := hq
  rw [pf_obj ok.2 h8] at hq2
  refine va_put C.1 C.2.1 C.2.2.2.2.1 h2 ty0 h9 h10 C.2.2.2.1 C.2.2.2.2.2.1 hP hD hS q hq2 h1 k h5 (C.2.2.2.2.1 _ h3) (fun x hx => by rw [h4] at hx; exact hx) h11 (v := w) h12 hn hfit (by rw [fl_len]; omega) hd (fun H1 locs1 hP1 hD1 hS1 => ?_)
  rw [← hw, pset_R hD ok h8 (by omega) h7 hq] at hP1 hD1
  exact kk H1 locs1 ls hP1 hD1 hS1 hl
theorem j_putFI (C : jC p s m args meth c D cy A nL own cc) (hin : meth.name = "<init>") {index ci k a : Nat} {v : Int32} {ty : FieldType} (F : jP own index ci k false true ty) (ok : h_ok h a ci) (hn : narrow ty (.int v) = .int v) (hfit : fits ty (.int v) = true) (hd : decode cc pc = .ok (.putfield index, 3)) (kk : jW p l e R s m args below meth c D cy A nL cells slots Q (s_I h (64 * ci + k) a v) lv (pc + 3) st) : jW p l e R s m args below meth c D cy A nL cells slots Q h lv pc (.int v :: .ref a :: st) := fun H locs ls hP hD hS hl => by
  obtain ⟨Cn, T, N, ty0, h1, h2, h3, h4, h5, h6, h7, h8, h9, h10, h11, h12, h13⟩ := F
  obtain ⟨q, hq⟩ := pool_get (cy := cy) ok.1
  have hq2 := hq
  rw [pf_obj ok.2 h8] at hq2
  refine va_putF C.1 C.2.1 C.2.2.2.2.1 h2 ty0 h9 h10 C.2.2.2.1 C.2.2.2.2.2.1 hP hD hS q hq2 h1 k h5 (C.2.2.2.2.1 _ h3) (fun x hx => by rw [h4] at hx; exact hx) h11 hin (h13 rfl) (v := .int v) h12 hn hfit (by rw [fl_len]; omega) hd (fun H1 locs1 hP1 hD1 hS1 => ?_)
  rw [pset_I hD ok h8 (by omega) h7 hq] at hP1 hD1
  exact kk H1 locs1 ls hP1 hD1 hS1 hl
theorem j_putFR (C : jC p s m args meth c D cy A nL own cc) (hin : meth.name = "<init>") {index ci k a : Nat} {v : Option Nat} {w : Value} {ty : FieldType} (F : jP own index ci k true true ty) (ok : h_ok h a ci) (hw : va_rf v = w) (hn : narrow ty w = w) (hfit : fits ty w = true) (hd : decode cc pc = .ok (.putfield index, 3)) (kk : jW p l e R s m args below meth c D cy A nL cells slots Q (s_R h (64 * ci + k) a v) lv (pc + 3) st) : jW p l e R s m args below meth c D cy A nL cells slots Q h lv pc (w :: .ref a :: st) := fun H locs ls hP hD hS hl => by
  obtain ⟨Cn, T, N, ty0, h1, h2, h3, h4, h5, h6, h7, h8, h9, h10, h11, h12, h13⟩ := F
  obtain ⟨q, hq⟩ := pool_get (cy := cy) ok.1
  have hq2 := hq
  rw [pf_obj ok.2 h8] at hq2
  refine va_putF C.1 C.2.1 C.2.2.2.2.1 h2 ty0 h9 h10 C.2.2.2.1 C.2.2.2.2.2.1 hP hD hS q hq2 h1 k h5 (C.2.2.2.2.1 _ h3) (fun x hx => by rw [h4] at hx; exact hx) h11 hin (h13 rfl) (v := w) h12 hn hfit (by rw [fl_len]; omega) hd (fun H1 locs1 hP1 hD1 hS1 => ?_)
  rw [← hw, pset_R hD ok h8 (by omega) h7 hq] at hP1 hD1
  exact kk H1 locs1 ls hP1 hD1 hS1 hl
theorem j_iald (C : jC p s m args meth c D cy A nL own cc) {a : Nat} {i : Int32} (ok : h_ok h a 12) (hi : vp_in i (h_N h a)) (hd : decode cc pc = .ok (.iaload, 1)) (kk : jW p l e R s m args below meth c D cy A nL cells slots Q h lv (pc + 1) (.int (h_A h a i.toNatClampNeg) :: st)) : jW p l e R s m args below meth c D cy A nL cells slots Q h lv pc (.int i :: .ref a :: st) := fun H locs ls hP hD hS hl => by
  obtain ⟨q, hq⟩ := pool_get (cy := cy) ok.1
  rw [pf_int ok.2] at hq
  exact va_iald C.1 C.2.1 C.2.2.2.2.2.1 hP q 0 hq rfl hi hd (kk H locs ls hP hD hS hl)
theorem j_iast (C : jC p s m args meth c D cy A nL own cc) {a : Nat} {i x : Int32} (ok : h_ok h a 12) (hi : vp_in i (h_N h a)) (hd : decode cc pc = .ok (.iastore, 1)) (kk : jW p l e R s m args below meth c D cy A nL cells slots Q (s_A h a i.toNatClampNeg x) lv (pc + 1) st) : jW p l e R s m args below meth c D cy A nL cells slots Q h lv pc (.int x :: .int i :: .ref a :: st) := fun H locs ls hP hD hS hl => by
  obtain ⟨q, hq⟩ := pool_get (cy := cy) ok.1
  have hq2 := hq
  rw [pf_int ok.2] at hq2
  refine va_iast C.1 C.2.1 C.2.2.2.2.2.1 hP hD hS q 0 hq2 rfl hi hd (fun H1 locs1 hP1 hD1 hS1 => ?_)
  rw [pset_A hD ok hq] at hP1 hD1
  exact kk H1 locs1 ls hP1 hD1 hS1 hl
theorem j_aald (C : jC p s m args meth c D cy A nL own cc) {a k : Nat} {Cn : String} {i : Int32} {v : Value} (ok : h_ok h a k) (hk : 12 < k) (ht : (jTys cy)[k - 12]? = some (cy k, .object Cn)) (hi : vp_in i (h_N h a)) (hv : va_rf (h_B h a i.toNatClampNeg) = v) (hd : decode cc pc = .ok (.aaload, 1)) (kk : jW p l e R s m args below meth c D cy A nL cells slots Q h lv (pc + 1) (v :: st)) : jW p l e R s m args below meth c D cy A nL cells slots Q h lv pc (.int i :: .ref a :: st) := fun H locs ls hP hD hS hl => by
  obtain ⟨q, hq⟩ := pool_get (cy := cy) ok.1
  rw [pf_ref ok.2 hk] at hq
  refine va_aldq C.1 C.2.1 C.2.2.2.2.2.1 hP q (k - 12) hq ht hi hd ?_
  rw [hv]
  exact kk H locs ls hP hD hS hl
theorem j_aast (C : jC p s m args meth c D cy A nL own cc) {a b k ci : Nat} {r : vw_C} {i : Int32} (ok : h_ok h a k) (hk : 12 < k) (okb : h_ok h b ci) (hci : ci < 12) (hc : vwCl[ci]? = some r) (ht : (jTys cy)[k - 12]? = some (cy k, .object r.1)) (hi : vp_in i (h_N h a)) (hd : decode cc pc = .ok (.aastore, 1)) (kk : jW p l e R s m args below meth c D cy A nL cells slots Q (s_B h a i.toNatClampNeg (some b)) lv (pc + 1) st) : jW p l e R s m args below meth c D cy A nL cells slots Q h lv pc (.ref b :: .int i :: .ref a :: st) := fun H locs ls hP hD hS hl => by
  obtain ⟨q, hq⟩ := pool_get (cy := cy) ok.1
  obtain ⟨q2, hq2⟩ := pool_get (cy := cy) okb.1
  rw [pf_obj okb.2 hci] at hq2
  have hq1 := hq
  rw [pf_ref ok.2 hk] at hq1
  refine va_astq C.1 C.2.1 C.2.2.2.2.2.1 hP hD hS q (k - 12) q2 ci hq1 ht hq2 hc hi hd (fun H1 locs1 hP1 hD1 hS1 => ?_)
  rw [pset_B hD ok hk hq] at hP1 hD1
  exact kk H1 locs1 ls hP1 hD1 hS1 hl
end JROWS

