theorem kK_X10_148 : Cond.constant RX10 148 100000 ∈ wall := wl_m 433 (by decide +kernel) rfl
theorem kK_X0_89 : Cond.constantLong RX0 89 1000 ∈ wall := wl_m 485 (by decide +kernel) rfl
theorem kK_X10_227 : Cond.constantLong RX10 227 6364136223846793005 ∈ wall := wl_m 587 (by decide +kernel) rfl
theorem kK_X10_229 : Cond.constantLong RX10 229 1442695040888963407 ∈ wall := wl_m 588 (by decide +kernel) rfl
theorem kK_X4_38 : Cond.constant RX4 38 1000000 ∈ wall := wl_m 621 (by decide +kernel) rfl
theorem kK_X11_189 : Cond.constant RX11 189 100000 ∈ wall := wl_m 961 (by decide +kernel) rfl
theorem kK_X11_219 : Cond.constantLong RX11 219 1000 ∈ wall := wl_m 986 (by decide +kernel) rfl
theorem kK_X11_208 : Cond.constantLong RX11 208 6364136223846793005 ∈ wall := wl_m 1015 (by decide +kernel) rfl
theorem kK_X11_210 : Cond.constantLong RX11 210 1442695040888963407 ∈ wall := wl_m 1016 (by decide +kernel) rfl
theorem kK_X11_224 : Cond.constant RX11 224 1000000 ∈ wall := wl_m 1045 (by decide +kernel) rfl
theorem kK_L_84 : Cond.constantLong RL 84 4294967295 ∈ wall := wl_m 1098 (by decide +kernel) rfl
theorem tb_out {x : Int32} {n : Nat} (h : ∀ i : Nat, i ≤ n → x ≠ nI i) : x.toInt < 0 ∨ (n : Int) < x.toInt := by
  by_cases q : x.toInt < 0
  · exact Or.inl q
  · by_cases z : (n : Int) < x.toInt
    · exact Or.inr z
    · exfalso
      obtain ⟨j, hj, rfl⟩ := nI_of (x := x) (by rw [Int32.lt_iff_toInt_lt]; exact q)
      rw [nI_toInt hj] at z
      exact h j (by omega) rfl
section TSW
variable {p : Program} {l : Launch} {e : Env} {R : Room} {s : State} {m : MethodId} {args : Array Value} {below : List Frame} {meth : Method} {c : Code} {D : va_G} {cy : Nat → ClassId} {A : Nat → Prop} {nL cells slots : Nat} {Q : State → Prop} {own : String} {cc : ByteArray} {h : jH} {lv lv' : List (Nat × Value)} {pc : Nat} {st : List Value}
theorem j_tsw (C : jC p s m args meth c D cy A nL own cc) {dflt : Int} {hi : Nat} {offs : Array Int} {len : Nat} {x : Int32} (hd : decode cc pc = .ok (.tableswitch dflt 0 (hi : Int) offs, len)) (kin : ∀ i : Nat, i ≤ hi → x = nI i → ∃ (off : Int) (tgt : Nat), offs[i]? = some off ∧ (pc : Int) + off = (tgt : Int) ∧ jW p l e R s m args below meth c D cy A nL cells slots Q h lv tgt st) (kout : (∀ i : Nat, i ≤ hi → x ≠ nI i) → ∃ tgt : Nat, (pc : Int) + dflt = (tgt : Int) ∧ jW p l e R s m args below meth c D cy A nL cells slots Q h lv tgt st) (hb : hi < 2 ^ 31 := by decide) : jW p l e R s m args below meth c D cy A nL cells slots Q h lv pc (.int x :: st) := fun H locs ls hP hD hS hl => by
  by_cases e : ∃ i : Nat, i ≤ hi ∧ x = nI i
  · obtain ⟨i, h1, rfl⟩ := e
    obtain ⟨off, tgt, a1, a2, a3⟩ := kin i h1 rfl
    have hi2 : i < 2 ^ 31 := Nat.lt_of_le_of_lt h1 hb
    refine lv_tableIn C.1 C.2.1 hd (by rw [nI_toInt hi2]; omega) (by rw [nI_toInt hi2]; omega) (off := off) ?_ a2 (a3 H locs ls hP hD hS hl)
    rw [nI_toInt hi2, show ((i : Int) - 0).toNat = i by omega]
    exact a1
  · obtain ⟨tgt, a1, a2⟩ := kout (fun i h1 h2 => e ⟨i, h1, h2⟩)
    exact lv_tableOut C.1 C.2.1 hd (tb_out (fun i h1 h2 => e ⟨i, h1, h2⟩)) a1 (a2 H locs ls hP hD hS hl)
end TSW
section TSM
variable {p : Program} {l : Launch} {e : Env} {R : Room} {s : State} {m : MethodId} {args : Array Value} {below : List Frame} {meth : Method} {c : Code} {D : va_G} {cy : Nat → ClassId} {A : Nat → Prop} {nL : Nat} {Q : State → Prop} {cc : ByteArray} {m0 : Nat} {ad : Nat → Nat} {h0 : jH} {S : Nat → Nat → Int32} {lv lv' : List (Nat × Value)} {pc : Nat} {st : List Value}
theorem jm_tsw (C : jC p s m args meth c D cy A nL RX11 cc) {dflt : Int} {hi : Nat} {offs : Array Int} {len : Nat} {x : Int32} (hd : decode cc pc = .ok (.tableswitch dflt 0 (hi : Int) offs, len)) (kin : ∀ i : Nat, i ≤ hi → x = nI i → ∃ (off : Int) (tgt : Nat), offs[i]? = some off ∧ (pc : Int) + off = (tgt : Int) ∧ jM p l e R s m args below meth c D cy A nL Q m0 ad h0 S lv tgt st) (kout : (∀ i : Nat, i ≤ hi → x ≠ nI i) → ∃ tgt : Nat, (pc : Int) + dflt = (tgt : Int) ∧ jM p l e R s m args below meth c D cy A nL Q m0 ad h0 S lv tgt st) (hb : hi < 2 ^ 31 := by decide) : jM p l e R s m args below meth c D cy A nL Q m0 ad h0 S lv pc (.int x :: st) := fun h hM hF => j_tsw C hd (fun i h1 h2 => by
  obtain ⟨o, t, a, b, k⟩ := kin i h1 h2
  exact ⟨o, t, a, b, k h hM hF⟩) (fun h1 => by
  obtain ⟨t, a, k⟩ := kout h1
  exact ⟨t, a, k h hM hF⟩) hb
end TSM
/-- one of n + 1 answers by a number -/
def tsel {α : Type} (n : Nat) (x : Int32) (f : Nat → α) (d : α) : α := if 0 ≤ x ∧ x ≤ nI n then f x.toNatClampNeg else d
theorem tsel_in {α : Type} {n i : Nat} (h : i ≤ n) (f : Nat → α) (d : α) (hn : n < 2 ^ 31 := by decide) : tsel n (nI i) f d = f i := by
  unfold tsel
  rw [if_pos ⟨nI_pos' (Nat.lt_of_le_of_lt h hn), nI_le h hn⟩, nI_clamp (Nat.lt_of_le_of_lt h hn)]
theorem tsel_out {α : Type} {n : Nat} {x : Int32} (h : ∀ i : Nat, i ≤ n → x ≠ nI i) (f : Nat → α) (d : α) (hn : n < 2 ^ 31 := by decide) : tsel n x f d = d := by
  unfold tsel
  refine if_neg (fun z => ?_)
  obtain ⟨j, hj, rfl⟩ := nI_of (Int32.not_lt.mpr z.1)
  exact h j ((nI_leI hj hn).mp z.2) rfl
theorem in_vp {x v : Int32} {n N : Nat} (hv : v = nI n) (hn : n ≤ N) (h : 0 ≤ x ∧ x ≤ v - 1) (hN : N < 2 ^ 31 := by decide) : vp_in x N := by
  subst hv
  obtain ⟨j, h1, rfl⟩ := nI_of (Int32.not_lt.mpr h.1)
  refine vp_in_nI ?_ hN
  cases n with
  | zero =>
    have h2 := h.2
    rw [Int32.le_iff_toInt_le, nI_toInt h1] at h2
    have : (nI 0 - 1 : Int32).toInt = -1 := by decide
    omega
  | succ n =>
    have h2 := h.2
    rw [nI_pred, nI_leI h1 (by omega)] at h2
    omega
theorem ne_lt {n N : Nat} {v : Int32} (hv : nI N = v) (h : ¬ nI n = v) (hn : n ≤ N) : n < N := by
  rcases Nat.lt_or_ge n N with q | q
  · exact q
  · exact absurd (by rw [show n = N by omega]; exact hv) h
theorem nge_lt {n N : Nat} {v : Int32} (hv : nI N = v) (h : ¬ v ≤ nI n) (hn : n < 2 ^ 31) : n < N := by
  subst hv
  exact Nat.not_le.mp (fun z => h (nI_le z hn))

