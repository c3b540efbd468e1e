/-- what stays of a heap h0 while the object m0 is being made: all its cells but m0's own fields -/
def Fi (m0 : Nat) (h0 h : jH) : Prop := (∀ a, a ∈ h_L h0 → a ∈ h_L h) ∧ ∀ a, a ∈ h_L h0 → h_K h a = h_K h0 a ∧ h_N h a = h_N h0 a ∧ (∀ i, h_A h a i = h_A h0 a i) ∧ (∀ i, h_B h a i = h_B h0 a i) ∧ (a ≠ m0 → (∀ f, h_I h f a = h_I h0 f a) ∧ ∀ f, h_R h f a = h_R h0 f a)
theorem Fi.rf {m0 : Nat} {h : jH} : Fi m0 h h := ⟨fun _ h => h, fun _ _ => ⟨rfl, rfl, fun _ => rfl, fun _ => rfl, fun _ => ⟨fun _ => rfl, fun _ => rfl⟩⟩⟩
def MvP (m0 : Nat) (h0 : jH) (ad : Nat → Nat) (h : jH) (j : Nat) : Prop := h_ok h m0 11 ∧ (∀ k, k < 9 → h_I h (64 * 11 + k) m0 = 0) ∧ (∀ k, 9 ≤ k → k < 9 + j → h_R h (64 * 11 + k) m0 = some (ad k) ∧ h_ok h (ad k) 12 ∧ h_N h (ad k) = mlen k ∧ (∀ i, h_A h (ad k) i = 0) ∧ ad k ∉ h_L h0) ∧ (∀ x y, 9 ≤ x → x < 9 + j → 9 ≤ y → y < 9 + j → ad x = ad y → x = y)
theorem MvP.step {m0 : Nat} {h0 : jH} {ad : Nat → Nat} {h : jH} {j N q : Nat} (M : MvP m0 h0 ad h j) (F : Fi m0 h0 h) (hm : m0 ∈ h_L h0) (hN : mlen (9 + j) = N) (hq : q ∉ h_L h) : MvP m0 h0 (va_up ad (9 + j) q) (s_R (s_N h q 12 N) (64 * 11 + (9 + j)) m0 (some q)) (j + 1) ∧ Fi m0 h0 (s_R (s_N h q 12 N) (64 * 11 + (9 + j)) m0 (some q)) := by
  obtain ⟨a1, a2, a3, a4⟩ := M
  have hmq : m0 ≠ q := fun e => hq (e ▸ a1.1)
  have hl : ∀ a, a ∈ h_L h → a ∈ h_L (s_N h q 12 N) := fun a ha => by rw [g_LN]; exact List.mem_append_left _ ha
  have hne : ∀ a, a ∈ h_L h → a ≠ q := fun a ha e => hq (e ▸ ha)
  refine ⟨⟨⟨hl _ a1.1, ?_⟩, fun k hk => ?_, fun k h1 h2 => ?_, fun x y h1 h2 h3 h4 e => ?_⟩, fun a ha => hl a (F.1 a ha), fun a ha => ?_⟩
  · rw [g_KR, g_KN, if_neg hmq]; exact a1.2
  · rw [g_IR, g_IN]; exact a2 k hk
  · by_cases e : k = 9 + j
    · subst e
      have eq1 : va_up ad (9 + j) q (9 + j) = q := va_up_self _ _ _
      rw [eq1]
      refine ⟨by rw [g_RR, if_pos rfl, if_pos rfl], ⟨by rw [g_LR, g_LN]; exact List.mem_append_right _ (List.mem_singleton.mpr rfl), by rw [g_KR, g_KN, if_pos rfl]⟩, by rw [g_NR, g_NN, if_pos rfl, hN], fun i => by rw [g_AR, g_AN, if_pos rfl], fun z => hq (F.1 q z)⟩
    · obtain ⟨b1, b2, b3, b4, b5⟩ := a3 k h1 (by omega)
      have eq1 : va_up ad (9 + j) q k = ad k := va_up_ne _ _ e
      rw [eq1]
      have hkq := hne _ b2.1
      refine ⟨by rw [g_RR, if_neg (fid_ne e), g_RN]; exact b1, ⟨hl _ b2.1, by rw [g_KR, g_KN, if_neg hkq]; exact b2.2⟩, by rw [g_NR, g_NN, if_neg hkq]; exact b3, fun i => by rw [g_AR, g_AN, if_neg hkq]; exact b4 i, b5⟩
  · by_cases ex : x = 9 + j
    · by_cases ey : y = 9 + j
      · omega
      · rw [ex, va_up_self, va_up_ne _ _ ey] at e
        exact absurd e.symm (hne _ (a3 y h3 (by omega)).2.1.1)
    · by_cases ey : y = 9 + j
      · rw [ey, va_up_self, va_up_ne _ _ ex] at e
        exact absurd e (hne _ (a3 x h1 (by omega)).2.1.1)
      · rw [va_up_ne _ _ ex, va_up_ne _ _ ey] at e
        exact a4 x y h1 (by omega) h3 (by omega) e
  · have haq := hne _ (F.1 a ha)
    obtain ⟨c1, c2, c3, c4, c5⟩ := F.2 a ha
    refine ⟨by rw [g_KR, g_KN, if_neg haq]; exact c1, by rw [g_NR, g_NN, if_neg haq]; exact c2, fun i => by rw [g_AR, g_AN, if_neg haq]; exact c3 i, fun i => by rw [g_BR, g_BN, if_neg haq]; exact c4 i, fun hm0 => ⟨fun f => by rw [g_IR, g_IN]; exact (c5 hm0).1 f, fun f => ?_⟩⟩
    rw [g_RR]
    by_cases ef : f = 64 * 11 + (9 + j)
    · rw [if_pos ef, if_neg hm0, g_RN]; exact (c5 hm0).2 f
    · rw [if_neg ef, g_RN]; exact (c5 hm0).2 f
theorem j_row {p : Program} {l : Launch} {e : Env} {R : Room} {s : State} {m : MethodId} {args : Array Value} {below : List Frame} {meth : Method} {c : Code} {D : va_G} {cy : Nat → ClassId} {A : Nat → Prop} {Q : State → Prop} {m0 : Nat} {ad : Nat → Nat} {h0 : jH} {nL cells slots : Nat} {cc : ByteArray} {h : jH} {lv : List (Nat × Value)} {pc : Nat} (C : jC p s m args meth c D cy A nL RX11 cc) (hin : meth.name = "<init>") {n : Int32} {N j index : Nat} (F : jP RX11 index 11 (9 + j) true true (.array .int)) (M : MvP m0 h0 ad h j) (Fr : Fi m0 h0 h) (hm : m0 ∈ h_L h0) (hN : mlen (9 + j) = N) (hn : ¬ n < 0) (hnN : n.toNatClampNeg = N) (hb : N * componentBytes .int ≤ 536870912) (hc : cells + 1 ≤ R.cells) (hs : slots + N ≤ R.slots) (hd : decode cc pc = .ok (.newarray .int, 2)) (hd2 : decode cc (pc + 2) = .ok (.putfield index, 3)) (kk : ∀ (ad' : Nat → Nat) (h' : jH), MvP m0 h0 ad' h' (j + 1) → Fi m0 h0 h' → jW p l e R s m args below meth c D cy A nL (cells + 1) (slots + N) Q h' lv (pc + 2 + 3) []) : jW p l e R s m args below meth c D cy A nL cells slots Q h lv pc [.int n, .ref m0] := by
  refine j_newI C hn hnN hb hc hs hd (fun q hq => ?_)
  have hmq : m0 ≠ q := fun e => hq (e ▸ M.1.1)
  refine j_putFR C hin F (a := m0) (v := some q) ⟨by rw [g_LN]; exact List.mem_append_left _ M.1.1, by rw [g_KN, if_neg hmq]; exact M.1.2⟩ rfl rfl rfl hd2 ?_
  exact kk _ _ (M.step Fr hm hN hq).1 (M.step Fr hm hN hq).2
set_option maxHeartbeats 4000000 in
set_option maxRecDepth 100000 in
theorem c_Minit {l : Launch} {D : va_G} {cy : Nat → ClassId} {m0 : Nat} {h : jH} (hok : h_ok h m0 11) (hz : ∀ k, k < 9 → h_I h (64 * 11 + k) m0 = 0) : jV l D cy yX11_init (.code yX11_init cX11_init 1 none) (rmd 2 40 7475) [.ref m0] h (fun h' => ∃ ad, Mv m0 ad h' (fun _ _ => 0) ∧ Fi m0 h h' ∧ ∀ k, 9 ≤ k → k < 49 → ad k ∉ h_L h) := by
  refine j_ofV (by decide) (Nat.le_of_ble_eq_true rfl) (fun p e s m args below meth c Q C hin ret => ?_)
  refine j_aload_n C dX11_init_0 rfl ?_
  refine j_objInit C kM_X11_1 dX11_init_1 (Nat.le_of_ble_eq_true rfl) (Nat.le_of_ble_eq_true rfl) ?_
  obtain ⟨ad, hM, hF⟩ : ∃ ad, MvP m0 h ad h 0 ∧ Fi m0 h h := ⟨fun _ => 0, ⟨hok, hz, fun k h1 h2 => absurd h2 (by omega), fun x y h1 h2 => absurd h2 (by omega)⟩, Fi.rf⟩
  refine j_aload_n C dX11_init_4 rfl ?_
  refine j_bipush (v := 40) C dX11_init_5 (by decide) ?_
  refine j_row C hin (N := 40) (j := 0) fP_X11_9 hM hF hok.1 rfl (by decide) (by decide) (by decide) (Nat.le_of_ble_eq_true rfl) (Nat.le_of_ble_eq_true rfl) dX11_init_7 dX11_init_9 (fun ad hc hM hF => ?_)
  refine j_aload_n C dX11_init_12 rfl ?_
  refine j_bipush (v := 40) C dX11_init_13 (by decide) ?_
  refine j_row C hin (N := 40) (j := 1) fP_X11_13 hM hF hok.1 rfl (by decide) (by decide) (by decide) (Nat.le_of_ble_eq_true rfl) (Nat.le_of_ble_eq_true rfl) dX11_init_15 dX11_init_17 (fun ad hc hM hF => ?_)
  refine j_aload_n C dX11_init_20 rfl ?_
  refine j_bipush (v := 40) C dX11_init_21 (by decide) ?_
  refine j_row C hin (N := 40) (j := 2) fP_X11_16 hM hF hok.1 rfl (by decide) (by decide) (by decide) (Nat.le_of_ble_eq_true rfl) (Nat.le_of_ble_eq_true rfl) dX11_init_23 dX11_init_25 (fun ad hc hM hF => ?_)
  refine j_aload_n C dX11_init_28 rfl ?_
  refine j_bipush (v := 40) C dX11_init_29 (by decide) ?_
  refine j_row C hin (N := 40) (j := 3) fP_X11_19 hM hF hok.1 rfl (by decide) (by decide) (by decide) (Nat.le_of_ble_eq_true rfl) (Nat.le_of_ble_eq_true rfl) dX11_init_31 dX11_init_33 (fun ad hc hM hF => ?_)
  refine j_aload_n C dX11_init_36 rfl ?_
  refine j_sipush (v := 300) C dX11_init_37 (by decide) ?_
  refine j_row C hin (N := 300) (j := 4) fP_X11_22 hM hF hok.1 rfl (by decide) (by decide) (by decide) (Nat.le_of_ble_eq_true rfl) (Nat.le_of_ble_eq_true rfl) dX11_init_40 dX11_init_42 (fun ad hc hM hF => ?_)
  refine j_aload_n C dX11_init_45 rfl ?_
  refine j_sipush (v := 300) C dX11_init_46 (by decide) ?_
  refine j_row C hin (N := 300) (j := 5) fP_X11_25 hM hF hok.1 rfl (by decide) (by decide) (by decide) (Nat.le_of_ble_eq_true rfl) (Nat.le_of_ble_eq_true rfl) dX11_init_49 dX11_init_51 (fun ad hc hM hF => ?_)
  refine j_aload_n C dX11_init_54 rfl ?_
  refine j_sipush (v := 300) C dX11_init_55 (by decide) ?_
  refine j_row C hin (N := 300) (j := 6) fP_X11_28 hM hF hok.1 rfl (by decide) (by decide) (by decide) (Nat.le_of_ble_eq_true rfl) (Nat.le_of_ble_eq_true rfl) dX11_init_58 dX11_init_60 (fun ad hc hM hF => ?_)
  refine j_aload_n C dX11_init_63 rfl ?_
  refine j_sipush (v := 300) C dX11_init_64 (by decide) ?_
  refine j_row C hin (N := 300) (j := 7) fP_X11_31 hM hF hok.1 rfl (by decide) (by decide) (by decide) (Nat.le_of_ble_eq_true rfl) (Nat.le_of_ble_eq_true rfl) dX11_init_67 dX11_init_69 (fun ad hc hM hF => ?_)
  refine j_aload_n C dX11_init_72 rfl ?_
  refine j_bipush (v := 100) C dX11_init_73 (by decide) ?_
  refine j_row C hin (N := 100) (j := 8) fP_X11_34 hM hF hok.1 rfl (by decide) (by decide) (by decide) (Nat.le_of_ble_eq_true rfl) (Nat.le_of_ble_eq_true rfl) dX11_init_75 dX11_init_77 (fun ad hc hM hF => ?_)
  refine j_aload_n C dX11_init_80 rfl ?_
  refine j_bipush (v := 100) C dX11_init_81 (by decide) ?_
  refine j_row C hin (N := 100) (j := 9) fP_X11_37 hM hF hok.1 rfl (by decide) (by decide) (by decide) (Nat.le_of_ble_eq_true rfl) (Nat.le_of_ble_eq_true rfl) dX11_init_83 dX11_init_85 (fun ad hc hM hF => ?_)
  refine j_aload_n C dX11_init_88 rfl ?_
  refine j_bipush (v := 100) C dX11_init_89 (by decide) ?_
  refine j_row C hin (N := 100) (j := 10) fP_X11_40 hM hF hok.1 rfl (by decide) (by decide) (by decide) (Nat.le_of_ble_eq_true rfl) (Nat.le_of_ble_eq_true rfl) dX11_init_91 dX11_init_93 (fun ad hc hM hF => ?_)
  refine j_aload_n C dX11_init_96 rfl ?_
  refine j_bipush (v := 100) C dX11_init_97 (by decide) ?_
  refine j_row C hin (N := 100) (j := 11) fP_X11_43 hM hF hok.1 rfl (by decide) (by decide) (by decide) (Nat.le_of_ble_eq_true rfl) (Nat.le_of_ble_eq_true rfl) dX11_init_99 dX11_init_101 (fun ad hc hM hF => ?_)
  refine j_aload_n C dX11_init_104 rfl ?_
  refine j_sipush (v := 200) C dX11_init_105 (by decide) ?_
  refine j_row C hin (N := 200) (j := 12) fP_X11_46 hM hF hok.1 rfl (by decide) (by decide) (by decide) (Nat.le_of_ble_eq_true rfl) (Nat.le_of_ble_eq_true rfl) dX11_init_108 dX11_init_110 (fun ad hc hM hF => ?_)
  refine j_aload_n C dX11_init_113 rfl ?_
  refine j_sipush (v := 200) C dX11_init_114 (by decide) ?_
  refine j_row C hin (N := 200) (j := 13) fP_X11_49 hM hF hok.1 rfl (by decide) (by decide) (by decide) (Nat.le_of_ble_eq_true rfl) (Nat.le_of_ble_eq_true rfl) dX11_init_117 dX11_init_119 (fun ad hc hM hF => ?_)
  refine j_aload_n C dX11_init_122 rfl ?_
  refine j_sipush (v := 200) C dX11_init_123 (by decide) ?_
  refine j_row C hin (N := 200) (j := 14) fP_X11_52 hM hF hok.1 rfl (by decide) (by decide) (by decide) (Nat.le_of_ble_eq_true rfl) (Nat.le_of_ble_eq_true rfl) dX11_init_126 dX11_init_128 (fun ad hc hM hF => ?_)
  refine j_aload_n C dX11_init_131 rfl ?_
  refine j_sipush (v := 200) C dX11_init_132 (by decide) ?_
  refine j_row C hin (N := 200) (j := 15) fP_X11_55 hM hF hok.1 rfl (by decide) (by decide) (by decide) (Nat.le_of_ble_eq_true rfl) (Nat.le_of_ble_eq_true rfl) dX11_init_135 dX11_init_137 (fun ad hc hM hF => ?_)
  refine j_aload_n C dX11_init_140 rfl ?_
  refine j_sipush (v := 200) C dX11_init_141 (by decide) ?_
  refine j_row C hin (N := 200) (j := 16) fP_X11_58 hM hF hok.1 rfl (by decide) (by decide) (by decide) (Nat.le_of_ble_eq_true rfl) (Nat.le_of_ble_eq_true rfl) dX11_init_144 dX11_init_146 (fun ad hc hM hF => ?_)
  refine j_aload_n C dX11_init_149 rfl ?_
  refine j_sipush (v := 200) C dX11_init_150 (by decide) ?_
  refine j_row C hin (N := 200) (j := 17) fP_X11_61 hM hF hok.1 rfl (by decide) (by decide) (by decide) (Nat.le_of_ble_eq_true rfl) (Nat.le_of_ble_eq_true rfl) dX11_init_153 dX11_init_155 (fun ad hc hM hF => ?_)
  refine j_aload_n C dX11_init_158 rfl ?_
  refine j_sipush (v := 200) C dX11_init_159 (by decide) ?_
  refine j_row C hin (N := 200) (j := 18) fP_X11_64 hM hF hok.1 rfl (by decide) (by decide) (by decide) (Nat.le_of_ble_eq_true rfl) (Nat.le_of_ble_eq_true rfl) dX11_init_162 dX11_init_164 (fun ad hc hM hF => ?_)
  refine j_aload_n C dX11_init_167 rfl ?_
  refine j_sipush (v := 200) C dX11_init_168 (by decide) ?_
  refine j_row C hin (N := 200) (j := 19) fP_X11_67 hM hF hok.1 rfl (by decide) (by decide) (by decide) (Nat.le_of_ble_eq_true rfl) (Nat.le_of_ble_eq_true rfl) dX11_init_171 dX11_init_173 (fun ad hc hM hF => ?_)
  refine j_aload_n C dX11_init_176 rfl ?_
  refine j_sipush (v := 200) C dX11_init_177 (by decide) ?_
  refine j_row C hin (N := 200) (j := 20) fP_X11_70 hM hF hok.1 rfl (by decide) (by decide) (by decide) (Nat.le_of_ble_eq_true rfl) (Nat.le_of_ble_eq_true rfl) dX11_init_180 dX11_init_182 (fun ad hc hM hF => ?_)
  refine j_aload_n C dX11_init_185 rfl ?_
  refine j_sipush (v := 200) C dX11_init_186 (by decide) ?_
  refine j_row C hin (N := 200) (j := 21) fP_X11_73 hM hF hok.1 rfl (by decide) (by decide) (by decide) (Nat.le_of_ble_eq_true rfl) (Nat.le_of_ble_eq_true rfl) dX11_init_189 dX11_init_191 (fun ad hc hM hF => ?_)
  refine j_aload_n C dX11_init_194 rfl ?_
  refine j_sipush (v := 200) C dX11_init_195 (by decide) ?_
  refine j_row C hin (N := 200) (j := 22) fP_X11_76 hM hF hok.1 rfl (by decide) (by decide) (by decide) (Nat.le_of_ble_eq_true rfl) (Nat.le_of_ble_eq_true rfl) dX11_init_198 dX11_init_200 (fun ad hc hM hF => ?_)
  refine j_aload_n C dX11_init_203 rfl ?_
  refine j_sipush (v := 200) C dX11_init_204 (by decide) ?_
  refine j_row C hin (N := 200) (j := 23) fP_X11_79 hM hF hok.1 rfl (by decide) (by decide) (by decide) (Nat.le_of_ble_eq_true rfl) (Nat.le_of_ble_eq_true rfl) dX11_init_207 dX11_init_209 (fun ad hc hM hF => ?_)
  refine j_aload_n C dX11_init_212 rfl ?_
  refine j_sipush (v := 200) C dX11_init_213 (by decide) ?_
  refine j_row C hin (N := 200) (j := 24) fP_X11_82 hM hF hok.1 rfl (by decide) (by decide) (by decide) (Nat.le_of_ble_eq_true rfl) (Nat.le_of_ble_eq_true rfl) dX11_init_216 dX11_init_218 (fun ad hc hM hF => ?_)
  refine j_aload_n C dX11_init_221 rfl ?_
  refine j_sipush (v := 300) C dX11_init_222 (by decide) ?_
  refine j_row C hin (N := 300) (j := 25) fP_X11_85 hM hF hok.1 rfl (by decide) (by decide) (by decide) (Nat.le_of_ble_eq_true rfl) (Nat.le_of_ble_eq_true rfl) dX11_init_225 dX11_init_227 (fun ad hc hM hF => ?_)
  refine j_aload_n C dX11_init_230 rfl ?_
  refine j_sipush (v := 300) C dX11_init_231 (by decide) ?_
  refine j_row C hin (N := 300) (j := 26) fP_X11_88 hM hF hok.1 rfl (by decide) (by decide) (by decide) (Nat.le_of_ble_eq_true rfl) (Nat.le_of_ble_eq_true rfl) dX11_init_234 dX11_init_236 (fun ad hc hM hF => ?_)
  refine j_aload_n C dX11_init_239 rfl ?_
  refine j_sipush (v := 300) C dX11_init_240 (by decide) ?_
  refine j_row C hin (N := 300) (j := 27) fP_X11_91 hM hF hok.1 rfl (by decide) (by decide) (by decide) (Nat.le_of_ble_eq_true rfl) (Nat.le_of_ble_eq_true rfl) dX11_init_243 dX11_init_245 (fun ad hc hM hF => ?_)
  refine j_aload_n C dX11_init_248 rfl ?_
  refine j_sipush (v := 300) C dX11_init_249 (by decide) ?_
  refine j_row C hin (N := 300) (j := 28) fP_X11_94 hM hF hok.1 rfl (by decide) (by decide) (by decide) (Nat.le_of_ble_eq_true rfl) (Nat.le_of_ble_eq_true rfl) dX11_init_252 dX11_init_254 (fun ad hc hM hF => ?_)
  refine j_aload_n C dX11_init_257 rfl ?_
  refine j_sipush (v := 200) C dX11_init_258 (by decide) ?_
  refine j_row C hin (N := 200) (j := 29) fP_X11_97 hM hF hok.1 rfl (by decide) (by decide) (by decide) (Nat.le_of_ble_eq_true rfl) (Nat.le_of_ble_eq_true rfl) dX11_init_261 dX11_init_263 (fun ad hc hM hF => ?_)
  refine j_aload_n C dX11_init_266 rfl ?_
  refine j_sipush (v := 200) C dX11_init_267 (by decide) ?_
  refine j_row C hin (N := 200) (j := 30) fP_X11_100 hM hF hok.1 rfl (by decide) (by decide) (by decide) (Nat.le_of_ble_eq_true rfl) (Nat.le_of_ble_eq_true rfl) dX11_init_270 dX11_init_272 (fun ad hc hM hF => ?_)
  refine j_aload_n C dX11_init_275 rfl ?_
  refine j_sipush (v := 200) C dX11_init_276 (by decide) ?_
  refine j_row C hin (N := 200) (j := 31) fP_X11_103 hM hF hok.1 rfl (by decide) (by decide) (by decide) (Nat.le_of_ble_eq_true rfl) (Nat.le_of_ble_eq_true rfl) dX11_init_279 dX11_init_281 (fun ad hc hM hF => ?_)
  refine j_aload_n C dX11_init_284 rfl ?_
  refine j_sipush (v := 200) C dX11_init_285 (by decide) ?_
  refine j_row C hin (N := 200) (j := 32) fP_X11_106 hM hF hok.1 rfl (by decide) (by decide) (by decide) (Nat.le_of_ble_eq_true rfl) (Nat.le_of_ble_eq_true rfl) dX11_init_288 dX11_init_290 (fun ad hc hM hF => ?_)
  refine j_aload_n C dX11_init_293 rfl ?_
  refine j_iconst (v := 5) C dX11_init_294 (by decide) ?_
  refine j_row C hin (N := 5) (j := 33) fP_X11_109 hM hF hok.1 rfl (by decide) (by decide) (by decide) (Nat.le_of_ble_eq_true rfl) (Nat.le_of_ble_eq_true rfl) dX11_init_295 dX11_init_297 (fun ad hc hM hF => ?_)
  refine j_aload_n C dX11_init_300 rfl ?_
  refine j_sipush (v := 500) C dX11_init_301 (by decide) ?_
  refine j_row C hin (N := 500) (j := 34) fP_X11_112 hM hF hok.1 rfl (by decide) (by decide) (by decide) (Nat.le_of_ble_eq_true rfl) (Nat.le_of_ble_eq_true rfl) dX11_init_304 dX11_init_306 (fun ad hc hM hF => ?_)
  refine j_aload_n C dX11_init_309 rfl ?_
  refine j_sipush (v := 200) C dX11_init_310 (by decide) ?_
  refine j_row C hin (N := 200) (j := 35) fP_X11_115 hM hF hok.1 rfl (by decide) (by decide) (by decide) (Nat.le_of_ble_eq_true rfl) (Nat.le_of_ble_eq_true rfl) dX11_init_313 dX11_init_315 (fun ad hc hM hF => ?_)
  refine j_aload_n C dX11_init_318 rfl ?_
  refine j_sipush (v := 200) C dX11_init_319 (by decide) ?_
  refine j_row C hin (N := 200) (j := 36) fP_X11_118 hM hF hok.1 rfl (by decide) (by decide) (by decide) (Nat.le_of_ble_eq_true rfl) (Nat.le_of_ble_eq_true rfl) dX11_init_322 dX11_init_324 (fun ad hc hM hF => ?_)
  refine j_aload_n C dX11_init_327 rfl ?_
  refine j_sipush (v := 200) C dX11_init_328 (by decide) ?_
  refine j_row C hin (N := 200) (j := 37) fP_X11_121 hM hF hok.1 rfl (by decide) (by decide) (by decide) (Nat.le_of_ble_eq_true rfl) (Nat.le_of_ble_eq_true rfl) dX11_init_331 dX11_init_333 (fun ad hc hM hF => ?_)
  refine j_aload_n C dX11_init_336 rfl ?_
  refine j_iconst (v := 5) C dX11_init_337 (by decide) ?_
  refine j_row C hin (N := 5) (j := 38) fP_X11_124 hM hF hok.1 rfl (by decide) (by decide) (by decide) (Nat.le_of_ble_eq_true rfl) (Nat.le_of_ble_eq_true rfl) dX11_init_338 dX11_init_340 (fun ad hc hM hF => ?_)
  refine j_aload_n C dX11_init_343 rfl ?_
  refine j_iconst (v := 5) C dX11_init_344 (by decide) ?_
  refine j_row C hin (N := 5) (j := 39) fP_X11_127 hM hF hok.1 rfl (by decide) (by decide) (by decide) (Nat.le_of_ble_eq_true rfl) (Nat.le_of_ble_eq_true rfl) dX11_init_345 dX11_init_347 (fun ad hc hM hF => ?_)
  exact ret hc _ _ _ _ ⟨ad, ⟨hM.1, hM.2.1, fun k h1 h2 => ⟨(hM.2.2.1 k h1 (by omega)).1, (hM.2.2.1 k h1 (by omega)).2.1, (hM.2.2.1 k h1 (by omega)).2.2.1, (hM.2.2.1 k h1 (by omega)).2.2.2.1⟩, fun x y h1 h2 h3 h4 => hM.2.2.2 x y h1 (by omega) h3 (by omega)⟩, hF, fun k h1 h2 => (hM.2.2.1 k h1 (by omega)).2.2.2.2⟩ (Nat.le_of_ble_eq_true rfl) (Nat.le_of_ble_eq_true rfl) dX11_init_350
