/-! plans: ways as numbers, digit by digit; the first of the best -/
def dlt (mm : Nat) : Nat → Nat → Nat → Nat
  | 0, _, _ => 0
  | p + 1, V, i => if i = p then V % (mm + 1) else dlt mm p (V / (mm + 1)) i
def ctN (mm : Nat) : Nat → Nat → Nat
  | 0, _ => 0
  | p + 1, V => ctN mm p (V / (mm + 1)) + if V % (mm + 1) < mm then 1 else 0
def okD (mm : Nat) (fr : Nat → Nat → Prop) (cf : Nat → Nat → Nat → Nat → Prop) (d : Nat → Nat) (i : Nat) : Prop := d i = mm ∨ (fr i (d i) ∧ ∀ k, k < i → d k = mm ∨ ¬ cf k i (d k) (d i))
def gdN (mm : Nat) (fr : Nat → Nat → Prop) (cf : Nat → Nat → Nat → Nat → Prop) : Nat → Nat → Prop
  | 0, _ => True
  | p + 1, V => gdN mm fr cf p (V / (mm + 1)) ∧ okD mm fr cf (dlt mm (p + 1) V) p
def cdv (mm d : Nat) : Int32 := if d < mm then nI d else -1
section PLANP
variable {mm : Nat} {fr : Nat → Nat → Prop} {cf : Nat → Nat → Nat → Nat → Prop}
theorem dlt_le : ∀ (p V i : Nat), dlt mm p V i ≤ mm
  | 0, _, _ => Nat.zero_le _
  | p + 1, V, i => by
    unfold dlt
    have := Nat.mod_lt V (show mm + 1 > 0 by omega)
    split
    · omega
    · exact dlt_le p _ i
theorem dlt_s {p V i : Nat} (h : i ≠ p) : dlt mm (p + 1) V i = dlt mm p (V / (mm + 1)) i := if_neg h
theorem dlt_p {p V : Nat} : dlt mm (p + 1) V p = V % (mm + 1) := if_pos rfl
theorem okD_cg {d d' : Nat → Nat} {i : Nat} (h : ∀ k, k ≤ i → d k = d' k) : okD mm fr cf d i ↔ okD mm fr cf d' i := by
  unfold okD
  rw [h i (Nat.le_refl _)]
  constructor
  · exact fun z => z.imp id (fun w => ⟨w.1, fun k hk => by rw [← h k (by omega)]; exact w.2 k hk⟩)
  · exact fun z => z.imp id (fun w => ⟨w.1, fun k hk => by rw [h k (by omega)]; exact w.2 k hk⟩)
theorem gd_iff : ∀ (p V : Nat), gdN mm fr cf p V ↔ ∀ i, i < p → okD mm fr cf (dlt mm p V) i
  | 0, _ => ⟨fun _ i hi => absurd hi (Nat.not_lt_zero _), fun _ => trivial⟩
  | p + 1, V => by
    show gdN mm fr cf p (V / (mm + 1)) ∧ okD mm fr cf (dlt mm (p + 1) V) p ↔ _
    rw [gd_iff p (V / (mm + 1))]
    constructor
    · intro h i hi
      by_cases e : i = p
      · subst e; exact h.2
      · exact (okD_cg (fun k hk => dlt_s (by omega))).mpr (h.1 i (by omega))
    · intro h
      exact ⟨fun i hi => (okD_cg (fun k hk => dlt_s (by omega))).mp (h i (by omega)), h p (by omega)⟩
theorem gd_pre : ∀ (q p W : Nat), gdN mm fr cf (p + q) W → gdN mm fr cf p (W / (mm + 1) ^ q)
  | 0, p, W, h => by rw [Nat.pow_zero, Nat.div_one]; exact h
  | q + 1, p, W, h => by
    have h2 := gd_pre q p (W / (mm + 1)) h.1
    rw [Nat.div_div_eq_div_mul, Nat.mul_comm, ← Nat.pow_succ] at h2
    exact h2
theorem ct_le : ∀ (q p W : Nat), ctN mm (p + q) W ≤ ctN mm p (W / (mm + 1) ^ q) + q
  | 0, p, W => by rw [Nat.pow_zero, Nat.div_one]; exact Nat.le_refl _
  | q + 1, p, W => by
    have h2 := ct_le q p (W / (mm + 1))
    rw [Nat.div_div_eq_div_mul, Nat.mul_comm, ← Nat.pow_succ] at h2
    change _ ≤ ctN mm p (W / (mm + 1) ^ (q + 1)) + q at h2
    show ctN mm (p + q) (W / (mm + 1)) + (if W % (mm + 1) < mm then 1 else 0) ≤ _
    have : (if W % (mm + 1) < mm then 1 else 0) ≤ 1 := by split <;> omega
    omega
theorem ct_cap : ∀ (p V : Nat), ctN mm p V ≤ p
  | 0, _ => Nat.le_refl _
  | p + 1, V => by
    have h := ct_cap p (V / (mm + 1))
    show ctN mm p (V / (mm + 1)) + (if V % (mm + 1) < mm then 1 else 0) ≤ _
    split <;> omega
theorem pw_pos (p : Nat) : 0 < (mm + 1) ^ p := Nat.pow_pos (by omega)
theorem gd_all : ∀ p : Nat, gdN mm fr cf p ((mm + 1) ^ p - 1)
  | 0 => trivial
  | p + 1 => by
    have hp := pw_pos (mm := mm) p
    have e : (mm + 1) ^ (p + 1) - 1 = ((mm + 1) ^ p - 1) * (mm + 1) + mm := by
      rw [Nat.pow_succ, Nat.sub_mul]
      have : mm + 1 ≤ (mm + 1) ^ p * (mm + 1) := Nat.le_mul_of_pos_left _ hp
      omega
    have e1 : (((mm + 1) ^ p - 1) * (mm + 1) + mm) / (mm + 1) = (mm + 1) ^ p - 1 := by
      rw [Nat.add_comm, Nat.add_mul_div_right _ _ (by omega), Nat.div_eq_of_lt (by omega), Nat.zero_add]
    have e2 : (((mm + 1) ^ p - 1) * (mm + 1) + mm) % (mm + 1) = mm := by
      rw [Nat.add_comm, Nat.add_mul_mod_self_right, Nat.mod_eq_of_lt (by omega)]
    show gdN mm fr cf p (((mm + 1) ^ (p + 1) - 1) / (mm + 1)) ∧ okD mm fr cf (dlt mm (p + 1) ((mm + 1) ^ (p + 1) - 1)) p
    rw [e, e1]
    exact ⟨gd_all p, Or.inl (dlt_p.trans e2)⟩
end PLANP
/-- all ways below N have been looked at; b is 1 more than the most that go -/
def Res (mm : Nat) (fr : Nat → Nat → Prop) (cf : Nat → Nat → Nat → Nat → Prop) (nw N : Nat) (be : Nat → Int32) (b : Nat) : Prop := (∀ W, W < N → gdN mm fr cf nw W → ctN mm nw W + 1 ≤ b) ∧ (b = 0 ∨ ∃ W, W < N ∧ gdN mm fr cf nw W ∧ ctN mm nw W + 1 = b ∧ (∀ i, i < nw → be i = cdv mm (dlt mm nw W i)) ∧ ∀ W', W' < W → gdN mm fr cf nw W' → ctN mm nw W' + 1 < b)
section PLANR
variable {mm : Nat} {fr : Nat → Nat → Prop} {cf : Nat → Nat → Nat → Nat → Prop} {nw : Nat}
theorem Res.zero (be : Nat → Int32) : Res mm fr cf nw 0 be 0 := ⟨fun W h => absurd h (Nat.not_lt_zero _), Or.inl rfl⟩
theorem Res.skip {N N' b : Nat} {be : Nat → Int32} (r : Res mm fr cf nw N be b) (hN : N ≤ N') (h : ∀ W, N ≤ W → W < N' → gdN mm fr cf nw W → ctN mm nw W + 1 ≤ b) : Res mm fr cf nw N' be b := by
  refine ⟨fun W h1 h2 => ?_, r.2.imp id (fun ⟨W, h1, h2⟩ => ⟨W, by omega, h2⟩)⟩
  rcases Nat.lt_or_ge W N with c | c
  · exact r.1 W c h2
  · exact h W c h1 h2
theorem Res.take {N b : Nat} {be be' : Nat → Int32} (r : Res mm fr cf nw N be b) (g : gdN mm fr cf nw N) (hb : b < ctN mm nw N + 1) (hbe : ∀ i, i < nw → be' i = cdv mm (dlt mm nw N i)) : Res mm fr cf nw (N + 1) be' (ctN mm nw N + 1) := by
  refine ⟨fun W h1 h2 => ?_, Or.inr ⟨N, by omega, g, rfl, hbe, fun W' h1 h2 => ?_⟩⟩
  · rcases Nat.lt_or_ge W N with c | c
    · have := r.1 W c h2
      omega
    · rw [show W = N by omega]
      exact Nat.le_refl _
  · have := r.1 W' h1 h2
    omega
theorem Res.cg {N b : Nat} {be be' : Nat → Int32} (r : Res mm fr cf nw N be b) (h : ∀ i, i < nw → be' i = be i) : Res mm fr cf nw N be' b := ⟨r.1, r.2.imp id (fun ⟨W, h1, h2, h3, h4, h5⟩ => ⟨W, h1, h2, h3, fun i hi => (h i hi).trans (h4 i hi), h5⟩)⟩
theorem Res.uniq {N b b' : Nat} {be be' : Nat → Int32} (r : Res mm fr cf nw N be b) (r' : Res mm fr cf nw N be' b') (hex : ∃ W, W < N ∧ gdN mm fr cf nw W) : ∀ i, i < nw → be i = be' i := by
  obtain ⟨W0, w1, w2⟩ := hex
  have p1 := r.1 W0 w1 w2
  have p2 := r'.1 W0 w1 w2
  obtain ⟨W, h1, h2, h3, h4, h5⟩ := r.2.resolve_left (by omega)
  obtain ⟨W', g1, g2, g3, g4, g5⟩ := r'.2.resolve_left (by omega)
  have q1 := r'.1 W h1 h2
  have q2 := r.1 W' g1 g2
  have e : W = W' := by
    rcases Nat.lt_trichotomy W W' with c | c | c
    · have := g5 W c h2; omega
    · exact c
    · have := h5 W' c g2; omega
  subst e
  exact fun i hi => (h4 i hi).trans (g4 i hi).symm
end PLANR
/-! the reference's search -/
theorem digs_d {mm : Nat} : ∀ (j : Nat) (go : Nat → Int32) (lf c : Nat), (∀ i, i < j → (digs mm j go lf c).1 i = nI (dlt mm j lf i)) ∧ (∀ i, j ≤ i → (digs mm j go lf c).1 i = go i) ∧ (digs mm j go lf c).2 = c + ctN mm j lf
  | 0, go, lf, c => ⟨fun i hi => absurd hi (Nat.not_lt_zero _), fun _ _ => rfl, rfl⟩
  | j + 1, go, lf, c => by
    obtain ⟨h1, h2, h3⟩ := digs_d (mm := mm) j (upd go j (nI (lf % (mm + 1)))) (lf / (mm + 1)) (c + if lf % (mm + 1) < mm then 1 else 0)
    refine ⟨fun i hi => ?_, fun i hi => ?_, ?_⟩
    · show (digs mm j _ _ _).1 i = _
      by_cases e : i = j
      · subst e
        rw [h2 i (Nat.le_refl _), pk_us, dlt_p]
      · rw [h1 i (by omega), dlt_s e]
    · show (digs mm j _ _ _).1 i = _
      rw [h2 i (by omega), pk_un (by omega)]
    · show (digs mm j _ _ _).2 = _
      rw [h3]
      show _ = c + (ctN mm j (lf / (mm + 1)) + if lf % (mm + 1) < mm then 1 else 0)
      omega
theorem ffst_none {p : Nat → Bool} : ∀ (k i : Nat), i + k < 2 ^ 31 → (ffst p i k = -1 ↔ ∀ j, i ≤ j → j < i + k → ¬ p j = true)
  | 0, i, _ => ⟨fun _ j h1 h2 => absurd h2 (by omega), fun _ => rfl⟩
  | k + 1, i, hb => by
    show (if p i = true then nI i else ffst p (i + 1) k) = -1 ↔ _
    by_cases e : p i = true
    · rw [if_pos e]
      exact ⟨fun z => absurd z (nI_m1 (by omega)), fun z => absurd e (z i (Nat.le_refl _) (by omega))⟩
    · rw [if_neg e, ffst_none k (i + 1) (by omega)]
      constructor
      · intro h j h1 h2
        by_cases c : j = i
        · subst c; exact e
        · exact h j (by omega) (by omega)
      · exact fun h j h1 h2 => h j (by omega) (by omega)
/-- a field is free for a wanted lot; two don't go together -/
def frS (S : Nat → Nat → Int32) (yy nl ns nt : Nat) (i d : Nat) : Prop := freP S (S 22 (S 42 i).toNatClampNeg) (nI d) yy nl ns nt
def cfS (S : Nat → Nat → Int32) (far : Int32) (k i a b : Nat) : Prop := a = b ∨ (S 22 (S 42 k).toNatClampNeg = S 22 (S 42 i).toNatClampNeg ∧ ¬ far * far ≤ nearS S a b)
theorem good_iff {S : Nat → Nat → Int32} {go be : Nat → Int32} {yy nl ns nt nw mm W : Nat} (hmm : mm ≤ 6) (hnw : nw ≤ 5) (hgo : ∀ i, i < nw → go i = nI (dlt mm nw W i)) : goodP (W47 S go be) (nI mm) yy nl ns nt nw ↔ gdN mm (frS S yy nl ns nt) (cfS S (inForceS S 0 (nI yy + 1) (nI yy) nt)) nw W := by
  rw [gd_iff]
  have hd : ∀ i, dlt mm nw W i ≤ mm := fun i => dlt_le nw W i
  have hrow : ∀ i, i < nw → (¬ rowB (W47 S go be) (inForceS S 0 (nI yy + 1) (nI yy) nt) (nI mm) yy nl ns nt i = true ↔ okD mm (frS S yy nl ns nt) (cfS S (inForceS S 0 (nI yy + 1) (nI yy) nt)) (dlt mm nw W) i) := by
    intro i hi
    have hdi := hd i
    have e1 : rowB (W47 S go be) (inForceS S 0 (nI yy + 1) (nI yy) nt) (nI mm) yy nl ns nt i = decide (¬ go i = nI mm ∧ (¬ freP S (S 22 (S 42 i).toNatClampNeg) (go i) yy nl ns nt ∨ ¬ ffst (pairB (W47 S go be) (inForceS S 0 (nI yy + 1) (nI yy) nt) (nI mm) i) 0 i = -1)) := rfl
    have e2 : ∀ k, pairB (W47 S go be) (inForceS S 0 (nI yy + 1) (nI yy) nt) (nI mm) i k = decide (¬ nI mm ≤ go k ∧ (go k = go i ∨ (S 22 (S 42 k).toNatClampNeg = S 22 (S 42 i).toNatClampNeg ∧ ¬ inForceS S 0 (nI yy + 1) (nI yy) nt * inForceS S 0 (nI yy + 1) (nI yy) nt ≤ nearS S (go k).toNatClampNeg (go i).toNatClampNeg))) := fun k => rfl
    have hp : ∀ k, k < i → (¬ pairB (W47 S go be) (inForceS S 0 (nI yy + 1) (nI yy) nt) (nI mm) i k = true ↔ dlt mm nw W k = mm ∨ ¬ cfS S (inForceS S 0 (nI yy + 1) (nI yy) nt) k i (dlt mm nw W k) (dlt mm nw W i)) := by
      intro k hk
      have hdk := hd k
      rw [e2 k, decide_eq_true_iff, hgo k (by omega), hgo i hi, nI_clamp (by omega), nI_clamp (by omega), nI_leI (by omega) (by omega), nI_eq (by omega) (by omega)]
      unfold cfS
      constructor
      · intro h
        by_cases c : dlt mm nw W k = mm
        · exact Or.inl c
        · exact Or.inr (fun z => h ⟨by omega, z⟩)
      · rintro (h | h) z
        · omega
        · exact h z.2
    rw [e1, decide_eq_true_iff, ffst_none i 0 (by omega), hgo i hi, nI_eq (by omega) (by omega)]
    have hq : (∀ j, 0 ≤ j → j < 0 + i → ¬ pairB (W47 S go be) (inForceS S 0 (nI yy + 1) (nI yy) nt) (nI mm) i j = true) ↔ ∀ k, k < i → dlt mm nw W k = mm ∨ ¬ cfS S (inForceS S 0 (nI yy + 1) (nI yy) nt) k i (dlt mm nw W k) (dlt mm nw W i) := ⟨fun h k hk => (hp k hk).mp (h k (by omega) (by omega)), fun h j _ hj => (hp j (by omega)).mpr (h j (by omega))⟩
    rw [hq]
    unfold okD frS
    constructor
    · intro h
      by_cases c : dlt mm nw W i = mm
      · exact Or.inl c
      · refine Or.inr ⟨Classical.byContradiction fun z => h ⟨c, Or.inl z⟩, Classical.byContradiction fun z => h ⟨c, Or.inr z⟩⟩
    · rintro (h | h) z
      · exact z.1 h
      · exact z.2.elim (fun w => w h.1) (fun w => w h.2)
  show ffst (rowB (W47 S go be) (inForceS S 0 (nI yy + 1) (nI yy) nt) (nI mm) yy nl ns nt) 0 nw = -1 ↔ _
  rw [ffst_none nw 0 (by omega)]
  exact ⟨fun h i hi => (hrow i hi).mp (h i (by omega) (by omega)), fun h i _ hi => (hrow i (by omega)).mpr (h i (by omega))⟩
theorem best_at {go : Nat → Int32} {mm : Nat} : ∀ (k i : Nat) (be : Nat → Int32) (a : Nat), i ≤ a → a < i + k → flp (gBest go mm) i k be a = if nI mm ≤ go a then -1 else go a := by
  intro k
  induction k with
  | zero => intro i be a h1 h2; omega
  | succ k ih =>
    intro i be a h1 h2
    show flp (gBest go mm) (i + 1) k (gBest go mm i be) a = _
    by_cases e : a = i
    · subst e
      have st : ∀ (k i : Nat) (be : Nat → Int32), a < i → flp (gBest go mm) i k be a = be a := by
        intro k
        induction k with
        | zero => intro i be _; rfl
        | succ k ih =>
          intro i be h
          show flp (gBest go mm) (i + 1) k (gBest go mm i be) a = be a
          rw [ih (i + 1) _ (by omega)]
          exact pk_un (by omega)
      rw [st k (a + 1) _ (by omega)]
      exact pk_us
    · exact ih (i + 1) _ a (by omega) (by omega)
theorem nle_b {n b : Nat} (hn : n ≤ 100) (hb : b ≤ 100) : ¬ nI n ≤ nI b - 1 ↔ b < n + 1 := by
  have e1 : (nI b - nI 1).toInt = (b : Int) - (1 : Nat) := pk_sub_toInt (by omega) (by omega)
  have e2 : (nI b - 1 : Int32) = nI b - nI 1 := rfl
  rw [Int32.le_iff_toInt_le, e2, e1, nI_toInt (by omega)]
  omega
theorem plan_res {S : Nat → Nat → Int32} {yy nl ns nt nw mm : Nat} (hmm : mm ≤ 6) (hnw : nw ≤ 5) : ∀ n, ∃ b, b ≤ nw + 1 ∧ (flp (gWay S yy nl ns nt nw mm) 0 n (S 47, S 48, -1)).2.2 = nI b - 1 ∧ Res mm (frS S yy nl ns nt) (cfS S (inForceS S 0 (nI yy + 1) (nI yy) nt)) nw n (flp (gWay S yy nl ns nt nw mm) 0 n (S 47, S 48, -1)).2.1 b
  | 0 => ⟨0, by omega, show (-1 : Int32) = nI 0 - 1 by decide, Res.zero _⟩
  | n + 1 => by
    obtain ⟨b, h1, h2, h3⟩ := plan_res (S := S) (yy := yy) (nl := nl) (ns := ns) (nt := nt) hmm hnw n
    rw [flp_last, Nat.zero_add]
    generalize flp (gWay S yy nl ns nt nw mm) 0 n (S 47, S 48, -1) = p at h2 h3 ⊢
    obtain ⟨d1, d2, d3⟩ := digs_d (mm := mm) nw p.1 n 0
    rw [Nat.zero_add] at d3
    have hc := ct_cap (mm := mm) nw n
    have hg := good_iff (S := S) (be := p.2.1) (yy := yy) (nl := nl) (ns := ns) (nt := nt) hmm hnw d1
    unfold gWay
    by_cases c : ¬ nI (digs mm nw p.1 n 0).2 ≤ p.2.2 ∧ goodP (W47 S (digs mm nw p.1 n 0).1 p.2.1) (nI mm) yy nl ns nt nw
    · rw [if_pos c]
      have c1 := c.1
      rw [d3, h2, nle_b (by omega) (by omega)] at c1
      refine ⟨ctN mm nw n + 1, by omega, ?_, h3.take (hg.mp c.2) c1 (fun i hi => ?_)⟩
      · show nI (digs mm nw p.1 n 0).2 = _
        rw [d3, nI_pred]
      · show flp (gBest (digs mm nw p.1 n 0).1 mm) 0 nw p.2.1 i = _
        have hd := dlt_le (mm := mm) nw n i
        rw [best_at nw 0 _ i (Nat.zero_le _) (by omega), d1 i hi]
        unfold cdv
        by_cases e : dlt mm nw n i < mm
        · rw [if_neg (nI_ge e (by omega)), if_pos e]
        · rw [if_pos (nI_le (by omega) (by omega)), if_neg e]
    · rw [if_neg c]
      refine ⟨b, h1, h2, h3.skip (by omega) (fun W w1 w2 w3 => ?_)⟩
      obtain rfl : W = n := by omega
      have c1 : ¬ ¬ nI (digs mm nw p.1 W 0).2 ≤ p.2.2 := fun z => c ⟨z, hg.mpr w3⟩
      rw [d3, h2, nle_b (by omega) (by omega)] at c1
      omega
/-- what the class finds is what the reference finds -/
theorem plan_eq {S : Nat → Nat → Int32} {yy nl ns nt nw mm b : Nat} (hmm : mm ≤ 6) (hnw : nw ≤ 5) {be : Nat → Int32} (r : Res mm (frS S yy nl ns nt) (cfS S (inForceS S 0 (nI yy + 1) (nI yy) nt)) nw ((mm + 1) ^ nw) be b) {i : Nat} (hi : i < nw) : be i = (planZ S yy nl ns nt nw mm).2.1 i := by
  obtain ⟨b', _, _, r'⟩ := plan_res (S := S) (yy := yy) (nl := nl) (ns := ns) (nt := nt) hmm hnw ((mm + 1) ^ nw)
  exact r.uniq r' ⟨(mm + 1) ^ nw - 1, by have := pw_pos (mm := mm) nw; omega, gd_all nw⟩ i hi
/-! masks of six -/
theorem mk_or : ∀ m : Fin 64, ∀ f : Fin 6, nI m.val ||| ((1 : Int32) <<< (nI f.val &&& 31)) = nI (m.val ||| 2 ^ f.val) := by decide +kernel
theorem mk_lt : ∀ m : Fin 64, ∀ f : Fin 6, m.val ||| 2 ^ f.val < 64 := by decide +kernel
theorem mk_bit : ∀ m : Fin 64, ∀ f : Fin 6, ((nI m.val >>> (nI f.val &&& 31)) &&& 1 = 0) ↔ m.val.testBit f.val = false := by decide +kernel
/-- v is a mask of six bits that say p, up to n -/
def mkP (v : Int32) (p : Nat → Prop) (n : Nat) : Prop := ∃ m, m < 64 ∧ v = nI m ∧ ∀ g, g < 6 → (m.testBit g = true ↔ g < n ∧ p g)
theorem mkP.z (p : Nat → Prop) : mkP 0 p 0 := ⟨0, by decide, rfl, fun g _ => ⟨(fun z => by rw [Nat.zero_testBit] at z; cases z), (fun z => absurd z.1 (Nat.not_lt_zero _))⟩⟩
theorem mkP.skip {v : Int32} {p : Nat → Prop} {n : Nat} (h : mkP v p n) (hp : ¬ p n) : mkP v p (n + 1) := by
  obtain ⟨m, h1, h2, h3⟩ := h
  refine ⟨m, h1, h2, fun g hg => (h3 g hg).trans ⟨fun z => ⟨by omega, z.2⟩, fun z => ⟨?_, z.2⟩⟩⟩
  rcases Nat.lt_or_ge g n with c | c
  · exact c
  · exact absurd (show p n from (show g = n by omega) ▸ z.2) hp
theorem mkP.set {v : Int32} {p : Nat → Prop} {n : Nat} (h : mkP v p n) (hn : n < 6) (hp : p n) : mkP (v ||| ((1 : Int32) <<< (nI n &&& 31))) p (n + 1) := by
  obtain ⟨m, h1, h2, h3⟩ := h
  refine ⟨m ||| 2 ^ n, mk_lt ⟨m, h1⟩ ⟨n, hn⟩, by rw [h2]; exact mk_or ⟨m, h1⟩ ⟨n, hn⟩, fun g hg => ?_⟩
  rw [Nat.testBit_or, Nat.testBit_two_pow, Bool.or_eq_true, h3 g hg, decide_eq_true_iff]
  constructor
  · rintro (z | z)
    · exact ⟨by omega, z.2⟩
    · subst z; exact ⟨by omega, hp⟩
  · intro z
    by_cases e : n = g
    · exact Or.inr e
    · exact Or.inl ⟨by omega, z.2⟩
theorem mkP.bit {v : Int32} {p : Nat → Prop} {f : Nat} (h : mkP v p 6) (hf : f < 6) : ((v >>> (nI f &&& 31)) &&& 1 = 0) ↔ ¬ p f := by
  obtain ⟨m, h1, h2, h3⟩ := h
  rw [h2, mk_bit ⟨m, h1⟩ ⟨f, hf⟩]
  show m.testBit f = false ↔ _
  rw [Bool.eq_false_iff, Ne, h3 f hf]
  exact ⟨fun z w => z ⟨hf, w⟩, fun z w => z w.2⟩
