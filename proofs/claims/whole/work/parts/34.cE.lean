theorem chn_cg {h h' : jH} {k f : Nat} (hl : h_L h' = h_L h) (hk : ∀ a, h_K h' a = h_K h a) (hr : ∀ a, h_R h' f a = h_R h f a) : ∀ (as : List Nat) (r : Option Nat), chn h k f r as → chn h' k f r as
  | [], _, c => c
  | a :: as, r, c => by
    obtain ⟨c1, c2, c3⟩ := c
    refine ⟨c1, ⟨by rw [hl]; exact c2.1, by rw [hk]; exact c2.2⟩, ?_⟩
    rw [hr]
    exact chn_cg hl hk hr as _ c3
theorem zT_cg {h h' : jH} {S S' : Nat → Nat → Int32} (h1 : ∀ a, h_I h' 577 a = h_I h 577 a) (h2 : ∀ a, h_I h' 578 a = h_I h 578 a) (s1 : ∀ a, S' 16 a = S 16 a) (s2 : ∀ a, S' 15 a = S 15 a) : ∀ (as ks : List Nat), zT h S as ks → zT h' S' as ks
  | [], [], c => c
  | a :: as, k :: ks, c => ⟨(h1 a).trans (c.1.trans (s1 k).symm), (h2 a).trans (c.2.1.trans (s2 k).symm), zT_cg h1 h2 s1 s2 as ks c.2.2⟩
  | [], _ :: _, c => c
  | _ :: _, [], c => c
theorem zS_cg {h h' : jH} {S S' : Nat → Nat → Int32} (h1 : ∀ a, h_I h' 513 a = h_I h 513 a) (h2 : ∀ a, h_I h' 514 a = h_I h 514 a) (h3 : ∀ a, h_I h' 515 a = h_I h 515 a) (s1 : ∀ a, S' 20 a = S 20 a) (s2 : ∀ a, S' 18 a = S 18 a) (s3 : ∀ a, S' 19 a = S 19 a) : ∀ (as ks : List Nat), zS h S as ks → zS h' S' as ks
  | [], [], c => c
  | a :: as, k :: ks, c => ⟨(h1 a).trans (c.1.trans (s1 k).symm), (h2 a).trans (c.2.1.trans (s2 k).symm), (h3 a).trans (c.2.2.1.trans (s3 k).symm), zS_cg h1 h2 h3 s1 s2 s3 as ks c.2.2.2⟩
  | [], _ :: _, c => c
  | _ :: _, [], c => c
theorem sumR_cg {S S' : Nat → Nat → Int32} {r : Nat} (s : ∀ a, S' r a = S r a) : ∀ ks : List Nat, sumR S' r ks = sumR S r ks
  | [] => rfl
  | k :: ks => by
    show sumR S' r ks + S' r k = sumR S r ks + S r k
    rw [s, sumR_cg s ks]
theorem zK_cg {h h' : jH} {S S' : Nat → Nat → Int32} (h1 : ∀ a, h_I h' 321 a = h_I h 321 a) (h2 : ∀ a, h_I h' 322 a = h_I h 322 a) (h3 : ∀ a, h_I h' 323 a = h_I h 323 a) (h4 : ∀ a, h_I h' 324 a = h_I h 324 a) (s1 : ∀ a, S' 37 a = S 37 a) (s2 : ∀ a, S' 35 a = S 35 a) (s3 : ∀ a, S' 36 a = S 36 a) : ∀ (as ks : List Nat), zK h S as ks → zK h' S' as ks
  | [], [], c => c
  | a :: as, k :: ks, c => ⟨(h1 a).trans (c.1.trans (s1 k).symm), (h2 a).trans c.2.1, (h3 a).trans (c.2.2.1.trans (sumR_cg s2 (k :: ks)).symm), (h4 a).trans (c.2.2.2.1.trans (sumR_cg s3 (k :: ks)).symm), zK_cg h1 h2 h3 h4 s1 s2 s3 as ks c.2.2.2.2⟩
  | [], _ :: _, c => c
  | _ :: _, [], c => c
theorem dsc_cg {p p' : Nat → Bool} (h : ∀ k, p' k = p k) (n : Nat) : dsc p' n = dsc p n := by rw [show p' = p from funext h]
theorem ffst_cg {p p' : Nat → Bool} (h : ∀ k, p' k = p k) (i n : Nat) : ffst p' i n = ffst p i n := by rw [show p' = p from funext h]
theorem CP.lot391 {h : jH} {S : Nat → Nat → Int32} {P : Nat → Nat → Nat} {T : Nat → Nat → Nat → List Nat} {nf nl nb ns nt nk nw : Nat} {j : Nat} {v : Int32} (c : CP h S P T nf nl nb ns nt nk nw) (hj : j < nl) : CP (s_I h 391 (P 1 j) v) (u2 S 23 j v) P T nf nl nb ns nt nk nw := by
  obtain ⟨c1, c2, c3, c4, c5, c6, c7, c8⟩ := c
  refine ⟨c1, c2, fun f hf => ⟨(c3 f hf).1, (c3 f hf).2.1, (c3 f hf).2.2.1, (c3 f hf).2.2.2.1, fun y hy => ⟨((c3 f hf).2.2.2.2 y hy).1, chn_cg (h := h) (h' := s_I h 391 (P 1 j) v) rfl (fun _ => rfl) (fun _ => rfl) _ _ ((c3 f hf).2.2.2.2 y hy).2.1, zT_cg (h := h) (h' := s_I h 391 (P 1 j) v) (S := S) (S' := u2 S 23 j v) (fun _ => rfl) (fun _ => rfl) (fun _ => rfl) (fun _ => rfl) _ _ ((c3 f hf).2.2.2.2 y hy).2.2⟩⟩, fun a ha => ?_, c5, fun kd hk => ⟨chn_cg (h := h) (h' := s_I h 391 (P 1 j) v) rfl (fun _ => rfl) (fun _ => rfl) _ _ (c6 kd hk).1, zS_cg (h := h) (h' := s_I h 391 (P 1 j) v) (S := S) (S' := u2 S 23 j v) (fun _ => rfl) (fun _ => rfl) (fun _ => rfl) (fun _ => rfl) (fun _ => rfl) (fun _ => rfl) _ _ (c6 kd hk).2⟩, c7, c8⟩
  have hm : h_I (s_I h 391 (P 1 j) v) 391 (P 1 a) = u2 S 23 j v 23 a := by
    show (if 391 = 391 then (if P 1 a = P 1 j then v else h_I h 391 (P 1 a)) else h_I h 391 (P 1 a)) = (if 23 = 23 then (if a = j then v else S 23 a) else S 23 a)
    rw [if_pos rfl, if_pos rfl]
    by_cases e : a = j
    · rw [if_pos e, if_pos (by rw [e])]
    · rw [if_neg e, if_neg (fun z => e (c8.2.1 a j ha hj z))]
      exact (c4 a ha).2.2.2.1.1
  exact ⟨(c4 a ha).1, (c4 a ha).2.1, (c4 a ha).2.2.1, ⟨hm, (c4 a ha).2.2.2.1.2.1, (c4 a ha).2.2.2.1.2.2.1, (c4 a ha).2.2.2.1.2.2.2.1, (c4 a ha).2.2.2.1.2.2.2.2.1, (c4 a ha).2.2.2.1.2.2.2.2.2.1, (c4 a ha).2.2.2.1.2.2.2.2.2.2⟩, chn_cg (h := h) (h' := s_I h 391 (P 1 j) v) rfl (fun _ => rfl) (fun _ => rfl) _ _ (c4 a ha).2.2.2.2.1, zK_cg (h := h) (h' := s_I h 391 (P 1 j) v) (S := S) (S' := u2 S 23 j v) (fun _ => rfl) (fun _ => rfl) (fun _ => rfl) (fun _ => rfl) (fun _ => rfl) (fun _ => rfl) (fun _ => rfl) _ _ (c4 a ha).2.2.2.2.2⟩
theorem CP.lot392 {h : jH} {S : Nat → Nat → Int32} {P : Nat → Nat → Nat} {T : Nat → Nat → Nat → List Nat} {nf nl nb ns nt nk nw : Nat} {j : Nat} {v : Int32} (c : CP h S P T nf nl nb ns nt nk nw) (hj : j < nl) : CP (s_I h 392 (P 1 j) v) (u2 S 28 j v) P T nf nl nb ns nt nk nw := by
  obtain ⟨c1, c2, c3, c4, c5, c6, c7, c8⟩ := c
  refine ⟨c1, c2, fun f hf => ⟨(c3 f hf).1, (c3 f hf).2.1, (c3 f hf).2.2.1, (c3 f hf).2.2.2.1, fun y hy => ⟨((c3 f hf).2.2.2.2 y hy).1, chn_cg (h := h) (h' := s_I h 392 (P 1 j) v) rfl (fun _ => rfl) (fun _ => rfl) _ _ ((c3 f hf).2.2.2.2 y hy).2.1, zT_cg (h := h) (h' := s_I h 392 (P 1 j) v) (S := S) (S' := u2 S 28 j v) (fun _ => rfl) (fun _ => rfl) (fun _ => rfl) (fun _ => rfl) _ _ ((c3 f hf).2.2.2.2 y hy).2.2⟩⟩, fun a ha => ?_, c5, fun kd hk => ⟨chn_cg (h := h) (h' := s_I h 392 (P 1 j) v) rfl (fun _ => rfl) (fun _ => rfl) _ _ (c6 kd hk).1, zS_cg (h := h) (h' := s_I h 392 (P 1 j) v) (S := S) (S' := u2 S 28 j v) (fun _ => rfl) (fun _ => rfl) (fun _ => rfl) (fun _ => rfl) (fun _ => rfl) (fun _ => rfl) _ _ (c6 kd hk).2⟩, c7, c8⟩
  have hm : h_I (s_I h 392 (P 1 j) v) 392 (P 1 a) = u2 S 28 j v 28 a := by
    show (if 392 = 392 then (if P 1 a = P 1 j then v else h_I h 392 (P 1 a)) else h_I h 392 (P 1 a)) = (if 28 = 28 then (if a = j then v else S 28 a) else S 28 a)
    rw [if_pos rfl, if_pos rfl]
    by_cases e : a = j
    · rw [if_pos e, if_pos (by rw [e])]
    · rw [if_neg e, if_neg (fun z => e (c8.2.1 a j ha hj z))]
      exact (c4 a ha).2.2.2.1.2.1
  exact ⟨(c4 a ha).1, (c4 a ha).2.1, (c4 a ha).2.2.1, ⟨(c4 a ha).2.2.2.1.1, hm, (c4 a ha).2.2.2.1.2.2.1, (c4 a ha).2.2.2.1.2.2.2.1, (c4 a ha).2.2.2.1.2.2.2.2.1, (c4 a ha).2.2.2.1.2.2.2.2.2.1, (c4 a ha).2.2.2.1.2.2.2.2.2.2⟩, chn_cg (h := h) (h' := s_I h 392 (P 1 j) v) rfl (fun _ => rfl) (fun _ => rfl) _ _ (c4 a ha).2.2.2.2.1, zK_cg (h := h) (h' := s_I h 392 (P 1 j) v) (S := S) (S' := u2 S 28 j v) (fun _ => rfl) (fun _ => rfl) (fun _ => rfl) (fun _ => rfl) (fun _ => rfl) (fun _ => rfl) (fun _ => rfl) _ _ (c4 a ha).2.2.2.2.2⟩
theorem CP.lot393 {h : jH} {S : Nat → Nat → Int32} {P : Nat → Nat → Nat} {T : Nat → Nat → Nat → List Nat} {nf nl nb ns nt nk nw : Nat} {j : Nat} {v : Int32} (c : CP h S P T nf nl nb ns nt nk nw) (hj : j < nl) : CP (s_I h 393 (P 1 j) v) (u2 S 29 j v) P T nf nl nb ns nt nk nw := by
  obtain ⟨c1, c2, c3, c4, c5, c6, c7, c8⟩ := c
  refine ⟨c1, c2, fun f hf => ⟨(c3 f hf).1, (c3 f hf).2.1, (c3 f hf).2.2.1, (c3 f hf).2.2.2.1, fun y hy => ⟨((c3 f hf).2.2.2.2 y hy).1, chn_cg (h := h) (h' := s_I h 393 (P 1 j) v) rfl (fun _ => rfl) (fun _ => rfl) _ _ ((c3 f hf).2.2.2.2 y hy).2.1, zT_cg (h := h) (h' := s_I h 393 (P 1 j) v) (S := S) (S' := u2 S 29 j v) (fun _ => rfl) (fun _ => rfl) (fun _ => rfl) (fun _ => rfl) _ _ ((c3 f hf).2.2.2.2 y hy).2.2⟩⟩, fun a ha => ?_, c5, fun kd hk => ⟨chn_cg (h := h) (h' := s_I h 393 (P 1 j) v) rfl (fun _ => rfl) (fun _ => rfl) _ _ (c6 kd hk).1, zS_cg (h := h) (h' := s_I h 393 (P 1 j) v) (S := S) (S' := u2 S 29 j v) (fun _ => rfl) (fun _ => rfl) (fun _ => rfl) (fun _ => rfl) (fun _ => rfl) (fun _ => rfl) _ _ (c6 kd hk).2⟩, c7, c8⟩
  have hm : h_I (s_I h 393 (P 1 j) v) 393 (P 1 a) = u2 S 29 j v 29 a := by
    show (if 393 = 393 then (if P 1 a = P 1 j then v else h_I h 393 (P 1 a)) else h_I h 393 (P 1 a)) = (if 29 = 29 then (if a = j then v else S 29 a) else S 29 a)
    rw [if_pos rfl, if_pos rfl]
    by_cases e : a = j
    · rw [if_pos e, if_pos (by rw [e])]
    · rw [if_neg e, if_neg (fun z => e (c8.2.1 a j ha hj z))]
      exact (c4 a ha).2.2.2.1.2.2.1
  exact ⟨(c4 a ha).1, (c4 a ha).2.1, (c4 a ha).2.2.1, ⟨(c4 a ha).2.2.2.1.1, (c4 a ha).2.2.2.1.2.1, hm, (c4 a ha).2.2.2.1.2.2.2.1, (c4 a ha).2.2.2.1.2.2.2.2.1, (c4 a ha).2.2.2.1.2.2.2.2.2.1, (c4 a ha).2.2.2.1.2.2.2.2.2.2⟩, chn_cg (h := h) (h' := s_I h 393 (P 1 j) v) rfl (fun _ => rfl) (fun _ => rfl) _ _ (c4 a ha).2.2.2.2.1, zK_cg (h := h) (h' := s_I h 393 (P 1 j) v) (S := S) (S' := u2 S 29 j v) (fun _ => rfl) (fun _ => rfl) (fun _ => rfl) (fun _ => rfl) (fun _ => rfl) (fun _ => rfl) (fun _ => rfl) _ _ (c4 a ha).2.2.2.2.2⟩
theorem CP.lot394 {h : jH} {S : Nat → Nat → Int32} {P : Nat → Nat → Nat} {T : Nat → Nat → Nat → List Nat} {nf nl nb ns nt nk nw : Nat} {j : Nat} {v : Int32} (c : CP h S P T nf nl nb ns nt nk nw) (hj : j < nl) : CP (s_I h 394 (P 1 j) v) (u2 S 30 j v) P T nf nl nb ns nt nk nw := by
  obtain ⟨c1, c2, c3, c4, c5, c6, c7, c8⟩ := c
  refine ⟨c1, c2, fun f hf => ⟨(c3 f hf).1, (c3 f hf).2.1, (c3 f hf).2.2.1, (c3 f hf).2.2.2.1, fun y hy => ⟨((c3 f hf).2.2.2.2 y hy).1, chn_cg (h := h) (h' := s_I h 394 (P 1 j) v) rfl (fun _ => rfl) (fun _ => rfl) _ _ ((c3 f hf).2.2.2.2 y hy).2.1, zT_cg (h := h) (h' := s_I h 394 (P 1 j) v) (S := S) (S' := u2 S 30 j v) (fun _ => rfl) (fun _ => rfl) (fun _ => rfl) (fun _ => rfl) _ _ ((c3 f hf).2.2.2.2 y hy).2.2⟩⟩, fun a ha => ?_, c5, fun kd hk => ⟨chn_cg (h := h) (h' := s_I h 394 (P 1 j) v) rfl (fun _ => rfl) (fun _ => rfl) _ _ (c6 kd hk).1, zS_cg (h := h) (h' := s_I h 394 (P 1 j) v) (S := S) (S' := u2 S 30 j v) (fun _ => rfl) (fun _ => rfl) (fun _ => rfl) (fun _ => rfl) (fun _ => rfl) (fun _ => rfl) _ _ (c6 kd hk).2⟩, c7, c8⟩
  have hm : h_I (s_I h 394 (P 1 j) v) 394 (P 1 a) = u2 S 30 j v 30 a := by
    show (if 394 = 394 then (if P 1 a = P 1 j then v else h_I h 394 (P 1 a)) else h_I h 394 (P 1 a)) = (if 30 = 30 then (if a = j then v else S 30 a) else S 30 a)
    rw [if_pos rfl, if_pos rfl]
    by_cases e : a = j
    · rw [if_pos e, if_pos (by rw [e])]
    · rw [if_neg e, if_neg (fun z => e (c8.2.1 a j ha hj z))]
      exact (c4 a ha).2.2.2.1.2.2.2.1
  exact ⟨(c4 a ha).1, (c4 a ha).2.1, (c4 a ha).2.2.1, ⟨(c4 a ha).2.2.2.1.1, (c4 a ha).2.2.2.1.2.1, (c4 a ha).2.2.2.1.2.2.1, hm, (c4 a ha).2.2.2.1.2.2.2.2.1, (c4 a ha).2.2.2.1.2.2.2.2.2.1, (c4 a ha).2.2.2.1.2.2.2.2.2.2⟩, chn_cg (h := h) (h' := s_I h 394 (P 1 j) v) rfl (fun _ => rfl) (fun _ => rfl) _ _ (c4 a ha).2.2.2.2.1, zK_cg (h := h) (h' := s_I h 394 (P 1 j) v) (S := S) (S' := u2 S 30 j v) (fun _ => rfl) (fun _ => rfl) (fun _ => rfl) (fun _ => rfl) (fun _ => rfl) (fun _ => rfl) (fun _ => rfl) _ _ (c4 a ha).2.2.2.2.2⟩
theorem CP.lot395 {h : jH} {S : Nat → Nat → Int32} {P : Nat → Nat → Nat} {T : Nat → Nat → Nat → List Nat} {nf nl nb ns nt nk nw : Nat} {j : Nat} {v : Int32} (c : CP h S P T nf nl nb ns nt nk nw) (hj : j < nl) : CP (s_I h 395 (P 1 j) v) (u2 S 31 j v) P T nf nl nb ns nt nk nw := by
  obtain ⟨c1, c2, c3, c4, c5, c6, c7, c8⟩ := c
  refine ⟨c1, c2, fun f hf => ⟨(c3 f hf).1, (c3 f hf).2.1, (c3 f hf).2.2.1, (c3 f hf).2.2.2.1, fun y hy => ⟨((c3 f hf).2.2.2.2 y hy).1, chn_cg (h := h) (h' := s_I h 395 (P 1 j) v) rfl (fun _ => rfl) (fun _ => rfl) _ _ ((c3 f hf).2.2.2.2 y hy).2.1, zT_cg (h := h) (h' := s_I h 395 (P 1 j) v) (S := S) (S' := u2 S 31 j v) (fun _ => rfl) (fun _ => rfl) (fun _ => rfl) (fun _ => rfl) _ _ ((c3 f hf).2.2.2.2 y hy).2.2⟩⟩, fun a ha => ?_, c5, fun kd hk => ⟨chn_cg (h := h) (h' := s_I h 395 (P 1 j) v) rfl (fun _ => rfl) (fun _ => rfl) _ _ (c6 kd hk).1, zS_cg (h := h) (h' := s_I h 395 (P 1 j) v) (S := S) (S' := u2 S 31 j v) (fun _ => rfl) (fun _ => rfl) (fun _ => rfl) (fun _ => rfl) (fun _ => rfl) (fun _ => rfl) _ _ (c6 kd hk).2⟩, c7, c8⟩
  have hm : h_I (s_I h 395 (P 1 j) v) 395 (P 1 a) = u2 S 31 j v 31 a := by
    show (if 395 = 395 then (if P 1 a = P 1 j then v else h_I h 395 (P 1 a)) else h_I h 395 (P 1 a)) = (if 31 = 31 then (if a = j then v else S 31 a) else S 31 a)
    rw [if_pos rfl, if_pos rfl]
    by_cases e : a = j
    · rw [if_pos e, if_pos (by rw [e])]
    · rw [if_neg e, if_neg (fun z => e (c8.2.1 a j ha hj z))]
      exact (c4 a ha).2.2.2.1.2.2.2.2.1
  exact ⟨(c4 a ha).1, (c4 a ha).2.1, (c4 a ha).2.2.1, ⟨(c4 a ha).2.2.2.1.1, (c4 a ha).2.2.2.1.2.1, (c4 a ha).2.2.2.1.2.2.1, (c4 a ha).2.2.2.1.2.2.2.1, hm, (c4 a ha).2.2.2.1.2.2.2.2.2.1, (c4 a ha).2.2.2.1.2.2.2.2.2.2⟩, chn_cg (h := h) (h' := s_I h 395 (P 1 j) v) rfl (fun _ => rfl) (fun _ => rfl) _ _ (c4 a ha).2.2.2.2.1, zK_cg (h := h) (h' := s_I h 395 (P 1 j) v) (S := S) (S' := u2 S 31 j v) (fun _ => rfl) (fun _ => rfl) (fun _ => rfl) (fun _ => rfl) (fun _ => rfl) (fun _ => rfl) (fun _ => rfl) _ _ (c4 a ha).2.2.2.2.2⟩
theorem CP.lot396 {h : jH} {S : Nat → Nat → Int32} {P : Nat → Nat → Nat} {T : Nat → Nat → Nat → List Nat} {nf nl nb ns nt nk nw : Nat} {j : Nat} {v : Int32} (c : CP h S P T nf nl nb ns nt nk nw) (hj : j < nl) : CP (s_I h 396 (P 1 j) v) (u2 S 32 j v) P T nf nl nb ns nt nk nw := by
  obtain ⟨c1, c2, c3, c4, c5, c6, c7, c8⟩ := c
  refine ⟨c1, c2, fun f hf => ⟨(c3 f hf).1, (c3 f hf).2.1, (c3 f hf).2.2.1, (c3 f hf).2.2.2.1, fun y hy => ⟨((c3 f hf).2.2.2.2 y hy).1, chn_cg (h := h) (h' := s_I h 396 (P 1 j) v) rfl (fun _ => rfl) (fun _ => rfl) _ _ ((c3 f hf).2.2.2.2 y hy).2.1, zT_cg (h := h) (h' := s_I h 396 (P 1 j) v) (S := S) (S' := u2 S 32 j v) (fun _ => rfl) (fun _ => rfl) (fun _ => rfl) (fun _ => rfl) _ _ ((c3 f hf).2.2.2.2 y hy).2.2⟩⟩, fun a ha => ?_, c5, fun kd hk => ⟨chn_cg (h := h) (h' := s_I h 396 (P 1 j) v) rfl (fun _ => rfl) (fun _ => rfl) _ _ (c6 kd hk).1, zS_cg (h := h) (h' := s_I h 396 (P 1 j) v) (S := S) (S' := u2 S 32 j v) (fun _ => rfl) (fun _ => rfl) (fun _ => rfl) (fun _ => rfl) (fun _ => rfl) (fun _ => rfl) _ _ (c6 kd hk).2⟩, c7, c8⟩
  have hm : h_I (s_I h 396 (P 1 j) v) 396 (P 1 a) = u2 S 32 j v 32 a := by
    show (if 396 = 396 then (if P 1 a = P 1 j then v else h_I h 396 (P 1 a)) else h_I h 396 (P 1 a)) = (if 32 = 32 then (if a = j then v else S 32 a) else S 32 a)
    rw [if_pos rfl, if_pos rfl]
    by_cases e : a = j
    · rw [if_pos e, if_pos (by rw [e])]
    · rw [if_neg e, if_neg (fun z => e (c8.2.1 a j ha hj z))]
      exact (c4 a ha).2.2.2.1.2.2.2.2.2.1
  exact ⟨(c4 a ha).1, (c4 a ha).2.1, (c4 a ha).2.2.1, ⟨(c4 a ha).2.2.2.1.1, (c4 a ha).2.2.2.1.2.1, (c4 a ha).2.2.2.1.2.2.1, (c4 a ha).2.2.2.1.2.2.2.1, (c4 a ha).2.2.2.1.2.2.2.2.1, hm, (c4 a ha).2.2.2.1.2.2.2.2.2.2⟩, chn_cg (h := h) (h' := s_I h 396 (P 1 j) v) rfl (fun _ => rfl) (fun _ => rfl) _ _ (c4 a ha).2.2.2.2.1, zK_cg (h := h) (h' := s_I h 396 (P 1 j) v) (S := S) (S' := u2 S 32 j v) (fun _ => rfl) (fun _ => rfl) (fun _ => rfl) (fun _ => rfl) (fun _ => rfl) (fun _ => rfl) (fun _ => rfl) _ _ (c4 a ha).2.2.2.2.2⟩
theorem CP.lot398 {h : jH} {S : Nat → Nat → Int32} {P : Nat → Nat → Nat} {T : Nat → Nat → Nat → List Nat} {nf nl nb ns nt nk nw : Nat} {j : Nat} {v : Int32} (c : CP h S P T nf nl nb ns nt nk nw) (hj : j < nl) : CP (s_I h 398 (P 1 j) v) (u2 S 33 j v) P T nf nl nb ns nt nk nw := by
  obtain ⟨c1, c2, c3, c4, c5, c6, c7, c8⟩ := c
  refine ⟨c1, c2, fun f hf => ⟨(c3 f hf).1, (c3 f hf).2.1, (c3 f hf).2.2.1, (c3 f hf).2.2.2.1, fun y hy => ⟨((c3 f hf).2.2.2.2 y hy).1, chn_cg (h := h) (h' := s_I h 398 (P 1 j) v) rfl (fun _ => rfl) (fun _ => rfl) _ _ ((c3 f hf).2.2.2.2 y hy).2.1, zT_cg (h := h) (h' := s_I h 398 (P 1 j) v) (S := S) (S' := u2 S 33 j v) (fun _ => rfl) (fun _ => rfl) (fun _ => rfl) (fun _ => rfl) _ _ ((c3 f hf).2.2.2.2 y hy).2.2⟩⟩, fun a ha => ?_, c5, fun kd hk => ⟨chn_cg (h := h) (h' := s_I h 398 (P 1 j) v) rfl (fun _ => rfl) (fun _ => rfl) _ _ (c6 kd hk).1, zS_cg (h := h) (h' := s_I h 398 (P 1 j) v) (S := S) (S' := u2 S 33 j v) (fun _ => rfl) (fun _ => rfl) (fun _ => rfl) (fun _ => rfl) (fun _ => rfl) (fun _ => rfl) _ _ (c6 kd hk).2⟩, c7, c8⟩
  have hm : h_I (s_I h 398 (P 1 j) v) 398 (P 1 a) = u2 S 33 j v 33 a := by
    show (if 398 = 398 then (if P 1 a = P 1 j then v else h_I h 398 (P 1 a)) else h_I h 398 (P 1 a)) = (if 33 = 33 then (if a = j then v else S 33 a) else S 33 a)
    rw [if_pos rfl, if_pos rfl]
    by_cases e : a = j
    · rw [if_pos e, if_pos (by rw [e])]
    · rw [if_neg e, if_neg (fun z => e (c8.2.1 a j ha hj z))]
      exact (c4 a ha).2.2.2.1.2.2.2.2.2.2
  exact ⟨(c4 a ha).1, (c4 a ha).2.1, (c4 a ha).2.2.1, ⟨(c4 a ha).2.2.2.1.1, (c4 a ha).2.2.2.1.2.1, (c4 a ha).2.2.2.1.2.2.1, (c4 a ha).2.2.2.1.2.2.2.1, (c4 a ha).2.2.2.1.2.2.2.2.1, (c4 a ha).2.2.2.1.2.2.2.2.2.1, hm⟩, chn_cg (h := h) (h' := s_I h 398 (P 1 j) v) rfl (fun _ => rfl) (fun _ => rfl) _ _ (c4 a ha).2.2.2.2.1, zK_cg (h := h) (h' := s_I h 398 (P 1 j) v) (S := S) (S' := u2 S 33 j v) (fun _ => rfl) (fun _ => rfl) (fun _ => rfl) (fun _ => rfl) (fun _ => rfl) (fun _ => rfl) (fun _ => rfl) _ _ (c4 a ha).2.2.2.2.2⟩
