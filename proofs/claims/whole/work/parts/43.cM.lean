theorem CP.book130 {h : jH} {S : Nat → Nat → Int32} {P : Nat → Nat → Nat} {T : Nat → Nat → Nat → List Nat} {nf nl nb ns nt nk nw : Nat} {v : Int32} (c : CP h S P T nf nl nb ns nt nk nw) : CP (s_I h 130 (P 5 1) v) (u2 S 1 0 v) P T nf nl nb ns nt nk nw := by
  obtain ⟨c1, c2, c3, c4, c5, c6, c7, c8⟩ := c
  have k3 : pFld (s_I h 130 (P 5 1) v) (u2 S 1 0 v) P T nf nl ns := fun f hf => ⟨(c3 f hf).1, (c3 f hf).2.1, (c3 f hf).2.2.1, (c3 f hf).2.2.2.1, fun y hy => ⟨((c3 f hf).2.2.2.2 y hy).1, chn_cg (h := h) (h' := (s_I h 130 (P 5 1) v)) rfl (fun _ => rfl) (fun _ => rfl) _ _ ((c3 f hf).2.2.2.2 y hy).2.1, zT_cg (h := h) (h' := (s_I h 130 (P 5 1) v)) (S := S) (S' := (u2 S 1 0 v)) (fun _ => rfl) (fun _ => rfl) (fun _ => rfl) (fun _ => rfl) _ _ ((c3 f hf).2.2.2.2 y hy).2.2⟩⟩
  have k4 : pLot (s_I h 130 (P 5 1) v) (u2 S 1 0 v) P T nl nk := fun a ha => ⟨(c4 a ha).1, (c4 a ha).2.1, (c4 a ha).2.2.1, (c4 a ha).2.2.2.1, chn_cg (h := h) (h' := (s_I h 130 (P 5 1) v)) rfl (fun _ => rfl) (fun _ => rfl) _ _ (c4 a ha).2.2.2.2.1, zK_cg (h := h) (h' := (s_I h 130 (P 5 1) v)) (S := S) (S' := (u2 S 1 0 v)) (fun _ => rfl) (fun _ => rfl) (fun _ => rfl) (fun _ => rfl) (fun _ => rfl) (fun _ => rfl) (fun _ => rfl) _ _ (c4 a ha).2.2.2.2.2⟩
  have k6 : pSta (s_I h 130 (P 5 1) v) (u2 S 1 0 v) P T nt := fun kd hk => ⟨chn_cg (h := h) (h' := (s_I h 130 (P 5 1) v)) rfl (fun _ => rfl) (fun _ => rfl) _ _ (c6 kd hk).1, zS_cg (h := h) (h' := (s_I h 130 (P 5 1) v)) (S := S) (S' := (u2 S 1 0 v)) (fun _ => rfl) (fun _ => rfl) (fun _ => rfl) (fun _ => rfl) (fun _ => rfl) (fun _ => rfl) _ _ (c6 kd hk).2⟩
  have hm : h_I (s_I h 130 (P 5 1) v) 130 (P 5 1) = u2 S 1 0 v 1 0 := by rw [g_II, if_pos rfl, if_pos rfl, u2_same]
  exact ⟨c1, ⟨c2.1, ⟨c2.2.1.1, hm, c2.2.1.2.2.1, c2.2.1.2.2.2.1, c2.2.1.2.2.2.2.1, c2.2.1.2.2.2.2.2.1, c2.2.1.2.2.2.2.2.2.1, c2.2.1.2.2.2.2.2.2.2⟩, c2.2.2⟩, k3, k4, c5, k6, c7, c8⟩
theorem CP.book132 {h : jH} {S : Nat → Nat → Int32} {P : Nat → Nat → Nat} {T : Nat → Nat → Nat → List Nat} {nf nl nb ns nt nk nw : Nat} {v : Int32} (c : CP h S P T nf nl nb ns nt nk nw) : CP (s_I h 132 (P 5 1) v) (u2 S 2 0 v) P T nf nl nb ns nt nk nw := by
  obtain ⟨c1, c2, c3, c4, c5, c6, c7, c8⟩ := c
  have k3 : pFld (s_I h 132 (P 5 1) v) (u2 S 2 0 v) P T nf nl ns := fun f hf => ⟨(c3 f hf).1, (c3 f hf).2.1, (c3 f hf).2.2.1, (c3 f hf).2.2.2.1, fun y hy => ⟨((c3 f hf).2.2.2.2 y hy).1, chn_cg (h := h) (h' := (s_I h 132 (P 5 1) v)) rfl (fun _ => rfl) (fun _ => rfl) _ _ ((c3 f hf).2.2.2.2 y hy).2.1, zT_cg (h := h) (h' := (s_I h 132 (P 5 1) v)) (S := S) (S' := (u2 S 2 0 v)) (fun _ => rfl) (fun _ => rfl) (fun _ => rfl) (fun _ => rfl) _ _ ((c3 f hf).2.2.2.2 y hy).2.2⟩⟩
  have k4 : pLot (s_I h 132 (P 5 1) v) (u2 S 2 0 v) P T nl nk := fun a ha => ⟨(c4 a ha).1, (c4 a ha).2.1, (c4 a ha).2.2.1, (c4 a ha).2.2.2.1, chn_cg (h := h) (h' := (s_I h 132 (P 5 1) v)) rfl (fun _ => rfl) (fun _ => rfl) _ _ (c4 a ha).2.2.2.2.1, zK_cg (h := h) (h' := (s_I h 132 (P 5 1) v)) (S := S) (S' := (u2 S 2 0 v)) (fun _ => rfl) (fun _ => rfl) (fun _ => rfl) (fun _ => rfl) (fun _ => rfl) (fun _ => rfl) (fun _ => rfl) _ _ (c4 a ha).2.2.2.2.2⟩
  have k6 : pSta (s_I h 132 (P 5 1) v) (u2 S 2 0 v) P T nt := fun kd hk => ⟨chn_cg (h := h) (h' := (s_I h 132 (P 5 1) v)) rfl (fun _ => rfl) (fun _ => rfl) _ _ (c6 kd hk).1, zS_cg (h := h) (h' := (s_I h 132 (P 5 1) v)) (S := S) (S' := (u2 S 2 0 v)) (fun _ => rfl) (fun _ => rfl) (fun _ => rfl) (fun _ => rfl) (fun _ => rfl) (fun _ => rfl) _ _ (c6 kd hk).2⟩
  have hm : h_I (s_I h 132 (P 5 1) v) 132 (P 5 1) = u2 S 2 0 v 2 0 := by rw [g_II, if_pos rfl, if_pos rfl, u2_same]
  exact ⟨c1, ⟨c2.1, ⟨c2.2.1.1, c2.2.1.2.1, hm, c2.2.1.2.2.2.1, c2.2.1.2.2.2.2.1, c2.2.1.2.2.2.2.2.1, c2.2.1.2.2.2.2.2.2.1, c2.2.1.2.2.2.2.2.2.2⟩, c2.2.2⟩, k3, k4, c5, k6, c7, c8⟩
theorem CP.book134 {h : jH} {S : Nat → Nat → Int32} {P : Nat → Nat → Nat} {T : Nat → Nat → Nat → List Nat} {nf nl nb ns nt nk nw : Nat} {v : Int32} (c : CP h S P T nf nl nb ns nt nk nw) : CP (s_I h 134 (P 5 1) v) (u2 S 3 0 v) P T nf nl nb ns nt nk nw := by
  obtain ⟨c1, c2, c3, c4, c5, c6, c7, c8⟩ := c
  have k3 : pFld (s_I h 134 (P 5 1) v) (u2 S 3 0 v) P T nf nl ns := fun f hf => ⟨(c3 f hf).1, (c3 f hf).2.1, (c3 f hf).2.2.1, (c3 f hf).2.2.2.1, fun y hy => ⟨((c3 f hf).2.2.2.2 y hy).1, chn_cg (h := h) (h' := (s_I h 134 (P 5 1) v)) rfl (fun _ => rfl) (fun _ => rfl) _ _ ((c3 f hf).2.2.2.2 y hy).2.1, zT_cg (h := h) (h' := (s_I h 134 (P 5 1) v)) (S := S) (S' := (u2 S 3 0 v)) (fun _ => rfl) (fun _ => rfl) (fun _ => rfl) (fun _ => rfl) _ _ ((c3 f hf).2.2.2.2 y hy).2.2⟩⟩
  have k4 : pLot (s_I h 134 (P 5 1) v) (u2 S 3 0 v) P T nl nk := fun a ha => ⟨(c4 a ha).1, (c4 a ha).2.1, (c4 a ha).2.2.1, (c4 a ha).2.2.2.1, chn_cg (h := h) (h' := (s_I h 134 (P 5 1) v)) rfl (fun _ => rfl) (fun _ => rfl) _ _ (c4 a ha).2.2.2.2.1, zK_cg (h := h) (h' := (s_I h 134 (P 5 1) v)) (S := S) (S' := (u2 S 3 0 v)) (fun _ => rfl) (fun _ => rfl) (fun _ => rfl) (fun _ => rfl) (fun _ => rfl) (fun _ => rfl) (fun _ => rfl) _ _ (c4 a ha).2.2.2.2.2⟩
  have k6 : pSta (s_I h 134 (P 5 1) v) (u2 S 3 0 v) P T nt := fun kd hk => ⟨chn_cg (h := h) (h' := (s_I h 134 (P 5 1) v)) rfl (fun _ => rfl) (fun _ => rfl) _ _ (c6 kd hk).1, zS_cg (h := h) (h' := (s_I h 134 (P 5 1) v)) (S := S) (S' := (u2 S 3 0 v)) (fun _ => rfl) (fun _ => rfl) (fun _ => rfl) (fun _ => rfl) (fun _ => rfl) (fun _ => rfl) _ _ (c6 kd hk).2⟩
  have hm : h_I (s_I h 134 (P 5 1) v) 134 (P 5 1) = u2 S 3 0 v 3 0 := by rw [g_II, if_pos rfl, if_pos rfl, u2_same]
  exact ⟨c1, ⟨c2.1, ⟨c2.2.1.1, c2.2.1.2.1, c2.2.1.2.2.1, hm, c2.2.1.2.2.2.2.1, c2.2.1.2.2.2.2.2.1, c2.2.1.2.2.2.2.2.2.1, c2.2.1.2.2.2.2.2.2.2⟩, c2.2.2⟩, k3, k4, c5, k6, c7, c8⟩
theorem CP.book137 {h : jH} {S : Nat → Nat → Int32} {P : Nat → Nat → Nat} {T : Nat → Nat → Nat → List Nat} {nf nl nb ns nt nk nw : Nat} {v : Int32} (c : CP h S P T nf nl nb ns nt nk nw) : CP (s_I h 137 (P 5 1) v) (u2 S 6 0 v) P T nf nl nb ns nt nk nw := by
  obtain ⟨c1, c2, c3, c4, c5, c6, c7, c8⟩ := c
  have k3 : pFld (s_I h 137 (P 5 1) v) (u2 S 6 0 v) P T nf nl ns := fun f hf => ⟨(c3 f hf).1, (c3 f hf).2.1, (c3 f hf).2.2.1, (c3 f hf).2.2.2.1, fun y hy => ⟨((c3 f hf).2.2.2.2 y hy).1, chn_cg (h := h) (h' := (s_I h 137 (P 5 1) v)) rfl (fun _ => rfl) (fun _ => rfl) _ _ ((c3 f hf).2.2.2.2 y hy).2.1, zT_cg (h := h) (h' := (s_I h 137 (P 5 1) v)) (S := S) (S' := (u2 S 6 0 v)) (fun _ => rfl) (fun _ => rfl) (fun _ => rfl) (fun _ => rfl) _ _ ((c3 f hf).2.2.2.2 y hy).2.2⟩⟩
  have k4 : pLot (s_I h 137 (P 5 1) v) (u2 S 6 0 v) P T nl nk := fun a ha => ⟨(c4 a ha).1, (c4 a ha).2.1, (c4 a ha).2.2.1, (c4 a ha).2.2.2.1, chn_cg (h := h) (h' := (s_I h 137 (P 5 1) v)) rfl (fun _ => rfl) (fun _ => rfl) _ _ (c4 a ha).2.2.2.2.1, zK_cg (h := h) (h' := (s_I h 137 (P 5 1) v)) (S := S) (S' := (u2 S 6 0 v)) (fun _ => rfl) (fun _ => rfl) (fun _ => rfl) (fun _ => rfl) (fun _ => rfl) (fun _ => rfl) (fun _ => rfl) _ _ (c4 a ha).2.2.2.2.2⟩
  have k6 : pSta (s_I h 137 (P 5 1) v) (u2 S 6 0 v) P T nt := fun kd hk => ⟨chn_cg (h := h) (h' := (s_I h 137 (P 5 1) v)) rfl (fun _ => rfl) (fun _ => rfl) _ _ (c6 kd hk).1, zS_cg (h := h) (h' := (s_I h 137 (P 5 1) v)) (S := S) (S' := (u2 S 6 0 v)) (fun _ => rfl) (fun _ => rfl) (fun _ => rfl) (fun _ => rfl) (fun _ => rfl) (fun _ => rfl) _ _ (c6 kd hk).2⟩
  have hm : h_I (s_I h 137 (P 5 1) v) 137 (P 5 1) = u2 S 6 0 v 6 0 := by rw [g_II, if_pos rfl, if_pos rfl, u2_same]
  exact ⟨c1, ⟨c2.1, ⟨c2.2.1.1, c2.2.1.2.1, c2.2.1.2.2.1, c2.2.1.2.2.2.1, c2.2.1.2.2.2.2.1, hm, c2.2.1.2.2.2.2.2.2.1, c2.2.1.2.2.2.2.2.2.2⟩, c2.2.2⟩, k3, k4, c5, k6, c7, c8⟩
theorem CP.book138 {h : jH} {S : Nat → Nat → Int32} {P : Nat → Nat → Nat} {T : Nat → Nat → Nat → List Nat} {nf nl nb ns nt nk nw : Nat} {v : Int32} (c : CP h S P T nf nl nb ns nt nk nw) : CP (s_I h 138 (P 5 1) v) (u2 S 5 0 v) P T nf nl nb ns nt nk nw := by
  obtain ⟨c1, c2, c3, c4, c5, c6, c7, c8⟩ := c
  have k3 : pFld (s_I h 138 (P 5 1) v) (u2 S 5 0 v) P T nf nl ns := fun f hf => ⟨(c3 f hf).1, (c3 f hf).2.1, (c3 f hf).2.2.1, (c3 f hf).2.2.2.1, fun y hy => ⟨((c3 f hf).2.2.2.2 y hy).1, chn_cg (h := h) (h' := (s_I h 138 (P 5 1) v)) rfl (fun _ => rfl) (fun _ => rfl) _ _ ((c3 f hf).2.2.2.2 y hy).2.1, zT_cg (h := h) (h' := (s_I h 138 (P 5 1) v)) (S := S) (S' := (u2 S 5 0 v)) (fun _ => rfl) (fun _ => rfl) (fun _ => rfl) (fun _ => rfl) _ _ ((c3 f hf).2.2.2.2 y hy).2.2⟩⟩
  have k4 : pLot (s_I h 138 (P 5 1) v) (u2 S 5 0 v) P T nl nk := fun a ha => ⟨(c4 a ha).1, (c4 a ha).2.1, (c4 a ha).2.2.1, (c4 a ha).2.2.2.1, chn_cg (h := h) (h' := (s_I h 138 (P 5 1) v)) rfl (fun _ => rfl) (fun _ => rfl) _ _ (c4 a ha).2.2.2.2.1, zK_cg (h := h) (h' := (s_I h 138 (P 5 1) v)) (S := S) (S' := (u2 S 5 0 v)) (fun _ => rfl) (fun _ => rfl) (fun _ => rfl) (fun _ => rfl) (fun _ => rfl) (fun _ => rfl) (fun _ => rfl) _ _ (c4 a ha).2.2.2.2.2⟩
  have k6 : pSta (s_I h 138 (P 5 1) v) (u2 S 5 0 v) P T nt := fun kd hk => ⟨chn_cg (h := h) (h' := (s_I h 138 (P 5 1) v)) rfl (fun _ => rfl) (fun _ => rfl) _ _ (c6 kd hk).1, zS_cg (h := h) (h' := (s_I h 138 (P 5 1) v)) (S := S) (S' := (u2 S 5 0 v)) (fun _ => rfl) (fun _ => rfl) (fun _ => rfl) (fun _ => rfl) (fun _ => rfl) (fun _ => rfl) _ _ (c6 kd hk).2⟩
  have hm : h_I (s_I h 138 (P 5 1) v) 138 (P 5 1) = u2 S 5 0 v 5 0 := by rw [g_II, if_pos rfl, if_pos rfl, u2_same]
  exact ⟨c1, ⟨c2.1, ⟨c2.2.1.1, c2.2.1.2.1, c2.2.1.2.2.1, c2.2.1.2.2.2.1, c2.2.1.2.2.2.2.1, c2.2.1.2.2.2.2.2.1, hm, c2.2.1.2.2.2.2.2.2.2⟩, c2.2.2⟩, k3, k4, c5, k6, c7, c8⟩
theorem CP.book139 {h : jH} {S : Nat → Nat → Int32} {P : Nat → Nat → Nat} {T : Nat → Nat → Nat → List Nat} {nf nl nb ns nt nk nw : Nat} {v : Int32} (c : CP h S P T nf nl nb ns nt nk nw) : CP (s_I h 139 (P 5 1) v) (u2 S 7 0 v) P T nf nl nb ns nt nk nw := by
  obtain ⟨c1, c2, c3, c4, c5, c6, c7, c8⟩ := c
  have k3 : pFld (s_I h 139 (P 5 1) v) (u2 S 7 0 v) P T nf nl ns := fun f hf => ⟨(c3 f hf).1, (c3 f hf).2.1, (c3 f hf).2.2.1, (c3 f hf).2.2.2.1, fun y hy => ⟨((c3 f hf).2.2.2.2 y hy).1, chn_cg (h := h) (h' := (s_I h 139 (P 5 1) v)) rfl (fun _ => rfl) (fun _ => rfl) _ _ ((c3 f hf).2.2.2.2 y hy).2.1, zT_cg (h := h) (h' := (s_I h 139 (P 5 1) v)) (S := S) (S' := (u2 S 7 0 v)) (fun _ => rfl) (fun _ => rfl) (fun _ => rfl) (fun _ => rfl) _ _ ((c3 f hf).2.2.2.2 y hy).2.2⟩⟩
  have k4 : pLot (s_I h 139 (P 5 1) v) (u2 S 7 0 v) P T nl nk := fun a ha => ⟨(c4 a ha).1, (c4 a ha).2.1, (c4 a ha).2.2.1, (c4 a ha).2.2.2.1, chn_cg (h := h) (h' := (s_I h 139 (P 5 1) v)) rfl (fun _ => rfl) (fun _ => rfl) _ _ (c4 a ha).2.2.2.2.1, zK_cg (h := h) (h' := (s_I h 139 (P 5 1) v)) (S := S) (S' := (u2 S 7 0 v)) (fun _ => rfl) (fun _ => rfl) (fun _ => rfl) (fun _ => rfl) (fun _ => rfl) (fun _ => rfl) (fun _ => rfl) _ _ (c4 a ha).2.2.2.2.2⟩
  have k6 : pSta (s_I h 139 (P 5 1) v) (u2 S 7 0 v) P T nt := fun kd hk => ⟨chn_cg (h := h) (h' := (s_I h 139 (P 5 1) v)) rfl (fun _ => rfl) (fun _ => rfl) _ _ (c6 kd hk).1, zS_cg (h := h) (h' := (s_I h 139 (P 5 1) v)) (S := S) (S' := (u2 S 7 0 v)) (fun _ => rfl) (fun _ => rfl) (fun _ => rfl) (fun _ => rfl) (fun _ => rfl) (fun _ => rfl) _ _ (c6 kd hk).2⟩
  have hm : h_I (s_I h 139 (P 5 1) v) 139 (P 5 1) = u2 S 7 0 v 7 0 := by rw [g_II, if_pos rfl, if_pos rfl, u2_same]
  exact ⟨c1, ⟨c2.1, ⟨c2.2.1.1, c2.2.1.2.1, c2.2.1.2.2.1, c2.2.1.2.2.2.1, c2.2.1.2.2.2.2.1, c2.2.1.2.2.2.2.2.1, c2.2.1.2.2.2.2.2.2.1, hm⟩, c2.2.2⟩, k3, k4, c5, k6, c7, c8⟩
theorem CP.pl455 {h : jH} {S : Nat → Nat → Int32} {P : Nat → Nat → Nat} {T : Nat → Nat → Nat → List Nat} {nf nl nb ns nt nk nw : Nat} {v : Int32} (c : CP h S P T nf nl nb ns nt nk nw) : CP (s_I h 455 (P 5 4) v) (u2 S 8 0 v) P T nf nl nb ns nt nk nw := by
  obtain ⟨c1, c2, c3, c4, c5, c6, c7, c8⟩ := c
  have k3 : pFld (s_I h 455 (P 5 4) v) (u2 S 8 0 v) P T nf nl ns := fun f hf => ⟨(c3 f hf).1, (c3 f hf).2.1, (c3 f hf).2.2.1, (c3 f hf).2.2.2.1, fun y hy => ⟨((c3 f hf).2.2.2.2 y hy).1, chn_cg (h := h) (h' := (s_I h 455 (P 5 4) v)) rfl (fun _ => rfl) (fun _ => rfl) _ _ ((c3 f hf).2.2.2.2 y hy).2.1, zT_cg (h := h) (h' := (s_I h 455 (P 5 4) v)) (S := S) (S' := (u2 S 8 0 v)) (fun _ => rfl) (fun _ => rfl) (fun _ => rfl) (fun _ => rfl) _ _ ((c3 f hf).2.2.2.2 y hy).2.2⟩⟩
  have k4 : pLot (s_I h 455 (P 5 4) v) (u2 S 8 0 v) P T nl nk := fun a ha => ⟨(c4 a ha).1, (c4 a ha).2.1, (c4 a ha).2.2.1, (c4 a ha).2.2.2.1, chn_cg (h := h) (h' := (s_I h 455 (P 5 4) v)) rfl (fun _ => rfl) (fun _ => rfl) _ _ (c4 a ha).2.2.2.2.1, zK_cg (h := h) (h' := (s_I h 455 (P 5 4) v)) (S := S) (S' := (u2 S 8 0 v)) (fun _ => rfl) (fun _ => rfl) (fun _ => rfl) (fun _ => rfl) (fun _ => rfl) (fun _ => rfl) (fun _ => rfl) _ _ (c4 a ha).2.2.2.2.2⟩
  have k6 : pSta (s_I h 455 (P 5 4) v) (u2 S 8 0 v) P T nt := fun kd hk => ⟨chn_cg (h := h) (h' := (s_I h 455 (P 5 4) v)) rfl (fun _ => rfl) (fun _ => rfl) _ _ (c6 kd hk).1, zS_cg (h := h) (h' := (s_I h 455 (P 5 4) v)) (S := S) (S' := (u2 S 8 0 v)) (fun _ => rfl) (fun _ => rfl) (fun _ => rfl) (fun _ => rfl) (fun _ => rfl) (fun _ => rfl) _ _ (c6 kd hk).2⟩
  have hm : h_I (s_I h 455 (P 5 4) v) 455 (P 5 4) = u2 S 8 0 v 8 0 := by rw [g_II, if_pos rfl, if_pos rfl, u2_same]
  exact ⟨c1, c2, k3, k4, c5, k6, ⟨hm, c7.2⟩, c8⟩
theorem CP.w0 {h : jH} {S : Nat → Nat → Int32} {P : Nat → Nat → Nat} {T : Nat → Nat → Nat → List Nat} {nf nl nb ns nt nk nw : Nat} (c : CP h S P T nf nl nb ns nt nk nw) : CP h S P T nf nl nb ns nt nk 0 := ⟨c.1, c.2.1, c.2.2.1, c.2.2.2.1, c.2.2.2.2.1, c.2.2.2.2.2.1, ⟨c.2.2.2.2.2.2.1.1, fun k hk => absurd hk (Nat.not_lt_zero _)⟩, c.2.2.2.2.2.2.2⟩
theorem CP.pushW {h : jH} {S : Nat → Nat → Int32} {P : Nat → Nat → Nat} {T : Nat → Nat → Nat → List Nat} {nf nl nb ns nt nk nw : Nat} (c : CP h S P T nf nl nb ns nt nk nw) {j : Nat} (hS : S 42 nw = nI j) (hj : j < 2 ^ 31) : CP (s_B h (P 5 10) nw (some (P 1 j))) S P T nf nl nb ns nt nk (nw + 1) := by
  obtain ⟨c1, c2, c3, c4, c5, c6, c7, c8⟩ := c
  have e : Ex2 (fun _ => false) h (s_B h (P 5 10) nw (some (P 1 j))) := Ex2.sB
  have hB : ∀ r, r ≠ P 5 10 → ∀ i, h_B (s_B h (P 5 10) nw (some (P 1 j))) r i = h_B h r i := fun r n i => by rw [g_BB, if_neg n]
  have w := c1.2.2.2.2.2.1.1
  refine ⟨c1.e2 e (fun _ _ => rfl), c2.e2 e (fun _ _ => rfl) (fun _ _ _ => Or.inr ⟨rfl, rfl⟩), c3.e2 e (fun _ _ => rfl) (fun f _ => hB _ (ok_ne c2.2.2.1.2.1 w (by decide)) f) (fun f hf y _ => hB _ (c8.2.2.2.2.2.1 f hf).2 y) (fun f hf y _ => hB _ (ok_ne (c3 f hf).2.2.2.1.2.1 w (by decide)) y), c4.e2 e (fun _ _ => rfl) (fun a _ => hB _ c8.2.2.2.2.2.2.1 a), c5.e2 e (fun _ _ => rfl) (fun a _ => hB _ (ok_ne c2.2.2.2.2.1.2.1 w (by decide)) a), c6.e2 e (fun _ _ => rfl) (fun a _ => hB _ (ok_ne c2.2.2.2.2.2.2.1 w (by decide)) a), ⟨c7.1, fun k hk => ?_⟩, c8⟩
  rw [g_BB, if_pos rfl]
  by_cases e1 : k = nw
  · rw [if_pos e1, e1, hS, nI_clamp hj]
  · rw [if_neg e1]
    exact c7.2 k (by omega)
def m_add (S : Nat → Nat → Int32) (j nw : Nat) : Int32 × (Nat → Nat → Int32) := if ¬ nI nw = 5 ∧ ffst (wantB S (nI j)) 0 nw = -1 then (nI nw + 1, mS_want S (nI j) nw) else (-1, S)
set_option maxHeartbeats 4000000 in
set_option maxRecDepth 100000 in
theorem L_add {p : Program} {l : Launch} {e : Env} {s : State} {m : MethodId} {args : Array Value} {below : List Frame} {meth : Method} {c0 : Code} {D : va_G} {cy : Nat → ClassId} {A : Nat → Prop} {Q : State → Prop} (C : jC p s m args meth c0 D cy A 3 RX7 cX7_add) {h : jH} {S : Nat → Nat → Int32} {P : Nat → Nat → Nat} {T : Nat → Nat → Nat → List Nat} {nf nl nb ns nt nk nw j : Nat} (c : CP h S P T nf nl nb ns nt nk nw) (hnl : nl ≤ 200) (hj : j < nl) (hw : S 8 0 = nI nw) (hnw : nw ≤ 5) (hwn : ∀ k, k < nw → ∃ j, j < nl ∧ S 42 k = nI j) (h5 : nw < 5) (ret : ∀ r h' (lv : List (Nat × Value)) (pc : Nat), (∃ S' nw', (r, S') = m_add S j nw ∧ CP h' S' P T nf nl nb ns nt nk nw' ∧ (S' 8 0 = nI nw' ∧ nw' ≤ 5) ∧ FrC P h h') → decode cX7_add pc = .ok (.ireturn, 1) → jW p l e (rmd 0 0 0) s m args below meth c0 D cy A 3 0 0 Q h' lv pc [.int r]) : ∀ (n k i : Nat), k < n → i + k = nw → ffst (wantB S (nI j)) 0 nw = ffst (wantB S (nI j)) i k → jW p l e (rmd 0 0 0) s m args below meth c0 D cy A 3 0 0 Q h [(0, .ref (P 5 4)), (1, .ref (P 1 j)), (2, .int (nI i))] 16 [] := by
  intro n
  induction n with
  | zero => intro k i h1; exact absurd h1 (Nat.not_lt_zero _)
  | succ n ih =>
    intro k i h1 h2 he
    refine j_iload_n C dX7_add_16 rfl ?_
    refine j_aload_n C dX7_add_17 rfl ?_
    refine j_gIe (f := 455) (v := (nI nw)) C fF_X7_34 rfl c.1.2.2.2.1.1 (by exact c.2.2.2.2.2.2.1.1.trans hw) dX7_add_18 ?_
    refine j_icmp_ge (tgt := 42) C dX7_add_21 (by decide) (fun c_21 => ?_) (fun c_21 => ?_)
    · have hge : nw ≤ i := nI_ge_of c_21 (by omega) (by omega)
      obtain rfl : k = 0 := by omega
      have hp : (nI nw + 1, mS_want S (nI j) nw) = m_add S j nw := by
        rw [m_add, if_pos ⟨fun z => by have h5 := (nI_eq (b := 5) (by omega) (by decide)).mp z; omega, he⟩]
      have hc : CP (s_I (s_B h (P 5 10) nw (some (P 1 j))) 455 (P 5 4) (nI nw + 1)) (mS_want S (nI j) nw) P T nf nl nb ns nt nk (nw + 1) := ((c.agS (AgS.rf.u (r := 42) (i := nw) (v := nI j) ⟨by decide, by omega, by omega, by omega, by omega, by omega, by omega, by omega⟩)).pushW (u2_same _ _ _ _) (by omega)).pl455
      refine j_aload_n C dX7_add_42 rfl ?_
      refine j_gRe (f := 449) (v := .ref (P 5 10)) C fF_X7_11 rfl c.1.2.2.2.1.1 (by rw [c.1.2.2.2.1.2.2.1]; rfl) dX7_add_43 ?_
      refine j_aload_n C dX7_add_46 rfl ?_
      refine j_gIe (f := 455) (v := (nI nw)) C fF_X7_34 rfl c.1.2.2.2.1.1 (by exact c.2.2.2.2.2.2.1.1.trans hw) dX7_add_47 ?_
      refine j_aload_n C dX7_add_50 rfl ?_
      refine j_aastN (k := 15) (ci := 6) C c.1.2.2.2.2.2.1.1 (by decide) (c.2.2.2.1 j hj).1.2 (by decide) rfl rfl ⟨c.1.2.2.2.2.2.1.2, by omega, by decide⟩ dX7_add_51 ?_
      refine j_aload_n C dX7_add_52 rfl ?_
      refine j_dup C dX7_add_53 rfl ?_
      refine j_gIe (f := 455) (v := (nI nw)) C fF_X7_34 rfl (okB c.1.2.2.2.1.1) (by show h_I h 455 (P 5 4) = _; exact c.2.2.2.2.2.2.1.1.trans hw) dX7_add_54 ?_
      refine j_iconst (v := 1) C dX7_add_57 (by decide) ?_
      refine j_iadd C dX7_add_58 ?_
      refine j_pI (f := 455) C fP_X7_34 rfl (okB c.1.2.2.2.1.1) rfl rfl dX7_add_59 ?_
      refine j_aload_n C dX7_add_62 rfl ?_
      refine j_gIe (f := 455) (v := (nI nw + 1)) C fF_X7_34 rfl (okI (okB c.1.2.2.2.1.1)) (by rw [g_II, if_pos rfl, if_pos rfl]) dX7_add_63 ?_
      exact ret _ _ _ _ ⟨_, nw + 1, hp, hc, ⟨by rw [mS_want, u2_same]; exact nI_1 _, by omega⟩, FrC.sB.tr (FrC.sI (by decide))⟩ dX7_add_66
    · have hlt : i < nw := nI_lt_of c_21 (by omega)
      obtain ⟨k, rfl⟩ : ∃ q, k = q + 1 := ⟨k - 1, by omega⟩
      obtain ⟨u, hu, eu⟩ := hwn i hlt
      refine j_aload_n C dX7_add_24 rfl ?_
      refine j_gRe (f := 449) (v := .ref (P 5 10)) C fF_X7_11 rfl c.1.2.2.2.1.1 (by rw [c.1.2.2.2.1.2.2.1]; rfl) dX7_add_25 ?_
      refine j_iload_n C dX7_add_28 rfl ?_
      refine j_aaldN (k := 15) C c.1.2.2.2.2.2.1.1 (by decide) rfl ⟨c.1.2.2.2.2.2.1.2, by omega, by decide⟩ (by rw [c.2.2.2.2.2.2.1.2 i hlt, eu, nI_clamp (by omega)] <;> rfl) dX7_add_29 ?_
      refine j_aload_n C dX7_add_30 rfl ?_
      refine j_acmp_ne (rx := (some (P 1 u))) (ry := (some (P 1 j))) (tgt := 36) C dX7_add_31 (by decide) (fun c_31 => ?_) (fun c_31 => ?_)
      · refine j_iinc (lv' := [(0, .ref (P 5 4)), (1, .ref (P 1 j)), (2, .int (nI (i + 1)))]) C dX7_add_36 rfl (nI_1 _) (by decide) rfl ?_
        refine j_goto (tgt := 16) C dX7_add_39 (by decide) ?_
        refine j_sub [0, 1, 2] rfl ?_
        exact ih k (i + 1) (by omega) (by omega) (he.trans (ffst_f (by show decide _ = false; rw [eu]; exact decide_eq_false (fun z => c_31 (by rw [(nI_eq (by omega) (by omega)).mp z])))))
      · refine j_iconst (v := (-1)) C dX7_add_34 (by decide) ?_
        exact ret _ _ _ _ ⟨S, nw, by rw [m_add, if_neg (fun z => ffst_ge (p := wantB S (nI j)) (i := i) (k := k) (by show decide _ = true; rw [eu, c.2.2.2.2.2.2.2.2.1 u j hu hj (Option.some.inj c_31)]; exact decide_eq_true rfl) (by omega) (he ▸ z.2))], c, ⟨hw, hnw⟩, FrC.rf⟩ dX7_add_35
set_option maxHeartbeats 4000000 in
set_option maxRecDepth 100000 in
theorem k_add {l : Launch} {D : va_G} {cy : Nat → ClassId} {h : jH} {S : Nat → Nat → Int32} {P : Nat → Nat → Nat} {T : Nat → Nat → Nat → List Nat} {nf nl nb ns nt nk nw : Nat} {j : Nat} (c : CP h S P T nf nl nb ns nt nk nw) (hnl : nl ≤ 200) (hj : j < nl) (hw : S 8 0 = nI nw) (hnw : nw ≤ 5) (hwn : ∀ k, k < nw → ∃ j, j < nl ∧ S 42 k = nI j) : jI l D cy yX7_add (.code yX7_add cX7_add 3 ((Option.some FieldType.int))) (rmd 0 0 0) [.ref (P 5 4), .ref (P 1 j)] h (fun r h' => (∃ S' nw', (r, S') = m_add S j nw ∧ CP h' S' P T nf nl nb ns nt nk nw' ∧ (S' 8 0 = nI nw' ∧ nw' ≤ 5) ∧ FrC P h h')) := by
  refine j_ofI (by decide) (Nat.le_of_ble_eq_true rfl) (fun p e s m args below meth c0 Q C hin ret => ?_)
  refine j_aload_n C dX7_add_0 rfl ?_
  refine j_gIe (f := 455) (v := (nI nw)) C fF_X7_34 rfl c.1.2.2.2.1.1 (by exact c.2.2.2.2.2.2.1.1.trans hw) dX7_add_1 ?_
  refine j_aload_n C dX7_add_4 rfl ?_
  refine j_gRe (f := 449) (v := .ref (P 5 10)) C fF_X7_11 rfl c.1.2.2.2.1.1 (by rw [c.1.2.2.2.1.2.2.1]; rfl) dX7_add_5 ?_
  refine j_alen (k := 15) (v := 5) C c.1.2.2.2.2.2.1.1 ⟨by decide, rfl⟩ (by rw [c.1.2.2.2.2.2.1.2]; rfl) dX7_add_8 ?_
  refine j_icmp_lt (tgt := 14) C dX7_add_9 (by decide) (fun c_9 => ?_) (fun c_9 => ?_)
  · refine j_iconst (v := 0) C dX7_add_14 (by decide) ?_
    refine j_istore_n (lv' := [(0, .ref (P 5 4)), (1, .ref (P 1 j)), (2, .int 0)]) C dX7_add_15 (by decide) rfl ?_
    exact L_add C c hnl hj hw hnw hwn (by have := nI_lt_of (i := nw) (n := 5) (Int32.not_le.mpr c_9) (by omega); omega) (fun r h' lv pc g d => ret r h' 0 0 lv pc g (Nat.zero_le _) (Nat.zero_le _) d) (nw + 1) nw 0 (by omega) (by omega) rfl
  · refine j_iconst (v := (-1)) C dX7_add_12 (by decide) ?_
    exact ret _ _ 0 0 _ _ ⟨S, nw, by rw [m_add, if_neg (fun z => c_9 (nI_lt (b := 5) (ne_lt rfl z.1 hnw) (by decide)))], c, ⟨hw, hnw⟩, FrC.rf⟩ (Nat.zero_le _) (Nat.zero_le _) dX7_add_13
set_option maxHeartbeats 4000000 in
set_option maxRecDepth 100000 in
theorem k_forgetAll {l : Launch} {D : va_G} {cy : Nat → ClassId} {h : jH} {a : Nat} (oa : h_ok h a 7) : jV l D cy yX7_forgetAll (.code yX7_forgetAll cX7_forgetAll 1 ((Option.none : Option FieldType))) (rmd 0 0 0) [.ref a] h (fun h' => h' = s_I h 455 a 0) := by
  refine j_ofV (by decide) (Nat.le_of_ble_eq_true rfl) (fun p e s m args below meth c Q C hin ret => ?_)
  refine j_aload_n C dX7_forgetAll_0 rfl ?_
  refine j_iconst (v := 0) C dX7_forgetAll_1 (by decide) ?_
  refine j_pI (f := 455) C fP_X7_34 rfl oa rfl rfl dX7_forgetAll_2 ?_
  exact ret _ 0 0 _ _ (rfl) (Nat.zero_le _) (Nat.zero_le _) dX7_forgetAll_5
set_option maxHeartbeats 4000000 in
set_option maxRecDepth 100000 in
theorem x_want {l : Launch} {D : va_G} {cy : Nat → ClassId} {h : jH} {S : Nat → Nat → Int32} {P : Nat → Nat → Nat} {T : Nat → Nat → Nat → List Nat} {nf nl nb ns nt nk nw : Nat} (c : CP h S P T nf nl nb ns nt nk nw) (hl : S 2 0 = nI nl) (hnl : nl ≤ 200) (hw : S 8 0 = nI nw) (hnw : nw ≤ 5) (hwn : ∀ k, k < nw → ∃ j, j < nl ∧ S 42 k = nI j) (lt : Int32) : jI l D cy yX10_want (.code yX10_want cX10_want 3 ((Option.some FieldType.int))) (rmd 1 0 0) [.ref (P 5 0), .int lt] h (fun r h' => ∃ S' nw', (r, S') = m_want S lt nw ∧ CP h' S' P T nf nl nb ns nt nk nw' ∧ (S' 8 0 = nI nw' ∧ nw' ≤ 5) ∧ FrC P h h') := by
  refine j_ofI (by decide) (Nat.le_of_ble_eq_true rfl) (fun p e s m args below meth c0 Q C hin ret => ?_)
  refine j_iload_n C dX10_want_0 rfl ?_
  refine j_iconst (v := (-1)) C dX10_want_1 (by decide) ?_
  refine j_icmp_ne (tgt := 14) C dX10_want_2 (by decide) (fun c_2 => ?_) (fun c_2 => ?_)
  · refine j_aload_n C dX10_want_14 rfl ?_
    refine j_gRe (f := 640) (v := .ref (P 5 1)) C fF_X10_10 rfl c.1.1.1 (by rw [c.1.1.2.1]; rfl) dX10_want_15 ?_
    refine j_iload_n C dX10_want_18 rfl ?_
    refine j_callVq (As := [.int lt]) (rest := []) C fG_X10_107 (s_lotAt c hl hnl (lt)) c.2.1.1 rfl rfl (Nat.le_of_ble_eq_true rfl) ⟨Nat.le_of_ble_eq_true rfl, Nat.le_of_ble_eq_true rfl⟩ ⟨Nat.le_of_ble_eq_true rfl, Nat.le_of_ble_eq_true rfl⟩ dX10_want_19 (fun r_19 h_19 e_19 => ?_)
    obtain ⟨e1_19, e2_19⟩ := e_19
    subst e1_19
    replace e2_19 := e2_19.symm
    subst e2_19
    refine j_astore_nQ (lv' := [(0, .ref (P 5 0)), (1, .int lt), (2, va_rf (lotO S P lt))]) C dX10_want_22 (by decide) rfl ?_
    refine j_aload_nQ C dX10_want_23 rfl ?_
    cases hq_24 : (lotO S P lt) with
    | none =>
      refine j_ifnonnullN C dX10_want_24 ?_
      refine j_iconst (v := (-1)) C dX10_want_27 (by decide) ?_
      refine j_goto (tgt := 39) C dX10_want_28 (by decide) ?_
      exact ret _ _ 0 0 _ _ ⟨S, nw, by rw [m_want, if_neg c_2, if_neg (fun z => lotO_n hq_24 z.1)], c, ⟨hw, hnw⟩, FrC.rf⟩ (Nat.zero_le _) (Nat.zero_le _) dX10_want_39
    | some x_24 =>
      refine j_ifnonnull (tgt := 31) C dX10_want_24 (by decide) ?_
      obtain ⟨j, hj, hx, ha, hL⟩ := lotO_s hl hnl hq_24
      subst hx
      subst ha
      refine j_aload_n C dX10_want_31 rfl ?_
      refine j_gRe (f := 643) (v := .ref (P 5 4)) C fF_X10_35 rfl c.1.1.1 (by rw [c.1.1.2.2.2.2.1]; rfl) dX10_want_32 ?_
      refine j_aload_n C dX10_want_35 rfl ?_
      refine j_callVi (As := [.ref (P 1 j)]) (rest := []) C fG_X10_257 (k_add (j := j) c hnl hj hw hnw hwn) c.1.2.2.2.1.1 rfl rfl (Nat.le_of_ble_eq_true rfl) ⟨Nat.le_of_ble_eq_true rfl, Nat.le_of_ble_eq_true rfl⟩ ⟨Nat.le_of_ble_eq_true rfl, Nat.le_of_ble_eq_true rfl⟩ dX10_want_36 (fun r_36 h_36 e_36 => ?_)
      obtain ⟨S', nw', g1, g2⟩ := e_36
      refine ret _ _ 0 0 _ _ ⟨S', nw', ?_, g2⟩ (Nat.zero_le _) (Nat.zero_le _) dX10_want_39
      rw [g1, m_add, m_want, if_neg c_2]
      by_cases z : ¬ nI nw = 5 ∧ ffst (wantB S (nI j)) 0 nw = -1
      · rw [if_pos z, if_pos ⟨hL, z⟩]
      · rw [if_neg z, if_neg (fun q => z q.2)]
  · refine j_aload_n C dX10_want_5 rfl ?_
    refine j_gRe (f := 643) (v := .ref (P 5 4)) C fF_X10_35 rfl c.1.1.1 (by rw [c.1.1.2.2.2.2.1]; rfl) dX10_want_6 ?_
    refine j_callVv (As := []) (rest := []) C fG_X10_254 (k_forgetAll (a := (P 5 4)) c.1.2.2.2.1.1) c.1.2.2.2.1.1 rfl rfl (Nat.le_of_ble_eq_true rfl) ⟨Nat.le_of_ble_eq_true rfl, Nat.le_of_ble_eq_true rfl⟩ ⟨Nat.le_of_ble_eq_true rfl, Nat.le_of_ble_eq_true rfl⟩ dX10_want_9 (fun h_9 e_9 => ?_)
    subst e_9
    refine j_iconst (v := 0) C dX10_want_12 (by decide) ?_
    exact ret _ _ 0 0 _ _ ⟨_, 0, by rw [m_want, if_pos c_2], c.w0.pl455, ⟨u2_same _ _ _ _, by decide⟩, FrC.sI (by decide)⟩ (Nat.zero_le _) (Nat.zero_le _) dX10_want_13
