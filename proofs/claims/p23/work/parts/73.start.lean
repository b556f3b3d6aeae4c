/-! kE at the law's entry -/
theorem arr_at {args : Array Value} {s : State} {ty : FieldType} (h : (Cond.arrayClass ty).before args s = true) : ∃ cA : ClassId, ArrOfT s cA ty ∧ s.vm.findClass ("[" ++ ty.toString) = some cA := by
  obtain ⟨c, k, comp, h1, h2, h3⟩ := Cond.arrayClass_spec h
  exact ⟨c, fun n z => ⟨(fun k h => by cases h), k, h2, comp, h3⟩, h1⟩
theorem obj_at {args : Array Value} {s : State} {n : String} (h : (Cond.arrayOver (.object n)).before args s = true) : ∃ cA : ClassId, ArrOfT s cA (.object n) ∧ va_RA s cA (.object n) := by
  obtain ⟨comp, c, k, h1, -, h2, h3, h4⟩ := Cond.arrayOver_spec h
  exact ⟨c, fun n z => ⟨(fun k h => by cases h), k, h2, comp, h3⟩, k, comp, h2, h3, h1, h4⟩
theorem K_at {b : Nat} {s : State} (hts : ∀ w ∈ lw_tbl, w.before #[Value.ref b] s = true) (d : Nat) : ∃ G : kG, G.2.2.2.2.2.2 = d ∧ va_K G.1 vwCl (kTy G) s := by
  have hl : ∀ w ∈ wsL_law, w.before #[Value.ref b] s = true := ws_holds hts
  obtain ⟨c0, i0, k0⟩ := u_known (C := RJ0) (T := TJ0) (N := 4) (n := 4) hl inlJ0 (hl _ (inU_21 _ (List.mem_of_getElem? (i := 13) rfl)))
  obtain ⟨c1, i1, k1⟩ := u_known (C := RJ4) (T := TJ4) (N := 4) (n := 4) hl inlJ4 (hl _ (inU_15 _ (List.mem_of_getElem? (i := 11) rfl)))
  obtain ⟨c2, i2, k2⟩ := u_known (C := RJx4a65c) (T := TJx4a65c) (N := 3) (n := 3) hl inlJx4a65c (hl _ (inU_1 _ (List.mem_of_getElem? (i := 16) rfl)))
  obtain ⟨c3, i3, k3⟩ := u_known (C := RX0) (T := TX0) (N := 3) (n := 3) hl inlX0 (hl _ (inU_1 _ (List.mem_of_getElem? (i := 20) rfl)))
  obtain ⟨c4, i4, k4⟩ := u_known (C := RX1) (T := TX1) (N := 4) (n := 4) hl inlX1 (hl _ (inU_2 _ (List.mem_of_getElem? (i := 3) rfl)))
  obtain ⟨c5, i5, k5⟩ := u_known (C := RX2) (T := TX2) (N := 1) (n := 1) hl inlX2 (hl _ (inU_2 _ (List.mem_of_getElem? (i := 7) rfl)))
  obtain ⟨c6, i6, k6⟩ := u_known (C := RX3) (T := TX3) (N := 8) (n := 8) hl inlX3 (hl _ (inU_11 _ (List.mem_of_getElem? (i := 1) rfl)))
  obtain ⟨c7, i7, k7⟩ := u_known (C := RX4) (T := TX4) (N := 5) (n := 5) hl inlX4 (hl _ (inU_14 _ (List.mem_of_getElem? (i := 4) rfl)))
  obtain ⟨c8, i8, k8⟩ := u_known (C := RX5) (T := TX5) (N := 6) (n := 6) hl inlX5 (hl _ (inU_14 _ (List.mem_of_getElem? (i := 22) rfl)))
  obtain ⟨c9, i9, k9⟩ := u_known (C := RX6) (T := TX6) (N := 3) (n := 3) hl inlX6 (hl _ (inU_6 _ (List.mem_of_getElem? (i := 13) rfl)))
  obtain ⟨c10, i10, k10⟩ := u_known (C := RX7) (T := TX7) (N := 8) (n := 8) hl inlX7 (hl _ (inU_1 _ (List.mem_of_getElem? (i := 1) rfl)))
  obtain ⟨cB, b1, b2⟩ := arr_at (hts _ (tw_in _ (List.mem_of_getElem? (i := 13) rfl)))
  obtain ⟨cI, e1, e2⟩ := arr_at (hts _ (tw_in _ (List.mem_of_getElem? (i := 14) rfl)))
  obtain ⟨cO, o1, o2⟩ := obj_at (hts _ (tw_in _ (List.mem_of_getElem? (i := 12) rfl)))
  refine ⟨((fun k => match k with | 0 => c0 | 1 => c1 | 2 => c2 | 3 => c3 | 4 => c4 | 5 => c5 | 6 => c6 | 7 => c7 | 8 => c8 | 9 => c9 | _ => c10, fun k => match k with | 0 => i0 | 1 => i1 | 2 => i2 | 3 => i3 | 4 => i4 | 5 => i5 | 6 => i6 | 7 => i7 | 8 => i8 | 9 => i9 | _ => i10), (cB, cI, cI, cO, cI, d)), rfl, fun k q hq => ?_, fun k q hq => ?_⟩
  · match k, hq with
    | 0, hq => cases hq; exact k0
    | 1, hq => cases hq; exact k1
    | 2, hq => cases hq; exact k2
    | 3, hq => cases hq; exact k3
    | 4, hq => cases hq; exact k4
    | 5, hq => cases hq; exact k5
    | 6, hq => cases hq; exact k6
    | 7, hq => cases hq; exact k7
    | 8, hq => cases hq; exact k8
    | 9, hq => cases hq; exact k9
    | 10, hq => cases hq; exact k10
    | k + 11, hq => exact absurd (List.getElem?_eq_some_iff.mp hq).1 (by simp [vwCl])
  · match k, hq with
    | 0, hq => cases hq; exact ⟨b1, b2⟩
    | 1, hq => cases hq; exact ⟨e1, e2⟩
    | 2, hq => cases hq; exact ⟨e1, e2⟩
    | 3, hq => cases hq; exact ⟨o1, o2⟩
    | k + 4, hq => exact absurd (List.getElem?_eq_some_iff.mp hq).1 (by simp [kTy])
theorem dig_at {b : Nat} {s : State} {nm : String} {f : Nat → Int32} (hq : ∀ w ∈ flatC (Jvm.Cond.and given_1 narrow_1), w.before #[Value.ref b] s = true) (hD : ∀ w ∈ nwD nm f, w ∈ nwL) (hl : (Cond.laysStatic "java/lang/Integer" nm "[B").before #[Value.ref b] s = true) (hi : (Cond.initialized "java/lang/Integer").before #[Value.ref b] s = true) (h1 : Cond.arrayOf (.static "java/lang/Integer" nm "[B") .byte ∈ nwL) (h2 : Cond.eq (.length (.static "java/lang/Integer" nm "[B")) (.int 100) ∈ nwL) : ∃ a : Nat, va_Z "java/lang/Integer" nm "[B" (.ref a) (kB s.heap.size) s s.heap ∧ va_T .byte a 100 (fun k => .int (f k)) (kB s.heap.size) s s.heap := by
  obtain ⟨t, h3, h4⟩ := va_Tof (A := kB s.heap.size) (N := 100) (f := fun k => .int (f k)) (by decide) (hq _ (nw_in _ h1)) (va_eqt (hq _ (nw_in _ h2))) (fun j hj => va_eqt (hq _ (nw_in _ (hD _ (List.mem_map.mpr ⟨j, List.mem_range.mpr hj, rfl⟩))))) (fun a h => Nat.not_le.mpr h)
  exact ⟨t, va_Zof hl hi h3 (fun a h => Nat.not_le.mpr h), h4⟩
theorem kE_at (l : Launch) (hflags : l.flags = flags0) {b : Nat} {s : State} (hts : ∀ w ∈ lw_tbl, w.before #[Value.ref b] s = true) (hgv : (Jvm.Cond.and given_1 narrow_1).before #[Value.ref b] s = true) : ∃ G : kG, kE l s G ∧ va_K G.1 vwCl (kTy G) s := by
  have hq := flat_of_before _ hgv
  have hA : ∀ a : Nat, a < s.heap.size → ¬ kB s.heap.size a := fun a h => Nat.not_le.mpr h
  have T : ∀ w ∈ twL, w.before #[Value.ref b] s = true := fun w h => hts w (tw_in w h)
  have Q : ∀ w ∈ nwL, w.before #[Value.ref b] s = true := fun w h => hq w (nw_in w h)
  have QS : ∀ w ∈ nwS, w.before #[Value.ref b] s = true := fun w h => Q w (List.mem_append_left _ h)
  obtain ⟨d, hd1, hd2⟩ := va_Tof (A := kB s.heap.size) (N := 0) (f := fun _ => .null) (by decide) (QS _ (List.mem_of_getElem? (i := 7) rfl)) (va_eqt (QS _ (List.mem_of_getElem? (i := 8) rfl))) (fun j hj => absurd hj (Nat.not_lt_zero _)) hA
  obtain ⟨G, hG, hK⟩ := K_at hts d
  subst hG
  obtain ⟨a1, p1, p2⟩ := dig_at hq (fun w h => List.mem_append_right _ (List.mem_append_right _ (List.mem_append_left _ h))) (T _ (List.mem_of_getElem? (i := 7) rfl)) (T _ (List.mem_of_getElem? (i := 9) rfl)) (List.mem_append_left _ (List.mem_of_getElem? (i := 3) rfl)) (List.mem_append_left _ (List.mem_of_getElem? (i := 4) rfl))
  obtain ⟨a2, q1, q2⟩ := dig_at hq (fun w h => List.mem_append_right _ (List.mem_append_right _ (List.mem_append_right _ h))) (T _ (List.mem_of_getElem? (i := 8) rfl)) (T _ (List.mem_of_getElem? (i := 9) rfl)) (List.mem_append_left _ (List.mem_of_getElem? (i := 5) rfl)) (List.mem_append_left _ (List.mem_of_getElem? (i := 6) rfl))
  refine ⟨G, ⟨?_, ⟨#[Value.ref b], fun w h => hts w (bw_in w h)⟩, ⟨vx_Zqof (T _ (List.mem_of_getElem? (i := 2) rfl)) (T _ (List.mem_of_getElem? (i := 4) rfl)) (QS _ (List.mem_of_getElem? (i := 0) rfl)) hA, vx_Zqof (T _ (List.mem_of_getElem? (i := 3) rfl)) (T _ (List.mem_of_getElem? (i := 4) rfl)) (QS _ (List.mem_of_getElem? (i := 1) rfl)) hA⟩, fun q hq' => ?_, ⟨va_Zof (T _ (List.mem_of_getElem? (i := 0) rfl)) (T _ (List.mem_of_getElem? (i := 1) rfl)) hd1 hA, hd2⟩, va_Zof (T _ (List.mem_of_getElem? (i := 5) rfl)) (T _ (List.mem_of_getElem? (i := 6) rfl)) (va_eqi (QS _ (List.mem_of_getElem? (i := 2) rfl))) hA, ⟨a1, a2, p1, q1, p2, q2⟩, va_Mi.of (QS _ (List.mem_of_getElem? (i := 9) rfl)), va_AO.of (T _ (List.mem_of_getElem? (i := 12) rfl)), va_Zqof (T _ (List.mem_of_getElem? (i := 10) rfl)) (T _ (List.mem_of_getElem? (i := 11) rfl)) (QS _ (List.mem_of_getElem? (i := 10) rfl)) hA, fun q hq' => va_Nc.of (Q _ (List.mem_append_right _ (List.mem_append_left _ (List.mem_map.mpr ⟨q, hq', rfl⟩))))⟩, hK⟩
  · unfold Launch.stackTraces
    rw [hflags]
    decide +kernel
  · have hw := hts _ (tx_in q hq')
    obtain ⟨-, hfc, -⟩ := hK.1 10 _ rfl
    obtain ⟨k, cf, i, a, -, -, -, -, -, he⟩ := Cond.stringRef_spec hfc hw
    exact ⟨a, vk_R.of hw he⟩
