theorem b4096 : 4096 * componentBytes .long ≤ 536870912 := by decide +kernel
theorem le_1 {R : Room} (h : R.cells = 1) : 0 + 1 ≤ R.cells := by rw [h]; omega
theorem le_4096 {R : Room} (h : R.slots = 4096) : 0 + 4096 ≤ R.slots := by rw [h]; omega
theorem n4096 : (4096 : Int32).toNatClampNeg = 4096 := by decide +kernel
theorem newl (cA : ClassId) : vp_cell cA (4096, .inr (.inl (fun _ => 0))) = arrV cA 4096 (fun _ => defaultValue .long) := rfl
abbrev w0 (h : Nat) : va_W := [(h, .inr (0, [.null, .int 0, .int 0, .int 0, .int 0]))]
abbrev r0 (h : Nat) : va_W := [(h, .inr (1, [.int 0, .null, .int 0, .int 0, .int 0, .long 0]))]
theorem iw_X0_init : ∀ w ∈ u_ws RX0 TX0 5, w ∈ wsX0_init := by decide +kernel
theorem iw_X1_init : ∀ w ∈ u_ws RX1 TX1 6, w ∈ wsX1_init := by decide +kernel
set_option maxHeartbeats 400000 in
set_option maxRecDepth 100000 in
theorem kX0_init (l : Launch) (D : va_G) (h sz : Nat) : Met l yX0_init wsX0_init ({ frames := 1, cells := 1, slots := 4096, locals := 12 }) (va_Pc [.ref h] (fun U => U.heap.size = sz ∧ va_P D vwCl (w0 h) U.heap ∧ va_K D vwCl [] U ∧ va_D (fun _ => True) (w0 h))) (va_Qv (fun _ : Nat × ClassId => True) (fun u t => va_P D vwCl (wW h u.1 u.2 (fun _ => 0, 0, 0, 0, 0)) t.heap ∧ va_K D vwCl [(u.2, .long)] t ∧ va_D (va_A (w0 h) sz) (wW h u.1 u.2 (fun _ => 0, 0, 0, 0, 0))) (va_A (w0 h) sz)) 1 4096 (va_A (w0 h) sz) := by
  refine Met.ofW (cc := cX0_init) (maxL := 1) (ret := none) (by decide) rfl ?_
  intro p e s m args below meth c s₁ B hml hv
  obtain ⟨rfl, hsz, hP, hK, hD0⟩ := hv
  have hx := B.exec
  have hb := B.bytes
  have hr := B.returns
  have hts := atoms_spec (ws := wsX0_init) B.pre
  have hown : s.vm.findClass RX0 = some m.cls := findClass_of_methodNamed B.named
  have hlocks := B.notSynchronized
  have hin : meth.name = "<init>" := (name_of_methodNamed B.named B.method).1
  subst hsz
  have hD := hD0.self (sz := s.heap.size)
  generalize hAe : va_A (w0 h) s.heap.size = A at hD ⊢
  have hA : ∀ q : Nat, s.heap.size ≤ q → A q := fun q h => by rw [← hAe]; exact Or.inr h
  have hS : va_S A s.heap s.heap [] := va_S.rf
  have hl := lv_entry ([.ref h]) (n := 1) (Nat.le_of_ble_eq_true rfl)
  rw [lg_entry_eq]
  generalize (lg_sl ([.ref h]) ++ List.replicate (1 - (lg_sl ([.ref h])).length) Slot.unset).toArray = ls at hl ⊢
  have hl : lv_has ls 1 [(0, .ref h)] := hl
  refine lv_aload_n hx hb dX0_init_0 rfl (lv_at hl 0 rfl) ?_
  refine W.objInit hx hb hown (hts (.methodLink RX0 1 objectInit) (by decide +kernel)) (hts (.instanceMethod objectInit) (by decide +kernel)) (hts _ (List.mem_of_getElem? (i := 3) rfl)) rfl (by rw [hml]; exact hl.1) rfl dX0_init_1 (Nat.le_of_ble_eq_true rfl) (Nat.le_of_ble_eq_true rfl) ?_
  refine W.eq (g2 := F0 m 4 ls []) rfl ?_
  refine lv_aload_n hx hb dX0_init_4 rfl (lv_at hl 0 rfl) ?_
  refine lv_sipush (v := 4096) hx hb dX0_init_5 (by decide) ?_
  refine va_newa (atype := .long) (n := 4096) (ty := .long) (a0 := (4096, .inr (.inl (fun _ => 0)))) (N' := 4096) hx hb (hts (.arrayClass .long) (by decide +kernel)) rfl hK hP hD hS hA (fun cA => newl cA) (by decide) n4096 b4096 (le_1 rfl) (le_4096 rfl) dX0_init_8 (fun q5 cA H hK hP hD hS => ?_)
  have hP : va_P D vwCl [(h, .inr (0, [.null, .int 0, .int 0, .int 0, .int 0])), (q5, .inl (cA, 4096, .inr (.inl (fun _ => 0))))] H := hP
  have hD : va_D A [(h, .inr (0, [.null, .int 0, .int 0, .int 0, .int 0])), (q5, .inl (cA, 4096, .inr (.inl (fun _ => 0))))] := hD
  have hK : va_K D vwCl [(cA, .long)] s := hK
  refine va_putF (D := D) (ci := 0) (v := .ref q5) (ty := .array .long) (C := RX0) (T := TX0) (N := 5) hx hb hts iw_X0_init tyX0 tyX0_ok nmX0 hown hK hP hD hS 0 rfl rfl 0 (by decide) (hts (.fieldLink RX0 9 "WordMill" "memory" "[J") (by decide +kernel)) (fun _ h9 => h9) rfl hin rfl (by decide +kernel) rfl rfl (Nat.le_of_ble_eq_true rfl) dX0_init_10 (fun H locs hP hD hS => ?_)
  have hP : va_P D vwCl (wW h q5 cA (fun _ => 0, 0, 0, 0, 0)) H := hP
  have hD : va_D A (wW h q5 cA (fun _ => 0, 0, 0, 0, 0)) := hD
  refine lv_aload_n hx hb dX0_init_13 rfl (lv_at hl 0 rfl) ?_
  refine lv_iconst (v := 0) hx hb dX0_init_14 (by decide) ?_
  refine va_put (D := D) (ci := 0) (v := .int 0) (ty := .int) (C := RX0) (T := TX0) (N := 5) hx hb hts iw_X0_init tyX0 tyX0_ok nmX0 hown hK hP hD hS 0 rfl rfl 1 (by decide) (hts (.fieldLink RX0 13 "WordMill" "pc" "I") (by decide +kernel)) (fun _ h9 => h9) rfl (by decide +kernel) rfl rfl (Nat.le_of_ble_eq_true rfl) dX0_init_15 (fun H locs hP hD hS => ?_)
  have hP : va_P D vwCl (wW h q5 cA (fun _ => 0, 0, 0, 0, 0)) H := hP
  have hD : va_D A (wW h q5 cA (fun _ => 0, 0, 0, 0, 0)) := hD
  refine lv_aload_n hx hb dX0_init_18 rfl (lv_at hl 0 rfl) ?_
  refine lv_iconst (v := 0) hx hb dX0_init_19 (by decide) ?_
  refine va_put (D := D) (ci := 0) (v := .int 0) (ty := .int) (C := RX0) (T := TX0) (N := 5) hx hb hts iw_X0_init tyX0 tyX0_ok nmX0 hown hK hP hD hS 0 rfl rfl 2 (by decide) (hts (.fieldLink RX0 17 "WordMill" "next" "I") (by decide +kernel)) (fun _ h9 => h9) rfl (by decide +kernel) rfl rfl (Nat.le_of_ble_eq_true rfl) dX0_init_20 (fun H locs hP hD hS => ?_)
  have hP : va_P D vwCl (wW h q5 cA (fun _ => 0, 0, 0, 0, 0)) H := hP
  have hD : va_D A (wW h q5 cA (fun _ => 0, 0, 0, 0, 0)) := hD
  refine lv_aload_n hx hb dX0_init_23 rfl (lv_at hl 0 rfl) ?_
  refine lv_iconst (v := 0) hx hb dX0_init_24 (by decide) ?_
  refine va_put (D := D) (ci := 0) (v := .int 0) (ty := .int) (C := RX0) (T := TX0) (N := 5) hx hb hts iw_X0_init tyX0 tyX0_ok nmX0 hown hK hP hD hS 0 rfl rfl 3 (by decide) (hts (.fieldLink RX0 20 "WordMill" "doneInAll" "I") (by decide +kernel)) (fun _ h9 => h9) rfl (by decide +kernel) rfl rfl (Nat.le_of_ble_eq_true rfl) dX0_init_25 (fun H locs hP hD hS => ?_)
  have hP : va_P D vwCl (wW h q5 cA (fun _ => 0, 0, 0, 0, 0)) H := hP
  have hD : va_D A (wW h q5 cA (fun _ => 0, 0, 0, 0, 0)) := hD
  refine lv_aload_n hx hb dX0_init_28 rfl (lv_at hl 0 rfl) ?_
  refine lv_iconst (v := 0) hx hb dX0_init_29 (by decide) ?_
  refine va_put (D := D) (ci := 0) (v := .int 0) (ty := .int) (C := RX0) (T := TX0) (N := 5) hx hb hts iw_X0_init tyX0 tyX0_ok nmX0 hown hK hP hD hS 0 rfl rfl 4 (by decide) (hts (.fieldLink RX0 23 "WordMill" "doneInRun" "I") (by decide +kernel)) (fun _ h9 => h9) rfl (by decide +kernel) rfl rfl (Nat.le_of_ble_eq_true rfl) dX0_init_30 (fun H locs hP hD hS => ?_)
  have hP : va_P D vwCl (wW h q5 cA (fun _ => 0, 0, 0, 0, 0)) H := hP
  have hD : va_D A (wW h q5 cA (fun _ => 0, 0, 0, 0, 0)) := hD
  exact W.vret hx hb hr (fun t ht hW => ⟨⟨(q5, cA), rfl, trivial, by rw [ht]; exact hP, va_K.moved hW.alike hK, hD⟩, hS.F ht⟩) hS.2.2 dX0_init_33
set_option maxHeartbeats 400000 in
set_option maxRecDepth 100000 in
theorem kX1_init (l : Launch) (D : va_G) (h sz : Nat) : Met l yX1_init wsX1_init ({ frames := 1, cells := 1, slots := 4096, locals := 12 }) (va_Pc [.ref h] (fun U => U.heap.size = sz ∧ va_P D vwCl (r0 h) U.heap ∧ va_K D vwCl [] U ∧ va_D (fun _ => True) (r0 h))) (va_Qv (fun _ : Nat × ClassId => True) (fun u t => va_P D vwCl (rW h u.1 u.2 (fun _ => 0, 0, 0, 0, 0, 0)) t.heap ∧ va_K D vwCl [(u.2, .long)] t ∧ va_D (va_A (r0 h) sz) (rW h u.1 u.2 (fun _ => 0, 0, 0, 0, 0, 0))) (va_A (r0 h) sz)) 1 4096 (va_A (r0 h) sz) := by
  refine Met.ofW (cc := cX1_init) (maxL := 1) (ret := none) (by decide) rfl ?_
  intro p e s m args below meth c s₁ B hml hv
  obtain ⟨rfl, hsz, hP, hK, hD0⟩ := hv
  have hx := B.exec
  have hb := B.bytes
  have hr := B.returns
  have hts := atoms_spec (ws := wsX1_init) B.pre
  have hown : s.vm.findClass RX1 = some m.cls := findClass_of_methodNamed B.named
  have hlocks := B.notSynchronized
  have hin : meth.name = "<init>" := (name_of_methodNamed B.named B.method).1
  subst hsz
  have hD := hD0.self (sz := s.heap.size)
  generalize hAe : va_A (r0 h) s.heap.size = A at hD ⊢
  have hA : ∀ q : Nat, s.heap.size ≤ q → A q := fun q h => by rw [← hAe]; exact Or.inr h
  have hS : va_S A s.heap s.heap [] := va_S.rf
  have hl := lv_entry ([.ref h]) (n := 1) (Nat.le_of_ble_eq_true rfl)
  rw [lg_entry_eq]
  generalize (lg_sl ([.ref h]) ++ List.replicate (1 - (lg_sl ([.ref h])).length) Slot.unset).toArray = ls at hl ⊢
  have hl : lv_has ls 1 [(0, .ref h)] := hl
  refine lv_aload_n hx hb dX1_init_0 rfl (lv_at hl 0 rfl) ?_
  refine W.objInit hx hb hown (hts (.methodLink RX1 1 objectInit) (by decide +kernel)) (hts (.instanceMethod objectInit) (by decide +kernel)) (hts _ (List.mem_of_getElem? (i := 3) rfl)) rfl (by rw [hml]; exact hl.1) rfl dX1_init_1 (Nat.le_of_ble_eq_true rfl) (Nat.le_of_ble_eq_true rfl) ?_
  refine W.eq (g2 := F0 m 4 ls []) rfl ?_
  refine lv_aload_n hx hb dX1_init_4 rfl (lv_at hl 0 rfl) ?_
  refine lv_sipush (v := 4096) hx hb dX1_init_5 (by decide) ?_
  refine va_newa (atype := .long) (n := 4096) (ty := .long) (a0 := (4096, .inr (.inl (fun _ => 0)))) (N' := 4096) hx hb (hts (.arrayClass .long) (by decide +kernel)) rfl hK hP hD hS hA (fun cA => newl cA) (by decide) n4096 b4096 (le_1 rfl) (le_4096 rfl) dX1_init_8 (fun q5 cA H hK hP hD hS => ?_)
  have hP : va_P D vwCl [(h, .inr (1, [.int 0, .null, .int 0, .int 0, .int 0, .long 0])), (q5, .inl (cA, 4096, .inr (.inl (fun _ => 0))))] H := hP
  have hD : va_D A [(h, .inr (1, [.int 0, .null, .int 0, .int 0, .int 0, .long 0])), (q5, .inl (cA, 4096, .inr (.inl (fun _ => 0))))] := hD
  have hK : va_K D vwCl [(cA, .long)] s := hK
  refine va_putF (D := D) (ci := 1) (v := .ref q5) (ty := .array .long) (C := RX1) (T := TX1) (N := 6) hx hb hts iw_X1_init tyX1 tyX1_ok nmX1 hown hK hP hD hS 0 rfl rfl 1 (by decide) (hts (.fieldLink RX1 7 "WordMillModel" "memory" "[J") (by decide +kernel)) (fun _ h9 => h9) rfl hin rfl (by decide +kernel) rfl rfl (Nat.le_of_ble_eq_true rfl) dX1_init_10 (fun H locs hP hD hS => ?_)
  have hP : va_P D vwCl (rW h q5 cA (fun _ => 0, 0, 0, 0, 0, 0)) H := hP
  have hD : va_D A (rW h q5 cA (fun _ => 0, 0, 0, 0, 0, 0)) := hD
  exact W.vret hx hb hr (fun t ht hW => ⟨⟨(q5, cA), rfl, trivial, by rw [ht]; exact hP, va_K.moved hW.alike hK, hD⟩, hS.F ht⟩) hS.2.2 dX1_init_13
