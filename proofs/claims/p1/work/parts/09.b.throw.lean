set_option maxHeartbeats 4000000 in
set_option maxRecDepth 100000 in
theorem tX0_put (l : Launch) (hst : l.stackTraces = false) (h : Nat) (i : Int32) (w : Int64) (hi : ¬ vp_in i 4096) : TT l yX0_put wsX0_put ({ frames := 7, cells := 1, slots := 6, locals := 121 }) [.ref h, .int i, .long w] := by
  refine tt_of (cc := cX0_put) (maxL := 4) (ret := none) (by decide) rfl (Nat.le_of_ble_eq_true rfl) ?_
  intro p e s m below meth c ls C hnt hl hz
  obtain ⟨hx, hb, hr, hml, hown, hts, hlocks⟩ := C
  have hl : lv_has ls 4 [(0, .ref h), (1, .int i), (2, .long w)] := hl
  refine lv_iload_n hx hb dX0_put_0 rfl (lv_at hl 1 rfl) ?_
  refine lv_sipush (v := 4095) hx hb dX0_put_1 (by decide) ?_
  exact tt_out (As := [.int i, .int 4095]) (rest := []) ⟨hx, hb, hml, hown, hts⟩ (tX0_refuseOutside l hst i 4095 (out_of hi (by decide))) (va_cwS 2 hts gX0_put_X0_refuseOutside rfl rfl rfl (by decide +kernel) ⟨by decide, by decide⟩) hz hnt hlocks rfl hl.1 rfl (Nat.le_of_ble_eq_true rfl) dX0_put_4 ⟨by decide, by decide⟩

set_option maxHeartbeats 4000000 in
set_option maxRecDepth 100000 in
theorem tX0_word (l : Launch) (hst : l.stackTraces = false) (h : Nat) (i : Int32) (hi : ¬ vp_in i 4096) : TT l yX0_word wsX0_word ({ frames := 7, cells := 1, slots := 6, locals := 121 }) [.ref h, .int i] := by
  refine tt_of (cc := cX0_word) (maxL := 2) (ret := (some .long)) (by decide) rfl (Nat.le_of_ble_eq_true rfl) ?_
  intro p e s m below meth c ls C hnt hl hz
  obtain ⟨hx, hb, hr, hml, hown, hts, hlocks⟩ := C
  have hl : lv_has ls 2 [(0, .ref h), (1, .int i)] := hl
  refine lv_iload_n hx hb dX0_word_0 rfl (lv_at hl 1 rfl) ?_
  refine lv_sipush (v := 4095) hx hb dX0_word_1 (by decide) ?_
  exact tt_out (As := [.int i, .int 4095]) (rest := []) ⟨hx, hb, hml, hown, hts⟩ (tX0_refuseOutside l hst i 4095 (out_of hi (by decide))) (va_cwS 2 hts gX0_word_X0_refuseOutside rfl rfl rfl (by decide +kernel) ⟨by decide, by decide⟩) hz hnt hlocks rfl hl.1 rfl (Nat.le_of_ble_eq_true rfl) dX0_word_4 ⟨by decide, by decide⟩

set_option maxHeartbeats 4000000 in
set_option maxRecDepth 100000 in
theorem tX0_go (l : Launch) (hst : l.stackTraces = false) (h : Nat) (i : Int32) (hi : ¬ vp_in i 4096) : TT l yX0_go wsX0_go ({ frames := 7, cells := 1, slots := 6, locals := 121 }) [.ref h, .int i] := by
  refine tt_of (cc := cX0_go) (maxL := 2) (ret := none) (by decide) rfl (Nat.le_of_ble_eq_true rfl) ?_
  intro p e s m below meth c ls C hnt hl hz
  obtain ⟨hx, hb, hr, hml, hown, hts, hlocks⟩ := C
  have hl : lv_has ls 2 [(0, .ref h), (1, .int i)] := hl
  refine lv_iload_n hx hb dX0_go_0 rfl (lv_at hl 1 rfl) ?_
  refine lv_sipush (v := 4095) hx hb dX0_go_1 (by decide) ?_
  exact tt_out (As := [.int i, .int 4095]) (rest := []) ⟨hx, hb, hml, hown, hts⟩ (tX0_refuseOutside l hst i 4095 (out_of hi (by decide))) (va_cwS 2 hts gX0_go_X0_refuseOutside rfl rfl rfl (by decide +kernel) ⟨by decide, by decide⟩) hz hnt hlocks rfl hl.1 rfl (Nat.le_of_ble_eq_true rfl) dX0_go_4 ⟨by decide, by decide⟩

set_option maxHeartbeats 4000000 in
set_option maxRecDepth 100000 in
theorem tX0_run (l : Launch) (hst : l.stackTraces = false) (h : Nat) (i : Int32) (hi : ¬ okn i) : TT l yX0_run wsX0_run ({ frames := 7, cells := 1, slots := 6, locals := 121 }) [.ref h, .int i] := by
  refine tt_of (cc := cX0_run) (maxL := 4) (ret := (some .int)) (by decide) rfl (Nat.le_of_ble_eq_true rfl) ?_
  intro p e s m below meth c ls C hnt hl hz
  obtain ⟨hx, hb, hr, hml, hown, hts, hlocks⟩ := C
  have hl : lv_has ls 4 [(0, .ref h), (1, .int i)] := hl
  refine lv_iload_n hx hb dX0_run_0 rfl (lv_at hl 1 rfl) ?_
  refine lv_sipush (v := 20000) hx hb dX0_run_1 (by decide) ?_
  exact tt_out (As := [.int i, .int 20000]) (rest := []) ⟨hx, hb, hml, hown, hts⟩ (tX0_refuseOutside l hst i 20000 (by by_cases q : i < 0; exact Or.inl q; exact Or.inr (fun z => hi ⟨q, z⟩))) (va_cwS 2 hts gX0_run_X0_refuseOutside rfl rfl rfl (by decide +kernel) ⟨by decide, by decide⟩) hz hnt hlocks rfl hl.1 rfl (Nat.le_of_ble_eq_true rfl) dX0_run_4 ⟨by decide, by decide⟩

theorem no_le {x k : Int32} (h : ¬ (¬ x < 0 ∧ x ≤ k)) : x < 0 ∨ ¬ x ≤ k := by
  by_cases q : x < 0
  · exact Or.inl q
  · exact Or.inr (fun z => h ⟨q, z⟩)
set_option maxHeartbeats 4000000 in
set_option maxRecDepth 100000 in
theorem tX0_code (l : Launch) (hst : l.stackTraces = false) (h : Nat) (i op ac z0 x0 y0 : Int32) (hi : ¬ okc i op ac x0) : TT l yX0_code wsX0_code ({ frames := 7, cells := 1, slots := 6, locals := 121 }) [.ref h, .int i, .int op, .int ac, .int z0, .int x0, .int y0] := by
  refine tt_of (cc := cX0_code) (maxL := 9) (ret := (some .long)) (by decide) rfl (Nat.le_of_ble_eq_true rfl) ?_
  intro p e s m below meth c ls C hnt hl hz
  obtain ⟨hx, hb, hr, hml, hown, hts, hlocks⟩ := C
  have hl : lv_has ls 9 [(0, .ref h), (1, .int i), (2, .int op), (3, .int ac), (4, .int z0), (5, .int x0), (6, .int y0)] := hl
  refine lv_iload_n hx hb dX0_code_0 rfl (lv_at hl 1 rfl) ?_
  refine lv_sipush (v := 4095) hx hb dX0_code_1 (by decide) ?_
  by_cases h1 : ¬ (vp_in i 4096)
  · exact tt_out (As := [.int i, .int 4095]) (rest := []) ⟨hx, hb, hml, hown, hts⟩ (tX0_refuseOutside l hst i 4095 (out_of h1 (by decide))) (va_cwS 2 hts gX0_code_X0_refuseOutside rfl rfl rfl (by decide +kernel) ⟨by decide, by decide⟩) hz hnt hlocks rfl hl.1 rfl (Nat.le_of_ble_eq_true rfl) dX0_code_4 ⟨by decide, by decide⟩
  have h1 := Classical.not_not.mp h1
  refine ps_gov (As := [.int i, .int 4095]) (rest := []) ⟨hx, hb, hml, hown, hts⟩ (kX0_refuseOutside l i 4095 (in_le h1 (by decide))) (va_cwS 2 hts gX0_code_X0_refuseOutside rfl rfl rfl (by decide +kernel) ⟨by decide, by decide⟩) rfl hl.1 rfl (Nat.le_of_ble_eq_true rfl) dX0_code_4 ⟨Nat.zero_le _, Nat.zero_le _⟩ (fun _ _ => ?_)
  refine lv_iload_n hx hb dX0_code_7 rfl (lv_at hl 2 rfl) ?_
  refine lv_sipush (v := 511) hx hb dX0_code_8 (by decide) ?_
  by_cases h2 : ¬ (¬ op < 0 ∧ op ≤ 511)
  · exact tt_out (As := [.int op, .int 511]) (rest := []) ⟨hx, hb, hml, hown, hts⟩ (tX0_refuseOutside l hst op 511 (no_le h2)) (va_cwS 2 hts gX0_code_X0_refuseOutside rfl rfl rfl (by decide +kernel) ⟨by decide, by decide⟩) hz hnt hlocks rfl hl.1 rfl (Nat.le_of_ble_eq_true rfl) dX0_code_11 ⟨by decide, by decide⟩
  have h2 := Classical.not_not.mp h2
  refine ps_gov (As := [.int op, .int 511]) (rest := []) ⟨hx, hb, hml, hown, hts⟩ (kX0_refuseOutside l op 511 h2) (va_cwS 2 hts gX0_code_X0_refuseOutside rfl rfl rfl (by decide +kernel) ⟨by decide, by decide⟩) rfl hl.1 rfl (Nat.le_of_ble_eq_true rfl) dX0_code_11 ⟨Nat.zero_le _, Nat.zero_le _⟩ (fun _ _ => ?_)
  refine lv_iload_n hx hb dX0_code_14 rfl (lv_at hl 3 rfl) ?_
  refine lv_bipush (v := 15) hx hb dX0_code_15 (by decide) ?_
  by_cases h3 : ¬ (¬ ac < 0 ∧ ac ≤ 15)
  · exact tt_out (As := [.int ac, .int 15]) (rest := []) ⟨hx, hb, hml, hown, hts⟩ (tX0_refuseOutside l hst ac 15 (no_le h3)) (va_cwS 2 hts gX0_code_X0_refuseOutside rfl rfl rfl (by decide +kernel) ⟨by decide, by decide⟩) hz hnt hlocks rfl hl.1 rfl (Nat.le_of_ble_eq_true rfl) dX0_code_17 ⟨by decide, by decide⟩
  have h3 := Classical.not_not.mp h3
  refine ps_gov (As := [.int ac, .int 15]) (rest := []) ⟨hx, hb, hml, hown, hts⟩ (kX0_refuseOutside l ac 15 h3) (va_cwS 2 hts gX0_code_X0_refuseOutside rfl rfl rfl (by decide +kernel) ⟨by decide, by decide⟩) rfl hl.1 rfl (Nat.le_of_ble_eq_true rfl) dX0_code_17 ⟨Nat.zero_le _, Nat.zero_le _⟩ (fun _ _ => ?_)
  refine lv_iload hx hb dX0_code_20 (lv_at hl 5 rfl) ?_
  refine lv_bipush (v := 15) hx hb dX0_code_22 (by decide) ?_
  by_cases h4 : ¬ (¬ x0 < 0 ∧ x0 ≤ 15)
  · exact tt_out (As := [.int x0, .int 15]) (rest := []) ⟨hx, hb, hml, hown, hts⟩ (tX0_refuseOutside l hst x0 15 (no_le h4)) (va_cwS 2 hts gX0_code_X0_refuseOutside rfl rfl rfl (by decide +kernel) ⟨by decide, by decide⟩) hz hnt hlocks rfl hl.1 rfl (Nat.le_of_ble_eq_true rfl) dX0_code_24 ⟨by decide, by decide⟩
  have h4 := Classical.not_not.mp h4
  exact absurd ⟨h1, h2, h3, h4⟩ hi

