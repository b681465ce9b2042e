set_option maxHeartbeats 4000000 in
set_option maxRecDepth 100000 in
theorem kX0_number (l : Launch) (w : Int64)  : PS l yX0_number wsX0_number ({ frames := 0, cells := 0, slots := 0, locals := 0 }) [.long w] rv_l (fun _ => True) := by
  refine ps_of (cc := cX0_number) (maxL := 2) (ret := (some .long)) (by decide) rfl (Nat.le_of_ble_eq_true rfl) ?_
  intro p e s m below meth c ls C hl
  obtain ⟨hx, hb, hr, hml, hown, hts, hlocks⟩ := C
  have hl : lv_has ls 2 [(0, .long w)] := hl
  refine lv_lload_n hx hb dX0_number_0 rfl (lv_at hl 0 rfl) ?_
  refine lv_bipush (v := 28) hx hb dX0_number_1 (by decide) ?_
  refine lv_lshl hx hb dX0_number_3 rfl ?_
  refine lv_bipush (v := 28) hx hb dX0_number_4 (by decide) ?_
  refine lv_lshr hx hb dX0_number_6 rfl ?_
  exact ps_lret hx hb hr hlocks dX0_number_7 trivial
set_option maxHeartbeats 4000000 in
set_option maxRecDepth 100000 in
theorem kX0_rightHalf (l : Launch) (w : Int64)  : PS l yX0_rightHalf wsX0_rightHalf ({ frames := 0, cells := 0, slots := 0, locals := 0 }) [.long w] rv_i (fun r => vp_in r 262144 ∧ (w = 0 → r = 0)) := by
  refine ps_of (cc := cX0_rightHalf) (maxL := 2) (ret := (some .int)) (by decide) rfl (Nat.le_of_ble_eq_true rfl) ?_
  intro p e s m below meth c ls C hl
  obtain ⟨hx, hb, hr, hml, hown, hts, hlocks⟩ := C
  have hl : lv_has ls 2 [(0, .long w)] := hl
  refine lv_lload_n hx hb dX0_rightHalf_0 rfl (lv_at hl 0 rfl) ?_
  refine lv_l2i hx hb dX0_rightHalf_1 rfl ?_
  refine lv_ldc (v := 262143) hx hb hown (hts (.constant RX0 34 262143) (by decide +kernel)) dX0_rightHalf_2 ?_
  refine lv_iand hx hb dX0_rightHalf_4 ?_
  exact ps_iret hx hb hr hlocks dX0_rightHalf_5 ⟨vp_and18 _, fun hz => by subst hz; decide⟩
set_option maxHeartbeats 4000000 in
set_option maxRecDepth 100000 in
theorem kX0_leftHalf (l : Launch) (w : Int64)  : PS l yX0_leftHalf wsX0_leftHalf ({ frames := 0, cells := 0, slots := 0, locals := 0 }) [.long w] rv_i (fun r => vp_in r 262144) := by
  refine ps_of (cc := cX0_leftHalf) (maxL := 2) (ret := (some .int)) (by decide) rfl (Nat.le_of_ble_eq_true rfl) ?_
  intro p e s m below meth c ls C hl
  obtain ⟨hx, hb, hr, hml, hown, hts, hlocks⟩ := C
  have hl : lv_has ls 2 [(0, .long w)] := hl
  refine lv_lload_n hx hb dX0_leftHalf_0 rfl (lv_at hl 0 rfl) ?_
  refine lv_bipush (v := 18) hx hb dX0_leftHalf_1 (by decide) ?_
  refine lv_lshr hx hb dX0_leftHalf_3 rfl ?_
  refine lv_l2i hx hb dX0_leftHalf_4 rfl ?_
  refine lv_ldc (v := 262143) hx hb hown (hts (.constant RX0 34 262143) (by decide +kernel)) dX0_leftHalf_5 ?_
  refine lv_iand hx hb dX0_leftHalf_7 ?_
  exact ps_iret hx hb hr hlocks dX0_leftHalf_8 (vp_and18 _)
set_option maxHeartbeats 4000000 in
set_option maxRecDepth 100000 in
theorem kX0_isIndirect (l : Launch) (w : Int64)  : PS l yX0_isIndirect wsX0_isIndirect ({ frames := 0, cells := 0, slots := 0, locals := 0 }) [.long w] rv_i (fun r => w = 0 → r = 0) := by
  refine ps_of (cc := cX0_isIndirect) (maxL := 2) (ret := (some .boolean)) (by decide) rfl (Nat.le_of_ble_eq_true rfl) ?_
  intro p e s m below meth c ls C hl
  obtain ⟨hx, hb, hr, hml, hown, hts, hlocks⟩ := C
  have hl : lv_has ls 2 [(0, .long w)] := hl
  refine lv_lload_n hx hb dX0_isIndirect_0 rfl (lv_at hl 0 rfl) ?_
  refine lv_bipush (v := 22) hx hb dX0_isIndirect_1 (by decide) ?_
  refine lv_lshr hx hb dX0_isIndirect_3 rfl ?_
  refine lv_lconst (v := 1) hx hb dX0_isIndirect_4 (by decide) ?_
  refine lv_land hx hb dX0_isIndirect_5 ?_
  refine lv_lconst (v := 1) hx hb dX0_isIndirect_6 (by decide) ?_
  refine W.lcmp hx hb dX0_isIndirect_7 ?_
  refine lv_if_ne (tgt := 15) hx hb dX0_isIndirect_8 (by decide) (fun c_8 => ?_) (fun c_8 => ?_)
  · refine lv_iconst (v := 0) hx hb dX0_isIndirect_15 (by decide) ?_
    exact ps_zret hx hb hr hlocks dX0_isIndirect_16 rfl (fun _ => rfl)
  · refine lv_iconst (v := 1) hx hb dX0_isIndirect_11 (by decide) ?_
    refine lv_goto (tgt := 16) hx hb dX0_isIndirect_12 (by decide) ?_
    exact ps_zret hx hb hr hlocks dX0_isIndirect_16 rfl (fun hz => absurd c_8 (by subst hz; decide))
set_option maxHeartbeats 4000000 in
set_option maxRecDepth 100000 in
theorem kX0_isOfHalves (l : Launch) (op : Int32)  : PS l yX0_isOfHalves wsX0_isOfHalves ({ frames := 0, cells := 0, slots := 0, locals := 0 }) [.int op] rv_i (fun _ => True) := by
  refine ps_of (cc := cX0_isOfHalves) (maxL := 1) (ret := (some .boolean)) (by decide) rfl (Nat.le_of_ble_eq_true rfl) ?_
  intro p e s m below meth c ls C hl
  obtain ⟨hx, hb, hr, hml, hown, hts, hlocks⟩ := C
  have hl : lv_has ls 1 [(0, .int op)] := hl
  refine lv_iload_n hx hb dX0_isOfHalves_0 rfl (lv_at hl 0 rfl) ?_
  refine lv_sipush (v := 320) hx hb dX0_isOfHalves_1 (by decide) ?_
  refine lv_icmp_lt (tgt := 11) hx hb dX0_isOfHalves_4 (by decide) (fun c_4 => ?_) (fun c_4 => ?_)
  · refine lv_iconst (v := 0) hx hb dX0_isOfHalves_11 (by decide) ?_
    exact ps_zret hx hb hr hlocks dX0_isOfHalves_12 rfl trivial
  · refine lv_iconst (v := 1) hx hb dX0_isOfHalves_7 (by decide) ?_
    refine lv_goto (tgt := 12) hx hb dX0_isOfHalves_8 (by decide) ?_
    exact ps_zret hx hb hr hlocks dX0_isOfHalves_12 rfl trivial
set_option maxHeartbeats 4000000 in
set_option maxRecDepth 100000 in
theorem kX0_isTest (l : Launch) (op : Int32)  : PS l yX0_isTest wsX0_isTest ({ frames := 0, cells := 0, slots := 0, locals := 0 }) [.int op] rv_i (fun r => r = 0 ∨ (¬ op < 192 ∧ ¬ 255 < op)) := by
  refine ps_of (cc := cX0_isTest) (maxL := 1) (ret := (some .boolean)) (by decide) rfl (Nat.le_of_ble_eq_true rfl) ?_
  intro p e s m below meth c ls C hl
  obtain ⟨hx, hb, hr, hml, hown, hts, hlocks⟩ := C
  have hl : lv_has ls 1 [(0, .int op)] := hl
  refine lv_iload_n hx hb dX0_isTest_0 rfl (lv_at hl 0 rfl) ?_
  refine lv_sipush (v := 192) hx hb dX0_isTest_1 (by decide) ?_
  refine lv_icmp_lt (tgt := 18) hx hb dX0_isTest_4 (by decide) (fun c_4 => ?_) (fun c_4 => ?_)
  · refine lv_iconst (v := 0) hx hb dX0_isTest_18 (by decide) ?_
    exact ps_zret hx hb hr hlocks dX0_isTest_19 rfl (Or.inl rfl)
  · refine lv_iload_n hx hb dX0_isTest_7 rfl (lv_at hl 0 rfl) ?_
    refine lv_sipush (v := 255) hx hb dX0_isTest_8 (by decide) ?_
    refine lv_icmp_gt (tgt := 18) hx hb dX0_isTest_11 (by decide) (fun c_11 => ?_) (fun c_11 => ?_)
    · refine lv_iconst (v := 0) hx hb dX0_isTest_18 (by decide) ?_
      exact ps_zret hx hb hr hlocks dX0_isTest_19 rfl (Or.inl rfl)
    · refine lv_iconst (v := 1) hx hb dX0_isTest_14 (by decide) ?_
      refine lv_goto (tgt := 19) hx hb dX0_isTest_15 (by decide) ?_
      exact ps_zret hx hb hr hlocks dX0_isTest_19 rfl (Or.inr ⟨c_4, c_11⟩)
set_option maxHeartbeats 4000000 in
set_option maxRecDepth 100000 in
theorem kX0_shifted (l : Launch) (c0 : Int64) (e0 : Int32)  : PS l yX0_shifted wsX0_shifted ({ frames := 0, cells := 0, slots := 0, locals := 0 }) [.long c0, .int e0] rv_l (fun _ => True) := by
  refine ps_of (cc := cX0_shifted) (maxL := 4) (ret := (some .long)) (by decide) rfl (Nat.le_of_ble_eq_true rfl) ?_
  intro p e s m below meth c ls C hl
  obtain ⟨hx, hb, hr, hml, hown, hts, hlocks⟩ := C
  have hl : lv_has ls 4 [(0, .long c0), (2, .int e0)] := hl
  refine lv_iload_n hx hb dX0_shifted_0 rfl (lv_at hl 1 rfl) ?_
  refine lv_bipush (v := 14) hx hb dX0_shifted_1 (by decide) ?_
  refine lv_ishl hx hb dX0_shifted_3 ?_
  refine lv_bipush (v := 14) hx hb dX0_shifted_4 (by decide) ?_
  refine lv_ishr hx hb dX0_shifted_6 ?_
  refine lv_topi (fun x_7 ex_7 => ?_)
  refine lv_istore_n (lv' := [(3, .int x_7), (0, .long c0), (2, .int e0)]) hx hb dX0_shifted_7 rfl hl (by decide) rfl (fun ls hl => ?_)
  refine lv_iload_n hx hb dX0_shifted_8 rfl (lv_at hl 0 rfl) ?_
  refine lv_bipush (v := 36) hx hb dX0_shifted_9 (by decide) ?_
  refine lv_icmp_ge (tgt := 20) hx hb dX0_shifted_11 (by decide) (fun c_11 => ?_) (fun c_11 => ?_)
  · refine lv_lconst (v := 0) hx hb dX0_shifted_20 (by decide) ?_
    exact ps_lret hx hb hr hlocks dX0_shifted_21 trivial
  · refine lv_iload_n hx hb dX0_shifted_14 rfl (lv_at hl 0 rfl) ?_
    refine lv_bipush (v := -36) hx hb dX0_shifted_15 (by decide) ?_
    refine lv_icmp_gt (tgt := 22) hx hb dX0_shifted_17 (by decide) (fun c_17 => ?_) (fun c_17 => ?_)
    · refine lv_iload_n hx hb dX0_shifted_22 rfl (lv_at hl 0 rfl) ?_
      refine lv_if_lt (tgt := 32) hx hb dX0_shifted_23 (by decide) (fun c_23 => ?_) (fun c_23 => ?_)
      · refine lv_lload_n hx hb dX0_shifted_32 rfl (lv_at hl 1 rfl) ?_
        refine lv_iload_n hx hb dX0_shifted_33 rfl (lv_at hl 0 rfl) ?_
        refine lv_ineg hx hb dX0_shifted_34 ?_
        refine lv_lshr hx hb dX0_shifted_35 rfl ?_
        exact ps_lret hx hb hr hlocks dX0_shifted_36 trivial
      · refine lv_lload_n hx hb dX0_shifted_26 rfl (lv_at hl 1 rfl) ?_
        refine lv_iload_n hx hb dX0_shifted_27 rfl (lv_at hl 0 rfl) ?_
        refine lv_lshl hx hb dX0_shifted_28 rfl ?_
        refine lv_goto (tgt := 36) hx hb dX0_shifted_29 (by decide) ?_
        exact ps_lret hx hb hr hlocks dX0_shifted_36 trivial
    · refine lv_lconst (v := 0) hx hb dX0_shifted_20 (by decide) ?_
      exact ps_lret hx hb hr hlocks dX0_shifted_21 trivial
set_option maxHeartbeats 4000000 in
set_option maxRecDepth 100000 in
theorem kX0_ofHalves (l : Launch) (op : Int32) (c0 : Int64) (o0 : Int64)  : PS l yX0_ofHalves wsX0_ofHalves ({ frames := 1, cells := 0, slots := 0, locals := 21 }) [.int op, .long c0, .long o0] rv_l (fun _ => True) := by
  refine ps_of (cc := cX0_ofHalves) (maxL := 5) (ret := (some .long)) (by decide) rfl (Nat.le_of_ble_eq_true rfl) ?_
  intro p e s m below meth c ls C hl
  obtain ⟨hx, hb, hr, hml, hown, hts, hlocks⟩ := C
  have hl : lv_has ls 5 [(0, .int op), (1, .long c0), (3, .long o0)] := hl
  refine lv_iload_n hx hb dX0_ofHalves_0 rfl (lv_at hl 0 rfl) ?_
  by_cases k_320 : op = 320
  · subst k_320
    refine lv_lookup (tgt := 52) hx hb dX0_ofHalves_1 (by decide) rfl (by decide) ?_
    refine lv_lload_n hx hb dX0_ofHalves_52 rfl (lv_at hl 2 rfl) ?_
    refine lv_ldc2 (v := 68719214592) hx hb hown (hts (.constantLong RX0 130 68719214592) (by decide +kernel)) dX0_ofHalves_53 ?_
    refine lv_land hx hb dX0_ofHalves_56 ?_
    refine lv_lload_n hx hb dX0_ofHalves_57 rfl (lv_at hl 1 rfl) ?_
    refine ps_goi (As := [.long c0]) (rest := [.long (o0 &&& 68719214592)]) ⟨hx, hb, hml, hown, hts⟩ (kX0_rightHalf l c0) (va_cwS 1 hts gX0_ofHalves_X0_rightHalf rfl rfl rfl (by decide +kernel) ⟨by decide, by decide⟩) rfl hl.1 rfl (Nat.le_of_ble_eq_true rfl) dX0_ofHalves_58 ⟨Nat.zero_le _, Nat.zero_le _⟩ (fun r_58 q_58 => ?_)
    refine lv_i2l hx hb dX0_ofHalves_61 rfl ?_
    refine lv_lor hx hb dX0_ofHalves_62 ?_
    exact ps_lret hx hb hr hlocks dX0_ofHalves_63 trivial
  by_cases k_324 : op = 324
  · subst k_324
    refine lv_lookup (tgt := 64) hx hb dX0_ofHalves_1 (by decide) rfl (by decide) ?_
    refine lv_lload_n hx hb dX0_ofHalves_64 rfl (lv_at hl 2 rfl) ?_
    refine ps_goi (As := [.long o0]) (rest := []) ⟨hx, hb, hml, hown, hts⟩ (kX0_rightHalf l o0) (va_cwS 1 hts gX0_ofHalves_X0_rightHalf rfl rfl rfl (by decide +kernel) ⟨by decide, by decide⟩) rfl hl.1 rfl (Nat.le_of_ble_eq_true rfl) dX0_ofHalves_65 ⟨Nat.zero_le _, Nat.zero_le _⟩ (fun r_65 q_65 => ?_)
    refine lv_i2l hx hb dX0_ofHalves_68 rfl ?_
    refine lv_bipush (v := 18) hx hb dX0_ofHalves_69 (by decide) ?_
    refine lv_lshl hx hb dX0_ofHalves_71 rfl ?_
    refine lv_lload_n hx hb dX0_ofHalves_72 rfl (lv_at hl 1 rfl) ?_
    refine ps_goi (As := [.long c0]) (rest := [.long ((r_65 : Int32).toInt64 <<< ((18 : Int32).toInt64 &&& 63))]) ⟨hx, hb, hml, hown, hts⟩ (kX0_rightHalf l c0) (va_cwS 1 hts gX0_ofHalves_X0_rightHalf rfl rfl rfl (by decide +kernel) ⟨by decide, by decide⟩) rfl hl.1 rfl (Nat.le_of_ble_eq_true rfl) dX0_ofHalves_73 ⟨Nat.zero_le _, Nat.zero_le _⟩ (fun r_73 q_73 => ?_)
    refine lv_i2l hx hb dX0_ofHalves_76 rfl ?_
    refine lv_lor hx hb dX0_ofHalves_77 ?_
    exact ps_lret hx hb hr hlocks dX0_ofHalves_78 trivial
  by_cases k_352 : op = 352
  · subst k_352
    refine lv_lookup (tgt := 79) hx hb dX0_ofHalves_1 (by decide) rfl (by decide) ?_
    refine lv_lload_n hx hb dX0_ofHalves_79 rfl (lv_at hl 1 rfl) ?_
    refine lv_ldc2 (v := 68719214592) hx hb hown (hts (.constantLong RX0 130 68719214592) (by decide +kernel)) dX0_ofHalves_80 ?_
    refine lv_land hx hb dX0_ofHalves_83 ?_
    refine lv_lload_n hx hb dX0_ofHalves_84 rfl (lv_at hl 2 rfl) ?_
    refine ps_goi (As := [.long o0]) (rest := [.long (c0 &&& 68719214592)]) ⟨hx, hb, hml, hown, hts⟩ (kX0_rightHalf l o0) (va_cwS 1 hts gX0_ofHalves_X0_rightHalf rfl rfl rfl (by decide +kernel) ⟨by decide, by decide⟩) rfl hl.1 rfl (Nat.le_of_ble_eq_true rfl) dX0_ofHalves_85 ⟨Nat.zero_le _, Nat.zero_le _⟩ (fun r_85 q_85 => ?_)
    refine lv_i2l hx hb dX0_ofHalves_88 rfl ?_
    refine lv_lor hx hb dX0_ofHalves_89 ?_
    exact ps_lret hx hb hr hlocks dX0_ofHalves_90 trivial
  by_cases k_356 : op = 356
  · subst k_356
    refine lv_lookup (tgt := 91) hx hb dX0_ofHalves_1 (by decide) rfl (by decide) ?_
    refine lv_lload_n hx hb dX0_ofHalves_91 rfl (lv_at hl 1 rfl) ?_
    refine lv_ldc2 (v := 68719214592) hx hb hown (hts (.constantLong RX0 130 68719214592) (by decide +kernel)) dX0_ofHalves_92 ?_
    refine lv_land hx hb dX0_ofHalves_95 ?_
    refine lv_lload_n hx hb dX0_ofHalves_96 rfl (lv_at hl 2 rfl) ?_
    refine ps_goi (As := [.long o0]) (rest := [.long (c0 &&& 68719214592)]) ⟨hx, hb, hml, hown, hts⟩ (kX0_leftHalf l o0) (va_cwS 1 hts gX0_ofHalves_X0_leftHalf rfl rfl rfl (by decide +kernel) ⟨by decide, by decide⟩) rfl hl.1 rfl (Nat.le_of_ble_eq_true rfl) dX0_ofHalves_97 ⟨Nat.zero_le _, Nat.zero_le _⟩ (fun r_97 q_97 => ?_)
    refine lv_i2l hx hb dX0_ofHalves_100 rfl ?_
    refine lv_lor hx hb dX0_ofHalves_101 ?_
    exact ps_lret hx hb hr hlocks dX0_ofHalves_102 trivial
  by_cases k_360 : op = 360
  · subst k_360
    refine lv_lookup (tgt := 103) hx hb dX0_ofHalves_1 (by decide) rfl (by decide) ?_
    refine lv_lload_n hx hb dX0_ofHalves_103 rfl (lv_at hl 2 rfl) ?_
    refine ps_goi (As := [.long o0]) (rest := []) ⟨hx, hb, hml, hown, hts⟩ (kX0_rightHalf l o0) (va_cwS 1 hts gX0_ofHalves_X0_rightHalf rfl rfl rfl (by decide +kernel) ⟨by decide, by decide⟩) rfl hl.1 rfl (Nat.le_of_ble_eq_true rfl) dX0_ofHalves_104 ⟨Nat.zero_le _, Nat.zero_le _⟩ (fun r_104 q_104 => ?_)
    refine lv_i2l hx hb dX0_ofHalves_107 rfl ?_
    exact ps_lret hx hb hr hlocks dX0_ofHalves_108 trivial
  refine lv_lookup (off := 108) (tgt := 109) hx hb dX0_ofHalves_1 (by decide) ((lv_osw k_320 (by decide)).trans <| (lv_osw k_324 (by decide)).trans <| (lv_osw k_352 (by decide)).trans <| (lv_osw k_356 (by decide)).trans <| (lv_osw k_360 (by decide)).trans <| rfl) (by decide) ?_
  refine lv_lload_n hx hb dX0_ofHalves_109 rfl (lv_at hl 2 rfl) ?_
  refine ps_goi (As := [.long o0]) (rest := []) ⟨hx, hb, hml, hown, hts⟩ (kX0_leftHalf l o0) (va_cwS 1 hts gX0_ofHalves_X0_leftHalf rfl rfl rfl (by decide +kernel) ⟨by decide, by decide⟩) rfl hl.1 rfl (Nat.le_of_ble_eq_true rfl) dX0_ofHalves_110 ⟨Nat.zero_le _, Nat.zero_le _⟩ (fun r_110 q_110 => ?_)
  refine lv_i2l hx hb dX0_ofHalves_113 rfl ?_
  exact ps_lret hx hb hr hlocks dX0_ofHalves_114 trivial
set_option maxHeartbeats 4000000 in
set_option maxRecDepth 100000 in
theorem kX0_ofWords (l : Launch) (op : Int32) (c0 : Int64) (o0 : Int64)  : PS l yX0_ofWords wsX0_ofWords ({ frames := 1, cells := 0, slots := 0, locals := 23 }) [.int op, .long c0, .long o0] rv_l (fun _ => True) := by
  refine ps_of (cc := cX0_ofWords) (maxL := 5) (ret := (some .long)) (by decide) rfl (Nat.le_of_ble_eq_true rfl) ?_
  intro p e s m below meth c ls C hl
  obtain ⟨hx, hb, hr, hml, hown, hts, hlocks⟩ := C
  have hl : lv_has ls 5 [(0, .int op), (1, .long c0), (3, .long o0)] := hl
  refine lv_iload_n hx hb dX0_ofWords_0 rfl (lv_at hl 0 rfl) ?_
  by_cases k_132 : op = 132
  · subst k_132
    refine lv_lookup (tgt := 156) hx hb dX0_ofWords_1 (by decide) rfl (by decide) ?_
    refine lv_lload_n hx hb dX0_ofWords_156 rfl (lv_at hl 2 rfl) ?_
    refine lv_bipush (v := 18) hx hb dX0_ofWords_157 (by decide) ?_
    refine lv_lshl hx hb dX0_ofWords_159 rfl ?_
    refine lv_lload_n hx hb dX0_ofWords_160 rfl (lv_at hl 2 rfl) ?_
    refine ps_goi (As := [.long o0]) (rest := [.long (o0 <<< ((18 : Int32).toInt64 &&& 63))]) ⟨hx, hb, hml, hown, hts⟩ (kX0_leftHalf l o0) (va_cwS 1 hts gX0_ofWords_X0_leftHalf rfl rfl rfl (by decide +kernel) ⟨by decide, by decide⟩) rfl hl.1 rfl (Nat.le_of_ble_eq_true rfl) dX0_ofWords_161 ⟨Nat.zero_le _, Nat.zero_le _⟩ (fun r_161 q_161 => ?_)
    refine lv_i2l hx hb dX0_ofWords_164 rfl ?_
    refine lv_lor hx hb dX0_ofWords_165 ?_
    exact ps_lret hx hb hr hlocks dX0_ofWords_166 trivial
  by_cases k_136 : op = 136
  · subst k_136
    refine lv_lookup (tgt := 167) hx hb dX0_ofWords_1 (by decide) rfl (by decide) ?_
    refine lv_lload_n hx hb dX0_ofWords_167 rfl (lv_at hl 2 rfl) ?_
    refine lv_lneg hx hb dX0_ofWords_168 ?_
    exact ps_lret hx hb hr hlocks dX0_ofWords_169 trivial
  by_cases k_140 : op = 140
  · subst k_140
    refine lv_lookup (tgt := 170) hx hb dX0_ofWords_1 (by decide) rfl (by decide) ?_
    refine lv_lload_n hx hb dX0_ofWords_170 rfl (lv_at hl 2 rfl) ?_
    refine ps_gol (As := [.long o0]) (rest := []) ⟨hx, hb, hml, hown, hts⟩ (kX0_number l o0) (va_cwS 1 hts gX0_ofWords_X0_number rfl rfl rfl (by decide +kernel) ⟨by decide, by decide⟩) rfl hl.1 rfl (Nat.le_of_ble_eq_true rfl) dX0_ofWords_171 ⟨Nat.zero_le _, Nat.zero_le _⟩ (fun r_171 q_171 => ?_)
    refine va_mabs_long hx hb (hml.trans hl.1.symm) hown (hts (.methodLink RX0 119 Lib.MathLoose.abs_long.x) (by decide +kernel)) (hts (.static Lib.MathLoose.abs_long.x) (by decide +kernel)) (hts (.initialized "java/lang/Math") (by decide +kernel)) (hts (.code Lib.MathLoose.abs_long.x Lib.MathLoose.abs_long.code 2 (some .long)) (by decide +kernel)) (by decide) (by decide) (Nat.zero_le _) (Nat.zero_le _) dX0_ofWords_174 ?_
    exact ps_lret hx hb hr hlocks dX0_ofWords_177 trivial
  by_cases k_144 : op = 144
  · subst k_144
    refine lv_lookup (tgt := 178) hx hb dX0_ofWords_1 (by decide) rfl (by decide) ?_
    refine lv_lload_n hx hb dX0_ofWords_178 rfl (lv_at hl 1 rfl) ?_
    refine lv_lload_n hx hb dX0_ofWords_179 rfl (lv_at hl 2 rfl) ?_
    refine lv_lmul hx hb dX0_ofWords_180 ?_
    exact ps_lret hx hb hr hlocks dX0_ofWords_181 trivial
  by_cases k_145 : op = 145
  · subst k_145
    refine lv_lookup (tgt := 178) hx hb dX0_ofWords_1 (by decide) rfl (by decide) ?_
    refine lv_lload_n hx hb dX0_ofWords_178 rfl (lv_at hl 1 rfl) ?_
    refine lv_lload_n hx hb dX0_ofWords_179 rfl (lv_at hl 2 rfl) ?_
    refine lv_lmul hx hb dX0_ofWords_180 ?_
    exact ps_lret hx hb hr hlocks dX0_ofWords_181 trivial
  by_cases k_162 : op = 162
  · subst k_162
    refine lv_lookup (tgt := 182) hx hb dX0_ofWords_1 (by decide) rfl (by decide) ?_
    refine lv_lload_n hx hb dX0_ofWords_182 rfl (lv_at hl 1 rfl) ?_
    refine lv_lload_n hx hb dX0_ofWords_183 rfl (lv_at hl 2 rfl) ?_
    refine lv_l2i hx hb dX0_ofWords_184 rfl ?_
    refine ps_gol (As := [.long c0, .int ((o0 : Int64).toInt32)]) (rest := []) ⟨hx, hb, hml, hown, hts⟩ (kX0_shifted l c0 ((o0 : Int64).toInt32)) (va_cwS 2 hts gX0_ofWords_X0_shifted rfl rfl rfl (by decide +kernel) ⟨by decide, by decide⟩) rfl hl.1 rfl (Nat.le_of_ble_eq_true rfl) dX0_ofWords_185 ⟨Nat.zero_le _, Nat.zero_le _⟩ (fun r_185 q_185 => ?_)
    exact ps_lret hx hb hr hlocks dX0_ofWords_188 trivial
  by_cases k_184 : op = 184
  · subst k_184
    refine lv_lookup (tgt := 189) hx hb dX0_ofWords_1 (by decide) rfl (by decide) ?_
    refine lv_lload_n hx hb dX0_ofWords_189 rfl (lv_at hl 1 rfl) ?_
    refine lv_lload_n hx hb dX0_ofWords_190 rfl (lv_at hl 2 rfl) ?_
    refine lv_ladd hx hb dX0_ofWords_191 ?_
    exact ps_lret hx hb hr hlocks dX0_ofWords_192 trivial
  by_cases k_185 : op = 185
  · subst k_185
    refine lv_lookup (tgt := 189) hx hb dX0_ofWords_1 (by decide) rfl (by decide) ?_
    refine lv_lload_n hx hb dX0_ofWords_189 rfl (lv_at hl 1 rfl) ?_
    refine lv_lload_n hx hb dX0_ofWords_190 rfl (lv_at hl 2 rfl) ?_
    refine lv_ladd hx hb dX0_ofWords_191 ?_
    exact ps_lret hx hb hr hlocks dX0_ofWords_192 trivial
  by_cases k_188 : op = 188
  · subst k_188
    refine lv_lookup (tgt := 193) hx hb dX0_ofWords_1 (by decide) rfl (by decide) ?_
    refine lv_lload_n hx hb dX0_ofWords_193 rfl (lv_at hl 1 rfl) ?_
    refine lv_lload_n hx hb dX0_ofWords_194 rfl (lv_at hl 2 rfl) ?_
    refine lv_lsub hx hb dX0_ofWords_195 ?_
    exact ps_lret hx hb hr hlocks dX0_ofWords_196 trivial
  by_cases k_189 : op = 189
  · subst k_189
    refine lv_lookup (tgt := 193) hx hb dX0_ofWords_1 (by decide) rfl (by decide) ?_
    refine lv_lload_n hx hb dX0_ofWords_193 rfl (lv_at hl 1 rfl) ?_
    refine lv_lload_n hx hb dX0_ofWords_194 rfl (lv_at hl 2 rfl) ?_
    refine lv_lsub hx hb dX0_ofWords_195 ?_
    exact ps_lret hx hb hr hlocks dX0_ofWords_196 trivial
  by_cases k_256 : op = 256
  · subst k_256
    refine lv_lookup (tgt := 197) hx hb dX0_ofWords_1 (by decide) rfl (by decide) ?_
    refine lv_lconst (v := 0) hx hb dX0_ofWords_197 (by decide) ?_
    exact ps_lret hx hb hr hlocks dX0_ofWords_198 trivial
  by_cases k_260 : op = 260
  · subst k_260
    refine lv_lookup (tgt := 199) hx hb dX0_ofWords_1 (by decide) rfl (by decide) ?_
    refine lv_lload_n hx hb dX0_ofWords_199 rfl (lv_at hl 1 rfl) ?_
    refine lv_lload_n hx hb dX0_ofWords_200 rfl (lv_at hl 2 rfl) ?_
    refine lv_land hx hb dX0_ofWords_201 ?_
    exact ps_lret hx hb hr hlocks dX0_ofWords_202 trivial
  by_cases k_261 : op = 261
  · subst k_261
    refine lv_lookup (tgt := 199) hx hb dX0_ofWords_1 (by decide) rfl (by decide) ?_
    refine lv_lload_n hx hb dX0_ofWords_199 rfl (lv_at hl 1 rfl) ?_
    refine lv_lload_n hx hb dX0_ofWords_200 rfl (lv_at hl 2 rfl) ?_
    refine lv_land hx hb dX0_ofWords_201 ?_
    exact ps_lret hx hb hr hlocks dX0_ofWords_202 trivial
  by_cases k_280 : op = 280
  · subst k_280
    refine lv_lookup (tgt := 203) hx hb dX0_ofWords_1 (by decide) rfl (by decide) ?_
    refine lv_lload_n hx hb dX0_ofWords_203 rfl (lv_at hl 1 rfl) ?_
    refine lv_lload_n hx hb dX0_ofWords_204 rfl (lv_at hl 2 rfl) ?_
    refine lv_lxor hx hb dX0_ofWords_205 ?_
    exact ps_lret hx hb hr hlocks dX0_ofWords_206 trivial
  by_cases k_281 : op = 281
  · subst k_281
    refine lv_lookup (tgt := 203) hx hb dX0_ofWords_1 (by decide) rfl (by decide) ?_
    refine lv_lload_n hx hb dX0_ofWords_203 rfl (lv_at hl 1 rfl) ?_
    refine lv_lload_n hx hb dX0_ofWords_204 rfl (lv_at hl 2 rfl) ?_
    refine lv_lxor hx hb dX0_ofWords_205 ?_
    exact ps_lret hx hb hr hlocks dX0_ofWords_206 trivial
  by_cases k_284 : op = 284
  · subst k_284
    refine lv_lookup (tgt := 207) hx hb dX0_ofWords_1 (by decide) rfl (by decide) ?_
    refine lv_lload_n hx hb dX0_ofWords_207 rfl (lv_at hl 1 rfl) ?_
    refine lv_lload_n hx hb dX0_ofWords_208 rfl (lv_at hl 2 rfl) ?_
    refine lv_lor hx hb dX0_ofWords_209 ?_
    exact ps_lret hx hb hr hlocks dX0_ofWords_210 trivial
  by_cases k_285 : op = 285
  · subst k_285
    refine lv_lookup (tgt := 207) hx hb dX0_ofWords_1 (by decide) rfl (by decide) ?_
    refine lv_lload_n hx hb dX0_ofWords_207 rfl (lv_at hl 1 rfl) ?_
    refine lv_lload_n hx hb dX0_ofWords_208 rfl (lv_at hl 2 rfl) ?_
    refine lv_lor hx hb dX0_ofWords_209 ?_
    exact ps_lret hx hb hr hlocks dX0_ofWords_210 trivial
  by_cases k_296 : op = 296
  · subst k_296
    refine lv_lookup (tgt := 211) hx hb dX0_ofWords_1 (by decide) rfl (by decide) ?_
    refine lv_lload_n hx hb dX0_ofWords_211 rfl (lv_at hl 1 rfl) ?_
    refine lv_ldc2 (v := -1) hx hb hown (hts (.constantLong RX0 128 (-1)) (by decide +kernel)) dX0_ofWords_212 ?_
    refine lv_lxor hx hb dX0_ofWords_215 ?_
    exact ps_lret hx hb hr hlocks dX0_ofWords_216 trivial
  refine lv_lookup (off := 216) (tgt := 217) hx hb dX0_ofWords_1 (by decide) ((lv_osw k_132 (by decide)).trans <| (lv_osw k_136 (by decide)).trans <| (lv_osw k_140 (by decide)).trans <| (lv_osw k_144 (by decide)).trans <| (lv_osw k_145 (by decide)).trans <| (lv_osw k_162 (by decide)).trans <| (lv_osw k_184 (by decide)).trans <| (lv_osw k_185 (by decide)).trans <| (lv_osw k_188 (by decide)).trans <| (lv_osw k_189 (by decide)).trans <| (lv_osw k_256 (by decide)).trans <| (lv_osw k_260 (by decide)).trans <| (lv_osw k_261 (by decide)).trans <| (lv_osw k_280 (by decide)).trans <| (lv_osw k_281 (by decide)).trans <| (lv_osw k_284 (by decide)).trans <| (lv_osw k_285 (by decide)).trans <| (lv_osw k_296 (by decide)).trans <| rfl) (by decide) ?_
  refine lv_lload_n hx hb dX0_ofWords_217 rfl (lv_at hl 2 rfl) ?_
  exact ps_lret hx hb hr hlocks dX0_ofWords_218 trivial
set_option maxHeartbeats 4000000 in
set_option maxRecDepth 100000 in
theorem kX0_holds (l : Launch) (cd : Int32) (x0 : Int64) (y0 : Int64)  : PS l yX0_holds wsX0_holds ({ frames := 1, cells := 0, slots := 0, locals := 21 }) [.int cd, .long x0, .long y0] rv_i (fun _ => True) := by
  refine ps_of (cc := cX0_holds) (maxL := 10) (ret := (some .boolean)) (by decide) rfl (Nat.le_of_ble_eq_true rfl) ?_
  intro p e s m below meth c ls C hl
  obtain ⟨hx, hb, hr, hml, hown, hts, hlocks⟩ := C
  have hl : lv_has ls 10 [(0, .int cd), (1, .long x0), (3, .long y0)] := hl
  refine lv_lload_n hx hb dX0_holds_0 rfl (lv_at hl 1 rfl) ?_
  refine ps_gol (As := [.long x0]) (rest := []) ⟨hx, hb, hml, hown, hts⟩ (kX0_number l x0) (va_cwS 1 hts gX0_holds_X0_number rfl rfl rfl (by decide +kernel) ⟨by decide, by decide⟩) rfl hl.1 rfl (Nat.le_of_ble_eq_true rfl) dX0_holds_1 ⟨Nat.zero_le _, Nat.zero_le _⟩ (fun r_1 q_1 => ?_)
  refine lv_lstore (lv' := [(5, .long r_1), (0, .int cd), (1, .long x0), (3, .long y0)]) hx hb dX0_holds_4 hl (by decide) rfl (fun ls hl => ?_)
  refine lv_lload_n hx hb dX0_holds_6 rfl (lv_at hl 3 rfl) ?_
  refine ps_gol (As := [.long y0]) (rest := []) ⟨hx, hb, hml, hown, hts⟩ (kX0_number l y0) (va_cwS 1 hts gX0_holds_X0_number rfl rfl rfl (by decide +kernel) ⟨by decide, by decide⟩) rfl hl.1 rfl (Nat.le_of_ble_eq_true rfl) dX0_holds_7 ⟨Nat.zero_le _, Nat.zero_le _⟩ (fun r_7 q_7 => ?_)
  refine lv_lstore (lv' := [(7, .long r_7), (5, .long r_1), (0, .int cd), (1, .long x0), (3, .long y0)]) hx hb dX0_holds_10 hl (by decide) rfl (fun ls hl => ?_)
  refine lv_iload_n hx hb dX0_holds_12 rfl (lv_at hl 2 rfl) ?_
  refine lv_iconst (v := 1) hx hb dX0_holds_13 (by decide) ?_
  refine lv_iand hx hb dX0_holds_14 ?_
  refine lv_if_eq (tgt := 26) hx hb dX0_holds_15 (by decide) (fun c_15 => ?_) (fun c_15 => ?_)
  · refine lv_iload_n hx hb dX0_holds_26 rfl (lv_at hl 2 rfl) ?_
    refine lv_iconst (v := 2) hx hb dX0_holds_27 (by decide) ?_
    refine lv_iand hx hb dX0_holds_28 ?_
    refine lv_if_eq (tgt := 44) hx hb dX0_holds_29 (by decide) (fun c_29 => ?_) (fun c_29 => ?_)
    · refine lv_iconst (v := 0) hx hb dX0_holds_44 (by decide) ?_
      refine lv_istore (lv' := [(9, .int 0), (7, .long r_7), (5, .long r_1), (0, .int cd), (1, .long x0), (3, .long y0)]) hx hb dX0_holds_45 hl (by decide) rfl (fun ls hl => ?_)
      refine lv_iload hx hb dX0_holds_47 (lv_at hl 0 rfl) ?_
      refine lv_iload_n hx hb dX0_holds_49 rfl (lv_at hl 3 rfl) ?_
      refine lv_iconst (v := 4) hx hb dX0_holds_50 (by decide) ?_
      refine lv_iand hx hb dX0_holds_51 ?_
      refine lv_if_eq (tgt := 59) hx hb dX0_holds_52 (by decide) (fun c_52 => ?_) (fun c_52 => ?_)
      · refine lv_iconst (v := 0) hx hb dX0_holds_59 (by decide) ?_
        refine lv_icmp_eq (tgt := 67) hx hb dX0_holds_60 (by decide) (fun c_60 => ?_) (fun c_60 => ?_)
        · refine lv_iconst (v := 0) hx hb dX0_holds_67 (by decide) ?_
          exact ps_zret hx hb hr hlocks dX0_holds_68 rfl trivial
        · exact absurd c_60 (by decide)
      · refine lv_iconst (v := 1) hx hb dX0_holds_55 (by decide) ?_
        refine lv_goto (tgt := 60) hx hb dX0_holds_56 (by decide) ?_
        refine lv_icmp_eq (tgt := 67) hx hb dX0_holds_60 (by decide) (fun c_60 => ?_) (fun c_60 => ?_)
        · exact absurd c_60 (by decide)
        · refine lv_iconst (v := 1) hx hb dX0_holds_63 (by decide) ?_
          refine lv_goto (tgt := 68) hx hb dX0_holds_64 (by decide) ?_
          exact ps_zret hx hb hr hlocks dX0_holds_68 rfl trivial
    · refine lv_lload hx hb dX0_holds_32 (lv_at hl 1 rfl) ?_
      refine lv_lload hx hb dX0_holds_34 (lv_at hl 0 rfl) ?_
      refine W.lcmp hx hb dX0_holds_36 ?_
      refine lv_if_ne (tgt := 44) hx hb dX0_holds_37 (by decide) (fun c_37 => ?_) (fun c_37 => ?_)
      · refine lv_iconst (v := 0) hx hb dX0_holds_44 (by decide) ?_
        refine lv_istore (lv' := [(9, .int 0), (7, .long r_7), (5, .long r_1), (0, .int cd), (1, .long x0), (3, .long y0)]) hx hb dX0_holds_45 hl (by decide) rfl (fun ls hl => ?_)
        refine lv_iload hx hb dX0_holds_47 (lv_at hl 0 rfl) ?_
        refine lv_iload_n hx hb dX0_holds_49 rfl (lv_at hl 3 rfl) ?_
        refine lv_iconst (v := 4) hx hb dX0_holds_50 (by decide) ?_
        refine lv_iand hx hb dX0_holds_51 ?_
        refine lv_if_eq (tgt := 59) hx hb dX0_holds_52 (by decide) (fun c_52 => ?_) (fun c_52 => ?_)
        · refine lv_iconst (v := 0) hx hb dX0_holds_59 (by decide) ?_
          refine lv_icmp_eq (tgt := 67) hx hb dX0_holds_60 (by decide) (fun c_60 => ?_) (fun c_60 => ?_)
          · refine lv_iconst (v := 0) hx hb dX0_holds_67 (by decide) ?_
            exact ps_zret hx hb hr hlocks dX0_holds_68 rfl trivial
          · exact absurd c_60 (by decide)
        · refine lv_iconst (v := 1) hx hb dX0_holds_55 (by decide) ?_
          refine lv_goto (tgt := 60) hx hb dX0_holds_56 (by decide) ?_
          refine lv_icmp_eq (tgt := 67) hx hb dX0_holds_60 (by decide) (fun c_60 => ?_) (fun c_60 => ?_)
          · exact absurd c_60 (by decide)
          · refine lv_iconst (v := 1) hx hb dX0_holds_63 (by decide) ?_
            refine lv_goto (tgt := 68) hx hb dX0_holds_64 (by decide) ?_
            exact ps_zret hx hb hr hlocks dX0_holds_68 rfl trivial
      · refine lv_iconst (v := 1) hx hb dX0_holds_40 (by decide) ?_
        refine lv_goto (tgt := 45) hx hb dX0_holds_41 (by decide) ?_
        refine lv_istore (lv' := [(9, .int 1), (7, .long r_7), (5, .long r_1), (0, .int cd), (1, .long x0), (3, .long y0)]) hx hb dX0_holds_45 hl (by decide) rfl (fun ls hl => ?_)
        refine lv_iload hx hb dX0_holds_47 (lv_at hl 0 rfl) ?_
        refine lv_iload_n hx hb dX0_holds_49 rfl (lv_at hl 3 rfl) ?_
        refine lv_iconst (v := 4) hx hb dX0_holds_50 (by decide) ?_
        refine lv_iand hx hb dX0_holds_51 ?_
        refine lv_if_eq (tgt := 59) hx hb dX0_holds_52 (by decide) (fun c_52 => ?_) (fun c_52 => ?_)
        · refine lv_iconst (v := 0) hx hb dX0_holds_59 (by decide) ?_
          refine lv_icmp_eq (tgt := 67) hx hb dX0_holds_60 (by decide) (fun c_60 => ?_) (fun c_60 => ?_)
          · exact absurd c_60 (by decide)
          · refine lv_iconst (v := 1) hx hb dX0_holds_63 (by decide) ?_
            refine lv_goto (tgt := 68) hx hb dX0_holds_64 (by decide) ?_
            exact ps_zret hx hb hr hlocks dX0_holds_68 rfl trivial
        · refine lv_iconst (v := 1) hx hb dX0_holds_55 (by decide) ?_
          refine lv_goto (tgt := 60) hx hb dX0_holds_56 (by decide) ?_
          refine lv_icmp_eq (tgt := 67) hx hb dX0_holds_60 (by decide) (fun c_60 => ?_) (fun c_60 => ?_)
          · refine lv_iconst (v := 0) hx hb dX0_holds_67 (by decide) ?_
            exact ps_zret hx hb hr hlocks dX0_holds_68 rfl trivial
          · exact absurd c_60 (by decide)
  · refine lv_lload hx hb dX0_holds_18 (lv_at hl 1 rfl) ?_
    refine lv_lload hx hb dX0_holds_20 (lv_at hl 0 rfl) ?_
    refine W.lcmp hx hb dX0_holds_22 ?_
    refine lv_if_lt (tgt := 40) hx hb dX0_holds_23 (by decide) (fun c_23 => ?_) (fun c_23 => ?_)
    · refine lv_iconst (v := 1) hx hb dX0_holds_40 (by decide) ?_
      refine lv_goto (tgt := 45) hx hb dX0_holds_41 (by decide) ?_
      refine lv_istore (lv' := [(9, .int 1), (7, .long r_7), (5, .long r_1), (0, .int cd), (1, .long x0), (3, .long y0)]) hx hb dX0_holds_45 hl (by decide) rfl (fun ls hl => ?_)
      refine lv_iload hx hb dX0_holds_47 (lv_at hl 0 rfl) ?_
      refine lv_iload_n hx hb dX0_holds_49 rfl (lv_at hl 3 rfl) ?_
      refine lv_iconst (v := 4) hx hb dX0_holds_50 (by decide) ?_
      refine lv_iand hx hb dX0_holds_51 ?_
      refine lv_if_eq (tgt := 59) hx hb dX0_holds_52 (by decide) (fun c_52 => ?_) (fun c_52 => ?_)
      · refine lv_iconst (v := 0) hx hb dX0_holds_59 (by decide) ?_
        refine lv_icmp_eq (tgt := 67) hx hb dX0_holds_60 (by decide) (fun c_60 => ?_) (fun c_60 => ?_)
        · exact absurd c_60 (by decide)
        · refine lv_iconst (v := 1) hx hb dX0_holds_63 (by decide) ?_
          refine lv_goto (tgt := 68) hx hb dX0_holds_64 (by decide) ?_
          exact ps_zret hx hb hr hlocks dX0_holds_68 rfl trivial
      · refine lv_iconst (v := 1) hx hb dX0_holds_55 (by decide) ?_
        refine lv_goto (tgt := 60) hx hb dX0_holds_56 (by decide) ?_
        refine lv_icmp_eq (tgt := 67) hx hb dX0_holds_60 (by decide) (fun c_60 => ?_) (fun c_60 => ?_)
        · refine lv_iconst (v := 0) hx hb dX0_holds_67 (by decide) ?_
          exact ps_zret hx hb hr hlocks dX0_holds_68 rfl trivial
        · exact absurd c_60 (by decide)
    · refine lv_iload_n hx hb dX0_holds_26 rfl (lv_at hl 2 rfl) ?_
      refine lv_iconst (v := 2) hx hb dX0_holds_27 (by decide) ?_
      refine lv_iand hx hb dX0_holds_28 ?_
      refine lv_if_eq (tgt := 44) hx hb dX0_holds_29 (by decide) (fun c_29 => ?_) (fun c_29 => ?_)
      · refine lv_iconst (v := 0) hx hb dX0_holds_44 (by decide) ?_
        refine lv_istore (lv' := [(9, .int 0), (7, .long r_7), (5, .long r_1), (0, .int cd), (1, .long x0), (3, .long y0)]) hx hb dX0_holds_45 hl (by decide) rfl (fun ls hl => ?_)
        refine lv_iload hx hb dX0_holds_47 (lv_at hl 0 rfl) ?_
        refine lv_iload_n hx hb dX0_holds_49 rfl (lv_at hl 3 rfl) ?_
        refine lv_iconst (v := 4) hx hb dX0_holds_50 (by decide) ?_
        refine lv_iand hx hb dX0_holds_51 ?_
        refine lv_if_eq (tgt := 59) hx hb dX0_holds_52 (by decide) (fun c_52 => ?_) (fun c_52 => ?_)
        · refine lv_iconst (v := 0) hx hb dX0_holds_59 (by decide) ?_
          refine lv_icmp_eq (tgt := 67) hx hb dX0_holds_60 (by decide) (fun c_60 => ?_) (fun c_60 => ?_)
          · refine lv_iconst (v := 0) hx hb dX0_holds_67 (by decide) ?_
            exact ps_zret hx hb hr hlocks dX0_holds_68 rfl trivial
          · exact absurd c_60 (by decide)
        · refine lv_iconst (v := 1) hx hb dX0_holds_55 (by decide) ?_
          refine lv_goto (tgt := 60) hx hb dX0_holds_56 (by decide) ?_
          refine lv_icmp_eq (tgt := 67) hx hb dX0_holds_60 (by decide) (fun c_60 => ?_) (fun c_60 => ?_)
          · exact absurd c_60 (by decide)
          · refine lv_iconst (v := 1) hx hb dX0_holds_63 (by decide) ?_
            refine lv_goto (tgt := 68) hx hb dX0_holds_64 (by decide) ?_
            exact ps_zret hx hb hr hlocks dX0_holds_68 rfl trivial
      · refine lv_lload hx hb dX0_holds_32 (lv_at hl 1 rfl) ?_
        refine lv_lload hx hb dX0_holds_34 (lv_at hl 0 rfl) ?_
        refine W.lcmp hx hb dX0_holds_36 ?_
        refine lv_if_ne (tgt := 44) hx hb dX0_holds_37 (by decide) (fun c_37 => ?_) (fun c_37 => ?_)
        · refine lv_iconst (v := 0) hx hb dX0_holds_44 (by decide) ?_
          refine lv_istore (lv' := [(9, .int 0), (7, .long r_7), (5, .long r_1), (0, .int cd), (1, .long x0), (3, .long y0)]) hx hb dX0_holds_45 hl (by decide) rfl (fun ls hl => ?_)
          refine lv_iload hx hb dX0_holds_47 (lv_at hl 0 rfl) ?_
          refine lv_iload_n hx hb dX0_holds_49 rfl (lv_at hl 3 rfl) ?_
          refine lv_iconst (v := 4) hx hb dX0_holds_50 (by decide) ?_
          refine lv_iand hx hb dX0_holds_51 ?_
          refine lv_if_eq (tgt := 59) hx hb dX0_holds_52 (by decide) (fun c_52 => ?_) (fun c_52 => ?_)
          · refine lv_iconst (v := 0) hx hb dX0_holds_59 (by decide) ?_
            refine lv_icmp_eq (tgt := 67) hx hb dX0_holds_60 (by decide) (fun c_60 => ?_) (fun c_60 => ?_)
            · refine lv_iconst (v := 0) hx hb dX0_holds_67 (by decide) ?_
              exact ps_zret hx hb hr hlocks dX0_holds_68 rfl trivial
            · exact absurd c_60 (by decide)
          · refine lv_iconst (v := 1) hx hb dX0_holds_55 (by decide) ?_
            refine lv_goto (tgt := 60) hx hb dX0_holds_56 (by decide) ?_
            refine lv_icmp_eq (tgt := 67) hx hb dX0_holds_60 (by decide) (fun c_60 => ?_) (fun c_60 => ?_)
            · exact absurd c_60 (by decide)
            · refine lv_iconst (v := 1) hx hb dX0_holds_63 (by decide) ?_
              refine lv_goto (tgt := 68) hx hb dX0_holds_64 (by decide) ?_
              exact ps_zret hx hb hr hlocks dX0_holds_68 rfl trivial
        · refine lv_iconst (v := 1) hx hb dX0_holds_40 (by decide) ?_
          refine lv_goto (tgt := 45) hx hb dX0_holds_41 (by decide) ?_
          refine lv_istore (lv' := [(9, .int 1), (7, .long r_7), (5, .long r_1), (0, .int cd), (1, .long x0), (3, .long y0)]) hx hb dX0_holds_45 hl (by decide) rfl (fun ls hl => ?_)
          refine lv_iload hx hb dX0_holds_47 (lv_at hl 0 rfl) ?_
          refine lv_iload_n hx hb dX0_holds_49 rfl (lv_at hl 3 rfl) ?_
          refine lv_iconst (v := 4) hx hb dX0_holds_50 (by decide) ?_
          refine lv_iand hx hb dX0_holds_51 ?_
          refine lv_if_eq (tgt := 59) hx hb dX0_holds_52 (by decide) (fun c_52 => ?_) (fun c_52 => ?_)
          · refine lv_iconst (v := 0) hx hb dX0_holds_59 (by decide) ?_
            refine lv_icmp_eq (tgt := 67) hx hb dX0_holds_60 (by decide) (fun c_60 => ?_) (fun c_60 => ?_)
            · exact absurd c_60 (by decide)
            · refine lv_iconst (v := 1) hx hb dX0_holds_63 (by decide) ?_
              refine lv_goto (tgt := 68) hx hb dX0_holds_64 (by decide) ?_
              exact ps_zret hx hb hr hlocks dX0_holds_68 rfl trivial
          · refine lv_iconst (v := 1) hx hb dX0_holds_55 (by decide) ?_
            refine lv_goto (tgt := 60) hx hb dX0_holds_56 (by decide) ?_
            refine lv_icmp_eq (tgt := 67) hx hb dX0_holds_60 (by decide) (fun c_60 => ?_) (fun c_60 => ?_)
            · refine lv_iconst (v := 0) hx hb dX0_holds_67 (by decide) ?_
              exact ps_zret hx hb hr hlocks dX0_holds_68 rfl trivial
            · exact absurd c_60 (by decide)
theorem iw_X0_store : ∀ w ∈ u_ws RX0 TX0 5, w ∈ wsX0_store := by decide +kernel
set_option maxHeartbeats 4000000 in
set_option maxRecDepth 100000 in
theorem kX0_store (l : Launch) (D : va_G) (h a : Nat) (cA : ClassId) (u : wS) (hI : wI u) (i : Int32) (w : Int64) (hi : vp_in i 4096) : MM l yX0_store wsX0_store ({ frames := 0, cells := 0, slots := 0, locals := 0 }) D vwCl [(cA, .long)] (wW h a cA) (wA h a) u [.ref h, .int i, .long w] rv_v (fun _ u' => wI u') := by
  refine mm_of (cc := cX0_store) (maxL := 4) (ret := none) (by decide) rfl (Nat.le_of_ble_eq_true rfl) (wA_in h a cA u) ?_
  intro p e s m below meth c ls C hl hP hK hD hS
  obtain ⟨hx, hb, hr, hml, hown, hts, hlocks⟩ := C
  have hl : lv_has ls 4 [(0, .ref h), (1, .int i), (2, .long w)] := hl
  refine lv_aload_n hx hb dX0_store_0 rfl (lv_at hl 0 rfl) ?_
  refine va_get (D := D) (ci := 0) (v := .ref a) (C := RX0) (T := TX0) (N := 5) hx hb hts iw_X0_store hown hK hP 0 rfl rfl 0 (by decide) (hts (.fieldLink RX0 9 "WordMill" "memory" "[J") (by decide +kernel)) (fun _ h9 => h9) rfl dX0_store_1 ?_
  refine lv_iload_n hx hb dX0_store_4 rfl (lv_at hl 1 rfl) ?_
  refine lv_lload_n hx hb dX0_store_5 rfl (lv_at hl 2 rfl) ?_
  refine lv_ldc2 (v := 68719476735) hx hb hown (hts (.constantLong RX0 152 68719476735) (by decide +kernel)) dX0_store_6 ?_
  refine lv_land hx hb dX0_store_9 ?_
  refine va_last hx hb hK hP hD hS 1 0 rfl rfl hi dX0_store_10 (fun H locs hP hD hS => ?_)
  have hP : va_P D vwCl (wW h a cA ((vp_updL u.1 (i : Int32).toNatClampNeg (w &&& 68719476735)), u.2.1, u.2.2.1, u.2.2.2.1, u.2.2.2.2)) H := hP
  have hD : va_D (wA h a) (wW h a cA ((vp_updL u.1 (i : Int32).toNatClampNeg (w &&& 68719476735)), u.2.1, u.2.2.1, u.2.2.2.1, u.2.2.2.2)) := hD
  generalize (vp_updL u.1 (i : Int32).toNatClampNeg (w &&& 68719476735)) = f_10 at hP hD
  exact mm_vret (mw := wW h a cA) (u1 := (f_10, u.2.1, u.2.2.1, u.2.2.2.1, u.2.2.2.2)) hx hb hr hlocks hP hK hD hS dX0_store_11 ⟨hI.1, hI.2⟩
theorem iw_X0_jump : ∀ w ∈ u_ws RX0 TX0 5, w ∈ wsX0_jump := by decide +kernel
set_option maxHeartbeats 4000000 in
set_option maxRecDepth 100000 in
theorem kX0_jump (l : Launch) (D : va_G) (h a : Nat) (cA : ClassId) (u : wS) (hI : wI u) (e0 : Int32)  : MM l yX0_jump wsX0_jump ({ frames := 0, cells := 0, slots := 0, locals := 0 }) D vwCl [(cA, .long)] (wW h a cA) (wA h a) u [.ref h, .int e0] rv_i (fun _ u' => wI u') := by
  refine mm_of (cc := cX0_jump) (maxL := 2) (ret := (some .int)) (by decide) rfl (Nat.le_of_ble_eq_true rfl) (wA_in h a cA u) ?_
  intro p e s m below meth c ls C hl hP hK hD hS
  obtain ⟨hx, hb, hr, hml, hown, hts, hlocks⟩ := C
  have hl : lv_has ls 2 [(0, .ref h), (1, .int e0)] := hl
  refine lv_aload_n hx hb dX0_jump_0 rfl (lv_at hl 0 rfl) ?_
  refine lv_iload_n hx hb dX0_jump_1 rfl (lv_at hl 1 rfl) ?_
  refine lv_sipush (v := 4095) hx hb dX0_jump_2 (by decide) ?_
  refine lv_iand hx hb dX0_jump_5 ?_
  refine lv_topi (fun x_6 ex_6 => ?_)
  refine va_put (D := D) (ci := 0) (v := .int x_6) (ty := .int) (C := RX0) (T := TX0) (N := 5) hx hb hts iw_X0_jump tyX0 tyX0_ok nmX0 hown hK hP hD hS 0 rfl rfl 2 (by decide) (hts (.fieldLink RX0 17 "WordMill" "next" "I") (by decide +kernel)) (fun _ h9 => h9) rfl (by decide +kernel) rfl rfl (Nat.le_of_ble_eq_true rfl) dX0_jump_6 (fun H locs hP hD hS => ?_)
  have hP : va_P D vwCl (wW h a cA (u.1, u.2.1, x_6, u.2.2.2.1, u.2.2.2.2)) H := hP
  have hD : va_D (wA h a) (wW h a cA (u.1, u.2.1, x_6, u.2.2.2.1, u.2.2.2.2)) := hD
  refine lv_iconst (v := 0) hx hb dX0_jump_9 (by decide) ?_
  exact mm_iret (mw := wW h a cA) (u1 := (u.1, u.2.1, x_6, u.2.2.2.1, u.2.2.2.2)) hx hb hr hlocks hP hK hD hS dX0_jump_10 ⟨hI.1, (by rw [ex_6]; exact vp_and4095 _)⟩
theorem iw_X0_indexed : ∀ w ∈ u_ws RX0 TX0 5, w ∈ wsX0_indexed := by decide +kernel
set_option maxHeartbeats 4000000 in
set_option maxRecDepth 100000 in
theorem kX0_indexed (l : Launch) (D : va_G) (h a : Nat) (cA : ClassId) (u : wS) (hI : wI u) (w : Int64)  : MM l yX0_indexed wsX0_indexed ({ frames := 1, cells := 0, slots := 0, locals := 21 }) D vwCl [(cA, .long)] (wW h a cA) (wA h a) u [.ref h, .long w] rv_i (fun r u' => wI u' ∧ vp_in r 262144 ∧ (w = 0 → r = 0)) := by
  refine mm_of (cc := cX0_indexed) (maxL := 5) (ret := (some .int)) (by decide) rfl (Nat.le_of_ble_eq_true rfl) (wA_in h a cA u) ?_
  intro p e s m below meth c ls C hl hP hK hD hS
  obtain ⟨hx, hb, hr, hml, hown, hts, hlocks⟩ := C
  have hl : lv_has ls 5 [(0, .ref h), (1, .long w)] := hl
  refine lv_lload_n hx hb dX0_indexed_0 rfl (lv_at hl 1 rfl) ?_
  refine lv_bipush (v := 18) hx hb dX0_indexed_1 (by decide) ?_
  refine lv_lshr hx hb dX0_indexed_3 rfl ?_
  refine lv_l2i hx hb dX0_indexed_4 rfl ?_
  refine lv_bipush (v := 15) hx hb dX0_indexed_5 (by decide) ?_
  refine lv_iand hx hb dX0_indexed_7 ?_
  refine lv_topi (fun x_8 ex_8 => ?_)
  refine lv_istore_n (lv' := [(3, .int x_8), (0, .ref h), (1, .long w)]) hx hb dX0_indexed_8 rfl hl (by decide) rfl (fun ls hl => ?_)
  refine lv_lload_n hx hb dX0_indexed_9 rfl (lv_at hl 2 rfl) ?_
  refine ps_goi (As := [.long w]) (rest := []) ⟨hx, hb, hml, hown, hts⟩ (kX0_rightHalf l w) (va_cwS 1 hts gX0_indexed_X0_rightHalf rfl rfl rfl (by decide +kernel) ⟨by decide, by decide⟩) rfl hl.1 rfl (Nat.le_of_ble_eq_true rfl) dX0_indexed_10 ⟨Nat.zero_le _, Nat.zero_le _⟩ (fun r_10 q_10 => ?_)
  refine lv_istore (lv' := [(4, .int r_10), (3, .int x_8), (0, .ref h), (1, .long w)]) hx hb dX0_indexed_13 hl (by decide) rfl (fun ls hl => ?_)
  refine lv_iload_n hx hb dX0_indexed_15 rfl (lv_at hl 1 rfl) ?_
  refine lv_if_ne (tgt := 24) hx hb dX0_indexed_16 (by decide) (fun c_16 => ?_) (fun c_16 => ?_)
  · refine lv_iload hx hb dX0_indexed_24 (lv_at hl 0 rfl) ?_
    refine lv_aload_n hx hb dX0_indexed_26 rfl (lv_at hl 2 rfl) ?_
    refine va_get (D := D) (ci := 0) (v := .ref a) (C := RX0) (T := TX0) (N := 5) hx hb hts iw_X0_indexed hown hK hP 0 rfl rfl 0 (by decide) (hts (.fieldLink RX0 9 "WordMill" "memory" "[J") (by decide +kernel)) (fun _ h9 => h9) rfl dX0_indexed_27 ?_
    refine lv_iload_n hx hb dX0_indexed_30 rfl (lv_at hl 1 rfl) ?_
    refine va_lald hx hb hK hP 1 0 rfl rfl (by rw [ex_8]; exact vp_and15 _) dX0_indexed_31 ?_
    refine ps_goi (As := [.long (u.1 (x_8 : Int32).toNatClampNeg)]) (rest := [.int r_10]) ⟨hx, hb, hml, hown, hts⟩ (kX0_rightHalf l (u.1 (x_8 : Int32).toNatClampNeg)) (va_cwS 1 hts gX0_indexed_X0_rightHalf rfl rfl rfl (by decide +kernel) ⟨by decide, by decide⟩) rfl hl.1 rfl (Nat.le_of_ble_eq_true rfl) dX0_indexed_32 ⟨Nat.zero_le _, Nat.zero_le _⟩ (fun r_32 q_32 => ?_)
    refine lv_iadd hx hb dX0_indexed_35 ?_
    refine lv_ldc (v := 262143) hx hb hown (hts (.constant RX0 34 262143) (by decide +kernel)) dX0_indexed_36 ?_
    refine lv_iand hx hb dX0_indexed_38 ?_
    exact mm_iret (mw := wW h a cA) (u1 := (u.1, u.2.1, u.2.2.1, u.2.2.2.1, u.2.2.2.2)) hx hb hr hlocks hP hK hD hS dX0_indexed_39 ⟨⟨hI.1, hI.2⟩, (vp_and18 _), fun hz => absurd (by rw [ex_8, hz]; decide) c_16⟩
  · refine lv_iload hx hb dX0_indexed_19 (lv_at hl 0 rfl) ?_
    refine lv_goto (tgt := 39) hx hb dX0_indexed_21 (by decide) ?_
    exact mm_iret (mw := wW h a cA) (u1 := (u.1, u.2.1, u.2.2.1, u.2.2.2.1, u.2.2.2.2)) hx hb hr hlocks hP hK hD hS dX0_indexed_39 ⟨⟨hI.1, hI.2⟩, q_10⟩
theorem iw_X0_moveTop : ∀ w ∈ u_ws RX0 TX0 5, w ∈ wsX0_moveTop := by decide +kernel
set_option maxHeartbeats 4000000 in
set_option maxRecDepth 100000 in
theorem kX0_moveTop (l : Launch) (D : va_G) (h a : Nat) (cA : ClassId) (u : wS) (hI : wI u) (ac : Int32) (ch : Int32) (hac : vp_in ac 4096) : MM l yX0_moveTop wsX0_moveTop ({ frames := 1, cells := 0, slots := 0, locals := 23 }) D vwCl [(cA, .long)] (wW h a cA) (wA h a) u [.ref h, .int ac, .int ch] rv_v (fun _ u' => wI u') := by
  refine mm_of (cc := cX0_moveTop) (maxL := 5) (ret := none) (by decide) rfl (Nat.le_of_ble_eq_true rfl) (wA_in h a cA u) ?_
  intro p e s m below meth c ls C hl hP hK hD hS
  obtain ⟨hx, hb, hr, hml, hown, hts, hlocks⟩ := C
  have hl : lv_has ls 5 [(0, .ref h), (1, .int ac), (2, .int ch)] := hl
  refine lv_aload_n hx hb dX0_moveTop_0 rfl (lv_at hl 0 rfl) ?_
  refine va_get (D := D) (ci := 0) (v := .ref a) (C := RX0) (T := TX0) (N := 5) hx hb hts iw_X0_moveTop hown hK hP 0 rfl rfl 0 (by decide) (hts (.fieldLink RX0 9 "WordMill" "memory" "[J") (by decide +kernel)) (fun _ h9 => h9) rfl dX0_moveTop_1 ?_
  refine lv_iload_n hx hb dX0_moveTop_4 rfl (lv_at hl 1 rfl) ?_
  refine va_lald hx hb hK hP 1 0 rfl rfl hac dX0_moveTop_5 ?_
  refine lv_topl (fun x_6 ex_6 => ?_)
  refine lv_lstore_n (lv' := [(3, .long x_6), (0, .ref h), (1, .int ac), (2, .int ch)]) hx hb dX0_moveTop_6 rfl hl (by decide) rfl (fun ls hl => ?_)
  refine lv_aload_n hx hb dX0_moveTop_7 rfl (lv_at hl 1 rfl) ?_
  refine lv_iload_n hx hb dX0_moveTop_8 rfl (lv_at hl 2 rfl) ?_
  refine lv_lload_n hx hb dX0_moveTop_9 rfl (lv_at hl 0 rfl) ?_
  refine lv_ldc2 (v := 68719214592) hx hb hown (hts (.constantLong RX0 130 68719214592) (by decide +kernel)) dX0_moveTop_10 ?_
  refine lv_land hx hb dX0_moveTop_13 ?_
  refine lv_lload_n hx hb dX0_moveTop_14 rfl (lv_at hl 0 rfl) ?_
  refine ps_goi (As := [.long x_6]) (rest := [.long (x_6 &&& 68719214592), .int ac, .ref h]) ⟨hx, hb, hml, hown, hts⟩ (kX0_rightHalf l x_6) (va_cwS 1 hts gX0_moveTop_X0_rightHalf rfl rfl rfl (by decide +kernel) ⟨by decide, by decide⟩) rfl hl.1 rfl (Nat.le_of_ble_eq_true rfl) dX0_moveTop_15 ⟨Nat.zero_le _, Nat.zero_le _⟩ (fun r_15 q_15 => ?_)
  refine lv_iload_n hx hb dX0_moveTop_18 rfl (lv_at hl 3 rfl) ?_
  refine lv_iadd hx hb dX0_moveTop_19 ?_
  refine lv_ldc (v := 262143) hx hb hown (hts (.constant RX0 34 262143) (by decide +kernel)) dX0_moveTop_20 ?_
  refine lv_iand hx hb dX0_moveTop_22 ?_
  refine lv_i2l hx hb dX0_moveTop_23 rfl ?_
  refine lv_lor hx hb dX0_moveTop_24 ?_
  refine w_go (rv := rv_v) (As := [.int ac, .long ((x_6 &&& 68719214592) ||| (((r_15 + ch) &&& 262143) : Int32).toInt64)]) (rest := []) ⟨hx, hb, hml, hown, hts⟩ (kX0_store l D h a cA (u.1, u.2.1, u.2.2.1, u.2.2.2.1, u.2.2.2.2) ⟨hI.1, hI.2⟩ ac ((x_6 &&& 68719214592) ||| (((r_15 + ch) &&& 262143) : Int32).toInt64) hac) (cwV 2 hts gX0_moveTop_X0_store rfl rfl rfl (by decide +kernel) ⟨by decide, by decide⟩) hK hP hD hS rfl hl.1 rfl (Nat.le_of_ble_eq_true rfl) dX0_moveTop_25 ⟨Nat.zero_le _, Nat.zero_le _⟩ (fun _ u_25 H locs q_25 hP hD hS => ?_)
  refine W.eq (g2 := F0 m 28 ls []) rfl ?_
  exact mm_vret (mw := wW h a cA) (u1 := (u_25.1, u_25.2.1, u_25.2.2.1, u_25.2.2.2.1, u_25.2.2.2.2)) hx hb hr hlocks hP hK hD hS dX0_moveTop_28 ⟨q_25.1, q_25.2⟩
