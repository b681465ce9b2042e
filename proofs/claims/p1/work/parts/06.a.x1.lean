set_option maxHeartbeats 4000000 in
set_option maxRecDepth 100000 in
theorem kX1_number (l : Launch) (w : Int64)  : PS l yX1_number wsX1_number ({ frames := 0, cells := 0, slots := 0, locals := 0 }) [.long w] rv_l (fun _ => True) := by
  refine ps_of (cc := cX1_number) (maxL := 2) (ret := (some .long)) (by decide) rfl (Nat.le_of_ble_eq_true rfl) ?_
  intro p e s m below meth c ls C hl
  obtain ⟨hx, hb, hr, hml, hown, hts, hlocks⟩ := C
  have hl : lv_has ls 2 [(0, .long w)] := hl
  refine lv_lload_n hx hb dX1_number_0 rfl (lv_at hl 0 rfl) ?_
  refine lv_bipush (v := 28) hx hb dX1_number_1 (by decide) ?_
  refine lv_lshl hx hb dX1_number_3 rfl ?_
  refine lv_bipush (v := 28) hx hb dX1_number_4 (by decide) ?_
  refine lv_lshr hx hb dX1_number_6 rfl ?_
  exact ps_lret hx hb hr hlocks dX1_number_7 trivial
set_option maxHeartbeats 4000000 in
set_option maxRecDepth 100000 in
theorem kX1_half (l : Launch) (w : Int64) (y : Int64)  : PS l yX1_half wsX1_half ({ frames := 0, cells := 0, slots := 0, locals := 0 }) [.long w, .long y] rv_l (fun _ => True) := by
  refine ps_of (cc := cX1_half) (maxL := 4) (ret := (some .long)) (by decide) rfl (Nat.le_of_ble_eq_true rfl) ?_
  intro p e s m below meth c ls C hl
  obtain ⟨hx, hb, hr, hml, hown, hts, hlocks⟩ := C
  have hl : lv_has ls 4 [(0, .long w), (2, .long y)] := hl
  refine lv_lload_n hx hb dX1_half_0 rfl (lv_at hl 0 rfl) ?_
  refine lv_ldc2 (v := -262144) hx hb hown (hts (.constantLong RX1 86 (-262144)) (by decide +kernel)) dX1_half_1 ?_
  refine lv_land hx hb dX1_half_4 ?_
  refine lv_lload_n hx hb dX1_half_5 rfl (lv_at hl 1 rfl) ?_
  refine lv_ldc2 (v := 262143) hx hb hown (hts (.constantLong RX1 31 262143) (by decide +kernel)) dX1_half_6 ?_
  refine lv_land hx hb dX1_half_9 ?_
  refine lv_lor hx hb dX1_half_10 ?_
  exact ps_lret hx hb hr hlocks dX1_half_11 trivial
set_option maxHeartbeats 4000000 in
set_option maxRecDepth 100000 in
theorem kX1_isPlace (l : Launch) (p0 : Int64)  : PS l yX1_isPlace wsX1_isPlace ({ frames := 0, cells := 0, slots := 0, locals := 0 }) [.long p0] rv_i (fun r => (r = 0 ∧ ¬ pl p0) ∨ (r = 1 ∧ pl p0)) := by
  refine ps_of (cc := cX1_isPlace) (maxL := 2) (ret := (some .boolean)) (by decide) rfl (Nat.le_of_ble_eq_true rfl) ?_
  intro p e s m below meth c ls C hl
  obtain ⟨hx, hb, hr, hml, hown, hts, hlocks⟩ := C
  have hl : lv_has ls 2 [(0, .long p0)] := hl
  refine lv_lload_n hx hb dX1_isPlace_0 rfl (lv_at hl 0 rfl) ?_
  refine lv_lconst (v := 0) hx hb dX1_isPlace_1 (by decide) ?_
  refine W.lcmp hx hb dX1_isPlace_2 ?_
  refine lv_if_lt (tgt := 18) hx hb dX1_isPlace_3 (by decide) (fun c_3 => ?_) (fun c_3 => ?_)
  · refine lv_iconst (v := 0) hx hb dX1_isPlace_18 (by decide) ?_
    exact ps_zret hx hb hr hlocks dX1_isPlace_19 rfl (Or.inl ⟨rfl, pl_no0 c_3⟩)
  · refine lv_lload_n hx hb dX1_isPlace_6 rfl (lv_at hl 0 rfl) ?_
    refine lv_ldc2 (v := 4096) hx hb hown (hts (.constantLong RX1 17 4096) (by decide +kernel)) dX1_isPlace_7 ?_
    refine W.lcmp hx hb dX1_isPlace_10 ?_
    refine lv_if_ge (tgt := 18) hx hb dX1_isPlace_11 (by decide) (fun c_11 => ?_) (fun c_11 => ?_)
    · refine lv_iconst (v := 0) hx hb dX1_isPlace_18 (by decide) ?_
      exact ps_zret hx hb hr hlocks dX1_isPlace_19 rfl (Or.inl ⟨rfl, pl_no1 c_11⟩)
    · refine lv_iconst (v := 1) hx hb dX1_isPlace_14 (by decide) ?_
      refine lv_goto (tgt := 19) hx hb dX1_isPlace_15 (by decide) ?_
      exact ps_zret hx hb hr hlocks dX1_isPlace_19 rfl (Or.inr ⟨rfl, pl_yes c_3 c_11⟩)
set_option maxHeartbeats 4000000 in
set_option maxRecDepth 100000 in
theorem kX1_is (l : Launch) (op : Int32) (x0 : Int64) (y0 : Int64)  : PS l yX1_is wsX1_is ({ frames := 0, cells := 0, slots := 0, locals := 0 }) [.int op, .long x0, .long y0] rv_i (fun _ => True) := by
  refine ps_of (cc := cX1_is) (maxL := 5) (ret := (some .boolean)) (by decide) rfl (Nat.le_of_ble_eq_true rfl) ?_
  intro p e s m below meth c ls C hl
  obtain ⟨hx, hb, hr, hml, hown, hts, hlocks⟩ := C
  have hl : lv_has ls 5 [(0, .int op), (1, .long x0), (3, .long y0)] := hl
  refine lv_iload_n hx hb dX1_is_0 rfl (lv_at hl 0 rfl) ?_
  refine lv_bipush (v := 7) hx hb dX1_is_1 (by decide) ?_
  refine lv_iand hx hb dX1_is_3 ?_
  refine lv_topi (fun x_4 ex_4 => ?_)
  by_cases k_0 : x_4 = 0
  · subst k_0
    refine lv_tableIn (tgt := 48) hx hb dX1_is_4 (by decide) (by decide) rfl (by decide) ?_
    refine lv_iconst (v := 0) hx hb dX1_is_48 (by decide) ?_
    exact ps_zret hx hb hr hlocks dX1_is_49 rfl trivial
  by_cases k_1 : x_4 = 1
  · subst k_1
    refine lv_tableIn (tgt := 50) hx hb dX1_is_4 (by decide) (by decide) rfl (by decide) ?_
    refine lv_lload_n hx hb dX1_is_50 rfl (lv_at hl 1 rfl) ?_
    refine lv_lload_n hx hb dX1_is_51 rfl (lv_at hl 2 rfl) ?_
    refine W.lcmp hx hb dX1_is_52 ?_
    refine lv_if_ge (tgt := 60) hx hb dX1_is_53 (by decide) (fun c_53 => ?_) (fun c_53 => ?_)
    · refine lv_iconst (v := 0) hx hb dX1_is_60 (by decide) ?_
      exact ps_zret hx hb hr hlocks dX1_is_61 rfl trivial
    · refine lv_iconst (v := 1) hx hb dX1_is_56 (by decide) ?_
      refine lv_goto (tgt := 61) hx hb dX1_is_57 (by decide) ?_
      exact ps_zret hx hb hr hlocks dX1_is_61 rfl trivial
  by_cases k_2 : x_4 = 2
  · subst k_2
    refine lv_tableIn (tgt := 62) hx hb dX1_is_4 (by decide) (by decide) rfl (by decide) ?_
    refine lv_lload_n hx hb dX1_is_62 rfl (lv_at hl 1 rfl) ?_
    refine lv_lload_n hx hb dX1_is_63 rfl (lv_at hl 2 rfl) ?_
    refine W.lcmp hx hb dX1_is_64 ?_
    refine lv_if_ne (tgt := 72) hx hb dX1_is_65 (by decide) (fun c_65 => ?_) (fun c_65 => ?_)
    · refine lv_iconst (v := 0) hx hb dX1_is_72 (by decide) ?_
      exact ps_zret hx hb hr hlocks dX1_is_73 rfl trivial
    · refine lv_iconst (v := 1) hx hb dX1_is_68 (by decide) ?_
      refine lv_goto (tgt := 73) hx hb dX1_is_69 (by decide) ?_
      exact ps_zret hx hb hr hlocks dX1_is_73 rfl trivial
  by_cases k_3 : x_4 = 3
  · subst k_3
    refine lv_tableIn (tgt := 74) hx hb dX1_is_4 (by decide) (by decide) rfl (by decide) ?_
    refine lv_lload_n hx hb dX1_is_74 rfl (lv_at hl 1 rfl) ?_
    refine lv_lload_n hx hb dX1_is_75 rfl (lv_at hl 2 rfl) ?_
    refine W.lcmp hx hb dX1_is_76 ?_
    refine lv_if_gt (tgt := 84) hx hb dX1_is_77 (by decide) (fun c_77 => ?_) (fun c_77 => ?_)
    · refine lv_iconst (v := 0) hx hb dX1_is_84 (by decide) ?_
      exact ps_zret hx hb hr hlocks dX1_is_85 rfl trivial
    · refine lv_iconst (v := 1) hx hb dX1_is_80 (by decide) ?_
      refine lv_goto (tgt := 85) hx hb dX1_is_81 (by decide) ?_
      exact ps_zret hx hb hr hlocks dX1_is_85 rfl trivial
  by_cases k_4 : x_4 = 4
  · subst k_4
    refine lv_tableIn (tgt := 86) hx hb dX1_is_4 (by decide) (by decide) rfl (by decide) ?_
    refine lv_iconst (v := 1) hx hb dX1_is_86 (by decide) ?_
    exact ps_zret hx hb hr hlocks dX1_is_87 rfl trivial
  by_cases k_5 : x_4 = 5
  · subst k_5
    refine lv_tableIn (tgt := 88) hx hb dX1_is_4 (by decide) (by decide) rfl (by decide) ?_
    refine lv_lload_n hx hb dX1_is_88 rfl (lv_at hl 1 rfl) ?_
    refine lv_lload_n hx hb dX1_is_89 rfl (lv_at hl 2 rfl) ?_
    refine W.lcmp hx hb dX1_is_90 ?_
    refine lv_if_lt (tgt := 98) hx hb dX1_is_91 (by decide) (fun c_91 => ?_) (fun c_91 => ?_)
    · refine lv_iconst (v := 0) hx hb dX1_is_98 (by decide) ?_
      exact ps_zret hx hb hr hlocks dX1_is_99 rfl trivial
    · refine lv_iconst (v := 1) hx hb dX1_is_94 (by decide) ?_
      refine lv_goto (tgt := 99) hx hb dX1_is_95 (by decide) ?_
      exact ps_zret hx hb hr hlocks dX1_is_99 rfl trivial
  by_cases k_6 : x_4 = 6
  · subst k_6
    refine lv_tableIn (tgt := 100) hx hb dX1_is_4 (by decide) (by decide) rfl (by decide) ?_
    refine lv_lload_n hx hb dX1_is_100 rfl (lv_at hl 1 rfl) ?_
    refine lv_lload_n hx hb dX1_is_101 rfl (lv_at hl 2 rfl) ?_
    refine W.lcmp hx hb dX1_is_102 ?_
    refine lv_if_eq (tgt := 110) hx hb dX1_is_103 (by decide) (fun c_103 => ?_) (fun c_103 => ?_)
    · refine lv_iconst (v := 0) hx hb dX1_is_110 (by decide) ?_
      exact ps_zret hx hb hr hlocks dX1_is_111 rfl trivial
    · refine lv_iconst (v := 1) hx hb dX1_is_106 (by decide) ?_
      refine lv_goto (tgt := 111) hx hb dX1_is_107 (by decide) ?_
      exact ps_zret hx hb hr hlocks dX1_is_111 rfl trivial
  refine lv_tableOut (tgt := 112) hx hb dX1_is_4 (tb_out_0_7 k_0 k_1 k_2 k_3 k_4 k_5 k_6) (by decide) ?_
  refine lv_lload_n hx hb dX1_is_112 rfl (lv_at hl 1 rfl) ?_
  refine lv_lload_n hx hb dX1_is_113 rfl (lv_at hl 2 rfl) ?_
  refine W.lcmp hx hb dX1_is_114 ?_
  refine lv_if_le (tgt := 122) hx hb dX1_is_115 (by decide) (fun c_115 => ?_) (fun c_115 => ?_)
  · refine lv_iconst (v := 0) hx hb dX1_is_122 (by decide) ?_
    exact ps_zret hx hb hr hlocks dX1_is_123 rfl trivial
  · refine lv_iconst (v := 1) hx hb dX1_is_118 (by decide) ?_
    refine lv_goto (tgt := 123) hx hb dX1_is_119 (by decide) ?_
    exact ps_zret hx hb hr hlocks dX1_is_123 rfl trivial
set_option maxHeartbeats 4000000 in
set_option maxRecDepth 100000 in
theorem kX1_isKnown (l : Launch) (op : Int32)  : PS l yX1_isKnown wsX1_isKnown ({ frames := 0, cells := 0, slots := 0, locals := 0 }) [.int op] rv_i (fun _ => True) := by
  refine ps_of (cc := cX1_isKnown) (maxL := 1) (ret := (some .boolean)) (by decide) rfl (Nat.le_of_ble_eq_true rfl) ?_
  intro p e s m below meth c ls C hl
  obtain ⟨hx, hb, hr, hml, hown, hts, hlocks⟩ := C
  have hl : lv_has ls 1 [(0, .int op)] := hl
  refine lv_iload_n hx hb dX1_isKnown_0 rfl (lv_at hl 0 rfl) ?_
  by_cases k_0 : op = 0
  · subst k_0
    refine lv_lookup (tgt := 316) hx hb dX1_isKnown_1 (by decide) rfl (by decide) ?_
    refine lv_iconst (v := 1) hx hb dX1_isKnown_316 (by decide) ?_
    exact ps_zret hx hb hr hlocks dX1_isKnown_317 rfl trivial
  by_cases k_128 : op = 128
  · subst k_128
    refine lv_lookup (tgt := 316) hx hb dX1_isKnown_1 (by decide) rfl (by decide) ?_
    refine lv_iconst (v := 1) hx hb dX1_isKnown_316 (by decide) ?_
    exact ps_zret hx hb hr hlocks dX1_isKnown_317 rfl trivial
  by_cases k_129 : op = 129
  · subst k_129
    refine lv_lookup (tgt := 316) hx hb dX1_isKnown_1 (by decide) rfl (by decide) ?_
    refine lv_iconst (v := 1) hx hb dX1_isKnown_316 (by decide) ?_
    exact ps_zret hx hb hr hlocks dX1_isKnown_317 rfl trivial
  by_cases k_130 : op = 130
  · subst k_130
    refine lv_lookup (tgt := 316) hx hb dX1_isKnown_1 (by decide) rfl (by decide) ?_
    refine lv_iconst (v := 1) hx hb dX1_isKnown_316 (by decide) ?_
    exact ps_zret hx hb hr hlocks dX1_isKnown_317 rfl trivial
  by_cases k_132 : op = 132
  · subst k_132
    refine lv_lookup (tgt := 316) hx hb dX1_isKnown_1 (by decide) rfl (by decide) ?_
    refine lv_iconst (v := 1) hx hb dX1_isKnown_316 (by decide) ?_
    exact ps_zret hx hb hr hlocks dX1_isKnown_317 rfl trivial
  by_cases k_136 : op = 136
  · subst k_136
    refine lv_lookup (tgt := 316) hx hb dX1_isKnown_1 (by decide) rfl (by decide) ?_
    refine lv_iconst (v := 1) hx hb dX1_isKnown_316 (by decide) ?_
    exact ps_zret hx hb hr hlocks dX1_isKnown_317 rfl trivial
  by_cases k_140 : op = 140
  · subst k_140
    refine lv_lookup (tgt := 316) hx hb dX1_isKnown_1 (by decide) rfl (by decide) ?_
    refine lv_iconst (v := 1) hx hb dX1_isKnown_316 (by decide) ?_
    exact ps_zret hx hb hr hlocks dX1_isKnown_317 rfl trivial
  by_cases k_144 : op = 144
  · subst k_144
    refine lv_lookup (tgt := 316) hx hb dX1_isKnown_1 (by decide) rfl (by decide) ?_
    refine lv_iconst (v := 1) hx hb dX1_isKnown_316 (by decide) ?_
    exact ps_zret hx hb hr hlocks dX1_isKnown_317 rfl trivial
  by_cases k_145 : op = 145
  · subst k_145
    refine lv_lookup (tgt := 316) hx hb dX1_isKnown_1 (by decide) rfl (by decide) ?_
    refine lv_iconst (v := 1) hx hb dX1_isKnown_316 (by decide) ?_
    exact ps_zret hx hb hr hlocks dX1_isKnown_317 rfl trivial
  by_cases k_152 : op = 152
  · subst k_152
    refine lv_lookup (tgt := 316) hx hb dX1_isKnown_1 (by decide) rfl (by decide) ?_
    refine lv_iconst (v := 1) hx hb dX1_isKnown_316 (by decide) ?_
    exact ps_zret hx hb hr hlocks dX1_isKnown_317 rfl trivial
  by_cases k_153 : op = 153
  · subst k_153
    refine lv_lookup (tgt := 316) hx hb dX1_isKnown_1 (by decide) rfl (by decide) ?_
    refine lv_iconst (v := 1) hx hb dX1_isKnown_316 (by decide) ?_
    exact ps_zret hx hb hr hlocks dX1_isKnown_317 rfl trivial
  by_cases k_162 : op = 162
  · subst k_162
    refine lv_lookup (tgt := 316) hx hb dX1_isKnown_1 (by decide) rfl (by decide) ?_
    refine lv_iconst (v := 1) hx hb dX1_isKnown_316 (by decide) ?_
    exact ps_zret hx hb hr hlocks dX1_isKnown_317 rfl trivial
  by_cases k_168 : op = 168
  · subst k_168
    refine lv_lookup (tgt := 316) hx hb dX1_isKnown_1 (by decide) rfl (by decide) ?_
    refine lv_iconst (v := 1) hx hb dX1_isKnown_316 (by decide) ?_
    exact ps_zret hx hb hr hlocks dX1_isKnown_317 rfl trivial
  by_cases k_172 : op = 172
  · subst k_172
    refine lv_lookup (tgt := 316) hx hb dX1_isKnown_1 (by decide) rfl (by decide) ?_
    refine lv_iconst (v := 1) hx hb dX1_isKnown_316 (by decide) ?_
    exact ps_zret hx hb hr hlocks dX1_isKnown_317 rfl trivial
  by_cases k_176 : op = 176
  · subst k_176
    refine lv_lookup (tgt := 316) hx hb dX1_isKnown_1 (by decide) rfl (by decide) ?_
    refine lv_iconst (v := 1) hx hb dX1_isKnown_316 (by decide) ?_
    exact ps_zret hx hb hr hlocks dX1_isKnown_317 rfl trivial
  by_cases k_177 : op = 177
  · subst k_177
    refine lv_lookup (tgt := 316) hx hb dX1_isKnown_1 (by decide) rfl (by decide) ?_
    refine lv_iconst (v := 1) hx hb dX1_isKnown_316 (by decide) ?_
    exact ps_zret hx hb hr hlocks dX1_isKnown_317 rfl trivial
  by_cases k_178 : op = 178
  · subst k_178
    refine lv_lookup (tgt := 316) hx hb dX1_isKnown_1 (by decide) rfl (by decide) ?_
    refine lv_iconst (v := 1) hx hb dX1_isKnown_316 (by decide) ?_
    exact ps_zret hx hb hr hlocks dX1_isKnown_317 rfl trivial
  by_cases k_179 : op = 179
  · subst k_179
    refine lv_lookup (tgt := 316) hx hb dX1_isKnown_1 (by decide) rfl (by decide) ?_
    refine lv_iconst (v := 1) hx hb dX1_isKnown_316 (by decide) ?_
    exact ps_zret hx hb hr hlocks dX1_isKnown_317 rfl trivial
  by_cases k_180 : op = 180
  · subst k_180
    refine lv_lookup (tgt := 316) hx hb dX1_isKnown_1 (by decide) rfl (by decide) ?_
    refine lv_iconst (v := 1) hx hb dX1_isKnown_316 (by decide) ?_
    exact ps_zret hx hb hr hlocks dX1_isKnown_317 rfl trivial
  by_cases k_184 : op = 184
  · subst k_184
    refine lv_lookup (tgt := 316) hx hb dX1_isKnown_1 (by decide) rfl (by decide) ?_
    refine lv_iconst (v := 1) hx hb dX1_isKnown_316 (by decide) ?_
    exact ps_zret hx hb hr hlocks dX1_isKnown_317 rfl trivial
  by_cases k_185 : op = 185
  · subst k_185
    refine lv_lookup (tgt := 316) hx hb dX1_isKnown_1 (by decide) rfl (by decide) ?_
    refine lv_iconst (v := 1) hx hb dX1_isKnown_316 (by decide) ?_
    exact ps_zret hx hb hr hlocks dX1_isKnown_317 rfl trivial
  by_cases k_188 : op = 188
  · subst k_188
    refine lv_lookup (tgt := 316) hx hb dX1_isKnown_1 (by decide) rfl (by decide) ?_
    refine lv_iconst (v := 1) hx hb dX1_isKnown_316 (by decide) ?_
    exact ps_zret hx hb hr hlocks dX1_isKnown_317 rfl trivial
  by_cases k_189 : op = 189
  · subst k_189
    refine lv_lookup (tgt := 316) hx hb dX1_isKnown_1 (by decide) rfl (by decide) ?_
    refine lv_iconst (v := 1) hx hb dX1_isKnown_316 (by decide) ?_
    exact ps_zret hx hb hr hlocks dX1_isKnown_317 rfl trivial
  by_cases k_256 : op = 256
  · subst k_256
    refine lv_lookup (tgt := 316) hx hb dX1_isKnown_1 (by decide) rfl (by decide) ?_
    refine lv_iconst (v := 1) hx hb dX1_isKnown_316 (by decide) ?_
    exact ps_zret hx hb hr hlocks dX1_isKnown_317 rfl trivial
  by_cases k_258 : op = 258
  · subst k_258
    refine lv_lookup (tgt := 316) hx hb dX1_isKnown_1 (by decide) rfl (by decide) ?_
    refine lv_iconst (v := 1) hx hb dX1_isKnown_316 (by decide) ?_
    exact ps_zret hx hb hr hlocks dX1_isKnown_317 rfl trivial
  by_cases k_260 : op = 260
  · subst k_260
    refine lv_lookup (tgt := 316) hx hb dX1_isKnown_1 (by decide) rfl (by decide) ?_
    refine lv_iconst (v := 1) hx hb dX1_isKnown_316 (by decide) ?_
    exact ps_zret hx hb hr hlocks dX1_isKnown_317 rfl trivial
  by_cases k_261 : op = 261
  · subst k_261
    refine lv_lookup (tgt := 316) hx hb dX1_isKnown_1 (by decide) rfl (by decide) ?_
    refine lv_iconst (v := 1) hx hb dX1_isKnown_316 (by decide) ?_
    exact ps_zret hx hb hr hlocks dX1_isKnown_317 rfl trivial
  by_cases k_280 : op = 280
  · subst k_280
    refine lv_lookup (tgt := 316) hx hb dX1_isKnown_1 (by decide) rfl (by decide) ?_
    refine lv_iconst (v := 1) hx hb dX1_isKnown_316 (by decide) ?_
    exact ps_zret hx hb hr hlocks dX1_isKnown_317 rfl trivial
  by_cases k_281 : op = 281
  · subst k_281
    refine lv_lookup (tgt := 316) hx hb dX1_isKnown_1 (by decide) rfl (by decide) ?_
    refine lv_iconst (v := 1) hx hb dX1_isKnown_316 (by decide) ?_
    exact ps_zret hx hb hr hlocks dX1_isKnown_317 rfl trivial
  by_cases k_284 : op = 284
  · subst k_284
    refine lv_lookup (tgt := 316) hx hb dX1_isKnown_1 (by decide) rfl (by decide) ?_
    refine lv_iconst (v := 1) hx hb dX1_isKnown_316 (by decide) ?_
    exact ps_zret hx hb hr hlocks dX1_isKnown_317 rfl trivial
  by_cases k_285 : op = 285
  · subst k_285
    refine lv_lookup (tgt := 316) hx hb dX1_isKnown_1 (by decide) rfl (by decide) ?_
    refine lv_iconst (v := 1) hx hb dX1_isKnown_316 (by decide) ?_
    exact ps_zret hx hb hr hlocks dX1_isKnown_317 rfl trivial
  by_cases k_296 : op = 296
  · subst k_296
    refine lv_lookup (tgt := 316) hx hb dX1_isKnown_1 (by decide) rfl (by decide) ?_
    refine lv_iconst (v := 1) hx hb dX1_isKnown_316 (by decide) ?_
    exact ps_zret hx hb hr hlocks dX1_isKnown_317 rfl trivial
  by_cases k_320 : op = 320
  · subst k_320
    refine lv_lookup (tgt := 316) hx hb dX1_isKnown_1 (by decide) rfl (by decide) ?_
    refine lv_iconst (v := 1) hx hb dX1_isKnown_316 (by decide) ?_
    exact ps_zret hx hb hr hlocks dX1_isKnown_317 rfl trivial
  by_cases k_324 : op = 324
  · subst k_324
    refine lv_lookup (tgt := 316) hx hb dX1_isKnown_1 (by decide) rfl (by decide) ?_
    refine lv_iconst (v := 1) hx hb dX1_isKnown_316 (by decide) ?_
    exact ps_zret hx hb hr hlocks dX1_isKnown_317 rfl trivial
  by_cases k_352 : op = 352
  · subst k_352
    refine lv_lookup (tgt := 316) hx hb dX1_isKnown_1 (by decide) rfl (by decide) ?_
    refine lv_iconst (v := 1) hx hb dX1_isKnown_316 (by decide) ?_
    exact ps_zret hx hb hr hlocks dX1_isKnown_317 rfl trivial
  by_cases k_356 : op = 356
  · subst k_356
    refine lv_lookup (tgt := 316) hx hb dX1_isKnown_1 (by decide) rfl (by decide) ?_
    refine lv_iconst (v := 1) hx hb dX1_isKnown_316 (by decide) ?_
    exact ps_zret hx hb hr hlocks dX1_isKnown_317 rfl trivial
  by_cases k_360 : op = 360
  · subst k_360
    refine lv_lookup (tgt := 316) hx hb dX1_isKnown_1 (by decide) rfl (by decide) ?_
    refine lv_iconst (v := 1) hx hb dX1_isKnown_316 (by decide) ?_
    exact ps_zret hx hb hr hlocks dX1_isKnown_317 rfl trivial
  by_cases k_364 : op = 364
  · subst k_364
    refine lv_lookup (tgt := 316) hx hb dX1_isKnown_1 (by decide) rfl (by decide) ?_
    refine lv_iconst (v := 1) hx hb dX1_isKnown_316 (by decide) ?_
    exact ps_zret hx hb hr hlocks dX1_isKnown_317 rfl trivial
  refine lv_lookup (off := 317) (tgt := 318) hx hb dX1_isKnown_1 (by decide) ((lv_osw k_0 (by decide)).trans <| (lv_osw k_128 (by decide)).trans <| (lv_osw k_129 (by decide)).trans <| (lv_osw k_130 (by decide)).trans <| (lv_osw k_132 (by decide)).trans <| (lv_osw k_136 (by decide)).trans <| (lv_osw k_140 (by decide)).trans <| (lv_osw k_144 (by decide)).trans <| (lv_osw k_145 (by decide)).trans <| (lv_osw k_152 (by decide)).trans <| (lv_osw k_153 (by decide)).trans <| (lv_osw k_162 (by decide)).trans <| (lv_osw k_168 (by decide)).trans <| (lv_osw k_172 (by decide)).trans <| (lv_osw k_176 (by decide)).trans <| (lv_osw k_177 (by decide)).trans <| (lv_osw k_178 (by decide)).trans <| (lv_osw k_179 (by decide)).trans <| (lv_osw k_180 (by decide)).trans <| (lv_osw k_184 (by decide)).trans <| (lv_osw k_185 (by decide)).trans <| (lv_osw k_188 (by decide)).trans <| (lv_osw k_189 (by decide)).trans <| (lv_osw k_256 (by decide)).trans <| (lv_osw k_258 (by decide)).trans <| (lv_osw k_260 (by decide)).trans <| (lv_osw k_261 (by decide)).trans <| (lv_osw k_280 (by decide)).trans <| (lv_osw k_281 (by decide)).trans <| (lv_osw k_284 (by decide)).trans <| (lv_osw k_285 (by decide)).trans <| (lv_osw k_296 (by decide)).trans <| (lv_osw k_320 (by decide)).trans <| (lv_osw k_324 (by decide)).trans <| (lv_osw k_352 (by decide)).trans <| (lv_osw k_356 (by decide)).trans <| (lv_osw k_360 (by decide)).trans <| (lv_osw k_364 (by decide)).trans <| rfl) (by decide) ?_
  refine lv_iload_n hx hb dX1_isKnown_318 rfl (lv_at hl 0 rfl) ?_
  refine lv_sipush (v := 192) hx hb dX1_isKnown_319 (by decide) ?_
  refine lv_icmp_lt (tgt := 336) hx hb dX1_isKnown_322 (by decide) (fun c_322 => ?_) (fun c_322 => ?_)
  · refine lv_iconst (v := 0) hx hb dX1_isKnown_336 (by decide) ?_
    exact ps_zret hx hb hr hlocks dX1_isKnown_337 rfl trivial
  · refine lv_iload_n hx hb dX1_isKnown_325 rfl (lv_at hl 0 rfl) ?_
    refine lv_sipush (v := 255) hx hb dX1_isKnown_326 (by decide) ?_
    refine lv_icmp_gt (tgt := 336) hx hb dX1_isKnown_329 (by decide) (fun c_329 => ?_) (fun c_329 => ?_)
    · refine lv_iconst (v := 0) hx hb dX1_isKnown_336 (by decide) ?_
      exact ps_zret hx hb hr hlocks dX1_isKnown_337 rfl trivial
    · refine lv_iconst (v := 1) hx hb dX1_isKnown_332 (by decide) ?_
      refine lv_goto (tgt := 337) hx hb dX1_isKnown_333 (by decide) ?_
      exact ps_zret hx hb hr hlocks dX1_isKnown_337 rfl trivial
set_option maxHeartbeats 4000000 in
set_option maxRecDepth 100000 in
theorem kX1_needsWord (l : Launch) (op : Int32)  : PS l yX1_needsWord wsX1_needsWord ({ frames := 0, cells := 0, slots := 0, locals := 0 }) [.int op] rv_i (fun r => r = 0 → fr op) := by
  refine ps_of (cc := cX1_needsWord) (maxL := 1) (ret := (some .boolean)) (by decide) rfl (Nat.le_of_ble_eq_true rfl) ?_
  intro p e s m below meth c ls C hl
  obtain ⟨hx, hb, hr, hml, hown, hts, hlocks⟩ := C
  have hl : lv_has ls 1 [(0, .int op)] := hl
  refine lv_iload_n hx hb dX1_needsWord_0 rfl (lv_at hl 0 rfl) ?_
  refine lv_sipush (v := 192) hx hb dX1_needsWord_1 (by decide) ?_
  refine lv_icmp_lt (tgt := 56) hx hb dX1_needsWord_4 (by decide) (fun c_4 => ?_) (fun c_4 => ?_)
  · refine lv_iload_n hx hb dX1_needsWord_56 rfl (lv_at hl 0 rfl) ?_
    by_cases k_129 : op = 129
    · subst k_129
      refine lv_lookup (tgt := 180) hx hb dX1_needsWord_57 (by decide) rfl (by decide) ?_
      refine lv_iconst (v := 0) hx hb dX1_needsWord_180 (by decide) ?_
      exact ps_zret hx hb hr hlocks dX1_needsWord_181 rfl (fun _ => Or.inr (by decide))
    by_cases k_145 : op = 145
    · subst k_145
      refine lv_lookup (tgt := 180) hx hb dX1_needsWord_57 (by decide) rfl (by decide) ?_
      refine lv_iconst (v := 0) hx hb dX1_needsWord_180 (by decide) ?_
      exact ps_zret hx hb hr hlocks dX1_needsWord_181 rfl (fun _ => Or.inr (by decide))
    by_cases k_153 : op = 153
    · subst k_153
      refine lv_lookup (tgt := 180) hx hb dX1_needsWord_57 (by decide) rfl (by decide) ?_
      refine lv_iconst (v := 0) hx hb dX1_needsWord_180 (by decide) ?_
      exact ps_zret hx hb hr hlocks dX1_needsWord_181 rfl (fun _ => Or.inr (by decide))
    by_cases k_162 : op = 162
    · subst k_162
      refine lv_lookup (tgt := 180) hx hb dX1_needsWord_57 (by decide) rfl (by decide) ?_
      refine lv_iconst (v := 0) hx hb dX1_needsWord_180 (by decide) ?_
      exact ps_zret hx hb hr hlocks dX1_needsWord_181 rfl (fun _ => Or.inr (by decide))
    by_cases k_172 : op = 172
    · subst k_172
      refine lv_lookup (tgt := 180) hx hb dX1_needsWord_57 (by decide) rfl (by decide) ?_
      refine lv_iconst (v := 0) hx hb dX1_needsWord_180 (by decide) ?_
      exact ps_zret hx hb hr hlocks dX1_needsWord_181 rfl (fun _ => Or.inr (by decide))
    by_cases k_176 : op = 176
    · subst k_176
      refine lv_lookup (tgt := 180) hx hb dX1_needsWord_57 (by decide) rfl (by decide) ?_
      refine lv_iconst (v := 0) hx hb dX1_needsWord_180 (by decide) ?_
      exact ps_zret hx hb hr hlocks dX1_needsWord_181 rfl (fun _ => Or.inr (by decide))
    by_cases k_179 : op = 179
    · subst k_179
      refine lv_lookup (tgt := 180) hx hb dX1_needsWord_57 (by decide) rfl (by decide) ?_
      refine lv_iconst (v := 0) hx hb dX1_needsWord_180 (by decide) ?_
      exact ps_zret hx hb hr hlocks dX1_needsWord_181 rfl (fun _ => Or.inr (by decide))
    by_cases k_185 : op = 185
    · subst k_185
      refine lv_lookup (tgt := 180) hx hb dX1_needsWord_57 (by decide) rfl (by decide) ?_
      refine lv_iconst (v := 0) hx hb dX1_needsWord_180 (by decide) ?_
      exact ps_zret hx hb hr hlocks dX1_needsWord_181 rfl (fun _ => Or.inr (by decide))
    by_cases k_189 : op = 189
    · subst k_189
      refine lv_lookup (tgt := 180) hx hb dX1_needsWord_57 (by decide) rfl (by decide) ?_
      refine lv_iconst (v := 0) hx hb dX1_needsWord_180 (by decide) ?_
      exact ps_zret hx hb hr hlocks dX1_needsWord_181 rfl (fun _ => Or.inr (by decide))
    by_cases k_256 : op = 256
    · subst k_256
      refine lv_lookup (tgt := 180) hx hb dX1_needsWord_57 (by decide) rfl (by decide) ?_
      refine lv_iconst (v := 0) hx hb dX1_needsWord_180 (by decide) ?_
      exact ps_zret hx hb hr hlocks dX1_needsWord_181 rfl (fun _ => Or.inr (by decide))
    by_cases k_261 : op = 261
    · subst k_261
      refine lv_lookup (tgt := 180) hx hb dX1_needsWord_57 (by decide) rfl (by decide) ?_
      refine lv_iconst (v := 0) hx hb dX1_needsWord_180 (by decide) ?_
      exact ps_zret hx hb hr hlocks dX1_needsWord_181 rfl (fun _ => Or.inr (by decide))
    by_cases k_281 : op = 281
    · subst k_281
      refine lv_lookup (tgt := 180) hx hb dX1_needsWord_57 (by decide) rfl (by decide) ?_
      refine lv_iconst (v := 0) hx hb dX1_needsWord_180 (by decide) ?_
      exact ps_zret hx hb hr hlocks dX1_needsWord_181 rfl (fun _ => Or.inr (by decide))
    by_cases k_285 : op = 285
    · subst k_285
      refine lv_lookup (tgt := 180) hx hb dX1_needsWord_57 (by decide) rfl (by decide) ?_
      refine lv_iconst (v := 0) hx hb dX1_needsWord_180 (by decide) ?_
      exact ps_zret hx hb hr hlocks dX1_needsWord_181 rfl (fun _ => Or.inr (by decide))
    by_cases k_296 : op = 296
    · subst k_296
      refine lv_lookup (tgt := 180) hx hb dX1_needsWord_57 (by decide) rfl (by decide) ?_
      refine lv_iconst (v := 0) hx hb dX1_needsWord_180 (by decide) ?_
      exact ps_zret hx hb hr hlocks dX1_needsWord_181 rfl (fun _ => Or.inr (by decide))
    refine lv_lookup (off := 125) (tgt := 182) hx hb dX1_needsWord_57 (by decide) ((lv_osw k_129 (by decide)).trans <| (lv_osw k_145 (by decide)).trans <| (lv_osw k_153 (by decide)).trans <| (lv_osw k_162 (by decide)).trans <| (lv_osw k_172 (by decide)).trans <| (lv_osw k_176 (by decide)).trans <| (lv_osw k_179 (by decide)).trans <| (lv_osw k_185 (by decide)).trans <| (lv_osw k_189 (by decide)).trans <| (lv_osw k_256 (by decide)).trans <| (lv_osw k_261 (by decide)).trans <| (lv_osw k_281 (by decide)).trans <| (lv_osw k_285 (by decide)).trans <| (lv_osw k_296 (by decide)).trans <| rfl) (by decide) ?_
    refine lv_iconst (v := 1) hx hb dX1_needsWord_182 (by decide) ?_
    exact ps_zret hx hb hr hlocks dX1_needsWord_183 rfl (fun hz => absurd hz (by decide))
  · refine lv_iload_n hx hb dX1_needsWord_7 rfl (lv_at hl 0 rfl) ?_
    refine lv_sipush (v := 255) hx hb dX1_needsWord_8 (by decide) ?_
    refine lv_icmp_gt (tgt := 56) hx hb dX1_needsWord_11 (by decide) (fun c_11 => ?_) (fun c_11 => ?_)
    · refine lv_iload_n hx hb dX1_needsWord_56 rfl (lv_at hl 0 rfl) ?_
      by_cases k_129 : op = 129
      · subst k_129
        refine lv_lookup (tgt := 180) hx hb dX1_needsWord_57 (by decide) rfl (by decide) ?_
        refine lv_iconst (v := 0) hx hb dX1_needsWord_180 (by decide) ?_
        exact ps_zret hx hb hr hlocks dX1_needsWord_181 rfl (fun _ => Or.inr (by decide))
      by_cases k_145 : op = 145
      · subst k_145
        refine lv_lookup (tgt := 180) hx hb dX1_needsWord_57 (by decide) rfl (by decide) ?_
        refine lv_iconst (v := 0) hx hb dX1_needsWord_180 (by decide) ?_
        exact ps_zret hx hb hr hlocks dX1_needsWord_181 rfl (fun _ => Or.inr (by decide))
      by_cases k_153 : op = 153
      · subst k_153
        refine lv_lookup (tgt := 180) hx hb dX1_needsWord_57 (by decide) rfl (by decide) ?_
        refine lv_iconst (v := 0) hx hb dX1_needsWord_180 (by decide) ?_
        exact ps_zret hx hb hr hlocks dX1_needsWord_181 rfl (fun _ => Or.inr (by decide))
      by_cases k_162 : op = 162
      · subst k_162
        refine lv_lookup (tgt := 180) hx hb dX1_needsWord_57 (by decide) rfl (by decide) ?_
        refine lv_iconst (v := 0) hx hb dX1_needsWord_180 (by decide) ?_
        exact ps_zret hx hb hr hlocks dX1_needsWord_181 rfl (fun _ => Or.inr (by decide))
      by_cases k_172 : op = 172
      · subst k_172
        refine lv_lookup (tgt := 180) hx hb dX1_needsWord_57 (by decide) rfl (by decide) ?_
        refine lv_iconst (v := 0) hx hb dX1_needsWord_180 (by decide) ?_
        exact ps_zret hx hb hr hlocks dX1_needsWord_181 rfl (fun _ => Or.inr (by decide))
      by_cases k_176 : op = 176
      · subst k_176
        refine lv_lookup (tgt := 180) hx hb dX1_needsWord_57 (by decide) rfl (by decide) ?_
        refine lv_iconst (v := 0) hx hb dX1_needsWord_180 (by decide) ?_
        exact ps_zret hx hb hr hlocks dX1_needsWord_181 rfl (fun _ => Or.inr (by decide))
      by_cases k_179 : op = 179
      · subst k_179
        refine lv_lookup (tgt := 180) hx hb dX1_needsWord_57 (by decide) rfl (by decide) ?_
        refine lv_iconst (v := 0) hx hb dX1_needsWord_180 (by decide) ?_
        exact ps_zret hx hb hr hlocks dX1_needsWord_181 rfl (fun _ => Or.inr (by decide))
      by_cases k_185 : op = 185
      · subst k_185
        refine lv_lookup (tgt := 180) hx hb dX1_needsWord_57 (by decide) rfl (by decide) ?_
        refine lv_iconst (v := 0) hx hb dX1_needsWord_180 (by decide) ?_
        exact ps_zret hx hb hr hlocks dX1_needsWord_181 rfl (fun _ => Or.inr (by decide))
      by_cases k_189 : op = 189
      · subst k_189
        refine lv_lookup (tgt := 180) hx hb dX1_needsWord_57 (by decide) rfl (by decide) ?_
        refine lv_iconst (v := 0) hx hb dX1_needsWord_180 (by decide) ?_
        exact ps_zret hx hb hr hlocks dX1_needsWord_181 rfl (fun _ => Or.inr (by decide))
      by_cases k_256 : op = 256
      · subst k_256
        refine lv_lookup (tgt := 180) hx hb dX1_needsWord_57 (by decide) rfl (by decide) ?_
        refine lv_iconst (v := 0) hx hb dX1_needsWord_180 (by decide) ?_
        exact ps_zret hx hb hr hlocks dX1_needsWord_181 rfl (fun _ => Or.inr (by decide))
      by_cases k_261 : op = 261
      · subst k_261
        refine lv_lookup (tgt := 180) hx hb dX1_needsWord_57 (by decide) rfl (by decide) ?_
        refine lv_iconst (v := 0) hx hb dX1_needsWord_180 (by decide) ?_
        exact ps_zret hx hb hr hlocks dX1_needsWord_181 rfl (fun _ => Or.inr (by decide))
      by_cases k_281 : op = 281
      · subst k_281
        refine lv_lookup (tgt := 180) hx hb dX1_needsWord_57 (by decide) rfl (by decide) ?_
        refine lv_iconst (v := 0) hx hb dX1_needsWord_180 (by decide) ?_
        exact ps_zret hx hb hr hlocks dX1_needsWord_181 rfl (fun _ => Or.inr (by decide))
      by_cases k_285 : op = 285
      · subst k_285
        refine lv_lookup (tgt := 180) hx hb dX1_needsWord_57 (by decide) rfl (by decide) ?_
        refine lv_iconst (v := 0) hx hb dX1_needsWord_180 (by decide) ?_
        exact ps_zret hx hb hr hlocks dX1_needsWord_181 rfl (fun _ => Or.inr (by decide))
      by_cases k_296 : op = 296
      · subst k_296
        refine lv_lookup (tgt := 180) hx hb dX1_needsWord_57 (by decide) rfl (by decide) ?_
        refine lv_iconst (v := 0) hx hb dX1_needsWord_180 (by decide) ?_
        exact ps_zret hx hb hr hlocks dX1_needsWord_181 rfl (fun _ => Or.inr (by decide))
      refine lv_lookup (off := 125) (tgt := 182) hx hb dX1_needsWord_57 (by decide) ((lv_osw k_129 (by decide)).trans <| (lv_osw k_145 (by decide)).trans <| (lv_osw k_153 (by decide)).trans <| (lv_osw k_162 (by decide)).trans <| (lv_osw k_172 (by decide)).trans <| (lv_osw k_176 (by decide)).trans <| (lv_osw k_179 (by decide)).trans <| (lv_osw k_185 (by decide)).trans <| (lv_osw k_189 (by decide)).trans <| (lv_osw k_256 (by decide)).trans <| (lv_osw k_261 (by decide)).trans <| (lv_osw k_281 (by decide)).trans <| (lv_osw k_285 (by decide)).trans <| (lv_osw k_296 (by decide)).trans <| rfl) (by decide) ?_
      refine lv_iconst (v := 1) hx hb dX1_needsWord_182 (by decide) ?_
      exact ps_zret hx hb hr hlocks dX1_needsWord_183 rfl (fun hz => absurd hz (by decide))
    · refine lv_iload_n hx hb dX1_needsWord_14 rfl (lv_at hl 0 rfl) ?_
      refine lv_bipush (v := 56) hx hb dX1_needsWord_15 (by decide) ?_
      refine lv_iand hx hb dX1_needsWord_17 ?_
      refine lv_bipush (v := 8) hx hb dX1_needsWord_18 (by decide) ?_
      refine lv_icmp_eq (tgt := 50) hx hb dX1_needsWord_20 (by decide) (fun c_20 => ?_) (fun c_20 => ?_)
      · refine lv_iconst (v := 1) hx hb dX1_needsWord_50 (by decide) ?_
        refine lv_goto (tgt := 55) hx hb dX1_needsWord_51 (by decide) ?_
        exact ps_zret hx hb hr hlocks dX1_needsWord_55 rfl (fun hz => absurd hz (by decide))
      · refine lv_iload_n hx hb dX1_needsWord_23 rfl (lv_at hl 0 rfl) ?_
        refine lv_bipush (v := 56) hx hb dX1_needsWord_24 (by decide) ?_
        refine lv_iand hx hb dX1_needsWord_26 ?_
        refine lv_bipush (v := 24) hx hb dX1_needsWord_27 (by decide) ?_
        refine lv_icmp_eq (tgt := 50) hx hb dX1_needsWord_29 (by decide) (fun c_29 => ?_) (fun c_29 => ?_)
        · refine lv_iconst (v := 1) hx hb dX1_needsWord_50 (by decide) ?_
          refine lv_goto (tgt := 55) hx hb dX1_needsWord_51 (by decide) ?_
          exact ps_zret hx hb hr hlocks dX1_needsWord_55 rfl (fun hz => absurd hz (by decide))
        · refine lv_iload_n hx hb dX1_needsWord_32 rfl (lv_at hl 0 rfl) ?_
          refine lv_bipush (v := 56) hx hb dX1_needsWord_33 (by decide) ?_
          refine lv_iand hx hb dX1_needsWord_35 ?_
          refine lv_bipush (v := 40) hx hb dX1_needsWord_36 (by decide) ?_
          refine lv_icmp_eq (tgt := 50) hx hb dX1_needsWord_38 (by decide) (fun c_38 => ?_) (fun c_38 => ?_)
          · refine lv_iconst (v := 1) hx hb dX1_needsWord_50 (by decide) ?_
            refine lv_goto (tgt := 55) hx hb dX1_needsWord_51 (by decide) ?_
            exact ps_zret hx hb hr hlocks dX1_needsWord_55 rfl (fun hz => absurd hz (by decide))
          · refine lv_iload_n hx hb dX1_needsWord_41 rfl (lv_at hl 0 rfl) ?_
            refine lv_bipush (v := 56) hx hb dX1_needsWord_42 (by decide) ?_
            refine lv_iand hx hb dX1_needsWord_44 ?_
            refine lv_bipush (v := 56) hx hb dX1_needsWord_45 (by decide) ?_
            refine lv_icmp_ne (tgt := 54) hx hb dX1_needsWord_47 (by decide) (fun c_47 => ?_) (fun c_47 => ?_)
            · refine lv_iconst (v := 0) hx hb dX1_needsWord_54 (by decide) ?_
              exact ps_zret hx hb hr hlocks dX1_needsWord_55 rfl (fun _ => Or.inl ⟨c_4, c_11, c_20, c_29, c_38, c_47⟩)
            · refine lv_iconst (v := 1) hx hb dX1_needsWord_50 (by decide) ?_
              refine lv_goto (tgt := 55) hx hb dX1_needsWord_51 (by decide) ?_
              exact ps_zret hx hb hr hlocks dX1_needsWord_55 rfl (fun hz => absurd hz (by decide))
theorem iw_X1_thrown : ∀ w ∈ u_ws RX1 TX1 6, w ∈ wsX1_thrown := by decide +kernel
set_option maxHeartbeats 4000000 in
set_option maxRecDepth 100000 in
theorem kX1_thrown (l : Launch) (D : va_G) (h a : Nat) (cA : ClassId) (u : rS) (hI : rI u)   : MM l yX1_thrown wsX1_thrown ({ frames := 0, cells := 0, slots := 0, locals := 0 }) D vwCl [(cA, .long)] (rW h a cA) (wA h a) u [.ref h] rv_i (fun r u' => u' = u ∧ r = u.2.1) := by
  refine mm_of (cc := cX1_thrown) (maxL := 1) (ret := (some .int)) (by decide) rfl (Nat.le_of_ble_eq_true rfl) (rA_in h a cA u) ?_
  intro p e s m below meth c ls C hl hP hK hD hS
  obtain ⟨hx, hb, hr, hml, hown, hts, hlocks⟩ := C
  have hl : lv_has ls 1 [(0, .ref h)] := hl
  refine lv_aload_n hx hb dX1_thrown_0 rfl (lv_at hl 0 rfl) ?_
  refine va_get (D := D) (ci := 1) (v := .int u.2.1) (C := RX1) (T := TX1) (N := 6) hx hb hts iw_X1_thrown hown hK hP 0 rfl rfl 0 (by decide) (hts (.fieldLink RX1 13 "WordMillModel" "thrown" "I") (by decide +kernel)) (fun _ h9 => h9) rfl dX1_thrown_1 ?_
  exact mm_iret (mw := rW h a cA) (u1 := (u.1, u.2.1, u.2.2.1, u.2.2.2.1, u.2.2.2.2.1, u.2.2.2.2.2)) hx hb hr hlocks hP hK hD hS dX1_thrown_4 ⟨rfl, rfl⟩
theorem iw_X1_bad : ∀ w ∈ u_ws RX1 TX1 6, w ∈ wsX1_bad := by decide +kernel
set_option maxHeartbeats 4000000 in
set_option maxRecDepth 100000 in
theorem kX1_bad (l : Launch) (D : va_G) (h a : Nat) (cA : ClassId) (u : rS) (hI : rI u) (z0 : Int32) (hz : z0 = 0 ∨ z0 = 1) : MM l yX1_bad wsX1_bad ({ frames := 0, cells := 0, slots := 0, locals := 0 }) D vwCl [(cA, .long)] (rW h a cA) (wA h a) u [.ref h, .int z0] rv_i (fun r u' => u' = (u.1, z0, u.2.2.1, u.2.2.2.1, u.2.2.2.2.1, u.2.2.2.2.2) ∧ r = z0) := by
  refine mm_of (cc := cX1_bad) (maxL := 2) (ret := (some .boolean)) (by decide) rfl (Nat.le_of_ble_eq_true rfl) (rA_in h a cA u) ?_
  intro p e s m below meth c ls C hl hP hK hD hS
  obtain ⟨hx, hb, hr, hml, hown, hts, hlocks⟩ := C
  have hl : lv_has ls 2 [(0, .ref h), (1, .int z0)] := hl
  refine lv_aload_n hx hb dX1_bad_0 rfl (lv_at hl 0 rfl) ?_
  refine lv_iload_n hx hb dX1_bad_1 rfl (lv_at hl 1 rfl) ?_
  refine lv_if_eq (tgt := 9) hx hb dX1_bad_2 (by decide) (fun c_2 => ?_) (fun c_2 => ?_)
  · refine lv_iconst (v := 0) hx hb dX1_bad_9 (by decide) ?_
    refine va_put (D := D) (ci := 1) (v := .int 0) (ty := .int) (C := RX1) (T := TX1) (N := 6) hx hb hts iw_X1_bad tyX1 tyX1_ok nmX1 hown hK hP hD hS 0 rfl rfl 0 (by decide) (hts (.fieldLink RX1 13 "WordMillModel" "thrown" "I") (by decide +kernel)) (fun _ h9 => h9) rfl (by decide +kernel) rfl rfl (Nat.le_of_ble_eq_true rfl) dX1_bad_10 (fun H locs hP hD hS => ?_)
    have hP : va_P D vwCl (rW h a cA (u.1, 0, u.2.2.1, u.2.2.2.1, u.2.2.2.2.1, u.2.2.2.2.2)) H := hP
    have hD : va_D (wA h a) (rW h a cA (u.1, 0, u.2.2.1, u.2.2.2.1, u.2.2.2.2.1, u.2.2.2.2.2)) := hD
    refine lv_iload_n hx hb dX1_bad_13 rfl (lv_at hl 1 rfl) ?_
    exact mm_zret (mw := rW h a cA) (u1 := (u.1, 0, u.2.2.1, u.2.2.2.1, u.2.2.2.2.1, u.2.2.2.2.2)) hx hb hr hlocks hP hK hD hS dX1_bad_14 (bad_n hz) ⟨by rw [bad_0 hz c_2], rfl⟩
  · refine lv_iconst (v := 1) hx hb dX1_bad_5 (by decide) ?_
    refine lv_goto (tgt := 10) hx hb dX1_bad_6 (by decide) ?_
    refine va_put (D := D) (ci := 1) (v := .int 1) (ty := .int) (C := RX1) (T := TX1) (N := 6) hx hb hts iw_X1_bad tyX1 tyX1_ok nmX1 hown hK hP hD hS 0 rfl rfl 0 (by decide) (hts (.fieldLink RX1 13 "WordMillModel" "thrown" "I") (by decide +kernel)) (fun _ h9 => h9) rfl (by decide +kernel) rfl rfl (Nat.le_of_ble_eq_true rfl) dX1_bad_10 (fun H locs hP hD hS => ?_)
    have hP : va_P D vwCl (rW h a cA (u.1, 1, u.2.2.1, u.2.2.2.1, u.2.2.2.2.1, u.2.2.2.2.2)) H := hP
    have hD : va_D (wA h a) (rW h a cA (u.1, 1, u.2.2.1, u.2.2.2.1, u.2.2.2.2.1, u.2.2.2.2.2)) := hD
    refine lv_iload_n hx hb dX1_bad_13 rfl (lv_at hl 1 rfl) ?_
    exact mm_zret (mw := rW h a cA) (u1 := (u.1, 1, u.2.2.1, u.2.2.2.1, u.2.2.2.2.1, u.2.2.2.2.2)) hx hb hr hlocks hP hK hD hS dX1_bad_14 (bad_n hz) ⟨by rw [bad_1 hz c_2], rfl⟩
theorem iw_X1_at : ∀ w ∈ u_ws RX1 TX1 6, w ∈ wsX1_at := by decide +kernel
set_option maxHeartbeats 4000000 in
set_option maxRecDepth 100000 in
theorem kX1_at (l : Launch) (D : va_G) (h a : Nat) (cA : ClassId) (u : rS) (hI : rI u) (p0 : Int64)  : MM l yX1_at wsX1_at ({ frames := 1, cells := 0, slots := 0, locals := 21 }) D vwCl [(cA, .long)] (rW h a cA) (wA h a) u [.ref h, .long p0] rv_l (fun _ u' => rK u u' ∧ (u'.2.2.2.2.1 = 0 → pl p0)) := by
  refine mm_of (cc := cX1_at) (maxL := 3) (ret := (some .long)) (by decide) rfl (Nat.le_of_ble_eq_true rfl) (rA_in h a cA u) ?_
  intro p e s m below meth c ls C hl hP hK hD hS
  obtain ⟨hx, hb, hr, hml, hown, hts, hlocks⟩ := C
  have hl : lv_has ls 3 [(0, .ref h), (1, .long p0)] := hl
  refine lv_lload_n hx hb dX1_at_0 rfl (lv_at hl 1 rfl) ?_
  refine ps_goi (As := [.long p0]) (rest := []) ⟨hx, hb, hml, hown, hts⟩ (kX1_isPlace l p0) (va_cwS 1 hts gX1_at_X1_isPlace rfl rfl rfl (by decide +kernel) ⟨by decide, by decide⟩) rfl hl.1 rfl (Nat.le_of_ble_eq_true rfl) dX1_at_1 ⟨Nat.zero_le _, Nat.zero_le _⟩ (fun r_1 q_1 => ?_)
  refine lv_if_eq (tgt := 15) hx hb dX1_at_4 (by decide) (fun c_4 => ?_) (fun c_4 => ?_)
  · refine lv_aload_n hx hb dX1_at_15 rfl (lv_at hl 0 rfl) ?_
    refine lv_iconst (v := 2) hx hb dX1_at_16 (by decide) ?_
    refine va_put (D := D) (ci := 1) (v := .int 2) (ty := .int) (C := RX1) (T := TX1) (N := 6) hx hb hts iw_X1_at tyX1 tyX1_ok nmX1 hown hK hP hD hS 0 rfl rfl 4 (by decide) (hts (.fieldLink RX1 36 "WordMillModel" "fault" "I") (by decide +kernel)) (fun _ h9 => h9) rfl (by decide +kernel) rfl rfl (Nat.le_of_ble_eq_true rfl) dX1_at_17 (fun H locs hP hD hS => ?_)
    have hP : va_P D vwCl (rW h a cA (u.1, u.2.1, u.2.2.1, u.2.2.2.1, 2, u.2.2.2.2.2)) H := hP
    have hD : va_D (wA h a) (rW h a cA (u.1, u.2.1, u.2.2.1, u.2.2.2.1, 2, u.2.2.2.2.2)) := hD
    refine lv_lconst (v := 0) hx hb dX1_at_20 (by decide) ?_
    exact mm_lret (mw := rW h a cA) (u1 := (u.1, u.2.1, u.2.2.1, u.2.2.2.1, 2, u.2.2.2.2.2)) hx hb hr hlocks hP hK hD hS dX1_at_21 ⟨⟨hI, rfl, rfl⟩, fun hz => absurd hz (show ¬ ((2 : Int32) = 0) by decide)⟩
  · refine lv_aload_n hx hb dX1_at_7 rfl (lv_at hl 0 rfl) ?_
    refine va_get (D := D) (ci := 1) (v := .ref a) (C := RX1) (T := TX1) (N := 6) hx hb hts iw_X1_at hown hK hP 0 rfl rfl 1 (by decide) (hts (.fieldLink RX1 7 "WordMillModel" "memory" "[J") (by decide +kernel)) (fun _ h9 => h9) rfl dX1_at_8 ?_
    refine lv_lload_n hx hb dX1_at_11 rfl (lv_at hl 1 rfl) ?_
    refine lv_l2i hx hb dX1_at_12 rfl ?_
    refine va_lald hx hb hK hP 1 0 rfl rfl (pl_in (by rcases q_1 with q | q; exact absurd q.1 c_4; exact q.2)) dX1_at_13 ?_
    exact mm_lret (mw := rW h a cA) (u1 := (u.1, u.2.1, u.2.2.1, u.2.2.2.1, u.2.2.2.2.1, u.2.2.2.2.2)) hx hb hr hlocks hP hK hD hS dX1_at_14 ⟨⟨hI, rfl, rfl⟩, fun _ => (by rcases q_1 with q | q; exact absurd q.1 c_4; exact q.2)⟩
theorem iw_X1_divided : ∀ w ∈ u_ws RX1 TX1 6, w ∈ wsX1_divided := by decide +kernel
set_option maxHeartbeats 4000000 in
set_option maxRecDepth 100000 in
theorem kX1_divided (l : Launch) (D : va_G) (h a : Nat) (cA : ClassId) (u : rS) (hI : rI u) (ac : Int32) (x0 : Int64) (y0 : Int64) (hac : vp_in ac 4096) : MM l yX1_divided wsX1_divided ({ frames := 0, cells := 0, slots := 0, locals := 0 }) D vwCl [(cA, .long)] (rW h a cA) (wA h a) u [.ref h, .int ac, .long x0, .long y0] rv_v (fun _ u' => rK u u') := by
  refine mm_of (cc := cX1_divided) (maxL := 6) (ret := none) (by decide) rfl (Nat.le_of_ble_eq_true rfl) (rA_in h a cA u) ?_
  intro p e s m below meth c ls C hl hP hK hD hS
  obtain ⟨hx, hb, hr, hml, hown, hts, hlocks⟩ := C
  have hl : lv_has ls 6 [(0, .ref h), (1, .int ac), (2, .long x0), (4, .long y0)] := hl
  refine lv_lload hx hb dX1_divided_0 (lv_at hl 3 rfl) ?_
  refine lv_lconst (v := 0) hx hb dX1_divided_2 (by decide) ?_
  refine W.lcmp hx hb dX1_divided_3 ?_
  refine lv_if_eq (tgt := 24) hx hb dX1_divided_4 (by decide) (fun c_4 => ?_) (fun c_4 => ?_)
  · refine lv_aload_n hx hb dX1_divided_24 rfl (lv_at hl 0 rfl) ?_
    refine lv_iconst (v := 3) hx hb dX1_divided_25 (by decide) ?_
    refine va_put (D := D) (ci := 1) (v := .int 3) (ty := .int) (C := RX1) (T := TX1) (N := 6) hx hb hts iw_X1_divided tyX1 tyX1_ok nmX1 hown hK hP hD hS 0 rfl rfl 4 (by decide) (hts (.fieldLink RX1 36 "WordMillModel" "fault" "I") (by decide +kernel)) (fun _ h9 => h9) rfl (by decide +kernel) rfl rfl (Nat.le_of_ble_eq_true rfl) dX1_divided_26 (fun H locs hP hD hS => ?_)
    have hP : va_P D vwCl (rW h a cA (u.1, u.2.1, u.2.2.1, u.2.2.2.1, 3, u.2.2.2.2.2)) H := hP
    have hD : va_D (wA h a) (rW h a cA (u.1, u.2.1, u.2.2.1, u.2.2.2.1, 3, u.2.2.2.2.2)) := hD
    exact mm_vret (mw := rW h a cA) (u1 := (u.1, u.2.1, u.2.2.1, u.2.2.2.1, 3, u.2.2.2.2.2)) hx hb hr hlocks hP hK hD hS dX1_divided_29 ⟨hI, rfl, rfl⟩
  · refine lv_lload_n hx hb dX1_divided_7 rfl (lv_at hl 2 rfl) ?_
    refine lv_ldc2 (v := -34359738368) hx hb hown (hts (.constantLong RX1 103 (-34359738368)) (by decide +kernel)) dX1_divided_8 ?_
    refine W.lcmp hx hb dX1_divided_11 ?_
    refine lv_if_ne (tgt := 30) hx hb dX1_divided_12 (by decide) (fun c_12 => ?_) (fun c_12 => ?_)
    · refine lv_aload_n hx hb dX1_divided_30 rfl (lv_at hl 0 rfl) ?_
      refine va_get (D := D) (ci := 1) (v := .ref a) (C := RX1) (T := TX1) (N := 6) hx hb hts iw_X1_divided hown hK hP 0 rfl rfl 1 (by decide) (hts (.fieldLink RX1 7 "WordMillModel" "memory" "[J") (by decide +kernel)) (fun _ h9 => h9) rfl dX1_divided_31 ?_
      refine lv_iload_n hx hb dX1_divided_34 rfl (lv_at hl 1 rfl) ?_
      refine lv_lload_n hx hb dX1_divided_35 rfl (lv_at hl 2 rfl) ?_
      refine lv_lload hx hb dX1_divided_36 (lv_at hl 3 rfl) ?_
      refine lv_ldiv hx hb dX1_divided_38 (fun hz => c_4 (by rw [hz]; rfl)) ?_
      refine lv_ldc2 (v := 68719476735) hx hb hown (hts (.constantLong RX1 27 68719476735) (by decide +kernel)) dX1_divided_39 ?_
      refine lv_land hx hb dX1_divided_42 ?_
      refine va_last hx hb hK hP hD hS 1 0 rfl rfl hac dX1_divided_43 (fun H locs hP hD hS => ?_)
      have hP : va_P D vwCl (rW h a cA ((vp_updL u.1 (ac : Int32).toNatClampNeg ((x0 / y0) &&& 68719476735)), u.2.1, u.2.2.1, u.2.2.2.1, u.2.2.2.2.1, u.2.2.2.2.2)) H := hP
      have hD : va_D (wA h a) (rW h a cA ((vp_updL u.1 (ac : Int32).toNatClampNeg ((x0 / y0) &&& 68719476735)), u.2.1, u.2.2.1, u.2.2.2.1, u.2.2.2.2.1, u.2.2.2.2.2)) := hD
      generalize (vp_updL u.1 (ac : Int32).toNatClampNeg ((x0 / y0) &&& 68719476735)) = f_43 at hP hD
      refine lv_aload_n hx hb dX1_divided_44 rfl (lv_at hl 0 rfl) ?_
      refine va_get (D := D) (ci := 1) (v := .ref a) (C := RX1) (T := TX1) (N := 6) hx hb hts iw_X1_divided hown hK hP 0 rfl rfl 1 (by decide) (hts (.fieldLink RX1 7 "WordMillModel" "memory" "[J") (by decide +kernel)) (fun _ h9 => h9) rfl dX1_divided_45 ?_
      refine lv_iload_n hx hb dX1_divided_48 rfl (lv_at hl 1 rfl) ?_
      refine lv_iconst (v := 1) hx hb dX1_divided_49 (by decide) ?_
      refine lv_iadd hx hb dX1_divided_50 ?_
      refine lv_bipush (v := 15) hx hb dX1_divided_51 (by decide) ?_
      refine lv_iand hx hb dX1_divided_53 ?_
      refine lv_lload_n hx hb dX1_divided_54 rfl (lv_at hl 2 rfl) ?_
      refine lv_lload hx hb dX1_divided_55 (lv_at hl 3 rfl) ?_
      refine lv_lrem hx hb dX1_divided_57 (fun hz => c_4 (by rw [hz]; rfl)) ?_
      refine lv_ldc2 (v := 68719476735) hx hb hown (hts (.constantLong RX1 27 68719476735) (by decide +kernel)) dX1_divided_58 ?_
      refine lv_land hx hb dX1_divided_61 ?_
      refine va_last hx hb hK hP hD hS 1 0 rfl rfl (vp_and15 _) dX1_divided_62 (fun H locs hP hD hS => ?_)
      have hP : va_P D vwCl (rW h a cA ((vp_updL f_43 (((ac + 1) &&& 15) : Int32).toNatClampNeg ((x0 - x0 / y0 * y0) &&& 68719476735)), u.2.1, u.2.2.1, u.2.2.2.1, u.2.2.2.2.1, u.2.2.2.2.2)) H := hP
      have hD : va_D (wA h a) (rW h a cA ((vp_updL f_43 (((ac + 1) &&& 15) : Int32).toNatClampNeg ((x0 - x0 / y0 * y0) &&& 68719476735)), u.2.1, u.2.2.1, u.2.2.2.1, u.2.2.2.2.1, u.2.2.2.2.2)) := hD
      generalize (vp_updL f_43 (((ac + 1) &&& 15) : Int32).toNatClampNeg ((x0 - x0 / y0 * y0) &&& 68719476735)) = f_62 at hP hD
      exact mm_vret (mw := rW h a cA) (u1 := (f_62, u.2.1, u.2.2.1, u.2.2.2.1, u.2.2.2.2.1, u.2.2.2.2.2)) hx hb hr hlocks hP hK hD hS dX1_divided_63 ⟨hI, rfl, rfl⟩
    · refine lv_lload hx hb dX1_divided_15 (lv_at hl 3 rfl) ?_
      refine lv_ldc2 (v := -1) hx hb hown (hts (.constantLong RX1 105 (-1)) (by decide +kernel)) dX1_divided_17 ?_
      refine W.lcmp hx hb dX1_divided_20 ?_
      refine lv_if_ne (tgt := 30) hx hb dX1_divided_21 (by decide) (fun c_21 => ?_) (fun c_21 => ?_)
      · refine lv_aload_n hx hb dX1_divided_30 rfl (lv_at hl 0 rfl) ?_
        refine va_get (D := D) (ci := 1) (v := .ref a) (C := RX1) (T := TX1) (N := 6) hx hb hts iw_X1_divided hown hK hP 0 rfl rfl 1 (by decide) (hts (.fieldLink RX1 7 "WordMillModel" "memory" "[J") (by decide +kernel)) (fun _ h9 => h9) rfl dX1_divided_31 ?_
        refine lv_iload_n hx hb dX1_divided_34 rfl (lv_at hl 1 rfl) ?_
        refine lv_lload_n hx hb dX1_divided_35 rfl (lv_at hl 2 rfl) ?_
        refine lv_lload hx hb dX1_divided_36 (lv_at hl 3 rfl) ?_
        refine lv_ldiv hx hb dX1_divided_38 (fun hz => c_4 (by rw [hz]; rfl)) ?_
        refine lv_ldc2 (v := 68719476735) hx hb hown (hts (.constantLong RX1 27 68719476735) (by decide +kernel)) dX1_divided_39 ?_
        refine lv_land hx hb dX1_divided_42 ?_
        refine va_last hx hb hK hP hD hS 1 0 rfl rfl hac dX1_divided_43 (fun H locs hP hD hS => ?_)
        have hP : va_P D vwCl (rW h a cA ((vp_updL u.1 (ac : Int32).toNatClampNeg ((x0 / y0) &&& 68719476735)), u.2.1, u.2.2.1, u.2.2.2.1, u.2.2.2.2.1, u.2.2.2.2.2)) H := hP
        have hD : va_D (wA h a) (rW h a cA ((vp_updL u.1 (ac : Int32).toNatClampNeg ((x0 / y0) &&& 68719476735)), u.2.1, u.2.2.1, u.2.2.2.1, u.2.2.2.2.1, u.2.2.2.2.2)) := hD
        generalize (vp_updL u.1 (ac : Int32).toNatClampNeg ((x0 / y0) &&& 68719476735)) = f_43 at hP hD
        refine lv_aload_n hx hb dX1_divided_44 rfl (lv_at hl 0 rfl) ?_
        refine va_get (D := D) (ci := 1) (v := .ref a) (C := RX1) (T := TX1) (N := 6) hx hb hts iw_X1_divided hown hK hP 0 rfl rfl 1 (by decide) (hts (.fieldLink RX1 7 "WordMillModel" "memory" "[J") (by decide +kernel)) (fun _ h9 => h9) rfl dX1_divided_45 ?_
        refine lv_iload_n hx hb dX1_divided_48 rfl (lv_at hl 1 rfl) ?_
        refine lv_iconst (v := 1) hx hb dX1_divided_49 (by decide) ?_
        refine lv_iadd hx hb dX1_divided_50 ?_
        refine lv_bipush (v := 15) hx hb dX1_divided_51 (by decide) ?_
        refine lv_iand hx hb dX1_divided_53 ?_
        refine lv_lload_n hx hb dX1_divided_54 rfl (lv_at hl 2 rfl) ?_
        refine lv_lload hx hb dX1_divided_55 (lv_at hl 3 rfl) ?_
        refine lv_lrem hx hb dX1_divided_57 (fun hz => c_4 (by rw [hz]; rfl)) ?_
        refine lv_ldc2 (v := 68719476735) hx hb hown (hts (.constantLong RX1 27 68719476735) (by decide +kernel)) dX1_divided_58 ?_
        refine lv_land hx hb dX1_divided_61 ?_
        refine va_last hx hb hK hP hD hS 1 0 rfl rfl (vp_and15 _) dX1_divided_62 (fun H locs hP hD hS => ?_)
        have hP : va_P D vwCl (rW h a cA ((vp_updL f_43 (((ac + 1) &&& 15) : Int32).toNatClampNeg ((x0 - x0 / y0 * y0) &&& 68719476735)), u.2.1, u.2.2.1, u.2.2.2.1, u.2.2.2.2.1, u.2.2.2.2.2)) H := hP
        have hD : va_D (wA h a) (rW h a cA ((vp_updL f_43 (((ac + 1) &&& 15) : Int32).toNatClampNeg ((x0 - x0 / y0 * y0) &&& 68719476735)), u.2.1, u.2.2.1, u.2.2.2.1, u.2.2.2.2.1, u.2.2.2.2.2)) := hD
        generalize (vp_updL f_43 (((ac + 1) &&& 15) : Int32).toNatClampNeg ((x0 - x0 / y0 * y0) &&& 68719476735)) = f_62 at hP hD
        exact mm_vret (mw := rW h a cA) (u1 := (f_62, u.2.1, u.2.2.1, u.2.2.2.1, u.2.2.2.2.1, u.2.2.2.2.2)) hx hb hr hlocks hP hK hD hS dX1_divided_63 ⟨hI, rfl, rfl⟩
      · refine lv_aload_n hx hb dX1_divided_24 rfl (lv_at hl 0 rfl) ?_
        refine lv_iconst (v := 3) hx hb dX1_divided_25 (by decide) ?_
        refine va_put (D := D) (ci := 1) (v := .int 3) (ty := .int) (C := RX1) (T := TX1) (N := 6) hx hb hts iw_X1_divided tyX1 tyX1_ok nmX1 hown hK hP hD hS 0 rfl rfl 4 (by decide) (hts (.fieldLink RX1 36 "WordMillModel" "fault" "I") (by decide +kernel)) (fun _ h9 => h9) rfl (by decide +kernel) rfl rfl (Nat.le_of_ble_eq_true rfl) dX1_divided_26 (fun H locs hP hD hS => ?_)
        have hP : va_P D vwCl (rW h a cA (u.1, u.2.1, u.2.2.1, u.2.2.2.1, 3, u.2.2.2.2.2)) H := hP
        have hD : va_D (wA h a) (rW h a cA (u.1, u.2.1, u.2.2.1, u.2.2.2.1, 3, u.2.2.2.2.2)) := hD
        exact mm_vret (mw := rW h a cA) (u1 := (u.1, u.2.1, u.2.2.1, u.2.2.2.1, 3, u.2.2.2.2.2)) hx hb hr hlocks hP hK hD hS dX1_divided_29 ⟨hI, rfl, rfl⟩
theorem iw_X1_bits : ∀ w ∈ u_ws RX1 TX1 6, w ∈ wsX1_bits := by decide +kernel
set_option maxHeartbeats 4000000 in
set_option maxRecDepth 100000 in
theorem kX1_bits (l : Launch) (D : va_G) (h a : Nat) (cA : ClassId) (u : rS) (hI : rI u) (op : Int32) (ac : Int32) (c0 : Int64) (m0 : Int64) (hac : vp_in ac 4096) : MM l yX1_bits wsX1_bits ({ frames := 1, cells := 0, slots := 0, locals := 23 }) D vwCl [(cA, .long)] (rW h a cA) (wA h a) u [.ref h, .int op, .int ac, .long c0, .long m0] rv_v (fun _ u' => rK u u') := by
  refine mm_of (cc := cX1_bits) (maxL := 7) (ret := none) (by decide) rfl (Nat.le_of_ble_eq_true rfl) (rA_in h a cA u) ?_
  intro p e s m below meth c ls C hl hP hK hD hS
  obtain ⟨hx, hb, hr, hml, hown, hts, hlocks⟩ := C
  have hl : lv_has ls 7 [(0, .ref h), (1, .int op), (2, .int ac), (3, .long c0), (5, .long m0)] := hl
  refine lv_iload_n hx hb dX1_bits_0 rfl (lv_at hl 1 rfl) ?_
  by_cases k_260 : op = 260
  · subst k_260
    refine lv_lookup (tgt := 108) hx hb dX1_bits_1 (by decide) rfl (by decide) ?_
    refine lv_aload_n hx hb dX1_bits_108 rfl (lv_at hl 0 rfl) ?_
    refine va_get (D := D) (ci := 1) (v := .ref a) (C := RX1) (T := TX1) (N := 6) hx hb hts iw_X1_bits hown hK hP 0 rfl rfl 1 (by decide) (hts (.fieldLink RX1 7 "WordMillModel" "memory" "[J") (by decide +kernel)) (fun _ h9 => h9) rfl dX1_bits_109 ?_
    refine lv_iload_n hx hb dX1_bits_112 rfl (lv_at hl 2 rfl) ?_
    refine lv_lload_n hx hb dX1_bits_113 rfl (lv_at hl 3 rfl) ?_
    refine lv_lload hx hb dX1_bits_114 (lv_at hl 4 rfl) ?_
    refine lv_land hx hb dX1_bits_116 ?_
    refine va_last hx hb hK hP hD hS 1 0 rfl rfl hac dX1_bits_117 (fun H locs hP hD hS => ?_)
    have hP : va_P D vwCl (rW h a cA ((vp_updL u.1 (ac : Int32).toNatClampNeg (c0 &&& m0)), u.2.1, u.2.2.1, u.2.2.2.1, u.2.2.2.2.1, u.2.2.2.2.2)) H := hP
    have hD : va_D (wA h a) (rW h a cA ((vp_updL u.1 (ac : Int32).toNatClampNeg (c0 &&& m0)), u.2.1, u.2.2.1, u.2.2.2.1, u.2.2.2.2.1, u.2.2.2.2.2)) := hD
    generalize (vp_updL u.1 (ac : Int32).toNatClampNeg (c0 &&& m0)) = f_117 at hP hD
    refine lv_goto (tgt := 263) hx hb dX1_bits_118 (by decide) ?_
    exact mm_vret (mw := rW h a cA) (u1 := (f_117, u.2.1, u.2.2.1, u.2.2.2.1, u.2.2.2.2.1, u.2.2.2.2.2)) hx hb hr hlocks hP hK hD hS dX1_bits_263 ⟨hI, rfl, rfl⟩
  by_cases k_261 : op = 261
  · subst k_261
    refine lv_lookup (tgt := 108) hx hb dX1_bits_1 (by decide) rfl (by decide) ?_
    refine lv_aload_n hx hb dX1_bits_108 rfl (lv_at hl 0 rfl) ?_
    refine va_get (D := D) (ci := 1) (v := .ref a) (C := RX1) (T := TX1) (N := 6) hx hb hts iw_X1_bits hown hK hP 0 rfl rfl 1 (by decide) (hts (.fieldLink RX1 7 "WordMillModel" "memory" "[J") (by decide +kernel)) (fun _ h9 => h9) rfl dX1_bits_109 ?_
    refine lv_iload_n hx hb dX1_bits_112 rfl (lv_at hl 2 rfl) ?_
    refine lv_lload_n hx hb dX1_bits_113 rfl (lv_at hl 3 rfl) ?_
    refine lv_lload hx hb dX1_bits_114 (lv_at hl 4 rfl) ?_
    refine lv_land hx hb dX1_bits_116 ?_
    refine va_last hx hb hK hP hD hS 1 0 rfl rfl hac dX1_bits_117 (fun H locs hP hD hS => ?_)
    have hP : va_P D vwCl (rW h a cA ((vp_updL u.1 (ac : Int32).toNatClampNeg (c0 &&& m0)), u.2.1, u.2.2.1, u.2.2.2.1, u.2.2.2.2.1, u.2.2.2.2.2)) H := hP
    have hD : va_D (wA h a) (rW h a cA ((vp_updL u.1 (ac : Int32).toNatClampNeg (c0 &&& m0)), u.2.1, u.2.2.1, u.2.2.2.1, u.2.2.2.2.1, u.2.2.2.2.2)) := hD
    generalize (vp_updL u.1 (ac : Int32).toNatClampNeg (c0 &&& m0)) = f_117 at hP hD
    refine lv_goto (tgt := 263) hx hb dX1_bits_118 (by decide) ?_
    exact mm_vret (mw := rW h a cA) (u1 := (f_117, u.2.1, u.2.2.1, u.2.2.2.1, u.2.2.2.2.1, u.2.2.2.2.2)) hx hb hr hlocks hP hK hD hS dX1_bits_263 ⟨hI, rfl, rfl⟩
  by_cases k_280 : op = 280
  · subst k_280
    refine lv_lookup (tgt := 121) hx hb dX1_bits_1 (by decide) rfl (by decide) ?_
    refine lv_aload_n hx hb dX1_bits_121 rfl (lv_at hl 0 rfl) ?_
    refine va_get (D := D) (ci := 1) (v := .ref a) (C := RX1) (T := TX1) (N := 6) hx hb hts iw_X1_bits hown hK hP 0 rfl rfl 1 (by decide) (hts (.fieldLink RX1 7 "WordMillModel" "memory" "[J") (by decide +kernel)) (fun _ h9 => h9) rfl dX1_bits_122 ?_
    refine lv_iload_n hx hb dX1_bits_125 rfl (lv_at hl 2 rfl) ?_
    refine lv_lload_n hx hb dX1_bits_126 rfl (lv_at hl 3 rfl) ?_
    refine lv_lload hx hb dX1_bits_127 (lv_at hl 4 rfl) ?_
    refine lv_lxor hx hb dX1_bits_129 ?_
    refine va_last hx hb hK hP hD hS 1 0 rfl rfl hac dX1_bits_130 (fun H locs hP hD hS => ?_)
    have hP : va_P D vwCl (rW h a cA ((vp_updL u.1 (ac : Int32).toNatClampNeg (c0 ^^^ m0)), u.2.1, u.2.2.1, u.2.2.2.1, u.2.2.2.2.1, u.2.2.2.2.2)) H := hP
    have hD : va_D (wA h a) (rW h a cA ((vp_updL u.1 (ac : Int32).toNatClampNeg (c0 ^^^ m0)), u.2.1, u.2.2.1, u.2.2.2.1, u.2.2.2.2.1, u.2.2.2.2.2)) := hD
    generalize (vp_updL u.1 (ac : Int32).toNatClampNeg (c0 ^^^ m0)) = f_130 at hP hD
    refine lv_goto (tgt := 263) hx hb dX1_bits_131 (by decide) ?_
    exact mm_vret (mw := rW h a cA) (u1 := (f_130, u.2.1, u.2.2.1, u.2.2.2.1, u.2.2.2.2.1, u.2.2.2.2.2)) hx hb hr hlocks hP hK hD hS dX1_bits_263 ⟨hI, rfl, rfl⟩
  by_cases k_281 : op = 281
  · subst k_281
    refine lv_lookup (tgt := 121) hx hb dX1_bits_1 (by decide) rfl (by decide) ?_
    refine lv_aload_n hx hb dX1_bits_121 rfl (lv_at hl 0 rfl) ?_
    refine va_get (D := D) (ci := 1) (v := .ref a) (C := RX1) (T := TX1) (N := 6) hx hb hts iw_X1_bits hown hK hP 0 rfl rfl 1 (by decide) (hts (.fieldLink RX1 7 "WordMillModel" "memory" "[J") (by decide +kernel)) (fun _ h9 => h9) rfl dX1_bits_122 ?_
    refine lv_iload_n hx hb dX1_bits_125 rfl (lv_at hl 2 rfl) ?_
    refine lv_lload_n hx hb dX1_bits_126 rfl (lv_at hl 3 rfl) ?_
    refine lv_lload hx hb dX1_bits_127 (lv_at hl 4 rfl) ?_
    refine lv_lxor hx hb dX1_bits_129 ?_
    refine va_last hx hb hK hP hD hS 1 0 rfl rfl hac dX1_bits_130 (fun H locs hP hD hS => ?_)
    have hP : va_P D vwCl (rW h a cA ((vp_updL u.1 (ac : Int32).toNatClampNeg (c0 ^^^ m0)), u.2.1, u.2.2.1, u.2.2.2.1, u.2.2.2.2.1, u.2.2.2.2.2)) H := hP
    have hD : va_D (wA h a) (rW h a cA ((vp_updL u.1 (ac : Int32).toNatClampNeg (c0 ^^^ m0)), u.2.1, u.2.2.1, u.2.2.2.1, u.2.2.2.2.1, u.2.2.2.2.2)) := hD
    generalize (vp_updL u.1 (ac : Int32).toNatClampNeg (c0 ^^^ m0)) = f_130 at hP hD
    refine lv_goto (tgt := 263) hx hb dX1_bits_131 (by decide) ?_
    exact mm_vret (mw := rW h a cA) (u1 := (f_130, u.2.1, u.2.2.1, u.2.2.2.1, u.2.2.2.2.1, u.2.2.2.2.2)) hx hb hr hlocks hP hK hD hS dX1_bits_263 ⟨hI, rfl, rfl⟩
  by_cases k_284 : op = 284
  · subst k_284
    refine lv_lookup (tgt := 134) hx hb dX1_bits_1 (by decide) rfl (by decide) ?_
    refine lv_aload_n hx hb dX1_bits_134 rfl (lv_at hl 0 rfl) ?_
    refine va_get (D := D) (ci := 1) (v := .ref a) (C := RX1) (T := TX1) (N := 6) hx hb hts iw_X1_bits hown hK hP 0 rfl rfl 1 (by decide) (hts (.fieldLink RX1 7 "WordMillModel" "memory" "[J") (by decide +kernel)) (fun _ h9 => h9) rfl dX1_bits_135 ?_
    refine lv_iload_n hx hb dX1_bits_138 rfl (lv_at hl 2 rfl) ?_
    refine lv_lload_n hx hb dX1_bits_139 rfl (lv_at hl 3 rfl) ?_
    refine lv_lload hx hb dX1_bits_140 (lv_at hl 4 rfl) ?_
    refine lv_lor hx hb dX1_bits_142 ?_
    refine va_last hx hb hK hP hD hS 1 0 rfl rfl hac dX1_bits_143 (fun H locs hP hD hS => ?_)
    have hP : va_P D vwCl (rW h a cA ((vp_updL u.1 (ac : Int32).toNatClampNeg (c0 ||| m0)), u.2.1, u.2.2.1, u.2.2.2.1, u.2.2.2.2.1, u.2.2.2.2.2)) H := hP
    have hD : va_D (wA h a) (rW h a cA ((vp_updL u.1 (ac : Int32).toNatClampNeg (c0 ||| m0)), u.2.1, u.2.2.1, u.2.2.2.1, u.2.2.2.2.1, u.2.2.2.2.2)) := hD
    generalize (vp_updL u.1 (ac : Int32).toNatClampNeg (c0 ||| m0)) = f_143 at hP hD
    refine lv_goto (tgt := 263) hx hb dX1_bits_144 (by decide) ?_
    exact mm_vret (mw := rW h a cA) (u1 := (f_143, u.2.1, u.2.2.1, u.2.2.2.1, u.2.2.2.2.1, u.2.2.2.2.2)) hx hb hr hlocks hP hK hD hS dX1_bits_263 ⟨hI, rfl, rfl⟩
  by_cases k_285 : op = 285
  · subst k_285
    refine lv_lookup (tgt := 134) hx hb dX1_bits_1 (by decide) rfl (by decide) ?_
    refine lv_aload_n hx hb dX1_bits_134 rfl (lv_at hl 0 rfl) ?_
    refine va_get (D := D) (ci := 1) (v := .ref a) (C := RX1) (T := TX1) (N := 6) hx hb hts iw_X1_bits hown hK hP 0 rfl rfl 1 (by decide) (hts (.fieldLink RX1 7 "WordMillModel" "memory" "[J") (by decide +kernel)) (fun _ h9 => h9) rfl dX1_bits_135 ?_
    refine lv_iload_n hx hb dX1_bits_138 rfl (lv_at hl 2 rfl) ?_
    refine lv_lload_n hx hb dX1_bits_139 rfl (lv_at hl 3 rfl) ?_
    refine lv_lload hx hb dX1_bits_140 (lv_at hl 4 rfl) ?_
    refine lv_lor hx hb dX1_bits_142 ?_
    refine va_last hx hb hK hP hD hS 1 0 rfl rfl hac dX1_bits_143 (fun H locs hP hD hS => ?_)
    have hP : va_P D vwCl (rW h a cA ((vp_updL u.1 (ac : Int32).toNatClampNeg (c0 ||| m0)), u.2.1, u.2.2.1, u.2.2.2.1, u.2.2.2.2.1, u.2.2.2.2.2)) H := hP
    have hD : va_D (wA h a) (rW h a cA ((vp_updL u.1 (ac : Int32).toNatClampNeg (c0 ||| m0)), u.2.1, u.2.2.1, u.2.2.2.1, u.2.2.2.2.1, u.2.2.2.2.2)) := hD
    generalize (vp_updL u.1 (ac : Int32).toNatClampNeg (c0 ||| m0)) = f_143 at hP hD
    refine lv_goto (tgt := 263) hx hb dX1_bits_144 (by decide) ?_
    exact mm_vret (mw := rW h a cA) (u1 := (f_143, u.2.1, u.2.2.1, u.2.2.2.1, u.2.2.2.2.1, u.2.2.2.2.2)) hx hb hr hlocks hP hK hD hS dX1_bits_263 ⟨hI, rfl, rfl⟩
  by_cases k_296 : op = 296
  · subst k_296
    refine lv_lookup (tgt := 147) hx hb dX1_bits_1 (by decide) rfl (by decide) ?_
    refine lv_aload_n hx hb dX1_bits_147 rfl (lv_at hl 0 rfl) ?_
    refine va_get (D := D) (ci := 1) (v := .ref a) (C := RX1) (T := TX1) (N := 6) hx hb hts iw_X1_bits hown hK hP 0 rfl rfl 1 (by decide) (hts (.fieldLink RX1 7 "WordMillModel" "memory" "[J") (by decide +kernel)) (fun _ h9 => h9) rfl dX1_bits_148 ?_
    refine lv_iload_n hx hb dX1_bits_151 rfl (lv_at hl 2 rfl) ?_
    refine lv_lload_n hx hb dX1_bits_152 rfl (lv_at hl 3 rfl) ?_
    refine lv_ldc2 (v := -1) hx hb hown (hts (.constantLong RX1 105 (-1)) (by decide +kernel)) dX1_bits_153 ?_
    refine lv_lxor hx hb dX1_bits_156 ?_
    refine lv_ldc2 (v := 68719476735) hx hb hown (hts (.constantLong RX1 27 68719476735) (by decide +kernel)) dX1_bits_157 ?_
    refine lv_land hx hb dX1_bits_160 ?_
    refine va_last hx hb hK hP hD hS 1 0 rfl rfl hac dX1_bits_161 (fun H locs hP hD hS => ?_)
    have hP : va_P D vwCl (rW h a cA ((vp_updL u.1 (ac : Int32).toNatClampNeg ((c0 ^^^ -1) &&& 68719476735)), u.2.1, u.2.2.1, u.2.2.2.1, u.2.2.2.2.1, u.2.2.2.2.2)) H := hP
    have hD : va_D (wA h a) (rW h a cA ((vp_updL u.1 (ac : Int32).toNatClampNeg ((c0 ^^^ -1) &&& 68719476735)), u.2.1, u.2.2.1, u.2.2.2.1, u.2.2.2.2.1, u.2.2.2.2.2)) := hD
    generalize (vp_updL u.1 (ac : Int32).toNatClampNeg ((c0 ^^^ -1) &&& 68719476735)) = f_161 at hP hD
    refine lv_goto (tgt := 263) hx hb dX1_bits_162 (by decide) ?_
    exact mm_vret (mw := rW h a cA) (u1 := (f_161, u.2.1, u.2.2.1, u.2.2.2.1, u.2.2.2.2.1, u.2.2.2.2.2)) hx hb hr hlocks hP hK hD hS dX1_bits_263 ⟨hI, rfl, rfl⟩
  by_cases k_320 : op = 320
  · subst k_320
    refine lv_lookup (tgt := 165) hx hb dX1_bits_1 (by decide) rfl (by decide) ?_
    refine lv_aload_n hx hb dX1_bits_165 rfl (lv_at hl 0 rfl) ?_
    refine va_get (D := D) (ci := 1) (v := .ref a) (C := RX1) (T := TX1) (N := 6) hx hb hts iw_X1_bits hown hK hP 0 rfl rfl 1 (by decide) (hts (.fieldLink RX1 7 "WordMillModel" "memory" "[J") (by decide +kernel)) (fun _ h9 => h9) rfl dX1_bits_166 ?_
    refine lv_iload_n hx hb dX1_bits_169 rfl (lv_at hl 2 rfl) ?_
    refine lv_lload hx hb dX1_bits_170 (lv_at hl 4 rfl) ?_
    refine lv_lload_n hx hb dX1_bits_172 rfl (lv_at hl 3 rfl) ?_
    refine ps_gol (As := [.long m0, .long c0]) (rest := [.int ac, .ref a]) ⟨hx, hb, hml, hown, hts⟩ (kX1_half l m0 c0) (va_cwS 2 hts gX1_bits_X1_half rfl rfl rfl (by decide +kernel) ⟨by decide, by decide⟩) rfl hl.1 rfl (Nat.le_of_ble_eq_true rfl) dX1_bits_173 ⟨Nat.zero_le _, Nat.zero_le _⟩ (fun r_173 q_173 => ?_)
    refine va_last hx hb hK hP hD hS 1 0 rfl rfl hac dX1_bits_176 (fun H locs hP hD hS => ?_)
    have hP : va_P D vwCl (rW h a cA ((vp_updL u.1 (ac : Int32).toNatClampNeg r_173), u.2.1, u.2.2.1, u.2.2.2.1, u.2.2.2.2.1, u.2.2.2.2.2)) H := hP
    have hD : va_D (wA h a) (rW h a cA ((vp_updL u.1 (ac : Int32).toNatClampNeg r_173), u.2.1, u.2.2.1, u.2.2.2.1, u.2.2.2.2.1, u.2.2.2.2.2)) := hD
    generalize (vp_updL u.1 (ac : Int32).toNatClampNeg r_173) = f_176 at hP hD
    refine lv_goto (tgt := 263) hx hb dX1_bits_177 (by decide) ?_
    exact mm_vret (mw := rW h a cA) (u1 := (f_176, u.2.1, u.2.2.1, u.2.2.2.1, u.2.2.2.2.1, u.2.2.2.2.2)) hx hb hr hlocks hP hK hD hS dX1_bits_263 ⟨hI, rfl, rfl⟩
  by_cases k_324 : op = 324
  · subst k_324
    refine lv_lookup (tgt := 180) hx hb dX1_bits_1 (by decide) rfl (by decide) ?_
    refine lv_aload_n hx hb dX1_bits_180 rfl (lv_at hl 0 rfl) ?_
    refine va_get (D := D) (ci := 1) (v := .ref a) (C := RX1) (T := TX1) (N := 6) hx hb hts iw_X1_bits hown hK hP 0 rfl rfl 1 (by decide) (hts (.fieldLink RX1 7 "WordMillModel" "memory" "[J") (by decide +kernel)) (fun _ h9 => h9) rfl dX1_bits_181 ?_
    refine lv_iload_n hx hb dX1_bits_184 rfl (lv_at hl 2 rfl) ?_
    refine lv_lload hx hb dX1_bits_185 (lv_at hl 4 rfl) ?_
    refine lv_ldc2 (v := 262143) hx hb hown (hts (.constantLong RX1 31 262143) (by decide +kernel)) dX1_bits_187 ?_
    refine lv_land hx hb dX1_bits_190 ?_
    refine lv_bipush (v := 18) hx hb dX1_bits_191 (by decide) ?_
    refine lv_lshl hx hb dX1_bits_193 rfl ?_
    refine lv_lload_n hx hb dX1_bits_194 rfl (lv_at hl 3 rfl) ?_
    refine lv_ldc2 (v := 262143) hx hb hown (hts (.constantLong RX1 31 262143) (by decide +kernel)) dX1_bits_195 ?_
    refine lv_land hx hb dX1_bits_198 ?_
    refine lv_lor hx hb dX1_bits_199 ?_
    refine va_last hx hb hK hP hD hS 1 0 rfl rfl hac dX1_bits_200 (fun H locs hP hD hS => ?_)
    have hP : va_P D vwCl (rW h a cA ((vp_updL u.1 (ac : Int32).toNatClampNeg (((m0 &&& 262143) <<< ((18 : Int32).toInt64 &&& 63)) ||| (c0 &&& 262143))), u.2.1, u.2.2.1, u.2.2.2.1, u.2.2.2.2.1, u.2.2.2.2.2)) H := hP
    have hD : va_D (wA h a) (rW h a cA ((vp_updL u.1 (ac : Int32).toNatClampNeg (((m0 &&& 262143) <<< ((18 : Int32).toInt64 &&& 63)) ||| (c0 &&& 262143))), u.2.1, u.2.2.1, u.2.2.2.1, u.2.2.2.2.1, u.2.2.2.2.2)) := hD
    generalize (vp_updL u.1 (ac : Int32).toNatClampNeg (((m0 &&& 262143) <<< ((18 : Int32).toInt64 &&& 63)) ||| (c0 &&& 262143))) = f_200 at hP hD
    refine lv_goto (tgt := 263) hx hb dX1_bits_201 (by decide) ?_
    exact mm_vret (mw := rW h a cA) (u1 := (f_200, u.2.1, u.2.2.1, u.2.2.2.1, u.2.2.2.2.1, u.2.2.2.2.2)) hx hb hr hlocks hP hK hD hS dX1_bits_263 ⟨hI, rfl, rfl⟩
  by_cases k_352 : op = 352
  · subst k_352
    refine lv_lookup (tgt := 204) hx hb dX1_bits_1 (by decide) rfl (by decide) ?_
    refine lv_aload_n hx hb dX1_bits_204 rfl (lv_at hl 0 rfl) ?_
    refine va_get (D := D) (ci := 1) (v := .ref a) (C := RX1) (T := TX1) (N := 6) hx hb hts iw_X1_bits hown hK hP 0 rfl rfl 1 (by decide) (hts (.fieldLink RX1 7 "WordMillModel" "memory" "[J") (by decide +kernel)) (fun _ h9 => h9) rfl dX1_bits_205 ?_
    refine lv_iload_n hx hb dX1_bits_208 rfl (lv_at hl 2 rfl) ?_
    refine lv_lload_n hx hb dX1_bits_209 rfl (lv_at hl 3 rfl) ?_
    refine lv_lload hx hb dX1_bits_210 (lv_at hl 4 rfl) ?_
    refine ps_gol (As := [.long c0, .long m0]) (rest := [.int ac, .ref a]) ⟨hx, hb, hml, hown, hts⟩ (kX1_half l c0 m0) (va_cwS 2 hts gX1_bits_X1_half rfl rfl rfl (by decide +kernel) ⟨by decide, by decide⟩) rfl hl.1 rfl (Nat.le_of_ble_eq_true rfl) dX1_bits_212 ⟨Nat.zero_le _, Nat.zero_le _⟩ (fun r_212 q_212 => ?_)
    refine va_last hx hb hK hP hD hS 1 0 rfl rfl hac dX1_bits_215 (fun H locs hP hD hS => ?_)
    have hP : va_P D vwCl (rW h a cA ((vp_updL u.1 (ac : Int32).toNatClampNeg r_212), u.2.1, u.2.2.1, u.2.2.2.1, u.2.2.2.2.1, u.2.2.2.2.2)) H := hP
    have hD : va_D (wA h a) (rW h a cA ((vp_updL u.1 (ac : Int32).toNatClampNeg r_212), u.2.1, u.2.2.1, u.2.2.2.1, u.2.2.2.2.1, u.2.2.2.2.2)) := hD
    generalize (vp_updL u.1 (ac : Int32).toNatClampNeg r_212) = f_215 at hP hD
    refine lv_goto (tgt := 263) hx hb dX1_bits_216 (by decide) ?_
    exact mm_vret (mw := rW h a cA) (u1 := (f_215, u.2.1, u.2.2.1, u.2.2.2.1, u.2.2.2.2.1, u.2.2.2.2.2)) hx hb hr hlocks hP hK hD hS dX1_bits_263 ⟨hI, rfl, rfl⟩
  by_cases k_356 : op = 356
  · subst k_356
    refine lv_lookup (tgt := 219) hx hb dX1_bits_1 (by decide) rfl (by decide) ?_
    refine lv_aload_n hx hb dX1_bits_219 rfl (lv_at hl 0 rfl) ?_
    refine va_get (D := D) (ci := 1) (v := .ref a) (C := RX1) (T := TX1) (N := 6) hx hb hts iw_X1_bits hown hK hP 0 rfl rfl 1 (by decide) (hts (.fieldLink RX1 7 "WordMillModel" "memory" "[J") (by decide +kernel)) (fun _ h9 => h9) rfl dX1_bits_220 ?_
    refine lv_iload_n hx hb dX1_bits_223 rfl (lv_at hl 2 rfl) ?_
    refine lv_lload_n hx hb dX1_bits_224 rfl (lv_at hl 3 rfl) ?_
    refine lv_lload hx hb dX1_bits_225 (lv_at hl 4 rfl) ?_
    refine lv_bipush (v := 18) hx hb dX1_bits_227 (by decide) ?_
    refine lv_lshr hx hb dX1_bits_229 rfl ?_
    refine ps_gol (As := [.long c0, .long (m0 >>> ((18 : Int32).toInt64 &&& 63))]) (rest := [.int ac, .ref a]) ⟨hx, hb, hml, hown, hts⟩ (kX1_half l c0 (m0 >>> ((18 : Int32).toInt64 &&& 63))) (va_cwS 2 hts gX1_bits_X1_half rfl rfl rfl (by decide +kernel) ⟨by decide, by decide⟩) rfl hl.1 rfl (Nat.le_of_ble_eq_true rfl) dX1_bits_230 ⟨Nat.zero_le _, Nat.zero_le _⟩ (fun r_230 q_230 => ?_)
    refine va_last hx hb hK hP hD hS 1 0 rfl rfl hac dX1_bits_233 (fun H locs hP hD hS => ?_)
    have hP : va_P D vwCl (rW h a cA ((vp_updL u.1 (ac : Int32).toNatClampNeg r_230), u.2.1, u.2.2.1, u.2.2.2.1, u.2.2.2.2.1, u.2.2.2.2.2)) H := hP
    have hD : va_D (wA h a) (rW h a cA ((vp_updL u.1 (ac : Int32).toNatClampNeg r_230), u.2.1, u.2.2.1, u.2.2.2.1, u.2.2.2.2.1, u.2.2.2.2.2)) := hD
    generalize (vp_updL u.1 (ac : Int32).toNatClampNeg r_230) = f_233 at hP hD
    refine lv_goto (tgt := 263) hx hb dX1_bits_234 (by decide) ?_
    exact mm_vret (mw := rW h a cA) (u1 := (f_233, u.2.1, u.2.2.1, u.2.2.2.1, u.2.2.2.2.1, u.2.2.2.2.2)) hx hb hr hlocks hP hK hD hS dX1_bits_263 ⟨hI, rfl, rfl⟩
  by_cases k_360 : op = 360
  · subst k_360
    refine lv_lookup (tgt := 237) hx hb dX1_bits_1 (by decide) rfl (by decide) ?_
    refine lv_aload_n hx hb dX1_bits_237 rfl (lv_at hl 0 rfl) ?_
    refine va_get (D := D) (ci := 1) (v := .ref a) (C := RX1) (T := TX1) (N := 6) hx hb hts iw_X1_bits hown hK hP 0 rfl rfl 1 (by decide) (hts (.fieldLink RX1 7 "WordMillModel" "memory" "[J") (by decide +kernel)) (fun _ h9 => h9) rfl dX1_bits_238 ?_
    refine lv_iload_n hx hb dX1_bits_241 rfl (lv_at hl 2 rfl) ?_
    refine lv_lload hx hb dX1_bits_242 (lv_at hl 4 rfl) ?_
    refine lv_ldc2 (v := 262143) hx hb hown (hts (.constantLong RX1 31 262143) (by decide +kernel)) dX1_bits_244 ?_
    refine lv_land hx hb dX1_bits_247 ?_
    refine va_last hx hb hK hP hD hS 1 0 rfl rfl hac dX1_bits_248 (fun H locs hP hD hS => ?_)
    have hP : va_P D vwCl (rW h a cA ((vp_updL u.1 (ac : Int32).toNatClampNeg (m0 &&& 262143)), u.2.1, u.2.2.1, u.2.2.2.1, u.2.2.2.2.1, u.2.2.2.2.2)) H := hP
    have hD : va_D (wA h a) (rW h a cA ((vp_updL u.1 (ac : Int32).toNatClampNeg (m0 &&& 262143)), u.2.1, u.2.2.1, u.2.2.2.1, u.2.2.2.2.1, u.2.2.2.2.2)) := hD
    generalize (vp_updL u.1 (ac : Int32).toNatClampNeg (m0 &&& 262143)) = f_248 at hP hD
    refine lv_goto (tgt := 263) hx hb dX1_bits_249 (by decide) ?_
    exact mm_vret (mw := rW h a cA) (u1 := (f_248, u.2.1, u.2.2.1, u.2.2.2.1, u.2.2.2.2.1, u.2.2.2.2.2)) hx hb hr hlocks hP hK hD hS dX1_bits_263 ⟨hI, rfl, rfl⟩
  refine lv_lookup (off := 251) (tgt := 252) hx hb dX1_bits_1 (by decide) ((lv_osw k_260 (by decide)).trans <| (lv_osw k_261 (by decide)).trans <| (lv_osw k_280 (by decide)).trans <| (lv_osw k_281 (by decide)).trans <| (lv_osw k_284 (by decide)).trans <| (lv_osw k_285 (by decide)).trans <| (lv_osw k_296 (by decide)).trans <| (lv_osw k_320 (by decide)).trans <| (lv_osw k_324 (by decide)).trans <| (lv_osw k_352 (by decide)).trans <| (lv_osw k_356 (by decide)).trans <| (lv_osw k_360 (by decide)).trans <| rfl) (by decide) ?_
  refine lv_aload_n hx hb dX1_bits_252 rfl (lv_at hl 0 rfl) ?_
  refine va_get (D := D) (ci := 1) (v := .ref a) (C := RX1) (T := TX1) (N := 6) hx hb hts iw_X1_bits hown hK hP 0 rfl rfl 1 (by decide) (hts (.fieldLink RX1 7 "WordMillModel" "memory" "[J") (by decide +kernel)) (fun _ h9 => h9) rfl dX1_bits_253 ?_
  refine lv_iload_n hx hb dX1_bits_256 rfl (lv_at hl 2 rfl) ?_
  refine lv_lload hx hb dX1_bits_257 (lv_at hl 4 rfl) ?_
  refine lv_bipush (v := 18) hx hb dX1_bits_259 (by decide) ?_
  refine lv_lshr hx hb dX1_bits_261 rfl ?_
  refine va_last hx hb hK hP hD hS 1 0 rfl rfl hac dX1_bits_262 (fun H locs hP hD hS => ?_)
  have hP : va_P D vwCl (rW h a cA ((vp_updL u.1 (ac : Int32).toNatClampNeg (m0 >>> ((18 : Int32).toInt64 &&& 63))), u.2.1, u.2.2.1, u.2.2.2.1, u.2.2.2.2.1, u.2.2.2.2.2)) H := hP
  have hD : va_D (wA h a) (rW h a cA ((vp_updL u.1 (ac : Int32).toNatClampNeg (m0 >>> ((18 : Int32).toInt64 &&& 63))), u.2.1, u.2.2.1, u.2.2.2.1, u.2.2.2.2.1, u.2.2.2.2.2)) := hD
  generalize (vp_updL u.1 (ac : Int32).toNatClampNeg (m0 >>> ((18 : Int32).toInt64 &&& 63))) = f_262 at hP hD
  exact mm_vret (mw := rW h a cA) (u1 := (f_262, u.2.1, u.2.2.1, u.2.2.2.1, u.2.2.2.2.1, u.2.2.2.2.2)) hx hb hr hlocks hP hK hD hS dX1_bits_263 ⟨hI, rfl, rfl⟩
theorem iw_X1_moved : ∀ w ∈ u_ws RX1 TX1 6, w ∈ wsX1_moved := by decide +kernel
set_option maxHeartbeats 4000000 in
set_option maxRecDepth 100000 in
theorem kX1_moved (l : Launch) (D : va_G) (h a : Nat) (cA : ClassId) (u : rS) (hI : rI u) (op : Int32) (ac : Int32) (e0 : Int64) (m0 : Int64) (hac : vp_in ac 4096) (hne : fr op ∨ pl e0) : MM l yX1_moved wsX1_moved ({ frames := 2, cells := 0, slots := 0, locals := 49 }) D vwCl [(cA, .long)] (rW h a cA) (wA h a) u [.ref h, .int op, .int ac, .long e0, .long m0] rv_v (fun _ u' => rK u u') := by
  refine mm_of (cc := cX1_moved) (maxL := 11) (ret := none) (by decide) rfl (Nat.le_of_ble_eq_true rfl) (rA_in h a cA u) ?_
  intro p e s m below meth c ls C hl hP hK hD hS
  obtain ⟨hx, hb, hr, hml, hown, hts, hlocks⟩ := C
  have hl : lv_has ls 11 [(0, .ref h), (1, .int op), (2, .int ac), (3, .long e0), (5, .long m0)] := hl
  refine lv_aload_n hx hb dX1_moved_0 rfl (lv_at hl 0 rfl) ?_
  refine va_get (D := D) (ci := 1) (v := .ref a) (C := RX1) (T := TX1) (N := 6) hx hb hts iw_X1_moved hown hK hP 0 rfl rfl 1 (by decide) (hts (.fieldLink RX1 7 "WordMillModel" "memory" "[J") (by decide +kernel)) (fun _ h9 => h9) rfl dX1_moved_1 ?_
  refine lv_iload_n hx hb dX1_moved_4 rfl (lv_at hl 2 rfl) ?_
  refine va_lald hx hb hK hP 1 0 rfl rfl hac dX1_moved_5 ?_
  refine lv_topl (fun x_6 ex_6 => ?_)
  refine lv_lstore (lv' := [(7, .long x_6), (0, .ref h), (1, .int op), (2, .int ac), (3, .long e0), (5, .long m0)]) hx hb dX1_moved_6 hl (by decide) rfl (fun ls hl => ?_)
  refine lv_iload_n hx hb dX1_moved_8 rfl (lv_at hl 2 rfl) ?_
  by_cases k_128 : op = 128
  · subst k_128
    refine lv_lookup (tgt := 164) hx hb dX1_moved_9 (by decide) rfl (by decide) ?_
    refine lv_aload_n hx hb dX1_moved_164 rfl (lv_at hl 1 rfl) ?_
    refine va_get (D := D) (ci := 1) (v := .ref a) (C := RX1) (T := TX1) (N := 6) hx hb hts iw_X1_moved hown hK hP 0 rfl rfl 1 (by decide) (hts (.fieldLink RX1 7 "WordMillModel" "memory" "[J") (by decide +kernel)) (fun _ h9 => h9) rfl dX1_moved_165 ?_
    refine lv_iload_n hx hb dX1_moved_168 rfl (lv_at hl 3 rfl) ?_
    refine lv_lload hx hb dX1_moved_169 (lv_at hl 5 rfl) ?_
    refine va_last hx hb hK hP hD hS 1 0 rfl rfl hac dX1_moved_171 (fun H locs hP hD hS => ?_)
    have hP : va_P D vwCl (rW h a cA ((vp_updL u.1 (ac : Int32).toNatClampNeg m0), u.2.1, u.2.2.1, u.2.2.2.1, u.2.2.2.2.1, u.2.2.2.2.2)) H := hP
    have hD : va_D (wA h a) (rW h a cA ((vp_updL u.1 (ac : Int32).toNatClampNeg m0), u.2.1, u.2.2.1, u.2.2.2.1, u.2.2.2.2.1, u.2.2.2.2.2)) := hD
    generalize (vp_updL u.1 (ac : Int32).toNatClampNeg m0) = f_171 at hP hD
    refine lv_goto (tgt := 533) hx hb dX1_moved_172 (by decide) ?_
    exact mm_vret (mw := rW h a cA) (u1 := (f_171, u.2.1, u.2.2.1, u.2.2.2.1, u.2.2.2.2.1, u.2.2.2.2.2)) hx hb hr hlocks hP hK hD hS dX1_moved_533 ⟨hI, rfl, rfl⟩
  by_cases k_129 : op = 129
  · subst k_129
    refine lv_lookup (tgt := 175) hx hb dX1_moved_9 (by decide) rfl (by decide) ?_
    refine lv_aload_n hx hb dX1_moved_175 rfl (lv_at hl 1 rfl) ?_
    refine va_get (D := D) (ci := 1) (v := .ref a) (C := RX1) (T := TX1) (N := 6) hx hb hts iw_X1_moved hown hK hP 0 rfl rfl 1 (by decide) (hts (.fieldLink RX1 7 "WordMillModel" "memory" "[J") (by decide +kernel)) (fun _ h9 => h9) rfl dX1_moved_176 ?_
    refine lv_iload_n hx hb dX1_moved_179 rfl (lv_at hl 3 rfl) ?_
    refine lv_lload_n hx hb dX1_moved_180 rfl (lv_at hl 4 rfl) ?_
    refine va_last hx hb hK hP hD hS 1 0 rfl rfl hac dX1_moved_181 (fun H locs hP hD hS => ?_)
    have hP : va_P D vwCl (rW h a cA ((vp_updL u.1 (ac : Int32).toNatClampNeg e0), u.2.1, u.2.2.1, u.2.2.2.1, u.2.2.2.2.1, u.2.2.2.2.2)) H := hP
    have hD : va_D (wA h a) (rW h a cA ((vp_updL u.1 (ac : Int32).toNatClampNeg e0), u.2.1, u.2.2.1, u.2.2.2.1, u.2.2.2.2.1, u.2.2.2.2.2)) := hD
    generalize (vp_updL u.1 (ac : Int32).toNatClampNeg e0) = f_181 at hP hD
    refine lv_goto (tgt := 533) hx hb dX1_moved_182 (by decide) ?_
    exact mm_vret (mw := rW h a cA) (u1 := (f_181, u.2.1, u.2.2.1, u.2.2.2.1, u.2.2.2.2.1, u.2.2.2.2.2)) hx hb hr hlocks hP hK hD hS dX1_moved_533 ⟨hI, rfl, rfl⟩
  by_cases k_130 : op = 130
  · subst k_130
    refine lv_lookup (tgt := 185) hx hb dX1_moved_9 (by decide) rfl (by decide) ?_
    refine lv_aload_n hx hb dX1_moved_185 rfl (lv_at hl 1 rfl) ?_
    refine va_get (D := D) (ci := 1) (v := .ref a) (C := RX1) (T := TX1) (N := 6) hx hb hts iw_X1_moved hown hK hP 0 rfl rfl 1 (by decide) (hts (.fieldLink RX1 7 "WordMillModel" "memory" "[J") (by decide +kernel)) (fun _ h9 => h9) rfl dX1_moved_186 ?_
    refine lv_lload_n hx hb dX1_moved_189 rfl (lv_at hl 4 rfl) ?_
    refine lv_l2i hx hb dX1_moved_190 rfl ?_
    refine lv_lload hx hb dX1_moved_191 (lv_at hl 0 rfl) ?_
    refine va_last hx hb hK hP hD hS 1 0 rfl rfl (pl_in (Or.resolve_left hne nfr130)) dX1_moved_193 (fun H locs hP hD hS => ?_)
    have hP : va_P D vwCl (rW h a cA ((vp_updL u.1 ((e0 : Int64).toInt32 : Int32).toNatClampNeg x_6), u.2.1, u.2.2.1, u.2.2.2.1, u.2.2.2.2.1, u.2.2.2.2.2)) H := hP
    have hD : va_D (wA h a) (rW h a cA ((vp_updL u.1 ((e0 : Int64).toInt32 : Int32).toNatClampNeg x_6), u.2.1, u.2.2.1, u.2.2.2.1, u.2.2.2.2.1, u.2.2.2.2.2)) := hD
    generalize (vp_updL u.1 ((e0 : Int64).toInt32 : Int32).toNatClampNeg x_6) = f_193 at hP hD
    refine lv_goto (tgt := 533) hx hb dX1_moved_194 (by decide) ?_
    exact mm_vret (mw := rW h a cA) (u1 := (f_193, u.2.1, u.2.2.1, u.2.2.2.1, u.2.2.2.2.1, u.2.2.2.2.2)) hx hb hr hlocks hP hK hD hS dX1_moved_533 ⟨hI, rfl, rfl⟩
  by_cases k_132 : op = 132
  · subst k_132
    refine lv_lookup (tgt := 197) hx hb dX1_moved_9 (by decide) rfl (by decide) ?_
    refine lv_aload_n hx hb dX1_moved_197 rfl (lv_at hl 1 rfl) ?_
    refine va_get (D := D) (ci := 1) (v := .ref a) (C := RX1) (T := TX1) (N := 6) hx hb hts iw_X1_moved hown hK hP 0 rfl rfl 1 (by decide) (hts (.fieldLink RX1 7 "WordMillModel" "memory" "[J") (by decide +kernel)) (fun _ h9 => h9) rfl dX1_moved_198 ?_
    refine lv_iload_n hx hb dX1_moved_201 rfl (lv_at hl 3 rfl) ?_
    refine lv_lload hx hb dX1_moved_202 (lv_at hl 5 rfl) ?_
    refine lv_ldc2 (v := 262143) hx hb hown (hts (.constantLong RX1 31 262143) (by decide +kernel)) dX1_moved_204 ?_
    refine lv_land hx hb dX1_moved_207 ?_
    refine lv_bipush (v := 18) hx hb dX1_moved_208 (by decide) ?_
    refine lv_lshl hx hb dX1_moved_210 rfl ?_
    refine lv_lload hx hb dX1_moved_211 (lv_at hl 5 rfl) ?_
    refine lv_bipush (v := 18) hx hb dX1_moved_213 (by decide) ?_
    refine lv_lshr hx hb dX1_moved_215 rfl ?_
    refine lv_lor hx hb dX1_moved_216 ?_
    refine va_last hx hb hK hP hD hS 1 0 rfl rfl hac dX1_moved_217 (fun H locs hP hD hS => ?_)
    have hP : va_P D vwCl (rW h a cA ((vp_updL u.1 (ac : Int32).toNatClampNeg (((m0 &&& 262143) <<< ((18 : Int32).toInt64 &&& 63)) ||| (m0 >>> ((18 : Int32).toInt64 &&& 63)))), u.2.1, u.2.2.1, u.2.2.2.1, u.2.2.2.2.1, u.2.2.2.2.2)) H := hP
    have hD : va_D (wA h a) (rW h a cA ((vp_updL u.1 (ac : Int32).toNatClampNeg (((m0 &&& 262143) <<< ((18 : Int32).toInt64 &&& 63)) ||| (m0 >>> ((18 : Int32).toInt64 &&& 63)))), u.2.1, u.2.2.1, u.2.2.2.1, u.2.2.2.2.1, u.2.2.2.2.2)) := hD
    generalize (vp_updL u.1 (ac : Int32).toNatClampNeg (((m0 &&& 262143) <<< ((18 : Int32).toInt64 &&& 63)) ||| (m0 >>> ((18 : Int32).toInt64 &&& 63)))) = f_217 at hP hD
    refine lv_goto (tgt := 533) hx hb dX1_moved_218 (by decide) ?_
    exact mm_vret (mw := rW h a cA) (u1 := (f_217, u.2.1, u.2.2.1, u.2.2.2.1, u.2.2.2.2.1, u.2.2.2.2.2)) hx hb hr hlocks hP hK hD hS dX1_moved_533 ⟨hI, rfl, rfl⟩
  by_cases k_136 : op = 136
  · subst k_136
    refine lv_lookup (tgt := 221) hx hb dX1_moved_9 (by decide) rfl (by decide) ?_
    refine lv_aload_n hx hb dX1_moved_221 rfl (lv_at hl 1 rfl) ?_
    refine va_get (D := D) (ci := 1) (v := .ref a) (C := RX1) (T := TX1) (N := 6) hx hb hts iw_X1_moved hown hK hP 0 rfl rfl 1 (by decide) (hts (.fieldLink RX1 7 "WordMillModel" "memory" "[J") (by decide +kernel)) (fun _ h9 => h9) rfl dX1_moved_222 ?_
    refine lv_iload_n hx hb dX1_moved_225 rfl (lv_at hl 3 rfl) ?_
    refine lv_lload hx hb dX1_moved_226 (lv_at hl 5 rfl) ?_
    refine lv_lneg hx hb dX1_moved_228 ?_
    refine lv_ldc2 (v := 68719476735) hx hb hown (hts (.constantLong RX1 27 68719476735) (by decide +kernel)) dX1_moved_229 ?_
    refine lv_land hx hb dX1_moved_232 ?_
    refine va_last hx hb hK hP hD hS 1 0 rfl rfl hac dX1_moved_233 (fun H locs hP hD hS => ?_)
    have hP : va_P D vwCl (rW h a cA ((vp_updL u.1 (ac : Int32).toNatClampNeg ((-m0) &&& 68719476735)), u.2.1, u.2.2.1, u.2.2.2.1, u.2.2.2.2.1, u.2.2.2.2.2)) H := hP
    have hD : va_D (wA h a) (rW h a cA ((vp_updL u.1 (ac : Int32).toNatClampNeg ((-m0) &&& 68719476735)), u.2.1, u.2.2.1, u.2.2.2.1, u.2.2.2.2.1, u.2.2.2.2.2)) := hD
    generalize (vp_updL u.1 (ac : Int32).toNatClampNeg ((-m0) &&& 68719476735)) = f_233 at hP hD
    refine lv_goto (tgt := 533) hx hb dX1_moved_234 (by decide) ?_
    exact mm_vret (mw := rW h a cA) (u1 := (f_233, u.2.1, u.2.2.1, u.2.2.2.1, u.2.2.2.2.1, u.2.2.2.2.2)) hx hb hr hlocks hP hK hD hS dX1_moved_533 ⟨hI, rfl, rfl⟩
  by_cases k_140 : op = 140
  · subst k_140
    refine lv_lookup (tgt := 237) hx hb dX1_moved_9 (by decide) rfl (by decide) ?_
    refine lv_aload_n hx hb dX1_moved_237 rfl (lv_at hl 1 rfl) ?_
    refine va_get (D := D) (ci := 1) (v := .ref a) (C := RX1) (T := TX1) (N := 6) hx hb hts iw_X1_moved hown hK hP 0 rfl rfl 1 (by decide) (hts (.fieldLink RX1 7 "WordMillModel" "memory" "[J") (by decide +kernel)) (fun _ h9 => h9) rfl dX1_moved_238 ?_
    refine lv_iload_n hx hb dX1_moved_241 rfl (lv_at hl 3 rfl) ?_
    refine lv_lload hx hb dX1_moved_242 (lv_at hl 5 rfl) ?_
    refine ps_gol (As := [.long m0]) (rest := [.int ac, .ref a]) ⟨hx, hb, hml, hown, hts⟩ (kX1_number l m0) (va_cwS 1 hts gX1_moved_X1_number rfl rfl rfl (by decide +kernel) ⟨by decide, by decide⟩) rfl hl.1 rfl (Nat.le_of_ble_eq_true rfl) dX1_moved_244 ⟨Nat.zero_le _, Nat.zero_le _⟩ (fun r_244 q_244 => ?_)
    refine lv_lconst (v := 0) hx hb dX1_moved_247 (by decide) ?_
    refine W.lcmp hx hb dX1_moved_248 ?_
    refine lv_if_ge (tgt := 262) hx hb dX1_moved_249 (by decide) (fun c_249 => ?_) (fun c_249 => ?_)
    · refine lv_lload hx hb dX1_moved_262 (lv_at hl 5 rfl) ?_
      refine va_last hx hb hK hP hD hS 1 0 rfl rfl hac dX1_moved_264 (fun H locs hP hD hS => ?_)
      have hP : va_P D vwCl (rW h a cA ((vp_updL u.1 (ac : Int32).toNatClampNeg m0), u.2.1, u.2.2.1, u.2.2.2.1, u.2.2.2.2.1, u.2.2.2.2.2)) H := hP
      have hD : va_D (wA h a) (rW h a cA ((vp_updL u.1 (ac : Int32).toNatClampNeg m0), u.2.1, u.2.2.1, u.2.2.2.1, u.2.2.2.2.1, u.2.2.2.2.2)) := hD
      generalize (vp_updL u.1 (ac : Int32).toNatClampNeg m0) = f_264 at hP hD
      refine lv_goto (tgt := 533) hx hb dX1_moved_265 (by decide) ?_
      exact mm_vret (mw := rW h a cA) (u1 := (f_264, u.2.1, u.2.2.1, u.2.2.2.1, u.2.2.2.2.1, u.2.2.2.2.2)) hx hb hr hlocks hP hK hD hS dX1_moved_533 ⟨hI, rfl, rfl⟩
    · refine lv_lload hx hb dX1_moved_252 (lv_at hl 5 rfl) ?_
      refine lv_lneg hx hb dX1_moved_254 ?_
      refine lv_ldc2 (v := 68719476735) hx hb hown (hts (.constantLong RX1 27 68719476735) (by decide +kernel)) dX1_moved_255 ?_
      refine lv_land hx hb dX1_moved_258 ?_
      refine lv_goto (tgt := 264) hx hb dX1_moved_259 (by decide) ?_
      refine va_last hx hb hK hP hD hS 1 0 rfl rfl hac dX1_moved_264 (fun H locs hP hD hS => ?_)
      have hP : va_P D vwCl (rW h a cA ((vp_updL u.1 (ac : Int32).toNatClampNeg ((-m0) &&& 68719476735)), u.2.1, u.2.2.1, u.2.2.2.1, u.2.2.2.2.1, u.2.2.2.2.2)) H := hP
      have hD : va_D (wA h a) (rW h a cA ((vp_updL u.1 (ac : Int32).toNatClampNeg ((-m0) &&& 68719476735)), u.2.1, u.2.2.1, u.2.2.2.1, u.2.2.2.2.1, u.2.2.2.2.2)) := hD
      generalize (vp_updL u.1 (ac : Int32).toNatClampNeg ((-m0) &&& 68719476735)) = f_264 at hP hD
      refine lv_goto (tgt := 533) hx hb dX1_moved_265 (by decide) ?_
      exact mm_vret (mw := rW h a cA) (u1 := (f_264, u.2.1, u.2.2.1, u.2.2.2.1, u.2.2.2.2.1, u.2.2.2.2.2)) hx hb hr hlocks hP hK hD hS dX1_moved_533 ⟨hI, rfl, rfl⟩
  by_cases k_144 : op = 144
  · subst k_144
    refine lv_lookup (tgt := 288) hx hb dX1_moved_9 (by decide) rfl (by decide) ?_
    refine lv_aload_n hx hb dX1_moved_288 rfl (lv_at hl 1 rfl) ?_
    refine va_get (D := D) (ci := 1) (v := .ref a) (C := RX1) (T := TX1) (N := 6) hx hb hts iw_X1_moved hown hK hP 0 rfl rfl 1 (by decide) (hts (.fieldLink RX1 7 "WordMillModel" "memory" "[J") (by decide +kernel)) (fun _ h9 => h9) rfl dX1_moved_289 ?_
    refine lv_iload_n hx hb dX1_moved_292 rfl (lv_at hl 3 rfl) ?_
    refine lv_lload hx hb dX1_moved_293 (lv_at hl 0 rfl) ?_
    refine ps_gol (As := [.long x_6]) (rest := [.int ac, .ref a]) ⟨hx, hb, hml, hown, hts⟩ (kX1_number l x_6) (va_cwS 1 hts gX1_moved_X1_number rfl rfl rfl (by decide +kernel) ⟨by decide, by decide⟩) rfl hl.1 rfl (Nat.le_of_ble_eq_true rfl) dX1_moved_295 ⟨Nat.zero_le _, Nat.zero_le _⟩ (fun r_295 q_295 => ?_)
    refine lv_iload_n hx hb dX1_moved_298 rfl (lv_at hl 2 rfl) ?_
    refine lv_sipush (v := 144) hx hb dX1_moved_299 (by decide) ?_
    refine lv_icmp_ne (tgt := 313) hx hb dX1_moved_302 (by decide) (fun c_302 => ?_) (fun c_302 => ?_)
    · exact absurd c_302 (by decide)
    · refine lv_lload hx hb dX1_moved_305 (lv_at hl 5 rfl) ?_
      refine ps_gol (As := [.long m0]) (rest := [.long r_295, .int ac, .ref a]) ⟨hx, hb, hml, hown, hts⟩ (kX1_number l m0) (va_cwS 1 hts gX1_moved_X1_number rfl rfl rfl (by decide +kernel) ⟨by decide, by decide⟩) rfl hl.1 rfl (Nat.le_of_ble_eq_true rfl) dX1_moved_307 ⟨Nat.zero_le _, Nat.zero_le _⟩ (fun r_307 q_307 => ?_)
      refine lv_goto (tgt := 314) hx hb dX1_moved_310 (by decide) ?_
      refine lv_lmul hx hb dX1_moved_314 ?_
      refine lv_ldc2 (v := 68719476735) hx hb hown (hts (.constantLong RX1 27 68719476735) (by decide +kernel)) dX1_moved_315 ?_
      refine lv_land hx hb dX1_moved_318 ?_
      refine va_last hx hb hK hP hD hS 1 0 rfl rfl hac dX1_moved_319 (fun H locs hP hD hS => ?_)
      have hP : va_P D vwCl (rW h a cA ((vp_updL u.1 (ac : Int32).toNatClampNeg ((r_295 * r_307) &&& 68719476735)), u.2.1, u.2.2.1, u.2.2.2.1, u.2.2.2.2.1, u.2.2.2.2.2)) H := hP
      have hD : va_D (wA h a) (rW h a cA ((vp_updL u.1 (ac : Int32).toNatClampNeg ((r_295 * r_307) &&& 68719476735)), u.2.1, u.2.2.1, u.2.2.2.1, u.2.2.2.2.1, u.2.2.2.2.2)) := hD
      generalize (vp_updL u.1 (ac : Int32).toNatClampNeg ((r_295 * r_307) &&& 68719476735)) = f_319 at hP hD
      refine lv_goto (tgt := 533) hx hb dX1_moved_320 (by decide) ?_
      exact mm_vret (mw := rW h a cA) (u1 := (f_319, u.2.1, u.2.2.1, u.2.2.2.1, u.2.2.2.2.1, u.2.2.2.2.2)) hx hb hr hlocks hP hK hD hS dX1_moved_533 ⟨hI, rfl, rfl⟩
  by_cases k_145 : op = 145
  · subst k_145
    refine lv_lookup (tgt := 288) hx hb dX1_moved_9 (by decide) rfl (by decide) ?_
    refine lv_aload_n hx hb dX1_moved_288 rfl (lv_at hl 1 rfl) ?_
    refine va_get (D := D) (ci := 1) (v := .ref a) (C := RX1) (T := TX1) (N := 6) hx hb hts iw_X1_moved hown hK hP 0 rfl rfl 1 (by decide) (hts (.fieldLink RX1 7 "WordMillModel" "memory" "[J") (by decide +kernel)) (fun _ h9 => h9) rfl dX1_moved_289 ?_
    refine lv_iload_n hx hb dX1_moved_292 rfl (lv_at hl 3 rfl) ?_
    refine lv_lload hx hb dX1_moved_293 (lv_at hl 0 rfl) ?_
    refine ps_gol (As := [.long x_6]) (rest := [.int ac, .ref a]) ⟨hx, hb, hml, hown, hts⟩ (kX1_number l x_6) (va_cwS 1 hts gX1_moved_X1_number rfl rfl rfl (by decide +kernel) ⟨by decide, by decide⟩) rfl hl.1 rfl (Nat.le_of_ble_eq_true rfl) dX1_moved_295 ⟨Nat.zero_le _, Nat.zero_le _⟩ (fun r_295 q_295 => ?_)
    refine lv_iload_n hx hb dX1_moved_298 rfl (lv_at hl 2 rfl) ?_
    refine lv_sipush (v := 144) hx hb dX1_moved_299 (by decide) ?_
    refine lv_icmp_ne (tgt := 313) hx hb dX1_moved_302 (by decide) (fun c_302 => ?_) (fun c_302 => ?_)
    · refine lv_lload_n hx hb dX1_moved_313 rfl (lv_at hl 4 rfl) ?_
      refine lv_lmul hx hb dX1_moved_314 ?_
      refine lv_ldc2 (v := 68719476735) hx hb hown (hts (.constantLong RX1 27 68719476735) (by decide +kernel)) dX1_moved_315 ?_
      refine lv_land hx hb dX1_moved_318 ?_
      refine va_last hx hb hK hP hD hS 1 0 rfl rfl hac dX1_moved_319 (fun H locs hP hD hS => ?_)
      have hP : va_P D vwCl (rW h a cA ((vp_updL u.1 (ac : Int32).toNatClampNeg ((r_295 * e0) &&& 68719476735)), u.2.1, u.2.2.1, u.2.2.2.1, u.2.2.2.2.1, u.2.2.2.2.2)) H := hP
      have hD : va_D (wA h a) (rW h a cA ((vp_updL u.1 (ac : Int32).toNatClampNeg ((r_295 * e0) &&& 68719476735)), u.2.1, u.2.2.1, u.2.2.2.1, u.2.2.2.2.1, u.2.2.2.2.2)) := hD
      generalize (vp_updL u.1 (ac : Int32).toNatClampNeg ((r_295 * e0) &&& 68719476735)) = f_319 at hP hD
      refine lv_goto (tgt := 533) hx hb dX1_moved_320 (by decide) ?_
      exact mm_vret (mw := rW h a cA) (u1 := (f_319, u.2.1, u.2.2.1, u.2.2.2.1, u.2.2.2.2.1, u.2.2.2.2.2)) hx hb hr hlocks hP hK hD hS dX1_moved_533 ⟨hI, rfl, rfl⟩
    · exact absurd c_302 (by decide)
  by_cases k_152 : op = 152
  · subst k_152
    refine lv_lookup (tgt := 323) hx hb dX1_moved_9 (by decide) rfl (by decide) ?_
    refine lv_aload_n hx hb dX1_moved_323 rfl (lv_at hl 1 rfl) ?_
    refine lv_iload_n hx hb dX1_moved_324 rfl (lv_at hl 3 rfl) ?_
    refine lv_lload hx hb dX1_moved_325 (lv_at hl 0 rfl) ?_
    refine ps_gol (As := [.long x_6]) (rest := [.int ac, .ref h]) ⟨hx, hb, hml, hown, hts⟩ (kX1_number l x_6) (va_cwS 1 hts gX1_moved_X1_number rfl rfl rfl (by decide +kernel) ⟨by decide, by decide⟩) rfl hl.1 rfl (Nat.le_of_ble_eq_true rfl) dX1_moved_327 ⟨Nat.zero_le _, Nat.zero_le _⟩ (fun r_327 q_327 => ?_)
    refine lv_iload_n hx hb dX1_moved_330 rfl (lv_at hl 2 rfl) ?_
    refine lv_sipush (v := 152) hx hb dX1_moved_331 (by decide) ?_
    refine lv_icmp_ne (tgt := 345) hx hb dX1_moved_334 (by decide) (fun c_334 => ?_) (fun c_334 => ?_)
    · exact absurd c_334 (by decide)
    · refine lv_lload hx hb dX1_moved_337 (lv_at hl 5 rfl) ?_
      refine ps_gol (As := [.long m0]) (rest := [.long r_327, .int ac, .ref h]) ⟨hx, hb, hml, hown, hts⟩ (kX1_number l m0) (va_cwS 1 hts gX1_moved_X1_number rfl rfl rfl (by decide +kernel) ⟨by decide, by decide⟩) rfl hl.1 rfl (Nat.le_of_ble_eq_true rfl) dX1_moved_339 ⟨Nat.zero_le _, Nat.zero_le _⟩ (fun r_339 q_339 => ?_)
      refine lv_goto (tgt := 346) hx hb dX1_moved_342 (by decide) ?_
      refine r_go (rv := rv_v) (As := [.int ac, .long r_327, .long r_339]) (rest := []) ⟨hx, hb, hml, hown, hts⟩ (kX1_divided l D h a cA (u.1, u.2.1, u.2.2.1, u.2.2.2.1, u.2.2.2.2.1, u.2.2.2.2.2) hI ac r_327 r_339 hac) (cwV 3 hts gX1_moved_X1_divided rfl rfl rfl (by decide +kernel) ⟨by decide, by decide⟩) hK hP hD hS rfl hl.1 rfl (Nat.le_of_ble_eq_true rfl) dX1_moved_346 ⟨Nat.zero_le _, Nat.zero_le _⟩ (fun _ u_346 H locs q_346 hP hD hS => ?_)
      refine W.eq (g2 := F0 m 349 ls []) rfl ?_
      refine lv_goto (tgt := 533) hx hb dX1_moved_349 (by decide) ?_
      exact mm_vret (mw := rW h a cA) (u1 := (u_346.1, u_346.2.1, u_346.2.2.1, u_346.2.2.2.1, u_346.2.2.2.2.1, u_346.2.2.2.2.2)) hx hb hr hlocks hP hK hD hS dX1_moved_533 ⟨q_346.1, (q_346.2.1.trans rfl), (q_346.2.2.trans rfl)⟩
  by_cases k_153 : op = 153
  · subst k_153
    refine lv_lookup (tgt := 323) hx hb dX1_moved_9 (by decide) rfl (by decide) ?_
    refine lv_aload_n hx hb dX1_moved_323 rfl (lv_at hl 1 rfl) ?_
    refine lv_iload_n hx hb dX1_moved_324 rfl (lv_at hl 3 rfl) ?_
    refine lv_lload hx hb dX1_moved_325 (lv_at hl 0 rfl) ?_
    refine ps_gol (As := [.long x_6]) (rest := [.int ac, .ref h]) ⟨hx, hb, hml, hown, hts⟩ (kX1_number l x_6) (va_cwS 1 hts gX1_moved_X1_number rfl rfl rfl (by decide +kernel) ⟨by decide, by decide⟩) rfl hl.1 rfl (Nat.le_of_ble_eq_true rfl) dX1_moved_327 ⟨Nat.zero_le _, Nat.zero_le _⟩ (fun r_327 q_327 => ?_)
    refine lv_iload_n hx hb dX1_moved_330 rfl (lv_at hl 2 rfl) ?_
    refine lv_sipush (v := 152) hx hb dX1_moved_331 (by decide) ?_
    refine lv_icmp_ne (tgt := 345) hx hb dX1_moved_334 (by decide) (fun c_334 => ?_) (fun c_334 => ?_)
    · refine lv_lload_n hx hb dX1_moved_345 rfl (lv_at hl 4 rfl) ?_
      refine r_go (rv := rv_v) (As := [.int ac, .long r_327, .long e0]) (rest := []) ⟨hx, hb, hml, hown, hts⟩ (kX1_divided l D h a cA (u.1, u.2.1, u.2.2.1, u.2.2.2.1, u.2.2.2.2.1, u.2.2.2.2.2) hI ac r_327 e0 hac) (cwV 3 hts gX1_moved_X1_divided rfl rfl rfl (by decide +kernel) ⟨by decide, by decide⟩) hK hP hD hS rfl hl.1 rfl (Nat.le_of_ble_eq_true rfl) dX1_moved_346 ⟨Nat.zero_le _, Nat.zero_le _⟩ (fun _ u_346 H locs q_346 hP hD hS => ?_)
      refine W.eq (g2 := F0 m 349 ls []) rfl ?_
      refine lv_goto (tgt := 533) hx hb dX1_moved_349 (by decide) ?_
      exact mm_vret (mw := rW h a cA) (u1 := (u_346.1, u_346.2.1, u_346.2.2.1, u_346.2.2.2.1, u_346.2.2.2.2.1, u_346.2.2.2.2.2)) hx hb hr hlocks hP hK hD hS dX1_moved_533 ⟨q_346.1, (q_346.2.1.trans rfl), (q_346.2.2.trans rfl)⟩
    · exact absurd c_334 (by decide)
  by_cases k_162 : op = 162
  · subst k_162
    refine lv_lookup (tgt := 352) hx hb dX1_moved_9 (by decide) rfl (by decide) ?_
    refine lv_lload_n hx hb dX1_moved_352 rfl (lv_at hl 4 rfl) ?_
    refine lv_bipush (v := 46) hx hb dX1_moved_353 (by decide) ?_
    refine lv_lshl hx hb dX1_moved_355 rfl ?_
    refine lv_bipush (v := 46) hx hb dX1_moved_356 (by decide) ?_
    refine lv_lshr hx hb dX1_moved_358 rfl ?_
    refine lv_topl (fun x_359 ex_359 => ?_)
    refine lv_lstore (lv' := [(9, .long x_359), (7, .long x_6), (0, .ref h), (1, .int 162), (2, .int ac), (3, .long e0), (5, .long m0)]) hx hb dX1_moved_359 hl (by decide) rfl (fun ls hl => ?_)
    refine lv_aload_n hx hb dX1_moved_361 rfl (lv_at hl 2 rfl) ?_
    refine va_get (D := D) (ci := 1) (v := .ref a) (C := RX1) (T := TX1) (N := 6) hx hb hts iw_X1_moved hown hK hP 0 rfl rfl 1 (by decide) (hts (.fieldLink RX1 7 "WordMillModel" "memory" "[J") (by decide +kernel)) (fun _ h9 => h9) rfl dX1_moved_362 ?_
    refine lv_iload_n hx hb dX1_moved_365 rfl (lv_at hl 4 rfl) ?_
    refine lv_lload hx hb dX1_moved_366 (lv_at hl 0 rfl) ?_
    refine lv_ldc2 (v := 36) hx hb hown (hts (.constantLong RX1 96 36) (by decide +kernel)) dX1_moved_368 ?_
    refine W.lcmp hx hb dX1_moved_371 ?_
    refine lv_if_ge (tgt := 384) hx hb dX1_moved_372 (by decide) (fun c_372 => ?_) (fun c_372 => ?_)
    · refine lv_lconst (v := 0) hx hb dX1_moved_384 (by decide) ?_
      refine lv_goto (tgt := 415) hx hb dX1_moved_385 (by decide) ?_
      refine va_last hx hb hK hP hD hS 1 0 rfl rfl hac dX1_moved_415 (fun H locs hP hD hS => ?_)
      have hP : va_P D vwCl (rW h a cA ((vp_updL u.1 (ac : Int32).toNatClampNeg 0), u.2.1, u.2.2.1, u.2.2.2.1, u.2.2.2.2.1, u.2.2.2.2.2)) H := hP
      have hD : va_D (wA h a) (rW h a cA ((vp_updL u.1 (ac : Int32).toNatClampNeg 0), u.2.1, u.2.2.1, u.2.2.2.1, u.2.2.2.2.1, u.2.2.2.2.2)) := hD
      generalize (vp_updL u.1 (ac : Int32).toNatClampNeg 0) = f_415 at hP hD
      refine lv_goto (tgt := 533) hx hb dX1_moved_416 (by decide) ?_
      exact mm_vret (mw := rW h a cA) (u1 := (f_415, u.2.1, u.2.2.1, u.2.2.2.1, u.2.2.2.2.1, u.2.2.2.2.2)) hx hb hr hlocks hP hK hD hS dX1_moved_533 ⟨hI, rfl, rfl⟩
    · refine lv_lload hx hb dX1_moved_375 (lv_at hl 0 rfl) ?_
      refine lv_ldc2 (v := -36) hx hb hown (hts (.constantLong RX1 98 (-36)) (by decide +kernel)) dX1_moved_377 ?_
      refine W.lcmp hx hb dX1_moved_380 ?_
      refine lv_if_gt (tgt := 388) hx hb dX1_moved_381 (by decide) (fun c_381 => ?_) (fun c_381 => ?_)
      · refine lv_lload hx hb dX1_moved_388 (lv_at hl 0 rfl) ?_
        refine lv_lconst (v := 0) hx hb dX1_moved_390 (by decide) ?_
        refine W.lcmp hx hb dX1_moved_391 ?_
        refine lv_if_lt (tgt := 408) hx hb dX1_moved_392 (by decide) (fun c_392 => ?_) (fun c_392 => ?_)
        · refine lv_lload hx hb dX1_moved_408 (lv_at hl 1 rfl) ?_
          refine lv_lload hx hb dX1_moved_410 (lv_at hl 0 rfl) ?_
          refine lv_lneg hx hb dX1_moved_412 ?_
          refine lv_l2i hx hb dX1_moved_413 rfl ?_
          refine lv_lshr hx hb dX1_moved_414 rfl ?_
          refine va_last hx hb hK hP hD hS 1 0 rfl rfl hac dX1_moved_415 (fun H locs hP hD hS => ?_)
          have hP : va_P D vwCl (rW h a cA ((vp_updL u.1 (ac : Int32).toNatClampNeg (x_6 >>> ((((-x_359) : Int64).toInt32 : Int32).toInt64 &&& 63))), u.2.1, u.2.2.1, u.2.2.2.1, u.2.2.2.2.1, u.2.2.2.2.2)) H := hP
          have hD : va_D (wA h a) (rW h a cA ((vp_updL u.1 (ac : Int32).toNatClampNeg (x_6 >>> ((((-x_359) : Int64).toInt32 : Int32).toInt64 &&& 63))), u.2.1, u.2.2.1, u.2.2.2.1, u.2.2.2.2.1, u.2.2.2.2.2)) := hD
          generalize (vp_updL u.1 (ac : Int32).toNatClampNeg (x_6 >>> ((((-x_359) : Int64).toInt32 : Int32).toInt64 &&& 63))) = f_415 at hP hD
          refine lv_goto (tgt := 533) hx hb dX1_moved_416 (by decide) ?_
          exact mm_vret (mw := rW h a cA) (u1 := (f_415, u.2.1, u.2.2.1, u.2.2.2.1, u.2.2.2.2.1, u.2.2.2.2.2)) hx hb hr hlocks hP hK hD hS dX1_moved_533 ⟨hI, rfl, rfl⟩
        · refine lv_lload hx hb dX1_moved_395 (lv_at hl 1 rfl) ?_
          refine lv_lload hx hb dX1_moved_397 (lv_at hl 0 rfl) ?_
          refine lv_l2i hx hb dX1_moved_399 rfl ?_
          refine lv_lshl hx hb dX1_moved_400 rfl ?_
          refine lv_ldc2 (v := 68719476735) hx hb hown (hts (.constantLong RX1 27 68719476735) (by decide +kernel)) dX1_moved_401 ?_
          refine lv_land hx hb dX1_moved_404 ?_
          refine lv_goto (tgt := 415) hx hb dX1_moved_405 (by decide) ?_
          refine va_last hx hb hK hP hD hS 1 0 rfl rfl hac dX1_moved_415 (fun H locs hP hD hS => ?_)
          have hP : va_P D vwCl (rW h a cA ((vp_updL u.1 (ac : Int32).toNatClampNeg ((x_6 <<< (((x_359 : Int64).toInt32 : Int32).toInt64 &&& 63)) &&& 68719476735)), u.2.1, u.2.2.1, u.2.2.2.1, u.2.2.2.2.1, u.2.2.2.2.2)) H := hP
          have hD : va_D (wA h a) (rW h a cA ((vp_updL u.1 (ac : Int32).toNatClampNeg ((x_6 <<< (((x_359 : Int64).toInt32 : Int32).toInt64 &&& 63)) &&& 68719476735)), u.2.1, u.2.2.1, u.2.2.2.1, u.2.2.2.2.1, u.2.2.2.2.2)) := hD
          generalize (vp_updL u.1 (ac : Int32).toNatClampNeg ((x_6 <<< (((x_359 : Int64).toInt32 : Int32).toInt64 &&& 63)) &&& 68719476735)) = f_415 at hP hD
          refine lv_goto (tgt := 533) hx hb dX1_moved_416 (by decide) ?_
          exact mm_vret (mw := rW h a cA) (u1 := (f_415, u.2.1, u.2.2.1, u.2.2.2.1, u.2.2.2.2.1, u.2.2.2.2.2)) hx hb hr hlocks hP hK hD hS dX1_moved_533 ⟨hI, rfl, rfl⟩
      · refine lv_lconst (v := 0) hx hb dX1_moved_384 (by decide) ?_
        refine lv_goto (tgt := 415) hx hb dX1_moved_385 (by decide) ?_
        refine va_last hx hb hK hP hD hS 1 0 rfl rfl hac dX1_moved_415 (fun H locs hP hD hS => ?_)
        have hP : va_P D vwCl (rW h a cA ((vp_updL u.1 (ac : Int32).toNatClampNeg 0), u.2.1, u.2.2.1, u.2.2.2.1, u.2.2.2.2.1, u.2.2.2.2.2)) H := hP
        have hD : va_D (wA h a) (rW h a cA ((vp_updL u.1 (ac : Int32).toNatClampNeg 0), u.2.1, u.2.2.1, u.2.2.2.1, u.2.2.2.2.1, u.2.2.2.2.2)) := hD
        generalize (vp_updL u.1 (ac : Int32).toNatClampNeg 0) = f_415 at hP hD
        refine lv_goto (tgt := 533) hx hb dX1_moved_416 (by decide) ?_
        exact mm_vret (mw := rW h a cA) (u1 := (f_415, u.2.1, u.2.2.1, u.2.2.2.1, u.2.2.2.2.1, u.2.2.2.2.2)) hx hb hr hlocks hP hK hD hS dX1_moved_533 ⟨hI, rfl, rfl⟩
  by_cases k_168 : op = 168
  · subst k_168
    refine lv_lookup (tgt := 268) hx hb dX1_moved_9 (by decide) rfl (by decide) ?_
    refine lv_aload_n hx hb dX1_moved_268 rfl (lv_at hl 1 rfl) ?_
    refine va_get (D := D) (ci := 1) (v := .ref a) (C := RX1) (T := TX1) (N := 6) hx hb hts iw_X1_moved hown hK hP 0 rfl rfl 1 (by decide) (hts (.fieldLink RX1 7 "WordMillModel" "memory" "[J") (by decide +kernel)) (fun _ h9 => h9) rfl dX1_moved_269 ?_
    refine lv_iload_n hx hb dX1_moved_272 rfl (lv_at hl 3 rfl) ?_
    refine lv_lload hx hb dX1_moved_273 (lv_at hl 5 rfl) ?_
    refine va_last hx hb hK hP hD hS 1 0 rfl rfl hac dX1_moved_275 (fun H locs hP hD hS => ?_)
    have hP : va_P D vwCl (rW h a cA ((vp_updL u.1 (ac : Int32).toNatClampNeg m0), u.2.1, u.2.2.1, u.2.2.2.1, u.2.2.2.2.1, u.2.2.2.2.2)) H := hP
    have hD : va_D (wA h a) (rW h a cA ((vp_updL u.1 (ac : Int32).toNatClampNeg m0), u.2.1, u.2.2.1, u.2.2.2.1, u.2.2.2.2.1, u.2.2.2.2.2)) := hD
    generalize (vp_updL u.1 (ac : Int32).toNatClampNeg m0) = f_275 at hP hD
    refine lv_aload_n hx hb dX1_moved_276 rfl (lv_at hl 1 rfl) ?_
    refine va_get (D := D) (ci := 1) (v := .ref a) (C := RX1) (T := TX1) (N := 6) hx hb hts iw_X1_moved hown hK hP 0 rfl rfl 1 (by decide) (hts (.fieldLink RX1 7 "WordMillModel" "memory" "[J") (by decide +kernel)) (fun _ h9 => h9) rfl dX1_moved_277 ?_
    refine lv_lload_n hx hb dX1_moved_280 rfl (lv_at hl 4 rfl) ?_
    refine lv_l2i hx hb dX1_moved_281 rfl ?_
    refine lv_lload hx hb dX1_moved_282 (lv_at hl 0 rfl) ?_
    refine va_last hx hb hK hP hD hS 1 0 rfl rfl (pl_in (Or.resolve_left hne nfr168)) dX1_moved_284 (fun H locs hP hD hS => ?_)
    have hP : va_P D vwCl (rW h a cA ((vp_updL f_275 ((e0 : Int64).toInt32 : Int32).toNatClampNeg x_6), u.2.1, u.2.2.1, u.2.2.2.1, u.2.2.2.2.1, u.2.2.2.2.2)) H := hP
    have hD : va_D (wA h a) (rW h a cA ((vp_updL f_275 ((e0 : Int64).toInt32 : Int32).toNatClampNeg x_6), u.2.1, u.2.2.1, u.2.2.2.1, u.2.2.2.2.1, u.2.2.2.2.2)) := hD
    generalize (vp_updL f_275 ((e0 : Int64).toInt32 : Int32).toNatClampNeg x_6) = f_284 at hP hD
    refine lv_goto (tgt := 533) hx hb dX1_moved_285 (by decide) ?_
    exact mm_vret (mw := rW h a cA) (u1 := (f_284, u.2.1, u.2.2.1, u.2.2.2.1, u.2.2.2.2.1, u.2.2.2.2.2)) hx hb hr hlocks hP hK hD hS dX1_moved_533 ⟨hI, rfl, rfl⟩
  by_cases k_184 : op = 184
  · subst k_184
    refine lv_lookup (tgt := 419) hx hb dX1_moved_9 (by decide) rfl (by decide) ?_
    refine lv_aload_n hx hb dX1_moved_419 rfl (lv_at hl 1 rfl) ?_
    refine va_get (D := D) (ci := 1) (v := .ref a) (C := RX1) (T := TX1) (N := 6) hx hb hts iw_X1_moved hown hK hP 0 rfl rfl 1 (by decide) (hts (.fieldLink RX1 7 "WordMillModel" "memory" "[J") (by decide +kernel)) (fun _ h9 => h9) rfl dX1_moved_420 ?_
    refine lv_iload_n hx hb dX1_moved_423 rfl (lv_at hl 3 rfl) ?_
    refine lv_lload hx hb dX1_moved_424 (lv_at hl 0 rfl) ?_
    refine lv_iload_n hx hb dX1_moved_426 rfl (lv_at hl 2 rfl) ?_
    refine lv_sipush (v := 184) hx hb dX1_moved_427 (by decide) ?_
    refine lv_icmp_ne (tgt := 438) hx hb dX1_moved_430 (by decide) (fun c_430 => ?_) (fun c_430 => ?_)
    · exact absurd c_430 (by decide)
    · refine lv_lload hx hb dX1_moved_433 (lv_at hl 5 rfl) ?_
      refine lv_goto (tgt := 439) hx hb dX1_moved_435 (by decide) ?_
      refine lv_ladd hx hb dX1_moved_439 ?_
      refine lv_ldc2 (v := 68719476735) hx hb hown (hts (.constantLong RX1 27 68719476735) (by decide +kernel)) dX1_moved_440 ?_
      refine lv_land hx hb dX1_moved_443 ?_
      refine va_last hx hb hK hP hD hS 1 0 rfl rfl hac dX1_moved_444 (fun H locs hP hD hS => ?_)
      have hP : va_P D vwCl (rW h a cA ((vp_updL u.1 (ac : Int32).toNatClampNeg ((x_6 + m0) &&& 68719476735)), u.2.1, u.2.2.1, u.2.2.2.1, u.2.2.2.2.1, u.2.2.2.2.2)) H := hP
      have hD : va_D (wA h a) (rW h a cA ((vp_updL u.1 (ac : Int32).toNatClampNeg ((x_6 + m0) &&& 68719476735)), u.2.1, u.2.2.1, u.2.2.2.1, u.2.2.2.2.1, u.2.2.2.2.2)) := hD
      generalize (vp_updL u.1 (ac : Int32).toNatClampNeg ((x_6 + m0) &&& 68719476735)) = f_444 at hP hD
      refine lv_goto (tgt := 533) hx hb dX1_moved_445 (by decide) ?_
      exact mm_vret (mw := rW h a cA) (u1 := (f_444, u.2.1, u.2.2.1, u.2.2.2.1, u.2.2.2.2.1, u.2.2.2.2.2)) hx hb hr hlocks hP hK hD hS dX1_moved_533 ⟨hI, rfl, rfl⟩
  by_cases k_185 : op = 185
  · subst k_185
    refine lv_lookup (tgt := 419) hx hb dX1_moved_9 (by decide) rfl (by decide) ?_
    refine lv_aload_n hx hb dX1_moved_419 rfl (lv_at hl 1 rfl) ?_
    refine va_get (D := D) (ci := 1) (v := .ref a) (C := RX1) (T := TX1) (N := 6) hx hb hts iw_X1_moved hown hK hP 0 rfl rfl 1 (by decide) (hts (.fieldLink RX1 7 "WordMillModel" "memory" "[J") (by decide +kernel)) (fun _ h9 => h9) rfl dX1_moved_420 ?_
    refine lv_iload_n hx hb dX1_moved_423 rfl (lv_at hl 3 rfl) ?_
    refine lv_lload hx hb dX1_moved_424 (lv_at hl 0 rfl) ?_
    refine lv_iload_n hx hb dX1_moved_426 rfl (lv_at hl 2 rfl) ?_
    refine lv_sipush (v := 184) hx hb dX1_moved_427 (by decide) ?_
    refine lv_icmp_ne (tgt := 438) hx hb dX1_moved_430 (by decide) (fun c_430 => ?_) (fun c_430 => ?_)
    · refine lv_lload_n hx hb dX1_moved_438 rfl (lv_at hl 4 rfl) ?_
      refine lv_ladd hx hb dX1_moved_439 ?_
      refine lv_ldc2 (v := 68719476735) hx hb hown (hts (.constantLong RX1 27 68719476735) (by decide +kernel)) dX1_moved_440 ?_
      refine lv_land hx hb dX1_moved_443 ?_
      refine va_last hx hb hK hP hD hS 1 0 rfl rfl hac dX1_moved_444 (fun H locs hP hD hS => ?_)
      have hP : va_P D vwCl (rW h a cA ((vp_updL u.1 (ac : Int32).toNatClampNeg ((x_6 + e0) &&& 68719476735)), u.2.1, u.2.2.1, u.2.2.2.1, u.2.2.2.2.1, u.2.2.2.2.2)) H := hP
      have hD : va_D (wA h a) (rW h a cA ((vp_updL u.1 (ac : Int32).toNatClampNeg ((x_6 + e0) &&& 68719476735)), u.2.1, u.2.2.1, u.2.2.2.1, u.2.2.2.2.1, u.2.2.2.2.2)) := hD
      generalize (vp_updL u.1 (ac : Int32).toNatClampNeg ((x_6 + e0) &&& 68719476735)) = f_444 at hP hD
      refine lv_goto (tgt := 533) hx hb dX1_moved_445 (by decide) ?_
      exact mm_vret (mw := rW h a cA) (u1 := (f_444, u.2.1, u.2.2.1, u.2.2.2.1, u.2.2.2.2.1, u.2.2.2.2.2)) hx hb hr hlocks hP hK hD hS dX1_moved_533 ⟨hI, rfl, rfl⟩
    · exact absurd c_430 (by decide)
  by_cases k_188 : op = 188
  · subst k_188
    refine lv_lookup (tgt := 448) hx hb dX1_moved_9 (by decide) rfl (by decide) ?_
    refine lv_aload_n hx hb dX1_moved_448 rfl (lv_at hl 1 rfl) ?_
    refine va_get (D := D) (ci := 1) (v := .ref a) (C := RX1) (T := TX1) (N := 6) hx hb hts iw_X1_moved hown hK hP 0 rfl rfl 1 (by decide) (hts (.fieldLink RX1 7 "WordMillModel" "memory" "[J") (by decide +kernel)) (fun _ h9 => h9) rfl dX1_moved_449 ?_
    refine lv_iload_n hx hb dX1_moved_452 rfl (lv_at hl 3 rfl) ?_
    refine lv_lload hx hb dX1_moved_453 (lv_at hl 0 rfl) ?_
    refine lv_iload_n hx hb dX1_moved_455 rfl (lv_at hl 2 rfl) ?_
    refine lv_sipush (v := 188) hx hb dX1_moved_456 (by decide) ?_
    refine lv_icmp_ne (tgt := 467) hx hb dX1_moved_459 (by decide) (fun c_459 => ?_) (fun c_459 => ?_)
    · exact absurd c_459 (by decide)
    · refine lv_lload hx hb dX1_moved_462 (lv_at hl 5 rfl) ?_
      refine lv_goto (tgt := 468) hx hb dX1_moved_464 (by decide) ?_
      refine lv_lsub hx hb dX1_moved_468 ?_
      refine lv_ldc2 (v := 68719476735) hx hb hown (hts (.constantLong RX1 27 68719476735) (by decide +kernel)) dX1_moved_469 ?_
      refine lv_land hx hb dX1_moved_472 ?_
      refine va_last hx hb hK hP hD hS 1 0 rfl rfl hac dX1_moved_473 (fun H locs hP hD hS => ?_)
      have hP : va_P D vwCl (rW h a cA ((vp_updL u.1 (ac : Int32).toNatClampNeg ((x_6 - m0) &&& 68719476735)), u.2.1, u.2.2.1, u.2.2.2.1, u.2.2.2.2.1, u.2.2.2.2.2)) H := hP
      have hD : va_D (wA h a) (rW h a cA ((vp_updL u.1 (ac : Int32).toNatClampNeg ((x_6 - m0) &&& 68719476735)), u.2.1, u.2.2.1, u.2.2.2.1, u.2.2.2.2.1, u.2.2.2.2.2)) := hD
      generalize (vp_updL u.1 (ac : Int32).toNatClampNeg ((x_6 - m0) &&& 68719476735)) = f_473 at hP hD
      refine lv_goto (tgt := 533) hx hb dX1_moved_474 (by decide) ?_
      exact mm_vret (mw := rW h a cA) (u1 := (f_473, u.2.1, u.2.2.1, u.2.2.2.1, u.2.2.2.2.1, u.2.2.2.2.2)) hx hb hr hlocks hP hK hD hS dX1_moved_533 ⟨hI, rfl, rfl⟩
  by_cases k_189 : op = 189
  · subst k_189
    refine lv_lookup (tgt := 448) hx hb dX1_moved_9 (by decide) rfl (by decide) ?_
    refine lv_aload_n hx hb dX1_moved_448 rfl (lv_at hl 1 rfl) ?_
    refine va_get (D := D) (ci := 1) (v := .ref a) (C := RX1) (T := TX1) (N := 6) hx hb hts iw_X1_moved hown hK hP 0 rfl rfl 1 (by decide) (hts (.fieldLink RX1 7 "WordMillModel" "memory" "[J") (by decide +kernel)) (fun _ h9 => h9) rfl dX1_moved_449 ?_
    refine lv_iload_n hx hb dX1_moved_452 rfl (lv_at hl 3 rfl) ?_
    refine lv_lload hx hb dX1_moved_453 (lv_at hl 0 rfl) ?_
    refine lv_iload_n hx hb dX1_moved_455 rfl (lv_at hl 2 rfl) ?_
    refine lv_sipush (v := 188) hx hb dX1_moved_456 (by decide) ?_
    refine lv_icmp_ne (tgt := 467) hx hb dX1_moved_459 (by decide) (fun c_459 => ?_) (fun c_459 => ?_)
    · refine lv_lload_n hx hb dX1_moved_467 rfl (lv_at hl 4 rfl) ?_
      refine lv_lsub hx hb dX1_moved_468 ?_
      refine lv_ldc2 (v := 68719476735) hx hb hown (hts (.constantLong RX1 27 68719476735) (by decide +kernel)) dX1_moved_469 ?_
      refine lv_land hx hb dX1_moved_472 ?_
      refine va_last hx hb hK hP hD hS 1 0 rfl rfl hac dX1_moved_473 (fun H locs hP hD hS => ?_)
      have hP : va_P D vwCl (rW h a cA ((vp_updL u.1 (ac : Int32).toNatClampNeg ((x_6 - e0) &&& 68719476735)), u.2.1, u.2.2.1, u.2.2.2.1, u.2.2.2.2.1, u.2.2.2.2.2)) H := hP
      have hD : va_D (wA h a) (rW h a cA ((vp_updL u.1 (ac : Int32).toNatClampNeg ((x_6 - e0) &&& 68719476735)), u.2.1, u.2.2.1, u.2.2.2.1, u.2.2.2.2.1, u.2.2.2.2.2)) := hD
      generalize (vp_updL u.1 (ac : Int32).toNatClampNeg ((x_6 - e0) &&& 68719476735)) = f_473 at hP hD
      refine lv_goto (tgt := 533) hx hb dX1_moved_474 (by decide) ?_
      exact mm_vret (mw := rW h a cA) (u1 := (f_473, u.2.1, u.2.2.1, u.2.2.2.1, u.2.2.2.2.1, u.2.2.2.2.2)) hx hb hr hlocks hP hK hD hS dX1_moved_533 ⟨hI, rfl, rfl⟩
    · exact absurd c_459 (by decide)
  by_cases k_256 : op = 256
  · subst k_256
    refine lv_lookup (tgt := 477) hx hb dX1_moved_9 (by decide) rfl (by decide) ?_
    refine lv_aload_n hx hb dX1_moved_477 rfl (lv_at hl 1 rfl) ?_
    refine va_get (D := D) (ci := 1) (v := .ref a) (C := RX1) (T := TX1) (N := 6) hx hb hts iw_X1_moved hown hK hP 0 rfl rfl 1 (by decide) (hts (.fieldLink RX1 7 "WordMillModel" "memory" "[J") (by decide +kernel)) (fun _ h9 => h9) rfl dX1_moved_478 ?_
    refine lv_iload_n hx hb dX1_moved_481 rfl (lv_at hl 3 rfl) ?_
    refine lv_lconst (v := 0) hx hb dX1_moved_482 (by decide) ?_
    refine va_last hx hb hK hP hD hS 1 0 rfl rfl hac dX1_moved_483 (fun H locs hP hD hS => ?_)
    have hP : va_P D vwCl (rW h a cA ((vp_updL u.1 (ac : Int32).toNatClampNeg 0), u.2.1, u.2.2.1, u.2.2.2.1, u.2.2.2.2.1, u.2.2.2.2.2)) H := hP
    have hD : va_D (wA h a) (rW h a cA ((vp_updL u.1 (ac : Int32).toNatClampNeg 0), u.2.1, u.2.2.1, u.2.2.2.1, u.2.2.2.2.1, u.2.2.2.2.2)) := hD
    generalize (vp_updL u.1 (ac : Int32).toNatClampNeg 0) = f_483 at hP hD
    refine lv_goto (tgt := 533) hx hb dX1_moved_484 (by decide) ?_
    exact mm_vret (mw := rW h a cA) (u1 := (f_483, u.2.1, u.2.2.1, u.2.2.2.1, u.2.2.2.2.1, u.2.2.2.2.2)) hx hb hr hlocks hP hK hD hS dX1_moved_533 ⟨hI, rfl, rfl⟩
  by_cases k_258 : op = 258
  · subst k_258
    refine lv_lookup (tgt := 487) hx hb dX1_moved_9 (by decide) rfl (by decide) ?_
    refine lv_aload_n hx hb dX1_moved_487 rfl (lv_at hl 1 rfl) ?_
    refine va_get (D := D) (ci := 1) (v := .ref a) (C := RX1) (T := TX1) (N := 6) hx hb hts iw_X1_moved hown hK hP 0 rfl rfl 1 (by decide) (hts (.fieldLink RX1 7 "WordMillModel" "memory" "[J") (by decide +kernel)) (fun _ h9 => h9) rfl dX1_moved_488 ?_
    refine lv_lload_n hx hb dX1_moved_491 rfl (lv_at hl 4 rfl) ?_
    refine lv_l2i hx hb dX1_moved_492 rfl ?_
    refine lv_lconst (v := 0) hx hb dX1_moved_493 (by decide) ?_
    refine va_last hx hb hK hP hD hS 1 0 rfl rfl (pl_in (Or.resolve_left hne nfr258)) dX1_moved_494 (fun H locs hP hD hS => ?_)
    have hP : va_P D vwCl (rW h a cA ((vp_updL u.1 ((e0 : Int64).toInt32 : Int32).toNatClampNeg 0), u.2.1, u.2.2.1, u.2.2.2.1, u.2.2.2.2.1, u.2.2.2.2.2)) H := hP
    have hD : va_D (wA h a) (rW h a cA ((vp_updL u.1 ((e0 : Int64).toInt32 : Int32).toNatClampNeg 0), u.2.1, u.2.2.1, u.2.2.2.1, u.2.2.2.2.1, u.2.2.2.2.2)) := hD
    generalize (vp_updL u.1 ((e0 : Int64).toInt32 : Int32).toNatClampNeg 0) = f_494 at hP hD
    refine lv_goto (tgt := 533) hx hb dX1_moved_495 (by decide) ?_
    exact mm_vret (mw := rW h a cA) (u1 := (f_494, u.2.1, u.2.2.1, u.2.2.2.1, u.2.2.2.2.1, u.2.2.2.2.2)) hx hb hr hlocks hP hK hD hS dX1_moved_533 ⟨hI, rfl, rfl⟩
  refine lv_lookup (off := 489) (tgt := 498) hx hb dX1_moved_9 (by decide) ((lv_osw k_128 (by decide)).trans <| (lv_osw k_129 (by decide)).trans <| (lv_osw k_130 (by decide)).trans <| (lv_osw k_132 (by decide)).trans <| (lv_osw k_136 (by decide)).trans <| (lv_osw k_140 (by decide)).trans <| (lv_osw k_144 (by decide)).trans <| (lv_osw k_145 (by decide)).trans <| (lv_osw k_152 (by decide)).trans <| (lv_osw k_153 (by decide)).trans <| (lv_osw k_162 (by decide)).trans <| (lv_osw k_168 (by decide)).trans <| (lv_osw k_184 (by decide)).trans <| (lv_osw k_185 (by decide)).trans <| (lv_osw k_188 (by decide)).trans <| (lv_osw k_189 (by decide)).trans <| (lv_osw k_256 (by decide)).trans <| (lv_osw k_258 (by decide)).trans <| rfl) (by decide) ?_
  refine lv_aload_n hx hb dX1_moved_498 rfl (lv_at hl 1 rfl) ?_
  refine lv_iload_n hx hb dX1_moved_499 rfl (lv_at hl 2 rfl) ?_
  refine lv_iload_n hx hb dX1_moved_500 rfl (lv_at hl 3 rfl) ?_
  refine lv_lload hx hb dX1_moved_501 (lv_at hl 0 rfl) ?_
  refine lv_iload_n hx hb dX1_moved_503 rfl (lv_at hl 2 rfl) ?_
  refine lv_sipush (v := 261) hx hb dX1_moved_504 (by decide) ?_
  refine lv_icmp_eq (tgt := 524) hx hb dX1_moved_507 (by decide) (fun c_507 => ?_) (fun c_507 => ?_)
  · refine lv_lload_n hx hb dX1_moved_524 rfl (lv_at hl 4 rfl) ?_
    refine lv_goto (tgt := 530) hx hb dX1_moved_525 (by decide) ?_
    refine r_go (rv := rv_v) (As := [.int op, .int ac, .long x_6, .long e0]) (rest := []) ⟨hx, hb, hml, hown, hts⟩ (kX1_bits l D h a cA (u.1, u.2.1, u.2.2.1, u.2.2.2.1, u.2.2.2.2.1, u.2.2.2.2.2) hI op ac x_6 e0 hac) (cwV 4 hts gX1_moved_X1_bits rfl rfl rfl (by decide +kernel) ⟨by decide, by decide⟩) hK hP hD hS rfl hl.1 rfl (Nat.le_of_ble_eq_true rfl) dX1_moved_530 ⟨Nat.zero_le _, Nat.zero_le _⟩ (fun _ u_530 H locs q_530 hP hD hS => ?_)
    refine W.eq (g2 := F0 m 533 ls []) rfl ?_
    exact mm_vret (mw := rW h a cA) (u1 := (u_530.1, u_530.2.1, u_530.2.2.1, u_530.2.2.2.1, u_530.2.2.2.2.1, u_530.2.2.2.2.2)) hx hb hr hlocks hP hK hD hS dX1_moved_533 ⟨q_530.1, (q_530.2.1.trans rfl), (q_530.2.2.trans rfl)⟩
  · refine lv_iload_n hx hb dX1_moved_510 rfl (lv_at hl 2 rfl) ?_
    refine lv_sipush (v := 281) hx hb dX1_moved_511 (by decide) ?_
    refine lv_icmp_eq (tgt := 524) hx hb dX1_moved_514 (by decide) (fun c_514 => ?_) (fun c_514 => ?_)
    · refine lv_lload_n hx hb dX1_moved_524 rfl (lv_at hl 4 rfl) ?_
      refine lv_goto (tgt := 530) hx hb dX1_moved_525 (by decide) ?_
      refine r_go (rv := rv_v) (As := [.int op, .int ac, .long x_6, .long e0]) (rest := []) ⟨hx, hb, hml, hown, hts⟩ (kX1_bits l D h a cA (u.1, u.2.1, u.2.2.1, u.2.2.2.1, u.2.2.2.2.1, u.2.2.2.2.2) hI op ac x_6 e0 hac) (cwV 4 hts gX1_moved_X1_bits rfl rfl rfl (by decide +kernel) ⟨by decide, by decide⟩) hK hP hD hS rfl hl.1 rfl (Nat.le_of_ble_eq_true rfl) dX1_moved_530 ⟨Nat.zero_le _, Nat.zero_le _⟩ (fun _ u_530 H locs q_530 hP hD hS => ?_)
      refine W.eq (g2 := F0 m 533 ls []) rfl ?_
      exact mm_vret (mw := rW h a cA) (u1 := (u_530.1, u_530.2.1, u_530.2.2.1, u_530.2.2.2.1, u_530.2.2.2.2.1, u_530.2.2.2.2.2)) hx hb hr hlocks hP hK hD hS dX1_moved_533 ⟨q_530.1, (q_530.2.1.trans rfl), (q_530.2.2.trans rfl)⟩
    · refine lv_iload_n hx hb dX1_moved_517 rfl (lv_at hl 2 rfl) ?_
      refine lv_sipush (v := 285) hx hb dX1_moved_518 (by decide) ?_
      refine lv_icmp_ne (tgt := 528) hx hb dX1_moved_521 (by decide) (fun c_521 => ?_) (fun c_521 => ?_)
      · refine lv_lload hx hb dX1_moved_528 (lv_at hl 5 rfl) ?_
        refine r_go (rv := rv_v) (As := [.int op, .int ac, .long x_6, .long m0]) (rest := []) ⟨hx, hb, hml, hown, hts⟩ (kX1_bits l D h a cA (u.1, u.2.1, u.2.2.1, u.2.2.2.1, u.2.2.2.2.1, u.2.2.2.2.2) hI op ac x_6 m0 hac) (cwV 4 hts gX1_moved_X1_bits rfl rfl rfl (by decide +kernel) ⟨by decide, by decide⟩) hK hP hD hS rfl hl.1 rfl (Nat.le_of_ble_eq_true rfl) dX1_moved_530 ⟨Nat.zero_le _, Nat.zero_le _⟩ (fun _ u_530 H locs q_530 hP hD hS => ?_)
        refine W.eq (g2 := F0 m 533 ls []) rfl ?_
        exact mm_vret (mw := rW h a cA) (u1 := (u_530.1, u_530.2.1, u_530.2.2.1, u_530.2.2.2.1, u_530.2.2.2.2.1, u_530.2.2.2.2.2)) hx hb hr hlocks hP hK hD hS dX1_moved_533 ⟨q_530.1, (q_530.2.1.trans rfl), (q_530.2.2.trans rfl)⟩
      · refine lv_lload_n hx hb dX1_moved_524 rfl (lv_at hl 4 rfl) ?_
        refine lv_goto (tgt := 530) hx hb dX1_moved_525 (by decide) ?_
        refine r_go (rv := rv_v) (As := [.int op, .int ac, .long x_6, .long e0]) (rest := []) ⟨hx, hb, hml, hown, hts⟩ (kX1_bits l D h a cA (u.1, u.2.1, u.2.2.1, u.2.2.2.1, u.2.2.2.2.1, u.2.2.2.2.2) hI op ac x_6 e0 hac) (cwV 4 hts gX1_moved_X1_bits rfl rfl rfl (by decide +kernel) ⟨by decide, by decide⟩) hK hP hD hS rfl hl.1 rfl (Nat.le_of_ble_eq_true rfl) dX1_moved_530 ⟨Nat.zero_le _, Nat.zero_le _⟩ (fun _ u_530 H locs q_530 hP hD hS => ?_)
        refine W.eq (g2 := F0 m 533 ls []) rfl ?_
        exact mm_vret (mw := rW h a cA) (u1 := (u_530.1, u_530.2.1, u_530.2.2.1, u_530.2.2.2.1, u_530.2.2.2.2.1, u_530.2.2.2.2.2)) hx hb hr hlocks hP hK hD hS dX1_moved_533 ⟨q_530.1, (q_530.2.1.trans rfl), (q_530.2.2.trans rfl)⟩
theorem iw_X1_piled : ∀ w ∈ u_ws RX1 TX1 6, w ∈ wsX1_piled := by decide +kernel
set_option maxHeartbeats 4000000 in
set_option maxRecDepth 100000 in
theorem kX1_piled (l : Launch) (D : va_G) (h a : Nat) (cA : ClassId) (u : rS) (hI : rI u) (op : Int32) (ac : Int32) (e0 : Int64) (m0 : Int64) (nx : Int32) (hop : ¬ op < 172 ∧ ¬ 180 < op) (hac : vp_in ac 4096) (hne : fr op ∨ pl e0) (hnx : vp_in nx 4096) : MM l yX1_piled wsX1_piled ({ frames := 2, cells := 0, slots := 0, locals := 43 }) D vwCl [(cA, .long)] (rW h a cA) (wA h a) u [.ref h, .int op, .int ac, .long e0, .long m0, .int nx] rv_i (fun r u' => rK u u' ∧ vp_in r 4096) := by
  refine mm_of (cc := cX1_piled) (maxL := 14) (ret := (some .int)) (by decide) rfl (Nat.le_of_ble_eq_true rfl) (rA_in h a cA u) ?_
  intro p e s m below meth c ls C hl hP hK hD hS
  obtain ⟨hx, hb, hr, hml, hown, hts, hlocks⟩ := C
  have hl : lv_has ls 14 [(0, .ref h), (1, .int op), (2, .int ac), (3, .long e0), (5, .long m0), (7, .int nx)] := hl
  refine lv_aload_n hx hb dX1_piled_0 rfl (lv_at hl 0 rfl) ?_
  refine va_get (D := D) (ci := 1) (v := .ref a) (C := RX1) (T := TX1) (N := 6) hx hb hts iw_X1_piled hown hK hP 0 rfl rfl 1 (by decide) (hts (.fieldLink RX1 7 "WordMillModel" "memory" "[J") (by decide +kernel)) (fun _ h9 => h9) rfl dX1_piled_1 ?_
  refine lv_iload_n hx hb dX1_piled_4 rfl (lv_at hl 2 rfl) ?_
  refine va_lald hx hb hK hP 1 0 rfl rfl hac dX1_piled_5 ?_
  refine lv_topl (fun x_6 ex_6 => ?_)
  refine lv_lstore (lv' := [(8, .long x_6), (0, .ref h), (1, .int op), (2, .int ac), (3, .long e0), (5, .long m0), (7, .int nx)]) hx hb dX1_piled_6 hl (by decide) rfl (fun ls hl => ?_)
  refine lv_iload_n hx hb dX1_piled_8 rfl (lv_at hl 2 rfl) ?_
  by_cases k_172 : op = 172
  · subst k_172
    refine lv_tableIn (tgt := 56) hx hb dX1_piled_9 (by decide) (by decide) rfl (by decide) ?_
    refine lv_lload_n hx hb dX1_piled_56 rfl (lv_at hl 4 rfl) ?_
    refine lv_ldc2 (v := 4095) hx hb hown (hts (.constantLong RX1 77 4095) (by decide +kernel)) dX1_piled_57 ?_
    refine lv_land hx hb dX1_piled_60 ?_
    refine lv_l2i hx hb dX1_piled_61 rfl ?_
    exact mm_iret (mw := rW h a cA) (u1 := (u.1, u.2.1, u.2.2.1, u.2.2.2.1, u.2.2.2.2.1, u.2.2.2.2.2)) hx hb hr hlocks hP hK hD hS dX1_piled_62 ⟨⟨hI, rfl, rfl⟩, (la4095 _)⟩
  by_cases k_173 : op = 173
  · subst k_173
    refine lv_tableIn (tgt := 245) hx hb dX1_piled_9 (by decide) (by decide) rfl (by decide) ?_
    refine lv_aload_n hx hb dX1_piled_245 rfl (lv_at hl 1 rfl) ?_
    refine va_get (D := D) (ci := 1) (v := .ref a) (C := RX1) (T := TX1) (N := 6) hx hb hts iw_X1_piled hown hK hP 0 rfl rfl 1 (by decide) (hts (.fieldLink RX1 7 "WordMillModel" "memory" "[J") (by decide +kernel)) (fun _ h9 => h9) rfl dX1_piled_246 ?_
    refine lv_lload_n hx hb dX1_piled_249 rfl (lv_at hl 4 rfl) ?_
    refine lv_l2i hx hb dX1_piled_250 rfl ?_
    refine lv_iload hx hb dX1_piled_251 (lv_at hl 6 rfl) ?_
    refine lv_i2l hx hb dX1_piled_253 rfl ?_
    refine va_last hx hb hK hP hD hS 1 0 rfl rfl (pl_in (Or.resolve_left hne nfr173)) dX1_piled_254 (fun H locs hP hD hS => ?_)
    have hP : va_P D vwCl (rW h a cA ((vp_updL u.1 ((e0 : Int64).toInt32 : Int32).toNatClampNeg ((nx : Int32).toInt64)), u.2.1, u.2.2.1, u.2.2.2.1, u.2.2.2.2.1, u.2.2.2.2.2)) H := hP
    have hD : va_D (wA h a) (rW h a cA ((vp_updL u.1 ((e0 : Int64).toInt32 : Int32).toNatClampNeg ((nx : Int32).toInt64)), u.2.1, u.2.2.1, u.2.2.2.1, u.2.2.2.2.1, u.2.2.2.2.2)) := hD
    generalize (vp_updL u.1 ((e0 : Int64).toInt32 : Int32).toNatClampNeg ((nx : Int32).toInt64)) = f_254 at hP hD
    refine lv_lload_n hx hb dX1_piled_255 rfl (lv_at hl 4 rfl) ?_
    refine lv_lconst (v := 1) hx hb dX1_piled_256 (by decide) ?_
    refine lv_ladd hx hb dX1_piled_257 ?_
    refine lv_ldc2 (v := 4095) hx hb hown (hts (.constantLong RX1 77 4095) (by decide +kernel)) dX1_piled_258 ?_
    refine lv_land hx hb dX1_piled_261 ?_
    refine lv_l2i hx hb dX1_piled_262 rfl ?_
    exact mm_iret (mw := rW h a cA) (u1 := (f_254, u.2.1, u.2.2.1, u.2.2.2.1, u.2.2.2.2.1, u.2.2.2.2.2)) hx hb hr hlocks hP hK hD hS dX1_piled_263 ⟨⟨hI, rfl, rfl⟩, (la4095 _)⟩
  by_cases k_174 : op = 174
  · subst k_174
    refine lv_tableIn (tgt := 245) hx hb dX1_piled_9 (by decide) (by decide) rfl (by decide) ?_
    refine lv_aload_n hx hb dX1_piled_245 rfl (lv_at hl 1 rfl) ?_
    refine va_get (D := D) (ci := 1) (v := .ref a) (C := RX1) (T := TX1) (N := 6) hx hb hts iw_X1_piled hown hK hP 0 rfl rfl 1 (by decide) (hts (.fieldLink RX1 7 "WordMillModel" "memory" "[J") (by decide +kernel)) (fun _ h9 => h9) rfl dX1_piled_246 ?_
    refine lv_lload_n hx hb dX1_piled_249 rfl (lv_at hl 4 rfl) ?_
    refine lv_l2i hx hb dX1_piled_250 rfl ?_
    refine lv_iload hx hb dX1_piled_251 (lv_at hl 6 rfl) ?_
    refine lv_i2l hx hb dX1_piled_253 rfl ?_
    refine va_last hx hb hK hP hD hS 1 0 rfl rfl (pl_in (Or.resolve_left hne nfr174)) dX1_piled_254 (fun H locs hP hD hS => ?_)
    have hP : va_P D vwCl (rW h a cA ((vp_updL u.1 ((e0 : Int64).toInt32 : Int32).toNatClampNeg ((nx : Int32).toInt64)), u.2.1, u.2.2.1, u.2.2.2.1, u.2.2.2.2.1, u.2.2.2.2.2)) H := hP
    have hD : va_D (wA h a) (rW h a cA ((vp_updL u.1 ((e0 : Int64).toInt32 : Int32).toNatClampNeg ((nx : Int32).toInt64)), u.2.1, u.2.2.1, u.2.2.2.1, u.2.2.2.2.1, u.2.2.2.2.2)) := hD
    generalize (vp_updL u.1 ((e0 : Int64).toInt32 : Int32).toNatClampNeg ((nx : Int32).toInt64)) = f_254 at hP hD
    refine lv_lload_n hx hb dX1_piled_255 rfl (lv_at hl 4 rfl) ?_
    refine lv_lconst (v := 1) hx hb dX1_piled_256 (by decide) ?_
    refine lv_ladd hx hb dX1_piled_257 ?_
    refine lv_ldc2 (v := 4095) hx hb hown (hts (.constantLong RX1 77 4095) (by decide +kernel)) dX1_piled_258 ?_
    refine lv_land hx hb dX1_piled_261 ?_
    refine lv_l2i hx hb dX1_piled_262 rfl ?_
    exact mm_iret (mw := rW h a cA) (u1 := (f_254, u.2.1, u.2.2.1, u.2.2.2.1, u.2.2.2.2.1, u.2.2.2.2.2)) hx hb hr hlocks hP hK hD hS dX1_piled_263 ⟨⟨hI, rfl, rfl⟩, (la4095 _)⟩
  by_cases k_175 : op = 175
  · subst k_175
    refine lv_tableIn (tgt := 245) hx hb dX1_piled_9 (by decide) (by decide) rfl (by decide) ?_
    refine lv_aload_n hx hb dX1_piled_245 rfl (lv_at hl 1 rfl) ?_
    refine va_get (D := D) (ci := 1) (v := .ref a) (C := RX1) (T := TX1) (N := 6) hx hb hts iw_X1_piled hown hK hP 0 rfl rfl 1 (by decide) (hts (.fieldLink RX1 7 "WordMillModel" "memory" "[J") (by decide +kernel)) (fun _ h9 => h9) rfl dX1_piled_246 ?_
    refine lv_lload_n hx hb dX1_piled_249 rfl (lv_at hl 4 rfl) ?_
    refine lv_l2i hx hb dX1_piled_250 rfl ?_
    refine lv_iload hx hb dX1_piled_251 (lv_at hl 6 rfl) ?_
    refine lv_i2l hx hb dX1_piled_253 rfl ?_
    refine va_last hx hb hK hP hD hS 1 0 rfl rfl (pl_in (Or.resolve_left hne nfr175)) dX1_piled_254 (fun H locs hP hD hS => ?_)
    have hP : va_P D vwCl (rW h a cA ((vp_updL u.1 ((e0 : Int64).toInt32 : Int32).toNatClampNeg ((nx : Int32).toInt64)), u.2.1, u.2.2.1, u.2.2.2.1, u.2.2.2.2.1, u.2.2.2.2.2)) H := hP
    have hD : va_D (wA h a) (rW h a cA ((vp_updL u.1 ((e0 : Int64).toInt32 : Int32).toNatClampNeg ((nx : Int32).toInt64)), u.2.1, u.2.2.1, u.2.2.2.1, u.2.2.2.2.1, u.2.2.2.2.2)) := hD
    generalize (vp_updL u.1 ((e0 : Int64).toInt32 : Int32).toNatClampNeg ((nx : Int32).toInt64)) = f_254 at hP hD
    refine lv_lload_n hx hb dX1_piled_255 rfl (lv_at hl 4 rfl) ?_
    refine lv_lconst (v := 1) hx hb dX1_piled_256 (by decide) ?_
    refine lv_ladd hx hb dX1_piled_257 ?_
    refine lv_ldc2 (v := 4095) hx hb hown (hts (.constantLong RX1 77 4095) (by decide +kernel)) dX1_piled_258 ?_
    refine lv_land hx hb dX1_piled_261 ?_
    refine lv_l2i hx hb dX1_piled_262 rfl ?_
    exact mm_iret (mw := rW h a cA) (u1 := (f_254, u.2.1, u.2.2.1, u.2.2.2.1, u.2.2.2.2.1, u.2.2.2.2.2)) hx hb hr hlocks hP hK hD hS dX1_piled_263 ⟨⟨hI, rfl, rfl⟩, (la4095 _)⟩
  by_cases k_176 : op = 176
  · subst k_176
    refine lv_tableIn (tgt := 63) hx hb dX1_piled_9 (by decide) (by decide) rfl (by decide) ?_
    refine lv_lload hx hb dX1_piled_63 (lv_at hl 0 rfl) ?_
    refine lv_lconst (v := 1) hx hb dX1_piled_65 (by decide) ?_
    refine lv_ladd hx hb dX1_piled_66 ?_
    refine lv_ldc2 (v := 262143) hx hb hown (hts (.constantLong RX1 31 262143) (by decide +kernel)) dX1_piled_67 ?_
    refine lv_land hx hb dX1_piled_70 ?_
    refine lv_topl (fun x_71 ex_71 => ?_)
    refine lv_lstore (lv' := [(10, .long x_71), (8, .long x_6), (0, .ref h), (1, .int 176), (2, .int ac), (3, .long e0), (5, .long m0), (7, .int nx)]) hx hb dX1_piled_71 hl (by decide) rfl (fun ls hl => ?_)
    refine lv_aload_n hx hb dX1_piled_73 rfl (lv_at hl 2 rfl) ?_
    refine lv_lload hx hb dX1_piled_74 (lv_at hl 0 rfl) ?_
    refine r_go (rv := rv_l) (As := [.long x_71]) (rest := []) ⟨hx, hb, hml, hown, hts⟩ (kX1_at l D h a cA (u.1, u.2.1, u.2.2.1, u.2.2.2.1, u.2.2.2.2.1, u.2.2.2.2.2) hI x_71 ) (cwV 1 hts gX1_piled_X1_at rfl rfl rfl (by decide +kernel) ⟨by decide, by decide⟩) hK hP hD hS rfl hl.1 rfl (Nat.le_of_ble_eq_true rfl) dX1_piled_76 ⟨Nat.zero_le _, Nat.zero_le _⟩ (fun r_76 u_76 H locs q_76 hP hD hS => ?_)
    refine W.eq (g2 := F0 m 79 ls (.long r_76 :: [])) rfl ?_
    refine lv_lstore (lv' := [(12, .long r_76), (10, .long x_71), (8, .long x_6), (0, .ref h), (1, .int 176), (2, .int ac), (3, .long e0), (5, .long m0), (7, .int nx)]) hx hb dX1_piled_79 hl (by decide) rfl (fun ls hl => ?_)
    refine lv_aload_n hx hb dX1_piled_81 rfl (lv_at hl 3 rfl) ?_
    refine va_get (D := D) (ci := 1) (v := .int u_76.2.2.2.2.1) (C := RX1) (T := TX1) (N := 6) hx hb hts iw_X1_piled hown hK hP 0 rfl rfl 4 (by decide) (hts (.fieldLink RX1 36 "WordMillModel" "fault" "I") (by decide +kernel)) (fun _ h9 => h9) rfl dX1_piled_82 ?_
    refine lv_if_eq (tgt := 90) hx hb dX1_piled_85 (by decide) (fun c_85 => ?_) (fun c_85 => ?_)
    · refine lv_aload_n hx hb dX1_piled_90 rfl (lv_at hl 3 rfl) ?_
      refine va_get (D := D) (ci := 1) (v := .ref a) (C := RX1) (T := TX1) (N := 6) hx hb hts iw_X1_piled hown hK hP 0 rfl rfl 1 (by decide) (hts (.fieldLink RX1 7 "WordMillModel" "memory" "[J") (by decide +kernel)) (fun _ h9 => h9) rfl dX1_piled_91 ?_
      refine lv_iload_n hx hb dX1_piled_94 rfl (lv_at hl 5 rfl) ?_
      refine lv_lload hx hb dX1_piled_95 (lv_at hl 2 rfl) ?_
      refine lv_lload hx hb dX1_piled_97 (lv_at hl 1 rfl) ?_
      refine ps_gol (As := [.long x_6, .long x_71]) (rest := [.int ac, .ref a]) ⟨hx, hb, hml, hown, hts⟩ (kX1_half l x_6 x_71) (va_cwS 2 hts gX1_piled_X1_half rfl rfl rfl (by decide +kernel) ⟨by decide, by decide⟩) rfl hl.1 rfl (Nat.le_of_ble_eq_true rfl) dX1_piled_99 ⟨Nat.zero_le _, Nat.zero_le _⟩ (fun r_99 q_99 => ?_)
      refine va_last hx hb hK hP hD hS 1 0 rfl rfl hac dX1_piled_102 (fun H locs hP hD hS => ?_)
      have hP : va_P D vwCl (rW h a cA ((vp_updL u_76.1 (ac : Int32).toNatClampNeg r_99), u_76.2.1, u_76.2.2.1, u_76.2.2.2.1, u_76.2.2.2.2.1, u_76.2.2.2.2.2)) H := hP
      have hD : va_D (wA h a) (rW h a cA ((vp_updL u_76.1 (ac : Int32).toNatClampNeg r_99), u_76.2.1, u_76.2.2.1, u_76.2.2.2.1, u_76.2.2.2.2.1, u_76.2.2.2.2.2)) := hD
      generalize (vp_updL u_76.1 (ac : Int32).toNatClampNeg r_99) = f_102 at hP hD
      refine lv_aload_n hx hb dX1_piled_103 rfl (lv_at hl 3 rfl) ?_
      refine va_get (D := D) (ci := 1) (v := .ref a) (C := RX1) (T := TX1) (N := 6) hx hb hts iw_X1_piled hown hK hP 0 rfl rfl 1 (by decide) (hts (.fieldLink RX1 7 "WordMillModel" "memory" "[J") (by decide +kernel)) (fun _ h9 => h9) rfl dX1_piled_104 ?_
      refine lv_lload hx hb dX1_piled_107 (lv_at hl 1 rfl) ?_
      refine lv_l2i hx hb dX1_piled_109 rfl ?_
      refine lv_iload_n hx hb dX1_piled_110 rfl (lv_at hl 4 rfl) ?_
      refine lv_sipush (v := 176) hx hb dX1_piled_111 (by decide) ?_
      refine lv_icmp_ne (tgt := 123) hx hb dX1_piled_114 (by decide) (fun c_114 => ?_) (fun c_114 => ?_)
      · exact absurd c_114 (by decide)
      · refine lv_iload hx hb dX1_piled_117 (lv_at hl 8 rfl) ?_
        refine lv_i2l hx hb dX1_piled_119 rfl ?_
        refine lv_goto (tgt := 125) hx hb dX1_piled_120 (by decide) ?_
        refine va_last hx hb hK hP hD hS 1 0 rfl rfl (pl_in (q_76.2 c_85)) dX1_piled_125 (fun H locs hP hD hS => ?_)
        have hP : va_P D vwCl (rW h a cA ((vp_updL f_102 ((x_71 : Int64).toInt32 : Int32).toNatClampNeg ((nx : Int32).toInt64)), u_76.2.1, u_76.2.2.1, u_76.2.2.2.1, u_76.2.2.2.2.1, u_76.2.2.2.2.2)) H := hP
        have hD : va_D (wA h a) (rW h a cA ((vp_updL f_102 ((x_71 : Int64).toInt32 : Int32).toNatClampNeg ((nx : Int32).toInt64)), u_76.2.1, u_76.2.2.1, u_76.2.2.2.1, u_76.2.2.2.2.1, u_76.2.2.2.2.2)) := hD
        generalize (vp_updL f_102 ((x_71 : Int64).toInt32 : Int32).toNatClampNeg ((nx : Int32).toInt64)) = f_125 at hP hD
        refine lv_iload_n hx hb dX1_piled_126 rfl (lv_at hl 4 rfl) ?_
        refine lv_sipush (v := 176) hx hb dX1_piled_127 (by decide) ?_
        refine lv_icmp_ne (tgt := 142) hx hb dX1_piled_130 (by decide) (fun c_130 => ?_) (fun c_130 => ?_)
        · exact absurd c_130 (by decide)
        · refine lv_lload_n hx hb dX1_piled_133 rfl (lv_at hl 6 rfl) ?_
          refine lv_ldc2 (v := 4095) hx hb hown (hts (.constantLong RX1 77 4095) (by decide +kernel)) dX1_piled_134 ?_
          refine lv_land hx hb dX1_piled_137 ?_
          refine lv_l2i hx hb dX1_piled_138 rfl ?_
          refine lv_goto (tgt := 144) hx hb dX1_piled_139 (by decide) ?_
          exact mm_iret (mw := rW h a cA) (u1 := (f_125, u_76.2.1, u_76.2.2.1, u_76.2.2.2.1, u_76.2.2.2.2.1, u_76.2.2.2.2.2)) hx hb hr hlocks hP hK hD hS dX1_piled_144 ⟨⟨q_76.1.1, (q_76.1.2.1.trans rfl), (q_76.1.2.2.trans rfl)⟩, (la4095 _)⟩
    · refine lv_iconst (v := 0) hx hb dX1_piled_88 (by decide) ?_
      exact mm_iret (mw := rW h a cA) (u1 := (u_76.1, u_76.2.1, u_76.2.2.1, u_76.2.2.2.1, u_76.2.2.2.2.1, u_76.2.2.2.2.2)) hx hb hr hlocks hP hK hD hS dX1_piled_89 ⟨⟨q_76.1.1, (q_76.1.2.1.trans rfl), (q_76.1.2.2.trans rfl)⟩, (vp_0 (by decide))⟩
  by_cases k_177 : op = 177
  · subst k_177
    refine lv_tableIn (tgt := 63) hx hb dX1_piled_9 (by decide) (by decide) rfl (by decide) ?_
    refine lv_lload hx hb dX1_piled_63 (lv_at hl 0 rfl) ?_
    refine lv_lconst (v := 1) hx hb dX1_piled_65 (by decide) ?_
    refine lv_ladd hx hb dX1_piled_66 ?_
    refine lv_ldc2 (v := 262143) hx hb hown (hts (.constantLong RX1 31 262143) (by decide +kernel)) dX1_piled_67 ?_
    refine lv_land hx hb dX1_piled_70 ?_
    refine lv_topl (fun x_71 ex_71 => ?_)
    refine lv_lstore (lv' := [(10, .long x_71), (8, .long x_6), (0, .ref h), (1, .int 177), (2, .int ac), (3, .long e0), (5, .long m0), (7, .int nx)]) hx hb dX1_piled_71 hl (by decide) rfl (fun ls hl => ?_)
    refine lv_aload_n hx hb dX1_piled_73 rfl (lv_at hl 2 rfl) ?_
    refine lv_lload hx hb dX1_piled_74 (lv_at hl 0 rfl) ?_
    refine r_go (rv := rv_l) (As := [.long x_71]) (rest := []) ⟨hx, hb, hml, hown, hts⟩ (kX1_at l D h a cA (u.1, u.2.1, u.2.2.1, u.2.2.2.1, u.2.2.2.2.1, u.2.2.2.2.2) hI x_71 ) (cwV 1 hts gX1_piled_X1_at rfl rfl rfl (by decide +kernel) ⟨by decide, by decide⟩) hK hP hD hS rfl hl.1 rfl (Nat.le_of_ble_eq_true rfl) dX1_piled_76 ⟨Nat.zero_le _, Nat.zero_le _⟩ (fun r_76 u_76 H locs q_76 hP hD hS => ?_)
    refine W.eq (g2 := F0 m 79 ls (.long r_76 :: [])) rfl ?_
    refine lv_lstore (lv' := [(12, .long r_76), (10, .long x_71), (8, .long x_6), (0, .ref h), (1, .int 177), (2, .int ac), (3, .long e0), (5, .long m0), (7, .int nx)]) hx hb dX1_piled_79 hl (by decide) rfl (fun ls hl => ?_)
    refine lv_aload_n hx hb dX1_piled_81 rfl (lv_at hl 3 rfl) ?_
    refine va_get (D := D) (ci := 1) (v := .int u_76.2.2.2.2.1) (C := RX1) (T := TX1) (N := 6) hx hb hts iw_X1_piled hown hK hP 0 rfl rfl 4 (by decide) (hts (.fieldLink RX1 36 "WordMillModel" "fault" "I") (by decide +kernel)) (fun _ h9 => h9) rfl dX1_piled_82 ?_
    refine lv_if_eq (tgt := 90) hx hb dX1_piled_85 (by decide) (fun c_85 => ?_) (fun c_85 => ?_)
    · refine lv_aload_n hx hb dX1_piled_90 rfl (lv_at hl 3 rfl) ?_
      refine va_get (D := D) (ci := 1) (v := .ref a) (C := RX1) (T := TX1) (N := 6) hx hb hts iw_X1_piled hown hK hP 0 rfl rfl 1 (by decide) (hts (.fieldLink RX1 7 "WordMillModel" "memory" "[J") (by decide +kernel)) (fun _ h9 => h9) rfl dX1_piled_91 ?_
      refine lv_iload_n hx hb dX1_piled_94 rfl (lv_at hl 5 rfl) ?_
      refine lv_lload hx hb dX1_piled_95 (lv_at hl 2 rfl) ?_
      refine lv_lload hx hb dX1_piled_97 (lv_at hl 1 rfl) ?_
      refine ps_gol (As := [.long x_6, .long x_71]) (rest := [.int ac, .ref a]) ⟨hx, hb, hml, hown, hts⟩ (kX1_half l x_6 x_71) (va_cwS 2 hts gX1_piled_X1_half rfl rfl rfl (by decide +kernel) ⟨by decide, by decide⟩) rfl hl.1 rfl (Nat.le_of_ble_eq_true rfl) dX1_piled_99 ⟨Nat.zero_le _, Nat.zero_le _⟩ (fun r_99 q_99 => ?_)
      refine va_last hx hb hK hP hD hS 1 0 rfl rfl hac dX1_piled_102 (fun H locs hP hD hS => ?_)
      have hP : va_P D vwCl (rW h a cA ((vp_updL u_76.1 (ac : Int32).toNatClampNeg r_99), u_76.2.1, u_76.2.2.1, u_76.2.2.2.1, u_76.2.2.2.2.1, u_76.2.2.2.2.2)) H := hP
      have hD : va_D (wA h a) (rW h a cA ((vp_updL u_76.1 (ac : Int32).toNatClampNeg r_99), u_76.2.1, u_76.2.2.1, u_76.2.2.2.1, u_76.2.2.2.2.1, u_76.2.2.2.2.2)) := hD
      generalize (vp_updL u_76.1 (ac : Int32).toNatClampNeg r_99) = f_102 at hP hD
      refine lv_aload_n hx hb dX1_piled_103 rfl (lv_at hl 3 rfl) ?_
      refine va_get (D := D) (ci := 1) (v := .ref a) (C := RX1) (T := TX1) (N := 6) hx hb hts iw_X1_piled hown hK hP 0 rfl rfl 1 (by decide) (hts (.fieldLink RX1 7 "WordMillModel" "memory" "[J") (by decide +kernel)) (fun _ h9 => h9) rfl dX1_piled_104 ?_
      refine lv_lload hx hb dX1_piled_107 (lv_at hl 1 rfl) ?_
      refine lv_l2i hx hb dX1_piled_109 rfl ?_
      refine lv_iload_n hx hb dX1_piled_110 rfl (lv_at hl 4 rfl) ?_
      refine lv_sipush (v := 176) hx hb dX1_piled_111 (by decide) ?_
      refine lv_icmp_ne (tgt := 123) hx hb dX1_piled_114 (by decide) (fun c_114 => ?_) (fun c_114 => ?_)
      · refine lv_lload hx hb dX1_piled_123 (lv_at hl 7 rfl) ?_
        refine va_last hx hb hK hP hD hS 1 0 rfl rfl (pl_in (q_76.2 c_85)) dX1_piled_125 (fun H locs hP hD hS => ?_)
        have hP : va_P D vwCl (rW h a cA ((vp_updL f_102 ((x_71 : Int64).toInt32 : Int32).toNatClampNeg m0), u_76.2.1, u_76.2.2.1, u_76.2.2.2.1, u_76.2.2.2.2.1, u_76.2.2.2.2.2)) H := hP
        have hD : va_D (wA h a) (rW h a cA ((vp_updL f_102 ((x_71 : Int64).toInt32 : Int32).toNatClampNeg m0), u_76.2.1, u_76.2.2.1, u_76.2.2.2.1, u_76.2.2.2.2.1, u_76.2.2.2.2.2)) := hD
        generalize (vp_updL f_102 ((x_71 : Int64).toInt32 : Int32).toNatClampNeg m0) = f_125 at hP hD
        refine lv_iload_n hx hb dX1_piled_126 rfl (lv_at hl 4 rfl) ?_
        refine lv_sipush (v := 176) hx hb dX1_piled_127 (by decide) ?_
        refine lv_icmp_ne (tgt := 142) hx hb dX1_piled_130 (by decide) (fun c_130 => ?_) (fun c_130 => ?_)
        · refine lv_iload hx hb dX1_piled_142 (lv_at hl 8 rfl) ?_
          exact mm_iret (mw := rW h a cA) (u1 := (f_125, u_76.2.1, u_76.2.2.1, u_76.2.2.2.1, u_76.2.2.2.2.1, u_76.2.2.2.2.2)) hx hb hr hlocks hP hK hD hS dX1_piled_144 ⟨⟨q_76.1.1, (q_76.1.2.1.trans rfl), (q_76.1.2.2.trans rfl)⟩, hnx⟩
        · exact absurd c_130 (by decide)
      · exact absurd c_114 (by decide)
    · refine lv_iconst (v := 0) hx hb dX1_piled_88 (by decide) ?_
      exact mm_iret (mw := rW h a cA) (u1 := (u_76.1, u_76.2.1, u_76.2.2.1, u_76.2.2.2.1, u_76.2.2.2.2.1, u_76.2.2.2.2.2)) hx hb hr hlocks hP hK hD hS dX1_piled_89 ⟨⟨q_76.1.1, (q_76.1.2.1.trans rfl), (q_76.1.2.2.trans rfl)⟩, (vp_0 (by decide))⟩
  by_cases k_178 : op = 178
  · subst k_178
    refine lv_tableIn (tgt := 145) hx hb dX1_piled_9 (by decide) (by decide) rfl (by decide) ?_
    refine lv_aload_n hx hb dX1_piled_145 rfl (lv_at hl 1 rfl) ?_
    refine lv_lload hx hb dX1_piled_146 (lv_at hl 0 rfl) ?_
    refine lv_ldc2 (v := 262143) hx hb hown (hts (.constantLong RX1 31 262143) (by decide +kernel)) dX1_piled_148 ?_
    refine lv_land hx hb dX1_piled_151 ?_
    refine r_go (rv := rv_l) (As := [.long (x_6 &&& 262143)]) (rest := []) ⟨hx, hb, hml, hown, hts⟩ (kX1_at l D h a cA (u.1, u.2.1, u.2.2.1, u.2.2.2.1, u.2.2.2.2.1, u.2.2.2.2.2) hI (x_6 &&& 262143) ) (cwV 1 hts gX1_piled_X1_at rfl rfl rfl (by decide +kernel) ⟨by decide, by decide⟩) hK hP hD hS rfl hl.1 rfl (Nat.le_of_ble_eq_true rfl) dX1_piled_152 ⟨Nat.zero_le _, Nat.zero_le _⟩ (fun r_152 u_152 H locs q_152 hP hD hS => ?_)
    refine W.eq (g2 := F0 m 155 ls (.long r_152 :: [])) rfl ?_
    refine lv_lstore (lv' := [(10, .long r_152), (8, .long x_6), (0, .ref h), (1, .int 178), (2, .int ac), (3, .long e0), (5, .long m0), (7, .int nx)]) hx hb dX1_piled_155 hl (by decide) rfl (fun ls hl => ?_)
    refine lv_aload_n hx hb dX1_piled_157 rfl (lv_at hl 2 rfl) ?_
    refine va_get (D := D) (ci := 1) (v := .int u_152.2.2.2.2.1) (C := RX1) (T := TX1) (N := 6) hx hb hts iw_X1_piled hown hK hP 0 rfl rfl 4 (by decide) (hts (.fieldLink RX1 36 "WordMillModel" "fault" "I") (by decide +kernel)) (fun _ h9 => h9) rfl dX1_piled_158 ?_
    refine lv_if_eq (tgt := 166) hx hb dX1_piled_161 (by decide) (fun c_161 => ?_) (fun c_161 => ?_)
    · refine lv_aload_n hx hb dX1_piled_166 rfl (lv_at hl 2 rfl) ?_
      refine va_get (D := D) (ci := 1) (v := .ref a) (C := RX1) (T := TX1) (N := 6) hx hb hts iw_X1_piled hown hK hP 0 rfl rfl 1 (by decide) (hts (.fieldLink RX1 7 "WordMillModel" "memory" "[J") (by decide +kernel)) (fun _ h9 => h9) rfl dX1_piled_167 ?_
      refine lv_lload_n hx hb dX1_piled_170 rfl (lv_at hl 5 rfl) ?_
      refine lv_l2i hx hb dX1_piled_171 rfl ?_
      refine lv_lload hx hb dX1_piled_172 (lv_at hl 0 rfl) ?_
      refine va_last hx hb hK hP hD hS 1 0 rfl rfl (pl_in (Or.resolve_left hne nfr178)) dX1_piled_174 (fun H locs hP hD hS => ?_)
      have hP : va_P D vwCl (rW h a cA ((vp_updL u_152.1 ((e0 : Int64).toInt32 : Int32).toNatClampNeg r_152), u_152.2.1, u_152.2.2.1, u_152.2.2.2.1, u_152.2.2.2.2.1, u_152.2.2.2.2.2)) H := hP
      have hD : va_D (wA h a) (rW h a cA ((vp_updL u_152.1 ((e0 : Int64).toInt32 : Int32).toNatClampNeg r_152), u_152.2.1, u_152.2.2.1, u_152.2.2.2.1, u_152.2.2.2.2.1, u_152.2.2.2.2.2)) := hD
      generalize (vp_updL u_152.1 ((e0 : Int64).toInt32 : Int32).toNatClampNeg r_152) = f_174 at hP hD
      refine lv_aload_n hx hb dX1_piled_175 rfl (lv_at hl 2 rfl) ?_
      refine va_get (D := D) (ci := 1) (v := .ref a) (C := RX1) (T := TX1) (N := 6) hx hb hts iw_X1_piled hown hK hP 0 rfl rfl 1 (by decide) (hts (.fieldLink RX1 7 "WordMillModel" "memory" "[J") (by decide +kernel)) (fun _ h9 => h9) rfl dX1_piled_176 ?_
      refine lv_iload_n hx hb dX1_piled_179 rfl (lv_at hl 4 rfl) ?_
      refine lv_aload_n hx hb dX1_piled_180 rfl (lv_at hl 2 rfl) ?_
      refine va_get (D := D) (ci := 1) (v := .ref a) (C := RX1) (T := TX1) (N := 6) hx hb hts iw_X1_piled hown hK hP 0 rfl rfl 1 (by decide) (hts (.fieldLink RX1 7 "WordMillModel" "memory" "[J") (by decide +kernel)) (fun _ h9 => h9) rfl dX1_piled_181 ?_
      refine lv_iload_n hx hb dX1_piled_184 rfl (lv_at hl 4 rfl) ?_
      refine va_lald hx hb hK hP 1 0 rfl rfl hac dX1_piled_185 ?_
      refine lv_aload_n hx hb dX1_piled_186 rfl (lv_at hl 2 rfl) ?_
      refine va_get (D := D) (ci := 1) (v := .ref a) (C := RX1) (T := TX1) (N := 6) hx hb hts iw_X1_piled hown hK hP 0 rfl rfl 1 (by decide) (hts (.fieldLink RX1 7 "WordMillModel" "memory" "[J") (by decide +kernel)) (fun _ h9 => h9) rfl dX1_piled_187 ?_
      refine lv_iload_n hx hb dX1_piled_190 rfl (lv_at hl 4 rfl) ?_
      refine va_lald hx hb hK hP 1 0 rfl rfl hac dX1_piled_191 ?_
      refine lv_lconst (v := 1) hx hb dX1_piled_192 (by decide) ?_
      refine lv_lsub hx hb dX1_piled_193 ?_
      refine ps_gol (As := [.long (f_174 (ac : Int32).toNatClampNeg), .long ((f_174 (ac : Int32).toNatClampNeg) - 1)]) (rest := [.int ac, .ref a]) ⟨hx, hb, hml, hown, hts⟩ (kX1_half l (f_174 (ac : Int32).toNatClampNeg) ((f_174 (ac : Int32).toNatClampNeg) - 1)) (va_cwS 2 hts gX1_piled_X1_half rfl rfl rfl (by decide +kernel) ⟨by decide, by decide⟩) rfl hl.1 rfl (Nat.le_of_ble_eq_true rfl) dX1_piled_194 ⟨Nat.zero_le _, Nat.zero_le _⟩ (fun r_194 q_194 => ?_)
      refine va_last hx hb hK hP hD hS 1 0 rfl rfl hac dX1_piled_197 (fun H locs hP hD hS => ?_)
      have hP : va_P D vwCl (rW h a cA ((vp_updL f_174 (ac : Int32).toNatClampNeg r_194), u_152.2.1, u_152.2.2.1, u_152.2.2.2.1, u_152.2.2.2.2.1, u_152.2.2.2.2.2)) H := hP
      have hD : va_D (wA h a) (rW h a cA ((vp_updL f_174 (ac : Int32).toNatClampNeg r_194), u_152.2.1, u_152.2.2.1, u_152.2.2.2.1, u_152.2.2.2.2.1, u_152.2.2.2.2.2)) := hD
      generalize (vp_updL f_174 (ac : Int32).toNatClampNeg r_194) = f_197 at hP hD
      refine lv_iload hx hb dX1_piled_198 (lv_at hl 7 rfl) ?_
      exact mm_iret (mw := rW h a cA) (u1 := (f_197, u_152.2.1, u_152.2.2.1, u_152.2.2.2.1, u_152.2.2.2.2.1, u_152.2.2.2.2.2)) hx hb hr hlocks hP hK hD hS dX1_piled_200 ⟨⟨q_152.1.1, (q_152.1.2.1.trans rfl), (q_152.1.2.2.trans rfl)⟩, hnx⟩
    · refine lv_iconst (v := 0) hx hb dX1_piled_164 (by decide) ?_
      exact mm_iret (mw := rW h a cA) (u1 := (u_152.1, u_152.2.1, u_152.2.2.1, u_152.2.2.2.1, u_152.2.2.2.2.1, u_152.2.2.2.2.2)) hx hb hr hlocks hP hK hD hS dX1_piled_165 ⟨⟨q_152.1.1, (q_152.1.2.1.trans rfl), (q_152.1.2.2.trans rfl)⟩, (vp_0 (by decide))⟩
  by_cases k_179 : op = 179
  · subst k_179
    refine lv_tableIn (tgt := 201) hx hb dX1_piled_9 (by decide) (by decide) rfl (by decide) ?_
    refine lv_aload_n hx hb dX1_piled_201 rfl (lv_at hl 1 rfl) ?_
    refine lv_lload hx hb dX1_piled_202 (lv_at hl 0 rfl) ?_
    refine lv_ldc2 (v := 262143) hx hb hown (hts (.constantLong RX1 31 262143) (by decide +kernel)) dX1_piled_204 ?_
    refine lv_land hx hb dX1_piled_207 ?_
    refine r_go (rv := rv_l) (As := [.long (x_6 &&& 262143)]) (rest := []) ⟨hx, hb, hml, hown, hts⟩ (kX1_at l D h a cA (u.1, u.2.1, u.2.2.1, u.2.2.2.1, u.2.2.2.2.1, u.2.2.2.2.2) hI (x_6 &&& 262143) ) (cwV 1 hts gX1_piled_X1_at rfl rfl rfl (by decide +kernel) ⟨by decide, by decide⟩) hK hP hD hS rfl hl.1 rfl (Nat.le_of_ble_eq_true rfl) dX1_piled_208 ⟨Nat.zero_le _, Nat.zero_le _⟩ (fun r_208 u_208 H locs q_208 hP hD hS => ?_)
    refine W.eq (g2 := F0 m 211 ls (.long r_208 :: [])) rfl ?_
    refine lv_lstore (lv' := [(10, .long r_208), (8, .long x_6), (0, .ref h), (1, .int 179), (2, .int ac), (3, .long e0), (5, .long m0), (7, .int nx)]) hx hb dX1_piled_211 hl (by decide) rfl (fun ls hl => ?_)
    refine lv_aload_n hx hb dX1_piled_213 rfl (lv_at hl 2 rfl) ?_
    refine va_get (D := D) (ci := 1) (v := .int u_208.2.2.2.2.1) (C := RX1) (T := TX1) (N := 6) hx hb hts iw_X1_piled hown hK hP 0 rfl rfl 4 (by decide) (hts (.fieldLink RX1 36 "WordMillModel" "fault" "I") (by decide +kernel)) (fun _ h9 => h9) rfl dX1_piled_214 ?_
    refine lv_if_eq (tgt := 222) hx hb dX1_piled_217 (by decide) (fun c_217 => ?_) (fun c_217 => ?_)
    · refine lv_aload_n hx hb dX1_piled_222 rfl (lv_at hl 2 rfl) ?_
      refine va_get (D := D) (ci := 1) (v := .ref a) (C := RX1) (T := TX1) (N := 6) hx hb hts iw_X1_piled hown hK hP 0 rfl rfl 1 (by decide) (hts (.fieldLink RX1 7 "WordMillModel" "memory" "[J") (by decide +kernel)) (fun _ h9 => h9) rfl dX1_piled_223 ?_
      refine lv_iload_n hx hb dX1_piled_226 rfl (lv_at hl 4 rfl) ?_
      refine lv_lload hx hb dX1_piled_227 (lv_at hl 1 rfl) ?_
      refine lv_lload hx hb dX1_piled_229 (lv_at hl 1 rfl) ?_
      refine lv_lconst (v := 1) hx hb dX1_piled_231 (by decide) ?_
      refine lv_lsub hx hb dX1_piled_232 ?_
      refine ps_gol (As := [.long x_6, .long (x_6 - 1)]) (rest := [.int ac, .ref a]) ⟨hx, hb, hml, hown, hts⟩ (kX1_half l x_6 (x_6 - 1)) (va_cwS 2 hts gX1_piled_X1_half rfl rfl rfl (by decide +kernel) ⟨by decide, by decide⟩) rfl hl.1 rfl (Nat.le_of_ble_eq_true rfl) dX1_piled_233 ⟨Nat.zero_le _, Nat.zero_le _⟩ (fun r_233 q_233 => ?_)
      refine va_last hx hb hK hP hD hS 1 0 rfl rfl hac dX1_piled_236 (fun H locs hP hD hS => ?_)
      have hP : va_P D vwCl (rW h a cA ((vp_updL u_208.1 (ac : Int32).toNatClampNeg r_233), u_208.2.1, u_208.2.2.1, u_208.2.2.2.1, u_208.2.2.2.2.1, u_208.2.2.2.2.2)) H := hP
      have hD : va_D (wA h a) (rW h a cA ((vp_updL u_208.1 (ac : Int32).toNatClampNeg r_233), u_208.2.1, u_208.2.2.1, u_208.2.2.2.1, u_208.2.2.2.2.1, u_208.2.2.2.2.2)) := hD
      generalize (vp_updL u_208.1 (ac : Int32).toNatClampNeg r_233) = f_236 at hP hD
      refine lv_lload hx hb dX1_piled_237 (lv_at hl 0 rfl) ?_
      refine lv_ldc2 (v := 4095) hx hb hown (hts (.constantLong RX1 77 4095) (by decide +kernel)) dX1_piled_239 ?_
      refine lv_land hx hb dX1_piled_242 ?_
      refine lv_l2i hx hb dX1_piled_243 rfl ?_
      exact mm_iret (mw := rW h a cA) (u1 := (f_236, u_208.2.1, u_208.2.2.1, u_208.2.2.2.1, u_208.2.2.2.2.1, u_208.2.2.2.2.2)) hx hb hr hlocks hP hK hD hS dX1_piled_244 ⟨⟨q_208.1.1, (q_208.1.2.1.trans rfl), (q_208.1.2.2.trans rfl)⟩, (la4095 _)⟩
    · refine lv_iconst (v := 0) hx hb dX1_piled_220 (by decide) ?_
      exact mm_iret (mw := rW h a cA) (u1 := (u_208.1, u_208.2.1, u_208.2.2.1, u_208.2.2.2.1, u_208.2.2.2.2.1, u_208.2.2.2.2.2)) hx hb hr hlocks hP hK hD hS dX1_piled_221 ⟨⟨q_208.1.1, (q_208.1.2.1.trans rfl), (q_208.1.2.2.trans rfl)⟩, (vp_0 (by decide))⟩
  refine lv_tableOut (tgt := 245) hx hb dX1_piled_9 (tb_out_172_8 k_172 k_173 k_174 k_175 k_176 k_177 k_178 k_179) (by decide) ?_
  refine lv_aload_n hx hb dX1_piled_245 rfl (lv_at hl 1 rfl) ?_
  refine va_get (D := D) (ci := 1) (v := .ref a) (C := RX1) (T := TX1) (N := 6) hx hb hts iw_X1_piled hown hK hP 0 rfl rfl 1 (by decide) (hts (.fieldLink RX1 7 "WordMillModel" "memory" "[J") (by decide +kernel)) (fun _ h9 => h9) rfl dX1_piled_246 ?_
  refine lv_lload_n hx hb dX1_piled_249 rfl (lv_at hl 4 rfl) ?_
  refine lv_l2i hx hb dX1_piled_250 rfl ?_
  refine lv_iload hx hb dX1_piled_251 (lv_at hl 6 rfl) ?_
  refine lv_i2l hx hb dX1_piled_253 rfl ?_
  refine va_last hx hb hK hP hD hS 1 0 rfl rfl (pl_in (Or.resolve_left hne (pil_d hop.1 hop.2 k_172 k_173 k_174 k_175 k_176 k_177 k_178 k_179))) dX1_piled_254 (fun H locs hP hD hS => ?_)
  have hP : va_P D vwCl (rW h a cA ((vp_updL u.1 ((e0 : Int64).toInt32 : Int32).toNatClampNeg ((nx : Int32).toInt64)), u.2.1, u.2.2.1, u.2.2.2.1, u.2.2.2.2.1, u.2.2.2.2.2)) H := hP
  have hD : va_D (wA h a) (rW h a cA ((vp_updL u.1 ((e0 : Int64).toInt32 : Int32).toNatClampNeg ((nx : Int32).toInt64)), u.2.1, u.2.2.1, u.2.2.2.1, u.2.2.2.2.1, u.2.2.2.2.2)) := hD
  generalize (vp_updL u.1 ((e0 : Int64).toInt32 : Int32).toNatClampNeg ((nx : Int32).toInt64)) = f_254 at hP hD
  refine lv_lload_n hx hb dX1_piled_255 rfl (lv_at hl 4 rfl) ?_
  refine lv_lconst (v := 1) hx hb dX1_piled_256 (by decide) ?_
  refine lv_ladd hx hb dX1_piled_257 ?_
  refine lv_ldc2 (v := 4095) hx hb hown (hts (.constantLong RX1 77 4095) (by decide +kernel)) dX1_piled_258 ?_
  refine lv_land hx hb dX1_piled_261 ?_
  refine lv_l2i hx hb dX1_piled_262 rfl ?_
  exact mm_iret (mw := rW h a cA) (u1 := (f_254, u.2.1, u.2.2.1, u.2.2.2.1, u.2.2.2.2.1, u.2.2.2.2.2)) hx hb hr hlocks hP hK hD hS dX1_piled_263 ⟨⟨hI, rfl, rfl⟩, (la4095 _)⟩
theorem iw_X1_tested : ∀ w ∈ u_ws RX1 TX1 6, w ∈ wsX1_tested := by decide +kernel
set_option maxHeartbeats 4000000 in
set_option maxRecDepth 100000 in
theorem kX1_tested (l : Launch) (D : va_G) (h a : Nat) (cA : ClassId) (u : rS) (hI : rI u) (op : Int32) (ac : Int32) (e0 : Int64) (m0 : Int64) (nx : Int32) (hop : ¬ op < 192 ∧ ¬ 255 < op) (hac : vp_in ac 4096) (hne : fr op ∨ pl e0) (hnx : vp_in nx 4096) : MM l yX1_tested wsX1_tested ({ frames := 1, cells := 0, slots := 0, locals := 24 }) D vwCl [(cA, .long)] (rW h a cA) (wA h a) u [.ref h, .int op, .int ac, .long e0, .long m0, .int nx] rv_i (fun r u' => rK u u' ∧ vp_in r 4096) := by
  refine mm_of (cc := cX1_tested) (maxL := 14) (ret := (some .int)) (by decide) rfl (Nat.le_of_ble_eq_true rfl) (rA_in h a cA u) ?_
  intro p e s m below meth c ls C hl hP hK hD hS
  obtain ⟨hx, hb, hr, hml, hown, hts, hlocks⟩ := C
  have hl : lv_has ls 14 [(0, .ref h), (1, .int op), (2, .int ac), (3, .long e0), (5, .long m0), (7, .int nx)] := hl
  refine lv_aload_n hx hb dX1_tested_0 rfl (lv_at hl 0 rfl) ?_
  refine va_get (D := D) (ci := 1) (v := .ref a) (C := RX1) (T := TX1) (N := 6) hx hb hts iw_X1_tested hown hK hP 0 rfl rfl 1 (by decide) (hts (.fieldLink RX1 7 "WordMillModel" "memory" "[J") (by decide +kernel)) (fun _ h9 => h9) rfl dX1_tested_1 ?_
  refine lv_iload_n hx hb dX1_tested_4 rfl (lv_at hl 2 rfl) ?_
  refine va_lald hx hb hK hP 1 0 rfl rfl hac dX1_tested_5 ?_
  refine lv_topl (fun x_6 ex_6 => ?_)
  refine lv_lstore (lv' := [(8, .long x_6), (0, .ref h), (1, .int op), (2, .int ac), (3, .long e0), (5, .long m0), (7, .int nx)]) hx hb dX1_tested_6 hl (by decide) rfl (fun ls hl => ?_)
  refine lv_iload hx hb dX1_tested_8 (lv_at hl 6 rfl) ?_
  refine lv_iconst (v := 1) hx hb dX1_tested_10 (by decide) ?_
  refine lv_iadd hx hb dX1_tested_11 ?_
  refine lv_sipush (v := 4095) hx hb dX1_tested_12 (by decide) ?_
  refine lv_iand hx hb dX1_tested_15 ?_
  refine lv_topi (fun x_16 ex_16 => ?_)
  refine lv_istore (lv' := [(10, .int x_16), (8, .long x_6), (0, .ref h), (1, .int op), (2, .int ac), (3, .long e0), (5, .long m0), (7, .int nx)]) hx hb dX1_tested_16 hl (by decide) rfl (fun ls hl => ?_)
  refine lv_lload_n hx hb dX1_tested_18 rfl (lv_at hl 5 rfl) ?_
  refine lv_ldc2 (v := 4095) hx hb hown (hts (.constantLong RX1 77 4095) (by decide +kernel)) dX1_tested_19 ?_
  refine lv_land hx hb dX1_tested_22 ?_
  refine lv_l2i hx hb dX1_tested_23 rfl ?_
  refine lv_topi (fun x_24 ex_24 => ?_)
  refine lv_istore (lv' := [(11, .int x_24), (10, .int x_16), (8, .long x_6), (0, .ref h), (1, .int op), (2, .int ac), (3, .long e0), (5, .long m0), (7, .int nx)]) hx hb dX1_tested_24 hl (by decide) rfl (fun ls hl => ?_)
  refine lv_iload_n hx hb dX1_tested_26 rfl (lv_at hl 4 rfl) ?_
  refine lv_iconst (v := 3) hx hb dX1_tested_27 (by decide) ?_
  refine lv_ishr hx hb dX1_tested_28 ?_
  refine lv_bipush (v := 7) hx hb dX1_tested_29 (by decide) ?_
  refine lv_iand hx hb dX1_tested_31 ?_
  refine lv_topi (fun x_32 ex_32 => ?_)
  by_cases k_0 : x_32 = 0
  · subst k_0
    refine lv_tableIn (tgt := 80) hx hb dX1_tested_32 (by decide) (by decide) rfl (by decide) ?_
    refine lv_iload_n hx hb dX1_tested_80 rfl (lv_at hl 4 rfl) ?_
    refine lv_lload hx hb dX1_tested_81 (lv_at hl 2 rfl) ?_
    refine ps_gol (As := [.long x_6]) (rest := [.int op]) ⟨hx, hb, hml, hown, hts⟩ (kX1_number l x_6) (va_cwS 1 hts gX1_tested_X1_number rfl rfl rfl (by decide +kernel) ⟨by decide, by decide⟩) rfl hl.1 rfl (Nat.le_of_ble_eq_true rfl) dX1_tested_83 ⟨Nat.zero_le _, Nat.zero_le _⟩ (fun r_83 q_83 => ?_)
    refine lv_lload_n hx hb dX1_tested_86 rfl (lv_at hl 6 rfl) ?_
    refine ps_goi (As := [.int op, .long r_83, .long e0]) (rest := []) ⟨hx, hb, hml, hown, hts⟩ (kX1_is l op r_83 e0) (va_cwS 3 hts gX1_tested_X1_is rfl rfl rfl (by decide +kernel) ⟨by decide, by decide⟩) rfl hl.1 rfl (Nat.le_of_ble_eq_true rfl) dX1_tested_87 ⟨Nat.zero_le _, Nat.zero_le _⟩ (fun r_87 q_87 => ?_)
    refine lv_if_eq (tgt := 98) hx hb dX1_tested_90 (by decide) (fun c_90 => ?_) (fun c_90 => ?_)
    · refine lv_iload hx hb dX1_tested_98 (lv_at hl 8 rfl) ?_
      exact mm_iret (mw := rW h a cA) (u1 := (u.1, u.2.1, u.2.2.1, u.2.2.2.1, u.2.2.2.2.1, u.2.2.2.2.2)) hx hb hr hlocks hP hK hD hS dX1_tested_100 ⟨⟨hI, rfl, rfl⟩, hnx⟩
    · refine lv_iload hx hb dX1_tested_93 (lv_at hl 1 rfl) ?_
      refine lv_goto (tgt := 100) hx hb dX1_tested_95 (by decide) ?_
      exact mm_iret (mw := rW h a cA) (u1 := (u.1, u.2.1, u.2.2.1, u.2.2.2.1, u.2.2.2.2.1, u.2.2.2.2.2)) hx hb hr hlocks hP hK hD hS dX1_tested_100 ⟨⟨hI, rfl, rfl⟩, (by rw [ex_16]; exact vp_and4095 _)⟩
  by_cases k_1 : x_32 = 1
  · subst k_1
    refine lv_tableIn (tgt := 101) hx hb dX1_tested_32 (by decide) (by decide) rfl (by decide) ?_
    refine lv_iload_n hx hb dX1_tested_101 rfl (lv_at hl 4 rfl) ?_
    refine lv_lload hx hb dX1_tested_102 (lv_at hl 2 rfl) ?_
    refine ps_gol (As := [.long x_6]) (rest := [.int op]) ⟨hx, hb, hml, hown, hts⟩ (kX1_number l x_6) (va_cwS 1 hts gX1_tested_X1_number rfl rfl rfl (by decide +kernel) ⟨by decide, by decide⟩) rfl hl.1 rfl (Nat.le_of_ble_eq_true rfl) dX1_tested_104 ⟨Nat.zero_le _, Nat.zero_le _⟩ (fun r_104 q_104 => ?_)
    refine lv_lload hx hb dX1_tested_107 (lv_at hl 7 rfl) ?_
    refine ps_gol (As := [.long m0]) (rest := [.long r_104, .int op]) ⟨hx, hb, hml, hown, hts⟩ (kX1_number l m0) (va_cwS 1 hts gX1_tested_X1_number rfl rfl rfl (by decide +kernel) ⟨by decide, by decide⟩) rfl hl.1 rfl (Nat.le_of_ble_eq_true rfl) dX1_tested_109 ⟨Nat.zero_le _, Nat.zero_le _⟩ (fun r_109 q_109 => ?_)
    refine ps_goi (As := [.int op, .long r_104, .long r_109]) (rest := []) ⟨hx, hb, hml, hown, hts⟩ (kX1_is l op r_104 r_109) (va_cwS 3 hts gX1_tested_X1_is rfl rfl rfl (by decide +kernel) ⟨by decide, by decide⟩) rfl hl.1 rfl (Nat.le_of_ble_eq_true rfl) dX1_tested_112 ⟨Nat.zero_le _, Nat.zero_le _⟩ (fun r_112 q_112 => ?_)
    refine lv_if_eq (tgt := 123) hx hb dX1_tested_115 (by decide) (fun c_115 => ?_) (fun c_115 => ?_)
    · refine lv_iload hx hb dX1_tested_123 (lv_at hl 8 rfl) ?_
      exact mm_iret (mw := rW h a cA) (u1 := (u.1, u.2.1, u.2.2.1, u.2.2.2.1, u.2.2.2.2.1, u.2.2.2.2.2)) hx hb hr hlocks hP hK hD hS dX1_tested_125 ⟨⟨hI, rfl, rfl⟩, hnx⟩
    · refine lv_iload hx hb dX1_tested_118 (lv_at hl 1 rfl) ?_
      refine lv_goto (tgt := 125) hx hb dX1_tested_120 (by decide) ?_
      exact mm_iret (mw := rW h a cA) (u1 := (u.1, u.2.1, u.2.2.1, u.2.2.2.1, u.2.2.2.2.1, u.2.2.2.2.2)) hx hb hr hlocks hP hK hD hS dX1_tested_125 ⟨⟨hI, rfl, rfl⟩, (by rw [ex_16]; exact vp_and4095 _)⟩
  by_cases k_2 : x_32 = 2
  · subst k_2
    refine lv_tableIn (tgt := 126) hx hb dX1_tested_32 (by decide) (by decide) rfl (by decide) ?_
    refine lv_iload_n hx hb dX1_tested_126 rfl (lv_at hl 4 rfl) ?_
    refine lv_lload hx hb dX1_tested_127 (lv_at hl 2 rfl) ?_
    refine ps_gol (As := [.long x_6]) (rest := [.int op]) ⟨hx, hb, hml, hown, hts⟩ (kX1_number l x_6) (va_cwS 1 hts gX1_tested_X1_number rfl rfl rfl (by decide +kernel) ⟨by decide, by decide⟩) rfl hl.1 rfl (Nat.le_of_ble_eq_true rfl) dX1_tested_129 ⟨Nat.zero_le _, Nat.zero_le _⟩ (fun r_129 q_129 => ?_)
    refine lv_lconst (v := 0) hx hb dX1_tested_132 (by decide) ?_
    refine ps_goi (As := [.int op, .long r_129, .long 0]) (rest := []) ⟨hx, hb, hml, hown, hts⟩ (kX1_is l op r_129 0) (va_cwS 3 hts gX1_tested_X1_is rfl rfl rfl (by decide +kernel) ⟨by decide, by decide⟩) rfl hl.1 rfl (Nat.le_of_ble_eq_true rfl) dX1_tested_133 ⟨Nat.zero_le _, Nat.zero_le _⟩ (fun r_133 q_133 => ?_)
    refine lv_if_eq (tgt := 144) hx hb dX1_tested_136 (by decide) (fun c_136 => ?_) (fun c_136 => ?_)
    · refine lv_iload hx hb dX1_tested_144 (lv_at hl 8 rfl) ?_
      exact mm_iret (mw := rW h a cA) (u1 := (u.1, u.2.1, u.2.2.1, u.2.2.2.1, u.2.2.2.2.1, u.2.2.2.2.2)) hx hb hr hlocks hP hK hD hS dX1_tested_146 ⟨⟨hI, rfl, rfl⟩, hnx⟩
    · refine lv_iload hx hb dX1_tested_139 (lv_at hl 0 rfl) ?_
      refine lv_goto (tgt := 146) hx hb dX1_tested_141 (by decide) ?_
      exact mm_iret (mw := rW h a cA) (u1 := (u.1, u.2.1, u.2.2.1, u.2.2.2.1, u.2.2.2.2.1, u.2.2.2.2.2)) hx hb hr hlocks hP hK hD hS dX1_tested_146 ⟨⟨hI, rfl, rfl⟩, (by rw [ex_24]; exact la4095 _)⟩
  by_cases k_3 : x_32 = 3
  · subst k_3
    refine lv_tableIn (tgt := 147) hx hb dX1_tested_32 (by decide) (by decide) rfl (by decide) ?_
    refine lv_lload hx hb dX1_tested_147 (lv_at hl 7 rfl) ?_
    refine lv_iload_n hx hb dX1_tested_149 rfl (lv_at hl 4 rfl) ?_
    refine lv_iconst (v := 3) hx hb dX1_tested_150 (by decide) ?_
    refine lv_ishr hx hb dX1_tested_151 ?_
    refine lv_bipush (v := 29) hx hb dX1_tested_152 (by decide) ?_
    refine lv_icmp_ne (tgt := 161) hx hb dX1_tested_154 (by decide) (fun c_154 => ?_) (fun c_154 => ?_)
    · refine lv_iload_n hx hb dX1_tested_161 rfl (lv_at hl 4 rfl) ?_
      refine lv_iconst (v := 3) hx hb dX1_tested_162 (by decide) ?_
      refine lv_ishr hx hb dX1_tested_163 ?_
      refine lv_bipush (v := 31) hx hb dX1_tested_164 (by decide) ?_
      refine lv_icmp_ne (tgt := 173) hx hb dX1_tested_166 (by decide) (fun c_166 => ?_) (fun c_166 => ?_)
      · refine lv_iconst (v := 0) hx hb dX1_tested_173 (by decide) ?_
        refine lv_i2l hx hb dX1_tested_174 rfl ?_
        refine lv_ladd hx hb dX1_tested_175 ?_
        refine lv_ldc2 (v := 68719476735) hx hb hown (hts (.constantLong RX1 27 68719476735) (by decide +kernel)) dX1_tested_176 ?_
        refine lv_land hx hb dX1_tested_179 ?_
        refine lv_topl (fun x_180 ex_180 => ?_)
        refine lv_lstore (lv' := [(12, .long x_180), (11, .int x_24), (10, .int x_16), (8, .long x_6), (0, .ref h), (1, .int op), (2, .int ac), (3, .long e0), (5, .long m0), (7, .int nx)]) hx hb dX1_tested_180 hl (by decide) rfl (fun ls hl => ?_)
        refine lv_aload_n hx hb dX1_tested_182 rfl (lv_at hl 4 rfl) ?_
        refine va_get (D := D) (ci := 1) (v := .ref a) (C := RX1) (T := TX1) (N := 6) hx hb hts iw_X1_tested hown hK hP 0 rfl rfl 1 (by decide) (hts (.fieldLink RX1 7 "WordMillModel" "memory" "[J") (by decide +kernel)) (fun _ h9 => h9) rfl dX1_tested_183 ?_
        refine lv_lload_n hx hb dX1_tested_186 rfl (lv_at hl 7 rfl) ?_
        refine lv_l2i hx hb dX1_tested_187 rfl ?_
        refine lv_lload hx hb dX1_tested_188 (lv_at hl 0 rfl) ?_
        refine va_last hx hb hK hP hD hS 1 0 rfl rfl (pl_in (tst_e hop.1 hop.2 hne (Or.inl ex_32.symm))) dX1_tested_190 (fun H locs hP hD hS => ?_)
        have hP : va_P D vwCl (rW h a cA ((vp_updL u.1 ((e0 : Int64).toInt32 : Int32).toNatClampNeg x_180), u.2.1, u.2.2.1, u.2.2.2.1, u.2.2.2.2.1, u.2.2.2.2.2)) H := hP
        have hD : va_D (wA h a) (rW h a cA ((vp_updL u.1 ((e0 : Int64).toInt32 : Int32).toNatClampNeg x_180), u.2.1, u.2.2.1, u.2.2.2.1, u.2.2.2.2.1, u.2.2.2.2.2)) := hD
        generalize (vp_updL u.1 ((e0 : Int64).toInt32 : Int32).toNatClampNeg x_180) = f_190 at hP hD
        refine lv_iload_n hx hb dX1_tested_191 rfl (lv_at hl 6 rfl) ?_
        refine lv_if_eq (tgt := 203) hx hb dX1_tested_192 (by decide) (fun c_192 => ?_) (fun c_192 => ?_)
        · refine lv_iload_n hx hb dX1_tested_203 rfl (lv_at hl 5 rfl) ?_
          refine lv_lload hx hb dX1_tested_204 (lv_at hl 0 rfl) ?_
          refine ps_gol (As := [.long x_180]) (rest := [.int op]) ⟨hx, hb, hml, hown, hts⟩ (kX1_number l x_180) (va_cwS 1 hts gX1_tested_X1_number rfl rfl rfl (by decide +kernel) ⟨by decide, by decide⟩) rfl hl.1 rfl (Nat.le_of_ble_eq_true rfl) dX1_tested_206 ⟨Nat.zero_le _, Nat.zero_le _⟩ (fun r_206 q_206 => ?_)
          refine lv_lconst (v := 0) hx hb dX1_tested_209 (by decide) ?_
          refine ps_goi (As := [.int op, .long r_206, .long 0]) (rest := []) ⟨hx, hb, hml, hown, hts⟩ (kX1_is l op r_206 0) (va_cwS 3 hts gX1_tested_X1_is rfl rfl rfl (by decide +kernel) ⟨by decide, by decide⟩) rfl hl.1 rfl (Nat.le_of_ble_eq_true rfl) dX1_tested_210 ⟨Nat.zero_le _, Nat.zero_le _⟩ (fun r_210 q_210 => ?_)
          refine lv_if_eq (tgt := 221) hx hb dX1_tested_213 (by decide) (fun c_213 => ?_) (fun c_213 => ?_)
          · refine lv_iload hx hb dX1_tested_221 (lv_at hl 9 rfl) ?_
            exact mm_iret (mw := rW h a cA) (u1 := (f_190, u.2.1, u.2.2.1, u.2.2.2.1, u.2.2.2.2.1, u.2.2.2.2.2)) hx hb hr hlocks hP hK hD hS dX1_tested_223 ⟨⟨hI, rfl, rfl⟩, hnx⟩
          · refine lv_iload hx hb dX1_tested_216 (lv_at hl 2 rfl) ?_
            refine lv_goto (tgt := 223) hx hb dX1_tested_218 (by decide) ?_
            exact mm_iret (mw := rW h a cA) (u1 := (f_190, u.2.1, u.2.2.1, u.2.2.2.1, u.2.2.2.2.1, u.2.2.2.2.2)) hx hb hr hlocks hP hK hD hS dX1_tested_223 ⟨⟨hI, rfl, rfl⟩, (by rw [ex_16]; exact vp_and4095 _)⟩
        · refine lv_aload_n hx hb dX1_tested_195 rfl (lv_at hl 4 rfl) ?_
          refine va_get (D := D) (ci := 1) (v := .ref a) (C := RX1) (T := TX1) (N := 6) hx hb hts iw_X1_tested hown hK hP 0 rfl rfl 1 (by decide) (hts (.fieldLink RX1 7 "WordMillModel" "memory" "[J") (by decide +kernel)) (fun _ h9 => h9) rfl dX1_tested_196 ?_
          refine lv_iload_n hx hb dX1_tested_199 rfl (lv_at hl 6 rfl) ?_
          refine lv_lload hx hb dX1_tested_200 (lv_at hl 0 rfl) ?_
          refine va_last hx hb hK hP hD hS 1 0 rfl rfl hac dX1_tested_202 (fun H locs hP hD hS => ?_)
          have hP : va_P D vwCl (rW h a cA ((vp_updL f_190 (ac : Int32).toNatClampNeg x_180), u.2.1, u.2.2.1, u.2.2.2.1, u.2.2.2.2.1, u.2.2.2.2.2)) H := hP
          have hD : va_D (wA h a) (rW h a cA ((vp_updL f_190 (ac : Int32).toNatClampNeg x_180), u.2.1, u.2.2.1, u.2.2.2.1, u.2.2.2.2.1, u.2.2.2.2.2)) := hD
          generalize (vp_updL f_190 (ac : Int32).toNatClampNeg x_180) = f_202 at hP hD
          refine lv_iload_n hx hb dX1_tested_203 rfl (lv_at hl 5 rfl) ?_
          refine lv_lload hx hb dX1_tested_204 (lv_at hl 0 rfl) ?_
          refine ps_gol (As := [.long x_180]) (rest := [.int op]) ⟨hx, hb, hml, hown, hts⟩ (kX1_number l x_180) (va_cwS 1 hts gX1_tested_X1_number rfl rfl rfl (by decide +kernel) ⟨by decide, by decide⟩) rfl hl.1 rfl (Nat.le_of_ble_eq_true rfl) dX1_tested_206 ⟨Nat.zero_le _, Nat.zero_le _⟩ (fun r_206 q_206 => ?_)
          refine lv_lconst (v := 0) hx hb dX1_tested_209 (by decide) ?_
          refine ps_goi (As := [.int op, .long r_206, .long 0]) (rest := []) ⟨hx, hb, hml, hown, hts⟩ (kX1_is l op r_206 0) (va_cwS 3 hts gX1_tested_X1_is rfl rfl rfl (by decide +kernel) ⟨by decide, by decide⟩) rfl hl.1 rfl (Nat.le_of_ble_eq_true rfl) dX1_tested_210 ⟨Nat.zero_le _, Nat.zero_le _⟩ (fun r_210 q_210 => ?_)
          refine lv_if_eq (tgt := 221) hx hb dX1_tested_213 (by decide) (fun c_213 => ?_) (fun c_213 => ?_)
          · refine lv_iload hx hb dX1_tested_221 (lv_at hl 9 rfl) ?_
            exact mm_iret (mw := rW h a cA) (u1 := (f_202, u.2.1, u.2.2.1, u.2.2.2.1, u.2.2.2.2.1, u.2.2.2.2.2)) hx hb hr hlocks hP hK hD hS dX1_tested_223 ⟨⟨hI, rfl, rfl⟩, hnx⟩
          · refine lv_iload hx hb dX1_tested_216 (lv_at hl 2 rfl) ?_
            refine lv_goto (tgt := 223) hx hb dX1_tested_218 (by decide) ?_
            exact mm_iret (mw := rW h a cA) (u1 := (f_202, u.2.1, u.2.2.1, u.2.2.2.1, u.2.2.2.2.1, u.2.2.2.2.2)) hx hb hr hlocks hP hK hD hS dX1_tested_223 ⟨⟨hI, rfl, rfl⟩, (by rw [ex_16]; exact vp_and4095 _)⟩
      · refine lv_iconst (v := -1) hx hb dX1_tested_169 (by decide) ?_
        refine lv_goto (tgt := 174) hx hb dX1_tested_170 (by decide) ?_
        refine lv_i2l hx hb dX1_tested_174 rfl ?_
        refine lv_ladd hx hb dX1_tested_175 ?_
        refine lv_ldc2 (v := 68719476735) hx hb hown (hts (.constantLong RX1 27 68719476735) (by decide +kernel)) dX1_tested_176 ?_
        refine lv_land hx hb dX1_tested_179 ?_
        refine lv_topl (fun x_180 ex_180 => ?_)
        refine lv_lstore (lv' := [(12, .long x_180), (11, .int x_24), (10, .int x_16), (8, .long x_6), (0, .ref h), (1, .int op), (2, .int ac), (3, .long e0), (5, .long m0), (7, .int nx)]) hx hb dX1_tested_180 hl (by decide) rfl (fun ls hl => ?_)
        refine lv_aload_n hx hb dX1_tested_182 rfl (lv_at hl 4 rfl) ?_
        refine va_get (D := D) (ci := 1) (v := .ref a) (C := RX1) (T := TX1) (N := 6) hx hb hts iw_X1_tested hown hK hP 0 rfl rfl 1 (by decide) (hts (.fieldLink RX1 7 "WordMillModel" "memory" "[J") (by decide +kernel)) (fun _ h9 => h9) rfl dX1_tested_183 ?_
        refine lv_lload_n hx hb dX1_tested_186 rfl (lv_at hl 7 rfl) ?_
        refine lv_l2i hx hb dX1_tested_187 rfl ?_
        refine lv_lload hx hb dX1_tested_188 (lv_at hl 0 rfl) ?_
        refine va_last hx hb hK hP hD hS 1 0 rfl rfl (pl_in (tst_e hop.1 hop.2 hne (Or.inl ex_32.symm))) dX1_tested_190 (fun H locs hP hD hS => ?_)
        have hP : va_P D vwCl (rW h a cA ((vp_updL u.1 ((e0 : Int64).toInt32 : Int32).toNatClampNeg x_180), u.2.1, u.2.2.1, u.2.2.2.1, u.2.2.2.2.1, u.2.2.2.2.2)) H := hP
        have hD : va_D (wA h a) (rW h a cA ((vp_updL u.1 ((e0 : Int64).toInt32 : Int32).toNatClampNeg x_180), u.2.1, u.2.2.1, u.2.2.2.1, u.2.2.2.2.1, u.2.2.2.2.2)) := hD
        generalize (vp_updL u.1 ((e0 : Int64).toInt32 : Int32).toNatClampNeg x_180) = f_190 at hP hD
        refine lv_iload_n hx hb dX1_tested_191 rfl (lv_at hl 6 rfl) ?_
        refine lv_if_eq (tgt := 203) hx hb dX1_tested_192 (by decide) (fun c_192 => ?_) (fun c_192 => ?_)
        · refine lv_iload_n hx hb dX1_tested_203 rfl (lv_at hl 5 rfl) ?_
          refine lv_lload hx hb dX1_tested_204 (lv_at hl 0 rfl) ?_
          refine ps_gol (As := [.long x_180]) (rest := [.int op]) ⟨hx, hb, hml, hown, hts⟩ (kX1_number l x_180) (va_cwS 1 hts gX1_tested_X1_number rfl rfl rfl (by decide +kernel) ⟨by decide, by decide⟩) rfl hl.1 rfl (Nat.le_of_ble_eq_true rfl) dX1_tested_206 ⟨Nat.zero_le _, Nat.zero_le _⟩ (fun r_206 q_206 => ?_)
          refine lv_lconst (v := 0) hx hb dX1_tested_209 (by decide) ?_
          refine ps_goi (As := [.int op, .long r_206, .long 0]) (rest := []) ⟨hx, hb, hml, hown, hts⟩ (kX1_is l op r_206 0) (va_cwS 3 hts gX1_tested_X1_is rfl rfl rfl (by decide +kernel) ⟨by decide, by decide⟩) rfl hl.1 rfl (Nat.le_of_ble_eq_true rfl) dX1_tested_210 ⟨Nat.zero_le _, Nat.zero_le _⟩ (fun r_210 q_210 => ?_)
          refine lv_if_eq (tgt := 221) hx hb dX1_tested_213 (by decide) (fun c_213 => ?_) (fun c_213 => ?_)
          · refine lv_iload hx hb dX1_tested_221 (lv_at hl 9 rfl) ?_
            exact mm_iret (mw := rW h a cA) (u1 := (f_190, u.2.1, u.2.2.1, u.2.2.2.1, u.2.2.2.2.1, u.2.2.2.2.2)) hx hb hr hlocks hP hK hD hS dX1_tested_223 ⟨⟨hI, rfl, rfl⟩, hnx⟩
          · refine lv_iload hx hb dX1_tested_216 (lv_at hl 2 rfl) ?_
            refine lv_goto (tgt := 223) hx hb dX1_tested_218 (by decide) ?_
            exact mm_iret (mw := rW h a cA) (u1 := (f_190, u.2.1, u.2.2.1, u.2.2.2.1, u.2.2.2.2.1, u.2.2.2.2.2)) hx hb hr hlocks hP hK hD hS dX1_tested_223 ⟨⟨hI, rfl, rfl⟩, (by rw [ex_16]; exact vp_and4095 _)⟩
        · refine lv_aload_n hx hb dX1_tested_195 rfl (lv_at hl 4 rfl) ?_
          refine va_get (D := D) (ci := 1) (v := .ref a) (C := RX1) (T := TX1) (N := 6) hx hb hts iw_X1_tested hown hK hP 0 rfl rfl 1 (by decide) (hts (.fieldLink RX1 7 "WordMillModel" "memory" "[J") (by decide +kernel)) (fun _ h9 => h9) rfl dX1_tested_196 ?_
          refine lv_iload_n hx hb dX1_tested_199 rfl (lv_at hl 6 rfl) ?_
          refine lv_lload hx hb dX1_tested_200 (lv_at hl 0 rfl) ?_
          refine va_last hx hb hK hP hD hS 1 0 rfl rfl hac dX1_tested_202 (fun H locs hP hD hS => ?_)
          have hP : va_P D vwCl (rW h a cA ((vp_updL f_190 (ac : Int32).toNatClampNeg x_180), u.2.1, u.2.2.1, u.2.2.2.1, u.2.2.2.2.1, u.2.2.2.2.2)) H := hP
          have hD : va_D (wA h a) (rW h a cA ((vp_updL f_190 (ac : Int32).toNatClampNeg x_180), u.2.1, u.2.2.1, u.2.2.2.1, u.2.2.2.2.1, u.2.2.2.2.2)) := hD
          generalize (vp_updL f_190 (ac : Int32).toNatClampNeg x_180) = f_202 at hP hD
          refine lv_iload_n hx hb dX1_tested_203 rfl (lv_at hl 5 rfl) ?_
          refine lv_lload hx hb dX1_tested_204 (lv_at hl 0 rfl) ?_
          refine ps_gol (As := [.long x_180]) (rest := [.int op]) ⟨hx, hb, hml, hown, hts⟩ (kX1_number l x_180) (va_cwS 1 hts gX1_tested_X1_number rfl rfl rfl (by decide +kernel) ⟨by decide, by decide⟩) rfl hl.1 rfl (Nat.le_of_ble_eq_true rfl) dX1_tested_206 ⟨Nat.zero_le _, Nat.zero_le _⟩ (fun r_206 q_206 => ?_)
          refine lv_lconst (v := 0) hx hb dX1_tested_209 (by decide) ?_
          refine ps_goi (As := [.int op, .long r_206, .long 0]) (rest := []) ⟨hx, hb, hml, hown, hts⟩ (kX1_is l op r_206 0) (va_cwS 3 hts gX1_tested_X1_is rfl rfl rfl (by decide +kernel) ⟨by decide, by decide⟩) rfl hl.1 rfl (Nat.le_of_ble_eq_true rfl) dX1_tested_210 ⟨Nat.zero_le _, Nat.zero_le _⟩ (fun r_210 q_210 => ?_)
          refine lv_if_eq (tgt := 221) hx hb dX1_tested_213 (by decide) (fun c_213 => ?_) (fun c_213 => ?_)
          · refine lv_iload hx hb dX1_tested_221 (lv_at hl 9 rfl) ?_
            exact mm_iret (mw := rW h a cA) (u1 := (f_202, u.2.1, u.2.2.1, u.2.2.2.1, u.2.2.2.2.1, u.2.2.2.2.2)) hx hb hr hlocks hP hK hD hS dX1_tested_223 ⟨⟨hI, rfl, rfl⟩, hnx⟩
          · refine lv_iload hx hb dX1_tested_216 (lv_at hl 2 rfl) ?_
            refine lv_goto (tgt := 223) hx hb dX1_tested_218 (by decide) ?_
            exact mm_iret (mw := rW h a cA) (u1 := (f_202, u.2.1, u.2.2.1, u.2.2.2.1, u.2.2.2.2.1, u.2.2.2.2.2)) hx hb hr hlocks hP hK hD hS dX1_tested_223 ⟨⟨hI, rfl, rfl⟩, (by rw [ex_16]; exact vp_and4095 _)⟩
    · refine lv_iconst (v := 1) hx hb dX1_tested_157 (by decide) ?_
      refine lv_goto (tgt := 174) hx hb dX1_tested_158 (by decide) ?_
      refine lv_i2l hx hb dX1_tested_174 rfl ?_
      refine lv_ladd hx hb dX1_tested_175 ?_
      refine lv_ldc2 (v := 68719476735) hx hb hown (hts (.constantLong RX1 27 68719476735) (by decide +kernel)) dX1_tested_176 ?_
      refine lv_land hx hb dX1_tested_179 ?_
      refine lv_topl (fun x_180 ex_180 => ?_)
      refine lv_lstore (lv' := [(12, .long x_180), (11, .int x_24), (10, .int x_16), (8, .long x_6), (0, .ref h), (1, .int op), (2, .int ac), (3, .long e0), (5, .long m0), (7, .int nx)]) hx hb dX1_tested_180 hl (by decide) rfl (fun ls hl => ?_)
      refine lv_aload_n hx hb dX1_tested_182 rfl (lv_at hl 4 rfl) ?_
      refine va_get (D := D) (ci := 1) (v := .ref a) (C := RX1) (T := TX1) (N := 6) hx hb hts iw_X1_tested hown hK hP 0 rfl rfl 1 (by decide) (hts (.fieldLink RX1 7 "WordMillModel" "memory" "[J") (by decide +kernel)) (fun _ h9 => h9) rfl dX1_tested_183 ?_
      refine lv_lload_n hx hb dX1_tested_186 rfl (lv_at hl 7 rfl) ?_
      refine lv_l2i hx hb dX1_tested_187 rfl ?_
      refine lv_lload hx hb dX1_tested_188 (lv_at hl 0 rfl) ?_
      refine va_last hx hb hK hP hD hS 1 0 rfl rfl (pl_in (tst_e hop.1 hop.2 hne (Or.inl ex_32.symm))) dX1_tested_190 (fun H locs hP hD hS => ?_)
      have hP : va_P D vwCl (rW h a cA ((vp_updL u.1 ((e0 : Int64).toInt32 : Int32).toNatClampNeg x_180), u.2.1, u.2.2.1, u.2.2.2.1, u.2.2.2.2.1, u.2.2.2.2.2)) H := hP
      have hD : va_D (wA h a) (rW h a cA ((vp_updL u.1 ((e0 : Int64).toInt32 : Int32).toNatClampNeg x_180), u.2.1, u.2.2.1, u.2.2.2.1, u.2.2.2.2.1, u.2.2.2.2.2)) := hD
      generalize (vp_updL u.1 ((e0 : Int64).toInt32 : Int32).toNatClampNeg x_180) = f_190 at hP hD
      refine lv_iload_n hx hb dX1_tested_191 rfl (lv_at hl 6 rfl) ?_
      refine lv_if_eq (tgt := 203) hx hb dX1_tested_192 (by decide) (fun c_192 => ?_) (fun c_192 => ?_)
      · refine lv_iload_n hx hb dX1_tested_203 rfl (lv_at hl 5 rfl) ?_
        refine lv_lload hx hb dX1_tested_204 (lv_at hl 0 rfl) ?_
        refine ps_gol (As := [.long x_180]) (rest := [.int op]) ⟨hx, hb, hml, hown, hts⟩ (kX1_number l x_180) (va_cwS 1 hts gX1_tested_X1_number rfl rfl rfl (by decide +kernel) ⟨by decide, by decide⟩) rfl hl.1 rfl (Nat.le_of_ble_eq_true rfl) dX1_tested_206 ⟨Nat.zero_le _, Nat.zero_le _⟩ (fun r_206 q_206 => ?_)
        refine lv_lconst (v := 0) hx hb dX1_tested_209 (by decide) ?_
        refine ps_goi (As := [.int op, .long r_206, .long 0]) (rest := []) ⟨hx, hb, hml, hown, hts⟩ (kX1_is l op r_206 0) (va_cwS 3 hts gX1_tested_X1_is rfl rfl rfl (by decide +kernel) ⟨by decide, by decide⟩) rfl hl.1 rfl (Nat.le_of_ble_eq_true rfl) dX1_tested_210 ⟨Nat.zero_le _, Nat.zero_le _⟩ (fun r_210 q_210 => ?_)
        refine lv_if_eq (tgt := 221) hx hb dX1_tested_213 (by decide) (fun c_213 => ?_) (fun c_213 => ?_)
        · refine lv_iload hx hb dX1_tested_221 (lv_at hl 9 rfl) ?_
          exact mm_iret (mw := rW h a cA) (u1 := (f_190, u.2.1, u.2.2.1, u.2.2.2.1, u.2.2.2.2.1, u.2.2.2.2.2)) hx hb hr hlocks hP hK hD hS dX1_tested_223 ⟨⟨hI, rfl, rfl⟩, hnx⟩
        · refine lv_iload hx hb dX1_tested_216 (lv_at hl 2 rfl) ?_
          refine lv_goto (tgt := 223) hx hb dX1_tested_218 (by decide) ?_
          exact mm_iret (mw := rW h a cA) (u1 := (f_190, u.2.1, u.2.2.1, u.2.2.2.1, u.2.2.2.2.1, u.2.2.2.2.2)) hx hb hr hlocks hP hK hD hS dX1_tested_223 ⟨⟨hI, rfl, rfl⟩, (by rw [ex_16]; exact vp_and4095 _)⟩
      · refine lv_aload_n hx hb dX1_tested_195 rfl (lv_at hl 4 rfl) ?_
        refine va_get (D := D) (ci := 1) (v := .ref a) (C := RX1) (T := TX1) (N := 6) hx hb hts iw_X1_tested hown hK hP 0 rfl rfl 1 (by decide) (hts (.fieldLink RX1 7 "WordMillModel" "memory" "[J") (by decide +kernel)) (fun _ h9 => h9) rfl dX1_tested_196 ?_
        refine lv_iload_n hx hb dX1_tested_199 rfl (lv_at hl 6 rfl) ?_
        refine lv_lload hx hb dX1_tested_200 (lv_at hl 0 rfl) ?_
        refine va_last hx hb hK hP hD hS 1 0 rfl rfl hac dX1_tested_202 (fun H locs hP hD hS => ?_)
        have hP : va_P D vwCl (rW h a cA ((vp_updL f_190 (ac : Int32).toNatClampNeg x_180), u.2.1, u.2.2.1, u.2.2.2.1, u.2.2.2.2.1, u.2.2.2.2.2)) H := hP
        have hD : va_D (wA h a) (rW h a cA ((vp_updL f_190 (ac : Int32).toNatClampNeg x_180), u.2.1, u.2.2.1, u.2.2.2.1, u.2.2.2.2.1, u.2.2.2.2.2)) := hD
        generalize (vp_updL f_190 (ac : Int32).toNatClampNeg x_180) = f_202 at hP hD
        refine lv_iload_n hx hb dX1_tested_203 rfl (lv_at hl 5 rfl) ?_
        refine lv_lload hx hb dX1_tested_204 (lv_at hl 0 rfl) ?_
        refine ps_gol (As := [.long x_180]) (rest := [.int op]) ⟨hx, hb, hml, hown, hts⟩ (kX1_number l x_180) (va_cwS 1 hts gX1_tested_X1_number rfl rfl rfl (by decide +kernel) ⟨by decide, by decide⟩) rfl hl.1 rfl (Nat.le_of_ble_eq_true rfl) dX1_tested_206 ⟨Nat.zero_le _, Nat.zero_le _⟩ (fun r_206 q_206 => ?_)
        refine lv_lconst (v := 0) hx hb dX1_tested_209 (by decide) ?_
        refine ps_goi (As := [.int op, .long r_206, .long 0]) (rest := []) ⟨hx, hb, hml, hown, hts⟩ (kX1_is l op r_206 0) (va_cwS 3 hts gX1_tested_X1_is rfl rfl rfl (by decide +kernel) ⟨by decide, by decide⟩) rfl hl.1 rfl (Nat.le_of_ble_eq_true rfl) dX1_tested_210 ⟨Nat.zero_le _, Nat.zero_le _⟩ (fun r_210 q_210 => ?_)
        refine lv_if_eq (tgt := 221) hx hb dX1_tested_213 (by decide) (fun c_213 => ?_) (fun c_213 => ?_)
        · refine lv_iload hx hb dX1_tested_221 (lv_at hl 9 rfl) ?_
          exact mm_iret (mw := rW h a cA) (u1 := (f_202, u.2.1, u.2.2.1, u.2.2.2.1, u.2.2.2.2.1, u.2.2.2.2.2)) hx hb hr hlocks hP hK hD hS dX1_tested_223 ⟨⟨hI, rfl, rfl⟩, hnx⟩
        · refine lv_iload hx hb dX1_tested_216 (lv_at hl 2 rfl) ?_
          refine lv_goto (tgt := 223) hx hb dX1_tested_218 (by decide) ?_
          exact mm_iret (mw := rW h a cA) (u1 := (f_202, u.2.1, u.2.2.1, u.2.2.2.1, u.2.2.2.2.1, u.2.2.2.2.2)) hx hb hr hlocks hP hK hD hS dX1_tested_223 ⟨⟨hI, rfl, rfl⟩, (by rw [ex_16]; exact vp_and4095 _)⟩
  by_cases k_4 : x_32 = 4
  · subst k_4
    refine lv_tableIn (tgt := 224) hx hb dX1_tested_32 (by decide) (by decide) rfl (by decide) ?_
    refine lv_lload hx hb dX1_tested_224 (lv_at hl 2 rfl) ?_
    refine lv_iload_n hx hb dX1_tested_226 rfl (lv_at hl 4 rfl) ?_
    refine lv_iconst (v := 3) hx hb dX1_tested_227 (by decide) ?_
    refine lv_ishr hx hb dX1_tested_228 ?_
    refine lv_bipush (v := 28) hx hb dX1_tested_229 (by decide) ?_
    refine lv_icmp_ne (tgt := 238) hx hb dX1_tested_231 (by decide) (fun c_231 => ?_) (fun c_231 => ?_)
    · refine lv_iconst (v := -1) hx hb dX1_tested_238 (by decide) ?_
      refine lv_i2l hx hb dX1_tested_239 rfl ?_
      refine lv_ladd hx hb dX1_tested_240 ?_
      refine lv_ldc2 (v := 68719476735) hx hb hown (hts (.constantLong RX1 27 68719476735) (by decide +kernel)) dX1_tested_241 ?_
      refine lv_land hx hb dX1_tested_244 ?_
      refine lv_topl (fun x_245 ex_245 => ?_)
      refine lv_lstore (lv' := [(12, .long x_245), (11, .int x_24), (10, .int x_16), (8, .long x_6), (0, .ref h), (1, .int op), (2, .int ac), (3, .long e0), (5, .long m0), (7, .int nx)]) hx hb dX1_tested_245 hl (by decide) rfl (fun ls hl => ?_)
      refine lv_aload_n hx hb dX1_tested_247 rfl (lv_at hl 4 rfl) ?_
      refine va_get (D := D) (ci := 1) (v := .ref a) (C := RX1) (T := TX1) (N := 6) hx hb hts iw_X1_tested hown hK hP 0 rfl rfl 1 (by decide) (hts (.fieldLink RX1 7 "WordMillModel" "memory" "[J") (by decide +kernel)) (fun _ h9 => h9) rfl dX1_tested_248 ?_
      refine lv_iload_n hx hb dX1_tested_251 rfl (lv_at hl 6 rfl) ?_
      refine lv_lload hx hb dX1_tested_252 (lv_at hl 0 rfl) ?_
      refine va_last hx hb hK hP hD hS 1 0 rfl rfl hac dX1_tested_254 (fun H locs hP hD hS => ?_)
      have hP : va_P D vwCl (rW h a cA ((vp_updL u.1 (ac : Int32).toNatClampNeg x_245), u.2.1, u.2.2.1, u.2.2.2.1, u.2.2.2.2.1, u.2.2.2.2.2)) H := hP
      have hD : va_D (wA h a) (rW h a cA ((vp_updL u.1 (ac : Int32).toNatClampNeg x_245), u.2.1, u.2.2.1, u.2.2.2.1, u.2.2.2.2.1, u.2.2.2.2.2)) := hD
      generalize (vp_updL u.1 (ac : Int32).toNatClampNeg x_245) = f_254 at hP hD
      refine lv_iload_n hx hb dX1_tested_255 rfl (lv_at hl 5 rfl) ?_
      refine lv_lload hx hb dX1_tested_256 (lv_at hl 0 rfl) ?_
      refine ps_gol (As := [.long x_245]) (rest := [.int op]) ⟨hx, hb, hml, hown, hts⟩ (kX1_number l x_245) (va_cwS 1 hts gX1_tested_X1_number rfl rfl rfl (by decide +kernel) ⟨by decide, by decide⟩) rfl hl.1 rfl (Nat.le_of_ble_eq_true rfl) dX1_tested_258 ⟨Nat.zero_le _, Nat.zero_le _⟩ (fun r_258 q_258 => ?_)
      refine lv_lconst (v := 0) hx hb dX1_tested_261 (by decide) ?_
      refine ps_goi (As := [.int op, .long r_258, .long 0]) (rest := []) ⟨hx, hb, hml, hown, hts⟩ (kX1_is l op r_258 0) (va_cwS 3 hts gX1_tested_X1_is rfl rfl rfl (by decide +kernel) ⟨by decide, by decide⟩) rfl hl.1 rfl (Nat.le_of_ble_eq_true rfl) dX1_tested_262 ⟨Nat.zero_le _, Nat.zero_le _⟩ (fun r_262 q_262 => ?_)
      refine lv_if_eq (tgt := 273) hx hb dX1_tested_265 (by decide) (fun c_265 => ?_) (fun c_265 => ?_)
      · refine lv_iload hx hb dX1_tested_273 (lv_at hl 9 rfl) ?_
        exact mm_iret (mw := rW h a cA) (u1 := (f_254, u.2.1, u.2.2.1, u.2.2.2.1, u.2.2.2.2.1, u.2.2.2.2.2)) hx hb hr hlocks hP hK hD hS dX1_tested_275 ⟨⟨hI, rfl, rfl⟩, hnx⟩
      · refine lv_iload hx hb dX1_tested_268 (lv_at hl 1 rfl) ?_
        refine lv_goto (tgt := 275) hx hb dX1_tested_270 (by decide) ?_
        exact mm_iret (mw := rW h a cA) (u1 := (f_254, u.2.1, u.2.2.1, u.2.2.2.1, u.2.2.2.2.1, u.2.2.2.2.2)) hx hb hr hlocks hP hK hD hS dX1_tested_275 ⟨⟨hI, rfl, rfl⟩, (by rw [ex_24]; exact la4095 _)⟩
    · refine lv_iconst (v := 1) hx hb dX1_tested_234 (by decide) ?_
      refine lv_goto (tgt := 239) hx hb dX1_tested_235 (by decide) ?_
      refine lv_i2l hx hb dX1_tested_239 rfl ?_
      refine lv_ladd hx hb dX1_tested_240 ?_
      refine lv_ldc2 (v := 68719476735) hx hb hown (hts (.constantLong RX1 27 68719476735) (by decide +kernel)) dX1_tested_241 ?_
      refine lv_land hx hb dX1_tested_244 ?_
      refine lv_topl (fun x_245 ex_245 => ?_)
      refine lv_lstore (lv' := [(12, .long x_245), (11, .int x_24), (10, .int x_16), (8, .long x_6), (0, .ref h), (1, .int op), (2, .int ac), (3, .long e0), (5, .long m0), (7, .int nx)]) hx hb dX1_tested_245 hl (by decide) rfl (fun ls hl => ?_)
      refine lv_aload_n hx hb dX1_tested_247 rfl (lv_at hl 4 rfl) ?_
      refine va_get (D := D) (ci := 1) (v := .ref a) (C := RX1) (T := TX1) (N := 6) hx hb hts iw_X1_tested hown hK hP 0 rfl rfl 1 (by decide) (hts (.fieldLink RX1 7 "WordMillModel" "memory" "[J") (by decide +kernel)) (fun _ h9 => h9) rfl dX1_tested_248 ?_
      refine lv_iload_n hx hb dX1_tested_251 rfl (lv_at hl 6 rfl) ?_
      refine lv_lload hx hb dX1_tested_252 (lv_at hl 0 rfl) ?_
      refine va_last hx hb hK hP hD hS 1 0 rfl rfl hac dX1_tested_254 (fun H locs hP hD hS => ?_)
      have hP : va_P D vwCl (rW h a cA ((vp_updL u.1 (ac : Int32).toNatClampNeg x_245), u.2.1, u.2.2.1, u.2.2.2.1, u.2.2.2.2.1, u.2.2.2.2.2)) H := hP
      have hD : va_D (wA h a) (rW h a cA ((vp_updL u.1 (ac : Int32).toNatClampNeg x_245), u.2.1, u.2.2.1, u.2.2.2.1, u.2.2.2.2.1, u.2.2.2.2.2)) := hD
      generalize (vp_updL u.1 (ac : Int32).toNatClampNeg x_245) = f_254 at hP hD
      refine lv_iload_n hx hb dX1_tested_255 rfl (lv_at hl 5 rfl) ?_
      refine lv_lload hx hb dX1_tested_256 (lv_at hl 0 rfl) ?_
      refine ps_gol (As := [.long x_245]) (rest := [.int op]) ⟨hx, hb, hml, hown, hts⟩ (kX1_number l x_245) (va_cwS 1 hts gX1_tested_X1_number rfl rfl rfl (by decide +kernel) ⟨by decide, by decide⟩) rfl hl.1 rfl (Nat.le_of_ble_eq_true rfl) dX1_tested_258 ⟨Nat.zero_le _, Nat.zero_le _⟩ (fun r_258 q_258 => ?_)
      refine lv_lconst (v := 0) hx hb dX1_tested_261 (by decide) ?_
      refine ps_goi (As := [.int op, .long r_258, .long 0]) (rest := []) ⟨hx, hb, hml, hown, hts⟩ (kX1_is l op r_258 0) (va_cwS 3 hts gX1_tested_X1_is rfl rfl rfl (by decide +kernel) ⟨by decide, by decide⟩) rfl hl.1 rfl (Nat.le_of_ble_eq_true rfl) dX1_tested_262 ⟨Nat.zero_le _, Nat.zero_le _⟩ (fun r_262 q_262 => ?_)
      refine lv_if_eq (tgt := 273) hx hb dX1_tested_265 (by decide) (fun c_265 => ?_) (fun c_265 => ?_)
      · refine lv_iload hx hb dX1_tested_273 (lv_at hl 9 rfl) ?_
        exact mm_iret (mw := rW h a cA) (u1 := (f_254, u.2.1, u.2.2.1, u.2.2.2.1, u.2.2.2.2.1, u.2.2.2.2.2)) hx hb hr hlocks hP hK hD hS dX1_tested_275 ⟨⟨hI, rfl, rfl⟩, hnx⟩
      · refine lv_iload hx hb dX1_tested_268 (lv_at hl 1 rfl) ?_
        refine lv_goto (tgt := 275) hx hb dX1_tested_270 (by decide) ?_
        exact mm_iret (mw := rW h a cA) (u1 := (f_254, u.2.1, u.2.2.1, u.2.2.2.1, u.2.2.2.2.1, u.2.2.2.2.2)) hx hb hr hlocks hP hK hD hS dX1_tested_275 ⟨⟨hI, rfl, rfl⟩, (by rw [ex_24]; exact la4095 _)⟩
  by_cases k_5 : x_32 = 5
  · subst k_5
    refine lv_tableIn (tgt := 147) hx hb dX1_tested_32 (by decide) (by decide) rfl (by decide) ?_
    refine lv_lload hx hb dX1_tested_147 (lv_at hl 7 rfl) ?_
    refine lv_iload_n hx hb dX1_tested_149 rfl (lv_at hl 4 rfl) ?_
    refine lv_iconst (v := 3) hx hb dX1_tested_150 (by decide) ?_
    refine lv_ishr hx hb dX1_tested_151 ?_
    refine lv_bipush (v := 29) hx hb dX1_tested_152 (by decide) ?_
    refine lv_icmp_ne (tgt := 161) hx hb dX1_tested_154 (by decide) (fun c_154 => ?_) (fun c_154 => ?_)
    · refine lv_iload_n hx hb dX1_tested_161 rfl (lv_at hl 4 rfl) ?_
      refine lv_iconst (v := 3) hx hb dX1_tested_162 (by decide) ?_
      refine lv_ishr hx hb dX1_tested_163 ?_
      refine lv_bipush (v := 31) hx hb dX1_tested_164 (by decide) ?_
      refine lv_icmp_ne (tgt := 173) hx hb dX1_tested_166 (by decide) (fun c_166 => ?_) (fun c_166 => ?_)
      · refine lv_iconst (v := 0) hx hb dX1_tested_173 (by decide) ?_
        refine lv_i2l hx hb dX1_tested_174 rfl ?_
        refine lv_ladd hx hb dX1_tested_175 ?_
        refine lv_ldc2 (v := 68719476735) hx hb hown (hts (.constantLong RX1 27 68719476735) (by decide +kernel)) dX1_tested_176 ?_
        refine lv_land hx hb dX1_tested_179 ?_
        refine lv_topl (fun x_180 ex_180 => ?_)
        refine lv_lstore (lv' := [(12, .long x_180), (11, .int x_24), (10, .int x_16), (8, .long x_6), (0, .ref h), (1, .int op), (2, .int ac), (3, .long e0), (5, .long m0), (7, .int nx)]) hx hb dX1_tested_180 hl (by decide) rfl (fun ls hl => ?_)
        refine lv_aload_n hx hb dX1_tested_182 rfl (lv_at hl 4 rfl) ?_
        refine va_get (D := D) (ci := 1) (v := .ref a) (C := RX1) (T := TX1) (N := 6) hx hb hts iw_X1_tested hown hK hP 0 rfl rfl 1 (by decide) (hts (.fieldLink RX1 7 "WordMillModel" "memory" "[J") (by decide +kernel)) (fun _ h9 => h9) rfl dX1_tested_183 ?_
        refine lv_lload_n hx hb dX1_tested_186 rfl (lv_at hl 7 rfl) ?_
        refine lv_l2i hx hb dX1_tested_187 rfl ?_
        refine lv_lload hx hb dX1_tested_188 (lv_at hl 0 rfl) ?_
        refine va_last hx hb hK hP hD hS 1 0 rfl rfl (pl_in (tst_e hop.1 hop.2 hne (Or.inr (Or.inl ex_32.symm)))) dX1_tested_190 (fun H locs hP hD hS => ?_)
        have hP : va_P D vwCl (rW h a cA ((vp_updL u.1 ((e0 : Int64).toInt32 : Int32).toNatClampNeg x_180), u.2.1, u.2.2.1, u.2.2.2.1, u.2.2.2.2.1, u.2.2.2.2.2)) H := hP
        have hD : va_D (wA h a) (rW h a cA ((vp_updL u.1 ((e0 : Int64).toInt32 : Int32).toNatClampNeg x_180), u.2.1, u.2.2.1, u.2.2.2.1, u.2.2.2.2.1, u.2.2.2.2.2)) := hD
        generalize (vp_updL u.1 ((e0 : Int64).toInt32 : Int32).toNatClampNeg x_180) = f_190 at hP hD
        refine lv_iload_n hx hb dX1_tested_191 rfl (lv_at hl 6 rfl) ?_
        refine lv_if_eq (tgt := 203) hx hb dX1_tested_192 (by decide) (fun c_192 => ?_) (fun c_192 => ?_)
        · refine lv_iload_n hx hb dX1_tested_203 rfl (lv_at hl 5 rfl) ?_
          refine lv_lload hx hb dX1_tested_204 (lv_at hl 0 rfl) ?_
          refine ps_gol (As := [.long x_180]) (rest := [.int op]) ⟨hx, hb, hml, hown, hts⟩ (kX1_number l x_180) (va_cwS 1 hts gX1_tested_X1_number rfl rfl rfl (by decide +kernel) ⟨by decide, by decide⟩) rfl hl.1 rfl (Nat.le_of_ble_eq_true rfl) dX1_tested_206 ⟨Nat.zero_le _, Nat.zero_le _⟩ (fun r_206 q_206 => ?_)
          refine lv_lconst (v := 0) hx hb dX1_tested_209 (by decide) ?_
          refine ps_goi (As := [.int op, .long r_206, .long 0]) (rest := []) ⟨hx, hb, hml, hown, hts⟩ (kX1_is l op r_206 0) (va_cwS 3 hts gX1_tested_X1_is rfl rfl rfl (by decide +kernel) ⟨by decide, by decide⟩) rfl hl.1 rfl (Nat.le_of_ble_eq_true rfl) dX1_tested_210 ⟨Nat.zero_le _, Nat.zero_le _⟩ (fun r_210 q_210 => ?_)
          refine lv_if_eq (tgt := 221) hx hb dX1_tested_213 (by decide) (fun c_213 => ?_) (fun c_213 => ?_)
          · refine lv_iload hx hb dX1_tested_221 (lv_at hl 9 rfl) ?_
            exact mm_iret (mw := rW h a cA) (u1 := (f_190, u.2.1, u.2.2.1, u.2.2.2.1, u.2.2.2.2.1, u.2.2.2.2.2)) hx hb hr hlocks hP hK hD hS dX1_tested_223 ⟨⟨hI, rfl, rfl⟩, hnx⟩
          · refine lv_iload hx hb dX1_tested_216 (lv_at hl 2 rfl) ?_
            refine lv_goto (tgt := 223) hx hb dX1_tested_218 (by decide) ?_
            exact mm_iret (mw := rW h a cA) (u1 := (f_190, u.2.1, u.2.2.1, u.2.2.2.1, u.2.2.2.2.1, u.2.2.2.2.2)) hx hb hr hlocks hP hK hD hS dX1_tested_223 ⟨⟨hI, rfl, rfl⟩, (by rw [ex_16]; exact vp_and4095 _)⟩
        · refine lv_aload_n hx hb dX1_tested_195 rfl (lv_at hl 4 rfl) ?_
          refine va_get (D := D) (ci := 1) (v := .ref a) (C := RX1) (T := TX1) (N := 6) hx hb hts iw_X1_tested hown hK hP 0 rfl rfl 1 (by decide) (hts (.fieldLink RX1 7 "WordMillModel" "memory" "[J") (by decide +kernel)) (fun _ h9 => h9) rfl dX1_tested_196 ?_
          refine lv_iload_n hx hb dX1_tested_199 rfl (lv_at hl 6 rfl) ?_
          refine lv_lload hx hb dX1_tested_200 (lv_at hl 0 rfl) ?_
          refine va_last hx hb hK hP hD hS 1 0 rfl rfl hac dX1_tested_202 (fun H locs hP hD hS => ?_)
          have hP : va_P D vwCl (rW h a cA ((vp_updL f_190 (ac : Int32).toNatClampNeg x_180), u.2.1, u.2.2.1, u.2.2.2.1, u.2.2.2.2.1, u.2.2.2.2.2)) H := hP
          have hD : va_D (wA h a) (rW h a cA ((vp_updL f_190 (ac : Int32).toNatClampNeg x_180), u.2.1, u.2.2.1, u.2.2.2.1, u.2.2.2.2.1, u.2.2.2.2.2)) := hD
          generalize (vp_updL f_190 (ac : Int32).toNatClampNeg x_180) = f_202 at hP hD
          refine lv_iload_n hx hb dX1_tested_203 rfl (lv_at hl 5 rfl) ?_
          refine lv_lload hx hb dX1_tested_204 (lv_at hl 0 rfl) ?_
          refine ps_gol (As := [.long x_180]) (rest := [.int op]) ⟨hx, hb, hml, hown, hts⟩ (kX1_number l x_180) (va_cwS 1 hts gX1_tested_X1_number rfl rfl rfl (by decide +kernel) ⟨by decide, by decide⟩) rfl hl.1 rfl (Nat.le_of_ble_eq_true rfl) dX1_tested_206 ⟨Nat.zero_le _, Nat.zero_le _⟩ (fun r_206 q_206 => ?_)
          refine lv_lconst (v := 0) hx hb dX1_tested_209 (by decide) ?_
          refine ps_goi (As := [.int op, .long r_206, .long 0]) (rest := []) ⟨hx, hb, hml, hown, hts⟩ (kX1_is l op r_206 0) (va_cwS 3 hts gX1_tested_X1_is rfl rfl rfl (by decide +kernel) ⟨by decide, by decide⟩) rfl hl.1 rfl (Nat.le_of_ble_eq_true rfl) dX1_tested_210 ⟨Nat.zero_le _, Nat.zero_le _⟩ (fun r_210 q_210 => ?_)
          refine lv_if_eq (tgt := 221) hx hb dX1_tested_213 (by decide) (fun c_213 => ?_) (fun c_213 => ?_)
          · refine lv_iload hx hb dX1_tested_221 (lv_at hl 9 rfl) ?_
            exact mm_iret (mw := rW h a cA) (u1 := (f_202, u.2.1, u.2.2.1, u.2.2.2.1, u.2.2.2.2.1, u.2.2.2.2.2)) hx hb hr hlocks hP hK hD hS dX1_tested_223 ⟨⟨hI, rfl, rfl⟩, hnx⟩
          · refine lv_iload hx hb dX1_tested_216 (lv_at hl 2 rfl) ?_
            refine lv_goto (tgt := 223) hx hb dX1_tested_218 (by decide) ?_
            exact mm_iret (mw := rW h a cA) (u1 := (f_202, u.2.1, u.2.2.1, u.2.2.2.1, u.2.2.2.2.1, u.2.2.2.2.2)) hx hb hr hlocks hP hK hD hS dX1_tested_223 ⟨⟨hI, rfl, rfl⟩, (by rw [ex_16]; exact vp_and4095 _)⟩
      · refine lv_iconst (v := -1) hx hb dX1_tested_169 (by decide) ?_
        refine lv_goto (tgt := 174) hx hb dX1_tested_170 (by decide) ?_
        refine lv_i2l hx hb dX1_tested_174 rfl ?_
        refine lv_ladd hx hb dX1_tested_175 ?_
        refine lv_ldc2 (v := 68719476735) hx hb hown (hts (.constantLong RX1 27 68719476735) (by decide +kernel)) dX1_tested_176 ?_
        refine lv_land hx hb dX1_tested_179 ?_
        refine lv_topl (fun x_180 ex_180 => ?_)
        refine lv_lstore (lv' := [(12, .long x_180), (11, .int x_24), (10, .int x_16), (8, .long x_6), (0, .ref h), (1, .int op), (2, .int ac), (3, .long e0), (5, .long m0), (7, .int nx)]) hx hb dX1_tested_180 hl (by decide) rfl (fun ls hl => ?_)
        refine lv_aload_n hx hb dX1_tested_182 rfl (lv_at hl 4 rfl) ?_
        refine va_get (D := D) (ci := 1) (v := .ref a) (C := RX1) (T := TX1) (N := 6) hx hb hts iw_X1_tested hown hK hP 0 rfl rfl 1 (by decide) (hts (.fieldLink RX1 7 "WordMillModel" "memory" "[J") (by decide +kernel)) (fun _ h9 => h9) rfl dX1_tested_183 ?_
        refine lv_lload_n hx hb dX1_tested_186 rfl (lv_at hl 7 rfl) ?_
        refine lv_l2i hx hb dX1_tested_187 rfl ?_
        refine lv_lload hx hb dX1_tested_188 (lv_at hl 0 rfl) ?_
        refine va_last hx hb hK hP hD hS 1 0 rfl rfl (pl_in (tst_e hop.1 hop.2 hne (Or.inr (Or.inl ex_32.symm)))) dX1_tested_190 (fun H locs hP hD hS => ?_)
        have hP : va_P D vwCl (rW h a cA ((vp_updL u.1 ((e0 : Int64).toInt32 : Int32).toNatClampNeg x_180), u.2.1, u.2.2.1, u.2.2.2.1, u.2.2.2.2.1, u.2.2.2.2.2)) H := hP
        have hD : va_D (wA h a) (rW h a cA ((vp_updL u.1 ((e0 : Int64).toInt32 : Int32).toNatClampNeg x_180), u.2.1, u.2.2.1, u.2.2.2.1, u.2.2.2.2.1, u.2.2.2.2.2)) := hD
        generalize (vp_updL u.1 ((e0 : Int64).toInt32 : Int32).toNatClampNeg x_180) = f_190 at hP hD
        refine lv_iload_n hx hb dX1_tested_191 rfl (lv_at hl 6 rfl) ?_
        refine lv_if_eq (tgt := 203) hx hb dX1_tested_192 (by decide) (fun c_192 => ?_) (fun c_192 => ?_)
        · refine lv_iload_n hx hb dX1_tested_203 rfl (lv_at hl 5 rfl) ?_
          refine lv_lload hx hb dX1_tested_204 (lv_at hl 0 rfl) ?_
          refine ps_gol (As := [.long x_180]) (rest := [.int op]) ⟨hx, hb, hml, hown, hts⟩ (kX1_number l x_180) (va_cwS 1 hts gX1_tested_X1_number rfl rfl rfl (by decide +kernel) ⟨by decide, by decide⟩) rfl hl.1 rfl (Nat.le_of_ble_eq_true rfl) dX1_tested_206 ⟨Nat.zero_le _, Nat.zero_le _⟩ (fun r_206 q_206 => ?_)
          refine lv_lconst (v := 0) hx hb dX1_tested_209 (by decide) ?_
          refine ps_goi (As := [.int op, .long r_206, .long 0]) (rest := []) ⟨hx, hb, hml, hown, hts⟩ (kX1_is l op r_206 0) (va_cwS 3 hts gX1_tested_X1_is rfl rfl rfl (by decide +kernel) ⟨by decide, by decide⟩) rfl hl.1 rfl (Nat.le_of_ble_eq_true rfl) dX1_tested_210 ⟨Nat.zero_le _, Nat.zero_le _⟩ (fun r_210 q_210 => ?_)
          refine lv_if_eq (tgt := 221) hx hb dX1_tested_213 (by decide) (fun c_213 => ?_) (fun c_213 => ?_)
          · refine lv_iload hx hb dX1_tested_221 (lv_at hl 9 rfl) ?_
            exact mm_iret (mw := rW h a cA) (u1 := (f_190, u.2.1, u.2.2.1, u.2.2.2.1, u.2.2.2.2.1, u.2.2.2.2.2)) hx hb hr hlocks hP hK hD hS dX1_tested_223 ⟨⟨hI, rfl, rfl⟩, hnx⟩
          · refine lv_iload hx hb dX1_tested_216 (lv_at hl 2 rfl) ?_
            refine lv_goto (tgt := 223) hx hb dX1_tested_218 (by decide) ?_
            exact mm_iret (mw := rW h a cA) (u1 := (f_190, u.2.1, u.2.2.1, u.2.2.2.1, u.2.2.2.2.1, u.2.2.2.2.2)) hx hb hr hlocks hP hK hD hS dX1_tested_223 ⟨⟨hI, rfl, rfl⟩, (by rw [ex_16]; exact vp_and4095 _)⟩
        · refine lv_aload_n hx hb dX1_tested_195 rfl (lv_at hl 4 rfl) ?_
          refine va_get (D := D) (ci := 1) (v := .ref a) (C := RX1) (T := TX1) (N := 6) hx hb hts iw_X1_tested hown hK hP 0 rfl rfl 1 (by decide) (hts (.fieldLink RX1 7 "WordMillModel" "memory" "[J") (by decide +kernel)) (fun _ h9 => h9) rfl dX1_tested_196 ?_
          refine lv_iload_n hx hb dX1_tested_199 rfl (lv_at hl 6 rfl) ?_
          refine lv_lload hx hb dX1_tested_200 (lv_at hl 0 rfl) ?_
          refine va_last hx hb hK hP hD hS 1 0 rfl rfl hac dX1_tested_202 (fun H locs hP hD hS => ?_)
          have hP : va_P D vwCl (rW h a cA ((vp_updL f_190 (ac : Int32).toNatClampNeg x_180), u.2.1, u.2.2.1, u.2.2.2.1, u.2.2.2.2.1, u.2.2.2.2.2)) H := hP
          have hD : va_D (wA h a) (rW h a cA ((vp_updL f_190 (ac : Int32).toNatClampNeg x_180), u.2.1, u.2.2.1, u.2.2.2.1, u.2.2.2.2.1, u.2.2.2.2.2)) := hD
          generalize (vp_updL f_190 (ac : Int32).toNatClampNeg x_180) = f_202 at hP hD
          refine lv_iload_n hx hb dX1_tested_203 rfl (lv_at hl 5 rfl) ?_
          refine lv_lload hx hb dX1_tested_204 (lv_at hl 0 rfl) ?_
          refine ps_gol (As := [.long x_180]) (rest := [.int op]) ⟨hx, hb, hml, hown, hts⟩ (kX1_number l x_180) (va_cwS 1 hts gX1_tested_X1_number rfl rfl rfl (by decide +kernel) ⟨by decide, by decide⟩) rfl hl.1 rfl (Nat.le_of_ble_eq_true rfl) dX1_tested_206 ⟨Nat.zero_le _, Nat.zero_le _⟩ (fun r_206 q_206 => ?_)
          refine lv_lconst (v := 0) hx hb dX1_tested_209 (by decide) ?_
          refine ps_goi (As := [.int op, .long r_206, .long 0]) (rest := []) ⟨hx, hb, hml, hown, hts⟩ (kX1_is l op r_206 0) (va_cwS 3 hts gX1_tested_X1_is rfl rfl rfl (by decide +kernel) ⟨by decide, by decide⟩) rfl hl.1 rfl (Nat.le_of_ble_eq_true rfl) dX1_tested_210 ⟨Nat.zero_le _, Nat.zero_le _⟩ (fun r_210 q_210 => ?_)
          refine lv_if_eq (tgt := 221) hx hb dX1_tested_213 (by decide) (fun c_213 => ?_) (fun c_213 => ?_)
          · refine lv_iload hx hb dX1_tested_221 (lv_at hl 9 rfl) ?_
            exact mm_iret (mw := rW h a cA) (u1 := (f_202, u.2.1, u.2.2.1, u.2.2.2.1, u.2.2.2.2.1, u.2.2.2.2.2)) hx hb hr hlocks hP hK hD hS dX1_tested_223 ⟨⟨hI, rfl, rfl⟩, hnx⟩
          · refine lv_iload hx hb dX1_tested_216 (lv_at hl 2 rfl) ?_
            refine lv_goto (tgt := 223) hx hb dX1_tested_218 (by decide) ?_
            exact mm_iret (mw := rW h a cA) (u1 := (f_202, u.2.1, u.2.2.1, u.2.2.2.1, u.2.2.2.2.1, u.2.2.2.2.2)) hx hb hr hlocks hP hK hD hS dX1_tested_223 ⟨⟨hI, rfl, rfl⟩, (by rw [ex_16]; exact vp_and4095 _)⟩
    · refine lv_iconst (v := 1) hx hb dX1_tested_157 (by decide) ?_
      refine lv_goto (tgt := 174) hx hb dX1_tested_158 (by decide) ?_
      refine lv_i2l hx hb dX1_tested_174 rfl ?_
      refine lv_ladd hx hb dX1_tested_175 ?_
      refine lv_ldc2 (v := 68719476735) hx hb hown (hts (.constantLong RX1 27 68719476735) (by decide +kernel)) dX1_tested_176 ?_
      refine lv_land hx hb dX1_tested_179 ?_
      refine lv_topl (fun x_180 ex_180 => ?_)
      refine lv_lstore (lv' := [(12, .long x_180), (11, .int x_24), (10, .int x_16), (8, .long x_6), (0, .ref h), (1, .int op), (2, .int ac), (3, .long e0), (5, .long m0), (7, .int nx)]) hx hb dX1_tested_180 hl (by decide) rfl (fun ls hl => ?_)
      refine lv_aload_n hx hb dX1_tested_182 rfl (lv_at hl 4 rfl) ?_
      refine va_get (D := D) (ci := 1) (v := .ref a) (C := RX1) (T := TX1) (N := 6) hx hb hts iw_X1_tested hown hK hP 0 rfl rfl 1 (by decide) (hts (.fieldLink RX1 7 "WordMillModel" "memory" "[J") (by decide +kernel)) (fun _ h9 => h9) rfl dX1_tested_183 ?_
      refine lv_lload_n hx hb dX1_tested_186 rfl (lv_at hl 7 rfl) ?_
      refine lv_l2i hx hb dX1_tested_187 rfl ?_
      refine lv_lload hx hb dX1_tested_188 (lv_at hl 0 rfl) ?_
      refine va_last hx hb hK hP hD hS 1 0 rfl rfl (pl_in (tst_e hop.1 hop.2 hne (Or.inr (Or.inl ex_32.symm)))) dX1_tested_190 (fun H locs hP hD hS => ?_)
      have hP : va_P D vwCl (rW h a cA ((vp_updL u.1 ((e0 : Int64).toInt32 : Int32).toNatClampNeg x_180), u.2.1, u.2.2.1, u.2.2.2.1, u.2.2.2.2.1, u.2.2.2.2.2)) H := hP
      have hD : va_D (wA h a) (rW h a cA ((vp_updL u.1 ((e0 : Int64).toInt32 : Int32).toNatClampNeg x_180), u.2.1, u.2.2.1, u.2.2.2.1, u.2.2.2.2.1, u.2.2.2.2.2)) := hD
      generalize (vp_updL u.1 ((e0 : Int64).toInt32 : Int32).toNatClampNeg x_180) = f_190 at hP hD
      refine lv_iload_n hx hb dX1_tested_191 rfl (lv_at hl 6 rfl) ?_
      refine lv_if_eq (tgt := 203) hx hb dX1_tested_192 (by decide) (fun c_192 => ?_) (fun c_192 => ?_)
      · refine lv_iload_n hx hb dX1_tested_203 rfl (lv_at hl 5 rfl) ?_
        refine lv_lload hx hb dX1_tested_204 (lv_at hl 0 rfl) ?_
        refine ps_gol (As := [.long x_180]) (rest := [.int op]) ⟨hx, hb, hml, hown, hts⟩ (kX1_number l x_180) (va_cwS 1 hts gX1_tested_X1_number rfl rfl rfl (by decide +kernel) ⟨by decide, by decide⟩) rfl hl.1 rfl (Nat.le_of_ble_eq_true rfl) dX1_tested_206 ⟨Nat.zero_le _, Nat.zero_le _⟩ (fun r_206 q_206 => ?_)
        refine lv_lconst (v := 0) hx hb dX1_tested_209 (by decide) ?_
        refine ps_goi (As := [.int op, .long r_206, .long 0]) (rest := []) ⟨hx, hb, hml, hown, hts⟩ (kX1_is l op r_206 0) (va_cwS 3 hts gX1_tested_X1_is rfl rfl rfl (by decide +kernel) ⟨by decide, by decide⟩) rfl hl.1 rfl (Nat.le_of_ble_eq_true rfl) dX1_tested_210 ⟨Nat.zero_le _, Nat.zero_le _⟩ (fun r_210 q_210 => ?_)
        refine lv_if_eq (tgt := 221) hx hb dX1_tested_213 (by decide) (fun c_213 => ?_) (fun c_213 => ?_)
        · refine lv_iload hx hb dX1_tested_221 (lv_at hl 9 rfl) ?_
          exact mm_iret (mw := rW h a cA) (u1 := (f_190, u.2.1, u.2.2.1, u.2.2.2.1, u.2.2.2.2.1, u.2.2.2.2.2)) hx hb hr hlocks hP hK hD hS dX1_tested_223 ⟨⟨hI, rfl, rfl⟩, hnx⟩
        · refine lv_iload hx hb dX1_tested_216 (lv_at hl 2 rfl) ?_
          refine lv_goto (tgt := 223) hx hb dX1_tested_218 (by decide) ?_
          exact mm_iret (mw := rW h a cA) (u1 := (f_190, u.2.1, u.2.2.1, u.2.2.2.1, u.2.2.2.2.1, u.2.2.2.2.2)) hx hb hr hlocks hP hK hD hS dX1_tested_223 ⟨⟨hI, rfl, rfl⟩, (by rw [ex_16]; exact vp_and4095 _)⟩
      · refine lv_aload_n hx hb dX1_tested_195 rfl (lv_at hl 4 rfl) ?_
        refine va_get (D := D) (ci := 1) (v := .ref a) (C := RX1) (T := TX1) (N := 6) hx hb hts iw_X1_tested hown hK hP 0 rfl rfl 1 (by decide) (hts (.fieldLink RX1 7 "WordMillModel" "memory" "[J") (by decide +kernel)) (fun _ h9 => h9) rfl dX1_tested_196 ?_
        refine lv_iload_n hx hb dX1_tested_199 rfl (lv_at hl 6 rfl) ?_
        refine lv_lload hx hb dX1_tested_200 (lv_at hl 0 rfl) ?_
        refine va_last hx hb hK hP hD hS 1 0 rfl rfl hac dX1_tested_202 (fun H locs hP hD hS => ?_)
        have hP : va_P D vwCl (rW h a cA ((vp_updL f_190 (ac : Int32).toNatClampNeg x_180), u.2.1, u.2.2.1, u.2.2.2.1, u.2.2.2.2.1, u.2.2.2.2.2)) H := hP
        have hD : va_D (wA h a) (rW h a cA ((vp_updL f_190 (ac : Int32).toNatClampNeg x_180), u.2.1, u.2.2.1, u.2.2.2.1, u.2.2.2.2.1, u.2.2.2.2.2)) := hD
        generalize (vp_updL f_190 (ac : Int32).toNatClampNeg x_180) = f_202 at hP hD
        refine lv_iload_n hx hb dX1_tested_203 rfl (lv_at hl 5 rfl) ?_
        refine lv_lload hx hb dX1_tested_204 (lv_at hl 0 rfl) ?_
        refine ps_gol (As := [.long x_180]) (rest := [.int op]) ⟨hx, hb, hml, hown, hts⟩ (kX1_number l x_180) (va_cwS 1 hts gX1_tested_X1_number rfl rfl rfl (by decide +kernel) ⟨by decide, by decide⟩) rfl hl.1 rfl (Nat.le_of_ble_eq_true rfl) dX1_tested_206 ⟨Nat.zero_le _, Nat.zero_le _⟩ (fun r_206 q_206 => ?_)
        refine lv_lconst (v := 0) hx hb dX1_tested_209 (by decide) ?_
        refine ps_goi (As := [.int op, .long r_206, .long 0]) (rest := []) ⟨hx, hb, hml, hown, hts⟩ (kX1_is l op r_206 0) (va_cwS 3 hts gX1_tested_X1_is rfl rfl rfl (by decide +kernel) ⟨by decide, by decide⟩) rfl hl.1 rfl (Nat.le_of_ble_eq_true rfl) dX1_tested_210 ⟨Nat.zero_le _, Nat.zero_le _⟩ (fun r_210 q_210 => ?_)
        refine lv_if_eq (tgt := 221) hx hb dX1_tested_213 (by decide) (fun c_213 => ?_) (fun c_213 => ?_)
        · refine lv_iload hx hb dX1_tested_221 (lv_at hl 9 rfl) ?_
          exact mm_iret (mw := rW h a cA) (u1 := (f_202, u.2.1, u.2.2.1, u.2.2.2.1, u.2.2.2.2.1, u.2.2.2.2.2)) hx hb hr hlocks hP hK hD hS dX1_tested_223 ⟨⟨hI, rfl, rfl⟩, hnx⟩
        · refine lv_iload hx hb dX1_tested_216 (lv_at hl 2 rfl) ?_
          refine lv_goto (tgt := 223) hx hb dX1_tested_218 (by decide) ?_
          exact mm_iret (mw := rW h a cA) (u1 := (f_202, u.2.1, u.2.2.1, u.2.2.2.1, u.2.2.2.2.1, u.2.2.2.2.2)) hx hb hr hlocks hP hK hD hS dX1_tested_223 ⟨⟨hI, rfl, rfl⟩, (by rw [ex_16]; exact vp_and4095 _)⟩
  by_cases k_6 : x_32 = 6
  · subst k_6
    refine lv_tableIn (tgt := 224) hx hb dX1_tested_32 (by decide) (by decide) rfl (by decide) ?_
    refine lv_lload hx hb dX1_tested_224 (lv_at hl 2 rfl) ?_
    refine lv_iload_n hx hb dX1_tested_226 rfl (lv_at hl 4 rfl) ?_
    refine lv_iconst (v := 3) hx hb dX1_tested_227 (by decide) ?_
    refine lv_ishr hx hb dX1_tested_228 ?_
    refine lv_bipush (v := 28) hx hb dX1_tested_229 (by decide) ?_
    refine lv_icmp_ne (tgt := 238) hx hb dX1_tested_231 (by decide) (fun c_231 => ?_) (fun c_231 => ?_)
    · refine lv_iconst (v := -1) hx hb dX1_tested_238 (by decide) ?_
      refine lv_i2l hx hb dX1_tested_239 rfl ?_
      refine lv_ladd hx hb dX1_tested_240 ?_
      refine lv_ldc2 (v := 68719476735) hx hb hown (hts (.constantLong RX1 27 68719476735) (by decide +kernel)) dX1_tested_241 ?_
      refine lv_land hx hb dX1_tested_244 ?_
      refine lv_topl (fun x_245 ex_245 => ?_)
      refine lv_lstore (lv' := [(12, .long x_245), (11, .int x_24), (10, .int x_16), (8, .long x_6), (0, .ref h), (1, .int op), (2, .int ac), (3, .long e0), (5, .long m0), (7, .int nx)]) hx hb dX1_tested_245 hl (by decide) rfl (fun ls hl => ?_)
      refine lv_aload_n hx hb dX1_tested_247 rfl (lv_at hl 4 rfl) ?_
      refine va_get (D := D) (ci := 1) (v := .ref a) (C := RX1) (T := TX1) (N := 6) hx hb hts iw_X1_tested hown hK hP 0 rfl rfl 1 (by decide) (hts (.fieldLink RX1 7 "WordMillModel" "memory" "[J") (by decide +kernel)) (fun _ h9 => h9) rfl dX1_tested_248 ?_
      refine lv_iload_n hx hb dX1_tested_251 rfl (lv_at hl 6 rfl) ?_
      refine lv_lload hx hb dX1_tested_252 (lv_at hl 0 rfl) ?_
      refine va_last hx hb hK hP hD hS 1 0 rfl rfl hac dX1_tested_254 (fun H locs hP hD hS => ?_)
      have hP : va_P D vwCl (rW h a cA ((vp_updL u.1 (ac : Int32).toNatClampNeg x_245), u.2.1, u.2.2.1, u.2.2.2.1, u.2.2.2.2.1, u.2.2.2.2.2)) H := hP
      have hD : va_D (wA h a) (rW h a cA ((vp_updL u.1 (ac : Int32).toNatClampNeg x_245), u.2.1, u.2.2.1, u.2.2.2.1, u.2.2.2.2.1, u.2.2.2.2.2)) := hD
      generalize (vp_updL u.1 (ac : Int32).toNatClampNeg x_245) = f_254 at hP hD
      refine lv_iload_n hx hb dX1_tested_255 rfl (lv_at hl 5 rfl) ?_
      refine lv_lload hx hb dX1_tested_256 (lv_at hl 0 rfl) ?_
      refine ps_gol (As := [.long x_245]) (rest := [.int op]) ⟨hx, hb, hml, hown, hts⟩ (kX1_number l x_245) (va_cwS 1 hts gX1_tested_X1_number rfl rfl rfl (by decide +kernel) ⟨by decide, by decide⟩) rfl hl.1 rfl (Nat.le_of_ble_eq_true rfl) dX1_tested_258 ⟨Nat.zero_le _, Nat.zero_le _⟩ (fun r_258 q_258 => ?_)
      refine lv_lconst (v := 0) hx hb dX1_tested_261 (by decide) ?_
      refine ps_goi (As := [.int op, .long r_258, .long 0]) (rest := []) ⟨hx, hb, hml, hown, hts⟩ (kX1_is l op r_258 0) (va_cwS 3 hts gX1_tested_X1_is rfl rfl rfl (by decide +kernel) ⟨by decide, by decide⟩) rfl hl.1 rfl (Nat.le_of_ble_eq_true rfl) dX1_tested_262 ⟨Nat.zero_le _, Nat.zero_le _⟩ (fun r_262 q_262 => ?_)
      refine lv_if_eq (tgt := 273) hx hb dX1_tested_265 (by decide) (fun c_265 => ?_) (fun c_265 => ?_)
      · refine lv_iload hx hb dX1_tested_273 (lv_at hl 9 rfl) ?_
        exact mm_iret (mw := rW h a cA) (u1 := (f_254, u.2.1, u.2.2.1, u.2.2.2.1, u.2.2.2.2.1, u.2.2.2.2.2)) hx hb hr hlocks hP hK hD hS dX1_tested_275 ⟨⟨hI, rfl, rfl⟩, hnx⟩
      · refine lv_iload hx hb dX1_tested_268 (lv_at hl 1 rfl) ?_
        refine lv_goto (tgt := 275) hx hb dX1_tested_270 (by decide) ?_
        exact mm_iret (mw := rW h a cA) (u1 := (f_254, u.2.1, u.2.2.1, u.2.2.2.1, u.2.2.2.2.1, u.2.2.2.2.2)) hx hb hr hlocks hP hK hD hS dX1_tested_275 ⟨⟨hI, rfl, rfl⟩, (by rw [ex_24]; exact la4095 _)⟩
    · refine lv_iconst (v := 1) hx hb dX1_tested_234 (by decide) ?_
      refine lv_goto (tgt := 239) hx hb dX1_tested_235 (by decide) ?_
      refine lv_i2l hx hb dX1_tested_239 rfl ?_
      refine lv_ladd hx hb dX1_tested_240 ?_
      refine lv_ldc2 (v := 68719476735) hx hb hown (hts (.constantLong RX1 27 68719476735) (by decide +kernel)) dX1_tested_241 ?_
      refine lv_land hx hb dX1_tested_244 ?_
      refine lv_topl (fun x_245 ex_245 => ?_)
      refine lv_lstore (lv' := [(12, .long x_245), (11, .int x_24), (10, .int x_16), (8, .long x_6), (0, .ref h), (1, .int op), (2, .int ac), (3, .long e0), (5, .long m0), (7, .int nx)]) hx hb dX1_tested_245 hl (by decide) rfl (fun ls hl => ?_)
      refine lv_aload_n hx hb dX1_tested_247 rfl (lv_at hl 4 rfl) ?_
      refine va_get (D := D) (ci := 1) (v := .ref a) (C := RX1) (T := TX1) (N := 6) hx hb hts iw_X1_tested hown hK hP 0 rfl rfl 1 (by decide) (hts (.fieldLink RX1 7 "WordMillModel" "memory" "[J") (by decide +kernel)) (fun _ h9 => h9) rfl dX1_tested_248 ?_
      refine lv_iload_n hx hb dX1_tested_251 rfl (lv_at hl 6 rfl) ?_
      refine lv_lload hx hb dX1_tested_252 (lv_at hl 0 rfl) ?_
      refine va_last hx hb hK hP hD hS 1 0 rfl rfl hac dX1_tested_254 (fun H locs hP hD hS => ?_)
      have hP : va_P D vwCl (rW h a cA ((vp_updL u.1 (ac : Int32).toNatClampNeg x_245), u.2.1, u.2.2.1, u.2.2.2.1, u.2.2.2.2.1, u.2.2.2.2.2)) H := hP
      have hD : va_D (wA h a) (rW h a cA ((vp_updL u.1 (ac : Int32).toNatClampNeg x_245), u.2.1, u.2.2.1, u.2.2.2.1, u.2.2.2.2.1, u.2.2.2.2.2)) := hD
      generalize (vp_updL u.1 (ac : Int32).toNatClampNeg x_245) = f_254 at hP hD
      refine lv_iload_n hx hb dX1_tested_255 rfl (lv_at hl 5 rfl) ?_
      refine lv_lload hx hb dX1_tested_256 (lv_at hl 0 rfl) ?_
      refine ps_gol (As := [.long x_245]) (rest := [.int op]) ⟨hx, hb, hml, hown, hts⟩ (kX1_number l x_245) (va_cwS 1 hts gX1_tested_X1_number rfl rfl rfl (by decide +kernel) ⟨by decide, by decide⟩) rfl hl.1 rfl (Nat.le_of_ble_eq_true rfl) dX1_tested_258 ⟨Nat.zero_le _, Nat.zero_le _⟩ (fun r_258 q_258 => ?_)
      refine lv_lconst (v := 0) hx hb dX1_tested_261 (by decide) ?_
      refine ps_goi (As := [.int op, .long r_258, .long 0]) (rest := []) ⟨hx, hb, hml, hown, hts⟩ (kX1_is l op r_258 0) (va_cwS 3 hts gX1_tested_X1_is rfl rfl rfl (by decide +kernel) ⟨by decide, by decide⟩) rfl hl.1 rfl (Nat.le_of_ble_eq_true rfl) dX1_tested_262 ⟨Nat.zero_le _, Nat.zero_le _⟩ (fun r_262 q_262 => ?_)
      refine lv_if_eq (tgt := 273) hx hb dX1_tested_265 (by decide) (fun c_265 => ?_) (fun c_265 => ?_)
      · refine lv_iload hx hb dX1_tested_273 (lv_at hl 9 rfl) ?_
        exact mm_iret (mw := rW h a cA) (u1 := (f_254, u.2.1, u.2.2.1, u.2.2.2.1, u.2.2.2.2.1, u.2.2.2.2.2)) hx hb hr hlocks hP hK hD hS dX1_tested_275 ⟨⟨hI, rfl, rfl⟩, hnx⟩
      · refine lv_iload hx hb dX1_tested_268 (lv_at hl 1 rfl) ?_
        refine lv_goto (tgt := 275) hx hb dX1_tested_270 (by decide) ?_
        exact mm_iret (mw := rW h a cA) (u1 := (f_254, u.2.1, u.2.2.1, u.2.2.2.1, u.2.2.2.2.1, u.2.2.2.2.2)) hx hb hr hlocks hP hK hD hS dX1_tested_275 ⟨⟨hI, rfl, rfl⟩, (by rw [ex_24]; exact la4095 _)⟩
  by_cases k_7 : x_32 = 7
  · subst k_7
    refine lv_tableIn (tgt := 147) hx hb dX1_tested_32 (by decide) (by decide) rfl (by decide) ?_
    refine lv_lload hx hb dX1_tested_147 (lv_at hl 7 rfl) ?_
    refine lv_iload_n hx hb dX1_tested_149 rfl (lv_at hl 4 rfl) ?_
    refine lv_iconst (v := 3) hx hb dX1_tested_150 (by decide) ?_
    refine lv_ishr hx hb dX1_tested_151 ?_
    refine lv_bipush (v := 29) hx hb dX1_tested_152 (by decide) ?_
    refine lv_icmp_ne (tgt := 161) hx hb dX1_tested_154 (by decide) (fun c_154 => ?_) (fun c_154 => ?_)
    · refine lv_iload_n hx hb dX1_tested_161 rfl (lv_at hl 4 rfl) ?_
      refine lv_iconst (v := 3) hx hb dX1_tested_162 (by decide) ?_
      refine lv_ishr hx hb dX1_tested_163 ?_
      refine lv_bipush (v := 31) hx hb dX1_tested_164 (by decide) ?_
      refine lv_icmp_ne (tgt := 173) hx hb dX1_tested_166 (by decide) (fun c_166 => ?_) (fun c_166 => ?_)
      · refine lv_iconst (v := 0) hx hb dX1_tested_173 (by decide) ?_
        refine lv_i2l hx hb dX1_tested_174 rfl ?_
        refine lv_ladd hx hb dX1_tested_175 ?_
        refine lv_ldc2 (v := 68719476735) hx hb hown (hts (.constantLong RX1 27 68719476735) (by decide +kernel)) dX1_tested_176 ?_
        refine lv_land hx hb dX1_tested_179 ?_
        refine lv_topl (fun x_180 ex_180 => ?_)
        refine lv_lstore (lv' := [(12, .long x_180), (11, .int x_24), (10, .int x_16), (8, .long x_6), (0, .ref h), (1, .int op), (2, .int ac), (3, .long e0), (5, .long m0), (7, .int nx)]) hx hb dX1_tested_180 hl (by decide) rfl (fun ls hl => ?_)
        refine lv_aload_n hx hb dX1_tested_182 rfl (lv_at hl 4 rfl) ?_
        refine va_get (D := D) (ci := 1) (v := .ref a) (C := RX1) (T := TX1) (N := 6) hx hb hts iw_X1_tested hown hK hP 0 rfl rfl 1 (by decide) (hts (.fieldLink RX1 7 "WordMillModel" "memory" "[J") (by decide +kernel)) (fun _ h9 => h9) rfl dX1_tested_183 ?_
        refine lv_lload_n hx hb dX1_tested_186 rfl (lv_at hl 7 rfl) ?_
        refine lv_l2i hx hb dX1_tested_187 rfl ?_
        refine lv_lload hx hb dX1_tested_188 (lv_at hl 0 rfl) ?_
        refine va_last hx hb hK hP hD hS 1 0 rfl rfl (pl_in (tst_e hop.1 hop.2 hne (Or.inr (Or.inr ex_32.symm)))) dX1_tested_190 (fun H locs hP hD hS => ?_)
        have hP : va_P D vwCl (rW h a cA ((vp_updL u.1 ((e0 : Int64).toInt32 : Int32).toNatClampNeg x_180), u.2.1, u.2.2.1, u.2.2.2.1, u.2.2.2.2.1, u.2.2.2.2.2)) H := hP
        have hD : va_D (wA h a) (rW h a cA ((vp_updL u.1 ((e0 : Int64).toInt32 : Int32).toNatClampNeg x_180), u.2.1, u.2.2.1, u.2.2.2.1, u.2.2.2.2.1, u.2.2.2.2.2)) := hD
        generalize (vp_updL u.1 ((e0 : Int64).toInt32 : Int32).toNatClampNeg x_180) = f_190 at hP hD
        refine lv_iload_n hx hb dX1_tested_191 rfl (lv_at hl 6 rfl) ?_
        refine lv_if_eq (tgt := 203) hx hb dX1_tested_192 (by decide) (fun c_192 => ?_) (fun c_192 => ?_)
        · refine lv_iload_n hx hb dX1_tested_203 rfl (lv_at hl 5 rfl) ?_
          refine lv_lload hx hb dX1_tested_204 (lv_at hl 0 rfl) ?_
          refine ps_gol (As := [.long x_180]) (rest := [.int op]) ⟨hx, hb, hml, hown, hts⟩ (kX1_number l x_180) (va_cwS 1 hts gX1_tested_X1_number rfl rfl rfl (by decide +kernel) ⟨by decide, by decide⟩) rfl hl.1 rfl (Nat.le_of_ble_eq_true rfl) dX1_tested_206 ⟨Nat.zero_le _, Nat.zero_le _⟩ (fun r_206 q_206 => ?_)
          refine lv_lconst (v := 0) hx hb dX1_tested_209 (by decide) ?_
          refine ps_goi (As := [.int op, .long r_206, .long 0]) (rest := []) ⟨hx, hb, hml, hown, hts⟩ (kX1_is l op r_206 0) (va_cwS 3 hts gX1_tested_X1_is rfl rfl rfl (by decide +kernel) ⟨by decide, by decide⟩) rfl hl.1 rfl (Nat.le_of_ble_eq_true rfl) dX1_tested_210 ⟨Nat.zero_le _, Nat.zero_le _⟩ (fun r_210 q_210 => ?_)
          refine lv_if_eq (tgt := 221) hx hb dX1_tested_213 (by decide) (fun c_213 => ?_) (fun c_213 => ?_)
          · refine lv_iload hx hb dX1_tested_221 (lv_at hl 9 rfl) ?_
            exact mm_iret (mw := rW h a cA) (u1 := (f_190, u.2.1, u.2.2.1, u.2.2.2.1, u.2.2.2.2.1, u.2.2.2.2.2)) hx hb hr hlocks hP hK hD hS dX1_tested_223 ⟨⟨hI, rfl, rfl⟩, hnx⟩
          · refine lv_iload hx hb dX1_tested_216 (lv_at hl 2 rfl) ?_
            refine lv_goto (tgt := 223) hx hb dX1_tested_218 (by decide) ?_
            exact mm_iret (mw := rW h a cA) (u1 := (f_190, u.2.1, u.2.2.1, u.2.2.2.1, u.2.2.2.2.1, u.2.2.2.2.2)) hx hb hr hlocks hP hK hD hS dX1_tested_223 ⟨⟨hI, rfl, rfl⟩, (by rw [ex_16]; exact vp_and4095 _)⟩
        · refine lv_aload_n hx hb dX1_tested_195 rfl (lv_at hl 4 rfl) ?_
          refine va_get (D := D) (ci := 1) (v := .ref a) (C := RX1) (T := TX1) (N := 6) hx hb hts iw_X1_tested hown hK hP 0 rfl rfl 1 (by decide) (hts (.fieldLink RX1 7 "WordMillModel" "memory" "[J") (by decide +kernel)) (fun _ h9 => h9) rfl dX1_tested_196 ?_
          refine lv_iload_n hx hb dX1_tested_199 rfl (lv_at hl 6 rfl) ?_
          refine lv_lload hx hb dX1_tested_200 (lv_at hl 0 rfl) ?_
          refine va_last hx hb hK hP hD hS 1 0 rfl rfl hac dX1_tested_202 (fun H locs hP hD hS => ?_)
          have hP : va_P D vwCl (rW h a cA ((vp_updL f_190 (ac : Int32).toNatClampNeg x_180), u.2.1, u.2.2.1, u.2.2.2.1, u.2.2.2.2.1, u.2.2.2.2.2)) H := hP
          have hD : va_D (wA h a) (rW h a cA ((vp_updL f_190 (ac : Int32).toNatClampNeg x_180), u.2.1, u.2.2.1, u.2.2.2.1, u.2.2.2.2.1, u.2.2.2.2.2)) := hD
          generalize (vp_updL f_190 (ac : Int32).toNatClampNeg x_180) = f_202 at hP hD
          refine lv_iload_n hx hb dX1_tested_203 rfl (lv_at hl 5 rfl) ?_
          refine lv_lload hx hb dX1_tested_204 (lv_at hl 0 rfl) ?_
          refine ps_gol (As := [.long x_180]) (rest := [.int op]) ⟨hx, hb, hml, hown, hts⟩ (kX1_number l x_180) (va_cwS 1 hts gX1_tested_X1_number rfl rfl rfl (by decide +kernel) ⟨by decide, by decide⟩) rfl hl.1 rfl (Nat.le_of_ble_eq_true rfl) dX1_tested_206 ⟨Nat.zero_le _, Nat.zero_le _⟩ (fun r_206 q_206 => ?_)
          refine lv_lconst (v := 0) hx hb dX1_tested_209 (by decide) ?_
          refine ps_goi (As := [.int op, .long r_206, .long 0]) (rest := []) ⟨hx, hb, hml, hown, hts⟩ (kX1_is l op r_206 0) (va_cwS 3 hts gX1_tested_X1_is rfl rfl rfl (by decide +kernel) ⟨by decide, by decide⟩) rfl hl.1 rfl (Nat.le_of_ble_eq_true rfl) dX1_tested_210 ⟨Nat.zero_le _, Nat.zero_le _⟩ (fun r_210 q_210 => ?_)
          refine lv_if_eq (tgt := 221) hx hb dX1_tested_213 (by decide) (fun c_213 => ?_) (fun c_213 => ?_)
          · refine lv_iload hx hb dX1_tested_221 (lv_at hl 9 rfl) ?_
            exact mm_iret (mw := rW h a cA) (u1 := (f_202, u.2.1, u.2.2.1, u.2.2.2.1, u.2.2.2.2.1, u.2.2.2.2.2)) hx hb hr hlocks hP hK hD hS dX1_tested_223 ⟨⟨hI, rfl, rfl⟩, hnx⟩
          · refine lv_iload hx hb dX1_tested_216 (lv_at hl 2 rfl) ?_
            refine lv_goto (tgt := 223) hx hb dX1_tested_218 (by decide) ?_
            exact mm_iret (mw := rW h a cA) (u1 := (f_202, u.2.1, u.2.2.1, u.2.2.2.1, u.2.2.2.2.1, u.2.2.2.2.2)) hx hb hr hlocks hP hK hD hS dX1_tested_223 ⟨⟨hI, rfl, rfl⟩, (by rw [ex_16]; exact vp_and4095 _)⟩
      · refine lv_iconst (v := -1) hx hb dX1_tested_169 (by decide) ?_
        refine lv_goto (tgt := 174) hx hb dX1_tested_170 (by decide) ?_
        refine lv_i2l hx hb dX1_tested_174 rfl ?_
        refine lv_ladd hx hb dX1_tested_175 ?_
        refine lv_ldc2 (v := 68719476735) hx hb hown (hts (.constantLong RX1 27 68719476735) (by decide +kernel)) dX1_tested_176 ?_
        refine lv_land hx hb dX1_tested_179 ?_
        refine lv_topl (fun x_180 ex_180 => ?_)
        refine lv_lstore (lv' := [(12, .long x_180), (11, .int x_24), (10, .int x_16), (8, .long x_6), (0, .ref h), (1, .int op), (2, .int ac), (3, .long e0), (5, .long m0), (7, .int nx)]) hx hb dX1_tested_180 hl (by decide) rfl (fun ls hl => ?_)
        refine lv_aload_n hx hb dX1_tested_182 rfl (lv_at hl 4 rfl) ?_
        refine va_get (D := D) (ci := 1) (v := .ref a) (C := RX1) (T := TX1) (N := 6) hx hb hts iw_X1_tested hown hK hP 0 rfl rfl 1 (by decide) (hts (.fieldLink RX1 7 "WordMillModel" "memory" "[J") (by decide +kernel)) (fun _ h9 => h9) rfl dX1_tested_183 ?_
        refine lv_lload_n hx hb dX1_tested_186 rfl (lv_at hl 7 rfl) ?_
        refine lv_l2i hx hb dX1_tested_187 rfl ?_
        refine lv_lload hx hb dX1_tested_188 (lv_at hl 0 rfl) ?_
        refine va_last hx hb hK hP hD hS 1 0 rfl rfl (pl_in (tst_e hop.1 hop.2 hne (Or.inr (Or.inr ex_32.symm)))) dX1_tested_190 (fun H locs hP hD hS => ?_)
        have hP : va_P D vwCl (rW h a cA ((vp_updL u.1 ((e0 : Int64).toInt32 : Int32).toNatClampNeg x_180), u.2.1, u.2.2.1, u.2.2.2.1, u.2.2.2.2.1, u.2.2.2.2.2)) H := hP
        have hD : va_D (wA h a) (rW h a cA ((vp_updL u.1 ((e0 : Int64).toInt32 : Int32).toNatClampNeg x_180), u.2.1, u.2.2.1, u.2.2.2.1, u.2.2.2.2.1, u.2.2.2.2.2)) := hD
        generalize (vp_updL u.1 ((e0 : Int64).toInt32 : Int32).toNatClampNeg x_180) = f_190 at hP hD
        refine lv_iload_n hx hb dX1_tested_191 rfl (lv_at hl 6 rfl) ?_
        refine lv_if_eq (tgt := 203) hx hb dX1_tested_192 (by decide) (fun c_192 => ?_) (fun c_192 => ?_)
        · refine lv_iload_n hx hb dX1_tested_203 rfl (lv_at hl 5 rfl) ?_
          refine lv_lload hx hb dX1_tested_204 (lv_at hl 0 rfl) ?_
          refine ps_gol (As := [.long x_180]) (rest := [.int op]) ⟨hx, hb, hml, hown, hts⟩ (kX1_number l x_180) (va_cwS 1 hts gX1_tested_X1_number rfl rfl rfl (by decide +kernel) ⟨by decide, by decide⟩) rfl hl.1 rfl (Nat.le_of_ble_eq_true rfl) dX1_tested_206 ⟨Nat.zero_le _, Nat.zero_le _⟩ (fun r_206 q_206 => ?_)
          refine lv_lconst (v := 0) hx hb dX1_tested_209 (by decide) ?_
          refine ps_goi (As := [.int op, .long r_206, .long 0]) (rest := []) ⟨hx, hb, hml, hown, hts⟩ (kX1_is l op r_206 0) (va_cwS 3 hts gX1_tested_X1_is rfl rfl rfl (by decide +kernel) ⟨by decide, by decide⟩) rfl hl.1 rfl (Nat.le_of_ble_eq_true rfl) dX1_tested_210 ⟨Nat.zero_le _, Nat.zero_le _⟩ (fun r_210 q_210 => ?_)
          refine lv_if_eq (tgt := 221) hx hb dX1_tested_213 (by decide) (fun c_213 => ?_) (fun c_213 => ?_)
          · refine lv_iload hx hb dX1_tested_221 (lv_at hl 9 rfl) ?_
            exact mm_iret (mw := rW h a cA) (u1 := (f_190, u.2.1, u.2.2.1, u.2.2.2.1, u.2.2.2.2.1, u.2.2.2.2.2)) hx hb hr hlocks hP hK hD hS dX1_tested_223 ⟨⟨hI, rfl, rfl⟩, hnx⟩
          · refine lv_iload hx hb dX1_tested_216 (lv_at hl 2 rfl) ?_
            refine lv_goto (tgt := 223) hx hb dX1_tested_218 (by decide) ?_
            exact mm_iret (mw := rW h a cA) (u1 := (f_190, u.2.1, u.2.2.1, u.2.2.2.1, u.2.2.2.2.1, u.2.2.2.2.2)) hx hb hr hlocks hP hK hD hS dX1_tested_223 ⟨⟨hI, rfl, rfl⟩, (by rw [ex_16]; exact vp_and4095 _)⟩
        · refine lv_aload_n hx hb dX1_tested_195 rfl (lv_at hl 4 rfl) ?_
          refine va_get (D := D) (ci := 1) (v := .ref a) (C := RX1) (T := TX1) (N := 6) hx hb hts iw_X1_tested hown hK hP 0 rfl rfl 1 (by decide) (hts (.fieldLink RX1 7 "WordMillModel" "memory" "[J") (by decide +kernel)) (fun _ h9 => h9) rfl dX1_tested_196 ?_
          refine lv_iload_n hx hb dX1_tested_199 rfl (lv_at hl 6 rfl) ?_
          refine lv_lload hx hb dX1_tested_200 (lv_at hl 0 rfl) ?_
          refine va_last hx hb hK hP hD hS 1 0 rfl rfl hac dX1_tested_202 (fun H locs hP hD hS => ?_)
          have hP : va_P D vwCl (rW h a cA ((vp_updL f_190 (ac : Int32).toNatClampNeg x_180), u.2.1, u.2.2.1, u.2.2.2.1, u.2.2.2.2.1, u.2.2.2.2.2)) H := hP
          have hD : va_D (wA h a) (rW h a cA ((vp_updL f_190 (ac : Int32).toNatClampNeg x_180), u.2.1, u.2.2.1, u.2.2.2.1, u.2.2.2.2.1, u.2.2.2.2.2)) := hD
          generalize (vp_updL f_190 (ac : Int32).toNatClampNeg x_180) = f_202 at hP hD
          refine lv_iload_n hx hb dX1_tested_203 rfl (lv_at hl 5 rfl) ?_
          refine lv_lload hx hb dX1_tested_204 (lv_at hl 0 rfl) ?_
          refine ps_gol (As := [.long x_180]) (rest := [.int op]) ⟨hx, hb, hml, hown, hts⟩ (kX1_number l x_180) (va_cwS 1 hts gX1_tested_X1_number rfl rfl rfl (by decide +kernel) ⟨by decide, by decide⟩) rfl hl.1 rfl (Nat.le_of_ble_eq_true rfl) dX1_tested_206 ⟨Nat.zero_le _, Nat.zero_le _⟩ (fun r_206 q_206 => ?_)
          refine lv_lconst (v := 0) hx hb dX1_tested_209 (by decide) ?_
          refine ps_goi (As := [.int op, .long r_206, .long 0]) (rest := []) ⟨hx, hb, hml, hown, hts⟩ (kX1_is l op r_206 0) (va_cwS 3 hts gX1_tested_X1_is rfl rfl rfl (by decide +kernel) ⟨by decide, by decide⟩) rfl hl.1 rfl (Nat.le_of_ble_eq_true rfl) dX1_tested_210 ⟨Nat.zero_le _, Nat.zero_le _⟩ (fun r_210 q_210 => ?_)
          refine lv_if_eq (tgt := 221) hx hb dX1_tested_213 (by decide) (fun c_213 => ?_) (fun c_213 => ?_)
          · refine lv_iload hx hb dX1_tested_221 (lv_at hl 9 rfl) ?_
            exact mm_iret (mw := rW h a cA) (u1 := (f_202, u.2.1, u.2.2.1, u.2.2.2.1, u.2.2.2.2.1, u.2.2.2.2.2)) hx hb hr hlocks hP hK hD hS dX1_tested_223 ⟨⟨hI, rfl, rfl⟩, hnx⟩
          · refine lv_iload hx hb dX1_tested_216 (lv_at hl 2 rfl) ?_
            refine lv_goto (tgt := 223) hx hb dX1_tested_218 (by decide) ?_
            exact mm_iret (mw := rW h a cA) (u1 := (f_202, u.2.1, u.2.2.1, u.2.2.2.1, u.2.2.2.2.1, u.2.2.2.2.2)) hx hb hr hlocks hP hK hD hS dX1_tested_223 ⟨⟨hI, rfl, rfl⟩, (by rw [ex_16]; exact vp_and4095 _)⟩
    · refine lv_iconst (v := 1) hx hb dX1_tested_157 (by decide) ?_
      refine lv_goto (tgt := 174) hx hb dX1_tested_158 (by decide) ?_
      refine lv_i2l hx hb dX1_tested_174 rfl ?_
      refine lv_ladd hx hb dX1_tested_175 ?_
      refine lv_ldc2 (v := 68719476735) hx hb hown (hts (.constantLong RX1 27 68719476735) (by decide +kernel)) dX1_tested_176 ?_
      refine lv_land hx hb dX1_tested_179 ?_
      refine lv_topl (fun x_180 ex_180 => ?_)
      refine lv_lstore (lv' := [(12, .long x_180), (11, .int x_24), (10, .int x_16), (8, .long x_6), (0, .ref h), (1, .int op), (2, .int ac), (3, .long e0), (5, .long m0), (7, .int nx)]) hx hb dX1_tested_180 hl (by decide) rfl (fun ls hl => ?_)
      refine lv_aload_n hx hb dX1_tested_182 rfl (lv_at hl 4 rfl) ?_
      refine va_get (D := D) (ci := 1) (v := .ref a) (C := RX1) (T := TX1) (N := 6) hx hb hts iw_X1_tested hown hK hP 0 rfl rfl 1 (by decide) (hts (.fieldLink RX1 7 "WordMillModel" "memory" "[J") (by decide +kernel)) (fun _ h9 => h9) rfl dX1_tested_183 ?_
      refine lv_lload_n hx hb dX1_tested_186 rfl (lv_at hl 7 rfl) ?_
      refine lv_l2i hx hb dX1_tested_187 rfl ?_
      refine lv_lload hx hb dX1_tested_188 (lv_at hl 0 rfl) ?_
      refine va_last hx hb hK hP hD hS 1 0 rfl rfl (pl_in (tst_e hop.1 hop.2 hne (Or.inr (Or.inr ex_32.symm)))) dX1_tested_190 (fun H locs hP hD hS => ?_)
      have hP : va_P D vwCl (rW h a cA ((vp_updL u.1 ((e0 : Int64).toInt32 : Int32).toNatClampNeg x_180), u.2.1, u.2.2.1, u.2.2.2.1, u.2.2.2.2.1, u.2.2.2.2.2)) H := hP
      have hD : va_D (wA h a) (rW h a cA ((vp_updL u.1 ((e0 : Int64).toInt32 : Int32).toNatClampNeg x_180), u.2.1, u.2.2.1, u.2.2.2.1, u.2.2.2.2.1, u.2.2.2.2.2)) := hD
      generalize (vp_updL u.1 ((e0 : Int64).toInt32 : Int32).toNatClampNeg x_180) = f_190 at hP hD
      refine lv_iload_n hx hb dX1_tested_191 rfl (lv_at hl 6 rfl) ?_
      refine lv_if_eq (tgt := 203) hx hb dX1_tested_192 (by decide) (fun c_192 => ?_) (fun c_192 => ?_)
      · refine lv_iload_n hx hb dX1_tested_203 rfl (lv_at hl 5 rfl) ?_
        refine lv_lload hx hb dX1_tested_204 (lv_at hl 0 rfl) ?_
        refine ps_gol (As := [.long x_180]) (rest := [.int op]) ⟨hx, hb, hml, hown, hts⟩ (kX1_number l x_180) (va_cwS 1 hts gX1_tested_X1_number rfl rfl rfl (by decide +kernel) ⟨by decide, by decide⟩) rfl hl.1 rfl (Nat.le_of_ble_eq_true rfl) dX1_tested_206 ⟨Nat.zero_le _, Nat.zero_le _⟩ (fun r_206 q_206 => ?_)
        refine lv_lconst (v := 0) hx hb dX1_tested_209 (by decide) ?_
        refine ps_goi (As := [.int op, .long r_206, .long 0]) (rest := []) ⟨hx, hb, hml, hown, hts⟩ (kX1_is l op r_206 0) (va_cwS 3 hts gX1_tested_X1_is rfl rfl rfl (by decide +kernel) ⟨by decide, by decide⟩) rfl hl.1 rfl (Nat.le_of_ble_eq_true rfl) dX1_tested_210 ⟨Nat.zero_le _, Nat.zero_le _⟩ (fun r_210 q_210 => ?_)
        refine lv_if_eq (tgt := 221) hx hb dX1_tested_213 (by decide) (fun c_213 => ?_) (fun c_213 => ?_)
        · refine lv_iload hx hb dX1_tested_221 (lv_at hl 9 rfl) ?_
          exact mm_iret (mw := rW h a cA) (u1 := (f_190, u.2.1, u.2.2.1, u.2.2.2.1, u.2.2.2.2.1, u.2.2.2.2.2)) hx hb hr hlocks hP hK hD hS dX1_tested_223 ⟨⟨hI, rfl, rfl⟩, hnx⟩
        · refine lv_iload hx hb dX1_tested_216 (lv_at hl 2 rfl) ?_
          refine lv_goto (tgt := 223) hx hb dX1_tested_218 (by decide) ?_
          exact mm_iret (mw := rW h a cA) (u1 := (f_190, u.2.1, u.2.2.1, u.2.2.2.1, u.2.2.2.2.1, u.2.2.2.2.2)) hx hb hr hlocks hP hK hD hS dX1_tested_223 ⟨⟨hI, rfl, rfl⟩, (by rw [ex_16]; exact vp_and4095 _)⟩
      · refine lv_aload_n hx hb dX1_tested_195 rfl (lv_at hl 4 rfl) ?_
        refine va_get (D := D) (ci := 1) (v := .ref a) (C := RX1) (T := TX1) (N := 6) hx hb hts iw_X1_tested hown hK hP 0 rfl rfl 1 (by decide) (hts (.fieldLink RX1 7 "WordMillModel" "memory" "[J") (by decide +kernel)) (fun _ h9 => h9) rfl dX1_tested_196 ?_
        refine lv_iload_n hx hb dX1_tested_199 rfl (lv_at hl 6 rfl) ?_
        refine lv_lload hx hb dX1_tested_200 (lv_at hl 0 rfl) ?_
        refine va_last hx hb hK hP hD hS 1 0 rfl rfl hac dX1_tested_202 (fun H locs hP hD hS => ?_)
        have hP : va_P D vwCl (rW h a cA ((vp_updL f_190 (ac : Int32).toNatClampNeg x_180), u.2.1, u.2.2.1, u.2.2.2.1, u.2.2.2.2.1, u.2.2.2.2.2)) H := hP
        have hD : va_D (wA h a) (rW h a cA ((vp_updL f_190 (ac : Int32).toNatClampNeg x_180), u.2.1, u.2.2.1, u.2.2.2.1, u.2.2.2.2.1, u.2.2.2.2.2)) := hD
        generalize (vp_updL f_190 (ac : Int32).toNatClampNeg x_180) = f_202 at hP hD
        refine lv_iload_n hx hb dX1_tested_203 rfl (lv_at hl 5 rfl) ?_
        refine lv_lload hx hb dX1_tested_204 (lv_at hl 0 rfl) ?_
        refine ps_gol (As := [.long x_180]) (rest := [.int op]) ⟨hx, hb, hml, hown, hts⟩ (kX1_number l x_180) (va_cwS 1 hts gX1_tested_X1_number rfl rfl rfl (by decide +kernel) ⟨by decide, by decide⟩) rfl hl.1 rfl (Nat.le_of_ble_eq_true rfl) dX1_tested_206 ⟨Nat.zero_le _, Nat.zero_le _⟩ (fun r_206 q_206 => ?_)
        refine lv_lconst (v := 0) hx hb dX1_tested_209 (by decide) ?_
        refine ps_goi (As := [.int op, .long r_206, .long 0]) (rest := []) ⟨hx, hb, hml, hown, hts⟩ (kX1_is l op r_206 0) (va_cwS 3 hts gX1_tested_X1_is rfl rfl rfl (by decide +kernel) ⟨by decide, by decide⟩) rfl hl.1 rfl (Nat.le_of_ble_eq_true rfl) dX1_tested_210 ⟨Nat.zero_le _, Nat.zero_le _⟩ (fun r_210 q_210 => ?_)
        refine lv_if_eq (tgt := 221) hx hb dX1_tested_213 (by decide) (fun c_213 => ?_) (fun c_213 => ?_)
        · refine lv_iload hx hb dX1_tested_221 (lv_at hl 9 rfl) ?_
          exact mm_iret (mw := rW h a cA) (u1 := (f_202, u.2.1, u.2.2.1, u.2.2.2.1, u.2.2.2.2.1, u.2.2.2.2.2)) hx hb hr hlocks hP hK hD hS dX1_tested_223 ⟨⟨hI, rfl, rfl⟩, hnx⟩
        · refine lv_iload hx hb dX1_tested_216 (lv_at hl 2 rfl) ?_
          refine lv_goto (tgt := 223) hx hb dX1_tested_218 (by decide) ?_
          exact mm_iret (mw := rW h a cA) (u1 := (f_202, u.2.1, u.2.2.1, u.2.2.2.1, u.2.2.2.2.1, u.2.2.2.2.2)) hx hb hr hlocks hP hK hD hS dX1_tested_223 ⟨⟨hI, rfl, rfl⟩, (by rw [ex_16]; exact vp_and4095 _)⟩
  refine lv_tableOut (tgt := 224) hx hb dX1_tested_32 (tb_out_0_8 k_0 k_1 k_2 k_3 k_4 k_5 k_6 k_7) (by decide) ?_
  refine lv_lload hx hb dX1_tested_224 (lv_at hl 2 rfl) ?_
  refine lv_iload_n hx hb dX1_tested_226 rfl (lv_at hl 4 rfl) ?_
  refine lv_iconst (v := 3) hx hb dX1_tested_227 (by decide) ?_
  refine lv_ishr hx hb dX1_tested_228 ?_
  refine lv_bipush (v := 28) hx hb dX1_tested_229 (by decide) ?_
  refine lv_icmp_ne (tgt := 238) hx hb dX1_tested_231 (by decide) (fun c_231 => ?_) (fun c_231 => ?_)
  · refine lv_iconst (v := -1) hx hb dX1_tested_238 (by decide) ?_
    refine lv_i2l hx hb dX1_tested_239 rfl ?_
    refine lv_ladd hx hb dX1_tested_240 ?_
    refine lv_ldc2 (v := 68719476735) hx hb hown (hts (.constantLong RX1 27 68719476735) (by decide +kernel)) dX1_tested_241 ?_
    refine lv_land hx hb dX1_tested_244 ?_
    refine lv_topl (fun x_245 ex_245 => ?_)
    refine lv_lstore (lv' := [(12, .long x_245), (11, .int x_24), (10, .int x_16), (8, .long x_6), (0, .ref h), (1, .int op), (2, .int ac), (3, .long e0), (5, .long m0), (7, .int nx)]) hx hb dX1_tested_245 hl (by decide) rfl (fun ls hl => ?_)
    refine lv_aload_n hx hb dX1_tested_247 rfl (lv_at hl 4 rfl) ?_
    refine va_get (D := D) (ci := 1) (v := .ref a) (C := RX1) (T := TX1) (N := 6) hx hb hts iw_X1_tested hown hK hP 0 rfl rfl 1 (by decide) (hts (.fieldLink RX1 7 "WordMillModel" "memory" "[J") (by decide +kernel)) (fun _ h9 => h9) rfl dX1_tested_248 ?_
    refine lv_iload_n hx hb dX1_tested_251 rfl (lv_at hl 6 rfl) ?_
    refine lv_lload hx hb dX1_tested_252 (lv_at hl 0 rfl) ?_
    refine va_last hx hb hK hP hD hS 1 0 rfl rfl hac dX1_tested_254 (fun H locs hP hD hS => ?_)
    have hP : va_P D vwCl (rW h a cA ((vp_updL u.1 (ac : Int32).toNatClampNeg x_245), u.2.1, u.2.2.1, u.2.2.2.1, u.2.2.2.2.1, u.2.2.2.2.2)) H := hP
    have hD : va_D (wA h a) (rW h a cA ((vp_updL u.1 (ac : Int32).toNatClampNeg x_245), u.2.1, u.2.2.1, u.2.2.2.1, u.2.2.2.2.1, u.2.2.2.2.2)) := hD
    generalize (vp_updL u.1 (ac : Int32).toNatClampNeg x_245) = f_254 at hP hD
    refine lv_iload_n hx hb dX1_tested_255 rfl (lv_at hl 5 rfl) ?_
    refine lv_lload hx hb dX1_tested_256 (lv_at hl 0 rfl) ?_
    refine ps_gol (As := [.long x_245]) (rest := [.int op]) ⟨hx, hb, hml, hown, hts⟩ (kX1_number l x_245) (va_cwS 1 hts gX1_tested_X1_number rfl rfl rfl (by decide +kernel) ⟨by decide, by decide⟩) rfl hl.1 rfl (Nat.le_of_ble_eq_true rfl) dX1_tested_258 ⟨Nat.zero_le _, Nat.zero_le _⟩ (fun r_258 q_258 => ?_)
    refine lv_lconst (v := 0) hx hb dX1_tested_261 (by decide) ?_
    refine ps_goi (As := [.int op, .long r_258, .long 0]) (rest := []) ⟨hx, hb, hml, hown, hts⟩ (kX1_is l op r_258 0) (va_cwS 3 hts gX1_tested_X1_is rfl rfl rfl (by decide +kernel) ⟨by decide, by decide⟩) rfl hl.1 rfl (Nat.le_of_ble_eq_true rfl) dX1_tested_262 ⟨Nat.zero_le _, Nat.zero_le _⟩ (fun r_262 q_262 => ?_)
    refine lv_if_eq (tgt := 273) hx hb dX1_tested_265 (by decide) (fun c_265 => ?_) (fun c_265 => ?_)
    · refine lv_iload hx hb dX1_tested_273 (lv_at hl 9 rfl) ?_
      exact mm_iret (mw := rW h a cA) (u1 := (f_254, u.2.1, u.2.2.1, u.2.2.2.1, u.2.2.2.2.1, u.2.2.2.2.2)) hx hb hr hlocks hP hK hD hS dX1_tested_275 ⟨⟨hI, rfl, rfl⟩, hnx⟩
    · refine lv_iload hx hb dX1_tested_268 (lv_at hl 1 rfl) ?_
      refine lv_goto (tgt := 275) hx hb dX1_tested_270 (by decide) ?_
      exact mm_iret (mw := rW h a cA) (u1 := (f_254, u.2.1, u.2.2.1, u.2.2.2.1, u.2.2.2.2.1, u.2.2.2.2.2)) hx hb hr hlocks hP hK hD hS dX1_tested_275 ⟨⟨hI, rfl, rfl⟩, (by rw [ex_24]; exact la4095 _)⟩
  · refine lv_iconst (v := 1) hx hb dX1_tested_234 (by decide) ?_
    refine lv_goto (tgt := 239) hx hb dX1_tested_235 (by decide) ?_
    refine lv_i2l hx hb dX1_tested_239 rfl ?_
    refine lv_ladd hx hb dX1_tested_240 ?_
    refine lv_ldc2 (v := 68719476735) hx hb hown (hts (.constantLong RX1 27 68719476735) (by decide +kernel)) dX1_tested_241 ?_
    refine lv_land hx hb dX1_tested_244 ?_
    refine lv_topl (fun x_245 ex_245 => ?_)
    refine lv_lstore (lv' := [(12, .long x_245), (11, .int x_24), (10, .int x_16), (8, .long x_6), (0, .ref h), (1, .int op), (2, .int ac), (3, .long e0), (5, .long m0), (7, .int nx)]) hx hb dX1_tested_245 hl (by decide) rfl (fun ls hl => ?_)
    refine lv_aload_n hx hb dX1_tested_247 rfl (lv_at hl 4 rfl) ?_
    refine va_get (D := D) (ci := 1) (v := .ref a) (C := RX1) (T := TX1) (N := 6) hx hb hts iw_X1_tested hown hK hP 0 rfl rfl 1 (by decide) (hts (.fieldLink RX1 7 "WordMillModel" "memory" "[J") (by decide +kernel)) (fun _ h9 => h9) rfl dX1_tested_248 ?_
    refine lv_iload_n hx hb dX1_tested_251 rfl (lv_at hl 6 rfl) ?_
    refine lv_lload hx hb dX1_tested_252 (lv_at hl 0 rfl) ?_
    refine va_last hx hb hK hP hD hS 1 0 rfl rfl hac dX1_tested_254 (fun H locs hP hD hS => ?_)
    have hP : va_P D vwCl (rW h a cA ((vp_updL u.1 (ac : Int32).toNatClampNeg x_245), u.2.1, u.2.2.1, u.2.2.2.1, u.2.2.2.2.1, u.2.2.2.2.2)) H := hP
    have hD : va_D (wA h a) (rW h a cA ((vp_updL u.1 (ac : Int32).toNatClampNeg x_245), u.2.1, u.2.2.1, u.2.2.2.1, u.2.2.2.2.1, u.2.2.2.2.2)) := hD
    generalize (vp_updL u.1 (ac : Int32).toNatClampNeg x_245) = f_254 at hP hD
    refine lv_iload_n hx hb dX1_tested_255 rfl (lv_at hl 5 rfl) ?_
    refine lv_lload hx hb dX1_tested_256 (lv_at hl 0 rfl) ?_
    refine ps_gol (As := [.long x_245]) (rest := [.int op]) ⟨hx, hb, hml, hown, hts⟩ (kX1_number l x_245) (va_cwS 1 hts gX1_tested_X1_number rfl rfl rfl (by decide +kernel) ⟨by decide, by decide⟩) rfl hl.1 rfl (Nat.le_of_ble_eq_true rfl) dX1_tested_258 ⟨Nat.zero_le _, Nat.zero_le _⟩ (fun r_258 q_258 => ?_)
    refine lv_lconst (v := 0) hx hb dX1_tested_261 (by decide) ?_
    refine ps_goi (As := [.int op, .long r_258, .long 0]) (rest := []) ⟨hx, hb, hml, hown, hts⟩ (kX1_is l op r_258 0) (va_cwS 3 hts gX1_tested_X1_is rfl rfl rfl (by decide +kernel) ⟨by decide, by decide⟩) rfl hl.1 rfl (Nat.le_of_ble_eq_true rfl) dX1_tested_262 ⟨Nat.zero_le _, Nat.zero_le _⟩ (fun r_262 q_262 => ?_)
    refine lv_if_eq (tgt := 273) hx hb dX1_tested_265 (by decide) (fun c_265 => ?_) (fun c_265 => ?_)
    · refine lv_iload hx hb dX1_tested_273 (lv_at hl 9 rfl) ?_
      exact mm_iret (mw := rW h a cA) (u1 := (f_254, u.2.1, u.2.2.1, u.2.2.2.1, u.2.2.2.2.1, u.2.2.2.2.2)) hx hb hr hlocks hP hK hD hS dX1_tested_275 ⟨⟨hI, rfl, rfl⟩, hnx⟩
    · refine lv_iload hx hb dX1_tested_268 (lv_at hl 1 rfl) ?_
      refine lv_goto (tgt := 275) hx hb dX1_tested_270 (by decide) ?_
      exact mm_iret (mw := rW h a cA) (u1 := (f_254, u.2.1, u.2.2.1, u.2.2.2.1, u.2.2.2.2.1, u.2.2.2.2.2)) hx hb hr hlocks hP hK hD hS dX1_tested_275 ⟨⟨hI, rfl, rfl⟩, (by rw [ex_24]; exact la4095 _)⟩
theorem iw_X1_one : ∀ w ∈ u_ws RX1 TX1 6, w ∈ wsX1_one := by decide +kernel
set_option maxHeartbeats 4000000 in
set_option maxRecDepth 100000 in
theorem kX1_one (l : Launch) (D : va_G) (h a : Nat) (cA : ClassId) (u : rS) (hI : rI u) (op : Int32) (ac : Int32) (e0 : Int64) (hac : vp_in ac 4096) : MM l yX1_one wsX1_one ({ frames := 3, cells := 0, slots := 0, locals := 79 }) D vwCl [(cA, .long)] (rW h a cA) (wA h a) u [.ref h, .int op, .int ac, .long e0] rv_v (fun _ u' => rK u u') := by
  refine mm_of (cc := cX1_one) (maxL := 9) (ret := none) (by decide) rfl (Nat.le_of_ble_eq_true rfl) (rA_in h a cA u) ?_
  intro p e s m below meth c ls C hl hP hK hD hS
  obtain ⟨hx, hb, hr, hml, hown, hts, hlocks⟩ := C
  have hl : lv_has ls 9 [(0, .ref h), (1, .int op), (2, .int ac), (3, .long e0)] := hl
  refine lv_aload_n hx hb dX1_one_0 rfl (lv_at hl 0 rfl) ?_
  refine va_get (D := D) (ci := 1) (v := .int u.2.2.2.2.1) (C := RX1) (T := TX1) (N := 6) hx hb hts iw_X1_one hown hK hP 0 rfl rfl 4 (by decide) (hts (.fieldLink RX1 36 "WordMillModel" "fault" "I") (by decide +kernel)) (fun _ h9 => h9) rfl dX1_one_1 ?_
  refine lv_if_eq (tgt := 8) hx hb dX1_one_4 (by decide) (fun c_4 => ?_) (fun c_4 => ?_)
  · refine lv_iload_n hx hb dX1_one_8 rfl (lv_at hl 1 rfl) ?_
    refine ps_goi (As := [.int op]) (rest := []) ⟨hx, hb, hml, hown, hts⟩ (kX1_needsWord l op) (va_cwS 1 hts gX1_one_X1_needsWord rfl rfl rfl (by decide +kernel) ⟨by decide, by decide⟩) rfl hl.1 rfl (Nat.le_of_ble_eq_true rfl) dX1_one_9 ⟨Nat.zero_le _, Nat.zero_le _⟩ (fun r_9 q_9 => ?_)
    refine lv_istore (lv' := [(5, .int r_9), (0, .ref h), (1, .int op), (2, .int ac), (3, .long e0)]) hx hb dX1_one_12 hl (by decide) rfl (fun ls hl => ?_)
    refine lv_iload hx hb dX1_one_14 (lv_at hl 0 rfl) ?_
    refine lv_if_eq (tgt := 27) hx hb dX1_one_16 (by decide) (fun c_16 => ?_) (fun c_16 => ?_)
    · refine lv_lconst (v := 0) hx hb dX1_one_27 (by decide) ?_
      refine lv_lstore (lv' := [(6, .long 0), (5, .int r_9), (0, .ref h), (1, .int op), (2, .int ac), (3, .long e0)]) hx hb dX1_one_28 hl (by decide) rfl (fun ls hl => ?_)
      refine lv_aload_n hx hb dX1_one_30 rfl (lv_at hl 2 rfl) ?_
      refine va_get (D := D) (ci := 1) (v := .int u.2.2.2.2.1) (C := RX1) (T := TX1) (N := 6) hx hb hts iw_X1_one hown hK hP 0 rfl rfl 4 (by decide) (hts (.fieldLink RX1 36 "WordMillModel" "fault" "I") (by decide +kernel)) (fun _ h9 => h9) rfl dX1_one_31 ?_
      refine lv_if_eq (tgt := 38) hx hb dX1_one_34 (by decide) (fun c_34 => ?_) (fun c_34 => ?_)
      · refine lv_aload_n hx hb dX1_one_38 rfl (lv_at hl 2 rfl) ?_
        refine va_get (D := D) (ci := 1) (v := .int u.2.2.1) (C := RX1) (T := TX1) (N := 6) hx hb hts iw_X1_one hown hK hP 0 rfl rfl 2 (by decide) (hts (.fieldLink RX1 33 "WordMillModel" "pc" "I") (by decide +kernel)) (fun _ h9 => h9) rfl dX1_one_39 ?_
        refine lv_iconst (v := 1) hx hb dX1_one_42 (by decide) ?_
        refine lv_iadd hx hb dX1_one_43 ?_
        refine lv_sipush (v := 4095) hx hb dX1_one_44 (by decide) ?_
        refine lv_iand hx hb dX1_one_47 ?_
        refine lv_topi (fun x_48 ex_48 => ?_)
        refine lv_istore (lv' := [(8, .int x_48), (6, .long 0), (5, .int r_9), (0, .ref h), (1, .int op), (2, .int ac), (3, .long e0)]) hx hb dX1_one_48 hl (by decide) rfl (fun ls hl => ?_)
        refine lv_iload_n hx hb dX1_one_50 rfl (lv_at hl 4 rfl) ?_
        refine lv_sipush (v := 192) hx hb dX1_one_51 (by decide) ?_
        refine lv_icmp_lt (tgt := 80) hx hb dX1_one_54 (by decide) (fun c_54 => ?_) (fun c_54 => ?_)
        · refine lv_iload_n hx hb dX1_one_80 rfl (lv_at hl 4 rfl) ?_
          refine lv_sipush (v := 172) hx hb dX1_one_81 (by decide) ?_
          refine lv_icmp_lt (tgt := 110) hx hb dX1_one_84 (by decide) (fun c_84 => ?_) (fun c_84 => ?_)
          · refine lv_aload_n hx hb dX1_one_110 rfl (lv_at hl 3 rfl) ?_
            refine lv_iload_n hx hb dX1_one_111 rfl (lv_at hl 4 rfl) ?_
            refine lv_iload_n hx hb dX1_one_112 rfl (lv_at hl 5 rfl) ?_
            refine lv_lload_n hx hb dX1_one_113 rfl (lv_at hl 6 rfl) ?_
            refine lv_lload hx hb dX1_one_114 (lv_at hl 1 rfl) ?_
            refine r_go (rv := rv_v) (As := [.int op, .int ac, .long e0, .long 0]) (rest := []) ⟨hx, hb, hml, hown, hts⟩ (kX1_moved l D h a cA (u.1, u.2.1, u.2.2.1, u.2.2.2.1, u.2.2.2.2.1, u.2.2.2.2.2) hI op ac e0 0 hac (Or.inl (q_9 c_16))) (cwV 4 hts gX1_one_X1_moved rfl rfl rfl (by decide +kernel) ⟨by decide, by decide⟩) hK hP hD hS rfl hl.1 rfl (Nat.le_of_ble_eq_true rfl) dX1_one_116 ⟨Nat.zero_le _, Nat.zero_le _⟩ (fun _ u_116 H locs q_116 hP hD hS => ?_)
            refine W.eq (g2 := F0 m 119 ls []) rfl ?_
            refine lv_aload_n hx hb dX1_one_119 rfl (lv_at hl 3 rfl) ?_
            refine va_get (D := D) (ci := 1) (v := .int u_116.2.2.2.2.1) (C := RX1) (T := TX1) (N := 6) hx hb hts iw_X1_one hown hK hP 0 rfl rfl 4 (by decide) (hts (.fieldLink RX1 36 "WordMillModel" "fault" "I") (by decide +kernel)) (fun _ h9 => h9) rfl dX1_one_120 ?_
            refine lv_if_ne (tgt := 132) hx hb dX1_one_123 (by decide) (fun c_123 => ?_) (fun c_123 => ?_)
            · exact mm_vret (mw := rW h a cA) (u1 := (u_116.1, u_116.2.1, u_116.2.2.1, u_116.2.2.2.1, u_116.2.2.2.2.1, u_116.2.2.2.2.2)) hx hb hr hlocks hP hK hD hS dX1_one_132 ⟨q_116.1, (q_116.2.1.trans rfl), (q_116.2.2.trans rfl)⟩
            · refine lv_aload_n hx hb dX1_one_126 rfl (lv_at hl 3 rfl) ?_
              refine lv_iload hx hb dX1_one_127 (lv_at hl 0 rfl) ?_
              refine va_put (D := D) (ci := 1) (v := .int x_48) (ty := .int) (C := RX1) (T := TX1) (N := 6) hx hb hts iw_X1_one tyX1 tyX1_ok nmX1 hown hK hP hD hS 0 rfl rfl 2 (by decide) (hts (.fieldLink RX1 33 "WordMillModel" "pc" "I") (by decide +kernel)) (fun _ h9 => h9) rfl (by decide +kernel) rfl rfl (Nat.le_of_ble_eq_true rfl) dX1_one_129 (fun H locs hP hD hS => ?_)
              have hP : va_P D vwCl (rW h a cA (u_116.1, u_116.2.1, x_48, u_116.2.2.2.1, u_116.2.2.2.2.1, u_116.2.2.2.2.2)) H := hP
              have hD : va_D (wA h a) (rW h a cA (u_116.1, u_116.2.1, x_48, u_116.2.2.2.1, u_116.2.2.2.2.1, u_116.2.2.2.2.2)) := hD
              exact mm_vret (mw := rW h a cA) (u1 := (u_116.1, u_116.2.1, x_48, u_116.2.2.2.1, u_116.2.2.2.2.1, u_116.2.2.2.2.2)) hx hb hr hlocks hP hK hD hS dX1_one_132 ⟨(by rw [ex_48]; exact vp_and4095 _), (q_116.2.1.trans rfl), (q_116.2.2.trans rfl)⟩
          · refine lv_iload_n hx hb dX1_one_87 rfl (lv_at hl 4 rfl) ?_
            refine lv_sipush (v := 180) hx hb dX1_one_88 (by decide) ?_
            refine lv_icmp_gt (tgt := 110) hx hb dX1_one_91 (by decide) (fun c_91 => ?_) (fun c_91 => ?_)
            · refine lv_aload_n hx hb dX1_one_110 rfl (lv_at hl 3 rfl) ?_
              refine lv_iload_n hx hb dX1_one_111 rfl (lv_at hl 4 rfl) ?_
              refine lv_iload_n hx hb dX1_one_112 rfl (lv_at hl 5 rfl) ?_
              refine lv_lload_n hx hb dX1_one_113 rfl (lv_at hl 6 rfl) ?_
              refine lv_lload hx hb dX1_one_114 (lv_at hl 1 rfl) ?_
              refine r_go (rv := rv_v) (As := [.int op, .int ac, .long e0, .long 0]) (rest := []) ⟨hx, hb, hml, hown, hts⟩ (kX1_moved l D h a cA (u.1, u.2.1, u.2.2.1, u.2.2.2.1, u.2.2.2.2.1, u.2.2.2.2.2) hI op ac e0 0 hac (Or.inl (q_9 c_16))) (cwV 4 hts gX1_one_X1_moved rfl rfl rfl (by decide +kernel) ⟨by decide, by decide⟩) hK hP hD hS rfl hl.1 rfl (Nat.le_of_ble_eq_true rfl) dX1_one_116 ⟨Nat.zero_le _, Nat.zero_le _⟩ (fun _ u_116 H locs q_116 hP hD hS => ?_)
              refine W.eq (g2 := F0 m 119 ls []) rfl ?_
              refine lv_aload_n hx hb dX1_one_119 rfl (lv_at hl 3 rfl) ?_
              refine va_get (D := D) (ci := 1) (v := .int u_116.2.2.2.2.1) (C := RX1) (T := TX1) (N := 6) hx hb hts iw_X1_one hown hK hP 0 rfl rfl 4 (by decide) (hts (.fieldLink RX1 36 "WordMillModel" "fault" "I") (by decide +kernel)) (fun _ h9 => h9) rfl dX1_one_120 ?_
              refine lv_if_ne (tgt := 132) hx hb dX1_one_123 (by decide) (fun c_123 => ?_) (fun c_123 => ?_)
              · exact mm_vret (mw := rW h a cA) (u1 := (u_116.1, u_116.2.1, u_116.2.2.1, u_116.2.2.2.1, u_116.2.2.2.2.1, u_116.2.2.2.2.2)) hx hb hr hlocks hP hK hD hS dX1_one_132 ⟨q_116.1, (q_116.2.1.trans rfl), (q_116.2.2.trans rfl)⟩
              · refine lv_aload_n hx hb dX1_one_126 rfl (lv_at hl 3 rfl) ?_
                refine lv_iload hx hb dX1_one_127 (lv_at hl 0 rfl) ?_
                refine va_put (D := D) (ci := 1) (v := .int x_48) (ty := .int) (C := RX1) (T := TX1) (N := 6) hx hb hts iw_X1_one tyX1 tyX1_ok nmX1 hown hK hP hD hS 0 rfl rfl 2 (by decide) (hts (.fieldLink RX1 33 "WordMillModel" "pc" "I") (by decide +kernel)) (fun _ h9 => h9) rfl (by decide +kernel) rfl rfl (Nat.le_of_ble_eq_true rfl) dX1_one_129 (fun H locs hP hD hS => ?_)
                have hP : va_P D vwCl (rW h a cA (u_116.1, u_116.2.1, x_48, u_116.2.2.2.1, u_116.2.2.2.2.1, u_116.2.2.2.2.2)) H := hP
                have hD : va_D (wA h a) (rW h a cA (u_116.1, u_116.2.1, x_48, u_116.2.2.2.1, u_116.2.2.2.2.1, u_116.2.2.2.2.2)) := hD
                exact mm_vret (mw := rW h a cA) (u1 := (u_116.1, u_116.2.1, x_48, u_116.2.2.2.1, u_116.2.2.2.2.1, u_116.2.2.2.2.2)) hx hb hr hlocks hP hK hD hS dX1_one_132 ⟨(by rw [ex_48]; exact vp_and4095 _), (q_116.2.1.trans rfl), (q_116.2.2.trans rfl)⟩
            · refine lv_aload_n hx hb dX1_one_94 rfl (lv_at hl 3 rfl) ?_
              refine lv_iload_n hx hb dX1_one_95 rfl (lv_at hl 4 rfl) ?_
              refine lv_iload_n hx hb dX1_one_96 rfl (lv_at hl 5 rfl) ?_
              refine lv_lload_n hx hb dX1_one_97 rfl (lv_at hl 6 rfl) ?_
              refine lv_lload hx hb dX1_one_98 (lv_at hl 1 rfl) ?_
              refine lv_iload hx hb dX1_one_100 (lv_at hl 0 rfl) ?_
              refine r_go (rv := rv_i) (As := [.int op, .int ac, .long e0, .long 0, .int x_48]) (rest := []) ⟨hx, hb, hml, hown, hts⟩ (kX1_piled l D h a cA (u.1, u.2.1, u.2.2.1, u.2.2.2.1, u.2.2.2.2.1, u.2.2.2.2.2) hI op ac e0 0 x_48 ⟨c_84, c_91⟩ hac (Or.inl (q_9 c_16)) (by rw [ex_48]; exact vp_and4095 _)) (cwV 5 hts gX1_one_X1_piled rfl rfl rfl (by decide +kernel) ⟨by decide, by decide⟩) hK hP hD hS rfl hl.1 rfl (Nat.le_of_ble_eq_true rfl) dX1_one_102 ⟨Nat.zero_le _, Nat.zero_le _⟩ (fun r_102 u_102 H locs q_102 hP hD hS => ?_)
              refine W.eq (g2 := F0 m 105 ls (.int r_102 :: [])) rfl ?_
              refine lv_istore (lv' := [(8, .int r_102), (6, .long 0), (5, .int r_9), (0, .ref h), (1, .int op), (2, .int ac), (3, .long e0)]) hx hb dX1_one_105 hl (by decide) rfl (fun ls hl => ?_)
              refine lv_goto (tgt := 119) hx hb dX1_one_107 (by decide) ?_
              refine lv_aload_n hx hb dX1_one_119 rfl (lv_at hl 3 rfl) ?_
              refine va_get (D := D) (ci := 1) (v := .int u_102.2.2.2.2.1) (C := RX1) (T := TX1) (N := 6) hx hb hts iw_X1_one hown hK hP 0 rfl rfl 4 (by decide) (hts (.fieldLink RX1 36 "WordMillModel" "fault" "I") (by decide +kernel)) (fun _ h9 => h9) rfl dX1_one_120 ?_
              refine lv_if_ne (tgt := 132) hx hb dX1_one_123 (by decide) (fun c_123 => ?_) (fun c_123 => ?_)
              · exact mm_vret (mw := rW h a cA) (u1 := (u_102.1, u_102.2.1, u_102.2.2.1, u_102.2.2.2.1, u_102.2.2.2.2.1, u_102.2.2.2.2.2)) hx hb hr hlocks hP hK hD hS dX1_one_132 ⟨q_102.1.1, (q_102.1.2.1.trans rfl), (q_102.1.2.2.trans rfl)⟩
              · refine lv_aload_n hx hb dX1_one_126 rfl (lv_at hl 3 rfl) ?_
                refine lv_iload hx hb dX1_one_127 (lv_at hl 0 rfl) ?_
                refine va_put (D := D) (ci := 1) (v := .int r_102) (ty := .int) (C := RX1) (T := TX1) (N := 6) hx hb hts iw_X1_one tyX1 tyX1_ok nmX1 hown hK hP hD hS 0 rfl rfl 2 (by decide) (hts (.fieldLink RX1 33 "WordMillModel" "pc" "I") (by decide +kernel)) (fun _ h9 => h9) rfl (by decide +kernel) rfl rfl (Nat.le_of_ble_eq_true rfl) dX1_one_129 (fun H locs hP hD hS => ?_)
                have hP : va_P D vwCl (rW h a cA (u_102.1, u_102.2.1, r_102, u_102.2.2.2.1, u_102.2.2.2.2.1, u_102.2.2.2.2.2)) H := hP
                have hD : va_D (wA h a) (rW h a cA (u_102.1, u_102.2.1, r_102, u_102.2.2.2.1, u_102.2.2.2.2.1, u_102.2.2.2.2.2)) := hD
                exact mm_vret (mw := rW h a cA) (u1 := (u_102.1, u_102.2.1, r_102, u_102.2.2.2.1, u_102.2.2.2.2.1, u_102.2.2.2.2.2)) hx hb hr hlocks hP hK hD hS dX1_one_132 ⟨q_102.2, (q_102.1.2.1.trans rfl), (q_102.1.2.2.trans rfl)⟩
        · refine lv_iload_n hx hb dX1_one_57 rfl (lv_at hl 4 rfl) ?_
          refine lv_sipush (v := 255) hx hb dX1_one_58 (by decide) ?_
          refine lv_icmp_gt (tgt := 80) hx hb dX1_one_61 (by decide) (fun c_61 => ?_) (fun c_61 => ?_)
          · refine lv_iload_n hx hb dX1_one_80 rfl (lv_at hl 4 rfl) ?_
            refine lv_sipush (v := 172) hx hb dX1_one_81 (by decide) ?_
            refine lv_icmp_lt (tgt := 110) hx hb dX1_one_84 (by decide) (fun c_84 => ?_) (fun c_84 => ?_)
            · refine lv_aload_n hx hb dX1_one_110 rfl (lv_at hl 3 rfl) ?_
              refine lv_iload_n hx hb dX1_one_111 rfl (lv_at hl 4 rfl) ?_
              refine lv_iload_n hx hb dX1_one_112 rfl (lv_at hl 5 rfl) ?_
              refine lv_lload_n hx hb dX1_one_113 rfl (lv_at hl 6 rfl) ?_
              refine lv_lload hx hb dX1_one_114 (lv_at hl 1 rfl) ?_
              refine r_go (rv := rv_v) (As := [.int op, .int ac, .long e0, .long 0]) (rest := []) ⟨hx, hb, hml, hown, hts⟩ (kX1_moved l D h a cA (u.1, u.2.1, u.2.2.1, u.2.2.2.1, u.2.2.2.2.1, u.2.2.2.2.2) hI op ac e0 0 hac (Or.inl (q_9 c_16))) (cwV 4 hts gX1_one_X1_moved rfl rfl rfl (by decide +kernel) ⟨by decide, by decide⟩) hK hP hD hS rfl hl.1 rfl (Nat.le_of_ble_eq_true rfl) dX1_one_116 ⟨Nat.zero_le _, Nat.zero_le _⟩ (fun _ u_116 H locs q_116 hP hD hS => ?_)
              refine W.eq (g2 := F0 m 119 ls []) rfl ?_
              refine lv_aload_n hx hb dX1_one_119 rfl (lv_at hl 3 rfl) ?_
              refine va_get (D := D) (ci := 1) (v := .int u_116.2.2.2.2.1) (C := RX1) (T := TX1) (N := 6) hx hb hts iw_X1_one hown hK hP 0 rfl rfl 4 (by decide) (hts (.fieldLink RX1 36 "WordMillModel" "fault" "I") (by decide +kernel)) (fun _ h9 => h9) rfl dX1_one_120 ?_
              refine lv_if_ne (tgt := 132) hx hb dX1_one_123 (by decide) (fun c_123 => ?_) (fun c_123 => ?_)
              · exact mm_vret (mw := rW h a cA) (u1 := (u_116.1, u_116.2.1, u_116.2.2.1, u_116.2.2.2.1, u_116.2.2.2.2.1, u_116.2.2.2.2.2)) hx hb hr hlocks hP hK hD hS dX1_one_132 ⟨q_116.1, (q_116.2.1.trans rfl), (q_116.2.2.trans rfl)⟩
              · refine lv_aload_n hx hb dX1_one_126 rfl (lv_at hl 3 rfl) ?_
                refine lv_iload hx hb dX1_one_127 (lv_at hl 0 rfl) ?_
                refine va_put (D := D) (ci := 1) (v := .int x_48) (ty := .int) (C := RX1) (T := TX1) (N := 6) hx hb hts iw_X1_one tyX1 tyX1_ok nmX1 hown hK hP hD hS 0 rfl rfl 2 (by decide) (hts (.fieldLink RX1 33 "WordMillModel" "pc" "I") (by decide +kernel)) (fun _ h9 => h9) rfl (by decide +kernel) rfl rfl (Nat.le_of_ble_eq_true rfl) dX1_one_129 (fun H locs hP hD hS => ?_)
                have hP : va_P D vwCl (rW h a cA (u_116.1, u_116.2.1, x_48, u_116.2.2.2.1, u_116.2.2.2.2.1, u_116.2.2.2.2.2)) H := hP
                have hD : va_D (wA h a) (rW h a cA (u_116.1, u_116.2.1, x_48, u_116.2.2.2.1, u_116.2.2.2.2.1, u_116.2.2.2.2.2)) := hD
                exact mm_vret (mw := rW h a cA) (u1 := (u_116.1, u_116.2.1, x_48, u_116.2.2.2.1, u_116.2.2.2.2.1, u_116.2.2.2.2.2)) hx hb hr hlocks hP hK hD hS dX1_one_132 ⟨(by rw [ex_48]; exact vp_and4095 _), (q_116.2.1.trans rfl), (q_116.2.2.trans rfl)⟩
            · refine lv_iload_n hx hb dX1_one_87 rfl (lv_at hl 4 rfl) ?_
              refine lv_sipush (v := 180) hx hb dX1_one_88 (by decide) ?_
              refine lv_icmp_gt (tgt := 110) hx hb dX1_one_91 (by decide) (fun c_91 => ?_) (fun c_91 => ?_)
              · refine lv_aload_n hx hb dX1_one_110 rfl (lv_at hl 3 rfl) ?_
                refine lv_iload_n hx hb dX1_one_111 rfl (lv_at hl 4 rfl) ?_
                refine lv_iload_n hx hb dX1_one_112 rfl (lv_at hl 5 rfl) ?_
                refine lv_lload_n hx hb dX1_one_113 rfl (lv_at hl 6 rfl) ?_
                refine lv_lload hx hb dX1_one_114 (lv_at hl 1 rfl) ?_
                refine r_go (rv := rv_v) (As := [.int op, .int ac, .long e0, .long 0]) (rest := []) ⟨hx, hb, hml, hown, hts⟩ (kX1_moved l D h a cA (u.1, u.2.1, u.2.2.1, u.2.2.2.1, u.2.2.2.2.1, u.2.2.2.2.2) hI op ac e0 0 hac (Or.inl (q_9 c_16))) (cwV 4 hts gX1_one_X1_moved rfl rfl rfl (by decide +kernel) ⟨by decide, by decide⟩) hK hP hD hS rfl hl.1 rfl (Nat.le_of_ble_eq_true rfl) dX1_one_116 ⟨Nat.zero_le _, Nat.zero_le _⟩ (fun _ u_116 H locs q_116 hP hD hS => ?_)
                refine W.eq (g2 := F0 m 119 ls []) rfl ?_
                refine lv_aload_n hx hb dX1_one_119 rfl (lv_at hl 3 rfl) ?_
                refine va_get (D := D) (ci := 1) (v := .int u_116.2.2.2.2.1) (C := RX1) (T := TX1) (N := 6) hx hb hts iw_X1_one hown hK hP 0 rfl rfl 4 (by decide) (hts (.fieldLink RX1 36 "WordMillModel" "fault" "I") (by decide +kernel)) (fun _ h9 => h9) rfl dX1_one_120 ?_
                refine lv_if_ne (tgt := 132) hx hb dX1_one_123 (by decide) (fun c_123 => ?_) (fun c_123 => ?_)
                · exact mm_vret (mw := rW h a cA) (u1 := (u_116.1, u_116.2.1, u_116.2.2.1, u_116.2.2.2.1, u_116.2.2.2.2.1, u_116.2.2.2.2.2)) hx hb hr hlocks hP hK hD hS dX1_one_132 ⟨q_116.1, (q_116.2.1.trans rfl), (q_116.2.2.trans rfl)⟩
                · refine lv_aload_n hx hb dX1_one_126 rfl (lv_at hl 3 rfl) ?_
                  refine lv_iload hx hb dX1_one_127 (lv_at hl 0 rfl) ?_
                  refine va_put (D := D) (ci := 1) (v := .int x_48) (ty := .int) (C := RX1) (T := TX1) (N := 6) hx hb hts iw_X1_one tyX1 tyX1_ok nmX1 hown hK hP hD hS 0 rfl rfl 2 (by decide) (hts (.fieldLink RX1 33 "WordMillModel" "pc" "I") (by decide +kernel)) (fun _ h9 => h9) rfl (by decide +kernel) rfl rfl (Nat.le_of_ble_eq_true rfl) dX1_one_129 (fun H locs hP hD hS => ?_)
                  have hP : va_P D vwCl (rW h a cA (u_116.1, u_116.2.1, x_48, u_116.2.2.2.1, u_116.2.2.2.2.1, u_116.2.2.2.2.2)) H := hP
                  have hD : va_D (wA h a) (rW h a cA (u_116.1, u_116.2.1, x_48, u_116.2.2.2.1, u_116.2.2.2.2.1, u_116.2.2.2.2.2)) := hD
                  exact mm_vret (mw := rW h a cA) (u1 := (u_116.1, u_116.2.1, x_48, u_116.2.2.2.1, u_116.2.2.2.2.1, u_116.2.2.2.2.2)) hx hb hr hlocks hP hK hD hS dX1_one_132 ⟨(by rw [ex_48]; exact vp_and4095 _), (q_116.2.1.trans rfl), (q_116.2.2.trans rfl)⟩
              · refine lv_aload_n hx hb dX1_one_94 rfl (lv_at hl 3 rfl) ?_
                refine lv_iload_n hx hb dX1_one_95 rfl (lv_at hl 4 rfl) ?_
                refine lv_iload_n hx hb dX1_one_96 rfl (lv_at hl 5 rfl) ?_
                refine lv_lload_n hx hb dX1_one_97 rfl (lv_at hl 6 rfl) ?_
                refine lv_lload hx hb dX1_one_98 (lv_at hl 1 rfl) ?_
                refine lv_iload hx hb dX1_one_100 (lv_at hl 0 rfl) ?_
                refine r_go (rv := rv_i) (As := [.int op, .int ac, .long e0, .long 0, .int x_48]) (rest := []) ⟨hx, hb, hml, hown, hts⟩ (kX1_piled l D h a cA (u.1, u.2.1, u.2.2.1, u.2.2.2.1, u.2.2.2.2.1, u.2.2.2.2.2) hI op ac e0 0 x_48 ⟨c_84, c_91⟩ hac (Or.inl (q_9 c_16)) (by rw [ex_48]; exact vp_and4095 _)) (cwV 5 hts gX1_one_X1_piled rfl rfl rfl (by decide +kernel) ⟨by decide, by decide⟩) hK hP hD hS rfl hl.1 rfl (Nat.le_of_ble_eq_true rfl) dX1_one_102 ⟨Nat.zero_le _, Nat.zero_le _⟩ (fun r_102 u_102 H locs q_102 hP hD hS => ?_)
                refine W.eq (g2 := F0 m 105 ls (.int r_102 :: [])) rfl ?_
                refine lv_istore (lv' := [(8, .int r_102), (6, .long 0), (5, .int r_9), (0, .ref h), (1, .int op), (2, .int ac), (3, .long e0)]) hx hb dX1_one_105 hl (by decide) rfl (fun ls hl => ?_)
                refine lv_goto (tgt := 119) hx hb dX1_one_107 (by decide) ?_
                refine lv_aload_n hx hb dX1_one_119 rfl (lv_at hl 3 rfl) ?_
                refine va_get (D := D) (ci := 1) (v := .int u_102.2.2.2.2.1) (C := RX1) (T := TX1) (N := 6) hx hb hts iw_X1_one hown hK hP 0 rfl rfl 4 (by decide) (hts (.fieldLink RX1 36 "WordMillModel" "fault" "I") (by decide +kernel)) (fun _ h9 => h9) rfl dX1_one_120 ?_
                refine lv_if_ne (tgt := 132) hx hb dX1_one_123 (by decide) (fun c_123 => ?_) (fun c_123 => ?_)
                · exact mm_vret (mw := rW h a cA) (u1 := (u_102.1, u_102.2.1, u_102.2.2.1, u_102.2.2.2.1, u_102.2.2.2.2.1, u_102.2.2.2.2.2)) hx hb hr hlocks hP hK hD hS dX1_one_132 ⟨q_102.1.1, (q_102.1.2.1.trans rfl), (q_102.1.2.2.trans rfl)⟩
                · refine lv_aload_n hx hb dX1_one_126 rfl (lv_at hl 3 rfl) ?_
                  refine lv_iload hx hb dX1_one_127 (lv_at hl 0 rfl) ?_
                  refine va_put (D := D) (ci := 1) (v := .int r_102) (ty := .int) (C := RX1) (T := TX1) (N := 6) hx hb hts iw_X1_one tyX1 tyX1_ok nmX1 hown hK hP hD hS 0 rfl rfl 2 (by decide) (hts (.fieldLink RX1 33 "WordMillModel" "pc" "I") (by decide +kernel)) (fun _ h9 => h9) rfl (by decide +kernel) rfl rfl (Nat.le_of_ble_eq_true rfl) dX1_one_129 (fun H locs hP hD hS => ?_)
                  have hP : va_P D vwCl (rW h a cA (u_102.1, u_102.2.1, r_102, u_102.2.2.2.1, u_102.2.2.2.2.1, u_102.2.2.2.2.2)) H := hP
                  have hD : va_D (wA h a) (rW h a cA (u_102.1, u_102.2.1, r_102, u_102.2.2.2.1, u_102.2.2.2.2.1, u_102.2.2.2.2.2)) := hD
                  exact mm_vret (mw := rW h a cA) (u1 := (u_102.1, u_102.2.1, r_102, u_102.2.2.2.1, u_102.2.2.2.2.1, u_102.2.2.2.2.2)) hx hb hr hlocks hP hK hD hS dX1_one_132 ⟨q_102.2, (q_102.1.2.1.trans rfl), (q_102.1.2.2.trans rfl)⟩
          · refine lv_aload_n hx hb dX1_one_64 rfl (lv_at hl 3 rfl) ?_
            refine lv_iload_n hx hb dX1_one_65 rfl (lv_at hl 4 rfl) ?_
            refine lv_iload_n hx hb dX1_one_66 rfl (lv_at hl 5 rfl) ?_
            refine lv_lload_n hx hb dX1_one_67 rfl (lv_at hl 6 rfl) ?_
            refine lv_lload hx hb dX1_one_68 (lv_at hl 1 rfl) ?_
            refine lv_iload hx hb dX1_one_70 (lv_at hl 0 rfl) ?_
            refine r_go (rv := rv_i) (As := [.int op, .int ac, .long e0, .long 0, .int x_48]) (rest := []) ⟨hx, hb, hml, hown, hts⟩ (kX1_tested l D h a cA (u.1, u.2.1, u.2.2.1, u.2.2.2.1, u.2.2.2.2.1, u.2.2.2.2.2) hI op ac e0 0 x_48 ⟨c_54, c_61⟩ hac (Or.inl (q_9 c_16)) (by rw [ex_48]; exact vp_and4095 _)) (cwV 5 hts gX1_one_X1_tested rfl rfl rfl (by decide +kernel) ⟨by decide, by decide⟩) hK hP hD hS rfl hl.1 rfl (Nat.le_of_ble_eq_true rfl) dX1_one_72 ⟨Nat.zero_le _, Nat.zero_le _⟩ (fun r_72 u_72 H locs q_72 hP hD hS => ?_)
            refine W.eq (g2 := F0 m 75 ls (.int r_72 :: [])) rfl ?_
            refine lv_istore (lv' := [(8, .int r_72), (6, .long 0), (5, .int r_9), (0, .ref h), (1, .int op), (2, .int ac), (3, .long e0)]) hx hb dX1_one_75 hl (by decide) rfl (fun ls hl => ?_)
            refine lv_goto (tgt := 119) hx hb dX1_one_77 (by decide) ?_
            refine lv_aload_n hx hb dX1_one_119 rfl (lv_at hl 3 rfl) ?_
            refine va_get (D := D) (ci := 1) (v := .int u_72.2.2.2.2.1) (C := RX1) (T := TX1) (N := 6) hx hb hts iw_X1_one hown hK hP 0 rfl rfl 4 (by decide) (hts (.fieldLink RX1 36 "WordMillModel" "fault" "I") (by decide +kernel)) (fun _ h9 => h9) rfl dX1_one_120 ?_
            refine lv_if_ne (tgt := 132) hx hb dX1_one_123 (by decide) (fun c_123 => ?_) (fun c_123 => ?_)
            · exact mm_vret (mw := rW h a cA) (u1 := (u_72.1, u_72.2.1, u_72.2.2.1, u_72.2.2.2.1, u_72.2.2.2.2.1, u_72.2.2.2.2.2)) hx hb hr hlocks hP hK hD hS dX1_one_132 ⟨q_72.1.1, (q_72.1.2.1.trans rfl), (q_72.1.2.2.trans rfl)⟩
            · refine lv_aload_n hx hb dX1_one_126 rfl (lv_at hl 3 rfl) ?_
              refine lv_iload hx hb dX1_one_127 (lv_at hl 0 rfl) ?_
              refine va_put (D := D) (ci := 1) (v := .int r_72) (ty := .int) (C := RX1) (T := TX1) (N := 6) hx hb hts iw_X1_one tyX1 tyX1_ok nmX1 hown hK hP hD hS 0 rfl rfl 2 (by decide) (hts (.fieldLink RX1 33 "WordMillModel" "pc" "I") (by decide +kernel)) (fun _ h9 => h9) rfl (by decide +kernel) rfl rfl (Nat.le_of_ble_eq_true rfl) dX1_one_129 (fun H locs hP hD hS => ?_)
              have hP : va_P D vwCl (rW h a cA (u_72.1, u_72.2.1, r_72, u_72.2.2.2.1, u_72.2.2.2.2.1, u_72.2.2.2.2.2)) H := hP
              have hD : va_D (wA h a) (rW h a cA (u_72.1, u_72.2.1, r_72, u_72.2.2.2.1, u_72.2.2.2.2.1, u_72.2.2.2.2.2)) := hD
              exact mm_vret (mw := rW h a cA) (u1 := (u_72.1, u_72.2.1, r_72, u_72.2.2.2.1, u_72.2.2.2.2.1, u_72.2.2.2.2.2)) hx hb hr hlocks hP hK hD hS dX1_one_132 ⟨q_72.2, (q_72.1.2.1.trans rfl), (q_72.1.2.2.trans rfl)⟩
      · exact mm_vret (mw := rW h a cA) (u1 := (u.1, u.2.1, u.2.2.1, u.2.2.2.1, u.2.2.2.2.1, u.2.2.2.2.2)) hx hb hr hlocks hP hK hD hS dX1_one_37 ⟨hI, rfl, rfl⟩
    · refine lv_aload_n hx hb dX1_one_19 rfl (lv_at hl 1 rfl) ?_
      refine lv_lload_n hx hb dX1_one_20 rfl (lv_at hl 4 rfl) ?_
      refine r_go (rv := rv_l) (As := [.long e0]) (rest := []) ⟨hx, hb, hml, hown, hts⟩ (kX1_at l D h a cA (u.1, u.2.1, u.2.2.1, u.2.2.2.1, u.2.2.2.2.1, u.2.2.2.2.2) hI e0 ) (cwV 1 hts gX1_one_X1_at rfl rfl rfl (by decide +kernel) ⟨by decide, by decide⟩) hK hP hD hS rfl hl.1 rfl (Nat.le_of_ble_eq_true rfl) dX1_one_21 ⟨Nat.zero_le _, Nat.zero_le _⟩ (fun r_21 u_21 H locs q_21 hP hD hS => ?_)
      refine W.eq (g2 := F0 m 24 ls (.long r_21 :: [])) rfl ?_
      refine lv_goto (tgt := 28) hx hb dX1_one_24 (by decide) ?_
      refine lv_lstore (lv' := [(6, .long r_21), (5, .int r_9), (0, .ref h), (1, .int op), (2, .int ac), (3, .long e0)]) hx hb dX1_one_28 hl (by decide) rfl (fun ls hl => ?_)
      refine lv_aload_n hx hb dX1_one_30 rfl (lv_at hl 2 rfl) ?_
      refine va_get (D := D) (ci := 1) (v := .int u_21.2.2.2.2.1) (C := RX1) (T := TX1) (N := 6) hx hb hts iw_X1_one hown hK hP 0 rfl rfl 4 (by decide) (hts (.fieldLink RX1 36 "WordMillModel" "fault" "I") (by decide +kernel)) (fun _ h9 => h9) rfl dX1_one_31 ?_
      refine lv_if_eq (tgt := 38) hx hb dX1_one_34 (by decide) (fun c_34 => ?_) (fun c_34 => ?_)
      · refine lv_aload_n hx hb dX1_one_38 rfl (lv_at hl 2 rfl) ?_
        refine va_get (D := D) (ci := 1) (v := .int u_21.2.2.1) (C := RX1) (T := TX1) (N := 6) hx hb hts iw_X1_one hown hK hP 0 rfl rfl 2 (by decide) (hts (.fieldLink RX1 33 "WordMillModel" "pc" "I") (by decide +kernel)) (fun _ h9 => h9) rfl dX1_one_39 ?_
        refine lv_iconst (v := 1) hx hb dX1_one_42 (by decide) ?_
        refine lv_iadd hx hb dX1_one_43 ?_
        refine lv_sipush (v := 4095) hx hb dX1_one_44 (by decide) ?_
        refine lv_iand hx hb dX1_one_47 ?_
        refine lv_topi (fun x_48 ex_48 => ?_)
        refine lv_istore (lv' := [(8, .int x_48), (6, .long r_21), (5, .int r_9), (0, .ref h), (1, .int op), (2, .int ac), (3, .long e0)]) hx hb dX1_one_48 hl (by decide) rfl (fun ls hl => ?_)
        refine lv_iload_n hx hb dX1_one_50 rfl (lv_at hl 4 rfl) ?_
        refine lv_sipush (v := 192) hx hb dX1_one_51 (by decide) ?_
        refine lv_icmp_lt (tgt := 80) hx hb dX1_one_54 (by decide) (fun c_54 => ?_) (fun c_54 => ?_)
        · refine lv_iload_n hx hb dX1_one_80 rfl (lv_at hl 4 rfl) ?_
          refine lv_sipush (v := 172) hx hb dX1_one_81 (by decide) ?_
          refine lv_icmp_lt (tgt := 110) hx hb dX1_one_84 (by decide) (fun c_84 => ?_) (fun c_84 => ?_)
          · refine lv_aload_n hx hb dX1_one_110 rfl (lv_at hl 3 rfl) ?_
            refine lv_iload_n hx hb dX1_one_111 rfl (lv_at hl 4 rfl) ?_
            refine lv_iload_n hx hb dX1_one_112 rfl (lv_at hl 5 rfl) ?_
            refine lv_lload_n hx hb dX1_one_113 rfl (lv_at hl 6 rfl) ?_
            refine lv_lload hx hb dX1_one_114 (lv_at hl 1 rfl) ?_
            refine r_go (rv := rv_v) (As := [.int op, .int ac, .long e0, .long r_21]) (rest := []) ⟨hx, hb, hml, hown, hts⟩ (kX1_moved l D h a cA (u_21.1, u_21.2.1, u_21.2.2.1, u_21.2.2.2.1, u_21.2.2.2.2.1, u_21.2.2.2.2.2) q_21.1.1 op ac e0 r_21 hac (Or.inr (q_21.2 c_34))) (cwV 4 hts gX1_one_X1_moved rfl rfl rfl (by decide +kernel) ⟨by decide, by decide⟩) hK hP hD hS rfl hl.1 rfl (Nat.le_of_ble_eq_true rfl) dX1_one_116 ⟨Nat.zero_le _, Nat.zero_le _⟩ (fun _ u_116 H locs q_116 hP hD hS => ?_)
            refine W.eq (g2 := F0 m 119 ls []) rfl ?_
            refine lv_aload_n hx hb dX1_one_119 rfl (lv_at hl 3 rfl) ?_
            refine va_get (D := D) (ci := 1) (v := .int u_116.2.2.2.2.1) (C := RX1) (T := TX1) (N := 6) hx hb hts iw_X1_one hown hK hP 0 rfl rfl 4 (by decide) (hts (.fieldLink RX1 36 "WordMillModel" "fault" "I") (by decide +kernel)) (fun _ h9 => h9) rfl dX1_one_120 ?_
            refine lv_if_ne (tgt := 132) hx hb dX1_one_123 (by decide) (fun c_123 => ?_) (fun c_123 => ?_)
            · exact mm_vret (mw := rW h a cA) (u1 := (u_116.1, u_116.2.1, u_116.2.2.1, u_116.2.2.2.1, u_116.2.2.2.2.1, u_116.2.2.2.2.2)) hx hb hr hlocks hP hK hD hS dX1_one_132 ⟨q_116.1, (q_116.2.1.trans (q_21.1.2.1.trans rfl)), (q_116.2.2.trans (q_21.1.2.2.trans rfl))⟩
            · refine lv_aload_n hx hb dX1_one_126 rfl (lv_at hl 3 rfl) ?_
              refine lv_iload hx hb dX1_one_127 (lv_at hl 0 rfl) ?_
              refine va_put (D := D) (ci := 1) (v := .int x_48) (ty := .int) (C := RX1) (T := TX1) (N := 6) hx hb hts iw_X1_one tyX1 tyX1_ok nmX1 hown hK hP hD hS 0 rfl rfl 2 (by decide) (hts (.fieldLink RX1 33 "WordMillModel" "pc" "I") (by decide +kernel)) (fun _ h9 => h9) rfl (by decide +kernel) rfl rfl (Nat.le_of_ble_eq_true rfl) dX1_one_129 (fun H locs hP hD hS => ?_)
              have hP : va_P D vwCl (rW h a cA (u_116.1, u_116.2.1, x_48, u_116.2.2.2.1, u_116.2.2.2.2.1, u_116.2.2.2.2.2)) H := hP
              have hD : va_D (wA h a) (rW h a cA (u_116.1, u_116.2.1, x_48, u_116.2.2.2.1, u_116.2.2.2.2.1, u_116.2.2.2.2.2)) := hD
              exact mm_vret (mw := rW h a cA) (u1 := (u_116.1, u_116.2.1, x_48, u_116.2.2.2.1, u_116.2.2.2.2.1, u_116.2.2.2.2.2)) hx hb hr hlocks hP hK hD hS dX1_one_132 ⟨(by rw [ex_48]; exact vp_and4095 _), (q_116.2.1.trans (q_21.1.2.1.trans rfl)), (q_116.2.2.trans (q_21.1.2.2.trans rfl))⟩
          · refine lv_iload_n hx hb dX1_one_87 rfl (lv_at hl 4 rfl) ?_
            refine lv_sipush (v := 180) hx hb dX1_one_88 (by decide) ?_
            refine lv_icmp_gt (tgt := 110) hx hb dX1_one_91 (by decide) (fun c_91 => ?_) (fun c_91 => ?_)
            · refine lv_aload_n hx hb dX1_one_110 rfl (lv_at hl 3 rfl) ?_
              refine lv_iload_n hx hb dX1_one_111 rfl (lv_at hl 4 rfl) ?_
              refine lv_iload_n hx hb dX1_one_112 rfl (lv_at hl 5 rfl) ?_
              refine lv_lload_n hx hb dX1_one_113 rfl (lv_at hl 6 rfl) ?_
              refine lv_lload hx hb dX1_one_114 (lv_at hl 1 rfl) ?_
              refine r_go (rv := rv_v) (As := [.int op, .int ac, .long e0, .long r_21]) (rest := []) ⟨hx, hb, hml, hown, hts⟩ (kX1_moved l D h a cA (u_21.1, u_21.2.1, u_21.2.2.1, u_21.2.2.2.1, u_21.2.2.2.2.1, u_21.2.2.2.2.2) q_21.1.1 op ac e0 r_21 hac (Or.inr (q_21.2 c_34))) (cwV 4 hts gX1_one_X1_moved rfl rfl rfl (by decide +kernel) ⟨by decide, by decide⟩) hK hP hD hS rfl hl.1 rfl (Nat.le_of_ble_eq_true rfl) dX1_one_116 ⟨Nat.zero_le _, Nat.zero_le _⟩ (fun _ u_116 H locs q_116 hP hD hS => ?_)
              refine W.eq (g2 := F0 m 119 ls []) rfl ?_
              refine lv_aload_n hx hb dX1_one_119 rfl (lv_at hl 3 rfl) ?_
              refine va_get (D := D) (ci := 1) (v := .int u_116.2.2.2.2.1) (C := RX1) (T := TX1) (N := 6) hx hb hts iw_X1_one hown hK hP 0 rfl rfl 4 (by decide) (hts (.fieldLink RX1 36 "WordMillModel" "fault" "I") (by decide +kernel)) (fun _ h9 => h9) rfl dX1_one_120 ?_
              refine lv_if_ne (tgt := 132) hx hb dX1_one_123 (by decide) (fun c_123 => ?_) (fun c_123 => ?_)
              · exact mm_vret (mw := rW h a cA) (u1 := (u_116.1, u_116.2.1, u_116.2.2.1, u_116.2.2.2.1, u_116.2.2.2.2.1, u_116.2.2.2.2.2)) hx hb hr hlocks hP hK hD hS dX1_one_132 ⟨q_116.1, (q_116.2.1.trans (q_21.1.2.1.trans rfl)), (q_116.2.2.trans (q_21.1.2.2.trans rfl))⟩
              · refine lv_aload_n hx hb dX1_one_126 rfl (lv_at hl 3 rfl) ?_
                refine lv_iload hx hb dX1_one_127 (lv_at hl 0 rfl) ?_
                refine va_put (D := D) (ci := 1) (v := .int x_48) (ty := .int) (C := RX1) (T := TX1) (N := 6) hx hb hts iw_X1_one tyX1 tyX1_ok nmX1 hown hK hP hD hS 0 rfl rfl 2 (by decide) (hts (.fieldLink RX1 33 "WordMillModel" "pc" "I") (by decide +kernel)) (fun _ h9 => h9) rfl (by decide +kernel) rfl rfl (Nat.le_of_ble_eq_true rfl) dX1_one_129 (fun H locs hP hD hS => ?_)
                have hP : va_P D vwCl (rW h a cA (u_116.1, u_116.2.1, x_48, u_116.2.2.2.1, u_116.2.2.2.2.1, u_116.2.2.2.2.2)) H := hP
                have hD : va_D (wA h a) (rW h a cA (u_116.1, u_116.2.1, x_48, u_116.2.2.2.1, u_116.2.2.2.2.1, u_116.2.2.2.2.2)) := hD
                exact mm_vret (mw := rW h a cA) (u1 := (u_116.1, u_116.2.1, x_48, u_116.2.2.2.1, u_116.2.2.2.2.1, u_116.2.2.2.2.2)) hx hb hr hlocks hP hK hD hS dX1_one_132 ⟨(by rw [ex_48]; exact vp_and4095 _), (q_116.2.1.trans (q_21.1.2.1.trans rfl)), (q_116.2.2.trans (q_21.1.2.2.trans rfl))⟩
            · refine lv_aload_n hx hb dX1_one_94 rfl (lv_at hl 3 rfl) ?_
              refine lv_iload_n hx hb dX1_one_95 rfl (lv_at hl 4 rfl) ?_
              refine lv_iload_n hx hb dX1_one_96 rfl (lv_at hl 5 rfl) ?_
              refine lv_lload_n hx hb dX1_one_97 rfl (lv_at hl 6 rfl) ?_
              refine lv_lload hx hb dX1_one_98 (lv_at hl 1 rfl) ?_
              refine lv_iload hx hb dX1_one_100 (lv_at hl 0 rfl) ?_
              refine r_go (rv := rv_i) (As := [.int op, .int ac, .long e0, .long r_21, .int x_48]) (rest := []) ⟨hx, hb, hml, hown, hts⟩ (kX1_piled l D h a cA (u_21.1, u_21.2.1, u_21.2.2.1, u_21.2.2.2.1, u_21.2.2.2.2.1, u_21.2.2.2.2.2) q_21.1.1 op ac e0 r_21 x_48 ⟨c_84, c_91⟩ hac (Or.inr (q_21.2 c_34)) (by rw [ex_48]; exact vp_and4095 _)) (cwV 5 hts gX1_one_X1_piled rfl rfl rfl (by decide +kernel) ⟨by decide, by decide⟩) hK hP hD hS rfl hl.1 rfl (Nat.le_of_ble_eq_true rfl) dX1_one_102 ⟨Nat.zero_le _, Nat.zero_le _⟩ (fun r_102 u_102 H locs q_102 hP hD hS => ?_)
              refine W.eq (g2 := F0 m 105 ls (.int r_102 :: [])) rfl ?_
              refine lv_istore (lv' := [(8, .int r_102), (6, .long r_21), (5, .int r_9), (0, .ref h), (1, .int op), (2, .int ac), (3, .long e0)]) hx hb dX1_one_105 hl (by decide) rfl (fun ls hl => ?_)
              refine lv_goto (tgt := 119) hx hb dX1_one_107 (by decide) ?_
              refine lv_aload_n hx hb dX1_one_119 rfl (lv_at hl 3 rfl) ?_
              refine va_get (D := D) (ci := 1) (v := .int u_102.2.2.2.2.1) (C := RX1) (T := TX1) (N := 6) hx hb hts iw_X1_one hown hK hP 0 rfl rfl 4 (by decide) (hts (.fieldLink RX1 36 "WordMillModel" "fault" "I") (by decide +kernel)) (fun _ h9 => h9) rfl dX1_one_120 ?_
              refine lv_if_ne (tgt := 132) hx hb dX1_one_123 (by decide) (fun c_123 => ?_) (fun c_123 => ?_)
              · exact mm_vret (mw := rW h a cA) (u1 := (u_102.1, u_102.2.1, u_102.2.2.1, u_102.2.2.2.1, u_102.2.2.2.2.1, u_102.2.2.2.2.2)) hx hb hr hlocks hP hK hD hS dX1_one_132 ⟨q_102.1.1, (q_102.1.2.1.trans (q_21.1.2.1.trans rfl)), (q_102.1.2.2.trans (q_21.1.2.2.trans rfl))⟩
              · refine lv_aload_n hx hb dX1_one_126 rfl (lv_at hl 3 rfl) ?_
                refine lv_iload hx hb dX1_one_127 (lv_at hl 0 rfl) ?_
                refine va_put (D := D) (ci := 1) (v := .int r_102) (ty := .int) (C := RX1) (T := TX1) (N := 6) hx hb hts iw_X1_one tyX1 tyX1_ok nmX1 hown hK hP hD hS 0 rfl rfl 2 (by decide) (hts (.fieldLink RX1 33 "WordMillModel" "pc" "I") (by decide +kernel)) (fun _ h9 => h9) rfl (by decide +kernel) rfl rfl (Nat.le_of_ble_eq_true rfl) dX1_one_129 (fun H locs hP hD hS => ?_)
                have hP : va_P D vwCl (rW h a cA (u_102.1, u_102.2.1, r_102, u_102.2.2.2.1, u_102.2.2.2.2.1, u_102.2.2.2.2.2)) H := hP
                have hD : va_D (wA h a) (rW h a cA (u_102.1, u_102.2.1, r_102, u_102.2.2.2.1, u_102.2.2.2.2.1, u_102.2.2.2.2.2)) := hD
                exact mm_vret (mw := rW h a cA) (u1 := (u_102.1, u_102.2.1, r_102, u_102.2.2.2.1, u_102.2.2.2.2.1, u_102.2.2.2.2.2)) hx hb hr hlocks hP hK hD hS dX1_one_132 ⟨q_102.2, (q_102.1.2.1.trans (q_21.1.2.1.trans rfl)), (q_102.1.2.2.trans (q_21.1.2.2.trans rfl))⟩
        · refine lv_iload_n hx hb dX1_one_57 rfl (lv_at hl 4 rfl) ?_
          refine lv_sipush (v := 255) hx hb dX1_one_58 (by decide) ?_
          refine lv_icmp_gt (tgt := 80) hx hb dX1_one_61 (by decide) (fun c_61 => ?_) (fun c_61 => ?_)
          · refine lv_iload_n hx hb dX1_one_80 rfl (lv_at hl 4 rfl) ?_
            refine lv_sipush (v := 172) hx hb dX1_one_81 (by decide) ?_
            refine lv_icmp_lt (tgt := 110) hx hb dX1_one_84 (by decide) (fun c_84 => ?_) (fun c_84 => ?_)
            · refine lv_aload_n hx hb dX1_one_110 rfl (lv_at hl 3 rfl) ?_
              refine lv_iload_n hx hb dX1_one_111 rfl (lv_at hl 4 rfl) ?_
              refine lv_iload_n hx hb dX1_one_112 rfl (lv_at hl 5 rfl) ?_
              refine lv_lload_n hx hb dX1_one_113 rfl (lv_at hl 6 rfl) ?_
              refine lv_lload hx hb dX1_one_114 (lv_at hl 1 rfl) ?_
              refine r_go (rv := rv_v) (As := [.int op, .int ac, .long e0, .long r_21]) (rest := []) ⟨hx, hb, hml, hown, hts⟩ (kX1_moved l D h a cA (u_21.1, u_21.2.1, u_21.2.2.1, u_21.2.2.2.1, u_21.2.2.2.2.1, u_21.2.2.2.2.2) q_21.1.1 op ac e0 r_21 hac (Or.inr (q_21.2 c_34))) (cwV 4 hts gX1_one_X1_moved rfl rfl rfl (by decide +kernel) ⟨by decide, by decide⟩) hK hP hD hS rfl hl.1 rfl (Nat.le_of_ble_eq_true rfl) dX1_one_116 ⟨Nat.zero_le _, Nat.zero_le _⟩ (fun _ u_116 H locs q_116 hP hD hS => ?_)
              refine W.eq (g2 := F0 m 119 ls []) rfl ?_
              refine lv_aload_n hx hb dX1_one_119 rfl (lv_at hl 3 rfl) ?_
              refine va_get (D := D) (ci := 1) (v := .int u_116.2.2.2.2.1) (C := RX1) (T := TX1) (N := 6) hx hb hts iw_X1_one hown hK hP 0 rfl rfl 4 (by decide) (hts (.fieldLink RX1 36 "WordMillModel" "fault" "I") (by decide +kernel)) (fun _ h9 => h9) rfl dX1_one_120 ?_
              refine lv_if_ne (tgt := 132) hx hb dX1_one_123 (by decide) (fun c_123 => ?_) (fun c_123 => ?_)
              · exact mm_vret (mw := rW h a cA) (u1 := (u_116.1, u_116.2.1, u_116.2.2.1, u_116.2.2.2.1, u_116.2.2.2.2.1, u_116.2.2.2.2.2)) hx hb hr hlocks hP hK hD hS dX1_one_132 ⟨q_116.1, (q_116.2.1.trans (q_21.1.2.1.trans rfl)), (q_116.2.2.trans (q_21.1.2.2.trans rfl))⟩
              · refine lv_aload_n hx hb dX1_one_126 rfl (lv_at hl 3 rfl) ?_
                refine lv_iload hx hb dX1_one_127 (lv_at hl 0 rfl) ?_
                refine va_put (D := D) (ci := 1) (v := .int x_48) (ty := .int) (C := RX1) (T := TX1) (N := 6) hx hb hts iw_X1_one tyX1 tyX1_ok nmX1 hown hK hP hD hS 0 rfl rfl 2 (by decide) (hts (.fieldLink RX1 33 "WordMillModel" "pc" "I") (by decide +kernel)) (fun _ h9 => h9) rfl (by decide +kernel) rfl rfl (Nat.le_of_ble_eq_true rfl) dX1_one_129 (fun H locs hP hD hS => ?_)
                have hP : va_P D vwCl (rW h a cA (u_116.1, u_116.2.1, x_48, u_116.2.2.2.1, u_116.2.2.2.2.1, u_116.2.2.2.2.2)) H := hP
                have hD : va_D (wA h a) (rW h a cA (u_116.1, u_116.2.1, x_48, u_116.2.2.2.1, u_116.2.2.2.2.1, u_116.2.2.2.2.2)) := hD
                exact mm_vret (mw := rW h a cA) (u1 := (u_116.1, u_116.2.1, x_48, u_116.2.2.2.1, u_116.2.2.2.2.1, u_116.2.2.2.2.2)) hx hb hr hlocks hP hK hD hS dX1_one_132 ⟨(by rw [ex_48]; exact vp_and4095 _), (q_116.2.1.trans (q_21.1.2.1.trans rfl)), (q_116.2.2.trans (q_21.1.2.2.trans rfl))⟩
            · refine lv_iload_n hx hb dX1_one_87 rfl (lv_at hl 4 rfl) ?_
              refine lv_sipush (v := 180) hx hb dX1_one_88 (by decide) ?_
              refine lv_icmp_gt (tgt := 110) hx hb dX1_one_91 (by decide) (fun c_91 => ?_) (fun c_91 => ?_)
              · refine lv_aload_n hx hb dX1_one_110 rfl (lv_at hl 3 rfl) ?_
                refine lv_iload_n hx hb dX1_one_111 rfl (lv_at hl 4 rfl) ?_
                refine lv_iload_n hx hb dX1_one_112 rfl (lv_at hl 5 rfl) ?_
                refine lv_lload_n hx hb dX1_one_113 rfl (lv_at hl 6 rfl) ?_
                refine lv_lload hx hb dX1_one_114 (lv_at hl 1 rfl) ?_
                refine r_go (rv := rv_v) (As := [.int op, .int ac, .long e0, .long r_21]) (rest := []) ⟨hx, hb, hml, hown, hts⟩ (kX1_moved l D h a cA (u_21.1, u_21.2.1, u_21.2.2.1, u_21.2.2.2.1, u_21.2.2.2.2.1, u_21.2.2.2.2.2) q_21.1.1 op ac e0 r_21 hac (Or.inr (q_21.2 c_34))) (cwV 4 hts gX1_one_X1_moved rfl rfl rfl (by decide +kernel) ⟨by decide, by decide⟩) hK hP hD hS rfl hl.1 rfl (Nat.le_of_ble_eq_true rfl) dX1_one_116 ⟨Nat.zero_le _, Nat.zero_le _⟩ (fun _ u_116 H locs q_116 hP hD hS => ?_)
                refine W.eq (g2 := F0 m 119 ls []) rfl ?_
                refine lv_aload_n hx hb dX1_one_119 rfl (lv_at hl 3 rfl) ?_
                refine va_get (D := D) (ci := 1) (v := .int u_116.2.2.2.2.1) (C := RX1) (T := TX1) (N := 6) hx hb hts iw_X1_one hown hK hP 0 rfl rfl 4 (by decide) (hts (.fieldLink RX1 36 "WordMillModel" "fault" "I") (by decide +kernel)) (fun _ h9 => h9) rfl dX1_one_120 ?_
                refine lv_if_ne (tgt := 132) hx hb dX1_one_123 (by decide) (fun c_123 => ?_) (fun c_123 => ?_)
                · exact mm_vret (mw := rW h a cA) (u1 := (u_116.1, u_116.2.1, u_116.2.2.1, u_116.2.2.2.1, u_116.2.2.2.2.1, u_116.2.2.2.2.2)) hx hb hr hlocks hP hK hD hS dX1_one_132 ⟨q_116.1, (q_116.2.1.trans (q_21.1.2.1.trans rfl)), (q_116.2.2.trans (q_21.1.2.2.trans rfl))⟩
                · refine lv_aload_n hx hb dX1_one_126 rfl (lv_at hl 3 rfl) ?_
                  refine lv_iload hx hb dX1_one_127 (lv_at hl 0 rfl) ?_
                  refine va_put (D := D) (ci := 1) (v := .int x_48) (ty := .int) (C := RX1) (T := TX1) (N := 6) hx hb hts iw_X1_one tyX1 tyX1_ok nmX1 hown hK hP hD hS 0 rfl rfl 2 (by decide) (hts (.fieldLink RX1 33 "WordMillModel" "pc" "I") (by decide +kernel)) (fun _ h9 => h9) rfl (by decide +kernel) rfl rfl (Nat.le_of_ble_eq_true rfl) dX1_one_129 (fun H locs hP hD hS => ?_)
                  have hP : va_P D vwCl (rW h a cA (u_116.1, u_116.2.1, x_48, u_116.2.2.2.1, u_116.2.2.2.2.1, u_116.2.2.2.2.2)) H := hP
                  have hD : va_D (wA h a) (rW h a cA (u_116.1, u_116.2.1, x_48, u_116.2.2.2.1, u_116.2.2.2.2.1, u_116.2.2.2.2.2)) := hD
                  exact mm_vret (mw := rW h a cA) (u1 := (u_116.1, u_116.2.1, x_48, u_116.2.2.2.1, u_116.2.2.2.2.1, u_116.2.2.2.2.2)) hx hb hr hlocks hP hK hD hS dX1_one_132 ⟨(by rw [ex_48]; exact vp_and4095 _), (q_116.2.1.trans (q_21.1.2.1.trans rfl)), (q_116.2.2.trans (q_21.1.2.2.trans rfl))⟩
              · refine lv_aload_n hx hb dX1_one_94 rfl (lv_at hl 3 rfl) ?_
                refine lv_iload_n hx hb dX1_one_95 rfl (lv_at hl 4 rfl) ?_
                refine lv_iload_n hx hb dX1_one_96 rfl (lv_at hl 5 rfl) ?_
                refine lv_lload_n hx hb dX1_one_97 rfl (lv_at hl 6 rfl) ?_
                refine lv_lload hx hb dX1_one_98 (lv_at hl 1 rfl) ?_
                refine lv_iload hx hb dX1_one_100 (lv_at hl 0 rfl) ?_
                refine r_go (rv := rv_i) (As := [.int op, .int ac, .long e0, .long r_21, .int x_48]) (rest := []) ⟨hx, hb, hml, hown, hts⟩ (kX1_piled l D h a cA (u_21.1, u_21.2.1, u_21.2.2.1, u_21.2.2.2.1, u_21.2.2.2.2.1, u_21.2.2.2.2.2) q_21.1.1 op ac e0 r_21 x_48 ⟨c_84, c_91⟩ hac (Or.inr (q_21.2 c_34)) (by rw [ex_48]; exact vp_and4095 _)) (cwV 5 hts gX1_one_X1_piled rfl rfl rfl (by decide +kernel) ⟨by decide, by decide⟩) hK hP hD hS rfl hl.1 rfl (Nat.le_of_ble_eq_true rfl) dX1_one_102 ⟨Nat.zero_le _, Nat.zero_le _⟩ (fun r_102 u_102 H locs q_102 hP hD hS => ?_)
                refine W.eq (g2 := F0 m 105 ls (.int r_102 :: [])) rfl ?_
                refine lv_istore (lv' := [(8, .int r_102), (6, .long r_21), (5, .int r_9), (0, .ref h), (1, .int op), (2, .int ac), (3, .long e0)]) hx hb dX1_one_105 hl (by decide) rfl (fun ls hl => ?_)
                refine lv_goto (tgt := 119) hx hb dX1_one_107 (by decide) ?_
                refine lv_aload_n hx hb dX1_one_119 rfl (lv_at hl 3 rfl) ?_
                refine va_get (D := D) (ci := 1) (v := .int u_102.2.2.2.2.1) (C := RX1) (T := TX1) (N := 6) hx hb hts iw_X1_one hown hK hP 0 rfl rfl 4 (by decide) (hts (.fieldLink RX1 36 "WordMillModel" "fault" "I") (by decide +kernel)) (fun _ h9 => h9) rfl dX1_one_120 ?_
                refine lv_if_ne (tgt := 132) hx hb dX1_one_123 (by decide) (fun c_123 => ?_) (fun c_123 => ?_)
                · exact mm_vret (mw := rW h a cA) (u1 := (u_102.1, u_102.2.1, u_102.2.2.1, u_102.2.2.2.1, u_102.2.2.2.2.1, u_102.2.2.2.2.2)) hx hb hr hlocks hP hK hD hS dX1_one_132 ⟨q_102.1.1, (q_102.1.2.1.trans (q_21.1.2.1.trans rfl)), (q_102.1.2.2.trans (q_21.1.2.2.trans rfl))⟩
                · refine lv_aload_n hx hb dX1_one_126 rfl (lv_at hl 3 rfl) ?_
                  refine lv_iload hx hb dX1_one_127 (lv_at hl 0 rfl) ?_
                  refine va_put (D := D) (ci := 1) (v := .int r_102) (ty := .int) (C := RX1) (T := TX1) (N := 6) hx hb hts iw_X1_one tyX1 tyX1_ok nmX1 hown hK hP hD hS 0 rfl rfl 2 (by decide) (hts (.fieldLink RX1 33 "WordMillModel" "pc" "I") (by decide +kernel)) (fun _ h9 => h9) rfl (by decide +kernel) rfl rfl (Nat.le_of_ble_eq_true rfl) dX1_one_129 (fun H locs hP hD hS => ?_)
                  have hP : va_P D vwCl (rW h a cA (u_102.1, u_102.2.1, r_102, u_102.2.2.2.1, u_102.2.2.2.2.1, u_102.2.2.2.2.2)) H := hP
                  have hD : va_D (wA h a) (rW h a cA (u_102.1, u_102.2.1, r_102, u_102.2.2.2.1, u_102.2.2.2.2.1, u_102.2.2.2.2.2)) := hD
                  exact mm_vret (mw := rW h a cA) (u1 := (u_102.1, u_102.2.1, r_102, u_102.2.2.2.1, u_102.2.2.2.2.1, u_102.2.2.2.2.2)) hx hb hr hlocks hP hK hD hS dX1_one_132 ⟨q_102.2, (q_102.1.2.1.trans (q_21.1.2.1.trans rfl)), (q_102.1.2.2.trans (q_21.1.2.2.trans rfl))⟩
          · refine lv_aload_n hx hb dX1_one_64 rfl (lv_at hl 3 rfl) ?_
            refine lv_iload_n hx hb dX1_one_65 rfl (lv_at hl 4 rfl) ?_
            refine lv_iload_n hx hb dX1_one_66 rfl (lv_at hl 5 rfl) ?_
            refine lv_lload_n hx hb dX1_one_67 rfl (lv_at hl 6 rfl) ?_
            refine lv_lload hx hb dX1_one_68 (lv_at hl 1 rfl) ?_
            refine lv_iload hx hb dX1_one_70 (lv_at hl 0 rfl) ?_
            refine r_go (rv := rv_i) (As := [.int op, .int ac, .long e0, .long r_21, .int x_48]) (rest := []) ⟨hx, hb, hml, hown, hts⟩ (kX1_tested l D h a cA (u_21.1, u_21.2.1, u_21.2.2.1, u_21.2.2.2.1, u_21.2.2.2.2.1, u_21.2.2.2.2.2) q_21.1.1 op ac e0 r_21 x_48 ⟨c_54, c_61⟩ hac (Or.inr (q_21.2 c_34)) (by rw [ex_48]; exact vp_and4095 _)) (cwV 5 hts gX1_one_X1_tested rfl rfl rfl (by decide +kernel) ⟨by decide, by decide⟩) hK hP hD hS rfl hl.1 rfl (Nat.le_of_ble_eq_true rfl) dX1_one_72 ⟨Nat.zero_le _, Nat.zero_le _⟩ (fun r_72 u_72 H locs q_72 hP hD hS => ?_)
            refine W.eq (g2 := F0 m 75 ls (.int r_72 :: [])) rfl ?_
            refine lv_istore (lv' := [(8, .int r_72), (6, .long r_21), (5, .int r_9), (0, .ref h), (1, .int op), (2, .int ac), (3, .long e0)]) hx hb dX1_one_75 hl (by decide) rfl (fun ls hl => ?_)
            refine lv_goto (tgt := 119) hx hb dX1_one_77 (by decide) ?_
            refine lv_aload_n hx hb dX1_one_119 rfl (lv_at hl 3 rfl) ?_
            refine va_get (D := D) (ci := 1) (v := .int u_72.2.2.2.2.1) (C := RX1) (T := TX1) (N := 6) hx hb hts iw_X1_one hown hK hP 0 rfl rfl 4 (by decide) (hts (.fieldLink RX1 36 "WordMillModel" "fault" "I") (by decide +kernel)) (fun _ h9 => h9) rfl dX1_one_120 ?_
            refine lv_if_ne (tgt := 132) hx hb dX1_one_123 (by decide) (fun c_123 => ?_) (fun c_123 => ?_)
            · exact mm_vret (mw := rW h a cA) (u1 := (u_72.1, u_72.2.1, u_72.2.2.1, u_72.2.2.2.1, u_72.2.2.2.2.1, u_72.2.2.2.2.2)) hx hb hr hlocks hP hK hD hS dX1_one_132 ⟨q_72.1.1, (q_72.1.2.1.trans (q_21.1.2.1.trans rfl)), (q_72.1.2.2.trans (q_21.1.2.2.trans rfl))⟩
            · refine lv_aload_n hx hb dX1_one_126 rfl (lv_at hl 3 rfl) ?_
              refine lv_iload hx hb dX1_one_127 (lv_at hl 0 rfl) ?_
              refine va_put (D := D) (ci := 1) (v := .int r_72) (ty := .int) (C := RX1) (T := TX1) (N := 6) hx hb hts iw_X1_one tyX1 tyX1_ok nmX1 hown hK hP hD hS 0 rfl rfl 2 (by decide) (hts (.fieldLink RX1 33 "WordMillModel" "pc" "I") (by decide +kernel)) (fun _ h9 => h9) rfl (by decide +kernel) rfl rfl (Nat.le_of_ble_eq_true rfl) dX1_one_129 (fun H locs hP hD hS => ?_)
              have hP : va_P D vwCl (rW h a cA (u_72.1, u_72.2.1, r_72, u_72.2.2.2.1, u_72.2.2.2.2.1, u_72.2.2.2.2.2)) H := hP
              have hD : va_D (wA h a) (rW h a cA (u_72.1, u_72.2.1, r_72, u_72.2.2.2.1, u_72.2.2.2.2.1, u_72.2.2.2.2.2)) := hD
              exact mm_vret (mw := rW h a cA) (u1 := (u_72.1, u_72.2.1, r_72, u_72.2.2.2.1, u_72.2.2.2.2.1, u_72.2.2.2.2.2)) hx hb hr hlocks hP hK hD hS dX1_one_132 ⟨q_72.2, (q_72.1.2.1.trans (q_21.1.2.1.trans rfl)), (q_72.1.2.2.trans (q_21.1.2.2.trans rfl))⟩
      · exact mm_vret (mw := rW h a cA) (u1 := (u_21.1, u_21.2.1, u_21.2.2.1, u_21.2.2.2.1, u_21.2.2.2.2.1, u_21.2.2.2.2.2)) hx hb hr hlocks hP hK hD hS dX1_one_37 ⟨q_21.1.1, (q_21.1.2.1.trans rfl), (q_21.1.2.2.trans rfl)⟩
  · exact mm_vret (mw := rW h a cA) (u1 := (u.1, u.2.1, u.2.2.1, u.2.2.2.1, u.2.2.2.2.1, u.2.2.2.2.2)) hx hb hr hlocks hP hK hD hS dX1_one_7 ⟨hI, rfl, rfl⟩
theorem iw_X1_count : ∀ w ∈ u_ws RX1 TX1 6, w ∈ wsX1_count := by decide +kernel
set_option maxHeartbeats 4000000 in
set_option maxRecDepth 100000 in
theorem kX1_count (l : Launch) (D : va_G) (h a : Nat) (cA : ClassId) (u : rS) (hI : rI u) (k0 : Int32)  : MM l yX1_count wsX1_count ({ frames := 0, cells := 0, slots := 0, locals := 0 }) D vwCl [(cA, .long)] (rW h a cA) (wA h a) u [.ref h, .int k0] rv_i (fun r u' => rI u' ∧ r = rcnt u k0) := by
  refine mm_of (cc := cX1_count) (maxL := 2) (ret := (some .int)) (by decide) rfl (Nat.le_of_ble_eq_true rfl) (rA_in h a cA u) ?_
  intro p e s m below meth c ls C hl hP hK hD hS
  obtain ⟨hx, hb, hr, hml, hown, hts, hlocks⟩ := C
  have hl : lv_has ls 2 [(0, .ref h), (1, .int k0)] := hl
  refine lv_aload_n hx hb dX1_count_0 rfl (lv_at hl 0 rfl) ?_
  refine lv_iconst (v := 0) hx hb dX1_count_1 (by decide) ?_
  refine va_put (D := D) (ci := 1) (v := .int 0) (ty := .int) (C := RX1) (T := TX1) (N := 6) hx hb hts iw_X1_count tyX1 tyX1_ok nmX1 hown hK hP hD hS 0 rfl rfl 0 (by decide) (hts (.fieldLink RX1 13 "WordMillModel" "thrown" "I") (by decide +kernel)) (fun _ h9 => h9) rfl (by decide +kernel) rfl rfl (Nat.le_of_ble_eq_true rfl) dX1_count_2 (fun H locs hP hD hS => ?_)
  have hP : va_P D vwCl (rW h a cA (u.1, 0, u.2.2.1, u.2.2.2.1, u.2.2.2.2.1, u.2.2.2.2.2)) H := hP
  have hD : va_D (wA h a) (rW h a cA (u.1, 0, u.2.2.1, u.2.2.2.1, u.2.2.2.2.1, u.2.2.2.2.2)) := hD
  refine lv_iload_n hx hb dX1_count_5 rfl (lv_at hl 1 rfl) ?_
  refine lv_if_ne (tgt := 16) hx hb dX1_count_6 (by decide) (fun c_6 => ?_) (fun c_6 => ?_)
  · refine lv_iload_n hx hb dX1_count_16 rfl (lv_at hl 1 rfl) ?_
    refine lv_iconst (v := 1) hx hb dX1_count_17 (by decide) ?_
    refine lv_icmp_ne (tgt := 33) hx hb dX1_count_18 (by decide) (fun c_18 => ?_) (fun c_18 => ?_)
    · refine lv_iload_n hx hb dX1_count_33 rfl (lv_at hl 1 rfl) ?_
      refine lv_iconst (v := 2) hx hb dX1_count_34 (by decide) ?_
      refine lv_icmp_ne (tgt := 45) hx hb dX1_count_35 (by decide) (fun c_35 => ?_) (fun c_35 => ?_)
      · refine lv_iconst (v := -1) hx hb dX1_count_45 (by decide) ?_
        exact mm_iret (mw := rW h a cA) (u1 := (u.1, 0, u.2.2.1, u.2.2.2.1, u.2.2.2.2.1, u.2.2.2.2.2)) hx hb hr hlocks hP hK hD hS dX1_count_46 ⟨hI, by rw [rcnt, if_neg c_6, if_neg c_18, if_neg c_35]⟩
      · refine lv_aload_n hx hb dX1_count_38 rfl (lv_at hl 0 rfl) ?_
        refine va_get (D := D) (ci := 1) (v := .int u.2.2.2.1) (C := RX1) (T := TX1) (N := 6) hx hb hts iw_X1_count hown hK hP 0 rfl rfl 3 (by decide) (hts (.fieldLink RX1 45 "WordMillModel" "latest" "I") (by decide +kernel)) (fun _ h9 => h9) rfl dX1_count_39 ?_
        refine lv_goto (tgt := 46) hx hb dX1_count_42 (by decide) ?_
        exact mm_iret (mw := rW h a cA) (u1 := (u.1, 0, u.2.2.1, u.2.2.2.1, u.2.2.2.2.1, u.2.2.2.2.2)) hx hb hr hlocks hP hK hD hS dX1_count_46 ⟨hI, by rw [rcnt, if_neg c_6, if_neg c_18, if_pos c_35]⟩
    · refine lv_aload_n hx hb dX1_count_21 rfl (lv_at hl 0 rfl) ?_
      refine va_get (D := D) (ci := 1) (v := .long u.2.2.2.2.2) (C := RX1) (T := TX1) (N := 6) hx hb hts iw_X1_count hown hK hP 0 rfl rfl 5 (by decide) (hts (.fieldLink RX1 52 "WordMillModel" "done" "J") (by decide +kernel)) (fun _ h9 => h9) rfl dX1_count_22 ?_
      refine lv_ldc2 (v := 2147483647) hx hb hown (hts (.constantLong RX1 107 2147483647) (by decide +kernel)) dX1_count_25 ?_
      refine lv_land hx hb dX1_count_28 ?_
      refine lv_l2i hx hb dX1_count_29 rfl ?_
      refine lv_goto (tgt := 46) hx hb dX1_count_30 (by decide) ?_
      exact mm_iret (mw := rW h a cA) (u1 := (u.1, 0, u.2.2.1, u.2.2.2.1, u.2.2.2.2.1, u.2.2.2.2.2)) hx hb hr hlocks hP hK hD hS dX1_count_46 ⟨hI, by rw [rcnt, if_neg c_6, if_pos c_18]⟩
  · refine lv_aload_n hx hb dX1_count_9 rfl (lv_at hl 0 rfl) ?_
    refine va_get (D := D) (ci := 1) (v := .int u.2.2.1) (C := RX1) (T := TX1) (N := 6) hx hb hts iw_X1_count hown hK hP 0 rfl rfl 2 (by decide) (hts (.fieldLink RX1 33 "WordMillModel" "pc" "I") (by decide +kernel)) (fun _ h9 => h9) rfl dX1_count_10 ?_
    refine lv_goto (tgt := 46) hx hb dX1_count_13 (by decide) ?_
    exact mm_iret (mw := rW h a cA) (u1 := (u.1, 0, u.2.2.1, u.2.2.2.1, u.2.2.2.2.1, u.2.2.2.2.2)) hx hb hr hlocks hP hK hD hS dX1_count_46 ⟨hI, by rw [rcnt, if_pos c_6]⟩
