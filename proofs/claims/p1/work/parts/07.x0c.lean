theorem iw_X0_effective : ∀ w ∈ u_ws RX0 TX0 5, w ∈ wsX0_effective := by decide +kernel
set_option maxHeartbeats 4000000 in
set_option maxRecDepth 100000 in
theorem kX0_effective (l : Launch) (D : va_G) (h a : Nat) (cA : ClassId) (u : wS) (hI : wI u) (w : Int64)  : MM l yX0_effective wsX0_effective ({ frames := 2, cells := 0, slots := 0, locals := 45 }) D vwCl [(cA, .long)] (wW h a cA) (wA h a) u [.ref h, .long w] rv_i (fun r u' => wI u' ∧ (r = -1 ∨ vp_in r 262144) ∧ (w = 0 → r = 0)) := by
  refine mm_of (cc := cX0_effective) (maxL := 7) (ret := (some .int)) (by decide) rfl (Nat.le_of_ble_eq_true rfl) (wA_in h a cA u) ?_
  intro p e s m below meth c ls C hl hP hK hD hS
  obtain ⟨hx, hb, hr, hml, hown, hts, hlocks⟩ := C
  have hl : lv_has ls 7 [(0, .ref h), (1, .long w)] := hl
  have loop : ∀ (n i : Nat) (t : Int32) (e0 : Int32) (sr : Int64) (u1 : wS) (H : Heap) (locs : List Loc) (ls : Array Slot), 20 - i < n → t = nI i → i ≤ 20 → wI u1 → vp_in e0 262144 → (w = 0 → sr = 0 ∧ e0 = 0) → va_P D vwCl (wW h a cA u1) H → va_D (wA h a) (wW h a cA u1) → va_S (wA h a) s.heap H locs → lv_has ls 7 [(6, .int t), (5, .int e0), (3, .long sr), (0, .ref h), (1, .long w)] → W p l e ({ frames := 2, cells := 0, slots := 0, locals := 45 }) s m ([.ref h, .long w] : List Value).toArray below meth c H locs 0 0 (MQ below (mm_Q rv_i D vwCl [(cA, .long)] (fun r u' => wI u' ∧ (r = -1 ∨ vp_in r 262144) ∧ (w = 0 → r = 0)) (wW h a cA) (wA h a)) ([.ref h, .long w] : List Value).toArray s 0 0 (wA h a)) (F0 m 12 ls []) := by
    intro n
    induction n with
    | zero => intro i t e0 sr u1 H locs ls hn; exact absurd hn (Nat.not_lt_zero _)
    | succ n ih =>
      intro i t e0 sr u1 H locs ls hn ht hi hI1 he hfz hP hD hS hl
      refine lv_iload hx hb dX0_effective_12 (lv_at hl 0 rfl) ?_
      refine lv_bipush (v := 20) hx hb dX0_effective_14 (by decide) ?_
      refine lv_icmp_ge (tgt := 57) hx hb dX0_effective_16 (by decide) (fun c_16 => ?_) (fun c_16 => ?_)
      · refine lv_iload hx hb dX0_effective_57 (lv_at hl 1 rfl) ?_
        exact mm_iret (mw := wW h a cA) (u1 := (u1.1, u1.2.1, u1.2.2.1, u1.2.2.2.1, u1.2.2.2.2)) hx hb hr hlocks hP hK hD hS dX0_effective_59 ⟨⟨hI1.1, hI1.2⟩, Or.inr he, fun q => (hfz q).2⟩
      · have hlt : i < 20 := ni_lt ht (n := 20) rfl (by omega) c_16
        refine lv_lload_n hx hb dX0_effective_19 rfl (lv_at hl 2 rfl) ?_
        refine ps_goi (As := [.long sr]) (rest := []) ⟨hx, hb, hml, hown, hts⟩ (kX0_isIndirect l sr) (va_cwS 1 hts gX0_effective_X0_isIndirect rfl rfl rfl (by decide +kernel) ⟨by decide, by decide⟩) rfl hl.1 rfl (Nat.le_of_ble_eq_true rfl) dX0_effective_20 ⟨Nat.zero_le _, Nat.zero_le _⟩ (fun r_20 q_20 => ?_)
        refine lv_if_eq (tgt := 57) hx hb dX0_effective_23 (by decide) (fun c_23 => ?_) (fun c_23 => ?_)
        · refine lv_iload hx hb dX0_effective_57 (lv_at hl 1 rfl) ?_
          exact mm_iret (mw := wW h a cA) (u1 := (u1.1, u1.2.1, u1.2.2.1, u1.2.2.2.1, u1.2.2.2.2)) hx hb hr hlocks hP hK hD hS dX0_effective_59 ⟨⟨hI1.1, hI1.2⟩, Or.inr he, fun q => (hfz q).2⟩
        · refine lv_iload hx hb dX0_effective_26 (lv_at hl 1 rfl) ?_
          refine lv_sipush (v := 4096) hx hb dX0_effective_28 (by decide) ?_
          refine lv_icmp_lt (tgt := 36) hx hb dX0_effective_31 (by decide) (fun c_31 => ?_) (fun c_31 => ?_)
          · refine lv_aload_n hx hb dX0_effective_36 rfl (lv_at hl 3 rfl) ?_
            refine va_get (D := D) (ci := 0) (v := .ref a) (C := RX0) (T := TX0) (N := 5) hx hb hts iw_X0_effective hown hK hP 0 rfl rfl 0 (by decide) (hts (.fieldLink RX0 9 "WordMill" "memory" "[J") (by decide +kernel)) (fun _ h9 => h9) rfl dX0_effective_37 ?_
            refine lv_iload hx hb dX0_effective_40 (lv_at hl 1 rfl) ?_
            refine va_lald hx hb hK hP 1 0 rfl rfl (vp_below (vp_nonneg he) c_31 (by decide)) dX0_effective_42 ?_
            refine lv_topl (fun x_43 ex_43 => ?_)
            refine lv_lstore_n (lv' := [(3, .long x_43), (6, .int t), (5, .int e0), (0, .ref h), (1, .long w)]) hx hb dX0_effective_43 rfl hl (by decide) rfl (fun ls hl => ?_)
            refine lv_aload_n hx hb dX0_effective_44 rfl (lv_at hl 3 rfl) ?_
            refine lv_lload_n hx hb dX0_effective_45 rfl (lv_at hl 0 rfl) ?_
            refine w_go (rv := rv_i) (As := [.long x_43]) (rest := []) ⟨hx, hb, hml, hown, hts⟩ (kX0_indexed l D h a cA (u1.1, u1.2.1, u1.2.2.1, u1.2.2.2.1, u1.2.2.2.2) ⟨hI1.1, hI1.2⟩ x_43 ) (cwV 1 hts gX0_effective_X0_indexed rfl rfl rfl (by decide +kernel) ⟨by decide, by decide⟩) hK hP hD hS rfl hl.1 rfl (Nat.le_of_ble_eq_true rfl) dX0_effective_46 ⟨Nat.zero_le _, Nat.zero_le _⟩ (fun r_46 u_46 H locs q_46 hP hD hS => ?_)
            refine W.eq (g2 := F0 m 49 ls (.int r_46 :: [])) rfl ?_
            refine lv_istore (lv' := [(5, .int r_46), (3, .long x_43), (6, .int t), (0, .ref h), (1, .long w)]) hx hb dX0_effective_49 hl (by decide) rfl (fun ls hl => ?_)
            obtain ⟨x_51, ex_51⟩ : ∃ y : Int32, y = t + 1 := ⟨_, rfl⟩
            refine lv_iinc (v := x_51) (lv' := [(6, .int x_51), (5, .int r_46), (3, .long x_43), (0, .ref h), (1, .long w)]) hx hb dX0_effective_51 hl (k := 2) rfl (by rw [ex_51]; rfl) (by decide) rfl (fun ls hl => ?_)
            refine lv_goto (tgt := 12) hx hb dX0_effective_54 (by decide) ?_
            exact ih (i + 1) x_51 r_46 x_43 u_46 _ _ _ (by omega) (by rw [ex_51, ht]; exact nI_1 i) (by omega) q_46.1 q_46.2.1 (fun q => absurd (q_20 (hfz q).1) c_23) hP hD hS (lv_sub hl [0, 1, 2, 3, 4] rfl)
          · refine lv_iconst (v := -1) hx hb dX0_effective_34 (by decide) ?_
            exact mm_iret (mw := wW h a cA) (u1 := (u1.1, u1.2.1, u1.2.2.1, u1.2.2.2.1, u1.2.2.2.2)) hx hb hr hlocks hP hK hD hS dX0_effective_35 ⟨⟨hI1.1, hI1.2⟩, Or.inl rfl, fun q => absurd (q_20 (hfz q).1) c_23⟩
  refine lv_lload_n hx hb dX0_effective_0 rfl (lv_at hl 1 rfl) ?_
  refine lv_lstore_n (lv' := [(3, .long w), (0, .ref h), (1, .long w)]) hx hb dX0_effective_1 rfl hl (by decide) rfl (fun ls hl => ?_)
  refine lv_aload_n hx hb dX0_effective_2 rfl (lv_at hl 1 rfl) ?_
  refine lv_lload_n hx hb dX0_effective_3 rfl (lv_at hl 0 rfl) ?_
  refine w_go (rv := rv_i) (As := [.long w]) (rest := []) ⟨hx, hb, hml, hown, hts⟩ (kX0_indexed l D h a cA (u.1, u.2.1, u.2.2.1, u.2.2.2.1, u.2.2.2.2) ⟨hI.1, hI.2⟩ w ) (cwV 1 hts gX0_effective_X0_indexed rfl rfl rfl (by decide +kernel) ⟨by decide, by decide⟩) hK hP hD hS rfl hl.1 rfl (Nat.le_of_ble_eq_true rfl) dX0_effective_4 ⟨Nat.zero_le _, Nat.zero_le _⟩ (fun r_4 u_4 H locs q_4 hP hD hS => ?_)
  refine W.eq (g2 := F0 m 7 ls (.int r_4 :: [])) rfl ?_
  refine lv_istore (lv' := [(5, .int r_4), (3, .long w), (0, .ref h), (1, .long w)]) hx hb dX0_effective_7 hl (by decide) rfl (fun ls hl => ?_)
  refine lv_iconst (v := 0) hx hb dX0_effective_9 (by decide) ?_
  refine lv_istore (lv' := [(6, .int 0), (5, .int r_4), (3, .long w), (0, .ref h), (1, .long w)]) hx hb dX0_effective_10 hl (by decide) rfl (fun ls hl => ?_)
  exact loop 21 0 0 r_4 w u_4 _ _ _ (by decide) nI_0.symm (by decide) q_4.1 q_4.2.1 (fun q => ⟨q, q_4.2.2 q⟩) hP hD hS (lv_sub hl [0, 1, 2, 3, 4] rfl)
theorem iw_X0_step : ∀ w ∈ u_ws RX0 TX0 5, w ∈ wsX0_step := by decide +kernel
set_option maxHeartbeats 4000000 in
set_option maxRecDepth 100000 in
theorem kX0_step (l : Launch) (D : va_G) (h a : Nat) (cA : ClassId) (u : wS) (hI : wI u)   : MM l yX0_step wsX0_step ({ frames := 5, cells := 0, slots := 0, locals := 124 }) D vwCl [(cA, .long)] (wW h a cA) (wA h a) u [.ref h] rv_i (fun r u' => wI u' ∧ (u.1 (u.2.1 : Int32).toNatClampNeg = 0 → r = -1)) := by
  refine mm_of (cc := cX0_step) (maxL := 6) (ret := (some .int)) (by decide) rfl (Nat.le_of_ble_eq_true rfl) (wA_in h a cA u) ?_
  intro p e s m below meth c ls C hl hP hK hD hS
  obtain ⟨hx, hb, hr, hml, hown, hts, hlocks⟩ := C
  have hl : lv_has ls 6 [(0, .ref h)] := hl
  refine lv_aload_n hx hb dX0_step_0 rfl (lv_at hl 0 rfl) ?_
  refine va_get (D := D) (ci := 0) (v := .ref a) (C := RX0) (T := TX0) (N := 5) hx hb hts iw_X0_step hown hK hP 0 rfl rfl 0 (by decide) (hts (.fieldLink RX0 9 "WordMill" "memory" "[J") (by decide +kernel)) (fun _ h9 => h9) rfl dX0_step_1 ?_
  refine lv_aload_n hx hb dX0_step_4 rfl (lv_at hl 0 rfl) ?_
  refine va_get (D := D) (ci := 0) (v := .int u.2.1) (C := RX0) (T := TX0) (N := 5) hx hb hts iw_X0_step hown hK hP 0 rfl rfl 1 (by decide) (hts (.fieldLink RX0 13 "WordMill" "pc" "I") (by decide +kernel)) (fun _ h9 => h9) rfl dX0_step_5 ?_
  refine va_lald hx hb hK hP 1 0 rfl rfl hI.1 dX0_step_8 ?_
  refine lv_topl (fun x_9 ex_9 => ?_)
  refine lv_lstore_n (lv' := [(1, .long x_9), (0, .ref h)]) hx hb dX0_step_9 rfl hl (by decide) rfl (fun ls hl => ?_)
  refine lv_aload_n hx hb dX0_step_10 rfl (lv_at hl 1 rfl) ?_
  refine lv_lload_n hx hb dX0_step_11 rfl (lv_at hl 0 rfl) ?_
  refine w_go (rv := rv_i) (As := [.long x_9]) (rest := []) ⟨hx, hb, hml, hown, hts⟩ (kX0_effective l D h a cA (u.1, u.2.1, u.2.2.1, u.2.2.2.1, u.2.2.2.2) ⟨hI.1, hI.2⟩ x_9 ) (cwV 1 hts gX0_step_X0_effective rfl rfl rfl (by decide +kernel) ⟨by decide, by decide⟩) hK hP hD hS rfl hl.1 rfl (Nat.le_of_ble_eq_true rfl) dX0_step_12 ⟨Nat.zero_le _, Nat.zero_le _⟩ (fun r_12 u_12 H locs q_12 hP hD hS => ?_)
  refine W.eq (g2 := F0 m 15 ls (.int r_12 :: [])) rfl ?_
  refine lv_istore_n (lv' := [(3, .int r_12), (1, .long x_9), (0, .ref h)]) hx hb dX0_step_15 rfl hl (by decide) rfl (fun ls hl => ?_)
  refine lv_iload_n hx hb dX0_step_16 rfl (lv_at hl 0 rfl) ?_
  refine lv_iconst (v := -1) hx hb dX0_step_17 (by decide) ?_
  refine lv_icmp_ne (tgt := 23) hx hb dX0_step_18 (by decide) (fun c_18 => ?_) (fun c_18 => ?_)
  · refine lv_aload_n hx hb dX0_step_23 rfl (lv_at hl 2 rfl) ?_
    refine lv_aload_n hx hb dX0_step_24 rfl (lv_at hl 2 rfl) ?_
    refine va_get (D := D) (ci := 0) (v := .int u_12.2.1) (C := RX0) (T := TX0) (N := 5) hx hb hts iw_X0_step hown hK hP 0 rfl rfl 1 (by decide) (hts (.fieldLink RX0 13 "WordMill" "pc" "I") (by decide +kernel)) (fun _ h9 => h9) rfl dX0_step_25 ?_
    refine lv_iconst (v := 1) hx hb dX0_step_28 (by decide) ?_
    refine lv_iadd hx hb dX0_step_29 ?_
    refine lv_sipush (v := 4095) hx hb dX0_step_30 (by decide) ?_
    refine lv_iand hx hb dX0_step_33 ?_
    refine lv_topi (fun x_34 ex_34 => ?_)
    refine va_put (D := D) (ci := 0) (v := .int x_34) (ty := .int) (C := RX0) (T := TX0) (N := 5) hx hb hts iw_X0_step tyX0 tyX0_ok nmX0 hown hK hP hD hS 0 rfl rfl 2 (by decide) (hts (.fieldLink RX0 17 "WordMill" "next" "I") (by decide +kernel)) (fun _ h9 => h9) rfl (by decide +kernel) rfl rfl (Nat.le_of_ble_eq_true rfl) dX0_step_34 (fun H locs hP hD hS => ?_)
    have hP : va_P D vwCl (wW h a cA (u_12.1, u_12.2.1, x_34, u_12.2.2.2.1, u_12.2.2.2.2)) H := hP
    have hD : va_D (wA h a) (wW h a cA (u_12.1, u_12.2.1, x_34, u_12.2.2.2.1, u_12.2.2.2.2)) := hD
    refine lv_lload_n hx hb dX0_step_37 rfl (lv_at hl 1 rfl) ?_
    refine lv_bipush (v := 27) hx hb dX0_step_38 (by decide) ?_
    refine lv_lshr hx hb dX0_step_40 rfl ?_
    refine lv_l2i hx hb dX0_step_41 rfl ?_
    refine lv_sipush (v := 511) hx hb dX0_step_42 (by decide) ?_
    refine lv_iand hx hb dX0_step_45 ?_
    refine lv_topi (fun x_46 ex_46 => ?_)
    refine lv_istore (lv' := [(4, .int x_46), (3, .int r_12), (1, .long x_9), (0, .ref h)]) hx hb dX0_step_46 hl (by decide) rfl (fun ls hl => ?_)
    refine lv_lload_n hx hb dX0_step_48 rfl (lv_at hl 2 rfl) ?_
    refine lv_bipush (v := 23) hx hb dX0_step_49 (by decide) ?_
    refine lv_lshr hx hb dX0_step_51 rfl ?_
    refine lv_l2i hx hb dX0_step_52 rfl ?_
    refine lv_bipush (v := 15) hx hb dX0_step_53 (by decide) ?_
    refine lv_iand hx hb dX0_step_55 ?_
    refine lv_topi (fun x_56 ex_56 => ?_)
    refine lv_istore (lv' := [(5, .int x_56), (4, .int x_46), (3, .int r_12), (1, .long x_9), (0, .ref h)]) hx hb dX0_step_56 hl (by decide) rfl (fun ls hl => ?_)
    refine lv_aload_n hx hb dX0_step_58 rfl (lv_at hl 4 rfl) ?_
    refine lv_iload hx hb dX0_step_59 (lv_at hl 1 rfl) ?_
    refine lv_iload hx hb dX0_step_61 (lv_at hl 0 rfl) ?_
    refine lv_iload_n hx hb dX0_step_63 rfl (lv_at hl 2 rfl) ?_
    refine w_go (rv := rv_i) (As := [.int x_46, .int x_56, .int r_12]) (rest := []) ⟨hx, hb, hml, hown, hts⟩ (kX0_perform l D h a cA (u_12.1, u_12.2.1, x_34, u_12.2.2.2.1, u_12.2.2.2.2) ⟨q_12.1.1, (by rw [ex_34]; exact vp_and4095 _)⟩ x_46 x_56 r_12 (by rw [ex_56]; exact vp_and15 _) (by rcases q_12.2.1 with q | q; exact absurd q c_18; exact vp_nonneg q)) (cwV 3 hts gX0_step_X0_perform rfl rfl rfl (by decide +kernel) ⟨by decide, by decide⟩) hK hP hD hS rfl hl.1 rfl (Nat.le_of_ble_eq_true rfl) dX0_step_64 ⟨Nat.zero_le _, Nat.zero_le _⟩ (fun r_64 u_64 H locs q_64 hP hD hS => ?_)
    refine W.eq (g2 := F0 m 67 ls (.int r_64 :: [])) rfl ?_
    exact mm_iret (mw := wW h a cA) (u1 := (u_64.1, u_64.2.1, u_64.2.2.1, u_64.2.2.2.1, u_64.2.2.2.2)) hx hb hr hlocks hP hK hD hS dX0_step_67 ⟨⟨q_64.1.1, q_64.1.2⟩, fun hz => q_64.2 (by rw [ex_46, ex_9, hz]; decide)⟩
  · refine lv_iconst (v := 2) hx hb dX0_step_21 (by decide) ?_
    exact mm_iret (mw := wW h a cA) (u1 := (u_12.1, u_12.2.1, u_12.2.2.1, u_12.2.2.2.1, u_12.2.2.2.2)) hx hb hr hlocks hP hK hD hS dX0_step_22 ⟨⟨q_12.1.1, q_12.1.2⟩, fun hz => absurd c_18 (by rw [q_12.2.2 (ex_9.trans hz)]; decide)⟩
theorem iw_X0_count : ∀ w ∈ u_ws RX0 TX0 5, w ∈ wsX0_count := by decide +kernel
set_option maxHeartbeats 4000000 in
set_option maxRecDepth 100000 in
theorem kX0_count (l : Launch) (D : va_G) (h a : Nat) (cA : ClassId) (u : wS) (hI : wI u) (k0 : Int32)  : MM l yX0_count wsX0_count ({ frames := 0, cells := 0, slots := 0, locals := 0 }) D vwCl [(cA, .long)] (wW h a cA) (wA h a) u [.ref h, .int k0] rv_i (fun r u' => u' = u ∧ r = wcnt u k0) := by
  refine mm_of (cc := cX0_count) (maxL := 2) (ret := (some .int)) (by decide) rfl (Nat.le_of_ble_eq_true rfl) (wA_in h a cA u) ?_
  intro p e s m below meth c ls C hl hP hK hD hS
  obtain ⟨hx, hb, hr, hml, hown, hts, hlocks⟩ := C
  have hl : lv_has ls 2 [(0, .ref h), (1, .int k0)] := hl
  refine lv_iload_n hx hb dX0_count_0 rfl (lv_at hl 1 rfl) ?_
  by_cases k_0 : k0 = 0
  · subst k_0
    refine lv_tableIn (tgt := 28) hx hb dX0_count_1 (by decide) (by decide) rfl (by decide) ?_
    refine lv_aload_n hx hb dX0_count_28 rfl (lv_at hl 0 rfl) ?_
    refine va_get (D := D) (ci := 0) (v := .int u.2.1) (C := RX0) (T := TX0) (N := 5) hx hb hts iw_X0_count hown hK hP 0 rfl rfl 1 (by decide) (hts (.fieldLink RX0 13 "WordMill" "pc" "I") (by decide +kernel)) (fun _ h9 => h9) rfl dX0_count_29 ?_
    exact mm_iret (mw := wW h a cA) (u1 := (u.1, u.2.1, u.2.2.1, u.2.2.2.1, u.2.2.2.2)) hx hb hr hlocks hP hK hD hS dX0_count_32 ⟨rfl, by rw [wcnt, if_pos rfl]⟩
  by_cases k_1 : k0 = 1
  · subst k_1
    refine lv_tableIn (tgt := 33) hx hb dX0_count_1 (by decide) (by decide) rfl (by decide) ?_
    refine lv_aload_n hx hb dX0_count_33 rfl (lv_at hl 0 rfl) ?_
    refine va_get (D := D) (ci := 0) (v := .int u.2.2.2.1) (C := RX0) (T := TX0) (N := 5) hx hb hts iw_X0_count hown hK hP 0 rfl rfl 3 (by decide) (hts (.fieldLink RX0 20 "WordMill" "doneInAll" "I") (by decide +kernel)) (fun _ h9 => h9) rfl dX0_count_34 ?_
    exact mm_iret (mw := wW h a cA) (u1 := (u.1, u.2.1, u.2.2.1, u.2.2.2.1, u.2.2.2.2)) hx hb hr hlocks hP hK hD hS dX0_count_37 ⟨rfl, by rw [wcnt, if_neg (show ¬ ((1 : Int32) = 0) by decide), if_pos rfl]⟩
  by_cases k_2 : k0 = 2
  · subst k_2
    refine lv_tableIn (tgt := 38) hx hb dX0_count_1 (by decide) (by decide) rfl (by decide) ?_
    refine lv_aload_n hx hb dX0_count_38 rfl (lv_at hl 0 rfl) ?_
    refine va_get (D := D) (ci := 0) (v := .int u.2.2.2.2) (C := RX0) (T := TX0) (N := 5) hx hb hts iw_X0_count hown hK hP 0 rfl rfl 4 (by decide) (hts (.fieldLink RX0 23 "WordMill" "doneInRun" "I") (by decide +kernel)) (fun _ h9 => h9) rfl dX0_count_39 ?_
    exact mm_iret (mw := wW h a cA) (u1 := (u.1, u.2.1, u.2.2.1, u.2.2.2.1, u.2.2.2.2)) hx hb hr hlocks hP hK hD hS dX0_count_42 ⟨rfl, by rw [wcnt, if_neg (show ¬ ((2 : Int32) = 0) by decide), if_neg (show ¬ ((2 : Int32) = 1) by decide), if_pos rfl]⟩
  refine lv_tableOut (tgt := 43) hx hb dX0_count_1 (tb_out_0_3 k_0 k_1 k_2) (by decide) ?_
  refine lv_iconst (v := -1) hx hb dX0_count_43 (by decide) ?_
  exact mm_iret (mw := wW h a cA) (u1 := (u.1, u.2.1, u.2.2.1, u.2.2.2.1, u.2.2.2.2)) hx hb hr hlocks hP hK hD hS dX0_count_44 ⟨rfl, by rw [wcnt, if_neg k_0, if_neg k_1, if_neg k_2]⟩
set_option maxHeartbeats 4000000 in
set_option maxRecDepth 100000 in
theorem kX0_refuseOutside (l : Launch) (i : Int32) (hi : Int32) (h0 : ¬ i < 0 ∧ i ≤ hi) : PS l yX0_refuseOutside wsX0_refuseOutside ({ frames := 6, cells := 0, slots := 0, locals := 100 }) [.int i, .int hi] rv_v (fun _ => True) := by
  refine ps_of (cc := cX0_refuseOutside) (maxL := 2) (ret := none) (by decide) rfl (Nat.le_of_ble_eq_true rfl) ?_
  intro p e s m below meth c ls C hl
  obtain ⟨hx, hb, hr, hml, hown, hts, hlocks⟩ := C
  have hl : lv_has ls 2 [(0, .int i), (1, .int hi)] := hl
  refine lv_iload_n hx hb dX0_refuseOutside_0 rfl (lv_at hl 0 rfl) ?_
  refine lv_if_lt (tgt := 9) hx hb dX0_refuseOutside_1 (by decide) (fun c_1 => ?_) (fun c_1 => ?_)
  · exact absurd c_1 h0.1
  · refine lv_iload_n hx hb dX0_refuseOutside_4 rfl (lv_at hl 0 rfl) ?_
    refine lv_iload_n hx hb dX0_refuseOutside_5 rfl (lv_at hl 1 rfl) ?_
    refine lv_icmp_le (tgt := 17) hx hb dX0_refuseOutside_6 (by decide) (fun c_6 => ?_) (fun c_6 => ?_)
    · exact ps_vret hx hb hr hlocks dX0_refuseOutside_17 trivial
    · exact absurd h0.2 c_6
theorem iw_X0_put : ∀ w ∈ u_ws RX0 TX0 5, w ∈ wsX0_put := by decide +kernel
set_option maxHeartbeats 4000000 in
set_option maxRecDepth 100000 in
theorem kX0_put (l : Launch) (D : va_G) (h a : Nat) (cA : ClassId) (u : wS) (hI : wI u) (i : Int32) (w : Int64) (hi : vp_in i 4096) : MM l yX0_put wsX0_put ({ frames := 7, cells := 0, slots := 0, locals := 121 }) D vwCl [(cA, .long)] (wW h a cA) (wA h a) u [.ref h, .int i, .long w] rv_v (fun _ u' => wI u') := by
  refine mm_of (cc := cX0_put) (maxL := 4) (ret := none) (by decide) rfl (Nat.le_of_ble_eq_true rfl) (wA_in h a cA u) ?_
  intro p e s m below meth c ls C hl hP hK hD hS
  obtain ⟨hx, hb, hr, hml, hown, hts, hlocks⟩ := C
  have hl : lv_has ls 4 [(0, .ref h), (1, .int i), (2, .long w)] := hl
  refine lv_iload_n hx hb dX0_put_0 rfl (lv_at hl 1 rfl) ?_
  refine lv_sipush (v := 4095) hx hb dX0_put_1 (by decide) ?_
  refine ps_gov (As := [.int i, .int 4095]) (rest := []) ⟨hx, hb, hml, hown, hts⟩ (kX0_refuseOutside l i 4095 (in_le hi (by decide))) (va_cwS 2 hts gX0_put_X0_refuseOutside rfl rfl rfl (by decide +kernel) ⟨by decide, by decide⟩) rfl hl.1 rfl (Nat.le_of_ble_eq_true rfl) dX0_put_4 ⟨Nat.zero_le _, Nat.zero_le _⟩ (fun r_4 q_4 => ?_)
  refine lv_aload_n hx hb dX0_put_7 rfl (lv_at hl 0 rfl) ?_
  refine lv_iload_n hx hb dX0_put_8 rfl (lv_at hl 1 rfl) ?_
  refine lv_lload_n hx hb dX0_put_9 rfl (lv_at hl 2 rfl) ?_
  refine w_go (rv := rv_v) (As := [.int i, .long w]) (rest := []) ⟨hx, hb, hml, hown, hts⟩ (kX0_store l D h a cA (u.1, u.2.1, u.2.2.1, u.2.2.2.1, u.2.2.2.2) ⟨hI.1, hI.2⟩ i w hi) (cwV 2 hts gX0_put_X0_store rfl rfl rfl (by decide +kernel) ⟨by decide, by decide⟩) hK hP hD hS rfl hl.1 rfl (Nat.le_of_ble_eq_true rfl) dX0_put_10 ⟨Nat.zero_le _, Nat.zero_le _⟩ (fun _ u_10 H locs q_10 hP hD hS => ?_)
  refine W.eq (g2 := F0 m 13 ls []) rfl ?_
  exact mm_vret (mw := wW h a cA) (u1 := (u_10.1, u_10.2.1, u_10.2.2.1, u_10.2.2.2.1, u_10.2.2.2.2)) hx hb hr hlocks hP hK hD hS dX0_put_13 ⟨q_10.1, q_10.2⟩
theorem iw_X0_word : ∀ w ∈ u_ws RX0 TX0 5, w ∈ wsX0_word := by decide +kernel
set_option maxHeartbeats 4000000 in
set_option maxRecDepth 100000 in
theorem kX0_word (l : Launch) (D : va_G) (h a : Nat) (cA : ClassId) (u : wS) (hI : wI u) (i : Int32) (hi : vp_in i 4096) : MM l yX0_word wsX0_word ({ frames := 7, cells := 0, slots := 0, locals := 121 }) D vwCl [(cA, .long)] (wW h a cA) (wA h a) u [.ref h, .int i] rv_l (fun r u' => wI u' ∧ r = u.1 (i : Int32).toNatClampNeg) := by
  refine mm_of (cc := cX0_word) (maxL := 2) (ret := (some .long)) (by decide) rfl (Nat.le_of_ble_eq_true rfl) (wA_in h a cA u) ?_
  intro p e s m below meth c ls C hl hP hK hD hS
  obtain ⟨hx, hb, hr, hml, hown, hts, hlocks⟩ := C
  have hl : lv_has ls 2 [(0, .ref h), (1, .int i)] := hl
  refine lv_iload_n hx hb dX0_word_0 rfl (lv_at hl 1 rfl) ?_
  refine lv_sipush (v := 4095) hx hb dX0_word_1 (by decide) ?_
  refine ps_gov (As := [.int i, .int 4095]) (rest := []) ⟨hx, hb, hml, hown, hts⟩ (kX0_refuseOutside l i 4095 (in_le hi (by decide))) (va_cwS 2 hts gX0_word_X0_refuseOutside rfl rfl rfl (by decide +kernel) ⟨by decide, by decide⟩) rfl hl.1 rfl (Nat.le_of_ble_eq_true rfl) dX0_word_4 ⟨Nat.zero_le _, Nat.zero_le _⟩ (fun r_4 q_4 => ?_)
  refine lv_aload_n hx hb dX0_word_7 rfl (lv_at hl 0 rfl) ?_
  refine va_get (D := D) (ci := 0) (v := .ref a) (C := RX0) (T := TX0) (N := 5) hx hb hts iw_X0_word hown hK hP 0 rfl rfl 0 (by decide) (hts (.fieldLink RX0 9 "WordMill" "memory" "[J") (by decide +kernel)) (fun _ h9 => h9) rfl dX0_word_8 ?_
  refine lv_iload_n hx hb dX0_word_11 rfl (lv_at hl 1 rfl) ?_
  refine va_lald hx hb hK hP 1 0 rfl rfl hi dX0_word_12 ?_
  exact mm_lret (mw := wW h a cA) (u1 := (u.1, u.2.1, u.2.2.1, u.2.2.2.1, u.2.2.2.2)) hx hb hr hlocks hP hK hD hS dX0_word_13 ⟨⟨hI.1, hI.2⟩, rfl⟩
theorem iw_X0_go : ∀ w ∈ u_ws RX0 TX0 5, w ∈ wsX0_go := by decide +kernel
set_option maxHeartbeats 4000000 in
set_option maxRecDepth 100000 in
theorem kX0_go (l : Launch) (D : va_G) (h a : Nat) (cA : ClassId) (u : wS) (hI : wI u) (i : Int32) (hi : vp_in i 4096) : MM l yX0_go wsX0_go ({ frames := 7, cells := 0, slots := 0, locals := 121 }) D vwCl [(cA, .long)] (wW h a cA) (wA h a) u [.ref h, .int i] rv_v (fun _ u' => wI u') := by
  refine mm_of (cc := cX0_go) (maxL := 2) (ret := none) (by decide) rfl (Nat.le_of_ble_eq_true rfl) (wA_in h a cA u) ?_
  intro p e s m below meth c ls C hl hP hK hD hS
  obtain ⟨hx, hb, hr, hml, hown, hts, hlocks⟩ := C
  have hl : lv_has ls 2 [(0, .ref h), (1, .int i)] := hl
  refine lv_iload_n hx hb dX0_go_0 rfl (lv_at hl 1 rfl) ?_
  refine lv_sipush (v := 4095) hx hb dX0_go_1 (by decide) ?_
  refine ps_gov (As := [.int i, .int 4095]) (rest := []) ⟨hx, hb, hml, hown, hts⟩ (kX0_refuseOutside l i 4095 (in_le hi (by decide))) (va_cwS 2 hts gX0_go_X0_refuseOutside rfl rfl rfl (by decide +kernel) ⟨by decide, by decide⟩) rfl hl.1 rfl (Nat.le_of_ble_eq_true rfl) dX0_go_4 ⟨Nat.zero_le _, Nat.zero_le _⟩ (fun r_4 q_4 => ?_)
  refine lv_aload_n hx hb dX0_go_7 rfl (lv_at hl 0 rfl) ?_
  refine lv_iload_n hx hb dX0_go_8 rfl (lv_at hl 1 rfl) ?_
  refine va_put (D := D) (ci := 0) (v := .int i) (ty := .int) (C := RX0) (T := TX0) (N := 5) hx hb hts iw_X0_go tyX0 tyX0_ok nmX0 hown hK hP hD hS 0 rfl rfl 1 (by decide) (hts (.fieldLink RX0 13 "WordMill" "pc" "I") (by decide +kernel)) (fun _ h9 => h9) rfl (by decide +kernel) rfl rfl (Nat.le_of_ble_eq_true rfl) dX0_go_9 (fun H locs hP hD hS => ?_)
  have hP : va_P D vwCl (wW h a cA (u.1, i, u.2.2.1, u.2.2.2.1, u.2.2.2.2)) H := hP
  have hD : va_D (wA h a) (wW h a cA (u.1, i, u.2.2.1, u.2.2.2.1, u.2.2.2.2)) := hD
  exact mm_vret (mw := wW h a cA) (u1 := (u.1, i, u.2.2.1, u.2.2.2.1, u.2.2.2.2)) hx hb hr hlocks hP hK hD hS dX0_go_12 ⟨hi, hI.2⟩
theorem iw_X0_code : ∀ w ∈ u_ws RX0 TX0 5, w ∈ wsX0_code := by decide +kernel
set_option maxHeartbeats 4000000 in
set_option maxRecDepth 100000 in
theorem kX0_code (l : Launch) (D : va_G) (h a : Nat) (cA : ClassId) (u : wS) (hI : wI u) (i : Int32) (op : Int32) (ac : Int32) (z0 : Int32) (x0 : Int32) (y0 : Int32) (hi : vp_in i 4096) (ho : ¬ op < 0 ∧ op ≤ 511) (hac : ¬ ac < 0 ∧ ac ≤ 15) (hx0 : ¬ x0 < 0 ∧ x0 ≤ 15) : MM l yX0_code wsX0_code ({ frames := 7, cells := 0, slots := 0, locals := 121 }) D vwCl [(cA, .long)] (wW h a cA) (wA h a) u [.ref h, .int i, .int op, .int ac, .int z0, .int x0, .int y0] rv_l (fun r u' => wI u' ∧ r = wc_code op ac z0 x0 y0) := by
  refine mm_of (cc := cX0_code) (maxL := 9) (ret := (some .long)) (by decide) rfl (Nat.le_of_ble_eq_true rfl) (wA_in h a cA u) ?_
  intro p e s m below meth c ls C hl hP hK hD hS
  obtain ⟨hx, hb, hr, hml, hown, hts, hlocks⟩ := C
  have hl : lv_has ls 9 [(0, .ref h), (1, .int i), (2, .int op), (3, .int ac), (4, .int z0), (5, .int x0), (6, .int y0)] := hl
  refine lv_iload_n hx hb dX0_code_0 rfl (lv_at hl 1 rfl) ?_
  refine lv_sipush (v := 4095) hx hb dX0_code_1 (by decide) ?_
  refine ps_gov (As := [.int i, .int 4095]) (rest := []) ⟨hx, hb, hml, hown, hts⟩ (kX0_refuseOutside l i 4095 (in_le hi (by decide))) (va_cwS 2 hts gX0_code_X0_refuseOutside rfl rfl rfl (by decide +kernel) ⟨by decide, by decide⟩) rfl hl.1 rfl (Nat.le_of_ble_eq_true rfl) dX0_code_4 ⟨Nat.zero_le _, Nat.zero_le _⟩ (fun r_4 q_4 => ?_)
  refine lv_iload_n hx hb dX0_code_7 rfl (lv_at hl 2 rfl) ?_
  refine lv_sipush (v := 511) hx hb dX0_code_8 (by decide) ?_
  refine ps_gov (As := [.int op, .int 511]) (rest := []) ⟨hx, hb, hml, hown, hts⟩ (kX0_refuseOutside l op 511 ho) (va_cwS 2 hts gX0_code_X0_refuseOutside rfl rfl rfl (by decide +kernel) ⟨by decide, by decide⟩) rfl hl.1 rfl (Nat.le_of_ble_eq_true rfl) dX0_code_11 ⟨Nat.zero_le _, Nat.zero_le _⟩ (fun r_11 q_11 => ?_)
  refine lv_iload_n hx hb dX0_code_14 rfl (lv_at hl 3 rfl) ?_
  refine lv_bipush (v := 15) hx hb dX0_code_15 (by decide) ?_
  refine ps_gov (As := [.int ac, .int 15]) (rest := []) ⟨hx, hb, hml, hown, hts⟩ (kX0_refuseOutside l ac 15 hac) (va_cwS 2 hts gX0_code_X0_refuseOutside rfl rfl rfl (by decide +kernel) ⟨by decide, by decide⟩) rfl hl.1 rfl (Nat.le_of_ble_eq_true rfl) dX0_code_17 ⟨Nat.zero_le _, Nat.zero_le _⟩ (fun r_17 q_17 => ?_)
  refine lv_iload hx hb dX0_code_20 (lv_at hl 5 rfl) ?_
  refine lv_bipush (v := 15) hx hb dX0_code_22 (by decide) ?_
  refine ps_gov (As := [.int x0, .int 15]) (rest := []) ⟨hx, hb, hml, hown, hts⟩ (kX0_refuseOutside l x0 15 hx0) (va_cwS 2 hts gX0_code_X0_refuseOutside rfl rfl rfl (by decide +kernel) ⟨by decide, by decide⟩) rfl hl.1 rfl (Nat.le_of_ble_eq_true rfl) dX0_code_24 ⟨Nat.zero_le _, Nat.zero_le _⟩ (fun r_24 q_24 => ?_)
  refine lv_iload_n hx hb dX0_code_27 rfl (lv_at hl 2 rfl) ?_
  refine lv_i2l hx hb dX0_code_28 rfl ?_
  refine lv_bipush (v := 27) hx hb dX0_code_29 (by decide) ?_
  refine lv_lshl hx hb dX0_code_31 rfl ?_
  refine lv_iload_n hx hb dX0_code_32 rfl (lv_at hl 3 rfl) ?_
  refine lv_i2l hx hb dX0_code_33 rfl ?_
  refine lv_bipush (v := 23) hx hb dX0_code_34 (by decide) ?_
  refine lv_lshl hx hb dX0_code_36 rfl ?_
  refine lv_lor hx hb dX0_code_37 ?_
  refine lv_iload hx hb dX0_code_38 (lv_at hl 4 rfl) ?_
  refine lv_if_eq (tgt := 47) hx hb dX0_code_40 (by decide) (fun c_40 => ?_) (fun c_40 => ?_)
  · refine lv_lconst (v := 0) hx hb dX0_code_47 (by decide) ?_
    refine lv_bipush (v := 22) hx hb dX0_code_48 (by decide) ?_
    refine lv_lshl hx hb dX0_code_50 rfl ?_
    refine lv_lor hx hb dX0_code_51 ?_
    refine lv_iload hx hb dX0_code_52 (lv_at hl 5 rfl) ?_
    refine lv_i2l hx hb dX0_code_54 rfl ?_
    refine lv_bipush (v := 18) hx hb dX0_code_55 (by decide) ?_
    refine lv_lshl hx hb dX0_code_57 rfl ?_
    refine lv_lor hx hb dX0_code_58 ?_
    refine lv_iload hx hb dX0_code_59 (lv_at hl 6 rfl) ?_
    refine lv_ldc (v := 262143) hx hb hown (hts (.constant RX0 34 262143) (by decide +kernel)) dX0_code_61 ?_
    refine lv_iand hx hb dX0_code_63 ?_
    refine lv_i2l hx hb dX0_code_64 rfl ?_
    refine lv_lor hx hb dX0_code_65 ?_
    refine lv_topl (fun x_66 ex_66 => ?_)
    refine lv_lstore (lv' := [(7, .long x_66), (0, .ref h), (1, .int i), (2, .int op), (3, .int ac), (4, .int z0), (5, .int x0), (6, .int y0)]) hx hb dX0_code_66 hl (by decide) rfl (fun ls hl => ?_)
    refine lv_aload_n hx hb dX0_code_68 rfl (lv_at hl 1 rfl) ?_
    refine lv_iload_n hx hb dX0_code_69 rfl (lv_at hl 2 rfl) ?_
    refine lv_lload hx hb dX0_code_70 (lv_at hl 0 rfl) ?_
    refine w_go (rv := rv_v) (As := [.int i, .long x_66]) (rest := []) ⟨hx, hb, hml, hown, hts⟩ (kX0_store l D h a cA (u.1, u.2.1, u.2.2.1, u.2.2.2.1, u.2.2.2.2) ⟨hI.1, hI.2⟩ i x_66 hi) (cwV 2 hts gX0_code_X0_store rfl rfl rfl (by decide +kernel) ⟨by decide, by decide⟩) hK hP hD hS rfl hl.1 rfl (Nat.le_of_ble_eq_true rfl) dX0_code_72 ⟨Nat.zero_le _, Nat.zero_le _⟩ (fun _ u_72 H locs q_72 hP hD hS => ?_)
    refine W.eq (g2 := F0 m 75 ls []) rfl ?_
    refine lv_lload hx hb dX0_code_75 (lv_at hl 0 rfl) ?_
    exact mm_lret (mw := wW h a cA) (u1 := (u_72.1, u_72.2.1, u_72.2.2.1, u_72.2.2.2.1, u_72.2.2.2.2)) hx hb hr hlocks hP hK hD hS dX0_code_77 ⟨⟨q_72.1, q_72.2⟩, by rw [ex_66, wc_code, if_pos c_40]⟩
  · refine lv_lconst (v := 1) hx hb dX0_code_43 (by decide) ?_
    refine lv_goto (tgt := 48) hx hb dX0_code_44 (by decide) ?_
    refine lv_bipush (v := 22) hx hb dX0_code_48 (by decide) ?_
    refine lv_lshl hx hb dX0_code_50 rfl ?_
    refine lv_lor hx hb dX0_code_51 ?_
    refine lv_iload hx hb dX0_code_52 (lv_at hl 5 rfl) ?_
    refine lv_i2l hx hb dX0_code_54 rfl ?_
    refine lv_bipush (v := 18) hx hb dX0_code_55 (by decide) ?_
    refine lv_lshl hx hb dX0_code_57 rfl ?_
    refine lv_lor hx hb dX0_code_58 ?_
    refine lv_iload hx hb dX0_code_59 (lv_at hl 6 rfl) ?_
    refine lv_ldc (v := 262143) hx hb hown (hts (.constant RX0 34 262143) (by decide +kernel)) dX0_code_61 ?_
    refine lv_iand hx hb dX0_code_63 ?_
    refine lv_i2l hx hb dX0_code_64 rfl ?_
    refine lv_lor hx hb dX0_code_65 ?_
    refine lv_topl (fun x_66 ex_66 => ?_)
    refine lv_lstore (lv' := [(7, .long x_66), (0, .ref h), (1, .int i), (2, .int op), (3, .int ac), (4, .int z0), (5, .int x0), (6, .int y0)]) hx hb dX0_code_66 hl (by decide) rfl (fun ls hl => ?_)
    refine lv_aload_n hx hb dX0_code_68 rfl (lv_at hl 1 rfl) ?_
    refine lv_iload_n hx hb dX0_code_69 rfl (lv_at hl 2 rfl) ?_
    refine lv_lload hx hb dX0_code_70 (lv_at hl 0 rfl) ?_
    refine w_go (rv := rv_v) (As := [.int i, .long x_66]) (rest := []) ⟨hx, hb, hml, hown, hts⟩ (kX0_store l D h a cA (u.1, u.2.1, u.2.2.1, u.2.2.2.1, u.2.2.2.2) ⟨hI.1, hI.2⟩ i x_66 hi) (cwV 2 hts gX0_code_X0_store rfl rfl rfl (by decide +kernel) ⟨by decide, by decide⟩) hK hP hD hS rfl hl.1 rfl (Nat.le_of_ble_eq_true rfl) dX0_code_72 ⟨Nat.zero_le _, Nat.zero_le _⟩ (fun _ u_72 H locs q_72 hP hD hS => ?_)
    refine W.eq (g2 := F0 m 75 ls []) rfl ?_
    refine lv_lload hx hb dX0_code_75 (lv_at hl 0 rfl) ?_
    exact mm_lret (mw := wW h a cA) (u1 := (u_72.1, u_72.2.1, u_72.2.2.1, u_72.2.2.2.1, u_72.2.2.2.2)) hx hb hr hlocks hP hK hD hS dX0_code_77 ⟨⟨q_72.1, q_72.2⟩, by rw [ex_66, wc_code, if_neg c_40]⟩
theorem iw_X0_run : ∀ w ∈ u_ws RX0 TX0 5, w ∈ wsX0_run := by decide +kernel
set_option maxHeartbeats 4000000 in
set_option maxRecDepth 100000 in
theorem kX0_run (l : Launch) (D : va_G) (h a : Nat) (cA : ClassId) (u : wS) (hI : wI u) (n0 : Int32) (N : Nat) (hN : N ≤ 20000) (hn0 : n0 = nI N) : MM l yX0_run wsX0_run ({ frames := 7, cells := 0, slots := 0, locals := 149 }) D vwCl [(cA, .long)] (wW h a cA) (wA h a) u [.ref h, .int n0] rv_i (fun r u' => wI u' ∧ fz u.1 n0 r) := by
  refine mm_of (cc := cX0_run) (maxL := 4) (ret := (some .int)) (by decide) rfl (Nat.le_of_ble_eq_true rfl) (wA_in h a cA u) ?_
  intro p e s m below meth c ls C hl hP hK hD hS
  obtain ⟨hx, hb, hr, hml, hown, hts, hlocks⟩ := C
  have hl : lv_has ls 4 [(0, .ref h), (1, .int n0)] := hl
  have loop : ∀ (n i : Nat) (t : Int32) (u1 : wS) (H : Heap) (locs : List Loc) (ls : Array Slot), N - i < n → t = nI i → i ≤ N → wI u1 → ((∀ q, u.1 q = 0) → i = 0 ∧ ∀ q, u1.1 q = 0) → va_P D vwCl (wW h a cA u1) H → va_D (wA h a) (wW h a cA u1) → va_S (wA h a) s.heap H locs → lv_has ls 4 [(2, .int t), (0, .ref h), (1, .int n0)] → W p l e ({ frames := 7, cells := 0, slots := 0, locals := 149 }) s m ([.ref h, .int n0] : List Value).toArray below meth c H locs 0 0 (MQ below (mm_Q rv_i D vwCl [(cA, .long)] (fun r u' => wI u' ∧ fz u.1 n0 r) (wW h a cA) (wA h a)) ([.ref h, .int n0] : List Value).toArray s 0 0 (wA h a)) (F0 m 14 ls []) := by
    intro n
    induction n with
    | zero => intro i t u1 H locs ls hn; exact absurd hn (Nat.not_lt_zero _)
    | succ n ih =>
      intro i t u1 H locs ls hn ht hi hI1 hfz hP hD hS hl
      refine lv_iload_n hx hb dX0_run_14 rfl (lv_at hl 0 rfl) ?_
      refine lv_iload_n hx hb dX0_run_15 rfl (lv_at hl 2 rfl) ?_
      refine lv_icmp_ge (tgt := 74) hx hb dX0_run_16 (by decide) (fun c_16 => ?_) (fun c_16 => ?_)
      · refine lv_iconst (v := 0) hx hb dX0_run_74 (by decide) ?_
        exact mm_iret (mw := wW h a cA) (u1 := (u1.1, u1.2.1, u1.2.2.1, u1.2.2.2.1, u1.2.2.2.2)) hx hb hr hlocks hP hK hD hS dX0_run_75 ⟨⟨hI1.1, hI1.2⟩, fun hq => (if_pos (fz_0 ht hn0 hN c_16 (hfz hq).1)).symm⟩
      · have hlt : i < N := ni_lt ht hn0 (by omega) c_16
        refine lv_aload_n hx hb dX0_run_19 rfl (lv_at hl 1 rfl) ?_
        refine w_go (rv := rv_i) (As := []) (rest := []) ⟨hx, hb, hml, hown, hts⟩ (kX0_step l D h a cA (u1.1, u1.2.1, u1.2.2.1, u1.2.2.2.1, u1.2.2.2.2) ⟨hI1.1, hI1.2⟩  ) (cwV 0 hts gX0_run_X0_step rfl rfl rfl (by decide +kernel) ⟨by decide, by decide⟩) hK hP hD hS rfl hl.1 rfl (Nat.le_of_ble_eq_true rfl) dX0_run_20 ⟨Nat.zero_le _, Nat.zero_le _⟩ (fun r_20 u_20 H locs q_20 hP hD hS => ?_)
        refine W.eq (g2 := F0 m 23 ls (.int r_20 :: [])) rfl ?_
        refine lv_istore_n (lv' := [(3, .int r_20), (2, .int t), (0, .ref h), (1, .int n0)]) hx hb dX0_run_23 rfl hl (by decide) rfl (fun ls hl => ?_)
        refine lv_iload_n hx hb dX0_run_24 rfl (lv_at hl 0 rfl) ?_
        refine lv_if_le (tgt := 30) hx hb dX0_run_25 (by decide) (fun c_25 => ?_) (fun c_25 => ?_)
        · refine lv_aload_n hx hb dX0_run_30 rfl (lv_at hl 2 rfl) ?_
          refine lv_aload_n hx hb dX0_run_31 rfl (lv_at hl 2 rfl) ?_
          refine va_get (D := D) (ci := 0) (v := .int u_20.2.2.1) (C := RX0) (T := TX0) (N := 5) hx hb hts iw_X0_run hown hK hP 0 rfl rfl 2 (by decide) (hts (.fieldLink RX0 17 "WordMill" "next" "I") (by decide +kernel)) (fun _ h9 => h9) rfl dX0_run_32 ?_
          refine lv_topi (fun x_35 ex_35 => ?_)
          refine va_put (D := D) (ci := 0) (v := .int x_35) (ty := .int) (C := RX0) (T := TX0) (N := 5) hx hb hts iw_X0_run tyX0 tyX0_ok nmX0 hown hK hP hD hS 0 rfl rfl 1 (by decide) (hts (.fieldLink RX0 13 "WordMill" "pc" "I") (by decide +kernel)) (fun _ h9 => h9) rfl (by decide +kernel) rfl rfl (Nat.le_of_ble_eq_true rfl) dX0_run_35 (fun H locs hP hD hS => ?_)
          have hP : va_P D vwCl (wW h a cA (u_20.1, x_35, u_20.2.2.1, u_20.2.2.2.1, u_20.2.2.2.2)) H := hP
          have hD : va_D (wA h a) (wW h a cA (u_20.1, x_35, u_20.2.2.1, u_20.2.2.2.1, u_20.2.2.2.2)) := hD
          refine lv_aload_n hx hb dX0_run_38 rfl (lv_at hl 2 rfl) ?_
          refine lv_dup hx hb dX0_run_39 rfl ?_
          refine va_get (D := D) (ci := 0) (v := .int u_20.2.2.2.2) (C := RX0) (T := TX0) (N := 5) hx hb hts iw_X0_run hown hK hP 0 rfl rfl 4 (by decide) (hts (.fieldLink RX0 23 "WordMill" "doneInRun" "I") (by decide +kernel)) (fun _ h9 => h9) rfl dX0_run_40 ?_
          refine lv_iconst (v := 1) hx hb dX0_run_43 (by decide) ?_
          refine lv_iadd hx hb dX0_run_44 ?_
          refine lv_topi (fun x_45 ex_45 => ?_)
          refine va_put (D := D) (ci := 0) (v := .int x_45) (ty := .int) (C := RX0) (T := TX0) (N := 5) hx hb hts iw_X0_run tyX0 tyX0_ok nmX0 hown hK hP hD hS 0 rfl rfl 4 (by decide) (hts (.fieldLink RX0 23 "WordMill" "doneInRun" "I") (by decide +kernel)) (fun _ h9 => h9) rfl (by decide +kernel) rfl rfl (Nat.le_of_ble_eq_true rfl) dX0_run_45 (fun H locs hP hD hS => ?_)
          have hP : va_P D vwCl (wW h a cA (u_20.1, x_35, u_20.2.2.1, u_20.2.2.2.1, x_45)) H := hP
          have hD : va_D (wA h a) (wW h a cA (u_20.1, x_35, u_20.2.2.1, u_20.2.2.2.1, x_45)) := hD
          refine lv_aload_n hx hb dX0_run_48 rfl (lv_at hl 2 rfl) ?_
          refine lv_aload_n hx hb dX0_run_49 rfl (lv_at hl 2 rfl) ?_
          refine va_get (D := D) (ci := 0) (v := .int u_20.2.2.2.1) (C := RX0) (T := TX0) (N := 5) hx hb hts iw_X0_run hown hK hP 0 rfl rfl 3 (by decide) (hts (.fieldLink RX0 20 "WordMill" "doneInAll" "I") (by decide +kernel)) (fun _ h9 => h9) rfl dX0_run_50 ?_
          refine lv_iconst (v := 1) hx hb dX0_run_53 (by decide) ?_
          refine lv_iadd hx hb dX0_run_54 ?_
          refine lv_ldc (v := 2147483647) hx hb hown (hts (.constant RX0 39 2147483647) (by decide +kernel)) dX0_run_55 ?_
          refine lv_iand hx hb dX0_run_57 ?_
          refine lv_topi (fun x_58 ex_58 => ?_)
          refine va_put (D := D) (ci := 0) (v := .int x_58) (ty := .int) (C := RX0) (T := TX0) (N := 5) hx hb hts iw_X0_run tyX0 tyX0_ok nmX0 hown hK hP hD hS 0 rfl rfl 3 (by decide) (hts (.fieldLink RX0 20 "WordMill" "doneInAll" "I") (by decide +kernel)) (fun _ h9 => h9) rfl (by decide +kernel) rfl rfl (Nat.le_of_ble_eq_true rfl) dX0_run_58 (fun H locs hP hD hS => ?_)
          have hP : va_P D vwCl (wW h a cA (u_20.1, x_35, u_20.2.2.1, x_58, x_45)) H := hP
          have hD : va_D (wA h a) (wW h a cA (u_20.1, x_35, u_20.2.2.1, x_58, x_45)) := hD
          refine lv_iload_n hx hb dX0_run_61 rfl (lv_at hl 0 rfl) ?_
          refine lv_iconst (v := -1) hx hb dX0_run_62 (by decide) ?_
          refine lv_icmp_ne (tgt := 68) hx hb dX0_run_63 (by decide) (fun c_63 => ?_) (fun c_63 => ?_)
          · obtain ⟨x_68, ex_68⟩ : ∃ y : Int32, y = t + 1 := ⟨_, rfl⟩
            refine lv_iinc (v := x_68) (lv' := [(2, .int x_68), (3, .int r_20), (0, .ref h), (1, .int n0)]) hx hb dX0_run_68 hl (k := 1) rfl (by rw [ex_68]; rfl) (by decide) rfl (fun ls hl => ?_)
            refine lv_goto (tgt := 14) hx hb dX0_run_71 (by decide) ?_
            exact ih (i + 1) x_68 _ _ _ _ (by omega) (by rw [ex_68, ht]; exact nI_1 i) (by omega) (show wI (u_20.1, x_35, u_20.2.2.1, x_58, x_45) from ⟨(by rw [ex_35]; exact q_20.1.2), q_20.1.2⟩) (fun hq => absurd (q_20.2 ((hfz hq).2 _)) c_63) hP hD hS (lv_sub hl [0, 2, 3] rfl)
          · refine lv_iconst (v := -1) hx hb dX0_run_66 (by decide) ?_
            exact mm_iret (mw := wW h a cA) (u1 := (u_20.1, x_35, u_20.2.2.1, x_58, x_45)) hx hb hr hlocks hP hK hD hS dX0_run_67 ⟨⟨(by rw [ex_35]; exact q_20.1.2), q_20.1.2⟩, fun _ => (if_neg (fz_1 hn0 hN hlt)).symm⟩
        · refine lv_iload_n hx hb dX0_run_28 rfl (lv_at hl 0 rfl) ?_
          exact mm_iret (mw := wW h a cA) (u1 := (u_20.1, u_20.2.1, u_20.2.2.1, u_20.2.2.2.1, u_20.2.2.2.2)) hx hb hr hlocks hP hK hD hS dX0_run_29 ⟨⟨q_20.1.1, q_20.1.2⟩, fun hq => absurd (by rw [q_20.2 ((hfz hq).2 _)]; decide) c_25⟩
  refine lv_iload_n hx hb dX0_run_0 rfl (lv_at hl 1 rfl) ?_
  refine lv_sipush (v := 20000) hx hb dX0_run_1 (by decide) ?_
  refine ps_gov (As := [.int n0, .int 20000]) (rest := []) ⟨hx, hb, hml, hown, hts⟩ (kX0_refuseOutside l n0 20000 ⟨by rw [hn0]; exact nI_pos (by omega), by rw [hn0]; exact nI_le hN (by decide)⟩) (va_cwS 2 hts gX0_run_X0_refuseOutside rfl rfl rfl (by decide +kernel) ⟨by decide, by decide⟩) rfl hl.1 rfl (Nat.le_of_ble_eq_true rfl) dX0_run_4 ⟨Nat.zero_le _, Nat.zero_le _⟩ (fun r_4 q_4 => ?_)
  refine lv_aload_n hx hb dX0_run_7 rfl (lv_at hl 0 rfl) ?_
  refine lv_iconst (v := 0) hx hb dX0_run_8 (by decide) ?_
  refine va_put (D := D) (ci := 0) (v := .int 0) (ty := .int) (C := RX0) (T := TX0) (N := 5) hx hb hts iw_X0_run tyX0 tyX0_ok nmX0 hown hK hP hD hS 0 rfl rfl 4 (by decide) (hts (.fieldLink RX0 23 "WordMill" "doneInRun" "I") (by decide +kernel)) (fun _ h9 => h9) rfl (by decide +kernel) rfl rfl (Nat.le_of_ble_eq_true rfl) dX0_run_9 (fun H locs hP hD hS => ?_)
  have hP : va_P D vwCl (wW h a cA (u.1, u.2.1, u.2.2.1, u.2.2.2.1, 0)) H := hP
  have hD : va_D (wA h a) (wW h a cA (u.1, u.2.1, u.2.2.1, u.2.2.2.1, 0)) := hD
  refine lv_iconst (v := 0) hx hb dX0_run_12 (by decide) ?_
  refine lv_istore_n (lv' := [(2, .int 0), (0, .ref h), (1, .int n0)]) hx hb dX0_run_13 rfl hl (by decide) rfl (fun ls hl => ?_)
  exact loop (N + 1) 0 0 _ _ _ _ (by omega) nI_0.symm (by omega) (show wI (u.1, u.2.1, u.2.2.1, u.2.2.2.1, 0) from ⟨hI.1, hI.2⟩) (fun hq => ⟨rfl, hq⟩) hP hD hS (lv_sub hl [0, 1, 2] rfl)
