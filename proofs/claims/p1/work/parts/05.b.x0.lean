theorem iw_X0_push : ∀ w ∈ u_ws RX0 TX0 5, w ∈ wsX0_push := by decide +kernel
set_option maxHeartbeats 4000000 in
set_option maxRecDepth 100000 in
theorem kX0_push (l : Launch) (D : va_G) (h a : Nat) (cA : ClassId) (u : wS) (hI : wI u) (ac : Int32) (w : Int64) (hac : vp_in ac 4096) : MM l yX0_push wsX0_push ({ frames := 2, cells := 0, slots := 0, locals := 47 }) D vwCl [(cA, .long)] (wW h a cA) (wA h a) u [.ref h, .int ac, .long w] rv_i (fun _ u' => wI u') := by
  refine mm_of (cc := cX0_push) (maxL := 5) (ret := (some .int)) (by decide) rfl (Nat.le_of_ble_eq_true rfl) (wA_in h a cA u) ?_
  intro p e s m below meth c ls C hl hP hK hD hS
  obtain ⟨hx, hb, hr, hml, hown, hts, hlocks⟩ := C
  have hl : lv_has ls 5 [(0, .ref h), (1, .int ac), (2, .long w)] := hl
  refine lv_aload_n hx hb dX0_push_0 rfl (lv_at hl 0 rfl) ?_
  refine va_get (D := D) (ci := 0) (v := .ref a) (C := RX0) (T := TX0) (N := 5) hx hb hts iw_X0_push hown hK hP 0 rfl rfl 0 (by decide) (hts (.fieldLink RX0 9 "WordMill" "memory" "[J") (by decide +kernel)) (fun _ h9 => h9) rfl dX0_push_1 ?_
  refine lv_iload_n hx hb dX0_push_4 rfl (lv_at hl 1 rfl) ?_
  refine va_lald hx hb hK hP 1 0 rfl rfl hac dX0_push_5 ?_
  refine ps_goi (As := [.long (u.1 (ac : Int32).toNatClampNeg)]) (rest := []) ⟨hx, hb, hml, hown, hts⟩ (kX0_rightHalf l (u.1 (ac : Int32).toNatClampNeg)) (va_cwS 1 hts gX0_push_X0_rightHalf rfl rfl rfl (by decide +kernel) ⟨by decide, by decide⟩) rfl hl.1 rfl (Nat.le_of_ble_eq_true rfl) dX0_push_6 ⟨Nat.zero_le _, Nat.zero_le _⟩ (fun r_6 q_6 => ?_)
  refine lv_iconst (v := 1) hx hb dX0_push_9 (by decide) ?_
  refine lv_iadd hx hb dX0_push_10 ?_
  refine lv_ldc (v := 262143) hx hb hown (hts (.constant RX0 34 262143) (by decide +kernel)) dX0_push_11 ?_
  refine lv_iand hx hb dX0_push_13 ?_
  refine lv_topi (fun x_14 ex_14 => ?_)
  refine lv_istore (lv' := [(4, .int x_14), (0, .ref h), (1, .int ac), (2, .long w)]) hx hb dX0_push_14 hl (by decide) rfl (fun ls hl => ?_)
  refine lv_iload hx hb dX0_push_16 (lv_at hl 0 rfl) ?_
  refine lv_sipush (v := 4096) hx hb dX0_push_18 (by decide) ?_
  refine lv_icmp_lt (tgt := 26) hx hb dX0_push_21 (by decide) (fun c_21 => ?_) (fun c_21 => ?_)
  · refine lv_aload_n hx hb dX0_push_26 rfl (lv_at hl 1 rfl) ?_
    refine lv_iload_n hx hb dX0_push_27 rfl (lv_at hl 2 rfl) ?_
    refine lv_iconst (v := 1) hx hb dX0_push_28 (by decide) ?_
    refine w_go (rv := rv_v) (As := [.int ac, .int 1]) (rest := []) ⟨hx, hb, hml, hown, hts⟩ (kX0_moveTop l D h a cA (u.1, u.2.1, u.2.2.1, u.2.2.2.1, u.2.2.2.2) ⟨hI.1, hI.2⟩ ac 1 hac) (cwV 2 hts gX0_push_X0_moveTop rfl rfl rfl (by decide +kernel) ⟨by decide, by decide⟩) hK hP hD hS rfl hl.1 rfl (Nat.le_of_ble_eq_true rfl) dX0_push_29 ⟨Nat.zero_le _, Nat.zero_le _⟩ (fun _ u_29 H locs q_29 hP hD hS => ?_)
    refine W.eq (g2 := F0 m 32 ls []) rfl ?_
    refine lv_aload_n hx hb dX0_push_32 rfl (lv_at hl 1 rfl) ?_
    refine lv_iload hx hb dX0_push_33 (lv_at hl 0 rfl) ?_
    refine lv_lload_n hx hb dX0_push_35 rfl (lv_at hl 3 rfl) ?_
    refine w_go (rv := rv_v) (As := [.int x_14, .long w]) (rest := []) ⟨hx, hb, hml, hown, hts⟩ (kX0_store l D h a cA (u_29.1, u_29.2.1, u_29.2.2.1, u_29.2.2.2.1, u_29.2.2.2.2) ⟨q_29.1, q_29.2⟩ x_14 w (vp_below (vp_nonneg (by rw [ex_14]; exact vp_and18 _)) c_21 (by decide))) (cwV 2 hts gX0_push_X0_store rfl rfl rfl (by decide +kernel) ⟨by decide, by decide⟩) hK hP hD hS rfl hl.1 rfl (Nat.le_of_ble_eq_true rfl) dX0_push_36 ⟨Nat.zero_le _, Nat.zero_le _⟩ (fun _ u_36 H locs q_36 hP hD hS => ?_)
    refine W.eq (g2 := F0 m 39 ls []) rfl ?_
    refine lv_iconst (v := 0) hx hb dX0_push_39 (by decide) ?_
    exact mm_iret (mw := wW h a cA) (u1 := (u_36.1, u_36.2.1, u_36.2.2.1, u_36.2.2.2.1, u_36.2.2.2.2)) hx hb hr hlocks hP hK hD hS dX0_push_40 ⟨q_36.1, q_36.2⟩
  · refine lv_iconst (v := 2) hx hb dX0_push_24 (by decide) ?_
    exact mm_iret (mw := wW h a cA) (u1 := (u.1, u.2.1, u.2.2.1, u.2.2.2.1, u.2.2.2.2)) hx hb hr hlocks hP hK hD hS dX0_push_25 ⟨hI.1, hI.2⟩
theorem iw_X0_pushNextPlace : ∀ w ∈ u_ws RX0 TX0 5, w ∈ wsX0_pushNextPlace := by decide +kernel
set_option maxHeartbeats 4000000 in
set_option maxRecDepth 100000 in
theorem kX0_pushNextPlace (l : Launch) (D : va_G) (h a : Nat) (cA : ClassId) (u : wS) (hI : wI u) (ac : Int32) (e0 : Int32) (hac : vp_in ac 4096) : MM l yX0_pushNextPlace wsX0_pushNextPlace ({ frames := 3, cells := 0, slots := 0, locals := 71 }) D vwCl [(cA, .long)] (wW h a cA) (wA h a) u [.ref h, .int ac, .int e0] rv_i (fun _ u' => wI u') := by
  refine mm_of (cc := cX0_pushNextPlace) (maxL := 4) (ret := (some .int)) (by decide) rfl (Nat.le_of_ble_eq_true rfl) (wA_in h a cA u) ?_
  intro p e s m below meth c ls C hl hP hK hD hS
  obtain ⟨hx, hb, hr, hml, hown, hts, hlocks⟩ := C
  have hl : lv_has ls 4 [(0, .ref h), (1, .int ac), (2, .int e0)] := hl
  refine lv_aload_n hx hb dX0_pushNextPlace_0 rfl (lv_at hl 0 rfl) ?_
  refine lv_iload_n hx hb dX0_pushNextPlace_1 rfl (lv_at hl 1 rfl) ?_
  refine lv_aload_n hx hb dX0_pushNextPlace_2 rfl (lv_at hl 0 rfl) ?_
  refine va_get (D := D) (ci := 0) (v := .int u.2.2.1) (C := RX0) (T := TX0) (N := 5) hx hb hts iw_X0_pushNextPlace hown hK hP 0 rfl rfl 2 (by decide) (hts (.fieldLink RX0 17 "WordMill" "next" "I") (by decide +kernel)) (fun _ h9 => h9) rfl dX0_pushNextPlace_3 ?_
  refine lv_i2l hx hb dX0_pushNextPlace_6 rfl ?_
  refine w_go (rv := rv_i) (As := [.int ac, .long ((u.2.2.1 : Int32).toInt64)]) (rest := []) ⟨hx, hb, hml, hown, hts⟩ (kX0_push l D h a cA (u.1, u.2.1, u.2.2.1, u.2.2.2.1, u.2.2.2.2) ⟨hI.1, hI.2⟩ ac ((u.2.2.1 : Int32).toInt64) hac) (cwV 2 hts gX0_pushNextPlace_X0_push rfl rfl rfl (by decide +kernel) ⟨by decide, by decide⟩) hK hP hD hS rfl hl.1 rfl (Nat.le_of_ble_eq_true rfl) dX0_pushNextPlace_7 ⟨Nat.zero_le _, Nat.zero_le _⟩ (fun r_7 u_7 H locs q_7 hP hD hS => ?_)
  refine W.eq (g2 := F0 m 10 ls (.int r_7 :: [])) rfl ?_
  refine lv_istore_n (lv' := [(3, .int r_7), (0, .ref h), (1, .int ac), (2, .int e0)]) hx hb dX0_pushNextPlace_10 rfl hl (by decide) rfl (fun ls hl => ?_)
  refine lv_iload_n hx hb dX0_pushNextPlace_11 rfl (lv_at hl 0 rfl) ?_
  refine lv_if_ne (tgt := 23) hx hb dX0_pushNextPlace_12 (by decide) (fun c_12 => ?_) (fun c_12 => ?_)
  · refine lv_iload_n hx hb dX0_pushNextPlace_23 rfl (lv_at hl 0 rfl) ?_
    exact mm_iret (mw := wW h a cA) (u1 := (u_7.1, u_7.2.1, u_7.2.2.1, u_7.2.2.2.1, u_7.2.2.2.2)) hx hb hr hlocks hP hK hD hS dX0_pushNextPlace_24 ⟨q_7.1, q_7.2⟩
  · refine lv_aload_n hx hb dX0_pushNextPlace_15 rfl (lv_at hl 1 rfl) ?_
    refine lv_iload_n hx hb dX0_pushNextPlace_16 rfl (lv_at hl 3 rfl) ?_
    refine w_go (rv := rv_i) (As := [.int e0]) (rest := []) ⟨hx, hb, hml, hown, hts⟩ (kX0_jump l D h a cA (u_7.1, u_7.2.1, u_7.2.2.1, u_7.2.2.2.1, u_7.2.2.2.2) ⟨q_7.1, q_7.2⟩ e0 ) (cwV 1 hts gX0_pushNextPlace_X0_jump rfl rfl rfl (by decide +kernel) ⟨by decide, by decide⟩) hK hP hD hS rfl hl.1 rfl (Nat.le_of_ble_eq_true rfl) dX0_pushNextPlace_17 ⟨Nat.zero_le _, Nat.zero_le _⟩ (fun r_17 u_17 H locs q_17 hP hD hS => ?_)
    refine W.eq (g2 := F0 m 20 ls (.int r_17 :: [])) rfl ?_
    refine lv_goto (tgt := 24) hx hb dX0_pushNextPlace_20 (by decide) ?_
    exact mm_iret (mw := wW h a cA) (u1 := (u_17.1, u_17.2.1, u_17.2.2.1, u_17.2.2.2.1, u_17.2.2.2.2)) hx hb hr hlocks hP hK hD hS dX0_pushNextPlace_24 ⟨q_17.1, q_17.2⟩
theorem iw_X0_popToMemory : ∀ w ∈ u_ws RX0 TX0 5, w ∈ wsX0_popToMemory := by decide +kernel
set_option maxHeartbeats 4000000 in
set_option maxRecDepth 100000 in
theorem kX0_popToMemory (l : Launch) (D : va_G) (h a : Nat) (cA : ClassId) (u : wS) (hI : wI u) (ac : Int32) (e0 : Int32) (hac : vp_in ac 4096) (he : vp_in e0 4096) : MM l yX0_popToMemory wsX0_popToMemory ({ frames := 2, cells := 0, slots := 0, locals := 47 }) D vwCl [(cA, .long)] (wW h a cA) (wA h a) u [.ref h, .int ac, .int e0] rv_i (fun _ u' => wI u') := by
  refine mm_of (cc := cX0_popToMemory) (maxL := 4) (ret := (some .int)) (by decide) rfl (Nat.le_of_ble_eq_true rfl) (wA_in h a cA u) ?_
  intro p e s m below meth c ls C hl hP hK hD hS
  obtain ⟨hx, hb, hr, hml, hown, hts, hlocks⟩ := C
  have hl : lv_has ls 4 [(0, .ref h), (1, .int ac), (2, .int e0)] := hl
  refine lv_aload_n hx hb dX0_popToMemory_0 rfl (lv_at hl 0 rfl) ?_
  refine va_get (D := D) (ci := 0) (v := .ref a) (C := RX0) (T := TX0) (N := 5) hx hb hts iw_X0_popToMemory hown hK hP 0 rfl rfl 0 (by decide) (hts (.fieldLink RX0 9 "WordMill" "memory" "[J") (by decide +kernel)) (fun _ h9 => h9) rfl dX0_popToMemory_1 ?_
  refine lv_iload_n hx hb dX0_popToMemory_4 rfl (lv_at hl 1 rfl) ?_
  refine va_lald hx hb hK hP 1 0 rfl rfl hac dX0_popToMemory_5 ?_
  refine ps_goi (As := [.long (u.1 (ac : Int32).toNatClampNeg)]) (rest := []) ⟨hx, hb, hml, hown, hts⟩ (kX0_rightHalf l (u.1 (ac : Int32).toNatClampNeg)) (va_cwS 1 hts gX0_popToMemory_X0_rightHalf rfl rfl rfl (by decide +kernel) ⟨by decide, by decide⟩) rfl hl.1 rfl (Nat.le_of_ble_eq_true rfl) dX0_popToMemory_6 ⟨Nat.zero_le _, Nat.zero_le _⟩ (fun r_6 q_6 => ?_)
  refine lv_istore_n (lv' := [(3, .int r_6), (0, .ref h), (1, .int ac), (2, .int e0)]) hx hb dX0_popToMemory_9 rfl hl (by decide) rfl (fun ls hl => ?_)
  refine lv_iload_n hx hb dX0_popToMemory_10 rfl (lv_at hl 0 rfl) ?_
  refine lv_sipush (v := 4096) hx hb dX0_popToMemory_11 (by decide) ?_
  refine lv_icmp_lt (tgt := 19) hx hb dX0_popToMemory_14 (by decide) (fun c_14 => ?_) (fun c_14 => ?_)
  · refine lv_aload_n hx hb dX0_popToMemory_19 rfl (lv_at hl 1 rfl) ?_
    refine lv_iload_n hx hb dX0_popToMemory_20 rfl (lv_at hl 3 rfl) ?_
    refine lv_aload_n hx hb dX0_popToMemory_21 rfl (lv_at hl 1 rfl) ?_
    refine va_get (D := D) (ci := 0) (v := .ref a) (C := RX0) (T := TX0) (N := 5) hx hb hts iw_X0_popToMemory hown hK hP 0 rfl rfl 0 (by decide) (hts (.fieldLink RX0 9 "WordMill" "memory" "[J") (by decide +kernel)) (fun _ h9 => h9) rfl dX0_popToMemory_22 ?_
    refine lv_iload_n hx hb dX0_popToMemory_25 rfl (lv_at hl 0 rfl) ?_
    refine va_lald hx hb hK hP 1 0 rfl rfl (vp_below (vp_nonneg q_6.1) c_14 (by decide)) dX0_popToMemory_26 ?_
    refine w_go (rv := rv_v) (As := [.int e0, .long (u.1 (r_6 : Int32).toNatClampNeg)]) (rest := []) ⟨hx, hb, hml, hown, hts⟩ (kX0_store l D h a cA (u.1, u.2.1, u.2.2.1, u.2.2.2.1, u.2.2.2.2) ⟨hI.1, hI.2⟩ e0 (u.1 (r_6 : Int32).toNatClampNeg) he) (cwV 2 hts gX0_popToMemory_X0_store rfl rfl rfl (by decide +kernel) ⟨by decide, by decide⟩) hK hP hD hS rfl hl.1 rfl (Nat.le_of_ble_eq_true rfl) dX0_popToMemory_27 ⟨Nat.zero_le _, Nat.zero_le _⟩ (fun _ u_27 H locs q_27 hP hD hS => ?_)
    refine W.eq (g2 := F0 m 30 ls []) rfl ?_
    refine lv_aload_n hx hb dX0_popToMemory_30 rfl (lv_at hl 1 rfl) ?_
    refine lv_iload_n hx hb dX0_popToMemory_31 rfl (lv_at hl 2 rfl) ?_
    refine lv_iconst (v := -1) hx hb dX0_popToMemory_32 (by decide) ?_
    refine w_go (rv := rv_v) (As := [.int ac, .int (-1)]) (rest := []) ⟨hx, hb, hml, hown, hts⟩ (kX0_moveTop l D h a cA (u_27.1, u_27.2.1, u_27.2.2.1, u_27.2.2.2.1, u_27.2.2.2.2) ⟨q_27.1, q_27.2⟩ ac (-1) hac) (cwV 2 hts gX0_popToMemory_X0_moveTop rfl rfl rfl (by decide +kernel) ⟨by decide, by decide⟩) hK hP hD hS rfl hl.1 rfl (Nat.le_of_ble_eq_true rfl) dX0_popToMemory_33 ⟨Nat.zero_le _, Nat.zero_le _⟩ (fun _ u_33 H locs q_33 hP hD hS => ?_)
    refine W.eq (g2 := F0 m 36 ls []) rfl ?_
    refine lv_iconst (v := 0) hx hb dX0_popToMemory_36 (by decide) ?_
    exact mm_iret (mw := wW h a cA) (u1 := (u_33.1, u_33.2.1, u_33.2.2.1, u_33.2.2.2.1, u_33.2.2.2.2)) hx hb hr hlocks hP hK hD hS dX0_popToMemory_37 ⟨q_33.1, q_33.2⟩
  · refine lv_iconst (v := 2) hx hb dX0_popToMemory_17 (by decide) ?_
    exact mm_iret (mw := wW h a cA) (u1 := (u.1, u.2.1, u.2.2.1, u.2.2.2.1, u.2.2.2.2)) hx hb hr hlocks hP hK hD hS dX0_popToMemory_18 ⟨hI.1, hI.2⟩
theorem iw_X0_popToPc : ∀ w ∈ u_ws RX0 TX0 5, w ∈ wsX0_popToPc := by decide +kernel
set_option maxHeartbeats 4000000 in
set_option maxRecDepth 100000 in
theorem kX0_popToPc (l : Launch) (D : va_G) (h a : Nat) (cA : ClassId) (u : wS) (hI : wI u) (ac : Int32) (hac : vp_in ac 4096) : MM l yX0_popToPc wsX0_popToPc ({ frames := 2, cells := 0, slots := 0, locals := 47 }) D vwCl [(cA, .long)] (wW h a cA) (wA h a) u [.ref h, .int ac] rv_i (fun _ u' => wI u') := by
  refine mm_of (cc := cX0_popToPc) (maxL := 3) (ret := (some .int)) (by decide) rfl (Nat.le_of_ble_eq_true rfl) (wA_in h a cA u) ?_
  intro p e s m below meth c ls C hl hP hK hD hS
  obtain ⟨hx, hb, hr, hml, hown, hts, hlocks⟩ := C
  have hl : lv_has ls 3 [(0, .ref h), (1, .int ac)] := hl
  refine lv_aload_n hx hb dX0_popToPc_0 rfl (lv_at hl 0 rfl) ?_
  refine va_get (D := D) (ci := 0) (v := .ref a) (C := RX0) (T := TX0) (N := 5) hx hb hts iw_X0_popToPc hown hK hP 0 rfl rfl 0 (by decide) (hts (.fieldLink RX0 9 "WordMill" "memory" "[J") (by decide +kernel)) (fun _ h9 => h9) rfl dX0_popToPc_1 ?_
  refine lv_iload_n hx hb dX0_popToPc_4 rfl (lv_at hl 1 rfl) ?_
  refine va_lald hx hb hK hP 1 0 rfl rfl hac dX0_popToPc_5 ?_
  refine ps_goi (As := [.long (u.1 (ac : Int32).toNatClampNeg)]) (rest := []) ⟨hx, hb, hml, hown, hts⟩ (kX0_rightHalf l (u.1 (ac : Int32).toNatClampNeg)) (va_cwS 1 hts gX0_popToPc_X0_rightHalf rfl rfl rfl (by decide +kernel) ⟨by decide, by decide⟩) rfl hl.1 rfl (Nat.le_of_ble_eq_true rfl) dX0_popToPc_6 ⟨Nat.zero_le _, Nat.zero_le _⟩ (fun r_6 q_6 => ?_)
  refine lv_istore_n (lv' := [(2, .int r_6), (0, .ref h), (1, .int ac)]) hx hb dX0_popToPc_9 rfl hl (by decide) rfl (fun ls hl => ?_)
  refine lv_iload_n hx hb dX0_popToPc_10 rfl (lv_at hl 0 rfl) ?_
  refine lv_sipush (v := 4096) hx hb dX0_popToPc_11 (by decide) ?_
  refine lv_icmp_lt (tgt := 19) hx hb dX0_popToPc_14 (by decide) (fun c_14 => ?_) (fun c_14 => ?_)
  · refine lv_aload_n hx hb dX0_popToPc_19 rfl (lv_at hl 1 rfl) ?_
    refine lv_aload_n hx hb dX0_popToPc_20 rfl (lv_at hl 1 rfl) ?_
    refine va_get (D := D) (ci := 0) (v := .ref a) (C := RX0) (T := TX0) (N := 5) hx hb hts iw_X0_popToPc hown hK hP 0 rfl rfl 0 (by decide) (hts (.fieldLink RX0 9 "WordMill" "memory" "[J") (by decide +kernel)) (fun _ h9 => h9) rfl dX0_popToPc_21 ?_
    refine lv_iload_n hx hb dX0_popToPc_24 rfl (lv_at hl 0 rfl) ?_
    refine va_lald hx hb hK hP 1 0 rfl rfl (vp_below (vp_nonneg q_6.1) c_14 (by decide)) dX0_popToPc_25 ?_
    refine ps_goi (As := [.long (u.1 (r_6 : Int32).toNatClampNeg)]) (rest := [.ref h]) ⟨hx, hb, hml, hown, hts⟩ (kX0_rightHalf l (u.1 (r_6 : Int32).toNatClampNeg)) (va_cwS 1 hts gX0_popToPc_X0_rightHalf rfl rfl rfl (by decide +kernel) ⟨by decide, by decide⟩) rfl hl.1 rfl (Nat.le_of_ble_eq_true rfl) dX0_popToPc_26 ⟨Nat.zero_le _, Nat.zero_le _⟩ (fun r_26 q_26 => ?_)
    refine w_go (rv := rv_i) (As := [.int r_26]) (rest := []) ⟨hx, hb, hml, hown, hts⟩ (kX0_jump l D h a cA (u.1, u.2.1, u.2.2.1, u.2.2.2.1, u.2.2.2.2) ⟨hI.1, hI.2⟩ r_26 ) (cwV 1 hts gX0_popToPc_X0_jump rfl rfl rfl (by decide +kernel) ⟨by decide, by decide⟩) hK hP hD hS rfl hl.1 rfl (Nat.le_of_ble_eq_true rfl) dX0_popToPc_29 ⟨Nat.zero_le _, Nat.zero_le _⟩ (fun r_29 u_29 H locs q_29 hP hD hS => ?_)
    refine W.eq (g2 := F0 m 32 ls (.int r_29 :: [])) rfl ?_
    refine lv_pop hx hb dX0_popToPc_32 rfl ?_
    refine lv_aload_n hx hb dX0_popToPc_33 rfl (lv_at hl 1 rfl) ?_
    refine lv_iload_n hx hb dX0_popToPc_34 rfl (lv_at hl 2 rfl) ?_
    refine lv_iconst (v := -1) hx hb dX0_popToPc_35 (by decide) ?_
    refine w_go (rv := rv_v) (As := [.int ac, .int (-1)]) (rest := []) ⟨hx, hb, hml, hown, hts⟩ (kX0_moveTop l D h a cA (u_29.1, u_29.2.1, u_29.2.2.1, u_29.2.2.2.1, u_29.2.2.2.2) ⟨q_29.1, q_29.2⟩ ac (-1) hac) (cwV 2 hts gX0_popToPc_X0_moveTop rfl rfl rfl (by decide +kernel) ⟨by decide, by decide⟩) hK hP hD hS rfl hl.1 rfl (Nat.le_of_ble_eq_true rfl) dX0_popToPc_36 ⟨Nat.zero_le _, Nat.zero_le _⟩ (fun _ u_36 H locs q_36 hP hD hS => ?_)
    refine W.eq (g2 := F0 m 39 ls []) rfl ?_
    refine lv_iconst (v := 0) hx hb dX0_popToPc_39 (by decide) ?_
    exact mm_iret (mw := wW h a cA) (u1 := (u_36.1, u_36.2.1, u_36.2.2.1, u_36.2.2.2.1, u_36.2.2.2.2)) hx hb hr hlocks hP hK hD hS dX0_popToPc_40 ⟨q_36.1, q_36.2⟩
  · refine lv_iconst (v := 2) hx hb dX0_popToPc_17 (by decide) ?_
    exact mm_iret (mw := wW h a cA) (u1 := (u.1, u.2.1, u.2.2.1, u.2.2.2.1, u.2.2.2.2)) hx hb hr hlocks hP hK hD hS dX0_popToPc_18 ⟨hI.1, hI.2⟩
theorem iw_X0_leaveNextPlaceAndJump : ∀ w ∈ u_ws RX0 TX0 5, w ∈ wsX0_leaveNextPlaceAndJump := by decide +kernel
set_option maxHeartbeats 4000000 in
set_option maxRecDepth 100000 in
theorem kX0_leaveNextPlaceAndJump (l : Launch) (D : va_G) (h a : Nat) (cA : ClassId) (u : wS) (hI : wI u) (e0 : Int32) (he : vp_in e0 4096) : MM l yX0_leaveNextPlaceAndJump wsX0_leaveNextPlaceAndJump ({ frames := 1, cells := 0, slots := 0, locals := 23 }) D vwCl [(cA, .long)] (wW h a cA) (wA h a) u [.ref h, .int e0] rv_i (fun _ u' => wI u') := by
  refine mm_of (cc := cX0_leaveNextPlaceAndJump) (maxL := 2) (ret := (some .int)) (by decide) rfl (Nat.le_of_ble_eq_true rfl) (wA_in h a cA u) ?_
  intro p e s m below meth c ls C hl hP hK hD hS
  obtain ⟨hx, hb, hr, hml, hown, hts, hlocks⟩ := C
  have hl : lv_has ls 2 [(0, .ref h), (1, .int e0)] := hl
  refine lv_aload_n hx hb dX0_leaveNextPlaceAndJump_0 rfl (lv_at hl 0 rfl) ?_
  refine lv_iload_n hx hb dX0_leaveNextPlaceAndJump_1 rfl (lv_at hl 1 rfl) ?_
  refine lv_aload_n hx hb dX0_leaveNextPlaceAndJump_2 rfl (lv_at hl 0 rfl) ?_
  refine va_get (D := D) (ci := 0) (v := .int u.2.2.1) (C := RX0) (T := TX0) (N := 5) hx hb hts iw_X0_leaveNextPlaceAndJump hown hK hP 0 rfl rfl 2 (by decide) (hts (.fieldLink RX0 17 "WordMill" "next" "I") (by decide +kernel)) (fun _ h9 => h9) rfl dX0_leaveNextPlaceAndJump_3 ?_
  refine lv_i2l hx hb dX0_leaveNextPlaceAndJump_6 rfl ?_
  refine w_go (rv := rv_v) (As := [.int e0, .long ((u.2.2.1 : Int32).toInt64)]) (rest := []) ⟨hx, hb, hml, hown, hts⟩ (kX0_store l D h a cA (u.1, u.2.1, u.2.2.1, u.2.2.2.1, u.2.2.2.2) ⟨hI.1, hI.2⟩ e0 ((u.2.2.1 : Int32).toInt64) he) (cwV 2 hts gX0_leaveNextPlaceAndJump_X0_store rfl rfl rfl (by decide +kernel) ⟨by decide, by decide⟩) hK hP hD hS rfl hl.1 rfl (Nat.le_of_ble_eq_true rfl) dX0_leaveNextPlaceAndJump_7 ⟨Nat.zero_le _, Nat.zero_le _⟩ (fun _ u_7 H locs q_7 hP hD hS => ?_)
  refine W.eq (g2 := F0 m 10 ls []) rfl ?_
  refine lv_aload_n hx hb dX0_leaveNextPlaceAndJump_10 rfl (lv_at hl 0 rfl) ?_
  refine lv_iload_n hx hb dX0_leaveNextPlaceAndJump_11 rfl (lv_at hl 1 rfl) ?_
  refine lv_iconst (v := 1) hx hb dX0_leaveNextPlaceAndJump_12 (by decide) ?_
  refine lv_iadd hx hb dX0_leaveNextPlaceAndJump_13 ?_
  refine w_go (rv := rv_i) (As := [.int (e0 + 1)]) (rest := []) ⟨hx, hb, hml, hown, hts⟩ (kX0_jump l D h a cA (u_7.1, u_7.2.1, u_7.2.2.1, u_7.2.2.2.1, u_7.2.2.2.2) ⟨q_7.1, q_7.2⟩ (e0 + 1) ) (cwV 1 hts gX0_leaveNextPlaceAndJump_X0_jump rfl rfl rfl (by decide +kernel) ⟨by decide, by decide⟩) hK hP hD hS rfl hl.1 rfl (Nat.le_of_ble_eq_true rfl) dX0_leaveNextPlaceAndJump_14 ⟨Nat.zero_le _, Nat.zero_le _⟩ (fun r_14 u_14 H locs q_14 hP hD hS => ?_)
  refine W.eq (g2 := F0 m 17 ls (.int r_14 :: [])) rfl ?_
  exact mm_iret (mw := wW h a cA) (u1 := (u_14.1, u_14.2.1, u_14.2.2.1, u_14.2.2.2.1, u_14.2.2.2.2)) hx hb hr hlocks hP hK hD hS dX0_leaveNextPlaceAndJump_17 ⟨q_14.1, q_14.2⟩
theorem iw_X0_exchange : ∀ w ∈ u_ws RX0 TX0 5, w ∈ wsX0_exchange := by decide +kernel
set_option maxHeartbeats 4000000 in
set_option maxRecDepth 100000 in
theorem kX0_exchange (l : Launch) (D : va_G) (h a : Nat) (cA : ClassId) (u : wS) (hI : wI u) (ac : Int32) (e0 : Int32) (hac : vp_in ac 4096) (he : vp_in e0 4096) : MM l yX0_exchange wsX0_exchange ({ frames := 1, cells := 0, slots := 0, locals := 23 }) D vwCl [(cA, .long)] (wW h a cA) (wA h a) u [.ref h, .int ac, .int e0] rv_i (fun _ u' => wI u') := by
  refine mm_of (cc := cX0_exchange) (maxL := 5) (ret := (some .int)) (by decide) rfl (Nat.le_of_ble_eq_true rfl) (wA_in h a cA u) ?_
  intro p e s m below meth c ls C hl hP hK hD hS
  obtain ⟨hx, hb, hr, hml, hown, hts, hlocks⟩ := C
  have hl : lv_has ls 5 [(0, .ref h), (1, .int ac), (2, .int e0)] := hl
  refine lv_aload_n hx hb dX0_exchange_0 rfl (lv_at hl 0 rfl) ?_
  refine va_get (D := D) (ci := 0) (v := .ref a) (C := RX0) (T := TX0) (N := 5) hx hb hts iw_X0_exchange hown hK hP 0 rfl rfl 0 (by decide) (hts (.fieldLink RX0 9 "WordMill" "memory" "[J") (by decide +kernel)) (fun _ h9 => h9) rfl dX0_exchange_1 ?_
  refine lv_iload_n hx hb dX0_exchange_4 rfl (lv_at hl 1 rfl) ?_
  refine va_lald hx hb hK hP 1 0 rfl rfl hac dX0_exchange_5 ?_
  refine lv_topl (fun x_6 ex_6 => ?_)
  refine lv_lstore_n (lv' := [(3, .long x_6), (0, .ref h), (1, .int ac), (2, .int e0)]) hx hb dX0_exchange_6 rfl hl (by decide) rfl (fun ls hl => ?_)
  refine lv_aload_n hx hb dX0_exchange_7 rfl (lv_at hl 1 rfl) ?_
  refine lv_iload_n hx hb dX0_exchange_8 rfl (lv_at hl 2 rfl) ?_
  refine lv_aload_n hx hb dX0_exchange_9 rfl (lv_at hl 1 rfl) ?_
  refine va_get (D := D) (ci := 0) (v := .ref a) (C := RX0) (T := TX0) (N := 5) hx hb hts iw_X0_exchange hown hK hP 0 rfl rfl 0 (by decide) (hts (.fieldLink RX0 9 "WordMill" "memory" "[J") (by decide +kernel)) (fun _ h9 => h9) rfl dX0_exchange_10 ?_
  refine lv_iload_n hx hb dX0_exchange_13 rfl (lv_at hl 3 rfl) ?_
  refine va_lald hx hb hK hP 1 0 rfl rfl he dX0_exchange_14 ?_
  refine w_go (rv := rv_v) (As := [.int ac, .long (u.1 (e0 : Int32).toNatClampNeg)]) (rest := []) ⟨hx, hb, hml, hown, hts⟩ (kX0_store l D h a cA (u.1, u.2.1, u.2.2.1, u.2.2.2.1, u.2.2.2.2) ⟨hI.1, hI.2⟩ ac (u.1 (e0 : Int32).toNatClampNeg) hac) (cwV 2 hts gX0_exchange_X0_store rfl rfl rfl (by decide +kernel) ⟨by decide, by decide⟩) hK hP hD hS rfl hl.1 rfl (Nat.le_of_ble_eq_true rfl) dX0_exchange_15 ⟨Nat.zero_le _, Nat.zero_le _⟩ (fun _ u_15 H locs q_15 hP hD hS => ?_)
  refine W.eq (g2 := F0 m 18 ls []) rfl ?_
  refine lv_aload_n hx hb dX0_exchange_18 rfl (lv_at hl 1 rfl) ?_
  refine lv_iload_n hx hb dX0_exchange_19 rfl (lv_at hl 3 rfl) ?_
  refine lv_lload_n hx hb dX0_exchange_20 rfl (lv_at hl 0 rfl) ?_
  refine w_go (rv := rv_v) (As := [.int e0, .long x_6]) (rest := []) ⟨hx, hb, hml, hown, hts⟩ (kX0_store l D h a cA (u_15.1, u_15.2.1, u_15.2.2.1, u_15.2.2.2.1, u_15.2.2.2.2) ⟨q_15.1, q_15.2⟩ e0 x_6 he) (cwV 2 hts gX0_exchange_X0_store rfl rfl rfl (by decide +kernel) ⟨by decide, by decide⟩) hK hP hD hS rfl hl.1 rfl (Nat.le_of_ble_eq_true rfl) dX0_exchange_21 ⟨Nat.zero_le _, Nat.zero_le _⟩ (fun _ u_21 H locs q_21 hP hD hS => ?_)
  refine W.eq (g2 := F0 m 24 ls []) rfl ?_
  refine lv_iconst (v := 0) hx hb dX0_exchange_24 (by decide) ?_
  exact mm_iret (mw := wW h a cA) (u1 := (u_21.1, u_21.2.1, u_21.2.2.1, u_21.2.2.2.1, u_21.2.2.2.2)) hx hb hr hlocks hP hK hD hS dX0_exchange_25 ⟨q_21.1, q_21.2⟩
theorem iw_X0_divide : ∀ w ∈ u_ws RX0 TX0 5, w ∈ wsX0_divide := by decide +kernel
set_option maxHeartbeats 4000000 in
set_option maxRecDepth 100000 in
theorem kX0_divide (l : Launch) (D : va_G) (h a : Nat) (cA : ClassId) (u : wS) (hI : wI u) (ac : Int32) (w : Int64) (hac : vp_in ac 4096) : MM l yX0_divide wsX0_divide ({ frames := 1, cells := 0, slots := 0, locals := 23 }) D vwCl [(cA, .long)] (wW h a cA) (wA h a) u [.ref h, .int ac, .long w] rv_i (fun _ u' => wI u') := by
  refine mm_of (cc := cX0_divide) (maxL := 8) (ret := (some .int)) (by decide) rfl (Nat.le_of_ble_eq_true rfl) (wA_in h a cA u) ?_
  intro p e s m below meth c ls C hl hP hK hD hS
  obtain ⟨hx, hb, hr, hml, hown, hts, hlocks⟩ := C
  have hl : lv_has ls 8 [(0, .ref h), (1, .int ac), (2, .long w)] := hl
  refine lv_aload_n hx hb dX0_divide_0 rfl (lv_at hl 0 rfl) ?_
  refine va_get (D := D) (ci := 0) (v := .ref a) (C := RX0) (T := TX0) (N := 5) hx hb hts iw_X0_divide hown hK hP 0 rfl rfl 0 (by decide) (hts (.fieldLink RX0 9 "WordMill" "memory" "[J") (by decide +kernel)) (fun _ h9 => h9) rfl dX0_divide_1 ?_
  refine lv_iload_n hx hb dX0_divide_4 rfl (lv_at hl 1 rfl) ?_
  refine va_lald hx hb hK hP 1 0 rfl rfl hac dX0_divide_5 ?_
  refine ps_gol (As := [.long (u.1 (ac : Int32).toNatClampNeg)]) (rest := []) ⟨hx, hb, hml, hown, hts⟩ (kX0_number l (u.1 (ac : Int32).toNatClampNeg)) (va_cwS 1 hts gX0_divide_X0_number rfl rfl rfl (by decide +kernel) ⟨by decide, by decide⟩) rfl hl.1 rfl (Nat.le_of_ble_eq_true rfl) dX0_divide_6 ⟨Nat.zero_le _, Nat.zero_le _⟩ (fun r_6 q_6 => ?_)
  refine lv_lstore (lv' := [(4, .long r_6), (0, .ref h), (1, .int ac), (2, .long w)]) hx hb dX0_divide_9 hl (by decide) rfl (fun ls hl => ?_)
  refine lv_lload_n hx hb dX0_divide_11 rfl (lv_at hl 3 rfl) ?_
  refine ps_gol (As := [.long w]) (rest := []) ⟨hx, hb, hml, hown, hts⟩ (kX0_number l w) (va_cwS 1 hts gX0_divide_X0_number rfl rfl rfl (by decide +kernel) ⟨by decide, by decide⟩) rfl hl.1 rfl (Nat.le_of_ble_eq_true rfl) dX0_divide_12 ⟨Nat.zero_le _, Nat.zero_le _⟩ (fun r_12 q_12 => ?_)
  refine lv_lstore (lv' := [(6, .long r_12), (4, .long r_6), (0, .ref h), (1, .int ac), (2, .long w)]) hx hb dX0_divide_15 hl (by decide) rfl (fun ls hl => ?_)
  refine lv_lload hx hb dX0_divide_17 (lv_at hl 0 rfl) ?_
  refine lv_lconst (v := 0) hx hb dX0_divide_19 (by decide) ?_
  refine W.lcmp hx hb dX0_divide_20 ?_
  refine lv_if_eq (tgt := 42) hx hb dX0_divide_21 (by decide) (fun c_21 => ?_) (fun c_21 => ?_)
  · refine lv_iconst (v := 3) hx hb dX0_divide_42 (by decide) ?_
    exact mm_iret (mw := wW h a cA) (u1 := (u.1, u.2.1, u.2.2.1, u.2.2.2.1, u.2.2.2.2)) hx hb hr hlocks hP hK hD hS dX0_divide_43 ⟨hI.1, hI.2⟩
  · refine lv_lload hx hb dX0_divide_24 (lv_at hl 0 rfl) ?_
    refine lv_ldc2 (v := -1) hx hb hown (hts (.constantLong RX0 128 (-1)) (by decide +kernel)) dX0_divide_26 ?_
    refine W.lcmp hx hb dX0_divide_29 ?_
    refine lv_if_ne (tgt := 44) hx hb dX0_divide_30 (by decide) (fun c_30 => ?_) (fun c_30 => ?_)
    · refine lv_aload_n hx hb dX0_divide_44 rfl (lv_at hl 2 rfl) ?_
      refine lv_iload_n hx hb dX0_divide_45 rfl (lv_at hl 3 rfl) ?_
      refine lv_lload hx hb dX0_divide_46 (lv_at hl 1 rfl) ?_
      refine lv_lload hx hb dX0_divide_48 (lv_at hl 0 rfl) ?_
      refine lv_ldiv hx hb dX0_divide_50 (fun hz => c_21 (by rw [hz]; rfl)) ?_
      refine w_go (rv := rv_v) (As := [.int ac, .long (r_6 / r_12)]) (rest := []) ⟨hx, hb, hml, hown, hts⟩ (kX0_store l D h a cA (u.1, u.2.1, u.2.2.1, u.2.2.2.1, u.2.2.2.2) ⟨hI.1, hI.2⟩ ac (r_6 / r_12) hac) (cwV 2 hts gX0_divide_X0_store rfl rfl rfl (by decide +kernel) ⟨by decide, by decide⟩) hK hP hD hS rfl hl.1 rfl (Nat.le_of_ble_eq_true rfl) dX0_divide_51 ⟨Nat.zero_le _, Nat.zero_le _⟩ (fun _ u_51 H locs q_51 hP hD hS => ?_)
      refine W.eq (g2 := F0 m 54 ls []) rfl ?_
      refine lv_aload_n hx hb dX0_divide_54 rfl (lv_at hl 2 rfl) ?_
      refine lv_iload_n hx hb dX0_divide_55 rfl (lv_at hl 3 rfl) ?_
      refine lv_iconst (v := 1) hx hb dX0_divide_56 (by decide) ?_
      refine lv_iadd hx hb dX0_divide_57 ?_
      refine lv_bipush (v := 15) hx hb dX0_divide_58 (by decide) ?_
      refine lv_iand hx hb dX0_divide_60 ?_
      refine lv_lload hx hb dX0_divide_61 (lv_at hl 1 rfl) ?_
      refine lv_lload hx hb dX0_divide_63 (lv_at hl 0 rfl) ?_
      refine lv_lrem hx hb dX0_divide_65 (fun hz => c_21 (by rw [hz]; rfl)) ?_
      refine w_go (rv := rv_v) (As := [.int ((ac + 1) &&& 15), .long (r_6 - r_6 / r_12 * r_12)]) (rest := []) ⟨hx, hb, hml, hown, hts⟩ (kX0_store l D h a cA (u_51.1, u_51.2.1, u_51.2.2.1, u_51.2.2.2.1, u_51.2.2.2.2) ⟨q_51.1, q_51.2⟩ ((ac + 1) &&& 15) (r_6 - r_6 / r_12 * r_12) (vp_and15 _)) (cwV 2 hts gX0_divide_X0_store rfl rfl rfl (by decide +kernel) ⟨by decide, by decide⟩) hK hP hD hS rfl hl.1 rfl (Nat.le_of_ble_eq_true rfl) dX0_divide_66 ⟨Nat.zero_le _, Nat.zero_le _⟩ (fun _ u_66 H locs q_66 hP hD hS => ?_)
      refine W.eq (g2 := F0 m 69 ls []) rfl ?_
      refine lv_iconst (v := 0) hx hb dX0_divide_69 (by decide) ?_
      exact mm_iret (mw := wW h a cA) (u1 := (u_66.1, u_66.2.1, u_66.2.2.1, u_66.2.2.2.1, u_66.2.2.2.2)) hx hb hr hlocks hP hK hD hS dX0_divide_70 ⟨q_66.1, q_66.2⟩
    · refine lv_lload hx hb dX0_divide_33 (lv_at hl 1 rfl) ?_
      refine lv_ldc2 (v := -34359738368) hx hb hown (hts (.constantLong RX0 132 (-34359738368)) (by decide +kernel)) dX0_divide_35 ?_
      refine W.lcmp hx hb dX0_divide_38 ?_
      refine lv_if_ne (tgt := 44) hx hb dX0_divide_39 (by decide) (fun c_39 => ?_) (fun c_39 => ?_)
      · refine lv_aload_n hx hb dX0_divide_44 rfl (lv_at hl 2 rfl) ?_
        refine lv_iload_n hx hb dX0_divide_45 rfl (lv_at hl 3 rfl) ?_
        refine lv_lload hx hb dX0_divide_46 (lv_at hl 1 rfl) ?_
        refine lv_lload hx hb dX0_divide_48 (lv_at hl 0 rfl) ?_
        refine lv_ldiv hx hb dX0_divide_50 (fun hz => c_21 (by rw [hz]; rfl)) ?_
        refine w_go (rv := rv_v) (As := [.int ac, .long (r_6 / r_12)]) (rest := []) ⟨hx, hb, hml, hown, hts⟩ (kX0_store l D h a cA (u.1, u.2.1, u.2.2.1, u.2.2.2.1, u.2.2.2.2) ⟨hI.1, hI.2⟩ ac (r_6 / r_12) hac) (cwV 2 hts gX0_divide_X0_store rfl rfl rfl (by decide +kernel) ⟨by decide, by decide⟩) hK hP hD hS rfl hl.1 rfl (Nat.le_of_ble_eq_true rfl) dX0_divide_51 ⟨Nat.zero_le _, Nat.zero_le _⟩ (fun _ u_51 H locs q_51 hP hD hS => ?_)
        refine W.eq (g2 := F0 m 54 ls []) rfl ?_
        refine lv_aload_n hx hb dX0_divide_54 rfl (lv_at hl 2 rfl) ?_
        refine lv_iload_n hx hb dX0_divide_55 rfl (lv_at hl 3 rfl) ?_
        refine lv_iconst (v := 1) hx hb dX0_divide_56 (by decide) ?_
        refine lv_iadd hx hb dX0_divide_57 ?_
        refine lv_bipush (v := 15) hx hb dX0_divide_58 (by decide) ?_
        refine lv_iand hx hb dX0_divide_60 ?_
        refine lv_lload hx hb dX0_divide_61 (lv_at hl 1 rfl) ?_
        refine lv_lload hx hb dX0_divide_63 (lv_at hl 0 rfl) ?_
        refine lv_lrem hx hb dX0_divide_65 (fun hz => c_21 (by rw [hz]; rfl)) ?_
        refine w_go (rv := rv_v) (As := [.int ((ac + 1) &&& 15), .long (r_6 - r_6 / r_12 * r_12)]) (rest := []) ⟨hx, hb, hml, hown, hts⟩ (kX0_store l D h a cA (u_51.1, u_51.2.1, u_51.2.2.1, u_51.2.2.2.1, u_51.2.2.2.2) ⟨q_51.1, q_51.2⟩ ((ac + 1) &&& 15) (r_6 - r_6 / r_12 * r_12) (vp_and15 _)) (cwV 2 hts gX0_divide_X0_store rfl rfl rfl (by decide +kernel) ⟨by decide, by decide⟩) hK hP hD hS rfl hl.1 rfl (Nat.le_of_ble_eq_true rfl) dX0_divide_66 ⟨Nat.zero_le _, Nat.zero_le _⟩ (fun _ u_66 H locs q_66 hP hD hS => ?_)
        refine W.eq (g2 := F0 m 69 ls []) rfl ?_
        refine lv_iconst (v := 0) hx hb dX0_divide_69 (by decide) ?_
        exact mm_iret (mw := wW h a cA) (u1 := (u_66.1, u_66.2.1, u_66.2.2.1, u_66.2.2.2.1, u_66.2.2.2.2)) hx hb hr hlocks hP hK hD hS dX0_divide_70 ⟨q_66.1, q_66.2⟩
      · refine lv_iconst (v := 3) hx hb dX0_divide_42 (by decide) ?_
        exact mm_iret (mw := wW h a cA) (u1 := (u.1, u.2.1, u.2.2.1, u.2.2.2.1, u.2.2.2.2)) hx hb hr hlocks hP hK hD hS dX0_divide_43 ⟨hI.1, hI.2⟩
theorem iw_X0_combine : ∀ w ∈ u_ws RX0 TX0 5, w ∈ wsX0_combine := by decide +kernel
set_option maxHeartbeats 4000000 in
set_option maxRecDepth 100000 in
theorem kX0_combine (l : Launch) (D : va_G) (h a : Nat) (cA : ClassId) (u : wS) (hI : wI u) (op : Int32) (ac : Int32) (w : Int64) (hac : vp_in ac 4096) : MM l yX0_combine wsX0_combine ({ frames := 2, cells := 0, slots := 0, locals := 47 }) D vwCl [(cA, .long)] (wW h a cA) (wA h a) u [.ref h, .int op, .int ac, .long w] rv_i (fun _ u' => wI u') := by
  refine mm_of (cc := cX0_combine) (maxL := 7) (ret := (some .int)) (by decide) rfl (Nat.le_of_ble_eq_true rfl) (wA_in h a cA u) ?_
  intro p e s m below meth c ls C hl hP hK hD hS
  obtain ⟨hx, hb, hr, hml, hown, hts, hlocks⟩ := C
  have hl : lv_has ls 7 [(0, .ref h), (1, .int op), (2, .int ac), (3, .long w)] := hl
  refine lv_aload_n hx hb dX0_combine_0 rfl (lv_at hl 0 rfl) ?_
  refine va_get (D := D) (ci := 0) (v := .ref a) (C := RX0) (T := TX0) (N := 5) hx hb hts iw_X0_combine hown hK hP 0 rfl rfl 0 (by decide) (hts (.fieldLink RX0 9 "WordMill" "memory" "[J") (by decide +kernel)) (fun _ h9 => h9) rfl dX0_combine_1 ?_
  refine lv_iload_n hx hb dX0_combine_4 rfl (lv_at hl 2 rfl) ?_
  refine va_lald hx hb hK hP 1 0 rfl rfl hac dX0_combine_5 ?_
  refine lv_topl (fun x_6 ex_6 => ?_)
  refine lv_lstore (lv' := [(5, .long x_6), (0, .ref h), (1, .int op), (2, .int ac), (3, .long w)]) hx hb dX0_combine_6 hl (by decide) rfl (fun ls hl => ?_)
  refine lv_aload_n hx hb dX0_combine_8 rfl (lv_at hl 1 rfl) ?_
  refine lv_iload_n hx hb dX0_combine_9 rfl (lv_at hl 3 rfl) ?_
  refine lv_iload_n hx hb dX0_combine_10 rfl (lv_at hl 2 rfl) ?_
  refine ps_goi (As := [.int op]) (rest := [.int ac, .ref h]) ⟨hx, hb, hml, hown, hts⟩ (kX0_isOfHalves l op) (va_cwS 1 hts gX0_combine_X0_isOfHalves rfl rfl rfl (by decide +kernel) ⟨by decide, by decide⟩) rfl hl.1 rfl (Nat.le_of_ble_eq_true rfl) dX0_combine_11 ⟨Nat.zero_le _, Nat.zero_le _⟩ (fun r_11 q_11 => ?_)
  refine lv_if_eq (tgt := 27) hx hb dX0_combine_14 (by decide) (fun c_14 => ?_) (fun c_14 => ?_)
  · refine lv_iload_n hx hb dX0_combine_27 rfl (lv_at hl 2 rfl) ?_
    refine lv_lload hx hb dX0_combine_28 (lv_at hl 0 rfl) ?_
    refine lv_lload_n hx hb dX0_combine_30 rfl (lv_at hl 4 rfl) ?_
    refine ps_gol (As := [.int op, .long x_6, .long w]) (rest := [.int ac, .ref h]) ⟨hx, hb, hml, hown, hts⟩ (kX0_ofWords l op x_6 w) (va_cwS 3 hts gX0_combine_X0_ofWords rfl rfl rfl (by decide +kernel) ⟨by decide, by decide⟩) rfl hl.1 rfl (Nat.le_of_ble_eq_true rfl) dX0_combine_31 ⟨Nat.zero_le _, Nat.zero_le _⟩ (fun r_31 q_31 => ?_)
    refine w_go (rv := rv_v) (As := [.int ac, .long r_31]) (rest := []) ⟨hx, hb, hml, hown, hts⟩ (kX0_store l D h a cA (u.1, u.2.1, u.2.2.1, u.2.2.2.1, u.2.2.2.2) ⟨hI.1, hI.2⟩ ac r_31 hac) (cwV 2 hts gX0_combine_X0_store rfl rfl rfl (by decide +kernel) ⟨by decide, by decide⟩) hK hP hD hS rfl hl.1 rfl (Nat.le_of_ble_eq_true rfl) dX0_combine_34 ⟨Nat.zero_le _, Nat.zero_le _⟩ (fun _ u_34 H locs q_34 hP hD hS => ?_)
    refine W.eq (g2 := F0 m 37 ls []) rfl ?_
    refine lv_iconst (v := 0) hx hb dX0_combine_37 (by decide) ?_
    exact mm_iret (mw := wW h a cA) (u1 := (u_34.1, u_34.2.1, u_34.2.2.1, u_34.2.2.2.1, u_34.2.2.2.2)) hx hb hr hlocks hP hK hD hS dX0_combine_38 ⟨q_34.1, q_34.2⟩
  · refine lv_iload_n hx hb dX0_combine_17 rfl (lv_at hl 2 rfl) ?_
    refine lv_lload hx hb dX0_combine_18 (lv_at hl 0 rfl) ?_
    refine lv_lload_n hx hb dX0_combine_20 rfl (lv_at hl 4 rfl) ?_
    refine ps_gol (As := [.int op, .long x_6, .long w]) (rest := [.int ac, .ref h]) ⟨hx, hb, hml, hown, hts⟩ (kX0_ofHalves l op x_6 w) (va_cwS 3 hts gX0_combine_X0_ofHalves rfl rfl rfl (by decide +kernel) ⟨by decide, by decide⟩) rfl hl.1 rfl (Nat.le_of_ble_eq_true rfl) dX0_combine_21 ⟨Nat.zero_le _, Nat.zero_le _⟩ (fun r_21 q_21 => ?_)
    refine lv_goto (tgt := 34) hx hb dX0_combine_24 (by decide) ?_
    refine w_go (rv := rv_v) (As := [.int ac, .long r_21]) (rest := []) ⟨hx, hb, hml, hown, hts⟩ (kX0_store l D h a cA (u.1, u.2.1, u.2.2.1, u.2.2.2.1, u.2.2.2.2) ⟨hI.1, hI.2⟩ ac r_21 hac) (cwV 2 hts gX0_combine_X0_store rfl rfl rfl (by decide +kernel) ⟨by decide, by decide⟩) hK hP hD hS rfl hl.1 rfl (Nat.le_of_ble_eq_true rfl) dX0_combine_34 ⟨Nat.zero_le _, Nat.zero_le _⟩ (fun _ u_34 H locs q_34 hP hD hS => ?_)
    refine W.eq (g2 := F0 m 37 ls []) rfl ?_
    refine lv_iconst (v := 0) hx hb dX0_combine_37 (by decide) ?_
    exact mm_iret (mw := wW h a cA) (u1 := (u_34.1, u_34.2.1, u_34.2.2.1, u_34.2.2.2.1, u_34.2.2.2.2)) hx hb hr hlocks hP hK hD hS dX0_combine_38 ⟨q_34.1, q_34.2⟩
theorem iw_X0_performOnMemory : ∀ w ∈ u_ws RX0 TX0 5, w ∈ wsX0_performOnMemory := by decide +kernel
set_option maxHeartbeats 4000000 in
set_option maxRecDepth 100000 in
theorem kX0_performOnMemory (l : Launch) (D : va_G) (h a : Nat) (cA : ClassId) (u : wS) (hI : wI u) (op : Int32) (ac : Int32) (e0 : Int32) (hac : vp_in ac 4096) (he : vp_in e0 4096) : MM l yX0_performOnMemory wsX0_performOnMemory ({ frames := 3, cells := 0, slots := 0, locals := 73 }) D vwCl [(cA, .long)] (wW h a cA) (wA h a) u [.ref h, .int op, .int ac, .int e0] rv_i (fun _ u' => wI u') := by
  refine mm_of (cc := cX0_performOnMemory) (maxL := 4) (ret := (some .int)) (by decide) rfl (Nat.le_of_ble_eq_true rfl) (wA_in h a cA u) ?_
  intro p e s m below meth c ls C hl hP hK hD hS
  obtain ⟨hx, hb, hr, hml, hown, hts, hlocks⟩ := C
  have hl : lv_has ls 4 [(0, .ref h), (1, .int op), (2, .int ac), (3, .int e0)] := hl
  refine lv_iload_n hx hb dX0_performOnMemory_0 rfl (lv_at hl 1 rfl) ?_
  by_cases k_130 : op = 130
  · subst k_130
    refine lv_lookup (tgt := 68) hx hb dX0_performOnMemory_1 (by decide) rfl (by decide) ?_
    refine lv_aload_n hx hb dX0_performOnMemory_68 rfl (lv_at hl 0 rfl) ?_
    refine lv_iload_n hx hb dX0_performOnMemory_69 rfl (lv_at hl 3 rfl) ?_
    refine lv_aload_n hx hb dX0_performOnMemory_70 rfl (lv_at hl 0 rfl) ?_
    refine va_get (D := D) (ci := 0) (v := .ref a) (C := RX0) (T := TX0) (N := 5) hx hb hts iw_X0_performOnMemory hown hK hP 0 rfl rfl 0 (by decide) (hts (.fieldLink RX0 9 "WordMill" "memory" "[J") (by decide +kernel)) (fun _ h9 => h9) rfl dX0_performOnMemory_71 ?_
    refine lv_iload_n hx hb dX0_performOnMemory_74 rfl (lv_at hl 2 rfl) ?_
    refine va_lald hx hb hK hP 1 0 rfl rfl hac dX0_performOnMemory_75 ?_
    refine w_go (rv := rv_v) (As := [.int e0, .long (u.1 (ac : Int32).toNatClampNeg)]) (rest := []) ⟨hx, hb, hml, hown, hts⟩ (kX0_store l D h a cA (u.1, u.2.1, u.2.2.1, u.2.2.2.1, u.2.2.2.2) ⟨hI.1, hI.2⟩ e0 (u.1 (ac : Int32).toNatClampNeg) he) (cwV 2 hts gX0_performOnMemory_X0_store rfl rfl rfl (by decide +kernel) ⟨by decide, by decide⟩) hK hP hD hS rfl hl.1 rfl (Nat.le_of_ble_eq_true rfl) dX0_performOnMemory_76 ⟨Nat.zero_le _, Nat.zero_le _⟩ (fun _ u_76 H locs q_76 hP hD hS => ?_)
    refine W.eq (g2 := F0 m 79 ls []) rfl ?_
    refine lv_iconst (v := 0) hx hb dX0_performOnMemory_79 (by decide) ?_
    exact mm_iret (mw := wW h a cA) (u1 := (u_76.1, u_76.2.1, u_76.2.2.1, u_76.2.2.2.1, u_76.2.2.2.2)) hx hb hr hlocks hP hK hD hS dX0_performOnMemory_80 ⟨q_76.1, q_76.2⟩
  by_cases k_152 : op = 152
  · subst k_152
    refine lv_lookup (tgt := 81) hx hb dX0_performOnMemory_1 (by decide) rfl (by decide) ?_
    refine lv_aload_n hx hb dX0_performOnMemory_81 rfl (lv_at hl 0 rfl) ?_
    refine lv_iload_n hx hb dX0_performOnMemory_82 rfl (lv_at hl 2 rfl) ?_
    refine lv_aload_n hx hb dX0_performOnMemory_83 rfl (lv_at hl 0 rfl) ?_
    refine va_get (D := D) (ci := 0) (v := .ref a) (C := RX0) (T := TX0) (N := 5) hx hb hts iw_X0_performOnMemory hown hK hP 0 rfl rfl 0 (by decide) (hts (.fieldLink RX0 9 "WordMill" "memory" "[J") (by decide +kernel)) (fun _ h9 => h9) rfl dX0_performOnMemory_84 ?_
    refine lv_iload_n hx hb dX0_performOnMemory_87 rfl (lv_at hl 3 rfl) ?_
    refine va_lald hx hb hK hP 1 0 rfl rfl he dX0_performOnMemory_88 ?_
    refine w_go (rv := rv_i) (As := [.int ac, .long (u.1 (e0 : Int32).toNatClampNeg)]) (rest := []) ⟨hx, hb, hml, hown, hts⟩ (kX0_divide l D h a cA (u.1, u.2.1, u.2.2.1, u.2.2.2.1, u.2.2.2.2) ⟨hI.1, hI.2⟩ ac (u.1 (e0 : Int32).toNatClampNeg) hac) (cwV 2 hts gX0_performOnMemory_X0_divide rfl rfl rfl (by decide +kernel) ⟨by decide, by decide⟩) hK hP hD hS rfl hl.1 rfl (Nat.le_of_ble_eq_true rfl) dX0_performOnMemory_89 ⟨Nat.zero_le _, Nat.zero_le _⟩ (fun r_89 u_89 H locs q_89 hP hD hS => ?_)
    refine W.eq (g2 := F0 m 92 ls (.int r_89 :: [])) rfl ?_
    exact mm_iret (mw := wW h a cA) (u1 := (u_89.1, u_89.2.1, u_89.2.2.1, u_89.2.2.2.1, u_89.2.2.2.2)) hx hb hr hlocks hP hK hD hS dX0_performOnMemory_92 ⟨q_89.1, q_89.2⟩
  by_cases k_168 : op = 168
  · subst k_168
    refine lv_lookup (tgt := 93) hx hb dX0_performOnMemory_1 (by decide) rfl (by decide) ?_
    refine lv_aload_n hx hb dX0_performOnMemory_93 rfl (lv_at hl 0 rfl) ?_
    refine lv_iload_n hx hb dX0_performOnMemory_94 rfl (lv_at hl 2 rfl) ?_
    refine lv_iload_n hx hb dX0_performOnMemory_95 rfl (lv_at hl 3 rfl) ?_
    refine w_go (rv := rv_i) (As := [.int ac, .int e0]) (rest := []) ⟨hx, hb, hml, hown, hts⟩ (kX0_exchange l D h a cA (u.1, u.2.1, u.2.2.1, u.2.2.2.1, u.2.2.2.2) ⟨hI.1, hI.2⟩ ac e0 hac he) (cwV 2 hts gX0_performOnMemory_X0_exchange rfl rfl rfl (by decide +kernel) ⟨by decide, by decide⟩) hK hP hD hS rfl hl.1 rfl (Nat.le_of_ble_eq_true rfl) dX0_performOnMemory_96 ⟨Nat.zero_le _, Nat.zero_le _⟩ (fun r_96 u_96 H locs q_96 hP hD hS => ?_)
    refine W.eq (g2 := F0 m 99 ls (.int r_96 :: [])) rfl ?_
    exact mm_iret (mw := wW h a cA) (u1 := (u_96.1, u_96.2.1, u_96.2.2.1, u_96.2.2.2.1, u_96.2.2.2.2)) hx hb hr hlocks hP hK hD hS dX0_performOnMemory_99 ⟨q_96.1, q_96.2⟩
  by_cases k_177 : op = 177
  · subst k_177
    refine lv_lookup (tgt := 100) hx hb dX0_performOnMemory_1 (by decide) rfl (by decide) ?_
    refine lv_aload_n hx hb dX0_performOnMemory_100 rfl (lv_at hl 0 rfl) ?_
    refine lv_iload_n hx hb dX0_performOnMemory_101 rfl (lv_at hl 2 rfl) ?_
    refine lv_aload_n hx hb dX0_performOnMemory_102 rfl (lv_at hl 0 rfl) ?_
    refine va_get (D := D) (ci := 0) (v := .ref a) (C := RX0) (T := TX0) (N := 5) hx hb hts iw_X0_performOnMemory hown hK hP 0 rfl rfl 0 (by decide) (hts (.fieldLink RX0 9 "WordMill" "memory" "[J") (by decide +kernel)) (fun _ h9 => h9) rfl dX0_performOnMemory_103 ?_
    refine lv_iload_n hx hb dX0_performOnMemory_106 rfl (lv_at hl 3 rfl) ?_
    refine va_lald hx hb hK hP 1 0 rfl rfl he dX0_performOnMemory_107 ?_
    refine w_go (rv := rv_i) (As := [.int ac, .long (u.1 (e0 : Int32).toNatClampNeg)]) (rest := []) ⟨hx, hb, hml, hown, hts⟩ (kX0_push l D h a cA (u.1, u.2.1, u.2.2.1, u.2.2.2.1, u.2.2.2.2) ⟨hI.1, hI.2⟩ ac (u.1 (e0 : Int32).toNatClampNeg) hac) (cwV 2 hts gX0_performOnMemory_X0_push rfl rfl rfl (by decide +kernel) ⟨by decide, by decide⟩) hK hP hD hS rfl hl.1 rfl (Nat.le_of_ble_eq_true rfl) dX0_performOnMemory_108 ⟨Nat.zero_le _, Nat.zero_le _⟩ (fun r_108 u_108 H locs q_108 hP hD hS => ?_)
    refine W.eq (g2 := F0 m 111 ls (.int r_108 :: [])) rfl ?_
    exact mm_iret (mw := wW h a cA) (u1 := (u_108.1, u_108.2.1, u_108.2.2.1, u_108.2.2.2.1, u_108.2.2.2.2)) hx hb hr hlocks hP hK hD hS dX0_performOnMemory_111 ⟨q_108.1, q_108.2⟩
  by_cases k_178 : op = 178
  · subst k_178
    refine lv_lookup (tgt := 112) hx hb dX0_performOnMemory_1 (by decide) rfl (by decide) ?_
    refine lv_aload_n hx hb dX0_performOnMemory_112 rfl (lv_at hl 0 rfl) ?_
    refine lv_iload_n hx hb dX0_performOnMemory_113 rfl (lv_at hl 2 rfl) ?_
    refine lv_iload_n hx hb dX0_performOnMemory_114 rfl (lv_at hl 3 rfl) ?_
    refine w_go (rv := rv_i) (As := [.int ac, .int e0]) (rest := []) ⟨hx, hb, hml, hown, hts⟩ (kX0_popToMemory l D h a cA (u.1, u.2.1, u.2.2.1, u.2.2.2.1, u.2.2.2.2) ⟨hI.1, hI.2⟩ ac e0 hac he) (cwV 2 hts gX0_performOnMemory_X0_popToMemory rfl rfl rfl (by decide +kernel) ⟨by decide, by decide⟩) hK hP hD hS rfl hl.1 rfl (Nat.le_of_ble_eq_true rfl) dX0_performOnMemory_115 ⟨Nat.zero_le _, Nat.zero_le _⟩ (fun r_115 u_115 H locs q_115 hP hD hS => ?_)
    refine W.eq (g2 := F0 m 118 ls (.int r_115 :: [])) rfl ?_
    exact mm_iret (mw := wW h a cA) (u1 := (u_115.1, u_115.2.1, u_115.2.2.1, u_115.2.2.2.1, u_115.2.2.2.2)) hx hb hr hlocks hP hK hD hS dX0_performOnMemory_118 ⟨q_115.1, q_115.2⟩
  by_cases k_180 : op = 180
  · subst k_180
    refine lv_lookup (tgt := 119) hx hb dX0_performOnMemory_1 (by decide) rfl (by decide) ?_
    refine lv_aload_n hx hb dX0_performOnMemory_119 rfl (lv_at hl 0 rfl) ?_
    refine lv_iload_n hx hb dX0_performOnMemory_120 rfl (lv_at hl 3 rfl) ?_
    refine w_go (rv := rv_i) (As := [.int e0]) (rest := []) ⟨hx, hb, hml, hown, hts⟩ (kX0_leaveNextPlaceAndJump l D h a cA (u.1, u.2.1, u.2.2.1, u.2.2.2.1, u.2.2.2.2) ⟨hI.1, hI.2⟩ e0 he) (cwV 1 hts gX0_performOnMemory_X0_leaveNextPlaceAndJump rfl rfl rfl (by decide +kernel) ⟨by decide, by decide⟩) hK hP hD hS rfl hl.1 rfl (Nat.le_of_ble_eq_true rfl) dX0_performOnMemory_121 ⟨Nat.zero_le _, Nat.zero_le _⟩ (fun r_121 u_121 H locs q_121 hP hD hS => ?_)
    refine W.eq (g2 := F0 m 124 ls (.int r_121 :: [])) rfl ?_
    exact mm_iret (mw := wW h a cA) (u1 := (u_121.1, u_121.2.1, u_121.2.2.1, u_121.2.2.2.1, u_121.2.2.2.2)) hx hb hr hlocks hP hK hD hS dX0_performOnMemory_124 ⟨q_121.1, q_121.2⟩
  by_cases k_258 : op = 258
  · subst k_258
    refine lv_lookup (tgt := 125) hx hb dX0_performOnMemory_1 (by decide) rfl (by decide) ?_
    refine lv_aload_n hx hb dX0_performOnMemory_125 rfl (lv_at hl 0 rfl) ?_
    refine lv_iload_n hx hb dX0_performOnMemory_126 rfl (lv_at hl 3 rfl) ?_
    refine lv_lconst (v := 0) hx hb dX0_performOnMemory_127 (by decide) ?_
    refine w_go (rv := rv_v) (As := [.int e0, .long 0]) (rest := []) ⟨hx, hb, hml, hown, hts⟩ (kX0_store l D h a cA (u.1, u.2.1, u.2.2.1, u.2.2.2.1, u.2.2.2.2) ⟨hI.1, hI.2⟩ e0 0 he) (cwV 2 hts gX0_performOnMemory_X0_store rfl rfl rfl (by decide +kernel) ⟨by decide, by decide⟩) hK hP hD hS rfl hl.1 rfl (Nat.le_of_ble_eq_true rfl) dX0_performOnMemory_128 ⟨Nat.zero_le _, Nat.zero_le _⟩ (fun _ u_128 H locs q_128 hP hD hS => ?_)
    refine W.eq (g2 := F0 m 131 ls []) rfl ?_
    refine lv_iconst (v := 0) hx hb dX0_performOnMemory_131 (by decide) ?_
    exact mm_iret (mw := wW h a cA) (u1 := (u_128.1, u_128.2.1, u_128.2.2.1, u_128.2.2.2.1, u_128.2.2.2.2)) hx hb hr hlocks hP hK hD hS dX0_performOnMemory_132 ⟨q_128.1, q_128.2⟩
  refine lv_lookup (off := 132) (tgt := 133) hx hb dX0_performOnMemory_1 (by decide) ((lv_osw k_130 (by decide)).trans <| (lv_osw k_152 (by decide)).trans <| (lv_osw k_168 (by decide)).trans <| (lv_osw k_177 (by decide)).trans <| (lv_osw k_178 (by decide)).trans <| (lv_osw k_180 (by decide)).trans <| (lv_osw k_258 (by decide)).trans <| rfl) (by decide) ?_
  refine lv_aload_n hx hb dX0_performOnMemory_133 rfl (lv_at hl 0 rfl) ?_
  refine lv_iload_n hx hb dX0_performOnMemory_134 rfl (lv_at hl 1 rfl) ?_
  refine lv_iload_n hx hb dX0_performOnMemory_135 rfl (lv_at hl 2 rfl) ?_
  refine lv_aload_n hx hb dX0_performOnMemory_136 rfl (lv_at hl 0 rfl) ?_
  refine va_get (D := D) (ci := 0) (v := .ref a) (C := RX0) (T := TX0) (N := 5) hx hb hts iw_X0_performOnMemory hown hK hP 0 rfl rfl 0 (by decide) (hts (.fieldLink RX0 9 "WordMill" "memory" "[J") (by decide +kernel)) (fun _ h9 => h9) rfl dX0_performOnMemory_137 ?_
  refine lv_iload_n hx hb dX0_performOnMemory_140 rfl (lv_at hl 3 rfl) ?_
  refine va_lald hx hb hK hP 1 0 rfl rfl he dX0_performOnMemory_141 ?_
  refine w_go (rv := rv_i) (As := [.int op, .int ac, .long (u.1 (e0 : Int32).toNatClampNeg)]) (rest := []) ⟨hx, hb, hml, hown, hts⟩ (kX0_combine l D h a cA (u.1, u.2.1, u.2.2.1, u.2.2.2.1, u.2.2.2.2) ⟨hI.1, hI.2⟩ op ac (u.1 (e0 : Int32).toNatClampNeg) hac) (cwV 3 hts gX0_performOnMemory_X0_combine rfl rfl rfl (by decide +kernel) ⟨by decide, by decide⟩) hK hP hD hS rfl hl.1 rfl (Nat.le_of_ble_eq_true rfl) dX0_performOnMemory_142 ⟨Nat.zero_le _, Nat.zero_le _⟩ (fun r_142 u_142 H locs q_142 hP hD hS => ?_)
  refine W.eq (g2 := F0 m 145 ls (.int r_142 :: [])) rfl ?_
  exact mm_iret (mw := wW h a cA) (u1 := (u_142.1, u_142.2.1, u_142.2.2.1, u_142.2.2.2.1, u_142.2.2.2.2)) hx hb hr hlocks hP hK hD hS dX0_performOnMemory_145 ⟨q_142.1, q_142.2⟩
theorem iw_X0_skipIf : ∀ w ∈ u_ws RX0 TX0 5, w ∈ wsX0_skipIf := by decide +kernel
set_option maxHeartbeats 4000000 in
set_option maxRecDepth 100000 in
theorem kX0_skipIf (l : Launch) (D : va_G) (h a : Nat) (cA : ClassId) (u : wS) (hI : wI u) (z0 : Int32)  : MM l yX0_skipIf wsX0_skipIf ({ frames := 1, cells := 0, slots := 0, locals := 21 }) D vwCl [(cA, .long)] (wW h a cA) (wA h a) u [.ref h, .int z0] rv_i (fun _ u' => wI u') := by
  refine mm_of (cc := cX0_skipIf) (maxL := 2) (ret := (some .int)) (by decide) rfl (Nat.le_of_ble_eq_true rfl) (wA_in h a cA u) ?_
  intro p e s m below meth c ls C hl hP hK hD hS
  obtain ⟨hx, hb, hr, hml, hown, hts, hlocks⟩ := C
  have hl : lv_has ls 2 [(0, .ref h), (1, .int z0)] := hl
  refine lv_iload_n hx hb dX0_skipIf_0 rfl (lv_at hl 1 rfl) ?_
  refine lv_if_eq (tgt := 17) hx hb dX0_skipIf_1 (by decide) (fun c_1 => ?_) (fun c_1 => ?_)
  · refine lv_iconst (v := 0) hx hb dX0_skipIf_17 (by decide) ?_
    exact mm_iret (mw := wW h a cA) (u1 := (u.1, u.2.1, u.2.2.1, u.2.2.2.1, u.2.2.2.2)) hx hb hr hlocks hP hK hD hS dX0_skipIf_18 ⟨hI.1, hI.2⟩
  · refine lv_aload_n hx hb dX0_skipIf_4 rfl (lv_at hl 0 rfl) ?_
    refine lv_aload_n hx hb dX0_skipIf_5 rfl (lv_at hl 0 rfl) ?_
    refine va_get (D := D) (ci := 0) (v := .int u.2.2.1) (C := RX0) (T := TX0) (N := 5) hx hb hts iw_X0_skipIf hown hK hP 0 rfl rfl 2 (by decide) (hts (.fieldLink RX0 17 "WordMill" "next" "I") (by decide +kernel)) (fun _ h9 => h9) rfl dX0_skipIf_6 ?_
    refine lv_iconst (v := 1) hx hb dX0_skipIf_9 (by decide) ?_
    refine lv_iadd hx hb dX0_skipIf_10 ?_
    refine w_go (rv := rv_i) (As := [.int (u.2.2.1 + 1)]) (rest := []) ⟨hx, hb, hml, hown, hts⟩ (kX0_jump l D h a cA (u.1, u.2.1, u.2.2.1, u.2.2.2.1, u.2.2.2.2) ⟨hI.1, hI.2⟩ (u.2.2.1 + 1) ) (cwV 1 hts gX0_skipIf_X0_jump rfl rfl rfl (by decide +kernel) ⟨by decide, by decide⟩) hK hP hD hS rfl hl.1 rfl (Nat.le_of_ble_eq_true rfl) dX0_skipIf_11 ⟨Nat.zero_le _, Nat.zero_le _⟩ (fun r_11 u_11 H locs q_11 hP hD hS => ?_)
    refine W.eq (g2 := F0 m 14 ls (.int r_11 :: [])) rfl ?_
    refine lv_goto (tgt := 18) hx hb dX0_skipIf_14 (by decide) ?_
    exact mm_iret (mw := wW h a cA) (u1 := (u_11.1, u_11.2.1, u_11.2.2.1, u_11.2.2.2.1, u_11.2.2.2.2)) hx hb hr hlocks hP hK hD hS dX0_skipIf_18 ⟨q_11.1, q_11.2⟩
theorem iw_X0_changeAndJump : ∀ w ∈ u_ws RX0 TX0 5, w ∈ wsX0_changeAndJump := by decide +kernel
set_option maxHeartbeats 4000000 in
set_option maxRecDepth 100000 in
theorem kX0_changeAndJump (l : Launch) (D : va_G) (h a : Nat) (cA : ClassId) (u : wS) (hI : wI u) (cd : Int32) (ac : Int32) (e0 : Int32) (ch : Int32) (hac : vp_in ac 4096) : MM l yX0_changeAndJump wsX0_changeAndJump ({ frames := 2, cells := 0, slots := 0, locals := 50 }) D vwCl [(cA, .long)] (wW h a cA) (wA h a) u [.ref h, .int cd, .int ac, .int e0, .int ch] rv_i (fun _ u' => wI u') := by
  refine mm_of (cc := cX0_changeAndJump) (maxL := 5) (ret := (some .int)) (by decide) rfl (Nat.le_of_ble_eq_true rfl) (wA_in h a cA u) ?_
  intro p e s m below meth c ls C hl hP hK hD hS
  obtain ⟨hx, hb, hr, hml, hown, hts, hlocks⟩ := C
  have hl : lv_has ls 5 [(0, .ref h), (1, .int cd), (2, .int ac), (3, .int e0), (4, .int ch)] := hl
  refine lv_aload_n hx hb dX0_changeAndJump_0 rfl (lv_at hl 0 rfl) ?_
  refine lv_iload_n hx hb dX0_changeAndJump_1 rfl (lv_at hl 2 rfl) ?_
  refine lv_aload_n hx hb dX0_changeAndJump_2 rfl (lv_at hl 0 rfl) ?_
  refine va_get (D := D) (ci := 0) (v := .ref a) (C := RX0) (T := TX0) (N := 5) hx hb hts iw_X0_changeAndJump hown hK hP 0 rfl rfl 0 (by decide) (hts (.fieldLink RX0 9 "WordMill" "memory" "[J") (by decide +kernel)) (fun _ h9 => h9) rfl dX0_changeAndJump_3 ?_
  refine lv_iload_n hx hb dX0_changeAndJump_6 rfl (lv_at hl 2 rfl) ?_
  refine va_lald hx hb hK hP 1 0 rfl rfl hac dX0_changeAndJump_7 ?_
  refine lv_iload hx hb dX0_changeAndJump_8 (lv_at hl 4 rfl) ?_
  refine lv_i2l hx hb dX0_changeAndJump_10 rfl ?_
  refine lv_ladd hx hb dX0_changeAndJump_11 ?_
  refine w_go (rv := rv_v) (As := [.int ac, .long ((u.1 (ac : Int32).toNatClampNeg) + (ch : Int32).toInt64)]) (rest := []) ⟨hx, hb, hml, hown, hts⟩ (kX0_store l D h a cA (u.1, u.2.1, u.2.2.1, u.2.2.2.1, u.2.2.2.2) ⟨hI.1, hI.2⟩ ac ((u.1 (ac : Int32).toNatClampNeg) + (ch : Int32).toInt64) hac) (cwV 2 hts gX0_changeAndJump_X0_store rfl rfl rfl (by decide +kernel) ⟨by decide, by decide⟩) hK hP hD hS rfl hl.1 rfl (Nat.le_of_ble_eq_true rfl) dX0_changeAndJump_12 ⟨Nat.zero_le _, Nat.zero_le _⟩ (fun _ u_12 H locs q_12 hP hD hS => ?_)
  refine W.eq (g2 := F0 m 15 ls []) rfl ?_
  refine lv_iload_n hx hb dX0_changeAndJump_15 rfl (lv_at hl 1 rfl) ?_
  refine lv_aload_n hx hb dX0_changeAndJump_16 rfl (lv_at hl 0 rfl) ?_
  refine va_get (D := D) (ci := 0) (v := .ref a) (C := RX0) (T := TX0) (N := 5) hx hb hts iw_X0_changeAndJump hown hK hP 0 rfl rfl 0 (by decide) (hts (.fieldLink RX0 9 "WordMill" "memory" "[J") (by decide +kernel)) (fun _ h9 => h9) rfl dX0_changeAndJump_17 ?_
  refine lv_iload_n hx hb dX0_changeAndJump_20 rfl (lv_at hl 2 rfl) ?_
  refine va_lald hx hb hK hP 1 0 rfl rfl hac dX0_changeAndJump_21 ?_
  refine lv_lconst (v := 0) hx hb dX0_changeAndJump_22 (by decide) ?_
  refine ps_goi (As := [.int cd, .long (u_12.1 (ac : Int32).toNatClampNeg), .long 0]) (rest := []) ⟨hx, hb, hml, hown, hts⟩ (kX0_holds l cd (u_12.1 (ac : Int32).toNatClampNeg) 0) (va_cwS 3 hts gX0_changeAndJump_X0_holds rfl rfl rfl (by decide +kernel) ⟨by decide, by decide⟩) rfl hl.1 rfl (Nat.le_of_ble_eq_true rfl) dX0_changeAndJump_23 ⟨Nat.zero_le _, Nat.zero_le _⟩ (fun r_23 q_23 => ?_)
  refine lv_if_eq (tgt := 37) hx hb dX0_changeAndJump_26 (by decide) (fun c_26 => ?_) (fun c_26 => ?_)
  · refine lv_iconst (v := 0) hx hb dX0_changeAndJump_37 (by decide) ?_
    exact mm_iret (mw := wW h a cA) (u1 := (u_12.1, u_12.2.1, u_12.2.2.1, u_12.2.2.2.1, u_12.2.2.2.2)) hx hb hr hlocks hP hK hD hS dX0_changeAndJump_38 ⟨q_12.1, q_12.2⟩
  · refine lv_aload_n hx hb dX0_changeAndJump_29 rfl (lv_at hl 0 rfl) ?_
    refine lv_iload_n hx hb dX0_changeAndJump_30 rfl (lv_at hl 3 rfl) ?_
    refine w_go (rv := rv_i) (As := [.int e0]) (rest := []) ⟨hx, hb, hml, hown, hts⟩ (kX0_jump l D h a cA (u_12.1, u_12.2.1, u_12.2.2.1, u_12.2.2.2.1, u_12.2.2.2.2) ⟨q_12.1, q_12.2⟩ e0 ) (cwV 1 hts gX0_changeAndJump_X0_jump rfl rfl rfl (by decide +kernel) ⟨by decide, by decide⟩) hK hP hD hS rfl hl.1 rfl (Nat.le_of_ble_eq_true rfl) dX0_changeAndJump_31 ⟨Nat.zero_le _, Nat.zero_le _⟩ (fun r_31 u_31 H locs q_31 hP hD hS => ?_)
    refine W.eq (g2 := F0 m 34 ls (.int r_31 :: [])) rfl ?_
    refine lv_goto (tgt := 38) hx hb dX0_changeAndJump_34 (by decide) ?_
    exact mm_iret (mw := wW h a cA) (u1 := (u_31.1, u_31.2.1, u_31.2.2.1, u_31.2.2.2.1, u_31.2.2.2.2)) hx hb hr hlocks hP hK hD hS dX0_changeAndJump_38 ⟨q_31.1, q_31.2⟩
theorem iw_X0_changeAndSkip : ∀ w ∈ u_ws RX0 TX0 5, w ∈ wsX0_changeAndSkip := by decide +kernel
set_option maxHeartbeats 4000000 in
set_option maxRecDepth 100000 in
theorem kX0_changeAndSkip (l : Launch) (D : va_G) (h a : Nat) (cA : ClassId) (u : wS) (hI : wI u) (cd : Int32) (ac : Int32) (e0 : Int32) (ch : Int32) (hac : vp_in ac 4096) (he : vp_in e0 4096) : MM l yX0_changeAndSkip wsX0_changeAndSkip ({ frames := 2, cells := 0, slots := 0, locals := 50 }) D vwCl [(cA, .long)] (wW h a cA) (wA h a) u [.ref h, .int cd, .int ac, .int e0, .int ch] rv_i (fun _ u' => wI u') := by
  refine mm_of (cc := cX0_changeAndSkip) (maxL := 7) (ret := (some .int)) (by decide) rfl (Nat.le_of_ble_eq_true rfl) (wA_in h a cA u) ?_
  intro p e s m below meth c ls C hl hP hK hD hS
  obtain ⟨hx, hb, hr, hml, hown, hts, hlocks⟩ := C
  have hl : lv_has ls 7 [(0, .ref h), (1, .int cd), (2, .int ac), (3, .int e0), (4, .int ch)] := hl
  refine lv_aload_n hx hb dX0_changeAndSkip_0 rfl (lv_at hl 0 rfl) ?_
  refine lv_iload_n hx hb dX0_changeAndSkip_1 rfl (lv_at hl 3 rfl) ?_
  refine lv_aload_n hx hb dX0_changeAndSkip_2 rfl (lv_at hl 0 rfl) ?_
  refine va_get (D := D) (ci := 0) (v := .ref a) (C := RX0) (T := TX0) (N := 5) hx hb hts iw_X0_changeAndSkip hown hK hP 0 rfl rfl 0 (by decide) (hts (.fieldLink RX0 9 "WordMill" "memory" "[J") (by decide +kernel)) (fun _ h9 => h9) rfl dX0_changeAndSkip_3 ?_
  refine lv_iload_n hx hb dX0_changeAndSkip_6 rfl (lv_at hl 3 rfl) ?_
  refine va_lald hx hb hK hP 1 0 rfl rfl he dX0_changeAndSkip_7 ?_
  refine lv_iload hx hb dX0_changeAndSkip_8 (lv_at hl 4 rfl) ?_
  refine lv_i2l hx hb dX0_changeAndSkip_10 rfl ?_
  refine lv_ladd hx hb dX0_changeAndSkip_11 ?_
  refine w_go (rv := rv_v) (As := [.int e0, .long ((u.1 (e0 : Int32).toNatClampNeg) + (ch : Int32).toInt64)]) (rest := []) ⟨hx, hb, hml, hown, hts⟩ (kX0_store l D h a cA (u.1, u.2.1, u.2.2.1, u.2.2.2.1, u.2.2.2.2) ⟨hI.1, hI.2⟩ e0 ((u.1 (e0 : Int32).toNatClampNeg) + (ch : Int32).toInt64) he) (cwV 2 hts gX0_changeAndSkip_X0_store rfl rfl rfl (by decide +kernel) ⟨by decide, by decide⟩) hK hP hD hS rfl hl.1 rfl (Nat.le_of_ble_eq_true rfl) dX0_changeAndSkip_12 ⟨Nat.zero_le _, Nat.zero_le _⟩ (fun _ u_12 H locs q_12 hP hD hS => ?_)
  refine W.eq (g2 := F0 m 15 ls []) rfl ?_
  refine lv_aload_n hx hb dX0_changeAndSkip_15 rfl (lv_at hl 0 rfl) ?_
  refine va_get (D := D) (ci := 0) (v := .ref a) (C := RX0) (T := TX0) (N := 5) hx hb hts iw_X0_changeAndSkip hown hK hP 0 rfl rfl 0 (by decide) (hts (.fieldLink RX0 9 "WordMill" "memory" "[J") (by decide +kernel)) (fun _ h9 => h9) rfl dX0_changeAndSkip_16 ?_
  refine lv_iload_n hx hb dX0_changeAndSkip_19 rfl (lv_at hl 3 rfl) ?_
  refine va_lald hx hb hK hP 1 0 rfl rfl he dX0_changeAndSkip_20 ?_
  refine lv_topl (fun x_21 ex_21 => ?_)
  refine lv_lstore (lv' := [(5, .long x_21), (0, .ref h), (1, .int cd), (2, .int ac), (3, .int e0), (4, .int ch)]) hx hb dX0_changeAndSkip_21 hl (by decide) rfl (fun ls hl => ?_)
  refine lv_iload_n hx hb dX0_changeAndSkip_23 rfl (lv_at hl 3 rfl) ?_
  refine lv_if_eq (tgt := 34) hx hb dX0_changeAndSkip_24 (by decide) (fun c_24 => ?_) (fun c_24 => ?_)
  · refine lv_aload_n hx hb dX0_changeAndSkip_34 rfl (lv_at hl 1 rfl) ?_
    refine lv_iload_n hx hb dX0_changeAndSkip_35 rfl (lv_at hl 2 rfl) ?_
    refine lv_lload hx hb dX0_changeAndSkip_36 (lv_at hl 0 rfl) ?_
    refine lv_lconst (v := 0) hx hb dX0_changeAndSkip_38 (by decide) ?_
    refine ps_goi (As := [.int cd, .long x_21, .long 0]) (rest := [.ref h]) ⟨hx, hb, hml, hown, hts⟩ (kX0_holds l cd x_21 0) (va_cwS 3 hts gX0_changeAndSkip_X0_holds rfl rfl rfl (by decide +kernel) ⟨by decide, by decide⟩) rfl hl.1 rfl (Nat.le_of_ble_eq_true rfl) dX0_changeAndSkip_39 ⟨Nat.zero_le _, Nat.zero_le _⟩ (fun r_39 q_39 => ?_)
    refine w_go (rv := rv_i) (As := [.int r_39]) (rest := []) ⟨hx, hb, hml, hown, hts⟩ (kX0_skipIf l D h a cA (u_12.1, u_12.2.1, u_12.2.2.1, u_12.2.2.2.1, u_12.2.2.2.2) ⟨q_12.1, q_12.2⟩ r_39 ) (cwV 1 hts gX0_changeAndSkip_X0_skipIf rfl rfl rfl (by decide +kernel) ⟨by decide, by decide⟩) hK hP hD hS rfl hl.1 rfl (Nat.le_of_ble_eq_true rfl) dX0_changeAndSkip_42 ⟨Nat.zero_le _, Nat.zero_le _⟩ (fun r_42 u_42 H locs q_42 hP hD hS => ?_)
    refine W.eq (g2 := F0 m 45 ls (.int r_42 :: [])) rfl ?_
    exact mm_iret (mw := wW h a cA) (u1 := (u_42.1, u_42.2.1, u_42.2.2.1, u_42.2.2.2.1, u_42.2.2.2.2)) hx hb hr hlocks hP hK hD hS dX0_changeAndSkip_45 ⟨q_42.1, q_42.2⟩
  · refine lv_aload_n hx hb dX0_changeAndSkip_27 rfl (lv_at hl 1 rfl) ?_
    refine lv_iload_n hx hb dX0_changeAndSkip_28 rfl (lv_at hl 3 rfl) ?_
    refine lv_lload hx hb dX0_changeAndSkip_29 (lv_at hl 0 rfl) ?_
    refine w_go (rv := rv_v) (As := [.int ac, .long x_21]) (rest := []) ⟨hx, hb, hml, hown, hts⟩ (kX0_store l D h a cA (u_12.1, u_12.2.1, u_12.2.2.1, u_12.2.2.2.1, u_12.2.2.2.2) ⟨q_12.1, q_12.2⟩ ac x_21 hac) (cwV 2 hts gX0_changeAndSkip_X0_store rfl rfl rfl (by decide +kernel) ⟨by decide, by decide⟩) hK hP hD hS rfl hl.1 rfl (Nat.le_of_ble_eq_true rfl) dX0_changeAndSkip_31 ⟨Nat.zero_le _, Nat.zero_le _⟩ (fun _ u_31 H locs q_31 hP hD hS => ?_)
    refine W.eq (g2 := F0 m 34 ls []) rfl ?_
    refine lv_aload_n hx hb dX0_changeAndSkip_34 rfl (lv_at hl 1 rfl) ?_
    refine lv_iload_n hx hb dX0_changeAndSkip_35 rfl (lv_at hl 2 rfl) ?_
    refine lv_lload hx hb dX0_changeAndSkip_36 (lv_at hl 0 rfl) ?_
    refine lv_lconst (v := 0) hx hb dX0_changeAndSkip_38 (by decide) ?_
    refine ps_goi (As := [.int cd, .long x_21, .long 0]) (rest := [.ref h]) ⟨hx, hb, hml, hown, hts⟩ (kX0_holds l cd x_21 0) (va_cwS 3 hts gX0_changeAndSkip_X0_holds rfl rfl rfl (by decide +kernel) ⟨by decide, by decide⟩) rfl hl.1 rfl (Nat.le_of_ble_eq_true rfl) dX0_changeAndSkip_39 ⟨Nat.zero_le _, Nat.zero_le _⟩ (fun r_39 q_39 => ?_)
    refine w_go (rv := rv_i) (As := [.int r_39]) (rest := []) ⟨hx, hb, hml, hown, hts⟩ (kX0_skipIf l D h a cA (u_31.1, u_31.2.1, u_31.2.2.1, u_31.2.2.2.1, u_31.2.2.2.2) ⟨q_31.1, q_31.2⟩ r_39 ) (cwV 1 hts gX0_changeAndSkip_X0_skipIf rfl rfl rfl (by decide +kernel) ⟨by decide, by decide⟩) hK hP hD hS rfl hl.1 rfl (Nat.le_of_ble_eq_true rfl) dX0_changeAndSkip_42 ⟨Nat.zero_le _, Nat.zero_le _⟩ (fun r_42 u_42 H locs q_42 hP hD hS => ?_)
    refine W.eq (g2 := F0 m 45 ls (.int r_42 :: [])) rfl ?_
    exact mm_iret (mw := wW h a cA) (u1 := (u_42.1, u_42.2.1, u_42.2.2.1, u_42.2.2.2.1, u_42.2.2.2.2)) hx hb hr hlocks hP hK hD hS dX0_changeAndSkip_45 ⟨q_42.1, q_42.2⟩
theorem iw_X0_test : ∀ w ∈ u_ws RX0 TX0 5, w ∈ wsX0_test := by decide +kernel
set_option maxHeartbeats 4000000 in
set_option maxRecDepth 100000 in
theorem kX0_test (l : Launch) (D : va_G) (h a : Nat) (cA : ClassId) (u : wS) (hI : wI u) (op : Int32) (ac : Int32) (e0 : Int32) (hop : ¬ op < 192 ∧ ¬ 255 < op) (hac : vp_in ac 4096) (he : ¬ e0 < 0) : MM l yX0_test wsX0_test ({ frames := 3, cells := 0, slots := 0, locals := 76 }) D vwCl [(cA, .long)] (wW h a cA) (wA h a) u [.ref h, .int op, .int ac, .int e0] rv_i (fun _ u' => wI u') := by
  refine mm_of (cc := cX0_test) (maxL := 6) (ret := (some .int)) (by decide) rfl (Nat.le_of_ble_eq_true rfl) (wA_in h a cA u) ?_
  intro p e s m below meth c ls C hl hP hK hD hS
  obtain ⟨hx, hb, hr, hml, hown, hts, hlocks⟩ := C
  have hl : lv_has ls 6 [(0, .ref h), (1, .int op), (2, .int ac), (3, .int e0)] := hl
  refine lv_iload_n hx hb dX0_test_0 rfl (lv_at hl 1 rfl) ?_
  refine lv_bipush (v := 8) hx hb dX0_test_1 (by decide) ?_
  refine lv_iand hx hb dX0_test_3 ?_
  refine lv_if_eq (tgt := 11) hx hb dX0_test_4 (by decide) (fun c_4 => ?_) (fun c_4 => ?_)
  · refine lv_iconst (v := 0) hx hb dX0_test_11 (by decide) ?_
    refine lv_istore (lv' := [(4, .int 0), (0, .ref h), (1, .int op), (2, .int ac), (3, .int e0)]) hx hb dX0_test_12 hl (by decide) rfl (fun ls hl => ?_)
    refine lv_iload hx hb dX0_test_14 (lv_at hl 0 rfl) ?_
    refine lv_if_eq (tgt := 28) hx hb dX0_test_16 (by decide) (fun c_16 => ?_) (fun c_16 => ?_)
    · refine lv_iload_n hx hb dX0_test_28 rfl (lv_at hl 2 rfl) ?_
      refine lv_bipush (v := 7) hx hb dX0_test_29 (by decide) ?_
      refine lv_iand hx hb dX0_test_31 ?_
      refine lv_topi (fun x_32 ex_32 => ?_)
      refine lv_istore (lv' := [(5, .int x_32), (4, .int 0), (0, .ref h), (1, .int op), (2, .int ac), (3, .int e0)]) hx hb dX0_test_32 hl (by decide) rfl (fun ls hl => ?_)
      refine lv_iload_n hx hb dX0_test_34 rfl (lv_at hl 3 rfl) ?_
      refine lv_sipush (v := 504) hx hb dX0_test_35 (by decide) ?_
      refine lv_iand hx hb dX0_test_38 ?_
      refine lv_topi (fun x_39 ex_39 => ?_)
      rcases (tst_0 hop.1 hop.2 c_4) with k_39 | k_39 | k_39 | k_39
      · have e_39 : x_39 = 192 := by rw [ex_39]; exact k_39
        clear ex_39
        subst e_39
        refine lv_lookup (tgt := 104) hx hb dX0_test_39 (by decide) rfl (by decide) ?_
        refine lv_aload_n hx hb dX0_test_104 rfl (lv_at hl 2 rfl) ?_
        refine lv_iload hx hb dX0_test_105 (lv_at hl 0 rfl) ?_
        refine lv_aload_n hx hb dX0_test_107 rfl (lv_at hl 2 rfl) ?_
        refine va_get (D := D) (ci := 0) (v := .ref a) (C := RX0) (T := TX0) (N := 5) hx hb hts iw_X0_test hown hK hP 0 rfl rfl 0 (by decide) (hts (.fieldLink RX0 9 "WordMill" "memory" "[J") (by decide +kernel)) (fun _ h9 => h9) rfl dX0_test_108 ?_
        refine lv_iload_n hx hb dX0_test_111 rfl (lv_at hl 4 rfl) ?_
        refine va_lald hx hb hK hP 1 0 rfl rfl hac dX0_test_112 ?_
        refine lv_iload_n hx hb dX0_test_113 rfl (lv_at hl 5 rfl) ?_
        refine lv_i2l hx hb dX0_test_114 rfl ?_
        refine ps_goi (As := [.int x_32, .long (u.1 (ac : Int32).toNatClampNeg), .long ((e0 : Int32).toInt64)]) (rest := [.ref h]) ⟨hx, hb, hml, hown, hts⟩ (kX0_holds l x_32 (u.1 (ac : Int32).toNatClampNeg) ((e0 : Int32).toInt64)) (va_cwS 3 hts gX0_test_X0_holds rfl rfl rfl (by decide +kernel) ⟨by decide, by decide⟩) rfl hl.1 rfl (Nat.le_of_ble_eq_true rfl) dX0_test_115 ⟨Nat.zero_le _, Nat.zero_le _⟩ (fun r_115 q_115 => ?_)
        refine w_go (rv := rv_i) (As := [.int r_115]) (rest := []) ⟨hx, hb, hml, hown, hts⟩ (kX0_skipIf l D h a cA (u.1, u.2.1, u.2.2.1, u.2.2.2.1, u.2.2.2.2) ⟨hI.1, hI.2⟩ r_115 ) (cwV 1 hts gX0_test_X0_skipIf rfl rfl rfl (by decide +kernel) ⟨by decide, by decide⟩) hK hP hD hS rfl hl.1 rfl (Nat.le_of_ble_eq_true rfl) dX0_test_118 ⟨Nat.zero_le _, Nat.zero_le _⟩ (fun r_118 u_118 H locs q_118 hP hD hS => ?_)
        refine W.eq (g2 := F0 m 121 ls (.int r_118 :: [])) rfl ?_
        exact mm_iret (mw := wW h a cA) (u1 := (u_118.1, u_118.2.1, u_118.2.2.1, u_118.2.2.2.1, u_118.2.2.2.2)) hx hb hr hlocks hP hK hD hS dX0_test_121 ⟨q_118.1, q_118.2⟩
      · have e_39 : x_39 = 208 := by rw [ex_39]; exact k_39
        clear ex_39
        subst e_39
        refine lv_lookup (tgt := 144) hx hb dX0_test_39 (by decide) rfl (by decide) ?_
        refine lv_aload_n hx hb dX0_test_144 rfl (lv_at hl 2 rfl) ?_
        refine lv_iload hx hb dX0_test_145 (lv_at hl 0 rfl) ?_
        refine lv_iload_n hx hb dX0_test_147 rfl (lv_at hl 4 rfl) ?_
        refine lv_iload_n hx hb dX0_test_148 rfl (lv_at hl 5 rfl) ?_
        refine lv_iconst (v := 0) hx hb dX0_test_149 (by decide) ?_
        refine w_go (rv := rv_i) (As := [.int x_32, .int ac, .int e0, .int 0]) (rest := []) ⟨hx, hb, hml, hown, hts⟩ (kX0_changeAndJump l D h a cA (u.1, u.2.1, u.2.2.1, u.2.2.2.1, u.2.2.2.2) ⟨hI.1, hI.2⟩ x_32 ac e0 0 hac) (cwV 4 hts gX0_test_X0_changeAndJump rfl rfl rfl (by decide +kernel) ⟨by decide, by decide⟩) hK hP hD hS rfl hl.1 rfl (Nat.le_of_ble_eq_true rfl) dX0_test_150 ⟨Nat.zero_le _, Nat.zero_le _⟩ (fun r_150 u_150 H locs q_150 hP hD hS => ?_)
        refine W.eq (g2 := F0 m 153 ls (.int r_150 :: [])) rfl ?_
        exact mm_iret (mw := wW h a cA) (u1 := (u_150.1, u_150.2.1, u_150.2.2.1, u_150.2.2.2.1, u_150.2.2.2.2)) hx hb hr hlocks hP hK hD hS dX0_test_153 ⟨q_150.1, q_150.2⟩
      · have e_39 : x_39 = 224 := by rw [ex_39]; exact k_39
        clear ex_39
        subst e_39
        refine lv_lookup (tgt := 164) hx hb dX0_test_39 (by decide) rfl (by decide) ?_
        refine lv_aload_n hx hb dX0_test_164 rfl (lv_at hl 2 rfl) ?_
        refine lv_iload hx hb dX0_test_165 (lv_at hl 0 rfl) ?_
        refine lv_iload_n hx hb dX0_test_167 rfl (lv_at hl 4 rfl) ?_
        refine lv_iload_n hx hb dX0_test_168 rfl (lv_at hl 5 rfl) ?_
        refine lv_iconst (v := 1) hx hb dX0_test_169 (by decide) ?_
        refine w_go (rv := rv_i) (As := [.int x_32, .int ac, .int e0, .int 1]) (rest := []) ⟨hx, hb, hml, hown, hts⟩ (kX0_changeAndJump l D h a cA (u.1, u.2.1, u.2.2.1, u.2.2.2.1, u.2.2.2.2) ⟨hI.1, hI.2⟩ x_32 ac e0 1 hac) (cwV 4 hts gX0_test_X0_changeAndJump rfl rfl rfl (by decide +kernel) ⟨by decide, by decide⟩) hK hP hD hS rfl hl.1 rfl (Nat.le_of_ble_eq_true rfl) dX0_test_170 ⟨Nat.zero_le _, Nat.zero_le _⟩ (fun r_170 u_170 H locs q_170 hP hD hS => ?_)
        refine W.eq (g2 := F0 m 173 ls (.int r_170 :: [])) rfl ?_
        exact mm_iret (mw := wW h a cA) (u1 := (u_170.1, u_170.2.1, u_170.2.2.1, u_170.2.2.2.1, u_170.2.2.2.2)) hx hb hr hlocks hP hK hD hS dX0_test_173 ⟨q_170.1, q_170.2⟩
      · have e_39 : x_39 = 240 := by rw [ex_39]; exact k_39
        clear ex_39
        subst e_39
        refine lv_lookup (tgt := 184) hx hb dX0_test_39 (by decide) rfl (by decide) ?_
        refine lv_aload_n hx hb dX0_test_184 rfl (lv_at hl 2 rfl) ?_
        refine lv_iload hx hb dX0_test_185 (lv_at hl 0 rfl) ?_
        refine lv_iload_n hx hb dX0_test_187 rfl (lv_at hl 4 rfl) ?_
        refine lv_iload_n hx hb dX0_test_188 rfl (lv_at hl 5 rfl) ?_
        refine lv_iconst (v := -1) hx hb dX0_test_189 (by decide) ?_
        refine w_go (rv := rv_i) (As := [.int x_32, .int ac, .int e0, .int (-1)]) (rest := []) ⟨hx, hb, hml, hown, hts⟩ (kX0_changeAndJump l D h a cA (u.1, u.2.1, u.2.2.1, u.2.2.2.1, u.2.2.2.2) ⟨hI.1, hI.2⟩ x_32 ac e0 (-1) hac) (cwV 4 hts gX0_test_X0_changeAndJump rfl rfl rfl (by decide +kernel) ⟨by decide, by decide⟩) hK hP hD hS rfl hl.1 rfl (Nat.le_of_ble_eq_true rfl) dX0_test_190 ⟨Nat.zero_le _, Nat.zero_le _⟩ (fun r_190 u_190 H locs q_190 hP hD hS => ?_)
        refine W.eq (g2 := F0 m 193 ls (.int r_190 :: [])) rfl ?_
        exact mm_iret (mw := wW h a cA) (u1 := (u_190.1, u_190.2.1, u_190.2.2.1, u_190.2.2.2.1, u_190.2.2.2.2)) hx hb hr hlocks hP hK hD hS dX0_test_193 ⟨q_190.1, q_190.2⟩
    · exact absurd c_16 (by decide)
  · refine lv_iconst (v := 1) hx hb dX0_test_7 (by decide) ?_
    refine lv_goto (tgt := 12) hx hb dX0_test_8 (by decide) ?_
    refine lv_istore (lv' := [(4, .int 1), (0, .ref h), (1, .int op), (2, .int ac), (3, .int e0)]) hx hb dX0_test_12 hl (by decide) rfl (fun ls hl => ?_)
    refine lv_iload hx hb dX0_test_14 (lv_at hl 0 rfl) ?_
    refine lv_if_eq (tgt := 28) hx hb dX0_test_16 (by decide) (fun c_16 => ?_) (fun c_16 => ?_)
    · exact absurd c_16 (by decide)
    · refine lv_iload_n hx hb dX0_test_19 rfl (lv_at hl 4 rfl) ?_
      refine lv_sipush (v := 4096) hx hb dX0_test_20 (by decide) ?_
      refine lv_icmp_lt (tgt := 28) hx hb dX0_test_23 (by decide) (fun c_23 => ?_) (fun c_23 => ?_)
      · refine lv_iload_n hx hb dX0_test_28 rfl (lv_at hl 2 rfl) ?_
        refine lv_bipush (v := 7) hx hb dX0_test_29 (by decide) ?_
        refine lv_iand hx hb dX0_test_31 ?_
        refine lv_topi (fun x_32 ex_32 => ?_)
        refine lv_istore (lv' := [(5, .int x_32), (4, .int 1), (0, .ref h), (1, .int op), (2, .int ac), (3, .int e0)]) hx hb dX0_test_32 hl (by decide) rfl (fun ls hl => ?_)
        refine lv_iload_n hx hb dX0_test_34 rfl (lv_at hl 3 rfl) ?_
        refine lv_sipush (v := 504) hx hb dX0_test_35 (by decide) ?_
        refine lv_iand hx hb dX0_test_38 ?_
        refine lv_topi (fun x_39 ex_39 => ?_)
        rcases (tst_1 hop.1 hop.2 c_4) with k_39 | k_39 | k_39 | k_39
        · have e_39 : x_39 = 200 := by rw [ex_39]; exact k_39
          clear ex_39
          subst e_39
          refine lv_lookup (tgt := 122) hx hb dX0_test_39 (by decide) rfl (by decide) ?_
          refine lv_aload_n hx hb dX0_test_122 rfl (lv_at hl 2 rfl) ?_
          refine lv_iload hx hb dX0_test_123 (lv_at hl 0 rfl) ?_
          refine lv_aload_n hx hb dX0_test_125 rfl (lv_at hl 2 rfl) ?_
          refine va_get (D := D) (ci := 0) (v := .ref a) (C := RX0) (T := TX0) (N := 5) hx hb hts iw_X0_test hown hK hP 0 rfl rfl 0 (by decide) (hts (.fieldLink RX0 9 "WordMill" "memory" "[J") (by decide +kernel)) (fun _ h9 => h9) rfl dX0_test_126 ?_
          refine lv_iload_n hx hb dX0_test_129 rfl (lv_at hl 4 rfl) ?_
          refine va_lald hx hb hK hP 1 0 rfl rfl hac dX0_test_130 ?_
          refine lv_aload_n hx hb dX0_test_131 rfl (lv_at hl 2 rfl) ?_
          refine va_get (D := D) (ci := 0) (v := .ref a) (C := RX0) (T := TX0) (N := 5) hx hb hts iw_X0_test hown hK hP 0 rfl rfl 0 (by decide) (hts (.fieldLink RX0 9 "WordMill" "memory" "[J") (by decide +kernel)) (fun _ h9 => h9) rfl dX0_test_132 ?_
          refine lv_iload_n hx hb dX0_test_135 rfl (lv_at hl 5 rfl) ?_
          refine va_lald hx hb hK hP 1 0 rfl rfl (vp_below he c_23 (by decide)) dX0_test_136 ?_
          refine ps_goi (As := [.int x_32, .long (u.1 (ac : Int32).toNatClampNeg), .long (u.1 (e0 : Int32).toNatClampNeg)]) (rest := [.ref h]) ⟨hx, hb, hml, hown, hts⟩ (kX0_holds l x_32 (u.1 (ac : Int32).toNatClampNeg) (u.1 (e0 : Int32).toNatClampNeg)) (va_cwS 3 hts gX0_test_X0_holds rfl rfl rfl (by decide +kernel) ⟨by decide, by decide⟩) rfl hl.1 rfl (Nat.le_of_ble_eq_true rfl) dX0_test_137 ⟨Nat.zero_le _, Nat.zero_le _⟩ (fun r_137 q_137 => ?_)
          refine w_go (rv := rv_i) (As := [.int r_137]) (rest := []) ⟨hx, hb, hml, hown, hts⟩ (kX0_skipIf l D h a cA (u.1, u.2.1, u.2.2.1, u.2.2.2.1, u.2.2.2.2) ⟨hI.1, hI.2⟩ r_137 ) (cwV 1 hts gX0_test_X0_skipIf rfl rfl rfl (by decide +kernel) ⟨by decide, by decide⟩) hK hP hD hS rfl hl.1 rfl (Nat.le_of_ble_eq_true rfl) dX0_test_140 ⟨Nat.zero_le _, Nat.zero_le _⟩ (fun r_140 u_140 H locs q_140 hP hD hS => ?_)
          refine W.eq (g2 := F0 m 143 ls (.int r_140 :: [])) rfl ?_
          exact mm_iret (mw := wW h a cA) (u1 := (u_140.1, u_140.2.1, u_140.2.2.1, u_140.2.2.2.1, u_140.2.2.2.2)) hx hb hr hlocks hP hK hD hS dX0_test_143 ⟨q_140.1, q_140.2⟩
        · have e_39 : x_39 = 216 := by rw [ex_39]; exact k_39
          clear ex_39
          subst e_39
          refine lv_lookup (tgt := 154) hx hb dX0_test_39 (by decide) rfl (by decide) ?_
          refine lv_aload_n hx hb dX0_test_154 rfl (lv_at hl 2 rfl) ?_
          refine lv_iload hx hb dX0_test_155 (lv_at hl 0 rfl) ?_
          refine lv_iload_n hx hb dX0_test_157 rfl (lv_at hl 4 rfl) ?_
          refine lv_iload_n hx hb dX0_test_158 rfl (lv_at hl 5 rfl) ?_
          refine lv_iconst (v := 0) hx hb dX0_test_159 (by decide) ?_
          refine w_go (rv := rv_i) (As := [.int x_32, .int ac, .int e0, .int 0]) (rest := []) ⟨hx, hb, hml, hown, hts⟩ (kX0_changeAndSkip l D h a cA (u.1, u.2.1, u.2.2.1, u.2.2.2.1, u.2.2.2.2) ⟨hI.1, hI.2⟩ x_32 ac e0 0 hac (vp_below he c_23 (by decide))) (cwV 4 hts gX0_test_X0_changeAndSkip rfl rfl rfl (by decide +kernel) ⟨by decide, by decide⟩) hK hP hD hS rfl hl.1 rfl (Nat.le_of_ble_eq_true rfl) dX0_test_160 ⟨Nat.zero_le _, Nat.zero_le _⟩ (fun r_160 u_160 H locs q_160 hP hD hS => ?_)
          refine W.eq (g2 := F0 m 163 ls (.int r_160 :: [])) rfl ?_
          exact mm_iret (mw := wW h a cA) (u1 := (u_160.1, u_160.2.1, u_160.2.2.1, u_160.2.2.2.1, u_160.2.2.2.2)) hx hb hr hlocks hP hK hD hS dX0_test_163 ⟨q_160.1, q_160.2⟩
        · have e_39 : x_39 = 232 := by rw [ex_39]; exact k_39
          clear ex_39
          subst e_39
          refine lv_lookup (tgt := 174) hx hb dX0_test_39 (by decide) rfl (by decide) ?_
          refine lv_aload_n hx hb dX0_test_174 rfl (lv_at hl 2 rfl) ?_
          refine lv_iload hx hb dX0_test_175 (lv_at hl 0 rfl) ?_
          refine lv_iload_n hx hb dX0_test_177 rfl (lv_at hl 4 rfl) ?_
          refine lv_iload_n hx hb dX0_test_178 rfl (lv_at hl 5 rfl) ?_
          refine lv_iconst (v := 1) hx hb dX0_test_179 (by decide) ?_
          refine w_go (rv := rv_i) (As := [.int x_32, .int ac, .int e0, .int 1]) (rest := []) ⟨hx, hb, hml, hown, hts⟩ (kX0_changeAndSkip l D h a cA (u.1, u.2.1, u.2.2.1, u.2.2.2.1, u.2.2.2.2) ⟨hI.1, hI.2⟩ x_32 ac e0 1 hac (vp_below he c_23 (by decide))) (cwV 4 hts gX0_test_X0_changeAndSkip rfl rfl rfl (by decide +kernel) ⟨by decide, by decide⟩) hK hP hD hS rfl hl.1 rfl (Nat.le_of_ble_eq_true rfl) dX0_test_180 ⟨Nat.zero_le _, Nat.zero_le _⟩ (fun r_180 u_180 H locs q_180 hP hD hS => ?_)
          refine W.eq (g2 := F0 m 183 ls (.int r_180 :: [])) rfl ?_
          exact mm_iret (mw := wW h a cA) (u1 := (u_180.1, u_180.2.1, u_180.2.2.1, u_180.2.2.2.1, u_180.2.2.2.2)) hx hb hr hlocks hP hK hD hS dX0_test_183 ⟨q_180.1, q_180.2⟩
        · have e_39 : x_39 = 248 := by rw [ex_39]; exact k_39
          clear ex_39
          subst e_39
          refine lv_lookup (tgt := 194) hx hb dX0_test_39 (by decide) rfl (by decide) ?_
          refine lv_aload_n hx hb dX0_test_194 rfl (lv_at hl 2 rfl) ?_
          refine lv_iload hx hb dX0_test_195 (lv_at hl 0 rfl) ?_
          refine lv_iload_n hx hb dX0_test_197 rfl (lv_at hl 4 rfl) ?_
          refine lv_iload_n hx hb dX0_test_198 rfl (lv_at hl 5 rfl) ?_
          refine lv_iconst (v := -1) hx hb dX0_test_199 (by decide) ?_
          refine w_go (rv := rv_i) (As := [.int x_32, .int ac, .int e0, .int (-1)]) (rest := []) ⟨hx, hb, hml, hown, hts⟩ (kX0_changeAndSkip l D h a cA (u.1, u.2.1, u.2.2.1, u.2.2.2.1, u.2.2.2.2) ⟨hI.1, hI.2⟩ x_32 ac e0 (-1) hac (vp_below he c_23 (by decide))) (cwV 4 hts gX0_test_X0_changeAndSkip rfl rfl rfl (by decide +kernel) ⟨by decide, by decide⟩) hK hP hD hS rfl hl.1 rfl (Nat.le_of_ble_eq_true rfl) dX0_test_200 ⟨Nat.zero_le _, Nat.zero_le _⟩ (fun r_200 u_200 H locs q_200 hP hD hS => ?_)
          refine W.eq (g2 := F0 m 203 ls (.int r_200 :: [])) rfl ?_
          exact mm_iret (mw := wW h a cA) (u1 := (u_200.1, u_200.2.1, u_200.2.2.1, u_200.2.2.2.1, u_200.2.2.2.2)) hx hb hr hlocks hP hK hD hS dX0_test_203 ⟨q_200.1, q_200.2⟩
      · refine lv_iconst (v := 2) hx hb dX0_test_26 (by decide) ?_
        exact mm_iret (mw := wW h a cA) (u1 := (u.1, u.2.1, u.2.2.1, u.2.2.2.1, u.2.2.2.2)) hx hb hr hlocks hP hK hD hS dX0_test_27 ⟨hI.1, hI.2⟩
theorem iw_X0_perform : ∀ w ∈ u_ws RX0 TX0 5, w ∈ wsX0_perform := by decide +kernel
set_option maxHeartbeats 4000000 in
set_option maxRecDepth 100000 in
theorem kX0_perform (l : Launch) (D : va_G) (h a : Nat) (cA : ClassId) (u : wS) (hI : wI u) (op : Int32) (ac : Int32) (e0 : Int32) (hac : vp_in ac 4096) (he : ¬ e0 < 0) : MM l yX0_perform wsX0_perform ({ frames := 4, cells := 0, slots := 0, locals := 101 }) D vwCl [(cA, .long)] (wW h a cA) (wA h a) u [.ref h, .int op, .int ac, .int e0] rv_i (fun r u' => wI u' ∧ (op = 0 → r = -1)) := by
  refine mm_of (cc := cX0_perform) (maxL := 4) (ret := (some .int)) (by decide) rfl (Nat.le_of_ble_eq_true rfl) (wA_in h a cA u) ?_
  intro p e s m below meth c ls C hl hP hK hD hS
  obtain ⟨hx, hb, hr, hml, hown, hts, hlocks⟩ := C
  have hl : lv_has ls 4 [(0, .ref h), (1, .int op), (2, .int ac), (3, .int e0)] := hl
  refine lv_iload_n hx hb dX0_perform_0 rfl (lv_at hl 1 rfl) ?_
  by_cases k_0 : op = 0
  · subst k_0
    refine lv_lookup (tgt := 316) hx hb dX0_perform_1 (by decide) rfl (by decide) ?_
    refine lv_iconst (v := -1) hx hb dX0_perform_316 (by decide) ?_
    exact mm_iret (mw := wW h a cA) (u1 := (u.1, u.2.1, u.2.2.1, u.2.2.2.1, u.2.2.2.2)) hx hb hr hlocks hP hK hD hS dX0_perform_317 ⟨⟨hI.1, hI.2⟩, fun _ => rfl⟩
  by_cases k_128 : op = 128
  · subst k_128
    refine lv_lookup (tgt := 354) hx hb dX0_perform_1 (by decide) rfl (by decide) ?_
    refine lv_iload_n hx hb dX0_perform_354 rfl (lv_at hl 3 rfl) ?_
    refine lv_sipush (v := 4096) hx hb dX0_perform_355 (by decide) ?_
    refine lv_icmp_lt (tgt := 365) hx hb dX0_perform_358 (by decide) (fun c_358 => ?_) (fun c_358 => ?_)
    · refine lv_aload_n hx hb dX0_perform_365 rfl (lv_at hl 0 rfl) ?_
      refine lv_iload_n hx hb dX0_perform_366 rfl (lv_at hl 1 rfl) ?_
      refine lv_iload_n hx hb dX0_perform_367 rfl (lv_at hl 2 rfl) ?_
      refine lv_iload_n hx hb dX0_perform_368 rfl (lv_at hl 3 rfl) ?_
      refine w_go (rv := rv_i) (As := [.int 128, .int ac, .int e0]) (rest := []) ⟨hx, hb, hml, hown, hts⟩ (kX0_performOnMemory l D h a cA (u.1, u.2.1, u.2.2.1, u.2.2.2.1, u.2.2.2.2) ⟨hI.1, hI.2⟩ 128 ac e0 hac (vp_below he c_358 (by decide))) (cwV 3 hts gX0_perform_X0_performOnMemory rfl rfl rfl (by decide +kernel) ⟨by decide, by decide⟩) hK hP hD hS rfl hl.1 rfl (Nat.le_of_ble_eq_true rfl) dX0_perform_369 ⟨Nat.zero_le _, Nat.zero_le _⟩ (fun r_369 u_369 H locs q_369 hP hD hS => ?_)
      refine W.eq (g2 := F0 m 372 ls (.int r_369 :: [])) rfl ?_
      exact mm_iret (mw := wW h a cA) (u1 := (u_369.1, u_369.2.1, u_369.2.2.1, u_369.2.2.2.1, u_369.2.2.2.2)) hx hb hr hlocks hP hK hD hS dX0_perform_372 ⟨⟨q_369.1, q_369.2⟩, fun hz => absurd hz (by decide)⟩
    · refine lv_iconst (v := 2) hx hb dX0_perform_361 (by decide) ?_
      refine lv_goto (tgt := 372) hx hb dX0_perform_362 (by decide) ?_
      exact mm_iret (mw := wW h a cA) (u1 := (u.1, u.2.1, u.2.2.1, u.2.2.2.1, u.2.2.2.2)) hx hb hr hlocks hP hK hD hS dX0_perform_372 ⟨⟨hI.1, hI.2⟩, fun hz => absurd hz (by decide)⟩
  by_cases k_129 : op = 129
  · subst k_129
    refine lv_lookup (tgt := 318) hx hb dX0_perform_1 (by decide) rfl (by decide) ?_
    refine lv_aload_n hx hb dX0_perform_318 rfl (lv_at hl 0 rfl) ?_
    refine lv_iload_n hx hb dX0_perform_319 rfl (lv_at hl 1 rfl) ?_
    refine lv_iload_n hx hb dX0_perform_320 rfl (lv_at hl 2 rfl) ?_
    refine lv_iload_n hx hb dX0_perform_321 rfl (lv_at hl 3 rfl) ?_
    refine lv_i2l hx hb dX0_perform_322 rfl ?_
    refine w_go (rv := rv_i) (As := [.int 129, .int ac, .long ((e0 : Int32).toInt64)]) (rest := []) ⟨hx, hb, hml, hown, hts⟩ (kX0_combine l D h a cA (u.1, u.2.1, u.2.2.1, u.2.2.2.1, u.2.2.2.2) ⟨hI.1, hI.2⟩ 129 ac ((e0 : Int32).toInt64) hac) (cwV 3 hts gX0_perform_X0_combine rfl rfl rfl (by decide +kernel) ⟨by decide, by decide⟩) hK hP hD hS rfl hl.1 rfl (Nat.le_of_ble_eq_true rfl) dX0_perform_323 ⟨Nat.zero_le _, Nat.zero_le _⟩ (fun r_323 u_323 H locs q_323 hP hD hS => ?_)
    refine W.eq (g2 := F0 m 326 ls (.int r_323 :: [])) rfl ?_
    exact mm_iret (mw := wW h a cA) (u1 := (u_323.1, u_323.2.1, u_323.2.2.1, u_323.2.2.2.1, u_323.2.2.2.2)) hx hb hr hlocks hP hK hD hS dX0_perform_326 ⟨⟨q_323.1, q_323.2⟩, fun hz => absurd hz (by decide)⟩
  by_cases k_130 : op = 130
  · subst k_130
    refine lv_lookup (tgt := 354) hx hb dX0_perform_1 (by decide) rfl (by decide) ?_
    refine lv_iload_n hx hb dX0_perform_354 rfl (lv_at hl 3 rfl) ?_
    refine lv_sipush (v := 4096) hx hb dX0_perform_355 (by decide) ?_
    refine lv_icmp_lt (tgt := 365) hx hb dX0_perform_358 (by decide) (fun c_358 => ?_) (fun c_358 => ?_)
    · refine lv_aload_n hx hb dX0_perform_365 rfl (lv_at hl 0 rfl) ?_
      refine lv_iload_n hx hb dX0_perform_366 rfl (lv_at hl 1 rfl) ?_
      refine lv_iload_n hx hb dX0_perform_367 rfl (lv_at hl 2 rfl) ?_
      refine lv_iload_n hx hb dX0_perform_368 rfl (lv_at hl 3 rfl) ?_
      refine w_go (rv := rv_i) (As := [.int 130, .int ac, .int e0]) (rest := []) ⟨hx, hb, hml, hown, hts⟩ (kX0_performOnMemory l D h a cA (u.1, u.2.1, u.2.2.1, u.2.2.2.1, u.2.2.2.2) ⟨hI.1, hI.2⟩ 130 ac e0 hac (vp_below he c_358 (by decide))) (cwV 3 hts gX0_perform_X0_performOnMemory rfl rfl rfl (by decide +kernel) ⟨by decide, by decide⟩) hK hP hD hS rfl hl.1 rfl (Nat.le_of_ble_eq_true rfl) dX0_perform_369 ⟨Nat.zero_le _, Nat.zero_le _⟩ (fun r_369 u_369 H locs q_369 hP hD hS => ?_)
      refine W.eq (g2 := F0 m 372 ls (.int r_369 :: [])) rfl ?_
      exact mm_iret (mw := wW h a cA) (u1 := (u_369.1, u_369.2.1, u_369.2.2.1, u_369.2.2.2.1, u_369.2.2.2.2)) hx hb hr hlocks hP hK hD hS dX0_perform_372 ⟨⟨q_369.1, q_369.2⟩, fun hz => absurd hz (by decide)⟩
    · refine lv_iconst (v := 2) hx hb dX0_perform_361 (by decide) ?_
      refine lv_goto (tgt := 372) hx hb dX0_perform_362 (by decide) ?_
      exact mm_iret (mw := wW h a cA) (u1 := (u.1, u.2.1, u.2.2.1, u.2.2.2.1, u.2.2.2.2)) hx hb hr hlocks hP hK hD hS dX0_perform_372 ⟨⟨hI.1, hI.2⟩, fun hz => absurd hz (by decide)⟩
  by_cases k_132 : op = 132
  · subst k_132
    refine lv_lookup (tgt := 354) hx hb dX0_perform_1 (by decide) rfl (by decide) ?_
    refine lv_iload_n hx hb dX0_perform_354 rfl (lv_at hl 3 rfl) ?_
    refine lv_sipush (v := 4096) hx hb dX0_perform_355 (by decide) ?_
    refine lv_icmp_lt (tgt := 365) hx hb dX0_perform_358 (by decide) (fun c_358 => ?_) (fun c_358 => ?_)
    · refine lv_aload_n hx hb dX0_perform_365 rfl (lv_at hl 0 rfl) ?_
      refine lv_iload_n hx hb dX0_perform_366 rfl (lv_at hl 1 rfl) ?_
      refine lv_iload_n hx hb dX0_perform_367 rfl (lv_at hl 2 rfl) ?_
      refine lv_iload_n hx hb dX0_perform_368 rfl (lv_at hl 3 rfl) ?_
      refine w_go (rv := rv_i) (As := [.int 132, .int ac, .int e0]) (rest := []) ⟨hx, hb, hml, hown, hts⟩ (kX0_performOnMemory l D h a cA (u.1, u.2.1, u.2.2.1, u.2.2.2.1, u.2.2.2.2) ⟨hI.1, hI.2⟩ 132 ac e0 hac (vp_below he c_358 (by decide))) (cwV 3 hts gX0_perform_X0_performOnMemory rfl rfl rfl (by decide +kernel) ⟨by decide, by decide⟩) hK hP hD hS rfl hl.1 rfl (Nat.le_of_ble_eq_true rfl) dX0_perform_369 ⟨Nat.zero_le _, Nat.zero_le _⟩ (fun r_369 u_369 H locs q_369 hP hD hS => ?_)
      refine W.eq (g2 := F0 m 372 ls (.int r_369 :: [])) rfl ?_
      exact mm_iret (mw := wW h a cA) (u1 := (u_369.1, u_369.2.1, u_369.2.2.1, u_369.2.2.2.1, u_369.2.2.2.2)) hx hb hr hlocks hP hK hD hS dX0_perform_372 ⟨⟨q_369.1, q_369.2⟩, fun hz => absurd hz (by decide)⟩
    · refine lv_iconst (v := 2) hx hb dX0_perform_361 (by decide) ?_
      refine lv_goto (tgt := 372) hx hb dX0_perform_362 (by decide) ?_
      exact mm_iret (mw := wW h a cA) (u1 := (u.1, u.2.1, u.2.2.1, u.2.2.2.1, u.2.2.2.2)) hx hb hr hlocks hP hK hD hS dX0_perform_372 ⟨⟨hI.1, hI.2⟩, fun hz => absurd hz (by decide)⟩
  by_cases k_136 : op = 136
  · subst k_136
    refine lv_lookup (tgt := 354) hx hb dX0_perform_1 (by decide) rfl (by decide) ?_
    refine lv_iload_n hx hb dX0_perform_354 rfl (lv_at hl 3 rfl) ?_
    refine lv_sipush (v := 4096) hx hb dX0_perform_355 (by decide) ?_
    refine lv_icmp_lt (tgt := 365) hx hb dX0_perform_358 (by decide) (fun c_358 => ?_) (fun c_358 => ?_)
    · refine lv_aload_n hx hb dX0_perform_365 rfl (lv_at hl 0 rfl) ?_
      refine lv_iload_n hx hb dX0_perform_366 rfl (lv_at hl 1 rfl) ?_
      refine lv_iload_n hx hb dX0_perform_367 rfl (lv_at hl 2 rfl) ?_
      refine lv_iload_n hx hb dX0_perform_368 rfl (lv_at hl 3 rfl) ?_
      refine w_go (rv := rv_i) (As := [.int 136, .int ac, .int e0]) (rest := []) ⟨hx, hb, hml, hown, hts⟩ (kX0_performOnMemory l D h a cA (u.1, u.2.1, u.2.2.1, u.2.2.2.1, u.2.2.2.2) ⟨hI.1, hI.2⟩ 136 ac e0 hac (vp_below he c_358 (by decide))) (cwV 3 hts gX0_perform_X0_performOnMemory rfl rfl rfl (by decide +kernel) ⟨by decide, by decide⟩) hK hP hD hS rfl hl.1 rfl (Nat.le_of_ble_eq_true rfl) dX0_perform_369 ⟨Nat.zero_le _, Nat.zero_le _⟩ (fun r_369 u_369 H locs q_369 hP hD hS => ?_)
      refine W.eq (g2 := F0 m 372 ls (.int r_369 :: [])) rfl ?_
      exact mm_iret (mw := wW h a cA) (u1 := (u_369.1, u_369.2.1, u_369.2.2.1, u_369.2.2.2.1, u_369.2.2.2.2)) hx hb hr hlocks hP hK hD hS dX0_perform_372 ⟨⟨q_369.1, q_369.2⟩, fun hz => absurd hz (by decide)⟩
    · refine lv_iconst (v := 2) hx hb dX0_perform_361 (by decide) ?_
      refine lv_goto (tgt := 372) hx hb dX0_perform_362 (by decide) ?_
      exact mm_iret (mw := wW h a cA) (u1 := (u.1, u.2.1, u.2.2.1, u.2.2.2.1, u.2.2.2.2)) hx hb hr hlocks hP hK hD hS dX0_perform_372 ⟨⟨hI.1, hI.2⟩, fun hz => absurd hz (by decide)⟩
  by_cases k_140 : op = 140
  · subst k_140
    refine lv_lookup (tgt := 354) hx hb dX0_perform_1 (by decide) rfl (by decide) ?_
    refine lv_iload_n hx hb dX0_perform_354 rfl (lv_at hl 3 rfl) ?_
    refine lv_sipush (v := 4096) hx hb dX0_perform_355 (by decide) ?_
    refine lv_icmp_lt (tgt := 365) hx hb dX0_perform_358 (by decide) (fun c_358 => ?_) (fun c_358 => ?_)
    · refine lv_aload_n hx hb dX0_perform_365 rfl (lv_at hl 0 rfl) ?_
      refine lv_iload_n hx hb dX0_perform_366 rfl (lv_at hl 1 rfl) ?_
      refine lv_iload_n hx hb dX0_perform_367 rfl (lv_at hl 2 rfl) ?_
      refine lv_iload_n hx hb dX0_perform_368 rfl (lv_at hl 3 rfl) ?_
      refine w_go (rv := rv_i) (As := [.int 140, .int ac, .int e0]) (rest := []) ⟨hx, hb, hml, hown, hts⟩ (kX0_performOnMemory l D h a cA (u.1, u.2.1, u.2.2.1, u.2.2.2.1, u.2.2.2.2) ⟨hI.1, hI.2⟩ 140 ac e0 hac (vp_below he c_358 (by decide))) (cwV 3 hts gX0_perform_X0_performOnMemory rfl rfl rfl (by decide +kernel) ⟨by decide, by decide⟩) hK hP hD hS rfl hl.1 rfl (Nat.le_of_ble_eq_true rfl) dX0_perform_369 ⟨Nat.zero_le _, Nat.zero_le _⟩ (fun r_369 u_369 H locs q_369 hP hD hS => ?_)
      refine W.eq (g2 := F0 m 372 ls (.int r_369 :: [])) rfl ?_
      exact mm_iret (mw := wW h a cA) (u1 := (u_369.1, u_369.2.1, u_369.2.2.1, u_369.2.2.2.1, u_369.2.2.2.2)) hx hb hr hlocks hP hK hD hS dX0_perform_372 ⟨⟨q_369.1, q_369.2⟩, fun hz => absurd hz (by decide)⟩
    · refine lv_iconst (v := 2) hx hb dX0_perform_361 (by decide) ?_
      refine lv_goto (tgt := 372) hx hb dX0_perform_362 (by decide) ?_
      exact mm_iret (mw := wW h a cA) (u1 := (u.1, u.2.1, u.2.2.1, u.2.2.2.1, u.2.2.2.2)) hx hb hr hlocks hP hK hD hS dX0_perform_372 ⟨⟨hI.1, hI.2⟩, fun hz => absurd hz (by decide)⟩
  by_cases k_144 : op = 144
  · subst k_144
    refine lv_lookup (tgt := 354) hx hb dX0_perform_1 (by decide) rfl (by decide) ?_
    refine lv_iload_n hx hb dX0_perform_354 rfl (lv_at hl 3 rfl) ?_
    refine lv_sipush (v := 4096) hx hb dX0_perform_355 (by decide) ?_
    refine lv_icmp_lt (tgt := 365) hx hb dX0_perform_358 (by decide) (fun c_358 => ?_) (fun c_358 => ?_)
    · refine lv_aload_n hx hb dX0_perform_365 rfl (lv_at hl 0 rfl) ?_
      refine lv_iload_n hx hb dX0_perform_366 rfl (lv_at hl 1 rfl) ?_
      refine lv_iload_n hx hb dX0_perform_367 rfl (lv_at hl 2 rfl) ?_
      refine lv_iload_n hx hb dX0_perform_368 rfl (lv_at hl 3 rfl) ?_
      refine w_go (rv := rv_i) (As := [.int 144, .int ac, .int e0]) (rest := []) ⟨hx, hb, hml, hown, hts⟩ (kX0_performOnMemory l D h a cA (u.1, u.2.1, u.2.2.1, u.2.2.2.1, u.2.2.2.2) ⟨hI.1, hI.2⟩ 144 ac e0 hac (vp_below he c_358 (by decide))) (cwV 3 hts gX0_perform_X0_performOnMemory rfl rfl rfl (by decide +kernel) ⟨by decide, by decide⟩) hK hP hD hS rfl hl.1 rfl (Nat.le_of_ble_eq_true rfl) dX0_perform_369 ⟨Nat.zero_le _, Nat.zero_le _⟩ (fun r_369 u_369 H locs q_369 hP hD hS => ?_)
      refine W.eq (g2 := F0 m 372 ls (.int r_369 :: [])) rfl ?_
      exact mm_iret (mw := wW h a cA) (u1 := (u_369.1, u_369.2.1, u_369.2.2.1, u_369.2.2.2.1, u_369.2.2.2.2)) hx hb hr hlocks hP hK hD hS dX0_perform_372 ⟨⟨q_369.1, q_369.2⟩, fun hz => absurd hz (by decide)⟩
    · refine lv_iconst (v := 2) hx hb dX0_perform_361 (by decide) ?_
      refine lv_goto (tgt := 372) hx hb dX0_perform_362 (by decide) ?_
      exact mm_iret (mw := wW h a cA) (u1 := (u.1, u.2.1, u.2.2.1, u.2.2.2.1, u.2.2.2.2)) hx hb hr hlocks hP hK hD hS dX0_perform_372 ⟨⟨hI.1, hI.2⟩, fun hz => absurd hz (by decide)⟩
  by_cases k_145 : op = 145
  · subst k_145
    refine lv_lookup (tgt := 318) hx hb dX0_perform_1 (by decide) rfl (by decide) ?_
    refine lv_aload_n hx hb dX0_perform_318 rfl (lv_at hl 0 rfl) ?_
    refine lv_iload_n hx hb dX0_perform_319 rfl (lv_at hl 1 rfl) ?_
    refine lv_iload_n hx hb dX0_perform_320 rfl (lv_at hl 2 rfl) ?_
    refine lv_iload_n hx hb dX0_perform_321 rfl (lv_at hl 3 rfl) ?_
    refine lv_i2l hx hb dX0_perform_322 rfl ?_
    refine w_go (rv := rv_i) (As := [.int 145, .int ac, .long ((e0 : Int32).toInt64)]) (rest := []) ⟨hx, hb, hml, hown, hts⟩ (kX0_combine l D h a cA (u.1, u.2.1, u.2.2.1, u.2.2.2.1, u.2.2.2.2) ⟨hI.1, hI.2⟩ 145 ac ((e0 : Int32).toInt64) hac) (cwV 3 hts gX0_perform_X0_combine rfl rfl rfl (by decide +kernel) ⟨by decide, by decide⟩) hK hP hD hS rfl hl.1 rfl (Nat.le_of_ble_eq_true rfl) dX0_perform_323 ⟨Nat.zero_le _, Nat.zero_le _⟩ (fun r_323 u_323 H locs q_323 hP hD hS => ?_)
    refine W.eq (g2 := F0 m 326 ls (.int r_323 :: [])) rfl ?_
    exact mm_iret (mw := wW h a cA) (u1 := (u_323.1, u_323.2.1, u_323.2.2.1, u_323.2.2.2.1, u_323.2.2.2.2)) hx hb hr hlocks hP hK hD hS dX0_perform_326 ⟨⟨q_323.1, q_323.2⟩, fun hz => absurd hz (by decide)⟩
  by_cases k_152 : op = 152
  · subst k_152
    refine lv_lookup (tgt := 354) hx hb dX0_perform_1 (by decide) rfl (by decide) ?_
    refine lv_iload_n hx hb dX0_perform_354 rfl (lv_at hl 3 rfl) ?_
    refine lv_sipush (v := 4096) hx hb dX0_perform_355 (by decide) ?_
    refine lv_icmp_lt (tgt := 365) hx hb dX0_perform_358 (by decide) (fun c_358 => ?_) (fun c_358 => ?_)
    · refine lv_aload_n hx hb dX0_perform_365 rfl (lv_at hl 0 rfl) ?_
      refine lv_iload_n hx hb dX0_perform_366 rfl (lv_at hl 1 rfl) ?_
      refine lv_iload_n hx hb dX0_perform_367 rfl (lv_at hl 2 rfl) ?_
      refine lv_iload_n hx hb dX0_perform_368 rfl (lv_at hl 3 rfl) ?_
      refine w_go (rv := rv_i) (As := [.int 152, .int ac, .int e0]) (rest := []) ⟨hx, hb, hml, hown, hts⟩ (kX0_performOnMemory l D h a cA (u.1, u.2.1, u.2.2.1, u.2.2.2.1, u.2.2.2.2) ⟨hI.1, hI.2⟩ 152 ac e0 hac (vp_below he c_358 (by decide))) (cwV 3 hts gX0_perform_X0_performOnMemory rfl rfl rfl (by decide +kernel) ⟨by decide, by decide⟩) hK hP hD hS rfl hl.1 rfl (Nat.le_of_ble_eq_true rfl) dX0_perform_369 ⟨Nat.zero_le _, Nat.zero_le _⟩ (fun r_369 u_369 H locs q_369 hP hD hS => ?_)
      refine W.eq (g2 := F0 m 372 ls (.int r_369 :: [])) rfl ?_
      exact mm_iret (mw := wW h a cA) (u1 := (u_369.1, u_369.2.1, u_369.2.2.1, u_369.2.2.2.1, u_369.2.2.2.2)) hx hb hr hlocks hP hK hD hS dX0_perform_372 ⟨⟨q_369.1, q_369.2⟩, fun hz => absurd hz (by decide)⟩
    · refine lv_iconst (v := 2) hx hb dX0_perform_361 (by decide) ?_
      refine lv_goto (tgt := 372) hx hb dX0_perform_362 (by decide) ?_
      exact mm_iret (mw := wW h a cA) (u1 := (u.1, u.2.1, u.2.2.1, u.2.2.2.1, u.2.2.2.2)) hx hb hr hlocks hP hK hD hS dX0_perform_372 ⟨⟨hI.1, hI.2⟩, fun hz => absurd hz (by decide)⟩
  by_cases k_153 : op = 153
  · subst k_153
    refine lv_lookup (tgt := 327) hx hb dX0_perform_1 (by decide) rfl (by decide) ?_
    refine lv_aload_n hx hb dX0_perform_327 rfl (lv_at hl 0 rfl) ?_
    refine lv_iload_n hx hb dX0_perform_328 rfl (lv_at hl 2 rfl) ?_
    refine lv_iload_n hx hb dX0_perform_329 rfl (lv_at hl 3 rfl) ?_
    refine lv_i2l hx hb dX0_perform_330 rfl ?_
    refine w_go (rv := rv_i) (As := [.int ac, .long ((e0 : Int32).toInt64)]) (rest := []) ⟨hx, hb, hml, hown, hts⟩ (kX0_divide l D h a cA (u.1, u.2.1, u.2.2.1, u.2.2.2.1, u.2.2.2.2) ⟨hI.1, hI.2⟩ ac ((e0 : Int32).toInt64) hac) (cwV 2 hts gX0_perform_X0_divide rfl rfl rfl (by decide +kernel) ⟨by decide, by decide⟩) hK hP hD hS rfl hl.1 rfl (Nat.le_of_ble_eq_true rfl) dX0_perform_331 ⟨Nat.zero_le _, Nat.zero_le _⟩ (fun r_331 u_331 H locs q_331 hP hD hS => ?_)
    refine W.eq (g2 := F0 m 334 ls (.int r_331 :: [])) rfl ?_
    exact mm_iret (mw := wW h a cA) (u1 := (u_331.1, u_331.2.1, u_331.2.2.1, u_331.2.2.2.1, u_331.2.2.2.2)) hx hb hr hlocks hP hK hD hS dX0_perform_334 ⟨⟨q_331.1, q_331.2⟩, fun hz => absurd hz (by decide)⟩
  by_cases k_162 : op = 162
  · subst k_162
    refine lv_lookup (tgt := 318) hx hb dX0_perform_1 (by decide) rfl (by decide) ?_
    refine lv_aload_n hx hb dX0_perform_318 rfl (lv_at hl 0 rfl) ?_
    refine lv_iload_n hx hb dX0_perform_319 rfl (lv_at hl 1 rfl) ?_
    refine lv_iload_n hx hb dX0_perform_320 rfl (lv_at hl 2 rfl) ?_
    refine lv_iload_n hx hb dX0_perform_321 rfl (lv_at hl 3 rfl) ?_
    refine lv_i2l hx hb dX0_perform_322 rfl ?_
    refine w_go (rv := rv_i) (As := [.int 162, .int ac, .long ((e0 : Int32).toInt64)]) (rest := []) ⟨hx, hb, hml, hown, hts⟩ (kX0_combine l D h a cA (u.1, u.2.1, u.2.2.1, u.2.2.2.1, u.2.2.2.2) ⟨hI.1, hI.2⟩ 162 ac ((e0 : Int32).toInt64) hac) (cwV 3 hts gX0_perform_X0_combine rfl rfl rfl (by decide +kernel) ⟨by decide, by decide⟩) hK hP hD hS rfl hl.1 rfl (Nat.le_of_ble_eq_true rfl) dX0_perform_323 ⟨Nat.zero_le _, Nat.zero_le _⟩ (fun r_323 u_323 H locs q_323 hP hD hS => ?_)
    refine W.eq (g2 := F0 m 326 ls (.int r_323 :: [])) rfl ?_
    exact mm_iret (mw := wW h a cA) (u1 := (u_323.1, u_323.2.1, u_323.2.2.1, u_323.2.2.2.1, u_323.2.2.2.2)) hx hb hr hlocks hP hK hD hS dX0_perform_326 ⟨⟨q_323.1, q_323.2⟩, fun hz => absurd hz (by decide)⟩
  by_cases k_168 : op = 168
  · subst k_168
    refine lv_lookup (tgt := 354) hx hb dX0_perform_1 (by decide) rfl (by decide) ?_
    refine lv_iload_n hx hb dX0_perform_354 rfl (lv_at hl 3 rfl) ?_
    refine lv_sipush (v := 4096) hx hb dX0_perform_355 (by decide) ?_
    refine lv_icmp_lt (tgt := 365) hx hb dX0_perform_358 (by decide) (fun c_358 => ?_) (fun c_358 => ?_)
    · refine lv_aload_n hx hb dX0_perform_365 rfl (lv_at hl 0 rfl) ?_
      refine lv_iload_n hx hb dX0_perform_366 rfl (lv_at hl 1 rfl) ?_
      refine lv_iload_n hx hb dX0_perform_367 rfl (lv_at hl 2 rfl) ?_
      refine lv_iload_n hx hb dX0_perform_368 rfl (lv_at hl 3 rfl) ?_
      refine w_go (rv := rv_i) (As := [.int 168, .int ac, .int e0]) (rest := []) ⟨hx, hb, hml, hown, hts⟩ (kX0_performOnMemory l D h a cA (u.1, u.2.1, u.2.2.1, u.2.2.2.1, u.2.2.2.2) ⟨hI.1, hI.2⟩ 168 ac e0 hac (vp_below he c_358 (by decide))) (cwV 3 hts gX0_perform_X0_performOnMemory rfl rfl rfl (by decide +kernel) ⟨by decide, by decide⟩) hK hP hD hS rfl hl.1 rfl (Nat.le_of_ble_eq_true rfl) dX0_perform_369 ⟨Nat.zero_le _, Nat.zero_le _⟩ (fun r_369 u_369 H locs q_369 hP hD hS => ?_)
      refine W.eq (g2 := F0 m 372 ls (.int r_369 :: [])) rfl ?_
      exact mm_iret (mw := wW h a cA) (u1 := (u_369.1, u_369.2.1, u_369.2.2.1, u_369.2.2.2.1, u_369.2.2.2.2)) hx hb hr hlocks hP hK hD hS dX0_perform_372 ⟨⟨q_369.1, q_369.2⟩, fun hz => absurd hz (by decide)⟩
    · refine lv_iconst (v := 2) hx hb dX0_perform_361 (by decide) ?_
      refine lv_goto (tgt := 372) hx hb dX0_perform_362 (by decide) ?_
      exact mm_iret (mw := wW h a cA) (u1 := (u.1, u.2.1, u.2.2.1, u.2.2.2.1, u.2.2.2.2)) hx hb hr hlocks hP hK hD hS dX0_perform_372 ⟨⟨hI.1, hI.2⟩, fun hz => absurd hz (by decide)⟩
  by_cases k_172 : op = 172
  · subst k_172
    refine lv_lookup (tgt := 335) hx hb dX0_perform_1 (by decide) rfl (by decide) ?_
    refine lv_aload_n hx hb dX0_perform_335 rfl (lv_at hl 0 rfl) ?_
    refine lv_iload_n hx hb dX0_perform_336 rfl (lv_at hl 3 rfl) ?_
    refine w_go (rv := rv_i) (As := [.int e0]) (rest := []) ⟨hx, hb, hml, hown, hts⟩ (kX0_jump l D h a cA (u.1, u.2.1, u.2.2.1, u.2.2.2.1, u.2.2.2.2) ⟨hI.1, hI.2⟩ e0 ) (cwV 1 hts gX0_perform_X0_jump rfl rfl rfl (by decide +kernel) ⟨by decide, by decide⟩) hK hP hD hS rfl hl.1 rfl (Nat.le_of_ble_eq_true rfl) dX0_perform_337 ⟨Nat.zero_le _, Nat.zero_le _⟩ (fun r_337 u_337 H locs q_337 hP hD hS => ?_)
    refine W.eq (g2 := F0 m 340 ls (.int r_337 :: [])) rfl ?_
    exact mm_iret (mw := wW h a cA) (u1 := (u_337.1, u_337.2.1, u_337.2.2.1, u_337.2.2.2.1, u_337.2.2.2.2)) hx hb hr hlocks hP hK hD hS dX0_perform_340 ⟨⟨q_337.1, q_337.2⟩, fun hz => absurd hz (by decide)⟩
  by_cases k_176 : op = 176
  · subst k_176
    refine lv_lookup (tgt := 341) hx hb dX0_perform_1 (by decide) rfl (by decide) ?_
    refine lv_aload_n hx hb dX0_perform_341 rfl (lv_at hl 0 rfl) ?_
    refine lv_iload_n hx hb dX0_perform_342 rfl (lv_at hl 2 rfl) ?_
    refine lv_iload_n hx hb dX0_perform_343 rfl (lv_at hl 3 rfl) ?_
    refine w_go (rv := rv_i) (As := [.int ac, .int e0]) (rest := []) ⟨hx, hb, hml, hown, hts⟩ (kX0_pushNextPlace l D h a cA (u.1, u.2.1, u.2.2.1, u.2.2.2.1, u.2.2.2.2) ⟨hI.1, hI.2⟩ ac e0 hac) (cwV 2 hts gX0_perform_X0_pushNextPlace rfl rfl rfl (by decide +kernel) ⟨by decide, by decide⟩) hK hP hD hS rfl hl.1 rfl (Nat.le_of_ble_eq_true rfl) dX0_perform_344 ⟨Nat.zero_le _, Nat.zero_le _⟩ (fun r_344 u_344 H locs q_344 hP hD hS => ?_)
    refine W.eq (g2 := F0 m 347 ls (.int r_344 :: [])) rfl ?_
    exact mm_iret (mw := wW h a cA) (u1 := (u_344.1, u_344.2.1, u_344.2.2.1, u_344.2.2.2.1, u_344.2.2.2.2)) hx hb hr hlocks hP hK hD hS dX0_perform_347 ⟨⟨q_344.1, q_344.2⟩, fun hz => absurd hz (by decide)⟩
  by_cases k_177 : op = 177
  · subst k_177
    refine lv_lookup (tgt := 354) hx hb dX0_perform_1 (by decide) rfl (by decide) ?_
    refine lv_iload_n hx hb dX0_perform_354 rfl (lv_at hl 3 rfl) ?_
    refine lv_sipush (v := 4096) hx hb dX0_perform_355 (by decide) ?_
    refine lv_icmp_lt (tgt := 365) hx hb dX0_perform_358 (by decide) (fun c_358 => ?_) (fun c_358 => ?_)
    · refine lv_aload_n hx hb dX0_perform_365 rfl (lv_at hl 0 rfl) ?_
      refine lv_iload_n hx hb dX0_perform_366 rfl (lv_at hl 1 rfl) ?_
      refine lv_iload_n hx hb dX0_perform_367 rfl (lv_at hl 2 rfl) ?_
      refine lv_iload_n hx hb dX0_perform_368 rfl (lv_at hl 3 rfl) ?_
      refine w_go (rv := rv_i) (As := [.int 177, .int ac, .int e0]) (rest := []) ⟨hx, hb, hml, hown, hts⟩ (kX0_performOnMemory l D h a cA (u.1, u.2.1, u.2.2.1, u.2.2.2.1, u.2.2.2.2) ⟨hI.1, hI.2⟩ 177 ac e0 hac (vp_below he c_358 (by decide))) (cwV 3 hts gX0_perform_X0_performOnMemory rfl rfl rfl (by decide +kernel) ⟨by decide, by decide⟩) hK hP hD hS rfl hl.1 rfl (Nat.le_of_ble_eq_true rfl) dX0_perform_369 ⟨Nat.zero_le _, Nat.zero_le _⟩ (fun r_369 u_369 H locs q_369 hP hD hS => ?_)
      refine W.eq (g2 := F0 m 372 ls (.int r_369 :: [])) rfl ?_
      exact mm_iret (mw := wW h a cA) (u1 := (u_369.1, u_369.2.1, u_369.2.2.1, u_369.2.2.2.1, u_369.2.2.2.2)) hx hb hr hlocks hP hK hD hS dX0_perform_372 ⟨⟨q_369.1, q_369.2⟩, fun hz => absurd hz (by decide)⟩
    · refine lv_iconst (v := 2) hx hb dX0_perform_361 (by decide) ?_
      refine lv_goto (tgt := 372) hx hb dX0_perform_362 (by decide) ?_
      exact mm_iret (mw := wW h a cA) (u1 := (u.1, u.2.1, u.2.2.1, u.2.2.2.1, u.2.2.2.2)) hx hb hr hlocks hP hK hD hS dX0_perform_372 ⟨⟨hI.1, hI.2⟩, fun hz => absurd hz (by decide)⟩
  by_cases k_178 : op = 178
  · subst k_178
    refine lv_lookup (tgt := 354) hx hb dX0_perform_1 (by decide) rfl (by decide) ?_
    refine lv_iload_n hx hb dX0_perform_354 rfl (lv_at hl 3 rfl) ?_
    refine lv_sipush (v := 4096) hx hb dX0_perform_355 (by decide) ?_
    refine lv_icmp_lt (tgt := 365) hx hb dX0_perform_358 (by decide) (fun c_358 => ?_) (fun c_358 => ?_)
    · refine lv_aload_n hx hb dX0_perform_365 rfl (lv_at hl 0 rfl) ?_
      refine lv_iload_n hx hb dX0_perform_366 rfl (lv_at hl 1 rfl) ?_
      refine lv_iload_n hx hb dX0_perform_367 rfl (lv_at hl 2 rfl) ?_
      refine lv_iload_n hx hb dX0_perform_368 rfl (lv_at hl 3 rfl) ?_
      refine w_go (rv := rv_i) (As := [.int 178, .int ac, .int e0]) (rest := []) ⟨hx, hb, hml, hown, hts⟩ (kX0_performOnMemory l D h a cA (u.1, u.2.1, u.2.2.1, u.2.2.2.1, u.2.2.2.2) ⟨hI.1, hI.2⟩ 178 ac e0 hac (vp_below he c_358 (by decide))) (cwV 3 hts gX0_perform_X0_performOnMemory rfl rfl rfl (by decide +kernel) ⟨by decide, by decide⟩) hK hP hD hS rfl hl.1 rfl (Nat.le_of_ble_eq_true rfl) dX0_perform_369 ⟨Nat.zero_le _, Nat.zero_le _⟩ (fun r_369 u_369 H locs q_369 hP hD hS => ?_)
      refine W.eq (g2 := F0 m 372 ls (.int r_369 :: [])) rfl ?_
      exact mm_iret (mw := wW h a cA) (u1 := (u_369.1, u_369.2.1, u_369.2.2.1, u_369.2.2.2.1, u_369.2.2.2.2)) hx hb hr hlocks hP hK hD hS dX0_perform_372 ⟨⟨q_369.1, q_369.2⟩, fun hz => absurd hz (by decide)⟩
    · refine lv_iconst (v := 2) hx hb dX0_perform_361 (by decide) ?_
      refine lv_goto (tgt := 372) hx hb dX0_perform_362 (by decide) ?_
      exact mm_iret (mw := wW h a cA) (u1 := (u.1, u.2.1, u.2.2.1, u.2.2.2.1, u.2.2.2.2)) hx hb hr hlocks hP hK hD hS dX0_perform_372 ⟨⟨hI.1, hI.2⟩, fun hz => absurd hz (by decide)⟩
  by_cases k_179 : op = 179
  · subst k_179
    refine lv_lookup (tgt := 348) hx hb dX0_perform_1 (by decide) rfl (by decide) ?_
    refine lv_aload_n hx hb dX0_perform_348 rfl (lv_at hl 0 rfl) ?_
    refine lv_iload_n hx hb dX0_perform_349 rfl (lv_at hl 2 rfl) ?_
    refine w_go (rv := rv_i) (As := [.int ac]) (rest := []) ⟨hx, hb, hml, hown, hts⟩ (kX0_popToPc l D h a cA (u.1, u.2.1, u.2.2.1, u.2.2.2.1, u.2.2.2.2) ⟨hI.1, hI.2⟩ ac hac) (cwV 1 hts gX0_perform_X0_popToPc rfl rfl rfl (by decide +kernel) ⟨by decide, by decide⟩) hK hP hD hS rfl hl.1 rfl (Nat.le_of_ble_eq_true rfl) dX0_perform_350 ⟨Nat.zero_le _, Nat.zero_le _⟩ (fun r_350 u_350 H locs q_350 hP hD hS => ?_)
    refine W.eq (g2 := F0 m 353 ls (.int r_350 :: [])) rfl ?_
    exact mm_iret (mw := wW h a cA) (u1 := (u_350.1, u_350.2.1, u_350.2.2.1, u_350.2.2.2.1, u_350.2.2.2.2)) hx hb hr hlocks hP hK hD hS dX0_perform_353 ⟨⟨q_350.1, q_350.2⟩, fun hz => absurd hz (by decide)⟩
  by_cases k_180 : op = 180
  · subst k_180
    refine lv_lookup (tgt := 354) hx hb dX0_perform_1 (by decide) rfl (by decide) ?_
    refine lv_iload_n hx hb dX0_perform_354 rfl (lv_at hl 3 rfl) ?_
    refine lv_sipush (v := 4096) hx hb dX0_perform_355 (by decide) ?_
    refine lv_icmp_lt (tgt := 365) hx hb dX0_perform_358 (by decide) (fun c_358 => ?_) (fun c_358 => ?_)
    · refine lv_aload_n hx hb dX0_perform_365 rfl (lv_at hl 0 rfl) ?_
      refine lv_iload_n hx hb dX0_perform_366 rfl (lv_at hl 1 rfl) ?_
      refine lv_iload_n hx hb dX0_perform_367 rfl (lv_at hl 2 rfl) ?_
      refine lv_iload_n hx hb dX0_perform_368 rfl (lv_at hl 3 rfl) ?_
      refine w_go (rv := rv_i) (As := [.int 180, .int ac, .int e0]) (rest := []) ⟨hx, hb, hml, hown, hts⟩ (kX0_performOnMemory l D h a cA (u.1, u.2.1, u.2.2.1, u.2.2.2.1, u.2.2.2.2) ⟨hI.1, hI.2⟩ 180 ac e0 hac (vp_below he c_358 (by decide))) (cwV 3 hts gX0_perform_X0_performOnMemory rfl rfl rfl (by decide +kernel) ⟨by decide, by decide⟩) hK hP hD hS rfl hl.1 rfl (Nat.le_of_ble_eq_true rfl) dX0_perform_369 ⟨Nat.zero_le _, Nat.zero_le _⟩ (fun r_369 u_369 H locs q_369 hP hD hS => ?_)
      refine W.eq (g2 := F0 m 372 ls (.int r_369 :: [])) rfl ?_
      exact mm_iret (mw := wW h a cA) (u1 := (u_369.1, u_369.2.1, u_369.2.2.1, u_369.2.2.2.1, u_369.2.2.2.2)) hx hb hr hlocks hP hK hD hS dX0_perform_372 ⟨⟨q_369.1, q_369.2⟩, fun hz => absurd hz (by decide)⟩
    · refine lv_iconst (v := 2) hx hb dX0_perform_361 (by decide) ?_
      refine lv_goto (tgt := 372) hx hb dX0_perform_362 (by decide) ?_
      exact mm_iret (mw := wW h a cA) (u1 := (u.1, u.2.1, u.2.2.1, u.2.2.2.1, u.2.2.2.2)) hx hb hr hlocks hP hK hD hS dX0_perform_372 ⟨⟨hI.1, hI.2⟩, fun hz => absurd hz (by decide)⟩
  by_cases k_184 : op = 184
  · subst k_184
    refine lv_lookup (tgt := 354) hx hb dX0_perform_1 (by decide) rfl (by decide) ?_
    refine lv_iload_n hx hb dX0_perform_354 rfl (lv_at hl 3 rfl) ?_
    refine lv_sipush (v := 4096) hx hb dX0_perform_355 (by decide) ?_
    refine lv_icmp_lt (tgt := 365) hx hb dX0_perform_358 (by decide) (fun c_358 => ?_) (fun c_358 => ?_)
    · refine lv_aload_n hx hb dX0_perform_365 rfl (lv_at hl 0 rfl) ?_
      refine lv_iload_n hx hb dX0_perform_366 rfl (lv_at hl 1 rfl) ?_
      refine lv_iload_n hx hb dX0_perform_367 rfl (lv_at hl 2 rfl) ?_
      refine lv_iload_n hx hb dX0_perform_368 rfl (lv_at hl 3 rfl) ?_
      refine w_go (rv := rv_i) (As := [.int 184, .int ac, .int e0]) (rest := []) ⟨hx, hb, hml, hown, hts⟩ (kX0_performOnMemory l D h a cA (u.1, u.2.1, u.2.2.1, u.2.2.2.1, u.2.2.2.2) ⟨hI.1, hI.2⟩ 184 ac e0 hac (vp_below he c_358 (by decide))) (cwV 3 hts gX0_perform_X0_performOnMemory rfl rfl rfl (by decide +kernel) ⟨by decide, by decide⟩) hK hP hD hS rfl hl.1 rfl (Nat.le_of_ble_eq_true rfl) dX0_perform_369 ⟨Nat.zero_le _, Nat.zero_le _⟩ (fun r_369 u_369 H locs q_369 hP hD hS => ?_)
      refine W.eq (g2 := F0 m 372 ls (.int r_369 :: [])) rfl ?_
      exact mm_iret (mw := wW h a cA) (u1 := (u_369.1, u_369.2.1, u_369.2.2.1, u_369.2.2.2.1, u_369.2.2.2.2)) hx hb hr hlocks hP hK hD hS dX0_perform_372 ⟨⟨q_369.1, q_369.2⟩, fun hz => absurd hz (by decide)⟩
    · refine lv_iconst (v := 2) hx hb dX0_perform_361 (by decide) ?_
      refine lv_goto (tgt := 372) hx hb dX0_perform_362 (by decide) ?_
      exact mm_iret (mw := wW h a cA) (u1 := (u.1, u.2.1, u.2.2.1, u.2.2.2.1, u.2.2.2.2)) hx hb hr hlocks hP hK hD hS dX0_perform_372 ⟨⟨hI.1, hI.2⟩, fun hz => absurd hz (by decide)⟩
  by_cases k_185 : op = 185
  · subst k_185
    refine lv_lookup (tgt := 318) hx hb dX0_perform_1 (by decide) rfl (by decide) ?_
    refine lv_aload_n hx hb dX0_perform_318 rfl (lv_at hl 0 rfl) ?_
    refine lv_iload_n hx hb dX0_perform_319 rfl (lv_at hl 1 rfl) ?_
    refine lv_iload_n hx hb dX0_perform_320 rfl (lv_at hl 2 rfl) ?_
    refine lv_iload_n hx hb dX0_perform_321 rfl (lv_at hl 3 rfl) ?_
    refine lv_i2l hx hb dX0_perform_322 rfl ?_
    refine w_go (rv := rv_i) (As := [.int 185, .int ac, .long ((e0 : Int32).toInt64)]) (rest := []) ⟨hx, hb, hml, hown, hts⟩ (kX0_combine l D h a cA (u.1, u.2.1, u.2.2.1, u.2.2.2.1, u.2.2.2.2) ⟨hI.1, hI.2⟩ 185 ac ((e0 : Int32).toInt64) hac) (cwV 3 hts gX0_perform_X0_combine rfl rfl rfl (by decide +kernel) ⟨by decide, by decide⟩) hK hP hD hS rfl hl.1 rfl (Nat.le_of_ble_eq_true rfl) dX0_perform_323 ⟨Nat.zero_le _, Nat.zero_le _⟩ (fun r_323 u_323 H locs q_323 hP hD hS => ?_)
    refine W.eq (g2 := F0 m 326 ls (.int r_323 :: [])) rfl ?_
    exact mm_iret (mw := wW h a cA) (u1 := (u_323.1, u_323.2.1, u_323.2.2.1, u_323.2.2.2.1, u_323.2.2.2.2)) hx hb hr hlocks hP hK hD hS dX0_perform_326 ⟨⟨q_323.1, q_323.2⟩, fun hz => absurd hz (by decide)⟩
  by_cases k_188 : op = 188
  · subst k_188
    refine lv_lookup (tgt := 354) hx hb dX0_perform_1 (by decide) rfl (by decide) ?_
    refine lv_iload_n hx hb dX0_perform_354 rfl (lv_at hl 3 rfl) ?_
    refine lv_sipush (v := 4096) hx hb dX0_perform_355 (by decide) ?_
    refine lv_icmp_lt (tgt := 365) hx hb dX0_perform_358 (by decide) (fun c_358 => ?_) (fun c_358 => ?_)
    · refine lv_aload_n hx hb dX0_perform_365 rfl (lv_at hl 0 rfl) ?_
      refine lv_iload_n hx hb dX0_perform_366 rfl (lv_at hl 1 rfl) ?_
      refine lv_iload_n hx hb dX0_perform_367 rfl (lv_at hl 2 rfl) ?_
      refine lv_iload_n hx hb dX0_perform_368 rfl (lv_at hl 3 rfl) ?_
      refine w_go (rv := rv_i) (As := [.int 188, .int ac, .int e0]) (rest := []) ⟨hx, hb, hml, hown, hts⟩ (kX0_performOnMemory l D h a cA (u.1, u.2.1, u.2.2.1, u.2.2.2.1, u.2.2.2.2) ⟨hI.1, hI.2⟩ 188 ac e0 hac (vp_below he c_358 (by decide))) (cwV 3 hts gX0_perform_X0_performOnMemory rfl rfl rfl (by decide +kernel) ⟨by decide, by decide⟩) hK hP hD hS rfl hl.1 rfl (Nat.le_of_ble_eq_true rfl) dX0_perform_369 ⟨Nat.zero_le _, Nat.zero_le _⟩ (fun r_369 u_369 H locs q_369 hP hD hS => ?_)
      refine W.eq (g2 := F0 m 372 ls (.int r_369 :: [])) rfl ?_
      exact mm_iret (mw := wW h a cA) (u1 := (u_369.1, u_369.2.1, u_369.2.2.1, u_369.2.2.2.1, u_369.2.2.2.2)) hx hb hr hlocks hP hK hD hS dX0_perform_372 ⟨⟨q_369.1, q_369.2⟩, fun hz => absurd hz (by decide)⟩
    · refine lv_iconst (v := 2) hx hb dX0_perform_361 (by decide) ?_
      refine lv_goto (tgt := 372) hx hb dX0_perform_362 (by decide) ?_
      exact mm_iret (mw := wW h a cA) (u1 := (u.1, u.2.1, u.2.2.1, u.2.2.2.1, u.2.2.2.2)) hx hb hr hlocks hP hK hD hS dX0_perform_372 ⟨⟨hI.1, hI.2⟩, fun hz => absurd hz (by decide)⟩
  by_cases k_189 : op = 189
  · subst k_189
    refine lv_lookup (tgt := 318) hx hb dX0_perform_1 (by decide) rfl (by decide) ?_
    refine lv_aload_n hx hb dX0_perform_318 rfl (lv_at hl 0 rfl) ?_
    refine lv_iload_n hx hb dX0_perform_319 rfl (lv_at hl 1 rfl) ?_
    refine lv_iload_n hx hb dX0_perform_320 rfl (lv_at hl 2 rfl) ?_
    refine lv_iload_n hx hb dX0_perform_321 rfl (lv_at hl 3 rfl) ?_
    refine lv_i2l hx hb dX0_perform_322 rfl ?_
    refine w_go (rv := rv_i) (As := [.int 189, .int ac, .long ((e0 : Int32).toInt64)]) (rest := []) ⟨hx, hb, hml, hown, hts⟩ (kX0_combine l D h a cA (u.1, u.2.1, u.2.2.1, u.2.2.2.1, u.2.2.2.2) ⟨hI.1, hI.2⟩ 189 ac ((e0 : Int32).toInt64) hac) (cwV 3 hts gX0_perform_X0_combine rfl rfl rfl (by decide +kernel) ⟨by decide, by decide⟩) hK hP hD hS rfl hl.1 rfl (Nat.le_of_ble_eq_true rfl) dX0_perform_323 ⟨Nat.zero_le _, Nat.zero_le _⟩ (fun r_323 u_323 H locs q_323 hP hD hS => ?_)
    refine W.eq (g2 := F0 m 326 ls (.int r_323 :: [])) rfl ?_
    exact mm_iret (mw := wW h a cA) (u1 := (u_323.1, u_323.2.1, u_323.2.2.1, u_323.2.2.2.1, u_323.2.2.2.2)) hx hb hr hlocks hP hK hD hS dX0_perform_326 ⟨⟨q_323.1, q_323.2⟩, fun hz => absurd hz (by decide)⟩
  by_cases k_256 : op = 256
  · subst k_256
    refine lv_lookup (tgt := 318) hx hb dX0_perform_1 (by decide) rfl (by decide) ?_
    refine lv_aload_n hx hb dX0_perform_318 rfl (lv_at hl 0 rfl) ?_
    refine lv_iload_n hx hb dX0_perform_319 rfl (lv_at hl 1 rfl) ?_
    refine lv_iload_n hx hb dX0_perform_320 rfl (lv_at hl 2 rfl) ?_
    refine lv_iload_n hx hb dX0_perform_321 rfl (lv_at hl 3 rfl) ?_
    refine lv_i2l hx hb dX0_perform_322 rfl ?_
    refine w_go (rv := rv_i) (As := [.int 256, .int ac, .long ((e0 : Int32).toInt64)]) (rest := []) ⟨hx, hb, hml, hown, hts⟩ (kX0_combine l D h a cA (u.1, u.2.1, u.2.2.1, u.2.2.2.1, u.2.2.2.2) ⟨hI.1, hI.2⟩ 256 ac ((e0 : Int32).toInt64) hac) (cwV 3 hts gX0_perform_X0_combine rfl rfl rfl (by decide +kernel) ⟨by decide, by decide⟩) hK hP hD hS rfl hl.1 rfl (Nat.le_of_ble_eq_true rfl) dX0_perform_323 ⟨Nat.zero_le _, Nat.zero_le _⟩ (fun r_323 u_323 H locs q_323 hP hD hS => ?_)
    refine W.eq (g2 := F0 m 326 ls (.int r_323 :: [])) rfl ?_
    exact mm_iret (mw := wW h a cA) (u1 := (u_323.1, u_323.2.1, u_323.2.2.1, u_323.2.2.2.1, u_323.2.2.2.2)) hx hb hr hlocks hP hK hD hS dX0_perform_326 ⟨⟨q_323.1, q_323.2⟩, fun hz => absurd hz (by decide)⟩
  by_cases k_258 : op = 258
  · subst k_258
    refine lv_lookup (tgt := 354) hx hb dX0_perform_1 (by decide) rfl (by decide) ?_
    refine lv_iload_n hx hb dX0_perform_354 rfl (lv_at hl 3 rfl) ?_
    refine lv_sipush (v := 4096) hx hb dX0_perform_355 (by decide) ?_
    refine lv_icmp_lt (tgt := 365) hx hb dX0_perform_358 (by decide) (fun c_358 => ?_) (fun c_358 => ?_)
    · refine lv_aload_n hx hb dX0_perform_365 rfl (lv_at hl 0 rfl) ?_
      refine lv_iload_n hx hb dX0_perform_366 rfl (lv_at hl 1 rfl) ?_
      refine lv_iload_n hx hb dX0_perform_367 rfl (lv_at hl 2 rfl) ?_
      refine lv_iload_n hx hb dX0_perform_368 rfl (lv_at hl 3 rfl) ?_
      refine w_go (rv := rv_i) (As := [.int 258, .int ac, .int e0]) (rest := []) ⟨hx, hb, hml, hown, hts⟩ (kX0_performOnMemory l D h a cA (u.1, u.2.1, u.2.2.1, u.2.2.2.1, u.2.2.2.2) ⟨hI.1, hI.2⟩ 258 ac e0 hac (vp_below he c_358 (by decide))) (cwV 3 hts gX0_perform_X0_performOnMemory rfl rfl rfl (by decide +kernel) ⟨by decide, by decide⟩) hK hP hD hS rfl hl.1 rfl (Nat.le_of_ble_eq_true rfl) dX0_perform_369 ⟨Nat.zero_le _, Nat.zero_le _⟩ (fun r_369 u_369 H locs q_369 hP hD hS => ?_)
      refine W.eq (g2 := F0 m 372 ls (.int r_369 :: [])) rfl ?_
      exact mm_iret (mw := wW h a cA) (u1 := (u_369.1, u_369.2.1, u_369.2.2.1, u_369.2.2.2.1, u_369.2.2.2.2)) hx hb hr hlocks hP hK hD hS dX0_perform_372 ⟨⟨q_369.1, q_369.2⟩, fun hz => absurd hz (by decide)⟩
    · refine lv_iconst (v := 2) hx hb dX0_perform_361 (by decide) ?_
      refine lv_goto (tgt := 372) hx hb dX0_perform_362 (by decide) ?_
      exact mm_iret (mw := wW h a cA) (u1 := (u.1, u.2.1, u.2.2.1, u.2.2.2.1, u.2.2.2.2)) hx hb hr hlocks hP hK hD hS dX0_perform_372 ⟨⟨hI.1, hI.2⟩, fun hz => absurd hz (by decide)⟩
  by_cases k_260 : op = 260
  · subst k_260
    refine lv_lookup (tgt := 354) hx hb dX0_perform_1 (by decide) rfl (by decide) ?_
    refine lv_iload_n hx hb dX0_perform_354 rfl (lv_at hl 3 rfl) ?_
    refine lv_sipush (v := 4096) hx hb dX0_perform_355 (by decide) ?_
    refine lv_icmp_lt (tgt := 365) hx hb dX0_perform_358 (by decide) (fun c_358 => ?_) (fun c_358 => ?_)
    · refine lv_aload_n hx hb dX0_perform_365 rfl (lv_at hl 0 rfl) ?_
      refine lv_iload_n hx hb dX0_perform_366 rfl (lv_at hl 1 rfl) ?_
      refine lv_iload_n hx hb dX0_perform_367 rfl (lv_at hl 2 rfl) ?_
      refine lv_iload_n hx hb dX0_perform_368 rfl (lv_at hl 3 rfl) ?_
      refine w_go (rv := rv_i) (As := [.int 260, .int ac, .int e0]) (rest := []) ⟨hx, hb, hml, hown, hts⟩ (kX0_performOnMemory l D h a cA (u.1, u.2.1, u.2.2.1, u.2.2.2.1, u.2.2.2.2) ⟨hI.1, hI.2⟩ 260 ac e0 hac (vp_below he c_358 (by decide))) (cwV 3 hts gX0_perform_X0_performOnMemory rfl rfl rfl (by decide +kernel) ⟨by decide, by decide⟩) hK hP hD hS rfl hl.1 rfl (Nat.le_of_ble_eq_true rfl) dX0_perform_369 ⟨Nat.zero_le _, Nat.zero_le _⟩ (fun r_369 u_369 H locs q_369 hP hD hS => ?_)
      refine W.eq (g2 := F0 m 372 ls (.int r_369 :: [])) rfl ?_
      exact mm_iret (mw := wW h a cA) (u1 := (u_369.1, u_369.2.1, u_369.2.2.1, u_369.2.2.2.1, u_369.2.2.2.2)) hx hb hr hlocks hP hK hD hS dX0_perform_372 ⟨⟨q_369.1, q_369.2⟩, fun hz => absurd hz (by decide)⟩
    · refine lv_iconst (v := 2) hx hb dX0_perform_361 (by decide) ?_
      refine lv_goto (tgt := 372) hx hb dX0_perform_362 (by decide) ?_
      exact mm_iret (mw := wW h a cA) (u1 := (u.1, u.2.1, u.2.2.1, u.2.2.2.1, u.2.2.2.2)) hx hb hr hlocks hP hK hD hS dX0_perform_372 ⟨⟨hI.1, hI.2⟩, fun hz => absurd hz (by decide)⟩
  by_cases k_261 : op = 261
  · subst k_261
    refine lv_lookup (tgt := 318) hx hb dX0_perform_1 (by decide) rfl (by decide) ?_
    refine lv_aload_n hx hb dX0_perform_318 rfl (lv_at hl 0 rfl) ?_
    refine lv_iload_n hx hb dX0_perform_319 rfl (lv_at hl 1 rfl) ?_
    refine lv_iload_n hx hb dX0_perform_320 rfl (lv_at hl 2 rfl) ?_
    refine lv_iload_n hx hb dX0_perform_321 rfl (lv_at hl 3 rfl) ?_
    refine lv_i2l hx hb dX0_perform_322 rfl ?_
    refine w_go (rv := rv_i) (As := [.int 261, .int ac, .long ((e0 : Int32).toInt64)]) (rest := []) ⟨hx, hb, hml, hown, hts⟩ (kX0_combine l D h a cA (u.1, u.2.1, u.2.2.1, u.2.2.2.1, u.2.2.2.2) ⟨hI.1, hI.2⟩ 261 ac ((e0 : Int32).toInt64) hac) (cwV 3 hts gX0_perform_X0_combine rfl rfl rfl (by decide +kernel) ⟨by decide, by decide⟩) hK hP hD hS rfl hl.1 rfl (Nat.le_of_ble_eq_true rfl) dX0_perform_323 ⟨Nat.zero_le _, Nat.zero_le _⟩ (fun r_323 u_323 H locs q_323 hP hD hS => ?_)
    refine W.eq (g2 := F0 m 326 ls (.int r_323 :: [])) rfl ?_
    exact mm_iret (mw := wW h a cA) (u1 := (u_323.1, u_323.2.1, u_323.2.2.1, u_323.2.2.2.1, u_323.2.2.2.2)) hx hb hr hlocks hP hK hD hS dX0_perform_326 ⟨⟨q_323.1, q_323.2⟩, fun hz => absurd hz (by decide)⟩
  by_cases k_280 : op = 280
  · subst k_280
    refine lv_lookup (tgt := 354) hx hb dX0_perform_1 (by decide) rfl (by decide) ?_
    refine lv_iload_n hx hb dX0_perform_354 rfl (lv_at hl 3 rfl) ?_
    refine lv_sipush (v := 4096) hx hb dX0_perform_355 (by decide) ?_
    refine lv_icmp_lt (tgt := 365) hx hb dX0_perform_358 (by decide) (fun c_358 => ?_) (fun c_358 => ?_)
    · refine lv_aload_n hx hb dX0_perform_365 rfl (lv_at hl 0 rfl) ?_
      refine lv_iload_n hx hb dX0_perform_366 rfl (lv_at hl 1 rfl) ?_
      refine lv_iload_n hx hb dX0_perform_367 rfl (lv_at hl 2 rfl) ?_
      refine lv_iload_n hx hb dX0_perform_368 rfl (lv_at hl 3 rfl) ?_
      refine w_go (rv := rv_i) (As := [.int 280, .int ac, .int e0]) (rest := []) ⟨hx, hb, hml, hown, hts⟩ (kX0_performOnMemory l D h a cA (u.1, u.2.1, u.2.2.1, u.2.2.2.1, u.2.2.2.2) ⟨hI.1, hI.2⟩ 280 ac e0 hac (vp_below he c_358 (by decide))) (cwV 3 hts gX0_perform_X0_performOnMemory rfl rfl rfl (by decide +kernel) ⟨by decide, by decide⟩) hK hP hD hS rfl hl.1 rfl (Nat.le_of_ble_eq_true rfl) dX0_perform_369 ⟨Nat.zero_le _, Nat.zero_le _⟩ (fun r_369 u_369 H locs q_369 hP hD hS => ?_)
      refine W.eq (g2 := F0 m 372 ls (.int r_369 :: [])) rfl ?_
      exact mm_iret (mw := wW h a cA) (u1 := (u_369.1, u_369.2.1, u_369.2.2.1, u_369.2.2.2.1, u_369.2.2.2.2)) hx hb hr hlocks hP hK hD hS dX0_perform_372 ⟨⟨q_369.1, q_369.2⟩, fun hz => absurd hz (by decide)⟩
    · refine lv_iconst (v := 2) hx hb dX0_perform_361 (by decide) ?_
      refine lv_goto (tgt := 372) hx hb dX0_perform_362 (by decide) ?_
      exact mm_iret (mw := wW h a cA) (u1 := (u.1, u.2.1, u.2.2.1, u.2.2.2.1, u.2.2.2.2)) hx hb hr hlocks hP hK hD hS dX0_perform_372 ⟨⟨hI.1, hI.2⟩, fun hz => absurd hz (by decide)⟩
  by_cases k_281 : op = 281
  · subst k_281
    refine lv_lookup (tgt := 318) hx hb dX0_perform_1 (by decide) rfl (by decide) ?_
    refine lv_aload_n hx hb dX0_perform_318 rfl (lv_at hl 0 rfl) ?_
    refine lv_iload_n hx hb dX0_perform_319 rfl (lv_at hl 1 rfl) ?_
    refine lv_iload_n hx hb dX0_perform_320 rfl (lv_at hl 2 rfl) ?_
    refine lv_iload_n hx hb dX0_perform_321 rfl (lv_at hl 3 rfl) ?_
    refine lv_i2l hx hb dX0_perform_322 rfl ?_
    refine w_go (rv := rv_i) (As := [.int 281, .int ac, .long ((e0 : Int32).toInt64)]) (rest := []) ⟨hx, hb, hml, hown, hts⟩ (kX0_combine l D h a cA (u.1, u.2.1, u.2.2.1, u.2.2.2.1, u.2.2.2.2) ⟨hI.1, hI.2⟩ 281 ac ((e0 : Int32).toInt64) hac) (cwV 3 hts gX0_perform_X0_combine rfl rfl rfl (by decide +kernel) ⟨by decide, by decide⟩) hK hP hD hS rfl hl.1 rfl (Nat.le_of_ble_eq_true rfl) dX0_perform_323 ⟨Nat.zero_le _, Nat.zero_le _⟩ (fun r_323 u_323 H locs q_323 hP hD hS => ?_)
    refine W.eq (g2 := F0 m 326 ls (.int r_323 :: [])) rfl ?_
    exact mm_iret (mw := wW h a cA) (u1 := (u_323.1, u_323.2.1, u_323.2.2.1, u_323.2.2.2.1, u_323.2.2.2.2)) hx hb hr hlocks hP hK hD hS dX0_perform_326 ⟨⟨q_323.1, q_323.2⟩, fun hz => absurd hz (by decide)⟩
  by_cases k_284 : op = 284
  · subst k_284
    refine lv_lookup (tgt := 354) hx hb dX0_perform_1 (by decide) rfl (by decide) ?_
    refine lv_iload_n hx hb dX0_perform_354 rfl (lv_at hl 3 rfl) ?_
    refine lv_sipush (v := 4096) hx hb dX0_perform_355 (by decide) ?_
    refine lv_icmp_lt (tgt := 365) hx hb dX0_perform_358 (by decide) (fun c_358 => ?_) (fun c_358 => ?_)
    · refine lv_aload_n hx hb dX0_perform_365 rfl (lv_at hl 0 rfl) ?_
      refine lv_iload_n hx hb dX0_perform_366 rfl (lv_at hl 1 rfl) ?_
      refine lv_iload_n hx hb dX0_perform_367 rfl (lv_at hl 2 rfl) ?_
      refine lv_iload_n hx hb dX0_perform_368 rfl (lv_at hl 3 rfl) ?_
      refine w_go (rv := rv_i) (As := [.int 284, .int ac, .int e0]) (rest := []) ⟨hx, hb, hml, hown, hts⟩ (kX0_performOnMemory l D h a cA (u.1, u.2.1, u.2.2.1, u.2.2.2.1, u.2.2.2.2) ⟨hI.1, hI.2⟩ 284 ac e0 hac (vp_below he c_358 (by decide))) (cwV 3 hts gX0_perform_X0_performOnMemory rfl rfl rfl (by decide +kernel) ⟨by decide, by decide⟩) hK hP hD hS rfl hl.1 rfl (Nat.le_of_ble_eq_true rfl) dX0_perform_369 ⟨Nat.zero_le _, Nat.zero_le _⟩ (fun r_369 u_369 H locs q_369 hP hD hS => ?_)
      refine W.eq (g2 := F0 m 372 ls (.int r_369 :: [])) rfl ?_
      exact mm_iret (mw := wW h a cA) (u1 := (u_369.1, u_369.2.1, u_369.2.2.1, u_369.2.2.2.1, u_369.2.2.2.2)) hx hb hr hlocks hP hK hD hS dX0_perform_372 ⟨⟨q_369.1, q_369.2⟩, fun hz => absurd hz (by decide)⟩
    · refine lv_iconst (v := 2) hx hb dX0_perform_361 (by decide) ?_
      refine lv_goto (tgt := 372) hx hb dX0_perform_362 (by decide) ?_
      exact mm_iret (mw := wW h a cA) (u1 := (u.1, u.2.1, u.2.2.1, u.2.2.2.1, u.2.2.2.2)) hx hb hr hlocks hP hK hD hS dX0_perform_372 ⟨⟨hI.1, hI.2⟩, fun hz => absurd hz (by decide)⟩
  by_cases k_285 : op = 285
  · subst k_285
    refine lv_lookup (tgt := 318) hx hb dX0_perform_1 (by decide) rfl (by decide) ?_
    refine lv_aload_n hx hb dX0_perform_318 rfl (lv_at hl 0 rfl) ?_
    refine lv_iload_n hx hb dX0_perform_319 rfl (lv_at hl 1 rfl) ?_
    refine lv_iload_n hx hb dX0_perform_320 rfl (lv_at hl 2 rfl) ?_
    refine lv_iload_n hx hb dX0_perform_321 rfl (lv_at hl 3 rfl) ?_
    refine lv_i2l hx hb dX0_perform_322 rfl ?_
    refine w_go (rv := rv_i) (As := [.int 285, .int ac, .long ((e0 : Int32).toInt64)]) (rest := []) ⟨hx, hb, hml, hown, hts⟩ (kX0_combine l D h a cA (u.1, u.2.1, u.2.2.1, u.2.2.2.1, u.2.2.2.2) ⟨hI.1, hI.2⟩ 285 ac ((e0 : Int32).toInt64) hac) (cwV 3 hts gX0_perform_X0_combine rfl rfl rfl (by decide +kernel) ⟨by decide, by decide⟩) hK hP hD hS rfl hl.1 rfl (Nat.le_of_ble_eq_true rfl) dX0_perform_323 ⟨Nat.zero_le _, Nat.zero_le _⟩ (fun r_323 u_323 H locs q_323 hP hD hS => ?_)
    refine W.eq (g2 := F0 m 326 ls (.int r_323 :: [])) rfl ?_
    exact mm_iret (mw := wW h a cA) (u1 := (u_323.1, u_323.2.1, u_323.2.2.1, u_323.2.2.2.1, u_323.2.2.2.2)) hx hb hr hlocks hP hK hD hS dX0_perform_326 ⟨⟨q_323.1, q_323.2⟩, fun hz => absurd hz (by decide)⟩
  by_cases k_296 : op = 296
  · subst k_296
    refine lv_lookup (tgt := 318) hx hb dX0_perform_1 (by decide) rfl (by decide) ?_
    refine lv_aload_n hx hb dX0_perform_318 rfl (lv_at hl 0 rfl) ?_
    refine lv_iload_n hx hb dX0_perform_319 rfl (lv_at hl 1 rfl) ?_
    refine lv_iload_n hx hb dX0_perform_320 rfl (lv_at hl 2 rfl) ?_
    refine lv_iload_n hx hb dX0_perform_321 rfl (lv_at hl 3 rfl) ?_
    refine lv_i2l hx hb dX0_perform_322 rfl ?_
    refine w_go (rv := rv_i) (As := [.int 296, .int ac, .long ((e0 : Int32).toInt64)]) (rest := []) ⟨hx, hb, hml, hown, hts⟩ (kX0_combine l D h a cA (u.1, u.2.1, u.2.2.1, u.2.2.2.1, u.2.2.2.2) ⟨hI.1, hI.2⟩ 296 ac ((e0 : Int32).toInt64) hac) (cwV 3 hts gX0_perform_X0_combine rfl rfl rfl (by decide +kernel) ⟨by decide, by decide⟩) hK hP hD hS rfl hl.1 rfl (Nat.le_of_ble_eq_true rfl) dX0_perform_323 ⟨Nat.zero_le _, Nat.zero_le _⟩ (fun r_323 u_323 H locs q_323 hP hD hS => ?_)
    refine W.eq (g2 := F0 m 326 ls (.int r_323 :: [])) rfl ?_
    exact mm_iret (mw := wW h a cA) (u1 := (u_323.1, u_323.2.1, u_323.2.2.1, u_323.2.2.2.1, u_323.2.2.2.2)) hx hb hr hlocks hP hK hD hS dX0_perform_326 ⟨⟨q_323.1, q_323.2⟩, fun hz => absurd hz (by decide)⟩
  by_cases k_320 : op = 320
  · subst k_320
    refine lv_lookup (tgt := 354) hx hb dX0_perform_1 (by decide) rfl (by decide) ?_
    refine lv_iload_n hx hb dX0_perform_354 rfl (lv_at hl 3 rfl) ?_
    refine lv_sipush (v := 4096) hx hb dX0_perform_355 (by decide) ?_
    refine lv_icmp_lt (tgt := 365) hx hb dX0_perform_358 (by decide) (fun c_358 => ?_) (fun c_358 => ?_)
    · refine lv_aload_n hx hb dX0_perform_365 rfl (lv_at hl 0 rfl) ?_
      refine lv_iload_n hx hb dX0_perform_366 rfl (lv_at hl 1 rfl) ?_
      refine lv_iload_n hx hb dX0_perform_367 rfl (lv_at hl 2 rfl) ?_
      refine lv_iload_n hx hb dX0_perform_368 rfl (lv_at hl 3 rfl) ?_
      refine w_go (rv := rv_i) (As := [.int 320, .int ac, .int e0]) (rest := []) ⟨hx, hb, hml, hown, hts⟩ (kX0_performOnMemory l D h a cA (u.1, u.2.1, u.2.2.1, u.2.2.2.1, u.2.2.2.2) ⟨hI.1, hI.2⟩ 320 ac e0 hac (vp_below he c_358 (by decide))) (cwV 3 hts gX0_perform_X0_performOnMemory rfl rfl rfl (by decide +kernel) ⟨by decide, by decide⟩) hK hP hD hS rfl hl.1 rfl (Nat.le_of_ble_eq_true rfl) dX0_perform_369 ⟨Nat.zero_le _, Nat.zero_le _⟩ (fun r_369 u_369 H locs q_369 hP hD hS => ?_)
      refine W.eq (g2 := F0 m 372 ls (.int r_369 :: [])) rfl ?_
      exact mm_iret (mw := wW h a cA) (u1 := (u_369.1, u_369.2.1, u_369.2.2.1, u_369.2.2.2.1, u_369.2.2.2.2)) hx hb hr hlocks hP hK hD hS dX0_perform_372 ⟨⟨q_369.1, q_369.2⟩, fun hz => absurd hz (by decide)⟩
    · refine lv_iconst (v := 2) hx hb dX0_perform_361 (by decide) ?_
      refine lv_goto (tgt := 372) hx hb dX0_perform_362 (by decide) ?_
      exact mm_iret (mw := wW h a cA) (u1 := (u.1, u.2.1, u.2.2.1, u.2.2.2.1, u.2.2.2.2)) hx hb hr hlocks hP hK hD hS dX0_perform_372 ⟨⟨hI.1, hI.2⟩, fun hz => absurd hz (by decide)⟩
  by_cases k_324 : op = 324
  · subst k_324
    refine lv_lookup (tgt := 354) hx hb dX0_perform_1 (by decide) rfl (by decide) ?_
    refine lv_iload_n hx hb dX0_perform_354 rfl (lv_at hl 3 rfl) ?_
    refine lv_sipush (v := 4096) hx hb dX0_perform_355 (by decide) ?_
    refine lv_icmp_lt (tgt := 365) hx hb dX0_perform_358 (by decide) (fun c_358 => ?_) (fun c_358 => ?_)
    · refine lv_aload_n hx hb dX0_perform_365 rfl (lv_at hl 0 rfl) ?_
      refine lv_iload_n hx hb dX0_perform_366 rfl (lv_at hl 1 rfl) ?_
      refine lv_iload_n hx hb dX0_perform_367 rfl (lv_at hl 2 rfl) ?_
      refine lv_iload_n hx hb dX0_perform_368 rfl (lv_at hl 3 rfl) ?_
      refine w_go (rv := rv_i) (As := [.int 324, .int ac, .int e0]) (rest := []) ⟨hx, hb, hml, hown, hts⟩ (kX0_performOnMemory l D h a cA (u.1, u.2.1, u.2.2.1, u.2.2.2.1, u.2.2.2.2) ⟨hI.1, hI.2⟩ 324 ac e0 hac (vp_below he c_358 (by decide))) (cwV 3 hts gX0_perform_X0_performOnMemory rfl rfl rfl (by decide +kernel) ⟨by decide, by decide⟩) hK hP hD hS rfl hl.1 rfl (Nat.le_of_ble_eq_true rfl) dX0_perform_369 ⟨Nat.zero_le _, Nat.zero_le _⟩ (fun r_369 u_369 H locs q_369 hP hD hS => ?_)
      refine W.eq (g2 := F0 m 372 ls (.int r_369 :: [])) rfl ?_
      exact mm_iret (mw := wW h a cA) (u1 := (u_369.1, u_369.2.1, u_369.2.2.1, u_369.2.2.2.1, u_369.2.2.2.2)) hx hb hr hlocks hP hK hD hS dX0_perform_372 ⟨⟨q_369.1, q_369.2⟩, fun hz => absurd hz (by decide)⟩
    · refine lv_iconst (v := 2) hx hb dX0_perform_361 (by decide) ?_
      refine lv_goto (tgt := 372) hx hb dX0_perform_362 (by decide) ?_
      exact mm_iret (mw := wW h a cA) (u1 := (u.1, u.2.1, u.2.2.1, u.2.2.2.1, u.2.2.2.2)) hx hb hr hlocks hP hK hD hS dX0_perform_372 ⟨⟨hI.1, hI.2⟩, fun hz => absurd hz (by decide)⟩
  by_cases k_352 : op = 352
  · subst k_352
    refine lv_lookup (tgt := 354) hx hb dX0_perform_1 (by decide) rfl (by decide) ?_
    refine lv_iload_n hx hb dX0_perform_354 rfl (lv_at hl 3 rfl) ?_
    refine lv_sipush (v := 4096) hx hb dX0_perform_355 (by decide) ?_
    refine lv_icmp_lt (tgt := 365) hx hb dX0_perform_358 (by decide) (fun c_358 => ?_) (fun c_358 => ?_)
    · refine lv_aload_n hx hb dX0_perform_365 rfl (lv_at hl 0 rfl) ?_
      refine lv_iload_n hx hb dX0_perform_366 rfl (lv_at hl 1 rfl) ?_
      refine lv_iload_n hx hb dX0_perform_367 rfl (lv_at hl 2 rfl) ?_
      refine lv_iload_n hx hb dX0_perform_368 rfl (lv_at hl 3 rfl) ?_
      refine w_go (rv := rv_i) (As := [.int 352, .int ac, .int e0]) (rest := []) ⟨hx, hb, hml, hown, hts⟩ (kX0_performOnMemory l D h a cA (u.1, u.2.1, u.2.2.1, u.2.2.2.1, u.2.2.2.2) ⟨hI.1, hI.2⟩ 352 ac e0 hac (vp_below he c_358 (by decide))) (cwV 3 hts gX0_perform_X0_performOnMemory rfl rfl rfl (by decide +kernel) ⟨by decide, by decide⟩) hK hP hD hS rfl hl.1 rfl (Nat.le_of_ble_eq_true rfl) dX0_perform_369 ⟨Nat.zero_le _, Nat.zero_le _⟩ (fun r_369 u_369 H locs q_369 hP hD hS => ?_)
      refine W.eq (g2 := F0 m 372 ls (.int r_369 :: [])) rfl ?_
      exact mm_iret (mw := wW h a cA) (u1 := (u_369.1, u_369.2.1, u_369.2.2.1, u_369.2.2.2.1, u_369.2.2.2.2)) hx hb hr hlocks hP hK hD hS dX0_perform_372 ⟨⟨q_369.1, q_369.2⟩, fun hz => absurd hz (by decide)⟩
    · refine lv_iconst (v := 2) hx hb dX0_perform_361 (by decide) ?_
      refine lv_goto (tgt := 372) hx hb dX0_perform_362 (by decide) ?_
      exact mm_iret (mw := wW h a cA) (u1 := (u.1, u.2.1, u.2.2.1, u.2.2.2.1, u.2.2.2.2)) hx hb hr hlocks hP hK hD hS dX0_perform_372 ⟨⟨hI.1, hI.2⟩, fun hz => absurd hz (by decide)⟩
  by_cases k_356 : op = 356
  · subst k_356
    refine lv_lookup (tgt := 354) hx hb dX0_perform_1 (by decide) rfl (by decide) ?_
    refine lv_iload_n hx hb dX0_perform_354 rfl (lv_at hl 3 rfl) ?_
    refine lv_sipush (v := 4096) hx hb dX0_perform_355 (by decide) ?_
    refine lv_icmp_lt (tgt := 365) hx hb dX0_perform_358 (by decide) (fun c_358 => ?_) (fun c_358 => ?_)
    · refine lv_aload_n hx hb dX0_perform_365 rfl (lv_at hl 0 rfl) ?_
      refine lv_iload_n hx hb dX0_perform_366 rfl (lv_at hl 1 rfl) ?_
      refine lv_iload_n hx hb dX0_perform_367 rfl (lv_at hl 2 rfl) ?_
      refine lv_iload_n hx hb dX0_perform_368 rfl (lv_at hl 3 rfl) ?_
      refine w_go (rv := rv_i) (As := [.int 356, .int ac, .int e0]) (rest := []) ⟨hx, hb, hml, hown, hts⟩ (kX0_performOnMemory l D h a cA (u.1, u.2.1, u.2.2.1, u.2.2.2.1, u.2.2.2.2) ⟨hI.1, hI.2⟩ 356 ac e0 hac (vp_below he c_358 (by decide))) (cwV 3 hts gX0_perform_X0_performOnMemory rfl rfl rfl (by decide +kernel) ⟨by decide, by decide⟩) hK hP hD hS rfl hl.1 rfl (Nat.le_of_ble_eq_true rfl) dX0_perform_369 ⟨Nat.zero_le _, Nat.zero_le _⟩ (fun r_369 u_369 H locs q_369 hP hD hS => ?_)
      refine W.eq (g2 := F0 m 372 ls (.int r_369 :: [])) rfl ?_
      exact mm_iret (mw := wW h a cA) (u1 := (u_369.1, u_369.2.1, u_369.2.2.1, u_369.2.2.2.1, u_369.2.2.2.2)) hx hb hr hlocks hP hK hD hS dX0_perform_372 ⟨⟨q_369.1, q_369.2⟩, fun hz => absurd hz (by decide)⟩
    · refine lv_iconst (v := 2) hx hb dX0_perform_361 (by decide) ?_
      refine lv_goto (tgt := 372) hx hb dX0_perform_362 (by decide) ?_
      exact mm_iret (mw := wW h a cA) (u1 := (u.1, u.2.1, u.2.2.1, u.2.2.2.1, u.2.2.2.2)) hx hb hr hlocks hP hK hD hS dX0_perform_372 ⟨⟨hI.1, hI.2⟩, fun hz => absurd hz (by decide)⟩
  by_cases k_360 : op = 360
  · subst k_360
    refine lv_lookup (tgt := 354) hx hb dX0_perform_1 (by decide) rfl (by decide) ?_
    refine lv_iload_n hx hb dX0_perform_354 rfl (lv_at hl 3 rfl) ?_
    refine lv_sipush (v := 4096) hx hb dX0_perform_355 (by decide) ?_
    refine lv_icmp_lt (tgt := 365) hx hb dX0_perform_358 (by decide) (fun c_358 => ?_) (fun c_358 => ?_)
    · refine lv_aload_n hx hb dX0_perform_365 rfl (lv_at hl 0 rfl) ?_
      refine lv_iload_n hx hb dX0_perform_366 rfl (lv_at hl 1 rfl) ?_
      refine lv_iload_n hx hb dX0_perform_367 rfl (lv_at hl 2 rfl) ?_
      refine lv_iload_n hx hb dX0_perform_368 rfl (lv_at hl 3 rfl) ?_
      refine w_go (rv := rv_i) (As := [.int 360, .int ac, .int e0]) (rest := []) ⟨hx, hb, hml, hown, hts⟩ (kX0_performOnMemory l D h a cA (u.1, u.2.1, u.2.2.1, u.2.2.2.1, u.2.2.2.2) ⟨hI.1, hI.2⟩ 360 ac e0 hac (vp_below he c_358 (by decide))) (cwV 3 hts gX0_perform_X0_performOnMemory rfl rfl rfl (by decide +kernel) ⟨by decide, by decide⟩) hK hP hD hS rfl hl.1 rfl (Nat.le_of_ble_eq_true rfl) dX0_perform_369 ⟨Nat.zero_le _, Nat.zero_le _⟩ (fun r_369 u_369 H locs q_369 hP hD hS => ?_)
      refine W.eq (g2 := F0 m 372 ls (.int r_369 :: [])) rfl ?_
      exact mm_iret (mw := wW h a cA) (u1 := (u_369.1, u_369.2.1, u_369.2.2.1, u_369.2.2.2.1, u_369.2.2.2.2)) hx hb hr hlocks hP hK hD hS dX0_perform_372 ⟨⟨q_369.1, q_369.2⟩, fun hz => absurd hz (by decide)⟩
    · refine lv_iconst (v := 2) hx hb dX0_perform_361 (by decide) ?_
      refine lv_goto (tgt := 372) hx hb dX0_perform_362 (by decide) ?_
      exact mm_iret (mw := wW h a cA) (u1 := (u.1, u.2.1, u.2.2.1, u.2.2.2.1, u.2.2.2.2)) hx hb hr hlocks hP hK hD hS dX0_perform_372 ⟨⟨hI.1, hI.2⟩, fun hz => absurd hz (by decide)⟩
  by_cases k_364 : op = 364
  · subst k_364
    refine lv_lookup (tgt := 354) hx hb dX0_perform_1 (by decide) rfl (by decide) ?_
    refine lv_iload_n hx hb dX0_perform_354 rfl (lv_at hl 3 rfl) ?_
    refine lv_sipush (v := 4096) hx hb dX0_perform_355 (by decide) ?_
    refine lv_icmp_lt (tgt := 365) hx hb dX0_perform_358 (by decide) (fun c_358 => ?_) (fun c_358 => ?_)
    · refine lv_aload_n hx hb dX0_perform_365 rfl (lv_at hl 0 rfl) ?_
      refine lv_iload_n hx hb dX0_perform_366 rfl (lv_at hl 1 rfl) ?_
      refine lv_iload_n hx hb dX0_perform_367 rfl (lv_at hl 2 rfl) ?_
      refine lv_iload_n hx hb dX0_perform_368 rfl (lv_at hl 3 rfl) ?_
      refine w_go (rv := rv_i) (As := [.int 364, .int ac, .int e0]) (rest := []) ⟨hx, hb, hml, hown, hts⟩ (kX0_performOnMemory l D h a cA (u.1, u.2.1, u.2.2.1, u.2.2.2.1, u.2.2.2.2) ⟨hI.1, hI.2⟩ 364 ac e0 hac (vp_below he c_358 (by decide))) (cwV 3 hts gX0_perform_X0_performOnMemory rfl rfl rfl (by decide +kernel) ⟨by decide, by decide⟩) hK hP hD hS rfl hl.1 rfl (Nat.le_of_ble_eq_true rfl) dX0_perform_369 ⟨Nat.zero_le _, Nat.zero_le _⟩ (fun r_369 u_369 H locs q_369 hP hD hS => ?_)
      refine W.eq (g2 := F0 m 372 ls (.int r_369 :: [])) rfl ?_
      exact mm_iret (mw := wW h a cA) (u1 := (u_369.1, u_369.2.1, u_369.2.2.1, u_369.2.2.2.1, u_369.2.2.2.2)) hx hb hr hlocks hP hK hD hS dX0_perform_372 ⟨⟨q_369.1, q_369.2⟩, fun hz => absurd hz (by decide)⟩
    · refine lv_iconst (v := 2) hx hb dX0_perform_361 (by decide) ?_
      refine lv_goto (tgt := 372) hx hb dX0_perform_362 (by decide) ?_
      exact mm_iret (mw := wW h a cA) (u1 := (u.1, u.2.1, u.2.2.1, u.2.2.2.1, u.2.2.2.2)) hx hb hr hlocks hP hK hD hS dX0_perform_372 ⟨⟨hI.1, hI.2⟩, fun hz => absurd hz (by decide)⟩
  refine lv_lookup (off := 372) (tgt := 373) hx hb dX0_perform_1 (by decide) ((lv_osw k_0 (by decide)).trans <| (lv_osw k_128 (by decide)).trans <| (lv_osw k_129 (by decide)).trans <| (lv_osw k_130 (by decide)).trans <| (lv_osw k_132 (by decide)).trans <| (lv_osw k_136 (by decide)).trans <| (lv_osw k_140 (by decide)).trans <| (lv_osw k_144 (by decide)).trans <| (lv_osw k_145 (by decide)).trans <| (lv_osw k_152 (by decide)).trans <| (lv_osw k_153 (by decide)).trans <| (lv_osw k_162 (by decide)).trans <| (lv_osw k_168 (by decide)).trans <| (lv_osw k_172 (by decide)).trans <| (lv_osw k_176 (by decide)).trans <| (lv_osw k_177 (by decide)).trans <| (lv_osw k_178 (by decide)).trans <| (lv_osw k_179 (by decide)).trans <| (lv_osw k_180 (by decide)).trans <| (lv_osw k_184 (by decide)).trans <| (lv_osw k_185 (by decide)).trans <| (lv_osw k_188 (by decide)).trans <| (lv_osw k_189 (by decide)).trans <| (lv_osw k_256 (by decide)).trans <| (lv_osw k_258 (by decide)).trans <| (lv_osw k_260 (by decide)).trans <| (lv_osw k_261 (by decide)).trans <| (lv_osw k_280 (by decide)).trans <| (lv_osw k_281 (by decide)).trans <| (lv_osw k_284 (by decide)).trans <| (lv_osw k_285 (by decide)).trans <| (lv_osw k_296 (by decide)).trans <| (lv_osw k_320 (by decide)).trans <| (lv_osw k_324 (by decide)).trans <| (lv_osw k_352 (by decide)).trans <| (lv_osw k_356 (by decide)).trans <| (lv_osw k_360 (by decide)).trans <| (lv_osw k_364 (by decide)).trans <| rfl) (by decide) ?_
  refine lv_iload_n hx hb dX0_perform_373 rfl (lv_at hl 1 rfl) ?_
  refine ps_goi (As := [.int op]) (rest := []) ⟨hx, hb, hml, hown, hts⟩ (kX0_isTest l op) (va_cwS 1 hts gX0_perform_X0_isTest rfl rfl rfl (by decide +kernel) ⟨by decide, by decide⟩) rfl hl.1 rfl (Nat.le_of_ble_eq_true rfl) dX0_perform_374 ⟨Nat.zero_le _, Nat.zero_le _⟩ (fun r_374 q_374 => ?_)
  refine lv_if_eq (tgt := 390) hx hb dX0_perform_377 (by decide) (fun c_377 => ?_) (fun c_377 => ?_)
  · refine lv_iconst (v := 1) hx hb dX0_perform_390 (by decide) ?_
    exact mm_iret (mw := wW h a cA) (u1 := (u.1, u.2.1, u.2.2.1, u.2.2.2.1, u.2.2.2.2)) hx hb hr hlocks hP hK hD hS dX0_perform_391 ⟨⟨hI.1, hI.2⟩, fun hz => absurd hz k_0⟩
  · refine lv_aload_n hx hb dX0_perform_380 rfl (lv_at hl 0 rfl) ?_
    refine lv_iload_n hx hb dX0_perform_381 rfl (lv_at hl 1 rfl) ?_
    refine lv_iload_n hx hb dX0_perform_382 rfl (lv_at hl 2 rfl) ?_
    refine lv_iload_n hx hb dX0_perform_383 rfl (lv_at hl 3 rfl) ?_
    refine w_go (rv := rv_i) (As := [.int op, .int ac, .int e0]) (rest := []) ⟨hx, hb, hml, hown, hts⟩ (kX0_test l D h a cA (u.1, u.2.1, u.2.2.1, u.2.2.2.1, u.2.2.2.2) ⟨hI.1, hI.2⟩ op ac e0 (Or.resolve_left q_374 c_377) hac he) (cwV 3 hts gX0_perform_X0_test rfl rfl rfl (by decide +kernel) ⟨by decide, by decide⟩) hK hP hD hS rfl hl.1 rfl (Nat.le_of_ble_eq_true rfl) dX0_perform_384 ⟨Nat.zero_le _, Nat.zero_le _⟩ (fun r_384 u_384 H locs q_384 hP hD hS => ?_)
    refine W.eq (g2 := F0 m 387 ls (.int r_384 :: [])) rfl ?_
    refine lv_goto (tgt := 391) hx hb dX0_perform_387 (by decide) ?_
    exact mm_iret (mw := wW h a cA) (u1 := (u_384.1, u_384.2.1, u_384.2.2.1, u_384.2.2.2.1, u_384.2.2.2.2)) hx hb hr hlocks hP hK hD hS dX0_perform_391 ⟨⟨q_384.1, q_384.2⟩, fun hz => absurd hz k_0⟩
