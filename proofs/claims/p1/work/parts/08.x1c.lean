theorem iw_X1_effective : ∀ w ∈ u_ws RX1 TX1 6, w ∈ wsX1_effective := by decide +kernel
set_option maxHeartbeats 4000000 in
set_option maxRecDepth 100000 in
theorem kX1_effective (l : Launch) (D : va_G) (h a : Nat) (cA : ClassId) (u : rS) (hI : rI u) (w : Int64)  : MM l yX1_effective wsX1_effective ({ frames := 2, cells := 0, slots := 0, locals := 43 }) D vwCl [(cA, .long)] (rW h a cA) (wA h a) u [.ref h, .long w] rv_l (fun _ u' => rK u u') := by
  refine mm_of (cc := cX1_effective) (maxL := 9) (ret := (some .long)) (by decide) rfl (Nat.le_of_ble_eq_true rfl) (rA_in h a cA u) ?_
  intro p e s m below meth c ls C hl hP hK hD hS
  obtain ⟨hx, hb, hr, hml, hown, hts, hlocks⟩ := C
  have hl : lv_has ls 9 [(0, .ref h), (1, .long w)] := hl
  have loop : ∀ (n i : Nat) (t : Int32) (sr : Int64) (u1 : rS) (H : Heap) (locs : List Loc) (ls : Array Slot), 20 - i < n → t = nI i → i ≤ 20 → rK u u1 → va_P D vwCl (rW h a cA u1) H → va_D (wA h a) (rW h a cA u1) → va_S (wA h a) s.heap H locs → lv_has ls 9 [(5, .int t), (3, .long sr), (0, .ref h), (1, .long w)] → W p l e ({ frames := 2, cells := 0, slots := 0, locals := 43 }) s m ([.ref h, .long w] : List Value).toArray below meth c H locs 0 0 (MQ below (mm_Q rv_l D vwCl [(cA, .long)] (fun _ u' => rK u u') (rW h a cA) (wA h a)) ([.ref h, .long w] : List Value).toArray s 0 0 (wA h a)) (F0 m 5 ls []) := by
    intro n
    induction n with
    | zero => intro i t sr u1 H locs ls hn; exact absurd hn (Nat.not_lt_zero _)
    | succ n ih =>
      intro i t sr u1 H locs ls hn ht hi hk hP hD hS hl
      refine lv_lload_n hx hb dX1_effective_5 rfl (lv_at hl 1 rfl) ?_
      refine lv_bipush (v := 18) hx hb dX1_effective_6 (by decide) ?_
      refine lv_lshr hx hb dX1_effective_8 rfl ?_
      refine lv_ldc2 (v := 15) hx hb hown (hts (.constantLong RX1 39 15) (by decide +kernel)) dX1_effective_9 ?_
      refine lv_land hx hb dX1_effective_12 ?_
      refine lv_l2i hx hb dX1_effective_13 rfl ?_
      refine lv_topi (fun x_14 ex_14 => ?_)
      refine lv_istore (lv' := [(6, .int x_14), (5, .int t), (3, .long sr), (0, .ref h), (1, .long w)]) hx hb dX1_effective_14 hl (by decide) rfl (fun ls hl => ?_)
      refine lv_lload_n hx hb dX1_effective_16 rfl (lv_at hl 2 rfl) ?_
      refine lv_ldc2 (v := 262143) hx hb hown (hts (.constantLong RX1 31 262143) (by decide +kernel)) dX1_effective_17 ?_
      refine lv_land hx hb dX1_effective_20 ?_
      refine lv_iload hx hb dX1_effective_21 (lv_at hl 0 rfl) ?_
      refine lv_if_ne (tgt := 30) hx hb dX1_effective_23 (by decide) (fun c_23 => ?_) (fun c_23 => ?_)
      · refine lv_aload_n hx hb dX1_effective_30 rfl (lv_at hl 3 rfl) ?_
        refine va_get (D := D) (ci := 1) (v := .ref a) (C := RX1) (T := TX1) (N := 6) hx hb hts iw_X1_effective hown hK hP 0 rfl rfl 1 (by decide) (hts (.fieldLink RX1 7 "WordMillModel" "memory" "[J") (by decide +kernel)) (fun _ h9 => h9) rfl dX1_effective_31 ?_
        refine lv_iload hx hb dX1_effective_34 (lv_at hl 0 rfl) ?_
        refine va_lald hx hb hK hP 1 0 rfl rfl (by rw [ex_14]; exact la15 _) dX1_effective_36 ?_
        refine lv_ladd hx hb dX1_effective_37 ?_
        refine lv_ldc2 (v := 262143) hx hb hown (hts (.constantLong RX1 31 262143) (by decide +kernel)) dX1_effective_38 ?_
        refine lv_land hx hb dX1_effective_41 ?_
        refine lv_topl (fun x_42 ex_42 => ?_)
        refine lv_lstore (lv' := [(7, .long x_42), (6, .int x_14), (5, .int t), (3, .long sr), (0, .ref h), (1, .long w)]) hx hb dX1_effective_42 hl (by decide) rfl (fun ls hl => ?_)
        refine lv_lload_n hx hb dX1_effective_44 rfl (lv_at hl 3 rfl) ?_
        refine lv_bipush (v := 22) hx hb dX1_effective_45 (by decide) ?_
        refine lv_lshr hx hb dX1_effective_47 rfl ?_
        refine lv_lconst (v := 1) hx hb dX1_effective_48 (by decide) ?_
        refine lv_land hx hb dX1_effective_49 ?_
        refine lv_lconst (v := 0) hx hb dX1_effective_50 (by decide) ?_
        refine W.lcmp hx hb dX1_effective_51 ?_
        refine lv_if_eq (tgt := 62) hx hb dX1_effective_52 (by decide) (fun c_52 => ?_) (fun c_52 => ?_)
        · refine lv_lload hx hb dX1_effective_62 (lv_at hl 0 rfl) ?_
          exact mm_lret (mw := rW h a cA) (u1 := (u1.1, u1.2.1, u1.2.2.1, u1.2.2.2.1, u1.2.2.2.2.1, u1.2.2.2.2.2)) hx hb hr hlocks hP hK hD hS dX1_effective_64 ⟨hk.1, hk.2.1, hk.2.2⟩
        · refine lv_iload hx hb dX1_effective_55 (lv_at hl 2 rfl) ?_
          refine lv_bipush (v := 20) hx hb dX1_effective_57 (by decide) ?_
          refine lv_icmp_ne (tgt := 65) hx hb dX1_effective_59 (by decide) (fun c_59 => ?_) (fun c_59 => ?_)
          · have hlt : i < 20 := ni_ne ht (n := 20) rfl hi c_59
            refine lv_aload_n hx hb dX1_effective_65 rfl (lv_at hl 4 rfl) ?_
            refine lv_lload hx hb dX1_effective_66 (lv_at hl 0 rfl) ?_
            refine r_go (rv := rv_l) (As := [.long x_42]) (rest := []) ⟨hx, hb, hml, hown, hts⟩ (kX1_at l D h a cA (u1.1, u1.2.1, u1.2.2.1, u1.2.2.2.1, u1.2.2.2.2.1, u1.2.2.2.2.2) hk.1 x_42 ) (cwV 1 hts gX1_effective_X1_at rfl rfl rfl (by decide +kernel) ⟨by decide, by decide⟩) hK hP hD hS rfl hl.1 rfl (Nat.le_of_ble_eq_true rfl) dX1_effective_68 ⟨Nat.zero_le _, Nat.zero_le _⟩ (fun r_68 u_68 H locs q_68 hP hD hS => ?_)
            refine W.eq (g2 := F0 m 71 ls (.long r_68 :: [])) rfl ?_
            refine lv_lstore_n (lv' := [(3, .long r_68), (7, .long x_42), (6, .int x_14), (5, .int t), (0, .ref h), (1, .long w)]) hx hb dX1_effective_71 rfl hl (by decide) rfl (fun ls hl => ?_)
            refine lv_aload_n hx hb dX1_effective_72 rfl (lv_at hl 4 rfl) ?_
            refine va_get (D := D) (ci := 1) (v := .int u_68.2.2.2.2.1) (C := RX1) (T := TX1) (N := 6) hx hb hts iw_X1_effective hown hK hP 0 rfl rfl 4 (by decide) (hts (.fieldLink RX1 36 "WordMillModel" "fault" "I") (by decide +kernel)) (fun _ h9 => h9) rfl dX1_effective_73 ?_
            refine lv_if_eq (tgt := 81) hx hb dX1_effective_76 (by decide) (fun c_76 => ?_) (fun c_76 => ?_)
            · obtain ⟨x_81, ex_81⟩ : ∃ y : Int32, y = t + 1 := ⟨_, rfl⟩
              refine lv_iinc (v := x_81) (lv' := [(5, .int x_81), (3, .long r_68), (7, .long x_42), (6, .int x_14), (0, .ref h), (1, .long w)]) hx hb dX1_effective_81 hl (k := 3) rfl (by rw [ex_81]; rfl) (by decide) rfl (fun ls hl => ?_)
              refine lv_goto (tgt := 5) hx hb dX1_effective_84 (by decide) ?_
              exact ih (i + 1) x_81 r_68 u_68 _ _ _ (by omega) (by rw [ex_81, ht]; exact nI_1 i) (by omega) ⟨q_68.1.1, (q_68.1.2.1.trans hk.2.1), (q_68.1.2.2.trans hk.2.2)⟩ hP hD hS (lv_sub hl [0, 1, 4, 5] rfl)
            · refine lv_lconst (v := 0) hx hb dX1_effective_79 (by decide) ?_
              exact mm_lret (mw := rW h a cA) (u1 := (u_68.1, u_68.2.1, u_68.2.2.1, u_68.2.2.2.1, u_68.2.2.2.2.1, u_68.2.2.2.2.2)) hx hb hr hlocks hP hK hD hS dX1_effective_80 ⟨q_68.1.1, (q_68.1.2.1.trans hk.2.1), (q_68.1.2.2.trans hk.2.2)⟩
          · refine lv_lload hx hb dX1_effective_62 (lv_at hl 0 rfl) ?_
            exact mm_lret (mw := rW h a cA) (u1 := (u1.1, u1.2.1, u1.2.2.1, u1.2.2.2.1, u1.2.2.2.2.1, u1.2.2.2.2.2)) hx hb hr hlocks hP hK hD hS dX1_effective_64 ⟨hk.1, hk.2.1, hk.2.2⟩
      · refine lv_lconst (v := 0) hx hb dX1_effective_26 (by decide) ?_
        refine lv_goto (tgt := 37) hx hb dX1_effective_27 (by decide) ?_
        refine lv_ladd hx hb dX1_effective_37 ?_
        refine lv_ldc2 (v := 262143) hx hb hown (hts (.constantLong RX1 31 262143) (by decide +kernel)) dX1_effective_38 ?_
        refine lv_land hx hb dX1_effective_41 ?_
        refine lv_topl (fun x_42 ex_42 => ?_)
        refine lv_lstore (lv' := [(7, .long x_42), (6, .int x_14), (5, .int t), (3, .long sr), (0, .ref h), (1, .long w)]) hx hb dX1_effective_42 hl (by decide) rfl (fun ls hl => ?_)
        refine lv_lload_n hx hb dX1_effective_44 rfl (lv_at hl 3 rfl) ?_
        refine lv_bipush (v := 22) hx hb dX1_effective_45 (by decide) ?_
        refine lv_lshr hx hb dX1_effective_47 rfl ?_
        refine lv_lconst (v := 1) hx hb dX1_effective_48 (by decide) ?_
        refine lv_land hx hb dX1_effective_49 ?_
        refine lv_lconst (v := 0) hx hb dX1_effective_50 (by decide) ?_
        refine W.lcmp hx hb dX1_effective_51 ?_
        refine lv_if_eq (tgt := 62) hx hb dX1_effective_52 (by decide) (fun c_52 => ?_) (fun c_52 => ?_)
        · refine lv_lload hx hb dX1_effective_62 (lv_at hl 0 rfl) ?_
          exact mm_lret (mw := rW h a cA) (u1 := (u1.1, u1.2.1, u1.2.2.1, u1.2.2.2.1, u1.2.2.2.2.1, u1.2.2.2.2.2)) hx hb hr hlocks hP hK hD hS dX1_effective_64 ⟨hk.1, hk.2.1, hk.2.2⟩
        · refine lv_iload hx hb dX1_effective_55 (lv_at hl 2 rfl) ?_
          refine lv_bipush (v := 20) hx hb dX1_effective_57 (by decide) ?_
          refine lv_icmp_ne (tgt := 65) hx hb dX1_effective_59 (by decide) (fun c_59 => ?_) (fun c_59 => ?_)
          · have hlt : i < 20 := ni_ne ht (n := 20) rfl hi c_59
            refine lv_aload_n hx hb dX1_effective_65 rfl (lv_at hl 4 rfl) ?_
            refine lv_lload hx hb dX1_effective_66 (lv_at hl 0 rfl) ?_
            refine r_go (rv := rv_l) (As := [.long x_42]) (rest := []) ⟨hx, hb, hml, hown, hts⟩ (kX1_at l D h a cA (u1.1, u1.2.1, u1.2.2.1, u1.2.2.2.1, u1.2.2.2.2.1, u1.2.2.2.2.2) hk.1 x_42 ) (cwV 1 hts gX1_effective_X1_at rfl rfl rfl (by decide +kernel) ⟨by decide, by decide⟩) hK hP hD hS rfl hl.1 rfl (Nat.le_of_ble_eq_true rfl) dX1_effective_68 ⟨Nat.zero_le _, Nat.zero_le _⟩ (fun r_68 u_68 H locs q_68 hP hD hS => ?_)
            refine W.eq (g2 := F0 m 71 ls (.long r_68 :: [])) rfl ?_
            refine lv_lstore_n (lv' := [(3, .long r_68), (7, .long x_42), (6, .int x_14), (5, .int t), (0, .ref h), (1, .long w)]) hx hb dX1_effective_71 rfl hl (by decide) rfl (fun ls hl => ?_)
            refine lv_aload_n hx hb dX1_effective_72 rfl (lv_at hl 4 rfl) ?_
            refine va_get (D := D) (ci := 1) (v := .int u_68.2.2.2.2.1) (C := RX1) (T := TX1) (N := 6) hx hb hts iw_X1_effective hown hK hP 0 rfl rfl 4 (by decide) (hts (.fieldLink RX1 36 "WordMillModel" "fault" "I") (by decide +kernel)) (fun _ h9 => h9) rfl dX1_effective_73 ?_
            refine lv_if_eq (tgt := 81) hx hb dX1_effective_76 (by decide) (fun c_76 => ?_) (fun c_76 => ?_)
            · obtain ⟨x_81, ex_81⟩ : ∃ y : Int32, y = t + 1 := ⟨_, rfl⟩
              refine lv_iinc (v := x_81) (lv' := [(5, .int x_81), (3, .long r_68), (7, .long x_42), (6, .int x_14), (0, .ref h), (1, .long w)]) hx hb dX1_effective_81 hl (k := 3) rfl (by rw [ex_81]; rfl) (by decide) rfl (fun ls hl => ?_)
              refine lv_goto (tgt := 5) hx hb dX1_effective_84 (by decide) ?_
              exact ih (i + 1) x_81 r_68 u_68 _ _ _ (by omega) (by rw [ex_81, ht]; exact nI_1 i) (by omega) ⟨q_68.1.1, (q_68.1.2.1.trans hk.2.1), (q_68.1.2.2.trans hk.2.2)⟩ hP hD hS (lv_sub hl [0, 1, 4, 5] rfl)
            · refine lv_lconst (v := 0) hx hb dX1_effective_79 (by decide) ?_
              exact mm_lret (mw := rW h a cA) (u1 := (u_68.1, u_68.2.1, u_68.2.2.1, u_68.2.2.2.1, u_68.2.2.2.2.1, u_68.2.2.2.2.2)) hx hb hr hlocks hP hK hD hS dX1_effective_80 ⟨q_68.1.1, (q_68.1.2.1.trans hk.2.1), (q_68.1.2.2.trans hk.2.2)⟩
          · refine lv_lload hx hb dX1_effective_62 (lv_at hl 0 rfl) ?_
            exact mm_lret (mw := rW h a cA) (u1 := (u1.1, u1.2.1, u1.2.2.1, u1.2.2.2.1, u1.2.2.2.2.1, u1.2.2.2.2.2)) hx hb hr hlocks hP hK hD hS dX1_effective_64 ⟨hk.1, hk.2.1, hk.2.2⟩
  refine lv_lload_n hx hb dX1_effective_0 rfl (lv_at hl 1 rfl) ?_
  refine lv_lstore_n (lv' := [(3, .long w), (0, .ref h), (1, .long w)]) hx hb dX1_effective_1 rfl hl (by decide) rfl (fun ls hl => ?_)
  refine lv_iconst (v := 0) hx hb dX1_effective_2 (by decide) ?_
  refine lv_istore (lv' := [(5, .int 0), (3, .long w), (0, .ref h), (1, .long w)]) hx hb dX1_effective_3 hl (by decide) rfl (fun ls hl => ?_)
  exact loop 21 0 0 w u _ _ _ (by decide) nI_0.symm (by decide) ⟨hI, rfl, rfl⟩ hP hD hS (lv_sub hl [0, 1, 2, 3] rfl)
theorem iw_X1_put : ∀ w ∈ u_ws RX1 TX1 6, w ∈ wsX1_put := by decide +kernel
set_option maxHeartbeats 4000000 in
set_option maxRecDepth 100000 in
theorem kX1_put (l : Launch) (D : va_G) (h a : Nat) (cA : ClassId) (u : rS) (hI : rI u) (i : Int32) (w : Int64)  : MM l yX1_put wsX1_put ({ frames := 1, cells := 0, slots := 0, locals := 21 }) D vwCl [(cA, .long)] (rW h a cA) (wA h a) u [.ref h, .int i, .long w] rv_v (fun _ u' => rI u' ∧ ((vp_in i 4096 ∧ u'.2.1 = 0) ∨ (¬ vp_in i 4096 ∧ u'.2.1 = 1))) := by
  refine mm_of (cc := cX1_put) (maxL := 4) (ret := none) (by decide) rfl (Nat.le_of_ble_eq_true rfl) (rA_in h a cA u) ?_
  intro p e s m below meth c ls C hl hP hK hD hS
  obtain ⟨hx, hb, hr, hml, hown, hts, hlocks⟩ := C
  have hl : lv_has ls 4 [(0, .ref h), (1, .int i), (2, .long w)] := hl
  refine lv_aload_n hx hb dX1_put_0 rfl (lv_at hl 0 rfl) ?_
  refine lv_iload_n hx hb dX1_put_1 rfl (lv_at hl 1 rfl) ?_
  refine lv_i2l hx hb dX1_put_2 rfl ?_
  refine ps_goi (As := [.long ((i : Int32).toInt64)]) (rest := [.ref h]) ⟨hx, hb, hml, hown, hts⟩ (kX1_isPlace l ((i : Int32).toInt64)) (va_cwS 1 hts gX1_put_X1_isPlace rfl rfl rfl (by decide +kernel) ⟨by decide, by decide⟩) rfl hl.1 rfl (Nat.le_of_ble_eq_true rfl) dX1_put_3 ⟨Nat.zero_le _, Nat.zero_le _⟩ (fun r_3 q_3 => ?_)
  refine lv_if_ne (tgt := 13) hx hb dX1_put_6 (by decide) (fun c_6 => ?_) (fun c_6 => ?_)
  · refine lv_iconst (v := 0) hx hb dX1_put_13 (by decide) ?_
    refine r_go (rv := rv_i) (As := [.int 0]) (rest := []) ⟨hx, hb, hml, hown, hts⟩ (kX1_bad l D h a cA (u.1, u.2.1, u.2.2.1, u.2.2.2.1, u.2.2.2.2.1, u.2.2.2.2.2) hI 0 (Or.inl rfl)) (cwV 1 hts gX1_put_X1_bad rfl rfl rfl (by decide +kernel) ⟨by decide, by decide⟩) hK hP hD hS rfl hl.1 rfl (Nat.le_of_ble_eq_true rfl) dX1_put_14 ⟨Nat.zero_le _, Nat.zero_le _⟩ (fun r_14 u_14 H locs q_14 hP hD hS => ?_)
    obtain ⟨eu_14, er_14⟩ := q_14
    subst eu_14
    subst er_14
    refine W.eq (g2 := F0 m 17 ls (.int 0 :: [])) rfl ?_
    refine lv_if_ne (tgt := 31) hx hb dX1_put_17 (by decide) (fun c_17 => ?_) (fun c_17 => ?_)
    · exact absurd c_17 (by decide)
    · refine lv_aload_n hx hb dX1_put_20 rfl (lv_at hl 0 rfl) ?_
      refine va_get (D := D) (ci := 1) (v := .ref a) (C := RX1) (T := TX1) (N := 6) hx hb hts iw_X1_put hown hK hP 0 rfl rfl 1 (by decide) (hts (.fieldLink RX1 7 "WordMillModel" "memory" "[J") (by decide +kernel)) (fun _ h9 => h9) rfl dX1_put_21 ?_
      refine lv_iload_n hx hb dX1_put_24 rfl (lv_at hl 1 rfl) ?_
      refine lv_lload_n hx hb dX1_put_25 rfl (lv_at hl 2 rfl) ?_
      refine lv_ldc2 (v := 68719476735) hx hb hown (hts (.constantLong RX1 27 68719476735) (by decide +kernel)) dX1_put_26 ?_
      refine lv_land hx hb dX1_put_29 ?_
      refine va_last hx hb hK hP hD hS 1 0 rfl rfl ((pl_of _).mp (by rcases q_3 with q | q; exact absurd q.1 c_6; exact q.2)) dX1_put_30 (fun H locs hP hD hS => ?_)
      have hP : va_P D vwCl (rW h a cA ((vp_updL u.1 (i : Int32).toNatClampNeg (w &&& 68719476735)), 0, u.2.2.1, u.2.2.2.1, u.2.2.2.2.1, u.2.2.2.2.2)) H := hP
      have hD : va_D (wA h a) (rW h a cA ((vp_updL u.1 (i : Int32).toNatClampNeg (w &&& 68719476735)), 0, u.2.2.1, u.2.2.2.1, u.2.2.2.2.1, u.2.2.2.2.2)) := hD
      generalize (vp_updL u.1 (i : Int32).toNatClampNeg (w &&& 68719476735)) = f_30 at hP hD
      exact mm_vret (mw := rW h a cA) (u1 := (f_30, 0, u.2.2.1, u.2.2.2.1, u.2.2.2.2.1, u.2.2.2.2.2)) hx hb hr hlocks hP hK hD hS dX1_put_31 ⟨hI, Or.inl ⟨((pl_of _).mp (by rcases q_3 with q | q; exact absurd q.1 c_6; exact q.2)), rfl⟩⟩
  · refine lv_iconst (v := 1) hx hb dX1_put_9 (by decide) ?_
    refine lv_goto (tgt := 14) hx hb dX1_put_10 (by decide) ?_
    refine r_go (rv := rv_i) (As := [.int 1]) (rest := []) ⟨hx, hb, hml, hown, hts⟩ (kX1_bad l D h a cA (u.1, u.2.1, u.2.2.1, u.2.2.2.1, u.2.2.2.2.1, u.2.2.2.2.2) hI 1 (Or.inr rfl)) (cwV 1 hts gX1_put_X1_bad rfl rfl rfl (by decide +kernel) ⟨by decide, by decide⟩) hK hP hD hS rfl hl.1 rfl (Nat.le_of_ble_eq_true rfl) dX1_put_14 ⟨Nat.zero_le _, Nat.zero_le _⟩ (fun r_14 u_14 H locs q_14 hP hD hS => ?_)
    obtain ⟨eu_14, er_14⟩ := q_14
    subst eu_14
    subst er_14
    refine W.eq (g2 := F0 m 17 ls (.int 1 :: [])) rfl ?_
    refine lv_if_ne (tgt := 31) hx hb dX1_put_17 (by decide) (fun c_17 => ?_) (fun c_17 => ?_)
    · exact mm_vret (mw := rW h a cA) (u1 := (u.1, 1, u.2.2.1, u.2.2.2.1, u.2.2.2.2.1, u.2.2.2.2.2)) hx hb hr hlocks hP hK hD hS dX1_put_31 ⟨hI, Or.inr ⟨(fun hv => by rcases q_3 with q | q; exact q.2 ((pl_of _).mpr hv); exact absurd (c_6.symm.trans q.1) (by decide)), rfl⟩⟩
    · exact absurd c_17 (by decide)
theorem iw_X1_word : ∀ w ∈ u_ws RX1 TX1 6, w ∈ wsX1_word := by decide +kernel
set_option maxHeartbeats 4000000 in
set_option maxRecDepth 100000 in
theorem kX1_word (l : Launch) (D : va_G) (h a : Nat) (cA : ClassId) (u : rS) (hI : rI u) (i : Int32)  : MM l yX1_word wsX1_word ({ frames := 1, cells := 0, slots := 0, locals := 21 }) D vwCl [(cA, .long)] (rW h a cA) (wA h a) u [.ref h, .int i] rv_l (fun r u' => rI u' ∧ ((vp_in i 4096 ∧ u'.2.1 = 0 ∧ r = u.1 (i : Int32).toNatClampNeg) ∨ (¬ vp_in i 4096 ∧ u'.2.1 = 1))) := by
  refine mm_of (cc := cX1_word) (maxL := 2) (ret := (some .long)) (by decide) rfl (Nat.le_of_ble_eq_true rfl) (rA_in h a cA u) ?_
  intro p e s m below meth c ls C hl hP hK hD hS
  obtain ⟨hx, hb, hr, hml, hown, hts, hlocks⟩ := C
  have hl : lv_has ls 2 [(0, .ref h), (1, .int i)] := hl
  refine lv_aload_n hx hb dX1_word_0 rfl (lv_at hl 0 rfl) ?_
  refine lv_iload_n hx hb dX1_word_1 rfl (lv_at hl 1 rfl) ?_
  refine lv_i2l hx hb dX1_word_2 rfl ?_
  refine ps_goi (As := [.long ((i : Int32).toInt64)]) (rest := [.ref h]) ⟨hx, hb, hml, hown, hts⟩ (kX1_isPlace l ((i : Int32).toInt64)) (va_cwS 1 hts gX1_word_X1_isPlace rfl rfl rfl (by decide +kernel) ⟨by decide, by decide⟩) rfl hl.1 rfl (Nat.le_of_ble_eq_true rfl) dX1_word_3 ⟨Nat.zero_le _, Nat.zero_le _⟩ (fun r_3 q_3 => ?_)
  refine lv_if_ne (tgt := 13) hx hb dX1_word_6 (by decide) (fun c_6 => ?_) (fun c_6 => ?_)
  · refine lv_iconst (v := 0) hx hb dX1_word_13 (by decide) ?_
    refine r_go (rv := rv_i) (As := [.int 0]) (rest := []) ⟨hx, hb, hml, hown, hts⟩ (kX1_bad l D h a cA (u.1, u.2.1, u.2.2.1, u.2.2.2.1, u.2.2.2.2.1, u.2.2.2.2.2) hI 0 (Or.inl rfl)) (cwV 1 hts gX1_word_X1_bad rfl rfl rfl (by decide +kernel) ⟨by decide, by decide⟩) hK hP hD hS rfl hl.1 rfl (Nat.le_of_ble_eq_true rfl) dX1_word_14 ⟨Nat.zero_le _, Nat.zero_le _⟩ (fun r_14 u_14 H locs q_14 hP hD hS => ?_)
    obtain ⟨eu_14, er_14⟩ := q_14
    subst eu_14
    subst er_14
    refine W.eq (g2 := F0 m 17 ls (.int 0 :: [])) rfl ?_
    refine lv_if_eq (tgt := 24) hx hb dX1_word_17 (by decide) (fun c_17 => ?_) (fun c_17 => ?_)
    · refine lv_aload_n hx hb dX1_word_24 rfl (lv_at hl 0 rfl) ?_
      refine va_get (D := D) (ci := 1) (v := .ref a) (C := RX1) (T := TX1) (N := 6) hx hb hts iw_X1_word hown hK hP 0 rfl rfl 1 (by decide) (hts (.fieldLink RX1 7 "WordMillModel" "memory" "[J") (by decide +kernel)) (fun _ h9 => h9) rfl dX1_word_25 ?_
      refine lv_iload_n hx hb dX1_word_28 rfl (lv_at hl 1 rfl) ?_
      refine va_lald hx hb hK hP 1 0 rfl rfl ((pl_of _).mp (by rcases q_3 with q | q; exact absurd q.1 c_6; exact q.2)) dX1_word_29 ?_
      exact mm_lret (mw := rW h a cA) (u1 := (u.1, 0, u.2.2.1, u.2.2.2.1, u.2.2.2.2.1, u.2.2.2.2.2)) hx hb hr hlocks hP hK hD hS dX1_word_30 ⟨hI, Or.inl ⟨((pl_of _).mp (by rcases q_3 with q | q; exact absurd q.1 c_6; exact q.2)), rfl, rfl⟩⟩
    · exact absurd c_17 (by decide)
  · refine lv_iconst (v := 1) hx hb dX1_word_9 (by decide) ?_
    refine lv_goto (tgt := 14) hx hb dX1_word_10 (by decide) ?_
    refine r_go (rv := rv_i) (As := [.int 1]) (rest := []) ⟨hx, hb, hml, hown, hts⟩ (kX1_bad l D h a cA (u.1, u.2.1, u.2.2.1, u.2.2.2.1, u.2.2.2.2.1, u.2.2.2.2.2) hI 1 (Or.inr rfl)) (cwV 1 hts gX1_word_X1_bad rfl rfl rfl (by decide +kernel) ⟨by decide, by decide⟩) hK hP hD hS rfl hl.1 rfl (Nat.le_of_ble_eq_true rfl) dX1_word_14 ⟨Nat.zero_le _, Nat.zero_le _⟩ (fun r_14 u_14 H locs q_14 hP hD hS => ?_)
    obtain ⟨eu_14, er_14⟩ := q_14
    subst eu_14
    subst er_14
    refine W.eq (g2 := F0 m 17 ls (.int 1 :: [])) rfl ?_
    refine lv_if_eq (tgt := 24) hx hb dX1_word_17 (by decide) (fun c_17 => ?_) (fun c_17 => ?_)
    · exact absurd c_17 (by decide)
    · refine lv_lconst (v := 0) hx hb dX1_word_20 (by decide) ?_
      refine lv_goto (tgt := 30) hx hb dX1_word_21 (by decide) ?_
      exact mm_lret (mw := rW h a cA) (u1 := (u.1, 1, u.2.2.1, u.2.2.2.1, u.2.2.2.2.1, u.2.2.2.2.2)) hx hb hr hlocks hP hK hD hS dX1_word_30 ⟨hI, Or.inr ⟨(fun hv => by rcases q_3 with q | q; exact q.2 ((pl_of _).mpr hv); exact absurd (c_6.symm.trans q.1) (by decide)), rfl⟩⟩
theorem iw_X1_go : ∀ w ∈ u_ws RX1 TX1 6, w ∈ wsX1_go := by decide +kernel
set_option maxHeartbeats 4000000 in
set_option maxRecDepth 100000 in
theorem kX1_go (l : Launch) (D : va_G) (h a : Nat) (cA : ClassId) (u : rS) (hI : rI u) (i : Int32)  : MM l yX1_go wsX1_go ({ frames := 1, cells := 0, slots := 0, locals := 21 }) D vwCl [(cA, .long)] (rW h a cA) (wA h a) u [.ref h, .int i] rv_v (fun _ u' => rI u' ∧ ((vp_in i 4096 ∧ u'.2.1 = 0) ∨ (¬ vp_in i 4096 ∧ u'.2.1 = 1))) := by
  refine mm_of (cc := cX1_go) (maxL := 2) (ret := none) (by decide) rfl (Nat.le_of_ble_eq_true rfl) (rA_in h a cA u) ?_
  intro p e s m below meth c ls C hl hP hK hD hS
  obtain ⟨hx, hb, hr, hml, hown, hts, hlocks⟩ := C
  have hl : lv_has ls 2 [(0, .ref h), (1, .int i)] := hl
  refine lv_aload_n hx hb dX1_go_0 rfl (lv_at hl 0 rfl) ?_
  refine lv_iload_n hx hb dX1_go_1 rfl (lv_at hl 1 rfl) ?_
  refine lv_i2l hx hb dX1_go_2 rfl ?_
  refine ps_goi (As := [.long ((i : Int32).toInt64)]) (rest := [.ref h]) ⟨hx, hb, hml, hown, hts⟩ (kX1_isPlace l ((i : Int32).toInt64)) (va_cwS 1 hts gX1_go_X1_isPlace rfl rfl rfl (by decide +kernel) ⟨by decide, by decide⟩) rfl hl.1 rfl (Nat.le_of_ble_eq_true rfl) dX1_go_3 ⟨Nat.zero_le _, Nat.zero_le _⟩ (fun r_3 q_3 => ?_)
  refine lv_if_ne (tgt := 13) hx hb dX1_go_6 (by decide) (fun c_6 => ?_) (fun c_6 => ?_)
  · refine lv_iconst (v := 0) hx hb dX1_go_13 (by decide) ?_
    refine r_go (rv := rv_i) (As := [.int 0]) (rest := []) ⟨hx, hb, hml, hown, hts⟩ (kX1_bad l D h a cA (u.1, u.2.1, u.2.2.1, u.2.2.2.1, u.2.2.2.2.1, u.2.2.2.2.2) hI 0 (Or.inl rfl)) (cwV 1 hts gX1_go_X1_bad rfl rfl rfl (by decide +kernel) ⟨by decide, by decide⟩) hK hP hD hS rfl hl.1 rfl (Nat.le_of_ble_eq_true rfl) dX1_go_14 ⟨Nat.zero_le _, Nat.zero_le _⟩ (fun r_14 u_14 H locs q_14 hP hD hS => ?_)
    obtain ⟨eu_14, er_14⟩ := q_14
    subst eu_14
    subst er_14
    refine W.eq (g2 := F0 m 17 ls (.int 0 :: [])) rfl ?_
    refine lv_if_ne (tgt := 25) hx hb dX1_go_17 (by decide) (fun c_17 => ?_) (fun c_17 => ?_)
    · exact absurd c_17 (by decide)
    · refine lv_aload_n hx hb dX1_go_20 rfl (lv_at hl 0 rfl) ?_
      refine lv_iload_n hx hb dX1_go_21 rfl (lv_at hl 1 rfl) ?_
      refine va_put (D := D) (ci := 1) (v := .int i) (ty := .int) (C := RX1) (T := TX1) (N := 6) hx hb hts iw_X1_go tyX1 tyX1_ok nmX1 hown hK hP hD hS 0 rfl rfl 2 (by decide) (hts (.fieldLink RX1 33 "WordMillModel" "pc" "I") (by decide +kernel)) (fun _ h9 => h9) rfl (by decide +kernel) rfl rfl (Nat.le_of_ble_eq_true rfl) dX1_go_22 (fun H locs hP hD hS => ?_)
      have hP : va_P D vwCl (rW h a cA (u.1, 0, i, u.2.2.2.1, u.2.2.2.2.1, u.2.2.2.2.2)) H := hP
      have hD : va_D (wA h a) (rW h a cA (u.1, 0, i, u.2.2.2.1, u.2.2.2.2.1, u.2.2.2.2.2)) := hD
      exact mm_vret (mw := rW h a cA) (u1 := (u.1, 0, i, u.2.2.2.1, u.2.2.2.2.1, u.2.2.2.2.2)) hx hb hr hlocks hP hK hD hS dX1_go_25 ⟨((pl_of _).mp (by rcases q_3 with q | q; exact absurd q.1 c_6; exact q.2)), Or.inl ⟨((pl_of _).mp (by rcases q_3 with q | q; exact absurd q.1 c_6; exact q.2)), rfl⟩⟩
  · refine lv_iconst (v := 1) hx hb dX1_go_9 (by decide) ?_
    refine lv_goto (tgt := 14) hx hb dX1_go_10 (by decide) ?_
    refine r_go (rv := rv_i) (As := [.int 1]) (rest := []) ⟨hx, hb, hml, hown, hts⟩ (kX1_bad l D h a cA (u.1, u.2.1, u.2.2.1, u.2.2.2.1, u.2.2.2.2.1, u.2.2.2.2.2) hI 1 (Or.inr rfl)) (cwV 1 hts gX1_go_X1_bad rfl rfl rfl (by decide +kernel) ⟨by decide, by decide⟩) hK hP hD hS rfl hl.1 rfl (Nat.le_of_ble_eq_true rfl) dX1_go_14 ⟨Nat.zero_le _, Nat.zero_le _⟩ (fun r_14 u_14 H locs q_14 hP hD hS => ?_)
    obtain ⟨eu_14, er_14⟩ := q_14
    subst eu_14
    subst er_14
    refine W.eq (g2 := F0 m 17 ls (.int 1 :: [])) rfl ?_
    refine lv_if_ne (tgt := 25) hx hb dX1_go_17 (by decide) (fun c_17 => ?_) (fun c_17 => ?_)
    · exact mm_vret (mw := rW h a cA) (u1 := (u.1, 1, u.2.2.1, u.2.2.2.1, u.2.2.2.2.1, u.2.2.2.2.2)) hx hb hr hlocks hP hK hD hS dX1_go_25 ⟨hI, Or.inr ⟨(fun hv => by rcases q_3 with q | q; exact q.2 ((pl_of _).mpr hv); exact absurd (c_6.symm.trans q.1) (by decide)), rfl⟩⟩
    · exact absurd c_17 (by decide)
theorem iw_X1_code : ∀ w ∈ u_ws RX1 TX1 6, w ∈ wsX1_code := by decide +kernel
set_option maxHeartbeats 4000000 in
set_option maxRecDepth 100000 in
theorem kX1_code (l : Launch) (D : va_G) (h a : Nat) (cA : ClassId) (u : rS) (hI : rI u) (i : Int32) (op : Int32) (ac : Int32) (z0 : Int32) (x0 : Int32) (y0 : Int32)  : MM l yX1_code wsX1_code ({ frames := 1, cells := 0, slots := 0, locals := 21 }) D vwCl [(cA, .long)] (rW h a cA) (wA h a) u [.ref h, .int i, .int op, .int ac, .int z0, .int x0, .int y0] rv_l (fun r u' => rI u' ∧ ((okc i op ac x0 ∧ u'.2.1 = 0 ∧ r = rc_code op ac z0 x0 y0) ∨ (¬ okc i op ac x0 ∧ u'.2.1 = 1))) := by
  refine mm_of (cc := cX1_code) (maxL := 9) (ret := (some .long)) (by decide) rfl (Nat.le_of_ble_eq_true rfl) (rA_in h a cA u) ?_
  intro p e s m below meth c ls C hl hP hK hD hS
  obtain ⟨hx, hb, hr, hml, hown, hts, hlocks⟩ := C
  have hl : lv_has ls 9 [(0, .ref h), (1, .int i), (2, .int op), (3, .int ac), (4, .int z0), (5, .int x0), (6, .int y0)] := hl
  refine lv_aload_n hx hb dX1_code_0 rfl (lv_at hl 0 rfl) ?_
  refine lv_iload_n hx hb dX1_code_1 rfl (lv_at hl 1 rfl) ?_
  refine lv_i2l hx hb dX1_code_2 rfl ?_
  refine ps_goi (As := [.long ((i : Int32).toInt64)]) (rest := [.ref h]) ⟨hx, hb, hml, hown, hts⟩ (kX1_isPlace l ((i : Int32).toInt64)) (va_cwS 1 hts gX1_code_X1_isPlace rfl rfl rfl (by decide +kernel) ⟨by decide, by decide⟩) rfl hl.1 rfl (Nat.le_of_ble_eq_true rfl) dX1_code_3 ⟨Nat.zero_le _, Nat.zero_le _⟩ (fun r_3 q_3 => ?_)
  refine lv_if_eq (tgt := 42) hx hb dX1_code_6 (by decide) (fun c_6 => ?_) (fun c_6 => ?_)
  · refine lv_iconst (v := 1) hx hb dX1_code_42 (by decide) ?_
    refine lv_goto (tgt := 47) hx hb dX1_code_43 (by decide) ?_
    refine r_go (rv := rv_i) (As := [.int 1]) (rest := []) ⟨hx, hb, hml, hown, hts⟩ (kX1_bad l D h a cA (u.1, u.2.1, u.2.2.1, u.2.2.2.1, u.2.2.2.2.1, u.2.2.2.2.2) hI 1 (Or.inr rfl)) (cwV 1 hts gX1_code_X1_bad rfl rfl rfl (by decide +kernel) ⟨by decide, by decide⟩) hK hP hD hS rfl hl.1 rfl (Nat.le_of_ble_eq_true rfl) dX1_code_47 ⟨Nat.zero_le _, Nat.zero_le _⟩ (fun r_47 u_47 H locs q_47 hP hD hS => ?_)
    obtain ⟨eu_47, er_47⟩ := q_47
    subst eu_47
    subst er_47
    refine W.eq (g2 := F0 m 50 ls (.int 1 :: [])) rfl ?_
    refine lv_if_eq (tgt := 55) hx hb dX1_code_50 (by decide) (fun c_50 => ?_) (fun c_50 => ?_)
    · exact absurd c_50 (by decide)
    · refine lv_lconst (v := 0) hx hb dX1_code_53 (by decide) ?_
      exact mm_lret (mw := rW h a cA) (u1 := (u.1, 1, u.2.2.1, u.2.2.2.1, u.2.2.2.2.1, u.2.2.2.2.2)) hx hb hr hlocks hP hK hD hS dX1_code_54 ⟨hI, Or.inr ⟨(fun hk => by rcases q_3 with q | q; exact q.2 ((pl_of _).mpr hk.1); exact absurd (c_6.symm.trans q.1) (by decide)), rfl⟩⟩
  · refine lv_iload_n hx hb dX1_code_9 rfl (lv_at hl 2 rfl) ?_
    refine lv_if_lt (tgt := 42) hx hb dX1_code_10 (by decide) (fun c_10 => ?_) (fun c_10 => ?_)
    · refine lv_iconst (v := 1) hx hb dX1_code_42 (by decide) ?_
      refine lv_goto (tgt := 47) hx hb dX1_code_43 (by decide) ?_
      refine r_go (rv := rv_i) (As := [.int 1]) (rest := []) ⟨hx, hb, hml, hown, hts⟩ (kX1_bad l D h a cA (u.1, u.2.1, u.2.2.1, u.2.2.2.1, u.2.2.2.2.1, u.2.2.2.2.2) hI 1 (Or.inr rfl)) (cwV 1 hts gX1_code_X1_bad rfl rfl rfl (by decide +kernel) ⟨by decide, by decide⟩) hK hP hD hS rfl hl.1 rfl (Nat.le_of_ble_eq_true rfl) dX1_code_47 ⟨Nat.zero_le _, Nat.zero_le _⟩ (fun r_47 u_47 H locs q_47 hP hD hS => ?_)
      obtain ⟨eu_47, er_47⟩ := q_47
      subst eu_47
      subst er_47
      refine W.eq (g2 := F0 m 50 ls (.int 1 :: [])) rfl ?_
      refine lv_if_eq (tgt := 55) hx hb dX1_code_50 (by decide) (fun c_50 => ?_) (fun c_50 => ?_)
      · exact absurd c_50 (by decide)
      · refine lv_lconst (v := 0) hx hb dX1_code_53 (by decide) ?_
        exact mm_lret (mw := rW h a cA) (u1 := (u.1, 1, u.2.2.1, u.2.2.2.1, u.2.2.2.2.1, u.2.2.2.2.2)) hx hb hr hlocks hP hK hD hS dX1_code_54 ⟨hI, Or.inr ⟨(fun hk => hk.2.1.1 c_10), rfl⟩⟩
    · refine lv_iload_n hx hb dX1_code_13 rfl (lv_at hl 2 rfl) ?_
      refine lv_sipush (v := 511) hx hb dX1_code_14 (by decide) ?_
      refine lv_icmp_gt (tgt := 42) hx hb dX1_code_17 (by decide) (fun c_17 => ?_) (fun c_17 => ?_)
      · refine lv_iconst (v := 1) hx hb dX1_code_42 (by decide) ?_
        refine lv_goto (tgt := 47) hx hb dX1_code_43 (by decide) ?_
        refine r_go (rv := rv_i) (As := [.int 1]) (rest := []) ⟨hx, hb, hml, hown, hts⟩ (kX1_bad l D h a cA (u.1, u.2.1, u.2.2.1, u.2.2.2.1, u.2.2.2.2.1, u.2.2.2.2.2) hI 1 (Or.inr rfl)) (cwV 1 hts gX1_code_X1_bad rfl rfl rfl (by decide +kernel) ⟨by decide, by decide⟩) hK hP hD hS rfl hl.1 rfl (Nat.le_of_ble_eq_true rfl) dX1_code_47 ⟨Nat.zero_le _, Nat.zero_le _⟩ (fun r_47 u_47 H locs q_47 hP hD hS => ?_)
        obtain ⟨eu_47, er_47⟩ := q_47
        subst eu_47
        subst er_47
        refine W.eq (g2 := F0 m 50 ls (.int 1 :: [])) rfl ?_
        refine lv_if_eq (tgt := 55) hx hb dX1_code_50 (by decide) (fun c_50 => ?_) (fun c_50 => ?_)
        · exact absurd c_50 (by decide)
        · refine lv_lconst (v := 0) hx hb dX1_code_53 (by decide) ?_
          exact mm_lret (mw := rW h a cA) (u1 := (u.1, 1, u.2.2.1, u.2.2.2.1, u.2.2.2.2.1, u.2.2.2.2.2)) hx hb hr hlocks hP hK hD hS dX1_code_54 ⟨hI, Or.inr ⟨(fun hk => absurd hk.2.1.2 (Int32.not_le.mpr c_17)), rfl⟩⟩
      · refine lv_iload_n hx hb dX1_code_20 rfl (lv_at hl 3 rfl) ?_
        refine lv_if_lt (tgt := 42) hx hb dX1_code_21 (by decide) (fun c_21 => ?_) (fun c_21 => ?_)
        · refine lv_iconst (v := 1) hx hb dX1_code_42 (by decide) ?_
          refine lv_goto (tgt := 47) hx hb dX1_code_43 (by decide) ?_
          refine r_go (rv := rv_i) (As := [.int 1]) (rest := []) ⟨hx, hb, hml, hown, hts⟩ (kX1_bad l D h a cA (u.1, u.2.1, u.2.2.1, u.2.2.2.1, u.2.2.2.2.1, u.2.2.2.2.2) hI 1 (Or.inr rfl)) (cwV 1 hts gX1_code_X1_bad rfl rfl rfl (by decide +kernel) ⟨by decide, by decide⟩) hK hP hD hS rfl hl.1 rfl (Nat.le_of_ble_eq_true rfl) dX1_code_47 ⟨Nat.zero_le _, Nat.zero_le _⟩ (fun r_47 u_47 H locs q_47 hP hD hS => ?_)
          obtain ⟨eu_47, er_47⟩ := q_47
          subst eu_47
          subst er_47
          refine W.eq (g2 := F0 m 50 ls (.int 1 :: [])) rfl ?_
          refine lv_if_eq (tgt := 55) hx hb dX1_code_50 (by decide) (fun c_50 => ?_) (fun c_50 => ?_)
          · exact absurd c_50 (by decide)
          · refine lv_lconst (v := 0) hx hb dX1_code_53 (by decide) ?_
            exact mm_lret (mw := rW h a cA) (u1 := (u.1, 1, u.2.2.1, u.2.2.2.1, u.2.2.2.2.1, u.2.2.2.2.2)) hx hb hr hlocks hP hK hD hS dX1_code_54 ⟨hI, Or.inr ⟨(fun hk => hk.2.2.1.1 c_21), rfl⟩⟩
        · refine lv_iload_n hx hb dX1_code_24 rfl (lv_at hl 3 rfl) ?_
          refine lv_bipush (v := 15) hx hb dX1_code_25 (by decide) ?_
          refine lv_icmp_gt (tgt := 42) hx hb dX1_code_27 (by decide) (fun c_27 => ?_) (fun c_27 => ?_)
          · refine lv_iconst (v := 1) hx hb dX1_code_42 (by decide) ?_
            refine lv_goto (tgt := 47) hx hb dX1_code_43 (by decide) ?_
            refine r_go (rv := rv_i) (As := [.int 1]) (rest := []) ⟨hx, hb, hml, hown, hts⟩ (kX1_bad l D h a cA (u.1, u.2.1, u.2.2.1, u.2.2.2.1, u.2.2.2.2.1, u.2.2.2.2.2) hI 1 (Or.inr rfl)) (cwV 1 hts gX1_code_X1_bad rfl rfl rfl (by decide +kernel) ⟨by decide, by decide⟩) hK hP hD hS rfl hl.1 rfl (Nat.le_of_ble_eq_true rfl) dX1_code_47 ⟨Nat.zero_le _, Nat.zero_le _⟩ (fun r_47 u_47 H locs q_47 hP hD hS => ?_)
            obtain ⟨eu_47, er_47⟩ := q_47
            subst eu_47
            subst er_47
            refine W.eq (g2 := F0 m 50 ls (.int 1 :: [])) rfl ?_
            refine lv_if_eq (tgt := 55) hx hb dX1_code_50 (by decide) (fun c_50 => ?_) (fun c_50 => ?_)
            · exact absurd c_50 (by decide)
            · refine lv_lconst (v := 0) hx hb dX1_code_53 (by decide) ?_
              exact mm_lret (mw := rW h a cA) (u1 := (u.1, 1, u.2.2.1, u.2.2.2.1, u.2.2.2.2.1, u.2.2.2.2.2)) hx hb hr hlocks hP hK hD hS dX1_code_54 ⟨hI, Or.inr ⟨(fun hk => absurd hk.2.2.1.2 (Int32.not_le.mpr c_27)), rfl⟩⟩
          · refine lv_iload hx hb dX1_code_30 (lv_at hl 5 rfl) ?_
            refine lv_if_lt (tgt := 42) hx hb dX1_code_32 (by decide) (fun c_32 => ?_) (fun c_32 => ?_)
            · refine lv_iconst (v := 1) hx hb dX1_code_42 (by decide) ?_
              refine lv_goto (tgt := 47) hx hb dX1_code_43 (by decide) ?_
              refine r_go (rv := rv_i) (As := [.int 1]) (rest := []) ⟨hx, hb, hml, hown, hts⟩ (kX1_bad l D h a cA (u.1, u.2.1, u.2.2.1, u.2.2.2.1, u.2.2.2.2.1, u.2.2.2.2.2) hI 1 (Or.inr rfl)) (cwV 1 hts gX1_code_X1_bad rfl rfl rfl (by decide +kernel) ⟨by decide, by decide⟩) hK hP hD hS rfl hl.1 rfl (Nat.le_of_ble_eq_true rfl) dX1_code_47 ⟨Nat.zero_le _, Nat.zero_le _⟩ (fun r_47 u_47 H locs q_47 hP hD hS => ?_)
              obtain ⟨eu_47, er_47⟩ := q_47
              subst eu_47
              subst er_47
              refine W.eq (g2 := F0 m 50 ls (.int 1 :: [])) rfl ?_
              refine lv_if_eq (tgt := 55) hx hb dX1_code_50 (by decide) (fun c_50 => ?_) (fun c_50 => ?_)
              · exact absurd c_50 (by decide)
              · refine lv_lconst (v := 0) hx hb dX1_code_53 (by decide) ?_
                exact mm_lret (mw := rW h a cA) (u1 := (u.1, 1, u.2.2.1, u.2.2.2.1, u.2.2.2.2.1, u.2.2.2.2.2)) hx hb hr hlocks hP hK hD hS dX1_code_54 ⟨hI, Or.inr ⟨(fun hk => hk.2.2.2.1 c_32), rfl⟩⟩
            · refine lv_iload hx hb dX1_code_35 (lv_at hl 5 rfl) ?_
              refine lv_bipush (v := 15) hx hb dX1_code_37 (by decide) ?_
              refine lv_icmp_le (tgt := 46) hx hb dX1_code_39 (by decide) (fun c_39 => ?_) (fun c_39 => ?_)
              · refine lv_iconst (v := 0) hx hb dX1_code_46 (by decide) ?_
                refine r_go (rv := rv_i) (As := [.int 0]) (rest := []) ⟨hx, hb, hml, hown, hts⟩ (kX1_bad l D h a cA (u.1, u.2.1, u.2.2.1, u.2.2.2.1, u.2.2.2.2.1, u.2.2.2.2.2) hI 0 (Or.inl rfl)) (cwV 1 hts gX1_code_X1_bad rfl rfl rfl (by decide +kernel) ⟨by decide, by decide⟩) hK hP hD hS rfl hl.1 rfl (Nat.le_of_ble_eq_true rfl) dX1_code_47 ⟨Nat.zero_le _, Nat.zero_le _⟩ (fun r_47 u_47 H locs q_47 hP hD hS => ?_)
                obtain ⟨eu_47, er_47⟩ := q_47
                subst eu_47
                subst er_47
                refine W.eq (g2 := F0 m 50 ls (.int 0 :: [])) rfl ?_
                refine lv_if_eq (tgt := 55) hx hb dX1_code_50 (by decide) (fun c_50 => ?_) (fun c_50 => ?_)
                · refine lv_iload_n hx hb dX1_code_55 rfl (lv_at hl 2 rfl) ?_
                  refine lv_i2l hx hb dX1_code_56 rfl ?_
                  refine lv_bipush (v := 27) hx hb dX1_code_57 (by decide) ?_
                  refine lv_lshl hx hb dX1_code_59 rfl ?_
                  refine lv_iload_n hx hb dX1_code_60 rfl (lv_at hl 3 rfl) ?_
                  refine lv_i2l hx hb dX1_code_61 rfl ?_
                  refine lv_bipush (v := 23) hx hb dX1_code_62 (by decide) ?_
                  refine lv_lshl hx hb dX1_code_64 rfl ?_
                  refine lv_lor hx hb dX1_code_65 ?_
                  refine lv_iload hx hb dX1_code_66 (lv_at hl 4 rfl) ?_
                  refine lv_if_eq (tgt := 77) hx hb dX1_code_68 (by decide) (fun c_68 => ?_) (fun c_68 => ?_)
                  · refine lv_lconst (v := 0) hx hb dX1_code_77 (by decide) ?_
                    refine lv_lor hx hb dX1_code_78 ?_
                    refine lv_iload hx hb dX1_code_79 (lv_at hl 5 rfl) ?_
                    refine lv_i2l hx hb dX1_code_81 rfl ?_
                    refine lv_bipush (v := 18) hx hb dX1_code_82 (by decide) ?_
                    refine lv_lshl hx hb dX1_code_84 rfl ?_
                    refine lv_lor hx hb dX1_code_85 ?_
                    refine lv_iload hx hb dX1_code_86 (lv_at hl 6 rfl) ?_
                    refine lv_i2l hx hb dX1_code_88 rfl ?_
                    refine lv_ldc2 (v := 262143) hx hb hown (hts (.constantLong RX1 31 262143) (by decide +kernel)) dX1_code_89 ?_
                    refine lv_land hx hb dX1_code_92 ?_
                    refine lv_lor hx hb dX1_code_93 ?_
                    refine lv_topl (fun x_94 ex_94 => ?_)
                    refine lv_lstore (lv' := [(7, .long x_94), (0, .ref h), (1, .int i), (2, .int op), (3, .int ac), (4, .int z0), (5, .int x0), (6, .int y0)]) hx hb dX1_code_94 hl (by decide) rfl (fun ls hl => ?_)
                    refine lv_aload_n hx hb dX1_code_96 rfl (lv_at hl 1 rfl) ?_
                    refine va_get (D := D) (ci := 1) (v := .ref a) (C := RX1) (T := TX1) (N := 6) hx hb hts iw_X1_code hown hK hP 0 rfl rfl 1 (by decide) (hts (.fieldLink RX1 7 "WordMillModel" "memory" "[J") (by decide +kernel)) (fun _ h9 => h9) rfl dX1_code_97 ?_
                    refine lv_iload_n hx hb dX1_code_100 rfl (lv_at hl 2 rfl) ?_
                    refine lv_lload hx hb dX1_code_101 (lv_at hl 0 rfl) ?_
                    refine va_last hx hb hK hP hD hS 1 0 rfl rfl ((pl_of _).mp (by rcases q_3 with q | q; exact absurd q.1 c_6; exact q.2)) dX1_code_103 (fun H locs hP hD hS => ?_)
                    have hP : va_P D vwCl (rW h a cA ((vp_updL u.1 (i : Int32).toNatClampNeg x_94), 0, u.2.2.1, u.2.2.2.1, u.2.2.2.2.1, u.2.2.2.2.2)) H := hP
                    have hD : va_D (wA h a) (rW h a cA ((vp_updL u.1 (i : Int32).toNatClampNeg x_94), 0, u.2.2.1, u.2.2.2.1, u.2.2.2.2.1, u.2.2.2.2.2)) := hD
                    generalize (vp_updL u.1 (i : Int32).toNatClampNeg x_94) = f_103 at hP hD
                    refine lv_lload hx hb dX1_code_104 (lv_at hl 0 rfl) ?_
                    exact mm_lret (mw := rW h a cA) (u1 := (f_103, 0, u.2.2.1, u.2.2.2.1, u.2.2.2.2.1, u.2.2.2.2.2)) hx hb hr hlocks hP hK hD hS dX1_code_106 ⟨hI, Or.inl ⟨⟨(pl_of _).mp (by rcases q_3 with q | q; exact absurd q.1 c_6; exact q.2), ⟨c_10, Int32.not_lt.mp c_17⟩, ⟨c_21, Int32.not_lt.mp c_27⟩, ⟨c_32, c_39⟩⟩, rfl, by rw [ex_94, rc_code, if_pos c_68]⟩⟩
                  · refine lv_ldc2 (v := 4194304) hx hb hown (hts (.constantLong RX1 29 4194304) (by decide +kernel)) dX1_code_71 ?_
                    refine lv_goto (tgt := 78) hx hb dX1_code_74 (by decide) ?_
                    refine lv_lor hx hb dX1_code_78 ?_
                    refine lv_iload hx hb dX1_code_79 (lv_at hl 5 rfl) ?_
                    refine lv_i2l hx hb dX1_code_81 rfl ?_
                    refine lv_bipush (v := 18) hx hb dX1_code_82 (by decide) ?_
                    refine lv_lshl hx hb dX1_code_84 rfl ?_
                    refine lv_lor hx hb dX1_code_85 ?_
                    refine lv_iload hx hb dX1_code_86 (lv_at hl 6 rfl) ?_
                    refine lv_i2l hx hb dX1_code_88 rfl ?_
                    refine lv_ldc2 (v := 262143) hx hb hown (hts (.constantLong RX1 31 262143) (by decide +kernel)) dX1_code_89 ?_
                    refine lv_land hx hb dX1_code_92 ?_
                    refine lv_lor hx hb dX1_code_93 ?_
                    refine lv_topl (fun x_94 ex_94 => ?_)
                    refine lv_lstore (lv' := [(7, .long x_94), (0, .ref h), (1, .int i), (2, .int op), (3, .int ac), (4, .int z0), (5, .int x0), (6, .int y0)]) hx hb dX1_code_94 hl (by decide) rfl (fun ls hl => ?_)
                    refine lv_aload_n hx hb dX1_code_96 rfl (lv_at hl 1 rfl) ?_
                    refine va_get (D := D) (ci := 1) (v := .ref a) (C := RX1) (T := TX1) (N := 6) hx hb hts iw_X1_code hown hK hP 0 rfl rfl 1 (by decide) (hts (.fieldLink RX1 7 "WordMillModel" "memory" "[J") (by decide +kernel)) (fun _ h9 => h9) rfl dX1_code_97 ?_
                    refine lv_iload_n hx hb dX1_code_100 rfl (lv_at hl 2 rfl) ?_
                    refine lv_lload hx hb dX1_code_101 (lv_at hl 0 rfl) ?_
                    refine va_last hx hb hK hP hD hS 1 0 rfl rfl ((pl_of _).mp (by rcases q_3 with q | q; exact absurd q.1 c_6; exact q.2)) dX1_code_103 (fun H locs hP hD hS => ?_)
                    have hP : va_P D vwCl (rW h a cA ((vp_updL u.1 (i : Int32).toNatClampNeg x_94), 0, u.2.2.1, u.2.2.2.1, u.2.2.2.2.1, u.2.2.2.2.2)) H := hP
                    have hD : va_D (wA h a) (rW h a cA ((vp_updL u.1 (i : Int32).toNatClampNeg x_94), 0, u.2.2.1, u.2.2.2.1, u.2.2.2.2.1, u.2.2.2.2.2)) := hD
                    generalize (vp_updL u.1 (i : Int32).toNatClampNeg x_94) = f_103 at hP hD
                    refine lv_lload hx hb dX1_code_104 (lv_at hl 0 rfl) ?_
                    exact mm_lret (mw := rW h a cA) (u1 := (f_103, 0, u.2.2.1, u.2.2.2.1, u.2.2.2.2.1, u.2.2.2.2.2)) hx hb hr hlocks hP hK hD hS dX1_code_106 ⟨hI, Or.inl ⟨⟨(pl_of _).mp (by rcases q_3 with q | q; exact absurd q.1 c_6; exact q.2), ⟨c_10, Int32.not_lt.mp c_17⟩, ⟨c_21, Int32.not_lt.mp c_27⟩, ⟨c_32, c_39⟩⟩, rfl, by rw [ex_94, rc_code, if_neg c_68]⟩⟩
                · exact absurd c_50 (by decide)
              · refine lv_iconst (v := 1) hx hb dX1_code_42 (by decide) ?_
                refine lv_goto (tgt := 47) hx hb dX1_code_43 (by decide) ?_
                refine r_go (rv := rv_i) (As := [.int 1]) (rest := []) ⟨hx, hb, hml, hown, hts⟩ (kX1_bad l D h a cA (u.1, u.2.1, u.2.2.1, u.2.2.2.1, u.2.2.2.2.1, u.2.2.2.2.2) hI 1 (Or.inr rfl)) (cwV 1 hts gX1_code_X1_bad rfl rfl rfl (by decide +kernel) ⟨by decide, by decide⟩) hK hP hD hS rfl hl.1 rfl (Nat.le_of_ble_eq_true rfl) dX1_code_47 ⟨Nat.zero_le _, Nat.zero_le _⟩ (fun r_47 u_47 H locs q_47 hP hD hS => ?_)
                obtain ⟨eu_47, er_47⟩ := q_47
                subst eu_47
                subst er_47
                refine W.eq (g2 := F0 m 50 ls (.int 1 :: [])) rfl ?_
                refine lv_if_eq (tgt := 55) hx hb dX1_code_50 (by decide) (fun c_50 => ?_) (fun c_50 => ?_)
                · exact absurd c_50 (by decide)
                · refine lv_lconst (v := 0) hx hb dX1_code_53 (by decide) ?_
                  exact mm_lret (mw := rW h a cA) (u1 := (u.1, 1, u.2.2.1, u.2.2.2.1, u.2.2.2.2.1, u.2.2.2.2.2)) hx hb hr hlocks hP hK hD hS dX1_code_54 ⟨hI, Or.inr ⟨(fun hk => c_39 hk.2.2.2.2), rfl⟩⟩
theorem iw_X1_run : ∀ w ∈ u_ws RX1 TX1 6, w ∈ wsX1_run := by decide +kernel
set_option maxHeartbeats 4000000 in
set_option maxRecDepth 100000 in
theorem kX1_run (l : Launch) (D : va_G) (h a : Nat) (cA : ClassId) (u : rS) (hI : rI u) (n0 : Int32)  : MM l yX1_run wsX1_run ({ frames := 4, cells := 0, slots := 0, locals := 107 }) D vwCl [(cA, .long)] (rW h a cA) (wA h a) u [.ref h, .int n0] rv_i (fun r u' => rI u' ∧ (okn n0 → u'.2.1 = 0) ∧ (¬ okn n0 → u'.2.1 = 1) ∧ (okn n0 → fz u.1 n0 r)) := by
  refine mm_of (cc := cX1_run) (maxL := 5) (ret := (some .int)) (by decide) rfl (Nat.le_of_ble_eq_true rfl) (rA_in h a cA u) ?_
  intro p e s m below meth c ls C hl hP hK hD hS
  obtain ⟨hx, hb, hr, hml, hown, hts, hlocks⟩ := C
  have hl : lv_has ls 5 [(0, .ref h), (1, .int n0)] := hl
  have loop : ∀ (n i : Nat) (N : Nat) (u1 : rS) (H : Heap) (locs : List Loc) (ls : Array Slot), N - i < n → n0 = nI N → N ≤ 20000 → u1.2.2.2.1 = nI i → i ≤ N → rI u1 → u1.2.1 = 0 → ((∀ q, u.1 q = 0) → i = 0 ∧ ∀ q, u1.1 q = 0) → va_P D vwCl (rW h a cA u1) H → va_D (wA h a) (rW h a cA u1) → va_S (wA h a) s.heap H locs → lv_has ls 5 [(0, .ref h), (1, .int n0)] → W p l e ({ frames := 4, cells := 0, slots := 0, locals := 107 }) s m ([.ref h, .int n0] : List Value).toArray below meth c H locs 0 0 (MQ below (mm_Q rv_i D vwCl [(cA, .long)] (fun r u' => rI u' ∧ (okn n0 → u'.2.1 = 0) ∧ (¬ okn n0 → u'.2.1 = 1) ∧ (okn n0 → fz u.1 n0 r)) (rW h a cA) (wA h a)) ([.ref h, .int n0] : List Value).toArray s 0 0 (wA h a)) (F0 m 30 ls []) := by
    intro n
    induction n with
    | zero => intro i N u1 H locs ls hn; exact absurd hn (Nat.not_lt_zero _)
    | succ n ih =>
      intro i N u1 H locs ls hn hn0 hN hlat hi hI1 hth hfz hP hD hS hl
      refine lv_aload_n hx hb dX1_run_30 rfl (lv_at hl 0 rfl) ?_
      refine va_get (D := D) (ci := 1) (v := .int u1.2.2.2.1) (C := RX1) (T := TX1) (N := 6) hx hb hts iw_X1_run hown hK hP 0 rfl rfl 3 (by decide) (hts (.fieldLink RX1 45 "WordMillModel" "latest" "I") (by decide +kernel)) (fun _ h9 => h9) rfl dX1_run_31 ?_
      refine lv_iload_n hx hb dX1_run_34 rfl (lv_at hl 1 rfl) ?_
      refine lv_icmp_ge (tgt := 175) hx hb dX1_run_35 (by decide) (fun c_35 => ?_) (fun c_35 => ?_)
      · refine lv_iconst (v := 0) hx hb dX1_run_175 (by decide) ?_
        exact mm_iret (mw := rW h a cA) (u1 := (u1.1, u1.2.1, u1.2.2.1, u1.2.2.2.1, u1.2.2.2.2.1, u1.2.2.2.2.2)) hx hb hr hlocks hP hK hD hS dX1_run_176 ⟨hI1, fun _ => hth, fun hz => absurd (okn_of hn0 hN) hz, fun _ hq => (if_pos (fz_0 hlat hn0 hN c_35 (hfz hq).1)).symm⟩
      · have hlt : i < N := ni_lt hlat hn0 (by omega) c_35
        refine lv_aload_n hx hb dX1_run_38 rfl (lv_at hl 0 rfl) ?_
        refine va_get (D := D) (ci := 1) (v := .ref a) (C := RX1) (T := TX1) (N := 6) hx hb hts iw_X1_run hown hK hP 0 rfl rfl 1 (by decide) (hts (.fieldLink RX1 7 "WordMillModel" "memory" "[J") (by decide +kernel)) (fun _ h9 => h9) rfl dX1_run_39 ?_
        refine lv_aload_n hx hb dX1_run_42 rfl (lv_at hl 0 rfl) ?_
        refine va_get (D := D) (ci := 1) (v := .int u1.2.2.1) (C := RX1) (T := TX1) (N := 6) hx hb hts iw_X1_run hown hK hP 0 rfl rfl 2 (by decide) (hts (.fieldLink RX1 33 "WordMillModel" "pc" "I") (by decide +kernel)) (fun _ h9 => h9) rfl dX1_run_43 ?_
        refine va_lald hx hb hK hP 1 0 rfl rfl hI1 dX1_run_46 ?_
        refine lv_topl (fun x_47 ex_47 => ?_)
        refine lv_lstore_n (lv' := [(2, .long x_47), (0, .ref h), (1, .int n0)]) hx hb dX1_run_47 rfl hl (by decide) rfl (fun ls hl => ?_)
        refine lv_lload_n hx hb dX1_run_48 rfl (lv_at hl 0 rfl) ?_
        refine lv_bipush (v := 27) hx hb dX1_run_49 (by decide) ?_
        refine lv_lshr hx hb dX1_run_51 rfl ?_
        refine lv_l2i hx hb dX1_run_52 rfl ?_
        refine lv_topi (fun x_53 ex_53 => ?_)
        refine lv_istore (lv' := [(4, .int x_53), (2, .long x_47), (0, .ref h), (1, .int n0)]) hx hb dX1_run_53 hl (by decide) rfl (fun ls hl => ?_)
        refine lv_aload_n hx hb dX1_run_55 rfl (lv_at hl 2 rfl) ?_
        refine lv_iload hx hb dX1_run_56 (lv_at hl 0 rfl) ?_
        refine ps_goi (As := [.int x_53]) (rest := [.ref h]) ⟨hx, hb, hml, hown, hts⟩ (kX1_isKnown l x_53) (va_cwS 1 hts gX1_run_X1_isKnown rfl rfl rfl (by decide +kernel) ⟨by decide, by decide⟩) rfl hl.1 rfl (Nat.le_of_ble_eq_true rfl) dX1_run_58 ⟨Nat.zero_le _, Nat.zero_le _⟩ (fun r_58 q_58 => ?_)
        refine lv_if_eq (tgt := 68) hx hb dX1_run_61 (by decide) (fun c_61 => ?_) (fun c_61 => ?_)
        · refine lv_iconst (v := 1) hx hb dX1_run_68 (by decide) ?_
          refine va_put (D := D) (ci := 1) (v := .int 1) (ty := .int) (C := RX1) (T := TX1) (N := 6) hx hb hts iw_X1_run tyX1 tyX1_ok nmX1 hown hK hP hD hS 0 rfl rfl 4 (by decide) (hts (.fieldLink RX1 36 "WordMillModel" "fault" "I") (by decide +kernel)) (fun _ h9 => h9) rfl (by decide +kernel) rfl rfl (Nat.le_of_ble_eq_true rfl) dX1_run_69 (fun H locs hP hD hS => ?_)
          have hP : va_P D vwCl (rW h a cA (u1.1, u1.2.1, u1.2.2.1, u1.2.2.2.1, 1, u1.2.2.2.2.2)) H := hP
          have hD : va_D (wA h a) (rW h a cA (u1.1, u1.2.1, u1.2.2.1, u1.2.2.2.1, 1, u1.2.2.2.2.2)) := hD
          refine lv_iload hx hb dX1_run_72 (lv_at hl 0 rfl) ?_
          refine lv_if_ne (tgt := 113) hx hb dX1_run_74 (by decide) (fun c_74 => ?_) (fun c_74 => ?_)
          · refine lv_aload_n hx hb dX1_run_113 rfl (lv_at hl 2 rfl) ?_
            refine va_get (D := D) (ci := 1) (v := .int 1) (C := RX1) (T := TX1) (N := 6) hx hb hts iw_X1_run hown hK hP 0 rfl rfl 4 (by decide) (hts (.fieldLink RX1 36 "WordMillModel" "fault" "I") (by decide +kernel)) (fun _ h9 => h9) rfl dX1_run_114 ?_
            refine lv_if_ne (tgt := 140) hx hb dX1_run_117 (by decide) (fun c_117 => ?_) (fun c_117 => ?_)
            · refine lv_aload_n hx hb dX1_run_140 rfl (lv_at hl 2 rfl) ?_
              refine va_get (D := D) (ci := 1) (v := .int 1) (C := RX1) (T := TX1) (N := 6) hx hb hts iw_X1_run hown hK hP 0 rfl rfl 4 (by decide) (hts (.fieldLink RX1 36 "WordMillModel" "fault" "I") (by decide +kernel)) (fun _ h9 => h9) rfl dX1_run_141 ?_
              refine lv_if_eq (tgt := 152) hx hb dX1_run_144 (by decide) (fun c_144 => ?_) (fun c_144 => ?_)
              · exact absurd c_144 (by decide)
              · refine lv_aload_n hx hb dX1_run_147 rfl (lv_at hl 2 rfl) ?_
                refine va_get (D := D) (ci := 1) (v := .int 1) (C := RX1) (T := TX1) (N := 6) hx hb hts iw_X1_run hown hK hP 0 rfl rfl 4 (by decide) (hts (.fieldLink RX1 36 "WordMillModel" "fault" "I") (by decide +kernel)) (fun _ h9 => h9) rfl dX1_run_148 ?_
                exact mm_iret (mw := rW h a cA) (u1 := (u1.1, u1.2.1, u1.2.2.1, u1.2.2.2.1, 1, u1.2.2.2.2.2)) hx hb hr hlocks hP hK hD hS dX1_run_151 ⟨hI1, fun _ => hth, fun hz => absurd (okn_of hn0 hN) hz, fun _ hq => absurd (by rw [ex_53, ex_47, (hfz hq).2]; decide) c_74⟩
            · exact absurd c_117 (by decide)
          · refine lv_aload_n hx hb dX1_run_77 rfl (lv_at hl 2 rfl) ?_
            refine lv_aload_n hx hb dX1_run_78 rfl (lv_at hl 2 rfl) ?_
            refine va_get (D := D) (ci := 1) (v := .int u1.2.2.1) (C := RX1) (T := TX1) (N := 6) hx hb hts iw_X1_run hown hK hP 0 rfl rfl 2 (by decide) (hts (.fieldLink RX1 33 "WordMillModel" "pc" "I") (by decide +kernel)) (fun _ h9 => h9) rfl dX1_run_79 ?_
            refine lv_iconst (v := 1) hx hb dX1_run_82 (by decide) ?_
            refine lv_iadd hx hb dX1_run_83 ?_
            refine lv_sipush (v := 4095) hx hb dX1_run_84 (by decide) ?_
            refine lv_iand hx hb dX1_run_87 ?_
            refine lv_topi (fun x_88 ex_88 => ?_)
            refine va_put (D := D) (ci := 1) (v := .int x_88) (ty := .int) (C := RX1) (T := TX1) (N := 6) hx hb hts iw_X1_run tyX1 tyX1_ok nmX1 hown hK hP hD hS 0 rfl rfl 2 (by decide) (hts (.fieldLink RX1 33 "WordMillModel" "pc" "I") (by decide +kernel)) (fun _ h9 => h9) rfl (by decide +kernel) rfl rfl (Nat.le_of_ble_eq_true rfl) dX1_run_88 (fun H locs hP hD hS => ?_)
            have hP : va_P D vwCl (rW h a cA (u1.1, u1.2.1, x_88, u1.2.2.2.1, 1, u1.2.2.2.2.2)) H := hP
            have hD : va_D (wA h a) (rW h a cA (u1.1, u1.2.1, x_88, u1.2.2.2.1, 1, u1.2.2.2.2.2)) := hD
            refine lv_aload_n hx hb dX1_run_91 rfl (lv_at hl 2 rfl) ?_
            refine lv_dup hx hb dX1_run_92 rfl ?_
            refine va_get (D := D) (ci := 1) (v := .int u1.2.2.2.1) (C := RX1) (T := TX1) (N := 6) hx hb hts iw_X1_run hown hK hP 0 rfl rfl 3 (by decide) (hts (.fieldLink RX1 45 "WordMillModel" "latest" "I") (by decide +kernel)) (fun _ h9 => h9) rfl dX1_run_93 ?_
            refine lv_iconst (v := 1) hx hb dX1_run_96 (by decide) ?_
            refine lv_iadd hx hb dX1_run_97 ?_
            refine lv_topi (fun x_98 ex_98 => ?_)
            refine va_put (D := D) (ci := 1) (v := .int x_98) (ty := .int) (C := RX1) (T := TX1) (N := 6) hx hb hts iw_X1_run tyX1 tyX1_ok nmX1 hown hK hP hD hS 0 rfl rfl 3 (by decide) (hts (.fieldLink RX1 45 "WordMillModel" "latest" "I") (by decide +kernel)) (fun _ h9 => h9) rfl (by decide +kernel) rfl rfl (Nat.le_of_ble_eq_true rfl) dX1_run_98 (fun H locs hP hD hS => ?_)
            have hP : va_P D vwCl (rW h a cA (u1.1, u1.2.1, x_88, x_98, 1, u1.2.2.2.2.2)) H := hP
            have hD : va_D (wA h a) (rW h a cA (u1.1, u1.2.1, x_88, x_98, 1, u1.2.2.2.2.2)) := hD
            refine lv_aload_n hx hb dX1_run_101 rfl (lv_at hl 2 rfl) ?_
            refine lv_dup hx hb dX1_run_102 rfl ?_
            refine va_get (D := D) (ci := 1) (v := .long u1.2.2.2.2.2) (C := RX1) (T := TX1) (N := 6) hx hb hts iw_X1_run hown hK hP 0 rfl rfl 5 (by decide) (hts (.fieldLink RX1 52 "WordMillModel" "done" "J") (by decide +kernel)) (fun _ h9 => h9) rfl dX1_run_103 ?_
            refine lv_lconst (v := 1) hx hb dX1_run_106 (by decide) ?_
            refine lv_ladd hx hb dX1_run_107 ?_
            refine lv_topl (fun x_108 ex_108 => ?_)
            refine va_put (D := D) (ci := 1) (v := .long x_108) (ty := .long) (C := RX1) (T := TX1) (N := 6) hx hb hts iw_X1_run tyX1 tyX1_ok nmX1 hown hK hP hD hS 0 rfl rfl 5 (by decide) (hts (.fieldLink RX1 52 "WordMillModel" "done" "J") (by decide +kernel)) (fun _ h9 => h9) rfl (by decide +kernel) rfl rfl (Nat.le_of_ble_eq_true rfl) dX1_run_108 (fun H locs hP hD hS => ?_)
            have hP : va_P D vwCl (rW h a cA (u1.1, u1.2.1, x_88, x_98, 1, x_108)) H := hP
            have hD : va_D (wA h a) (rW h a cA (u1.1, u1.2.1, x_88, x_98, 1, x_108)) := hD
            refine lv_iconst (v := -1) hx hb dX1_run_111 (by decide) ?_
            exact mm_iret (mw := rW h a cA) (u1 := (u1.1, u1.2.1, x_88, x_98, 1, x_108)) hx hb hr hlocks hP hK hD hS dX1_run_112 ⟨(by rw [ex_88]; exact vp_and4095 _), fun _ => hth, fun hz => absurd (okn_of hn0 hN) hz, fun _ _ => (if_neg (fz_1 hn0 hN hlt)).symm⟩
        · refine lv_iconst (v := 0) hx hb dX1_run_64 (by decide) ?_
          refine lv_goto (tgt := 69) hx hb dX1_run_65 (by decide) ?_
          refine va_put (D := D) (ci := 1) (v := .int 0) (ty := .int) (C := RX1) (T := TX1) (N := 6) hx hb hts iw_X1_run tyX1 tyX1_ok nmX1 hown hK hP hD hS 0 rfl rfl 4 (by decide) (hts (.fieldLink RX1 36 "WordMillModel" "fault" "I") (by decide +kernel)) (fun _ h9 => h9) rfl (by decide +kernel) rfl rfl (Nat.le_of_ble_eq_true rfl) dX1_run_69 (fun H locs hP hD hS => ?_)
          have hP : va_P D vwCl (rW h a cA (u1.1, u1.2.1, u1.2.2.1, u1.2.2.2.1, 0, u1.2.2.2.2.2)) H := hP
          have hD : va_D (wA h a) (rW h a cA (u1.1, u1.2.1, u1.2.2.1, u1.2.2.2.1, 0, u1.2.2.2.2.2)) := hD
          refine lv_iload hx hb dX1_run_72 (lv_at hl 0 rfl) ?_
          refine lv_if_ne (tgt := 113) hx hb dX1_run_74 (by decide) (fun c_74 => ?_) (fun c_74 => ?_)
          · refine lv_aload_n hx hb dX1_run_113 rfl (lv_at hl 2 rfl) ?_
            refine va_get (D := D) (ci := 1) (v := .int 0) (C := RX1) (T := TX1) (N := 6) hx hb hts iw_X1_run hown hK hP 0 rfl rfl 4 (by decide) (hts (.fieldLink RX1 36 "WordMillModel" "fault" "I") (by decide +kernel)) (fun _ h9 => h9) rfl dX1_run_114 ?_
            refine lv_if_ne (tgt := 140) hx hb dX1_run_117 (by decide) (fun c_117 => ?_) (fun c_117 => ?_)
            · exact absurd c_117 (by decide)
            · refine lv_aload_n hx hb dX1_run_120 rfl (lv_at hl 2 rfl) ?_
              refine lv_iload hx hb dX1_run_121 (lv_at hl 0 rfl) ?_
              refine lv_lload_n hx hb dX1_run_123 rfl (lv_at hl 1 rfl) ?_
              refine lv_bipush (v := 23) hx hb dX1_run_124 (by decide) ?_
              refine lv_lshr hx hb dX1_run_126 rfl ?_
              refine lv_ldc2 (v := 15) hx hb hown (hts (.constantLong RX1 39 15) (by decide +kernel)) dX1_run_127 ?_
              refine lv_land hx hb dX1_run_130 ?_
              refine lv_l2i hx hb dX1_run_131 rfl ?_
              refine lv_aload_n hx hb dX1_run_132 rfl (lv_at hl 2 rfl) ?_
              refine lv_lload_n hx hb dX1_run_133 rfl (lv_at hl 1 rfl) ?_
              refine r_go (rv := rv_l) (As := [.long x_47]) (rest := [.int ((((x_47 >>> ((23 : Int32).toInt64 &&& 63)) &&& 15) : Int64).toInt32), .int x_53, .ref h]) ⟨hx, hb, hml, hown, hts⟩ (kX1_effective l D h a cA (u1.1, u1.2.1, u1.2.2.1, u1.2.2.2.1, 0, u1.2.2.2.2.2) hI1 x_47 ) (cwV 1 hts gX1_run_X1_effective rfl rfl rfl (by decide +kernel) ⟨by decide, by decide⟩) hK hP hD hS rfl hl.1 rfl (Nat.le_of_ble_eq_true rfl) dX1_run_134 ⟨Nat.zero_le _, Nat.zero_le _⟩ (fun r_134 u_134 H locs q_134 hP hD hS => ?_)
              refine W.eq (g2 := F0 m 137 ls (.long r_134 :: [.int ((((x_47 >>> ((23 : Int32).toInt64 &&& 63)) &&& 15) : Int64).toInt32), .int x_53, .ref h])) rfl ?_
              refine r_go (rv := rv_v) (As := [.int x_53, .int ((((x_47 >>> ((23 : Int32).toInt64 &&& 63)) &&& 15) : Int64).toInt32), .long r_134]) (rest := []) ⟨hx, hb, hml, hown, hts⟩ (kX1_one l D h a cA (u_134.1, u_134.2.1, u_134.2.2.1, u_134.2.2.2.1, u_134.2.2.2.2.1, u_134.2.2.2.2.2) q_134.1 x_53 ((((x_47 >>> ((23 : Int32).toInt64 &&& 63)) &&& 15) : Int64).toInt32) r_134 (la15 _)) (cwV 3 hts gX1_run_X1_one rfl rfl rfl (by decide +kernel) ⟨by decide, by decide⟩) hK hP hD hS rfl hl.1 rfl (Nat.le_of_ble_eq_true rfl) dX1_run_137 ⟨Nat.zero_le _, Nat.zero_le _⟩ (fun _ u_137 H locs q_137 hP hD hS => ?_)
              refine W.eq (g2 := F0 m 140 ls []) rfl ?_
              refine lv_aload_n hx hb dX1_run_140 rfl (lv_at hl 2 rfl) ?_
              refine va_get (D := D) (ci := 1) (v := .int u_137.2.2.2.2.1) (C := RX1) (T := TX1) (N := 6) hx hb hts iw_X1_run hown hK hP 0 rfl rfl 4 (by decide) (hts (.fieldLink RX1 36 "WordMillModel" "fault" "I") (by decide +kernel)) (fun _ h9 => h9) rfl dX1_run_141 ?_
              refine lv_if_eq (tgt := 152) hx hb dX1_run_144 (by decide) (fun c_144 => ?_) (fun c_144 => ?_)
              · refine lv_aload_n hx hb dX1_run_152 rfl (lv_at hl 2 rfl) ?_
                refine lv_dup hx hb dX1_run_153 rfl ?_
                refine va_get (D := D) (ci := 1) (v := .int u_137.2.2.2.1) (C := RX1) (T := TX1) (N := 6) hx hb hts iw_X1_run hown hK hP 0 rfl rfl 3 (by decide) (hts (.fieldLink RX1 45 "WordMillModel" "latest" "I") (by decide +kernel)) (fun _ h9 => h9) rfl dX1_run_154 ?_
                refine lv_iconst (v := 1) hx hb dX1_run_157 (by decide) ?_
                refine lv_iadd hx hb dX1_run_158 ?_
                refine lv_topi (fun x_159 ex_159 => ?_)
                refine va_put (D := D) (ci := 1) (v := .int x_159) (ty := .int) (C := RX1) (T := TX1) (N := 6) hx hb hts iw_X1_run tyX1 tyX1_ok nmX1 hown hK hP hD hS 0 rfl rfl 3 (by decide) (hts (.fieldLink RX1 45 "WordMillModel" "latest" "I") (by decide +kernel)) (fun _ h9 => h9) rfl (by decide +kernel) rfl rfl (Nat.le_of_ble_eq_true rfl) dX1_run_159 (fun H locs hP hD hS => ?_)
                have hP : va_P D vwCl (rW h a cA (u_137.1, u_137.2.1, u_137.2.2.1, x_159, u_137.2.2.2.2.1, u_137.2.2.2.2.2)) H := hP
                have hD : va_D (wA h a) (rW h a cA (u_137.1, u_137.2.1, u_137.2.2.1, x_159, u_137.2.2.2.2.1, u_137.2.2.2.2.2)) := hD
                refine lv_aload_n hx hb dX1_run_162 rfl (lv_at hl 2 rfl) ?_
                refine lv_dup hx hb dX1_run_163 rfl ?_
                refine va_get (D := D) (ci := 1) (v := .long u_137.2.2.2.2.2) (C := RX1) (T := TX1) (N := 6) hx hb hts iw_X1_run hown hK hP 0 rfl rfl 5 (by decide) (hts (.fieldLink RX1 52 "WordMillModel" "done" "J") (by decide +kernel)) (fun _ h9 => h9) rfl dX1_run_164 ?_
                refine lv_lconst (v := 1) hx hb dX1_run_167 (by decide) ?_
                refine lv_ladd hx hb dX1_run_168 ?_
                refine lv_topl (fun x_169 ex_169 => ?_)
                refine va_put (D := D) (ci := 1) (v := .long x_169) (ty := .long) (C := RX1) (T := TX1) (N := 6) hx hb hts iw_X1_run tyX1 tyX1_ok nmX1 hown hK hP hD hS 0 rfl rfl 5 (by decide) (hts (.fieldLink RX1 52 "WordMillModel" "done" "J") (by decide +kernel)) (fun _ h9 => h9) rfl (by decide +kernel) rfl rfl (Nat.le_of_ble_eq_true rfl) dX1_run_169 (fun H locs hP hD hS => ?_)
                have hP : va_P D vwCl (rW h a cA (u_137.1, u_137.2.1, u_137.2.2.1, x_159, u_137.2.2.2.2.1, x_169)) H := hP
                have hD : va_D (wA h a) (rW h a cA (u_137.1, u_137.2.1, u_137.2.2.1, x_159, u_137.2.2.2.2.1, x_169)) := hD
                refine lv_goto (tgt := 30) hx hb dX1_run_172 (by decide) ?_
                exact ih (i + 1) N _ _ _ _ (by omega) hn0 hN (show x_159 = nI (i + 1) by rw [ex_159, (q_137.2.2.trans (q_134.2.2.trans hlat))]; exact nI_1 i) (by omega) (show rI (u_137.1, u_137.2.1, u_137.2.2.1, x_159, u_137.2.2.2.2.1, x_169) from q_137.1) (show u_137.2.1 = 0 from (q_137.2.1.trans (q_134.2.1.trans hth))) (fun hq => absurd (by rw [ex_53, ex_47, (hfz hq).2]; decide) c_74) hP hD hS (lv_sub hl [2, 3] rfl)
              · refine lv_aload_n hx hb dX1_run_147 rfl (lv_at hl 2 rfl) ?_
                refine va_get (D := D) (ci := 1) (v := .int u_137.2.2.2.2.1) (C := RX1) (T := TX1) (N := 6) hx hb hts iw_X1_run hown hK hP 0 rfl rfl 4 (by decide) (hts (.fieldLink RX1 36 "WordMillModel" "fault" "I") (by decide +kernel)) (fun _ h9 => h9) rfl dX1_run_148 ?_
                exact mm_iret (mw := rW h a cA) (u1 := (u_137.1, u_137.2.1, u_137.2.2.1, u_137.2.2.2.1, u_137.2.2.2.2.1, u_137.2.2.2.2.2)) hx hb hr hlocks hP hK hD hS dX1_run_151 ⟨q_137.1, fun _ => (q_137.2.1.trans (q_134.2.1.trans hth)), fun hz => absurd (okn_of hn0 hN) hz, fun _ hq => absurd (by rw [ex_53, ex_47, (hfz hq).2]; decide) c_74⟩
          · refine lv_aload_n hx hb dX1_run_77 rfl (lv_at hl 2 rfl) ?_
            refine lv_aload_n hx hb dX1_run_78 rfl (lv_at hl 2 rfl) ?_
            refine va_get (D := D) (ci := 1) (v := .int u1.2.2.1) (C := RX1) (T := TX1) (N := 6) hx hb hts iw_X1_run hown hK hP 0 rfl rfl 2 (by decide) (hts (.fieldLink RX1 33 "WordMillModel" "pc" "I") (by decide +kernel)) (fun _ h9 => h9) rfl dX1_run_79 ?_
            refine lv_iconst (v := 1) hx hb dX1_run_82 (by decide) ?_
            refine lv_iadd hx hb dX1_run_83 ?_
            refine lv_sipush (v := 4095) hx hb dX1_run_84 (by decide) ?_
            refine lv_iand hx hb dX1_run_87 ?_
            refine lv_topi (fun x_88 ex_88 => ?_)
            refine va_put (D := D) (ci := 1) (v := .int x_88) (ty := .int) (C := RX1) (T := TX1) (N := 6) hx hb hts iw_X1_run tyX1 tyX1_ok nmX1 hown hK hP hD hS 0 rfl rfl 2 (by decide) (hts (.fieldLink RX1 33 "WordMillModel" "pc" "I") (by decide +kernel)) (fun _ h9 => h9) rfl (by decide +kernel) rfl rfl (Nat.le_of_ble_eq_true rfl) dX1_run_88 (fun H locs hP hD hS => ?_)
            have hP : va_P D vwCl (rW h a cA (u1.1, u1.2.1, x_88, u1.2.2.2.1, 0, u1.2.2.2.2.2)) H := hP
            have hD : va_D (wA h a) (rW h a cA (u1.1, u1.2.1, x_88, u1.2.2.2.1, 0, u1.2.2.2.2.2)) := hD
            refine lv_aload_n hx hb dX1_run_91 rfl (lv_at hl 2 rfl) ?_
            refine lv_dup hx hb dX1_run_92 rfl ?_
            refine va_get (D := D) (ci := 1) (v := .int u1.2.2.2.1) (C := RX1) (T := TX1) (N := 6) hx hb hts iw_X1_run hown hK hP 0 rfl rfl 3 (by decide) (hts (.fieldLink RX1 45 "WordMillModel" "latest" "I") (by decide +kernel)) (fun _ h9 => h9) rfl dX1_run_93 ?_
            refine lv_iconst (v := 1) hx hb dX1_run_96 (by decide) ?_
            refine lv_iadd hx hb dX1_run_97 ?_
            refine lv_topi (fun x_98 ex_98 => ?_)
            refine va_put (D := D) (ci := 1) (v := .int x_98) (ty := .int) (C := RX1) (T := TX1) (N := 6) hx hb hts iw_X1_run tyX1 tyX1_ok nmX1 hown hK hP hD hS 0 rfl rfl 3 (by decide) (hts (.fieldLink RX1 45 "WordMillModel" "latest" "I") (by decide +kernel)) (fun _ h9 => h9) rfl (by decide +kernel) rfl rfl (Nat.le_of_ble_eq_true rfl) dX1_run_98 (fun H locs hP hD hS => ?_)
            have hP : va_P D vwCl (rW h a cA (u1.1, u1.2.1, x_88, x_98, 0, u1.2.2.2.2.2)) H := hP
            have hD : va_D (wA h a) (rW h a cA (u1.1, u1.2.1, x_88, x_98, 0, u1.2.2.2.2.2)) := hD
            refine lv_aload_n hx hb dX1_run_101 rfl (lv_at hl 2 rfl) ?_
            refine lv_dup hx hb dX1_run_102 rfl ?_
            refine va_get (D := D) (ci := 1) (v := .long u1.2.2.2.2.2) (C := RX1) (T := TX1) (N := 6) hx hb hts iw_X1_run hown hK hP 0 rfl rfl 5 (by decide) (hts (.fieldLink RX1 52 "WordMillModel" "done" "J") (by decide +kernel)) (fun _ h9 => h9) rfl dX1_run_103 ?_
            refine lv_lconst (v := 1) hx hb dX1_run_106 (by decide) ?_
            refine lv_ladd hx hb dX1_run_107 ?_
            refine lv_topl (fun x_108 ex_108 => ?_)
            refine va_put (D := D) (ci := 1) (v := .long x_108) (ty := .long) (C := RX1) (T := TX1) (N := 6) hx hb hts iw_X1_run tyX1 tyX1_ok nmX1 hown hK hP hD hS 0 rfl rfl 5 (by decide) (hts (.fieldLink RX1 52 "WordMillModel" "done" "J") (by decide +kernel)) (fun _ h9 => h9) rfl (by decide +kernel) rfl rfl (Nat.le_of_ble_eq_true rfl) dX1_run_108 (fun H locs hP hD hS => ?_)
            have hP : va_P D vwCl (rW h a cA (u1.1, u1.2.1, x_88, x_98, 0, x_108)) H := hP
            have hD : va_D (wA h a) (rW h a cA (u1.1, u1.2.1, x_88, x_98, 0, x_108)) := hD
            refine lv_iconst (v := -1) hx hb dX1_run_111 (by decide) ?_
            exact mm_iret (mw := rW h a cA) (u1 := (u1.1, u1.2.1, x_88, x_98, 0, x_108)) hx hb hr hlocks hP hK hD hS dX1_run_112 ⟨(by rw [ex_88]; exact vp_and4095 _), fun _ => hth, fun hz => absurd (okn_of hn0 hN) hz, fun _ _ => (if_neg (fz_1 hn0 hN hlt)).symm⟩
  refine lv_aload_n hx hb dX1_run_0 rfl (lv_at hl 0 rfl) ?_
  refine lv_iload_n hx hb dX1_run_1 rfl (lv_at hl 1 rfl) ?_
  refine lv_if_lt (tgt := 12) hx hb dX1_run_2 (by decide) (fun c_2 => ?_) (fun c_2 => ?_)
  · refine lv_iconst (v := 1) hx hb dX1_run_12 (by decide) ?_
    refine lv_goto (tgt := 17) hx hb dX1_run_13 (by decide) ?_
    refine r_go (rv := rv_i) (As := [.int 1]) (rest := []) ⟨hx, hb, hml, hown, hts⟩ (kX1_bad l D h a cA (u.1, u.2.1, u.2.2.1, u.2.2.2.1, u.2.2.2.2.1, u.2.2.2.2.2) hI 1 (Or.inr rfl)) (cwV 1 hts gX1_run_X1_bad rfl rfl rfl (by decide +kernel) ⟨by decide, by decide⟩) hK hP hD hS rfl hl.1 rfl (Nat.le_of_ble_eq_true rfl) dX1_run_17 ⟨Nat.zero_le _, Nat.zero_le _⟩ (fun r_17 u_17 H locs q_17 hP hD hS => ?_)
    obtain ⟨eu_17, er_17⟩ := q_17
    subst eu_17
    subst er_17
    refine W.eq (g2 := F0 m 20 ls (.int 1 :: [])) rfl ?_
    refine lv_if_eq (tgt := 25) hx hb dX1_run_20 (by decide) (fun c_20 => ?_) (fun c_20 => ?_)
    · exact absurd c_20 (by decide)
    · refine lv_iconst (v := 0) hx hb dX1_run_23 (by decide) ?_
      exact mm_iret (mw := rW h a cA) (u1 := (u.1, 1, u.2.2.1, u.2.2.2.1, u.2.2.2.2.1, u.2.2.2.2.2)) hx hb hr hlocks hP hK hD hS dX1_run_24 ⟨hI, fun hk => absurd c_2 hk.1, fun _ => rfl, fun hk => absurd c_2 hk.1⟩
  · refine lv_iload_n hx hb dX1_run_5 rfl (lv_at hl 1 rfl) ?_
    refine lv_sipush (v := 20000) hx hb dX1_run_6 (by decide) ?_
    refine lv_icmp_le (tgt := 16) hx hb dX1_run_9 (by decide) (fun c_9 => ?_) (fun c_9 => ?_)
    · refine lv_iconst (v := 0) hx hb dX1_run_16 (by decide) ?_
      refine r_go (rv := rv_i) (As := [.int 0]) (rest := []) ⟨hx, hb, hml, hown, hts⟩ (kX1_bad l D h a cA (u.1, u.2.1, u.2.2.1, u.2.2.2.1, u.2.2.2.2.1, u.2.2.2.2.2) hI 0 (Or.inl rfl)) (cwV 1 hts gX1_run_X1_bad rfl rfl rfl (by decide +kernel) ⟨by decide, by decide⟩) hK hP hD hS rfl hl.1 rfl (Nat.le_of_ble_eq_true rfl) dX1_run_17 ⟨Nat.zero_le _, Nat.zero_le _⟩ (fun r_17 u_17 H locs q_17 hP hD hS => ?_)
      obtain ⟨eu_17, er_17⟩ := q_17
      subst eu_17
      subst er_17
      refine W.eq (g2 := F0 m 20 ls (.int 0 :: [])) rfl ?_
      refine lv_if_eq (tgt := 25) hx hb dX1_run_20 (by decide) (fun c_20 => ?_) (fun c_20 => ?_)
      · refine lv_aload_n hx hb dX1_run_25 rfl (lv_at hl 0 rfl) ?_
        refine lv_iconst (v := 0) hx hb dX1_run_26 (by decide) ?_
        refine va_put (D := D) (ci := 1) (v := .int 0) (ty := .int) (C := RX1) (T := TX1) (N := 6) hx hb hts iw_X1_run tyX1 tyX1_ok nmX1 hown hK hP hD hS 0 rfl rfl 3 (by decide) (hts (.fieldLink RX1 45 "WordMillModel" "latest" "I") (by decide +kernel)) (fun _ h9 => h9) rfl (by decide +kernel) rfl rfl (Nat.le_of_ble_eq_true rfl) dX1_run_27 (fun H locs hP hD hS => ?_)
        have hP : va_P D vwCl (rW h a cA (u.1, 0, u.2.2.1, 0, u.2.2.2.2.1, u.2.2.2.2.2)) H := hP
        have hD : va_D (wA h a) (rW h a cA (u.1, 0, u.2.2.1, 0, u.2.2.2.2.1, u.2.2.2.2.2)) := hD
        obtain ⟨N, hN, hn0⟩ := nI_of2 (x := n0) (M := 20000) (n := 20000) (by decide) c_2 c_9; exact loop (N + 1) 0 N _ _ _ _ (by omega) hn0 hN nI_0.symm (by omega) (show rI (u.1, 0, u.2.2.1, 0, u.2.2.2.2.1, u.2.2.2.2.2) from hI) rfl (fun hq => ⟨rfl, hq⟩) hP hD hS (lv_sub hl [0, 1] rfl)
      · exact absurd c_20 (by decide)
    · refine lv_iconst (v := 1) hx hb dX1_run_12 (by decide) ?_
      refine lv_goto (tgt := 17) hx hb dX1_run_13 (by decide) ?_
      refine r_go (rv := rv_i) (As := [.int 1]) (rest := []) ⟨hx, hb, hml, hown, hts⟩ (kX1_bad l D h a cA (u.1, u.2.1, u.2.2.1, u.2.2.2.1, u.2.2.2.2.1, u.2.2.2.2.2) hI 1 (Or.inr rfl)) (cwV 1 hts gX1_run_X1_bad rfl rfl rfl (by decide +kernel) ⟨by decide, by decide⟩) hK hP hD hS rfl hl.1 rfl (Nat.le_of_ble_eq_true rfl) dX1_run_17 ⟨Nat.zero_le _, Nat.zero_le _⟩ (fun r_17 u_17 H locs q_17 hP hD hS => ?_)
      obtain ⟨eu_17, er_17⟩ := q_17
      subst eu_17
      subst er_17
      refine W.eq (g2 := F0 m 20 ls (.int 1 :: [])) rfl ?_
      refine lv_if_eq (tgt := 25) hx hb dX1_run_20 (by decide) (fun c_20 => ?_) (fun c_20 => ?_)
      · exact absurd c_20 (by decide)
      · refine lv_iconst (v := 0) hx hb dX1_run_23 (by decide) ?_
        exact mm_iret (mw := rW h a cA) (u1 := (u.1, 1, u.2.2.1, u.2.2.2.1, u.2.2.2.2.1, u.2.2.2.2.2)) hx hb hr hlocks hP hK hD hS dX1_run_24 ⟨hI, fun hk => absurd hk.2 c_9, fun _ => rfl, fun hk => absurd hk.2 c_9⟩
