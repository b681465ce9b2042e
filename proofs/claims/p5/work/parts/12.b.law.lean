abbrev zW (h a : Nat) (cA : ClassId) (h2 a2 : Nat) (c2 : ClassId) (o : Nat) (cO : ClassId) (u : wS) (v : rS) (f : Nat → Int64) : va_W := [(h, .inr (0, [.ref a, .int u.2.1, .int u.2.2.1, .int u.2.2.2.1, .int u.2.2.2.2])), (a, .inl (cA, 4096, .inr (.inl u.1))), (h2, .inr (1, [.int v.2.1, .ref a2, .int v.2.2.1, .int v.2.2.2.1, .int v.2.2.2.2.1, .long v.2.2.2.2.2])), (a2, .inl (c2, 4096, .inr (.inl v.1))), (o, .inl (cO, 1, .inr (.inl f)))]
theorem step7 (k : Nat) : nI (7 * k) + 7 = nI (7 * (k + 1)) := by
  show nI (7 * k) + nI 7 = _
  rw [nI_add]
  rfl
theorem loop_in {L k : Nat} {t : Int32} (ht : t = nI (7 * k)) (hL : L ≤ 3584) (hk : k ≤ 512) (h : ¬ (Int32.ofNat L - 7) < t) : 7 * k + 7 ≤ L := by
  rw [ht, Int32.lt_iff_toInt_lt] at h
  have e1 : (Int32.ofNat L - 7).toInt = (L : Int) - 7 := pk_sub_toInt (a := L) (b := 7) (by omega) (by decide)
  rw [e1, nI_toInt (by omega)] at h
  omega
theorem scr_0 {L k : Nat} {t : Int32} (ht : t = nI (7 * k)) (h7 : 7 * k + 7 ≤ L) (hL : L < 2 ^ 31 := by omega) : vp_in t L := by
  rw [ht]
  exact vp_in_nI (by omega) hL
theorem scr_c {L k c : Nat} {t x : Int32} (ht : t = nI (7 * k)) (h7 : 7 * k + 7 ≤ L) (hx : x = nI c) (hc : c < 7) (hL : L < 2 ^ 31 := by omega) : vp_in (t + x) L := by
  rw [ht, hx, nI_add]
  exact vp_in_nI (by omega) hL
theorem lb_blind {D : va_G} {cl : List vw_C} {tys : List (ClassId × FieldType)} {w : va_W} {As : List Value} : FrameBlind (va_Pc As (fun U => mm_P D cl tys w U ∧ xz U)) := fun a U g mk q => by
  obtain ⟨q0, ⟨qP, qK, qD⟩, qz⟩ := q
  exact ⟨q0, ⟨qP, va_K.moved (u := U) (U := U.calling g mk a) (Vm.Alike.refl U.vm) qK, qD⟩, xz_moved (U := U.calling g mk a) qz (Vm.Alike.refl U.vm) (fun _ _ => rfl)⟩
theorem xz_law {s U : State} {H : Heap} {locs : List Loc} (hz : xz s) (hS : va_S (fun q : Nat => s.heap.size ≤ q) s.heap H locs) (hU : U.heap = H) (hW : s.WarmedH U.vm) : xz U := xz_moved hz hW.alike (fun a ha => by rw [hU]; exact hS.2.1 a ha (Nat.not_le.mpr ha))
theorem cmp_th {P : Prop} {k th r : Int32} (h1 : (k = 0 ∧ P) ∨ (k = 1 ∧ ¬ P)) (h2 : (P ∧ th = 0) ∨ (¬ P ∧ th = 1)) (h3 : r = th) : r = k := by
  rcases h1 with ⟨a, b⟩ | ⟨a, b⟩
  · rcases h2 with ⟨c, d⟩ | ⟨c, d⟩
    · rw [h3, d, a]
    · exact absurd b c
  · rcases h2 with ⟨c, d⟩ | ⟨c, d⟩
    · exact absurd c b
    · rw [h3, d, a]
theorem cmp_c1 {P E : Prop} {k : Int32} (h : (k = 0 ∧ P ∧ E) ∨ (k = 1 ∧ ¬ P)) : (k = 0 ∧ P) ∨ (k = 1 ∧ ¬ P) := h.elim (fun q => Or.inl ⟨q.1, q.2.1⟩) Or.inr
theorem cmp_c2 {P E : Prop} {th : Int32} (h : (P ∧ th = 0 ∧ E) ∨ (¬ P ∧ th = 1)) : (P ∧ th = 0) ∨ (¬ P ∧ th = 1) := h.elim (fun q => Or.inl ⟨q.1, q.2.1⟩) Or.inr
theorem cmp_r {P : Prop} {th : Int32} (h : (P → th = 0) ∧ (¬ P → th = 1)) : (P ∧ th = 0) ∨ (¬ P ∧ th = 1) := by
  by_cases q : P
  · exact Or.inl ⟨q, h.1 q⟩
  · exact Or.inr ⟨q, h.2 q⟩
theorem cmp_v {i op ac z x y k th : Int32} {r : Int64} {f : Nat → Int64} (h1 : (k = 0 ∧ okc i op ac x ∧ f 0 = wc_code op ac z x y) ∨ (k = 1 ∧ ¬ okc i op ac x)) (h2 : (okc i op ac x ∧ th = 0 ∧ r = rc_code op ac z x y) ∨ (¬ okc i op ac x ∧ th = 1)) (hk : k = 0) : lg_cmp (f (0 : Int32).toNatClampNeg) r = 0 := by
  rcases h1 with ⟨a, b, c⟩ | ⟨a, b⟩
  · rcases h2 with ⟨d, e, g⟩ | ⟨d, e⟩
    · rw [lg_cmp_eq, sb_cl0, c, g, code_same]
    · exact absurd b d
  · exact absurd (hk.symm.trans a) (by decide)
set_option maxHeartbeats 8000000 in
set_option maxRecDepth 100000 in
theorem law_loop {p : Program} {e : Env} {s : State} {m : MethodId} {below : List Frame} {meth : Method} {c : Code} {l : Launch} (hst : l.stackTraces = false) {b L : Nat} {xs : Nat → Int32} (hL : L ≤ 3584) (C0 : lw_At p s m meth c b L xs) (hz : xz s) {D : va_G} {h a : Nat} {cA : ClassId} {h2 a2 : Nat} {c2 : ClassId} {o : Nat} {cO : ClassId} (hK : va_K D vwCl [(cA, .long), (c2, .long), (cO, .long)] s) :
    ∀ (n k : Nat) (t : Int32) (u : wS) (v : rS) (f : Nat → Int64) (H : Heap) (locs : List Loc) (ls : Array Slot), 512 - k < n → k ≤ 512 → t = nI (7 * k) → wI u → rI v → va_P D vwCl (zW h a cA h2 a2 c2 o cO u v f) H → va_D (fun q : Nat => s.heap.size ≤ q) (zW h a cA h2 a2 c2 o cO u v f) → va_S (fun q : Nat => s.heap.size ≤ q) s.heap H locs → lv_has ls 8 [(4, .int t), (0, .ref b), (1, .ref h), (2, .ref h2), (3, .ref o)] →
      W p l e room_1 s m #[Value.ref b] below meth c H locs (5 + k) (8204 + 6 * k) (lw_Z below #[Value.ref b] s) (F0 m 23 ls []) := by
  obtain ⟨hx, hb, hr, hml, hown0, hts0, hX, hbl, hlocks, hgv⟩ := id C0
  have hown : s.vm.findClass RL = some m.cls := hown0
  have hts := fun w h => hts0 w (wsL_law_in w h)
  have hbA : ¬ (fun q : Nat => s.heap.size ≤ q) b := Nat.not_le.mpr hbl
  intro n
  induction n with
  | zero => intro k t u v f H locs ls hn; exact absurd hn (Nat.not_lt_zero _)
  | succ n ih =>
    intro k t u v f H locs ls hn hk ht hIu hIv hP hD hS hl
    refine lv_iload hx hb dL_law_23 (lv_at hl 0 rfl) ?_
    refine lv_aload_n hx hb dL_law_25 rfl (lv_at hl 1 rfl) ?_
    refine va_slen hx hb hX hbl hbA hS dL_law_26 ?_
    refine lv_bipush (v := 7) hx hb dL_law_27 (by decide) ?_
    refine lv_isub hx hb dL_law_29 ?_
    refine lv_icmp_gt (tgt := 378) hx hb dL_law_30 (by decide) (fun c_30 => ?_) (fun c_30 => ?_)
    · refine lv_iconst (v := 1) hx hb dL_law_378 (by decide) ?_
      refine va_forget (fun q hq => hS.2.2 q hq) ?_
      refine W.widen (k := 1030) (n := 16402) (by omega) (by omega) ?_
      exact lw_ret hx hb hr hlocks dL_law_379
    · have h7 : 7 * k + 7 ≤ L := loop_in ht hL (by omega) c_30
      refine lv_aload_n hx hb dL_law_33 rfl (lv_at hl 1 rfl) ?_
      refine lv_iload hx hb dL_law_34 (lv_at hl 0 rfl) ?_
      refine va_sld hx hb hX hbl hbA hS (scr_0 ht h7) dL_law_36 ?_
      refine lv_bipush (v := 7) hx hb dL_law_37 (by decide) ?_
      refine lv_iand hx hb dL_law_39 ?_
      refine lv_topi (fun x_40 ex_40 => ?_)
      by_cases k_0 : x_40 = 0
      · subst k_0
        refine lv_tableIn (tgt := 80) hx hb dL_law_40 (by decide) (by decide) rfl (by decide) ?_
        refine lv_aload_n hx hb dL_law_80 rfl (lv_at hl 2 rfl) ?_
        refine lv_aload_n hx hb dL_law_81 rfl (lv_at hl 1 rfl) ?_
        refine lv_iload hx hb dL_law_82 (lv_at hl 0 rfl) ?_
        refine lv_iconst (v := 1) hx hb dL_law_84 (by decide) ?_
        refine lv_iadd hx hb dL_law_85 ?_
        refine va_sld hx hb hX hbl hbA hS (scr_c ht h7 (c := 1) rfl (by decide)) dL_law_86 ?_
        refine lv_aload_n hx hb dL_law_87 rfl (lv_at hl 1 rfl) ?_
        refine lv_iload hx hb dL_law_88 (lv_at hl 0 rfl) ?_
        refine lv_iconst (v := 2) hx hb dL_law_90 (by decide) ?_
        refine lv_iadd hx hb dL_law_91 ?_
        refine va_sld hx hb hX hbl hbA hS (scr_c ht h7 (c := 2) rfl (by decide)) dL_law_92 ?_
        refine lv_i2l hx hb dL_law_93 rfl ?_
        refine lv_bipush (v := 32) hx hb dL_law_94 (by decide) ?_
        refine lv_lshl hx hb dL_law_96 rfl ?_
        refine lv_aload_n hx hb dL_law_97 rfl (lv_at hl 1 rfl) ?_
        refine lv_iload hx hb dL_law_98 (lv_at hl 0 rfl) ?_
        refine lv_iconst (v := 3) hx hb dL_law_100 (by decide) ?_
        refine lv_iadd hx hb dL_law_101 ?_
        refine va_sld hx hb hX hbl hbA hS (scr_c ht h7 (c := 3) rfl (by decide)) dL_law_102 ?_
        refine lv_i2l hx hb dL_law_103 rfl ?_
        refine lv_ldc2 (v := 4294967295) hx hb hown (hts (.constantLong RL 35 4294967295) (by decide +kernel)) dL_law_104 ?_
        refine lv_land hx hb dL_law_107 ?_
        refine lv_lor hx hb dL_law_108 ?_
        have hPc := hP.sub (ws' := wW h a cA u) [0, 1] rfl
        have hDc := hD.sub (ws' := wW h a cA u) [0, 1] (by decide) rfl
        have hKc := hK.sub (tys' := [(cA, .long)]) [0] rfl
        refine mm_back (rv := rv_i) (mw := (wW h a cA)) (wr := (rW h2 a2 c2 v ++ [(o, .inl (cO, 1, .inr (.inl f)))])) (u := u) (vx_runSW (g := F0 m 109 ls [.long ((((xs ((t + 2) : Int32).toNatClampNeg) : Int32).toInt64 <<< ((32 : Int32).toInt64 &&& 63)) ||| (((xs ((t + 3) : Int32).toNatClampNeg) : Int32).toInt64 &&& 4294967295)), .int (xs ((t + 1) : Int32).toNatClampNeg), .ref h]) (As := [.ref h, .int (xs ((t + 1) : Int32).toNatClampNeg), .long ((((xs ((t + 2) : Int32).toNatClampNeg) : Int32).toInt64 <<< ((32 : Int32).toInt64 &&& 63)) ||| (((xs ((t + 3) : Int32).toNatClampNeg) : Int32).toInt64 &&& 4294967295))]) (rest := []) ⟨hx, hb, hml, hown, hts⟩ (kL_put l hst D h a cA u hIu (xs ((t + 1) : Int32).toNatClampNeg) ((((xs ((t + 2) : Int32).toNatClampNeg) : Int32).toInt64 <<< ((32 : Int32).toInt64 &&& 63)) ||| (((xs ((t + 3) : Int32).toNatClampNeg) : Int32).toInt64 &&& 4294967295))) (vx_cwSW 3 hts gL_law_L_put rfl rfl rfl (by decide +kernel) ⟨by decide, by decide⟩) ⟨lb_blind, fun U hU hW => ⟨rfl, ⟨by rw [hU]; exact hPc, va_K.moved hW.alike hKc, hDc.weaken (fun _ _ _ _ => trivial)⟩, xz_law hz hS hU hW⟩⟩ rfl rfl hl.1 rfl (lv_room (Nat.le_of_ble_eq_true rfl)) dL_law_109 ⟨show _ ≤ 1030 by omega, show _ ≤ 16402 by omega⟩) hP hD hS [2, 3, 4] [0, 1] rfl rfl (wA_at h a cA u) (fun _ => rfl) (fun r_109 u_109 H locs q_109 hP hD hS => ?_)
        have hP := hP.sub (ws' := zW h a cA h2 a2 c2 o cO u_109 v f) [3, 4, 0, 1, 2] rfl
        have hD := hD.sub (ws' := zW h a cA h2 a2 c2 o cO u_109 v f) [3, 4, 0, 1, 2] (by decide) rfl
        refine W.eq (g2 := F0 m 112 ls [.int r_109]) rfl ?_
        refine lv_istore (lv' := [(5, .int r_109), (4, .int t), (0, .ref b), (1, .ref h), (2, .ref h2), (3, .ref o)]) hx hb dL_law_112 hl (by decide) rfl (fun ls hl => ?_)
        refine lv_aload_n hx hb dL_law_114 rfl (lv_at hl 4 rfl) ?_
        refine lv_aload_n hx hb dL_law_115 rfl (lv_at hl 2 rfl) ?_
        refine lv_iload hx hb dL_law_116 (lv_at hl 1 rfl) ?_
        refine lv_iconst (v := 1) hx hb dL_law_118 (by decide) ?_
        refine lv_iadd hx hb dL_law_119 ?_
        refine va_sld hx hb hX hbl hbA hS (scr_c ht h7 (c := 1) rfl (by decide)) dL_law_120 ?_
        refine lv_aload_n hx hb dL_law_121 rfl (lv_at hl 2 rfl) ?_
        refine lv_iload hx hb dL_law_122 (lv_at hl 1 rfl) ?_
        refine lv_iconst (v := 2) hx hb dL_law_124 (by decide) ?_
        refine lv_iadd hx hb dL_law_125 ?_
        refine va_sld hx hb hX hbl hbA hS (scr_c ht h7 (c := 2) rfl (by decide)) dL_law_126 ?_
        refine lv_i2l hx hb dL_law_127 rfl ?_
        refine lv_bipush (v := 32) hx hb dL_law_128 (by decide) ?_
        refine lv_lshl hx hb dL_law_130 rfl ?_
        refine lv_aload_n hx hb dL_law_131 rfl (lv_at hl 2 rfl) ?_
        refine lv_iload hx hb dL_law_132 (lv_at hl 1 rfl) ?_
        refine lv_iconst (v := 3) hx hb dL_law_134 (by decide) ?_
        refine lv_iadd hx hb dL_law_135 ?_
        refine va_sld hx hb hX hbl hbA hS (scr_c ht h7 (c := 3) rfl (by decide)) dL_law_136 ?_
        refine lv_i2l hx hb dL_law_137 rfl ?_
        refine lv_ldc2 (v := 4294967295) hx hb hown (hts (.constantLong RL 35 4294967295) (by decide +kernel)) dL_law_138 ?_
        refine lv_land hx hb dL_law_141 ?_
        refine lv_lor hx hb dL_law_142 ?_
        have hPc := hP.sub (ws' := rW h2 a2 c2 v) [2, 3] rfl
        have hDc := hD.sub (ws' := rW h2 a2 c2 v) [2, 3] (by decide) rfl
        have hKc := hK.sub (tys' := [(c2, .long)]) [1] rfl
        refine mm_back (rv := rv_v) (mw := (rW h2 a2 c2)) (wr := (wW h a cA u_109 ++ [(o, .inl (cO, 1, .inr (.inl f)))])) (u := v) (va_runV (g := F0 m 143 ls [.long ((((xs ((t + 2) : Int32).toNatClampNeg) : Int32).toInt64 <<< ((32 : Int32).toInt64 &&& 63)) ||| (((xs ((t + 3) : Int32).toNatClampNeg) : Int32).toInt64 &&& 4294967295)), .int (xs ((t + 1) : Int32).toNatClampNeg), .ref h2]) (As := [.int (xs ((t + 1) : Int32).toNatClampNeg), .long ((((xs ((t + 2) : Int32).toNatClampNeg) : Int32).toInt64 <<< ((32 : Int32).toInt64 &&& 63)) ||| (((xs ((t + 3) : Int32).toNatClampNeg) : Int32).toInt64 &&& 4294967295))]) (rest := []) ⟨hx, hb, hml, hown, hts⟩ (kX1_put l D h2 a2 c2 v hIv (xs ((t + 1) : Int32).toNatClampNeg) ((((xs ((t + 2) : Int32).toNatClampNeg) : Int32).toInt64 <<< ((32 : Int32).toInt64 &&& 63)) ||| (((xs ((t + 3) : Int32).toNatClampNeg) : Int32).toInt64 &&& 4294967295))) (cwV 2 hts gL_law_X1_put rfl rfl rfl (by decide +kernel) ⟨by decide, by decide⟩) (mm_pre (ci := 1) (q0 := 0) (q := (RX1, TX1, 6)) hKc hPc hDc rfl rfl) rfl rfl hl.1 rfl (lv_room (Nat.le_of_ble_eq_true rfl)) dL_law_143 ⟨show _ ≤ 1030 by omega, show _ ≤ 16402 by omega⟩) hP hD hS [0, 1, 4] [2, 3] rfl rfl (rA_at h2 a2 c2 v) (fun _ => rfl) (fun _ u_143 H locs q_143 hP hD hS => ?_)
        have hP := hP.sub (ws' := zW h a cA h2 a2 c2 o cO u_109 u_143 f) [0, 1, 3, 4, 2] rfl
        have hD := hD.sub (ws' := zW h a cA h2 a2 c2 o cO u_109 u_143 f) [0, 1, 3, 4, 2] (by decide) rfl
        refine W.eq (g2 := F0 m 146 ls []) rfl ?_
        refine lv_goto (tgt := 372) hx hb dL_law_146 (by decide) ?_
        obtain ⟨x_372, ex_372⟩ : ∃ y : Int32, y = t + 7 := ⟨_, rfl⟩
        refine lv_iinc (v := x_372) (lv' := [(4, .int x_372), (5, .int r_109), (0, .ref b), (1, .ref h), (2, .ref h2), (3, .ref o)]) hx hb dL_law_372 hl (k := 1) rfl (by rw [ex_372]; rfl) (by decide) rfl (fun ls hl => ?_)
        refine lv_goto (tgt := 23) hx hb dL_law_375 (by decide) ?_
        refine W.widen (k := 5 + (k + 1)) (n := 8204 + 6 * (k + 1)) (by omega) (by omega) ?_
        exact ih (k + 1) x_372 u_109 u_143 f _ _ _ (by omega) (by omega) (by rw [ex_372, ht]; exact step7 k) q_109.1 q_143.1 hP hD hS (lv_sub hl [0, 2, 3, 4, 5] rfl)
      by_cases k_1 : x_40 = 1
      · subst k_1
        refine lv_tableIn (tgt := 149) hx hb dL_law_40 (by decide) (by decide) rfl (by decide) ?_
        refine lv_aload_n hx hb dL_law_149 rfl (lv_at hl 2 rfl) ?_
        refine lv_aload_n hx hb dL_law_150 rfl (lv_at hl 1 rfl) ?_
        refine lv_iload hx hb dL_law_151 (lv_at hl 0 rfl) ?_
        refine lv_iconst (v := 1) hx hb dL_law_153 (by decide) ?_
        refine lv_iadd hx hb dL_law_154 ?_
        refine va_sld hx hb hX hbl hbA hS (scr_c ht h7 (c := 1) rfl (by decide)) dL_law_155 ?_
        refine lv_aload_n hx hb dL_law_156 rfl (lv_at hl 4 rfl) ?_
        have hPc := hP.sub (ws' := lW h a cA o cO (u, f)) [0, 1, 4] rfl
        have hDc := hD.sub (ws' := lW h a cA o cO (u, f)) [0, 1, 4] (by decide) rfl
        have hKc := hK.sub (tys' := [(cA, .long), (cO, .long)]) [0, 2] rfl
        refine mm_back (rv := rv_i) (mw := (lW h a cA o cO)) (wr := (rW h2 a2 c2 v)) (u := (u, f)) (vx_runSW (g := F0 m 157 ls [.ref o, .int (xs ((t + 1) : Int32).toNatClampNeg), .ref h]) (As := [.ref h, .int (xs ((t + 1) : Int32).toNatClampNeg), .ref o]) (rest := []) ⟨hx, hb, hml, hown, hts⟩ (kL_word l hst D h a cA o cO u f hIu (xs ((t + 1) : Int32).toNatClampNeg)) (vx_cwSW 3 hts gL_law_L_word rfl rfl rfl (by decide +kernel) ⟨by decide, by decide⟩) ⟨lb_blind, fun U hU hW => ⟨rfl, ⟨by rw [hU]; exact hPc, va_K.moved hW.alike hKc, hDc.weaken (fun _ _ _ _ => trivial)⟩, xz_law hz hS hU hW⟩⟩ rfl rfl hl.1 rfl (lv_room (Nat.le_of_ble_eq_true rfl)) dL_law_157 ⟨show _ ≤ 1030 by omega, show _ ≤ 16402 by omega⟩) hP hD hS [2, 3] [0, 1, 4] rfl rfl (lA_at h a cA o cO (u, f)) (fun _ => rfl) (fun r_157 u_157 H locs q_157 hP hD hS => ?_)
        have hP := hP.sub (ws' := zW h a cA h2 a2 c2 o cO u_157.1 v u_157.2) [2, 3, 0, 1, 4] rfl
        have hD := hD.sub (ws' := zW h a cA h2 a2 c2 o cO u_157.1 v u_157.2) [2, 3, 0, 1, 4] (by decide) rfl
        refine W.eq (g2 := F0 m 160 ls [.int r_157]) rfl ?_
        refine lv_istore (lv' := [(5, .int r_157), (4, .int t), (0, .ref b), (1, .ref h), (2, .ref h2), (3, .ref o)]) hx hb dL_law_160 hl (by decide) rfl (fun ls hl => ?_)
        refine lv_aload_n hx hb dL_law_162 rfl (lv_at hl 4 rfl) ?_
        refine lv_aload_n hx hb dL_law_163 rfl (lv_at hl 2 rfl) ?_
        refine lv_iload hx hb dL_law_164 (lv_at hl 1 rfl) ?_
        refine lv_iconst (v := 1) hx hb dL_law_166 (by decide) ?_
        refine lv_iadd hx hb dL_law_167 ?_
        refine va_sld hx hb hX hbl hbA hS (scr_c ht h7 (c := 1) rfl (by decide)) dL_law_168 ?_
        have hPc := hP.sub (ws' := rW h2 a2 c2 v) [2, 3] rfl
        have hDc := hD.sub (ws' := rW h2 a2 c2 v) [2, 3] (by decide) rfl
        have hKc := hK.sub (tys' := [(c2, .long)]) [1] rfl
        refine mm_back (rv := rv_l) (mw := (rW h2 a2 c2)) (wr := (wW h a cA u_157.1 ++ [(o, .inl (cO, 1, .inr (.inl u_157.2)))])) (u := v) (va_runV (g := F0 m 169 ls [.int (xs ((t + 1) : Int32).toNatClampNeg), .ref h2]) (As := [.int (xs ((t + 1) : Int32).toNatClampNeg)]) (rest := []) ⟨hx, hb, hml, hown, hts⟩ (kX1_word l D h2 a2 c2 v hIv (xs ((t + 1) : Int32).toNatClampNeg)) (cwV 1 hts gL_law_X1_word rfl rfl rfl (by decide +kernel) ⟨by decide, by decide⟩) (mm_pre (ci := 1) (q0 := 0) (q := (RX1, TX1, 6)) hKc hPc hDc rfl rfl) rfl rfl hl.1 rfl (lv_room (Nat.le_of_ble_eq_true rfl)) dL_law_169 ⟨show _ ≤ 1030 by omega, show _ ≤ 16402 by omega⟩) hP hD hS [0, 1, 4] [2, 3] rfl rfl (rA_at h2 a2 c2 v) (fun _ => rfl) (fun r_169 u_169 H locs q_169 hP hD hS => ?_)
        have hP := hP.sub (ws' := zW h a cA h2 a2 c2 o cO u_157.1 u_169 u_157.2) [0, 1, 3, 4, 2] rfl
        have hD := hD.sub (ws' := zW h a cA h2 a2 c2 o cO u_157.1 u_169 u_157.2) [0, 1, 3, 4, 2] (by decide) rfl
        refine W.eq (g2 := F0 m 172 ls [.long r_169]) rfl ?_
        refine lv_lstore (lv' := [(6, .long r_169), (5, .int r_157), (4, .int t), (0, .ref b), (1, .ref h), (2, .ref h2), (3, .ref o)]) hx hb dL_law_172 hl (by decide) rfl (fun ls hl => ?_)
        refine lv_goto (tgt := 372) hx hb dL_law_174 (by decide) ?_
        obtain ⟨x_372, ex_372⟩ : ∃ y : Int32, y = t + 7 := ⟨_, rfl⟩
        refine lv_iinc (v := x_372) (lv' := [(4, .int x_372), (6, .long r_169), (5, .int r_157), (0, .ref b), (1, .ref h), (2, .ref h2), (3, .ref o)]) hx hb dL_law_372 hl (k := 2) rfl (by rw [ex_372]; rfl) (by decide) rfl (fun ls hl => ?_)
        refine lv_goto (tgt := 23) hx hb dL_law_375 (by decide) ?_
        refine W.widen (k := 5 + (k + 1)) (n := 8204 + 6 * (k + 1)) (by omega) (by omega) ?_
        exact ih (k + 1) x_372 u_157.1 u_169 u_157.2 _ _ _ (by omega) (by omega) (by rw [ex_372, ht]; exact step7 k) q_157.1 q_169.1 hP hD hS (lv_sub hl [0, 3, 4, 5, 6] rfl)
      by_cases k_2 : x_40 = 2
      · subst k_2
        refine lv_tableIn (tgt := 177) hx hb dL_law_40 (by decide) (by decide) rfl (by decide) ?_
        refine lv_aload_n hx hb dL_law_177 rfl (lv_at hl 2 rfl) ?_
        refine lv_aload_n hx hb dL_law_178 rfl (lv_at hl 1 rfl) ?_
        refine lv_iload hx hb dL_law_179 (lv_at hl 0 rfl) ?_
        refine lv_iconst (v := 1) hx hb dL_law_181 (by decide) ?_
        refine lv_iadd hx hb dL_law_182 ?_
        refine va_sld hx hb hX hbl hbA hS (scr_c ht h7 (c := 1) rfl (by decide)) dL_law_183 ?_
        refine lv_aload_n hx hb dL_law_184 rfl (lv_at hl 1 rfl) ?_
        refine lv_iload hx hb dL_law_185 (lv_at hl 0 rfl) ?_
        refine lv_iconst (v := 2) hx hb dL_law_187 (by decide) ?_
        refine lv_iadd hx hb dL_law_188 ?_
        refine va_sld hx hb hX hbl hbA hS (scr_c ht h7 (c := 2) rfl (by decide)) dL_law_189 ?_
        refine lv_aload_n hx hb dL_law_190 rfl (lv_at hl 1 rfl) ?_
        refine lv_iload hx hb dL_law_191 (lv_at hl 0 rfl) ?_
        refine lv_iconst (v := 3) hx hb dL_law_193 (by decide) ?_
        refine lv_iadd hx hb dL_law_194 ?_
        refine va_sld hx hb hX hbl hbA hS (scr_c ht h7 (c := 3) rfl (by decide)) dL_law_195 ?_
        refine lv_aload_n hx hb dL_law_196 rfl (lv_at hl 1 rfl) ?_
        refine lv_iload hx hb dL_law_197 (lv_at hl 0 rfl) ?_
        refine lv_iconst (v := 4) hx hb dL_law_199 (by decide) ?_
        refine lv_iadd hx hb dL_law_200 ?_
        refine va_sld hx hb hX hbl hbA hS (scr_c ht h7 (c := 4) rfl (by decide)) dL_law_201 ?_
        refine lv_if_eq (tgt := 209) hx hb dL_law_202 (by decide) (fun c_202 => ?_) (fun c_202 => ?_)
        · refine lv_iconst (v := 0) hx hb dL_law_209 (by decide) ?_
          refine lv_aload_n hx hb dL_law_210 rfl (lv_at hl 1 rfl) ?_
          refine lv_iload hx hb dL_law_211 (lv_at hl 0 rfl) ?_
          refine lv_iconst (v := 5) hx hb dL_law_213 (by decide) ?_
          refine lv_iadd hx hb dL_law_214 ?_
          refine va_sld hx hb hX hbl hbA hS (scr_c ht h7 (c := 5) rfl (by decide)) dL_law_215 ?_
          refine lv_aload_n hx hb dL_law_216 rfl (lv_at hl 1 rfl) ?_
          refine lv_iload hx hb dL_law_217 (lv_at hl 0 rfl) ?_
          refine lv_bipush (v := 6) hx hb dL_law_219 (by decide) ?_
          refine lv_iadd hx hb dL_law_221 ?_
          refine va_sld hx hb hX hbl hbA hS (scr_c ht h7 (c := 6) rfl (by decide)) dL_law_222 ?_
          refine lv_aload_n hx hb dL_law_223 rfl (lv_at hl 4 rfl) ?_
          have hPc := hP.sub (ws' := lW h a cA o cO (u, f)) [0, 1, 4] rfl
          have hDc := hD.sub (ws' := lW h a cA o cO (u, f)) [0, 1, 4] (by decide) rfl
          have hKc := hK.sub (tys' := [(cA, .long), (cO, .long)]) [0, 2] rfl
          refine mm_back (rv := rv_i) (mw := (lW h a cA o cO)) (wr := (rW h2 a2 c2 v)) (u := (u, f)) (vx_runSW (g := F0 m 224 ls [.ref o, .int (xs ((t + 6) : Int32).toNatClampNeg), .int (xs ((t + 5) : Int32).toNatClampNeg), .int 0, .int (xs ((t + 3) : Int32).toNatClampNeg), .int (xs ((t + 2) : Int32).toNatClampNeg), .int (xs ((t + 1) : Int32).toNatClampNeg), .ref h]) (As := [.ref h, .int (xs ((t + 1) : Int32).toNatClampNeg), .int (xs ((t + 2) : Int32).toNatClampNeg), .int (xs ((t + 3) : Int32).toNatClampNeg), .int 0, .int (xs ((t + 5) : Int32).toNatClampNeg), .int (xs ((t + 6) : Int32).toNatClampNeg), .ref o]) (rest := []) ⟨hx, hb, hml, hown, hts⟩ (kL_code l hst D h a cA o cO u f hIu (xs ((t + 1) : Int32).toNatClampNeg) (xs ((t + 2) : Int32).toNatClampNeg) (xs ((t + 3) : Int32).toNatClampNeg) 0 (xs ((t + 5) : Int32).toNatClampNeg) (xs ((t + 6) : Int32).toNatClampNeg)) (vx_cwSW 8 hts gL_law_L_code rfl rfl rfl (by decide +kernel) ⟨by decide, by decide⟩) ⟨lb_blind, fun U hU hW => ⟨rfl, ⟨by rw [hU]; exact hPc, va_K.moved hW.alike hKc, hDc.weaken (fun _ _ _ _ => trivial)⟩, xz_law hz hS hU hW⟩⟩ rfl rfl hl.1 rfl (lv_room (Nat.le_of_ble_eq_true rfl)) dL_law_224 ⟨show _ ≤ 1030 by omega, show _ ≤ 16402 by omega⟩) hP hD hS [2, 3] [0, 1, 4] rfl rfl (lA_at h a cA o cO (u, f)) (fun _ => rfl) (fun r_224 u_224 H locs q_224 hP hD hS => ?_)
          have hP := hP.sub (ws' := zW h a cA h2 a2 c2 o cO u_224.1 v u_224.2) [2, 3, 0, 1, 4] rfl
          have hD := hD.sub (ws' := zW h a cA h2 a2 c2 o cO u_224.1 v u_224.2) [2, 3, 0, 1, 4] (by decide) rfl
          refine W.eq (g2 := F0 m 227 ls [.int r_224]) rfl ?_
          refine lv_istore (lv' := [(5, .int r_224), (4, .int t), (0, .ref b), (1, .ref h), (2, .ref h2), (3, .ref o)]) hx hb dL_law_227 hl (by decide) rfl (fun ls hl => ?_)
          refine lv_aload_n hx hb dL_law_229 rfl (lv_at hl 4 rfl) ?_
          refine lv_aload_n hx hb dL_law_230 rfl (lv_at hl 2 rfl) ?_
          refine lv_iload hx hb dL_law_231 (lv_at hl 1 rfl) ?_
          refine lv_iconst (v := 1) hx hb dL_law_233 (by decide) ?_
          refine lv_iadd hx hb dL_law_234 ?_
          refine va_sld hx hb hX hbl hbA hS (scr_c ht h7 (c := 1) rfl (by decide)) dL_law_235 ?_
          refine lv_aload_n hx hb dL_law_236 rfl (lv_at hl 2 rfl) ?_
          refine lv_iload hx hb dL_law_237 (lv_at hl 1 rfl) ?_
          refine lv_iconst (v := 2) hx hb dL_law_239 (by decide) ?_
          refine lv_iadd hx hb dL_law_240 ?_
          refine va_sld hx hb hX hbl hbA hS (scr_c ht h7 (c := 2) rfl (by decide)) dL_law_241 ?_
          refine lv_aload_n hx hb dL_law_242 rfl (lv_at hl 2 rfl) ?_
          refine lv_iload hx hb dL_law_243 (lv_at hl 1 rfl) ?_
          refine lv_iconst (v := 3) hx hb dL_law_245 (by decide) ?_
          refine lv_iadd hx hb dL_law_246 ?_
          refine va_sld hx hb hX hbl hbA hS (scr_c ht h7 (c := 3) rfl (by decide)) dL_law_247 ?_
          refine lv_aload_n hx hb dL_law_248 rfl (lv_at hl 2 rfl) ?_
          refine lv_iload hx hb dL_law_249 (lv_at hl 1 rfl) ?_
          refine lv_iconst (v := 4) hx hb dL_law_251 (by decide) ?_
          refine lv_iadd hx hb dL_law_252 ?_
          refine va_sld hx hb hX hbl hbA hS (scr_c ht h7 (c := 4) rfl (by decide)) dL_law_253 ?_
          refine lv_if_eq (tgt := 261) hx hb dL_law_254 (by decide) (fun c_254 => ?_) (fun c_254 => ?_)
          · refine lv_iconst (v := 0) hx hb dL_law_261 (by decide) ?_
            refine lv_aload_n hx hb dL_law_262 rfl (lv_at hl 2 rfl) ?_
            refine lv_iload hx hb dL_law_263 (lv_at hl 1 rfl) ?_
            refine lv_iconst (v := 5) hx hb dL_law_265 (by decide) ?_
            refine lv_iadd hx hb dL_law_266 ?_
            refine va_sld hx hb hX hbl hbA hS (scr_c ht h7 (c := 5) rfl (by decide)) dL_law_267 ?_
            refine lv_aload_n hx hb dL_law_268 rfl (lv_at hl 2 rfl) ?_
            refine lv_iload hx hb dL_law_269 (lv_at hl 1 rfl) ?_
            refine lv_bipush (v := 6) hx hb dL_law_271 (by decide) ?_
            refine lv_iadd hx hb dL_law_273 ?_
            refine va_sld hx hb hX hbl hbA hS (scr_c ht h7 (c := 6) rfl (by decide)) dL_law_274 ?_
            have hPc := hP.sub (ws' := rW h2 a2 c2 v) [2, 3] rfl
            have hDc := hD.sub (ws' := rW h2 a2 c2 v) [2, 3] (by decide) rfl
            have hKc := hK.sub (tys' := [(c2, .long)]) [1] rfl
            refine mm_back (rv := rv_l) (mw := (rW h2 a2 c2)) (wr := (wW h a cA u_224.1 ++ [(o, .inl (cO, 1, .inr (.inl u_224.2)))])) (u := v) (va_runV (g := F0 m 275 ls [.int (xs ((t + 6) : Int32).toNatClampNeg), .int (xs ((t + 5) : Int32).toNatClampNeg), .int 0, .int (xs ((t + 3) : Int32).toNatClampNeg), .int (xs ((t + 2) : Int32).toNatClampNeg), .int (xs ((t + 1) : Int32).toNatClampNeg), .ref h2]) (As := [.int (xs ((t + 1) : Int32).toNatClampNeg), .int (xs ((t + 2) : Int32).toNatClampNeg), .int (xs ((t + 3) : Int32).toNatClampNeg), .int 0, .int (xs ((t + 5) : Int32).toNatClampNeg), .int (xs ((t + 6) : Int32).toNatClampNeg)]) (rest := []) ⟨hx, hb, hml, hown, hts⟩ (kX1_code l D h2 a2 c2 v hIv (xs ((t + 1) : Int32).toNatClampNeg) (xs ((t + 2) : Int32).toNatClampNeg) (xs ((t + 3) : Int32).toNatClampNeg) 0 (xs ((t + 5) : Int32).toNatClampNeg) (xs ((t + 6) : Int32).toNatClampNeg)) (cwV 6 hts gL_law_X1_code rfl rfl rfl (by decide +kernel) ⟨by decide, by decide⟩) (mm_pre (ci := 1) (q0 := 0) (q := (RX1, TX1, 6)) hKc hPc hDc rfl rfl) rfl rfl hl.1 rfl (lv_room (Nat.le_of_ble_eq_true rfl)) dL_law_275 ⟨show _ ≤ 1030 by omega, show _ ≤ 16402 by omega⟩) hP hD hS [0, 1, 4] [2, 3] rfl rfl (rA_at h2 a2 c2 v) (fun _ => rfl) (fun r_275 u_275 H locs q_275 hP hD hS => ?_)
            have hP := hP.sub (ws' := zW h a cA h2 a2 c2 o cO u_224.1 u_275 u_224.2) [0, 1, 3, 4, 2] rfl
            have hD := hD.sub (ws' := zW h a cA h2 a2 c2 o cO u_224.1 u_275 u_224.2) [0, 1, 3, 4, 2] (by decide) rfl
            refine W.eq (g2 := F0 m 278 ls [.long r_275]) rfl ?_
            refine lv_lstore (lv' := [(6, .long r_275), (5, .int r_224), (4, .int t), (0, .ref b), (1, .ref h), (2, .ref h2), (3, .ref o)]) hx hb dL_law_278 hl (by decide) rfl (fun ls hl => ?_)
            refine lv_goto (tgt := 372) hx hb dL_law_280 (by decide) ?_
            obtain ⟨x_372, ex_372⟩ : ∃ y : Int32, y = t + 7 := ⟨_, rfl⟩
            refine lv_iinc (v := x_372) (lv' := [(4, .int x_372), (6, .long r_275), (5, .int r_224), (0, .ref b), (1, .ref h), (2, .ref h2), (3, .ref o)]) hx hb dL_law_372 hl (k := 2) rfl (by rw [ex_372]; rfl) (by decide) rfl (fun ls hl => ?_)
            refine lv_goto (tgt := 23) hx hb dL_law_375 (by decide) ?_
            refine W.widen (k := 5 + (k + 1)) (n := 8204 + 6 * (k + 1)) (by omega) (by omega) ?_
            exact ih (k + 1) x_372 u_224.1 u_275 u_224.2 _ _ _ (by omega) (by omega) (by rw [ex_372, ht]; exact step7 k) q_224.1 q_275.1 hP hD hS (lv_sub hl [0, 3, 4, 5, 6] rfl)
          · exact absurd c_202 c_254
        · refine lv_iconst (v := 1) hx hb dL_law_205 (by decide) ?_
          refine lv_goto (tgt := 210) hx hb dL_law_206 (by decide) ?_
          refine lv_aload_n hx hb dL_law_210 rfl (lv_at hl 1 rfl) ?_
          refine lv_iload hx hb dL_law_211 (lv_at hl 0 rfl) ?_
          refine lv_iconst (v := 5) hx hb dL_law_213 (by decide) ?_
          refine lv_iadd hx hb dL_law_214 ?_
          refine va_sld hx hb hX hbl hbA hS (scr_c ht h7 (c := 5) rfl (by decide)) dL_law_215 ?_
          refine lv_aload_n hx hb dL_law_216 rfl (lv_at hl 1 rfl) ?_
          refine lv_iload hx hb dL_law_217 (lv_at hl 0 rfl) ?_
          refine lv_bipush (v := 6) hx hb dL_law_219 (by decide) ?_
          refine lv_iadd hx hb dL_law_221 ?_
          refine va_sld hx hb hX hbl hbA hS (scr_c ht h7 (c := 6) rfl (by decide)) dL_law_222 ?_
          refine lv_aload_n hx hb dL_law_223 rfl (lv_at hl 4 rfl) ?_
          have hPc := hP.sub (ws' := lW h a cA o cO (u, f)) [0, 1, 4] rfl
          have hDc := hD.sub (ws' := lW h a cA o cO (u, f)) [0, 1, 4] (by decide) rfl
          have hKc := hK.sub (tys' := [(cA, .long), (cO, .long)]) [0, 2] rfl
          refine mm_back (rv := rv_i) (mw := (lW h a cA o cO)) (wr := (rW h2 a2 c2 v)) (u := (u, f)) (vx_runSW (g := F0 m 224 ls [.ref o, .int (xs ((t + 6) : Int32).toNatClampNeg), .int (xs ((t + 5) : Int32).toNatClampNeg), .int 1, .int (xs ((t + 3) : Int32).toNatClampNeg), .int (xs ((t + 2) : Int32).toNatClampNeg), .int (xs ((t + 1) : Int32).toNatClampNeg), .ref h]) (As := [.ref h, .int (xs ((t + 1) : Int32).toNatClampNeg), .int (xs ((t + 2) : Int32).toNatClampNeg), .int (xs ((t + 3) : Int32).toNatClampNeg), .int 1, .int (xs ((t + 5) : Int32).toNatClampNeg), .int (xs ((t + 6) : Int32).toNatClampNeg), .ref o]) (rest := []) ⟨hx, hb, hml, hown, hts⟩ (kL_code l hst D h a cA o cO u f hIu (xs ((t + 1) : Int32).toNatClampNeg) (xs ((t + 2) : Int32).toNatClampNeg) (xs ((t + 3) : Int32).toNatClampNeg) 1 (xs ((t + 5) : Int32).toNatClampNeg) (xs ((t + 6) : Int32).toNatClampNeg)) (vx_cwSW 8 hts gL_law_L_code rfl rfl rfl (by decide +kernel) ⟨by decide, by decide⟩) ⟨lb_blind, fun U hU hW => ⟨rfl, ⟨by rw [hU]; exact hPc, va_K.moved hW.alike hKc, hDc.weaken (fun _ _ _ _ => trivial)⟩, xz_law hz hS hU hW⟩⟩ rfl rfl hl.1 rfl (lv_room (Nat.le_of_ble_eq_true rfl)) dL_law_224 ⟨show _ ≤ 1030 by omega, show _ ≤ 16402 by omega⟩) hP hD hS [2, 3] [0, 1, 4] rfl rfl (lA_at h a cA o cO (u, f)) (fun _ => rfl) (fun r_224 u_224 H locs q_224 hP hD hS => ?_)
          have hP := hP.sub (ws' := zW h a cA h2 a2 c2 o cO u_224.1 v u_224.2) [2, 3, 0, 1, 4] rfl
          have hD := hD.sub (ws' := zW h a cA h2 a2 c2 o cO u_224.1 v u_224.2) [2, 3, 0, 1, 4] (by decide) rfl
          refine W.eq (g2 := F0 m 227 ls [.int r_224]) rfl ?_
          refine lv_istore (lv' := [(5, .int r_224), (4, .int t), (0, .ref b), (1, .ref h), (2, .ref h2), (3, .ref o)]) hx hb dL_law_227 hl (by decide) rfl (fun ls hl => ?_)
          refine lv_aload_n hx hb dL_law_229 rfl (lv_at hl 4 rfl) ?_
          refine lv_aload_n hx hb dL_law_230 rfl (lv_at hl 2 rfl) ?_
          refine lv_iload hx hb dL_law_231 (lv_at hl 1 rfl) ?_
          refine lv_iconst (v := 1) hx hb dL_law_233 (by decide) ?_
          refine lv_iadd hx hb dL_law_234 ?_
          refine va_sld hx hb hX hbl hbA hS (scr_c ht h7 (c := 1) rfl (by decide)) dL_law_235 ?_
          refine lv_aload_n hx hb dL_law_236 rfl (lv_at hl 2 rfl) ?_
          refine lv_iload hx hb dL_law_237 (lv_at hl 1 rfl) ?_
          refine lv_iconst (v := 2) hx hb dL_law_239 (by decide) ?_
          refine lv_iadd hx hb dL_law_240 ?_
          refine va_sld hx hb hX hbl hbA hS (scr_c ht h7 (c := 2) rfl (by decide)) dL_law_241 ?_
          refine lv_aload_n hx hb dL_law_242 rfl (lv_at hl 2 rfl) ?_
          refine lv_iload hx hb dL_law_243 (lv_at hl 1 rfl) ?_
          refine lv_iconst (v := 3) hx hb dL_law_245 (by decide) ?_
          refine lv_iadd hx hb dL_law_246 ?_
          refine va_sld hx hb hX hbl hbA hS (scr_c ht h7 (c := 3) rfl (by decide)) dL_law_247 ?_
          refine lv_aload_n hx hb dL_law_248 rfl (lv_at hl 2 rfl) ?_
          refine lv_iload hx hb dL_law_249 (lv_at hl 1 rfl) ?_
          refine lv_iconst (v := 4) hx hb dL_law_251 (by decide) ?_
          refine lv_iadd hx hb dL_law_252 ?_
          refine va_sld hx hb hX hbl hbA hS (scr_c ht h7 (c := 4) rfl (by decide)) dL_law_253 ?_
          refine lv_if_eq (tgt := 261) hx hb dL_law_254 (by decide) (fun c_254 => ?_) (fun c_254 => ?_)
          · exact absurd c_254 c_202
          · refine lv_iconst (v := 1) hx hb dL_law_257 (by decide) ?_
            refine lv_goto (tgt := 262) hx hb dL_law_258 (by decide) ?_
            refine lv_aload_n hx hb dL_law_262 rfl (lv_at hl 2 rfl) ?_
            refine lv_iload hx hb dL_law_263 (lv_at hl 1 rfl) ?_
            refine lv_iconst (v := 5) hx hb dL_law_265 (by decide) ?_
            refine lv_iadd hx hb dL_law_266 ?_
            refine va_sld hx hb hX hbl hbA hS (scr_c ht h7 (c := 5) rfl (by decide)) dL_law_267 ?_
            refine lv_aload_n hx hb dL_law_268 rfl (lv_at hl 2 rfl) ?_
            refine lv_iload hx hb dL_law_269 (lv_at hl 1 rfl) ?_
            refine lv_bipush (v := 6) hx hb dL_law_271 (by decide) ?_
            refine lv_iadd hx hb dL_law_273 ?_
            refine va_sld hx hb hX hbl hbA hS (scr_c ht h7 (c := 6) rfl (by decide)) dL_law_274 ?_
            have hPc := hP.sub (ws' := rW h2 a2 c2 v) [2, 3] rfl
            have hDc := hD.sub (ws' := rW h2 a2 c2 v) [2, 3] (by decide) rfl
            have hKc := hK.sub (tys' := [(c2, .long)]) [1] rfl
            refine mm_back (rv := rv_l) (mw := (rW h2 a2 c2)) (wr := (wW h a cA u_224.1 ++ [(o, .inl (cO, 1, .inr (.inl u_224.2)))])) (u := v) (va_runV (g := F0 m 275 ls [.int (xs ((t + 6) : Int32).toNatClampNeg), .int (xs ((t + 5) : Int32).toNatClampNeg), .int 1, .int (xs ((t + 3) : Int32).toNatClampNeg), .int (xs ((t + 2) : Int32).toNatClampNeg), .int (xs ((t + 1) : Int32).toNatClampNeg), .ref h2]) (As := [.int (xs ((t + 1) : Int32).toNatClampNeg), .int (xs ((t + 2) : Int32).toNatClampNeg), .int (xs ((t + 3) : Int32).toNatClampNeg), .int 1, .int (xs ((t + 5) : Int32).toNatClampNeg), .int (xs ((t + 6) : Int32).toNatClampNeg)]) (rest := []) ⟨hx, hb, hml, hown, hts⟩ (kX1_code l D h2 a2 c2 v hIv (xs ((t + 1) : Int32).toNatClampNeg) (xs ((t + 2) : Int32).toNatClampNeg) (xs ((t + 3) : Int32).toNatClampNeg) 1 (xs ((t + 5) : Int32).toNatClampNeg) (xs ((t + 6) : Int32).toNatClampNeg)) (cwV 6 hts gL_law_X1_code rfl rfl rfl (by decide +kernel) ⟨by decide, by decide⟩) (mm_pre (ci := 1) (q0 := 0) (q := (RX1, TX1, 6)) hKc hPc hDc rfl rfl) rfl rfl hl.1 rfl (lv_room (Nat.le_of_ble_eq_true rfl)) dL_law_275 ⟨show _ ≤ 1030 by omega, show _ ≤ 16402 by omega⟩) hP hD hS [0, 1, 4] [2, 3] rfl rfl (rA_at h2 a2 c2 v) (fun _ => rfl) (fun r_275 u_275 H locs q_275 hP hD hS => ?_)
            have hP := hP.sub (ws' := zW h a cA h2 a2 c2 o cO u_224.1 u_275 u_224.2) [0, 1, 3, 4, 2] rfl
            have hD := hD.sub (ws' := zW h a cA h2 a2 c2 o cO u_224.1 u_275 u_224.2) [0, 1, 3, 4, 2] (by decide) rfl
            refine W.eq (g2 := F0 m 278 ls [.long r_275]) rfl ?_
            refine lv_lstore (lv' := [(6, .long r_275), (5, .int r_224), (4, .int t), (0, .ref b), (1, .ref h), (2, .ref h2), (3, .ref o)]) hx hb dL_law_278 hl (by decide) rfl (fun ls hl => ?_)
            refine lv_goto (tgt := 372) hx hb dL_law_280 (by decide) ?_
            obtain ⟨x_372, ex_372⟩ : ∃ y : Int32, y = t + 7 := ⟨_, rfl⟩
            refine lv_iinc (v := x_372) (lv' := [(4, .int x_372), (6, .long r_275), (5, .int r_224), (0, .ref b), (1, .ref h), (2, .ref h2), (3, .ref o)]) hx hb dL_law_372 hl (k := 2) rfl (by rw [ex_372]; rfl) (by decide) rfl (fun ls hl => ?_)
            refine lv_goto (tgt := 23) hx hb dL_law_375 (by decide) ?_
            refine W.widen (k := 5 + (k + 1)) (n := 8204 + 6 * (k + 1)) (by omega) (by omega) ?_
            exact ih (k + 1) x_372 u_224.1 u_275 u_224.2 _ _ _ (by omega) (by omega) (by rw [ex_372, ht]; exact step7 k) q_224.1 q_275.1 hP hD hS (lv_sub hl [0, 3, 4, 5, 6] rfl)
      by_cases k_3 : x_40 = 3
      · subst k_3
        refine lv_tableIn (tgt := 283) hx hb dL_law_40 (by decide) (by decide) rfl (by decide) ?_
        refine lv_aload_n hx hb dL_law_283 rfl (lv_at hl 2 rfl) ?_
        refine lv_aload_n hx hb dL_law_284 rfl (lv_at hl 1 rfl) ?_
        refine lv_iload hx hb dL_law_285 (lv_at hl 0 rfl) ?_
        refine lv_iconst (v := 1) hx hb dL_law_287 (by decide) ?_
        refine lv_iadd hx hb dL_law_288 ?_
        refine va_sld hx hb hX hbl hbA hS (scr_c ht h7 (c := 1) rfl (by decide)) dL_law_289 ?_
        have hPc := hP.sub (ws' := wW h a cA u) [0, 1] rfl
        have hDc := hD.sub (ws' := wW h a cA u) [0, 1] (by decide) rfl
        have hKc := hK.sub (tys' := [(cA, .long)]) [0] rfl
        refine mm_back (rv := rv_i) (mw := (wW h a cA)) (wr := (rW h2 a2 c2 v ++ [(o, .inl (cO, 1, .inr (.inl f)))])) (u := u) (vx_runSW (g := F0 m 290 ls [.int (xs ((t + 1) : Int32).toNatClampNeg), .ref h]) (As := [.ref h, .int (xs ((t + 1) : Int32).toNatClampNeg)]) (rest := []) ⟨hx, hb, hml, hown, hts⟩ (kL_go l hst D h a cA u hIu (xs ((t + 1) : Int32).toNatClampNeg)) (vx_cwSW 2 hts gL_law_L_go rfl rfl rfl (by decide +kernel) ⟨by decide, by decide⟩) ⟨lb_blind, fun U hU hW => ⟨rfl, ⟨by rw [hU]; exact hPc, va_K.moved hW.alike hKc, hDc.weaken (fun _ _ _ _ => trivial)⟩, xz_law hz hS hU hW⟩⟩ rfl rfl hl.1 rfl (lv_room (Nat.le_of_ble_eq_true rfl)) dL_law_290 ⟨show _ ≤ 1030 by omega, show _ ≤ 16402 by omega⟩) hP hD hS [2, 3, 4] [0, 1] rfl rfl (wA_at h a cA u) (fun _ => rfl) (fun r_290 u_290 H locs q_290 hP hD hS => ?_)
        have hP := hP.sub (ws' := zW h a cA h2 a2 c2 o cO u_290 v f) [3, 4, 0, 1, 2] rfl
        have hD := hD.sub (ws' := zW h a cA h2 a2 c2 o cO u_290 v f) [3, 4, 0, 1, 2] (by decide) rfl
        refine W.eq (g2 := F0 m 293 ls [.int r_290]) rfl ?_
        refine lv_istore (lv' := [(5, .int r_290), (4, .int t), (0, .ref b), (1, .ref h), (2, .ref h2), (3, .ref o)]) hx hb dL_law_293 hl (by decide) rfl (fun ls hl => ?_)
        refine lv_aload_n hx hb dL_law_295 rfl (lv_at hl 4 rfl) ?_
        refine lv_aload_n hx hb dL_law_296 rfl (lv_at hl 2 rfl) ?_
        refine lv_iload hx hb dL_law_297 (lv_at hl 1 rfl) ?_
        refine lv_iconst (v := 1) hx hb dL_law_299 (by decide) ?_
        refine lv_iadd hx hb dL_law_300 ?_
        refine va_sld hx hb hX hbl hbA hS (scr_c ht h7 (c := 1) rfl (by decide)) dL_law_301 ?_
        have hPc := hP.sub (ws' := rW h2 a2 c2 v) [2, 3] rfl
        have hDc := hD.sub (ws' := rW h2 a2 c2 v) [2, 3] (by decide) rfl
        have hKc := hK.sub (tys' := [(c2, .long)]) [1] rfl
        refine mm_back (rv := rv_v) (mw := (rW h2 a2 c2)) (wr := (wW h a cA u_290 ++ [(o, .inl (cO, 1, .inr (.inl f)))])) (u := v) (va_runV (g := F0 m 302 ls [.int (xs ((t + 1) : Int32).toNatClampNeg), .ref h2]) (As := [.int (xs ((t + 1) : Int32).toNatClampNeg)]) (rest := []) ⟨hx, hb, hml, hown, hts⟩ (kX1_go l D h2 a2 c2 v hIv (xs ((t + 1) : Int32).toNatClampNeg)) (cwV 1 hts gL_law_X1_go rfl rfl rfl (by decide +kernel) ⟨by decide, by decide⟩) (mm_pre (ci := 1) (q0 := 0) (q := (RX1, TX1, 6)) hKc hPc hDc rfl rfl) rfl rfl hl.1 rfl (lv_room (Nat.le_of_ble_eq_true rfl)) dL_law_302 ⟨show _ ≤ 1030 by omega, show _ ≤ 16402 by omega⟩) hP hD hS [0, 1, 4] [2, 3] rfl rfl (rA_at h2 a2 c2 v) (fun _ => rfl) (fun _ u_302 H locs q_302 hP hD hS => ?_)
        have hP := hP.sub (ws' := zW h a cA h2 a2 c2 o cO u_290 u_302 f) [0, 1, 3, 4, 2] rfl
        have hD := hD.sub (ws' := zW h a cA h2 a2 c2 o cO u_290 u_302 f) [0, 1, 3, 4, 2] (by decide) rfl
        refine W.eq (g2 := F0 m 305 ls []) rfl ?_
        refine lv_aload_n hx hb dL_law_305 rfl (lv_at hl 4 rfl) ?_
        have hPc := hP.sub (ws' := rW h2 a2 c2 u_302) [2, 3] rfl
        have hDc := hD.sub (ws' := rW h2 a2 c2 u_302) [2, 3] (by decide) rfl
        have hKc := hK.sub (tys' := [(c2, .long)]) [1] rfl
        refine mm_back (rv := rv_i) (mw := (rW h2 a2 c2)) (wr := (wW h a cA u_290 ++ [(o, .inl (cO, 1, .inr (.inl f)))])) (u := u_302) (va_runV (g := F0 m 306 ls [.ref h2]) (As := []) (rest := []) ⟨hx, hb, hml, hown, hts⟩ (kX1_thrown l D h2 a2 c2 u_302 q_302.1 ) (cwV 0 hts gL_law_X1_thrown rfl rfl rfl (by decide +kernel) ⟨by decide, by decide⟩) (mm_pre (ci := 1) (q0 := 0) (q := (RX1, TX1, 6)) hKc hPc hDc rfl rfl) rfl rfl hl.1 rfl (lv_room (Nat.le_of_ble_eq_true rfl)) dL_law_306 ⟨show _ ≤ 1030 by omega, show _ ≤ 16402 by omega⟩) hP hD hS [0, 1, 4] [2, 3] rfl rfl (rA_at h2 a2 c2 u_302) (fun _ => rfl) (fun r_306 u_306 H locs q_306 hP hD hS => ?_)
        obtain ⟨eu_306, er_306⟩ := q_306
        have eu_306 := eu_306.symm
        subst eu_306
        have hP := hP.sub (ws' := zW h a cA h2 a2 c2 o cO u_290 u_302 f) [0, 1, 3, 4, 2] rfl
        have hD := hD.sub (ws' := zW h a cA h2 a2 c2 o cO u_290 u_302 f) [0, 1, 3, 4, 2] (by decide) rfl
        refine W.eq (g2 := F0 m 309 ls [.int r_306]) rfl ?_
        refine lv_iload hx hb dL_law_309 (lv_at hl 0 rfl) ?_
        refine lv_icmp_eq (tgt := 316) hx hb dL_law_311 (by decide) (fun c_311 => ?_) (fun c_311 => ?_)
        · refine lv_goto (tgt := 372) hx hb dL_law_316 (by decide) ?_
          obtain ⟨x_372, ex_372⟩ : ∃ y : Int32, y = t + 7 := ⟨_, rfl⟩
          refine lv_iinc (v := x_372) (lv' := [(4, .int x_372), (5, .int r_290), (0, .ref b), (1, .ref h), (2, .ref h2), (3, .ref o)]) hx hb dL_law_372 hl (k := 1) rfl (by rw [ex_372]; rfl) (by decide) rfl (fun ls hl => ?_)
          refine lv_goto (tgt := 23) hx hb dL_law_375 (by decide) ?_
          refine W.widen (k := 5 + (k + 1)) (n := 8204 + 6 * (k + 1)) (by omega) (by omega) ?_
          exact ih (k + 1) x_372 u_290 u_302 f _ _ _ (by omega) (by omega) (by rw [ex_372, ht]; exact step7 k) q_290.1 q_302.1 hP hD hS (lv_sub hl [0, 2, 3, 4, 5] rfl)
        · exact absurd (cmp_th q_290.2 q_302.2 er_306) c_311
      by_cases k_4 : x_40 = 4
      · subst k_4
        refine lv_tableIn (tgt := 319) hx hb dL_law_40 (by decide) (by decide) rfl (by decide) ?_
        refine lv_aload_n hx hb dL_law_319 rfl (lv_at hl 2 rfl) ?_
        refine lv_aload_n hx hb dL_law_320 rfl (lv_at hl 1 rfl) ?_
        refine lv_iload hx hb dL_law_321 (lv_at hl 0 rfl) ?_
        refine lv_iconst (v := 1) hx hb dL_law_323 (by decide) ?_
        refine lv_iadd hx hb dL_law_324 ?_
        refine va_sld hx hb hX hbl hbA hS (scr_c ht h7 (c := 1) rfl (by decide)) dL_law_325 ?_
        refine lv_aload_n hx hb dL_law_326 rfl (lv_at hl 4 rfl) ?_
        have hPc := hP.sub (ws' := lW h a cA o cO (u, f)) [0, 1, 4] rfl
        have hDc := hD.sub (ws' := lW h a cA o cO (u, f)) [0, 1, 4] (by decide) rfl
        have hKc := hK.sub (tys' := [(cA, .long), (cO, .long)]) [0, 2] rfl
        refine mm_back (rv := rv_i) (mw := (lW h a cA o cO)) (wr := (rW h2 a2 c2 v)) (u := (u, f)) (vx_runSW (g := F0 m 327 ls [.ref o, .int (xs ((t + 1) : Int32).toNatClampNeg), .ref h]) (As := [.ref h, .int (xs ((t + 1) : Int32).toNatClampNeg), .ref o]) (rest := []) ⟨hx, hb, hml, hown, hts⟩ (kL_run l hst D h a cA o cO u f hIu (xs ((t + 1) : Int32).toNatClampNeg)) (vx_cwSW 3 hts gL_law_L_run rfl rfl rfl (by decide +kernel) ⟨by decide, by decide⟩) ⟨lb_blind, fun U hU hW => ⟨rfl, ⟨by rw [hU]; exact hPc, va_K.moved hW.alike hKc, hDc.weaken (fun _ _ _ _ => trivial)⟩, xz_law hz hS hU hW⟩⟩ rfl rfl hl.1 rfl (lv_room (Nat.le_of_ble_eq_true rfl)) dL_law_327 ⟨show _ ≤ 1030 by omega, show _ ≤ 16402 by omega⟩) hP hD hS [2, 3] [0, 1, 4] rfl rfl (lA_at h a cA o cO (u, f)) (fun _ => rfl) (fun r_327 u_327 H locs q_327 hP hD hS => ?_)
        have hP := hP.sub (ws' := zW h a cA h2 a2 c2 o cO u_327.1 v u_327.2) [2, 3, 0, 1, 4] rfl
        have hD := hD.sub (ws' := zW h a cA h2 a2 c2 o cO u_327.1 v u_327.2) [2, 3, 0, 1, 4] (by decide) rfl
        refine W.eq (g2 := F0 m 330 ls [.int r_327]) rfl ?_
        refine lv_istore (lv' := [(5, .int r_327), (4, .int t), (0, .ref b), (1, .ref h), (2, .ref h2), (3, .ref o)]) hx hb dL_law_330 hl (by decide) rfl (fun ls hl => ?_)
        refine lv_aload_n hx hb dL_law_332 rfl (lv_at hl 4 rfl) ?_
        refine lv_aload_n hx hb dL_law_333 rfl (lv_at hl 2 rfl) ?_
        refine lv_iload hx hb dL_law_334 (lv_at hl 1 rfl) ?_
        refine lv_iconst (v := 1) hx hb dL_law_336 (by decide) ?_
        refine lv_iadd hx hb dL_law_337 ?_
        refine va_sld hx hb hX hbl hbA hS (scr_c ht h7 (c := 1) rfl (by decide)) dL_law_338 ?_
        have hPc := hP.sub (ws' := rW h2 a2 c2 v) [2, 3] rfl
        have hDc := hD.sub (ws' := rW h2 a2 c2 v) [2, 3] (by decide) rfl
        have hKc := hK.sub (tys' := [(c2, .long)]) [1] rfl
        refine mm_back (rv := rv_i) (mw := (rW h2 a2 c2)) (wr := (wW h a cA u_327.1 ++ [(o, .inl (cO, 1, .inr (.inl u_327.2)))])) (u := v) (va_runV (g := F0 m 339 ls [.int (xs ((t + 1) : Int32).toNatClampNeg), .ref h2]) (As := [.int (xs ((t + 1) : Int32).toNatClampNeg)]) (rest := []) ⟨hx, hb, hml, hown, hts⟩ (kX1_run l D h2 a2 c2 v hIv (xs ((t + 1) : Int32).toNatClampNeg)) (cwV 1 hts gL_law_X1_run rfl rfl rfl (by decide +kernel) ⟨by decide, by decide⟩) (mm_pre (ci := 1) (q0 := 0) (q := (RX1, TX1, 6)) hKc hPc hDc rfl rfl) rfl rfl hl.1 rfl (lv_room (Nat.le_of_ble_eq_true rfl)) dL_law_339 ⟨show _ ≤ 1030 by omega, show _ ≤ 16402 by omega⟩) hP hD hS [0, 1, 4] [2, 3] rfl rfl (rA_at h2 a2 c2 v) (fun _ => rfl) (fun r_339 u_339 H locs q_339 hP hD hS => ?_)
        have hP := hP.sub (ws' := zW h a cA h2 a2 c2 o cO u_327.1 u_339 u_327.2) [0, 1, 3, 4, 2] rfl
        have hD := hD.sub (ws' := zW h a cA h2 a2 c2 o cO u_327.1 u_339 u_327.2) [0, 1, 3, 4, 2] (by decide) rfl
        refine W.eq (g2 := F0 m 342 ls [.int r_339]) rfl ?_
        refine lv_istore (lv' := [(6, .int r_339), (5, .int r_327), (4, .int t), (0, .ref b), (1, .ref h), (2, .ref h2), (3, .ref o)]) hx hb dL_law_342 hl (by decide) rfl (fun ls hl => ?_)
        refine lv_goto (tgt := 372) hx hb dL_law_344 (by decide) ?_
        obtain ⟨x_372, ex_372⟩ : ∃ y : Int32, y = t + 7 := ⟨_, rfl⟩
        refine lv_iinc (v := x_372) (lv' := [(4, .int x_372), (6, .int r_339), (5, .int r_327), (0, .ref b), (1, .ref h), (2, .ref h2), (3, .ref o)]) hx hb dL_law_372 hl (k := 2) rfl (by rw [ex_372]; rfl) (by decide) rfl (fun ls hl => ?_)
        refine lv_goto (tgt := 23) hx hb dL_law_375 (by decide) ?_
        refine W.widen (k := 5 + (k + 1)) (n := 8204 + 6 * (k + 1)) (by omega) (by omega) ?_
        exact ih (k + 1) x_372 u_327.1 u_339 u_327.2 _ _ _ (by omega) (by omega) (by rw [ex_372, ht]; exact step7 k) q_327.1 q_339.1 hP hD hS (lv_sub hl [0, 3, 4, 5, 6] rfl)
      by_cases k_5 : x_40 = 5
      · subst k_5
        refine lv_tableIn (tgt := 347) hx hb dL_law_40 (by decide) (by decide) rfl (by decide) ?_
        refine lv_aload_n hx hb dL_law_347 rfl (lv_at hl 2 rfl) ?_
        refine lv_aload_n hx hb dL_law_348 rfl (lv_at hl 1 rfl) ?_
        refine lv_iload hx hb dL_law_349 (lv_at hl 0 rfl) ?_
        refine lv_iconst (v := 1) hx hb dL_law_351 (by decide) ?_
        refine lv_iadd hx hb dL_law_352 ?_
        refine va_sld hx hb hX hbl hbA hS (scr_c ht h7 (c := 1) rfl (by decide)) dL_law_353 ?_
        have hPc := hP.sub (ws' := wW h a cA u) [0, 1] rfl
        have hDc := hD.sub (ws' := wW h a cA u) [0, 1] (by decide) rfl
        have hKc := hK.sub (tys' := [(cA, .long)]) [0] rfl
        refine mm_back (rv := rv_i) (mw := (wW h a cA)) (wr := (rW h2 a2 c2 v ++ [(o, .inl (cO, 1, .inr (.inl f)))])) (u := u) (va_runV (g := F0 m 354 ls [.int (xs ((t + 1) : Int32).toNatClampNeg), .ref h]) (As := [.int (xs ((t + 1) : Int32).toNatClampNeg)]) (rest := []) ⟨hx, hb, hml, hown, hts⟩ (kX0_count l D h a cA u hIu (xs ((t + 1) : Int32).toNatClampNeg)) (cwV 1 hts gL_law_X0_count rfl rfl rfl (by decide +kernel) ⟨by decide, by decide⟩) (mm_pre (ci := 0) (q0 := 0) (q := (RX0, TX0, 5)) hKc hPc hDc rfl rfl) rfl rfl hl.1 rfl (lv_room (Nat.le_of_ble_eq_true rfl)) dL_law_354 ⟨show _ ≤ 1030 by omega, show _ ≤ 16402 by omega⟩) hP hD hS [2, 3, 4] [0, 1] rfl rfl (wA_at h a cA u) (fun _ => rfl) (fun r_354 u_354 H locs q_354 hP hD hS => ?_)
        have q_354 := q_354.symm
        subst q_354
        have hP := hP.sub (ws' := zW h a cA h2 a2 c2 o cO u v f) [3, 4, 0, 1, 2] rfl
        have hD := hD.sub (ws' := zW h a cA h2 a2 c2 o cO u v f) [3, 4, 0, 1, 2] (by decide) rfl
        refine W.eq (g2 := F0 m 357 ls [.int r_354]) rfl ?_
        refine lv_pop hx hb dL_law_357 rfl ?_
        refine lv_aload_n hx hb dL_law_358 rfl (lv_at hl 3 rfl) ?_
        refine lv_aload_n hx hb dL_law_359 rfl (lv_at hl 1 rfl) ?_
        refine lv_iload hx hb dL_law_360 (lv_at hl 0 rfl) ?_
        refine lv_iconst (v := 1) hx hb dL_law_362 (by decide) ?_
        refine lv_iadd hx hb dL_law_363 ?_
        refine va_sld hx hb hX hbl hbA hS (scr_c ht h7 (c := 1) rfl (by decide)) dL_law_364 ?_
        have hPc := hP.sub (ws' := rW h2 a2 c2 v) [2, 3] rfl
        have hDc := hD.sub (ws' := rW h2 a2 c2 v) [2, 3] (by decide) rfl
        have hKc := hK.sub (tys' := [(c2, .long)]) [1] rfl
        refine mm_back (rv := rv_i) (mw := (rW h2 a2 c2)) (wr := (wW h a cA u ++ [(o, .inl (cO, 1, .inr (.inl f)))])) (u := v) (va_runV (g := F0 m 365 ls [.int (xs ((t + 1) : Int32).toNatClampNeg), .ref h2]) (As := [.int (xs ((t + 1) : Int32).toNatClampNeg)]) (rest := []) ⟨hx, hb, hml, hown, hts⟩ (kX1_count l D h2 a2 c2 v hIv (xs ((t + 1) : Int32).toNatClampNeg)) (cwV 1 hts gL_law_X1_count rfl rfl rfl (by decide +kernel) ⟨by decide, by decide⟩) (mm_pre (ci := 1) (q0 := 0) (q := (RX1, TX1, 6)) hKc hPc hDc rfl rfl) rfl rfl hl.1 rfl (lv_room (Nat.le_of_ble_eq_true rfl)) dL_law_365 ⟨show _ ≤ 1030 by omega, show _ ≤ 16402 by omega⟩) hP hD hS [0, 1, 4] [2, 3] rfl rfl (rA_at h2 a2 c2 v) (fun _ => rfl) (fun r_365 u_365 H locs q_365 hP hD hS => ?_)
        have hP := hP.sub (ws' := zW h a cA h2 a2 c2 o cO u u_365 f) [0, 1, 3, 4, 2] rfl
        have hD := hD.sub (ws' := zW h a cA h2 a2 c2 o cO u u_365 f) [0, 1, 3, 4, 2] (by decide) rfl
        refine W.eq (g2 := F0 m 368 ls [.int r_365]) rfl ?_
        refine lv_pop hx hb dL_law_368 rfl ?_
        refine lv_goto (tgt := 372) hx hb dL_law_369 (by decide) ?_
        obtain ⟨x_372, ex_372⟩ : ∃ y : Int32, y = t + 7 := ⟨_, rfl⟩
        refine lv_iinc (v := x_372) (lv' := [(4, .int x_372), (0, .ref b), (1, .ref h), (2, .ref h2), (3, .ref o)]) hx hb dL_law_372 hl (k := 0) rfl (by rw [ex_372]; rfl) (by decide) rfl (fun ls hl => ?_)
        refine lv_goto (tgt := 23) hx hb dL_law_375 (by decide) ?_
        refine W.widen (k := 5 + (k + 1)) (n := 8204 + 6 * (k + 1)) (by omega) (by omega) ?_
        exact ih (k + 1) x_372 u u_365 f _ _ _ (by omega) (by omega) (by rw [ex_372, ht]; exact step7 k) hIu q_365 hP hD hS (lv_sub hl [0, 1, 2, 3, 4] rfl)
      refine lv_tableOut (tgt := 372) hx hb dL_law_40 (tb_out_0_6 k_0 k_1 k_2 k_3 k_4 k_5) (by decide) ?_
      obtain ⟨x_372, ex_372⟩ : ∃ y : Int32, y = t + 7 := ⟨_, rfl⟩
      refine lv_iinc (v := x_372) (lv' := [(4, .int x_372), (0, .ref b), (1, .ref h), (2, .ref h2), (3, .ref o)]) hx hb dL_law_372 hl (k := 0) rfl (by rw [ex_372]; rfl) (by decide) rfl (fun ls hl => ?_)
      refine lv_goto (tgt := 23) hx hb dL_law_375 (by decide) ?_
      refine W.widen (k := 5 + (k + 1)) (n := 8204 + 6 * (k + 1)) (by omega) (by omega) ?_
      exact ih (k + 1) x_372 u v f _ _ _ (by omega) (by omega) (by rw [ex_372, ht]; exact step7 k) hIu hIv hP hD hS (lv_sub hl [0, 1, 2, 3, 4] rfl)
