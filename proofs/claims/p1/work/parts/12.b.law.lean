abbrev zW (h a : Nat) (cA : ClassId) (h2 a2 : Nat) (c2 : ClassId) (o : Nat) (cO : ClassId) (u : wS) (v : rS) (f : Nat → Int64) : va_W := [(h, .inr (0, [.ref a, .int u.2.1, .int u.2.2.1, .int u.2.2.2.1, .int u.2.2.2.2])), (a, .inl (cA, 4096, .inr (.inl u.1))), (h2, .inr (1, [.int v.2.1, .ref a2, .int v.2.2.1, .int v.2.2.2.1, .int v.2.2.2.2.1, .long v.2.2.2.2.2])), (a2, .inl (c2, 4096, .inr (.inl v.1))), (o, .inl (cO, 1, .inr (.inl f)))]
theorem step7 (k : Nat) : nI (7 * k) + 7 = nI (7 * (k + 1)) := by
  show nI (7 * k) + nI 7 = _
  rw [nI_add]
  rfl
theorem loop_in {L k : Nat} {t : Int32} (ht : t = nI (7 * k)) (hL : L ≤ 7) (hk : k ≤ 1) (h : ¬ (Int32.ofNat L - 7) < t) : 7 * k + 7 ≤ L := by
  rw [ht, Int32.lt_iff_toInt_lt] at h
  have e1 : (Int32.ofNat L - 7).toInt = (L : Int) - 7 := pk_sub_toInt (a := L) (b := 7) (by omega) (by decide)
  rw [e1, nI_toInt (by omega)] at h
  omega
theorem scr_0 {L k : Nat} {t : Int32} (ht : t = nI (7 * k)) (h7 : 7 * k + 7 ≤ L) (hL : L < 2 ^ 31 := by omega) : vp_in t L := by
  rw [ht]
  exact vp_in_nI (by omega) hL
theorem scr_c {L k c : Nat} {t x : Int32} (ht : t = nI (7 * k)) (h7 : 7 * k + 7 ≤ L) (hx : x = nI c) (hc : c < 7) (hL : L < 2 ^ 31 := by omega) : vp_in (t + x) L := by
  rw [ht, hx, nI_add]
  exact vp_in_nI (by omega) hL
theorem lb_blind {D : va_G} {cl : List vw_C} {tys : List (ClassId × FieldType)} {w : va_W} {As : List Value} : FrameBlind (va_Pc As (fun U => mm_P D cl tys w U ∧ xz U)) := fun a U g mk q => by
  obtain ⟨q0, ⟨qP, qK, qD⟩, qz⟩ := q
  exact ⟨q0, ⟨qP, va_K.moved (u := U) (U := U.calling g mk a) (Vm.Alike.refl U.vm) qK, qD⟩, xz_moved (U := U.calling g mk a) qz (Vm.Alike.refl U.vm) (fun _ _ => rfl)⟩
theorem xz_law {s U : State} {H : Heap} {locs : List Loc} (hz : xz s) (hS : va_S (fun q : Nat => s.heap.size ≤ q) s.heap H locs) (hU : U.heap = H) (hW : s.WarmedH U.vm) : xz U := xz_moved hz hW.alike (fun a ha => by rw [hU]; exact hS.2.1 a ha (Nat.not_le.mpr ha))
theorem cmp_th {P : Prop} {k th r : Int32} (h1 : (k = 0 ∧ P) ∨ (k = 1 ∧ ¬ P)) (h2 : (P ∧ th = 0) ∨ (¬ P ∧ th = 1)) (h3 : r = th) : r = k := by
  rcases h1 with ⟨a, b⟩ | ⟨a, b⟩
  · rcases h2 with ⟨c, d⟩ | ⟨c, d⟩
    · rw [h3, d, a]
    · exact absurd b c
  · rcases h2 with ⟨c, d⟩ | ⟨c, d⟩
    · exact absurd c b
    · rw [h3, d, a]
theorem cmp_c1 {P E : Prop} {k : Int32} (h : (k = 0 ∧ P ∧ E) ∨ (k = 1 ∧ ¬ P)) : (k = 0 ∧ P) ∨ (k = 1 ∧ ¬ P) := h.elim (fun q => Or.inl ⟨q.1, q.2.1⟩) Or.inr
theorem cmp_c2 {P E : Prop} {th : Int32} (h : (P ∧ th = 0 ∧ E) ∨ (¬ P ∧ th = 1)) : (P ∧ th = 0) ∨ (¬ P ∧ th = 1) := h.elim (fun q => Or.inl ⟨q.1, q.2.1⟩) Or.inr
theorem cmp_r {P : Prop} {th : Int32} (h : (P → th = 0) ∧ (¬ P → th = 1)) : (P ∧ th = 0) ∨ (¬ P ∧ th = 1) := by
  by_cases q : P
  · exact Or.inl ⟨q, h.1 q⟩
  · exact Or.inr ⟨q, h.2 q⟩
theorem cmp_v {i op ac z x y k th : Int32} {r : Int64} {f : Nat → Int64} (h1 : (k = 0 ∧ okc i op ac x ∧ f 0 = wc_code op ac z x y) ∨ (k = 1 ∧ ¬ okc i op ac x)) (h2 : (okc i op ac x ∧ th = 0 ∧ r = rc_code op ac z x y) ∨ (¬ okc i op ac x ∧ th = 1)) (hk : k = 0) : lg_cmp (f (0 : Int32).toNatClampNeg) r = 0 := by
  rcases h1 with ⟨a, b, c⟩ | ⟨a, b⟩
  · rcases h2 with ⟨d, e, g⟩ | ⟨d, e⟩
    · rw [lg_cmp_eq, sb_cl0, c, g, code_same]
    · exact absurd b d
  · exact absurd (hk.symm.trans a) (by decide)
set_option maxHeartbeats 8000000 in
set_option maxRecDepth 100000 in
theorem law_loop {p : Program} {e : Env} {s : State} {m : MethodId} {below : List Frame} {meth : Method} {c : Code} {l : Launch} (hst : l.stackTraces = false) {b L : Nat} {xs : Nat → Int32} (hL : L ≤ 7) (C0 : lw_At p s m meth c b L xs) (hz : xz s) {D : va_G} {h a : Nat} {cA : ClassId} {h2 a2 : Nat} {c2 : ClassId} {o : Nat} {cO : ClassId} (hK : va_K D vwCl [(cA, .long), (c2, .long), (cO, .long)] s) :
    ∀ (n k : Nat) (t : Int32) (u : wS) (v : rS) (f : Nat → Int64) (H : Heap) (locs : List Loc) (ls : Array Slot), 1 - k < n → k ≤ 1 → t = nI (7 * k) → wI u → rI v → (k = 0 → f0 u ∧ f1 v) → va_P D vwCl (zW h a cA h2 a2 c2 o cO u v f) H → va_D (fun q : Nat => s.heap.size ≤ q) (zW h a cA h2 a2 c2 o cO u v f) → va_S (fun q : Nat => s.heap.size ≤ q) s.heap H locs → lv_has ls 8 [(4, .int t), (0, .ref b), (1, .ref h), (2, .ref h2), (3, .ref o)] →
      W p l e room_1 s m #[Value.ref b] below meth c H locs (5 + k) (8204 + 6 * k) (lw_Z below #[Value.ref b] s) (F0 m 23 ls []) := by
  obtain ⟨hx, hb, hr, hml, hown0, hts0, hX, hbl, hlocks, hgv⟩ := id C0
  have hown : s.vm.findClass RL = some m.cls := hown0
  have hts := fun w h => hts0 w (wsL_law_in w h)
  have hbA : ¬ (fun q : Nat => s.heap.size ≤ q) b := Nat.not_le.mpr hbl
  intro n
  induction n with
  | zero => intro k t u v f H locs ls hn; exact absurd hn (Nat.not_lt_zero _)
  | succ n ih =>
    intro k t u v f H locs ls hn hk ht hIu hIv hF hP hD hS hl
    refine lv_iload hx hb dL_law_23 (lv_at hl 0 rfl) ?_
    refine lv_aload_n hx hb dL_law_25 rfl (lv_at hl 1 rfl) ?_
    refine va_slen hx hb hX hbl hbA hS dL_law_26 ?_
    refine lv_bipush (v := 7) hx hb dL_law_27 (by decide) ?_
    refine lv_isub hx hb dL_law_29 ?_
    refine lv_icmp_gt (tgt := 471) hx hb dL_law_30 (by decide) (fun c_30 => ?_) (fun c_30 => ?_)
    · refine lv_iconst (v := 1) hx hb dL_law_471 (by decide) ?_
      refine va_forget (fun q hq => hS.2.2 q hq) ?_
      refine W.widen (k := 8) (n := 8226) (by omega) (by omega) ?_
      exact lw_ret hx hb hr hlocks dL_law_472
    · have h7 : 7 * k + 7 ≤ L := loop_in ht hL (by omega) c_30
      obtain ⟨hF0, hF1⟩ := hF (by omega)
      refine lv_aload_n hx hb dL_law_33 rfl (lv_at hl 1 rfl) ?_
      refine lv_iload hx hb dL_law_34 (lv_at hl 0 rfl) ?_
      refine va_sld hx hb hX hbl hbA hS (scr_0 ht h7) dL_law_36 ?_
      refine lv_bipush (v := 7) hx hb dL_law_37 (by decide) ?_
      refine lv_iand hx hb dL_law_39 ?_
      refine lv_topi (fun x_40 ex_40 => ?_)
      by_cases k_0 : x_40 = 0
      · subst k_0
        refine lv_tableIn (tgt := 80) hx hb dL_law_40 (by decide) (by decide) rfl (by decide) ?_
        refine lv_aload_n hx hb dL_law_80 rfl (lv_at hl 2 rfl) ?_
        refine lv_aload_n hx hb dL_law_81 rfl (lv_at hl 1 rfl) ?_
        refine lv_iload hx hb dL_law_82 (lv_at hl 0 rfl) ?_
        refine lv_iconst (v := 1) hx hb dL_law_84 (by decide) ?_
        refine lv_iadd hx hb dL_law_85 ?_
        refine va_sld hx hb hX hbl hbA hS (scr_c ht h7 (c := 1) rfl (by decide)) dL_law_86 ?_
        refine lv_aload_n hx hb dL_law_87 rfl (lv_at hl 1 rfl) ?_
        refine lv_iload hx hb dL_law_88 (lv_at hl 0 rfl) ?_
        refine lv_iconst (v := 2) hx hb dL_law_90 (by decide) ?_
        refine lv_iadd hx hb dL_law_91 ?_
        refine va_sld hx hb hX hbl hbA hS (scr_c ht h7 (c := 2) rfl (by decide)) dL_law_92 ?_
        refine lv_i2l hx hb dL_law_93 rfl ?_
        refine lv_bipush (v := 32) hx hb dL_law_94 (by decide) ?_
        refine lv_lshl hx hb dL_law_96 rfl ?_
        refine lv_aload_n hx hb dL_law_97 rfl (lv_at hl 1 rfl) ?_
        refine lv_iload hx hb dL_law_98 (lv_at hl 0 rfl) ?_
        refine lv_iconst (v := 3) hx hb dL_law_100 (by decide) ?_
        refine lv_iadd hx hb dL_law_101 ?_
        refine va_sld hx hb hX hbl hbA hS (scr_c ht h7 (c := 3) rfl (by decide)) dL_law_102 ?_
        refine lv_i2l hx hb dL_law_103 rfl ?_
        refine lv_ldc2 (v := 4294967295) hx hb hown (hts (.constantLong RL 35 4294967295) (by decide +kernel)) dL_law_104 ?_
        refine lv_land hx hb dL_law_107 ?_
        refine lv_lor hx hb dL_law_108 ?_
        have hPc := hP.sub (ws' := wW h a cA u) [0, 1] rfl
        have hDc := hD.sub (ws' := wW h a cA u) [0, 1] (by decide) rfl
        have hKc := hK.sub (tys' := [(cA, .long)]) [0] rfl
        refine mm_back (rv := rv_i) (mw := (wW h a cA)) (wr := (rW h2 a2 c2 v ++ [(o, .inl (cO, 1, .inr (.inl f)))])) (u := u) (vx_runSW (g := F0 m 109 ls [.long ((((xs ((t + 2) : Int32).toNatClampNeg) : Int32).toInt64 <<< ((32 : Int32).toInt64 &&& 63)) ||| (((xs ((t + 3) : Int32).toNatClampNeg) : Int32).toInt64 &&& 4294967295)), .int (xs ((t + 1) : Int32).toNatClampNeg), .ref h]) (As := [.ref h, .int (xs ((t + 1) : Int32).toNatClampNeg), .long ((((xs ((t + 2) : Int32).toNatClampNeg) : Int32).toInt64 <<< ((32 : Int32).toInt64 &&& 63)) ||| (((xs ((t + 3) : Int32).toNatClampNeg) : Int32).toInt64 &&& 4294967295))]) (rest := []) ⟨hx, hb, hml, hown, hts⟩ (kL_put l hst D h a cA u hIu (xs ((t + 1) : Int32).toNatClampNeg) ((((xs ((t + 2) : Int32).toNatClampNeg) : Int32).toInt64 <<< ((32 : Int32).toInt64 &&& 63)) ||| (((xs ((t + 3) : Int32).toNatClampNeg) : Int32).toInt64 &&& 4294967295))) (vx_cwSW 3 hts gL_law_L_put rfl rfl rfl (by decide +kernel) ⟨by decide, by decide⟩) ⟨lb_blind, fun U hU hW => ⟨rfl, ⟨by rw [hU]; exact hPc, va_K.moved hW.alike hKc, hDc.weaken (fun _ _ _ _ => trivial)⟩, xz_law hz hS hU hW⟩⟩ rfl rfl hl.1 rfl (lv_room (Nat.le_of_ble_eq_true rfl)) dL_law_109 ⟨show _ ≤ 8 by omega, show _ ≤ 8226 by omega⟩) hP hD hS [2, 3, 4] [0, 1] rfl rfl (wA_at h a cA u) (fun _ => rfl) (fun r_109 u_109 H locs q_109 hP hD hS => ?_)
        have hP := hP.sub (ws' := zW h a cA h2 a2 c2 o cO u_109 v f) [3, 4, 0, 1, 2] rfl
        have hD := hD.sub (ws' := zW h a cA h2 a2 c2 o cO u_109 v f) [3, 4, 0, 1, 2] (by decide) rfl
        refine W.eq (g2 := F0 m 112 ls [.int r_109]) rfl ?_
        refine lv_istore (lv' := [(5, .int r_109), (4, .int t), (0, .ref b), (1, .ref h), (2, .ref h2), (3, .ref o)]) hx hb dL_law_112 hl (by decide) rfl (fun ls hl => ?_)
        refine lv_aload_n hx hb dL_law_114 rfl (lv_at hl 4 rfl) ?_
        refine lv_aload_n hx hb dL_law_115 rfl (lv_at hl 2 rfl) ?_
        refine lv_iload hx hb dL_law_116 (lv_at hl 1 rfl) ?_
        refine lv_iconst (v := 1) hx hb dL_law_118 (by decide) ?_
        refine lv_iadd hx hb dL_law_119 ?_
        refine va_sld hx hb hX hbl hbA hS (scr_c ht h7 (c := 1) rfl (by decide)) dL_law_120 ?_
        refine lv_aload_n hx hb dL_law_121 rfl (lv_at hl 2 rfl) ?_
        refine lv_iload hx hb dL_law_122 (lv_at hl 1 rfl) ?_
        refine lv_iconst (v := 2) hx hb dL_law_124 (by decide) ?_
        refine lv_iadd hx hb dL_law_125 ?_
        refine va_sld hx hb hX hbl hbA hS (scr_c ht h7 (c := 2) rfl (by decide)) dL_law_126 ?_
        refine lv_i2l hx hb dL_law_127 rfl ?_
        refine lv_bipush (v := 32) hx hb dL_law_128 (by decide) ?_
        refine lv_lshl hx hb dL_law_130 rfl ?_
        refine lv_aload_n hx hb dL_law_131 rfl (lv_at hl 2 rfl) ?_
        refine lv_iload hx hb dL_law_132 (lv_at hl 1 rfl) ?_
        refine lv_iconst (v := 3) hx hb dL_law_134 (by decide) ?_
        refine lv_iadd hx hb dL_law_135 ?_
        refine va_sld hx hb hX hbl hbA hS (scr_c ht h7 (c := 3) rfl (by decide)) dL_law_136 ?_
        refine lv_i2l hx hb dL_law_137 rfl ?_
        refine lv_ldc2 (v := 4294967295) hx hb hown (hts (.constantLong RL 35 4294967295) (by decide +kernel)) dL_law_138 ?_
        refine lv_land hx hb dL_law_141 ?_
        refine lv_lor hx hb dL_law_142 ?_
        have hPc := hP.sub (ws' := rW h2 a2 c2 v) [2, 3] rfl
        have hDc := hD.sub (ws' := rW h2 a2 c2 v) [2, 3] (by decide) rfl
        have hKc := hK.sub (tys' := [(c2, .long)]) [1] rfl
        refine mm_back (rv := rv_v) (mw := (rW h2 a2 c2)) (wr := (wW h a cA u_109 ++ [(o, .inl (cO, 1, .inr (.inl f)))])) (u := v) (va_runV (g := F0 m 143 ls [.long ((((xs ((t + 2) : Int32).toNatClampNeg) : Int32).toInt64 <<< ((32 : Int32).toInt64 &&& 63)) ||| (((xs ((t + 3) : Int32).toNatClampNeg) : Int32).toInt64 &&& 4294967295)), .int (xs ((t + 1) : Int32).toNatClampNeg), .ref h2]) (As := [.int (xs ((t + 1) : Int32).toNatClampNeg), .long ((((xs ((t + 2) : Int32).toNatClampNeg) : Int32).toInt64 <<< ((32 : Int32).toInt64 &&& 63)) ||| (((xs ((t + 3) : Int32).toNatClampNeg) : Int32).toInt64 &&& 4294967295))]) (rest := []) ⟨hx, hb, hml, hown, hts⟩ (kX1_put l D h2 a2 c2 v hIv (xs ((t + 1) : Int32).toNatClampNeg) ((((xs ((t + 2) : Int32).toNatClampNeg) : Int32).toInt64 <<< ((32 : Int32).toInt64 &&& 63)) ||| (((xs ((t + 3) : Int32).toNatClampNeg) : Int32).toInt64 &&& 4294967295))) (cwV 2 hts gL_law_X1_put rfl rfl rfl (by decide +kernel) ⟨by decide, by decide⟩) (mm_pre (ci := 1) (q0 := 0) (q := (RX1, TX1, 6)) hKc hPc hDc rfl rfl) rfl rfl hl.1 rfl (lv_room (Nat.le_of_ble_eq_true rfl)) dL_law_143 ⟨show _ ≤ 8 by omega, show _ ≤ 8226 by omega⟩) hP hD hS [0, 1, 4] [2, 3] rfl rfl (rA_at h2 a2 c2 v) (fun _ => rfl) (fun _ u_143 H locs q_143 hP hD hS => ?_)
        have hP := hP.sub (ws' := zW h a cA h2 a2 c2 o cO u_109 u_143 f) [0, 1, 3, 4, 2] rfl
        have hD := hD.sub (ws' := zW h a cA h2 a2 c2 o cO u_109 u_143 f) [0, 1, 3, 4, 2] (by decide) rfl
        refine W.eq (g2 := F0 m 146 ls []) rfl ?_
        refine lv_aload_n hx hb dL_law_146 rfl (lv_at hl 4 rfl) ?_
        have hPc := hP.sub (ws' := rW h2 a2 c2 u_143) [2, 3] rfl
        have hDc := hD.sub (ws' := rW h2 a2 c2 u_143) [2, 3] (by decide) rfl
        have hKc := hK.sub (tys' := [(c2, .long)]) [1] rfl
        refine mm_back (rv := rv_i) (mw := (rW h2 a2 c2)) (wr := (wW h a cA u_109 ++ [(o, .inl (cO, 1, .inr (.inl f)))])) (u := u_143) (va_runV (g := F0 m 147 ls [.ref h2]) (As := []) (rest := []) ⟨hx, hb, hml, hown, hts⟩ (kX1_thrown l D h2 a2 c2 u_143 q_143.1 ) (cwV 0 hts gL_law_X1_thrown rfl rfl rfl (by decide +kernel) ⟨by decide, by decide⟩) (mm_pre (ci := 1) (q0 := 0) (q := (RX1, TX1, 6)) hKc hPc hDc rfl rfl) rfl rfl hl.1 rfl (lv_room (Nat.le_of_ble_eq_true rfl)) dL_law_147 ⟨show _ ≤ 8 by omega, show _ ≤ 8226 by omega⟩) hP hD hS [0, 1, 4] [2, 3] rfl rfl (rA_at h2 a2 c2 u_143) (fun _ => rfl) (fun r_147 u_147 H locs q_147 hP hD hS => ?_)
        obtain ⟨eu_147, er_147⟩ := q_147
        have eu_147 := eu_147.symm
        subst eu_147
        have hP := hP.sub (ws' := zW h a cA h2 a2 c2 o cO u_109 u_143 f) [0, 1, 3, 4, 2] rfl
        have hD := hD.sub (ws' := zW h a cA h2 a2 c2 o cO u_109 u_143 f) [0, 1, 3, 4, 2] (by decide) rfl
        refine W.eq (g2 := F0 m 150 ls [.int r_147]) rfl ?_
        refine lv_iload hx hb dL_law_150 (lv_at hl 0 rfl) ?_
        refine lv_icmp_eq (tgt := 157) hx hb dL_law_152 (by decide) (fun c_152 => ?_) (fun c_152 => ?_)
        · refine lv_goto (tgt := 465) hx hb dL_law_157 (by decide) ?_
          obtain ⟨x_465, ex_465⟩ : ∃ y : Int32, y = t + 7 := ⟨_, rfl⟩
          refine lv_iinc (v := x_465) (lv' := [(4, .int x_465), (5, .int r_109), (0, .ref b), (1, .ref h), (2, .ref h2), (3, .ref o)]) hx hb dL_law_465 hl (k := 1) rfl (by rw [ex_465]; rfl) (by decide) rfl (fun ls hl => ?_)
          refine lv_goto (tgt := 23) hx hb dL_law_468 (by decide) ?_
          refine W.widen (k := 5 + (k + 1)) (n := 8204 + 6 * (k + 1)) (by omega) (by omega) ?_
          exact ih (k + 1) x_465 u_109 u_143 f _ _ _ (by omega) (by omega) (by rw [ex_465, ht]; exact step7 k) q_109.1 q_143.1 (fun q => absurd q (by omega)) hP hD hS (lv_sub hl [0, 2, 3, 4, 5] rfl)
        · exact absurd (cmp_th q_109.2 q_143.2 er_147) c_152
      by_cases k_1 : x_40 = 1
      · subst k_1
        refine lv_tableIn (tgt := 160) hx hb dL_law_40 (by decide) (by decide) rfl (by decide) ?_
        refine lv_aload_n hx hb dL_law_160 rfl (lv_at hl 2 rfl) ?_
        refine lv_aload_n hx hb dL_law_161 rfl (lv_at hl 1 rfl) ?_
        refine lv_iload hx hb dL_law_162 (lv_at hl 0 rfl) ?_
        refine lv_iconst (v := 1) hx hb dL_law_164 (by decide) ?_
        refine lv_iadd hx hb dL_law_165 ?_
        refine va_sld hx hb hX hbl hbA hS (scr_c ht h7 (c := 1) rfl (by decide)) dL_law_166 ?_
        refine lv_aload_n hx hb dL_law_167 rfl (lv_at hl 4 rfl) ?_
        have hPc := hP.sub (ws' := lW h a cA o cO (u, f)) [0, 1, 4] rfl
        have hDc := hD.sub (ws' := lW h a cA o cO (u, f)) [0, 1, 4] (by decide) rfl
        have hKc := hK.sub (tys' := [(cA, .long), (cO, .long)]) [0, 2] rfl
        refine mm_back (rv := rv_i) (mw := (lW h a cA o cO)) (wr := (rW h2 a2 c2 v)) (u := (u, f)) (vx_runSW (g := F0 m 168 ls [.ref o, .int (xs ((t + 1) : Int32).toNatClampNeg), .ref h]) (As := [.ref h, .int (xs ((t + 1) : Int32).toNatClampNeg), .ref o]) (rest := []) ⟨hx, hb, hml, hown, hts⟩ (kL_word l hst D h a cA o cO u f hIu (xs ((t + 1) : Int32).toNatClampNeg)) (vx_cwSW 3 hts gL_law_L_word rfl rfl rfl (by decide +kernel) ⟨by decide, by decide⟩) ⟨lb_blind, fun U hU hW => ⟨rfl, ⟨by rw [hU]; exact hPc, va_K.moved hW.alike hKc, hDc.weaken (fun _ _ _ _ => trivial)⟩, xz_law hz hS hU hW⟩⟩ rfl rfl hl.1 rfl (lv_room (Nat.le_of_ble_eq_true rfl)) dL_law_168 ⟨show _ ≤ 8 by omega, show _ ≤ 8226 by omega⟩) hP hD hS [2, 3] [0, 1, 4] rfl rfl (lA_at h a cA o cO (u, f)) (fun _ => rfl) (fun r_168 u_168 H locs q_168 hP hD hS => ?_)
        have hP := hP.sub (ws' := zW h a cA h2 a2 c2 o cO u_168.1 v u_168.2) [2, 3, 0, 1, 4] rfl
        have hD := hD.sub (ws' := zW h a cA h2 a2 c2 o cO u_168.1 v u_168.2) [2, 3, 0, 1, 4] (by decide) rfl
        refine W.eq (g2 := F0 m 171 ls [.int r_168]) rfl ?_
        refine lv_istore (lv' := [(5, .int r_168), (4, .int t), (0, .ref b), (1, .ref h), (2, .ref h2), (3, .ref o)]) hx hb dL_law_171 hl (by decide) rfl (fun ls hl => ?_)
        refine lv_aload_n hx hb dL_law_173 rfl (lv_at hl 4 rfl) ?_
        refine lv_aload_n hx hb dL_law_174 rfl (lv_at hl 2 rfl) ?_
        refine lv_iload hx hb dL_law_175 (lv_at hl 1 rfl) ?_
        refine lv_iconst (v := 1) hx hb dL_law_177 (by decide) ?_
        refine lv_iadd hx hb dL_law_178 ?_
        refine va_sld hx hb hX hbl hbA hS (scr_c ht h7 (c := 1) rfl (by decide)) dL_law_179 ?_
        have hPc := hP.sub (ws' := rW h2 a2 c2 v) [2, 3] rfl
        have hDc := hD.sub (ws' := rW h2 a2 c2 v) [2, 3] (by decide) rfl
        have hKc := hK.sub (tys' := [(c2, .long)]) [1] rfl
        refine mm_back (rv := rv_l) (mw := (rW h2 a2 c2)) (wr := (wW h a cA u_168.1 ++ [(o, .inl (cO, 1, .inr (.inl u_168.2)))])) (u := v) (va_runV (g := F0 m 180 ls [.int (xs ((t + 1) : Int32).toNatClampNeg), .ref h2]) (As := [.int (xs ((t + 1) : Int32).toNatClampNeg)]) (rest := []) ⟨hx, hb, hml, hown, hts⟩ (kX1_word l D h2 a2 c2 v hIv (xs ((t + 1) : Int32).toNatClampNeg)) (cwV 1 hts gL_law_X1_word rfl rfl rfl (by decide +kernel) ⟨by decide, by decide⟩) (mm_pre (ci := 1) (q0 := 0) (q := (RX1, TX1, 6)) hKc hPc hDc rfl rfl) rfl rfl hl.1 rfl (lv_room (Nat.le_of_ble_eq_true rfl)) dL_law_180 ⟨show _ ≤ 8 by omega, show _ ≤ 8226 by omega⟩) hP hD hS [0, 1, 4] [2, 3] rfl rfl (rA_at h2 a2 c2 v) (fun _ => rfl) (fun r_180 u_180 H locs q_180 hP hD hS => ?_)
        have hP := hP.sub (ws' := zW h a cA h2 a2 c2 o cO u_168.1 u_180 u_168.2) [0, 1, 3, 4, 2] rfl
        have hD := hD.sub (ws' := zW h a cA h2 a2 c2 o cO u_168.1 u_180 u_168.2) [0, 1, 3, 4, 2] (by decide) rfl
        refine W.eq (g2 := F0 m 183 ls [.long r_180]) rfl ?_
        refine lv_lstore (lv' := [(6, .long r_180), (5, .int r_168), (4, .int t), (0, .ref b), (1, .ref h), (2, .ref h2), (3, .ref o)]) hx hb dL_law_183 hl (by decide) rfl (fun ls hl => ?_)
        refine lv_aload_n hx hb dL_law_185 rfl (lv_at hl 5 rfl) ?_
        have hPc := hP.sub (ws' := rW h2 a2 c2 u_180) [2, 3] rfl
        have hDc := hD.sub (ws' := rW h2 a2 c2 u_180) [2, 3] (by decide) rfl
        have hKc := hK.sub (tys' := [(c2, .long)]) [1] rfl
        refine mm_back (rv := rv_i) (mw := (rW h2 a2 c2)) (wr := (wW h a cA u_168.1 ++ [(o, .inl (cO, 1, .inr (.inl u_168.2)))])) (u := u_180) (va_runV (g := F0 m 186 ls [.ref h2]) (As := []) (rest := []) ⟨hx, hb, hml, hown, hts⟩ (kX1_thrown l D h2 a2 c2 u_180 q_180.1 ) (cwV 0 hts gL_law_X1_thrown rfl rfl rfl (by decide +kernel) ⟨by decide, by decide⟩) (mm_pre (ci := 1) (q0 := 0) (q := (RX1, TX1, 6)) hKc hPc hDc rfl rfl) rfl rfl hl.1 rfl (lv_room (Nat.le_of_ble_eq_true rfl)) dL_law_186 ⟨show _ ≤ 8 by omega, show _ ≤ 8226 by omega⟩) hP hD hS [0, 1, 4] [2, 3] rfl rfl (rA_at h2 a2 c2 u_180) (fun _ => rfl) (fun r_186 u_186 H locs q_186 hP hD hS => ?_)
        obtain ⟨eu_186, er_186⟩ := q_186
        have eu_186 := eu_186.symm
        subst eu_186
        have hP := hP.sub (ws' := zW h a cA h2 a2 c2 o cO u_168.1 u_180 u_168.2) [0, 1, 3, 4, 2] rfl
        have hD := hD.sub (ws' := zW h a cA h2 a2 c2 o cO u_168.1 u_180 u_168.2) [0, 1, 3, 4, 2] (by decide) rfl
        refine W.eq (g2 := F0 m 189 ls [.int r_186]) rfl ?_
        refine lv_iload hx hb dL_law_189 (lv_at hl 1 rfl) ?_
        refine lv_icmp_eq (tgt := 196) hx hb dL_law_191 (by decide) (fun c_191 => ?_) (fun c_191 => ?_)
        · refine lv_iload hx hb dL_law_196 (lv_at hl 1 rfl) ?_
          refine lv_if_ne (tgt := 212) hx hb dL_law_198 (by decide) (fun c_198 => ?_) (fun c_198 => ?_)
          · refine lv_goto (tgt := 465) hx hb dL_law_212 (by decide) ?_
            obtain ⟨x_465, ex_465⟩ : ∃ y : Int32, y = t + 7 := ⟨_, rfl⟩
            refine lv_iinc (v := x_465) (lv' := [(4, .int x_465), (6, .long r_180), (5, .int r_168), (0, .ref b), (1, .ref h), (2, .ref h2), (3, .ref o)]) hx hb dL_law_465 hl (k := 2) rfl (by rw [ex_465]; rfl) (by decide) rfl (fun ls hl => ?_)
            refine lv_goto (tgt := 23) hx hb dL_law_468 (by decide) ?_
            refine W.widen (k := 5 + (k + 1)) (n := 8204 + 6 * (k + 1)) (by omega) (by omega) ?_
            exact ih (k + 1) x_465 u_168.1 u_180 u_168.2 _ _ _ (by omega) (by omega) (by rw [ex_465, ht]; exact step7 k) q_168.1 q_180.1 (fun q => absurd q (by omega)) hP hD hS (lv_sub hl [0, 3, 4, 5, 6] rfl)
          · refine lv_aload_n hx hb dL_law_201 rfl (lv_at hl 6 rfl) ?_
            refine lv_iconst (v := 0) hx hb dL_law_202 (by decide) ?_
            refine va_lald hx hb hK hP 4 2 rfl rfl (vp_0 (by decide)) dL_law_203 ?_
            refine lv_lload hx hb dL_law_204 (lv_at hl 0 rfl) ?_
            refine W.lcmp hx hb dL_law_206 ?_
            refine lv_if_eq (tgt := 212) hx hb dL_law_207 (by decide) (fun c_207 => ?_) (fun c_207 => ?_)
            · refine lv_goto (tgt := 465) hx hb dL_law_212 (by decide) ?_
              obtain ⟨x_465, ex_465⟩ : ∃ y : Int32, y = t + 7 := ⟨_, rfl⟩
              refine lv_iinc (v := x_465) (lv' := [(4, .int x_465), (6, .long r_180), (5, .int r_168), (0, .ref b), (1, .ref h), (2, .ref h2), (3, .ref o)]) hx hb dL_law_465 hl (k := 2) rfl (by rw [ex_465]; rfl) (by decide) rfl (fun ls hl => ?_)
              refine lv_goto (tgt := 23) hx hb dL_law_468 (by decide) ?_
              refine W.widen (k := 5 + (k + 1)) (n := 8204 + 6 * (k + 1)) (by omega) (by omega) ?_
              exact ih (k + 1) x_465 u_168.1 u_180 u_168.2 _ _ _ (by omega) (by omega) (by rw [ex_465, ht]; exact step7 k) q_168.1 q_180.1 (fun q => absurd q (by omega)) hP hD hS (lv_sub hl [0, 3, 4, 5, 6] rfl)
            · exact absurd (cmp_w q_168.2 q_180.2 (hF0.1 _) (hF1.1 _) c_198) c_207
        · exact absurd (cmp_th (cmp_c1 q_168.2) (cmp_c2 q_180.2) er_186) c_191
      by_cases k_2 : x_40 = 2
      · subst k_2
        refine lv_tableIn (tgt := 215) hx hb dL_law_40 (by decide) (by decide) rfl (by decide) ?_
        refine lv_aload_n hx hb dL_law_215 rfl (lv_at hl 2 rfl) ?_
        refine lv_aload_n hx hb dL_law_216 rfl (lv_at hl 1 rfl) ?_
        refine lv_iload hx hb dL_law_217 (lv_at hl 0 rfl) ?_
        refine lv_iconst (v := 1) hx hb dL_law_219 (by decide) ?_
        refine lv_iadd hx hb dL_law_220 ?_
        refine va_sld hx hb hX hbl hbA hS (scr_c ht h7 (c := 1) rfl (by decide)) dL_law_221 ?_
        refine lv_aload_n hx hb dL_law_222 rfl (lv_at hl 1 rfl) ?_
        refine lv_iload hx hb dL_law_223 (lv_at hl 0 rfl) ?_
        refine lv_iconst (v := 2) hx hb dL_law_225 (by decide) ?_
        refine lv_iadd hx hb dL_law_226 ?_
        refine va_sld hx hb hX hbl hbA hS (scr_c ht h7 (c := 2) rfl (by decide)) dL_law_227 ?_
        refine lv_aload_n hx hb dL_law_228 rfl (lv_at hl 1 rfl) ?_
        refine lv_iload hx hb dL_law_229 (lv_at hl 0 rfl) ?_
        refine lv_iconst (v := 3) hx hb dL_law_231 (by decide) ?_
        refine lv_iadd hx hb dL_law_232 ?_
        refine va_sld hx hb hX hbl hbA hS (scr_c ht h7 (c := 3) rfl (by decide)) dL_law_233 ?_
        refine lv_aload_n hx hb dL_law_234 rfl (lv_at hl 1 rfl) ?_
        refine lv_iload hx hb dL_law_235 (lv_at hl 0 rfl) ?_
        refine lv_iconst (v := 4) hx hb dL_law_237 (by decide) ?_
        refine lv_iadd hx hb dL_law_238 ?_
        refine va_sld hx hb hX hbl hbA hS (scr_c ht h7 (c := 4) rfl (by decide)) dL_law_239 ?_
        refine lv_if_eq (tgt := 247) hx hb dL_law_240 (by decide) (fun c_240 => ?_) (fun c_240 => ?_)
        · refine lv_iconst (v := 0) hx hb dL_law_247 (by decide) ?_
          refine lv_aload_n hx hb dL_law_248 rfl (lv_at hl 1 rfl) ?_
          refine lv_iload hx hb dL_law_249 (lv_at hl 0 rfl) ?_
          refine lv_iconst (v := 5) hx hb dL_law_251 (by decide) ?_
          refine lv_iadd hx hb dL_law_252 ?_
          refine va_sld hx hb hX hbl hbA hS (scr_c ht h7 (c := 5) rfl (by decide)) dL_law_253 ?_
          refine lv_aload_n hx hb dL_law_254 rfl (lv_at hl 1 rfl) ?_
          refine lv_iload hx hb dL_law_255 (lv_at hl 0 rfl) ?_
          refine lv_bipush (v := 6) hx hb dL_law_257 (by decide) ?_
          refine lv_iadd hx hb dL_law_259 ?_
          refine va_sld hx hb hX hbl hbA hS (scr_c ht h7 (c := 6) rfl (by decide)) dL_law_260 ?_
          refine lv_aload_n hx hb dL_law_261 rfl (lv_at hl 4 rfl) ?_
          have hPc := hP.sub (ws' := lW h a cA o cO (u, f)) [0, 1, 4] rfl
          have hDc := hD.sub (ws' := lW h a cA o cO (u, f)) [0, 1, 4] (by decide) rfl
          have hKc := hK.sub (tys' := [(cA, .long), (cO, .long)]) [0, 2] rfl
          refine mm_back (rv := rv_i) (mw := (lW h a cA o cO)) (wr := (rW h2 a2 c2 v)) (u := (u, f)) (vx_runSW (g := F0 m 262 ls [.ref o, .int (xs ((t + 6) : Int32).toNatClampNeg), .int (xs ((t + 5) : Int32).toNatClampNeg), .int 0, .int (xs ((t + 3) : Int32).toNatClampNeg), .int (xs ((t + 2) : Int32).toNatClampNeg), .int (xs ((t + 1) : Int32).toNatClampNeg), .ref h]) (As := [.ref h, .int (xs ((t + 1) : Int32).toNatClampNeg), .int (xs ((t + 2) : Int32).toNatClampNeg), .int (xs ((t + 3) : Int32).toNatClampNeg), .int 0, .int (xs ((t + 5) : Int32).toNatClampNeg), .int (xs ((t + 6) : Int32).toNatClampNeg), .ref o]) (rest := []) ⟨hx, hb, hml, hown, hts⟩ (kL_code l hst D h a cA o cO u f hIu (xs ((t + 1) : Int32).toNatClampNeg) (xs ((t + 2) : Int32).toNatClampNeg) (xs ((t + 3) : Int32).toNatClampNeg) 0 (xs ((t + 5) : Int32).toNatClampNeg) (xs ((t + 6) : Int32).toNatClampNeg)) (vx_cwSW 8 hts gL_law_L_code rfl rfl rfl (by decide +kernel) ⟨by decide, by decide⟩) ⟨lb_blind, fun U hU hW => ⟨rfl, ⟨by rw [hU]; exact hPc, va_K.moved hW.alike hKc, hDc.weaken (fun _ _ _ _ => trivial)⟩, xz_law hz hS hU hW⟩⟩ rfl rfl hl.1 rfl (lv_room (Nat.le_of_ble_eq_true rfl)) dL_law_262 ⟨show _ ≤ 8 by omega, show _ ≤ 8226 by omega⟩) hP hD hS [2, 3] [0, 1, 4] rfl rfl (lA_at h a cA o cO (u, f)) (fun _ => rfl) (fun r_262 u_262 H locs q_262 hP hD hS => ?_)
          have hP := hP.sub (ws' := zW h a cA h2 a2 c2 o cO u_262.1 v u_262.2) [2, 3, 0, 1, 4] rfl
          have hD := hD.sub (ws' := zW h a cA h2 a2 c2 o cO u_262.1 v u_262.2) [2, 3, 0, 1, 4] (by decide) rfl
          refine W.eq (g2 := F0 m 265 ls [.int r_262]) rfl ?_
          refine lv_istore (lv' := [(5, .int r_262), (4, .int t), (0, .ref b), (1, .ref h), (2, .ref h2), (3, .ref o)]) hx hb dL_law_265 hl (by decide) rfl (fun ls hl => ?_)
          refine lv_aload_n hx hb dL_law_267 rfl (lv_at hl 4 rfl) ?_
          refine lv_aload_n hx hb dL_law_268 rfl (lv_at hl 2 rfl) ?_
          refine lv_iload hx hb dL_law_269 (lv_at hl 1 rfl) ?_
          refine lv_iconst (v := 1) hx hb dL_law_271 (by decide) ?_
          refine lv_iadd hx hb dL_law_272 ?_
          refine va_sld hx hb hX hbl hbA hS (scr_c ht h7 (c := 1) rfl (by decide)) dL_law_273 ?_
          refine lv_aload_n hx hb dL_law_274 rfl (lv_at hl 2 rfl) ?_
          refine lv_iload hx hb dL_law_275 (lv_at hl 1 rfl) ?_
          refine lv_iconst (v := 2) hx hb dL_law_277 (by decide) ?_
          refine lv_iadd hx hb dL_law_278 ?_
          refine va_sld hx hb hX hbl hbA hS (scr_c ht h7 (c := 2) rfl (by decide)) dL_law_279 ?_
          refine lv_aload_n hx hb dL_law_280 rfl (lv_at hl 2 rfl) ?_
          refine lv_iload hx hb dL_law_281 (lv_at hl 1 rfl) ?_
          refine lv_iconst (v := 3) hx hb dL_law_283 (by decide) ?_
          refine lv_iadd hx hb dL_law_284 ?_
          refine va_sld hx hb hX hbl hbA hS (scr_c ht h7 (c := 3) rfl (by decide)) dL_law_285 ?_
          refine lv_aload_n hx hb dL_law_286 rfl (lv_at hl 2 rfl) ?_
          refine lv_iload hx hb dL_law_287 (lv_at hl 1 rfl) ?_
          refine lv_iconst (v := 4) hx hb dL_law_289 (by decide) ?_
          refine lv_iadd hx hb dL_law_290 ?_
          refine va_sld hx hb hX hbl hbA hS (scr_c ht h7 (c := 4) rfl (by decide)) dL_law_291 ?_
          refine lv_if_eq (tgt := 299) hx hb dL_law_292 (by decide) (fun c_292 => ?_) (fun c_292 => ?_)
          · refine lv_iconst (v := 0) hx hb dL_law_299 (by decide) ?_
            refine lv_aload_n hx hb dL_law_300 rfl (lv_at hl 2 rfl) ?_
            refine lv_iload hx hb dL_law_301 (lv_at hl 1 rfl) ?_
            refine lv_iconst (v := 5) hx hb dL_law_303 (by decide) ?_
            refine lv_iadd hx hb dL_law_304 ?_
            refine va_sld hx hb hX hbl hbA hS (scr_c ht h7 (c := 5) rfl (by decide)) dL_law_305 ?_
            refine lv_aload_n hx hb dL_law_306 rfl (lv_at hl 2 rfl) ?_
            refine lv_iload hx hb dL_law_307 (lv_at hl 1 rfl) ?_
            refine lv_bipush (v := 6) hx hb dL_law_309 (by decide) ?_
            refine lv_iadd hx hb dL_law_311 ?_
            refine va_sld hx hb hX hbl hbA hS (scr_c ht h7 (c := 6) rfl (by decide)) dL_law_312 ?_
            have hPc := hP.sub (ws' := rW h2 a2 c2 v) [2, 3] rfl
            have hDc := hD.sub (ws' := rW h2 a2 c2 v) [2, 3] (by decide) rfl
            have hKc := hK.sub (tys' := [(c2, .long)]) [1] rfl
            refine mm_back (rv := rv_l) (mw := (rW h2 a2 c2)) (wr := (wW h a cA u_262.1 ++ [(o, .inl (cO, 1, .inr (.inl u_262.2)))])) (u := v) (va_runV (g := F0 m 313 ls [.int (xs ((t + 6) : Int32).toNatClampNeg), .int (xs ((t + 5) : Int32).toNatClampNeg), .int 0, .int (xs ((t + 3) : Int32).toNatClampNeg), .int (xs ((t + 2) : Int32).toNatClampNeg), .int (xs ((t + 1) : Int32).toNatClampNeg), .ref h2]) (As := [.int (xs ((t + 1) : Int32).toNatClampNeg), .int (xs ((t + 2) : Int32).toNatClampNeg), .int (xs ((t + 3) : Int32).toNatClampNeg), .int 0, .int (xs ((t + 5) : Int32).toNatClampNeg), .int (xs ((t + 6) : Int32).toNatClampNeg)]) (rest := []) ⟨hx, hb, hml, hown, hts⟩ (kX1_code l D h2 a2 c2 v hIv (xs ((t + 1) : Int32).toNatClampNeg) (xs ((t + 2) : Int32).toNatClampNeg) (xs ((t + 3) : Int32).toNatClampNeg) 0 (xs ((t + 5) : Int32).toNatClampNeg) (xs ((t + 6) : Int32).toNatClampNeg)) (cwV 6 hts gL_law_X1_code rfl rfl rfl (by decide +kernel) ⟨by decide, by decide⟩) (mm_pre (ci := 1) (q0 := 0) (q := (RX1, TX1, 6)) hKc hPc hDc rfl rfl) rfl rfl hl.1 rfl (lv_room (Nat.le_of_ble_eq_true rfl)) dL_law_313 ⟨show _ ≤ 8 by omega, show _ ≤ 8226 by omega⟩) hP hD hS [0, 1, 4] [2, 3] rfl rfl (rA_at h2 a2 c2 v) (fun _ => rfl) (fun r_313 u_313 H locs q_313 hP hD hS => ?_)
            have hP := hP.sub (ws' := zW h a cA h2 a2 c2 o cO u_262.1 u_313 u_262.2) [0, 1, 3, 4, 2] rfl
            have hD := hD.sub (ws' := zW h a cA h2 a2 c2 o cO u_262.1 u_313 u_262.2) [0, 1, 3, 4, 2] (by decide) rfl
            refine W.eq (g2 := F0 m 316 ls [.long r_313]) rfl ?_
            refine lv_lstore (lv' := [(6, .long r_313), (5, .int r_262), (4, .int t), (0, .ref b), (1, .ref h), (2, .ref h2), (3, .ref o)]) hx hb dL_law_316 hl (by decide) rfl (fun ls hl => ?_)
            refine lv_aload_n hx hb dL_law_318 rfl (lv_at hl 5 rfl) ?_
            have hPc := hP.sub (ws' := rW h2 a2 c2 u_313) [2, 3] rfl
            have hDc := hD.sub (ws' := rW h2 a2 c2 u_313) [2, 3] (by decide) rfl
            have hKc := hK.sub (tys' := [(c2, .long)]) [1] rfl
            refine mm_back (rv := rv_i) (mw := (rW h2 a2 c2)) (wr := (wW h a cA u_262.1 ++ [(o, .inl (cO, 1, .inr (.inl u_262.2)))])) (u := u_313) (va_runV (g := F0 m 319 ls [.ref h2]) (As := []) (rest := []) ⟨hx, hb, hml, hown, hts⟩ (kX1_thrown l D h2 a2 c2 u_313 q_313.1 ) (cwV 0 hts gL_law_X1_thrown rfl rfl rfl (by decide +kernel) ⟨by decide, by decide⟩) (mm_pre (ci := 1) (q0 := 0) (q := (RX1, TX1, 6)) hKc hPc hDc rfl rfl) rfl rfl hl.1 rfl (lv_room (Nat.le_of_ble_eq_true rfl)) dL_law_319 ⟨show _ ≤ 8 by omega, show _ ≤ 8226 by omega⟩) hP hD hS [0, 1, 4] [2, 3] rfl rfl (rA_at h2 a2 c2 u_313) (fun _ => rfl) (fun r_319 u_319 H locs q_319 hP hD hS => ?_)
            obtain ⟨eu_319, er_319⟩ := q_319
            have eu_319 := eu_319.symm
            subst eu_319
            have hP := hP.sub (ws' := zW h a cA h2 a2 c2 o cO u_262.1 u_313 u_262.2) [0, 1, 3, 4, 2] rfl
            have hD := hD.sub (ws' := zW h a cA h2 a2 c2 o cO u_262.1 u_313 u_262.2) [0, 1, 3, 4, 2] (by decide) rfl
            refine W.eq (g2 := F0 m 322 ls [.int r_319]) rfl ?_
            refine lv_iload hx hb dL_law_322 (lv_at hl 1 rfl) ?_
            refine lv_icmp_eq (tgt := 329) hx hb dL_law_324 (by decide) (fun c_324 => ?_) (fun c_324 => ?_)
            · refine lv_iload hx hb dL_law_329 (lv_at hl 1 rfl) ?_
              refine lv_if_ne (tgt := 345) hx hb dL_law_331 (by decide) (fun c_331 => ?_) (fun c_331 => ?_)
              · refine lv_goto (tgt := 465) hx hb dL_law_345 (by decide) ?_
                obtain ⟨x_465, ex_465⟩ : ∃ y : Int32, y = t + 7 := ⟨_, rfl⟩
                refine lv_iinc (v := x_465) (lv' := [(4, .int x_465), (6, .long r_313), (5, .int r_262), (0, .ref b), (1, .ref h), (2, .ref h2), (3, .ref o)]) hx hb dL_law_465 hl (k := 2) rfl (by rw [ex_465]; rfl) (by decide) rfl (fun ls hl => ?_)
                refine lv_goto (tgt := 23) hx hb dL_law_468 (by decide) ?_
                refine W.widen (k := 5 + (k + 1)) (n := 8204 + 6 * (k + 1)) (by omega) (by omega) ?_
                exact ih (k + 1) x_465 u_262.1 u_313 u_262.2 _ _ _ (by omega) (by omega) (by rw [ex_465, ht]; exact step7 k) q_262.1 q_313.1 (fun q => absurd q (by omega)) hP hD hS (lv_sub hl [0, 3, 4, 5, 6] rfl)
              · refine lv_aload_n hx hb dL_law_334 rfl (lv_at hl 6 rfl) ?_
                refine lv_iconst (v := 0) hx hb dL_law_335 (by decide) ?_
                refine va_lald hx hb hK hP 4 2 rfl rfl (vp_0 (by decide)) dL_law_336 ?_
                refine lv_lload hx hb dL_law_337 (lv_at hl 0 rfl) ?_
                refine W.lcmp hx hb dL_law_339 ?_
                refine lv_if_eq (tgt := 345) hx hb dL_law_340 (by decide) (fun c_340 => ?_) (fun c_340 => ?_)
                · refine lv_goto (tgt := 465) hx hb dL_law_345 (by decide) ?_
                  obtain ⟨x_465, ex_465⟩ : ∃ y : Int32, y = t + 7 := ⟨_, rfl⟩
                  refine lv_iinc (v := x_465) (lv' := [(4, .int x_465), (6, .long r_313), (5, .int r_262), (0, .ref b), (1, .ref h), (2, .ref h2), (3, .ref o)]) hx hb dL_law_465 hl (k := 2) rfl (by rw [ex_465]; rfl) (by decide) rfl (fun ls hl => ?_)
                  refine lv_goto (tgt := 23) hx hb dL_law_468 (by decide) ?_
                  refine W.widen (k := 5 + (k + 1)) (n := 8204 + 6 * (k + 1)) (by omega) (by omega) ?_
                  exact ih (k + 1) x_465 u_262.1 u_313 u_262.2 _ _ _ (by omega) (by omega) (by rw [ex_465, ht]; exact step7 k) q_262.1 q_313.1 (fun q => absurd q (by omega)) hP hD hS (lv_sub hl [0, 3, 4, 5, 6] rfl)
                · exact absurd (cmp_v q_262.2 q_313.2 c_331) c_340
            · exact absurd (cmp_th (cmp_c1 q_262.2) (cmp_c2 q_313.2) er_319) c_324
          · exact absurd c_240 c_292
        · refine lv_iconst (v := 1) hx hb dL_law_243 (by decide) ?_
          refine lv_goto (tgt := 248) hx hb dL_law_244 (by decide) ?_
          refine lv_aload_n hx hb dL_law_248 rfl (lv_at hl 1 rfl) ?_
          refine lv_iload hx hb dL_law_249 (lv_at hl 0 rfl) ?_
          refine lv_iconst (v := 5) hx hb dL_law_251 (by decide) ?_
          refine lv_iadd hx hb dL_law_252 ?_
          refine va_sld hx hb hX hbl hbA hS (scr_c ht h7 (c := 5) rfl (by decide)) dL_law_253 ?_
          refine lv_aload_n hx hb dL_law_254 rfl (lv_at hl 1 rfl) ?_
          refine lv_iload hx hb dL_law_255 (lv_at hl 0 rfl) ?_
          refine lv_bipush (v := 6) hx hb dL_law_257 (by decide) ?_
          refine lv_iadd hx hb dL_law_259 ?_
          refine va_sld hx hb hX hbl hbA hS (scr_c ht h7 (c := 6) rfl (by decide)) dL_law_260 ?_
          refine lv_aload_n hx hb dL_law_261 rfl (lv_at hl 4 rfl) ?_
          have hPc := hP.sub (ws' := lW h a cA o cO (u, f)) [0, 1, 4] rfl
          have hDc := hD.sub (ws' := lW h a cA o cO (u, f)) [0, 1, 4] (by decide) rfl
          have hKc := hK.sub (tys' := [(cA, .long), (cO, .long)]) [0, 2] rfl
          refine mm_back (rv := rv_i) (mw := (lW h a cA o cO)) (wr := (rW h2 a2 c2 v)) (u := (u, f)) (vx_runSW (g := F0 m 262 ls [.ref o, .int (xs ((t + 6) : Int32).toNatClampNeg), .int (xs ((t + 5) : Int32).toNatClampNeg), .int 1, .int (xs ((t + 3) : Int32).toNatClampNeg), .int (xs ((t + 2) : Int32).toNatClampNeg), .int (xs ((t + 1) : Int32).toNatClampNeg), .ref h]) (As := [.ref h, .int (xs ((t + 1) : Int32).toNatClampNeg), .int (xs ((t + 2) : Int32).toNatClampNeg), .int (xs ((t + 3) : Int32).toNatClampNeg), .int 1, .int (xs ((t + 5) : Int32).toNatClampNeg), .int (xs ((t + 6) : Int32).toNatClampNeg), .ref o]) (rest := []) ⟨hx, hb, hml, hown, hts⟩ (kL_code l hst D h a cA o cO u f hIu (xs ((t + 1) : Int32).toNatClampNeg) (xs ((t + 2) : Int32).toNatClampNeg) (xs ((t + 3) : Int32).toNatClampNeg) 1 (xs ((t + 5) : Int32).toNatClampNeg) (xs ((t + 6) : Int32).toNatClampNeg)) (vx_cwSW 8 hts gL_law_L_code rfl rfl rfl (by decide +kernel) ⟨by decide, by decide⟩) ⟨lb_blind, fun U hU hW => ⟨rfl, ⟨by rw [hU]; exact hPc, va_K.moved hW.alike hKc, hDc.weaken (fun _ _ _ _ => trivial)⟩, xz_law hz hS hU hW⟩⟩ rfl rfl hl.1 rfl (lv_room (Nat.le_of_ble_eq_true rfl)) dL_law_262 ⟨show _ ≤ 8 by omega, show _ ≤ 8226 by omega⟩) hP hD hS [2, 3] [0, 1, 4] rfl rfl (lA_at h a cA o cO (u, f)) (fun _ => rfl) (fun r_262 u_262 H locs q_262 hP hD hS => ?_)
          have hP := hP.sub (ws' := zW h a cA h2 a2 c2 o cO u_262.1 v u_262.2) [2, 3, 0, 1, 4] rfl
          have hD := hD.sub (ws' := zW h a cA h2 a2 c2 o cO u_262.1 v u_262.2) [2, 3, 0, 1, 4] (by decide) rfl
          refine W.eq (g2 := F0 m 265 ls [.int r_262]) rfl ?_
          refine lv_istore (lv' := [(5, .int r_262), (4, .int t), (0, .ref b), (1, .ref h), (2, .ref h2), (3, .ref o)]) hx hb dL_law_265 hl (by decide) rfl (fun ls hl => ?_)
          refine lv_aload_n hx hb dL_law_267 rfl (lv_at hl 4 rfl) ?_
          refine lv_aload_n hx hb dL_law_268 rfl (lv_at hl 2 rfl) ?_
          refine lv_iload hx hb dL_law_269 (lv_at hl 1 rfl) ?_
          refine lv_iconst (v := 1) hx hb dL_law_271 (by decide) ?_
          refine lv_iadd hx hb dL_law_272 ?_
          refine va_sld hx hb hX hbl hbA hS (scr_c ht h7 (c := 1) rfl (by decide)) dL_law_273 ?_
          refine lv_aload_n hx hb dL_law_274 rfl (lv_at hl 2 rfl) ?_
          refine lv_iload hx hb dL_law_275 (lv_at hl 1 rfl) ?_
          refine lv_iconst (v := 2) hx hb dL_law_277 (by decide) ?_
          refine lv_iadd hx hb dL_law_278 ?_
          refine va_sld hx hb hX hbl hbA hS (scr_c ht h7 (c := 2) rfl (by decide)) dL_law_279 ?_
          refine lv_aload_n hx hb dL_law_280 rfl (lv_at hl 2 rfl) ?_
          refine lv_iload hx hb dL_law_281 (lv_at hl 1 rfl) ?_
          refine lv_iconst (v := 3) hx hb dL_law_283 (by decide) ?_
          refine lv_iadd hx hb dL_law_284 ?_
          refine va_sld hx hb hX hbl hbA hS (scr_c ht h7 (c := 3) rfl (by decide)) dL_law_285 ?_
          refine lv_aload_n hx hb dL_law_286 rfl (lv_at hl 2 rfl) ?_
          refine lv_iload hx hb dL_law_287 (lv_at hl 1 rfl) ?_
          refine lv_iconst (v := 4) hx hb dL_law_289 (by decide) ?_
          refine lv_iadd hx hb dL_law_290 ?_
          refine va_sld hx hb hX hbl hbA hS (scr_c ht h7 (c := 4) rfl (by decide)) dL_law_291 ?_
          refine lv_if_eq (tgt := 299) hx hb dL_law_292 (by decide) (fun c_292 => ?_) (fun c_292 => ?_)
          · exact absurd c_292 c_240
          · refine lv_iconst (v := 1) hx hb dL_law_295 (by decide) ?_
            refine lv_goto (tgt := 300) hx hb dL_law_296 (by decide) ?_
            refine lv_aload_n hx hb dL_law_300 rfl (lv_at hl 2 rfl) ?_
            refine lv_iload hx hb dL_law_301 (lv_at hl 1 rfl) ?_
            refine lv_iconst (v := 5) hx hb dL_law_303 (by decide) ?_
            refine lv_iadd hx hb dL_law_304 ?_
            refine va_sld hx hb hX hbl hbA hS (scr_c ht h7 (c := 5) rfl (by decide)) dL_law_305 ?_
            refine lv_aload_n hx hb dL_law_306 rfl (lv_at hl 2 rfl) ?_
            refine lv_iload hx hb dL_law_307 (lv_at hl 1 rfl) ?_
            refine lv_bipush (v := 6) hx hb dL_law_309 (by decide) ?_
            refine lv_iadd hx hb dL_law_311 ?_
            refine va_sld hx hb hX hbl hbA hS (scr_c ht h7 (c := 6) rfl (by decide)) dL_law_312 ?_
            have hPc := hP.sub (ws' := rW h2 a2 c2 v) [2, 3] rfl
            have hDc := hD.sub (ws' := rW h2 a2 c2 v) [2, 3] (by decide) rfl
            have hKc := hK.sub (tys' := [(c2, .long)]) [1] rfl
            refine mm_back (rv := rv_l) (mw := (rW h2 a2 c2)) (wr := (wW h a cA u_262.1 ++ [(o, .inl (cO, 1, .inr (.inl u_262.2)))])) (u := v) (va_runV (g := F0 m 313 ls [.int (xs ((t + 6) : Int32).toNatClampNeg), .int (xs ((t + 5) : Int32).toNatClampNeg), .int 1, .int (xs ((t + 3) : Int32).toNatClampNeg), .int (xs ((t + 2) : Int32).toNatClampNeg), .int (xs ((t + 1) : Int32).toNatClampNeg), .ref h2]) (As := [.int (xs ((t + 1) : Int32).toNatClampNeg), .int (xs ((t + 2) : Int32).toNatClampNeg), .int (xs ((t + 3) : Int32).toNatClampNeg), .int 1, .int (xs ((t + 5) : Int32).toNatClampNeg), .int (xs ((t + 6) : Int32).toNatClampNeg)]) (rest := []) ⟨hx, hb, hml, hown, hts⟩ (kX1_code l D h2 a2 c2 v hIv (xs ((t + 1) : Int32).toNatClampNeg) (xs ((t + 2) : Int32).toNatClampNeg) (xs ((t + 3) : Int32).toNatClampNeg) 1 (xs ((t + 5) : Int32).toNatClampNeg) (xs ((t + 6) : Int32).toNatClampNeg)) (cwV 6 hts gL_law_X1_code rfl rfl rfl (by decide +kernel) ⟨by decide, by decide⟩) (mm_pre (ci := 1) (q0 := 0) (q := (RX1, TX1, 6)) hKc hPc hDc rfl rfl) rfl rfl hl.1 rfl (lv_room (Nat.le_of_ble_eq_true rfl)) dL_law_313 ⟨show _ ≤ 8 by omega, show _ ≤ 8226 by omega⟩) hP hD hS [0, 1, 4] [2, 3] rfl rfl (rA_at h2 a2 c2 v) (fun _ => rfl) (fun r_313 u_313 H locs q_313 hP hD hS => ?_)
            have hP := hP.sub (ws' := zW h a cA h2 a2 c2 o cO u_262.1 u_313 u_262.2) [0, 1, 3, 4, 2] rfl
            have hD := hD.sub (ws' := zW h a cA h2 a2 c2 o cO u_262.1 u_313 u_262.2) [0, 1, 3, 4, 2] (by decide) rfl
            refine W.eq (g2 := F0 m 316 ls [.long r_313]) rfl ?_
            refine lv_lstore (lv' := [(6, .long r_313), (5, .int r_262), (4, .int t), (0, .ref b), (1, .ref h), (2, .ref h2), (3, .ref o)]) hx hb dL_law_316 hl (by decide) rfl (fun ls hl => ?_)
            refine lv_aload_n hx hb dL_law_318 rfl (lv_at hl 5 rfl) ?_
            have hPc := hP.sub (ws' := rW h2 a2 c2 u_313) [2, 3] rfl
            have hDc := hD.sub (ws' := rW h2 a2 c2 u_313) [2, 3] (by decide) rfl
            have hKc := hK.sub (tys' := [(c2, .long)]) [1] rfl
            refine mm_back (rv := rv_i) (mw := (rW h2 a2 c2)) (wr := (wW h a cA u_262.1 ++ [(o, .inl (cO, 1, .inr (.inl u_262.2)))])) (u := u_313) (va_runV (g := F0 m 319 ls [.ref h2]) (As := []) (rest := []) ⟨hx, hb, hml, hown, hts⟩ (kX1_thrown l D h2 a2 c2 u_313 q_313.1 ) (cwV 0 hts gL_law_X1_thrown rfl rfl rfl (by decide +kernel) ⟨by decide, by decide⟩) (mm_pre (ci := 1) (q0 := 0) (q := (RX1, TX1, 6)) hKc hPc hDc rfl rfl) rfl rfl hl.1 rfl (lv_room (Nat.le_of_ble_eq_true rfl)) dL_law_319 ⟨show _ ≤ 8 by omega, show _ ≤ 8226 by omega⟩) hP hD hS [0, 1, 4] [2, 3] rfl rfl (rA_at h2 a2 c2 u_313) (fun _ => rfl) (fun r_319 u_319 H locs q_319 hP hD hS => ?_)
            obtain ⟨eu_319, er_319⟩ := q_319
            have eu_319 := eu_319.symm
            subst eu_319
            have hP := hP.sub (ws' := zW h a cA h2 a2 c2 o cO u_262.1 u_313 u_262.2) [0, 1, 3, 4, 2] rfl
            have hD := hD.sub (ws' := zW h a cA h2 a2 c2 o cO u_262.1 u_313 u_262.2) [0, 1, 3, 4, 2] (by decide) rfl
            refine W.eq (g2 := F0 m 322 ls [.int r_319]) rfl ?_
            refine lv_iload hx hb dL_law_322 (lv_at hl 1 rfl) ?_
            refine lv_icmp_eq (tgt := 329) hx hb dL_law_324 (by decide) (fun c_324 => ?_) (fun c_324 => ?_)
            · refine lv_iload hx hb dL_law_329 (lv_at hl 1 rfl) ?_
              refine lv_if_ne (tgt := 345) hx hb dL_law_331 (by decide) (fun c_331 => ?_) (fun c_331 => ?_)
              · refine lv_goto (tgt := 465) hx hb dL_law_345 (by decide) ?_
                obtain ⟨x_465, ex_465⟩ : ∃ y : Int32, y = t + 7 := ⟨_, rfl⟩
                refine lv_iinc (v := x_465) (lv' := [(4, .int x_465), (6, .long r_313), (5, .int r_262), (0, .ref b), (1, .ref h), (2, .ref h2), (3, .ref o)]) hx hb dL_law_465 hl (k := 2) rfl (by rw [ex_465]; rfl) (by decide) rfl (fun ls hl => ?_)
                refine lv_goto (tgt := 23) hx hb dL_law_468 (by decide) ?_
                refine W.widen (k := 5 + (k + 1)) (n := 8204 + 6 * (k + 1)) (by omega) (by omega) ?_
                exact ih (k + 1) x_465 u_262.1 u_313 u_262.2 _ _ _ (by omega) (by omega) (by rw [ex_465, ht]; exact step7 k) q_262.1 q_313.1 (fun q => absurd q (by omega)) hP hD hS (lv_sub hl [0, 3, 4, 5, 6] rfl)
              · refine lv_aload_n hx hb dL_law_334 rfl (lv_at hl 6 rfl) ?_
                refine lv_iconst (v := 0) hx hb dL_law_335 (by decide) ?_
                refine va_lald hx hb hK hP 4 2 rfl rfl (vp_0 (by decide)) dL_law_336 ?_
                refine lv_lload hx hb dL_law_337 (lv_at hl 0 rfl) ?_
                refine W.lcmp hx hb dL_law_339 ?_
                refine lv_if_eq (tgt := 345) hx hb dL_law_340 (by decide) (fun c_340 => ?_) (fun c_340 => ?_)
                · refine lv_goto (tgt := 465) hx hb dL_law_345 (by decide) ?_
                  obtain ⟨x_465, ex_465⟩ : ∃ y : Int32, y = t + 7 := ⟨_, rfl⟩
                  refine lv_iinc (v := x_465) (lv' := [(4, .int x_465), (6, .long r_313), (5, .int r_262), (0, .ref b), (1, .ref h), (2, .ref h2), (3, .ref o)]) hx hb dL_law_465 hl (k := 2) rfl (by rw [ex_465]; rfl) (by decide) rfl (fun ls hl => ?_)
                  refine lv_goto (tgt := 23) hx hb dL_law_468 (by decide) ?_
                  refine W.widen (k := 5 + (k + 1)) (n := 8204 + 6 * (k + 1)) (by omega) (by omega) ?_
                  exact ih (k + 1) x_465 u_262.1 u_313 u_262.2 _ _ _ (by omega) (by omega) (by rw [ex_465, ht]; exact step7 k) q_262.1 q_313.1 (fun q => absurd q (by omega)) hP hD hS (lv_sub hl [0, 3, 4, 5, 6] rfl)
                · exact absurd (cmp_v q_262.2 q_313.2 c_331) c_340
            · exact absurd (cmp_th (cmp_c1 q_262.2) (cmp_c2 q_313.2) er_319) c_324
      by_cases k_3 : x_40 = 3
      · subst k_3
        refine lv_tableIn (tgt := 348) hx hb dL_law_40 (by decide) (by decide) rfl (by decide) ?_
        refine lv_aload_n hx hb dL_law_348 rfl (lv_at hl 2 rfl) ?_
        refine lv_aload_n hx hb dL_law_349 rfl (lv_at hl 1 rfl) ?_
        refine lv_iload hx hb dL_law_350 (lv_at hl 0 rfl) ?_
        refine lv_iconst (v := 1) hx hb dL_law_352 (by decide) ?_
        refine lv_iadd hx hb dL_law_353 ?_
        refine va_sld hx hb hX hbl hbA hS (scr_c ht h7 (c := 1) rfl (by decide)) dL_law_354 ?_
        have hPc := hP.sub (ws' := wW h a cA u) [0, 1] rfl
        have hDc := hD.sub (ws' := wW h a cA u) [0, 1] (by decide) rfl
        have hKc := hK.sub (tys' := [(cA, .long)]) [0] rfl
        refine mm_back (rv := rv_i) (mw := (wW h a cA)) (wr := (rW h2 a2 c2 v ++ [(o, .inl (cO, 1, .inr (.inl f)))])) (u := u) (vx_runSW (g := F0 m 355 ls [.int (xs ((t + 1) : Int32).toNatClampNeg), .ref h]) (As := [.ref h, .int (xs ((t + 1) : Int32).toNatClampNeg)]) (rest := []) ⟨hx, hb, hml, hown, hts⟩ (kL_go l hst D h a cA u hIu (xs ((t + 1) : Int32).toNatClampNeg)) (vx_cwSW 2 hts gL_law_L_go rfl rfl rfl (by decide +kernel) ⟨by decide, by decide⟩) ⟨lb_blind, fun U hU hW => ⟨rfl, ⟨by rw [hU]; exact hPc, va_K.moved hW.alike hKc, hDc.weaken (fun _ _ _ _ => trivial)⟩, xz_law hz hS hU hW⟩⟩ rfl rfl hl.1 rfl (lv_room (Nat.le_of_ble_eq_true rfl)) dL_law_355 ⟨show _ ≤ 8 by omega, show _ ≤ 8226 by omega⟩) hP hD hS [2, 3, 4] [0, 1] rfl rfl (wA_at h a cA u) (fun _ => rfl) (fun r_355 u_355 H locs q_355 hP hD hS => ?_)
        have hP := hP.sub (ws' := zW h a cA h2 a2 c2 o cO u_355 v f) [3, 4, 0, 1, 2] rfl
        have hD := hD.sub (ws' := zW h a cA h2 a2 c2 o cO u_355 v f) [3, 4, 0, 1, 2] (by decide) rfl
        refine W.eq (g2 := F0 m 358 ls [.int r_355]) rfl ?_
        refine lv_istore (lv' := [(5, .int r_355), (4, .int t), (0, .ref b), (1, .ref h), (2, .ref h2), (3, .ref o)]) hx hb dL_law_358 hl (by decide) rfl (fun ls hl => ?_)
        refine lv_aload_n hx hb dL_law_360 rfl (lv_at hl 4 rfl) ?_
        refine lv_aload_n hx hb dL_law_361 rfl (lv_at hl 2 rfl) ?_
        refine lv_iload hx hb dL_law_362 (lv_at hl 1 rfl) ?_
        refine lv_iconst (v := 1) hx hb dL_law_364 (by decide) ?_
        refine lv_iadd hx hb dL_law_365 ?_
        refine va_sld hx hb hX hbl hbA hS (scr_c ht h7 (c := 1) rfl (by decide)) dL_law_366 ?_
        have hPc := hP.sub (ws' := rW h2 a2 c2 v) [2, 3] rfl
        have hDc := hD.sub (ws' := rW h2 a2 c2 v) [2, 3] (by decide) rfl
        have hKc := hK.sub (tys' := [(c2, .long)]) [1] rfl
        refine mm_back (rv := rv_v) (mw := (rW h2 a2 c2)) (wr := (wW h a cA u_355 ++ [(o, .inl (cO, 1, .inr (.inl f)))])) (u := v) (va_runV (g := F0 m 367 ls [.int (xs ((t + 1) : Int32).toNatClampNeg), .ref h2]) (As := [.int (xs ((t + 1) : Int32).toNatClampNeg)]) (rest := []) ⟨hx, hb, hml, hown, hts⟩ (kX1_go l D h2 a2 c2 v hIv (xs ((t + 1) : Int32).toNatClampNeg)) (cwV 1 hts gL_law_X1_go rfl rfl rfl (by decide +kernel) ⟨by decide, by decide⟩) (mm_pre (ci := 1) (q0 := 0) (q := (RX1, TX1, 6)) hKc hPc hDc rfl rfl) rfl rfl hl.1 rfl (lv_room (Nat.le_of_ble_eq_true rfl)) dL_law_367 ⟨show _ ≤ 8 by omega, show _ ≤ 8226 by omega⟩) hP hD hS [0, 1, 4] [2, 3] rfl rfl (rA_at h2 a2 c2 v) (fun _ => rfl) (fun _ u_367 H locs q_367 hP hD hS => ?_)
        have hP := hP.sub (ws' := zW h a cA h2 a2 c2 o cO u_355 u_367 f) [0, 1, 3, 4, 2] rfl
        have hD := hD.sub (ws' := zW h a cA h2 a2 c2 o cO u_355 u_367 f) [0, 1, 3, 4, 2] (by decide) rfl
        refine W.eq (g2 := F0 m 370 ls []) rfl ?_
        refine lv_aload_n hx hb dL_law_370 rfl (lv_at hl 4 rfl) ?_
        have hPc := hP.sub (ws' := rW h2 a2 c2 u_367) [2, 3] rfl
        have hDc := hD.sub (ws' := rW h2 a2 c2 u_367) [2, 3] (by decide) rfl
        have hKc := hK.sub (tys' := [(c2, .long)]) [1] rfl
        refine mm_back (rv := rv_i) (mw := (rW h2 a2 c2)) (wr := (wW h a cA u_355 ++ [(o, .inl (cO, 1, .inr (.inl f)))])) (u := u_367) (va_runV (g := F0 m 371 ls [.ref h2]) (As := []) (rest := []) ⟨hx, hb, hml, hown, hts⟩ (kX1_thrown l D h2 a2 c2 u_367 q_367.1 ) (cwV 0 hts gL_law_X1_thrown rfl rfl rfl (by decide +kernel) ⟨by decide, by decide⟩) (mm_pre (ci := 1) (q0 := 0) (q := (RX1, TX1, 6)) hKc hPc hDc rfl rfl) rfl rfl hl.1 rfl (lv_room (Nat.le_of_ble_eq_true rfl)) dL_law_371 ⟨show _ ≤ 8 by omega, show _ ≤ 8226 by omega⟩) hP hD hS [0, 1, 4] [2, 3] rfl rfl (rA_at h2 a2 c2 u_367) (fun _ => rfl) (fun r_371 u_371 H locs q_371 hP hD hS => ?_)
        obtain ⟨eu_371, er_371⟩ := q_371
        have eu_371 := eu_371.symm
        subst eu_371
        have hP := hP.sub (ws' := zW h a cA h2 a2 c2 o cO u_355 u_367 f) [0, 1, 3, 4, 2] rfl
        have hD := hD.sub (ws' := zW h a cA h2 a2 c2 o cO u_355 u_367 f) [0, 1, 3, 4, 2] (by decide) rfl
        refine W.eq (g2 := F0 m 374 ls [.int r_371]) rfl ?_
        refine lv_iload hx hb dL_law_374 (lv_at hl 0 rfl) ?_
        refine lv_icmp_eq (tgt := 381) hx hb dL_law_376 (by decide) (fun c_376 => ?_) (fun c_376 => ?_)
        · refine lv_goto (tgt := 465) hx hb dL_law_381 (by decide) ?_
          obtain ⟨x_465, ex_465⟩ : ∃ y : Int32, y = t + 7 := ⟨_, rfl⟩
          refine lv_iinc (v := x_465) (lv' := [(4, .int x_465), (5, .int r_355), (0, .ref b), (1, .ref h), (2, .ref h2), (3, .ref o)]) hx hb dL_law_465 hl (k := 1) rfl (by rw [ex_465]; rfl) (by decide) rfl (fun ls hl => ?_)
          refine lv_goto (tgt := 23) hx hb dL_law_468 (by decide) ?_
          refine W.widen (k := 5 + (k + 1)) (n := 8204 + 6 * (k + 1)) (by omega) (by omega) ?_
          exact ih (k + 1) x_465 u_355 u_367 f _ _ _ (by omega) (by omega) (by rw [ex_465, ht]; exact step7 k) q_355.1 q_367.1 (fun q => absurd q (by omega)) hP hD hS (lv_sub hl [0, 2, 3, 4, 5] rfl)
        · exact absurd (cmp_th q_355.2 q_367.2 er_371) c_376
      by_cases k_4 : x_40 = 4
      · subst k_4
        refine lv_tableIn (tgt := 384) hx hb dL_law_40 (by decide) (by decide) rfl (by decide) ?_
        refine lv_aload_n hx hb dL_law_384 rfl (lv_at hl 2 rfl) ?_
        refine lv_aload_n hx hb dL_law_385 rfl (lv_at hl 1 rfl) ?_
        refine lv_iload hx hb dL_law_386 (lv_at hl 0 rfl) ?_
        refine lv_iconst (v := 1) hx hb dL_law_388 (by decide) ?_
        refine lv_iadd hx hb dL_law_389 ?_
        refine va_sld hx hb hX hbl hbA hS (scr_c ht h7 (c := 1) rfl (by decide)) dL_law_390 ?_
        refine lv_aload_n hx hb dL_law_391 rfl (lv_at hl 4 rfl) ?_
        have hPc := hP.sub (ws' := lW h a cA o cO (u, f)) [0, 1, 4] rfl
        have hDc := hD.sub (ws' := lW h a cA o cO (u, f)) [0, 1, 4] (by decide) rfl
        have hKc := hK.sub (tys' := [(cA, .long), (cO, .long)]) [0, 2] rfl
        refine mm_back (rv := rv_i) (mw := (lW h a cA o cO)) (wr := (rW h2 a2 c2 v)) (u := (u, f)) (vx_runSW (g := F0 m 392 ls [.ref o, .int (xs ((t + 1) : Int32).toNatClampNeg), .ref h]) (As := [.ref h, .int (xs ((t + 1) : Int32).toNatClampNeg), .ref o]) (rest := []) ⟨hx, hb, hml, hown, hts⟩ (kL_run l hst D h a cA o cO u f hIu (xs ((t + 1) : Int32).toNatClampNeg)) (vx_cwSW 3 hts gL_law_L_run rfl rfl rfl (by decide +kernel) ⟨by decide, by decide⟩) ⟨lb_blind, fun U hU hW => ⟨rfl, ⟨by rw [hU]; exact hPc, va_K.moved hW.alike hKc, hDc.weaken (fun _ _ _ _ => trivial)⟩, xz_law hz hS hU hW⟩⟩ rfl rfl hl.1 rfl (lv_room (Nat.le_of_ble_eq_true rfl)) dL_law_392 ⟨show _ ≤ 8 by omega, show _ ≤ 8226 by omega⟩) hP hD hS [2, 3] [0, 1, 4] rfl rfl (lA_at h a cA o cO (u, f)) (fun _ => rfl) (fun r_392 u_392 H locs q_392 hP hD hS => ?_)
        have hP := hP.sub (ws' := zW h a cA h2 a2 c2 o cO u_392.1 v u_392.2) [2, 3, 0, 1, 4] rfl
        have hD := hD.sub (ws' := zW h a cA h2 a2 c2 o cO u_392.1 v u_392.2) [2, 3, 0, 1, 4] (by decide) rfl
        refine W.eq (g2 := F0 m 395 ls [.int r_392]) rfl ?_
        refine lv_istore (lv' := [(5, .int r_392), (4, .int t), (0, .ref b), (1, .ref h), (2, .ref h2), (3, .ref o)]) hx hb dL_law_395 hl (by decide) rfl (fun ls hl => ?_)
        refine lv_aload_n hx hb dL_law_397 rfl (lv_at hl 4 rfl) ?_
        refine lv_aload_n hx hb dL_law_398 rfl (lv_at hl 2 rfl) ?_
        refine lv_iload hx hb dL_law_399 (lv_at hl 1 rfl) ?_
        refine lv_iconst (v := 1) hx hb dL_law_401 (by decide) ?_
        refine lv_iadd hx hb dL_law_402 ?_
        refine va_sld hx hb hX hbl hbA hS (scr_c ht h7 (c := 1) rfl (by decide)) dL_law_403 ?_
        have hPc := hP.sub (ws' := rW h2 a2 c2 v) [2, 3] rfl
        have hDc := hD.sub (ws' := rW h2 a2 c2 v) [2, 3] (by decide) rfl
        have hKc := hK.sub (tys' := [(c2, .long)]) [1] rfl
        refine mm_back (rv := rv_i) (mw := (rW h2 a2 c2)) (wr := (wW h a cA u_392.1 ++ [(o, .inl (cO, 1, .inr (.inl u_392.2)))])) (u := v) (va_runV (g := F0 m 404 ls [.int (xs ((t + 1) : Int32).toNatClampNeg), .ref h2]) (As := [.int (xs ((t + 1) : Int32).toNatClampNeg)]) (rest := []) ⟨hx, hb, hml, hown, hts⟩ (kX1_run l D h2 a2 c2 v hIv (xs ((t + 1) : Int32).toNatClampNeg)) (cwV 1 hts gL_law_X1_run rfl rfl rfl (by decide +kernel) ⟨by decide, by decide⟩) (mm_pre (ci := 1) (q0 := 0) (q := (RX1, TX1, 6)) hKc hPc hDc rfl rfl) rfl rfl hl.1 rfl (lv_room (Nat.le_of_ble_eq_true rfl)) dL_law_404 ⟨show _ ≤ 8 by omega, show _ ≤ 8226 by omega⟩) hP hD hS [0, 1, 4] [2, 3] rfl rfl (rA_at h2 a2 c2 v) (fun _ => rfl) (fun r_404 u_404 H locs q_404 hP hD hS => ?_)
        have hP := hP.sub (ws' := zW h a cA h2 a2 c2 o cO u_392.1 u_404 u_392.2) [0, 1, 3, 4, 2] rfl
        have hD := hD.sub (ws' := zW h a cA h2 a2 c2 o cO u_392.1 u_404 u_392.2) [0, 1, 3, 4, 2] (by decide) rfl
        refine W.eq (g2 := F0 m 407 ls [.int r_404]) rfl ?_
        refine lv_istore (lv' := [(6, .int r_404), (5, .int r_392), (4, .int t), (0, .ref b), (1, .ref h), (2, .ref h2), (3, .ref o)]) hx hb dL_law_407 hl (by decide) rfl (fun ls hl => ?_)
        refine lv_aload_n hx hb dL_law_409 rfl (lv_at hl 5 rfl) ?_
        have hPc := hP.sub (ws' := rW h2 a2 c2 u_404) [2, 3] rfl
        have hDc := hD.sub (ws' := rW h2 a2 c2 u_404) [2, 3] (by decide) rfl
        have hKc := hK.sub (tys' := [(c2, .long)]) [1] rfl
        refine mm_back (rv := rv_i) (mw := (rW h2 a2 c2)) (wr := (wW h a cA u_392.1 ++ [(o, .inl (cO, 1, .inr (.inl u_392.2)))])) (u := u_404) (va_runV (g := F0 m 410 ls [.ref h2]) (As := []) (rest := []) ⟨hx, hb, hml, hown, hts⟩ (kX1_thrown l D h2 a2 c2 u_404 q_404.1 ) (cwV 0 hts gL_law_X1_thrown rfl rfl rfl (by decide +kernel) ⟨by decide, by decide⟩) (mm_pre (ci := 1) (q0 := 0) (q := (RX1, TX1, 6)) hKc hPc hDc rfl rfl) rfl rfl hl.1 rfl (lv_room (Nat.le_of_ble_eq_true rfl)) dL_law_410 ⟨show _ ≤ 8 by omega, show _ ≤ 8226 by omega⟩) hP hD hS [0, 1, 4] [2, 3] rfl rfl (rA_at h2 a2 c2 u_404) (fun _ => rfl) (fun r_410 u_410 H locs q_410 hP hD hS => ?_)
        obtain ⟨eu_410, er_410⟩ := q_410
        have eu_410 := eu_410.symm
        subst eu_410
        have hP := hP.sub (ws' := zW h a cA h2 a2 c2 o cO u_392.1 u_404 u_392.2) [0, 1, 3, 4, 2] rfl
        have hD := hD.sub (ws' := zW h a cA h2 a2 c2 o cO u_392.1 u_404 u_392.2) [0, 1, 3, 4, 2] (by decide) rfl
        refine W.eq (g2 := F0 m 413 ls [.int r_410]) rfl ?_
        refine lv_iload hx hb dL_law_413 (lv_at hl 1 rfl) ?_
        refine lv_icmp_eq (tgt := 420) hx hb dL_law_415 (by decide) (fun c_415 => ?_) (fun c_415 => ?_)
        · refine lv_iload hx hb dL_law_420 (lv_at hl 1 rfl) ?_
          refine lv_if_ne (tgt := 437) hx hb dL_law_422 (by decide) (fun c_422 => ?_) (fun c_422 => ?_)
          · refine lv_goto (tgt := 465) hx hb dL_law_437 (by decide) ?_
            obtain ⟨x_465, ex_465⟩ : ∃ y : Int32, y = t + 7 := ⟨_, rfl⟩
            refine lv_iinc (v := x_465) (lv' := [(4, .int x_465), (6, .int r_404), (5, .int r_392), (0, .ref b), (1, .ref h), (2, .ref h2), (3, .ref o)]) hx hb dL_law_465 hl (k := 2) rfl (by rw [ex_465]; rfl) (by decide) rfl (fun ls hl => ?_)
            refine lv_goto (tgt := 23) hx hb dL_law_468 (by decide) ?_
            refine W.widen (k := 5 + (k + 1)) (n := 8204 + 6 * (k + 1)) (by omega) (by omega) ?_
            exact ih (k + 1) x_465 u_392.1 u_404 u_392.2 _ _ _ (by omega) (by omega) (by rw [ex_465, ht]; exact step7 k) q_392.1 q_404.1 (fun q => absurd q (by omega)) hP hD hS (lv_sub hl [0, 3, 4, 5, 6] rfl)
          · refine lv_aload_n hx hb dL_law_425 rfl (lv_at hl 6 rfl) ?_
            refine lv_iconst (v := 0) hx hb dL_law_426 (by decide) ?_
            refine va_lald hx hb hK hP 4 2 rfl rfl (vp_0 (by decide)) dL_law_427 ?_
            refine lv_iload hx hb dL_law_428 (lv_at hl 0 rfl) ?_
            refine lv_i2l hx hb dL_law_430 rfl ?_
            refine W.lcmp hx hb dL_law_431 ?_
            refine lv_if_eq (tgt := 437) hx hb dL_law_432 (by decide) (fun c_432 => ?_) (fun c_432 => ?_)
            · refine lv_goto (tgt := 465) hx hb dL_law_437 (by decide) ?_
              obtain ⟨x_465, ex_465⟩ : ∃ y : Int32, y = t + 7 := ⟨_, rfl⟩
              refine lv_iinc (v := x_465) (lv' := [(4, .int x_465), (6, .int r_404), (5, .int r_392), (0, .ref b), (1, .ref h), (2, .ref h2), (3, .ref o)]) hx hb dL_law_465 hl (k := 2) rfl (by rw [ex_465]; rfl) (by decide) rfl (fun ls hl => ?_)
              refine lv_goto (tgt := 23) hx hb dL_law_468 (by decide) ?_
              refine W.widen (k := 5 + (k + 1)) (n := 8204 + 6 * (k + 1)) (by omega) (by omega) ?_
              exact ih (k + 1) x_465 u_392.1 u_404 u_392.2 _ _ _ (by omega) (by omega) (by rw [ex_465, ht]; exact step7 k) q_392.1 q_404.1 (fun q => absurd q (by omega)) hP hD hS (lv_sub hl [0, 3, 4, 5, 6] rfl)
            · exact absurd (cmp_run q_392.2 q_404.2 hF0.1 hF1.1 c_422) c_432
        · exact absurd (cmp_th (cmp_c1 q_392.2) (cmp_r ⟨q_404.2.1, q_404.2.2.1⟩) er_410) c_415
      by_cases k_5 : x_40 = 5
      · subst k_5
        refine lv_tableIn (tgt := 440) hx hb dL_law_40 (by decide) (by decide) rfl (by decide) ?_
        refine lv_aload_n hx hb dL_law_440 rfl (lv_at hl 2 rfl) ?_
        refine lv_aload_n hx hb dL_law_441 rfl (lv_at hl 1 rfl) ?_
        refine lv_iload hx hb dL_law_442 (lv_at hl 0 rfl) ?_
        refine lv_iconst (v := 1) hx hb dL_law_444 (by decide) ?_
        refine lv_iadd hx hb dL_law_445 ?_
        refine va_sld hx hb hX hbl hbA hS (scr_c ht h7 (c := 1) rfl (by decide)) dL_law_446 ?_
        have hPc := hP.sub (ws' := wW h a cA u) [0, 1] rfl
        have hDc := hD.sub (ws' := wW h a cA u) [0, 1] (by decide) rfl
        have hKc := hK.sub (tys' := [(cA, .long)]) [0] rfl
        refine mm_back (rv := rv_i) (mw := (wW h a cA)) (wr := (rW h2 a2 c2 v ++ [(o, .inl (cO, 1, .inr (.inl f)))])) (u := u) (va_runV (g := F0 m 447 ls [.int (xs ((t + 1) : Int32).toNatClampNeg), .ref h]) (As := [.int (xs ((t + 1) : Int32).toNatClampNeg)]) (rest := []) ⟨hx, hb, hml, hown, hts⟩ (kX0_count l D h a cA u hIu (xs ((t + 1) : Int32).toNatClampNeg)) (cwV 1 hts gL_law_X0_count rfl rfl rfl (by decide +kernel) ⟨by decide, by decide⟩) (mm_pre (ci := 0) (q0 := 0) (q := (RX0, TX0, 5)) hKc hPc hDc rfl rfl) rfl rfl hl.1 rfl (lv_room (Nat.le_of_ble_eq_true rfl)) dL_law_447 ⟨show _ ≤ 8 by omega, show _ ≤ 8226 by omega⟩) hP hD hS [2, 3, 4] [0, 1] rfl rfl (wA_at h a cA u) (fun _ => rfl) (fun r_447 u_447 H locs q_447 hP hD hS => ?_)
        obtain ⟨eu_447, er_447⟩ := q_447
        have eu_447 := eu_447.symm
        subst eu_447
        have hP := hP.sub (ws' := zW h a cA h2 a2 c2 o cO u v f) [3, 4, 0, 1, 2] rfl
        have hD := hD.sub (ws' := zW h a cA h2 a2 c2 o cO u v f) [3, 4, 0, 1, 2] (by decide) rfl
        refine W.eq (g2 := F0 m 450 ls [.int r_447]) rfl ?_
        refine lv_aload_n hx hb dL_law_450 rfl (lv_at hl 3 rfl) ?_
        refine lv_aload_n hx hb dL_law_451 rfl (lv_at hl 1 rfl) ?_
        refine lv_iload hx hb dL_law_452 (lv_at hl 0 rfl) ?_
        refine lv_iconst (v := 1) hx hb dL_law_454 (by decide) ?_
        refine lv_iadd hx hb dL_law_455 ?_
        refine va_sld hx hb hX hbl hbA hS (scr_c ht h7 (c := 1) rfl (by decide)) dL_law_456 ?_
        have hPc := hP.sub (ws' := rW h2 a2 c2 v) [2, 3] rfl
        have hDc := hD.sub (ws' := rW h2 a2 c2 v) [2, 3] (by decide) rfl
        have hKc := hK.sub (tys' := [(c2, .long)]) [1] rfl
        refine mm_back (rv := rv_i) (mw := (rW h2 a2 c2)) (wr := (wW h a cA u ++ [(o, .inl (cO, 1, .inr (.inl f)))])) (u := v) (va_runV (g := F0 m 457 ls [.int (xs ((t + 1) : Int32).toNatClampNeg), .ref h2, .int r_447]) (As := [.int (xs ((t + 1) : Int32).toNatClampNeg)]) (rest := [.int r_447]) ⟨hx, hb, hml, hown, hts⟩ (kX1_count l D h2 a2 c2 v hIv (xs ((t + 1) : Int32).toNatClampNeg)) (cwV 1 hts gL_law_X1_count rfl rfl rfl (by decide +kernel) ⟨by decide, by decide⟩) (mm_pre (ci := 1) (q0 := 0) (q := (RX1, TX1, 6)) hKc hPc hDc rfl rfl) rfl rfl hl.1 rfl (lv_room (Nat.le_of_ble_eq_true rfl)) dL_law_457 ⟨show _ ≤ 8 by omega, show _ ≤ 8226 by omega⟩) hP hD hS [0, 1, 4] [2, 3] rfl rfl (rA_at h2 a2 c2 v) (fun _ => rfl) (fun r_457 u_457 H locs q_457 hP hD hS => ?_)
        have hP := hP.sub (ws' := zW h a cA h2 a2 c2 o cO u u_457 f) [0, 1, 3, 4, 2] rfl
        have hD := hD.sub (ws' := zW h a cA h2 a2 c2 o cO u u_457 f) [0, 1, 3, 4, 2] (by decide) rfl
        refine W.eq (g2 := F0 m 460 ls [.int r_457, .int r_447]) rfl ?_
        refine lv_icmp_eq (tgt := 465) hx hb dL_law_460 (by decide) (fun c_460 => ?_) (fun c_460 => ?_)
        · obtain ⟨x_465, ex_465⟩ : ∃ y : Int32, y = t + 7 := ⟨_, rfl⟩
          refine lv_iinc (v := x_465) (lv' := [(4, .int x_465), (0, .ref b), (1, .ref h), (2, .ref h2), (3, .ref o)]) hx hb dL_law_465 hl (k := 0) rfl (by rw [ex_465]; rfl) (by decide) rfl (fun ls hl => ?_)
          refine lv_goto (tgt := 23) hx hb dL_law_468 (by decide) ?_
          refine W.widen (k := 5 + (k + 1)) (n := 8204 + 6 * (k + 1)) (by omega) (by omega) ?_
          exact ih (k + 1) x_465 u u_457 f _ _ _ (by omega) (by omega) (by rw [ex_465, ht]; exact step7 k) hIu q_457.1 (fun q => absurd q (by omega)) hP hD hS (lv_sub hl [0, 1, 2, 3, 4] rfl)
        · exact absurd (er_447.trans ((cnt_same hF0 hF1 _).trans q_457.2.symm)) c_460
      refine lv_tableOut (tgt := 465) hx hb dL_law_40 (tb_out_0_6 k_0 k_1 k_2 k_3 k_4 k_5) (by decide) ?_
      obtain ⟨x_465, ex_465⟩ : ∃ y : Int32, y = t + 7 := ⟨_, rfl⟩
      refine lv_iinc (v := x_465) (lv' := [(4, .int x_465), (0, .ref b), (1, .ref h), (2, .ref h2), (3, .ref o)]) hx hb dL_law_465 hl (k := 0) rfl (by rw [ex_465]; rfl) (by decide) rfl (fun ls hl => ?_)
      refine lv_goto (tgt := 23) hx hb dL_law_468 (by decide) ?_
      refine W.widen (k := 5 + (k + 1)) (n := 8204 + 6 * (k + 1)) (by omega) (by omega) ?_
      exact ih (k + 1) x_465 u v f _ _ _ (by omega) (by omega) (by rw [ex_465, ht]; exact step7 k) hIu hIv (fun q => absurd q (by omega)) hP hD hS (lv_sub hl [0, 1, 2, 3, 4] rfl)
