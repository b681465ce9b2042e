abbrev lS : Type := wS × (Nat → Int64)
abbrev lW (h a : Nat) (cA : ClassId) (o : Nat) (cO : ClassId) (v : lS) : va_W := [(h, .inr (0, [.ref a, .int v.1.2.1, .int v.1.2.2.1, .int v.1.2.2.2.1, .int v.1.2.2.2.2])), (a, .inl (cA, 4096, .inr (.inl v.1.1))), (o, .inl (cO, 1, .inr (.inl v.2)))]
abbrev lA (h a o : Nat) : Nat → Prop := fun q => q = h ∨ q = a ∨ q = o
theorem lA_in (h a : Nat) (cA : ClassId) (o : Nat) (cO : ClassId) (v : lS) : ∀ (k : Nat) (q : Nat × va_E), (lW h a cA o cO v)[k]? = some q → lA h a o q.1 := by
  intro k q hk
  match k, hk with
  | 0, hk => cases hk; exact Or.inl rfl
  | 1, hk => cases hk; exact Or.inr (Or.inl rfl)
  | 2, hk => cases hk; exact Or.inr (Or.inr rfl)
theorem lA_at (h a : Nat) (cA : ClassId) (o : Nat) (cO : ClassId) (v : lS) : ∀ q, lA h a o q → ∃ e', (q, e') ∈ lW h a cA o cO v := by
  intro q hq
  rcases hq with rfl | rfl | rfl
  · exact ⟨_, List.mem_cons_self⟩
  · exact ⟨_, List.mem_cons_of_mem _ List.mem_cons_self⟩
  · exact ⟨_, List.mem_cons_of_mem _ (List.mem_cons_of_mem _ List.mem_cons_self)⟩
set_option maxHeartbeats 4000000 in
set_option maxRecDepth 100000 in
theorem kL_put (l : Launch) (hst : l.stackTraces = false) (D : va_G) (h a : Nat) (cA : ClassId) (u : wS) (hI : wI u) (i : Int32) (w : Int64) : Met l yL_put wsL_put ({ frames := 8, cells := 1, slots := 6, locals := 144 }) (va_Pc [.ref h, .int i, .long w] (fun U => mm_P D vwCl [(cA, .long)] (wW h a cA u) U ∧ xz U)) (mm_Q rv_i D vwCl [(cA, .long)] (fun k u' => wI u' ∧ ((k = 0 ∧ vp_in i 4096) ∨ (k = 1 ∧ ¬ vp_in i 4096))) (wW h a cA) (wA h a)) 1 6 (wA h a) := by
  refine va_MetW (cc := cL_put) (maxL := 5) (ret := (some .int)) (hh := [(0, 6, 9, 13)]) (by decide) rfl ?_
  intro p e s m args below meth c s₁ B hml hv
  obtain ⟨rfl, ⟨hP, hK, hD0⟩, hz⟩ := hv
  have hx := B.exec
  have hb := B.bytes
  have hr := B.returns
  have hts := atoms_spec (ws := wsL_put) B.pre
  have hown : s.vm.findClass RL = some m.cls := findClass_of_methodNamed B.named
  have hlocks := B.notSynchronized
  have htab : c.exceptionTable.toList = [⟨0, 6, 9, 13⟩] := vx_table (x := yL_put) B (hts _ List.mem_cons_self)
  have hD : va_D (wA h a) (wW h a cA u) := ⟨hD0.1, wA_in h a cA u⟩
  have hS : va_S (wA h a) s.heap s.heap [] := va_S.rf
  have hl := lv_entry ([.ref h, .int i, .long w]) (n := 5) (Nat.le_of_ble_eq_true rfl)
  rw [lg_entry_eq]
  generalize (lg_sl ([.ref h, .int i, .long w]) ++ List.replicate (5 - (lg_sl ([.ref h, .int i, .long w])).length) Slot.unset).toArray = ls at hl ⊢
  have hl : lv_has ls 5 [(0, .ref h), (1, .int i), (2, .long w)] := hl
  refine lv_aload_n hx hb dL_put_0 rfl (lv_at hl 0 rfl) ?_
  refine lv_iload_n hx hb dL_put_1 rfl (lv_at hl 1 rfl) ?_
  refine lv_lload_n hx hb dL_put_2 rfl (lv_at hl 2 rfl) ?_
  by_cases hi : vp_in i 4096
  · have hKc := hK
    have hPc := hP
    have hDc := hD
    refine mm_back (rv := rv_v) (mw := wW h a cA) (wr := []) (u := u) (va_runV (g := F0 m 3 ls ([.long w, .int i, .ref h])) (As := [.int i, .long w]) (rest := []) ⟨hx, hb, hml, hown, hts⟩ (kX0_put l D h a cA u hI i w hi) (cwV 2 hts gL_put_X0_put rfl rfl rfl (by decide +kernel) ⟨by decide, by decide⟩) (mm_pre (ci := 0) (q0 := 0) (q := (RX0, TX0, 5)) hKc hPc hDc rfl rfl) rfl rfl hl.1 rfl (lv_room (Nat.le_of_ble_eq_true rfl)) dL_put_3 ⟨Nat.zero_le _, Nat.zero_le _⟩) hP hD hS [] [0, 1] rfl rfl (wA_at h a cA u) (fun _ => rfl) (fun _ u' H locs hq hP hD hS => ?_)
    refine W.eq (g2 := F0 m 6 ls []) rfl ?_
    refine lv_goto (tgt := 13) hx hb dL_put_6 (by decide) ?_
    refine W.widen (k := 1) (n := 6) (by omega) (by omega) ?_
    refine lv_iconst (v := 0) hx hb dL_put_13 (by decide) ?_
    exact mm_iretG (mw := (wW h a cA)) (u1 := u') hx hb hr hlocks hP hK hD hS dL_put_14 ⟨hq, Or.inl ⟨rfl, hi⟩⟩
  · refine tt_goV (C := RX0) (As := [.int i, .long w]) (rest := []) ⟨hx, hb, hml, hown, hts⟩ (tX0_put l hst h i w hi) (cwV 2 hts gL_put_X0_put rfl rfl rfl (by decide +kernel) ⟨by decide, by decide⟩) hz (va_recv (ci := 0) (q0 := 0) (q := (RX0, TX0, 5)) hK hP rfl rfl) rfl hl.1 rfl (Nat.le_of_ble_eq_true rfl) dL_put_3 ⟨by decide, by decide⟩ (fun q ce H1 g1 g2 g3 g4 g5 => ?_)
    refine tt_caught (own := RL) htab (by decide) (by decide) hown (hts (.classLink RL 13 xI) (by decide +kernel)) g3 g4 g5 ?_
    have hP1 : va_P D vwCl (wW h a cA u) H1 := hP.kept (fun k q hk => g2 q.1 ((hP k q hk).lt))
    have hS1 : va_S (wA h a) s.heap H1 [] := ⟨g1, fun z hz _ => g2 z hz, fun _ h => by cases h⟩
    refine lv_astore (lv' := [(4, .ref q), (0, .ref h), (1, .int i), (2, .long w)]) hx hb dL_put_9 hl (by decide) rfl (fun ls hl => ?_)
    refine lv_iconst (v := 1) hx hb dL_put_11 (by decide) ?_
    exact mm_iretG (mw := (wW h a cA)) (u1 := u) hx hb hr hlocks hP1 hK hD hS1 dL_put_12 ⟨hI, Or.inr ⟨rfl, hi⟩⟩
set_option maxHeartbeats 4000000 in
set_option maxRecDepth 100000 in
theorem kL_go (l : Launch) (hst : l.stackTraces = false) (D : va_G) (h a : Nat) (cA : ClassId) (u : wS) (hI : wI u) (i : Int32) : Met l yL_go wsL_go ({ frames := 8, cells := 1, slots := 6, locals := 142 }) (va_Pc [.ref h, .int i] (fun U => mm_P D vwCl [(cA, .long)] (wW h a cA u) U ∧ xz U)) (mm_Q rv_i D vwCl [(cA, .long)] (fun k u' => wI u' ∧ ((k = 0 ∧ vp_in i 4096) ∨ (k = 1 ∧ ¬ vp_in i 4096))) (wW h a cA) (wA h a)) 1 6 (wA h a) := by
  refine va_MetW (cc := cL_go) (maxL := 3) (ret := (some .int)) (hh := [(0, 5, 8, 13)]) (by decide) rfl ?_
  intro p e s m args below meth c s₁ B hml hv
  obtain ⟨rfl, ⟨hP, hK, hD0⟩, hz⟩ := hv
  have hx := B.exec
  have hb := B.bytes
  have hr := B.returns
  have hts := atoms_spec (ws := wsL_go) B.pre
  have hown : s.vm.findClass RL = some m.cls := findClass_of_methodNamed B.named
  have hlocks := B.notSynchronized
  have htab : c.exceptionTable.toList = [⟨0, 5, 8, 13⟩] := vx_table (x := yL_go) B (hts _ List.mem_cons_self)
  have hD : va_D (wA h a) (wW h a cA u) := ⟨hD0.1, wA_in h a cA u⟩
  have hS : va_S (wA h a) s.heap s.heap [] := va_S.rf
  have hl := lv_entry ([.ref h, .int i]) (n := 3) (Nat.le_of_ble_eq_true rfl)
  rw [lg_entry_eq]
  generalize (lg_sl ([.ref h, .int i]) ++ List.replicate (3 - (lg_sl ([.ref h, .int i])).length) Slot.unset).toArray = ls at hl ⊢
  have hl : lv_has ls 3 [(0, .ref h), (1, .int i)] := hl
  refine lv_aload_n hx hb dL_go_0 rfl (lv_at hl 0 rfl) ?_
  refine lv_iload_n hx hb dL_go_1 rfl (lv_at hl 1 rfl) ?_
  by_cases hi : vp_in i 4096
  · have hKc := hK
    have hPc := hP
    have hDc := hD
    refine mm_back (rv := rv_v) (mw := wW h a cA) (wr := []) (u := u) (va_runV (g := F0 m 2 ls ([.int i, .ref h])) (As := [.int i]) (rest := []) ⟨hx, hb, hml, hown, hts⟩ (kX0_go l D h a cA u hI i hi) (cwV 1 hts gL_go_X0_go rfl rfl rfl (by decide +kernel) ⟨by decide, by decide⟩) (mm_pre (ci := 0) (q0 := 0) (q := (RX0, TX0, 5)) hKc hPc hDc rfl rfl) rfl rfl hl.1 rfl (lv_room (Nat.le_of_ble_eq_true rfl)) dL_go_2 ⟨Nat.zero_le _, Nat.zero_le _⟩) hP hD hS [] [0, 1] rfl rfl (wA_at h a cA u) (fun _ => rfl) (fun _ u' H locs hq hP hD hS => ?_)
    refine W.eq (g2 := F0 m 5 ls []) rfl ?_
    refine lv_goto (tgt := 11) hx hb dL_go_5 (by decide) ?_
    refine W.widen (k := 1) (n := 6) (by omega) (by omega) ?_
    refine lv_iconst (v := 0) hx hb dL_go_11 (by decide) ?_
    exact mm_iretG (mw := (wW h a cA)) (u1 := u') hx hb hr hlocks hP hK hD hS dL_go_12 ⟨hq, Or.inl ⟨rfl, hi⟩⟩
  · refine tt_goV (C := RX0) (As := [.int i]) (rest := []) ⟨hx, hb, hml, hown, hts⟩ (tX0_go l hst h i hi) (cwV 1 hts gL_go_X0_go rfl rfl rfl (by decide +kernel) ⟨by decide, by decide⟩) hz (va_recv (ci := 0) (q0 := 0) (q := (RX0, TX0, 5)) hK hP rfl rfl) rfl hl.1 rfl (Nat.le_of_ble_eq_true rfl) dL_go_2 ⟨by decide, by decide⟩ (fun q ce H1 g1 g2 g3 g4 g5 => ?_)
    refine tt_caught (own := RL) htab (by decide) (by decide) hown (hts (.classLink RL 13 xI) (by decide +kernel)) g3 g4 g5 ?_
    have hP1 : va_P D vwCl (wW h a cA u) H1 := hP.kept (fun k q hk => g2 q.1 ((hP k q hk).lt))
    have hS1 : va_S (wA h a) s.heap H1 [] := ⟨g1, fun z hz _ => g2 z hz, fun _ h => by cases h⟩
    refine lv_astore_n (lv' := [(2, .ref q), (0, .ref h), (1, .int i)]) hx hb dL_go_8 rfl hl (by decide) rfl (fun ls hl => ?_)
    refine lv_iconst (v := 1) hx hb dL_go_9 (by decide) ?_
    exact mm_iretG (mw := (wW h a cA)) (u1 := u) hx hb hr hlocks hP1 hK hD hS1 dL_go_10 ⟨hI, Or.inr ⟨rfl, hi⟩⟩
set_option maxHeartbeats 4000000 in
set_option maxRecDepth 100000 in
theorem kL_word (l : Launch) (hst : l.stackTraces = false) (D : va_G) (h a : Nat) (cA : ClassId) (o : Nat) (cO : ClassId) (u : wS) (f : Nat → Int64) (hI : wI u) (i : Int32) : Met l yL_word wsL_word ({ frames := 8, cells := 1, slots := 6, locals := 142 }) (va_Pc [.ref h, .int i, .ref o] (fun U => mm_P D vwCl [(cA, .long), (cO, .long)] (lW h a cA o cO (u, f)) U ∧ xz U)) (mm_Q rv_i D vwCl [(cA, .long), (cO, .long)] (fun k v => wI v.1 ∧ ((k = 0 ∧ vp_in i 4096 ∧ v.2 0 = u.1 (i : Int32).toNatClampNeg) ∨ (k = 1 ∧ ¬ vp_in i 4096))) (lW h a cA o cO) (lA h a o)) 1 6 (lA h a o) := by
  refine va_MetW (cc := cL_word) (maxL := 4) (ret := (some .int)) (hh := [(0, 8, 11, 13)]) (by decide) rfl ?_
  intro p e s m args below meth c s₁ B hml hv
  obtain ⟨rfl, ⟨hP, hK, hD0⟩, hz⟩ := hv
  have hx := B.exec
  have hb := B.bytes
  have hr := B.returns
  have hts := atoms_spec (ws := wsL_word) B.pre
  have hown : s.vm.findClass RL = some m.cls := findClass_of_methodNamed B.named
  have hlocks := B.notSynchronized
  have htab : c.exceptionTable.toList = [⟨0, 8, 11, 13⟩] := vx_table (x := yL_word) B (hts _ List.mem_cons_self)
  have hD : va_D (lA h a o) (lW h a cA o cO (u, f)) := ⟨hD0.1, lA_in h a cA o cO (u, f)⟩
  have hS : va_S (lA h a o) s.heap s.heap [] := va_S.rf
  have hl := lv_entry ([.ref h, .int i, .ref o]) (n := 4) (Nat.le_of_ble_eq_true rfl)
  rw [lg_entry_eq]
  generalize (lg_sl ([.ref h, .int i, .ref o]) ++ List.replicate (4 - (lg_sl ([.ref h, .int i, .ref o])).length) Slot.unset).toArray = ls at hl ⊢
  have hl : lv_has ls 4 [(0, .ref h), (1, .int i), (2, .ref o)] := hl
  refine lv_aload_n hx hb dL_word_0 rfl (lv_at hl 2 rfl) ?_
  refine lv_iconst (v := 0) hx hb dL_word_1 (by decide) ?_
  refine lv_aload_n hx hb dL_word_2 rfl (lv_at hl 0 rfl) ?_
  refine lv_iload_n hx hb dL_word_3 rfl (lv_at hl 1 rfl) ?_
  by_cases hi : vp_in i 4096
  · have hKc := hK.sub (tys' := [(cA, .long)]) [0] rfl
    have hPc := hP.sub (ws' := wW h a cA u) [0, 1] rfl
    have hDc := hD.sub (ws' := wW h a cA u) [0, 1] (by decide) rfl
    refine mm_back (rv := rv_l) (mw := wW h a cA) (wr := [(o, .inl (cO, 1, .inr (.inl f)))]) (u := u) (va_runV (g := F0 m 4 ls ([.int i, .ref h, .int 0, .ref o])) (As := [.int i]) (rest := [.int 0, .ref o]) ⟨hx, hb, hml, hown, hts⟩ (kX0_word l D h a cA u hI i hi) (cwV 1 hts gL_word_X0_word rfl rfl rfl (by decide +kernel) ⟨by decide, by decide⟩) (mm_pre (ci := 0) (q0 := 0) (q := (RX0, TX0, 5)) hKc hPc hDc rfl rfl) rfl rfl hl.1 rfl (lv_room (Nat.le_of_ble_eq_true rfl)) dL_word_4 ⟨Nat.zero_le _, Nat.zero_le _⟩) hP hD hS [2] [0, 1] rfl rfl (wA_at h a cA u) (fun _ => rfl) (fun r u' H locs hq hP hD hS => ?_)
    refine W.eq (g2 := F0 m 7 ls [.long r, .int 0, .ref o]) rfl ?_
    refine va_last hx hb hK hP hD hS 0 1 rfl rfl (vp_0 (by decide)) dL_word_7 (fun H locs hP hD hS => ?_)
    have hP := hP.sub (ws' := lW h a cA o cO (u', vp_updL f (0 : Int32).toNatClampNeg r)) [1, 2, 0] rfl
    have hD := hD.sub (ws' := lW h a cA o cO (u', vp_updL f (0 : Int32).toNatClampNeg r)) [1, 2, 0] (by decide) rfl
    refine lv_goto (tgt := 14) hx hb dL_word_8 (by decide) ?_
    refine W.widen (k := 1) (n := 6) (by omega) (by omega) ?_
    refine lv_iconst (v := 0) hx hb dL_word_14 (by decide) ?_
    exact mm_iretG (mw := (lW h a cA o cO)) (u1 := (u', vp_updL f (0 : Int32).toNatClampNeg r)) hx hb hr hlocks hP hK hD hS dL_word_15 ⟨hq.1, Or.inl ⟨rfl, hi, by rw [sb_cl0]; show vp_updL f 0 r 0 = _; rw [pk_uLs]; exact hq.2⟩⟩
  · refine tt_goV (C := RX0) (As := [.int i]) (rest := [.int 0, .ref o]) ⟨hx, hb, hml, hown, hts⟩ (tX0_word l hst h i hi) (cwV 1 hts gL_word_X0_word rfl rfl rfl (by decide +kernel) ⟨by decide, by decide⟩) hz (va_recv (ci := 0) (q0 := 0) (q := (RX0, TX0, 5)) hK hP rfl rfl) rfl hl.1 rfl (Nat.le_of_ble_eq_true rfl) dL_word_4 ⟨by decide, by decide⟩ (fun q ce H1 g1 g2 g3 g4 g5 => ?_)
    refine tt_caught (own := RL) htab (by decide) (by decide) hown (hts (.classLink RL 13 xI) (by decide +kernel)) g3 g4 g5 ?_
    have hP1 : va_P D vwCl (lW h a cA o cO (u, f)) H1 := hP.kept (fun k q hk => g2 q.1 ((hP k q hk).lt))
    have hS1 : va_S (lA h a o) s.heap H1 [] := ⟨g1, fun z hz _ => g2 z hz, fun _ h => by cases h⟩
    refine lv_astore_n (lv' := [(3, .ref q), (0, .ref h), (1, .int i), (2, .ref o)]) hx hb dL_word_11 rfl hl (by decide) rfl (fun ls hl => ?_)
    refine lv_iconst (v := 1) hx hb dL_word_12 (by decide) ?_
    exact mm_iretG (mw := (lW h a cA o cO)) (u1 := (u, f)) hx hb hr hlocks hP1 hK hD hS1 dL_word_13 ⟨hI, Or.inr ⟨rfl, hi⟩⟩
set_option maxHeartbeats 4000000 in
set_option maxRecDepth 100000 in
theorem kL_code (l : Launch) (hst : l.stackTraces = false) (D : va_G) (h a : Nat) (cA : ClassId) (o : Nat) (cO : ClassId) (u : wS) (f : Nat → Int64) (hI : wI u) (i op ac z0 x0 y0 : Int32) : Met l yL_code wsL_code ({ frames := 8, cells := 1, slots := 6, locals := 149 }) (va_Pc [.ref h, .int i, .int op, .int ac, .int z0, .int x0, .int y0, .ref o] (fun U => mm_P D vwCl [(cA, .long), (cO, .long)] (lW h a cA o cO (u, f)) U ∧ xz U)) (mm_Q rv_i D vwCl [(cA, .long), (cO, .long)] (fun k v => wI v.1 ∧ ((k = 0 ∧ okc i op ac x0 ∧ v.2 0 = wc_code op ac z0 x0 y0) ∨ (k = 1 ∧ ¬ okc i op ac x0))) (lW h a cA o cO) (lA h a o)) 1 6 (lA h a o) := by
  refine va_MetW (cc := cL_code) (maxL := 9) (ret := (some .int)) (hh := [(0, 17, 20, 13)]) (by decide) rfl ?_
  intro p e s m args below meth c s₁ B hml hv
  obtain ⟨rfl, ⟨hP, hK, hD0⟩, hz⟩ := hv
  have hx := B.exec
  have hb := B.bytes
  have hr := B.returns
  have hts := atoms_spec (ws := wsL_code) B.pre
  have hown : s.vm.findClass RL = some m.cls := findClass_of_methodNamed B.named
  have hlocks := B.notSynchronized
  have htab : c.exceptionTable.toList = [⟨0, 17, 20, 13⟩] := vx_table (x := yL_code) B (hts _ List.mem_cons_self)
  have hD : va_D (lA h a o) (lW h a cA o cO (u, f)) := ⟨hD0.1, lA_in h a cA o cO (u, f)⟩
  have hS : va_S (lA h a o) s.heap s.heap [] := va_S.rf
  have hl := lv_entry ([.ref h, .int i, .int op, .int ac, .int z0, .int x0, .int y0, .ref o]) (n := 9) (Nat.le_of_ble_eq_true rfl)
  rw [lg_entry_eq]
  generalize (lg_sl ([.ref h, .int i, .int op, .int ac, .int z0, .int x0, .int y0, .ref o]) ++ List.replicate (9 - (lg_sl ([.ref h, .int i, .int op, .int ac, .int z0, .int x0, .int y0, .ref o])).length) Slot.unset).toArray = ls at hl ⊢
  have hl : lv_has ls 9 [(0, .ref h), (1, .int i), (2, .int op), (3, .int ac), (4, .int z0), (5, .int x0), (6, .int y0), (7, .ref o)] := hl
  refine lv_aload hx hb dL_code_0 (lv_at hl 7 rfl) ?_
  refine lv_iconst (v := 0) hx hb dL_code_2 (by decide) ?_
  refine lv_aload_n hx hb dL_code_3 rfl (lv_at hl 0 rfl) ?_
  refine lv_iload_n hx hb dL_code_4 rfl (lv_at hl 1 rfl) ?_
  refine lv_iload_n hx hb dL_code_5 rfl (lv_at hl 2 rfl) ?_
  refine lv_iload_n hx hb dL_code_6 rfl (lv_at hl 3 rfl) ?_
  refine lv_iload hx hb dL_code_7 (lv_at hl 4 rfl) ?_
  refine lv_iload hx hb dL_code_9 (lv_at hl 5 rfl) ?_
  refine lv_iload hx hb dL_code_11 (lv_at hl 6 rfl) ?_
  by_cases hi : okc i op ac x0
  · have hKc := hK.sub (tys' := [(cA, .long)]) [0] rfl
    have hPc := hP.sub (ws' := wW h a cA u) [0, 1] rfl
    have hDc := hD.sub (ws' := wW h a cA u) [0, 1] (by decide) rfl
    refine mm_back (rv := rv_l) (mw := wW h a cA) (wr := [(o, .inl (cO, 1, .inr (.inl f)))]) (u := u) (va_runV (g := F0 m 13 ls ([.int y0, .int x0, .int z0, .int ac, .int op, .int i, .ref h, .int 0, .ref o])) (As := [.int i, .int op, .int ac, .int z0, .int x0, .int y0]) (rest := [.int 0, .ref o]) ⟨hx, hb, hml, hown, hts⟩ (kX0_code l D h a cA u hI i op ac z0 x0 y0 hi.1 hi.2.1 hi.2.2.1 hi.2.2.2) (cwV 6 hts gL_code_X0_code rfl rfl rfl (by decide +kernel) ⟨by decide, by decide⟩) (mm_pre (ci := 0) (q0 := 0) (q := (RX0, TX0, 5)) hKc hPc hDc rfl rfl) rfl rfl hl.1 rfl (lv_room (Nat.le_of_ble_eq_true rfl)) dL_code_13 ⟨Nat.zero_le _, Nat.zero_le _⟩) hP hD hS [2] [0, 1] rfl rfl (wA_at h a cA u) (fun _ => rfl) (fun r u' H locs hq hP hD hS => ?_)
    refine W.eq (g2 := F0 m 16 ls [.long r, .int 0, .ref o]) rfl ?_
    refine va_last hx hb hK hP hD hS 0 1 rfl rfl (vp_0 (by decide)) dL_code_16 (fun H locs hP hD hS => ?_)
    have hP := hP.sub (ws' := lW h a cA o cO (u', vp_updL f (0 : Int32).toNatClampNeg r)) [1, 2, 0] rfl
    have hD := hD.sub (ws' := lW h a cA o cO (u', vp_updL f (0 : Int32).toNatClampNeg r)) [1, 2, 0] (by decide) rfl
    refine lv_goto (tgt := 24) hx hb dL_code_17 (by decide) ?_
    refine W.widen (k := 1) (n := 6) (by omega) (by omega) ?_
    refine lv_iconst (v := 0) hx hb dL_code_24 (by decide) ?_
    exact mm_iretG (mw := (lW h a cA o cO)) (u1 := (u', vp_updL f (0 : Int32).toNatClampNeg r)) hx hb hr hlocks hP hK hD hS dL_code_25 ⟨hq.1, Or.inl ⟨rfl, hi, by rw [sb_cl0]; show vp_updL f 0 r 0 = _; rw [pk_uLs]; exact hq.2⟩⟩
  · refine tt_goV (C := RX0) (As := [.int i, .int op, .int ac, .int z0, .int x0, .int y0]) (rest := [.int 0, .ref o]) ⟨hx, hb, hml, hown, hts⟩ (tX0_code l hst h i op ac z0 x0 y0 hi) (cwV 6 hts gL_code_X0_code rfl rfl rfl (by decide +kernel) ⟨by decide, by decide⟩) hz (va_recv (ci := 0) (q0 := 0) (q := (RX0, TX0, 5)) hK hP rfl rfl) rfl hl.1 rfl (Nat.le_of_ble_eq_true rfl) dL_code_13 ⟨by decide, by decide⟩ (fun q ce H1 g1 g2 g3 g4 g5 => ?_)
    refine tt_caught (own := RL) htab (by decide) (by decide) hown (hts (.classLink RL 13 xI) (by decide +kernel)) g3 g4 g5 ?_
    have hP1 : va_P D vwCl (lW h a cA o cO (u, f)) H1 := hP.kept (fun k q hk => g2 q.1 ((hP k q hk).lt))
    have hS1 : va_S (lA h a o) s.heap H1 [] := ⟨g1, fun z hz _ => g2 z hz, fun _ h => by cases h⟩
    refine lv_astore (lv' := [(8, .ref q), (0, .ref h), (1, .int i), (2, .int op), (3, .int ac), (4, .int z0), (5, .int x0), (6, .int y0), (7, .ref o)]) hx hb dL_code_20 hl (by decide) rfl (fun ls hl => ?_)
    refine lv_iconst (v := 1) hx hb dL_code_22 (by decide) ?_
    exact mm_iretG (mw := (lW h a cA o cO)) (u1 := (u, f)) hx hb hr hlocks hP1 hK hD hS1 dL_code_23 ⟨hI, Or.inr ⟨rfl, hi⟩⟩
set_option maxHeartbeats 4000000 in
set_option maxRecDepth 100000 in
theorem kL_run (l : Launch) (hst : l.stackTraces = false) (D : va_G) (h a : Nat) (cA : ClassId) (o : Nat) (cO : ClassId) (u : wS) (f : Nat → Int64) (hI : wI u) (i : Int32) : Met l yL_run wsL_run ({ frames := 8, cells := 1, slots := 6, locals := 172 }) (va_Pc [.ref h, .int i, .ref o] (fun U => mm_P D vwCl [(cA, .long), (cO, .long)] (lW h a cA o cO (u, f)) U ∧ xz U)) (mm_Q rv_i D vwCl [(cA, .long), (cO, .long)] (fun k v => wI v.1 ∧ ((k = 0 ∧ okn i ∧ ∃ q : Int32, v.2 0 = q.toInt64 ∧ fz u.1 i q) ∨ (k = 1 ∧ ¬ okn i))) (lW h a cA o cO) (lA h a o)) 1 6 (lA h a o) := by
  refine va_MetW (cc := cL_run) (maxL := 4) (ret := (some .int)) (hh := [(0, 9, 12, 13)]) (by decide) rfl ?_
  intro p e s m args below meth c s₁ B hml hv
  obtain ⟨rfl, ⟨hP, hK, hD0⟩, hz⟩ := hv
  have hx := B.exec
  have hb := B.bytes
  have hr := B.returns
  have hts := atoms_spec (ws := wsL_run) B.pre
  have hown : s.vm.findClass RL = some m.cls := findClass_of_methodNamed B.named
  have hlocks := B.notSynchronized
  have htab : c.exceptionTable.toList = [⟨0, 9, 12, 13⟩] := vx_table (x := yL_run) B (hts _ List.mem_cons_self)
  have hD : va_D (lA h a o) (lW h a cA o cO (u, f)) := ⟨hD0.1, lA_in h a cA o cO (u, f)⟩
  have hS : va_S (lA h a o) s.heap s.heap [] := va_S.rf
  have hl := lv_entry ([.ref h, .int i, .ref o]) (n := 4) (Nat.le_of_ble_eq_true rfl)
  rw [lg_entry_eq]
  generalize (lg_sl ([.ref h, .int i, .ref o]) ++ List.replicate (4 - (lg_sl ([.ref h, .int i, .ref o])).length) Slot.unset).toArray = ls at hl ⊢
  have hl : lv_has ls 4 [(0, .ref h), (1, .int i), (2, .ref o)] := hl
  refine lv_aload_n hx hb dL_run_0 rfl (lv_at hl 2 rfl) ?_
  refine lv_iconst (v := 0) hx hb dL_run_1 (by decide) ?_
  refine lv_aload_n hx hb dL_run_2 rfl (lv_at hl 0 rfl) ?_
  refine lv_iload_n hx hb dL_run_3 rfl (lv_at hl 1 rfl) ?_
  by_cases hi : okn i
  · have hKc := hK.sub (tys' := [(cA, .long)]) [0] rfl
    have hPc := hP.sub (ws' := wW h a cA u) [0, 1] rfl
    have hDc := hD.sub (ws' := wW h a cA u) [0, 1] (by decide) rfl
    obtain ⟨N, hN, hn0⟩ := nI_of2 (x := i) (M := 20000) (n := 20000) (by decide) hi.1 hi.2
    refine mm_back (rv := rv_i) (mw := wW h a cA) (wr := [(o, .inl (cO, 1, .inr (.inl f)))]) (u := u) (va_runV (g := F0 m 4 ls ([.int i, .ref h, .int 0, .ref o])) (As := [.int i]) (rest := [.int 0, .ref o]) ⟨hx, hb, hml, hown, hts⟩ (kX0_run l D h a cA u hI i N hN hn0) (cwV 1 hts gL_run_X0_run rfl rfl rfl (by decide +kernel) ⟨by decide, by decide⟩) (mm_pre (ci := 0) (q0 := 0) (q := (RX0, TX0, 5)) hKc hPc hDc rfl rfl) rfl rfl hl.1 rfl (lv_room (Nat.le_of_ble_eq_true rfl)) dL_run_4 ⟨Nat.zero_le _, Nat.zero_le _⟩) hP hD hS [2] [0, 1] rfl rfl (wA_at h a cA u) (fun _ => rfl) (fun r u' H locs hq hP hD hS => ?_)
    refine W.eq (g2 := F0 m 7 ls [.int r, .int 0, .ref o]) rfl ?_
    refine lv_i2l hx hb dL_run_7 rfl ?_
    refine va_last hx hb hK hP hD hS 0 1 rfl rfl (vp_0 (by decide)) dL_run_8 (fun H locs hP hD hS => ?_)
    have hP := hP.sub (ws' := lW h a cA o cO (u', vp_updL f (0 : Int32).toNatClampNeg r.toInt64)) [1, 2, 0] rfl
    have hD := hD.sub (ws' := lW h a cA o cO (u', vp_updL f (0 : Int32).toNatClampNeg r.toInt64)) [1, 2, 0] (by decide) rfl
    refine lv_goto (tgt := 15) hx hb dL_run_9 (by decide) ?_
    refine W.widen (k := 1) (n := 6) (by omega) (by omega) ?_
    refine lv_iconst (v := 0) hx hb dL_run_15 (by decide) ?_
    exact mm_iretG (mw := (lW h a cA o cO)) (u1 := (u', vp_updL f (0 : Int32).toNatClampNeg r.toInt64)) hx hb hr hlocks hP hK hD hS dL_run_16 ⟨hq.1, Or.inl ⟨rfl, hi, r, by rw [sb_cl0]; show vp_updL f 0 r.toInt64 0 = _; rw [pk_uLs], hq.2⟩⟩
  · refine tt_goV (C := RX0) (As := [.int i]) (rest := [.int 0, .ref o]) ⟨hx, hb, hml, hown, hts⟩ (tX0_run l hst h i hi) (cwV 1 hts gL_run_X0_run rfl rfl rfl (by decide +kernel) ⟨by decide, by decide⟩) hz (va_recv (ci := 0) (q0 := 0) (q := (RX0, TX0, 5)) hK hP rfl rfl) rfl hl.1 rfl (Nat.le_of_ble_eq_true rfl) dL_run_4 ⟨by decide, by decide⟩ (fun q ce H1 g1 g2 g3 g4 g5 => ?_)
    refine tt_caught (own := RL) htab (by decide) (by decide) hown (hts (.classLink RL 13 xI) (by decide +kernel)) g3 g4 g5 ?_
    have hP1 : va_P D vwCl (lW h a cA o cO (u, f)) H1 := hP.kept (fun k q hk => g2 q.1 ((hP k q hk).lt))
    have hS1 : va_S (lA h a o) s.heap H1 [] := ⟨g1, fun z hz _ => g2 z hz, fun _ h => by cases h⟩
    refine lv_astore_n (lv' := [(3, .ref q), (0, .ref h), (1, .int i), (2, .ref o)]) hx hb dL_run_12 rfl hl (by decide) rfl (fun ls hl => ?_)
    refine lv_iconst (v := 1) hx hb dL_run_13 (by decide) ?_
    exact mm_iretG (mw := (lW h a cA o cO)) (u1 := (u, f)) hx hb hr hlocks hP1 hK hD hS1 dL_run_14 ⟨hI, Or.inr ⟨rfl, hi⟩⟩
