section MB
theorem vp_mono {x : Int32} {n k : Nat} (h : vp_in x n) (hk : n ≤ k) : vp_in x k := by
  rw [vp_in_iff] at h ⊢
  omega
theorem vp_nonneg {x : Int32} {n : Nat} (h : vp_in x n) : ¬ x < 0 := fun q => h (Or.inl q)
theorem vp_below {x k : Int32} {n : Nat} (h0 : ¬ x < 0) (h : x < k) (hk : k.toInt = n) : vp_in x n := by
  rw [vp_in_iff]
  rw [Int32.lt_iff_toInt_lt] at h h0
  have h1 : (0 : Int32).toInt = 0 := by decide
  rw [h1] at h0
  rw [hk] at h
  omega
theorem vp_le {x k : Int32} {n : Nat} (h0 : ¬ x < 0) (h : x ≤ k) (hk : k.toInt + 1 = n) : vp_in x n := by
  rw [vp_in_iff]
  rw [Int32.lt_iff_toInt_lt] at h0
  rw [Int32.le_iff_toInt_le] at h
  have h1 : (0 : Int32).toInt = 0 := by decide
  rw [h1] at h0
  omega
theorem vp_and15 (x : Int32) : vp_in (x &&& 15) 4096 := vp_mono (pk_andIn x 4 rfl (by decide)) (by decide)
theorem vp_and4095 (x : Int32) : vp_in (x &&& 4095) 4096 := pk_andIn x 12 rfl (by decide)
theorem vp_and18 (x : Int32) : vp_in (x &&& 262143) 262144 := pk_andIn x 18 rfl (by decide)
theorem vp_0 {n : Nat} (h : 0 < n) : vp_in 0 n := by
  rw [vp_in_iff]
  have h1 : (0 : Int32).toInt = 0 := by decide
  rw [h1]
  omega
abbrev rv_i : Int32 → Option Value := fun r => some (.int r)
abbrev rv_l : Int64 → Option Value := fun r => some (.long r)
abbrev rv_v : Unit → Option Value := fun _ => none
/-- what holds in a body -/
def cx (p : Program) (s : State) (m : MethodId) (meth : Method) (c : Code) (cc : ByteArray) (ret : Option FieldType) (nL : Nat) (own : String) (args : Array Value) (ws : List Cond) : Prop :=
  p.tables.exec = Jvm.exec ∧ c.code = cc ∧ meth.sig.returnType = ret ∧ c.maxLocals = nL ∧ s.vm.findClass own = some m.cls ∧ (∀ w ∈ ws, w.before args s = true) ∧ meth.locks = false
theorem cx_of {p : Program} {l : Launch} {y : MethodName} {cc : ByteArray} {maxL : Nat} {ret : Option FieldType} {rm : Room} {ws : List Cond} {e : Env} {s : State} {m : MethodId} {args : Array Value} {below : List Frame} {meth : Method} {c : Code} {s₁ : State}
    (B : BodyLoose p l y (headSpec ws rm) cc maxL ret e s m args below meth c s₁) (hml : c.maxLocals = maxL) : cx p s m meth c cc ret maxL y.cls args ws :=
  ⟨B.exec, B.bytes, B.returns, hml, findClass_of_methodNamed B.named, atoms_spec (ws := ws) B.pre, B.notSynchronized⟩
/-- a static method that reads nothing -/
def PS {ρ : Type} (l : Launch) (y : MethodName) (ws : List Cond) (rm : Room) (As : List Value) (rv : ρ → Option Value) (post : ρ → Prop) : Prop :=
  Met l y ws rm (fun a _ => a = As.toArray) (fun _ st o t => ∃ r : ρ, o = .returned (rv r) ∧ post r ∧ t.heap = st.heap) 0 0 (fun _ => False)
theorem ps_of {ρ : Type} {l : Launch} {y : MethodName} {ws ws' : List Cond} {cc : ByteArray} {maxL : Nat} {ret : Option FieldType} {rm : Room} {rv : ρ → Option Value} {post : ρ → Prop} {As : List Value} (hy : plainName y.cls = true) (hw : ws = Cond.code y cc maxL ret :: ws') (hn : (lg_sl As).length ≤ maxL)
    (body : ∀ (p : Program) (e : Env) (s : State) (m : MethodId) (below : List Frame) (meth : Method) (c : Code) (ls : Array Slot), cx p s m meth c cc ret maxL y.cls As.toArray ws → lv_has ls maxL (lv_args 0 As) →
      W p l e rm s m As.toArray below meth c s.heap [] 0 0 (MQ below (fun _ st o t => ∃ r : ρ, o = .returned (rv r) ∧ post r ∧ t.heap = st.heap) As.toArray s 0 0 (fun _ => False)) (F0 m 0 ls [])) :
    PS l y ws rm As rv post := by
  refine Met.ofW (cc := cc) (maxL := maxL) (ret := ret) hy hw ?_
  intro p e s m args below meth c s₁ B hml hv
  subst hv
  have hl := lv_entry As (n := maxL) hn
  rw [lg_entry_eq]
  exact body p e s m below meth c _ (cx_of B hml) hl
/-- the world of a method -/
def mm_P (D : va_G) (cl : List vw_C) (tys : List (ClassId × FieldType)) (w : va_W) (U : State) : Prop := va_P D cl w U.heap ∧ va_K D cl tys U ∧ va_D (fun _ => True) w
def mm_Q {ρ S : Type} (rv : ρ → Option Value) (D : va_G) (cl : List vw_C) (tys : List (ClassId × FieldType)) (post : ρ → S → Prop) (mw : S → va_W) (A : Nat → Prop) : Array Value → State → Outcome → State → Prop := fun _ st o t => (∃ (r : ρ) (u : S), o = .returned (rv r) ∧ post r u ∧ mm_P D cl tys (mw u) t) ∧ va_F A st t
def MM {ρ S : Type} (l : Launch) (y : MethodName) (ws : List Cond) (rm : Room) (D : va_G) (cl : List vw_C) (tys : List (ClassId × FieldType)) (mw : S → va_W) (A : Nat → Prop) (u : S) (As : List Value) (rv : ρ → Option Value) (post : ρ → S → Prop) : Prop :=
  Met l y ws rm (va_Pc As (mm_P D cl tys (mw u))) (mm_Q rv D cl tys post mw A) 0 0 A
theorem mm_blind {D : va_G} {cl : List vw_C} {tys : List (ClassId × FieldType)} {w : va_W} {As : List Value} : FrameBlind (va_Pc As (mm_P D cl tys w)) := fun a U g mk q => by
  obtain ⟨q0, qP, qK, qD⟩ := q
  exact ⟨q0, qP, va_K.moved (u := U) (U := U.calling g mk a) (Vm.Alike.refl U.vm) qK, qD⟩
theorem mm_of {ρ S : Type} {l : Launch} {y : MethodName} {ws ws' : List Cond} {cc : ByteArray} {maxL : Nat} {ret : Option FieldType} {rm : Room} {D : va_G} {cl : List vw_C} {tys : List (ClassId × FieldType)} {mw : S → va_W} {A : Nat → Prop} {u : S} {rv : ρ → Option Value} {post : ρ → S → Prop} {As : List Value} (hy : plainName y.cls = true) (hw : ws = Cond.code y cc maxL ret :: ws') (hn : (lg_sl As).length ≤ maxL) (hA : ∀ (k : Nat) (q : Nat × va_E), (mw u)[k]? = some q → A q.1)
    (body : ∀ (p : Program) (e : Env) (s : State) (m : MethodId) (below : List Frame) (meth : Method) (c : Code) (ls : Array Slot), cx p s m meth c cc ret maxL y.cls As.toArray ws → lv_has ls maxL (lv_args 0 As) →
      va_P D cl (mw u) s.heap → va_K D cl tys s → va_D A (mw u) → va_S A s.heap s.heap [] →
      W p l e rm s m As.toArray below meth c s.heap [] 0 0 (MQ below (mm_Q rv D cl tys post mw A) As.toArray s 0 0 A) (F0 m 0 ls [])) :
    MM l y ws rm D cl tys mw A u As rv post := by
  refine Met.ofW (cc := cc) (maxL := maxL) (ret := ret) hy hw ?_
  intro p e s m args below meth c s₁ B hml hv
  obtain ⟨rfl, hP, hK, hD⟩ := hv
  have hl := lv_entry As (n := maxL) hn
  rw [lg_entry_eq]
  exact body p e s m below meth c _ (cx_of B hml) hl hP hK ⟨hD.1, hA⟩ va_S.rf
theorem mm_adr {A : Nat → Prop} {w w1 : va_W} (h : va_D A w) (e : w1.map Prod.fst = w.map Prod.fst) : va_D A w1 := by
  have key : ∀ (k : Nat) (q : Nat × va_E), w1[k]? = some q → ∃ q' : Nat × va_E, w[k]? = some q' ∧ q'.1 = q.1 := by
    intro k q hk
    have h1 : (w1.map Prod.fst)[k]? = some q.1 := by rw [List.getElem?_map, hk]; rfl
    rw [e, List.getElem?_map] at h1
    cases hw : w[k]? with
    | none => rw [hw] at h1; cases h1
    | some q' => rw [hw] at h1; exact ⟨q', rfl, Option.some.inj h1⟩
  refine ⟨fun i j x y hi hj hxy => ?_, fun k q hk => ?_⟩
  · obtain ⟨x', h1, h2⟩ := key i x hi
    obtain ⟨y', h3, h4⟩ := key j y hj
    exact h.1 i j x' y' h1 h3 (by rw [h2, h4]; exact hxy)
  · obtain ⟨q', h1, h2⟩ := key k q hk
    rw [← h2]
    exact h.2 k q' h1
end MB
section MR
variable {p : Program} {l : Launch} {e : Env} {R : Room} {s : State} {m : MethodId} {args : Array Value} {below : List Frame} {meth : Method} {c : Code} {H : Heap} {locs : List Loc} {cells slots : Nat} {Q : State → Prop}
variable {y : MethodName} {bytes cc : ByteArray} {maxL nL n index pc : Nat} {ret : Option FieldType} {ws : List Cond} {rm : Room} {Ts : List Cond} {own : String} {b : Addr} {As rest st0 : List Value} {ls : Array Slot} {D : va_G} {cl : List vw_C} {tys : List (ClassId × FieldType)} {w : va_W} {A : Nat → Prop} {a : Array Value}
/-- a static call of a method that reads nothing -/
theorem ps_go {ρ : Type} {rv : ρ → Option Value} {post : ρ → Prop} (S : CallFix p m c cc nL s args Ts own) (hM : PS l y ws rm As rv post) (cw : CallB R s args own index y bytes maxL ret ws rm 0 0 n ∧ (Cond.static y).before args s = true)
    (hn : As.length = n) (hsize : ls.size = nL) (hstack : st0 = As.reverse ++ rest) (hW : (rest.map fun v => v.category).sum ≤ 8) (hdg : decode cc pc = .ok (.invokestatic index, 3)) (hf : cells ≤ R.cells ∧ slots ≤ R.slots)
    (kk : ∀ r : ρ, post r → W p l e R s m args below meth c H locs cells slots Q (F0 m (pc + 3) ls ((rv r).toList ++ rest))) : W p l e R s m args below meth c H locs cells slots Q (F0 m pc ls st0) := by
  intro T hT X
  obtain ⟨v', st₀, t, T', L, h0, X', hL, e1, ⟨r, hv, hq, hh⟩, st⟩ := W.runS (g := F0 m pc ls st0) S hM cw preEq rfl hn hsize hstack (lv_room hW) hdg hf T hT X
  cases hv
  obtain ⟨t2, a1, b1⟩ := kk r hq T' (by rw [e1, hh, h0]) (Stand.forget X' (fun q h => (hL q h).elim))
  exact ⟨t2, st t2 a1, b1⟩
theorem ps_goi {post : Int32 → Prop} (S : CallFix p m c cc nL s args Ts own) (hM : PS l y ws rm As rv_i post) (cw : CallB R s args own index y bytes maxL ret ws rm 0 0 n ∧ (Cond.static y).before args s = true)
    (hn : As.length = n) (hsize : ls.size = nL) (hstack : st0 = As.reverse ++ rest) (hW : (rest.map fun v => v.category).sum ≤ 8) (hdg : decode cc pc = .ok (.invokestatic index, 3)) (hf : cells ≤ R.cells ∧ slots ≤ R.slots)
    (kk : ∀ r : Int32, post r → W p l e R s m args below meth c H locs cells slots Q (F0 m (pc + 3) ls (.int r :: rest))) : W p l e R s m args below meth c H locs cells slots Q (F0 m pc ls st0) := ps_go S hM cw hn hsize hstack hW hdg hf kk
theorem ps_gol {post : Int64 → Prop} (S : CallFix p m c cc nL s args Ts own) (hM : PS l y ws rm As rv_l post) (cw : CallB R s args own index y bytes maxL ret ws rm 0 0 n ∧ (Cond.static y).before args s = true)
    (hn : As.length = n) (hsize : ls.size = nL) (hstack : st0 = As.reverse ++ rest) (hW : (rest.map fun v => v.category).sum ≤ 8) (hdg : decode cc pc = .ok (.invokestatic index, 3)) (hf : cells ≤ R.cells ∧ slots ≤ R.slots)
    (kk : ∀ r : Int64, post r → W p l e R s m args below meth c H locs cells slots Q (F0 m (pc + 3) ls (.long r :: rest))) : W p l e R s m args below meth c H locs cells slots Q (F0 m pc ls st0) := ps_go S hM cw hn hsize hstack hW hdg hf kk
/-- behind a call of a method of a world: isC are the places of its cells, isR those of the others -/
theorem mm_back {ρ S : Type} {rv : ρ → Option Value} {post : ρ → S → Prop} {mw : S → va_W} {tysc : List (ClassId × FieldType)} {u : S} {wr : va_W} {Ac : Nat → Prop} {mc ms : Nat} (hr : va_Run p l e R s m args below meth c H locs cells slots mc ms (F0 m pc ls st0) rest (mm_Q rv D cl tysc post mw Ac a) Ac) (hP : va_P D cl w H) (hD : va_D A w) (hS : va_S A s.heap H locs)
    (isR isC : List Nat) (hC : (isR ++ isC).map (fun i => w[i]?) = (wr ++ mw u).map some) (hnd : va_nd (isR ++ isC) = true) (hAc : ∀ q, Ac q → ∃ e', (q, e') ∈ mw u) (hadr : ∀ u' : S, (mw u').map Prod.fst = (mw u).map Prod.fst)
    (kk : ∀ (r : ρ) (u' : S) (H1 : Heap) (locs1 : List Loc), post r u' → va_P D cl (wr ++ mw u') H1 → va_D A (wr ++ mw u') → va_S A s.heap H1 locs1 → W p l e R s m args below meth c H1 locs1 (cells + mc) (slots + ms) Q (F0 m (pc + 3) ls ((rv r).toList ++ rest))) : W p l e R s m args below meth c H locs cells slots Q (F0 m pc ls st0) := by
  have hDs : va_D A (wr ++ mw u) := hD.sub (isR ++ isC) hnd hC
  have hPs : va_P D cl (wr ++ mw u) H := by
    intro k q hk
    have h1 : ((isR ++ isC).map (fun i => w[i]?))[k]? = some (some q) := by rw [hC, List.getElem?_map, hk]; rfl
    rw [List.getElem?_map] at h1
    cases hi : (isR ++ isC)[k]? with
    | none => rw [hi] at h1; cases h1
    | some i => rw [hi] at h1; exact hP i q (Option.some.inj h1)
  have hat : ∀ q, Ac q → ∃ k e', (wr ++ mw u)[wr.length + k]? = some (q, e') := by
    intro q hq
    obtain ⟨e', he⟩ := hAc q hq
    obtain ⟨k, hk⟩ := List.mem_iff_getElem?.mp he
    exact ⟨k, e', by rw [List.getElem?_append_right (by omega)]; rw [show wr.length + k - wr.length = k by omega]; exact hk⟩
  have hin : ∀ q, Ac q → A q := by
    intro q hq
    obtain ⟨k, e', hk⟩ := hat q hq
    exact hDs.2 _ (q, e') hk
  intro T hT X
  obtain ⟨v', st₀, t, T', L, h0, X', hL, e1, e2, ⟨⟨r, u', hv, hq, hP1, hK1, hD1⟩, hz, hk⟩, st⟩ := hr T hT X
  cases hv
  rw [h0] at hz hk
  have hw : va_P D cl (wr ++ mw u') T'.heap := by
    refine va_P.app (fun k q hq => ?_) (by rw [e1]; exact hP1)
    have hlt := (List.getElem?_eq_some_iff.mp hq).1
    have hq' : (wr ++ mw u)[k]? = some q := by rw [List.getElem?_append_left hlt]; exact hq
    have hl := (hPs k q hq').lt
    refine (hPs k q hq').kept ?_
    rw [e1]
    refine hk q.1 hl (fun ha => ?_)
    obtain ⟨k2, e', h3⟩ := hat q.1 ha
    have := hDs.1 k (wr.length + k2) q (q.1, e') hq' h3 rfl
    omega
  obtain ⟨t2, a1, b1⟩ := kk r u' T'.heap (locs ++ L) hq hw (mm_adr hDs (by rw [List.map_append, List.map_append, hadr]))
    ⟨Nat.le_trans hS.1 (by rw [e1]; exact hz), fun q h1 h2 => by rw [e1, hk q (Nat.lt_of_lt_of_le h1 hS.1) (fun z => h2 (hin q z))]; exact hS.2.1 q h1 h2, fun q hq => by
      rcases List.mem_append.mp hq with h | h
      · exact hS.2.2 q h
      · exact hin _ (hL q h)⟩ T' rfl X'
  exact ⟨t2, st t2 a1, b1⟩
theorem mm_pre {ci q0 : Nat} {q : vw_C} {fs : List Value} (hK : va_K D cl tys s) (hP : va_P D cl w H) (hD : va_D A w) (hc : cl[ci]? = some q) (he : w[q0]? = some (b, .inr (ci, fs))) : PreV s H q.1 b (va_Pc (.ref b :: As) (mm_P D cl tys w)) As :=
  ⟨mm_blind, va_recv hK hP hc he, fun U hU hW => ⟨rfl, by rw [hU]; exact hP, va_K.moved hW.alike hK, hD.weaken (fun _ _ _ _ => trivial)⟩⟩
/-- a call of a method of the same object: the whole world is its -/
theorem mm_go {ρ S : Type} {rv : ρ → Option Value} {post : ρ → S → Prop} {mw : S → va_W} {u : S} {ci q0 : Nat} {q : vw_C} {fs : List Value} (S0 : CallFix p m c cc nL s args Ts own) (hM : MM l y ws rm D cl tys mw A u (.ref b :: As) rv post) (cw : CallW R s args own q.1 index y bytes maxL ret ws rm 0 0 n) (hK : va_K D cl tys s) (hP : va_P D cl (mw u) H) (hD : va_D A (mw u)) (hS : va_S A s.heap H locs)
    (hc : cl[ci]? = some q) (he : (mw u)[q0]? = some (b, .inr (ci, fs))) (isC : List Nat) (hC : isC.map (fun i => (mw u)[i]?) = (mw u).map some) (hnd : va_nd isC = true) (hAc : ∀ q, A q → ∃ e', (q, e') ∈ mw u) (hadr : ∀ u' : S, (mw u').map Prod.fst = (mw u).map Prod.fst)
    (hn : As.length = n) (hsize : ls.size = nL) (hstack : st0 = As.reverse ++ .ref b :: rest) (hW : (rest.map fun v => v.category).sum ≤ 8) (hdg : decode cc pc = .ok (.invokevirtual index, 3)) (hf : cells ≤ R.cells ∧ slots ≤ R.slots)
    (kk : ∀ (r : ρ) (u' : S) (H1 : Heap) (locs1 : List Loc), post r u' → va_P D cl (mw u') H1 → va_D A (mw u') → va_S A s.heap H1 locs1 → W p l e R s m args below meth c H1 locs1 cells slots Q (F0 m (pc + 3) ls ((rv r).toList ++ rest))) : W p l e R s m args below meth c H locs cells slots Q (F0 m pc ls st0) :=
  mm_back (wr := []) (u := u) (va_runV (g := F0 m pc ls st0) S0 hM cw (mm_pre hK hP hD hc he) rfl hn hsize hstack (lv_room hW) hdg hf) hP hD hS [] isC hC hnd hAc hadr kk
/-- the ends -/
theorem ps_iret {r : Int32} {post : Int32 → Prop} (hx : p.tables.exec = Jvm.exec) (hb : c.code = cc) (hr : meth.sig.returnType = some .int) (hlocks : meth.locks = false) (hdg : decode cc pc = .ok (.ireturn, 1)) (hq : post r) : W p l e R s m args below meth c s.heap [] 0 0 (MQ below (fun _ st o t => ∃ r : Int32, o = .returned (rv_i r) ∧ post r ∧ t.heap = st.heap) args s 0 0 (fun _ => False)) (F0 m pc ls [.int r]) :=
  W.iret hx hb hr (fun t ht _ => ⟨r, rfl, hq, ht⟩) (fun _ h => by cases h) hdg
theorem ps_zret {r : Int32} {post : Int32 → Prop} (hx : p.tables.exec = Jvm.exec) (hb : c.code = cc) (hr : meth.sig.returnType = some .boolean) (hlocks : meth.locks = false) (hdg : decode cc pc = .ok (.ireturn, 1)) (hn : narrow .boolean (.int r) = .int r) (hq : post r) : W p l e R s m args below meth c s.heap [] 0 0 (MQ below (fun _ st o t => ∃ r : Int32, o = .returned (rv_i r) ∧ post r ∧ t.heap = st.heap) args s 0 0 (fun _ => False)) (F0 m pc ls [.int r]) :=
  W.zret hx hb hr hn (fun t ht _ => ⟨r, rfl, hq, ht⟩) (fun _ h => by cases h) hdg
theorem ps_lret {r : Int64} {post : Int64 → Prop} (hx : p.tables.exec = Jvm.exec) (hb : c.code = cc) (hr : meth.sig.returnType = some .long) (hlocks : meth.locks = false) (hdg : decode cc pc = .ok (.lreturn, 1)) (hq : post r) : W p l e R s m args below meth c s.heap [] 0 0 (MQ below (fun _ st o t => ∃ r : Int64, o = .returned (rv_l r) ∧ post r ∧ t.heap = st.heap) args s 0 0 (fun _ => False)) (F0 m pc ls [.long r]) :=
  W.lret hx hb hr (fun t ht _ => ⟨r, rfl, hq, ht⟩) (fun _ h => by cases h) hdg
theorem mm_iret {S : Type} {mw : S → va_W} {post : Int32 → S → Prop} {r : Int32} {u1 : S} (hx : p.tables.exec = Jvm.exec) (hb : c.code = cc) (hr : meth.sig.returnType = some .int) (hlocks : meth.locks = false) (hP : va_P D cl (mw u1) H) (hK : va_K D cl tys s) (hD : va_D A (mw u1)) (hS : va_S A s.heap H locs) (hdg : decode cc pc = .ok (.ireturn, 1)) (hq : post r u1) :
    W p l e R s m args below meth c H locs 0 0 (MQ below (mm_Q rv_i D cl tys post mw A) args s 0 0 A) (F0 m pc ls [.int r]) :=
  W.iret hx hb hr (fun t ht hW => ⟨⟨r, u1, rfl, hq, by rw [ht]; exact hP, va_K.moved hW.alike hK, hD.weaken (fun _ _ _ _ => trivial)⟩, hS.F ht⟩) hS.2.2 hdg
theorem mm_zret {S : Type} {mw : S → va_W} {post : Int32 → S → Prop} {r : Int32} {u1 : S} (hx : p.tables.exec = Jvm.exec) (hb : c.code = cc) (hr : meth.sig.returnType = some .boolean) (hlocks : meth.locks = false) (hP : va_P D cl (mw u1) H) (hK : va_K D cl tys s) (hD : va_D A (mw u1)) (hS : va_S A s.heap H locs) (hdg : decode cc pc = .ok (.ireturn, 1)) (hn : narrow .boolean (.int r) = .int r) (hq : post r u1) :
    W p l e R s m args below meth c H locs 0 0 (MQ below (mm_Q rv_i D cl tys post mw A) args s 0 0 A) (F0 m pc ls [.int r]) :=
  W.zret hx hb hr hn (fun t ht hW => ⟨⟨r, u1, rfl, hq, by rw [ht]; exact hP, va_K.moved hW.alike hK, hD.weaken (fun _ _ _ _ => trivial)⟩, hS.F ht⟩) hS.2.2 hdg
theorem mm_lret {S : Type} {mw : S → va_W} {post : Int64 → S → Prop} {r : Int64} {u1 : S} (hx : p.tables.exec = Jvm.exec) (hb : c.code = cc) (hr : meth.sig.returnType = some .long) (hlocks : meth.locks = false) (hP : va_P D cl (mw u1) H) (hK : va_K D cl tys s) (hD : va_D A (mw u1)) (hS : va_S A s.heap H locs) (hdg : decode cc pc = .ok (.lreturn, 1)) (hq : post r u1) :
    W p l e R s m args below meth c H locs 0 0 (MQ below (mm_Q rv_l D cl tys post mw A) args s 0 0 A) (F0 m pc ls [.long r]) :=
  W.lret hx hb hr (fun t ht hW => ⟨⟨r, u1, rfl, hq, by rw [ht]; exact hP, va_K.moved hW.alike hK, hD.weaken (fun _ _ _ _ => trivial)⟩, hS.F ht⟩) hS.2.2 hdg
theorem mm_vret {S : Type} {mw : S → va_W} {post : Unit → S → Prop} {u1 : S} (hx : p.tables.exec = Jvm.exec) (hb : c.code = cc) (hr : meth.sig.returnType = none) (hlocks : meth.locks = false) (hP : va_P D cl (mw u1) H) (hK : va_K D cl tys s) (hD : va_D A (mw u1)) (hS : va_S A s.heap H locs) (hdg : decode cc pc = .ok (.return_, 1)) (hq : post () u1) :
    W p l e R s m args below meth c H locs 0 0 (MQ below (mm_Q rv_v D cl tys post mw A) args s 0 0 A) (F0 m pc ls []) :=
  W.vret hx hb hr (fun t ht hW => ⟨⟨(), u1, rfl, hq, by rw [ht]; exact hP, va_K.moved hW.alike hK, hD.weaken (fun _ _ _ _ => trivial)⟩, hS.F ht⟩) hS.2.2 hdg
end MR
-- ===== the object and its row =====
section WS
abbrev wS : Type := (Nat → Int64) × Int32 × Int32 × Int32 × Int32
abbrev wW (h a : Nat) (cA : ClassId) (u : wS) : va_W := [(h, .inr (0, [.ref a, .int u.2.1, .int u.2.2.1, .int u.2.2.2.1, .int u.2.2.2.2])), (a, .inl (cA, 4096, .inr (.inl u.1)))]
abbrev wA (h a : Nat) : Nat → Prop := fun q => q = h ∨ q = a
def wI (u : wS) : Prop := vp_in u.2.1 4096 ∧ vp_in u.2.2.1 4096
theorem wA_in (h a : Nat) (cA : ClassId) (u : wS) : ∀ (k : Nat) (q : Nat × va_E), (wW h a cA u)[k]? = some q → wA h a q.1 := by
  intro k q hk
  match k, hk with
  | 0, hk => cases hk; exact Or.inl rfl
  | 1, hk => cases hk; exact Or.inr rfl
theorem wA_at (h a : Nat) (cA : ClassId) (u : wS) : ∀ q, wA h a q → ∃ e', (q, e') ∈ wW h a cA u := by
  intro q hq
  rcases hq with rfl | rfl
  · exact ⟨_, List.mem_cons_self⟩
  · exact ⟨_, List.mem_cons_of_mem _ List.mem_cons_self⟩
abbrev rS : Type := (Nat → Int64) × Int32 × Int32 × Int32 × Int32 × Int64
abbrev rW (h a : Nat) (cA : ClassId) (u : rS) : va_W := [(h, .inr (1, [.int u.2.1, .ref a, .int u.2.2.1, .int u.2.2.2.1, .int u.2.2.2.2.1, .long u.2.2.2.2.2])), (a, .inl (cA, 4096, .inr (.inl u.1)))]
def rI (u : rS) : Prop := vp_in u.2.2.1 4096
theorem rA_in (h a : Nat) (cA : ClassId) (u : rS) : ∀ (k : Nat) (q : Nat × va_E), (rW h a cA u)[k]? = some q → wA h a q.1 := by
  intro k q hk
  match k, hk with
  | 0, hk => cases hk; exact Or.inl rfl
  | 1, hk => cases hk; exact Or.inr rfl
theorem rA_at (h a : Nat) (cA : ClassId) (u : rS) : ∀ q, wA h a q → ∃ e', (q, e') ∈ rW h a cA u := by
  intro q hq
  rcases hq with rfl | rfl
  · exact ⟨_, List.mem_cons_self⟩
  · exact ⟨_, List.mem_cons_of_mem _ List.mem_cons_self⟩
variable {p : Program} {l : Launch} {e : Env} {R : Room} {s : State} {m : MethodId} {args : Array Value} {below : List Frame} {meth : Method} {c : Code} {H : Heap} {locs : List Loc} {cells slots : Nat} {Q : State → Prop}
variable {y : MethodName} {bytes cc : ByteArray} {maxL nL n index pc : Nat} {ret : Option FieldType} {ws : List Cond} {rm : Room} {Ts : List Cond} {own : String} {As rest st0 : List Value} {ls : Array Slot} {D : va_G} {tys : List (ClassId × FieldType)} {h a : Nat} {cA : ClassId}
/-- calls of the object's own methods -/
theorem w_go {ρ : Type} {rv : ρ → Option Value} {post : ρ → wS → Prop} {u : wS} (S0 : CallFix p m c cc nL s args Ts own) (hM : MM l y ws rm D vwCl tys (wW h a cA) (wA h a) u (.ref h :: As) rv post) (cw : CallW R s args own RX0 index y bytes maxL ret ws rm 0 0 n) (hK : va_K D vwCl tys s) (hP : va_P D vwCl (wW h a cA u) H) (hD : va_D (wA h a) (wW h a cA u)) (hS : va_S (wA h a) s.heap H locs)
    (hn : As.length = n) (hsize : ls.size = nL) (hstack : st0 = As.reverse ++ .ref h :: rest) (hW : (rest.map fun v => v.category).sum ≤ 8) (hdg : decode cc pc = .ok (.invokevirtual index, 3)) (hf : cells ≤ R.cells ∧ slots ≤ R.slots)
    (kk : ∀ (r : ρ) (u' : wS) (H1 : Heap) (locs1 : List Loc), post r u' → va_P D vwCl (wW h a cA u') H1 → va_D (wA h a) (wW h a cA u') → va_S (wA h a) s.heap H1 locs1 → W p l e R s m args below meth c H1 locs1 cells slots Q (F0 m (pc + 3) ls ((rv r).toList ++ rest))) : W p l e R s m args below meth c H locs cells slots Q (F0 m pc ls st0) :=
  mm_go (ci := 0) (q0 := 0) (q := (RX0, TX0, 5)) S0 hM cw hK hP hD hS rfl rfl [0, 1] rfl rfl (wA_at h a cA u) (fun _ => rfl) hn hsize hstack hW hdg hf kk
theorem r_go {ρ : Type} {rv : ρ → Option Value} {post : ρ → rS → Prop} {u : rS} (S0 : CallFix p m c cc nL s args Ts own) (hM : MM l y ws rm D vwCl tys (rW h a cA) (wA h a) u (.ref h :: As) rv post) (cw : CallW R s args own RX1 index y bytes maxL ret ws rm 0 0 n) (hK : va_K D vwCl tys s) (hP : va_P D vwCl (rW h a cA u) H) (hD : va_D (wA h a) (rW h a cA u)) (hS : va_S (wA h a) s.heap H locs)
    (hn : As.length = n) (hsize : ls.size = nL) (hstack : st0 = As.reverse ++ .ref h :: rest) (hW : (rest.map fun v => v.category).sum ≤ 8) (hdg : decode cc pc = .ok (.invokevirtual index, 3)) (hf : cells ≤ R.cells ∧ slots ≤ R.slots)
    (kk : ∀ (r : ρ) (u' : rS) (H1 : Heap) (locs1 : List Loc), post r u' → va_P D vwCl (rW h a cA u') H1 → va_D (wA h a) (rW h a cA u') → va_S (wA h a) s.heap H1 locs1 → W p l e R s m args below meth c H1 locs1 cells slots Q (F0 m (pc + 3) ls ((rv r).toList ++ rest))) : W p l e R s m args below meth c H locs cells slots Q (F0 m pc ls st0) :=
  mm_go (ci := 1) (q0 := 0) (q := (RX1, TX1, 6)) S0 hM cw hK hP hD hS rfl rfl [0, 1] rfl rfl (rA_at h a cA u) (fun _ => rfl) hn hsize hstack hW hdg hf kk
end WS
