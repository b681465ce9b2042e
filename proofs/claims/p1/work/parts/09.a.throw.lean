section TH
abbrev xI : String := "java/lang/IllegalArgumentException"
abbrev xUp : List String := ["java/lang/RuntimeException", "java/lang/Exception"]
/-- words of the throw that no list of a method carries -/
def xw : List Cond := [.declares (Bundle.init0 "java/lang/RuntimeException"), .declares (Bundle.init0 "java/lang/Exception"), .declares (Bundle.init0 Bundle.tN), .castable xI xI]
theorem xw_in : ∀ w ∈ (vx_at0 RX0 42 xI xUp).filter (fun w => !goodWord w), w ∈ xw := by decide +kernel
theorem x_good : ∀ w ∈ Cond.classLink RX0 40 xI :: Cond.initialized xI :: vx_at0 RX0 42 xI xUp, vx_ot w = true := by decide +kernel
/-- what a throw asks of the state -/
def xz (U : State) : Prop := vx_Zq Bundle.tN "UNASSIGNED_STACK" Bundle.steD (fun _ => False) U U.heap ∧ vx_Zq Bundle.tN "SUPPRESSED_SENTINEL" Bundle.listD (fun _ => False) U U.heap ∧ ∀ w ∈ xw, w.before #[] U = true
theorem xz_word {c : Cond} (hc : c.onTables = true) {u U : State} (h : c.before #[] (u.setVm U.vm) = true) : c.before #[] U = true := by
  have e := Cond.onTables_vm (A := #[]) (A' := #[]) (U := u) (U' := U) U.vm c hc
  have hU : U.setVm U.vm = U := rfl
  rw [hU] at e
  rw [← e]
  exact h
theorem xw_all {P : Cond → Prop} (h1 : P (.declares (Bundle.init0 "java/lang/RuntimeException"))) (h2 : P (.declares (Bundle.init0 "java/lang/Exception"))) (h3 : P (.declares (Bundle.init0 Bundle.tN))) (h4 : P (.castable xI xI)) : ∀ w ∈ xw, P w := by
  intro w hw
  rcases List.mem_cons.mp hw with rfl | hw
  · exact h1
  rcases List.mem_cons.mp hw with rfl | hw
  · exact h2
  rcases List.mem_cons.mp hw with rfl | hw
  · exact h3
  rcases List.mem_cons.mp hw with rfl | hw
  · exact h4
  · cases hw
theorem xz_moved {u U : State} (h : xz u) (hvm : u.vm.Alike U.vm) (hq : ∀ a : Nat, a < u.heap.size → U.heap[a]? = u.heap[a]?) : xz U := by
  obtain ⟨h1, h2, h3⟩ := h
  refine ⟨vx_Zq.moved hvm (vx_Zq.kept h1 (fun a ha _ => hq a ha)), vx_Zq.moved hvm (vx_Zq.kept h2 (fun a ha _ => hq a ha)), ?_⟩
  exact xw_all (xz_word rfl (by rw [Cond.declares_setVm hvm]; exact h3 _ (List.mem_of_getElem? (i := 0) rfl))) (xz_word rfl (by rw [Cond.declares_setVm hvm]; exact h3 _ (List.mem_of_getElem? (i := 1) rfl))) (xz_word rfl (by rw [Cond.declares_setVm hvm]; exact h3 _ (List.mem_of_getElem? (i := 2) rfl))) (xz_word rfl (by rw [Cond.castable_setVm hvm]; exact h3 _ (List.mem_of_getElem? (i := 3) rfl)))
def ttX : String → State → State → Prop := fun E st t => E = xI ∧ va_F (fun _ => False) st t
/-- a road that throws -/
def TT (l : Launch) (y : MethodName) (ws : List Cond) (rm : Room) (As : List Value) : Prop := vx_Met l y ws rm (va_Pc As xz) (fun _ _ _ _ => False) ttX 1 6 (fun _ => False)
theorem tt_blind {As : List Value} : FrameBlind (va_Pc As xz) := fun a U g mk q => ⟨q.1, xz_moved (U := U.calling g mk a) q.2 (Vm.Alike.refl U.vm) (fun _ _ => rfl)⟩
theorem tt_of {l : Launch} {y : MethodName} {ws ws' : List Cond} {cc : ByteArray} {maxL : Nat} {ret : Option FieldType} {rm : Room} {As : List Value} (hy : plainName y.cls = true) (hw : ws = Cond.code y cc maxL ret :: ws') (hn : (lg_sl As).length ≤ maxL)
    (body : ∀ (p : Program) (e : Env) (s : State) (m : MethodId) (below : List Frame) (meth : Method) (c : Code) (ls : Array Slot), cx p s m meth c cc ret maxL y.cls As.toArray ws → (∀ x ∈ c.exceptionTable.toList, False) → lv_has ls maxL (lv_args 0 As) → xz s →
      W p l e rm s m As.toArray below meth c s.heap [] 0 0 (vx_MQ below (fun _ _ _ _ => False) ttX As.toArray s 1 6 (fun _ => False)) (F0 m 0 ls [])) : TT l y ws rm As := by
  refine vx_ofW (cc := cc) (maxL := maxL) (ret := ret) hy hw ?_
  intro p e s m args below meth c s₁ B hml hnt hv
  obtain ⟨rfl, hz⟩ := hv
  have hl := lv_entry As (n := maxL) hn
  rw [lg_entry_eq]
  exact body p e s m below meth c _ (cx_of B hml) hnt hl hz
end TH
section TR
variable {p : Program} {l : Launch} {e : Env} {R : Room} {s : State} {m : MethodId} {args : Array Value} {below : List Frame} {meth : Method} {c : Code} {H : Heap} {locs : List Loc} {cells slots : Nat} {Q : State → Prop}
variable {y : MethodName} {bytes cc : ByteArray} {maxL nL n index pc : Nat} {ret : Option FieldType} {ws : List Cond} {rm : Room} {Ts : List Cond} {own C : String} {b : Addr} {As rest st0 : List Value} {ls : Array Slot}
theorem tt_run {g : JFrame} {a : Array Value} (hr : vx_Run p l e R s m args below meth c H locs cells slots 1 6 (F0 m pc ls st0) rest (fun _ _ _ => False) ttX (fun _ => False))
    (kk : ∀ (q : Addr) (ce : Cell) (H1 : Heap), H.size ≤ H1.size → (∀ z : Nat, z < H.size → H1[z]? = H[z]?) → H1[q]? = some ce → ce.vm = .none → s.vm.findClass xI = some ce.cls → vx_W p l e R s m args below meth c H1 locs (cells + 1) (slots + 6) Q (F0 m pc ls rest) q) : W p l e R s m args below meth c H locs cells slots Q (F0 m pc ls st0) := by
  intro T hT X
  rcases hr T hT X with ⟨v, st₀, t, T', L, h0, X', hL, e1, e2, hq, st⟩ | ⟨q, st₀, t, T', L, E, ce, h0, X', hL, e1, e2, ⟨hE, hF⟩, hce, hcv, hcl, st⟩
  · exact hq.elim
  · have hL0 : L = [] := List.eq_nil_iff_forall_not_mem.mpr (fun z hz => hL z hz)
    subst hL0
    subst hE
    rw [List.append_nil] at X'
    obtain ⟨hz, hk⟩ := hF
    rw [h0] at hz hk
    obtain ⟨t2, a1, b1⟩ := kk q ce T'.heap (by rw [e1]; exact hz) (fun z h => by rw [e1]; exact hk z h (fun f => f)) (by rw [e1]; exact hce) hcv hcl T' rfl X'
    exact ⟨t2, st.trans a1, b1⟩
/-- a static call that throws, out of a method without handlers in which nothing has happened yet -/
theorem tt_out (S : CallFix p m c cc nL s args Ts own) (hM : TT l y ws rm As) (cw : CallB R s args own index y bytes maxL ret ws rm 1 6 n ∧ (Cond.static y).before args s = true) (hz : xz s) (hnt : ∀ x ∈ c.exceptionTable.toList, False) (hlocks : meth.locks = false)
    (hn : As.length = n) (hsize : ls.size = nL) (hstack : st0 = As.reverse ++ rest) (hW : (rest.map fun v => v.category).sum ≤ 8) (hdg : decode cc pc = .ok (.invokestatic index, 3)) (hf : 0 + 1 ≤ R.cells ∧ 0 + 6 ≤ R.slots) :
    W p l e R s m args below meth c s.heap [] 0 0 (vx_MQ below (fun _ _ _ _ => False) ttX args s 1 6 (fun _ => False)) (F0 m pc ls st0) := by
  refine tt_run (g := F0 m pc ls st0) (a := args) (vx_runS (g := F0 m pc ls st0) S hM cw ⟨tt_blind, fun U hU hW => ⟨rfl, xz_moved hz hW.alike (fun a _ => by rw [hU])⟩⟩ rfl hn hsize hstack (lv_room hW) hdg hf) (fun q ce H1 h1 h2 h3 h4 h5 => ?_)
  exact vx_out (E := xI) (fun x h => (hnt x h).elim) hlocks h3 h4 h5 (fun t ht _ => ⟨rfl, by rw [ht]; exact h1, fun z hz _ => by rw [ht]; exact h2 z hz⟩) (fun _ h => by cases h) (Nat.le_refl _) (Nat.le_refl _)
/-- a call of an object's method that throws -/
theorem tt_goV (S : CallFix p m c cc nL s args Ts own) (hM : TT l y ws rm (.ref b :: As)) (cw : CallW R s args own C index y bytes maxL ret ws rm 1 6 n) (hz : xz s) (hrecv : ∃ cellB : Cell, s.heap[b]? = some cellB ∧ cellB.vm.isStatics = false ∧ s.vm.findClass C = some cellB.cls)
    (hn : As.length = n) (hsize : ls.size = nL) (hstack : st0 = As.reverse ++ .ref b :: rest) (hW : (rest.map fun v => v.category).sum ≤ 8) (hdg : decode cc pc = .ok (.invokevirtual index, 3)) (hf : cells + 1 ≤ R.cells ∧ slots + 6 ≤ R.slots)
    (kk : ∀ (q : Addr) (ce : Cell) (H1 : Heap), s.heap.size ≤ H1.size → (∀ z : Nat, z < s.heap.size → H1[z]? = s.heap[z]?) → H1[q]? = some ce → ce.vm = .none → s.vm.findClass xI = some ce.cls → vx_W p l e R s m args below meth c H1 locs (cells + 1) (slots + 6) Q (F0 m pc ls rest) q) : W p l e R s m args below meth c s.heap locs cells slots Q (F0 m pc ls st0) :=
  tt_run (g := F0 m pc ls st0) (a := args) (vx_runV (g := F0 m pc ls st0) S hM cw ⟨tt_blind, hrecv, fun U hU hW => ⟨rfl, xz_moved hz hW.alike (fun a _ => by rw [hU])⟩⟩ rfl hn hsize hstack (lv_room hW) hdg hf) kk
/-- the one handler of the method takes it -/
theorem tt_caught {x : Addr} {ce : Cell} {sp ep hpc ct : Nat} (htab : c.exceptionTable.toList = [⟨sp, ep, hpc, ct⟩]) (hcov : (decide (sp ≤ pc) && decide (pc < ep)) = true) (h0 : ct ≠ 0) (hown : s.vm.findClass own = some m.cls)
    (hlink : (Cond.classLink own ct xI).before args s = true) (hce : H[x]? = some ce) (hcv : ce.vm = .none) (hfs : s.vm.findClass xI = some ce.cls) (kk : W p l e R s m args below meth c H locs cells slots Q (F0 m hpc ls [.ref x])) : vx_W p l e R s m args below meth c H locs cells slots Q (F0 m pc ls rest) x := by
  intro T hT X
  have hpl : e.platform.magicAccessors = ({} : Platform).magicAccessors := by rw [X.admits.platform]
  obtain ⟨c', hc', hcl⟩ := Cond.classLink_spec hown hlink e.platform hpl
  have hal := X.warmed.alike
  cases hfs.symm.trans hc'
  obtain ⟨dk, _, _, kt, hd, _, _, _, _, hkt, _, hopen⟩ := hcl.here
  have hcl₀ := X.warmed.classLinks hcl
  have hW' : s.WarmedH (T.vm.noted m.cls ct (.cls ce.cls)) := X.warmed.noted hd hopen (State.rightAt_cls hcl)
  obtain ⟨kt', hkt', -⟩ := hal.2.2 _ _ hkt
  have hself : ∀ vm : Vm, vm.assignable ce.cls ce.cls = true := fun vm => by
    show vm.assignableAux (255 + 1) ce.cls ce.cls = true
    rw [Vm.assignableAux]; simp
  obtain ⟨t, a1, b1⟩ := kk (T.setVm (T.vm.noted m.cls ct (.cls ce.cls))) hT (X.noted hW')
  refine ⟨t, ?_, b1⟩
  obtain ⟨hgo, hw⟩ := At.throwing (g := F0 m pc ls rest) X.here x
  refine Steps.head hgo hw ?_
  obtain ⟨ha, hte⟩ := (resolveClass_links e.toSetting hcl₀).op (op := VmOp.resolveClass m.cls ct) rfl
  have hal2 : T.vm.Alike (T.vm.noted m.cls ct (.cls ce.cls)) := (Vm.Alike.refl T.vm).noted _ _ _
  obtain ⟨k2, hk2, -⟩ := hal2.2.2 _ _ hkt'
  have hm' : ((T.setTop (F0 m pc ls rest)).pushFrame (.throwing x)).vm.method? (F0 m pc ls rest).method = some meth := X.method'
  have hob : ∀ k, ce.vm ≠ .statics k := fun k h => by rw [hcv] at h; cases h
  have hfind : ∀ (Q : Handler → Pre) (E : CtlPost) (d : Bool) (acts : List Action), wp (findHandler (F0 m pc ls rest) x) Q E e d acts ((T.setTop (F0 m pc ls rest)).pushFrame (.throwing x)) ↔ Q (.found hpc) d acts (((T.setTop (F0 m pc ls rest)).pushFrame (.throwing x)).setVm (T.vm.noted m.cls ct (.cls ce.cls))) := by
    intro Q E d acts
    rw [W.findHandler_eq hm' X.code, htab]
    have hce' : ((T.setTop (F0 m pc ls rest)).pushFrame (.throwing x)).heap[x]? = some ce := by
      show T.heap[x]? = some ce
      rw [hT]; exact hce
    have hvm' : ((T.setTop (F0 m pc ls rest)).pushFrame (.throwing x)).vm = T.vm := rfl
    simp [findHandler.go, hcov, h0, hvm', ha, hte, hce', hob, hk2, hself, VmOp.dirties, VmOp.acts]
  have hstep : (stepThrowing e ((T.setTop (F0 m pc ls rest)).pushFrame (.throwing x)) x (.java (F0 m pc ls rest) :: T.frames.tail)).Is ((((T.setTop (F0 m pc ls rest)).pushFrame (.throwing x)).setVm (T.vm.noted m.cls ct (.cls ce.cls))).setFrames (.java (F0 m hpc ls [.ref x]) :: T.frames.tail)) [] := by
    simp only [stepThrowing, searchFrame, vmDo]
    generalize hr : Sem.go _ e false [] _ = res
    obtain ⟨as, rfl, hq⟩ := Sem.eq_ok_of hr (a := Handler.found hpc) (s' := ((T.setTop (F0 m pc ls rest)).pushFrame (.throwing x)).setVm (T.vm.noted m.cls ct (.cls ce.cls))) (acts' := []) (by simp [hfind _ _ _ _])
    exact ⟨rfl, hq⟩
  rw [stepThread_throwing (frames_entered X.here.top _), hstep.1]
  obtain ⟨g₀, hg0⟩ := Option.isSome_iff_exists.mp X.here.top
  obtain ⟨r, hr⟩ := State.topJava?_eq_some.mp hg0
  have e1 : (((T.setTop (F0 m pc ls rest)).pushFrame (.throwing x)).setVm (T.vm.noted m.cls ct (.cls ce.cls))).setFrames (.java (F0 m hpc ls [.ref x]) :: T.frames.tail) = (T.setVm (T.vm.noted m.cls ct (.cls ce.cls))).setTop (F0 m hpc ls [.ref x]) := by
    have hr' : (T.setVm (T.vm.noted m.cls ct (.cls ce.cls))).frames = .java g₀ :: r := hr
    have h1 : ((T.setTop (F0 m pc ls rest)).pushFrame (.throwing x)).setVm (T.vm.noted m.cls ct (.cls ce.cls)) = ((T.setVm (T.vm.noted m.cls ct (.cls ce.cls))).setTop (F0 m pc ls rest)).pushFrame (.throwing x) := by
      rw [State.setTop_of_frames _ hr', State.setTop_of_frames _ hr]
      rfl
    rw [h1, State.pushFrame, State.setTop_of_frames _ hr', State.setTop_of_frames _ hr', State.setFrames_setFrames, State.setFrames_setFrames, hr]
    rfl
  rw [e1]
  exact a1
theorem mm_iretG {S : Type} {D : va_G} {cl : List vw_C} {tys : List (ClassId × FieldType)} {A : Nat → Prop} {mw : S → va_W} {post : Int32 → S → Prop} {r : Int32} {u1 : S} (hx : p.tables.exec = Jvm.exec) (hb : c.code = cc) (hr : meth.sig.returnType = some .int) (hlocks : meth.locks = false) (hP : va_P D cl (mw u1) H) (hK : va_K D cl tys s) (hD : va_D A (mw u1)) (hS : va_S A s.heap H locs) (hdg : decode cc pc = .ok (.ireturn, 1)) (hq : post r u1) :
    W p l e R s m args below meth c H locs cells slots (MQ below (mm_Q rv_i D cl tys post mw A) args s cells slots A) (F0 m pc ls [.int r]) :=
  W.iret hx hb hr (fun t ht hW => ⟨⟨r, u1, rfl, hq, by rw [ht]; exact hP, va_K.moved hW.alike hK, hD.weaken (fun _ _ _ _ => trivial)⟩, hS.F ht⟩) hS.2.2 hdg
end TR
theorem out_of {x k : Int32} {n : Nat} (h : ¬ vp_in x n) (hk : k.toInt + 1 = n) : x < 0 ∨ ¬ x ≤ k := by
  by_cases h0 : x < 0
  · exact Or.inl h0
  · exact Or.inr (fun q => h (vp_le h0 q hk))
set_option maxHeartbeats 4000000 in
set_option maxRecDepth 100000 in
theorem tX0_refuseOutside (l : Launch) (hst : l.stackTraces = false) (i hi : Int32) (h0 : i < 0 ∨ ¬ i ≤ hi) : TT l yX0_refuseOutside wsX0_refuseOutside ({ frames := 6, cells := 1, slots := 6, locals := 100 }) [.int i, .int hi] := by
  refine tt_of (cc := cX0_refuseOutside) (maxL := 2) (ret := none) (by decide) rfl (Nat.le_of_ble_eq_true rfl) ?_
  intro p e s m below meth c ls C hnt hl hz
  obtain ⟨hx, hb, hr, hml, hown, hts, hlocks⟩ := C
  have hl : lv_has ls 2 [(0, .int i), (1, .int hi)] := hl
  have hat : ∀ w ∈ vx_at0 RX0 42 xI xUp, w.before ([Value.int i, Value.int hi] : List Value).toArray s = true := vx_hat (fun w h => hts w (List.mem_cons_of_mem _ (List.mem_append_right _ h))) xw_in (xw_all (va_any rfl (hz.2.2 _ (List.mem_of_getElem? (i := 0) rfl))) (va_any rfl (hz.2.2 _ (List.mem_of_getElem? (i := 1) rfl))) (va_any rfl (hz.2.2 _ (List.mem_of_getElem? (i := 2) rfl))) (va_any rfl (hz.2.2 _ (List.mem_of_getElem? (i := 3) rfl))))
  have hth : W p l e ({ frames := 6, cells := 1, slots := 6, locals := 100 }) s m ([Value.int i, Value.int hi] : List Value).toArray below meth c s.heap [] 0 0 (vx_MQ below (fun _ _ _ _ => False) ttX ([Value.int i, Value.int hi] : List Value).toArray s 1 6 (fun _ => False)) (F0 m 9 ls []) :=
    vx_throw0 (A := fun _ => False) (own := RX0) (cls := xI) (names := xUp) (ik := 40) (ic := 42) (rest := []) hx hb hst hown (by decide) (by decide) (hts _ (List.mem_of_getElem? (i := 1) rfl)) (hts _ (List.mem_of_getElem? (i := 2) rfl)) hat x_good hz.1 hz.2.1 va_S.rf (hl.1.trans hml.symm) dX0_refuseOutside_9 dX0_refuseOutside_12 dX0_refuseOutside_13 dX0_refuseOutside_16 (fun x h => (hnt x h).elim) (by decide) (Nat.le_of_ble_eq_true rfl) (by decide) (by decide) hlocks (fun t _ h1 h2 => ⟨rfl, h1, fun q hq _ => h2 q hq⟩) (fun _ h => by cases h) (by decide) (by decide)
  refine lv_iload_n hx hb dX0_refuseOutside_0 rfl (lv_at hl 0 rfl) ?_
  refine lv_if_lt (tgt := 9) hx hb dX0_refuseOutside_1 (by decide) (fun c_1 => hth) (fun c_1 => ?_)
  refine lv_iload_n hx hb dX0_refuseOutside_4 rfl (lv_at hl 0 rfl) ?_
  refine lv_iload_n hx hb dX0_refuseOutside_5 rfl (lv_at hl 1 rfl) ?_
  refine lv_icmp_le (tgt := 17) hx hb dX0_refuseOutside_6 (by decide) (fun c_6 => ?_) (fun c_6 => hth)
  rcases h0 with q | q
  · exact absurd q c_1
  · exact absurd c_6 q
