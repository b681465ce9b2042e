section MV
variable {p : Program} {l : Launch} {e : Env} {R : Room} {s : State} {m : MethodId} {args : Array Value} {below : List Frame} {meth : Method} {c : Code} {H : Heap} {locs : List Loc} {cells slots : Nat} {Q : State → Prop}
variable {y : MethodName} {bytes cc : ByteArray} {maxL nL n index pc : Nat} {ret : Option FieldType} {ws : List Cond} {rm : Room} {Ts : List Cond} {own : String} {As rest st0 : List Value} {ls : Array Slot}
theorem ps_gov {post : Unit → Prop} (S : CallFix p m c cc nL s args Ts own) (hM : PS l y ws rm As rv_v post) (cw : CallB R s args own index y bytes maxL ret ws rm 0 0 n ∧ (Cond.static y).before args s = true)
    (hn : As.length = n) (hsize : ls.size = nL) (hstack : st0 = As.reverse ++ rest) (hW : (rest.map fun v => v.category).sum ≤ 8) (hdg : decode cc pc = .ok (.invokestatic index, 3)) (hf : cells ≤ R.cells ∧ slots ≤ R.slots)
    (kk : ∀ r : Unit, post r → W p l e R s m args below meth c H locs cells slots Q (F0 m (pc + 3) ls rest)) : W p l e R s m args below meth c H locs cells slots Q (F0 m pc ls st0) := ps_go S hM cw hn hsize hstack hW hdg hf kk
theorem ps_vret {post : Unit → Prop} (hx : p.tables.exec = Jvm.exec) (hb : c.code = cc) (hr : meth.sig.returnType = none) (hlocks : meth.locks = false) (hdg : decode cc pc = .ok (.return_, 1)) (hq : post ()) : W p l e R s m args below meth c s.heap [] 0 0 (MQ below (fun _ st o t => ∃ r : Unit, o = .returned (rv_v r) ∧ post r ∧ t.heap = st.heap) args s 0 0 (fun _ => False)) (F0 m pc ls []) :=
  W.vret hx hb hr (fun t ht _ => ⟨(), rfl, hq, ht⟩) (fun _ h => by cases h) hdg
end MV
theorem ni_lt {i n : Nat} {t k : Int32} (ht : t = nI i) (hk : k = nI n) (hi : i < 2 ^ 31) (h : ¬ k ≤ t) : i < n := by
  rcases Nat.lt_or_ge i n with q | q
  · exact q
  · exact absurd (by rw [ht, hk]; exact nI_le q hi) h
theorem in_le {x k : Int32} {n : Nat} (h : vp_in x n) (hk : k.toInt + 1 = n) : ¬ x < 0 ∧ x ≤ k := by
  refine ⟨vp_nonneg h, ?_⟩
  rw [vp_in_iff] at h
  rw [Int32.le_iff_toInt_le]
  omega
/-- the word that code makes -/
def wc_code (op ac z x y : Int32) : Int64 := (((op.toInt64 <<< ((27 : Int32).toInt64 &&& 63)) ||| (ac.toInt64 <<< ((23 : Int32).toInt64 &&& 63))) ||| ((if z = 0 then (0 : Int64) else 1) <<< ((22 : Int32).toInt64 &&& 63)) ||| (x.toInt64 <<< ((18 : Int32).toInt64 &&& 63))) ||| (y &&& 262143).toInt64
theorem ni_ne {i n : Nat} {t k : Int32} (ht : t = nI i) (hk : k = nI n) (hi : i ≤ n) (h : ¬ t = k) : i < n := by
  rcases Nat.lt_or_ge i n with q | q
  · exact q
  · exact absurd (by rw [ht, hk, show i = n by omega]) h
def okc (i op ac x : Int32) : Prop := vp_in i 4096 ∧ (¬ op < 0 ∧ op ≤ 511) ∧ (¬ ac < 0 ∧ ac ≤ 15) ∧ (¬ x < 0 ∧ x ≤ 15)
def okn (n : Int32) : Prop := ¬ n < 0 ∧ n ≤ 20000
theorem okn_of {n : Int32} {N : Nat} (h : n = nI N) (hN : N ≤ 20000) : okn n := ⟨by rw [h]; exact nI_pos (by omega), by rw [h]; exact nI_le hN (by decide)⟩
def rc_code (op ac z x y : Int32) : Int64 := ((((op.toInt64 <<< ((27 : Int32).toInt64 &&& 63)) ||| (ac.toInt64 <<< ((23 : Int32).toInt64 &&& 63))) ||| (if z = 0 then (0 : Int64) else 4194304)) ||| (x.toInt64 <<< ((18 : Int32).toInt64 &&& 63))) ||| (y.toInt64 &&& 262143)
theorem code_same (op ac z x y : Int32) : wc_code op ac z x y = rc_code op ac z x y := by
  unfold wc_code rc_code
  have h1 : ((if z = 0 then (0 : Int64) else 1) <<< ((22 : Int32).toInt64 &&& 63)) = (if z = 0 then (0 : Int64) else 4194304) := by
    by_cases h : z = 0
    · rw [if_pos h, if_pos h]; decide
    · rw [if_neg h, if_neg h]; decide
  have h2 : (y &&& 262143).toInt64 = y.toInt64 &&& 262143 := by simp
  rw [h1, h2]
