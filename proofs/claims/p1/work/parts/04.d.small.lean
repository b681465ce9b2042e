theorem la15 (x : Int64) : vp_in ((x &&& 15) : Int64).toInt32 4096 := by
  have h : (x &&& 15).toInt32 = x.toInt32 &&& 15 := by simp
  rw [h]
  exact vp_and15 _
theorem la4095 (x : Int64) : vp_in ((x &&& 4095) : Int64).toInt32 4096 := by
  have h : (x &&& 4095).toInt32 = x.toInt32 &&& 4095 := by simp
  rw [h]
  exact vp_and4095 _
/-- a place -/
def pl (p : Int64) : Prop := 0 ≤ p.toInt ∧ p.toInt < 4096
theorem pl_in {p : Int64} (h : pl p) : vp_in p.toInt32 4096 := by
  obtain ⟨h1, h2⟩ := h
  obtain ⟨k, hk, rfl⟩ := pk_lOf (x := p) (fun q => by rw [Int64.lt_iff_toInt_lt] at q; have h0 : (0 : Int64).toInt = 0 := by decide
                                                      rw [h0] at q; omega)
  rw [pk_lT hk] at h2
  rw [lN_i]
  exact vp_in_nI (by omega) (by decide)
theorem pl_yes {p : Int64} (h1 : ¬ lg_cmp p 0 < 0) (h2 : ¬ 0 ≤ lg_cmp p 4096) : pl p := by
  rw [lg_cmp_lt, Int64.lt_iff_toInt_lt] at h1
  rw [lg_cmp_ge, Int64.le_iff_toInt_le] at h2
  have e0 : (0 : Int64).toInt = 0 := by decide
  have e1 : (4096 : Int64).toInt = 4096 := by decide
  rw [e0] at h1
  rw [e1] at h2
  exact ⟨by omega, by omega⟩
theorem pl_no0 {p : Int64} (h1 : lg_cmp p 0 < 0) : ¬ pl p := fun q => by
  rw [lg_cmp_lt, Int64.lt_iff_toInt_lt] at h1
  have e0 : (0 : Int64).toInt = 0 := by decide
  rw [e0] at h1
  have := q.1
  omega
theorem pl_no1 {p : Int64} (h2 : 0 ≤ lg_cmp p 4096) : ¬ pl p := fun q => by
  rw [lg_cmp_ge, Int64.le_iff_toInt_le] at h2
  have e1 : (4096 : Int64).toInt = 4096 := by decide
  rw [e1] at h2
  have := q.2
  omega
theorem pl_of (x : Int32) : pl x.toInt64 ↔ vp_in x 4096 := by
  rw [vp_in_iff, pl, Int32.toInt_toInt64]
  omega
/-- thrown and latest stay -/
def rK (u u' : rS) : Prop := rI u' ∧ u'.2.1 = u.2.1 ∧ u'.2.2.2.1 = u.2.2.2.1
/-- an op that does not look at the word at e -/
def fr (op : Int32) : Prop := (¬ op < 192 ∧ ¬ 255 < op ∧ ¬ op &&& 56 = 8 ∧ ¬ op &&& 56 = 24 ∧ ¬ op &&& 56 = 40 ∧ ¬ op &&& 56 = 56) ∨ (op = 129 ∨ op = 145 ∨ op = 153 ∨ op = 162 ∨ op = 172 ∨ op = 176 ∨ op = 179 ∨ op = 185 ∨ op = 189 ∨ op = 256 ∨ op = 261 ∨ op = 281 ∨ op = 285 ∨ op = 296)
theorem bad_0 {z : Int32} (_ : z = 0 ∨ z = 1) (c : z = 0) : z = 0 := c
theorem bad_1 {z : Int32} (h : z = 0 ∨ z = 1) (c : ¬ z = 0) : z = 1 := h.resolve_left c
theorem bad_n {z : Int32} (h : z = 0 ∨ z = 1) : narrow .boolean (.int z) = .int z := by
  rcases h with rfl | rfl
  · rfl
  · rfl
theorem nfr130 : ¬ fr 130 := by unfold fr; decide
theorem nfr168 : ¬ fr 168 := by unfold fr; decide
theorem nfr258 : ¬ fr 258 := by unfold fr; decide
theorem nfr173 : ¬ fr 173 := by unfold fr; decide
theorem nfr174 : ¬ fr 174 := by unfold fr; decide
theorem nfr175 : ¬ fr 175 := by unfold fr; decide
theorem nfr178 : ¬ fr 178 := by unfold fr; decide
theorem pil_d {op : Int32} (h1 : ¬ op < 172) (h2 : ¬ 180 < op) (k2 : ¬ op = 172) (k3 : ¬ op = 173) (k4 : ¬ op = 174) (k5 : ¬ op = 175) (k6 : ¬ op = 176) (k7 : ¬ op = 177) (k8 : ¬ op = 178) (k9 : ¬ op = 179) : ¬ fr op := by
  have e : op = 180 := by
    rw [Int32.lt_iff_toInt_lt] at h1 h2
    have e1 : (172 : Int32).toInt = 172 := by decide
    have e2 : (180 : Int32).toInt = 180 := by decide
    rw [e1] at h1
    rw [e2] at h2
    apply Int32.toInt_inj.mp
    rw [e2]
    have a2 := lv_neT k2 (show (172 : Int32).toInt = 172 by decide)
    have a3 := lv_neT k3 (show (173 : Int32).toInt = 173 by decide)
    have a4 := lv_neT k4 (show (174 : Int32).toInt = 174 by decide)
    have a5 := lv_neT k5 (show (175 : Int32).toInt = 175 by decide)
    have a6 := lv_neT k6 (show (176 : Int32).toInt = 176 by decide)
    have a7 := lv_neT k7 (show (177 : Int32).toInt = 177 by decide)
    have a8 := lv_neT k8 (show (178 : Int32).toInt = 178 by decide)
    have a9 := lv_neT k9 (show (179 : Int32).toInt = 179 by decide)
    omega
  subst e
  unfold fr
  decide
theorem tst_b : ∀ k : Nat, k < 64 → ((nI (192 + k) >>> ((3 : Int32) &&& 31)) &&& 7 = 3 ∨ (nI (192 + k) >>> ((3 : Int32) &&& 31)) &&& 7 = 5 ∨ (nI (192 + k) >>> ((3 : Int32) &&& 31)) &&& 7 = 7) → (nI (192 + k) &&& 56 = 24 ∨ nI (192 + k) &&& 56 = 40 ∨ nI (192 + k) &&& 56 = 56) := by decide +kernel
theorem tst_e {op : Int32} {e0 : Int64} (h1 : ¬ op < 192) (h2 : ¬ 255 < op) (hne : fr op ∨ pl e0) (hk : (op >>> ((3 : Int32) &&& 31)) &&& 7 = 3 ∨ (op >>> ((3 : Int32) &&& 31)) &&& 7 = 5 ∨ (op >>> ((3 : Int32) &&& 31)) &&& 7 = 7) : pl e0 := by
  refine hne.resolve_left (fun q => ?_)
  rcases q with q | q
  · obtain ⟨k, hk64, rfl⟩ := tst_k h1 h2
    obtain ⟨-, -, -, q1, q2, q3⟩ := q
    rcases tst_b k hk64 hk with a | a | a
    · exact q1 a
    · exact q2 a
    · exact q3 a
  · rcases q with rfl | rfl | rfl | rfl | rfl | rfl | rfl | rfl | rfl | rfl | rfl | rfl | rfl | rfl
    all_goals first | exact h1 (by decide) | exact h2 (by decide)
theorem tb_out_0_3 {x : Int32} (h0 : ¬ x = 0) (h1 : ¬ x = 1) (h2 : ¬ x = 2) : x.toInt < 0 ∨ 2 < x.toInt := by
  have a0 := lv_neT h0 (show (0 : Int32).toInt = 0 by decide)
  have a1 := lv_neT h1 (show (1 : Int32).toInt = 1 by decide)
  have a2 := lv_neT h2 (show (2 : Int32).toInt = 2 by decide)
  omega
theorem tb_out_0_6 {x : Int32} (h0 : ¬ x = 0) (h1 : ¬ x = 1) (h2 : ¬ x = 2) (h3 : ¬ x = 3) (h4 : ¬ x = 4) (h5 : ¬ x = 5) : x.toInt < 0 ∨ 5 < x.toInt := by
  have a0 := lv_neT h0 (show (0 : Int32).toInt = 0 by decide)
  have a1 := lv_neT h1 (show (1 : Int32).toInt = 1 by decide)
  have a2 := lv_neT h2 (show (2 : Int32).toInt = 2 by decide)
  have a3 := lv_neT h3 (show (3 : Int32).toInt = 3 by decide)
  have a4 := lv_neT h4 (show (4 : Int32).toInt = 4 by decide)
  have a5 := lv_neT h5 (show (5 : Int32).toInt = 5 by decide)
  omega
theorem tb_out_0_7 {x : Int32} (h0 : ¬ x = 0) (h1 : ¬ x = 1) (h2 : ¬ x = 2) (h3 : ¬ x = 3) (h4 : ¬ x = 4) (h5 : ¬ x = 5) (h6 : ¬ x = 6) : x.toInt < 0 ∨ 6 < x.toInt := by
  have a0 := lv_neT h0 (show (0 : Int32).toInt = 0 by decide)
  have a1 := lv_neT h1 (show (1 : Int32).toInt = 1 by decide)
  have a2 := lv_neT h2 (show (2 : Int32).toInt = 2 by decide)
  have a3 := lv_neT h3 (show (3 : Int32).toInt = 3 by decide)
  have a4 := lv_neT h4 (show (4 : Int32).toInt = 4 by decide)
  have a5 := lv_neT h5 (show (5 : Int32).toInt = 5 by decide)
  have a6 := lv_neT h6 (show (6 : Int32).toInt = 6 by decide)
  omega
theorem tb_out_0_8 {x : Int32} (h0 : ¬ x = 0) (h1 : ¬ x = 1) (h2 : ¬ x = 2) (h3 : ¬ x = 3) (h4 : ¬ x = 4) (h5 : ¬ x = 5) (h6 : ¬ x = 6) (h7 : ¬ x = 7) : x.toInt < 0 ∨ 7 < x.toInt := by
  have a0 := lv_neT h0 (show (0 : Int32).toInt = 0 by decide)
  have a1 := lv_neT h1 (show (1 : Int32).toInt = 1 by decide)
  have a2 := lv_neT h2 (show (2 : Int32).toInt = 2 by decide)
  have a3 := lv_neT h3 (show (3 : Int32).toInt = 3 by decide)
  have a4 := lv_neT h4 (show (4 : Int32).toInt = 4 by decide)
  have a5 := lv_neT h5 (show (5 : Int32).toInt = 5 by decide)
  have a6 := lv_neT h6 (show (6 : Int32).toInt = 6 by decide)
  have a7 := lv_neT h7 (show (7 : Int32).toInt = 7 by decide)
  omega
theorem tb_out_172_8 {x : Int32} (h0 : ¬ x = 172) (h1 : ¬ x = 173) (h2 : ¬ x = 174) (h3 : ¬ x = 175) (h4 : ¬ x = 176) (h5 : ¬ x = 177) (h6 : ¬ x = 178) (h7 : ¬ x = 179) : x.toInt < 172 ∨ 179 < x.toInt := by
  have a0 := lv_neT h0 (show (172 : Int32).toInt = 172 by decide)
  have a1 := lv_neT h1 (show (173 : Int32).toInt = 173 by decide)
  have a2 := lv_neT h2 (show (174 : Int32).toInt = 174 by decide)
  have a3 := lv_neT h3 (show (175 : Int32).toInt = 175 by decide)
  have a4 := lv_neT h4 (show (176 : Int32).toInt = 176 by decide)
  have a5 := lv_neT h5 (show (177 : Int32).toInt = 177 by decide)
  have a6 := lv_neT h6 (show (178 : Int32).toInt = 178 by decide)
  have a7 := lv_neT h7 (show (179 : Int32).toInt = 179 by decide)
  omega
