theorem tst_all : ∀ k : Nat, k < 64 → ((nI (192 + k) &&& 8 = 0) ∧ (nI (192 + k) &&& 504 = 192 ∨ nI (192 + k) &&& 504 = 208 ∨ nI (192 + k) &&& 504 = 224 ∨ nI (192 + k) &&& 504 = 240)) ∨ ((¬ nI (192 + k) &&& 8 = 0) ∧ (nI (192 + k) &&& 504 = 200 ∨ nI (192 + k) &&& 504 = 216 ∨ nI (192 + k) &&& 504 = 232 ∨ nI (192 + k) &&& 504 = 248)) := by decide
theorem tst_k {op : Int32} (h1 : ¬ op < 192) (h2 : ¬ 255 < op) : ∃ k : Nat, k < 64 ∧ op = nI (192 + k) := by
  rw [Int32.lt_iff_toInt_lt] at h1 h2
  have e1 : (192 : Int32).toInt = 192 := by decide
  have e2 : (255 : Int32).toInt = 255 := by decide
  rw [e1] at h1
  rw [e2] at h2
  refine ⟨(op.toInt - 192).toNat, by omega, ?_⟩
  apply Int32.toInt_inj.mp
  rw [nI_toInt (by omega)]
  omega
theorem tst_0 {op : Int32} (h1 : ¬ op < 192) (h2 : ¬ 255 < op) (h : op &&& 8 = 0) : op &&& 504 = 192 ∨ op &&& 504 = 208 ∨ op &&& 504 = 224 ∨ op &&& 504 = 240 := by
  obtain ⟨k, hk, rfl⟩ := tst_k h1 h2
  rcases tst_all k hk with q | q
  · exact q.2
  · exact absurd h q.1
theorem tst_1 {op : Int32} (h1 : ¬ op < 192) (h2 : ¬ 255 < op) (h : ¬ op &&& 8 = 0) : op &&& 504 = 200 ∨ op &&& 504 = 216 ∨ op &&& 504 = 232 ∨ op &&& 504 = 248 := by
  obtain ⟨k, hk, rfl⟩ := tst_k h1 h2
  rcases tst_all k hk with q | q
  · exact absurd q.1 h
  · exact q.2
