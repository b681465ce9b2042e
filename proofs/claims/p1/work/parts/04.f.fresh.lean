/-- p1: what run answers where all words are 0 -/
def fz (mem : Nat → Int64) (n r : Int32) : Prop := (∀ q, mem q = 0) → r = if n = 0 then 0 else -1
def wcnt (u : wS) (k : Int32) : Int32 := if k = 0 then u.2.1 else if k = 1 then u.2.2.2.1 else if k = 2 then u.2.2.2.2 else -1
def rcnt (v : rS) (k : Int32) : Int32 := if k = 0 then v.2.2.1 else if k = 1 then (v.2.2.2.2.2 &&& 2147483647 : Int64).toInt32 else if k = 2 then v.2.2.2.1 else -1
theorem fz_0 {i N : Nat} {t n : Int32} (ht : t = nI i) (hn : n = nI N) (hN : N ≤ 20000) (hc : n ≤ t) (hi : i = 0) : n = 0 := by
  subst hi
  rw [ht, hn, Int32.le_iff_toInt_le, nI_toInt (by omega), nI_toInt (by omega)] at hc
  have e : N = 0 := by omega
  rw [hn, e]
  exact nI_0
theorem fz_1 {i N : Nat} {n : Int32} (hn : n = nI N) (hN : N ≤ 20000) (hi : i < N) : ¬ n = 0 := fun q => by
  have h1 : n.toInt = (N : Int) := by rw [hn]; exact nI_toInt (by omega)
  rw [q] at h1
  have h2 : (0 : Int32).toInt = 0 := by decide
  rw [h2] at h1
  omega
/-- the fresh objects -/
def f0 (u : wS) : Prop := (∀ q, u.1 q = 0) ∧ u.2.1 = 0 ∧ u.2.2.2.1 = 0 ∧ u.2.2.2.2 = 0
def f1 (v : rS) : Prop := (∀ q, v.1 q = 0) ∧ v.2.2.1 = 0 ∧ v.2.2.2.1 = 0 ∧ v.2.2.2.2.2 = 0
theorem cnt_same {u : wS} {v : rS} (hu : f0 u) (hv : f1 v) (k : Int32) : wcnt u k = rcnt v k := by
  unfold wcnt rcnt
  rw [hu.2.1, hu.2.2.1, hu.2.2.2, hv.2.1, hv.2.2.1, hv.2.2.2, show ((0 &&& 2147483647 : Int64).toInt32) = 0 by decide]
theorem cmp_w {P : Prop} {k th : Int32} {f : Nat → Int64} {r x y : Int64} (h1 : (k = 0 ∧ P ∧ f 0 = x) ∨ (k = 1 ∧ ¬ P)) (h2 : (P ∧ th = 0 ∧ r = y) ∨ (¬ P ∧ th = 1)) (e1 : x = 0) (e2 : y = 0) (hk : k = 0) : lg_cmp (f (0 : Int32).toNatClampNeg) r = 0 := by
  rcases h1 with ⟨a, b, c⟩ | ⟨a, b⟩
  · rcases h2 with ⟨d, e, g⟩ | ⟨d, e⟩
    · rw [lg_cmp_eq, sb_cl0, c, g, e1, e2]
    · exact absurd b d
  · exact absurd (hk.symm.trans a) (by decide)
theorem cmp_run {P A B : Prop} {k n r : Int32} {f m1 m2 : Nat → Int64} (h1 : (k = 0 ∧ P ∧ ∃ q : Int32, f 0 = q.toInt64 ∧ fz m1 n q) ∨ (k = 1 ∧ ¬ P)) (h2 : A ∧ B ∧ (P → fz m2 n r)) (e1 : ∀ q, m1 q = 0) (e2 : ∀ q, m2 q = 0) (hk : k = 0) : lg_cmp (f (0 : Int32).toNatClampNeg) (r : Int32).toInt64 = 0 := by
  rcases h1 with ⟨a, b, q, c, d⟩ | ⟨a, b⟩
  · rw [lg_cmp_eq, sb_cl0, c, d e1, h2.2.2 b e2]
  · exact absurd (hk.symm.trans a) (by decide)
