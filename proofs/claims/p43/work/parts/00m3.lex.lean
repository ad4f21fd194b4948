/-! WORTH FIRST, THEN ORDER: the greatest is one alone -/
def qK : Int := 1152921504606846976
def qV (np : Nat) (Wt : Nat → Nat → Int) (a c : Nat) : Int := Wt a c * qK + qEl a * ((np : Int) - (c : Int))
theorem qEl_pos (a : Nat) : 0 ≤ qEl a := by
  unfold qEl
  exact Int.le_of_lt (Int.pow_pos (by decide))
theorem qEl_le (a : Nat) : qEl a ≤ 2357947691 := by
  unfold qEl
  rcases Nat.lt_or_ge a 10 with h | h
  · rcases (show a = 0 ∨ a = 1 ∨ a = 2 ∨ a = 3 ∨ a = 4 ∨ a = 5 ∨ a = 6 ∨ a = 7 ∨ a = 8 ∨ a = 9 by omega) with rfl | rfl | rfl | rfl | rfl | rfl | rfl | rfl | rfl | rfl <;> decide
  · rw [show 9 - a = 0 by omega]
    decide
theorem qOrd_b {np a c : Nat} (hn : np ≤ 10) (hc : c ≤ np) : 0 ≤ qEl a * ((np : Int) - (c : Int)) ∧ qEl a * ((np : Int) - (c : Int)) ≤ 23579476910 := by
  have h1 := qEl_pos a
  have h2 := qEl_le a
  have h3 : (0 : Int) ≤ (np : Int) - (c : Int) := by omega
  have h4 : (np : Int) - (c : Int) ≤ 10 := by omega
  refine ⟨Int.mul_nonneg h1 h3, ?_⟩
  have h5 : qEl a * ((np : Int) - (c : Int)) ≤ qEl a * 10 := Int.mul_le_mul_of_nonneg_left h4 h1
  omega
theorem qSum_b {f : Nat → Int} {B : Int} : ∀ {n : Nat}, (∀ a, a < n → 0 ≤ f a ∧ f a ≤ B) → 0 ≤ qSum f n ∧ qSum f n ≤ n * B
  | 0, _ => by simp [qSum]
  | n + 1, h => by
    unfold qSum
    have h1 := qSum_b (n := n) (fun a ha => h a (Nat.lt_succ_of_lt ha))
    have h2 := h n (Nat.lt_succ_self n)
    have h3 : ((n + 1 : Nat) : Int) * B = (n : Int) * B + B := by
      rw [Int.natCast_add, Int.add_mul]
      omega
    omega
theorem qV_sum {np n : Nat} {Wt : Nat → Nat → Int} {g : Nat → Nat} : qSum (fun a => qV np Wt a (g a)) n = qSum (fun a => Wt a (g a)) n * qK + qSum (fun a => qEl a * ((np : Int) - (g a : Int))) n := by
  unfold qV
  rw [qSum_add, qSum_mul]
theorem qO_b {np n : Nat} {g : Nat → Nat} (hn : n ≤ 10) (hp : np ≤ 10) (hg : ∀ a, a < n → g a ≤ np) : 0 ≤ qSum (fun a => qEl a * ((np : Int) - (g a : Int))) n ∧ qSum (fun a => qEl a * ((np : Int) - (g a : Int))) n < qK := by
  have h := qSum_b (f := fun a => qEl a * ((np : Int) - (g a : Int))) (B := 23579476910) (n := n) (fun a ha => qOrd_b hp (hg a ha))
  have h2 : (n : Int) * 23579476910 ≤ 10 * 23579476910 := by omega
  unfold qK
  omega
/-- the greatest by worth -/
theorem qV_best {n np : Nat} {cap : Nat → Nat} {op : Nat → Nat → Prop} {Wt : Nat → Nat → Int} {col g : Nat → Nat} {P : Nat → Int} (hn : n ≤ 10) (hp : np ≤ 10)
    (hm : qMat n np cap op col) (hP : qPri n np cap op (qV np Wt) col P) (hg : qMat n np cap op g) : qSum (fun a => Wt a (g a)) n ≤ qSum (fun a => Wt a (col a)) n := by
  have h := qPri_best hm hP hg
  rw [qV_sum, qV_sum] at h
  have h1 := qO_b hn hp (fun a ha => (hg.1 a ha).1)
  have h2 := qO_b hn hp (fun a ha => (hm.1 a ha).1)
  unfold qK at h h1 h2
  omega
/-- there is one alone -/
theorem qV_one {n np : Nat} {cap : Nat → Nat} {op : Nat → Nat → Prop} {Wt : Nat → Nat → Int} {col g : Nat → Nat} {P Q : Nat → Int} (hn : n ≤ 10) (hp : np ≤ 10)
    (hm : qMat n np cap op col) (hP : qPri n np cap op (qV np Wt) col P) (hg : qMat n np cap op g) (hQ : qPri n np cap op (qV np Wt) g Q) : ∀ a, a < n → col a = g a := by
  have h := qPri_best hm hP hg
  have h0 := qPri_best hg hQ hm
  rw [qV_sum, qV_sum] at h h0
  have h1 := qO_b hn hp (fun a ha => (hg.1 a ha).1)
  have h2 := qO_b hn hp (fun a ha => (hm.1 a ha).1)
  have he : qSum (fun a => qEl a * ((np : Int) - (col a : Int))) n = qSum (fun a => qEl a * ((np : Int) - (g a : Int))) n := by
    unfold qK at h h0 h1 h2
    omega
  intro a ha
  have h3 := qEl_eq hn (fun a ha => by
    have q1 := (hm.1 a ha).1
    have q2 := (hg.1 a ha).1
    refine ⟨?_, ?_, ?_, ?_⟩ <;> omega) he a ha
  omega
