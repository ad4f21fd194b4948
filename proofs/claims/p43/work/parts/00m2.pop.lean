/-! POPULAR ONES, THE BEST BY PROFILE, ORDER: the mathematics -/
theorem qSum_eq {f g : Nat → Int} : ∀ {n : Nat}, (∀ a, a < n → f a ≤ g a) → qSum g n ≤ qSum f n → ∀ a, a < n → f a = g a
  | 0, _, _ => fun a h => absurd h (Nat.not_lt_zero _)
  | n + 1, h, he => by
    unfold qSum at he
    have h1 := qSum_le (n := n) (fun a ha => h a (Nat.lt_succ_of_lt ha))
    have h2 := h n (Nat.lt_succ_self n)
    have h3 := qSum_eq (n := n) (fun a ha => h a (Nat.lt_succ_of_lt ha)) (by omega)
    intro a ha
    by_cases e : a = n
    · subst e; omega
    · exact h3 a (by omega)
/-- those of the first n whose column lies in a set of columns below np: no more than there are places -/
theorem qSum_places {n np : Nat} {cap : Nat → Nat} {op : Nat → Nat → Prop} {col : Nat → Nat} {O : Nat → Bool} (hm : qMat n np cap op col) (hO : O np = false) :
    qSum (fun a => if O (col a) = true then 1 else 0) n ≤ qSum (fun c => if O c = true then (cap c : Int) else 0) np := by
  rw [qSum_cols (p := fun c => if O c = true then 1 else 0) (N := np + 1) (fun a ha => Nat.lt_succ_of_le (hm.1 a ha).1)]
  unfold qSum
  rw [hO]
  have h : qSum (fun c => (if O c = true then (1 : Int) else 0) * (qCnt col c n : Int)) np ≤ qSum (fun c => if O c = true then (cap c : Int) else 0) np := qSum_le (fun c hc => by
    have := hm.2 c hc
    by_cases e : O c = true
    · rw [if_pos e, if_pos e]; omega
    · rw [if_neg e, if_neg e]; omega)
  simp only [Bool.false_eq_true, if_false, Int.zero_mul, Int.add_zero]
  exact h
theorem qSum_full {n np : Nat} {cap : Nat → Nat} {col : Nat → Nat} {O : Nat → Bool} (hc : ∀ a, a < n → col a ≤ np) (hO : O np = false) (hf : ∀ c, c < np → O c = true → cap c ≤ qCnt col c n) :
    qSum (fun c => if O c = true then (cap c : Int) else 0) np ≤ qSum (fun a => if O (col a) = true then 1 else 0) n := by
  rw [qSum_cols (p := fun c => if O c = true then 1 else 0) (N := np + 1) (fun a ha => Nat.lt_succ_of_le (hc a ha))]
  unfold qSum
  rw [hO]
  have h : qSum (fun c => if O c = true then (cap c : Int) else 0) np ≤ qSum (fun c => (if O c = true then (1 : Int) else 0) * (qCnt col c n : Int)) np := qSum_le (fun c hc => by
    by_cases e : O c = true
    · have := hf c hc e
      rw [if_pos e, if_pos e]; omega
    · rw [if_neg e, if_neg e]; omega)
  simp only [Bool.false_eq_true, if_false, Int.zero_mul, Int.add_zero]
  exact h
/-- popular: X a sharing of first choices; E the even posts; M has as many first choices, and else the best that is even: nobody's matching g beats it -/
theorem qPop {n np : Nat} {cap : Nat → Nat} {fi : Nat → Nat → Bool} {lev : Nat → Nat → Int} {sec : Nat → Int} {E : Nat → Bool} {X M g : Nat → Nat} {F : Int} {op : Nat → Nat → Prop}
    (hfi : ∀ a c, fi a c = true → c < np) (hfl : ∀ a c, a < n → fi a c = true → ∀ z, z ≤ np → lev a c ≤ lev a z ∧ (lev a z = lev a c → fi a z = true))
    (hX : qMat n np cap (fun a c => c = np ∨ fi a c = true) X)
    (hE0 : ∀ c, c < np → qCnt X c n < cap c → E c = true) (hE1 : ∀ a, a < n → X a < np → E (X a) = false → ∀ c, c < np → E c = true → fi a c = false) (hE3 : ∀ a, a < n → X a = np → ∀ c, fi a c = true → E c = false)
    (hF : qSum (fun a => if X a < np then 1 else 0) n ≤ F)
    (hM : qMat n np cap op M) (hMF : F ≤ qSum (fun a => if fi a (M a) = true then 1 else 0) n)
    (hM2 : ∀ a, a < n → fi a (M a) = false → lev a (M a) = sec a ∧ (M a < np → E (M a) = true))
    (hsec : ∀ a, a < n → ∀ c, c < np → E c = true → sec a ≤ lev a c) (hsec2 : ∀ a, a < n → sec a ≤ lev a np)
    (hg : ∃ op1, qMat n np cap op1 g) :
    qSum (fun a => if lev a (g a) < lev a (M a) then 1 else 0) n ≤ qSum (fun a => if lev a (M a) < lev a (g a) then 1 else 0) n := by
  obtain ⟨op1, hg⟩ := hg
  obtain ⟨O, hO⟩ : ∃ O : Nat → Bool, ∀ c, (O c = true ↔ (c < np ∧ E c = false)) := ⟨fun c => decide (c < np) && !(E c), fun c => by simp⟩
  have hOn : O np = false := by
    cases h : O np
    · rfl
    · have := ((hO np).mp h).1
      omega
  have hXO := qSum_full (O := O) (cap := cap) (fun a ha => (hX.1 a ha).1) hOn (fun c hc ho => by
    have h1 := ((hO c).mp ho).2
    rcases Nat.lt_or_ge (qCnt X c n) (cap c) with q | q
    · rw [hE0 c hc q] at h1
      cases h1
    · exact q)
  have hMO := qSum_places hM hOn
  have hgO := qSum_places hg hOn
  -- the first choices of who isn't at an even post of X are no even ones
  have hfo : ∀ a, a < n → ¬ (X a < np ∧ E (X a) = true) → ∀ c, fi a c = true → E c = false := fun a ha hx c hc => by
    have hcn := hfi a c hc
    cases he : E c
    · rfl
    · exfalso
      by_cases q : X a < np
      · have h1 : E (X a) = false := by
          cases h : E (X a)
          · rfl
          · exact absurd ⟨q, h⟩ hx
        have h2 := hE1 a ha q h1 c hcn he
        rw [hc] at h2
        cases h2
      · have h2 : X a = np := by have := (hX.1 a ha).1; omega
        have h3 := hE3 a ha h2 c hc
        rw [he] at h3
        cases h3
  have hpt : ∀ a, a < n → (if fi a (M a) = true then (1 : Int) else 0) ≤ (if O (M a) = true then 1 else 0) + (if X a < np ∧ E (X a) = true then 1 else 0) := fun a ha => by
    by_cases q : fi a (M a) = true
    · rw [if_pos q]
      by_cases z : X a < np ∧ E (X a) = true
      · rw [if_pos z]; split <;> omega
      · have h1 := hfo a ha z _ q
        rw [if_pos ((hO _).mpr ⟨hfi _ _ q, h1⟩)]
        split <;> omega
    · rw [if_neg q]
      split <;> split <;> omega
  have hXs : qSum (fun a => if X a < np then (1 : Int) else 0) n = qSum (fun a => if O (X a) = true then 1 else 0) n + qSum (fun a => if X a < np ∧ E (X a) = true then 1 else 0) n := by
    rw [← qSum_add]
    refine qSum_congr (fun a ha => ?_)
    by_cases q : X a < np
    · cases h : E (X a)
      · rw [if_pos q, if_pos ((hO _).mpr ⟨q, h⟩), if_neg (by simp)]; rfl
      · rw [if_pos q, if_neg (fun z => by rw [((hO _).mp z).2] at h; cases h), if_pos ⟨q, rfl⟩]; rfl
    · rw [if_neg q, if_neg (fun z => q ((hO _).mp z).1), if_neg (fun z => q z.1)]; rfl
  have hsum := qSum_le hpt
  rw [qSum_add] at hsum
  have heq := qSum_eq hpt (by rw [qSum_add]; omega)
  have hMo : ∀ a, a < n → O (M a) = true → fi a (M a) = true ∧ ¬ (X a < np ∧ E (X a) = true) := fun a ha ho => by
    have h1 := heq a ha
    rw [if_pos ho] at h1
    by_cases q : fi a (M a) = true
    · refine ⟨q, fun z => ?_⟩
      rw [if_pos q, if_pos z] at h1
      omega
    · rw [if_neg q] at h1
      exfalso
      split at h1 <;> omega
  have hend : ∀ a, a < n → (if lev a (g a) < lev a (M a) then (1 : Int) else 0) - (if lev a (M a) < lev a (g a) then 1 else 0) ≤ (if O (g a) = true then 1 else 0) - (if O (M a) = true then 1 else 0) := fun a ha => by
    have hgn := (hg.1 a ha).1
    have hMn := (hM.1 a ha).1
    by_cases q : lev a (g a) < lev a (M a)
    · have hnf : fi a (M a) = false := by
        cases h : fi a (M a)
        · rfl
        · have := (hfl a _ ha h (g a) hgn).1; omega
      obtain ⟨s1, s2⟩ := hM2 a ha hnf
      have hOg : O (g a) = true := by
        refine (hO _).mpr ?_
        by_cases z : g a < np
        · refine ⟨z, ?_⟩
          cases h : E (g a)
          · rfl
          · have := hsec a ha _ z h; omega
        · have h1 : g a = np := by omega
          have := hsec2 a ha
          rw [h1] at q
          omega
      have hOM : ¬ O (M a) = true := fun z => by
        have := (hMo a ha z).1
        rw [hnf] at this
        cases this
      rw [if_pos q, if_neg (by omega), if_pos hOg, if_neg hOM]
      omega
    · rw [if_neg q]
      by_cases z : O (M a) = true
      · rw [if_pos z]
        by_cases y : O (g a) = true
        · rw [if_pos y]; split <;> omega
        · obtain ⟨f1, f2⟩ := hMo a ha z
          have h1 : lev a (M a) < lev a (g a) := by
            obtain ⟨l1, l2⟩ := hfl a _ ha f1 (g a) hgn
            rcases Int.lt_or_eq_of_le l1 with w | w
            · exact w
            · have h2 := l2 w.symm
              exact absurd ((hO _).mpr ⟨hfi _ _ h2, hfo a ha f2 _ h2⟩) y
          rw [if_neg y, if_pos h1]
          omega
      · rw [if_neg z]
        split <;> split <;> omega
  have hfin := qSum_le hend
  rw [qSum_sub, qSum_sub] at hfin
  omega
/-! order: a row of digits to the base 11 -/
def qDig (x : Nat → Int) : Nat → Int
  | 0 => 0
  | n + 1 => 11 * qDig x n + x n
theorem qDig_eq {x y : Nat → Int} : ∀ {n : Nat}, (∀ a, a < n → 0 ≤ x a ∧ x a ≤ 10 ∧ 0 ≤ y a ∧ y a ≤ 10) → qDig x n = qDig y n → ∀ a, a < n → x a = y a
  | 0, _, _ => fun a h => absurd h (Nat.not_lt_zero _)
  | n + 1, h, he => by
    unfold qDig at he
    have h2 := h n (Nat.lt_succ_self n)
    have h3 := qDig_eq (n := n) (fun a ha => h a (Nat.lt_succ_of_lt ha)) (by omega)
    intro a ha
    by_cases e : a = n
    · subst e; omega
    · exact h3 a (by omega)
/-- what stands in the class's row: 11 to the power 9 - a -/
def qEl (a : Nat) : Int := 11 ^ (9 - a)
theorem qEl_dig {x : Nat → Int} : ∀ {n : Nat}, n ≤ 10 → qSum (fun a => qEl a * x a) n * 11 = 11 ^ (10 - n) * qDig x n * 11
  | 0, _ => by simp [qSum, qDig]
  | n + 1, h => by
    have h1 := qEl_dig (x := x) (n := n) (by omega)
    unfold qSum qDig qEl at *
    have e1 : 10 - n = (9 - n) + 1 := by omega
    have e2 : 10 - (n + 1) = 9 - n := by omega
    rw [Int.add_mul, h1, e1, e2, Int.pow_succ]
    generalize (11 : Int) ^ (9 - n) = p
    generalize qDig x n = q
    rw [Int.mul_add]
    have a1 : p * 11 * q * 11 = p * (11 * q) * 11 := by rw [Int.mul_assoc p 11 q]
    rw [a1, Int.add_mul]
theorem qEl_eq {x y : Nat → Int} {n : Nat} (hn : n ≤ 10) (h : ∀ a, a < n → 0 ≤ x a ∧ x a ≤ 10 ∧ 0 ≤ y a ∧ y a ≤ 10) (he : qSum (fun a => qEl a * x a) n = qSum (fun a => qEl a * y a) n) : ∀ a, a < n → x a = y a := by
  refine qDig_eq h ?_
  have h1 := qEl_dig (x := x) hn
  have h2 := qEl_dig (x := y) hn
  rw [he, h2] at h1
  have hp : (0 : Int) < 11 ^ (10 - n) * 1 := by
    rw [Int.mul_one]
    exact Int.pow_pos (by decide)
  have h3 : (11 : Int) ^ (10 - n) * qDig y n = 11 ^ (10 - n) * qDig x n := by omega
  exact (Int.eq_of_mul_eq_mul_left (by omega) h3).symm
