/-! THE SHARING, its mathematics: prices, rows of moves, one more applicant -/
/-- how many of the first n have c -/
def qCnt (f : Nat → Nat) (c : Nat) : Nat → Nat
  | 0 => 0
  | n + 1 => qCnt f c n + (if f n = c then 1 else 0)
def qSum (f : Nat → Int) : Nat → Int
  | 0 => 0
  | n + 1 => qSum f n + f n
theorem qCnt_congr {f g : Nat → Nat} {c : Nat} : ∀ {n : Nat}, (∀ a, a < n → f a = g a) → qCnt f c n = qCnt g c n
  | 0, _ => rfl
  | n + 1, h => by
    unfold qCnt
    rw [qCnt_congr (n := n) (fun a ha => h a (Nat.lt_succ_of_lt ha)), h n (Nat.lt_succ_self n)]
theorem qSum_congr {f g : Nat → Int} : ∀ {n : Nat}, (∀ a, a < n → f a = g a) → qSum f n = qSum g n
  | 0, _ => rfl
  | n + 1, h => by
    unfold qSum
    rw [qSum_congr (n := n) (fun a ha => h a (Nat.lt_succ_of_lt ha)), h n (Nat.lt_succ_self n)]
theorem qSum_le {f g : Nat → Int} : ∀ {n : Nat}, (∀ a, a < n → f a ≤ g a) → qSum f n ≤ qSum g n
  | 0, _ => Int.le_refl _
  | n + 1, h => by
    unfold qSum
    have h1 := qSum_le (n := n) (fun a ha => h a (Nat.lt_succ_of_lt ha))
    have h2 := h n (Nat.lt_succ_self n)
    omega
theorem qSum_add {f g : Nat → Int} : ∀ {n : Nat}, qSum (fun a => f a + g a) n = qSum f n + qSum g n
  | 0 => rfl
  | n + 1 => by
    unfold qSum
    rw [qSum_add (n := n)]
    omega
theorem qSum_sub {f g : Nat → Int} : ∀ {n : Nat}, qSum (fun a => f a - g a) n = qSum f n - qSum g n
  | 0 => rfl
  | n + 1 => by
    unfold qSum
    rw [qSum_sub (n := n)]
    omega
theorem qSum_mul {f : Nat → Int} {k : Int} : ∀ {n : Nat}, qSum (fun a => f a * k) n = qSum f n * k
  | 0 => by simp [qSum]
  | n + 1 => by
    unfold qSum
    rw [qSum_mul (n := n), Int.add_mul]
theorem qSum_zero : ∀ {n : Nat}, qSum (fun _ => 0) n = 0
  | 0 => rfl
  | n + 1 => by
    unfold qSum
    rw [qSum_zero (n := n)]
    rfl
theorem qCnt_upd {f : Nat → Nat} {i x c : Nat} : ∀ {n : Nat}, i < n → qCnt (fun a => if a = i then x else f a) c n + (if f i = c then 1 else 0) = qCnt f c n + (if x = c then 1 else 0)
  | 0, h => absurd h (Nat.not_lt_zero _)
  | n + 1, h => by
    unfold qCnt
    by_cases e : n = i
    · subst e
      have h1 : qCnt (fun a => if a = n then x else f a) c n = qCnt f c n := qCnt_congr (fun a ha => by simp [Nat.ne_of_lt ha])
      rw [h1]
      simp only [if_true]
      omega
    · have h1 := qCnt_upd (f := f) (i := i) (x := x) (c := c) (n := n) (by omega)
      rw [if_neg e]
      omega
/-- a sum over the applicants, by columns -/
theorem qSum_one {p : Nat → Int} {c : Nat} : ∀ {n : Nat}, qSum (fun x => p x * (if c = x then 1 else 0)) n = if c < n then p c else 0
  | 0 => by simp [qSum]
  | n + 1 => by
    unfold qSum
    rw [qSum_one (n := n)]
    by_cases e : c = n
    · subst e
      simp
    · by_cases h : c < n
      · simp [h, Nat.lt_succ_of_lt h, e]
      · simp [h, e, show ¬ c < n + 1 by omega]
theorem qSum_cols {p : Nat → Int} {f : Nat → Nat} {N : Nat} : ∀ {n : Nat}, (∀ a, a < n → f a < N) → qSum (fun a => p (f a)) n = qSum (fun c => p c * (qCnt f c n : Int)) N
  | 0, _ => by
    have h : qSum (fun c => p c * ((qCnt f c 0 : Nat) : Int)) N = qSum (fun _ => 0) N := qSum_congr (fun a _ => by simp [qCnt])
    rw [h, qSum_zero]
    rfl
  | n + 1, h => by
    have h1 := qSum_cols (p := p) (f := f) (N := N) (n := n) (fun a ha => h a (Nat.lt_succ_of_lt ha))
    have h2 : qSum (fun c => p c * ((qCnt f c (n + 1) : Nat) : Int)) N = qSum (fun c => p c * ((qCnt f c n : Nat) : Int) + p c * (if f n = c then 1 else 0)) N := qSum_congr (fun a _ => by
      unfold qCnt
      rw [← Int.mul_add]
      congr 1
      by_cases e : f n = a <;> simp [e])
    rw [h2, qSum_add, qSum_one, ← h1, if_pos (h n (Nat.lt_succ_self n))]
    rfl
/-- a matching of the first n: open, no column below np over its places -/
def qMat (n np : Nat) (cap : Nat → Nat) (op : Nat → Nat → Prop) (col : Nat → Nat) : Prop :=
  (∀ a, a < n → col a ≤ np ∧ op a (col a)) ∧ ∀ c, c < np → qCnt col c n ≤ cap c
/-- prices that hold it -/
def qPri (n np : Nat) (cap : Nat → Nat) (op : Nat → Nat → Prop) (v : Nat → Nat → Int) (col : Nat → Nat) (P : Nat → Int) : Prop :=
  (∀ c, c ≤ np → 0 ≤ P c) ∧ P np = 0 ∧ (∀ c, c < np → qCnt col c n < cap c → P c = 0) ∧
  ∀ a, a < n → ∀ c, c ≤ np → op a c → v a c - P c ≤ v a (col a) - P (col a)
/-- what has prices is the greatest -/
theorem qPri_best {n np : Nat} {cap : Nat → Nat} {op : Nat → Nat → Prop} {v : Nat → Nat → Int} {col g : Nat → Nat} {P : Nat → Int}
    (hm : qMat n np cap op col) (hP : qPri n np cap op v col P) (hg : qMat n np cap op g) : qSum (fun a => v a (g a)) n ≤ qSum (fun a => v a (col a)) n := by
  obtain ⟨h0, hz, hf, hc⟩ := hP
  have h1 : qSum (fun a => v a (g a) - P (g a)) n ≤ qSum (fun a => v a (col a) - P (col a)) n :=
    qSum_le (fun a ha => hc a ha (g a) (hg.1 a ha).1 (hg.1 a ha).2)
  rw [qSum_sub, qSum_sub] at h1
  have h2 : qSum (fun a => P (g a)) n ≤ qSum (fun a => P (col a)) n := by
    rw [qSum_cols (N := np + 1) (fun a ha => Nat.lt_succ_of_le (hg.1 a ha).1), qSum_cols (N := np + 1) (fun a ha => Nat.lt_succ_of_le (hm.1 a ha).1)]
    refine qSum_le (fun c hc9 => ?_)
    rcases Nat.lt_or_ge c np with q | q
    · by_cases e : qCnt col c n < cap c
      · rw [hf c q e]
        simp
      · have h3 := hg.2 c q
        exact Int.mul_le_mul_of_nonneg_left (Int.ofNat_le.mpr (by omega)) (h0 c (by omega))
    · have e : c = np := by omega
      subst e
      rw [hz]
      simp
  omega
/-- one more applicant: rows of moves. k the newcomer; col the columns of those before; P their prices; re, m, d: which columns are reached, by whom, how well; T, C: when, in which round (no part of the program) -/
def qRel (k np : Nat) (op : Nat → Nat → Prop) (v : Nat → Nat → Int) (col : Nat → Nat) (P : Nat → Int) (r t : Nat) (re : Nat → Prop) (m : Nat → Nat) (d : Nat → Int) (T C : Nat → Nat) : Prop :=
  (∀ c, c ≤ np → re c → (m c = k ∧ op k c ∧ d c = v k c ∧ C c = 0) ∨
    (m c < k ∧ op (m c) c ∧ col (m c) ≠ c ∧ re (col (m c)) ∧ (d c - P c < d (col (m c)) - P (col (m c)) ∨ (d c - P c ≤ d (col (m c)) - P (col (m c)) ∧ T (col (m c)) < T c)) ∧ C c ≤ C (col (m c)) + 1 ∧ d c ≤ d (col (m c)) - v (m c) (col (m c)) + v (m c) c)) ∧
  (∀ c, c ≤ np → re c → T c ≤ t ∧ C c ≤ r) ∧ (∀ c, c ≤ np → op k c → re c ∧ v k c ≤ d c)
/-- the moves of a are made -/
def qDone (np : Nat) (op : Nat → Nat → Prop) (v : Nat → Nat → Int) (col : Nat → Nat) (re : Nat → Prop) (d : Nat → Int) (a : Nat) : Prop :=
  ∀ c, c ≤ np → op a c → c ≠ col a → re c ∧ d (col a) - v a (col a) + v a c ≤ d c
/-- the moves of a, all at once: which columns change, by what -/
def qCh (np : Nat) (op : Nat → Nat → Prop) (v : Nat → Nat → Int) (x : Nat) (base : Int) (re : Nat → Prop) (d : Nat → Int) (a c : Nat) : Prop :=
  c ≤ np ∧ c ≠ x ∧ op a c ∧ (¬ re c ∨ d c < base + v a c)
theorem qRel_step {k np : Nat} {op : Nat → Nat → Prop} {v : Nat → Nat → Int} {col : Nat → Nat} {P : Nat → Int} {r t : Nat} {re re1 : Nat → Prop} {m m1 : Nat → Nat} {d d1 : Nat → Int} {T T1 C C1 : Nat → Nat} {a : Nat} {U : Nat → Prop}
    (hcol : ∀ b, b < k → col b ≤ np) (hP : ∀ b, b < k → ∀ c, c ≤ np → op b c → v b c - P c ≤ v b (col b) - P (col b))
    (h : qRel k np op v col P (r + 1) t re m d T C) (ha : a < k) (hx : re (col a)) (hr : (∃ c, U c) → r ≤ C (col a))
    (hU : ∀ c, U c ↔ qCh np op v (col a) (d (col a) - v a (col a)) re d a c)
    (hre : ∀ c, c ≤ np → (re1 c ↔ re c ∨ U c))
    (hm : ∀ c, U c → m1 c = a ∧ d1 c = d (col a) - v a (col a) + v a c ∧ T1 c = t + 1 ∧ C1 c = r + 1)
    (hn : ∀ c, c ≤ np → ¬ U c → m1 c = m c ∧ d1 c = d c ∧ T1 c = T c ∧ C1 c = C c) :
    qRel k np op v col P (r + 1) (t + 1) re1 m1 d1 T1 C1 := by
  obtain ⟨h1, h2, h3⟩ := h
  have hxn : ¬ U (col a) := fun q => ((hU _).mp q).2.1 rfl
  have hca := hcol a ha
  obtain ⟨xm, xd, xT, xC⟩ := hn (col a) hca hxn
  have hup : ∀ c, c ≤ np → re c → d c ≤ d1 c := fun c hc hrc => by
    by_cases u : U c
    · obtain ⟨-, e2, -, -⟩ := hm c u
      rcases ((hU c).mp u).2.2.2 with q | q
      · exact absurd hrc q
      · omega
    · obtain ⟨-, e2, -, -⟩ := hn c hc u
      omega
  refine ⟨fun c hc hrc => ?_, fun c hc hrc => ?_, fun c hc ho => ?_⟩
  · by_cases u : U c
    · right
      obtain ⟨e1, e2, e3, e4⟩ := hm c u
      obtain ⟨-, u2, u3, -⟩ := (hU c).mp u
      have hp := hP a ha c hc u3
      have ht := (h2 _ hca hx).1
      have hq := hr ⟨c, u⟩
      rw [e1, xd, xT, xC]
      refine ⟨ha, u3, fun q => u2 q.symm, (hre _ hca).mpr (Or.inl hx), Or.inr ⟨by omega, by omega⟩, by omega, by omega⟩
    · obtain ⟨e1, e2, e3, e4⟩ := hn c hc u
      have hrc0 : re c := ((hre c hc).mp hrc).elim id (fun q => absurd q u)
      rcases h1 c hc hrc0 with ⟨q1, q2, q3, q4⟩ | ⟨q1, q2, q3, q4, q5, q6, q7⟩
      · left
        exact ⟨by omega, q2, by omega, by omega⟩
      · right
        have hy := hcol _ q1
        rw [e1]
        refine ⟨q1, q2, q3, (hre _ hy).mpr (Or.inl q4), ?_⟩
        by_cases w : U (col (m c))
        · obtain ⟨f1, f2, f3, f4⟩ := hm _ w
          have hlt : d (col (m c)) < d1 (col (m c)) := by
            rcases ((hU _).mp w).2.2.2 with q | q
            · exact absurd q4 q
            · omega
          have h9 := (h2 c hc hrc0).2
          exact ⟨Or.inl (by omega), by omega, by omega⟩
        · obtain ⟨f1, f2, f3, f4⟩ := hn _ hy w
          rw [f2, f3, f4, e2, e3, e4]
          exact ⟨q5, q6, q7⟩
  · by_cases u : U c
    · obtain ⟨e1, e2, e3, e4⟩ := hm c u
      omega
    · obtain ⟨e1, e2, e3, e4⟩ := hn c hc u
      have hrc0 : re c := ((hre c hc).mp hrc).elim id (fun q => absurd q u)
      have := h2 c hc hrc0
      omega
  · obtain ⟨q1, q2⟩ := h3 c hc ho
    have := hup c hc q1
    exact ⟨(hre c hc).mpr (Or.inl q1), by omega⟩
/-- behind its moves an applicant is done; who was done stays so, if its own column didn't change -/
theorem qDone_self {np : Nat} {op : Nat → Nat → Prop} {v : Nat → Nat → Int} {col : Nat → Nat} {re re1 : Nat → Prop} {d d1 : Nat → Int} {a : Nat} {U : Nat → Prop} (hca : col a ≤ np)
    (hU : ∀ c, U c ↔ qCh np op v (col a) (d (col a) - v a (col a)) re d a c) (hre : ∀ c, c ≤ np → (re1 c ↔ re c ∨ U c))
    (hm : ∀ c, U c → d1 c = d (col a) - v a (col a) + v a c) (hn : ∀ c, c ≤ np → ¬ U c → d1 c = d c) : qDone np op v col re1 d1 a := by
  intro c hc ho hne
  have hxn : ¬ U (col a) := fun q => ((hU _).mp q).2.1 rfl
  rw [hn _ hca hxn]
  by_cases u : U c
  · exact ⟨(hre c hc).mpr (Or.inr u), by rw [hm c u]; exact Int.le_refl _⟩
  · rw [hn c hc u]
    by_cases q : re c ∧ ¬ d c < d (col a) - v a (col a) + v a c
    · exact ⟨(hre c hc).mpr (Or.inl q.1), by omega⟩
    · refine absurd ((hU c).mpr ⟨hc, hne, ho, ?_⟩) u
      by_cases w : re c
      · exact Or.inr (Decidable.byContradiction fun z => q ⟨w, z⟩)
      · exact Or.inl w
theorem qDone_kept {np : Nat} {op : Nat → Nat → Prop} {v : Nat → Nat → Int} {col : Nat → Nat} {re re1 : Nat → Prop} {d d1 : Nat → Int} {b : Nat}
    (hre : ∀ c, c ≤ np → re c → re1 c ∧ d c ≤ d1 c) (hb : d1 (col b) = d (col b)) (h : qDone np op v col re d b) : qDone np op v col re1 d1 b := by
  intro c hc ho hne
  obtain ⟨h1, h2⟩ := h c hc ho hne
  obtain ⟨h3, h4⟩ := hre c hc h1
  rw [hb]
  exact ⟨h3, by omega⟩
/-- who is done changes nothing -/
theorem qDone_none {np : Nat} {op : Nat → Nat → Prop} {v : Nat → Nat → Int} {col : Nat → Nat} {re : Nat → Prop} {d : Nat → Int} {a : Nat} (h : qDone np op v col re d a) (c : Nat) : ¬ qCh np op v (col a) (d (col a) - v a (col a)) re d a c := by
  rintro ⟨h1, h2, h3, h4⟩
  obtain ⟨q1, q2⟩ := h c h1 h3 h2
  rcases h4 with q | q
  · exact q q1
  · omega
/-- a round: those below i have made their moves in it -/
def qRnd (k np : Nat) (op : Nat → Nat → Prop) (v : Nat → Nat → Int) (col : Nat → Nat) (r i : Nat) (re : Nat → Prop) (d : Nat → Int) (C : Nat → Nat) : Prop :=
  ∀ b, b < k → re (col b) → (b < i → C (col b) ≤ r → qDone np op v col re d b) ∧ (i ≤ b → C (col b) + 1 ≤ r → qDone np op v col re d b)
theorem qRnd_step {k np : Nat} {op : Nat → Nat → Prop} {v : Nat → Nat → Int} {col : Nat → Nat} {r : Nat} {re re1 : Nat → Prop} {d d1 : Nat → Int} {C C1 : Nat → Nat} {a : Nat} {U : Nat → Prop}
    (hcol : ∀ b, b < k → col b ≤ np) (h : qRnd k np op v col r a re d C) (ha : a < k)
    (hU : ∀ c, U c ↔ qCh np op v (col a) (d (col a) - v a (col a)) re d a c) (hre : ∀ c, c ≤ np → (re1 c ↔ re c ∨ U c))
    (hm : ∀ c, U c → d1 c = d (col a) - v a (col a) + v a c ∧ C1 c = r + 1) (hn : ∀ c, c ≤ np → ¬ U c → d1 c = d c ∧ C1 c = C c) : qRnd k np op v col r (a + 1) re1 d1 C1 := by
  have hup : ∀ c, c ≤ np → re c → re1 c ∧ d c ≤ d1 c := fun c hc hrc => ⟨(hre c hc).mpr (Or.inl hrc), by
    by_cases u : U c
    · have e2 := (hm c u).1
      rcases ((hU c).mp u).2.2.2 with q | q
      · exact absurd hrc q
      · omega
    · have e2 := (hn c hc u).1
      omega⟩
  intro b hb hrb
  have hcb := hcol b hb
  by_cases e : b = a
  · subst e
    exact ⟨fun _ _ => qDone_self hcb hU hre (fun c u => (hm c u).1) (fun c hc u => (hn c hc u).1), fun q => absurd q (by omega)⟩
  · by_cases u : U (col b)
    · have := (hm _ u).2
      exact ⟨fun _ q => absurd q (by omega), fun _ q => absurd q (by omega)⟩
    · obtain ⟨e1, e2⟩ := hn _ hcb u
      have hrb0 : re (col b) := ((hre _ hcb).mp hrb).elim id (fun q => absurd q u)
      obtain ⟨g1, g2⟩ := h b hb hrb0
      rw [e2]
      exact ⟨fun q1 q2 => qDone_kept hup e1 (g1 (by omega) q2), fun q1 q2 => qDone_kept hup e1 (g2 (by omega) q2)⟩
/-- how many of the first n a test holds for -/
def qNum (f : Nat → Bool) : Nat → Nat
  | 0 => 0
  | n + 1 => qNum f n + (if f n = true then 1 else 0)
theorem qNum_le {f : Nat → Bool} : ∀ n : Nat, qNum f n ≤ n
  | 0 => Nat.le_refl _
  | n + 1 => by
    unfold qNum
    have := qNum_le (f := f) n
    split <;> omega
theorem qNum_mono {f g : Nat → Bool} : ∀ {n : Nat}, (∀ x, x < n → f x = true → g x = true) → qNum f n ≤ qNum g n
  | 0, _ => Nat.le_refl _
  | n + 1, h => by
    unfold qNum
    have h1 := qNum_mono (n := n) (fun x hx => h x (Nat.lt_succ_of_lt hx))
    by_cases e : f n = true
    · rw [if_pos e, if_pos (h n (Nat.lt_succ_self n) e)]
      omega
    · rw [if_neg e]
      omega
theorem qNum_lt {f g : Nat → Bool} {y : Nat} : ∀ {n : Nat}, (∀ x, x < n → f x = true → g x = true) → y < n → f y = false → g y = true → qNum f n < qNum g n
  | 0, _, h, _, _ => absurd h (Nat.not_lt_zero _)
  | n + 1, h, hy, h1, h2 => by
    unfold qNum
    by_cases e : y = n
    · subst e
      have h3 := qNum_mono (n := y) (fun x hx => h x (Nat.lt_succ_of_lt hx))
      rw [h1, if_pos h2]
      simp
      omega
    · have h3 := qNum_lt (n := n) (fun x hx => h x (Nat.lt_succ_of_lt hx)) (by omega) h1 h2
      by_cases e9 : f n = true
      · rw [if_pos e9, if_pos (h n (Nat.lt_succ_self n) e9)]
        omega
      · rw [if_neg e9]
        omega
/-- x stands ahead of c: better by the prices, or as good and earlier -/
def qAh (P d : Nat → Int) (T : Nat → Nat) (x c : Nat) : Bool := decide (d c - P c < d x - P x ∨ (d c - P c ≤ d x - P x ∧ T x < T c))
def qPlace (np : Nat) (P d : Nat → Int) (T : Nat → Nat) (c : Nat) : Nat := qNum (fun x => qAh P d T x c) (np + 1)
theorem qAh_self {P d : Nat → Int} {T : Nat → Nat} {x : Nat} : qAh P d T x x = false := by
  unfold qAh
  simp
theorem qAh_trans {P d : Nat → Int} {T : Nat → Nat} {x y z : Nat} (h1 : qAh P d T x y = true) (h2 : qAh P d T y z = true) : qAh P d T x z = true := by
  unfold qAh at h1 h2 ⊢
  simp only [decide_eq_true_eq] at h1 h2 ⊢
  omega
theorem qPlace_lt {np : Nat} {P d : Nat → Int} {T : Nat → Nat} {x c : Nat} (hx : x ≤ np) (h : qAh P d T x c = true) : qPlace np P d T x < qPlace np P d T c :=
  qNum_lt (y := x) (fun _ _ q => qAh_trans q h) (Nat.lt_succ_of_le hx) qAh_self h
theorem qPlace_le {np : Nat} {P d : Nat → Int} {T : Nat → Nat} {c : Nat} (hc : c ≤ np) : qPlace np P d T c ≤ np := by
  have h : qNum (fun x => qAh P d T x c) (np + 1) < qNum (fun _ => true) (np + 1) := qNum_lt (y := c) (fun _ _ _ => rfl) (Nat.lt_succ_of_le hc) qAh_self rfl
  have h2 := qNum_le (f := fun _ => true) (np + 1)
  unfold qPlace
  omega
/-- no column changes in a later round than its place -/
theorem qRel_C {k np : Nat} {op : Nat → Nat → Prop} {v : Nat → Nat → Int} {col : Nat → Nat} {P : Nat → Int} {r t : Nat} {re : Nat → Prop} {m : Nat → Nat} {d : Nat → Int} {T C : Nat → Nat} (hcol : ∀ b, b < k → col b ≤ np)
    (h : qRel k np op v col P r t re m d T C) : ∀ (n c : Nat), c ≤ np → re c → qPlace np P d T c ≤ n → C c ≤ qPlace np P d T c := by
  intro n
  induction n with
  | zero =>
    intro c hc hr h0
    rcases h.1 c hc hr with ⟨-, -, -, q⟩ | ⟨q1, -, -, q4, q5, q6, -⟩
    · omega
    · have := qPlace_lt (np := np) (P := P) (d := d) (T := T) (x := col (m c)) (c := c) (hcol _ q1) (by unfold qAh; simp only [decide_eq_true_eq]; exact q5)
      omega
  | succ n ih =>
    intro c hc hr h0
    rcases h.1 c hc hr with ⟨-, -, -, q⟩ | ⟨q1, -, -, q4, q5, q6, -⟩
    · omega
    · have h1 := qPlace_lt (np := np) (P := P) (d := d) (T := T) (x := col (m c)) (c := c) (hcol _ q1) (by unfold qAh; simp only [decide_eq_true_eq]; exact q5)
      have h2 := ih (col (m c)) (hcol _ q1) q4 (by omega)
      omega
theorem qRel_last {k np : Nat} {op : Nat → Nat → Prop} {v : Nat → Nat → Int} {col : Nat → Nat} {P : Nat → Int} {r t : Nat} {re : Nat → Prop} {m : Nat → Nat} {d : Nat → Int} {T C : Nat → Nat} (hcol : ∀ b, b < k → col b ≤ np)
    (h : qRel k np op v col P r t re m d T C) {c : Nat} (hc : c ≤ np) (hr : re c) : C c ≤ np :=
  Nat.le_trans (qRel_C hcol h _ c hc hr (Nat.le_refl _)) (qPlace_le hc)
/-- the rows of moves lead back to the newcomer -/
def qWay (k np : Nat) (col : Nat → Nat) (re : Nat → Prop) (m : Nat → Nat) (V : Nat → Prop) (N : Nat → Nat) : Prop :=
  ∀ c, c ≤ np → re c → N c ≤ np ∧ (m c = k ∨ (m c < k ∧ re (col (m c)) ∧ col (m c) ≤ np ∧ (V c → V (col (m c))) ∧ N (col (m c)) < N c))
/-- while the moves are made: 'to' waits for its applicant -/
def qMv (k np : Nat) (col : Nat → Nat) (re : Nat → Prop) (m : Nat → Nat) (V : Nat → Prop) (N : Nat → Nat) (e : Nat) (cur : Nat → Nat) (to : Nat) : Prop :=
  to ≤ np ∧ re to ∧ V to ∧ (∀ a, a < k → cur a = col a ∨ (V (cur a) ∧ re (cur a) ∧ m (cur a) = a ∧ cur a ≤ np ∧ N to ≤ N (col a))) ∧
  ∀ c, qCnt cur c k + (if to = c then 1 else 0) = qCnt col c k + (if e = c then 1 else 0)
def qMvd (k np : Nat) (col : Nat → Nat) (re : Nat → Prop) (m : Nat → Nat) (V : Nat → Prop) (e : Nat) (g : Nat → Nat) : Prop :=
  (∀ a, a < k + 1 → (a < k ∧ g a = col a) ∨ (V (g a) ∧ re (g a) ∧ m (g a) = a ∧ g a ≤ np)) ∧ ∀ c, qCnt g c (k + 1) = qCnt col c k + (if e = c then 1 else 0)
theorem qMv_start {k np : Nat} {col : Nat → Nat} {re : Nat → Prop} {m : Nat → Nat} {V : Nat → Prop} {N : Nat → Nat} {e : Nat} (he : e ≤ np) (hr : re e) (hV : V e) : qMv k np col re m V N e col e :=
  ⟨he, hr, hV, fun _ _ => Or.inl rfl, fun _ => rfl⟩
theorem qMv_step {k np : Nat} {col : Nat → Nat} {re : Nat → Prop} {m : Nat → Nat} {V : Nat → Prop} {N : Nat → Nat} {e to : Nat} {cur : Nat → Nat} (hw : qWay k np col re m V N) (h : qMv k np col re m V N e cur to) (hk : m to ≠ k) :
    m to < k ∧ cur (m to) = col (m to) ∧ N (col (m to)) < N to ∧ qMv k np col re m V N e (fun a => if a = m to then to else cur a) (col (m to)) := by
  obtain ⟨h1, h2, h3, h4, h5⟩ := h
  obtain ⟨-, w⟩ := hw to h1 h2
  rcases w with w | ⟨w1, w2, w3, w4, w5⟩
  · exact absurd w hk
  · have hcur : cur (m to) = col (m to) := by
      rcases h4 _ w1 with q | ⟨-, -, -, -, q⟩
      · exact q
      · omega
    refine ⟨w1, hcur, w5, w3, w2, w4 h3, fun a ha => ?_, fun c => ?_⟩
    · by_cases q : a = m to
      · subst q
        right
        simp only [if_true]
        exact ⟨h3, h2, rfl, h1, Nat.le_refl _⟩
      · simp only [if_neg q]
        rcases h4 a ha with z | ⟨z1, z2, z3, z4, z5⟩
        · exact Or.inl z
        · exact Or.inr ⟨z1, z2, z3, z4, by omega⟩
    · have h6 := qCnt_upd (f := cur) (i := m to) (x := to) (c := c) w1
      have h7 := h5 c
      rw [hcur] at h6
      omega
theorem qMv_end {k np : Nat} {col : Nat → Nat} {re : Nat → Prop} {m : Nat → Nat} {V : Nat → Prop} {N : Nat → Nat} {e to : Nat} {cur : Nat → Nat} (h : qMv k np col re m V N e cur to) (hk : m to = k) :
    qMvd k np col re m V e (fun a => if a = k then to else cur a) := by
  obtain ⟨h1, h2, h3, h4, h5⟩ := h
  refine ⟨fun a ha => ?_, fun c => ?_⟩
  · by_cases q : a = k
    · subst q
      right
      simp only [if_true]
      exact ⟨h3, h2, hk, h1⟩
    · simp only [if_neg q]
      rcases h4 a (by omega) with z | ⟨z1, z2, z3, z4, -⟩
      · exact Or.inl ⟨by omega, z⟩
      · exact Or.inr ⟨z1, z2, z3, z4⟩
  · unfold qCnt
    have h6 : qCnt (fun a => if a = k then to else cur a) c k = qCnt cur c k := qCnt_congr (fun a ha => by simp [Nat.ne_of_lt ha])
    rw [h6, if_pos rfl]
    exact h5 c
/-- the row of moves of what is reached: all are done -/
theorem qWay_of {k np : Nat} {op : Nat → Nat → Prop} {v : Nat → Nat → Int} {col : Nat → Nat} {P : Nat → Int} {r t : Nat} {re : Nat → Prop} {m : Nat → Nat} {d : Nat → Int} {T C : Nat → Nat} {e : Nat} (hcol : ∀ b, b < k → col b ≤ np)
    (h : qRel k np op v col P r t re m d T C) : qWay k np col re m (fun c => d e - P e ≤ d c - P c) (qPlace np P d T) := by
  intro c hc hr
  refine ⟨qPlace_le hc, ?_⟩
  rcases h.1 c hc hr with ⟨q, -⟩ | ⟨q1, -, -, q4, q5, -, -⟩
  · exact Or.inl q
  · exact Or.inr ⟨q1, q4, hcol _ q1, fun z => by omega, qPlace_lt (hcol _ q1) (by unfold qAh; simp only [decide_eq_true_eq]; exact q5)⟩
/-- one more applicant shared in: the matching is the greatest, by new prices -/
theorem qExtend {k np : Nat} {cap : Nat → Nat} {op : Nat → Nat → Prop} {v : Nat → Nat → Int} {col g : Nat → Nat} {P : Nat → Int} {r t : Nat} {re : Nat → Prop} {m : Nat → Nat} {d : Nat → Int} {T C : Nat → Nat} {e : Nat}
    (hM : qMat k np cap op col) (hP : qPri k np cap op v col P) (h : qRel k np op v col P r t re m d T C) (hd : ∀ b, b < k → re (col b) → qDone np op v col re d b)
    (he : e ≤ np) (hre : re e) (hfree : e < np → qCnt col e k < cap e) (hbest : ∀ c, c ≤ np → re c → (c = np ∨ qCnt col c k < cap c) → d c ≤ d e)
    (hg : qMvd k np col re m (fun c => d e - P e ≤ d c - P c) e g) : qMat (k + 1) np cap op g ∧ ∃ P1, qPri (k + 1) np cap op v g P1 := by
  obtain ⟨hM1, hM2⟩ := hM
  obtain ⟨P0, Pz, Pf, Pc⟩ := hP
  obtain ⟨hg1, hg2⟩ := hg
  have hcol : ∀ b, b < k → col b ≤ np := fun b hb => (hM1 b hb).1
  have hPe : P e = 0 := by
    by_cases q : e = np
    · rw [q]; exact Pz
    · exact Pf e (by omega) (hfree (by omega))
  have hop : ∀ a, a < k + 1 → g a ≤ np ∧ op a (g a) := fun a ha => by
    rcases hg1 a ha with ⟨q1, q2⟩ | ⟨q1, q2, q3, q4⟩
    · rw [q2]; exact hM1 a q1
    · refine ⟨q4, ?_⟩
      rcases h.1 _ q4 q2 with ⟨z1, z2, -⟩ | ⟨z1, z2, -⟩
      · rw [← q3, z1]; exact z2
      · rw [← q3]
        have : m (g (m (g a))) = m (g a) := by rw [q3]; exact q3
        rw [q3]
        rw [q3] at z2
        exact z2
  refine ⟨⟨hop, fun c hc => ?_⟩, ?_⟩
  · rw [hg2 c]
    have := hM2 c hc
    by_cases q : e = c
    · subst q
      have := hfree hc
      simp; omega
    · simp [q]; omega
  · have hQ : ∃ P1 : Nat → Int, ∀ c, (re c → P1 c = max (P c) (d c - d e)) ∧ (¬ re c → P1 c = P c) := by
      exact ⟨fun c => @ite _ (re c) (Classical.propDecidable (re c)) (max (P c) (d c - d e)) (P c), fun c => ⟨fun q => if_pos q, fun q => if_neg q⟩⟩
    obtain ⟨P1, hP1⟩ := hQ
    have hge : ∀ c, P c ≤ P1 c := fun c => by
      by_cases q : re c
      · rw [(hP1 c).1 q]; omega
      · rw [(hP1 c).2 q]; omega
    have hge2 : ∀ c, re c → d c - d e ≤ P1 c := fun c q => by rw [(hP1 c).1 q]; omega
    -- who hasn't moved is held by the new prices
    have hA : ∀ a, a < k → ∀ c, c ≤ np → op a c → v a c - P1 c ≤ v a (col a) - P1 (col a) := fun a ha c hc ho => by
      have p1 := Pc a ha c hc ho
      by_cases q : re (col a)
      · by_cases z : c = col a
        · subst z; exact Int.le_refl _
        · obtain ⟨y1, y2⟩ := hd a ha q c hc ho z
          have y3 := hge2 c y1
          have y4 := hge c
          rw [(hP1 (col a)).1 q]
          omega
      · rw [(hP1 (col a)).2 q]
        have := hge c
        omega
    refine ⟨P1, fun c hc => Int.le_trans (P0 c hc) (hge c), ?_, fun c hc hlt => ?_, fun a ha c hc ho => ?_⟩
    · by_cases q : re np
      · have := hbest np (Nat.le_refl _) q (Or.inl rfl)
        rw [(hP1 np).1 q, Pz]
        omega
      · rw [(hP1 np).2 q, Pz]
    · rw [hg2 c] at hlt
      have hlt0 : qCnt col c k < cap c := by omega
      have p0 := Pf c hc hlt0
      by_cases q : re c
      · have := hbest c (by omega) q (Or.inr hlt0)
        rw [(hP1 c).1 q, p0]
        omega
      · rw [(hP1 c).2 q, p0]
    · rcases hg1 a ha with ⟨q1, q2⟩ | ⟨q1, q2, q3, q4⟩
      · rw [q2]
        exact hA a q1 c hc ho
      · have e1 : P1 (g a) = d (g a) - d e := by rw [(hP1 _).1 q2]; omega
        rcases h.1 _ q4 q2 with ⟨z1, z2, z3, -⟩ | ⟨z1, z2, z3, z4, z5, z6, z7⟩
        · rw [q3] at z1
          subst z1
          obtain ⟨y1, y2⟩ := h.2.2 c hc ho
          have y3 := hge2 c y1
          omega
        · rw [q3] at z1 z2 z3 z4 z5 z7
          have y1 := hA a z1 c hc ho
          obtain ⟨y2, y3⟩ := hd a z1 z4 (g a) q4 z2 (fun w => z3 w.symm)
          have e2 : P1 (col a) = d (col a) - d e := by rw [(hP1 _).1 z4]; omega
          omega
