/-! BLOCKS: rows of one kind, by their numbers -/
def qB (l : List Nat) (ra : Nat → Nat) (e : Nat → va_E) : va_W := l.map (fun j => (ra j, e j))
/-- an outer array's references -/
def qO (n : Nat) (ra : Nat → Nat) : Nat → Option Nat := fun i => if i < n then some (ra i) else none
def qUp {α : Type} (R : Nat → α) (i : Nat) (x : α) : Nat → α := fun j => if j = i then x else R j
theorem qUp_eq {α : Type} {R : Nat → α} {i : Nat} {x : α} : qUp R i x i = x := if_pos rfl
theorem qUp_ne {α : Type} {R : Nat → α} {i j : Nat} {x : α} (h : j ≠ i) : qUp R i x j = R j := if_neg h
theorem qO_rf {n k : Nat} {ra : Nat → Nat} {x : Nat} (hx : x = k) (hk : k < n) : va_rf (qO n ra x) = .ref (ra k) := by
  subst hx
  unfold qO
  rw [if_pos hk]
  rfl
theorem qB_setp {pre post : va_W} {l : List Nat} {ra : Nat → Nat} {e : Nat → va_E} {i n : Nat} {x : va_E} (hi : i < n) (h : ∀ {ra : Nat → Nat} {e : Nat → va_E} {i : Nat} {x : va_E} {post : va_W}, i < n → (qB l ra e ++ post).set i (ra i, x) = qB l ra (qUp e i x) ++ post) :
    (pre ++ (qB l ra e ++ post)).set (pre.length + i) (ra i, x) = pre ++ (qB l ra (qUp e i x) ++ post) := by
  rw [List.set_append_right (by omega), Nat.add_sub_cancel_left, h hi]
theorem qB_funI {c : ClassId} {n i : Nat} {R : Nat → Nat → Int32} {g : Nat → Int32} : (qUp (fun j => .inl (c, n, .inl (R j))) i (.inl (c, n, .inl g)) : Nat → va_E) = fun j => .inl (c, n, .inl (qUp R i g j)) := by
  funext j
  unfold qUp
  split <;> rfl
theorem qB_funJ {c : ClassId} {n i : Nat} {R : Nat → Nat → Int64} {g : Nat → Int64} : (qUp (fun j => .inl (c, n, .inr (.inl (R j)))) i (.inl (c, n, .inr (.inl g))) : Nat → va_E) = fun j => .inl (c, n, .inr (.inl (qUp R i g j))) := by
  funext j
  unfold qUp
  split <;> rfl
def q10 : List Nat := [0, 1, 2, 3, 4, 5, 6, 7, 8, 9]
theorem q10_at : ∀ i : Nat, i < 10 → q10[i]? = some i := by
  intro i hi
  rcases (show i = 0 ∨ i = 1 ∨ i = 2 ∨ i = 3 ∨ i = 4 ∨ i = 5 ∨ i = 6 ∨ i = 7 ∨ i = 8 ∨ i = 9 by omega) with rfl | rfl | rfl | rfl | rfl | rfl | rfl | rfl | rfl | rfl <;> rfl
theorem qB_at10 {ws : va_W} {k0 : Nat} {ra : Nat → Nat} {e : Nat → va_E} (h0 : ws[k0 + 0]? = some (ra 0, e 0)) (h1 : ws[k0 + 1]? = some (ra 1, e 1)) (h2 : ws[k0 + 2]? = some (ra 2, e 2)) (h3 : ws[k0 + 3]? = some (ra 3, e 3)) (h4 : ws[k0 + 4]? = some (ra 4, e 4)) (h5 : ws[k0 + 5]? = some (ra 5, e 5)) (h6 : ws[k0 + 6]? = some (ra 6, e 6)) (h7 : ws[k0 + 7]? = some (ra 7, e 7)) (h8 : ws[k0 + 8]? = some (ra 8, e 8)) (h9 : ws[k0 + 9]? = some (ra 9, e 9)) {i : Nat} (hi : i < 10) : ws[k0 + i]? = some (ra i, e i) := by
  rcases (show i = 0 ∨ i = 1 ∨ i = 2 ∨ i = 3 ∨ i = 4 ∨ i = 5 ∨ i = 6 ∨ i = 7 ∨ i = 8 ∨ i = 9 by omega) with rfl | rfl | rfl | rfl | rfl | rfl | rfl | rfl | rfl | rfl
  · exact h0
  · exact h1
  · exact h2
  · exact h3
  · exact h4
  · exact h5
  · exact h6
  · exact h7
  · exact h8
  · exact h9
theorem qB_set10 {ra : Nat → Nat} {e : Nat → va_E} {i : Nat} {x : va_E} {post : va_W} (hi : i < 10) : (qB q10 ra e ++ post).set i (ra i, x) = qB q10 ra (qUp e i x) ++ post := by
  rcases (show i = 0 ∨ i = 1 ∨ i = 2 ∨ i = 3 ∨ i = 4 ∨ i = 5 ∨ i = 6 ∨ i = 7 ∨ i = 8 ∨ i = 9 by omega) with rfl | rfl | rfl | rfl | rfl | rfl | rfl | rfl | rfl | rfl <;> rfl
theorem qB_putP10I {D : va_G} {cl : List vw_C} {H : Heap} {k0 : Nat} {pre post : va_W} {ra : Nat → Nat} {c : ClassId} {n : Nat} {R : Nat → Nat → Int32} {i : Nat} {g : Nat → Int32} (hk : pre.length = k0) (hi : i < 10) (h : va_P D cl ((pre ++ (qB q10 ra (fun j => .inl (c, n, .inl (R j))) ++ post)).set (k0 + i) (ra i, .inl (c, n, .inl (g)))) H) : va_P D cl (pre ++ (qB q10 ra (fun j => .inl (c, n, .inl (qUp R i g j))) ++ post)) H := by
  subst hk
  rw [qB_setp hi qB_set10, qB_funI] at h
  exact h
theorem qB_putD10I {A : Nat → Prop} {k0 : Nat} {pre post : va_W} {ra : Nat → Nat} {c : ClassId} {n : Nat} {R : Nat → Nat → Int32} {i : Nat} {g : Nat → Int32} (hk : pre.length = k0) (hi : i < 10) (h : va_D A ((pre ++ (qB q10 ra (fun j => .inl (c, n, .inl (R j))) ++ post)).set (k0 + i) (ra i, .inl (c, n, .inl (g))))) : va_D A (pre ++ (qB q10 ra (fun j => .inl (c, n, .inl (qUp R i g j))) ++ post)) := by
  subst hk
  rw [qB_setp hi qB_set10, qB_funI] at h
  exact h
theorem qB_putP10J {D : va_G} {cl : List vw_C} {H : Heap} {k0 : Nat} {pre post : va_W} {ra : Nat → Nat} {c : ClassId} {n : Nat} {R : Nat → Nat → Int64} {i : Nat} {g : Nat → Int64} (hk : pre.length = k0) (hi : i < 10) (h : va_P D cl ((pre ++ (qB q10 ra (fun j => .inl (c, n, .inr (.inl (R j)))) ++ post)).set (k0 + i) (ra i, .inl (c, n, .inr (.inl (g))))) H) : va_P D cl (pre ++ (qB q10 ra (fun j => .inl (c, n, .inr (.inl (qUp R i g j)))) ++ post)) H := by
  subst hk
  rw [qB_setp hi qB_set10, qB_funJ] at h
  exact h
theorem qB_putD10J {A : Nat → Prop} {k0 : Nat} {pre post : va_W} {ra : Nat → Nat} {c : ClassId} {n : Nat} {R : Nat → Nat → Int64} {i : Nat} {g : Nat → Int64} (hk : pre.length = k0) (hi : i < 10) (h : va_D A ((pre ++ (qB q10 ra (fun j => .inl (c, n, .inr (.inl (R j)))) ++ post)).set (k0 + i) (ra i, .inl (c, n, .inr (.inl (g)))))) : va_D A (pre ++ (qB q10 ra (fun j => .inl (c, n, .inr (.inl (qUp R i g j)))) ++ post)) := by
  subst hk
  rw [qB_setp hi qB_set10, qB_funJ] at h
  exact h
def q14 : List Nat := [0, 1, 2, 3, 4, 5, 6, 7, 8, 9, 10, 11, 12, 13]
theorem q14_at : ∀ i : Nat, i < 14 → q14[i]? = some i := by
  intro i hi
  rcases (show i = 0 ∨ i = 1 ∨ i = 2 ∨ i = 3 ∨ i = 4 ∨ i = 5 ∨ i = 6 ∨ i = 7 ∨ i = 8 ∨ i = 9 ∨ i = 10 ∨ i = 11 ∨ i = 12 ∨ i = 13 by omega) with rfl | rfl | rfl | rfl | rfl | rfl | rfl | rfl | rfl | rfl | rfl | rfl | rfl | rfl <;> rfl
theorem qB_at14 {ws : va_W} {k0 : Nat} {ra : Nat → Nat} {e : Nat → va_E} (h0 : ws[k0 + 0]? = some (ra 0, e 0)) (h1 : ws[k0 + 1]? = some (ra 1, e 1)) (h2 : ws[k0 + 2]? = some (ra 2, e 2)) (h3 : ws[k0 + 3]? = some (ra 3, e 3)) (h4 : ws[k0 + 4]? = some (ra 4, e 4)) (h5 : ws[k0 + 5]? = some (ra 5, e 5)) (h6 : ws[k0 + 6]? = some (ra 6, e 6)) (h7 : ws[k0 + 7]? = some (ra 7, e 7)) (h8 : ws[k0 + 8]? = some (ra 8, e 8)) (h9 : ws[k0 + 9]? = some (ra 9, e 9)) (h10 : ws[k0 + 10]? = some (ra 10, e 10)) (h11 : ws[k0 + 11]? = some (ra 11, e 11)) (h12 : ws[k0 + 12]? = some (ra 12, e 12)) (h13 : ws[k0 + 13]? = some (ra 13, e 13)) {i : Nat} (hi : i < 14) : ws[k0 + i]? = some (ra i, e i) := by
  rcases (show i = 0 ∨ i = 1 ∨ i = 2 ∨ i = 3 ∨ i = 4 ∨ i = 5 ∨ i = 6 ∨ i = 7 ∨ i = 8 ∨ i = 9 ∨ i = 10 ∨ i = 11 ∨ i = 12 ∨ i = 13 by omega) with rfl | rfl | rfl | rfl | rfl | rfl | rfl | rfl | rfl | rfl | rfl | rfl | rfl | rfl
  · exact h0
  · exact h1
  · exact h2
  · exact h3
  · exact h4
  · exact h5
  · exact h6
  · exact h7
  · exact h8
  · exact h9
  · exact h10
  · exact h11
  · exact h12
  · exact h13
theorem qB_set14 {ra : Nat → Nat} {e : Nat → va_E} {i : Nat} {x : va_E} {post : va_W} (hi : i < 14) : (qB q14 ra e ++ post).set i (ra i, x) = qB q14 ra (qUp e i x) ++ post := by
  rcases (show i = 0 ∨ i = 1 ∨ i = 2 ∨ i = 3 ∨ i = 4 ∨ i = 5 ∨ i = 6 ∨ i = 7 ∨ i = 8 ∨ i = 9 ∨ i = 10 ∨ i = 11 ∨ i = 12 ∨ i = 13 by omega) with rfl | rfl | rfl | rfl | rfl | rfl | rfl | rfl | rfl | rfl | rfl | rfl | rfl | rfl <;> rfl
theorem qB_putP14I {D : va_G} {cl : List vw_C} {H : Heap} {k0 : Nat} {pre post : va_W} {ra : Nat → Nat} {c : ClassId} {n : Nat} {R : Nat → Nat → Int32} {i : Nat} {g : Nat → Int32} (hk : pre.length = k0) (hi : i < 14) (h : va_P D cl ((pre ++ (qB q14 ra (fun j => .inl (c, n, .inl (R j))) ++ post)).set (k0 + i) (ra i, .inl (c, n, .inl (g)))) H) : va_P D cl (pre ++ (qB q14 ra (fun j => .inl (c, n, .inl (qUp R i g j))) ++ post)) H := by
  subst hk
  rw [qB_setp hi qB_set14, qB_funI] at h
  exact h
theorem qB_putD14I {A : Nat → Prop} {k0 : Nat} {pre post : va_W} {ra : Nat → Nat} {c : ClassId} {n : Nat} {R : Nat → Nat → Int32} {i : Nat} {g : Nat → Int32} (hk : pre.length = k0) (hi : i < 14) (h : va_D A ((pre ++ (qB q14 ra (fun j => .inl (c, n, .inl (R j))) ++ post)).set (k0 + i) (ra i, .inl (c, n, .inl (g))))) : va_D A (pre ++ (qB q14 ra (fun j => .inl (c, n, .inl (qUp R i g j))) ++ post)) := by
  subst hk
  rw [qB_setp hi qB_set14, qB_funI] at h
  exact h
theorem qB_putP14J {D : va_G} {cl : List vw_C} {H : Heap} {k0 : Nat} {pre post : va_W} {ra : Nat → Nat} {c : ClassId} {n : Nat} {R : Nat → Nat → Int64} {i : Nat} {g : Nat → Int64} (hk : pre.length = k0) (hi : i < 14) (h : va_P D cl ((pre ++ (qB q14 ra (fun j => .inl (c, n, .inr (.inl (R j)))) ++ post)).set (k0 + i) (ra i, .inl (c, n, .inr (.inl (g))))) H) : va_P D cl (pre ++ (qB q14 ra (fun j => .inl (c, n, .inr (.inl (qUp R i g j)))) ++ post)) H := by
  subst hk
  rw [qB_setp hi qB_set14, qB_funJ] at h
  exact h
theorem qB_putD14J {A : Nat → Prop} {k0 : Nat} {pre post : va_W} {ra : Nat → Nat} {c : ClassId} {n : Nat} {R : Nat → Nat → Int64} {i : Nat} {g : Nat → Int64} (hk : pre.length = k0) (hi : i < 14) (h : va_D A ((pre ++ (qB q14 ra (fun j => .inl (c, n, .inr (.inl (R j)))) ++ post)).set (k0 + i) (ra i, .inl (c, n, .inr (.inl (g)))))) : va_D A (pre ++ (qB q14 ra (fun j => .inl (c, n, .inr (.inl (qUp R i g j)))) ++ post)) := by
  subst hk
  rw [qB_setp hi qB_set14, qB_funJ] at h
  exact h
