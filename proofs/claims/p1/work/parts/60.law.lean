/-- what the law's walk stands on: the machine, the words, the script of four ints, what throws and lists ask -/
def yLw (p : Program) (l : Launch) (s : State) (m : MethodId) (meth : Method) (c : Code) (tE b : Nat) (xs : Nat → Int32) (A : Nat → Prop) : Prop :=
  p.tables.exec = Jvm.exec ∧ c.code = cL_law ∧ meth.sig.returnType = ret ∧ c.maxLocals = 9 ∧ s.vm.findClass RL = some m.cls ∧ (∀ w ∈ wsL_law, w.before #[Value.ref b] s = true) ∧ va_X b 4 xs s s.heap ∧ b < s.heap.size ∧ meth.locks = false ∧ yE tE A s s.heap ∧ A = (fun q : Nat => s.heap.size ≤ q) ∧ l.stackTraces = false
/-- the end: true -/
theorem yl_true {p : Program} {l : Launch} {e : Env} {s : State} {m : MethodId} {below : List Frame} {meth : Method} {c : Code} {b : Nat} {A : Nat → Prop} {H : Heap} {locs : List Loc} {ls : Array Slot} {cells slots : Nat} (hx : p.tables.exec = Jvm.exec) (hb : c.code = cL_law) (hr : meth.sig.returnType = ret) (hlocks : meth.locks = false) (hA0 : A = (fun q : Nat => s.heap.size ≤ q)) (hS : va_S A s.heap H locs) (hc : cells ≤ 600006) (hs : slots ≤ 7302096) :
    W p l e room_1 s m #[Value.ref b] below meth c H locs cells slots (lw_Z below #[Value.ref b] s) (F0 m 2347 ls []) := by
  refine lv_iconst (v := 1) hx hb dL_law_2347 (by decide) ?_
  refine va_forget (fun q hq => by have h := hS.2.2 q hq; rw [hA0] at h; exact h) ?_
  refine W.widen (k := 600006) (n := 7302096) hc hs ?_
  exact lw_ret (d0 := s.drawn) (Drawn.sameBut.refl s.drawn lw_cs) hx hb hr hlocks dL_law_2348
set_option maxHeartbeats 4000000 in
/-- behind a call: the loop ends -/
theorem yl_end {p : Program} {l : Launch} {e : Env} {s : State} {m : MethodId} {below : List Frame} {meth : Method} {c : Code} {tE b : Nat} {xs : Nat → Int32} {A : Nat → Prop} {H : Heap} {locs : List Loc} {ls : Array Slot} {cells slots : Nat} (C0 : yLw p l s m meth c tE b xs A) (hS : va_S A s.heap H locs) (hl : lv_has ls 9 [(0, .ref b), (5, .int 0)]) (hc : cells ≤ 600006) (hs : slots ≤ 7302096) :
    W p l e room_1 s m #[Value.ref b] below meth c H locs cells slots (lw_Z below #[Value.ref b] s) (F0 m 2341 ls []) := by
  obtain ⟨hx, hb, hr, hml, hown, hts, hX, hbl, hlocks, hE, hA0, hfl⟩ := C0
  have hbA : ¬ A b := by rw [hA0]; exact Nat.not_le.mpr hbl
  refine lv_iinc (v := 4) (lv' := [(5, .int 4), (0, .ref b)]) hx hb dL_law_2341 hl (k := 1) rfl (by decide) (by decide) rfl (fun ls hl => ?_)
  refine lv_goto (tgt := 28) hx hb dL_law_2344 (by decide) ?_
  refine lv_iload hx hb dL_law_28 (lv_at hl 0 rfl) ?_
  refine lv_aload_n hx hb dL_law_30 rfl (lv_at hl 1 rfl) ?_
  refine va_slen hx hb hX hbl hbA hS dL_law_31 ?_
  refine lv_iconst (v := 4) hx hb dL_law_32 (by decide) ?_
  refine lv_isub hx hb dL_law_33 ?_
  refine lv_icmp_gt (tgt := 2347) hx hb dL_law_34 (by decide) (fun _ => ?_) (fun h => absurd (by decide) h)
  exact yl_true hx hb hr hlocks hA0 hS hc hs

