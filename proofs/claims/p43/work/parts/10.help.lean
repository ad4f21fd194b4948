/-! WORDS OF MY OWN: the environment of a throw, one form of a contract's start and end, one row a call -/
/-- the exceptions that the class throws -/
def yEx : List String := ["java/lang/IllegalArgumentException", "java/lang/IllegalStateException", "java/lang/IndexOutOfBoundsException", "java/lang/UnsupportedOperationException", "java/util/NoSuchElementException", "java/lang/ArithmeticException"]
/-- the chain's super constructors, that are declared -/
def yDc : List String := ["java/lang/RuntimeException", "java/lang/Exception", Bundle.tN]
/-- a throw's words that no list holds -/
def yNg (cls : String) : List Cond := [.castable cls cls, .declares (Bundle.initS "java/lang/RuntimeException"), .declares (Bundle.initS "java/lang/Exception"), .declares (Bundle.initS Bundle.tN)]
/-- casts that hold: each exception to itself; an array's clone; the lists -/
def yCa : List (String × String) := [("java/lang/StringBuilder", "java/lang/StringBuilder"), ("java/lang/String", "java/lang/String"), ("java/lang/String", "java/lang/Object"), ("java/lang/StringBuilder", "java/lang/AbstractStringBuilder")]
/-- constructors of nest mates -/
def yNl : List (String × Nat × MethodName × String) := [(RX5, 9, yX2_init, RX5), (RX5, 18, yX4_init, RX5), (RX5, 25, yX1_init, RX5), (RX5, 32, yX0_init, RX5), (RX1, 23, yX3_init, RX5)]
/-- calls by an interface -/
def yFw : List (String × MethodName × MethodName) := []
theorem yFw_ok : ∀ q ∈ yFw, q.2.1.cls ≠ "java/lang/invoke/MethodHandle" ∧ q.2.1.cls ≠ "java/lang/invoke/VarHandle" := fun _ h => nomatch h
/-- the texts of the class, by their places -/
def yTx : List (String × Nat × String) := [(RX5, 65, "no more applicants"), (RX5, 76, "no more posts"), (RX5, 275, "number out of range"), (RX5, 279, "no such applicant"), (RX5, 282, "no such post"), (RX5, 94, "more have it in hand"), (RX5, 109, "no sign of a list"), (RX5, 116, "no more signs"), (RX5, 129, "no list"), (RX5, 138, "no such sign"), (RX5, 152, "the post can't be given"), (RX5, 154, "no post in hand"), (RX5, 156, "no more kept ones"), (RX5, 284, "no such kept matching"), (RX5, 171, "no matching by now"), (RX5, 198, "no winner"), (RX5, 204, "it does not lead there"), (RX5, 286, "weights are unlike"), (RX5, 220, "no popular one"), (RX5, 251, "no applicants"), (RX5, 254, "nobody has a post")]
theorem y_findIdx {s : State} {comp c : ClassId} {k : Class} {ty : FieldType} (h : (s.vm.classes.findIdx? fun (x : Class) => match x.kind with | .array component _ => component == comp | _ => false) = some c) (hk : s.vm.classes[c]? = some k) (hkind : ∃ comp9, k.kind = .array comp9 ty) : k.kind = .array comp ty := by
  obtain ⟨hlt, hp, -⟩ := Array.findIdx?_eq_some_iff_getElem.mp h
  have hkk : s.vm.classes[c] = k := (Array.getElem?_eq_some_iff.mp hk).2
  obtain ⟨comp9, hk9⟩ := hkind
  rw [hkk, hk9] at hp
  have e : comp9 = comp := by simpa using hp
  rw [hk9, e]
theorem va_AOA.moved {ty : FieldType} {u U : State} (hvm : u.vm.Alike U.vm) (h : va_AOA ty u) : va_AOA ty U := by
  unfold va_AOA Cond.before Cond.holds at h ⊢
  simp only [Cond.value, beq_iff_eq, Option.bind_eq_some_iff, Option.map_eq_some_iff] at h ⊢
  obtain ⟨comp, h1, c, h2, k, h3, h4⟩ := h
  obtain ⟨k', hk', he⟩ := hvm.2.2 _ _ h3
  refine ⟨comp, by rw [hvm.findClass]; exact h1, c, ?_, k', hk', ?_⟩
  · have e1 := va_idx_bare U.vm comp
    have e2 := va_idx_bare u.vm comp
    rw [hvm.bare_eq] at e1
    exact e1.symm.trans (e2.trans h2)
  · rw [he]
    show _ = true
    rw [hvm.findClass]
    exact h4
/-- a nest mate's static -/
def yFl : List (String × Nat) := [("Mostwell$Sharing", 62), ("Mostwell$Finder", 82)]
/-- where the static arrays of numbers stand, and what they hold -/
abbrev yG : Type := (Nat → Nat) × (Nat → Nat → Value)
/-- the static arrays of numbers -/
def yAr : List (Nat × String × String × String × FieldType × Nat) := [(0, "Mostwell", "ELEVENS", "[J", .long, 10), (1, "java/lang/Integer", "DigitTens", "[B", .byte, 100), (2, "java/lang/Integer", "DigitOnes", "[B", .byte, 100), (3, "jdk/internal/math/MathUtils", "g", "[J", .long, 1234), (4, "jdk/internal/math/MathUtils", "pow10", "[J", .long, 18)]
/-- an array's place by its number; what it holds is a number of its kind -/
def yNum (ty : FieldType) (v : Value) : Prop := (ty = .long ∧ ∃ x : Int64, v = .long x) ∨ (ty = .byte ∧ ∃ x : Int32, v = .int x ∧ narrow .byte (.int x) = .int x)
def yArs (t : yG) (A : Nat → Prop) (U : State) (H : Heap) : Prop := ∀ q ∈ yAr, va_Z q.2.1 q.2.2.1 q.2.2.2.1 (.ref (t.1 q.1)) A U H ∧ va_T q.2.2.2.2.1 (t.1 q.1) q.2.2.2.2.2 (t.2 q.1) A U H
/-- 11 to the powers 9 to 0 -/
def qEl64 (a : Nat) : Int64 := Int64.ofInt (11 ^ (9 - a))
def yVal (t : yG) : Prop := (∀ a, a < 10 → t.2 0 a = .long (qEl64 a)) ∧ ∀ q ∈ yAr, ∀ j, j < q.2.2.2.2.2 → yNum q.2.2.2.2.1 (t.2 q.1 j)
/-- what a throw, String and the static arrays ask of the heap -/
def yH (tE : yG) (A : Nat → Prop) (U : State) (H : Heap) : Prop :=
  vx_Zq Bundle.tN "UNASSIGNED_STACK" Bundle.steD A U H ∧ vx_Zq Bundle.tN "SUPPRESSED_SENTINEL" Bundle.listD A U H ∧ va_Z "java/lang/String" "COMPACT_STRINGS" "Z" (.int 1) A U H ∧ yArs tE A U H ∧ yVal tE
/-- what a throw and its catching, an array of arrays, a clone and an iterator ask of the tables -/
def yT (U : State) : Prop :=
  (∀ n ∈ yEx, va_Nw (.castable n n) U) ∧ (∀ q ∈ yTx, ∃ a, vk_R q.1 q.2.1 q.2.2 a U) ∧ (∀ a ∈ yEx, ∀ b ∈ yEx, a ≠ b → va_Nc a b U) ∧ (∀ q ∈ yCa, va_Nw (.castable q.1 q.2) U) ∧ va_AOA .int U ∧ va_AOA .long U ∧ (∀ q ∈ yFw, va_Fw q.1 q.2.1 q.2.2 U) ∧ (∀ n ∈ yDc, va_Nw (.declares (Bundle.initS n)) U) ∧ (∀ q ∈ yNl, va_Nw (.methodLinkNest q.1 q.2.1 q.2.2.1 q.2.2.2) U) ∧ (∀ q ∈ yFl, va_Nw (.fieldLinkNest q.1 q.2 "Mostwell" "ELEVENS" "[J" "Mostwell") U)
def yE (tE : yG) (A : Nat → Prop) (U : State) (H : Heap) : Prop := yH tE A U H ∧ yT U
theorem yH.warm {tE : yG} {A : Nat → Prop} {s U : State} {H : Heap} (hW : s.WarmedH U.vm) (h : yH tE A s H) : yH tE A U H :=
  ⟨vx_Zq.moved hW.alike h.1, vx_Zq.moved hW.alike h.2.1, va_Z.moved hW.alike h.2.2.1, fun q hq => ⟨va_Z.moved hW.alike (h.2.2.2.1 q hq).1, va_T.moved hW.alike (h.2.2.2.1 q hq).2⟩, h.2.2.2.2⟩
theorem yT.warm {s U : State} (hW : s.WarmedH U.vm) (h : yT s) : yT U :=
  ⟨fun n hn => va_Nw.warmC hW (h.1 n hn), fun q hq => by obtain ⟨a, ha⟩ := h.2.1 q hq; exact ⟨a, vk_R.warm hW ha⟩, fun a ha b hb hab => va_Nc.moved hW.alike (h.2.2.1 a ha b hb hab), fun q hq => va_Nw.warmC hW (h.2.2.2.1 q hq), va_AOA.moved hW.alike h.2.2.2.2.1, va_AOA.moved hW.alike h.2.2.2.2.2.1, fun q hq => va_Fw.moved (yFw_ok q hq) hW.alike (h.2.2.2.2.2.2.1 q hq), fun n hn => va_Nw.warmD hW (h.2.2.2.2.2.2.2.1 n hn), fun q hq => va_Nw.warmM hW (h.2.2.2.2.2.2.2.2.1 q hq), fun q hq => va_Nw.warmF hW (h.2.2.2.2.2.2.2.2.2 q hq)⟩
theorem yE.fl {tE : yG} {A : Nat → Prop} {s : State} {H : Heap} (h : yE tE A s H) : ∀ q ∈ yFl, va_Nw (.fieldLinkNest q.1 q.2 "Mostwell" "ELEVENS" "[J" "Mostwell") s := h.2.2.2.2.2.2.2.2.2.2
theorem yE.nl {tE : yG} {A : Nat → Prop} {s : State} {H : Heap} (h : yE tE A s H) : ∀ q ∈ yNl, va_Nw (.methodLinkNest q.1 q.2.1 q.2.2.1 q.2.2.2) s := h.2.2.2.2.2.2.2.2.2.1
theorem yE.ca {tE : yG} {A : Nat → Prop} {s : State} {H : Heap} (h : yE tE A s H) : ∀ q ∈ yCa, va_Nw (.castable q.1 q.2) s := h.2.2.2.2.1
theorem yE.warm {tE : yG} {A : Nat → Prop} {s U : State} {H : Heap} (hW : s.WarmedH U.vm) (h : yE tE A s H) : yE tE A U H := ⟨h.1.warm hW, h.2.warm hW⟩
theorem yE.same {tE : yG} {A : Nat → Prop} {s U : State} {H : Heap} (hv : s.vm = U.vm) (h : yE tE A s H) : yE tE A U H := yE.warm (s := s) (by rw [← hv]; exact State.WarmedH.refl s) h
theorem yE.kept {tE : yG} {A : Nat → Prop} {U : State} {H H1 : Heap} (h : yE tE A U H) (hq : ∀ a : Nat, a < H.size → ¬ A a → H1[a]? = H[a]?) : yE tE A U H1 := ⟨⟨h.1.1.kept hq, h.1.2.1.kept hq, h.1.2.2.1.kept hq, fun q9 h9 => ⟨(h.1.2.2.2.1 q9 h9).1.kept hq, (h.1.2.2.2.1 q9 h9).2.kept hq⟩, h.1.2.2.2.2⟩, h.2⟩
theorem yE.narrow {tE : yG} {A B : Nat → Prop} {U : State} {H : Heap} (h : yE tE A U H) (hAB : ∀ q, B q → A q) : yE tE B U H := ⟨⟨h.1.1.narrow hAB, h.1.2.1.narrow hAB, h.1.2.2.1.narrow hAB, fun q9 h9 => ⟨(h.1.2.2.2.1 q9 h9).1.narrow hAB, (h.1.2.2.2.1 q9 h9).2.narrow hAB⟩, h.1.2.2.2.2⟩, h.2⟩
theorem y_nlt {a b : Int32} (h : ¬ a < b) : b ≤ a := by
  rw [Int32.le_iff_toInt_le]; rw [Int32.lt_iff_toInt_lt] at h; omega
theorem y_nle {a b : Int32} (h : ¬ a ≤ b) : b < a := by
  rw [Int32.lt_iff_toInt_lt]; rw [Int32.le_iff_toInt_le] at h; omega
theorem y_no {a b : Int32} (h1 : a ≤ b) (h2 : b < a) : False := by
  rw [Int32.lt_iff_toInt_lt] at h2; rw [Int32.le_iff_toInt_le] at h1; omega
/-- the room of a method that stands k levels above the leaves -/
abbrev yR (k c s : Nat) : Room := { frames := 10 * (k + 1), cells := c, slots := s, locals := 200 * (k + 1) }
/-- a contract's start: the arguments, the world, the classes of its arrays, a throw's environment -/
def yP (D : va_G) (tE : yG) (ws : va_W) (tys : List (ClassId × FieldType)) (sz : Nat) (av : List Value) : Array Value → State → Prop :=
  va_Pc av (fun U => U.heap.size = sz ∧ va_P D vwCl ws U.heap ∧ va_K D vwCl tys U ∧ va_D (fun _ => True) ws ∧ yE tE (va_A ws sz) U U.heap)
theorem yP.blind {D : va_G} {tE : yG} {ws : va_W} {tys : List (ClassId × FieldType)} {sz : Nat} {av : List Value} : FrameBlind (yP D tE ws tys sz av) := fun a U g mk q => by
  obtain ⟨q0, q1, qP, qK, qD, qE⟩ := q
  exact ⟨q0, q1, qP, va_K.moved (u := U) (U := U.calling g mk a) (Vm.Alike.refl U.vm) qK, qD, yE.same (s := U) (U := U.calling g mk a) rfl qE⟩
/-- a world behind a method -/
abbrev yB (D : va_G) (A : Nat → Prop) (ws : va_W) (t : State) : Prop := va_P D vwCl ws t.heap ∧ va_D A ws
/-- .. and behind its throw: the class, the world -/
abbrev yX (D : va_G) (ws : va_W) (sz : Nat) (px : String → Prop) (wx : va_W) : String → State → State → Prop := vx_X (S := Unit) (fun _ => True) (fun E _ t => px E ∧ yB D (va_A ws sz) wx t) (va_A ws sz)
theorem y_fm {α β : Type} {f : α → Option β} : ∀ {l : List α} {w : List β}, l.map f = w.map some → l.filterMap f = w
  | [], [], _ => rfl
  | [], _ :: _, h => by cases h
  | _ :: _, [], h => by cases h
  | a :: l, b :: w, h => by
    rw [List.map_cons, List.map_cons] at h
    have h1 := (List.cons.inj h).1
    have h2 := (List.cons.inj h).2
    rw [List.filterMap_cons_some h1, y_fm h2]
theorem yPreS {s : State} {H : Heap} {D : va_G} {tE : yG} {A : Nat → Prop} {ws wc : va_W} {tys tc : List (ClassId × FieldType)} {locs : List Loc} {av : List Value} (hK : va_K D vwCl tys s) (hP : va_P D vwCl ws H) (hD : va_D A ws) (hS : va_S A s.heap H locs) (hA : ∀ q, s.heap.size ≤ q → A q) (hE : yE tE A s s.heap)
    (isC ts : List Nat) (hn : va_nd isC = true) (hC : isC.map (fun i => ws[i]?) = wc.map some) (ht : ts.filterMap (fun i => tys[i]?) = tc) : PreS s H (yP D tE wc tc H.size av) av :=
  ⟨yP.blind, fun U hU hW => ⟨rfl, by rw [hU], by rw [hU]; exact hP.sub isC (y_fm hC), va_K.moved hW.alike (hK.sub ts ht), (hD.sub isC hn hC).weaken (fun _ _ _ _ => trivial), by rw [hU]; exact yE.warm hW ((hE.kept hS.2.1).narrow (va_free hD hS hA isC hC))⟩⟩
theorem yPreV {s : State} {H : Heap} {D : va_G} {tE : yG} {A : Nat → Prop} {ws wc : va_W} {tys tc : List (ClassId × FieldType)} {locs : List Loc} {av : List Value} {b q0 ci : Nat} {fs : List Value} {q : vw_C} (hK : va_K D vwCl tys s) (hP : va_P D vwCl ws H) (hD : va_D A ws) (hS : va_S A s.heap H locs) (hA : ∀ q, s.heap.size ≤ q → A q) (hE : yE tE A s s.heap)
    (isC ts : List Nat) (hn : va_nd isC = true) (hC : isC.map (fun i => ws[i]?) = wc.map some) (ht : ts.filterMap (fun i => tys[i]?) = tc) (hc : vwCl[ci]? = some q) (he : ws[q0]? = some (b, .inr (ci, fs))) : PreV s H q.1 b (yP D tE wc tc H.size (.ref b :: av)) av :=
  ⟨yP.blind, va_recv hK hP hc he, (yPreS hK hP hD hS hA hE isC ts hn hC ht).2⟩
section YC
variable {p : Program} {l : Launch} {e : Env} {R : Room} {s : State} {m : MethodId} {args : Array Value} {below : List Frame} {meth : Method} {c : Code} {H : Heap} {locs : List Loc} {cells slots : Nat} {Q : State → Prop}
variable {pc : Nat} {ls : Array Slot} {rest st0 : List Value} {a : Array Value} {A : Nat → Prop} {H0 : Heap} {mc ms : Nat} {D : va_G} {ws wc wr : va_W}
theorem yc_i {S : Type} {post : Int32 → S → Prop} {w : S → va_W} (hr : va_Run p l e R s m args below meth c H locs cells slots mc ms (F0 m pc ls st0) rest (va_Qi post (fun u t => yB D (va_A wc H.size) (w u) t) (va_A wc H.size) a) (va_A wc H.size))
    (hP : va_P D vwCl ws H) (hD : va_D A ws) (hS : va_S A H0 H locs) (hA : ∀ q, H0.size ≤ q → A q) (isC isR : List Nat) (hC : isC.map (fun i => ws[i]?) = wc.map some) (hR : isR.map (fun i => ws[i]?) = wr.map some) (hn : va_nd isR = true) (hdis : ∀ i ∈ isR, i ∉ isC)
    (kk : ∀ (r : Int32) (u : S) (H1 : Heap) (locs1 : List Loc), post r u → va_P D vwCl (wr ++ w u) H1 → va_D A (wr ++ w u) → va_S A H0 H1 locs1 → W p l e R s m args below meth c H1 locs1 (cells + mc) (slots + ms) Q (F0 m (pc + 3) ls (.int r :: rest))) : W p l e R s m args below meth c H locs cells slots Q (F0 m pc ls st0) := by
  have hF := va_free hD hS hA isC hC
  refine va_calli hr hS (fun q _ h => hF q h) hF fun r u t H1 locs1 ht _ hw hB _ hk1 hS1 => ?_
  obtain ⟨hP1, hD1⟩ := hB
  rw [ht] at hP1
  obtain ⟨k1, k2⟩ := va_join hP hD isC isR hC hR hn hdis hk1 hF hP1 hD1
  exact kk r u H1 locs1 hw k1 k2 hS1
theorem yc_l {S : Type} {post : Int64 → S → Prop} {w : S → va_W} (hr : va_Run p l e R s m args below meth c H locs cells slots mc ms (F0 m pc ls st0) rest (va_Ql post (fun u t => yB D (va_A wc H.size) (w u) t) (va_A wc H.size) a) (va_A wc H.size))
    (hP : va_P D vwCl ws H) (hD : va_D A ws) (hS : va_S A H0 H locs) (hA : ∀ q, H0.size ≤ q → A q) (isC isR : List Nat) (hC : isC.map (fun i => ws[i]?) = wc.map some) (hR : isR.map (fun i => ws[i]?) = wr.map some) (hn : va_nd isR = true) (hdis : ∀ i ∈ isR, i ∉ isC)
    (kk : ∀ (r : Int64) (u : S) (H1 : Heap) (locs1 : List Loc), post r u → va_P D vwCl (wr ++ w u) H1 → va_D A (wr ++ w u) → va_S A H0 H1 locs1 → W p l e R s m args below meth c H1 locs1 (cells + mc) (slots + ms) Q (F0 m (pc + 3) ls (.long r :: rest))) : W p l e R s m args below meth c H locs cells slots Q (F0 m pc ls st0) := by
  have hF := va_free hD hS hA isC hC
  refine va_calll hr hS (fun q _ h => hF q h) hF fun r u t H1 locs1 ht _ hw hB _ hk1 hS1 => ?_
  obtain ⟨hP1, hD1⟩ := hB
  rw [ht] at hP1
  obtain ⟨k1, k2⟩ := va_join hP hD isC isR hC hR hn hdis hk1 hF hP1 hD1
  exact kk r u H1 locs1 hw k1 k2 hS1
theorem yc_v {S : Type} {post : S → Prop} {w : S → va_W} (hr : va_Run p l e R s m args below meth c H locs cells slots mc ms (F0 m pc ls st0) rest (va_Qv post (fun u t => yB D (va_A wc H.size) (w u) t) (va_A wc H.size) a) (va_A wc H.size))
    (hP : va_P D vwCl ws H) (hD : va_D A ws) (hS : va_S A H0 H locs) (hA : ∀ q, H0.size ≤ q → A q) (isC isR : List Nat) (hC : isC.map (fun i => ws[i]?) = wc.map some) (hR : isR.map (fun i => ws[i]?) = wr.map some) (hn : va_nd isR = true) (hdis : ∀ i ∈ isR, i ∉ isC)
    (kk : ∀ (u : S) (H1 : Heap) (locs1 : List Loc), post u → va_P D vwCl (wr ++ w u) H1 → va_D A (wr ++ w u) → va_S A H0 H1 locs1 → W p l e R s m args below meth c H1 locs1 (cells + mc) (slots + ms) Q (F0 m (pc + 3) ls rest)) : W p l e R s m args below meth c H locs cells slots Q (F0 m pc ls st0) := by
  have hF := va_free hD hS hA isC hC
  refine va_callv hr hS (fun q _ h => hF q h) hF fun u t H1 locs1 ht _ hw hB _ hk1 hS1 => ?_
  obtain ⟨hP1, hD1⟩ := hB
  rw [ht] at hP1
  obtain ⟨k1, k2⟩ := va_join hP hD isC isR hC hR hn hdis hk1 hF hP1 hD1
  exact kk u H1 locs1 hw k1 k2 hS1
theorem yc5_i {S : Type} {post : Int32 → S → Prop} {w : S → va_W} (hr : va_Run5 p l e R s m args below meth c H locs cells slots mc ms (F0 m pc ls st0) rest (va_Qi post (fun u t => yB D (va_A wc H.size) (w u) t) (va_A wc H.size) a) (va_A wc H.size))
    (hP : va_P D vwCl ws H) (hD : va_D A ws) (hS : va_S A H0 H locs) (hA : ∀ q, H0.size ≤ q → A q) (isC isR : List Nat) (hC : isC.map (fun i => ws[i]?) = wc.map some) (hR : isR.map (fun i => ws[i]?) = wr.map some) (hn : va_nd isR = true) (hdis : ∀ i ∈ isR, i ∉ isC)
    (kk : ∀ (r : Int32) (u : S) (H1 : Heap) (locs1 : List Loc), post r u → va_P D vwCl (wr ++ w u) H1 → va_D A (wr ++ w u) → va_S A H0 H1 locs1 → W p l e R s m args below meth c H1 locs1 (cells + mc) (slots + ms) Q (F0 m (pc + 5) ls (.int r :: rest))) : W p l e R s m args below meth c H locs cells slots Q (F0 m pc ls st0) := by
  have hF := va_free hD hS hA isC hC
  refine va_callFi hr hS (fun q _ h => hF q h) hF fun r u t H1 locs1 ht _ hw hB _ hk1 hS1 => ?_
  obtain ⟨hP1, hD1⟩ := hB
  rw [ht] at hP1
  obtain ⟨k1, k2⟩ := va_join hP hD isC isR hC hR hn hdis hk1 hF hP1 hD1
  exact kk r u H1 locs1 hw k1 k2 hS1
theorem yc_r {S : Type} {post : S → Prop} {w : S → Nat → va_W} (hr : va_Run p l e R s m args below meth c H locs cells slots mc ms (F0 m pc ls st0) rest (va_Qr post (fun u b t => yB D (va_A wc H.size) (w u b) t) (va_A wc H.size) a) (va_A wc H.size))
    (hP : va_P D vwCl ws H) (hD : va_D A ws) (hS : va_S A H0 H locs) (hA : ∀ q, H0.size ≤ q → A q) (isC isR : List Nat) (hC : isC.map (fun i => ws[i]?) = wc.map some) (hR : isR.map (fun i => ws[i]?) = wr.map some) (hn : va_nd isR = true) (hdis : ∀ i ∈ isR, i ∉ isC)
    (kk : ∀ (b : Nat) (u : S) (H1 : Heap) (locs1 : List Loc), post u → va_P D vwCl (wr ++ w u b) H1 → va_D A (wr ++ w u b) → va_S A H0 H1 locs1 → W p l e R s m args below meth c H1 locs1 (cells + mc) (slots + ms) Q (F0 m (pc + 3) ls (.ref b :: rest))) : W p l e R s m args below meth c H locs cells slots Q (F0 m pc ls st0) := by
  have hF := va_free hD hS hA isC hC
  refine va_callr hr hS (fun q _ h => hF q h) hF fun u b t H1 locs1 ht _ hw hB _ hk1 hS1 => ?_
  obtain ⟨hP1, hD1⟩ := hB
  rw [ht] at hP1
  obtain ⟨k1, k2⟩ := va_join hP hD isC isR hC hR hn hdis hk1 hF hP1 hD1
  exact kk b u H1 locs1 hw k1 k2 hS1
/-- the same of a callee that may throw; what it throws goes on to the caller, or is caught here (kx) -/
theorem yx_i {S : Type} {post : Int32 → S → Prop} {w : S → va_W} {px : String → Prop} {wx : va_W} (hr : vx_Run p l e R s m args below meth c H locs cells slots mc ms (F0 m pc ls st0) rest (va_Qi post (fun u t => yB D (va_A wc H.size) (w u) t) (va_A wc H.size) a) (yX D wc H.size px wx) (va_A wc H.size))
    (hP : va_P D vwCl ws H) (hD : va_D A ws) (hS : va_S A H0 H locs) (hA : ∀ q, H0.size ≤ q → A q) (isC isR : List Nat) (hC : isC.map (fun i => ws[i]?) = wc.map some) (hR : isR.map (fun i => ws[i]?) = wr.map some) (hn : va_nd isR = true) (hdis : ∀ i ∈ isR, i ∉ isC)
    (kx : ∀ (E : String) (ce : Cell) (q9 : Addr) (H1 : Heap) (locs1 : List Loc), px E → va_P D vwCl (wr ++ wx) H1 → va_D A (wr ++ wx) → va_S A H0 H1 locs1 → H1[q9]? = some ce → ce.vm = .none → s.vm.findClass E = some ce.cls → vx_W p l e R s m args below meth c H1 locs1 (cells + mc) (slots + ms) Q (F0 m pc ls rest) q9)
    (kk : ∀ (r : Int32) (u : S) (H1 : Heap) (locs1 : List Loc), post r u → va_P D vwCl (wr ++ w u) H1 → va_D A (wr ++ w u) → va_S A H0 H1 locs1 → W p l e R s m args below meth c H1 locs1 (cells + mc) (slots + ms) Q (F0 m (pc + 3) ls (.int r :: rest))) : W p l e R s m args below meth c H locs cells slots Q (F0 m pc ls st0) := by
  have hF := va_free hD hS hA isC hC
  refine vx_calli hr hS (fun q _ h => hF q h) hF (fun q _ h => hF q h) (fun E ce q9 u t H1 locs1 ht _ _ hB _ hk1 hS1 g1 g2 g3 => ?_) fun r u t H1 locs1 ht _ hw hB _ hk1 hS1 => ?_
  · obtain ⟨hpx, hP1, hD1⟩ := hB
    rw [ht] at hP1
    obtain ⟨k1, k2⟩ := va_join hP hD isC isR hC hR hn hdis hk1 hF hP1 hD1
    exact kx E ce q9 H1 locs1 hpx k1 k2 hS1 g1 g2 g3
  · obtain ⟨hP1, hD1⟩ := hB
    rw [ht] at hP1
    obtain ⟨k1, k2⟩ := va_join hP hD isC isR hC hR hn hdis hk1 hF hP1 hD1
    exact kk r u H1 locs1 hw k1 k2 hS1
theorem yx_v {S : Type} {post : S → Prop} {w : S → va_W} {px : String → Prop} {wx : va_W} (hr : vx_Run p l e R s m args below meth c H locs cells slots mc ms (F0 m pc ls st0) rest (va_Qv post (fun u t => yB D (va_A wc H.size) (w u) t) (va_A wc H.size) a) (yX D wc H.size px wx) (va_A wc H.size))
    (hP : va_P D vwCl ws H) (hD : va_D A ws) (hS : va_S A H0 H locs) (hA : ∀ q, H0.size ≤ q → A q) (isC isR : List Nat) (hC : isC.map (fun i => ws[i]?) = wc.map some) (hR : isR.map (fun i => ws[i]?) = wr.map some) (hn : va_nd isR = true) (hdis : ∀ i ∈ isR, i ∉ isC)
    (kx : ∀ (E : String) (ce : Cell) (q9 : Addr) (H1 : Heap) (locs1 : List Loc), px E → va_P D vwCl (wr ++ wx) H1 → va_D A (wr ++ wx) → va_S A H0 H1 locs1 → H1[q9]? = some ce → ce.vm = .none → s.vm.findClass E = some ce.cls → vx_W p l e R s m args below meth c H1 locs1 (cells + mc) (slots + ms) Q (F0 m pc ls rest) q9)
    (kk : ∀ (u : S) (H1 : Heap) (locs1 : List Loc), post u → va_P D vwCl (wr ++ w u) H1 → va_D A (wr ++ w u) → va_S A H0 H1 locs1 → W p l e R s m args below meth c H1 locs1 (cells + mc) (slots + ms) Q (F0 m (pc + 3) ls rest)) : W p l e R s m args below meth c H locs cells slots Q (F0 m pc ls st0) := by
  have hF := va_free hD hS hA isC hC
  refine vx_callv hr hS (fun q _ h => hF q h) hF (fun q _ h => hF q h) (fun E ce q9 u t H1 locs1 ht _ _ hB _ hk1 hS1 g1 g2 g3 => ?_) fun u t H1 locs1 ht _ hw hB _ hk1 hS1 => ?_
  · obtain ⟨hpx, hP1, hD1⟩ := hB
    rw [ht] at hP1
    obtain ⟨k1, k2⟩ := va_join hP hD isC isR hC hR hn hdis hk1 hF hP1 hD1
    exact kx E ce q9 H1 locs1 hpx k1 k2 hS1 g1 g2 g3
  · obtain ⟨hP1, hD1⟩ := hB
    rw [ht] at hP1
    obtain ⟨k1, k2⟩ := va_join hP hD isC isR hC hR hn hdis hk1 hF hP1 hD1
    exact kk u H1 locs1 hw k1 k2 hS1
end YC
/-- a contract's start, read -/
theorem y_start {D : va_G} {tE : yG} {ws : va_W} {tys : List (ClassId × FieldType)} {sz : Nat} {av : List Value} {args : Array Value} {s : State} {A : Nat → Prop} (hA0 : A = va_A ws sz) (h : yP D tE ws tys sz av args s) :
    args = av.toArray ∧ s.heap.size = sz ∧ va_P D vwCl ws s.heap ∧ va_K D vwCl tys s ∧ va_D A ws ∧ yE tE A s s.heap ∧ ∀ q : Nat, s.heap.size ≤ q → A q := by
  obtain ⟨h1, h2, h3, h4, h5, h6⟩ := h
  subst h2
  subst hA0
  exact ⟨h1, rfl, h3, h4, h5.self, h6, fun q h => Or.inr h⟩
section YR
variable {p : Program} {l : Launch} {e : Env} {R : Room} {s : State} {m : MethodId} {args : Array Value} {below : List Frame} {meth : Method} {c : Code} {H : Heap} {locs : List Loc} {cells slots mc ms : Nat}
variable {cc : ByteArray} {pc : Nat} {tE : yG} {ls : Array Slot} {rest : List Value} {A : Nat → Prop} {D : va_G} {S : Type} {w : S → va_W}
theorem y_iret {post : Int32 → S → Prop} {v : Int32} (hx : p.tables.exec = Jvm.exec) (hb : c.code = cc) (hr : meth.sig.returnType = some .int) (hlocks : meth.locks = false) (u : S) (hp : post v u) (hP : va_P D vwCl (w u) H) (hD : va_D A (w u)) (hS : va_S A s.heap H locs) (hc : cells ≤ mc) (hs : slots ≤ ms) (hdg : decode cc pc = .ok (.ireturn, 1)) :
    W p l e R s m args below meth c H locs cells slots (MQ below (va_Qi post (fun u t => yB D A (w u) t) A) args s mc ms A) (F0 m pc ls [.int v]) :=
  W.widen hc hs (W.iret hx hb hr (fun t ht _ => ⟨⟨v, u, rfl, hp, by rw [ht]; exact hP, hD⟩, hS.F ht⟩) hS.2.2 hdg hlocks)
theorem y_zret {post : Int32 → S → Prop} {v : Int32} (hx : p.tables.exec = Jvm.exec) (hb : c.code = cc) (hr : meth.sig.returnType = some .boolean) (hlocks : meth.locks = false) (hn : narrow .boolean (.int v) = .int v) (u : S) (hp : post v u) (hP : va_P D vwCl (w u) H) (hD : va_D A (w u)) (hS : va_S A s.heap H locs) (hc : cells ≤ mc) (hs : slots ≤ ms) (hdg : decode cc pc = .ok (.ireturn, 1)) :
    W p l e R s m args below meth c H locs cells slots (MQ below (va_Qi post (fun u t => yB D A (w u) t) A) args s mc ms A) (F0 m pc ls [.int v]) :=
  W.widen hc hs (W.zret hx hb hr hn (fun t ht _ => ⟨⟨v, u, rfl, hp, by rw [ht]; exact hP, hD⟩, hS.F ht⟩) hS.2.2 hdg hlocks)
theorem y_lret {post : Int64 → S → Prop} {v : Int64} (hx : p.tables.exec = Jvm.exec) (hb : c.code = cc) (hr : meth.sig.returnType = some .long) (hlocks : meth.locks = false) (u : S) (hp : post v u) (hP : va_P D vwCl (w u) H) (hD : va_D A (w u)) (hS : va_S A s.heap H locs) (hc : cells ≤ mc) (hs : slots ≤ ms) (hdg : decode cc pc = .ok (.lreturn, 1)) :
    W p l e R s m args below meth c H locs cells slots (MQ below (va_Ql post (fun u t => yB D A (w u) t) A) args s mc ms A) (F0 m pc ls [.long v]) :=
  W.widen hc hs (W.lret hx hb hr (fun t ht _ => ⟨⟨v, u, rfl, hp, by rw [ht]; exact hP, hD⟩, hS.F ht⟩) hS.2.2 hdg hlocks)
theorem y_aret {post : S → Prop} {w : S → Nat → va_W} {a : Nat} {rt : FieldType} (hx : p.tables.exec = Jvm.exec) (hb : c.code = cc) (hr : meth.sig.returnType = some rt) (hlocks : meth.locks = false) (hrt : (∃ n, rt = .object n) ∨ ∃ t, rt = .array t) (u : S) (hp : post u) (hP : va_P D vwCl (w u a) H) (hD : va_D A (w u a)) (hS : va_S A s.heap H locs) (hc : cells ≤ mc) (hs : slots ≤ ms) (hdg : decode cc pc = .ok (.areturn, 1)) :
    W p l e R s m args below meth c H locs cells slots (MQ below (va_Qr post (fun u b t => yB D A (w u b) t) A) args s mc ms A) (F0 m pc ls [.ref a]) :=
  W.widen hc hs (W.aret hx hb hr hrt (Or.inr ⟨a, rfl⟩) (fun t ht _ => ⟨⟨u, a, rfl, hp, by rw [ht]; exact hP, hD⟩, hS.F ht⟩) hS.2.2 hdg hlocks)
theorem y_vret {post : S → Prop} (hx : p.tables.exec = Jvm.exec) (hb : c.code = cc) (hr : meth.sig.returnType = none) (hlocks : meth.locks = false) (u : S) (hp : post u) (hP : va_P D vwCl (w u) H) (hD : va_D A (w u)) (hS : va_S A s.heap H locs) (hc : cells ≤ mc) (hs : slots ≤ ms) (hdg : decode cc pc = .ok (.return_, 1)) :
    W p l e R s m args below meth c H locs cells slots (MQ below (va_Qv post (fun u t => yB D A (w u) t) A) args s mc ms A) (F0 m pc ls []) :=
  W.widen hc hs (W.vret hx hb hr (fun t ht _ => ⟨⟨u, rfl, hp, by rw [ht]; exact hP, hD⟩, hS.F ht⟩) hS.2.2 hdg hlocks)
/-- what is thrown here, or in a callee, goes on -/
theorem y_out {Qc : Array Value → State → Outcome → State → Prop} {px : String → Prop} {wx : va_W} {E : String} {ce : Cell} {q : Addr} (hout : ∀ x ∈ c.exceptionTable.toList, False) (hlocks : meth.locks = false) (g1 : H[q]? = some ce) (g2 : ce.vm = .none) (g3 : s.vm.findClass E = some ce.cls) (hpx : px E) (hP : va_P D vwCl wx H) (hD : va_D A wx) (hS : va_S A s.heap H locs) (hc : cells ≤ mc) (hs : slots ≤ ms) :
    vx_W p l e R s m args below meth c H locs cells slots (vx_MQ below Qc (vx_X (S := Unit) (fun _ => True) (fun E _ t => px E ∧ yB D A wx t) A) args s mc ms A) (F0 m pc ls rest) q :=
  vx_out (fun x h => (hout x h).elim) hlocks g1 g2 g3 (fun t ht _ => ⟨(), trivial, ⟨hpx, by rw [ht]; exact hP, hD⟩, hS.F ht⟩) hS.2.2 hc hs
/-- what a throw's place asks, decided -/
abbrev yTh (own cls : String) (names : List String) (ik ic : Nat) : Prop := Bundle.fit cls = true ∧ (∀ n ∈ names, Bundle.fit n = true) ∧ (∀ w ∈ Cond.classLink own ik cls :: Cond.initialized cls :: vx_atS own ic cls names, vx_ot w = true) ∧ (∀ w ∈ (vx_atS own ic cls names).filter (fun w => !goodWord w), w ∈ yNg cls) ∧ cls ∈ yEx
theorem y_throwS {Qc : Array Value → State → Outcome → State → Prop} {px : String → Prop} {wx : va_W} {own cls text : String} {names : List String} {ik is ic : Nat} {Ts : List Cond} (hx : p.tables.exec = Jvm.exec) (hb : c.code = cc) (hl : l.stackTraces = false) (hts : ∀ w ∈ Ts, w.before args s = true) (hown : s.vm.findClass own = some m.cls) (hst : yTh own cls names ik ic) (htx : (own, is, text) ∈ yTx)
    (hk : Cond.classLink own ik cls ∈ Ts) (hini : Cond.initialized cls ∈ Ts) (hat : ∀ w ∈ (vx_atS own ic cls names).filter goodWord, w ∈ Ts) (hE : yE tE A s s.heap) (hP : va_P D vwCl wx H) (hD : va_D A wx) (hS : va_S A s.heap H locs) (hsize : ls.size = c.maxLocals)
    (d0 : decode cc pc = .ok (.new ik, 3)) (d3 : decode cc (pc + 3) = .ok (.dup, 1)) (d4 : decode cc (pc + 4) = .ok (.ldc is, 2)) (d6 : decode cc (pc + 6) = .ok (.invokespecial ic, 3)) (d9 : decode cc (pc + 9) = .ok (.athrow, 1))
    (hout : ∀ x ∈ c.exceptionTable.toList, False) (hR : names.length + 3 < R.frames ∧ (rest.map fun v => v.category).sum + (13 * (names.length + 1) + 43) ≤ R.locals ∧ cells + 1 ≤ R.cells ∧ slots + 6 ≤ R.slots) (hlocks : meth.locks = false) (hpx : px cls) (hc : cells + 1 ≤ mc) (hs : slots + 6 ≤ ms) :
    W p l e R s m args below meth c H locs cells slots (vx_MQ below Qc (vx_X (S := Unit) (fun _ => True) (fun E _ t => px E ∧ yB D A wx t) A) args s mc ms A) (F0 m pc ls rest) := by
  obtain ⟨sa, hstr⟩ := hE.2.2.1 _ htx
  exact vx_throwS hx hb hl (sa := sa) hown hst.1 hst.2.1 (hts _ hk) (hts _ hini) hstr (vx_hat (B := yNg cls) (fun w hw => hts w (hat w hw)) hst.2.2.2.1 (vx_c (va_Nw.use rfl (hE.2.1 _ hst.2.2.2.2)) (vx_c (va_Nw.use rfl (hE.2.2.2.2.2.2.2.2.1 _ (List.mem_of_getElem? (i := 0) rfl))) (vx_c (va_Nw.use rfl (hE.2.2.2.2.2.2.2.2.1 _ (List.mem_of_getElem? (i := 1) rfl))) (vx_c (va_Nw.use rfl (hE.2.2.2.2.2.2.2.2.1 _ (List.mem_of_getElem? (i := 2) rfl))) vx_n))))) hst.2.2.1 hE.1.1 hE.1.2.1 hS hsize d0 d3 d4 d6 d9 (fun x h => (hout x h).elim) hR.1 hR.2.1 hR.2.2.1 hR.2.2.2 hlocks
    (fun t _ hz hk9 => ⟨(), trivial, ⟨hpx, hP.kept (fun k9 x h9 => hk9 x.1 ((hP k9 x h9).lt)), hD⟩, Nat.le_trans hS.1 hz, fun q h1 h2 => by rw [hk9 q (Nat.lt_of_lt_of_le h1 hS.1)]; exact hS.2.1 q h1 h2⟩) hS.2.2 hc hs
theorem y_throwSW {Qc : Array Value → State → Outcome → State → Prop} {px : String → Prop} {wx : va_W} {own cls text : String} {names : List String} {ik is ic : Nat} {Ts : List Cond} (hx : p.tables.exec = Jvm.exec) (hb : c.code = cc) (hl : l.stackTraces = false) (hts : ∀ w ∈ Ts, w.before args s = true) (hown : s.vm.findClass own = some m.cls) (hst : yTh own cls names ik ic) (htx : (own, is, text) ∈ yTx)
    (hk : Cond.classLink own ik cls ∈ Ts) (hini : Cond.initialized cls ∈ Ts) (hat : ∀ w ∈ (vx_atS own ic cls names).filter goodWord, w ∈ Ts) (hE : yE tE A s s.heap) (hP : va_P D vwCl wx H) (hD : va_D A wx) (hS : va_S A s.heap H locs) (hsize : ls.size = c.maxLocals)
    (d0 : decode cc pc = .ok (.new ik, 3)) (d3 : decode cc (pc + 3) = .ok (.dup, 1)) (d4 : decode cc (pc + 4) = .ok (.ldc_w is, 3)) (d6 : decode cc (pc + 7) = .ok (.invokespecial ic, 3)) (d9 : decode cc (pc + 10) = .ok (.athrow, 1))
    (hout : ∀ x ∈ c.exceptionTable.toList, False) (hR : names.length + 3 < R.frames ∧ (rest.map fun v => v.category).sum + (13 * (names.length + 1) + 43) ≤ R.locals ∧ cells + 1 ≤ R.cells ∧ slots + 6 ≤ R.slots) (hlocks : meth.locks = false) (hpx : px cls) (hc : cells + 1 ≤ mc) (hs : slots + 6 ≤ ms) :
    W p l e R s m args below meth c H locs cells slots (vx_MQ below Qc (vx_X (S := Unit) (fun _ => True) (fun E _ t => px E ∧ yB D A wx t) A) args s mc ms A) (F0 m pc ls rest) := by
  obtain ⟨sa, hstr⟩ := hE.2.2.1 _ htx
  exact vx_throwSW hx hb hl (sa := sa) hown hst.1 hst.2.1 (hts _ hk) (hts _ hini) hstr (vx_hat (B := yNg cls) (fun w hw => hts w (hat w hw)) hst.2.2.2.1 (vx_c (va_Nw.use rfl (hE.2.1 _ hst.2.2.2.2)) (vx_c (va_Nw.use rfl (hE.2.2.2.2.2.2.2.2.1 _ (List.mem_of_getElem? (i := 0) rfl))) (vx_c (va_Nw.use rfl (hE.2.2.2.2.2.2.2.2.1 _ (List.mem_of_getElem? (i := 1) rfl))) (vx_c (va_Nw.use rfl (hE.2.2.2.2.2.2.2.2.1 _ (List.mem_of_getElem? (i := 2) rfl))) vx_n))))) hst.2.2.1 hE.1.1 hE.1.2.1 hS hsize d0 d3 d4 d6 d9 (fun x h => (hout x h).elim) hR.1 hR.2.1 hR.2.2.1 hR.2.2.2 hlocks
    (fun t _ hz hk9 => ⟨(), trivial, ⟨hpx, hP.kept (fun k9 x h9 => hk9 x.1 ((hP k9 x h9).lt)), hD⟩, Nat.le_trans hS.1 hz, fun q h1 h2 => by rw [hk9 q (Nat.lt_of_lt_of_le h1 hS.1)]; exact hS.2.1 q h1 h2⟩) hS.2.2 hc hs
end YR
/-- two classes of arrays over one type are one class -/
theorem y_cls {D : va_G} {tys : List (ClassId × FieldType)} {s : State} (hK : va_K D vwCl tys s) (i j : Nat) {ty : FieldType} {c1 c2 : ClassId} (hi : tys[i]? = some (c1, ty)) (hj : tys[j]? = some (c2, ty)) : c2 = c1 := by
  have h1 := (hK.2 i _ hi).2
  have h2 := (hK.2 j _ hj).2
  cases ty with
  | object C =>
    obtain ⟨_, _, _, _, _, k1⟩ := h1
    obtain ⟨_, _, _, _, _, k2⟩ := h2
    exact Option.some.inj (k2.symm.trans k1)
  | _ => exact Option.some.inj ((show s.vm.findClass _ = some c2 from h2).symm.trans (show s.vm.findClass _ = some c1 from h1))
theorem y_arr {ty : FieldType} {args : Array Value} {s : State} (h : (Cond.arrayClass ty).before args s = true) : ∃ c, s.vm.findClass ("[" ++ ty.toString) = some c := by
  unfold Cond.before Cond.holds at h
  simp only [Cond.value, beq_iff_eq, Option.map_eq_some_iff, Option.bind_eq_some_iff] at h
  obtain ⟨_, ⟨c, h1, _⟩, _⟩ := h
  exact ⟨c, h1⟩
