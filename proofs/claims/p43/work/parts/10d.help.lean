section YD
variable {p : Program} {l : Launch} {e : Env} {R : Room} {s : State} {m : MethodId} {args : Array Value} {below : List Frame} {meth : Method} {c : Code} {H : Heap} {locs : List Loc} {cells slots : Nat} {Q : State → Prop}
variable {cc : ByteArray} {pc : Nat} {ls : Array Slot} {rest : List Value} {D : va_G} {cl : List vw_C} {A : Nat → Prop} {a : Nat} {tys : List (ClassId × FieldType)} {ws : va_W} {H0 : Heap}
/-- a row of an array of rows -/
theorem y_aald (hexec : p.tables.exec = Jvm.exec) (hb : c.code = cc) (hK : va_K D cl tys s) (hP : va_P D cl ws H) (q0 t0 : Nat) {cA : ClassId} {ty : FieldType} {n : Nat} {f : Nat → Option Nat} (ha : ws[q0]? = some (a, .inl (cA, n, .inr (.inr (.inr (.inr f)))))) (ht : tys[t0]? = some (cA, .array ty)) {i : Int32} (hin : vp_in i n) (hdg : decode cc pc = .ok (.aaload, 1))
    (kk : W p l e R s m args below meth c H locs cells slots Q (F0 m (pc + 1) ls (va_rf (f i.toNatClampNeg) :: rest))) : W p l e R s m args below meth c H locs cells slots Q (F0 m pc ls (.int i :: .ref a :: rest)) := by
  have hlt : i.toNatClampNeg < n := Nat.not_le.mp fun q => hin (Or.inr q)
  exact W.aald (v := va_rf (f i.toNatClampNeg)) (ty := .array ty) hexec hb (hP q0 _ ha) ((hK.2 t0 _ ht).1 n (fun j => va_rf (f j))) rfl (fun q => by cases q) (by show ¬ (i < 0 ∨ (arrV _ _ _).slots.size ≤ _); rw [arrV_size]; exact hin) (by show (arrV _ _ _).slots[_]? = _; rw [arrV_read _ _ hlt]) rfl rfl hdg kk
end YD
/-- the class of the rows of ints is the class known -/
theorem y_cyc {D : va_G} {tys : List (ClassId × FieldType)} {s : State} (hK : va_K D vwCl tys s) (i : Nat) {c1 cy : ClassId} (hi : tys[i]? = some (c1, .int)) (h : s.vm.findClass ("[" ++ FieldType.int.toString) = some cy) : c1 = cy :=
  Option.some.inj ((show s.vm.findClass _ = some c1 from (hK.2 i _ hi).2).symm.trans h)
/-- a row of ints is an object of the class Object -/
theorem y_anyI {D : va_G} {tys : List (ClassId × FieldType)} {ws : va_W} {s : State} {H : Heap} (hK : va_K D vwCl tys s) (hP : va_P D vwCl ws H) (i q : Nat) {c1 : ClassId} {x : vp_A} {v : Nat} (hi : tys[i]? = some (c1, .int)) (hq : ws[q]? = some (v, .inl (c1, x))) (hc : va_Nw (.castable "[I" "java/lang/Object") s) : va_Any "java/lang/Object" s H v := by
  have h1 : s.vm.findClass "[I" = some c1 := (hK.2 i _ hi).2
  obtain ⟨kC, hkC, -⟩ := Vm.findClass_spec h1
  obtain ⟨c3, c4, f1, f2, f3⟩ := Cond.castable_spec hc
  have e1 : c3 = c1 := Option.some.inj (f1.symm.trans h1)
  subst e1
  have hvm0 : (vp_cell c3 x).vm = .none := by
    obtain ⟨n, f | f | f | f | f⟩ := x <;> rfl
  have hcl0 : (vp_cell c3 x).cls = c3 := by
    obtain ⟨n, f | f | f | f | f⟩ := x <;> rfl
  refine ⟨vp_cell c3 x, hP q _ hq, by rw [hvm0]; rfl, ⟨kC, by rw [hcl0]; exact hkC⟩, fun comp hcomp => ?_⟩
  have e2 : c4 = comp := Option.some.inj (f2.symm.trans hcomp)
  rw [hcl0, ← e2]
  exact f3
section YC5
variable {p : Program} {l : Launch} {e : Env} {R : Room} {s : State} {m : MethodId} {args : Array Value} {below : List Frame} {meth : Method} {c : Code} {H : Heap} {locs : List Loc} {cells slots : Nat} {Q : State → Prop}
variable {pc : Nat} {ls : Array Slot} {rest st0 : List Value} {a : Array Value} {A : Nat → Prop} {H0 : Heap} {mc ms : Nat} {D : va_G} {ws wc wr : va_W}
theorem yc5_r {S : Type} {post : S → Prop} {w : S → Nat → va_W} (hr : va_Run5 p l e R s m args below meth c H locs cells slots mc ms (F0 m pc ls st0) rest (va_Qr post (fun u b t => yB D (va_A wc H.size) (w u b) t) (va_A wc H.size) a) (va_A wc H.size))
    (hP : va_P D vwCl ws H) (hD : va_D A ws) (hS : va_S A H0 H locs) (hA : ∀ q, H0.size ≤ q → A q) (isC isR : List Nat) (hC : isC.map (fun i => ws[i]?) = wc.map some) (hR : isR.map (fun i => ws[i]?) = wr.map some) (hn : va_nd isR = true) (hdis : ∀ i ∈ isR, i ∉ isC)
    (kk : ∀ (b : Nat) (u : S) (H1 : Heap) (locs1 : List Loc), post u → va_P D vwCl (wr ++ w u b) H1 → va_D A (wr ++ w u b) → va_S A H0 H1 locs1 → W p l e R s m args below meth c H1 locs1 (cells + mc) (slots + ms) Q (F0 m (pc + 5) ls (.ref b :: rest))) : W p l e R s m args below meth c H locs cells slots Q (F0 m pc ls st0) := by
  have hF := va_free hD hS hA isC hC
  refine va_callFr hr hS (fun q _ h => hF q h) hF fun u b t H1 locs1 ht _ hw hB _ hk1 hS1 => ?_
  obtain ⟨hP1, hD1⟩ := hB
  rw [ht] at hP1
  obtain ⟨k1, k2⟩ := va_join hP hD isC isR hC hR hn hdis hk1 hF hP1 hD1
  exact kk b u H1 locs1 hw k1 k2 hS1
end YC5
/-- the class of rows of objects, known by the tables -/
theorem y_kO {D : va_G} {s : State} (h : va_AO "java/lang/Object" s) (tys : List (ClassId × FieldType)) (hK : va_K D vwCl tys s) : ∃ cA : ClassId, va_K D vwCl (tys ++ [(cA, .object "java/lang/Object")]) s := by
  obtain ⟨comp, c, k, h1, h2, h3, h4, h5⟩ := Cond.arrayOver_spec h
  refine ⟨c, va_K.app hK ⟨hK.1, fun j x hx => ?_⟩⟩
  have hz : j < 1 := (List.getElem?_eq_some_iff.mp hx).1
  rw [show j = 0 by omega] at hx
  cases hx
  exact ⟨fun N z => ⟨(fun k h => by cases h), k, h3, comp, h4⟩, k, comp, h3, h4, h1, h5⟩
/-- the class of rows of a plain type, known by the tables -/
theorem y_kP {D : va_G} {s : State} {args : Array Value} (ty : FieldType) (hp : refKind ty = false) (hr : ∀ c : ClassId, va_RA s c ty = (s.vm.findClass ("[" ++ ty.toString) = some c)) (h : (Cond.arrayClass ty).before args s = true) (tys : List (ClassId × FieldType)) (hK : va_K D vwCl tys s) : ∃ cA : ClassId, va_K D vwCl (tys ++ [(cA, ty)]) s := by
  obtain ⟨c, k, comp, h1, h2, h3⟩ := Cond.arrayClass_spec h
  refine ⟨c, va_K.app hK ⟨hK.1, fun j x hx => ?_⟩⟩
  have hz : j < 1 := (List.getElem?_eq_some_iff.mp hx).1
  rw [show j = 0 by omega] at hx
  cases hx
  exact ⟨fun N z => ⟨(fun k h => by cases h), k, h2, comp, h3⟩, by rw [hr]; exact h1⟩
theorem y_kB {D : va_G} {s : State} {args : Array Value} (h : (Cond.arrayClass .byte).before args s = true) (tys : List (ClassId × FieldType)) (hK : va_K D vwCl tys s) : ∃ cA : ClassId, va_K D vwCl (tys ++ [(cA, .byte)]) s := y_kP .byte rfl (fun _ => rfl) h tys hK
theorem y_kC {D : va_G} {s : State} {args : Array Value} (h : (Cond.arrayClass .char).before args s = true) (tys : List (ClassId × FieldType)) (hK : va_K D vwCl tys s) : ∃ cA : ClassId, va_K D vwCl (tys ++ [(cA, .char)]) s := y_kP .char rfl (fun _ => rfl) h tys hK
theorem y_kI {D : va_G} {s : State} {args : Array Value} (h : (Cond.arrayClass .int).before args s = true) (tys : List (ClassId × FieldType)) (hK : va_K D vwCl tys s) : ∃ cA : ClassId, va_K D vwCl (tys ++ [(cA, .int)]) s := y_kP .int rfl (fun _ => rfl) h tys hK
theorem y_fitI (cA n : Nat) {f : Nat → Int32} : ∀ (i : Nat) (v : Value), (vp_cell cA (n, .inl f)).slots[i]? = some v → fits .int v = true := fun i v h => va_fit (F := fun j => .int (f j)) (fun _ _ => rfl) i v h
/-- the class of rows of rows of ints, known by the tables -/
theorem y_kA {D : va_G} {s : State} (h : va_AOA .int s) (tys : List (ClassId × FieldType)) (hK : va_K D vwCl tys s) : ∃ cA : ClassId, va_K D vwCl (tys ++ [(cA, .array .int)]) s := by
  unfold va_AOA Cond.before Cond.holds at h
  simp only [Cond.value, beq_iff_eq, Option.bind_eq_some_iff, Option.map_eq_some_iff] at h
  obtain ⟨comp, h1, c, h2, k, h3, h4⟩ := h
  have h5 : ∃ comp9, k.kind = .array comp9 (.array .int) ∧ s.vm.findClass ("[" ++ (FieldType.array .int).toString) = some c := by
    revert h4
    cases k.kind with
    | array comp9 ty9 =>
      intro h4
      simp only [Bool.and_eq_true, decide_eq_true_eq] at h4
      exact ⟨comp9, by rw [h4.1], h4.2⟩
    | _ => intro h4; cases h4
  obtain ⟨comp9, h6, h7⟩ := h5
  have h8 := y_findIdx (ty := .array .int) h2 h3 ⟨comp9, h6⟩
  refine ⟨c, va_K.app hK ⟨hK.1, fun j x hx => ?_⟩⟩
  have hz : j < 1 := (List.getElem?_eq_some_iff.mp hx).1
  rw [show j = 0 by omega] at hx
  cases hx
  exact ⟨fun N z => ⟨(fun k h => by cases h), k, h3, comp, h8⟩, show s.vm.findClass _ = some c from h7⟩
