section YD
variable {p : Program} {l : Launch} {e : Env} {R : Room} {s : State} {m : MethodId} {args : Array Value} {below : List Frame} {meth : Method} {c : Code} {H : Heap} {locs : List Loc} {cells slots : Nat} {Q : State → Prop}
variable {cc : ByteArray} {pc : Nat} {ls : Array Slot} {rest : List Value} {D : va_G} {cl : List vw_C} {A : Nat → Prop} {a : Nat} {tys : List (ClassId × FieldType)} {ws : va_W} {H0 : Heap}
/-- a row of an array of rows -/
theorem y_aald (hexec : p.tables.exec = Jvm.exec) (hb : c.code = cc) (hK : va_K D cl tys s) (hP : va_P D cl ws H) (q0 t0 : Nat) {cA : ClassId} {ty : FieldType} {n : Nat} {f : Nat → Option Nat} (ha : ws[q0]? = some (a, .inl (cA, n, .inr (.inr (.inr (.inr f)))))) (ht : tys[t0]? = some (cA, .array ty)) {i : Int32} (hin : vp_in i n) (hdg : decode cc pc = .ok (.aaload, 1))
    (kk : W p l e R s m args below meth c H locs cells slots Q (F0 m (pc + 1) ls (va_rf (f i.toNatClampNeg) :: rest))) : W p l e R s m args below meth c H locs cells slots Q (F0 m pc ls (.int i :: .ref a :: rest)) := by
  have hlt : i.toNatClampNeg < n := Nat.not_le.mp fun q => hin (Or.inr q)
  exact W.aald (v := va_rf (f i.toNatClampNeg)) (ty := .array ty) hexec hb (hP q0 _ ha) ((hK.2 t0 _ ht).1 n (fun j => va_rf (f j))) rfl (fun q => by cases q) (by show ¬ (i < 0 ∨ (arrV _ _ _).slots.size ≤ _); rw [arrV_size]; exact hin) (by show (arrV _ _ _).slots[_]? = _; rw [arrV_read _ _ hlt]) rfl rfl hdg kk
end YD
/-- the class of the rows of ints is the class known -/
theorem y_cyc {D : va_G} {tys : List (ClassId × FieldType)} {s : State} (hK : va_K D vwCl tys s) (i : Nat) {c1 cy : ClassId} (hi : tys[i]? = some (c1, .int)) (h : s.vm.findClass ("[" ++ FieldType.int.toString) = some cy) : c1 = cy :=
  Option.some.inj ((show s.vm.findClass _ = some c1 from (hK.2 i _ hi).2).symm.trans h)
/-- a row of ints is an object of the class Object -/
theorem y_anyI {D : va_G} {tys : List (ClassId × FieldType)} {ws : va_W} {s : State} {H : Heap} (hK : va_K D vwCl tys s) (hP : va_P D vwCl ws H) (i q : Nat) {c1 : ClassId} {x : vp_A} {v : Nat} (hi : tys[i]? = some (c1, .int)) (hq : ws[q]? = some (v, .inl (c1, x))) (hc : va_Nw (.castable "[I" "java/lang/Object") s) : va_Any "java/lang/Object" s H v := by
  have h1 : s.vm.findClass "[I" = some c1 := (hK.2 i _ hi).2
  obtain ⟨kC, hkC, -⟩ := Vm.findClass_spec h1
  obtain ⟨c3, c4, f1, f2, f3⟩ := Cond.castable_spec hc
  have e1 : c3 = c1 := Option.some.inj (f1.symm.trans h1)
  subst e1
  have hvm0 : (vp_cell c3 x).vm = .none := by
    obtain ⟨n, f | f | f | f | f⟩ := x <;> rfl
  have hcl0 : (vp_cell c3 x).cls = c3 := by
    obtain ⟨n, f | f | f | f | f⟩ := x <;> rfl
  refine ⟨vp_cell c3 x, hP q _ hq, by rw [hvm0]; rfl, ⟨kC, by rw [hcl0]; exact hkC⟩, fun comp hcomp => ?_⟩
  have e2 : c4 = comp := Option.some.inj (f2.symm.trans hcomp)
  rw [hcl0, ← e2]
  exact f3
