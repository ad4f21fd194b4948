theorem kX2_init_1 : Cond.methodLink RX2 3 objectInit ∈ wsX2_init := List.mem_of_getElem? (i := 1) (by decide +kernel)
theorem kX2_init_2 : Cond.instanceMethod objectInit ∈ wsX2_init := List.mem_of_getElem? (i := 2) (by decide +kernel)
theorem kX2_init_3 : Cond.code objectInit ⟨#[0xb1]⟩ 1 none ∈ wsX2_init := List.mem_of_getElem? (i := 3) (by decide +kernel)
theorem iX2_init_X2 : ∀ w ∈ wsX20, w ∈ wsX2_init := by decide +kernel
theorem kX2_init_4 : Cond.fieldLink RX2 9 "Mostwell$House" "applicants" "I" ∈ wsX2_init := List.mem_of_getElem? (i := 4) (by decide +kernel)
theorem kX2_init_5 : Cond.fieldLink RX2 15 "Mostwell$House" "posts" "I" ∈ wsX2_init := List.mem_of_getElem? (i := 5) (by decide +kernel)
theorem kX2_init_6 : Cond.arrayClass .int ∈ wsX2_init := List.mem_of_getElem? (i := 6) (by decide +kernel)
theorem kX2_init_7 : Cond.fieldLink RX2 18 "Mostwell$House" "weights" "[I" ∈ wsX2_init := List.mem_of_getElem? (i := 7) (by decide +kernel)
theorem kX2_init_8 : Cond.fieldLink RX2 22 "Mostwell$House" "places" "[I" ∈ wsX2_init := List.mem_of_getElem? (i := 8) (by decide +kernel)
theorem kX2_init_9 : Cond.classLink RX2 25 "[[I" ∈ wsX2_init := List.mem_of_getElem? (i := 9) (by decide +kernel)
theorem kX2_init_10 : Cond.fieldLink RX2 27 "Mostwell$House" "ranks" "[[I" ∈ wsX2_init := List.mem_of_getElem? (i := 10) (by decide +kernel)
theorem kX2_init_11 : Cond.arrayClass .char ∈ wsX2_init := List.mem_of_getElem? (i := 11) (by decide +kernel)
theorem kX2_init_12 : Cond.fieldLink RX2 30 "Mostwell$House" "text" "[C" ∈ wsX2_init := List.mem_of_getElem? (i := 12) (by decide +kernel)
theorem kX2_init_13 : Cond.fieldLink RX2 34 "Mostwell$House" "taken" "[I" ∈ wsX2_init := List.mem_of_getElem? (i := 13) (by decide +kernel)
set_option maxHeartbeats 4000000 in
set_option maxRecDepth 100000 in
theorem i_X2 (l : Launch) (hfl : l.stackTraces = false) (D : va_G) (tE : Nat) (sz : Nat) (h1 : Nat) (cI : ClassId) (A : Nat → Prop) (hA0 : A = va_A [(h1, .inr (8, [.int 0, .int 0, .null, .null, .null, .null, .null]))] sz) : Met l yX2_init wsX2_init (yR 0 15 160) (yP D tE [(h1, .inr (8, [.int 0, .int 0, .null, .null, .null, .null, .null]))] [(cI, .int)] sz [.ref h1]) (va_Qv (S := (Nat → Nat) × Unit) (fun (u : (Nat → Nat) × Unit) => True) (fun (u : (Nat → Nat) × Unit) (t : State) => yB D A ((fun (u : (Nat → Nat) × Unit) => [(h1, .inr (8, [.int 0, .int 0, .ref ((u.1 0)), .ref ((u.1 1)), .ref ((u.1 2)), .ref ((u.1 3)), .ref ((u.1 4))])), ((u.1 0), .inl (cI, 10, .inl (fun _ => 0))), ((u.1 1), .inl (cI, 10, .inl (fun _ => 0))), ((u.1 4), .inl (cI, 10, .inl (fun _ => 0)))]) u) t) A) 15 160 A := by
  refine Met.ofW (cc := cX2_init) (maxL := 1) (ret := none) (by decide) rfl ?_
  intro p e s m args below meth c s₁ B hml hv
  obtain ⟨rfl, rfl, hP, hK, hD, hE, hA⟩ := y_start hA0 hv
  have hx := B.exec
  have hb := B.bytes
  have hr := B.returns
  have hts := atoms_spec (ws := wsX2_init) B.pre
  have hown : s.vm.findClass RX2 = some m.cls := findClass_of_methodNamed B.named
  have hlocks := B.notSynchronized
  have hin : meth.name = "<init>" := (name_of_methodNamed B.named B.method).1
  clear hA0 hv
  have hS : va_S A s.heap s.heap [] := va_S.rf
  have hl := lv_entry ([.ref h1]) (n := 1) (Nat.le_of_ble_eq_true rfl)
  rw [lg_entry_eq]
  generalize (lg_sl ([.ref h1]) ++ List.replicate (1 - (lg_sl ([.ref h1])).length) Slot.unset).toArray = ls at hl ⊢
  have hl : lv_has ls 1 [(0, .ref h1)] := hl
  refine lv_aload_n hx hb dX2_init_0 rfl (lv_at hl 0 rfl) ?_
  refine W.objInit hx hb hown (hts _ kX2_init_1) (hts _ kX2_init_2) (hts _ kX2_init_3) rfl (by rw [hml]; exact hl.1) rfl dX2_init_1 (Nat.le_of_ble_eq_true rfl) (Nat.le_of_ble_eq_true rfl) ?_
  show W p l e _ s m _ below meth c _ _ _ _ _ (F0 m 4 ls [])
  refine lv_aload_n hx hb dX2_init_4 rfl (lv_at hl 0 rfl) ?_
  refine lv_iconst (v := (0)) hx hb dX2_init_5 (by decide) ?_
  refine va_put (D := D) (ci := 8) (v := .int 0) (ty := .int) (C := RX2) (T := TX2) (N := 7) hx hb hts iX2_init_X2 tyX2 tyX2_ok nmX2 hown hK hP hD hS 0 rfl rfl 0 (by decide) (hts _ kX2_init_4) (fun _ h9 => h9) rfl (by decide +kernel) rfl rfl (Nat.le_of_ble_eq_true rfl) dX2_init_6 (fun H locs hP hD hS => ?_)
  have hP : va_P D vwCl [(h1, .inr (8, [.int 0, .int 0, .null, .null, .null, .null, .null]))] H := hP
  have hD : va_D A [(h1, .inr (8, [.int 0, .int 0, .null, .null, .null, .null, .null]))] := hD
  refine lv_aload_n hx hb dX2_init_9 rfl (lv_at hl 0 rfl) ?_
  refine lv_iconst (v := (0)) hx hb dX2_init_10 (by decide) ?_
  refine va_put (D := D) (ci := 8) (v := .int 0) (ty := .int) (C := RX2) (T := TX2) (N := 7) hx hb hts iX2_init_X2 tyX2 tyX2_ok nmX2 hown hK hP hD hS 0 rfl rfl 1 (by decide) (hts _ kX2_init_5) (fun _ h9 => h9) rfl (by decide +kernel) rfl rfl (Nat.le_of_ble_eq_true rfl) dX2_init_11 (fun H locs hP hD hS => ?_)
  have hP : va_P D vwCl [(h1, .inr (8, [.int 0, .int 0, .null, .null, .null, .null, .null]))] H := hP
  have hD : va_D A [(h1, .inr (8, [.int 0, .int 0, .null, .null, .null, .null, .null]))] := hD
  refine lv_aload_n hx hb dX2_init_14 rfl (lv_at hl 0 rfl) ?_
  refine lv_bipush (v := (10)) hx hb dX2_init_15 (by decide) ?_
  refine va_newa (atype := .int) (ty := .int) (N' := 10) (a0 := (10, .inl (fun _ => 0))) hx hb (hts _ kX2_init_6) rfl hK hP hD hS hA (fun _ => rfl) (by decide) (by decide) (by decide) (Nat.le_of_ble_eq_true rfl) (Nat.le_of_ble_eq_true rfl) dX2_init_17 (fun q_1 c_2 H hK hP hD hS => ?_)
  have hc9 := (y_cls hK 0 1 rfl rfl).symm
  subst hc9
  have hK : va_K D vwCl [(cI, .int)] s := hK.sub [0] rfl
  have hP : va_P D vwCl [(h1, .inr (8, [.int 0, .int 0, .null, .null, .null, .null, .null])), (q_1, .inl (cI, 10, .inl (fun _ => 0)))] H := hP
  have hD : va_D A [(h1, .inr (8, [.int 0, .int 0, .null, .null, .null, .null, .null])), (q_1, .inl (cI, 10, .inl (fun _ => 0)))] := hD
  refine va_putF (D := D) (ci := 8) (v := .ref q_1) (ty := .array .int) (C := RX2) (T := TX2) (N := 7) hx hb hts iX2_init_X2 tyX2 tyX2_ok nmX2 hown hK hP hD hS 0 rfl rfl 2 (by decide) (hts _ kX2_init_7) (fun _ h9 => h9) rfl hin rfl (by decide +kernel) rfl rfl (Nat.le_of_ble_eq_true rfl) dX2_init_19 (fun H locs hP hD hS => ?_)
  have hP : va_P D vwCl [(h1, .inr (8, [.int 0, .int 0, .ref q_1, .null, .null, .null, .null])), (q_1, .inl (cI, 10, .inl (fun _ => 0)))] H := hP
  have hD : va_D A [(h1, .inr (8, [.int 0, .int 0, .ref q_1, .null, .null, .null, .null])), (q_1, .inl (cI, 10, .inl (fun _ => 0)))] := hD
  refine lv_aload_n hx hb dX2_init_22 rfl (lv_at hl 0 rfl) ?_
  refine lv_bipush (v := (10)) hx hb dX2_init_23 (by decide) ?_
  refine va_newa (atype := .int) (ty := .int) (N' := 10) (a0 := (10, .inl (fun _ => 0))) hx hb (hts _ kX2_init_6) rfl hK hP hD hS hA (fun _ => rfl) (by decide) (by decide) (by decide) (Nat.le_of_ble_eq_true rfl) (Nat.le_of_ble_eq_true rfl) dX2_init_25 (fun q_3 c_4 H hK hP hD hS => ?_)
  have hc9 := (y_cls hK 0 1 rfl rfl).symm
  subst hc9
  have hK : va_K D vwCl [(cI, .int)] s := hK.sub [0] rfl
  have hP : va_P D vwCl [(h1, .inr (8, [.int 0, .int 0, .ref q_1, .null, .null, .null, .null])), (q_1, .inl (cI, 10, .inl (fun _ => 0))), (q_3, .inl (cI, 10, .inl (fun _ => 0)))] H := hP
  have hD : va_D A [(h1, .inr (8, [.int 0, .int 0, .ref q_1, .null, .null, .null, .null])), (q_1, .inl (cI, 10, .inl (fun _ => 0))), (q_3, .inl (cI, 10, .inl (fun _ => 0)))] := hD
  refine va_putF (D := D) (ci := 8) (v := .ref q_3) (ty := .array .int) (C := RX2) (T := TX2) (N := 7) hx hb hts iX2_init_X2 tyX2 tyX2_ok nmX2 hown hK hP hD hS 0 rfl rfl 3 (by decide) (hts _ kX2_init_8) (fun _ h9 => h9) rfl hin rfl (by decide +kernel) rfl rfl (Nat.le_of_ble_eq_true rfl) dX2_init_27 (fun H locs hP hD hS => ?_)
  have hP : va_P D vwCl [(h1, .inr (8, [.int 0, .int 0, .ref q_1, .ref q_3, .null, .null, .null])), (q_1, .inl (cI, 10, .inl (fun _ => 0))), (q_3, .inl (cI, 10, .inl (fun _ => 0)))] H := hP
  have hD : va_D A [(h1, .inr (8, [.int 0, .int 0, .ref q_1, .ref q_3, .null, .null, .null])), (q_1, .inl (cI, 10, .inl (fun _ => 0))), (q_3, .inl (cI, 10, .inl (fun _ => 0)))] := hD
  refine lv_aload_n hx hb dX2_init_30 rfl (lv_at hl 0 rfl) ?_
  refine lv_bipush (v := (10)) hx hb dX2_init_31 (by decide) ?_
  refine lv_bipush (v := (10)) hx hb dX2_init_33 (by decide) ?_
  obtain ⟨cy_6, hcy_6⟩ := y_arr (hts _ kX2_init_6)
  refine va_mna (ty := .int) (cy := cy_6) (X := [(h1, .inr (8, [.int 0, .int 0, .ref q_1, .ref q_3, .null, .null, .null])), (q_1, .inl (cI, 10, .inl (fun _ => 0))), (q_3, .inl (cI, 10, .inl (fun _ => 0)))]) (L := []) (f := fun _ => .inr (0, [])) (N' := 10) (K' := 10) (z := (10, .inl (fun _ => 0))) hx hb hown (hts _ kX2_init_9) hE.2.2.2.2.2.1 (hts _ kX2_init_6) hcy_6 hK hP hD hS hA (by decide) (by decide) (by decide) (by decide) (by decide) (by decide) (by decide) (by decide) (by decide) (Nat.le_of_ble_eq_true rfl) (Nat.le_of_ble_eq_true rfl) (fun _ => rfl) dX2_init_35 (fun q_5 rr_7 co_8 H _ _ hK hP hD hS => ?_)
  have hP : va_P D vwCl [(h1, .inr (8, [.int 0, .int 0, .ref q_1, .ref q_3, .null, .null, .null])), (q_1, .inl (cI, 10, .inl (fun _ => 0))), (q_3, .inl (cI, 10, .inl (fun _ => 0)))] H := hP.sub [0, 1, 2] rfl
  have hD : va_D A [(h1, .inr (8, [.int 0, .int 0, .ref q_1, .ref q_3, .null, .null, .null])), (q_1, .inl (cI, 10, .inl (fun _ => 0))), (q_3, .inl (cI, 10, .inl (fun _ => 0)))] := hD.sub [0, 1, 2] (by decide) rfl
  have hK : va_K D vwCl [(cI, .int)] s := hK.sub [0] rfl
  refine va_putF (D := D) (ci := 8) (v := .ref q_5) (ty := .array (.array .int)) (C := RX2) (T := TX2) (N := 7) hx hb hts iX2_init_X2 tyX2 tyX2_ok nmX2 hown hK hP hD hS 0 rfl rfl 4 (by decide) (hts _ kX2_init_10) (fun _ h9 => h9) rfl hin rfl (by decide +kernel) rfl rfl (Nat.le_of_ble_eq_true rfl) dX2_init_39 (fun H locs hP hD hS => ?_)
  have hP : va_P D vwCl [(h1, .inr (8, [.int 0, .int 0, .ref q_1, .ref q_3, .ref q_5, .null, .null])), (q_1, .inl (cI, 10, .inl (fun _ => 0))), (q_3, .inl (cI, 10, .inl (fun _ => 0)))] H := hP
  have hD : va_D A [(h1, .inr (8, [.int 0, .int 0, .ref q_1, .ref q_3, .ref q_5, .null, .null])), (q_1, .inl (cI, 10, .inl (fun _ => 0))), (q_3, .inl (cI, 10, .inl (fun _ => 0)))] := hD
  refine lv_aload_n hx hb dX2_init_42 rfl (lv_at hl 0 rfl) ?_
  refine lv_bipush (v := (20)) hx hb dX2_init_43 (by decide) ?_
  refine va_newa (atype := .char) (ty := .char) (N' := 20) (a0 := (20, .inl (fun _ => 0))) hx hb (hts _ kX2_init_11) rfl hK hP hD hS hA (fun _ => rfl) (by decide) (by decide) (by decide) (Nat.le_of_ble_eq_true rfl) (Nat.le_of_ble_eq_true rfl) dX2_init_45 (fun q_9 c_10 H hK hP hD hS => ?_)
  have hK : va_K D vwCl [(cI, .int), (c_10, .char)] s := hK
  have hP : va_P D vwCl [(h1, .inr (8, [.int 0, .int 0, .ref q_1, .ref q_3, .ref q_5, .null, .null])), (q_1, .inl (cI, 10, .inl (fun _ => 0))), (q_3, .inl (cI, 10, .inl (fun _ => 0))), (q_9, .inl (c_10, 20, .inl (fun _ => 0)))] H := hP
  have hD : va_D A [(h1, .inr (8, [.int 0, .int 0, .ref q_1, .ref q_3, .ref q_5, .null, .null])), (q_1, .inl (cI, 10, .inl (fun _ => 0))), (q_3, .inl (cI, 10, .inl (fun _ => 0))), (q_9, .inl (c_10, 20, .inl (fun _ => 0)))] := hD
  refine va_putF (D := D) (ci := 8) (v := .ref q_9) (ty := .array .char) (C := RX2) (T := TX2) (N := 7) hx hb hts iX2_init_X2 tyX2 tyX2_ok nmX2 hown hK hP hD hS 0 rfl rfl 5 (by decide) (hts _ kX2_init_12) (fun _ h9 => h9) rfl hin rfl (by decide +kernel) rfl rfl (Nat.le_of_ble_eq_true rfl) dX2_init_47 (fun H locs hP hD hS => ?_)
  have hP : va_P D vwCl [(h1, .inr (8, [.int 0, .int 0, .ref q_1, .ref q_3, .ref q_5, .ref q_9, .null])), (q_1, .inl (cI, 10, .inl (fun _ => 0))), (q_3, .inl (cI, 10, .inl (fun _ => 0))), (q_9, .inl (c_10, 20, .inl (fun _ => 0)))] H := hP
  have hD : va_D A [(h1, .inr (8, [.int 0, .int 0, .ref q_1, .ref q_3, .ref q_5, .ref q_9, .null])), (q_1, .inl (cI, 10, .inl (fun _ => 0))), (q_3, .inl (cI, 10, .inl (fun _ => 0))), (q_9, .inl (c_10, 20, .inl (fun _ => 0)))] := hD
  refine lv_aload_n hx hb dX2_init_50 rfl (lv_at hl 0 rfl) ?_
  refine lv_bipush (v := (10)) hx hb dX2_init_51 (by decide) ?_
  refine va_newa (atype := .int) (ty := .int) (N' := 10) (a0 := (10, .inl (fun _ => 0))) hx hb (hts _ kX2_init_6) rfl hK hP hD hS hA (fun _ => rfl) (by decide) (by decide) (by decide) (Nat.le_of_ble_eq_true rfl) (Nat.le_of_ble_eq_true rfl) dX2_init_53 (fun q_11 c_12 H hK hP hD hS => ?_)
  have hc9 := (y_cls hK 0 2 rfl rfl).symm
  subst hc9
  have hK : va_K D vwCl [(cI, .int), (c_10, .char)] s := hK.sub [0, 1] rfl
  have hP : va_P D vwCl [(h1, .inr (8, [.int 0, .int 0, .ref q_1, .ref q_3, .ref q_5, .ref q_9, .null])), (q_1, .inl (cI, 10, .inl (fun _ => 0))), (q_3, .inl (cI, 10, .inl (fun _ => 0))), (q_9, .inl (c_10, 20, .inl (fun _ => 0))), (q_11, .inl (cI, 10, .inl (fun _ => 0)))] H := hP
  have hD : va_D A [(h1, .inr (8, [.int 0, .int 0, .ref q_1, .ref q_3, .ref q_5, .ref q_9, .null])), (q_1, .inl (cI, 10, .inl (fun _ => 0))), (q_3, .inl (cI, 10, .inl (fun _ => 0))), (q_9, .inl (c_10, 20, .inl (fun _ => 0))), (q_11, .inl (cI, 10, .inl (fun _ => 0)))] := hD
  refine va_putF (D := D) (ci := 8) (v := .ref q_11) (ty := .array .int) (C := RX2) (T := TX2) (N := 7) hx hb hts iX2_init_X2 tyX2 tyX2_ok nmX2 hown hK hP hD hS 0 rfl rfl 6 (by decide) (hts _ kX2_init_13) (fun _ h9 => h9) rfl hin rfl (by decide +kernel) rfl rfl (Nat.le_of_ble_eq_true rfl) dX2_init_55 (fun H locs hP hD hS => ?_)
  have hP : va_P D vwCl [(h1, .inr (8, [.int 0, .int 0, .ref q_1, .ref q_3, .ref q_5, .ref q_9, .ref q_11])), (q_1, .inl (cI, 10, .inl (fun _ => 0))), (q_3, .inl (cI, 10, .inl (fun _ => 0))), (q_9, .inl (c_10, 20, .inl (fun _ => 0))), (q_11, .inl (cI, 10, .inl (fun _ => 0)))] H := hP
  have hD : va_D A [(h1, .inr (8, [.int 0, .int 0, .ref q_1, .ref q_3, .ref q_5, .ref q_9, .ref q_11])), (q_1, .inl (cI, 10, .inl (fun _ => 0))), (q_3, .inl (cI, 10, .inl (fun _ => 0))), (q_9, .inl (c_10, 20, .inl (fun _ => 0))), (q_11, .inl (cI, 10, .inl (fun _ => 0)))] := hD
  exact y_vret hx hb hr hlocks ((fun k => ([q_1, q_3, q_5, q_9, q_11] : List Nat).getD k 0), ()) trivial (hP.sub [0, 1, 2, 4] rfl) (hD.sub [0, 1, 2, 4] (by decide) rfl) hS (Nat.le_of_ble_eq_true rfl) (Nat.le_of_ble_eq_true rfl) dX2_init_58
theorem kX4_init_1 : Cond.methodLink RX4 3 objectInit ∈ wsX4_init := List.mem_of_getElem? (i := 1) (by decide +kernel)
theorem kX4_init_2 : Cond.instanceMethod objectInit ∈ wsX4_init := List.mem_of_getElem? (i := 2) (by decide +kernel)
theorem kX4_init_3 : Cond.code objectInit ⟨#[0xb1]⟩ 1 none ∈ wsX4_init := List.mem_of_getElem? (i := 3) (by decide +kernel)
theorem iX4_init_X4 : ∀ w ∈ wsX40, w ∈ wsX4_init := by decide +kernel
theorem kX4_init_4 : Cond.fieldLink RX4 9 "Mostwell$Typing" "length" "I" ∈ wsX4_init := List.mem_of_getElem? (i := 4) (by decide +kernel)
theorem kX4_init_5 : Cond.arrayClass .int ∈ wsX4_init := List.mem_of_getElem? (i := 5) (by decide +kernel)
theorem kX4_init_6 : Cond.fieldLink RX4 15 "Mostwell$Typing" "ranks" "[I" ∈ wsX4_init := List.mem_of_getElem? (i := 6) (by decide +kernel)
theorem kX4_init_7 : Cond.arrayClass .char ∈ wsX4_init := List.mem_of_getElem? (i := 7) (by decide +kernel)
theorem kX4_init_8 : Cond.fieldLink RX4 19 "Mostwell$Typing" "signs" "[C" ∈ wsX4_init := List.mem_of_getElem? (i := 8) (by decide +kernel)
set_option maxHeartbeats 4000000 in
set_option maxRecDepth 100000 in
theorem i_X4 (l : Launch) (hfl : l.stackTraces = false) (D : va_G) (tE : Nat) (sz : Nat) (h2 : Nat) (cC : ClassId) (A : Nat → Prop) (hA0 : A = va_A [(h2, .inr (10, [.int 0, .null, .null]))] sz) : Met l yX4_init wsX4_init (yR 0 2 30) (yP D tE [(h2, .inr (10, [.int 0, .null, .null]))] [(cC, .char)] sz [.ref h2]) (va_Qv (S := (Nat → Nat) × Unit) (fun (u : (Nat → Nat) × Unit) => True) (fun (u : (Nat → Nat) × Unit) (t : State) => yB D A ((fun (u : (Nat → Nat) × Unit) => [(h2, .inr (10, [.int 0, .ref ((u.1 0)), .ref ((u.1 1))])), ((u.1 1), .inl (cC, 20, .inl (fun _ => 0)))]) u) t) A) 2 30 A := by
  refine Met.ofW (cc := cX4_init) (maxL := 1) (ret := none) (by decide) rfl ?_
  intro p e s m args below meth c s₁ B hml hv
  obtain ⟨rfl, rfl, hP, hK, hD, hE, hA⟩ := y_start hA0 hv
  have hx := B.exec
  have hb := B.bytes
  have hr := B.returns
  have hts := atoms_spec (ws := wsX4_init) B.pre
  have hown : s.vm.findClass RX4 = some m.cls := findClass_of_methodNamed B.named
  have hlocks := B.notSynchronized
  have hin : meth.name = "<init>" := (name_of_methodNamed B.named B.method).1
  clear hA0 hv
  have hS : va_S A s.heap s.heap [] := va_S.rf
  have hl := lv_entry ([.ref h2]) (n := 1) (Nat.le_of_ble_eq_true rfl)
  rw [lg_entry_eq]
  generalize (lg_sl ([.ref h2]) ++ List.replicate (1 - (lg_sl ([.ref h2])).length) Slot.unset).toArray = ls at hl ⊢
  have hl : lv_has ls 1 [(0, .ref h2)] := hl
  refine lv_aload_n hx hb dX4_init_0 rfl (lv_at hl 0 rfl) ?_
  refine W.objInit hx hb hown (hts _ kX4_init_1) (hts _ kX4_init_2) (hts _ kX4_init_3) rfl (by rw [hml]; exact hl.1) rfl dX4_init_1 (Nat.le_of_ble_eq_true rfl) (Nat.le_of_ble_eq_true rfl) ?_
  show W p l e _ s m _ below meth c _ _ _ _ _ (F0 m 4 ls [])
  refine lv_aload_n hx hb dX4_init_4 rfl (lv_at hl 0 rfl) ?_
  refine lv_iconst (v := (0)) hx hb dX4_init_5 (by decide) ?_
  refine va_put (D := D) (ci := 10) (v := .int 0) (ty := .int) (C := RX4) (T := TX4) (N := 3) hx hb hts iX4_init_X4 tyX4 tyX4_ok nmX4 hown hK hP hD hS 0 rfl rfl 0 (by decide) (hts _ kX4_init_4) (fun _ h9 => h9) rfl (by decide +kernel) rfl rfl (Nat.le_of_ble_eq_true rfl) dX4_init_6 (fun H locs hP hD hS => ?_)
  have hP : va_P D vwCl [(h2, .inr (10, [.int 0, .null, .null]))] H := hP
  have hD : va_D A [(h2, .inr (10, [.int 0, .null, .null]))] := hD
  refine lv_aload_n hx hb dX4_init_9 rfl (lv_at hl 0 rfl) ?_
  refine lv_bipush (v := (10)) hx hb dX4_init_10 (by decide) ?_
  refine va_newa (atype := .int) (ty := .int) (N' := 10) (a0 := (10, .inl (fun _ => 0))) hx hb (hts _ kX4_init_5) rfl hK hP hD hS hA (fun _ => rfl) (by decide) (by decide) (by decide) (Nat.le_of_ble_eq_true rfl) (Nat.le_of_ble_eq_true rfl) dX4_init_12 (fun q_1 c_2 H hK hP hD hS => ?_)
  have hK : va_K D vwCl [(cC, .char), (c_2, .int)] s := hK
  have hP : va_P D vwCl [(h2, .inr (10, [.int 0, .null, .null])), (q_1, .inl (c_2, 10, .inl (fun _ => 0)))] H := hP
  have hD : va_D A [(h2, .inr (10, [.int 0, .null, .null])), (q_1, .inl (c_2, 10, .inl (fun _ => 0)))] := hD
  refine va_putF (D := D) (ci := 10) (v := .ref q_1) (ty := .array .int) (C := RX4) (T := TX4) (N := 3) hx hb hts iX4_init_X4 tyX4 tyX4_ok nmX4 hown hK hP hD hS 0 rfl rfl 1 (by decide) (hts _ kX4_init_6) (fun _ h9 => h9) rfl hin rfl (by decide +kernel) rfl rfl (Nat.le_of_ble_eq_true rfl) dX4_init_14 (fun H locs hP hD hS => ?_)
  have hP : va_P D vwCl [(h2, .inr (10, [.int 0, .ref q_1, .null])), (q_1, .inl (c_2, 10, .inl (fun _ => 0)))] H := hP
  have hD : va_D A [(h2, .inr (10, [.int 0, .ref q_1, .null])), (q_1, .inl (c_2, 10, .inl (fun _ => 0)))] := hD
  refine lv_aload_n hx hb dX4_init_17 rfl (lv_at hl 0 rfl) ?_
  refine lv_bipush (v := (20)) hx hb dX4_init_18 (by decide) ?_
  refine va_newa (atype := .char) (ty := .char) (N' := 20) (a0 := (20, .inl (fun _ => 0))) hx hb (hts _ kX4_init_7) rfl hK hP hD hS hA (fun _ => rfl) (by decide) (by decide) (by decide) (Nat.le_of_ble_eq_true rfl) (Nat.le_of_ble_eq_true rfl) dX4_init_20 (fun q_3 c_4 H hK hP hD hS => ?_)
  have hc9 := (y_cls hK 0 2 rfl rfl).symm
  subst hc9
  have hK : va_K D vwCl [(cC, .char), (c_2, .int)] s := hK.sub [0, 1] rfl
  have hP : va_P D vwCl [(h2, .inr (10, [.int 0, .ref q_1, .null])), (q_1, .inl (c_2, 10, .inl (fun _ => 0))), (q_3, .inl (cC, 20, .inl (fun _ => 0)))] H := hP
  have hD : va_D A [(h2, .inr (10, [.int 0, .ref q_1, .null])), (q_1, .inl (c_2, 10, .inl (fun _ => 0))), (q_3, .inl (cC, 20, .inl (fun _ => 0)))] := hD
  refine va_putF (D := D) (ci := 10) (v := .ref q_3) (ty := .array .char) (C := RX4) (T := TX4) (N := 3) hx hb hts iX4_init_X4 tyX4 tyX4_ok nmX4 hown hK hP hD hS 0 rfl rfl 2 (by decide) (hts _ kX4_init_8) (fun _ h9 => h9) rfl hin rfl (by decide +kernel) rfl rfl (Nat.le_of_ble_eq_true rfl) dX4_init_22 (fun H locs hP hD hS => ?_)
  have hP : va_P D vwCl [(h2, .inr (10, [.int 0, .ref q_1, .ref q_3])), (q_1, .inl (c_2, 10, .inl (fun _ => 0))), (q_3, .inl (cC, 20, .inl (fun _ => 0)))] H := hP
  have hD : va_D A [(h2, .inr (10, [.int 0, .ref q_1, .ref q_3])), (q_1, .inl (c_2, 10, .inl (fun _ => 0))), (q_3, .inl (cC, 20, .inl (fun _ => 0)))] := hD
  exact y_vret hx hb hr hlocks ((fun k => ([q_1, q_3] : List Nat).getD k 0), ()) trivial (hP.sub [0, 2] rfl) (hD.sub [0, 2] (by decide) rfl) hS (Nat.le_of_ble_eq_true rfl) (Nat.le_of_ble_eq_true rfl) dX4_init_25
theorem kX3_init_1 : Cond.methodLink RX3 3 objectInit ∈ wsX3_init := List.mem_of_getElem? (i := 1) (by decide +kernel)
theorem kX3_init_2 : Cond.instanceMethod objectInit ∈ wsX3_init := List.mem_of_getElem? (i := 2) (by decide +kernel)
theorem kX3_init_3 : Cond.code objectInit ⟨#[0xb1]⟩ 1 none ∈ wsX3_init := List.mem_of_getElem? (i := 3) (by decide +kernel)
theorem kX3_init_5 : Cond.arrayClass .long ∈ wsX3_init := List.mem_of_getElem? (i := 5) (by decide +kernel)
theorem kX3_init_4 : Cond.classLink RX3 9 "[[J" ∈ wsX3_init := List.mem_of_getElem? (i := 4) (by decide +kernel)
theorem iX3_init_X3 : ∀ w ∈ wsX30, w ∈ wsX3_init := by decide +kernel
theorem kX3_init_6 : Cond.fieldLink RX3 11 "Mostwell$Sharing" "worth" "[[J" ∈ wsX3_init := List.mem_of_getElem? (i := 6) (by decide +kernel)
theorem kX3_init_7 : Cond.arrayClass .int ∈ wsX3_init := List.mem_of_getElem? (i := 7) (by decide +kernel)
theorem kX3_init_8 : Cond.fieldLink RX3 16 "Mostwell$Sharing" "column" "[I" ∈ wsX3_init := List.mem_of_getElem? (i := 8) (by decide +kernel)
theorem kX3_init_9 : Cond.fieldLink RX3 20 "Mostwell$Sharing" "used" "[I" ∈ wsX3_init := List.mem_of_getElem? (i := 9) (by decide +kernel)
theorem kX3_init_10 : Cond.fieldLink RX3 23 "Mostwell$Sharing" "none" "I" ∈ wsX3_init := List.mem_of_getElem? (i := 10) (by decide +kernel)
theorem kX3_init_11 : Cond.fieldLink RX3 27 "Mostwell$Sharing" "reachWorth" "[J" ∈ wsX3_init := List.mem_of_getElem? (i := 11) (by decide +kernel)
theorem kX3_init_12 : Cond.fieldLink RX3 31 "Mostwell$Sharing" "reachOrder" "[J" ∈ wsX3_init := List.mem_of_getElem? (i := 12) (by decide +kernel)
theorem kX3_init_13 : Cond.fieldLink RX3 34 "Mostwell$Sharing" "mover" "[I" ∈ wsX3_init := List.mem_of_getElem? (i := 13) (by decide +kernel)
set_option maxHeartbeats 4000000 in
set_option maxRecDepth 100000 in
theorem i_X3 (l : Launch) (hfl : l.stackTraces = false) (D : va_G) (tE : Nat) (sz : Nat) (h5 : Nat) (cI : ClassId) (A : Nat → Prop) (hA0 : A = va_A [(h5, .inr (9, [.null, .null, .null, .int 0, .null, .null, .null]))] sz) : Met l yX3_init wsX3_init (yR 0 16 174) (yP D tE [(h5, .inr (9, [.null, .null, .null, .int 0, .null, .null, .null]))] [(cI, .int)] sz [.ref h5]) (va_Qv (S := (Nat → Nat) × Unit) (fun (u : (Nat → Nat) × Unit) => True) (fun (u : (Nat → Nat) × Unit) (t : State) => yB D A ((fun (u : (Nat → Nat) × Unit) => [(h5, .inr (9, [.ref ((u.1 0)), .ref ((u.1 1)), .ref ((u.1 2)), .int 0, .ref ((u.1 3)), .ref ((u.1 4)), .ref ((u.1 5))])), ((u.1 1), .inl (cI, 10, .inl (fun _ => 0))), ((u.1 2), .inl (cI, 11, .inl (fun _ => 0)))]) u) t) A) 16 174 A := by
  refine Met.ofW (cc := cX3_init) (maxL := 1) (ret := none) (by decide) rfl ?_
  intro p e s m args below meth c s₁ B hml hv
  obtain ⟨rfl, rfl, hP, hK, hD, hE, hA⟩ := y_start hA0 hv
  have hx := B.exec
  have hb := B.bytes
  have hr := B.returns
  have hts := atoms_spec (ws := wsX3_init) B.pre
  have hown : s.vm.findClass RX3 = some m.cls := findClass_of_methodNamed B.named
  have hlocks := B.notSynchronized
  have hin : meth.name = "<init>" := (name_of_methodNamed B.named B.method).1
  clear hA0 hv
  have hS : va_S A s.heap s.heap [] := va_S.rf
  have hl := lv_entry ([.ref h5]) (n := 1) (Nat.le_of_ble_eq_true rfl)
  rw [lg_entry_eq]
  generalize (lg_sl ([.ref h5]) ++ List.replicate (1 - (lg_sl ([.ref h5])).length) Slot.unset).toArray = ls at hl ⊢
  have hl : lv_has ls 1 [(0, .ref h5)] := hl
  refine lv_aload_n hx hb dX3_init_0 rfl (lv_at hl 0 rfl) ?_
  refine W.objInit hx hb hown (hts _ kX3_init_1) (hts _ kX3_init_2) (hts _ kX3_init_3) rfl (by rw [hml]; exact hl.1) rfl dX3_init_1 (Nat.le_of_ble_eq_true rfl) (Nat.le_of_ble_eq_true rfl) ?_
  show W p l e _ s m _ below meth c _ _ _ _ _ (F0 m 4 ls [])
  refine lv_aload_n hx hb dX3_init_4 rfl (lv_at hl 0 rfl) ?_
  refine lv_bipush (v := (10)) hx hb dX3_init_5 (by decide) ?_
  refine lv_bipush (v := (11)) hx hb dX3_init_7 (by decide) ?_
  obtain ⟨cy_2, hcy_2⟩ := y_arr (hts _ kX3_init_5)
  refine va_mna (ty := .long) (cy := cy_2) (X := [(h5, .inr (9, [.null, .null, .null, .int 0, .null, .null, .null]))]) (L := []) (f := fun _ => .inr (0, [])) (N' := 10) (K' := 11) (z := (11, .inr (.inl (fun _ => 0)))) hx hb hown (hts _ kX3_init_4) hE.2.2.2.2.2.2.1 (hts _ kX3_init_5) hcy_2 hK hP hD hS hA (by decide) (by decide) (by decide) (by decide) (by decide) (by decide) (by decide) (by decide) (by decide) (Nat.le_of_ble_eq_true rfl) (Nat.le_of_ble_eq_true rfl) (fun _ => rfl) dX3_init_9 (fun q_1 rr_3 co_4 H _ _ hK hP hD hS => ?_)
  have hP : va_P D vwCl [(h5, .inr (9, [.null, .null, .null, .int 0, .null, .null, .null]))] H := hP.sub [0] rfl
  have hD : va_D A [(h5, .inr (9, [.null, .null, .null, .int 0, .null, .null, .null]))] := hD.sub [0] (by decide) rfl
  have hK : va_K D vwCl [(cI, .int)] s := hK.sub [0] rfl
  refine va_putF (D := D) (ci := 9) (v := .ref q_1) (ty := .array (.array .long)) (C := RX3) (T := TX3) (N := 7) hx hb hts iX3_init_X3 tyX3 tyX3_ok nmX3 hown hK hP hD hS 0 rfl rfl 0 (by decide) (hts _ kX3_init_6) (fun _ h9 => h9) rfl hin rfl (by decide +kernel) rfl rfl (Nat.le_of_ble_eq_true rfl) dX3_init_13 (fun H locs hP hD hS => ?_)
  have hP : va_P D vwCl [(h5, .inr (9, [.ref q_1, .null, .null, .int 0, .null, .null, .null]))] H := hP
  have hD : va_D A [(h5, .inr (9, [.ref q_1, .null, .null, .int 0, .null, .null, .null]))] := hD
  refine lv_aload_n hx hb dX3_init_16 rfl (lv_at hl 0 rfl) ?_
  refine lv_bipush (v := (10)) hx hb dX3_init_17 (by decide) ?_
  refine va_newa (atype := .int) (ty := .int) (N' := 10) (a0 := (10, .inl (fun _ => 0))) hx hb (hts _ kX3_init_7) rfl hK hP hD hS hA (fun _ => rfl) (by decide) (by decide) (by decide) (Nat.le_of_ble_eq_true rfl) (Nat.le_of_ble_eq_true rfl) dX3_init_19 (fun q_5 c_6 H hK hP hD hS => ?_)
  have hc9 := (y_cls hK 0 1 rfl rfl).symm
  subst hc9
  have hK : va_K D vwCl [(cI, .int)] s := hK.sub [0] rfl
  have hP : va_P D vwCl [(h5, .inr (9, [.ref q_1, .null, .null, .int 0, .null, .null, .null])), (q_5, .inl (cI, 10, .inl (fun _ => 0)))] H := hP
  have hD : va_D A [(h5, .inr (9, [.ref q_1, .null, .null, .int 0, .null, .null, .null])), (q_5, .inl (cI, 10, .inl (fun _ => 0)))] := hD
  refine va_putF (D := D) (ci := 9) (v := .ref q_5) (ty := .array .int) (C := RX3) (T := TX3) (N := 7) hx hb hts iX3_init_X3 tyX3 tyX3_ok nmX3 hown hK hP hD hS 0 rfl rfl 1 (by decide) (hts _ kX3_init_8) (fun _ h9 => h9) rfl hin rfl (by decide +kernel) rfl rfl (Nat.le_of_ble_eq_true rfl) dX3_init_21 (fun H locs hP hD hS => ?_)
  have hP : va_P D vwCl [(h5, .inr (9, [.ref q_1, .ref q_5, .null, .int 0, .null, .null, .null])), (q_5, .inl (cI, 10, .inl (fun _ => 0)))] H := hP
  have hD : va_D A [(h5, .inr (9, [.ref q_1, .ref q_5, .null, .int 0, .null, .null, .null])), (q_5, .inl (cI, 10, .inl (fun _ => 0)))] := hD
  refine lv_aload_n hx hb dX3_init_24 rfl (lv_at hl 0 rfl) ?_
  refine lv_bipush (v := (11)) hx hb dX3_init_25 (by decide) ?_
  refine va_newa (atype := .int) (ty := .int) (N' := 11) (a0 := (11, .inl (fun _ => 0))) hx hb (hts _ kX3_init_7) rfl hK hP hD hS hA (fun _ => rfl) (by decide) (by decide) (by decide) (Nat.le_of_ble_eq_true rfl) (Nat.le_of_ble_eq_true rfl) dX3_init_27 (fun q_7 c_8 H hK hP hD hS => ?_)
  have hc9 := (y_cls hK 0 1 rfl rfl).symm
  subst hc9
  have hK : va_K D vwCl [(cI, .int)] s := hK.sub [0] rfl
  have hP : va_P D vwCl [(h5, .inr (9, [.ref q_1, .ref q_5, .null, .int 0, .null, .null, .null])), (q_5, .inl (cI, 10, .inl (fun _ => 0))), (q_7, .inl (cI, 11, .inl (fun _ => 0)))] H := hP
  have hD : va_D A [(h5, .inr (9, [.ref q_1, .ref q_5, .null, .int 0, .null, .null, .null])), (q_5, .inl (cI, 10, .inl (fun _ => 0))), (q_7, .inl (cI, 11, .inl (fun _ => 0)))] := hD
  refine va_putF (D := D) (ci := 9) (v := .ref q_7) (ty := .array .int) (C := RX3) (T := TX3) (N := 7) hx hb hts iX3_init_X3 tyX3 tyX3_ok nmX3 hown hK hP hD hS 0 rfl rfl 2 (by decide) (hts _ kX3_init_9) (fun _ h9 => h9) rfl hin rfl (by decide +kernel) rfl rfl (Nat.le_of_ble_eq_true rfl) dX3_init_29 (fun H locs hP hD hS => ?_)
  have hP : va_P D vwCl [(h5, .inr (9, [.ref q_1, .ref q_5, .ref q_7, .int 0, .null, .null, .null])), (q_5, .inl (cI, 10, .inl (fun _ => 0))), (q_7, .inl (cI, 11, .inl (fun _ => 0)))] H := hP
  have hD : va_D A [(h5, .inr (9, [.ref q_1, .ref q_5, .ref q_7, .int 0, .null, .null, .null])), (q_5, .inl (cI, 10, .inl (fun _ => 0))), (q_7, .inl (cI, 11, .inl (fun _ => 0)))] := hD
  refine lv_aload_n hx hb dX3_init_32 rfl (lv_at hl 0 rfl) ?_
  refine lv_iconst (v := (0)) hx hb dX3_init_33 (by decide) ?_
  refine va_put (D := D) (ci := 9) (v := .int 0) (ty := .int) (C := RX3) (T := TX3) (N := 7) hx hb hts iX3_init_X3 tyX3 tyX3_ok nmX3 hown hK hP hD hS 0 rfl rfl 3 (by decide) (hts _ kX3_init_10) (fun _ h9 => h9) rfl (by decide +kernel) rfl rfl (Nat.le_of_ble_eq_true rfl) dX3_init_34 (fun H locs hP hD hS => ?_)
  have hP : va_P D vwCl [(h5, .inr (9, [.ref q_1, .ref q_5, .ref q_7, .int 0, .null, .null, .null])), (q_5, .inl (cI, 10, .inl (fun _ => 0))), (q_7, .inl (cI, 11, .inl (fun _ => 0)))] H := hP
  have hD : va_D A [(h5, .inr (9, [.ref q_1, .ref q_5, .ref q_7, .int 0, .null, .null, .null])), (q_5, .inl (cI, 10, .inl (fun _ => 0))), (q_7, .inl (cI, 11, .inl (fun _ => 0)))] := hD
  refine lv_aload_n hx hb dX3_init_37 rfl (lv_at hl 0 rfl) ?_
  refine lv_bipush (v := (11)) hx hb dX3_init_38 (by decide) ?_
  refine va_newa (atype := .long) (ty := .long) (N' := 11) (a0 := (11, .inr (.inl (fun _ => 0)))) hx hb (hts _ kX3_init_5) rfl hK hP hD hS hA (fun _ => rfl) (by decide) (by decide) (by decide) (Nat.le_of_ble_eq_true rfl) (Nat.le_of_ble_eq_true rfl) dX3_init_40 (fun q_9 c_10 H hK hP hD hS => ?_)
  have hK : va_K D vwCl [(cI, .int), (c_10, .long)] s := hK
  have hP : va_P D vwCl [(h5, .inr (9, [.ref q_1, .ref q_5, .ref q_7, .int 0, .null, .null, .null])), (q_5, .inl (cI, 10, .inl (fun _ => 0))), (q_7, .inl (cI, 11, .inl (fun _ => 0))), (q_9, .inl (c_10, 11, .inr (.inl (fun _ => 0))))] H := hP
  have hD : va_D A [(h5, .inr (9, [.ref q_1, .ref q_5, .ref q_7, .int 0, .null, .null, .null])), (q_5, .inl (cI, 10, .inl (fun _ => 0))), (q_7, .inl (cI, 11, .inl (fun _ => 0))), (q_9, .inl (c_10, 11, .inr (.inl (fun _ => 0))))] := hD
  refine va_putF (D := D) (ci := 9) (v := .ref q_9) (ty := .array .long) (C := RX3) (T := TX3) (N := 7) hx hb hts iX3_init_X3 tyX3 tyX3_ok nmX3 hown hK hP hD hS 0 rfl rfl 4 (by decide) (hts _ kX3_init_11) (fun _ h9 => h9) rfl hin rfl (by decide +kernel) rfl rfl (Nat.le_of_ble_eq_true rfl) dX3_init_42 (fun H locs hP hD hS => ?_)
  have hP : va_P D vwCl [(h5, .inr (9, [.ref q_1, .ref q_5, .ref q_7, .int 0, .ref q_9, .null, .null])), (q_5, .inl (cI, 10, .inl (fun _ => 0))), (q_7, .inl (cI, 11, .inl (fun _ => 0))), (q_9, .inl (c_10, 11, .inr (.inl (fun _ => 0))))] H := hP
  have hD : va_D A [(h5, .inr (9, [.ref q_1, .ref q_5, .ref q_7, .int 0, .ref q_9, .null, .null])), (q_5, .inl (cI, 10, .inl (fun _ => 0))), (q_7, .inl (cI, 11, .inl (fun _ => 0))), (q_9, .inl (c_10, 11, .inr (.inl (fun _ => 0))))] := hD
  refine lv_aload_n hx hb dX3_init_45 rfl (lv_at hl 0 rfl) ?_
  refine lv_bipush (v := (11)) hx hb dX3_init_46 (by decide) ?_
  refine va_newa (atype := .long) (ty := .long) (N' := 11) (a0 := (11, .inr (.inl (fun _ => 0)))) hx hb (hts _ kX3_init_5) rfl hK hP hD hS hA (fun _ => rfl) (by decide) (by decide) (by decide) (Nat.le_of_ble_eq_true rfl) (Nat.le_of_ble_eq_true rfl) dX3_init_48 (fun q_11 c_12 H hK hP hD hS => ?_)
  have hc9 := (y_cls hK 1 2 rfl rfl).symm
  subst hc9
  have hK : va_K D vwCl [(cI, .int), (c_10, .long)] s := hK.sub [0, 1] rfl
  have hP : va_P D vwCl [(h5, .inr (9, [.ref q_1, .ref q_5, .ref q_7, .int 0, .ref q_9, .null, .null])), (q_5, .inl (cI, 10, .inl (fun _ => 0))), (q_7, .inl (cI, 11, .inl (fun _ => 0))), (q_9, .inl (c_10, 11, .inr (.inl (fun _ => 0)))), (q_11, .inl (c_10, 11, .inr (.inl (fun _ => 0))))] H := hP
  have hD : va_D A [(h5, .inr (9, [.ref q_1, .ref q_5, .ref q_7, .int 0, .ref q_9, .null, .null])), (q_5, .inl (cI, 10, .inl (fun _ => 0))), (q_7, .inl (cI, 11, .inl (fun _ => 0))), (q_9, .inl (c_10, 11, .inr (.inl (fun _ => 0)))), (q_11, .inl (c_10, 11, .inr (.inl (fun _ => 0))))] := hD
  refine va_putF (D := D) (ci := 9) (v := .ref q_11) (ty := .array .long) (C := RX3) (T := TX3) (N := 7) hx hb hts iX3_init_X3 tyX3 tyX3_ok nmX3 hown hK hP hD hS 0 rfl rfl 5 (by decide) (hts _ kX3_init_12) (fun _ h9 => h9) rfl hin rfl (by decide +kernel) rfl rfl (Nat.le_of_ble_eq_true rfl) dX3_init_50 (fun H locs hP hD hS => ?_)
  have hP : va_P D vwCl [(h5, .inr (9, [.ref q_1, .ref q_5, .ref q_7, .int 0, .ref q_9, .ref q_11, .null])), (q_5, .inl (cI, 10, .inl (fun _ => 0))), (q_7, .inl (cI, 11, .inl (fun _ => 0))), (q_9, .inl (c_10, 11, .inr (.inl (fun _ => 0)))), (q_11, .inl (c_10, 11, .inr (.inl (fun _ => 0))))] H := hP
  have hD : va_D A [(h5, .inr (9, [.ref q_1, .ref q_5, .ref q_7, .int 0, .ref q_9, .ref q_11, .null])), (q_5, .inl (cI, 10, .inl (fun _ => 0))), (q_7, .inl (cI, 11, .inl (fun _ => 0))), (q_9, .inl (c_10, 11, .inr (.inl (fun _ => 0)))), (q_11, .inl (c_10, 11, .inr (.inl (fun _ => 0))))] := hD
  refine lv_aload_n hx hb dX3_init_53 rfl (lv_at hl 0 rfl) ?_
  refine lv_bipush (v := (11)) hx hb dX3_init_54 (by decide) ?_
  refine va_newa (atype := .int) (ty := .int) (N' := 11) (a0 := (11, .inl (fun _ => 0))) hx hb (hts _ kX3_init_7) rfl hK hP hD hS hA (fun _ => rfl) (by decide) (by decide) (by decide) (Nat.le_of_ble_eq_true rfl) (Nat.le_of_ble_eq_true rfl) dX3_init_56 (fun q_13 c_14 H hK hP hD hS => ?_)
  have hc9 := (y_cls hK 0 2 rfl rfl).symm
  subst hc9
  have hK : va_K D vwCl [(cI, .int), (c_10, .long)] s := hK.sub [0, 1] rfl
  have hP : va_P D vwCl [(h5, .inr (9, [.ref q_1, .ref q_5, .ref q_7, .int 0, .ref q_9, .ref q_11, .null])), (q_5, .inl (cI, 10, .inl (fun _ => 0))), (q_7, .inl (cI, 11, .inl (fun _ => 0))), (q_9, .inl (c_10, 11, .inr (.inl (fun _ => 0)))), (q_11, .inl (c_10, 11, .inr (.inl (fun _ => 0)))), (q_13, .inl (cI, 11, .inl (fun _ => 0)))] H := hP
  have hD : va_D A [(h5, .inr (9, [.ref q_1, .ref q_5, .ref q_7, .int 0, .ref q_9, .ref q_11, .null])), (q_5, .inl (cI, 10, .inl (fun _ => 0))), (q_7, .inl (cI, 11, .inl (fun _ => 0))), (q_9, .inl (c_10, 11, .inr (.inl (fun _ => 0)))), (q_11, .inl (c_10, 11, .inr (.inl (fun _ => 0)))), (q_13, .inl (cI, 11, .inl (fun _ => 0)))] := hD
  refine va_putF (D := D) (ci := 9) (v := .ref q_13) (ty := .array .int) (C := RX3) (T := TX3) (N := 7) hx hb hts iX3_init_X3 tyX3 tyX3_ok nmX3 hown hK hP hD hS 0 rfl rfl 6 (by decide) (hts _ kX3_init_13) (fun _ h9 => h9) rfl hin rfl (by decide +kernel) rfl rfl (Nat.le_of_ble_eq_true rfl) dX3_init_58 (fun H locs hP hD hS => ?_)
  have hP : va_P D vwCl [(h5, .inr (9, [.ref q_1, .ref q_5, .ref q_7, .int 0, .ref q_9, .ref q_11, .ref q_13])), (q_5, .inl (cI, 10, .inl (fun _ => 0))), (q_7, .inl (cI, 11, .inl (fun _ => 0))), (q_9, .inl (c_10, 11, .inr (.inl (fun _ => 0)))), (q_11, .inl (c_10, 11, .inr (.inl (fun _ => 0)))), (q_13, .inl (cI, 11, .inl (fun _ => 0)))] H := hP
  have hD : va_D A [(h5, .inr (9, [.ref q_1, .ref q_5, .ref q_7, .int 0, .ref q_9, .ref q_11, .ref q_13])), (q_5, .inl (cI, 10, .inl (fun _ => 0))), (q_7, .inl (cI, 11, .inl (fun _ => 0))), (q_9, .inl (c_10, 11, .inr (.inl (fun _ => 0)))), (q_11, .inl (c_10, 11, .inr (.inl (fun _ => 0)))), (q_13, .inl (cI, 11, .inl (fun _ => 0)))] := hD
  exact y_vret hx hb hr hlocks ((fun k => ([q_1, q_5, q_7, q_9, q_11, q_13] : List Nat).getD k 0), ()) trivial (hP.sub [0, 1, 2] rfl) (hD.sub [0, 1, 2] (by decide) rfl) hS (Nat.le_of_ble_eq_true rfl) (Nat.le_of_ble_eq_true rfl) dX3_init_61
theorem kX1_init_1 : Cond.methodLink RX1 3 objectInit ∈ wsX1_init := List.mem_of_getElem? (i := 1) (by decide +kernel)
theorem kX1_init_2 : Cond.instanceMethod objectInit ∈ wsX1_init := List.mem_of_getElem? (i := 2) (by decide +kernel)
theorem kX1_init_3 : Cond.code objectInit ⟨#[0xb1]⟩ 1 none ∈ wsX1_init := List.mem_of_getElem? (i := 3) (by decide +kernel)
theorem kX1_init_4 : Cond.arrayClass .int ∈ wsX1_init := List.mem_of_getElem? (i := 4) (by decide +kernel)
theorem iX1_init_X1 : ∀ w ∈ wsX10, w ∈ wsX1_init := by decide +kernel
theorem kX1_init_5 : Cond.fieldLink RX1 9 "Mostwell$Finder" "challengerRow" "[I" ∈ wsX1_init := List.mem_of_getElem? (i := 5) (by decide +kernel)
theorem kX1_init_6 : Cond.fieldLink RX1 15 "Mostwell$Finder" "bestRow" "[I" ∈ wsX1_init := List.mem_of_getElem? (i := 6) (by decide +kernel)
theorem kX1_init_7 : Cond.fieldLink RX1 18 "Mostwell$Finder" "popularRow" "[I" ∈ wsX1_init := List.mem_of_getElem? (i := 7) (by decide +kernel)
theorem iX1_init_X3 : ∀ w ∈ wsX30, w ∈ wsX1_init := by decide +kernel
theorem kX1_init_8 : Cond.classLink RX1 21 RX3 ∈ wsX1_init := List.mem_of_getElem? (i := 8) (by decide +kernel)
theorem kX1_init_9 : Cond.instantiable RX3 7 ∈ wsX1_init := List.mem_of_getElem? (i := 9) (by decide +kernel)
theorem kX1_init_10 : Cond.initialized RX3 ∈ wsX1_init := List.mem_of_getElem? (i := 10) (by decide +kernel)
theorem kX1_init_15 : Cond.instanceMethod yX3_init ∈ wsX1_init := List.mem_of_getElem? (i := 15) (by decide +kernel)
theorem kX1_init_11 : Cond.fieldLink RX1 24 "Mostwell$Finder" "sharing" "LMostwell$Sharing;" ∈ wsX1_init := List.mem_of_getElem? (i := 11) (by decide +kernel)
theorem kX1_init_12 : Cond.fieldLink RX1 28 "Mostwell$Finder" "topRank" "[I" ∈ wsX1_init := List.mem_of_getElem? (i := 12) (by decide +kernel)
theorem kX1_init_13 : Cond.arrayClass .boolean ∈ wsX1_init := List.mem_of_getElem? (i := 13) (by decide +kernel)
theorem kX1_init_14 : Cond.fieldLink RX1 31 "Mostwell$Finder" "even" "[Z" ∈ wsX1_init := List.mem_of_getElem? (i := 14) (by decide +kernel)
set_option maxHeartbeats 4000000 in
set_option maxRecDepth 100000 in
theorem i_X1 (l : Launch) (hfl : l.stackTraces = false) (D : va_G) (tE : Nat) (sz : Nat) (h3 : Nat) (cI : ClassId) (A : Nat → Prop) (hA0 : A = va_A [(h3, .inr (7, [.null, .null, .null, .null, .null, .null]))] sz) : Met l yX1_init wsX1_init (yR 1 22 231) (yP D tE [(h3, .inr (7, [.null, .null, .null, .null, .null, .null]))] [(cI, .int)] sz [.ref h3]) (va_Qv (S := (Nat → Nat) × Unit) (fun (u : (Nat → Nat) × Unit) => True) (fun (u : (Nat → Nat) × Unit) (t : State) => yB D A ((fun (u : (Nat → Nat) × Unit) => [(h3, .inr (7, [.ref ((u.1 0)), .ref ((u.1 1)), .ref ((u.1 2)), .ref ((u.1 3)), .ref ((u.1 4)), .ref ((u.1 5))])), ((u.1 0), .inl (cI, 10, .inl (fun _ => 0))), ((u.1 1), .inl (cI, 10, .inl (fun _ => 0))), ((u.1 2), .inl (cI, 10, .inl (fun _ => 0))), ((u.1 3), .inr (9, [.ref ((u.1 6)), .ref ((u.1 7)), .ref ((u.1 8)), .int 0, .ref ((u.1 9)), .ref ((u.1 10)), .ref ((u.1 11))])), ((u.1 7), .inl (cI, 10, .inl (fun _ => 0))), ((u.1 8), .inl (cI, 11, .inl (fun _ => 0)))]) u) t) A) 22 231 A := by
  refine Met.ofW (cc := cX1_init) (maxL := 1) (ret := none) (by decide) rfl ?_
  intro p e s m args below meth c s₁ B hml hv
  obtain ⟨rfl, rfl, hP, hK, hD, hE, hA⟩ := y_start hA0 hv
  have hx := B.exec
  have hb := B.bytes
  have hr := B.returns
  have hts := atoms_spec (ws := wsX1_init) B.pre
  have hown : s.vm.findClass RX1 = some m.cls := findClass_of_methodNamed B.named
  have hlocks := B.notSynchronized
  have hin : meth.name = "<init>" := (name_of_methodNamed B.named B.method).1
  clear hA0 hv
  have hS : va_S A s.heap s.heap [] := va_S.rf
  have hl := lv_entry ([.ref h3]) (n := 1) (Nat.le_of_ble_eq_true rfl)
  rw [lg_entry_eq]
  generalize (lg_sl ([.ref h3]) ++ List.replicate (1 - (lg_sl ([.ref h3])).length) Slot.unset).toArray = ls at hl ⊢
  have hl : lv_has ls 1 [(0, .ref h3)] := hl
  refine lv_aload_n hx hb dX1_init_0 rfl (lv_at hl 0 rfl) ?_
  refine W.objInit hx hb hown (hts _ kX1_init_1) (hts _ kX1_init_2) (hts _ kX1_init_3) rfl (by rw [hml]; exact hl.1) rfl dX1_init_1 (Nat.le_of_ble_eq_true rfl) (Nat.le_of_ble_eq_true rfl) ?_
  show W p l e _ s m _ below meth c _ _ _ _ _ (F0 m 4 ls [])
  refine lv_aload_n hx hb dX1_init_4 rfl (lv_at hl 0 rfl) ?_
  refine lv_bipush (v := (10)) hx hb dX1_init_5 (by decide) ?_
  refine va_newa (atype := .int) (ty := .int) (N' := 10) (a0 := (10, .inl (fun _ => 0))) hx hb (hts _ kX1_init_4) rfl hK hP hD hS hA (fun _ => rfl) (by decide) (by decide) (by decide) (Nat.le_of_ble_eq_true rfl) (Nat.le_of_ble_eq_true rfl) dX1_init_7 (fun q_1 c_2 H hK hP hD hS => ?_)
  have hc9 := (y_cls hK 0 1 rfl rfl).symm
  subst hc9
  have hK : va_K D vwCl [(cI, .int)] s := hK.sub [0] rfl
  have hP : va_P D vwCl [(h3, .inr (7, [.null, .null, .null, .null, .null, .null])), (q_1, .inl (cI, 10, .inl (fun _ => 0)))] H := hP
  have hD : va_D A [(h3, .inr (7, [.null, .null, .null, .null, .null, .null])), (q_1, .inl (cI, 10, .inl (fun _ => 0)))] := hD
  refine va_putF (D := D) (ci := 7) (v := .ref q_1) (ty := .array .int) (C := RX1) (T := TX1) (N := 6) hx hb hts iX1_init_X1 tyX1 tyX1_ok nmX1 hown hK hP hD hS 0 rfl rfl 0 (by decide) (hts _ kX1_init_5) (fun _ h9 => h9) rfl hin rfl (by decide +kernel) rfl rfl (Nat.le_of_ble_eq_true rfl) dX1_init_9 (fun H locs hP hD hS => ?_)
  have hP : va_P D vwCl [(h3, .inr (7, [.ref q_1, .null, .null, .null, .null, .null])), (q_1, .inl (cI, 10, .inl (fun _ => 0)))] H := hP
  have hD : va_D A [(h3, .inr (7, [.ref q_1, .null, .null, .null, .null, .null])), (q_1, .inl (cI, 10, .inl (fun _ => 0)))] := hD
  refine lv_aload_n hx hb dX1_init_12 rfl (lv_at hl 0 rfl) ?_
  refine lv_bipush (v := (10)) hx hb dX1_init_13 (by decide) ?_
  refine va_newa (atype := .int) (ty := .int) (N' := 10) (a0 := (10, .inl (fun _ => 0))) hx hb (hts _ kX1_init_4) rfl hK hP hD hS hA (fun _ => rfl) (by decide) (by decide) (by decide) (Nat.le_of_ble_eq_true rfl) (Nat.le_of_ble_eq_true rfl) dX1_init_15 (fun q_3 c_4 H hK hP hD hS => ?_)
  have hc9 := (y_cls hK 0 1 rfl rfl).symm
  subst hc9
  have hK : va_K D vwCl [(cI, .int)] s := hK.sub [0] rfl
  have hP : va_P D vwCl [(h3, .inr (7, [.ref q_1, .null, .null, .null, .null, .null])), (q_1, .inl (cI, 10, .inl (fun _ => 0))), (q_3, .inl (cI, 10, .inl (fun _ => 0)))] H := hP
  have hD : va_D A [(h3, .inr (7, [.ref q_1, .null, .null, .null, .null, .null])), (q_1, .inl (cI, 10, .inl (fun _ => 0))), (q_3, .inl (cI, 10, .inl (fun _ => 0)))] := hD
  refine va_putF (D := D) (ci := 7) (v := .ref q_3) (ty := .array .int) (C := RX1) (T := TX1) (N := 6) hx hb hts iX1_init_X1 tyX1 tyX1_ok nmX1 hown hK hP hD hS 0 rfl rfl 1 (by decide) (hts _ kX1_init_6) (fun _ h9 => h9) rfl hin rfl (by decide +kernel) rfl rfl (Nat.le_of_ble_eq_true rfl) dX1_init_17 (fun H locs hP hD hS => ?_)
  have hP : va_P D vwCl [(h3, .inr (7, [.ref q_1, .ref q_3, .null, .null, .null, .null])), (q_1, .inl (cI, 10, .inl (fun _ => 0))), (q_3, .inl (cI, 10, .inl (fun _ => 0)))] H := hP
  have hD : va_D A [(h3, .inr (7, [.ref q_1, .ref q_3, .null, .null, .null, .null])), (q_1, .inl (cI, 10, .inl (fun _ => 0))), (q_3, .inl (cI, 10, .inl (fun _ => 0)))] := hD
  refine lv_aload_n hx hb dX1_init_20 rfl (lv_at hl 0 rfl) ?_
  refine lv_bipush (v := (10)) hx hb dX1_init_21 (by decide) ?_
  refine va_newa (atype := .int) (ty := .int) (N' := 10) (a0 := (10, .inl (fun _ => 0))) hx hb (hts _ kX1_init_4) rfl hK hP hD hS hA (fun _ => rfl) (by decide) (by decide) (by decide) (Nat.le_of_ble_eq_true rfl) (Nat.le_of_ble_eq_true rfl) dX1_init_23 (fun q_5 c_6 H hK hP hD hS => ?_)
  have hc9 := (y_cls hK 0 1 rfl rfl).symm
  subst hc9
  have hK : va_K D vwCl [(cI, .int)] s := hK.sub [0] rfl
  have hP : va_P D vwCl [(h3, .inr (7, [.ref q_1, .ref q_3, .null, .null, .null, .null])), (q_1, .inl (cI, 10, .inl (fun _ => 0))), (q_3, .inl (cI, 10, .inl (fun _ => 0))), (q_5, .inl (cI, 10, .inl (fun _ => 0)))] H := hP
  have hD : va_D A [(h3, .inr (7, [.ref q_1, .ref q_3, .null, .null, .null, .null])), (q_1, .inl (cI, 10, .inl (fun _ => 0))), (q_3, .inl (cI, 10, .inl (fun _ => 0))), (q_5, .inl (cI, 10, .inl (fun _ => 0)))] := hD
  refine va_putF (D := D) (ci := 7) (v := .ref q_5) (ty := .array .int) (C := RX1) (T := TX1) (N := 6) hx hb hts iX1_init_X1 tyX1 tyX1_ok nmX1 hown hK hP hD hS 0 rfl rfl 2 (by decide) (hts _ kX1_init_7) (fun _ h9 => h9) rfl hin rfl (by decide +kernel) rfl rfl (Nat.le_of_ble_eq_true rfl) dX1_init_25 (fun H locs hP hD hS => ?_)
  have hP : va_P D vwCl [(h3, .inr (7, [.ref q_1, .ref q_3, .ref q_5, .null, .null, .null])), (q_1, .inl (cI, 10, .inl (fun _ => 0))), (q_3, .inl (cI, 10, .inl (fun _ => 0))), (q_5, .inl (cI, 10, .inl (fun _ => 0)))] H := hP
  have hD : va_D A [(h3, .inr (7, [.ref q_1, .ref q_3, .ref q_5, .null, .null, .null])), (q_1, .inl (cI, 10, .inl (fun _ => 0))), (q_3, .inl (cI, 10, .inl (fun _ => 0))), (q_5, .inl (cI, 10, .inl (fun _ => 0)))] := hD
  refine lv_aload_n hx hb dX1_init_28 rfl (lv_at hl 0 rfl) ?_
  refine va_new (ci := 9) (fs := [.null, .null, .null, .int 0, .null, .null, .null]) (C := RX3) (T := TX3) (N := 7) hx hb hts iX1_init_X3 tyX3 tyX3_ok hown (hts _ kX1_init_8) (hts _ kX1_init_9) (hts _ kX1_init_10) hK hP hD hS hA rfl (fun j hj => by rcases (show j = 0 ∨ j = 1 ∨ j = 2 ∨ j = 3 ∨ j = 4 ∨ j = 5 ∨ j = 6 by omega) with rfl | rfl | rfl | rfl | rfl | rfl | rfl <;> rfl) (Nat.le_of_ble_eq_true rfl) (Nat.le_of_ble_eq_true rfl) dX1_init_29 (fun q_7 H hP hD hS => ?_)
  have hP : va_P D vwCl [(h3, .inr (7, [.ref q_1, .ref q_3, .ref q_5, .null, .null, .null])), (q_1, .inl (cI, 10, .inl (fun _ => 0))), (q_3, .inl (cI, 10, .inl (fun _ => 0))), (q_5, .inl (cI, 10, .inl (fun _ => 0))), (q_7, .inr (9, [.null, .null, .null, .int 0, .null, .null, .null]))] H := hP
  have hD : va_D A [(h3, .inr (7, [.ref q_1, .ref q_3, .ref q_5, .null, .null, .null])), (q_1, .inl (cI, 10, .inl (fun _ => 0))), (q_3, .inl (cI, 10, .inl (fun _ => 0))), (q_5, .inl (cI, 10, .inl (fun _ => 0))), (q_7, .inr (9, [.null, .null, .null, .int 0, .null, .null, .null]))] := hD
  refine lv_dup hx hb dX1_init_32 rfl ?_
  refine yc_v (wc := [(q_7, .inr (9, [.null, .null, .null, .int 0, .null, .null, .null]))]) (wr := [(h3, .inr (7, [.ref q_1, .ref q_3, .ref q_5, .null, .null, .null])), (q_1, .inl (cI, 10, .inl (fun _ => 0))), (q_3, .inl (cI, 10, .inl (fun _ => 0))), (q_5, .inl (cI, 10, .inl (fun _ => 0)))]) (va_runIN (As := []) (rest := [.ref q_7, .ref h3]) ⟨hx, hb, hml, hown, hts⟩ (i_X3 l hfl D tE H.size q_7 cI (va_A [(q_7, .inr (9, [.null, .null, .null, .int 0, .null, .null, .null]))] H.size) rfl) ⟨va_cnB 0 hts gX1_init_X3_init_n23 rfl rfl rfl (hE.nl _ (List.mem_of_getElem? (i := 4) rfl)) (hts _ kX1_init_10) (by decide +kernel) ⟨Nat.le_of_ble_eq_true rfl, Nat.le_of_ble_eq_true rfl⟩, rfl, (hts _ kX1_init_15)⟩ (yPreS (wc := [(q_7, .inr (9, [.null, .null, .null, .int 0, .null, .null, .null]))]) (tc := [(cI, .int)]) hK hP hD hS hA hE [4] [0] (by decide) rfl rfl) rfl rfl hl.1 rfl (lv_room (Nat.le_of_ble_eq_true rfl)) dX1_init_33 ⟨Nat.le_of_ble_eq_true rfl, Nat.le_of_ble_eq_true rfl⟩) hP hD hS hA [4] [0, 1, 2, 3] rfl rfl (by decide) (by decide) (fun u_9 H locs hw hP hD hS => ?_)
  have hP : va_P D vwCl [(h3, .inr (7, [.ref q_1, .ref q_3, .ref q_5, .null, .null, .null])), (q_1, .inl (cI, 10, .inl (fun _ => 0))), (q_3, .inl (cI, 10, .inl (fun _ => 0))), (q_5, .inl (cI, 10, .inl (fun _ => 0))), (q_7, .inr (9, [.ref ((u_9.1 0)), .ref ((u_9.1 1)), .ref ((u_9.1 2)), .int 0, .ref ((u_9.1 3)), .ref ((u_9.1 4)), .ref ((u_9.1 5))])), ((u_9.1 1), .inl (cI, 10, .inl (fun _ => 0))), ((u_9.1 2), .inl (cI, 11, .inl (fun _ => 0)))] H := hP
  have hD : va_D A [(h3, .inr (7, [.ref q_1, .ref q_3, .ref q_5, .null, .null, .null])), (q_1, .inl (cI, 10, .inl (fun _ => 0))), (q_3, .inl (cI, 10, .inl (fun _ => 0))), (q_5, .inl (cI, 10, .inl (fun _ => 0))), (q_7, .inr (9, [.ref ((u_9.1 0)), .ref ((u_9.1 1)), .ref ((u_9.1 2)), .int 0, .ref ((u_9.1 3)), .ref ((u_9.1 4)), .ref ((u_9.1 5))])), ((u_9.1 1), .inl (cI, 10, .inl (fun _ => 0))), ((u_9.1 2), .inl (cI, 11, .inl (fun _ => 0)))] := hD
  refine va_putF (D := D) (ci := 7) (v := .ref q_7) (ty := .object "Mostwell$Sharing") (C := RX1) (T := TX1) (N := 6) hx hb hts iX1_init_X1 tyX1 tyX1_ok nmX1 hown hK hP hD hS 0 rfl rfl 3 (by decide) (hts _ kX1_init_11) (fun _ h9 => h9) rfl hin rfl (by decide +kernel) rfl rfl (Nat.le_of_ble_eq_true rfl) dX1_init_36 (fun H locs hP hD hS => ?_)
  have hP : va_P D vwCl [(h3, .inr (7, [.ref q_1, .ref q_3, .ref q_5, .ref q_7, .null, .null])), (q_1, .inl (cI, 10, .inl (fun _ => 0))), (q_3, .inl (cI, 10, .inl (fun _ => 0))), (q_5, .inl (cI, 10, .inl (fun _ => 0))), (q_7, .inr (9, [.ref ((u_9.1 0)), .ref ((u_9.1 1)), .ref ((u_9.1 2)), .int 0, .ref ((u_9.1 3)), .ref ((u_9.1 4)), .ref ((u_9.1 5))])), ((u_9.1 1), .inl (cI, 10, .inl (fun _ => 0))), ((u_9.1 2), .inl (cI, 11, .inl (fun _ => 0)))] H := hP
  have hD : va_D A [(h3, .inr (7, [.ref q_1, .ref q_3, .ref q_5, .ref q_7, .null, .null])), (q_1, .inl (cI, 10, .inl (fun _ => 0))), (q_3, .inl (cI, 10, .inl (fun _ => 0))), (q_5, .inl (cI, 10, .inl (fun _ => 0))), (q_7, .inr (9, [.ref ((u_9.1 0)), .ref ((u_9.1 1)), .ref ((u_9.1 2)), .int 0, .ref ((u_9.1 3)), .ref ((u_9.1 4)), .ref ((u_9.1 5))])), ((u_9.1 1), .inl (cI, 10, .inl (fun _ => 0))), ((u_9.1 2), .inl (cI, 11, .inl (fun _ => 0)))] := hD
  refine lv_aload_n hx hb dX1_init_39 rfl (lv_at hl 0 rfl) ?_
  refine lv_bipush (v := (10)) hx hb dX1_init_40 (by decide) ?_
  refine va_newa (atype := .int) (ty := .int) (N' := 10) (a0 := (10, .inl (fun _ => 0))) hx hb (hts _ kX1_init_4) rfl hK hP hD hS hA (fun _ => rfl) (by decide) (by decide) (by decide) (Nat.le_of_ble_eq_true rfl) (Nat.le_of_ble_eq_true rfl) dX1_init_42 (fun q_10 c_11 H hK hP hD hS => ?_)
  have hc9 := (y_cls hK 0 1 rfl rfl).symm
  subst hc9
  have hK : va_K D vwCl [(cI, .int)] s := hK.sub [0] rfl
  have hP : va_P D vwCl [(h3, .inr (7, [.ref q_1, .ref q_3, .ref q_5, .ref q_7, .null, .null])), (q_1, .inl (cI, 10, .inl (fun _ => 0))), (q_3, .inl (cI, 10, .inl (fun _ => 0))), (q_5, .inl (cI, 10, .inl (fun _ => 0))), (q_7, .inr (9, [.ref ((u_9.1 0)), .ref ((u_9.1 1)), .ref ((u_9.1 2)), .int 0, .ref ((u_9.1 3)), .ref ((u_9.1 4)), .ref ((u_9.1 5))])), ((u_9.1 1), .inl (cI, 10, .inl (fun _ => 0))), ((u_9.1 2), .inl (cI, 11, .inl (fun _ => 0))), (q_10, .inl (cI, 10, .inl (fun _ => 0)))] H := hP
  have hD : va_D A [(h3, .inr (7, [.ref q_1, .ref q_3, .ref q_5, .ref q_7, .null, .null])), (q_1, .inl (cI, 10, .inl (fun _ => 0))), (q_3, .inl (cI, 10, .inl (fun _ => 0))), (q_5, .inl (cI, 10, .inl (fun _ => 0))), (q_7, .inr (9, [.ref ((u_9.1 0)), .ref ((u_9.1 1)), .ref ((u_9.1 2)), .int 0, .ref ((u_9.1 3)), .ref ((u_9.1 4)), .ref ((u_9.1 5))])), ((u_9.1 1), .inl (cI, 10, .inl (fun _ => 0))), ((u_9.1 2), .inl (cI, 11, .inl (fun _ => 0))), (q_10, .inl (cI, 10, .inl (fun _ => 0)))] := hD
  refine va_putF (D := D) (ci := 7) (v := .ref q_10) (ty := .array .int) (C := RX1) (T := TX1) (N := 6) hx hb hts iX1_init_X1 tyX1 tyX1_ok nmX1 hown hK hP hD hS 0 rfl rfl 4 (by decide) (hts _ kX1_init_12) (fun _ h9 => h9) rfl hin rfl (by decide +kernel) rfl rfl (Nat.le_of_ble_eq_true rfl) dX1_init_44 (fun H locs hP hD hS => ?_)
  have hP : va_P D vwCl [(h3, .inr (7, [.ref q_1, .ref q_3, .ref q_5, .ref q_7, .ref q_10, .null])), (q_1, .inl (cI, 10, .inl (fun _ => 0))), (q_3, .inl (cI, 10, .inl (fun _ => 0))), (q_5, .inl (cI, 10, .inl (fun _ => 0))), (q_7, .inr (9, [.ref ((u_9.1 0)), .ref ((u_9.1 1)), .ref ((u_9.1 2)), .int 0, .ref ((u_9.1 3)), .ref ((u_9.1 4)), .ref ((u_9.1 5))])), ((u_9.1 1), .inl (cI, 10, .inl (fun _ => 0))), ((u_9.1 2), .inl (cI, 11, .inl (fun _ => 0))), (q_10, .inl (cI, 10, .inl (fun _ => 0)))] H := hP
  have hD : va_D A [(h3, .inr (7, [.ref q_1, .ref q_3, .ref q_5, .ref q_7, .ref q_10, .null])), (q_1, .inl (cI, 10, .inl (fun _ => 0))), (q_3, .inl (cI, 10, .inl (fun _ => 0))), (q_5, .inl (cI, 10, .inl (fun _ => 0))), (q_7, .inr (9, [.ref ((u_9.1 0)), .ref ((u_9.1 1)), .ref ((u_9.1 2)), .int 0, .ref ((u_9.1 3)), .ref ((u_9.1 4)), .ref ((u_9.1 5))])), ((u_9.1 1), .inl (cI, 10, .inl (fun _ => 0))), ((u_9.1 2), .inl (cI, 11, .inl (fun _ => 0))), (q_10, .inl (cI, 10, .inl (fun _ => 0)))] := hD
  refine lv_aload_n hx hb dX1_init_47 rfl (lv_at hl 0 rfl) ?_
  refine lv_bipush (v := (10)) hx hb dX1_init_48 (by decide) ?_
  refine va_newa (atype := .boolean) (ty := .boolean) (N' := 10) (a0 := (10, .inl (fun _ => 0))) hx hb (hts _ kX1_init_13) rfl hK hP hD hS hA (fun _ => rfl) (by decide) (by decide) (by decide) (Nat.le_of_ble_eq_true rfl) (Nat.le_of_ble_eq_true rfl) dX1_init_50 (fun q_12 c_13 H hK hP hD hS => ?_)
  have hK : va_K D vwCl [(cI, .int), (c_13, .boolean)] s := hK
  have hP : va_P D vwCl [(h3, .inr (7, [.ref q_1, .ref q_3, .ref q_5, .ref q_7, .ref q_10, .null])), (q_1, .inl (cI, 10, .inl (fun _ => 0))), (q_3, .inl (cI, 10, .inl (fun _ => 0))), (q_5, .inl (cI, 10, .inl (fun _ => 0))), (q_7, .inr (9, [.ref ((u_9.1 0)), .ref ((u_9.1 1)), .ref ((u_9.1 2)), .int 0, .ref ((u_9.1 3)), .ref ((u_9.1 4)), .ref ((u_9.1 5))])), ((u_9.1 1), .inl (cI, 10, .inl (fun _ => 0))), ((u_9.1 2), .inl (cI, 11, .inl (fun _ => 0))), (q_10, .inl (cI, 10, .inl (fun _ => 0))), (q_12, .inl (c_13, 10, .inl (fun _ => 0)))] H := hP
  have hD : va_D A [(h3, .inr (7, [.ref q_1, .ref q_3, .ref q_5, .ref q_7, .ref q_10, .null])), (q_1, .inl (cI, 10, .inl (fun _ => 0))), (q_3, .inl (cI, 10, .inl (fun _ => 0))), (q_5, .inl (cI, 10, .inl (fun _ => 0))), (q_7, .inr (9, [.ref ((u_9.1 0)), .ref ((u_9.1 1)), .ref ((u_9.1 2)), .int 0, .ref ((u_9.1 3)), .ref ((u_9.1 4)), .ref ((u_9.1 5))])), ((u_9.1 1), .inl (cI, 10, .inl (fun _ => 0))), ((u_9.1 2), .inl (cI, 11, .inl (fun _ => 0))), (q_10, .inl (cI, 10, .inl (fun _ => 0))), (q_12, .inl (c_13, 10, .inl (fun _ => 0)))] := hD
  refine va_putF (D := D) (ci := 7) (v := .ref q_12) (ty := .array .boolean) (C := RX1) (T := TX1) (N := 6) hx hb hts iX1_init_X1 tyX1 tyX1_ok nmX1 hown hK hP hD hS 0 rfl rfl 5 (by decide) (hts _ kX1_init_14) (fun _ h9 => h9) rfl hin rfl (by decide +kernel) rfl rfl (Nat.le_of_ble_eq_true rfl) dX1_init_52 (fun H locs hP hD hS => ?_)
  have hP : va_P D vwCl [(h3, .inr (7, [.ref q_1, .ref q_3, .ref q_5, .ref q_7, .ref q_10, .ref q_12])), (q_1, .inl (cI, 10, .inl (fun _ => 0))), (q_3, .inl (cI, 10, .inl (fun _ => 0))), (q_5, .inl (cI, 10, .inl (fun _ => 0))), (q_7, .inr (9, [.ref ((u_9.1 0)), .ref ((u_9.1 1)), .ref ((u_9.1 2)), .int 0, .ref ((u_9.1 3)), .ref ((u_9.1 4)), .ref ((u_9.1 5))])), ((u_9.1 1), .inl (cI, 10, .inl (fun _ => 0))), ((u_9.1 2), .inl (cI, 11, .inl (fun _ => 0))), (q_10, .inl (cI, 10, .inl (fun _ => 0))), (q_12, .inl (c_13, 10, .inl (fun _ => 0)))] H := hP
  have hD : va_D A [(h3, .inr (7, [.ref q_1, .ref q_3, .ref q_5, .ref q_7, .ref q_10, .ref q_12])), (q_1, .inl (cI, 10, .inl (fun _ => 0))), (q_3, .inl (cI, 10, .inl (fun _ => 0))), (q_5, .inl (cI, 10, .inl (fun _ => 0))), (q_7, .inr (9, [.ref ((u_9.1 0)), .ref ((u_9.1 1)), .ref ((u_9.1 2)), .int 0, .ref ((u_9.1 3)), .ref ((u_9.1 4)), .ref ((u_9.1 5))])), ((u_9.1 1), .inl (cI, 10, .inl (fun _ => 0))), ((u_9.1 2), .inl (cI, 11, .inl (fun _ => 0))), (q_10, .inl (cI, 10, .inl (fun _ => 0))), (q_12, .inl (c_13, 10, .inl (fun _ => 0)))] := hD
  exact y_vret hx hb hr hlocks ((fun k => ([q_1, q_3, q_5, q_7, q_10, q_12, (u_9.1 0), (u_9.1 1), (u_9.1 2), (u_9.1 3), (u_9.1 4), (u_9.1 5)] : List Nat).getD k 0), ()) trivial (hP.sub [0, 1, 2, 3, 4, 5, 6] rfl) (hD.sub [0, 1, 2, 3, 4, 5, 6] (by decide) rfl) hS (Nat.le_of_ble_eq_true rfl) (Nat.le_of_ble_eq_true rfl) dX1_init_55
theorem kX0_init_1 : Cond.methodLink RX0 3 objectInit ∈ wsX0_init := List.mem_of_getElem? (i := 1) (by decide +kernel)
theorem kX0_init_2 : Cond.instanceMethod objectInit ∈ wsX0_init := List.mem_of_getElem? (i := 2) (by decide +kernel)
theorem kX0_init_3 : Cond.code objectInit ⟨#[0xb1]⟩ 1 none ∈ wsX0_init := List.mem_of_getElem? (i := 3) (by decide +kernel)
theorem iX0_init_X0 : ∀ w ∈ wsX00, w ∈ wsX0_init := by decide +kernel
theorem kX0_init_4 : Cond.fieldLink RX0 9 "Mostwell$Agenda" "count" "I" ∈ wsX0_init := List.mem_of_getElem? (i := 4) (by decide +kernel)
theorem kX0_init_6 : Cond.arrayClass .int ∈ wsX0_init := List.mem_of_getElem? (i := 6) (by decide +kernel)
theorem kX0_init_5 : Cond.classLink RX0 15 "[[I" ∈ wsX0_init := List.mem_of_getElem? (i := 5) (by decide +kernel)
theorem kX0_init_7 : Cond.fieldLink RX0 17 "Mostwell$Agenda" "leads" "[[I" ∈ wsX0_init := List.mem_of_getElem? (i := 7) (by decide +kernel)
theorem kX0_init_8 : Cond.fieldLink RX0 20 "Mostwell$Agenda" "steps" "[I" ∈ wsX0_init := List.mem_of_getElem? (i := 8) (by decide +kernel)
set_option maxHeartbeats 4000000 in
set_option maxRecDepth 100000 in
theorem i_X0 (l : Launch) (hfl : l.stackTraces = false) (D : va_G) (tE : Nat) (sz : Nat) (h4 : Nat) (A : Nat → Prop) (hA0 : A = va_A [(h4, .inr (6, [.int 0, .null, .null]))] sz) : Met l yX0_init wsX0_init (yR 0 12 120) (yP D tE [(h4, .inr (6, [.int 0, .null, .null]))] [] sz [.ref h4]) (va_Qv (S := (Nat → Nat) × Unit) (fun (u : (Nat → Nat) × Unit) => True) (fun (u : (Nat → Nat) × Unit) (t : State) => yB D A ((fun (u : (Nat → Nat) × Unit) => [(h4, .inr (6, [.int 0, .ref ((u.1 0)), .ref ((u.1 1))]))]) u) t) A) 12 120 A := by
  refine Met.ofW (cc := cX0_init) (maxL := 1) (ret := none) (by decide) rfl ?_
  intro p e s m args below meth c s₁ B hml hv
  obtain ⟨rfl, rfl, hP, hK, hD, hE, hA⟩ := y_start hA0 hv
  have hx := B.exec
  have hb := B.bytes
  have hr := B.returns
  have hts := atoms_spec (ws := wsX0_init) B.pre
  have hown : s.vm.findClass RX0 = some m.cls := findClass_of_methodNamed B.named
  have hlocks := B.notSynchronized
  have hin : meth.name = "<init>" := (name_of_methodNamed B.named B.method).1
  clear hA0 hv
  have hS : va_S A s.heap s.heap [] := va_S.rf
  have hl := lv_entry ([.ref h4]) (n := 1) (Nat.le_of_ble_eq_true rfl)
  rw [lg_entry_eq]
  generalize (lg_sl ([.ref h4]) ++ List.replicate (1 - (lg_sl ([.ref h4])).length) Slot.unset).toArray = ls at hl ⊢
  have hl : lv_has ls 1 [(0, .ref h4)] := hl
  refine lv_aload_n hx hb dX0_init_0 rfl (lv_at hl 0 rfl) ?_
  refine W.objInit hx hb hown (hts _ kX0_init_1) (hts _ kX0_init_2) (hts _ kX0_init_3) rfl (by rw [hml]; exact hl.1) rfl dX0_init_1 (Nat.le_of_ble_eq_true rfl) (Nat.le_of_ble_eq_true rfl) ?_
  show W p l e _ s m _ below meth c _ _ _ _ _ (F0 m 4 ls [])
  refine lv_aload_n hx hb dX0_init_4 rfl (lv_at hl 0 rfl) ?_
  refine lv_iconst (v := (0)) hx hb dX0_init_5 (by decide) ?_
  refine va_put (D := D) (ci := 6) (v := .int 0) (ty := .int) (C := RX0) (T := TX0) (N := 3) hx hb hts iX0_init_X0 tyX0 tyX0_ok nmX0 hown hK hP hD hS 0 rfl rfl 0 (by decide) (hts _ kX0_init_4) (fun _ h9 => h9) rfl (by decide +kernel) rfl rfl (Nat.le_of_ble_eq_true rfl) dX0_init_6 (fun H locs hP hD hS => ?_)
  have hP : va_P D vwCl [(h4, .inr (6, [.int 0, .null, .null]))] H := hP
  have hD : va_D A [(h4, .inr (6, [.int 0, .null, .null]))] := hD
  refine lv_aload_n hx hb dX0_init_9 rfl (lv_at hl 0 rfl) ?_
  refine lv_bipush (v := (10)) hx hb dX0_init_10 (by decide) ?_
  refine lv_bipush (v := (10)) hx hb dX0_init_12 (by decide) ?_
  obtain ⟨cy_2, hcy_2⟩ := y_arr (hts _ kX0_init_6)
  refine va_mna (ty := .int) (cy := cy_2) (X := [(h4, .inr (6, [.int 0, .null, .null]))]) (L := []) (f := fun _ => .inr (0, [])) (N' := 10) (K' := 10) (z := (10, .inl (fun _ => 0))) hx hb hown (hts _ kX0_init_5) hE.2.2.2.2.2.1 (hts _ kX0_init_6) hcy_2 hK hP hD hS hA (by decide) (by decide) (by decide) (by decide) (by decide) (by decide) (by decide) (by decide) (by decide) (Nat.le_of_ble_eq_true rfl) (Nat.le_of_ble_eq_true rfl) (fun _ => rfl) dX0_init_14 (fun q_1 rr_3 co_4 H _ _ hK hP hD hS => ?_)
  have hP : va_P D vwCl [(h4, .inr (6, [.int 0, .null, .null]))] H := hP.sub [0] rfl
  have hD : va_D A [(h4, .inr (6, [.int 0, .null, .null]))] := hD.sub [0] (by decide) rfl
  have hK : va_K D vwCl [] s := hK.sub [] rfl
  refine va_putF (D := D) (ci := 6) (v := .ref q_1) (ty := .array (.array .int)) (C := RX0) (T := TX0) (N := 3) hx hb hts iX0_init_X0 tyX0 tyX0_ok nmX0 hown hK hP hD hS 0 rfl rfl 1 (by decide) (hts _ kX0_init_7) (fun _ h9 => h9) rfl hin rfl (by decide +kernel) rfl rfl (Nat.le_of_ble_eq_true rfl) dX0_init_18 (fun H locs hP hD hS => ?_)
  have hP : va_P D vwCl [(h4, .inr (6, [.int 0, .ref q_1, .null]))] H := hP
  have hD : va_D A [(h4, .inr (6, [.int 0, .ref q_1, .null]))] := hD
  refine lv_aload_n hx hb dX0_init_21 rfl (lv_at hl 0 rfl) ?_
  refine lv_bipush (v := (10)) hx hb dX0_init_22 (by decide) ?_
  refine va_newa (atype := .int) (ty := .int) (N' := 10) (a0 := (10, .inl (fun _ => 0))) hx hb (hts _ kX0_init_6) rfl hK hP hD hS hA (fun _ => rfl) (by decide) (by decide) (by decide) (Nat.le_of_ble_eq_true rfl) (Nat.le_of_ble_eq_true rfl) dX0_init_24 (fun q_5 c_6 H hK hP hD hS => ?_)
  have hK : va_K D vwCl [(c_6, .int)] s := hK
  have hP : va_P D vwCl [(h4, .inr (6, [.int 0, .ref q_1, .null])), (q_5, .inl (c_6, 10, .inl (fun _ => 0)))] H := hP
  have hD : va_D A [(h4, .inr (6, [.int 0, .ref q_1, .null])), (q_5, .inl (c_6, 10, .inl (fun _ => 0)))] := hD
  refine va_putF (D := D) (ci := 6) (v := .ref q_5) (ty := .array .int) (C := RX0) (T := TX0) (N := 3) hx hb hts iX0_init_X0 tyX0 tyX0_ok nmX0 hown hK hP hD hS 0 rfl rfl 2 (by decide) (hts _ kX0_init_8) (fun _ h9 => h9) rfl hin rfl (by decide +kernel) rfl rfl (Nat.le_of_ble_eq_true rfl) dX0_init_26 (fun H locs hP hD hS => ?_)
  have hP : va_P D vwCl [(h4, .inr (6, [.int 0, .ref q_1, .ref q_5])), (q_5, .inl (c_6, 10, .inl (fun _ => 0)))] H := hP
  have hD : va_D A [(h4, .inr (6, [.int 0, .ref q_1, .ref q_5])), (q_5, .inl (c_6, 10, .inl (fun _ => 0)))] := hD
  exact y_vret hx hb hr hlocks ((fun k => ([q_1, q_5] : List Nat).getD k 0), ()) trivial (hP.sub [0] rfl) (hD.sub [0] (by decide) rfl) hS (Nat.le_of_ble_eq_true rfl) (Nat.le_of_ble_eq_true rfl) dX0_init_29
