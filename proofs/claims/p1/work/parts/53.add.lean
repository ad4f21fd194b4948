theorem iJx4a65c_grow_92f84_Jx4a65c : ∀ w ∈ wsJx4a65c0, w ∈ wsJx4a65c_grow_92f84 := by decide +kernel
theorem kJx4a65c_grow_92f84_1 : Cond.fieldLink RJx4a65c 9 "java/util/ArrayList" "elementData" "[Ljava/lang/Object;" ∈ wsJx4a65c_grow_92f84 := List.mem_of_getElem? (i := 1) (by decide +kernel)
theorem kJx4a65c_grow_92f84_2 : Cond.fieldLink RJx4a65c 39 "java/util/ArrayList" "DEFAULTCAPACITY_EMPTY_ELEMENTDATA" "[Ljava/lang/Object;" ∈ wsJx4a65c_grow_92f84 := List.mem_of_getElem? (i := 2) (by decide +kernel)
theorem kJx4a65c_grow_92f84_3 : Cond.methodLink RJx4a65c 79 Lib.Math.max.name ∈ wsJx4a65c_grow_92f84 := List.mem_of_getElem? (i := 3) (by decide +kernel)
theorem kJx4a65c_grow_92f84_4 : Cond.static Lib.Math.max.name ∈ wsJx4a65c_grow_92f84 := List.mem_of_getElem? (i := 4) (by decide +kernel)
theorem kJx4a65c_grow_92f84_5 : Cond.initialized "java/lang/Math" ∈ wsJx4a65c_grow_92f84 := List.mem_of_getElem? (i := 5) (by decide +kernel)
theorem kJx4a65c_grow_92f84_6 : Cond.code Lib.Math.max.name Lib.Math.max.code 2 (some .int) ∈ wsJx4a65c_grow_92f84 := List.mem_of_getElem? (i := 6) (by decide +kernel)
theorem kJx4a65c_grow_92f84_7 : Cond.classLink RJx4a65c 7 "java/lang/Object" ∈ wsJx4a65c_grow_92f84 := List.mem_of_getElem? (i := 7) (by decide +kernel)
set_option maxHeartbeats 4000000 in
set_option maxRecDepth 100000 in
theorem g_grow1 (l : Launch) (hfl : l.stackTraces = false) (D : va_G) (tE : Nat) (sz : Nat) (m5 : Nat) (mo : Int32) (cO : ClassId) (A : Nat → Prop) (hA0 : A = va_A [(m5, .inr (5, [.int mo, .ref tE, .int 0]))] sz) : Met l yJx4a65c_grow_92f84 wsJx4a65c_grow_92f84 (yR 1 1 10) (yP D tE [(m5, .inr (5, [.int mo, .ref tE, .int 0]))] [(cO, .object "java/lang/Object")] sz [.ref m5, .int 1]) (va_Qr (S := Unit) (fun (u : Unit) => True) (fun (u : Unit) (r : Nat) (t : State) => yB D A ((fun (u : Unit) (r : Nat) => [(m5, .inr (5, [.int mo, .ref r, .int 0])), (r, .inl (cO, 10, .inr (.inr (.inr (.inr (fun _ => none))))))]) u r) t) A) 1 10 A := by
  refine Met.ofW (cc := cJx4a65c_grow_92f84) (maxL := 4) (ret := (some (.array (.object "java/lang/Object")))) (by decide) rfl ?_
  intro p e s m args below meth c s₁ B hml hv
  obtain ⟨rfl, rfl, hP, hK, hD, hE, hA⟩ := y_start hA0 hv
  have hx := B.exec
  have hb := B.bytes
  have hr := B.returns
  have hts := atoms_spec (ws := wsJx4a65c_grow_92f84) B.pre
  have hown : s.vm.findClass RJx4a65c = some m.cls := findClass_of_methodNamed B.named
  have hlocks := B.notSynchronized
  clear hA0 hv
  have hS : va_S A s.heap s.heap [] := va_S.rf
  have hl := lv_entry ([.ref m5, .int 1]) (n := 4) (Nat.le_of_ble_eq_true rfl)
  rw [lg_entry_eq]
  generalize (lg_sl ([.ref m5, .int 1]) ++ List.replicate (4 - (lg_sl ([.ref m5, .int 1])).length) Slot.unset).toArray = ls at hl ⊢
  have hl : lv_has ls 4 [(0, .ref m5), (1, .int 1)] := hl
  refine lv_aload_n hx hb dJx4a65c_grow_92f84_0 rfl (lv_at hl 0 rfl) ?_
  refine va_get (D := D) (ci := 5) (v := .ref tE) (C := RJx4a65c) (T := TJx4a65c) (N := 3) hx hb hts iJx4a65c_grow_92f84_Jx4a65c hown hK hP 0 rfl rfl 1 (by decide) (hts _ kJx4a65c_grow_92f84_1) (fun _ h9 => h9) rfl dJx4a65c_grow_92f84_1 ?_
  refine va_tlen (v := 0) hx hb hE.1.2.2.2.2 hS (by decide) dJx4a65c_grow_92f84_4 ?_
  refine lv_istore_n (lv' := [(2, .int 0), (0, .ref m5), (1, .int 1)]) hx hb dJx4a65c_grow_92f84_5 rfl hl (by decide) rfl (fun ls hl => ?_)
  refine lv_iload_n hx hb dJx4a65c_grow_92f84_6 rfl (lv_at hl 0 rfl) ?_
  refine lv_if_gt (tgt := 20) hx hb dJx4a65c_grow_92f84_7 (by decide) (fun h => absurd h (by decide)) (fun _ => ?_)
  refine lv_aload_n hx hb dJx4a65c_grow_92f84_10 rfl (lv_at hl 1 rfl) ?_
  refine va_get (D := D) (ci := 5) (v := .ref tE) (C := RJx4a65c) (T := TJx4a65c) (N := 3) hx hb hts iJx4a65c_grow_92f84_Jx4a65c hown hK hP 0 rfl rfl 1 (by decide) (hts _ kJx4a65c_grow_92f84_1) (fun _ h9 => h9) rfl dJx4a65c_grow_92f84_11 ?_
  refine va_gets hx hb hE.1.2.2.2.1 hS hown (hts _ kJx4a65c_grow_92f84_2) (fun _ h9 => h9) dJx4a65c_grow_92f84_14 ?_
  refine lv_acmp_eq (rx := (some tE)) (ry := (some tE)) (tgt := 45) hx hb dJx4a65c_grow_92f84_17 (by decide) (fun _ => ?_) (fun h => absurd rfl h)
  refine lv_aload_n hx hb dJx4a65c_grow_92f84_45 rfl (lv_at hl 1 rfl) ?_
  refine lv_bipush (v := (10)) hx hb dJx4a65c_grow_92f84_46 (by decide) ?_
  refine lv_iload_n hx hb dJx4a65c_grow_92f84_48 rfl (lv_at hl 2 rfl) ?_
  refine va_mmax hx hb (hml.trans hl.1.symm) hown (hts _ kJx4a65c_grow_92f84_3) (hts _ kJx4a65c_grow_92f84_4) (hts _ kJx4a65c_grow_92f84_5) (hts _ kJx4a65c_grow_92f84_6) (Nat.le_of_ble_eq_true rfl) (Nat.le_of_ble_eq_true rfl) (Nat.le_of_ble_eq_true rfl) (Nat.le_of_ble_eq_true rfl) dJx4a65c_grow_92f84_49 ?_
  refine lv_topi (fun x_1 ex_1 => ?_)
  obtain rfl : x_1 = (10 : Int32) := ex_1.trans (by decide)
  refine va_newq (N' := 10) hx hb hown (hts _ kJx4a65c_grow_92f84_7) hE.ao hK hP hD hS hA (by decide) (by decide) (by decide) (Nat.le_of_ble_eq_true rfl) (Nat.le_of_ble_eq_true rfl) dJx4a65c_grow_92f84_52 (fun q_2 c_3 H hK hP hD hS => ?_)
  have hc9 := (y_cls hK 0 1 rfl rfl).symm
  subst hc9
  have hK : va_K D vwCl [(cO, .object "java/lang/Object")] s := hK.sub [0] rfl
  have hP : va_P D vwCl [(m5, .inr (5, [.int mo, .ref tE, .int 0])), (q_2, .inl (cO, 10, .inr (.inr (.inr (.inr (fun _ => none))))))] H := hP
  have hD : va_D A [(m5, .inr (5, [.int mo, .ref tE, .int 0])), (q_2, .inl (cO, 10, .inr (.inr (.inr (.inr (fun _ => none))))))] := hD
  refine lv_dup_x1 hx hb dJx4a65c_grow_92f84_55 rfl rfl ?_
  refine va_put (D := D) (ci := 5) (v := .ref q_2) (ty := .array (.object "java/lang/Object")) (C := RJx4a65c) (T := TJx4a65c) (N := 3) hx hb hts iJx4a65c_grow_92f84_Jx4a65c tyJx4a65c tyJx4a65c_ok nmJx4a65c hown hK hP hD hS 0 rfl rfl 1 (by decide) (hts _ kJx4a65c_grow_92f84_1) (fun _ h9 => h9) rfl (by decide +kernel) rfl rfl (Nat.le_of_ble_eq_true rfl) dJx4a65c_grow_92f84_56 (fun H locs hP hD hS => ?_)
  have hP : va_P D vwCl [(m5, .inr (5, [.int mo, .ref q_2, .int 0])), (q_2, .inl (cO, 10, .inr (.inr (.inr (.inr (fun _ => none))))))] H := hP
  have hD : va_D A [(m5, .inr (5, [.int mo, .ref q_2, .int 0])), (q_2, .inl (cO, 10, .inr (.inr (.inr (.inr (fun _ => none))))))] := hD
  exact y_aret hx hb hr hlocks (Or.inr ⟨_, rfl⟩) () trivial hP hD hS (Nat.le_of_ble_eq_true rfl) (Nat.le_of_ble_eq_true rfl) dJx4a65c_grow_92f84_59
theorem iJx4a65c_grow_d5877_Jx4a65c : ∀ w ∈ wsJx4a65c0, w ∈ wsJx4a65c_grow_d5877 := by decide +kernel
theorem kJx4a65c_grow_d5877_1 : Cond.fieldLink RJx4a65c 48 "java/util/ArrayList" "size" "I" ∈ wsJx4a65c_grow_d5877 := List.mem_of_getElem? (i := 1) (by decide +kernel)
set_option maxHeartbeats 4000000 in
set_option maxRecDepth 100000 in
theorem g_grow0 (l : Launch) (hfl : l.stackTraces = false) (D : va_G) (tE : Nat) (sz : Nat) (m5 : Nat) (mo : Int32) (cO : ClassId) (A : Nat → Prop) (hA0 : A = va_A [(m5, .inr (5, [.int mo, .ref tE, .int 0]))] sz) : Met l yJx4a65c_grow_d5877 wsJx4a65c_grow_d5877 (yR 2 1 10) (yP D tE [(m5, .inr (5, [.int mo, .ref tE, .int 0]))] [(cO, .object "java/lang/Object")] sz [.ref m5]) (va_Qr (S := Unit) (fun (u : Unit) => True) (fun (u : Unit) (r : Nat) (t : State) => yB D A ((fun (u : Unit) (r : Nat) => [(m5, .inr (5, [.int mo, .ref r, .int 0])), (r, .inl (cO, 10, .inr (.inr (.inr (.inr (fun _ => none))))))]) u r) t) A) 1 10 A := by
  refine Met.ofW (cc := cJx4a65c_grow_d5877) (maxL := 1) (ret := (some (.array (.object "java/lang/Object")))) (by decide) rfl ?_
  intro p e s m args below meth c s₁ B hml hv
  obtain ⟨rfl, rfl, hP, hK, hD, hE, hA⟩ := y_start hA0 hv
  have hx := B.exec
  have hb := B.bytes
  have hr := B.returns
  have hts := atoms_spec (ws := wsJx4a65c_grow_d5877) B.pre
  have hown : s.vm.findClass RJx4a65c = some m.cls := findClass_of_methodNamed B.named
  have hlocks := B.notSynchronized
  clear hA0 hv
  have hS : va_S A s.heap s.heap [] := va_S.rf
  have hl := lv_entry ([.ref m5]) (n := 1) (Nat.le_of_ble_eq_true rfl)
  rw [lg_entry_eq]
  generalize (lg_sl ([.ref m5]) ++ List.replicate (1 - (lg_sl ([.ref m5])).length) Slot.unset).toArray = ls at hl ⊢
  have hl : lv_has ls 1 [(0, .ref m5)] := hl
  refine lv_aload_n hx hb dJx4a65c_grow_d5877_0 rfl (lv_at hl 0 rfl) ?_
  refine lv_aload_n hx hb dJx4a65c_grow_d5877_1 rfl (lv_at hl 0 rfl) ?_
  refine va_get (D := D) (ci := 5) (v := .int 0) (C := RJx4a65c) (T := TJx4a65c) (N := 3) hx hb hts iJx4a65c_grow_d5877_Jx4a65c hown hK hP 0 rfl rfl 2 (by decide) (hts _ kJx4a65c_grow_d5877_1) (fun _ h9 => h9) rfl dJx4a65c_grow_d5877_2 ?_
  refine lv_iconst (v := (1)) hx hb dJx4a65c_grow_d5877_5 (by decide) ?_
  refine lv_iadd hx hb dJx4a65c_grow_d5877_6 ?_
  refine lv_topi (fun x_1 ex_1 => ?_)
  obtain rfl : x_1 = (1 : Int32) := ex_1.trans (by decide)
  refine yc_r (wc := [(m5, .inr (5, [.int mo, .ref tE, .int 0]))]) (wr := []) (va_runV (As := [.int 1]) (rest := []) ⟨hx, hb, hml, hown, hts⟩ (g_grow1 l hfl D tE s.heap.size m5 mo cO (va_A [(m5, .inr (5, [.int mo, .ref tE, .int 0]))] s.heap.size) rfl) (cwV 1 hts gJx4a65c_grow_d5877_Jx4a65c_grow_92f84 rfl rfl rfl (by decide +kernel) ⟨Nat.le_of_ble_eq_true rfl, Nat.le_of_ble_eq_true rfl⟩) (yPreV (wc := [(m5, .inr (5, [.int mo, .ref tE, .int 0]))]) (tc := [(cO, .object "java/lang/Object")]) hK hP hD hS hA hE [0] [0] (by decide) rfl rfl (ci := 5) (q0 := 0) (q := (RJx4a65c, TJx4a65c, 3)) rfl rfl) rfl rfl hl.1 rfl (lv_room (Nat.le_of_ble_eq_true rfl)) dJx4a65c_grow_d5877_7 ⟨Nat.le_of_ble_eq_true rfl, Nat.le_of_ble_eq_true rfl⟩) hP hD hS hA [0] [] rfl rfl (by decide) (by decide) (fun r_2 u_3 H locs hw hP hD hS => ?_)
  have hP : va_P D vwCl [(m5, .inr (5, [.int mo, .ref r_2, .int 0])), (r_2, .inl (cO, 10, .inr (.inr (.inr (.inr (fun _ => none))))))] H := hP
  have hD : va_D A [(m5, .inr (5, [.int mo, .ref r_2, .int 0])), (r_2, .inl (cO, 10, .inr (.inr (.inr (.inr (fun _ => none))))))] := hD
  exact y_aret hx hb hr hlocks (Or.inr ⟨_, rfl⟩) () trivial hP hD hS (Nat.le_of_ble_eq_true rfl) (Nat.le_of_ble_eq_true rfl) dJx4a65c_grow_d5877_10
theorem iJx4a65c_add_72be8_Jx4a65c : ∀ w ∈ wsJx4a65c0, w ∈ wsJx4a65c_add_72be8 := by decide +kernel
theorem kJx4a65c_add_72be8_1 : Cond.fieldLink RJx4a65c 48 "java/util/ArrayList" "size" "I" ∈ wsJx4a65c_add_72be8 := List.mem_of_getElem? (i := 1) (by decide +kernel)
set_option maxHeartbeats 4000000 in
set_option maxRecDepth 100000 in
theorem g_add3 (l : Launch) (hfl : l.stackTraces = false) (D : va_G) (tE : Nat) (sz : Nat) (m5 : Nat) (mo : Int32) (cO : ClassId) (r1 : Nat) (cI : ClassId) (fr : Nat → Int32) (A : Nat → Prop) (hA0 : A = va_A [(m5, .inr (5, [.int mo, .ref tE, .int 0])), (r1, .inl (cI, 10, .inl (fr)))] sz) : Met l yJx4a65c_add_72be8 wsJx4a65c_add_72be8 (yR 3 1 10) (yP D tE [(m5, .inr (5, [.int mo, .ref tE, .int 0])), (r1, .inl (cI, 10, .inl (fr)))] [(cO, .object "java/lang/Object"), (cI, .int)] sz [.ref m5, .ref r1, .ref tE, .int 0]) (va_Qv (S := Nat) (fun (u : Nat) => True) (fun (u : Nat) (t : State) => yB D A ((fun (u : Nat) => [(m5, .inr (5, [.int mo, .ref u, .int 1]))]) u) t) A) 1 10 A := by
  refine Met.ofW (cc := cJx4a65c_add_72be8) (maxL := 4) (ret := none) (by decide) rfl ?_
  intro p e s m args below meth c s₁ B hml hv
  obtain ⟨rfl, rfl, hP, hK, hD, hE, hA⟩ := y_start hA0 hv
  have hx := B.exec
  have hb := B.bytes
  have hr := B.returns
  have hts := atoms_spec (ws := wsJx4a65c_add_72be8) B.pre
  have hown : s.vm.findClass RJx4a65c = some m.cls := findClass_of_methodNamed B.named
  have hlocks := B.notSynchronized
  clear hA0 hv
  have hS : va_S A s.heap s.heap [] := va_S.rf
  have hl := lv_entry ([.ref m5, .ref r1, .ref tE, .int 0]) (n := 4) (Nat.le_of_ble_eq_true rfl)
  rw [lg_entry_eq]
  generalize (lg_sl ([.ref m5, .ref r1, .ref tE, .int 0]) ++ List.replicate (4 - (lg_sl ([.ref m5, .ref r1, .ref tE, .int 0])).length) Slot.unset).toArray = ls at hl ⊢
  have hl : lv_has ls 4 [(0, .ref m5), (1, .ref r1), (2, .ref tE), (3, .int 0)] := hl
  refine lv_iload_n hx hb dJx4a65c_add_72be8_0 rfl (lv_at hl 3 rfl) ?_
  refine lv_aload_n hx hb dJx4a65c_add_72be8_1 rfl (lv_at hl 2 rfl) ?_
  refine va_tlen (v := 0) hx hb hE.1.2.2.2.2 hS (by decide) dJx4a65c_add_72be8_2 ?_
  refine lv_icmp_ne (tgt := 11) hx hb dJx4a65c_add_72be8_3 (by decide) (fun h => absurd h (by decide)) (fun _ => ?_)
  refine lv_aload_n hx hb dJx4a65c_add_72be8_6 rfl (lv_at hl 0 rfl) ?_
  refine yc_r (wc := [(m5, .inr (5, [.int mo, .ref tE, .int 0]))]) (wr := [(r1, .inl (cI, 10, .inl (fr)))]) (va_runV (As := []) (rest := []) ⟨hx, hb, hml, hown, hts⟩ (g_grow0 l hfl D tE s.heap.size m5 mo cO (va_A [(m5, .inr (5, [.int mo, .ref tE, .int 0]))] s.heap.size) rfl) (cwV 0 hts gJx4a65c_add_72be8_Jx4a65c_grow_d5877 rfl rfl rfl (by decide +kernel) ⟨Nat.le_of_ble_eq_true rfl, Nat.le_of_ble_eq_true rfl⟩) (yPreV (wc := [(m5, .inr (5, [.int mo, .ref tE, .int 0]))]) (tc := [(cO, .object "java/lang/Object")]) hK hP hD hS hA hE [0] [0] (by decide) rfl rfl (ci := 5) (q0 := 0) (q := (RJx4a65c, TJx4a65c, 3)) rfl rfl) rfl rfl hl.1 rfl (lv_room (Nat.le_of_ble_eq_true rfl)) dJx4a65c_add_72be8_7 ⟨Nat.le_of_ble_eq_true rfl, Nat.le_of_ble_eq_true rfl⟩) hP hD hS hA [0] [1] rfl rfl (by decide) (by decide) (fun r_1 u_2 H locs hw hP hD hS => ?_)
  have hP : va_P D vwCl [(r1, .inl (cI, 10, .inl (fr))), (m5, .inr (5, [.int mo, .ref r_1, .int 0])), (r_1, .inl (cO, 10, .inr (.inr (.inr (.inr (fun _ => none))))))] H := hP
  have hD : va_D A [(r1, .inl (cI, 10, .inl (fr))), (m5, .inr (5, [.int mo, .ref r_1, .int 0])), (r_1, .inl (cO, 10, .inr (.inr (.inr (.inr (fun _ => none))))))] := hD
  refine lv_astore_n (lv' := [(2, .ref r_1), (0, .ref m5), (1, .ref r1), (3, .int 0)]) hx hb dJx4a65c_add_72be8_10 rfl hl (by decide) rfl (fun ls hl => ?_)
  refine lv_aload_n hx hb dJx4a65c_add_72be8_11 rfl (lv_at hl 0 rfl) ?_
  refine lv_iload_n hx hb dJx4a65c_add_72be8_12 rfl (lv_at hl 3 rfl) ?_
  refine lv_aload_n hx hb dJx4a65c_add_72be8_13 rfl (lv_at hl 2 rfl) ?_
  refine va_astqM hx hb hK hP hD hS 2 0 rfl rfl (y_anyI hK hP 1 0 rfl rfl (hE.ca _ (List.mem_of_getElem? (i := 1) rfl))) (by unfold vp_in; decide) dJx4a65c_add_72be8_14 (fun H locs hP hD hS => ?_)
  have hP : va_P D vwCl [(r1, .inl (cI, 10, .inl (fr))), (m5, .inr (5, [.int mo, .ref r_1, .int 0])), (r_1, .inl (cO, 10, .inr (.inr (.inr (.inr (va_up (fun _ => none) (0 : Int32).toNatClampNeg (some r1)))))))] H := hP
  have hD : va_D A [(r1, .inl (cI, 10, .inl (fr))), (m5, .inr (5, [.int mo, .ref r_1, .int 0])), (r_1, .inl (cO, 10, .inr (.inr (.inr (.inr (va_up (fun _ => none) (0 : Int32).toNatClampNeg (some r1)))))))] := hD
  refine lv_aload_n hx hb dJx4a65c_add_72be8_15 rfl (lv_at hl 1 rfl) ?_
  refine lv_iload_n hx hb dJx4a65c_add_72be8_16 rfl (lv_at hl 3 rfl) ?_
  refine lv_iconst (v := (1)) hx hb dJx4a65c_add_72be8_17 (by decide) ?_
  refine lv_iadd hx hb dJx4a65c_add_72be8_18 ?_
  refine lv_topi (fun x_3 ex_3 => ?_)
  obtain rfl : x_3 = (1 : Int32) := ex_3.trans (by decide)
  refine va_put (D := D) (ci := 5) (v := .int 1) (ty := .int) (C := RJx4a65c) (T := TJx4a65c) (N := 3) hx hb hts iJx4a65c_add_72be8_Jx4a65c tyJx4a65c tyJx4a65c_ok nmJx4a65c hown hK hP hD hS 1 rfl rfl 2 (by decide) (hts _ kJx4a65c_add_72be8_1) (fun _ h9 => h9) rfl (by decide +kernel) rfl rfl (Nat.le_of_ble_eq_true rfl) dJx4a65c_add_72be8_19 (fun H locs hP hD hS => ?_)
  have hP : va_P D vwCl [(r1, .inl (cI, 10, .inl (fr))), (m5, .inr (5, [.int mo, .ref r_1, .int 1])), (r_1, .inl (cO, 10, .inr (.inr (.inr (.inr (va_up (fun _ => none) (0 : Int32).toNatClampNeg (some r1)))))))] H := hP
  have hD : va_D A [(r1, .inl (cI, 10, .inl (fr))), (m5, .inr (5, [.int mo, .ref r_1, .int 1])), (r_1, .inl (cO, 10, .inr (.inr (.inr (.inr (va_up (fun _ => none) (0 : Int32).toNatClampNeg (some r1)))))))] := hD
  exact y_vret hx hb hr hlocks r_1 trivial (hP.sub [1] rfl) (hD.sub [1] (by decide) rfl) hS (Nat.le_of_ble_eq_true rfl) (Nat.le_of_ble_eq_true rfl) dJx4a65c_add_72be8_22
theorem iJx4a65c_add_9ea2d_Jx4a65c : ∀ w ∈ wsJx4a65c0, w ∈ wsJx4a65c_add_9ea2d := by decide +kernel
theorem kJx4a65c_add_9ea2d_1 : Cond.fieldLink RJx4a65c 63 "java/util/ArrayList" "modCount" "I" ∈ wsJx4a65c_add_9ea2d := List.mem_of_getElem? (i := 1) (by decide +kernel)
theorem kJx4a65c_add_9ea2d_2 : Cond.sameField "java/util/ArrayList" "java/util/AbstractList" "modCount" "I" ∈ wsJx4a65c_add_9ea2d := List.mem_of_getElem? (i := 2) (by decide +kernel)
theorem kJx4a65c_add_9ea2d_3 : Cond.fieldLink RJx4a65c 9 "java/util/ArrayList" "elementData" "[Ljava/lang/Object;" ∈ wsJx4a65c_add_9ea2d := List.mem_of_getElem? (i := 3) (by decide +kernel)
theorem kJx4a65c_add_9ea2d_4 : Cond.fieldLink RJx4a65c 48 "java/util/ArrayList" "size" "I" ∈ wsJx4a65c_add_9ea2d := List.mem_of_getElem? (i := 4) (by decide +kernel)
set_option maxHeartbeats 4000000 in
set_option maxRecDepth 100000 in
theorem g_add (l : Launch) (hfl : l.stackTraces = false) (D : va_G) (tE : Nat) (sz : Nat) (m5 : Nat) (mo : Int32) (cO : ClassId) (r1 : Nat) (cI : ClassId) (fr : Nat → Int32) (A : Nat → Prop) (hA0 : A = va_A [(m5, .inr (5, [.int mo, .ref tE, .int 0])), (r1, .inl (cI, 10, .inl (fr)))] sz) : Met l yJx4a65c_add_9ea2d wsJx4a65c_add_9ea2d (yR 4 1 10) (yP D tE [(m5, .inr (5, [.int mo, .ref tE, .int 0])), (r1, .inl (cI, 10, .inl (fr)))] [(cO, .object "java/lang/Object"), (cI, .int)] sz [.ref m5, .ref r1]) (va_Qi (S := Nat × Int32) (fun (r : Int32) (u : Nat × Int32) => True) (fun (u : Nat × Int32) (t : State) => yB D A ((fun (u : Nat × Int32) => [(m5, .inr (5, [.int (u.2), .ref (u.1), .int 1]))]) u) t) A) 1 10 A := by
  refine Met.ofW (cc := cJx4a65c_add_9ea2d) (maxL := 2) (ret := (some .boolean)) (by decide) rfl ?_
  intro p e s m args below meth c s₁ B hml hv
  obtain ⟨rfl, rfl, hP, hK, hD, hE, hA⟩ := y_start hA0 hv
  have hx := B.exec
  have hb := B.bytes
  have hr := B.returns
  have hts := atoms_spec (ws := wsJx4a65c_add_9ea2d) B.pre
  have hown : s.vm.findClass RJx4a65c = some m.cls := findClass_of_methodNamed B.named
  have hlocks := B.notSynchronized
  clear hA0 hv
  have hS : va_S A s.heap s.heap [] := va_S.rf
  have hl := lv_entry ([.ref m5, .ref r1]) (n := 2) (Nat.le_of_ble_eq_true rfl)
  rw [lg_entry_eq]
  generalize (lg_sl ([.ref m5, .ref r1]) ++ List.replicate (2 - (lg_sl ([.ref m5, .ref r1])).length) Slot.unset).toArray = ls at hl ⊢
  have hl : lv_has ls 2 [(0, .ref m5), (1, .ref r1)] := hl
  refine lv_aload_n hx hb dJx4a65c_add_9ea2d_0 rfl (lv_at hl 0 rfl) ?_
  refine lv_dup hx hb dJx4a65c_add_9ea2d_1 rfl ?_
  refine va_get (D := D) (ci := 5) (v := .int mo) (C := RJx4a65c) (T := TJx4a65c) (N := 3) hx hb hts iJx4a65c_add_9ea2d_Jx4a65c hown hK hP 0 rfl rfl 0 (by decide) (hts _ kJx4a65c_add_9ea2d_1) (fun x9 h9 => u_same (hts _ kJx4a65c_add_9ea2d_2) x9 h9) rfl dJx4a65c_add_9ea2d_2 ?_
  refine lv_iconst (v := (1)) hx hb dJx4a65c_add_9ea2d_5 (by decide) ?_
  refine lv_iadd hx hb dJx4a65c_add_9ea2d_6 ?_
  refine lv_topi (fun x_1 ex_1 => ?_)
  refine va_put (D := D) (ci := 5) (v := .int x_1) (ty := .int) (C := RJx4a65c) (T := TJx4a65c) (N := 3) hx hb hts iJx4a65c_add_9ea2d_Jx4a65c tyJx4a65c tyJx4a65c_ok nmJx4a65c hown hK hP hD hS 0 rfl rfl 0 (by decide) (hts _ kJx4a65c_add_9ea2d_1) (fun x9 h9 => u_same (hts _ kJx4a65c_add_9ea2d_2) x9 h9) rfl (by decide +kernel) rfl rfl (Nat.le_of_ble_eq_true rfl) dJx4a65c_add_9ea2d_7 (fun H locs hP hD hS => ?_)
  have hP : va_P D vwCl [(m5, .inr (5, [.int x_1, .ref tE, .int 0])), (r1, .inl (cI, 10, .inl (fr)))] H := hP
  have hD : va_D A [(m5, .inr (5, [.int x_1, .ref tE, .int 0])), (r1, .inl (cI, 10, .inl (fr)))] := hD
  refine lv_aload_n hx hb dJx4a65c_add_9ea2d_10 rfl (lv_at hl 0 rfl) ?_
  refine lv_aload_n hx hb dJx4a65c_add_9ea2d_11 rfl (lv_at hl 1 rfl) ?_
  refine lv_aload_n hx hb dJx4a65c_add_9ea2d_12 rfl (lv_at hl 0 rfl) ?_
  refine va_get (D := D) (ci := 5) (v := .ref tE) (C := RJx4a65c) (T := TJx4a65c) (N := 3) hx hb hts iJx4a65c_add_9ea2d_Jx4a65c hown hK hP 0 rfl rfl 1 (by decide) (hts _ kJx4a65c_add_9ea2d_3) (fun _ h9 => h9) rfl dJx4a65c_add_9ea2d_13 ?_
  refine lv_aload_n hx hb dJx4a65c_add_9ea2d_16 rfl (lv_at hl 0 rfl) ?_
  refine va_get (D := D) (ci := 5) (v := .int 0) (C := RJx4a65c) (T := TJx4a65c) (N := 3) hx hb hts iJx4a65c_add_9ea2d_Jx4a65c hown hK hP 0 rfl rfl 2 (by decide) (hts _ kJx4a65c_add_9ea2d_4) (fun _ h9 => h9) rfl dJx4a65c_add_9ea2d_17 ?_
  refine yc_v (wc := [(m5, .inr (5, [.int x_1, .ref tE, .int 0])), (r1, .inl (cI, 10, .inl (fr)))]) (wr := []) (va_runV (As := [.ref r1, .ref tE, .int 0]) (rest := []) ⟨hx, hb, hml, hown, hts⟩ (g_add3 l hfl D tE H.size m5 x_1 cO r1 cI fr (va_A [(m5, .inr (5, [.int x_1, .ref tE, .int 0])), (r1, .inl (cI, 10, .inl (fr)))] H.size) rfl) (cwV 3 hts gJx4a65c_add_9ea2d_Jx4a65c_add_72be8 rfl rfl rfl (by decide +kernel) ⟨Nat.le_of_ble_eq_true rfl, Nat.le_of_ble_eq_true rfl⟩) (yPreV (wc := [(m5, .inr (5, [.int x_1, .ref tE, .int 0])), (r1, .inl (cI, 10, .inl (fr)))]) (tc := [(cO, .object "java/lang/Object"), (cI, .int)]) hK hP hD hS hA hE [0, 1] [0, 1] (by decide) rfl rfl (ci := 5) (q0 := 0) (q := (RJx4a65c, TJx4a65c, 3)) rfl rfl) rfl rfl hl.1 rfl (lv_room (Nat.le_of_ble_eq_true rfl)) dJx4a65c_add_9ea2d_20 ⟨Nat.le_of_ble_eq_true rfl, Nat.le_of_ble_eq_true rfl⟩) hP hD hS hA [0, 1] [] rfl rfl (by decide) (by decide) (fun u_3 H locs hw hP hD hS => ?_)
  have hP : va_P D vwCl [(m5, .inr (5, [.int x_1, .ref u_3, .int 1]))] H := hP
  have hD : va_D A [(m5, .inr (5, [.int x_1, .ref u_3, .int 1]))] := hD
  refine lv_iconst (v := (1)) hx hb dJx4a65c_add_9ea2d_23 (by decide) ?_
  exact y_zret hx hb hr hlocks (by decide) (u_3, x_1) trivial hP hD hS (Nat.le_of_ble_eq_true rfl) (Nat.le_of_ble_eq_true rfl) dJx4a65c_add_9ea2d_24
theorem iX6_keep_X6 : ∀ w ∈ wsX60, w ∈ wsX6_keep := by decide +kernel
theorem kX6_keep_1 : Cond.fieldLink RX6 27 "MostwellModel" "kept" "Ljava/util/List;" ∈ wsX6_keep := List.mem_of_getElem? (i := 1) (by decide +kernel)
theorem kX6_keep_2 : Cond.fieldLink RX6 16 "MostwellModel" "hand" "[I" ∈ wsX6_keep := List.mem_of_getElem? (i := 2) (by decide +kernel)
theorem kX6_keep_3 : Cond.methodLink RX6 119 ⟨"[I", "clone", "()Ljava/lang/Object;"⟩ ∈ wsX6_keep := List.mem_of_getElem? (i := 3) (by decide +kernel)
theorem kX6_keep_4 : Cond.sameMethod "[I" "java/lang/Object" "clone" "()Ljava/lang/Object;" ∈ wsX6_keep := List.mem_of_getElem? (i := 4) (by decide +kernel)
theorem kX6_keep_5 : Cond.native ⟨"java/lang/Object", "clone", "()Ljava/lang/Object;"⟩ ∈ wsX6_keep := List.mem_of_getElem? (i := 5) (by decide +kernel)
theorem kX6_keep_6 : Cond.instanceMethod ⟨"java/lang/Object", "clone", "()Ljava/lang/Object;"⟩ ∈ wsX6_keep := List.mem_of_getElem? (i := 6) (by decide +kernel)
theorem kX6_keep_7 : Cond.selects "[I" ⟨"[I", "clone", "()Ljava/lang/Object;"⟩ ⟨"java/lang/Object", "clone", "()Ljava/lang/Object;"⟩ ∈ wsX6_keep := List.mem_of_getElem? (i := 7) (by decide +kernel)
theorem kX6_keep_8 : Cond.classLink RX6 120 "[I" ∈ wsX6_keep := List.mem_of_getElem? (i := 8) (by decide +kernel)
set_option maxHeartbeats 4000000 in
set_option maxRecDepth 100000 in
theorem m_keep (l : Launch) (hfl : l.stackTraces = false) (D : va_G) (tE : Nat) (sz : Nat) (m0 : Nat) (m1 : Nat) (m2 : Nat) (m3 : Nat) (m4 : Nat) (m5 : Nat) (m6 : Nat) (th : Int32) (mo : Int32) (cO : ClassId) (cI : ClassId) (fr : Nat → Int32) (A : Nat → Prop) (hA0 : A = va_A [(m0, .inr (12, [.ref m1, .ref m2, .ref m3, .ref m4, .ref m5, .ref m6, .int 0, .int 0, .int th])), (m5, .inr (5, [.int mo, .ref tE, .int 0])), (m3, .inl (cI, 10, .inl (fr)))] sz) : Met l yX6_keep wsX6_keep (yR 5 2 20) (yP D tE [(m0, .inr (12, [.ref m1, .ref m2, .ref m3, .ref m4, .ref m5, .ref m6, .int 0, .int 0, .int th])), (m5, .inr (5, [.int mo, .ref tE, .int 0])), (m3, .inl (cI, 10, .inl (fr)))] [(cO, .object "java/lang/Object"), (cI, .int)] sz [.ref m0]) (va_Qi (S := Unit) (fun (r : Int32) (u : Unit) => r = 0) (fun (u : Unit) (t : State) => yB D A ((fun (u : Unit) => [(m0, .inr (12, [.ref m1, .ref m2, .ref m3, .ref m4, .ref m5, .ref m6, .int 0, .int 0, .int 0]))]) u) t) A) 2 20 A := by
  refine Met.ofW (cc := cX6_keep) (maxL := 1) (ret := (some .int)) (by decide) rfl ?_
  intro p e s m args below meth c s₁ B hml hv
  obtain ⟨rfl, rfl, hP, hK, hD, hE, hA⟩ := y_start hA0 hv
  have hx := B.exec
  have hb := B.bytes
  have hr := B.returns
  have hts := atoms_spec (ws := wsX6_keep) B.pre
  have hown : s.vm.findClass RX6 = some m.cls := findClass_of_methodNamed B.named
  have hlocks := B.notSynchronized
  clear hA0 hv
  have hS : va_S A s.heap s.heap [] := va_S.rf
  have hl := lv_entry ([.ref m0]) (n := 1) (Nat.le_of_ble_eq_true rfl)
  rw [lg_entry_eq]
  generalize (lg_sl ([.ref m0]) ++ List.replicate (1 - (lg_sl ([.ref m0])).length) Slot.unset).toArray = ls at hl ⊢
  have hl : lv_has ls 1 [(0, .ref m0)] := hl
  refine lv_aload_n hx hb dX6_keep_0 rfl (lv_at hl 0 rfl) ?_
  refine lv_aload_n hx hb dX6_keep_1 rfl (lv_at hl 0 rfl) ?_
  refine va_get (D := D) (ci := 12) (v := .ref m5) (C := RX6) (T := TX6) (N := 9) hx hb hts iX6_keep_X6 hown hK hP 0 rfl rfl 4 (by decide) (hts _ kX6_keep_1) (fun _ h9 => h9) rfl dX6_keep_2 ?_
  refine yc5_i (wc := [(m5, .inr (5, [.int mo, .ref tE, .int 0]))]) (wr := [(m0, .inr (12, [.ref m1, .ref m2, .ref m3, .ref m4, .ref m5, .ref m6, .int 0, .int 0, .int th])), (m3, .inl (cI, 10, .inl (fr)))]) (va_runF (As := []) (rest := [.ref m0]) (hK.1 5 _ rfl).2 ⟨hx, hb, hml, hown, hts⟩ (g_size l hfl D tE s.heap.size m5 mo tE 0 (va_A [(m5, .inr (5, [.int mo, .ref tE, .int 0]))] s.heap.size) rfl) (va_cwF 0 hts gX6_keep_Jx4a65c_size_8abf5_f114Jx4a65c rfl rfl rfl (hE.2.2.2.2.2.2.2.1 _ (List.mem_of_getElem? (i := 0) rfl)) (by decide +kernel) ⟨Nat.le_of_ble_eq_true rfl, Nat.le_of_ble_eq_true rfl⟩) (yPreV (wc := [(m5, .inr (5, [.int mo, .ref tE, .int 0]))]) (tc := []) hK hP hD hS hA hE [1] [] (by decide) rfl rfl (ci := 5) (q0 := 1) (q := (RJx4a65c, TJx4a65c, 3)) rfl rfl) rfl rfl hl.1 rfl (lv_room (Nat.le_of_ble_eq_true rfl)) dX6_keep_5 ⟨Nat.le_of_ble_eq_true rfl, Nat.le_of_ble_eq_true rfl⟩) hP hD hS hA [1] [0, 2] rfl rfl (by decide) (by decide) (fun r_1 u_2 H locs hw hP hD hS => ?_)
  have hP : va_P D vwCl [(m0, .inr (12, [.ref m1, .ref m2, .ref m3, .ref m4, .ref m5, .ref m6, .int 0, .int 0, .int th])), (m3, .inl (cI, 10, .inl (fr))), (m5, .inr (5, [.int mo, .ref tE, .int 0]))] H := hP
  have hD : va_D A [(m0, .inr (12, [.ref m1, .ref m2, .ref m3, .ref m4, .ref m5, .ref m6, .int 0, .int 0, .int th])), (m3, .inl (cI, 10, .inl (fr))), (m5, .inr (5, [.int mo, .ref tE, .int 0]))] := hD
  have hw : r_1 = 0 := hw
  subst hw
  refine lv_bipush (v := (10)) hx hb dX6_keep_10 (by decide) ?_
  refine lv_icmp_ge (tgt := 19) hx hb dX6_keep_12 (by decide) (fun h => absurd h (by decide)) (fun _ => ?_)
  refine lv_iconst (v := (1)) hx hb dX6_keep_15 (by decide) ?_
  refine lv_goto (tgt := 20) hx hb dX6_keep_16 (by decide) ?_
  refine lv_iconst (v := (1)) hx hb dX6_keep_20 (by decide) ?_
  refine yc_i (wc := [(m0, .inr (12, [.ref m1, .ref m2, .ref m3, .ref m4, .ref m5, .ref m6, .int 0, .int 0, .int th]))]) (wr := [(m3, .inl (cI, 10, .inl (fr))), (m5, .inr (5, [.int mo, .ref tE, .int 0]))]) (va_runV (As := [.int 1, .int 1]) (rest := []) ⟨hx, hb, hml, hown, hts⟩ (g_no1 l hfl D tE H.size m0 m1 m2 m3 m4 m5 m6 0 0 th 1 (va_A [(m0, .inr (12, [.ref m1, .ref m2, .ref m3, .ref m4, .ref m5, .ref m6, .int 0, .int 0, .int th]))] H.size) rfl) (cwV 2 hts gX6_keep_X6_no rfl rfl rfl (by decide +kernel) ⟨Nat.le_of_ble_eq_true rfl, Nat.le_of_ble_eq_true rfl⟩) (yPreV (wc := [(m0, .inr (12, [.ref m1, .ref m2, .ref m3, .ref m4, .ref m5, .ref m6, .int 0, .int 0, .int th]))]) (tc := []) hK hP hD hS hA hE [0] [] (by decide) rfl rfl (ci := 12) (q0 := 0) (q := (RX6, TX6, 9)) rfl rfl) rfl rfl hl.1 rfl (lv_room (Nat.le_of_ble_eq_true rfl)) dX6_keep_21 ⟨Nat.le_of_ble_eq_true rfl, Nat.le_of_ble_eq_true rfl⟩) hP hD hS hA [0] [1, 2] rfl rfl (by decide) (by decide) (fun r_3 u_4 H locs hw hP hD hS => ?_)
  have hP : va_P D vwCl [(m3, .inl (cI, 10, .inl (fr))), (m5, .inr (5, [.int mo, .ref tE, .int 0])), (m0, .inr (12, [.ref m1, .ref m2, .ref m3, .ref m4, .ref m5, .ref m6, .int 0, .int 0, .int 0]))] H := hP
  have hD : va_D A [(m3, .inl (cI, 10, .inl (fr))), (m5, .inr (5, [.int mo, .ref tE, .int 0])), (m0, .inr (12, [.ref m1, .ref m2, .ref m3, .ref m4, .ref m5, .ref m6, .int 0, .int 0, .int 0]))] := hD
  have hw : r_3 = 0 := hw
  subst hw
  refine lv_if_eq (tgt := 29) hx hb dX6_keep_24 (by decide) (fun _ => ?_) (fun h => absurd h (by decide))
  refine lv_aload_n hx hb dX6_keep_29 rfl (lv_at hl 0 rfl) ?_
  refine va_get (D := D) (ci := 12) (v := .ref m5) (C := RX6) (T := TX6) (N := 9) hx hb hts iX6_keep_X6 hown hK hP 2 rfl rfl 4 (by decide) (hts _ kX6_keep_1) (fun _ h9 => h9) rfl dX6_keep_30 ?_
  refine lv_aload_n hx hb dX6_keep_33 rfl (lv_at hl 0 rfl) ?_
  refine va_get (D := D) (ci := 12) (v := .ref m3) (C := RX6) (T := TX6) (N := 9) hx hb hts iX6_keep_X6 hown hK hP 2 rfl rfl 2 (by decide) (hts _ kX6_keep_2) (fun _ h9 => h9) rfl dX6_keep_34 ?_
  refine va_clone (ad := "[I") hx hb (hml.trans hl.1.symm) hown (hts _ kX6_keep_3) (hts _ kX6_keep_4) (hts _ kX6_keep_5) (hts _ kX6_keep_6) (hts _ kX6_keep_7) (hE.ca _ (List.mem_of_getElem? (i := 0) rfl)) hK hP hD hS hA 0 1 rfl rfl (hK.2 1 _ rfl).2 (y_fitI _ _) (Nat.le_of_ble_eq_true rfl) (Nat.le_of_ble_eq_true rfl) (Nat.le_of_ble_eq_true rfl) (Nat.le_of_ble_eq_true rfl) dX6_keep_37 (fun q_5 H hK hP hD hS => ?_)
  have hK : va_K D vwCl [(cO, .object "java/lang/Object"), (cI, .int)] s := hK.sub [0, 1] rfl
  have hP : va_P D vwCl [(m3, .inl (cI, 10, .inl (fr))), (m5, .inr (5, [.int mo, .ref tE, .int 0])), (m0, .inr (12, [.ref m1, .ref m2, .ref m3, .ref m4, .ref m5, .ref m6, .int 0, .int 0, .int 0])), (q_5, .inl (cI, 10, .inl (fr)))] H := hP
  have hD : va_D A [(m3, .inl (cI, 10, .inl (fr))), (m5, .inr (5, [.int mo, .ref tE, .int 0])), (m0, .inr (12, [.ref m1, .ref m2, .ref m3, .ref m4, .ref m5, .ref m6, .int 0, .int 0, .int 0])), (q_5, .inl (cI, 10, .inl (fr)))] := hD
  refine va_castA hx hb hown (hts _ kX6_keep_8) hP 3 rfl (hK.2 1 _ rfl).2 dX6_keep_40 ?_
  refine yc5_i (wc := [(m5, .inr (5, [.int mo, .ref tE, .int 0])), (q_5, .inl (cI, 10, .inl (fr)))]) (wr := [(m3, .inl (cI, 10, .inl (fr))), (m0, .inr (12, [.ref m1, .ref m2, .ref m3, .ref m4, .ref m5, .ref m6, .int 0, .int 0, .int 0]))]) (va_runF (As := [.ref q_5]) (rest := []) (hK.1 5 _ rfl).2 ⟨hx, hb, hml, hown, hts⟩ (g_add l hfl D tE H.size m5 mo cO q_5 cI fr (va_A [(m5, .inr (5, [.int mo, .ref tE, .int 0])), (q_5, .inl (cI, 10, .inl (fr)))] H.size) rfl) (va_cwF 1 hts gX6_keep_Jx4a65c_add_9ea2d_f124Jx4a65c rfl rfl rfl (hE.2.2.2.2.2.2.2.1 _ (List.mem_of_getElem? (i := 1) rfl)) (by decide +kernel) ⟨Nat.le_of_ble_eq_true rfl, Nat.le_of_ble_eq_true rfl⟩) (yPreV (wc := [(m5, .inr (5, [.int mo, .ref tE, .int 0])), (q_5, .inl (cI, 10, .inl (fr)))]) (tc := [(cO, .object "java/lang/Object"), (cI, .int)]) hK hP hD hS hA hE [1, 3] [0, 1] (by decide) rfl rfl (ci := 5) (q0 := 1) (q := (RJx4a65c, TJx4a65c, 3)) rfl rfl) rfl rfl hl.1 rfl (lv_room (Nat.le_of_ble_eq_true rfl)) dX6_keep_43 ⟨Nat.le_of_ble_eq_true rfl, Nat.le_of_ble_eq_true rfl⟩) hP hD hS hA [1, 3] [0, 2] rfl rfl (by decide) (by decide) (fun r_6 u_7 H locs hw hP hD hS => ?_)
  have hP : va_P D vwCl [(m3, .inl (cI, 10, .inl (fr))), (m0, .inr (12, [.ref m1, .ref m2, .ref m3, .ref m4, .ref m5, .ref m6, .int 0, .int 0, .int 0])), (m5, .inr (5, [.int (u_7.2), .ref (u_7.1), .int 1]))] H := hP
  have hD : va_D A [(m3, .inl (cI, 10, .inl (fr))), (m0, .inr (12, [.ref m1, .ref m2, .ref m3, .ref m4, .ref m5, .ref m6, .int 0, .int 0, .int 0])), (m5, .inr (5, [.int (u_7.2), .ref (u_7.1), .int 1]))] := hD
  refine lv_pop hx hb dX6_keep_48 rfl ?_
  refine lv_aload_n hx hb dX6_keep_49 rfl (lv_at hl 0 rfl) ?_
  refine va_get (D := D) (ci := 12) (v := .ref m5) (C := RX6) (T := TX6) (N := 9) hx hb hts iX6_keep_X6 hown hK hP 1 rfl rfl 4 (by decide) (hts _ kX6_keep_1) (fun _ h9 => h9) rfl dX6_keep_50 ?_
  refine yc5_i (wc := [(m5, .inr (5, [.int (u_7.2), .ref (u_7.1), .int 1]))]) (wr := [(m3, .inl (cI, 10, .inl (fr))), (m0, .inr (12, [.ref m1, .ref m2, .ref m3, .ref m4, .ref m5, .ref m6, .int 0, .int 0, .int 0]))]) (va_runF (As := []) (rest := []) (hK.1 5 _ rfl).2 ⟨hx, hb, hml, hown, hts⟩ (g_size l hfl D tE H.size m5 (u_7.2) (u_7.1) 1 (va_A [(m5, .inr (5, [.int (u_7.2), .ref (u_7.1), .int 1]))] H.size) rfl) (va_cwF 0 hts gX6_keep_Jx4a65c_size_8abf5_f114Jx4a65c rfl rfl rfl (hE.2.2.2.2.2.2.2.1 _ (List.mem_of_getElem? (i := 0) rfl)) (by decide +kernel) ⟨Nat.le_of_ble_eq_true rfl, Nat.le_of_ble_eq_true rfl⟩) (yPreV (wc := [(m5, .inr (5, [.int (u_7.2), .ref (u_7.1), .int 1]))]) (tc := []) hK hP hD hS hA hE [2] [] (by decide) rfl rfl (ci := 5) (q0 := 2) (q := (RJx4a65c, TJx4a65c, 3)) rfl rfl) rfl rfl hl.1 rfl (lv_room (Nat.le_of_ble_eq_true rfl)) dX6_keep_53 ⟨Nat.le_of_ble_eq_true rfl, Nat.le_of_ble_eq_true rfl⟩) hP hD hS hA [2] [0, 1] rfl rfl (by decide) (by decide) (fun r_8 u_9 H locs hw hP hD hS => ?_)
  have hP : va_P D vwCl [(m3, .inl (cI, 10, .inl (fr))), (m0, .inr (12, [.ref m1, .ref m2, .ref m3, .ref m4, .ref m5, .ref m6, .int 0, .int 0, .int 0])), (m5, .inr (5, [.int ((u_7.2)), .ref ((u_7.1)), .int 1]))] H := hP
  have hD : va_D A [(m3, .inl (cI, 10, .inl (fr))), (m0, .inr (12, [.ref m1, .ref m2, .ref m3, .ref m4, .ref m5, .ref m6, .int 0, .int 0, .int 0])), (m5, .inr (5, [.int ((u_7.2)), .ref ((u_7.1)), .int 1]))] := hD
  have hw : r_8 = 1 := hw
  subst hw
  refine lv_iconst (v := (1)) hx hb dX6_keep_58 (by decide) ?_
  refine lv_isub hx hb dX6_keep_59 ?_
  refine lv_topi (fun x_10 ex_10 => ?_)
  obtain rfl : x_10 = (0 : Int32) := ex_10.trans (by decide)
  exact y_iret hx hb hr hlocks () rfl (hP.sub [1] rfl) (hD.sub [1] (by decide) rfl) hS (Nat.le_of_ble_eq_true rfl) (Nat.le_of_ble_eq_true rfl) dX6_keep_60
