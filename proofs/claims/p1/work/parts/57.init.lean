theorem kJxa1e45_init_da8c8_1 : Cond.methodLink RJxa1e45 1 objectInit ∈ wsJxa1e45_init_da8c8 := List.mem_of_getElem? (i := 1) (by decide +kernel)
theorem kJxa1e45_init_da8c8_2 : Cond.instanceMethod objectInit ∈ wsJxa1e45_init_da8c8 := List.mem_of_getElem? (i := 2) (by decide +kernel)
theorem kJxa1e45_init_da8c8_3 : Cond.code objectInit ⟨#[0xb1]⟩ 1 none ∈ wsJxa1e45_init_da8c8 := List.mem_of_getElem? (i := 3) (by decide +kernel)
set_option maxHeartbeats 4000000 in
set_option maxRecDepth 100000 in
theorem i_ac (l : Launch) (hfl : l.stackTraces = false) (D : va_G) (tE : Nat) (sz : Nat) (m5 : Nat) (A : Nat → Prop) (hA0 : A = va_A [(m5, .inr (5, [.int 0, .null, .int 0]))] sz) : Met l yJxa1e45_init_da8c8 wsJxa1e45_init_da8c8 (yR 0 0 0) (yP D tE [(m5, .inr (5, [.int 0, .null, .int 0]))] [] sz [.ref m5]) (va_Qv (S := Unit) (fun (u : Unit) => True) (fun (u : Unit) (t : State) => yB D A ((fun (u : Unit) => [(m5, .inr (5, [.int 0, .null, .int 0]))]) u) t) A) 0 0 A := by
  refine Met.ofW (cc := cJxa1e45_init_da8c8) (maxL := 1) (ret := none) (by decide) rfl ?_
  intro p e s m args below meth c s₁ B hml hv
  obtain ⟨rfl, rfl, hP, hK, hD, hE, hA⟩ := y_start hA0 hv
  have hx := B.exec
  have hb := B.bytes
  have hr := B.returns
  have hts := atoms_spec (ws := wsJxa1e45_init_da8c8) B.pre
  have hown : s.vm.findClass RJxa1e45 = some m.cls := findClass_of_methodNamed B.named
  have hlocks := B.notSynchronized
  have hin : meth.name = "<init>" := (name_of_methodNamed B.named B.method).1
  clear hA0 hv
  have hS : va_S A s.heap s.heap [] := va_S.rf
  have hl := lv_entry ([.ref m5]) (n := 1) (Nat.le_of_ble_eq_true rfl)
  rw [lg_entry_eq]
  generalize (lg_sl ([.ref m5]) ++ List.replicate (1 - (lg_sl ([.ref m5])).length) Slot.unset).toArray = ls at hl ⊢
  have hl : lv_has ls 1 [(0, .ref m5)] := hl
  refine lv_aload_n hx hb dJxa1e45_init_da8c8_0 rfl (lv_at hl 0 rfl) ?_
  refine W.objInit hx hb hown (hts _ kJxa1e45_init_da8c8_1) (hts _ kJxa1e45_init_da8c8_2) (hts _ kJxa1e45_init_da8c8_3) rfl (by rw [hml]; exact hl.1) rfl dJxa1e45_init_da8c8_1 (Nat.le_of_ble_eq_true rfl) (Nat.le_of_ble_eq_true rfl) ?_
  show W p l e _ s m _ below meth c _ _ _ _ _ (F0 m 4 ls [])
  exact y_vret hx hb hr hlocks () trivial hP hD hS (Nat.le_of_ble_eq_true rfl) (Nat.le_of_ble_eq_true rfl) dJxa1e45_init_da8c8_4
theorem kJxc12de_init_da8c8_4 : Cond.initialized RJxa1e45 ∈ wsJxc12de_init_da8c8 := List.mem_of_getElem? (i := 4) (by decide +kernel)
theorem kJxc12de_init_da8c8_2 : Cond.methodLink RJxc12de 1 yJxa1e45_init_da8c8 ∈ wsJxc12de_init_da8c8 := List.mem_of_getElem? (i := 2) (by decide +kernel)
theorem kJxc12de_init_da8c8_3 : Cond.instanceMethod yJxa1e45_init_da8c8 ∈ wsJxc12de_init_da8c8 := List.mem_of_getElem? (i := 3) (by decide +kernel)
theorem iJxc12de_init_da8c8_Jx4a65c : ∀ w ∈ wsJx4a65c0, w ∈ wsJxc12de_init_da8c8 := by decide +kernel
theorem kJxc12de_init_da8c8_1 : Cond.fieldLink RJxc12de 7 "java/util/AbstractList" "modCount" "I" ∈ wsJxc12de_init_da8c8 := List.mem_of_getElem? (i := 1) (by decide +kernel)
set_option maxHeartbeats 4000000 in
set_option maxRecDepth 100000 in
theorem i_abl (l : Launch) (hfl : l.stackTraces = false) (D : va_G) (tE : Nat) (sz : Nat) (m5 : Nat) (A : Nat → Prop) (hA0 : A = va_A [(m5, .inr (5, [.int 0, .null, .int 0]))] sz) : Met l yJxc12de_init_da8c8 wsJxc12de_init_da8c8 (yR 1 0 0) (yP D tE [(m5, .inr (5, [.int 0, .null, .int 0]))] [] sz [.ref m5]) (va_Qv (S := Unit) (fun (u : Unit) => True) (fun (u : Unit) (t : State) => yB D A ((fun (u : Unit) => [(m5, .inr (5, [.int 0, .null, .int 0]))]) u) t) A) 0 0 A := by
  refine Met.ofW (cc := cJxc12de_init_da8c8) (maxL := 1) (ret := none) (by decide) rfl ?_
  intro p e s m args below meth c s₁ B hml hv
  obtain ⟨rfl, rfl, hP, hK, hD, hE, hA⟩ := y_start hA0 hv
  have hx := B.exec
  have hb := B.bytes
  have hr := B.returns
  have hts := atoms_spec (ws := wsJxc12de_init_da8c8) B.pre
  have hown : s.vm.findClass RJxc12de = some m.cls := findClass_of_methodNamed B.named
  have hlocks := B.notSynchronized
  have hin : meth.name = "<init>" := (name_of_methodNamed B.named B.method).1
  clear hA0 hv
  have hS : va_S A s.heap s.heap [] := va_S.rf
  have hl := lv_entry ([.ref m5]) (n := 1) (Nat.le_of_ble_eq_true rfl)
  rw [lg_entry_eq]
  generalize (lg_sl ([.ref m5]) ++ List.replicate (1 - (lg_sl ([.ref m5])).length) Slot.unset).toArray = ls at hl ⊢
  have hl : lv_has ls 1 [(0, .ref m5)] := hl
  refine lv_aload_n hx hb dJxc12de_init_da8c8_0 rfl (lv_at hl 0 rfl) ?_
  refine yc_v (wc := [(m5, .inr (5, [.int 0, .null, .int 0]))]) (wr := []) (va_runI (As := []) (rest := []) ⟨hx, hb, hml, hown, hts⟩ (i_ac l hfl D tE s.heap.size m5 (va_A [(m5, .inr (5, [.int 0, .null, .int 0]))] s.heap.size) rfl) (cwI 0 hts gJxc12de_init_da8c8_Jxa1e45_init_da8c8 rfl rfl rfl (hts _ kJxc12de_init_da8c8_4) (hts _ kJxc12de_init_da8c8_2) (hts _ kJxc12de_init_da8c8_3) rfl (by decide +kernel) ⟨Nat.le_of_ble_eq_true rfl, Nat.le_of_ble_eq_true rfl⟩) (yPreS (wc := [(m5, .inr (5, [.int 0, .null, .int 0]))]) (tc := []) hK hP hD hS hA hE [0] [] (by decide) rfl rfl) rfl rfl hl.1 rfl (lv_room (Nat.le_of_ble_eq_true rfl)) dJxc12de_init_da8c8_1 ⟨Nat.le_of_ble_eq_true rfl, Nat.le_of_ble_eq_true rfl⟩) hP hD hS hA [0] [] rfl rfl (by decide) (by decide) (fun u_2 H locs hw hP hD hS => ?_)
  have hP : va_P D vwCl [(m5, .inr (5, [.int 0, .null, .int 0]))] H := hP
  have hD : va_D A [(m5, .inr (5, [.int 0, .null, .int 0]))] := hD
  refine lv_aload_n hx hb dJxc12de_init_da8c8_4 rfl (lv_at hl 0 rfl) ?_
  refine lv_iconst (v := (0)) hx hb dJxc12de_init_da8c8_5 (by decide) ?_
  refine va_put (D := D) (ci := 5) (v := .int 0) (ty := .int) (C := RJx4a65c) (T := TJx4a65c) (N := 3) hx hb hts iJxc12de_init_da8c8_Jx4a65c tyJx4a65c tyJx4a65c_ok nmJx4a65c hown hK hP hD hS 0 rfl rfl 0 (by decide) (hts _ kJxc12de_init_da8c8_1) (fun _ h9 => h9) rfl (by decide +kernel) rfl rfl (Nat.le_of_ble_eq_true rfl) dJxc12de_init_da8c8_6 (fun H locs hP hD hS => ?_)
  have hP : va_P D vwCl [(m5, .inr (5, [.int 0, .null, .int 0]))] H := hP
  have hD : va_D A [(m5, .inr (5, [.int 0, .null, .int 0]))] := hD
  exact y_vret hx hb hr hlocks () trivial hP hD hS (Nat.le_of_ble_eq_true rfl) (Nat.le_of_ble_eq_true rfl) dJxc12de_init_da8c8_9
theorem kJx4a65c_init_da8c8_5 : Cond.initialized RJxc12de ∈ wsJx4a65c_init_da8c8 := List.mem_of_getElem? (i := 5) (by decide +kernel)
theorem kJx4a65c_init_da8c8_3 : Cond.methodLink RJx4a65c 1 yJxc12de_init_da8c8 ∈ wsJx4a65c_init_da8c8 := List.mem_of_getElem? (i := 3) (by decide +kernel)
theorem kJx4a65c_init_da8c8_4 : Cond.instanceMethod yJxc12de_init_da8c8 ∈ wsJx4a65c_init_da8c8 := List.mem_of_getElem? (i := 4) (by decide +kernel)
theorem kJx4a65c_init_da8c8_1 : Cond.fieldLink RJx4a65c 39 "java/util/ArrayList" "DEFAULTCAPACITY_EMPTY_ELEMENTDATA" "[Ljava/lang/Object;" ∈ wsJx4a65c_init_da8c8 := List.mem_of_getElem? (i := 1) (by decide +kernel)
theorem iJx4a65c_init_da8c8_Jx4a65c : ∀ w ∈ wsJx4a65c0, w ∈ wsJx4a65c_init_da8c8 := by decide +kernel
theorem kJx4a65c_init_da8c8_2 : Cond.fieldLink RJx4a65c 9 "java/util/ArrayList" "elementData" "[Ljava/lang/Object;" ∈ wsJx4a65c_init_da8c8 := List.mem_of_getElem? (i := 2) (by decide +kernel)
set_option maxHeartbeats 4000000 in
set_option maxRecDepth 100000 in
theorem i_al (l : Launch) (hfl : l.stackTraces = false) (D : va_G) (tE : Nat) (sz : Nat) (m5 : Nat) (A : Nat → Prop) (hA0 : A = va_A [(m5, .inr (5, [.int 0, .null, .int 0]))] sz) : Met l yJx4a65c_init_da8c8 wsJx4a65c_init_da8c8 (yR 2 0 0) (yP D tE [(m5, .inr (5, [.int 0, .null, .int 0]))] [] sz [.ref m5]) (va_Qv (S := Unit) (fun (u : Unit) => True) (fun (u : Unit) (t : State) => yB D A ((fun (u : Unit) => [(m5, .inr (5, [.int 0, .ref tE, .int 0]))]) u) t) A) 0 0 A := by
  refine Met.ofW (cc := cJx4a65c_init_da8c8) (maxL := 1) (ret := none) (by decide) rfl ?_
  intro p e s m args below meth c s₁ B hml hv
  obtain ⟨rfl, rfl, hP, hK, hD, hE, hA⟩ := y_start hA0 hv
  have hx := B.exec
  have hb := B.bytes
  have hr := B.returns
  have hts := atoms_spec (ws := wsJx4a65c_init_da8c8) B.pre
  have hown : s.vm.findClass RJx4a65c = some m.cls := findClass_of_methodNamed B.named
  have hlocks := B.notSynchronized
  have hin : meth.name = "<init>" := (name_of_methodNamed B.named B.method).1
  clear hA0 hv
  have hS : va_S A s.heap s.heap [] := va_S.rf
  have hl := lv_entry ([.ref m5]) (n := 1) (Nat.le_of_ble_eq_true rfl)
  rw [lg_entry_eq]
  generalize (lg_sl ([.ref m5]) ++ List.replicate (1 - (lg_sl ([.ref m5])).length) Slot.unset).toArray = ls at hl ⊢
  have hl : lv_has ls 1 [(0, .ref m5)] := hl
  refine lv_aload_n hx hb dJx4a65c_init_da8c8_0 rfl (lv_at hl 0 rfl) ?_
  refine yc_v (wc := [(m5, .inr (5, [.int 0, .null, .int 0]))]) (wr := []) (va_runI (As := []) (rest := []) ⟨hx, hb, hml, hown, hts⟩ (i_abl l hfl D tE s.heap.size m5 (va_A [(m5, .inr (5, [.int 0, .null, .int 0]))] s.heap.size) rfl) (cwI 0 hts gJx4a65c_init_da8c8_Jxc12de_init_da8c8 rfl rfl rfl (hts _ kJx4a65c_init_da8c8_5) (hts _ kJx4a65c_init_da8c8_3) (hts _ kJx4a65c_init_da8c8_4) rfl (by decide +kernel) ⟨Nat.le_of_ble_eq_true rfl, Nat.le_of_ble_eq_true rfl⟩) (yPreS (wc := [(m5, .inr (5, [.int 0, .null, .int 0]))]) (tc := []) hK hP hD hS hA hE [0] [] (by decide) rfl rfl) rfl rfl hl.1 rfl (lv_room (Nat.le_of_ble_eq_true rfl)) dJx4a65c_init_da8c8_1 ⟨Nat.le_of_ble_eq_true rfl, Nat.le_of_ble_eq_true rfl⟩) hP hD hS hA [0] [] rfl rfl (by decide) (by decide) (fun u_2 H locs hw hP hD hS => ?_)
  have hP : va_P D vwCl [(m5, .inr (5, [.int 0, .null, .int 0]))] H := hP
  have hD : va_D A [(m5, .inr (5, [.int 0, .null, .int 0]))] := hD
  refine lv_aload_n hx hb dJx4a65c_init_da8c8_4 rfl (lv_at hl 0 rfl) ?_
  refine va_gets hx hb hE.1.2.2.2.1 hS hown (hts _ kJx4a65c_init_da8c8_1) (fun _ h9 => h9) dJx4a65c_init_da8c8_5 ?_
  refine va_put (D := D) (ci := 5) (v := .ref tE) (ty := .array (.object "java/lang/Object")) (C := RJx4a65c) (T := TJx4a65c) (N := 3) hx hb hts iJx4a65c_init_da8c8_Jx4a65c tyJx4a65c tyJx4a65c_ok nmJx4a65c hown hK hP hD hS 0 rfl rfl 1 (by decide) (hts _ kJx4a65c_init_da8c8_2) (fun _ h9 => h9) rfl (by decide +kernel) rfl rfl (Nat.le_of_ble_eq_true rfl) dJx4a65c_init_da8c8_8 (fun H locs hP hD hS => ?_)
  have hP : va_P D vwCl [(m5, .inr (5, [.int 0, .ref tE, .int 0]))] H := hP
  have hD : va_D A [(m5, .inr (5, [.int 0, .ref tE, .int 0]))] := hD
  exact y_vret hx hb hr hlocks () trivial hP hD hS (Nat.le_of_ble_eq_true rfl) (Nat.le_of_ble_eq_true rfl) dJx4a65c_init_da8c8_11
theorem kJ5_init_d00df_1 : Cond.methodLink RJ5 3 objectInit ∈ wsJ5_init_d00df := List.mem_of_getElem? (i := 1) (by decide +kernel)
theorem kJ5_init_d00df_2 : Cond.instanceMethod objectInit ∈ wsJ5_init_d00df := List.mem_of_getElem? (i := 2) (by decide +kernel)
theorem kJ5_init_d00df_3 : Cond.code objectInit ⟨#[0xb1]⟩ 1 none ∈ wsJ5_init_d00df := List.mem_of_getElem? (i := 3) (by decide +kernel)
theorem kJ5_init_d00df_4 : Cond.fieldLink RJ5 18 "java/lang/String" "COMPACT_STRINGS" "Z" ∈ wsJ5_init_d00df := List.mem_of_getElem? (i := 4) (by decide +kernel)
theorem kJ5_init_d00df_5 : Cond.arrayClass .byte ∈ wsJ5_init_d00df := List.mem_of_getElem? (i := 5) (by decide +kernel)
theorem iJ5_init_d00df_J4 : ∀ w ∈ wsJ40, w ∈ wsJ5_init_d00df := by decide +kernel
theorem kJ5_init_d00df_6 : Cond.fieldLink RJ5 15 "java/lang/AbstractStringBuilder" "value" "[B" ∈ wsJ5_init_d00df := List.mem_of_getElem? (i := 6) (by decide +kernel)
theorem kJ5_init_d00df_7 : Cond.fieldLink RJ5 22 "java/lang/AbstractStringBuilder" "coder" "B" ∈ wsJ5_init_d00df := List.mem_of_getElem? (i := 7) (by decide +kernel)
set_option maxHeartbeats 4000000 in
set_option maxRecDepth 100000 in
theorem i_sb5 (l : Launch) (hfl : l.stackTraces = false) (D : va_G) (tE : Nat) (sz : Nat) (m6 : Nat) (cB : ClassId) (A : Nat → Prop) (hA0 : A = va_A [(m6, .inr (1, [.null, .int 0, .int 0, .int 0]))] sz) : Met l yJ5_init_d00df wsJ5_init_d00df (yR 0 1 16) (yP D tE [(m6, .inr (1, [.null, .int 0, .int 0, .int 0]))] [(cB, .byte)] sz [.ref m6, .int 16]) (va_Qv (S := Nat) (fun (u : Nat) => True) (fun (u : Nat) (t : State) => yB D A ((fun (u : Nat) => [(m6, .inr (1, [.ref u, .int 0, .int 0, .int 0])), (u, .inl (cB, 16, .inl (fun _ => 0)))]) u) t) A) 1 16 A := by
  refine Met.ofW (cc := cJ5_init_d00df) (maxL := 2) (ret := none) (by decide) rfl ?_
  intro p e s m args below meth c s₁ B hml hv
  obtain ⟨rfl, rfl, hP, hK, hD, hE, hA⟩ := y_start hA0 hv
  have hx := B.exec
  have hb := B.bytes
  have hr := B.returns
  have hts := atoms_spec (ws := wsJ5_init_d00df) B.pre
  have hown : s.vm.findClass RJ5 = some m.cls := findClass_of_methodNamed B.named
  have hlocks := B.notSynchronized
  have hin : meth.name = "<init>" := (name_of_methodNamed B.named B.method).1
  clear hA0 hv
  have hS : va_S A s.heap s.heap [] := va_S.rf
  have hl := lv_entry ([.ref m6, .int 16]) (n := 2) (Nat.le_of_ble_eq_true rfl)
  rw [lg_entry_eq]
  generalize (lg_sl ([.ref m6, .int 16]) ++ List.replicate (2 - (lg_sl ([.ref m6, .int 16])).length) Slot.unset).toArray = ls at hl ⊢
  have hl : lv_has ls 2 [(0, .ref m6), (1, .int 16)] := hl
  refine lv_aload_n hx hb dJ5_init_d00df_0 rfl (lv_at hl 0 rfl) ?_
  refine W.objInit hx hb hown (hts _ kJ5_init_d00df_1) (hts _ kJ5_init_d00df_2) (hts _ kJ5_init_d00df_3) rfl (by rw [hml]; exact hl.1) rfl dJ5_init_d00df_1 (Nat.le_of_ble_eq_true rfl) (Nat.le_of_ble_eq_true rfl) ?_
  show W p l e _ s m _ below meth c _ _ _ _ _ (F0 m 4 ls [])
  refine va_gets hx hb hE.1.2.2.1 hS hown (hts _ kJ5_init_d00df_4) (fun _ h9 => h9) dJ5_init_d00df_4 ?_
  refine lv_if_eq (tgt := 25) hx hb dJ5_init_d00df_7 (by decide) (fun h => absurd h (by decide)) (fun _ => ?_)
  refine lv_aload_n hx hb dJ5_init_d00df_10 rfl (lv_at hl 0 rfl) ?_
  refine lv_iload_n hx hb dJ5_init_d00df_11 rfl (lv_at hl 1 rfl) ?_
  refine va_newa (atype := .byte) (ty := .byte) (N' := 16) (a0 := (16, .inl (fun _ => 0))) hx hb (hts _ kJ5_init_d00df_5) rfl hK hP hD hS hA (fun _ => rfl) (by decide) (by decide) (by decide) (Nat.le_of_ble_eq_true rfl) (Nat.le_of_ble_eq_true rfl) dJ5_init_d00df_12 (fun q_1 c_2 H hK hP hD hS => ?_)
  have hc9 := (y_cls hK 0 1 rfl rfl).symm
  subst hc9
  have hK : va_K D vwCl [(cB, .byte)] s := hK.sub [0] rfl
  have hP : va_P D vwCl [(m6, .inr (1, [.null, .int 0, .int 0, .int 0])), (q_1, .inl (cB, 16, .inl (fun _ => 0)))] H := hP
  have hD : va_D A [(m6, .inr (1, [.null, .int 0, .int 0, .int 0])), (q_1, .inl (cB, 16, .inl (fun _ => 0)))] := hD
  refine va_put (D := D) (ci := 1) (v := .ref q_1) (ty := .array .byte) (C := RJ4) (T := TJ4) (N := 4) hx hb hts iJ5_init_d00df_J4 tyJ4 tyJ4_ok nmJ4 hown hK hP hD hS 0 rfl rfl 0 (by decide) (hts _ kJ5_init_d00df_6) (fun _ h9 => h9) rfl (by decide +kernel) rfl rfl (Nat.le_of_ble_eq_true rfl) dJ5_init_d00df_14 (fun H locs hP hD hS => ?_)
  have hP : va_P D vwCl [(m6, .inr (1, [.ref q_1, .int 0, .int 0, .int 0])), (q_1, .inl (cB, 16, .inl (fun _ => 0)))] H := hP
  have hD : va_D A [(m6, .inr (1, [.ref q_1, .int 0, .int 0, .int 0])), (q_1, .inl (cB, 16, .inl (fun _ => 0)))] := hD
  refine lv_aload_n hx hb dJ5_init_d00df_17 rfl (lv_at hl 0 rfl) ?_
  refine lv_iconst (v := (0)) hx hb dJ5_init_d00df_18 (by decide) ?_
  refine va_put (D := D) (ci := 1) (v := .int 0) (ty := .byte) (C := RJ4) (T := TJ4) (N := 4) hx hb hts iJ5_init_d00df_J4 tyJ4 tyJ4_ok nmJ4 hown hK hP hD hS 0 rfl rfl 1 (by decide) (hts _ kJ5_init_d00df_7) (fun _ h9 => h9) rfl (by decide +kernel) rfl rfl (Nat.le_of_ble_eq_true rfl) dJ5_init_d00df_19 (fun H locs hP hD hS => ?_)
  have hP : va_P D vwCl [(m6, .inr (1, [.ref q_1, .int 0, .int 0, .int 0])), (q_1, .inl (cB, 16, .inl (fun _ => 0)))] H := hP
  have hD : va_D A [(m6, .inr (1, [.ref q_1, .int 0, .int 0, .int 0])), (q_1, .inl (cB, 16, .inl (fun _ => 0)))] := hD
  refine lv_goto (tgt := 38) hx hb dJ5_init_d00df_22 (by decide) ?_
  exact y_vret hx hb hr hlocks q_1 trivial hP hD hS (Nat.le_of_ble_eq_true rfl) (Nat.le_of_ble_eq_true rfl) dJ5_init_d00df_38
theorem kJ4_init_da8c8_3 : Cond.initialized RJ5 ∈ wsJ4_init_da8c8 := List.mem_of_getElem? (i := 3) (by decide +kernel)
theorem kJ4_init_da8c8_1 : Cond.methodLink RJ4 1 yJ5_init_d00df ∈ wsJ4_init_da8c8 := List.mem_of_getElem? (i := 1) (by decide +kernel)
theorem kJ4_init_da8c8_2 : Cond.instanceMethod yJ5_init_d00df ∈ wsJ4_init_da8c8 := List.mem_of_getElem? (i := 2) (by decide +kernel)
set_option maxHeartbeats 4000000 in
set_option maxRecDepth 100000 in
theorem i_sb4 (l : Launch) (hfl : l.stackTraces = false) (D : va_G) (tE : Nat) (sz : Nat) (m6 : Nat) (cB : ClassId) (A : Nat → Prop) (hA0 : A = va_A [(m6, .inr (1, [.null, .int 0, .int 0, .int 0]))] sz) : Met l yJ4_init_da8c8 wsJ4_init_da8c8 (yR 1 1 16) (yP D tE [(m6, .inr (1, [.null, .int 0, .int 0, .int 0]))] [(cB, .byte)] sz [.ref m6]) (va_Qv (S := Nat) (fun (u : Nat) => True) (fun (u : Nat) (t : State) => yB D A ((fun (u : Nat) => [(m6, .inr (1, [.ref u, .int 0, .int 0, .int 0])), (u, .inl (cB, 16, .inl (fun _ => 0)))]) u) t) A) 1 16 A := by
  refine Met.ofW (cc := cJ4_init_da8c8) (maxL := 1) (ret := none) (by decide) rfl ?_
  intro p e s m args below meth c s₁ B hml hv
  obtain ⟨rfl, rfl, hP, hK, hD, hE, hA⟩ := y_start hA0 hv
  have hx := B.exec
  have hb := B.bytes
  have hr := B.returns
  have hts := atoms_spec (ws := wsJ4_init_da8c8) B.pre
  have hown : s.vm.findClass RJ4 = some m.cls := findClass_of_methodNamed B.named
  have hlocks := B.notSynchronized
  have hin : meth.name = "<init>" := (name_of_methodNamed B.named B.method).1
  clear hA0 hv
  have hS : va_S A s.heap s.heap [] := va_S.rf
  have hl := lv_entry ([.ref m6]) (n := 1) (Nat.le_of_ble_eq_true rfl)
  rw [lg_entry_eq]
  generalize (lg_sl ([.ref m6]) ++ List.replicate (1 - (lg_sl ([.ref m6])).length) Slot.unset).toArray = ls at hl ⊢
  have hl : lv_has ls 1 [(0, .ref m6)] := hl
  refine lv_aload_n hx hb dJ4_init_da8c8_0 rfl (lv_at hl 0 rfl) ?_
  refine lv_bipush (v := (16)) hx hb dJ4_init_da8c8_1 (by decide) ?_
  refine yc_v (wc := [(m6, .inr (1, [.null, .int 0, .int 0, .int 0]))]) (wr := []) (va_runI (As := [.int 16]) (rest := []) ⟨hx, hb, hml, hown, hts⟩ (i_sb5 l hfl D tE s.heap.size m6 cB (va_A [(m6, .inr (1, [.null, .int 0, .int 0, .int 0]))] s.heap.size) rfl) (cwI 1 hts gJ4_init_da8c8_J5_init_d00df rfl rfl rfl (hts _ kJ4_init_da8c8_3) (hts _ kJ4_init_da8c8_1) (hts _ kJ4_init_da8c8_2) rfl (by decide +kernel) ⟨Nat.le_of_ble_eq_true rfl, Nat.le_of_ble_eq_true rfl⟩) (yPreS (wc := [(m6, .inr (1, [.null, .int 0, .int 0, .int 0]))]) (tc := [(cB, .byte)]) hK hP hD hS hA hE [0] [0] (by decide) rfl rfl) rfl rfl hl.1 rfl (lv_room (Nat.le_of_ble_eq_true rfl)) dJ4_init_da8c8_3 ⟨Nat.le_of_ble_eq_true rfl, Nat.le_of_ble_eq_true rfl⟩) hP hD hS hA [0] [] rfl rfl (by decide) (by decide) (fun u_2 H locs hw hP hD hS => ?_)
  have hP : va_P D vwCl [(m6, .inr (1, [.ref u_2, .int 0, .int 0, .int 0])), (u_2, .inl (cB, 16, .inl (fun _ => 0)))] H := hP
  have hD : va_D A [(m6, .inr (1, [.ref u_2, .int 0, .int 0, .int 0])), (u_2, .inl (cB, 16, .inl (fun _ => 0)))] := hD
  exact y_vret hx hb hr hlocks u_2 trivial hP hD hS (Nat.le_of_ble_eq_true rfl) (Nat.le_of_ble_eq_true rfl) dJ4_init_da8c8_6
theorem kX6_init_1 : Cond.methodLink RX6 1 objectInit ∈ wsX6_init := List.mem_of_getElem? (i := 1) (by decide +kernel)
theorem kX6_init_2 : Cond.instanceMethod objectInit ∈ wsX6_init := List.mem_of_getElem? (i := 2) (by decide +kernel)
theorem kX6_init_3 : Cond.code objectInit ⟨#[0xb1]⟩ 1 none ∈ wsX6_init := List.mem_of_getElem? (i := 3) (by decide +kernel)
theorem kX6_init_4 : Cond.arrayClass .int ∈ wsX6_init := List.mem_of_getElem? (i := 4) (by decide +kernel)
theorem iX6_init_X6 : ∀ w ∈ wsX60, w ∈ wsX6_init := by decide +kernel
theorem kX6_init_5 : Cond.fieldLink RX6 9 "MostwellModel" "weights" "[I" ∈ wsX6_init := List.mem_of_getElem? (i := 5) (by decide +kernel)
theorem kX6_init_6 : Cond.fieldLink RX6 13 "MostwellModel" "places" "[I" ∈ wsX6_init := List.mem_of_getElem? (i := 6) (by decide +kernel)
theorem kX6_init_7 : Cond.fieldLink RX6 16 "MostwellModel" "hand" "[I" ∈ wsX6_init := List.mem_of_getElem? (i := 7) (by decide +kernel)
theorem kX6_init_8 : Cond.classLink RX6 19 "[[I" ∈ wsX6_init := List.mem_of_getElem? (i := 8) (by decide +kernel)
theorem kX6_init_9 : Cond.fieldLink RX6 21 "MostwellModel" "ranks" "[[I" ∈ wsX6_init := List.mem_of_getElem? (i := 9) (by decide +kernel)
theorem iX6_init_Jx4a65c : ∀ w ∈ wsJx4a65c0, w ∈ wsX6_init := by decide +kernel
theorem kX6_init_10 : Cond.classLink RX6 24 RJx4a65c ∈ wsX6_init := List.mem_of_getElem? (i := 10) (by decide +kernel)
theorem kX6_init_11 : Cond.instantiable RJx4a65c 3 ∈ wsX6_init := List.mem_of_getElem? (i := 11) (by decide +kernel)
theorem kX6_init_12 : Cond.initialized RJx4a65c ∈ wsX6_init := List.mem_of_getElem? (i := 12) (by decide +kernel)
theorem kX6_init_18 : Cond.methodLink RX6 26 yJx4a65c_init_da8c8 ∈ wsX6_init := List.mem_of_getElem? (i := 18) (by decide +kernel)
theorem kX6_init_19 : Cond.instanceMethod yJx4a65c_init_da8c8 ∈ wsX6_init := List.mem_of_getElem? (i := 19) (by decide +kernel)
theorem kX6_init_13 : Cond.fieldLink RX6 27 "MostwellModel" "kept" "Ljava/util/List;" ∈ wsX6_init := List.mem_of_getElem? (i := 13) (by decide +kernel)
theorem iX6_init_J4 : ∀ w ∈ wsJ40, w ∈ wsX6_init := by decide +kernel
theorem kX6_init_14 : Cond.classLink RX6 31 RJ4 ∈ wsX6_init := List.mem_of_getElem? (i := 14) (by decide +kernel)
theorem kX6_init_15 : Cond.instantiable RJ4 4 ∈ wsX6_init := List.mem_of_getElem? (i := 15) (by decide +kernel)
theorem kX6_init_16 : Cond.initialized RJ4 ∈ wsX6_init := List.mem_of_getElem? (i := 16) (by decide +kernel)
theorem kX6_init_33 : Cond.methodLink RX6 33 yJ4_init_da8c8 ∈ wsX6_init := List.mem_of_getElem? (i := 33) (by decide +kernel)
theorem kX6_init_34 : Cond.instanceMethod yJ4_init_da8c8 ∈ wsX6_init := List.mem_of_getElem? (i := 34) (by decide +kernel)
theorem kX6_init_17 : Cond.fieldLink RX6 34 "MostwellModel" "typed" "Ljava/lang/StringBuilder;" ∈ wsX6_init := List.mem_of_getElem? (i := 17) (by decide +kernel)
set_option maxHeartbeats 4000000 in
set_option maxRecDepth 100000 in
theorem i_X6 (l : Launch) (hfl : l.stackTraces = false) (D : va_G) (tE : Nat) (sz : Nat) (m0 : Nat) (cI : ClassId) (cB : ClassId) (A : Nat → Prop) (hA0 : A = va_A [(m0, .inr (12, [.null, .null, .null, .null, .null, .null, .int 0, .int 0, .int 0]))] sz) : Met l yX6_init wsX6_init (yR 3 17 163) (yP D tE [(m0, .inr (12, [.null, .null, .null, .null, .null, .null, .int 0, .int 0, .int 0]))] [(cI, .int), (cB, .byte)] sz [.ref m0]) (va_Qv (S := (Nat → Nat) × (Nat → Int32)) (fun (u : (Nat → Nat) × (Nat → Int32)) => True) (fun (u : (Nat → Nat) × (Nat → Int32)) (t : State) => yB D A ((fun (u : (Nat → Nat) × (Nat → Int32)) => [(m0, .inr (12, [.ref ((u.1 0)), .ref ((u.1 1)), .ref ((u.1 2)), .ref ((u.1 3)), .ref ((u.1 4)), .ref ((u.1 5)), .int 0, .int 0, .int 0])), ((u.1 0), .inl (cI, 10, .inl (fun _ => 0))), ((u.1 1), .inl (cI, 10, .inl (fun _ => 0))), ((u.1 2), .inl (cI, 10, .inl (u.2))), ((u.1 4), .inr (5, [.int 0, .ref tE, .int 0])), ((u.1 5), .inr (1, [.ref ((u.1 6)), .int 0, .int 0, .int 0])), ((u.1 6), .inl (cB, 16, .inl (fun _ => 0)))]) u) t) A) 17 163 A := by
  refine Met.ofW (cc := cX6_init) (maxL := 1) (ret := none) (by decide) rfl ?_
  intro p e s m args below meth c s₁ B hml hv
  obtain ⟨rfl, rfl, hP, hK, hD, hE, hA⟩ := y_start hA0 hv
  have hx := B.exec
  have hb := B.bytes
  have hr := B.returns
  have hts := atoms_spec (ws := wsX6_init) B.pre
  have hown : s.vm.findClass RX6 = some m.cls := findClass_of_methodNamed B.named
  have hlocks := B.notSynchronized
  have hin : meth.name = "<init>" := (name_of_methodNamed B.named B.method).1
  clear hA0 hv
  have hS : va_S A s.heap s.heap [] := va_S.rf
  have hl := lv_entry ([.ref m0]) (n := 1) (Nat.le_of_ble_eq_true rfl)
  rw [lg_entry_eq]
  generalize (lg_sl ([.ref m0]) ++ List.replicate (1 - (lg_sl ([.ref m0])).length) Slot.unset).toArray = ls at hl ⊢
  have hl : lv_has ls 1 [(0, .ref m0)] := hl
  refine lv_aload_n hx hb dX6_init_0 rfl (lv_at hl 0 rfl) ?_
  refine W.objInit hx hb hown (hts _ kX6_init_1) (hts _ kX6_init_2) (hts _ kX6_init_3) rfl (by rw [hml]; exact hl.1) rfl dX6_init_1 (Nat.le_of_ble_eq_true rfl) (Nat.le_of_ble_eq_true rfl) ?_
  show W p l e _ s m _ below meth c _ _ _ _ _ (F0 m 4 ls [])
  refine lv_aload_n hx hb dX6_init_4 rfl (lv_at hl 0 rfl) ?_
  refine lv_bipush (v := (10)) hx hb dX6_init_5 (by decide) ?_
  refine va_newa (atype := .int) (ty := .int) (N' := 10) (a0 := (10, .inl (fun _ => 0))) hx hb (hts _ kX6_init_4) rfl hK hP hD hS hA (fun _ => rfl) (by decide) (by decide) (by decide) (Nat.le_of_ble_eq_true rfl) (Nat.le_of_ble_eq_true rfl) dX6_init_7 (fun q_1 c_2 H hK hP hD hS => ?_)
  have hc9 := (y_cls hK 0 2 rfl rfl).symm
  subst hc9
  have hK : va_K D vwCl [(cI, .int), (cB, .byte)] s := hK.sub [0, 1] rfl
  have hP : va_P D vwCl [(m0, .inr (12, [.null, .null, .null, .null, .null, .null, .int 0, .int 0, .int 0])), (q_1, .inl (cI, 10, .inl (fun _ => 0)))] H := hP
  have hD : va_D A [(m0, .inr (12, [.null, .null, .null, .null, .null, .null, .int 0, .int 0, .int 0])), (q_1, .inl (cI, 10, .inl (fun _ => 0)))] := hD
  refine va_putF (D := D) (ci := 12) (v := .ref q_1) (ty := .array .int) (C := RX6) (T := TX6) (N := 9) hx hb hts iX6_init_X6 tyX6 tyX6_ok nmX6 hown hK hP hD hS 0 rfl rfl 0 (by decide) (hts _ kX6_init_5) (fun _ h9 => h9) rfl hin rfl (by decide +kernel) rfl rfl (Nat.le_of_ble_eq_true rfl) dX6_init_9 (fun H locs hP hD hS => ?_)
  have hP : va_P D vwCl [(m0, .inr (12, [.ref q_1, .null, .null, .null, .null, .null, .int 0, .int 0, .int 0])), (q_1, .inl (cI, 10, .inl (fun _ => 0)))] H := hP
  have hD : va_D A [(m0, .inr (12, [.ref q_1, .null, .null, .null, .null, .null, .int 0, .int 0, .int 0])), (q_1, .inl (cI, 10, .inl (fun _ => 0)))] := hD
  refine lv_aload_n hx hb dX6_init_12 rfl (lv_at hl 0 rfl) ?_
  refine lv_bipush (v := (10)) hx hb dX6_init_13 (by decide) ?_
  refine va_newa (atype := .int) (ty := .int) (N' := 10) (a0 := (10, .inl (fun _ => 0))) hx hb (hts _ kX6_init_4) rfl hK hP hD hS hA (fun _ => rfl) (by decide) (by decide) (by decide) (Nat.le_of_ble_eq_true rfl) (Nat.le_of_ble_eq_true rfl) dX6_init_15 (fun q_3 c_4 H hK hP hD hS => ?_)
  have hc9 := (y_cls hK 0 2 rfl rfl).symm
  subst hc9
  have hK : va_K D vwCl [(cI, .int), (cB, .byte)] s := hK.sub [0, 1] rfl
  have hP : va_P D vwCl [(m0, .inr (12, [.ref q_1, .null, .null, .null, .null, .null, .int 0, .int 0, .int 0])), (q_1, .inl (cI, 10, .inl (fun _ => 0))), (q_3, .inl (cI, 10, .inl (fun _ => 0)))] H := hP
  have hD : va_D A [(m0, .inr (12, [.ref q_1, .null, .null, .null, .null, .null, .int 0, .int 0, .int 0])), (q_1, .inl (cI, 10, .inl (fun _ => 0))), (q_3, .inl (cI, 10, .inl (fun _ => 0)))] := hD
  refine va_putF (D := D) (ci := 12) (v := .ref q_3) (ty := .array .int) (C := RX6) (T := TX6) (N := 9) hx hb hts iX6_init_X6 tyX6 tyX6_ok nmX6 hown hK hP hD hS 0 rfl rfl 1 (by decide) (hts _ kX6_init_6) (fun _ h9 => h9) rfl hin rfl (by decide +kernel) rfl rfl (Nat.le_of_ble_eq_true rfl) dX6_init_17 (fun H locs hP hD hS => ?_)
  have hP : va_P D vwCl [(m0, .inr (12, [.ref q_1, .ref q_3, .null, .null, .null, .null, .int 0, .int 0, .int 0])), (q_1, .inl (cI, 10, .inl (fun _ => 0))), (q_3, .inl (cI, 10, .inl (fun _ => 0)))] H := hP
  have hD : va_D A [(m0, .inr (12, [.ref q_1, .ref q_3, .null, .null, .null, .null, .int 0, .int 0, .int 0])), (q_1, .inl (cI, 10, .inl (fun _ => 0))), (q_3, .inl (cI, 10, .inl (fun _ => 0)))] := hD
  refine lv_aload_n hx hb dX6_init_20 rfl (lv_at hl 0 rfl) ?_
  refine lv_bipush (v := (10)) hx hb dX6_init_21 (by decide) ?_
  refine va_newa (atype := .int) (ty := .int) (N' := 10) (a0 := (10, .inl (fun _ => 0))) hx hb (hts _ kX6_init_4) rfl hK hP hD hS hA (fun _ => rfl) (by decide) (by decide) (by decide) (Nat.le_of_ble_eq_true rfl) (Nat.le_of_ble_eq_true rfl) dX6_init_23 (fun q_5 c_6 H hK hP hD hS => ?_)
  have hc9 := (y_cls hK 0 2 rfl rfl).symm
  subst hc9
  have hK : va_K D vwCl [(cI, .int), (cB, .byte)] s := hK.sub [0, 1] rfl
  have hP : va_P D vwCl [(m0, .inr (12, [.ref q_1, .ref q_3, .null, .null, .null, .null, .int 0, .int 0, .int 0])), (q_1, .inl (cI, 10, .inl (fun _ => 0))), (q_3, .inl (cI, 10, .inl (fun _ => 0))), (q_5, .inl (cI, 10, .inl (fun _ => 0)))] H := hP
  have hD : va_D A [(m0, .inr (12, [.ref q_1, .ref q_3, .null, .null, .null, .null, .int 0, .int 0, .int 0])), (q_1, .inl (cI, 10, .inl (fun _ => 0))), (q_3, .inl (cI, 10, .inl (fun _ => 0))), (q_5, .inl (cI, 10, .inl (fun _ => 0)))] := hD
  refine va_putF (D := D) (ci := 12) (v := .ref q_5) (ty := .array .int) (C := RX6) (T := TX6) (N := 9) hx hb hts iX6_init_X6 tyX6 tyX6_ok nmX6 hown hK hP hD hS 0 rfl rfl 2 (by decide) (hts _ kX6_init_7) (fun _ h9 => h9) rfl hin rfl (by decide +kernel) rfl rfl (Nat.le_of_ble_eq_true rfl) dX6_init_25 (fun H locs hP hD hS => ?_)
  have hP : va_P D vwCl [(m0, .inr (12, [.ref q_1, .ref q_3, .ref q_5, .null, .null, .null, .int 0, .int 0, .int 0])), (q_1, .inl (cI, 10, .inl (fun _ => 0))), (q_3, .inl (cI, 10, .inl (fun _ => 0))), (q_5, .inl (cI, 10, .inl (fun _ => 0)))] H := hP
  have hD : va_D A [(m0, .inr (12, [.ref q_1, .ref q_3, .ref q_5, .null, .null, .null, .int 0, .int 0, .int 0])), (q_1, .inl (cI, 10, .inl (fun _ => 0))), (q_3, .inl (cI, 10, .inl (fun _ => 0))), (q_5, .inl (cI, 10, .inl (fun _ => 0)))] := hD
  refine lv_aload_n hx hb dX6_init_28 rfl (lv_at hl 0 rfl) ?_
  refine lv_bipush (v := (10)) hx hb dX6_init_29 (by decide) ?_
  refine lv_bipush (v := (10)) hx hb dX6_init_31 (by decide) ?_
  obtain ⟨cy_8, hcy_8⟩ := y_arr (hts _ kX6_init_4)
  refine va_mna (ty := .int) (cy := cy_8) (X := [(m0, .inr (12, [.ref q_1, .ref q_3, .ref q_5, .null, .null, .null, .int 0, .int 0, .int 0])), (q_1, .inl (cI, 10, .inl (fun _ => 0))), (q_3, .inl (cI, 10, .inl (fun _ => 0))), (q_5, .inl (cI, 10, .inl (fun _ => 0)))]) (L := []) (f := fun _ => .inr (0, [])) (N' := 10) (K' := 10) (z := (10, .inl (fun _ => 0))) hx hb hown (hts _ kX6_init_8) hE.2.2.2.2.2.1 (hts _ kX6_init_4) hcy_8 hK hP hD hS hA (by decide) (by decide) (by decide) (by decide) (by decide) (by decide) (by decide) (by decide) (by decide) (Nat.le_of_ble_eq_true rfl) (Nat.le_of_ble_eq_true rfl) (fun _ => rfl) dX6_init_33 (fun q_7 rr_9 co_10 H _ _ hK hP hD hS => ?_)
  have hP : va_P D vwCl [(m0, .inr (12, [.ref q_1, .ref q_3, .ref q_5, .null, .null, .null, .int 0, .int 0, .int 0])), (q_1, .inl (cI, 10, .inl (fun _ => 0))), (q_3, .inl (cI, 10, .inl (fun _ => 0))), (q_5, .inl (cI, 10, .inl (fun _ => 0)))] H := hP.sub [0, 1, 2, 3] rfl
  have hD : va_D A [(m0, .inr (12, [.ref q_1, .ref q_3, .ref q_5, .null, .null, .null, .int 0, .int 0, .int 0])), (q_1, .inl (cI, 10, .inl (fun _ => 0))), (q_3, .inl (cI, 10, .inl (fun _ => 0))), (q_5, .inl (cI, 10, .inl (fun _ => 0)))] := hD.sub [0, 1, 2, 3] (by decide) rfl
  have hK : va_K D vwCl [(cI, .int), (cB, .byte)] s := hK.sub [0, 1] rfl
  refine va_putF (D := D) (ci := 12) (v := .ref q_7) (ty := .array (.array .int)) (C := RX6) (T := TX6) (N := 9) hx hb hts iX6_init_X6 tyX6 tyX6_ok nmX6 hown hK hP hD hS 0 rfl rfl 3 (by decide) (hts _ kX6_init_9) (fun _ h9 => h9) rfl hin rfl (by decide +kernel) rfl rfl (Nat.le_of_ble_eq_true rfl) dX6_init_37 (fun H locs hP hD hS => ?_)
  have hP : va_P D vwCl [(m0, .inr (12, [.ref q_1, .ref q_3, .ref q_5, .ref q_7, .null, .null, .int 0, .int 0, .int 0])), (q_1, .inl (cI, 10, .inl (fun _ => 0))), (q_3, .inl (cI, 10, .inl (fun _ => 0))), (q_5, .inl (cI, 10, .inl (fun _ => 0)))] H := hP
  have hD : va_D A [(m0, .inr (12, [.ref q_1, .ref q_3, .ref q_5, .ref q_7, .null, .null, .int 0, .int 0, .int 0])), (q_1, .inl (cI, 10, .inl (fun _ => 0))), (q_3, .inl (cI, 10, .inl (fun _ => 0))), (q_5, .inl (cI, 10, .inl (fun _ => 0)))] := hD
  refine lv_aload_n hx hb dX6_init_40 rfl (lv_at hl 0 rfl) ?_
  refine va_new (ci := 5) (fs := [.int 0, .null, .int 0]) (C := RJx4a65c) (T := TJx4a65c) (N := 3) hx hb hts iX6_init_Jx4a65c tyJx4a65c tyJx4a65c_ok hown (hts _ kX6_init_10) (hts _ kX6_init_11) (hts _ kX6_init_12) hK hP hD hS hA rfl (fun j hj => by rcases (show j = 0 ∨ j = 1 ∨ j = 2 by omega) with rfl | rfl | rfl <;> rfl) (Nat.le_of_ble_eq_true rfl) (Nat.le_of_ble_eq_true rfl) dX6_init_41 (fun q_11 H hP hD hS => ?_)
  have hP : va_P D vwCl [(m0, .inr (12, [.ref q_1, .ref q_3, .ref q_5, .ref q_7, .null, .null, .int 0, .int 0, .int 0])), (q_1, .inl (cI, 10, .inl (fun _ => 0))), (q_3, .inl (cI, 10, .inl (fun _ => 0))), (q_5, .inl (cI, 10, .inl (fun _ => 0))), (q_11, .inr (5, [.int 0, .null, .int 0]))] H := hP
  have hD : va_D A [(m0, .inr (12, [.ref q_1, .ref q_3, .ref q_5, .ref q_7, .null, .null, .int 0, .int 0, .int 0])), (q_1, .inl (cI, 10, .inl (fun _ => 0))), (q_3, .inl (cI, 10, .inl (fun _ => 0))), (q_5, .inl (cI, 10, .inl (fun _ => 0))), (q_11, .inr (5, [.int 0, .null, .int 0]))] := hD
  refine lv_dup hx hb dX6_init_44 rfl ?_
  refine yc_v (wc := [(q_11, .inr (5, [.int 0, .null, .int 0]))]) (wr := [(m0, .inr (12, [.ref q_1, .ref q_3, .ref q_5, .ref q_7, .null, .null, .int 0, .int 0, .int 0])), (q_1, .inl (cI, 10, .inl (fun _ => 0))), (q_3, .inl (cI, 10, .inl (fun _ => 0))), (q_5, .inl (cI, 10, .inl (fun _ => 0)))]) (va_runI (As := []) (rest := [.ref q_11, .ref m0]) ⟨hx, hb, hml, hown, hts⟩ (i_al l hfl D tE H.size q_11 (va_A [(q_11, .inr (5, [.int 0, .null, .int 0]))] H.size) rfl) (cwI 0 hts gX6_init_Jx4a65c_init_da8c8 rfl rfl rfl (hts _ kX6_init_12) (hts _ kX6_init_18) (hts _ kX6_init_19) rfl (by decide +kernel) ⟨Nat.le_of_ble_eq_true rfl, Nat.le_of_ble_eq_true rfl⟩) (yPreS (wc := [(q_11, .inr (5, [.int 0, .null, .int 0]))]) (tc := []) hK hP hD hS hA hE [4] [] (by decide) rfl rfl) rfl rfl hl.1 rfl (lv_room (Nat.le_of_ble_eq_true rfl)) dX6_init_45 ⟨Nat.le_of_ble_eq_true rfl, Nat.le_of_ble_eq_true rfl⟩) hP hD hS hA [4] [0, 1, 2, 3] rfl rfl (by decide) (by decide) (fun u_13 H locs hw hP hD hS => ?_)
  have hP : va_P D vwCl [(m0, .inr (12, [.ref q_1, .ref q_3, .ref q_5, .ref q_7, .null, .null, .int 0, .int 0, .int 0])), (q_1, .inl (cI, 10, .inl (fun _ => 0))), (q_3, .inl (cI, 10, .inl (fun _ => 0))), (q_5, .inl (cI, 10, .inl (fun _ => 0))), (q_11, .inr (5, [.int 0, .ref tE, .int 0]))] H := hP
  have hD : va_D A [(m0, .inr (12, [.ref q_1, .ref q_3, .ref q_5, .ref q_7, .null, .null, .int 0, .int 0, .int 0])), (q_1, .inl (cI, 10, .inl (fun _ => 0))), (q_3, .inl (cI, 10, .inl (fun _ => 0))), (q_5, .inl (cI, 10, .inl (fun _ => 0))), (q_11, .inr (5, [.int 0, .ref tE, .int 0]))] := hD
  refine va_putF (D := D) (ci := 12) (v := .ref q_11) (ty := .object "java/util/List") (C := RX6) (T := TX6) (N := 9) hx hb hts iX6_init_X6 tyX6 tyX6_ok nmX6 hown hK hP hD hS 0 rfl rfl 4 (by decide) (hts _ kX6_init_13) (fun _ h9 => h9) rfl hin rfl (by decide +kernel) rfl rfl (Nat.le_of_ble_eq_true rfl) dX6_init_48 (fun H locs hP hD hS => ?_)
  have hP : va_P D vwCl [(m0, .inr (12, [.ref q_1, .ref q_3, .ref q_5, .ref q_7, .ref q_11, .null, .int 0, .int 0, .int 0])), (q_1, .inl (cI, 10, .inl (fun _ => 0))), (q_3, .inl (cI, 10, .inl (fun _ => 0))), (q_5, .inl (cI, 10, .inl (fun _ => 0))), (q_11, .inr (5, [.int 0, .ref tE, .int 0]))] H := hP
  have hD : va_D A [(m0, .inr (12, [.ref q_1, .ref q_3, .ref q_5, .ref q_7, .ref q_11, .null, .int 0, .int 0, .int 0])), (q_1, .inl (cI, 10, .inl (fun _ => 0))), (q_3, .inl (cI, 10, .inl (fun _ => 0))), (q_5, .inl (cI, 10, .inl (fun _ => 0))), (q_11, .inr (5, [.int 0, .ref tE, .int 0]))] := hD
  refine lv_aload_n hx hb dX6_init_51 rfl (lv_at hl 0 rfl) ?_
  refine va_new (ci := 1) (fs := [.null, .int 0, .int 0, .int 0]) (C := RJ4) (T := TJ4) (N := 4) hx hb hts iX6_init_J4 tyJ4 tyJ4_ok hown (hts _ kX6_init_14) (hts _ kX6_init_15) (hts _ kX6_init_16) hK hP hD hS hA rfl (fun j hj => by rcases (show j = 0 ∨ j = 1 ∨ j = 2 ∨ j = 3 by omega) with rfl | rfl | rfl | rfl <;> rfl) (Nat.le_of_ble_eq_true rfl) (Nat.le_of_ble_eq_true rfl) dX6_init_52 (fun q_14 H hP hD hS => ?_)
  have hP : va_P D vwCl [(m0, .inr (12, [.ref q_1, .ref q_3, .ref q_5, .ref q_7, .ref q_11, .null, .int 0, .int 0, .int 0])), (q_1, .inl (cI, 10, .inl (fun _ => 0))), (q_3, .inl (cI, 10, .inl (fun _ => 0))), (q_5, .inl (cI, 10, .inl (fun _ => 0))), (q_11, .inr (5, [.int 0, .ref tE, .int 0])), (q_14, .inr (1, [.null, .int 0, .int 0, .int 0]))] H := hP
  have hD : va_D A [(m0, .inr (12, [.ref q_1, .ref q_3, .ref q_5, .ref q_7, .ref q_11, .null, .int 0, .int 0, .int 0])), (q_1, .inl (cI, 10, .inl (fun _ => 0))), (q_3, .inl (cI, 10, .inl (fun _ => 0))), (q_5, .inl (cI, 10, .inl (fun _ => 0))), (q_11, .inr (5, [.int 0, .ref tE, .int 0])), (q_14, .inr (1, [.null, .int 0, .int 0, .int 0]))] := hD
  refine lv_dup hx hb dX6_init_55 rfl ?_
  refine yc_v (wc := [(q_14, .inr (1, [.null, .int 0, .int 0, .int 0]))]) (wr := [(m0, .inr (12, [.ref q_1, .ref q_3, .ref q_5, .ref q_7, .ref q_11, .null, .int 0, .int 0, .int 0])), (q_1, .inl (cI, 10, .inl (fun _ => 0))), (q_3, .inl (cI, 10, .inl (fun _ => 0))), (q_5, .inl (cI, 10, .inl (fun _ => 0))), (q_11, .inr (5, [.int 0, .ref tE, .int 0]))]) (va_runI (As := []) (rest := [.ref q_14, .ref m0]) ⟨hx, hb, hml, hown, hts⟩ (i_sb4 l hfl D tE H.size q_14 cB (va_A [(q_14, .inr (1, [.null, .int 0, .int 0, .int 0]))] H.size) rfl) (cwI 0 hts gX6_init_J4_init_da8c8 rfl rfl rfl (hts _ kX6_init_16) (hts _ kX6_init_33) (hts _ kX6_init_34) rfl (by decide +kernel) ⟨Nat.le_of_ble_eq_true rfl, Nat.le_of_ble_eq_true rfl⟩) (yPreS (wc := [(q_14, .inr (1, [.null, .int 0, .int 0, .int 0]))]) (tc := [(cB, .byte)]) hK hP hD hS hA hE [5] [1] (by decide) rfl rfl) rfl rfl hl.1 rfl (lv_room (Nat.le_of_ble_eq_true rfl)) dX6_init_56 ⟨Nat.le_of_ble_eq_true rfl, Nat.le_of_ble_eq_true rfl⟩) hP hD hS hA [5] [0, 1, 2, 3, 4] rfl rfl (by decide) (by decide) (fun u_16 H locs hw hP hD hS => ?_)
  have hP : va_P D vwCl [(m0, .inr (12, [.ref q_1, .ref q_3, .ref q_5, .ref q_7, .ref q_11, .null, .int 0, .int 0, .int 0])), (q_1, .inl (cI, 10, .inl (fun _ => 0))), (q_3, .inl (cI, 10, .inl (fun _ => 0))), (q_5, .inl (cI, 10, .inl (fun _ => 0))), (q_11, .inr (5, [.int 0, .ref tE, .int 0])), (q_14, .inr (1, [.ref u_16, .int 0, .int 0, .int 0])), (u_16, .inl (cB, 16, .inl (fun _ => 0)))] H := hP
  have hD : va_D A [(m0, .inr (12, [.ref q_1, .ref q_3, .ref q_5, .ref q_7, .ref q_11, .null, .int 0, .int 0, .int 0])), (q_1, .inl (cI, 10, .inl (fun _ => 0))), (q_3, .inl (cI, 10, .inl (fun _ => 0))), (q_5, .inl (cI, 10, .inl (fun _ => 0))), (q_11, .inr (5, [.int 0, .ref tE, .int 0])), (q_14, .inr (1, [.ref u_16, .int 0, .int 0, .int 0])), (u_16, .inl (cB, 16, .inl (fun _ => 0)))] := hD
  refine va_putF (D := D) (ci := 12) (v := .ref q_14) (ty := .object "java/lang/StringBuilder") (C := RX6) (T := TX6) (N := 9) hx hb hts iX6_init_X6 tyX6 tyX6_ok nmX6 hown hK hP hD hS 0 rfl rfl 5 (by decide) (hts _ kX6_init_17) (fun _ h9 => h9) rfl hin rfl (by decide +kernel) rfl rfl (Nat.le_of_ble_eq_true rfl) dX6_init_59 (fun H locs hP hD hS => ?_)
  have hP : va_P D vwCl [(m0, .inr (12, [.ref q_1, .ref q_3, .ref q_5, .ref q_7, .ref q_11, .ref q_14, .int 0, .int 0, .int 0])), (q_1, .inl (cI, 10, .inl (fun _ => 0))), (q_3, .inl (cI, 10, .inl (fun _ => 0))), (q_5, .inl (cI, 10, .inl (fun _ => 0))), (q_11, .inr (5, [.int 0, .ref tE, .int 0])), (q_14, .inr (1, [.ref u_16, .int 0, .int 0, .int 0])), (u_16, .inl (cB, 16, .inl (fun _ => 0)))] H := hP
  have hD : va_D A [(m0, .inr (12, [.ref q_1, .ref q_3, .ref q_5, .ref q_7, .ref q_11, .ref q_14, .int 0, .int 0, .int 0])), (q_1, .inl (cI, 10, .inl (fun _ => 0))), (q_3, .inl (cI, 10, .inl (fun _ => 0))), (q_5, .inl (cI, 10, .inl (fun _ => 0))), (q_11, .inr (5, [.int 0, .ref tE, .int 0])), (q_14, .inr (1, [.ref u_16, .int 0, .int 0, .int 0])), (u_16, .inl (cB, 16, .inl (fun _ => 0)))] := hD
  refine lv_aload_n hx hb dX6_init_62 rfl (lv_at hl 0 rfl) ?_
  refine va_get (D := D) (ci := 12) (v := .ref q_5) (C := RX6) (T := TX6) (N := 9) hx hb hts iX6_init_X6 hown hK hP 0 rfl rfl 2 (by decide) (hts _ kX6_init_7) (fun _ h9 => h9) rfl dX6_init_63 ?_
  refine lv_iconst (v := (-1)) hx hb dX6_init_66 (by decide) ?_
  refine yc_v (wc := [(q_5, .inl (cI, 10, .inl (fun _ => 0)))]) (wr := [(m0, .inr (12, [.ref q_1, .ref q_3, .ref q_5, .ref q_7, .ref q_11, .ref q_14, .int 0, .int 0, .int 0])), (q_1, .inl (cI, 10, .inl (fun _ => 0))), (q_3, .inl (cI, 10, .inl (fun _ => 0))), (q_11, .inr (5, [.int 0, .ref tE, .int 0])), (q_14, .inr (1, [.ref u_16, .int 0, .int 0, .int 0])), (u_16, .inl (cB, 16, .inl (fun _ => 0)))]) (va_runS (As := [.ref q_5, .int ((-1))]) (rest := []) ⟨hx, hb, hml, hown, hts⟩ (g_fill l hfl D tE H.size q_5 cI 10 (by decide) (fun _ => 0) (-1) (va_A [(q_5, .inl (cI, 10, .inl (fun _ => 0)))] H.size) rfl) (va_cwS 2 hts gX6_init_J7_fill_53178 rfl rfl rfl (by decide +kernel) ⟨Nat.le_of_ble_eq_true rfl, Nat.le_of_ble_eq_true rfl⟩) (yPreS (wc := [(q_5, .inl (cI, 10, .inl (fun _ => 0)))]) (tc := [(cI, .int)]) hK hP hD hS hA hE [3] [0] (by decide) rfl rfl) rfl rfl hl.1 rfl (lv_room (Nat.le_of_ble_eq_true rfl)) dX6_init_67 ⟨Nat.le_of_ble_eq_true rfl, Nat.le_of_ble_eq_true rfl⟩) hP hD hS hA [3] [0, 1, 2, 4, 5, 6] rfl rfl (by decide) (by decide) (fun u_18 H locs hw hP hD hS => ?_)
  have hP : va_P D vwCl [(m0, .inr (12, [.ref q_1, .ref q_3, .ref q_5, .ref q_7, .ref q_11, .ref q_14, .int 0, .int 0, .int 0])), (q_1, .inl (cI, 10, .inl (fun _ => 0))), (q_3, .inl (cI, 10, .inl (fun _ => 0))), (q_11, .inr (5, [.int 0, .ref tE, .int 0])), (q_14, .inr (1, [.ref u_16, .int 0, .int 0, .int 0])), (u_16, .inl (cB, 16, .inl (fun _ => 0))), (q_5, .inl (cI, 10, .inl (u_18)))] H := hP
  have hD : va_D A [(m0, .inr (12, [.ref q_1, .ref q_3, .ref q_5, .ref q_7, .ref q_11, .ref q_14, .int 0, .int 0, .int 0])), (q_1, .inl (cI, 10, .inl (fun _ => 0))), (q_3, .inl (cI, 10, .inl (fun _ => 0))), (q_11, .inr (5, [.int 0, .ref tE, .int 0])), (q_14, .inr (1, [.ref u_16, .int 0, .int 0, .int 0])), (u_16, .inl (cB, 16, .inl (fun _ => 0))), (q_5, .inl (cI, 10, .inl (u_18)))] := hD
  exact y_vret hx hb hr hlocks ((fun k => ([q_1, q_3, q_5, q_7, q_11, q_14, u_16] : List Nat).getD k 0), u_18) trivial (hP.sub [0, 1, 2, 6, 3, 4, 5] rfl) (hD.sub [0, 1, 2, 6, 3, 4, 5] (by decide) rfl) hS (Nat.le_of_ble_eq_true rfl) (Nat.le_of_ble_eq_true rfl) dX6_init_70
