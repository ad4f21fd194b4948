theorem iJx35411_init_45d68_Jx35411 : ∀ w ∈ wsJx354110, w ∈ wsJx35411_init_45d68 := by decide +kernel
theorem kJx35411_init_45d68_1 : Cond.fieldLink RJx35411 1 "java/util/ArrayList$Itr" "this$0" "Ljava/util/ArrayList;" ∈ wsJx35411_init_45d68 := List.mem_of_getElem? (i := 1) (by decide +kernel)
theorem kJx35411_init_45d68_2 : Cond.methodLink RJx35411 7 objectInit ∈ wsJx35411_init_45d68 := List.mem_of_getElem? (i := 2) (by decide +kernel)
theorem kJx35411_init_45d68_3 : Cond.instanceMethod objectInit ∈ wsJx35411_init_45d68 := List.mem_of_getElem? (i := 3) (by decide +kernel)
theorem kJx35411_init_45d68_4 : Cond.code objectInit ⟨#[0xb1]⟩ 1 none ∈ wsJx35411_init_45d68 := List.mem_of_getElem? (i := 4) (by decide +kernel)
theorem kJx35411_init_45d68_5 : Cond.fieldLink RJx35411 13 "java/util/ArrayList$Itr" "lastRet" "I" ∈ wsJx35411_init_45d68 := List.mem_of_getElem? (i := 5) (by decide +kernel)
theorem iJx35411_init_45d68_Jx4a65c : ∀ w ∈ wsJx4a65c0, w ∈ wsJx35411_init_45d68 := by decide +kernel
theorem kJx35411_init_45d68_6 : Cond.fieldLink RJx35411 17 "java/util/ArrayList" "modCount" "I" ∈ wsJx35411_init_45d68 := List.mem_of_getElem? (i := 6) (by decide +kernel)
theorem kJx35411_init_45d68_7 : Cond.sameField "java/util/ArrayList" "java/util/AbstractList" "modCount" "I" ∈ wsJx35411_init_45d68 := List.mem_of_getElem? (i := 7) (by decide +kernel)
theorem kJx35411_init_45d68_8 : Cond.fieldLink RJx35411 22 "java/util/ArrayList$Itr" "expectedModCount" "I" ∈ wsJx35411_init_45d68 := List.mem_of_getElem? (i := 8) (by decide +kernel)
set_option maxHeartbeats 4000000 in
set_option maxRecDepth 100000 in
theorem g_itInit (l : Launch) (hfl : l.stackTraces = false) (D : va_G) (tE : Nat) (sz : Nat) (m5 : Nat) (i0 : Nat) (mo : Int32) (ed : Nat) (A : Nat → Prop) (hA0 : A = va_A [(m5, .inr (5, [.int mo, .ref ed, .int 0])), (i0, .inr (4, [.int 0, .int 0, .int 0, .null]))] sz) : Met l yJx35411_init_45d68 wsJx35411_init_45d68 (yR 0 0 0) (yP D tE [(m5, .inr (5, [.int mo, .ref ed, .int 0])), (i0, .inr (4, [.int 0, .int 0, .int 0, .null]))] [] sz [.ref i0, .ref m5]) (va_Qv (S := Unit) (fun (u : Unit) => True) (fun (u : Unit) (t : State) => yB D A ((fun (u : Unit) => [(m5, .inr (5, [.int mo, .ref ed, .int 0])), (i0, .inr (4, [.int 0, .int ((-1)), .int mo, .ref m5]))]) u) t) A) 0 0 A := by
  refine Met.ofW (cc := cJx35411_init_45d68) (maxL := 2) (ret := none) (by decide) rfl ?_
  intro p e s m args below meth c s₁ B hml hv
  obtain ⟨rfl, rfl, hP, hK, hD, hE, hA⟩ := y_start hA0 hv
  have hx := B.exec
  have hb := B.bytes
  have hr := B.returns
  have hts := atoms_spec (ws := wsJx35411_init_45d68) B.pre
  have hown : s.vm.findClass RJx35411 = some m.cls := findClass_of_methodNamed B.named
  have hlocks := B.notSynchronized
  have hin : meth.name = "<init>" := (name_of_methodNamed B.named B.method).1
  clear hA0 hv
  have hS : va_S A s.heap s.heap [] := va_S.rf
  have hl := lv_entry ([.ref i0, .ref m5]) (n := 2) (Nat.le_of_ble_eq_true rfl)
  rw [lg_entry_eq]
  generalize (lg_sl ([.ref i0, .ref m5]) ++ List.replicate (2 - (lg_sl ([.ref i0, .ref m5])).length) Slot.unset).toArray = ls at hl ⊢
  have hl : lv_has ls 2 [(0, .ref i0), (1, .ref m5)] := hl
  refine lv_aload_n hx hb dJx35411_init_45d68_0 rfl (lv_at hl 0 rfl) ?_
  refine lv_aload_n hx hb dJx35411_init_45d68_1 rfl (lv_at hl 1 rfl) ?_
  refine va_putF (D := D) (ci := 4) (v := .ref m5) (ty := .object "java/util/ArrayList") (C := RJx35411) (T := TJx35411) (N := 4) hx hb hts iJx35411_init_45d68_Jx35411 tyJx35411 tyJx35411_ok nmJx35411 hown hK hP hD hS 1 rfl rfl 3 (by decide) (hts _ kJx35411_init_45d68_1) (fun _ h9 => h9) rfl hin rfl (by decide +kernel) rfl rfl (Nat.le_of_ble_eq_true rfl) dJx35411_init_45d68_2 (fun H locs hP hD hS => ?_)
  have hP : va_P D vwCl [(m5, .inr (5, [.int mo, .ref ed, .int 0])), (i0, .inr (4, [.int 0, .int 0, .int 0, .ref m5]))] H := hP
  have hD : va_D A [(m5, .inr (5, [.int mo, .ref ed, .int 0])), (i0, .inr (4, [.int 0, .int 0, .int 0, .ref m5]))] := hD
  refine lv_aload_n hx hb dJx35411_init_45d68_5 rfl (lv_at hl 0 rfl) ?_
  refine W.objInit hx hb hown (hts _ kJx35411_init_45d68_2) (hts _ kJx35411_init_45d68_3) (hts _ kJx35411_init_45d68_4) rfl (by rw [hml]; exact hl.1) rfl dJx35411_init_45d68_6 (Nat.le_of_ble_eq_true rfl) (Nat.le_of_ble_eq_true rfl) ?_
  show W p l e _ s m _ below meth c _ _ _ _ _ (F0 m 9 ls [])
  refine lv_aload_n hx hb dJx35411_init_45d68_9 rfl (lv_at hl 0 rfl) ?_
  refine lv_iconst (v := (-1)) hx hb dJx35411_init_45d68_10 (by decide) ?_
  refine va_put (D := D) (ci := 4) (v := .int ((-1))) (ty := .int) (C := RJx35411) (T := TJx35411) (N := 4) hx hb hts iJx35411_init_45d68_Jx35411 tyJx35411 tyJx35411_ok nmJx35411 hown hK hP hD hS 1 rfl rfl 1 (by decide) (hts _ kJx35411_init_45d68_5) (fun _ h9 => h9) rfl (by decide +kernel) rfl rfl (Nat.le_of_ble_eq_true rfl) dJx35411_init_45d68_11 (fun H locs hP hD hS => ?_)
  have hP : va_P D vwCl [(m5, .inr (5, [.int mo, .ref ed, .int 0])), (i0, .inr (4, [.int 0, .int ((-1)), .int 0, .ref m5]))] H := hP
  have hD : va_D A [(m5, .inr (5, [.int mo, .ref ed, .int 0])), (i0, .inr (4, [.int 0, .int ((-1)), .int 0, .ref m5]))] := hD
  refine lv_aload_n hx hb dJx35411_init_45d68_14 rfl (lv_at hl 0 rfl) ?_
  refine lv_aload_n hx hb dJx35411_init_45d68_15 rfl (lv_at hl 0 rfl) ?_
  refine va_get (D := D) (ci := 4) (v := .ref m5) (C := RJx35411) (T := TJx35411) (N := 4) hx hb hts iJx35411_init_45d68_Jx35411 hown hK hP 1 rfl rfl 3 (by decide) (hts _ kJx35411_init_45d68_1) (fun _ h9 => h9) rfl dJx35411_init_45d68_16 ?_
  refine va_get (D := D) (ci := 5) (v := .int mo) (C := RJx4a65c) (T := TJx4a65c) (N := 3) hx hb hts iJx35411_init_45d68_Jx4a65c hown hK hP 0 rfl rfl 0 (by decide) (hts _ kJx35411_init_45d68_6) (fun x9 h9 => u_same (hts _ kJx35411_init_45d68_7) x9 h9) rfl dJx35411_init_45d68_19 ?_
  refine va_put (D := D) (ci := 4) (v := .int mo) (ty := .int) (C := RJx35411) (T := TJx35411) (N := 4) hx hb hts iJx35411_init_45d68_Jx35411 tyJx35411 tyJx35411_ok nmJx35411 hown hK hP hD hS 1 rfl rfl 2 (by decide) (hts _ kJx35411_init_45d68_8) (fun _ h9 => h9) rfl (by decide +kernel) rfl rfl (Nat.le_of_ble_eq_true rfl) dJx35411_init_45d68_22 (fun H locs hP hD hS => ?_)
  have hP : va_P D vwCl [(m5, .inr (5, [.int mo, .ref ed, .int 0])), (i0, .inr (4, [.int 0, .int ((-1)), .int mo, .ref m5]))] H := hP
  have hD : va_D A [(m5, .inr (5, [.int mo, .ref ed, .int 0])), (i0, .inr (4, [.int 0, .int ((-1)), .int mo, .ref m5]))] := hD
  exact y_vret hx hb hr hlocks () trivial hP hD hS (Nat.le_of_ble_eq_true rfl) (Nat.le_of_ble_eq_true rfl) dJx35411_init_45d68_25
theorem iJx4a65c_iterator_32c93_Jx35411 : ∀ w ∈ wsJx354110, w ∈ wsJx4a65c_iterator_32c93 := by decide +kernel
theorem kJx4a65c_iterator_32c93_1 : Cond.classLink RJx4a65c 267 RJx35411 ∈ wsJx4a65c_iterator_32c93 := List.mem_of_getElem? (i := 1) (by decide +kernel)
theorem kJx4a65c_iterator_32c93_2 : Cond.instantiable RJx35411 4 ∈ wsJx4a65c_iterator_32c93 := List.mem_of_getElem? (i := 2) (by decide +kernel)
theorem kJx4a65c_iterator_32c93_3 : Cond.initialized RJx35411 ∈ wsJx4a65c_iterator_32c93 := List.mem_of_getElem? (i := 3) (by decide +kernel)
theorem kJx4a65c_iterator_32c93_4 : Cond.methodLink RJx4a65c 269 yJx35411_init_45d68 ∈ wsJx4a65c_iterator_32c93 := List.mem_of_getElem? (i := 4) (by decide +kernel)
theorem kJx4a65c_iterator_32c93_5 : Cond.instanceMethod yJx35411_init_45d68 ∈ wsJx4a65c_iterator_32c93 := List.mem_of_getElem? (i := 5) (by decide +kernel)
set_option maxHeartbeats 4000000 in
set_option maxRecDepth 100000 in
theorem g_iter (l : Launch) (hfl : l.stackTraces = false) (D : va_G) (tE : Nat) (sz : Nat) (m5 : Nat) (mo : Int32) (ed : Nat) (A : Nat → Prop) (hA0 : A = va_A [(m5, .inr (5, [.int mo, .ref ed, .int 0]))] sz) : Met l yJx4a65c_iterator_32c93 wsJx4a65c_iterator_32c93 (yR 1 1 4) (yP D tE [(m5, .inr (5, [.int mo, .ref ed, .int 0]))] [] sz [.ref m5]) (va_Qr (S := Unit) (fun (u : Unit) => True) (fun (u : Unit) (r : Nat) (t : State) => yB D A ((fun (u : Unit) (r : Nat) => [(m5, .inr (5, [.int mo, .ref ed, .int 0])), (r, .inr (4, [.int 0, .int ((-1)), .int mo, .ref m5]))]) u r) t) A) 1 4 A := by
  refine Met.ofW (cc := cJx4a65c_iterator_32c93) (maxL := 1) (ret := (some (.object "java/util/Iterator"))) (by decide) rfl ?_
  intro p e s m args below meth c s₁ B hml hv
  obtain ⟨rfl, rfl, hP, hK, hD, hE, hA⟩ := y_start hA0 hv
  have hx := B.exec
  have hb := B.bytes
  have hr := B.returns
  have hts := atoms_spec (ws := wsJx4a65c_iterator_32c93) B.pre
  have hown : s.vm.findClass RJx4a65c = some m.cls := findClass_of_methodNamed B.named
  have hlocks := B.notSynchronized
  clear hA0 hv
  have hS : va_S A s.heap s.heap [] := va_S.rf
  have hl := lv_entry ([.ref m5]) (n := 1) (Nat.le_of_ble_eq_true rfl)
  rw [lg_entry_eq]
  generalize (lg_sl ([.ref m5]) ++ List.replicate (1 - (lg_sl ([.ref m5])).length) Slot.unset).toArray = ls at hl ⊢
  have hl : lv_has ls 1 [(0, .ref m5)] := hl
  refine va_new (ci := 4) (fs := [.int 0, .int 0, .int 0, .null]) (C := RJx35411) (T := TJx35411) (N := 4) hx hb hts iJx4a65c_iterator_32c93_Jx35411 tyJx35411 tyJx35411_ok hown (hts _ kJx4a65c_iterator_32c93_1) (hts _ kJx4a65c_iterator_32c93_2) (hts _ kJx4a65c_iterator_32c93_3) hK hP hD hS hA rfl (fun j hj => by rcases (show j = 0 ∨ j = 1 ∨ j = 2 ∨ j = 3 by omega) with rfl | rfl | rfl | rfl <;> rfl) (Nat.le_of_ble_eq_true rfl) (Nat.le_of_ble_eq_true rfl) dJx4a65c_iterator_32c93_0 (fun q_1 H hP hD hS => ?_)
  have hP : va_P D vwCl [(m5, .inr (5, [.int mo, .ref ed, .int 0])), (q_1, .inr (4, [.int 0, .int 0, .int 0, .null]))] H := hP
  have hD : va_D A [(m5, .inr (5, [.int mo, .ref ed, .int 0])), (q_1, .inr (4, [.int 0, .int 0, .int 0, .null]))] := hD
  refine lv_dup hx hb dJx4a65c_iterator_32c93_3 rfl ?_
  refine lv_aload_n hx hb dJx4a65c_iterator_32c93_4 rfl (lv_at hl 0 rfl) ?_
  refine yc_v (wc := [(m5, .inr (5, [.int mo, .ref ed, .int 0])), (q_1, .inr (4, [.int 0, .int 0, .int 0, .null]))]) (wr := []) (va_runI (As := [.ref m5]) (rest := [.ref q_1]) ⟨hx, hb, hml, hown, hts⟩ (g_itInit l hfl D tE H.size m5 q_1 mo ed (va_A [(m5, .inr (5, [.int mo, .ref ed, .int 0])), (q_1, .inr (4, [.int 0, .int 0, .int 0, .null]))] H.size) rfl) (cwI 1 hts gJx4a65c_iterator_32c93_Jx35411_init_45d68 rfl rfl rfl (hts _ kJx4a65c_iterator_32c93_3) (hts _ kJx4a65c_iterator_32c93_4) (hts _ kJx4a65c_iterator_32c93_5) rfl (by decide +kernel) ⟨Nat.le_of_ble_eq_true rfl, Nat.le_of_ble_eq_true rfl⟩) (yPreS (wc := [(m5, .inr (5, [.int mo, .ref ed, .int 0])), (q_1, .inr (4, [.int 0, .int 0, .int 0, .null]))]) (tc := []) hK hP hD hS hA hE [0, 1] [] (by decide) rfl rfl) rfl rfl hl.1 rfl (lv_room (Nat.le_of_ble_eq_true rfl)) dJx4a65c_iterator_32c93_5 ⟨Nat.le_of_ble_eq_true rfl, Nat.le_of_ble_eq_true rfl⟩) hP hD hS hA [0, 1] [] rfl rfl (by decide) (by decide) (fun u_3 H locs hw hP hD hS => ?_)
  have hP : va_P D vwCl [(m5, .inr (5, [.int mo, .ref ed, .int 0])), (q_1, .inr (4, [.int 0, .int ((-1)), .int mo, .ref m5]))] H := hP
  have hD : va_D A [(m5, .inr (5, [.int mo, .ref ed, .int 0])), (q_1, .inr (4, [.int 0, .int ((-1)), .int mo, .ref m5]))] := hD
  exact y_aret hx hb hr hlocks (Or.inl ⟨_, rfl⟩) () trivial hP hD hS (Nat.le_of_ble_eq_true rfl) (Nat.le_of_ble_eq_true rfl) dJx4a65c_iterator_32c93_8
theorem iJx35411_hasNext_aae02_Jx35411 : ∀ w ∈ wsJx354110, w ∈ wsJx35411_hasNext_aae02 := by decide +kernel
theorem kJx35411_hasNext_aae02_1 : Cond.fieldLink RJx35411 25 "java/util/ArrayList$Itr" "cursor" "I" ∈ wsJx35411_hasNext_aae02 := List.mem_of_getElem? (i := 1) (by decide +kernel)
theorem kJx35411_hasNext_aae02_2 : Cond.fieldLink RJx35411 1 "java/util/ArrayList$Itr" "this$0" "Ljava/util/ArrayList;" ∈ wsJx35411_hasNext_aae02 := List.mem_of_getElem? (i := 2) (by decide +kernel)
theorem iJx35411_hasNext_aae02_Jx4a65c : ∀ w ∈ wsJx4a65c0, w ∈ wsJx35411_hasNext_aae02 := by decide +kernel
set_option maxHeartbeats 4000000 in
set_option maxRecDepth 100000 in
theorem g_hasNext (l : Launch) (hfl : l.stackTraces = false) (D : va_G) (tE : Nat) (sz : Nat) (m5 : Nat) (i0 : Nat) (mo : Int32) (ed : Nat) (A : Nat → Prop) (hA0 : A = va_A [(i0, .inr (4, [.int 0, .int ((-1)), .int mo, .ref m5])), (m5, .inr (5, [.int mo, .ref ed, .int 0]))] sz) : Met l yJx35411_hasNext_aae02 wsJx35411_hasNext_aae02 (yR 0 0 0) (yP D tE [(i0, .inr (4, [.int 0, .int ((-1)), .int mo, .ref m5])), (m5, .inr (5, [.int mo, .ref ed, .int 0]))] [] sz [.ref i0]) (va_Qi (S := Unit) (fun (r : Int32) (u : Unit) => r = 0) (fun (u : Unit) (t : State) => yB D A ((fun (u : Unit) => [(i0, .inr (4, [.int 0, .int ((-1)), .int mo, .ref m5])), (m5, .inr (5, [.int mo, .ref ed, .int 0]))]) u) t) A) 0 0 A := by
  refine Met.ofW (cc := cJx35411_hasNext_aae02) (maxL := 1) (ret := (some .boolean)) (by decide) rfl ?_
  intro p e s m args below meth c s₁ B hml hv
  obtain ⟨rfl, rfl, hP, hK, hD, hE, hA⟩ := y_start hA0 hv
  have hx := B.exec
  have hb := B.bytes
  have hr := B.returns
  have hts := atoms_spec (ws := wsJx35411_hasNext_aae02) B.pre
  have hown : s.vm.findClass RJx35411 = some m.cls := findClass_of_methodNamed B.named
  have hlocks := B.notSynchronized
  clear hA0 hv
  have hS : va_S A s.heap s.heap [] := va_S.rf
  have hl := lv_entry ([.ref i0]) (n := 1) (Nat.le_of_ble_eq_true rfl)
  rw [lg_entry_eq]
  generalize (lg_sl ([.ref i0]) ++ List.replicate (1 - (lg_sl ([.ref i0])).length) Slot.unset).toArray = ls at hl ⊢
  have hl : lv_has ls 1 [(0, .ref i0)] := hl
  refine lv_aload_n hx hb dJx35411_hasNext_aae02_0 rfl (lv_at hl 0 rfl) ?_
  refine va_get (D := D) (ci := 4) (v := .int 0) (C := RJx35411) (T := TJx35411) (N := 4) hx hb hts iJx35411_hasNext_aae02_Jx35411 hown hK hP 0 rfl rfl 0 (by decide) (hts _ kJx35411_hasNext_aae02_1) (fun _ h9 => h9) rfl dJx35411_hasNext_aae02_1 ?_
  refine lv_aload_n hx hb dJx35411_hasNext_aae02_4 rfl (lv_at hl 0 rfl) ?_
  refine va_get (D := D) (ci := 4) (v := .ref m5) (C := RJx35411) (T := TJx35411) (N := 4) hx hb hts iJx35411_hasNext_aae02_Jx35411 hown hK hP 0 rfl rfl 3 (by decide) (hts _ kJx35411_hasNext_aae02_2) (fun _ h9 => h9) rfl dJx35411_hasNext_aae02_5 ?_
  refine va_getN (D := D) (ci := 5) (v := .int 0) (C := RJx4a65c) (T := TJx4a65c) (N := 3) hx hb hts iJx35411_hasNext_aae02_Jx4a65c hown hK hP 1 rfl rfl 2 (by decide) (va_Nw.use rfl hE.fn) (fun _ h9 => h9) rfl dJx35411_hasNext_aae02_8 ?_
  refine lv_icmp_eq (tgt := 18) hx hb dJx35411_hasNext_aae02_11 (by decide) (fun _ => ?_) (fun h => absurd h (by decide))
  refine lv_iconst (v := (0)) hx hb dJx35411_hasNext_aae02_18 (by decide) ?_
  exact y_zret hx hb hr hlocks (by decide) () rfl hP hD hS (Nat.le_of_ble_eq_true rfl) (Nat.le_of_ble_eq_true rfl) dJx35411_hasNext_aae02_19
theorem kX6_checksum_1 : Cond.constantLong RX6 222 (7) ∈ wsX6_checksum := List.mem_of_getElem? (i := 1) (by decide +kernel)
theorem iX6_checksum_X6 : ∀ w ∈ wsX60, w ∈ wsX6_checksum := by decide +kernel
theorem kX6_checksum_2 : Cond.fieldLink RX6 48 "MostwellModel" "people" "I" ∈ wsX6_checksum := List.mem_of_getElem? (i := 2) (by decide +kernel)
theorem kX6_checksum_5 : Cond.fieldLink RX6 55 "MostwellModel" "posts" "I" ∈ wsX6_checksum := List.mem_of_getElem? (i := 5) (by decide +kernel)
theorem kX6_checksum_9 : Cond.fieldLink RX6 27 "MostwellModel" "kept" "Ljava/util/List;" ∈ wsX6_checksum := List.mem_of_getElem? (i := 9) (by decide +kernel)
set_option maxHeartbeats 4000000 in
set_option maxRecDepth 100000 in
theorem m_checksum (l : Launch) (hfl : l.stackTraces = false) (D : va_G) (tE : Nat) (sz : Nat) (m0 : Nat) (m1 : Nat) (m2 : Nat) (m3 : Nat) (m4 : Nat) (m5 : Nat) (m6 : Nat) (th : Int32) (mo : Int32) (ed : Nat) (A : Nat → Prop) (hA0 : A = va_A [(m0, .inr (12, [.ref m1, .ref m2, .ref m3, .ref m4, .ref m5, .ref m6, .int 0, .int 0, .int th])), (m5, .inr (5, [.int mo, .ref ed, .int 0]))] sz) : Met l yX6_checksum wsX6_checksum (yR 2 1 4) (yP D tE [(m0, .inr (12, [.ref m1, .ref m2, .ref m3, .ref m4, .ref m5, .ref m6, .int 0, .int 0, .int th])), (m5, .inr (5, [.int mo, .ref ed, .int 0]))] [] sz [.ref m0]) (va_Ql (S := Unit) (fun (r : Int64) (u : Unit) => r = 7) (fun (u : Unit) (t : State) => yB D A ((fun (u : Unit) => [(m0, .inr (12, [.ref m1, .ref m2, .ref m3, .ref m4, .ref m5, .ref m6, .int 0, .int 0, .int th]))]) u) t) A) 1 4 A := by
  refine Met.ofW (cc := cX6_checksum) (maxL := 6) (ret := (some .long)) (by decide) rfl ?_
  intro p e s m args below meth c s₁ B hml hv
  obtain ⟨rfl, rfl, hP, hK, hD, hE, hA⟩ := y_start hA0 hv
  have hx := B.exec
  have hb := B.bytes
  have hr := B.returns
  have hts := atoms_spec (ws := wsX6_checksum) B.pre
  have hown : s.vm.findClass RX6 = some m.cls := findClass_of_methodNamed B.named
  have hlocks := B.notSynchronized
  clear hA0 hv
  have hS : va_S A s.heap s.heap [] := va_S.rf
  have hl := lv_entry ([.ref m0]) (n := 6) (Nat.le_of_ble_eq_true rfl)
  rw [lg_entry_eq]
  generalize (lg_sl ([.ref m0]) ++ List.replicate (6 - (lg_sl ([.ref m0])).length) Slot.unset).toArray = ls at hl ⊢
  have hl : lv_has ls 6 [(0, .ref m0)] := hl
  refine lv_ldc2 (v := (7)) hx hb hown (hts _ kX6_checksum_1) dX6_checksum_0 ?_
  refine lv_lstore_n (lv' := [(1, .long 7), (0, .ref m0)]) hx hb dX6_checksum_3 rfl hl (by decide) rfl (fun ls hl => ?_)
  refine lv_iconst (v := (0)) hx hb dX6_checksum_4 (by decide) ?_
  refine lv_istore_n (lv' := [(3, .int 0), (1, .long 7), (0, .ref m0)]) hx hb dX6_checksum_5 rfl hl (by decide) rfl (fun ls hl => ?_)
  refine lv_iload_n hx hb dX6_checksum_6 rfl (lv_at hl 0 rfl) ?_
  refine lv_aload_n hx hb dX6_checksum_7 rfl (lv_at hl 2 rfl) ?_
  refine va_get (D := D) (ci := 12) (v := .int 0) (C := RX6) (T := TX6) (N := 9) hx hb hts iX6_checksum_X6 hown hK hP 0 rfl rfl 6 (by decide) (hts _ kX6_checksum_2) (fun _ h9 => h9) rfl dX6_checksum_8 ?_
  refine lv_icmp_ge (tgt := 83) hx hb dX6_checksum_11 (by decide) (fun _ => ?_) (fun h => absurd h (by decide))
  refine lv_iconst (v := (0)) hx hb dX6_checksum_83 (by decide) ?_
  refine lv_istore_n (lv' := [(3, .int 0), (1, .long 7), (0, .ref m0)]) hx hb dX6_checksum_84 rfl hl (by decide) rfl (fun ls hl => ?_)
  refine lv_iload_n hx hb dX6_checksum_85 rfl (lv_at hl 0 rfl) ?_
  refine lv_aload_n hx hb dX6_checksum_86 rfl (lv_at hl 2 rfl) ?_
  refine va_get (D := D) (ci := 12) (v := .int 0) (C := RX6) (T := TX6) (N := 9) hx hb hts iX6_checksum_X6 hown hK hP 0 rfl rfl 7 (by decide) (hts _ kX6_checksum_5) (fun _ h9 => h9) rfl dX6_checksum_87 ?_
  refine lv_icmp_ge (tgt := 113) hx hb dX6_checksum_90 (by decide) (fun _ => ?_) (fun h => absurd h (by decide))
  refine lv_aload_n hx hb dX6_checksum_113 rfl (lv_at hl 2 rfl) ?_
  refine va_get (D := D) (ci := 12) (v := .ref m5) (C := RX6) (T := TX6) (N := 9) hx hb hts iX6_checksum_X6 hown hK hP 0 rfl rfl 4 (by decide) (hts _ kX6_checksum_9) (fun _ h9 => h9) rfl dX6_checksum_114 ?_
  refine yc5_r (wc := [(m5, .inr (5, [.int mo, .ref ed, .int 0]))]) (wr := [(m0, .inr (12, [.ref m1, .ref m2, .ref m3, .ref m4, .ref m5, .ref m6, .int 0, .int 0, .int th]))]) (va_runF (As := []) (rest := []) (hK.1 5 _ rfl).2 ⟨hx, hb, hml, hown, hts⟩ (g_iter l hfl D tE s.heap.size m5 mo ed (va_A [(m5, .inr (5, [.int mo, .ref ed, .int 0]))] s.heap.size) rfl) (va_cwF 0 hts gX6_checksum_Jx4a65c_iterator_32c93_f226Jx4a65c rfl rfl rfl (hE.2.2.2.2.2.2.2.1 _ (List.mem_of_getElem? (i := 2) rfl)) (by decide +kernel) ⟨Nat.le_of_ble_eq_true rfl, Nat.le_of_ble_eq_true rfl⟩) (yPreV (wc := [(m5, .inr (5, [.int mo, .ref ed, .int 0]))]) (tc := []) hK hP hD hS hA hE [1] [] (by decide) rfl rfl (ci := 5) (q0 := 1) (q := (RJx4a65c, TJx4a65c, 3)) rfl rfl) rfl rfl hl.1 rfl (lv_room (Nat.le_of_ble_eq_true rfl)) dX6_checksum_117 ⟨Nat.le_of_ble_eq_true rfl, Nat.le_of_ble_eq_true rfl⟩) hP hD hS hA [1] [0] rfl rfl (by decide) (by decide) (fun r_1 u_2 H locs hw hP hD hS => ?_)
  have hP : va_P D vwCl [(m0, .inr (12, [.ref m1, .ref m2, .ref m3, .ref m4, .ref m5, .ref m6, .int 0, .int 0, .int th])), (m5, .inr (5, [.int mo, .ref ed, .int 0])), (r_1, .inr (4, [.int 0, .int ((-1)), .int mo, .ref m5]))] H := hP
  have hD : va_D A [(m0, .inr (12, [.ref m1, .ref m2, .ref m3, .ref m4, .ref m5, .ref m6, .int 0, .int 0, .int th])), (m5, .inr (5, [.int mo, .ref ed, .int 0])), (r_1, .inr (4, [.int 0, .int ((-1)), .int mo, .ref m5]))] := hD
  refine lv_astore_n (lv' := [(3, .ref r_1), (1, .long 7), (0, .ref m0)]) hx hb dX6_checksum_122 rfl hl (by decide) rfl (fun ls hl => ?_)
  refine lv_aload_n hx hb dX6_checksum_123 rfl (lv_at hl 0 rfl) ?_
  refine yc5_i (wc := [(r_1, .inr (4, [.int 0, .int ((-1)), .int mo, .ref m5])), (m5, .inr (5, [.int mo, .ref ed, .int 0]))]) (wr := [(m0, .inr (12, [.ref m1, .ref m2, .ref m3, .ref m4, .ref m5, .ref m6, .int 0, .int 0, .int th]))]) (va_runF (As := []) (rest := []) (hK.1 4 _ rfl).2 ⟨hx, hb, hml, hown, hts⟩ (g_hasNext l hfl D tE H.size m5 r_1 mo ed (va_A [(r_1, .inr (4, [.int 0, .int ((-1)), .int mo, .ref m5])), (m5, .inr (5, [.int mo, .ref ed, .int 0]))] H.size) rfl) (va_cwF 0 hts gX6_checksum_Jx35411_hasNext_aae02_f230Jx35411 rfl rfl rfl (hE.2.2.2.2.2.2.2.1 _ (List.mem_of_getElem? (i := 3) rfl)) (by decide +kernel) ⟨Nat.le_of_ble_eq_true rfl, Nat.le_of_ble_eq_true rfl⟩) (yPreV (wc := [(r_1, .inr (4, [.int 0, .int ((-1)), .int mo, .ref m5])), (m5, .inr (5, [.int mo, .ref ed, .int 0]))]) (tc := []) hK hP hD hS hA hE [2, 1] [] (by decide) rfl rfl (ci := 4) (q0 := 2) (q := (RJx35411, TJx35411, 4)) rfl rfl) rfl rfl hl.1 rfl (lv_room (Nat.le_of_ble_eq_true rfl)) dX6_checksum_124 ⟨Nat.le_of_ble_eq_true rfl, Nat.le_of_ble_eq_true rfl⟩) hP hD hS hA [2, 1] [0] rfl rfl (by decide) (by decide) (fun r_3 u_4 H locs hw hP hD hS => ?_)
  have hP : va_P D vwCl [(m0, .inr (12, [.ref m1, .ref m2, .ref m3, .ref m4, .ref m5, .ref m6, .int 0, .int 0, .int th])), (r_1, .inr (4, [.int 0, .int ((-1)), .int mo, .ref m5])), (m5, .inr (5, [.int mo, .ref ed, .int 0]))] H := hP
  have hD : va_D A [(m0, .inr (12, [.ref m1, .ref m2, .ref m3, .ref m4, .ref m5, .ref m6, .int 0, .int 0, .int th])), (r_1, .inr (4, [.int 0, .int ((-1)), .int mo, .ref m5])), (m5, .inr (5, [.int mo, .ref ed, .int 0]))] := hD
  have hw : r_3 = 0 := hw
  subst hw
  refine lv_if_eq (tgt := 177) hx hb dX6_checksum_129 (by decide) (fun _ => ?_) (fun h => absurd h (by decide))
  refine lv_lload_n hx hb dX6_checksum_177 rfl (lv_at hl 1 rfl) ?_
  exact y_lret hx hb hr hlocks () rfl (hP.sub [0] rfl) (hD.sub [0] (by decide) rfl) hS (Nat.le_of_ble_eq_true rfl) (Nat.le_of_ble_eq_true rfl) dX6_checksum_178
