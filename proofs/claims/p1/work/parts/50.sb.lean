theorem iJ5_length_8abf5_J4 : ∀ w ∈ wsJ40, w ∈ wsJ5_length_8abf5 := by decide +kernel
theorem kJ5_length_8abf5_1 : Cond.fieldLink RJ5 79 "java/lang/AbstractStringBuilder" "count" "I" ∈ wsJ5_length_8abf5 := List.mem_of_getElem? (i := 1) (by decide +kernel)
set_option maxHeartbeats 4000000 in
set_option maxRecDepth 100000 in
theorem s5_len (l : Launch) (hfl : l.stackTraces = false) (D : va_G) (tE : Nat) (sz : Nat) (m6 : Nat) (v0 : Nat) (ml : Int32) (cn : Int32) (A : Nat → Prop) (hA0 : A = va_A [(m6, .inr (1, [.ref v0, .int 0, .int ml, .int cn]))] sz) : Met l yJ5_length_8abf5 wsJ5_length_8abf5 (yR 0 0 0) (yP D tE [(m6, .inr (1, [.ref v0, .int 0, .int ml, .int cn]))] [] sz [.ref m6]) (va_Qi (S := Unit) (fun (r : Int32) (u : Unit) => r = cn) (fun (u : Unit) (t : State) => yB D A ((fun (u : Unit) => [(m6, .inr (1, [.ref v0, .int 0, .int ml, .int cn]))]) u) t) A) 0 0 A := by
  refine Met.ofW (cc := cJ5_length_8abf5) (maxL := 1) (ret := (some .int)) (by decide) rfl ?_
  intro p e s m args below meth c s₁ B hml hv
  obtain ⟨rfl, rfl, hP, hK, hD, hE, hA⟩ := y_start hA0 hv
  have hx := B.exec
  have hb := B.bytes
  have hr := B.returns
  have hts := atoms_spec (ws := wsJ5_length_8abf5) B.pre
  have hown : s.vm.findClass RJ5 = some m.cls := findClass_of_methodNamed B.named
  have hlocks := B.notSynchronized
  clear hA0 hv
  have hS : va_S A s.heap s.heap [] := va_S.rf
  have hl := lv_entry ([.ref m6]) (n := 1) (Nat.le_of_ble_eq_true rfl)
  rw [lg_entry_eq]
  generalize (lg_sl ([.ref m6]) ++ List.replicate (1 - (lg_sl ([.ref m6])).length) Slot.unset).toArray = ls at hl ⊢
  have hl : lv_has ls 1 [(0, .ref m6)] := hl
  refine lv_aload_n hx hb dJ5_length_8abf5_0 rfl (lv_at hl 0 rfl) ?_
  refine va_get (D := D) (ci := 1) (v := .int cn) (C := RJ4) (T := TJ4) (N := 4) hx hb hts iJ5_length_8abf5_J4 hown hK hP 0 rfl rfl 3 (by decide) (hts _ kJ5_length_8abf5_1) (fun _ h9 => h9) rfl dJ5_length_8abf5_1 ?_
  exact y_iret hx hb hr hlocks () rfl hP hD hS (Nat.le_of_ble_eq_true rfl) (Nat.le_of_ble_eq_true rfl) dJ5_length_8abf5_4

set_option maxHeartbeats 4000000 in
set_option maxRecDepth 100000 in
theorem s4_len (l : Launch) (hfl : l.stackTraces = false) (D : va_G) (tE : Nat) (sz : Nat) (m6 : Nat) (v0 : Nat) (ml : Int32) (cn : Int32) (A : Nat → Prop) (hA0 : A = va_A [(m6, .inr (1, [.ref v0, .int 0, .int ml, .int cn]))] sz) : Met l yJ4_length_8abf5 wsJ4_length_8abf5 (yR 1 0 0) (yP D tE [(m6, .inr (1, [.ref v0, .int 0, .int ml, .int cn]))] [] sz [.ref m6]) (va_Qi (S := Unit) (fun (r : Int32) (u : Unit) => r = cn) (fun (u : Unit) (t : State) => yB D A ((fun (u : Unit) => [(m6, .inr (1, [.ref v0, .int 0, .int ml, .int cn]))]) u) t) A) 0 0 A := by
  refine Met.ofW (cc := cJ4_length_8abf5) (maxL := 1) (ret := (some .int)) (by decide) rfl ?_
  intro p e s m args below meth c s₁ B hml hv
  obtain ⟨rfl, rfl, hP, hK, hD, hE, hA⟩ := y_start hA0 hv
  have hx := B.exec
  have hb := B.bytes
  have hr := B.returns
  have hts := atoms_spec (ws := wsJ4_length_8abf5) B.pre
  have hown : s.vm.findClass RJ4 = some m.cls := findClass_of_methodNamed B.named
  have hlocks := B.notSynchronized
  clear hA0 hv
  have hS : va_S A s.heap s.heap [] := va_S.rf
  have hl := lv_entry ([.ref m6]) (n := 1) (Nat.le_of_ble_eq_true rfl)
  rw [lg_entry_eq]
  generalize (lg_sl ([.ref m6]) ++ List.replicate (1 - (lg_sl ([.ref m6])).length) Slot.unset).toArray = ls at hl ⊢
  have hl : lv_has ls 1 [(0, .ref m6)] := hl
  refine lv_aload_n hx hb dJ4_length_8abf5_0 rfl (lv_at hl 0 rfl) ?_
  refine yc_i (wc := [(m6, .inr (1, [.ref v0, .int 0, .int ml, .int cn]))]) (wr := []) (va_runSU (As := []) (rest := []) (hK.1 1 _ rfl).2 ⟨hx, hb, hml, hown, hts⟩ (s5_len l hfl D tE s.heap.size m6 v0 ml cn (va_A [(m6, .inr (1, [.ref v0, .int 0, .int ml, .int cn]))] s.heap.size) rfl) (va_cwSU 0 hts gJ4_length_8abf5_J5_length_8abf5_s343 rfl rfl rfl (by decide +kernel) ⟨Nat.le_of_ble_eq_true rfl, Nat.le_of_ble_eq_true rfl⟩) (yPreV (wc := [(m6, .inr (1, [.ref v0, .int 0, .int ml, .int cn]))]) (tc := []) hK hP hD hS hA hE [0] [] (by decide) rfl rfl (ci := 1) (q0 := 0) (q := (RJ4, TJ4, 4)) rfl rfl) rfl rfl hl.1 rfl (lv_room (Nat.le_of_ble_eq_true rfl)) dJ4_length_8abf5_1 ⟨Nat.le_of_ble_eq_true rfl, Nat.le_of_ble_eq_true rfl⟩) hP hD hS hA [0] [] rfl rfl (by decide) (by decide) (fun r_1 u_2 H locs hw hP hD hS => ?_)
  have hP : va_P D vwCl [(m6, .inr (1, [.ref v0, .int 0, .int ml, .int cn]))] H := hP
  have hD : va_D A [(m6, .inr (1, [.ref v0, .int 0, .int ml, .int cn]))] := hD
  have hw : r_1 = cn := hw
  subst hw
  exact y_iret hx hb hr hlocks () rfl hP hD hS (Nat.le_of_ble_eq_true rfl) (Nat.le_of_ble_eq_true rfl) dJ4_length_8abf5_4
theorem kJ5_isLatin1_aae02_1 : Cond.fieldLink RJ5 18 "java/lang/String" "COMPACT_STRINGS" "Z" ∈ wsJ5_isLatin1_aae02 := List.mem_of_getElem? (i := 1) (by decide +kernel)
theorem iJ5_isLatin1_aae02_J4 : ∀ w ∈ wsJ40, w ∈ wsJ5_isLatin1_aae02 := by decide +kernel
theorem kJ5_isLatin1_aae02_2 : Cond.fieldLink RJ5 22 "java/lang/AbstractStringBuilder" "coder" "B" ∈ wsJ5_isLatin1_aae02 := List.mem_of_getElem? (i := 2) (by decide +kernel)
set_option maxHeartbeats 4000000 in
set_option maxRecDepth 100000 in
theorem s5_lat (l : Launch) (hfl : l.stackTraces = false) (D : va_G) (tE : Nat) (sz : Nat) (m6 : Nat) (v0 : Nat) (ml : Int32) (cn : Int32) (A : Nat → Prop) (hA0 : A = va_A [(m6, .inr (1, [.ref v0, .int 0, .int ml, .int cn]))] sz) : Met l yJ5_isLatin1_aae02 wsJ5_isLatin1_aae02 (yR 0 0 0) (yP D tE [(m6, .inr (1, [.ref v0, .int 0, .int ml, .int cn]))] [] sz [.ref m6]) (va_Qi (S := Unit) (fun (r : Int32) (u : Unit) => r = 1) (fun (u : Unit) (t : State) => yB D A ((fun (u : Unit) => [(m6, .inr (1, [.ref v0, .int 0, .int ml, .int cn]))]) u) t) A) 0 0 A := by
  refine Met.ofW (cc := cJ5_isLatin1_aae02) (maxL := 1) (ret := (some .boolean)) (by decide) rfl ?_
  intro p e s m args below meth c s₁ B hml hv
  obtain ⟨rfl, rfl, hP, hK, hD, hE, hA⟩ := y_start hA0 hv
  have hx := B.exec
  have hb := B.bytes
  have hr := B.returns
  have hts := atoms_spec (ws := wsJ5_isLatin1_aae02) B.pre
  have hown : s.vm.findClass RJ5 = some m.cls := findClass_of_methodNamed B.named
  have hlocks := B.notSynchronized
  clear hA0 hv
  have hS : va_S A s.heap s.heap [] := va_S.rf
  have hl := lv_entry ([.ref m6]) (n := 1) (Nat.le_of_ble_eq_true rfl)
  rw [lg_entry_eq]
  generalize (lg_sl ([.ref m6]) ++ List.replicate (1 - (lg_sl ([.ref m6])).length) Slot.unset).toArray = ls at hl ⊢
  have hl : lv_has ls 1 [(0, .ref m6)] := hl
  refine va_gets hx hb hE.1.2.2.1 hS hown (hts _ kJ5_isLatin1_aae02_1) (fun _ h9 => h9) dJ5_isLatin1_aae02_0 ?_
  refine lv_if_eq (tgt := 17) hx hb dJ5_isLatin1_aae02_3 (by decide) (fun h => absurd h (by decide)) (fun _ => ?_)
  refine lv_aload_n hx hb dJ5_isLatin1_aae02_6 rfl (lv_at hl 0 rfl) ?_
  refine va_get (D := D) (ci := 1) (v := .int 0) (C := RJ4) (T := TJ4) (N := 4) hx hb hts iJ5_isLatin1_aae02_J4 hown hK hP 0 rfl rfl 1 (by decide) (hts _ kJ5_isLatin1_aae02_2) (fun _ h9 => h9) rfl dJ5_isLatin1_aae02_7 ?_
  refine lv_if_ne (tgt := 17) hx hb dJ5_isLatin1_aae02_10 (by decide) (fun h => absurd h (by decide)) (fun _ => ?_)
  refine lv_iconst (v := (1)) hx hb dJ5_isLatin1_aae02_13 (by decide) ?_
  refine lv_goto (tgt := 18) hx hb dJ5_isLatin1_aae02_14 (by decide) ?_
  exact y_zret hx hb hr hlocks (by decide) () rfl hP hD hS (Nat.le_of_ble_eq_true rfl) (Nat.le_of_ble_eq_true rfl) dJ5_isLatin1_aae02_18
theorem iJ5_ensureCapacityInternal_d00df_J4 : ∀ w ∈ wsJ40, w ∈ wsJ5_ensureCapacityInternal_d00df := by decide +kernel
theorem kJ5_ensureCapacityInternal_d00df_1 : Cond.fieldLink RJ5 15 "java/lang/AbstractStringBuilder" "value" "[B" ∈ wsJ5_ensureCapacityInternal_d00df := List.mem_of_getElem? (i := 1) (by decide +kernel)
theorem kJ5_ensureCapacityInternal_d00df_2 : Cond.fieldLink RJ5 22 "java/lang/AbstractStringBuilder" "coder" "B" ∈ wsJ5_ensureCapacityInternal_d00df := List.mem_of_getElem? (i := 2) (by decide +kernel)
set_option maxHeartbeats 4000000 in
set_option maxRecDepth 100000 in
theorem s5_ens0 (l : Launch) (hfl : l.stackTraces = false) (D : va_G) (tE : Nat) (sz : Nat) (m6 : Nat) (v0 : Nat) (ml : Int32) (cB : ClassId) (fv : Nat → Int32) (cn : Int32) (A : Nat → Prop) (hA0 : A = va_A [(m6, .inr (1, [.ref v0, .int 0, .int ml, .int cn])), (v0, .inl (cB, 16, .inl (fv)))] sz) : Met l yJ5_ensureCapacityInternal_d00df wsJ5_ensureCapacityInternal_d00df (yR 0 0 0) (yP D tE [(m6, .inr (1, [.ref v0, .int 0, .int ml, .int cn])), (v0, .inl (cB, 16, .inl (fv)))] [(cB, .byte)] sz [.ref m6, .int 0]) (va_Qv (S := Unit) (fun (u : Unit) => True) (fun (u : Unit) (t : State) => yB D A ((fun (u : Unit) => [(m6, .inr (1, [.ref v0, .int 0, .int ml, .int cn])), (v0, .inl (cB, 16, .inl (fv)))]) u) t) A) 0 0 A := by
  refine Met.ofW (cc := cJ5_ensureCapacityInternal_d00df) (maxL := 3) (ret := none) (by decide) rfl ?_
  intro p e s m args below meth c s₁ B hml hv
  obtain ⟨rfl, rfl, hP, hK, hD, hE, hA⟩ := y_start hA0 hv
  have hx := B.exec
  have hb := B.bytes
  have hr := B.returns
  have hts := atoms_spec (ws := wsJ5_ensureCapacityInternal_d00df) B.pre
  have hown : s.vm.findClass RJ5 = some m.cls := findClass_of_methodNamed B.named
  have hlocks := B.notSynchronized
  clear hA0 hv
  have hS : va_S A s.heap s.heap [] := va_S.rf
  have hl := lv_entry ([.ref m6, .int 0]) (n := 3) (Nat.le_of_ble_eq_true rfl)
  rw [lg_entry_eq]
  generalize (lg_sl ([.ref m6, .int 0]) ++ List.replicate (3 - (lg_sl ([.ref m6, .int 0])).length) Slot.unset).toArray = ls at hl ⊢
  have hl : lv_has ls 3 [(0, .ref m6), (1, .int 0)] := hl
  refine lv_aload_n hx hb dJ5_ensureCapacityInternal_d00df_0 rfl (lv_at hl 0 rfl) ?_
  refine va_get (D := D) (ci := 1) (v := .ref v0) (C := RJ4) (T := TJ4) (N := 4) hx hb hts iJ5_ensureCapacityInternal_d00df_J4 hown hK hP 0 rfl rfl 0 (by decide) (hts _ kJ5_ensureCapacityInternal_d00df_1) (fun _ h9 => h9) rfl dJ5_ensureCapacityInternal_d00df_1 ?_
  refine va_alen (v := 16) hx hb hK hP 1 0 rfl rfl (show Int32.ofNat 16 = 16 from by decide) dJ5_ensureCapacityInternal_d00df_4 ?_
  refine lv_aload_n hx hb dJ5_ensureCapacityInternal_d00df_5 rfl (lv_at hl 0 rfl) ?_
  refine va_get (D := D) (ci := 1) (v := .int 0) (C := RJ4) (T := TJ4) (N := 4) hx hb hts iJ5_ensureCapacityInternal_d00df_J4 hown hK hP 0 rfl rfl 1 (by decide) (hts _ kJ5_ensureCapacityInternal_d00df_2) (fun _ h9 => h9) rfl dJ5_ensureCapacityInternal_d00df_6 ?_
  refine lv_ishr hx hb dJ5_ensureCapacityInternal_d00df_9 ?_
  refine lv_topi (fun x_1 ex_1 => ?_)
  obtain rfl : x_1 = (16 : Int32) := ex_1.trans (by decide)
  refine lv_istore_n (lv' := [(2, .int 16), (0, .ref m6), (1, .int 0)]) hx hb dJ5_ensureCapacityInternal_d00df_10 rfl hl (by decide) rfl (fun ls hl => ?_)
  refine lv_iload_n hx hb dJ5_ensureCapacityInternal_d00df_11 rfl (lv_at hl 2 rfl) ?_
  refine lv_iload_n hx hb dJ5_ensureCapacityInternal_d00df_12 rfl (lv_at hl 0 rfl) ?_
  refine lv_isub hx hb dJ5_ensureCapacityInternal_d00df_13 ?_
  refine lv_topi (fun x_2 ex_2 => ?_)
  obtain rfl : x_2 = (-16 : Int32) := ex_2.trans (by decide)
  refine lv_if_le (tgt := 38) hx hb dJ5_ensureCapacityInternal_d00df_14 (by decide) (fun _ => ?_) (fun h => absurd h (by decide))
  exact y_vret hx hb hr hlocks () trivial hP hD hS (Nat.le_of_ble_eq_true rfl) (Nat.le_of_ble_eq_true rfl) dJ5_ensureCapacityInternal_d00df_38

set_option maxHeartbeats 4000000 in
set_option maxRecDepth 100000 in
theorem s5_ens1 (l : Launch) (hfl : l.stackTraces = false) (D : va_G) (tE : Nat) (sz : Nat) (m6 : Nat) (v0 : Nat) (ml : Int32) (cB : ClassId) (fv : Nat → Int32) (cn : Int32) (A : Nat → Prop) (hA0 : A = va_A [(m6, .inr (1, [.ref v0, .int 0, .int ml, .int cn])), (v0, .inl (cB, 16, .inl (fv)))] sz) : Met l yJ5_ensureCapacityInternal_d00df wsJ5_ensureCapacityInternal_d00df (yR 0 0 0) (yP D tE [(m6, .inr (1, [.ref v0, .int 0, .int ml, .int cn])), (v0, .inl (cB, 16, .inl (fv)))] [(cB, .byte)] sz [.ref m6, .int 1]) (va_Qv (S := Unit) (fun (u : Unit) => True) (fun (u : Unit) (t : State) => yB D A ((fun (u : Unit) => [(m6, .inr (1, [.ref v0, .int 0, .int ml, .int cn])), (v0, .inl (cB, 16, .inl (fv)))]) u) t) A) 0 0 A := by
  refine Met.ofW (cc := cJ5_ensureCapacityInternal_d00df) (maxL := 3) (ret := none) (by decide) rfl ?_
  intro p e s m args below meth c s₁ B hml hv
  obtain ⟨rfl, rfl, hP, hK, hD, hE, hA⟩ := y_start hA0 hv
  have hx := B.exec
  have hb := B.bytes
  have hr := B.returns
  have hts := atoms_spec (ws := wsJ5_ensureCapacityInternal_d00df) B.pre
  have hown : s.vm.findClass RJ5 = some m.cls := findClass_of_methodNamed B.named
  have hlocks := B.notSynchronized
  clear hA0 hv
  have hS : va_S A s.heap s.heap [] := va_S.rf
  have hl := lv_entry ([.ref m6, .int 1]) (n := 3) (Nat.le_of_ble_eq_true rfl)
  rw [lg_entry_eq]
  generalize (lg_sl ([.ref m6, .int 1]) ++ List.replicate (3 - (lg_sl ([.ref m6, .int 1])).length) Slot.unset).toArray = ls at hl ⊢
  have hl : lv_has ls 3 [(0, .ref m6), (1, .int 1)] := hl
  refine lv_aload_n hx hb dJ5_ensureCapacityInternal_d00df_0 rfl (lv_at hl 0 rfl) ?_
  refine va_get (D := D) (ci := 1) (v := .ref v0) (C := RJ4) (T := TJ4) (N := 4) hx hb hts iJ5_ensureCapacityInternal_d00df_J4 hown hK hP 0 rfl rfl 0 (by decide) (hts _ kJ5_ensureCapacityInternal_d00df_1) (fun _ h9 => h9) rfl dJ5_ensureCapacityInternal_d00df_1 ?_
  refine va_alen (v := 16) hx hb hK hP 1 0 rfl rfl (show Int32.ofNat 16 = 16 from by decide) dJ5_ensureCapacityInternal_d00df_4 ?_
  refine lv_aload_n hx hb dJ5_ensureCapacityInternal_d00df_5 rfl (lv_at hl 0 rfl) ?_
  refine va_get (D := D) (ci := 1) (v := .int 0) (C := RJ4) (T := TJ4) (N := 4) hx hb hts iJ5_ensureCapacityInternal_d00df_J4 hown hK hP 0 rfl rfl 1 (by decide) (hts _ kJ5_ensureCapacityInternal_d00df_2) (fun _ h9 => h9) rfl dJ5_ensureCapacityInternal_d00df_6 ?_
  refine lv_ishr hx hb dJ5_ensureCapacityInternal_d00df_9 ?_
  refine lv_topi (fun x_1 ex_1 => ?_)
  obtain rfl : x_1 = (16 : Int32) := ex_1.trans (by decide)
  refine lv_istore_n (lv' := [(2, .int 16), (0, .ref m6), (1, .int 1)]) hx hb dJ5_ensureCapacityInternal_d00df_10 rfl hl (by decide) rfl (fun ls hl => ?_)
  refine lv_iload_n hx hb dJ5_ensureCapacityInternal_d00df_11 rfl (lv_at hl 2 rfl) ?_
  refine lv_iload_n hx hb dJ5_ensureCapacityInternal_d00df_12 rfl (lv_at hl 0 rfl) ?_
  refine lv_isub hx hb dJ5_ensureCapacityInternal_d00df_13 ?_
  refine lv_topi (fun x_2 ex_2 => ?_)
  obtain rfl : x_2 = (-15 : Int32) := ex_2.trans (by decide)
  refine lv_if_le (tgt := 38) hx hb dJ5_ensureCapacityInternal_d00df_14 (by decide) (fun _ => ?_) (fun h => absurd h (by decide))
  exact y_vret hx hb hr hlocks () trivial hP hD hS (Nat.le_of_ble_eq_true rfl) (Nat.le_of_ble_eq_true rfl) dJ5_ensureCapacityInternal_d00df_38
theorem yz_s1_can_63 (p0 : Int32) (h0 : p0 ≤ 255) : ¬ (255 : Int32) < p0 := by grind
theorem yz_s1_can_64 (p0 : Int32) (h0 : p0 ≤ 255) : ¬ ((255 : Int32) < p0) := by grind

set_option maxHeartbeats 4000000 in
set_option maxRecDepth 100000 in
theorem s1_can (l : Launch) (hfl : l.stackTraces = false) (D : va_G) (tE : Nat) (sz : Nat) (p0 : Int32) (hp : p0 ≤ 255) (A : Nat → Prop) (hA0 : A = va_A [] sz) : Met l yJ1_canEncode_fc78d wsJ1_canEncode_fc78d (yR 0 0 0) (yP D tE [] [] sz [.int p0]) (va_Qi (S := Unit) (fun (r : Int32) (u : Unit) => r = 1) (fun (u : Unit) (t : State) => yB D A ((fun (u : Unit) => []) u) t) A) 0 0 A := by
  refine Met.ofW (cc := cJ1_canEncode_fc78d) (maxL := 1) (ret := (some .boolean)) (by decide) rfl ?_
  intro p e s m args below meth c s₁ B hml hv
  obtain ⟨rfl, rfl, hP, hK, hD, hE, hA⟩ := y_start hA0 hv
  have hx := B.exec
  have hb := B.bytes
  have hr := B.returns
  have hts := atoms_spec (ws := wsJ1_canEncode_fc78d) B.pre
  have hown : s.vm.findClass RJ1 = some m.cls := findClass_of_methodNamed B.named
  have hlocks := B.notSynchronized
  clear hA0 hv
  have hS : va_S A s.heap s.heap [] := va_S.rf
  have hl := lv_entry ([.int p0]) (n := 1) (Nat.le_of_ble_eq_true rfl)
  rw [lg_entry_eq]
  generalize (lg_sl ([.int p0]) ++ List.replicate (1 - (lg_sl ([.int p0])).length) Slot.unset).toArray = ls at hl ⊢
  have hl : lv_has ls 1 [(0, .int p0)] := hl
  refine lv_iload_n hx hb dJ1_canEncode_fc78d_0 rfl (lv_at hl 0 rfl) ?_
  refine lv_sipush (v := (255)) hx hb dJ1_canEncode_fc78d_1 (by decide) ?_
  refine lv_icmp_gt (tgt := 11) hx hb dJ1_canEncode_fc78d_4 (by decide) (fun h => absurd h ((yz_s1_can_64 p0 hp))) (fun c_1 => ?_)
  refine lv_iconst (v := (1)) hx hb dJ1_canEncode_fc78d_7 (by decide) ?_
  refine lv_goto (tgt := 12) hx hb dJ1_canEncode_fc78d_8 (by decide) ?_
  exact y_zret hx hb hr hlocks (by decide) () rfl hP hD hS (Nat.le_of_ble_eq_true rfl) (Nat.le_of_ble_eq_true rfl) dJ1_canEncode_fc78d_12
theorem iJ5_append_3fe6f_J4 : ∀ w ∈ wsJ40, w ∈ wsJ5_append_3fe6f := by decide +kernel
theorem kJ5_append_3fe6f_1 : Cond.fieldLink RJ5 79 "java/lang/AbstractStringBuilder" "count" "I" ∈ wsJ5_append_3fe6f := List.mem_of_getElem? (i := 1) (by decide +kernel)
theorem kJ5_append_3fe6f_2 : Cond.fieldLink RJ5 15 "java/lang/AbstractStringBuilder" "value" "[B" ∈ wsJ5_append_3fe6f := List.mem_of_getElem? (i := 2) (by decide +kernel)
set_option maxHeartbeats 4000000 in
set_option maxRecDepth 100000 in
theorem s5_app (l : Launch) (hfl : l.stackTraces = false) (D : va_G) (tE : Nat) (sz : Nat) (m6 : Nat) (v0 : Nat) (ml : Int32) (cB : ClassId) (fv : Nat → Int32) (p0 : Int32) (hp : p0 ≤ 255) (A : Nat → Prop) (hA0 : A = va_A [(m6, .inr (1, [.ref v0, .int 0, .int ml, .int 0])), (v0, .inl (cB, 16, .inl (fv)))] sz) : Met l yJ5_append_3fe6f wsJ5_append_3fe6f (yR 1 0 0) (yP D tE [(m6, .inr (1, [.ref v0, .int 0, .int ml, .int 0])), (v0, .inl (cB, 16, .inl (fv)))] [(cB, .byte)] sz [.ref m6, .int p0]) (va_Qr (S := Unit) (fun (u : Unit) => True) (fun (u : Unit) (r : Nat) (t : State) => yB D A ((fun (u : Unit) (r : Nat) => [(m6, .inr (1, [.ref v0, .int 0, .int ml, .int 1]))]) u r) t) A) 0 0 A := by
  refine Met.ofW (cc := cJ5_append_3fe6f) (maxL := 2) (ret := (some (.object "java/lang/AbstractStringBuilder"))) (by decide) rfl ?_
  intro p e s m args below meth c s₁ B hml hv
  obtain ⟨rfl, rfl, hP, hK, hD, hE, hA⟩ := y_start hA0 hv
  have hx := B.exec
  have hb := B.bytes
  have hr := B.returns
  have hts := atoms_spec (ws := wsJ5_append_3fe6f) B.pre
  have hown : s.vm.findClass RJ5 = some m.cls := findClass_of_methodNamed B.named
  have hlocks := B.notSynchronized
  clear hA0 hv
  have hS : va_S A s.heap s.heap [] := va_S.rf
  have hl := lv_entry ([.ref m6, .int p0]) (n := 2) (Nat.le_of_ble_eq_true rfl)
  rw [lg_entry_eq]
  generalize (lg_sl ([.ref m6, .int p0]) ++ List.replicate (2 - (lg_sl ([.ref m6, .int p0])).length) Slot.unset).toArray = ls at hl ⊢
  have hl : lv_has ls 2 [(0, .ref m6), (1, .int p0)] := hl
  refine lv_aload_n hx hb dJ5_append_3fe6f_0 rfl (lv_at hl 0 rfl) ?_
  refine lv_aload_n hx hb dJ5_append_3fe6f_1 rfl (lv_at hl 0 rfl) ?_
  refine va_get (D := D) (ci := 1) (v := .int 0) (C := RJ4) (T := TJ4) (N := 4) hx hb hts iJ5_append_3fe6f_J4 hown hK hP 0 rfl rfl 3 (by decide) (hts _ kJ5_append_3fe6f_1) (fun _ h9 => h9) rfl dJ5_append_3fe6f_2 ?_
  refine lv_iconst (v := (1)) hx hb dJ5_append_3fe6f_5 (by decide) ?_
  refine lv_iadd hx hb dJ5_append_3fe6f_6 ?_
  refine lv_topi (fun x_1 ex_1 => ?_)
  obtain rfl : x_1 = (1 : Int32) := ex_1.trans (by decide)
  refine yc_v (wc := [(m6, .inr (1, [.ref v0, .int 0, .int ml, .int 0])), (v0, .inl (cB, 16, .inl (fv)))]) (wr := []) (va_runU (As := [.int 1]) (rest := []) ⟨hx, hb, hml, hown, hts⟩ (s5_ens1 l hfl D tE s.heap.size m6 v0 ml cB fv 0 (va_A [(m6, .inr (1, [.ref v0, .int 0, .int ml, .int 0])), (v0, .inl (cB, 16, .inl (fv)))] s.heap.size) rfl) (va_cwU 1 hts gJ5_append_3fe6f_J5_ensureCapacityInternal_d00df_u100J4 rfl rfl rfl rfl (by decide +kernel) ⟨Nat.le_of_ble_eq_true rfl, Nat.le_of_ble_eq_true rfl⟩) (yPreV (wc := [(m6, .inr (1, [.ref v0, .int 0, .int ml, .int 0])), (v0, .inl (cB, 16, .inl (fv)))]) (tc := [(cB, .byte)]) hK hP hD hS hA hE [0, 1] [0] (by decide) rfl rfl (ci := 1) (q0 := 0) (q := (RJ4, TJ4, 4)) rfl rfl) rfl rfl hl.1 rfl (lv_room (Nat.le_of_ble_eq_true rfl)) dJ5_append_3fe6f_7 ⟨Nat.le_of_ble_eq_true rfl, Nat.le_of_ble_eq_true rfl⟩) hP hD hS hA [0, 1] [] rfl rfl (by decide) (by decide) (fun u_3 H locs hw hP hD hS => ?_)
  have hP : va_P D vwCl [(m6, .inr (1, [.ref v0, .int 0, .int ml, .int 0])), (v0, .inl (cB, 16, .inl (fv)))] H := hP
  have hD : va_D A [(m6, .inr (1, [.ref v0, .int 0, .int ml, .int 0])), (v0, .inl (cB, 16, .inl (fv)))] := hD
  refine lv_aload_n hx hb dJ5_append_3fe6f_10 rfl (lv_at hl 0 rfl) ?_
  refine yc_i (wc := [(m6, .inr (1, [.ref v0, .int 0, .int ml, .int 0]))]) (wr := [(v0, .inl (cB, 16, .inl (fv)))]) (va_runU (As := []) (rest := []) ⟨hx, hb, hml, hown, hts⟩ (s5_lat l hfl D tE H.size m6 v0 ml 0 (va_A [(m6, .inr (1, [.ref v0, .int 0, .int ml, .int 0]))] H.size) rfl) (va_cwU 0 hts gJ5_append_3fe6f_J5_isLatin1_aae02_u83J4 rfl rfl rfl rfl (by decide +kernel) ⟨Nat.le_of_ble_eq_true rfl, Nat.le_of_ble_eq_true rfl⟩) (yPreV (wc := [(m6, .inr (1, [.ref v0, .int 0, .int ml, .int 0]))]) (tc := []) hK hP hD hS hA hE [0] [] (by decide) rfl rfl (ci := 1) (q0 := 0) (q := (RJ4, TJ4, 4)) rfl rfl) rfl rfl hl.1 rfl (lv_room (Nat.le_of_ble_eq_true rfl)) dJ5_append_3fe6f_11 ⟨Nat.le_of_ble_eq_true rfl, Nat.le_of_ble_eq_true rfl⟩) hP hD hS hA [0] [1] rfl rfl (by decide) (by decide) (fun r_4 u_5 H locs hw hP hD hS => ?_)
  have hP : va_P D vwCl [(v0, .inl (cB, 16, .inl (fv))), (m6, .inr (1, [.ref v0, .int 0, .int ml, .int 0]))] H := hP
  have hD : va_D A [(v0, .inl (cB, 16, .inl (fv))), (m6, .inr (1, [.ref v0, .int 0, .int ml, .int 0]))] := hD
  have hw : r_4 = 1 := hw
  subst hw
  refine lv_if_eq (tgt := 45) hx hb dJ5_append_3fe6f_14 (by decide) (fun h => absurd h (by decide)) (fun _ => ?_)
  refine lv_iload_n hx hb dJ5_append_3fe6f_17 rfl (lv_at hl 1 rfl) ?_
  refine yc_i (wc := []) (wr := [(v0, .inl (cB, 16, .inl (fv))), (m6, .inr (1, [.ref v0, .int 0, .int ml, .int 0]))]) (va_runS (As := [.int p0]) (rest := []) ⟨hx, hb, hml, hown, hts⟩ (s1_can l hfl D tE H.size p0 hp (va_A [] H.size) rfl) (va_cwS 1 hts gJ5_append_3fe6f_J1_canEncode_fc78d rfl rfl rfl (by decide +kernel) ⟨Nat.le_of_ble_eq_true rfl, Nat.le_of_ble_eq_true rfl⟩) (yPreS (wc := []) (tc := []) hK hP hD hS hA hE [] [] (by decide) rfl rfl) rfl rfl hl.1 rfl (lv_room (Nat.le_of_ble_eq_true rfl)) dJ5_append_3fe6f_18 ⟨Nat.le_of_ble_eq_true rfl, Nat.le_of_ble_eq_true rfl⟩) hP hD hS hA [] [0, 1] rfl rfl (by decide) (by decide) (fun r_6 u_7 H locs hw hP hD hS => ?_)
  have hP : va_P D vwCl [(v0, .inl (cB, 16, .inl (fv))), (m6, .inr (1, [.ref v0, .int 0, .int ml, .int 0]))] H := hP
  have hD : va_D A [(v0, .inl (cB, 16, .inl (fv))), (m6, .inr (1, [.ref v0, .int 0, .int ml, .int 0]))] := hD
  have hw : r_6 = 1 := hw
  subst hw
  refine lv_if_eq (tgt := 45) hx hb dJ5_append_3fe6f_21 (by decide) (fun h => absurd h (by decide)) (fun _ => ?_)
  refine lv_aload_n hx hb dJ5_append_3fe6f_24 rfl (lv_at hl 0 rfl) ?_
  refine va_get (D := D) (ci := 1) (v := .ref v0) (C := RJ4) (T := TJ4) (N := 4) hx hb hts iJ5_append_3fe6f_J4 hown hK hP 1 rfl rfl 0 (by decide) (hts _ kJ5_append_3fe6f_2) (fun _ h9 => h9) rfl dJ5_append_3fe6f_25 ?_
  refine lv_aload_n hx hb dJ5_append_3fe6f_28 rfl (lv_at hl 0 rfl) ?_
  refine lv_dup hx hb dJ5_append_3fe6f_29 rfl ?_
  refine va_get (D := D) (ci := 1) (v := .int 0) (C := RJ4) (T := TJ4) (N := 4) hx hb hts iJ5_append_3fe6f_J4 hown hK hP 1 rfl rfl 3 (by decide) (hts _ kJ5_append_3fe6f_1) (fun _ h9 => h9) rfl dJ5_append_3fe6f_30 ?_
  refine lv_dup_x1 hx hb dJ5_append_3fe6f_33 rfl rfl ?_
  refine lv_iconst (v := (1)) hx hb dJ5_append_3fe6f_34 (by decide) ?_
  refine lv_iadd hx hb dJ5_append_3fe6f_35 ?_
  refine lv_topi (fun x_8 ex_8 => ?_)
  obtain rfl : x_8 = (1 : Int32) := ex_8.trans (by decide)
  refine va_put (D := D) (ci := 1) (v := .int 1) (ty := .int) (C := RJ4) (T := TJ4) (N := 4) hx hb hts iJ5_append_3fe6f_J4 tyJ4 tyJ4_ok nmJ4 hown hK hP hD hS 1 rfl rfl 3 (by decide) (hts _ kJ5_append_3fe6f_1) (fun _ h9 => h9) rfl (by decide +kernel) rfl rfl (Nat.le_of_ble_eq_true rfl) dJ5_append_3fe6f_36 (fun H locs hP hD hS => ?_)
  have hP : va_P D vwCl [(v0, .inl (cB, 16, .inl (fv))), (m6, .inr (1, [.ref v0, .int 0, .int ml, .int 1]))] H := hP
  have hD : va_D A [(v0, .inl (cB, 16, .inl (fv))), (m6, .inr (1, [.ref v0, .int 0, .int ml, .int 1]))] := hD
  refine lv_iload_n hx hb dJ5_append_3fe6f_39 rfl (lv_at hl 1 rfl) ?_
  refine lv_i2b (v := p0.toInt8.toInt32) hx hb dJ5_append_3fe6f_40 rfl ?_
  refine lv_topi (fun x_9 ex_9 => ?_)
  refine va_bast hx hb hK hP hD hS 0 0 rfl rfl (by unfold vp_in; decide) dJ5_append_3fe6f_41 (fun H locs hP hD hS => ?_)
  obtain ⟨f_10, ef_10⟩ : ∃ g9, g9 = upd fv (0 : Int32).toNatClampNeg (vp_nar .byte x_9) := ⟨_, rfl⟩
  have hP : va_P D vwCl [(v0, .inl (cB, 16, .inl (f_10))), (m6, .inr (1, [.ref v0, .int 0, .int ml, .int 1]))] H := by rw [ef_10]; exact hP
  have hD : va_D A [(v0, .inl (cB, 16, .inl (f_10))), (m6, .inr (1, [.ref v0, .int 0, .int ml, .int 1]))] := by rw [ef_10]; exact hD
  refine lv_goto (tgt := 75) hx hb dJ5_append_3fe6f_42 (by decide) ?_
  refine lv_aload_n hx hb dJ5_append_3fe6f_75 rfl (lv_at hl 0 rfl) ?_
  exact y_aret hx hb hr hlocks (Or.inl ⟨_, rfl⟩) () trivial (hP.sub [1] rfl) (hD.sub [1] (by decide) rfl) hS (Nat.le_of_ble_eq_true rfl) (Nat.le_of_ble_eq_true rfl) dJ5_append_3fe6f_76

set_option maxHeartbeats 4000000 in
set_option maxRecDepth 100000 in
theorem s4_app (l : Launch) (hfl : l.stackTraces = false) (D : va_G) (tE : Nat) (sz : Nat) (m6 : Nat) (v0 : Nat) (ml : Int32) (cB : ClassId) (fv : Nat → Int32) (p0 : Int32) (hp : p0 ≤ 255) (A : Nat → Prop) (hA0 : A = va_A [(m6, .inr (1, [.ref v0, .int 0, .int ml, .int 0])), (v0, .inl (cB, 16, .inl (fv)))] sz) : Met l yJ4_append_cf468 wsJ4_append_cf468 (yR 2 0 0) (yP D tE [(m6, .inr (1, [.ref v0, .int 0, .int ml, .int 0])), (v0, .inl (cB, 16, .inl (fv)))] [(cB, .byte)] sz [.ref m6, .int p0]) (va_Qr (S := Unit) (fun (u : Unit) => True) (fun (u : Unit) (r : Nat) (t : State) => yB D A ((fun (u : Unit) (r : Nat) => [(m6, .inr (1, [.ref v0, .int 0, .int ml, .int 1]))]) u r) t) A) 0 0 A := by
  refine Met.ofW (cc := cJ4_append_cf468) (maxL := 2) (ret := (some (.object "java/lang/StringBuilder"))) (by decide) rfl ?_
  intro p e s m args below meth c s₁ B hml hv
  obtain ⟨rfl, rfl, hP, hK, hD, hE, hA⟩ := y_start hA0 hv
  have hx := B.exec
  have hb := B.bytes
  have hr := B.returns
  have hts := atoms_spec (ws := wsJ4_append_cf468) B.pre
  have hown : s.vm.findClass RJ4 = some m.cls := findClass_of_methodNamed B.named
  have hlocks := B.notSynchronized
  clear hA0 hv
  have hS : va_S A s.heap s.heap [] := va_S.rf
  have hl := lv_entry ([.ref m6, .int p0]) (n := 2) (Nat.le_of_ble_eq_true rfl)
  rw [lg_entry_eq]
  generalize (lg_sl ([.ref m6, .int p0]) ++ List.replicate (2 - (lg_sl ([.ref m6, .int p0])).length) Slot.unset).toArray = ls at hl ⊢
  have hl : lv_has ls 2 [(0, .ref m6), (1, .int p0)] := hl
  refine lv_aload_n hx hb dJ4_append_cf468_0 rfl (lv_at hl 0 rfl) ?_
  refine lv_iload_n hx hb dJ4_append_cf468_1 rfl (lv_at hl 1 rfl) ?_
  refine yc_r (wc := [(m6, .inr (1, [.ref v0, .int 0, .int ml, .int 0])), (v0, .inl (cB, 16, .inl (fv)))]) (wr := []) (va_runSU (As := [.int p0]) (rest := []) (hK.1 1 _ rfl).2 ⟨hx, hb, hml, hown, hts⟩ (s5_app l hfl D tE s.heap.size m6 v0 ml cB fv p0 hp (va_A [(m6, .inr (1, [.ref v0, .int 0, .int ml, .int 0])), (v0, .inl (cB, 16, .inl (fv)))] s.heap.size) rfl) (va_cwSU 1 hts gJ4_append_cf468_J5_append_3fe6f_s50 rfl rfl rfl (by decide +kernel) ⟨Nat.le_of_ble_eq_true rfl, Nat.le_of_ble_eq_true rfl⟩) (yPreV (wc := [(m6, .inr (1, [.ref v0, .int 0, .int ml, .int 0])), (v0, .inl (cB, 16, .inl (fv)))]) (tc := [(cB, .byte)]) hK hP hD hS hA hE [0, 1] [0] (by decide) rfl rfl (ci := 1) (q0 := 0) (q := (RJ4, TJ4, 4)) rfl rfl) rfl rfl hl.1 rfl (lv_room (Nat.le_of_ble_eq_true rfl)) dJ4_append_cf468_2 ⟨Nat.le_of_ble_eq_true rfl, Nat.le_of_ble_eq_true rfl⟩) hP hD hS hA [0, 1] [] rfl rfl (by decide) (by decide) (fun r_1 u_2 H locs hw hP hD hS => ?_)
  have hP : va_P D vwCl [(m6, .inr (1, [.ref v0, .int 0, .int ml, .int 1]))] H := hP
  have hD : va_D A [(m6, .inr (1, [.ref v0, .int 0, .int ml, .int 1]))] := hD
  refine lv_pop hx hb dJ4_append_cf468_5 rfl ?_
  refine lv_aload_n hx hb dJ4_append_cf468_6 rfl (lv_at hl 0 rfl) ?_
  exact y_aret hx hb hr hlocks (Or.inl ⟨_, rfl⟩) () trivial hP hD hS (Nat.le_of_ble_eq_true rfl) (Nat.le_of_ble_eq_true rfl) dJ4_append_cf468_7
theorem iJ5_setLength_d00df_J4 : ∀ w ∈ wsJ40, w ∈ wsJ5_setLength_d00df := by decide +kernel
theorem kJ5_setLength_d00df_4 : Cond.fieldLink RJ5 79 "java/lang/AbstractStringBuilder" "count" "I" ∈ wsJ5_setLength_d00df := List.mem_of_getElem? (i := 4) (by decide +kernel)
set_option maxHeartbeats 4000000 in
set_option maxRecDepth 100000 in
theorem s5_set (l : Launch) (hfl : l.stackTraces = false) (D : va_G) (tE : Nat) (sz : Nat) (m6 : Nat) (v0 : Nat) (ml : Int32) (cB : ClassId) (fv : Nat → Int32) (A : Nat → Prop) (hA0 : A = va_A [(m6, .inr (1, [.ref v0, .int 0, .int ml, .int 0])), (v0, .inl (cB, 16, .inl (fv)))] sz) : Met l yJ5_setLength_d00df wsJ5_setLength_d00df (yR 1 0 0) (yP D tE [(m6, .inr (1, [.ref v0, .int 0, .int ml, .int 0])), (v0, .inl (cB, 16, .inl (fv)))] [(cB, .byte)] sz [.ref m6, .int 0]) (va_Qv (S := Unit) (fun (u : Unit) => True) (fun (u : Unit) (t : State) => yB D A ((fun (u : Unit) => [(m6, .inr (1, [.ref v0, .int 0, .int ml, .int 0])), (v0, .inl (cB, 16, .inl (fv)))]) u) t) A) 0 0 A := by
  refine Met.ofW (cc := cJ5_setLength_d00df) (maxL := 2) (ret := none) (by decide) rfl ?_
  intro p e s m args below meth c s₁ B hml hv
  obtain ⟨rfl, rfl, hP, hK, hD, hE, hA⟩ := y_start hA0 hv
  have hx := B.exec
  have hb := B.bytes
  have hr := B.returns
  have hts := atoms_spec (ws := wsJ5_setLength_d00df) B.pre
  have hown : s.vm.findClass RJ5 = some m.cls := findClass_of_methodNamed B.named
  have hlocks := B.notSynchronized
  clear hA0 hv
  have hS : va_S A s.heap s.heap [] := va_S.rf
  have hl := lv_entry ([.ref m6, .int 0]) (n := 2) (Nat.le_of_ble_eq_true rfl)
  rw [lg_entry_eq]
  generalize (lg_sl ([.ref m6, .int 0]) ++ List.replicate (2 - (lg_sl ([.ref m6, .int 0])).length) Slot.unset).toArray = ls at hl ⊢
  have hl : lv_has ls 2 [(0, .ref m6), (1, .int 0)] := hl
  refine lv_iload_n hx hb dJ5_setLength_d00df_0 rfl (lv_at hl 1 rfl) ?_
  refine lv_if_ge (tgt := 13) hx hb dJ5_setLength_d00df_1 (by decide) (fun _ => ?_) (fun h => absurd h (by decide))
  refine lv_aload_n hx hb dJ5_setLength_d00df_13 rfl (lv_at hl 0 rfl) ?_
  refine lv_iload_n hx hb dJ5_setLength_d00df_14 rfl (lv_at hl 1 rfl) ?_
  refine yc_v (wc := [(m6, .inr (1, [.ref v0, .int 0, .int ml, .int 0])), (v0, .inl (cB, 16, .inl (fv)))]) (wr := []) (va_runU (As := [.int 0]) (rest := []) ⟨hx, hb, hml, hown, hts⟩ (s5_ens0 l hfl D tE s.heap.size m6 v0 ml cB fv 0 (va_A [(m6, .inr (1, [.ref v0, .int 0, .int ml, .int 0])), (v0, .inl (cB, 16, .inl (fv)))] s.heap.size) rfl) (va_cwU 1 hts gJ5_setLength_d00df_J5_ensureCapacityInternal_d00df_u100J4 rfl rfl rfl rfl (by decide +kernel) ⟨Nat.le_of_ble_eq_true rfl, Nat.le_of_ble_eq_true rfl⟩) (yPreV (wc := [(m6, .inr (1, [.ref v0, .int 0, .int ml, .int 0])), (v0, .inl (cB, 16, .inl (fv)))]) (tc := [(cB, .byte)]) hK hP hD hS hA hE [0, 1] [0] (by decide) rfl rfl (ci := 1) (q0 := 0) (q := (RJ4, TJ4, 4)) rfl rfl) rfl rfl hl.1 rfl (lv_room (Nat.le_of_ble_eq_true rfl)) dJ5_setLength_d00df_15 ⟨Nat.le_of_ble_eq_true rfl, Nat.le_of_ble_eq_true rfl⟩) hP hD hS hA [0, 1] [] rfl rfl (by decide) (by decide) (fun u_2 H locs hw hP hD hS => ?_)
  have hP : va_P D vwCl [(m6, .inr (1, [.ref v0, .int 0, .int ml, .int 0])), (v0, .inl (cB, 16, .inl (fv)))] H := hP
  have hD : va_D A [(m6, .inr (1, [.ref v0, .int 0, .int ml, .int 0])), (v0, .inl (cB, 16, .inl (fv)))] := hD
  refine lv_aload_n hx hb dJ5_setLength_d00df_18 rfl (lv_at hl 0 rfl) ?_
  refine va_get (D := D) (ci := 1) (v := .int 0) (C := RJ4) (T := TJ4) (N := 4) hx hb hts iJ5_setLength_d00df_J4 hown hK hP 0 rfl rfl 3 (by decide) (hts _ kJ5_setLength_d00df_4) (fun _ h9 => h9) rfl dJ5_setLength_d00df_19 ?_
  refine lv_iload_n hx hb dJ5_setLength_d00df_22 rfl (lv_at hl 1 rfl) ?_
  refine lv_icmp_ge (tgt := 63) hx hb dJ5_setLength_d00df_23 (by decide) (fun _ => ?_) (fun h => absurd h (by decide))
  refine lv_aload_n hx hb dJ5_setLength_d00df_63 rfl (lv_at hl 0 rfl) ?_
  refine va_get (D := D) (ci := 1) (v := .int 0) (C := RJ4) (T := TJ4) (N := 4) hx hb hts iJ5_setLength_d00df_J4 hown hK hP 0 rfl rfl 3 (by decide) (hts _ kJ5_setLength_d00df_4) (fun _ h9 => h9) rfl dJ5_setLength_d00df_64 ?_
  refine lv_iload_n hx hb dJ5_setLength_d00df_67 rfl (lv_at hl 1 rfl) ?_
  refine lv_icmp_le (tgt := 76) hx hb dJ5_setLength_d00df_68 (by decide) (fun _ => ?_) (fun h => absurd h (by decide))
  refine lv_aload_n hx hb dJ5_setLength_d00df_76 rfl (lv_at hl 0 rfl) ?_
  refine lv_iload_n hx hb dJ5_setLength_d00df_77 rfl (lv_at hl 1 rfl) ?_
  refine va_put (D := D) (ci := 1) (v := .int 0) (ty := .int) (C := RJ4) (T := TJ4) (N := 4) hx hb hts iJ5_setLength_d00df_J4 tyJ4 tyJ4_ok nmJ4 hown hK hP hD hS 0 rfl rfl 3 (by decide) (hts _ kJ5_setLength_d00df_4) (fun _ h9 => h9) rfl (by decide +kernel) rfl rfl (Nat.le_of_ble_eq_true rfl) dJ5_setLength_d00df_78 (fun H locs hP hD hS => ?_)
  have hP : va_P D vwCl [(m6, .inr (1, [.ref v0, .int 0, .int ml, .int 0])), (v0, .inl (cB, 16, .inl (fv)))] H := hP
  have hD : va_D A [(m6, .inr (1, [.ref v0, .int 0, .int ml, .int 0])), (v0, .inl (cB, 16, .inl (fv)))] := hD
  exact y_vret hx hb hr hlocks () trivial hP hD hS (Nat.le_of_ble_eq_true rfl) (Nat.le_of_ble_eq_true rfl) dJ5_setLength_d00df_81

set_option maxHeartbeats 4000000 in
set_option maxRecDepth 100000 in
theorem s4_set (l : Launch) (hfl : l.stackTraces = false) (D : va_G) (tE : Nat) (sz : Nat) (m6 : Nat) (v0 : Nat) (ml : Int32) (cB : ClassId) (fv : Nat → Int32) (A : Nat → Prop) (hA0 : A = va_A [(m6, .inr (1, [.ref v0, .int 0, .int ml, .int 0])), (v0, .inl (cB, 16, .inl (fv)))] sz) : Met l yJ4_setLength_d00df wsJ4_setLength_d00df (yR 2 0 0) (yP D tE [(m6, .inr (1, [.ref v0, .int 0, .int ml, .int 0])), (v0, .inl (cB, 16, .inl (fv)))] [(cB, .byte)] sz [.ref m6, .int 0]) (va_Qv (S := Unit) (fun (u : Unit) => True) (fun (u : Unit) (t : State) => yB D A ((fun (u : Unit) => [(m6, .inr (1, [.ref v0, .int 0, .int ml, .int 0])), (v0, .inl (cB, 16, .inl (fv)))]) u) t) A) 0 0 A := by
  refine Met.ofW (cc := cJ4_setLength_d00df) (maxL := 2) (ret := none) (by decide) rfl ?_
  intro p e s m args below meth c s₁ B hml hv
  obtain ⟨rfl, rfl, hP, hK, hD, hE, hA⟩ := y_start hA0 hv
  have hx := B.exec
  have hb := B.bytes
  have hr := B.returns
  have hts := atoms_spec (ws := wsJ4_setLength_d00df) B.pre
  have hown : s.vm.findClass RJ4 = some m.cls := findClass_of_methodNamed B.named
  have hlocks := B.notSynchronized
  clear hA0 hv
  have hS : va_S A s.heap s.heap [] := va_S.rf
  have hl := lv_entry ([.ref m6, .int 0]) (n := 2) (Nat.le_of_ble_eq_true rfl)
  rw [lg_entry_eq]
  generalize (lg_sl ([.ref m6, .int 0]) ++ List.replicate (2 - (lg_sl ([.ref m6, .int 0])).length) Slot.unset).toArray = ls at hl ⊢
  have hl : lv_has ls 2 [(0, .ref m6), (1, .int 0)] := hl
  refine lv_aload_n hx hb dJ4_setLength_d00df_0 rfl (lv_at hl 0 rfl) ?_
  refine lv_iload_n hx hb dJ4_setLength_d00df_1 rfl (lv_at hl 1 rfl) ?_
  refine yc_v (wc := [(m6, .inr (1, [.ref v0, .int 0, .int ml, .int 0])), (v0, .inl (cB, 16, .inl (fv)))]) (wr := []) (va_runSU (As := [.int 0]) (rest := []) (hK.1 1 _ rfl).2 ⟨hx, hb, hml, hown, hts⟩ (s5_set l hfl D tE s.heap.size m6 v0 ml cB fv (va_A [(m6, .inr (1, [.ref v0, .int 0, .int ml, .int 0])), (v0, .inl (cB, 16, .inl (fv)))] s.heap.size) rfl) (va_cwSU 1 hts gJ4_setLength_d00df_J5_setLength_d00df_s333 rfl rfl rfl (by decide +kernel) ⟨Nat.le_of_ble_eq_true rfl, Nat.le_of_ble_eq_true rfl⟩) (yPreV (wc := [(m6, .inr (1, [.ref v0, .int 0, .int ml, .int 0])), (v0, .inl (cB, 16, .inl (fv)))]) (tc := [(cB, .byte)]) hK hP hD hS hA hE [0, 1] [0] (by decide) rfl rfl (ci := 1) (q0 := 0) (q := (RJ4, TJ4, 4)) rfl rfl) rfl rfl hl.1 rfl (lv_room (Nat.le_of_ble_eq_true rfl)) dJ4_setLength_d00df_2 ⟨Nat.le_of_ble_eq_true rfl, Nat.le_of_ble_eq_true rfl⟩) hP hD hS hA [0, 1] [] rfl rfl (by decide) (by decide) (fun u_2 H locs hw hP hD hS => ?_)
  have hP : va_P D vwCl [(m6, .inr (1, [.ref v0, .int 0, .int ml, .int 0])), (v0, .inl (cB, 16, .inl (fv)))] H := hP
  have hD : va_D A [(m6, .inr (1, [.ref v0, .int 0, .int ml, .int 0])), (v0, .inl (cB, 16, .inl (fv)))] := hD
  exact y_vret hx hb hr hlocks () trivial hP hD hS (Nat.le_of_ble_eq_true rfl) (Nat.le_of_ble_eq_true rfl) dJ4_setLength_d00df_5
theorem iX6_wipe_X6 : ∀ w ∈ wsX60, w ∈ wsX6_wipe := by decide +kernel
theorem kX6_wipe_1 : Cond.fieldLink RX6 34 "MostwellModel" "typed" "Ljava/lang/StringBuilder;" ∈ wsX6_wipe := List.mem_of_getElem? (i := 1) (by decide +kernel)
set_option maxHeartbeats 4000000 in
set_option maxRecDepth 100000 in
theorem m_wipe (l : Launch) (hfl : l.stackTraces = false) (D : va_G) (tE : Nat) (sz : Nat) (m0 : Nat) (m1 : Nat) (m2 : Nat) (m3 : Nat) (m4 : Nat) (m5 : Nat) (m6 : Nat) (v0 : Nat) (ml : Int32) (cB : ClassId) (fv : Nat → Int32) (th : Int32) (A : Nat → Prop) (hA0 : A = va_A [(m0, .inr (12, [.ref m1, .ref m2, .ref m3, .ref m4, .ref m5, .ref m6, .int 0, .int 0, .int th])), (m6, .inr (1, [.ref v0, .int 0, .int ml, .int 0])), (v0, .inl (cB, 16, .inl (fv)))] sz) : Met l yX6_wipe wsX6_wipe (yR 3 0 0) (yP D tE [(m0, .inr (12, [.ref m1, .ref m2, .ref m3, .ref m4, .ref m5, .ref m6, .int 0, .int 0, .int th])), (m6, .inr (1, [.ref v0, .int 0, .int ml, .int 0])), (v0, .inl (cB, 16, .inl (fv)))] [(cB, .byte)] sz [.ref m0]) (va_Qi (S := Unit) (fun (r : Int32) (u : Unit) => r = 0) (fun (u : Unit) (t : State) => yB D A ((fun (u : Unit) => [(m0, .inr (12, [.ref m1, .ref m2, .ref m3, .ref m4, .ref m5, .ref m6, .int 0, .int 0, .int th]))]) u) t) A) 0 0 A := by
  refine Met.ofW (cc := cX6_wipe) (maxL := 2) (ret := (some .int)) (by decide) rfl ?_
  intro p e s m args below meth c s₁ B hml hv
  obtain ⟨rfl, rfl, hP, hK, hD, hE, hA⟩ := y_start hA0 hv
  have hx := B.exec
  have hb := B.bytes
  have hr := B.returns
  have hts := atoms_spec (ws := wsX6_wipe) B.pre
  have hown : s.vm.findClass RX6 = some m.cls := findClass_of_methodNamed B.named
  have hlocks := B.notSynchronized
  clear hA0 hv
  have hS : va_S A s.heap s.heap [] := va_S.rf
  have hl := lv_entry ([.ref m0]) (n := 2) (Nat.le_of_ble_eq_true rfl)
  rw [lg_entry_eq]
  generalize (lg_sl ([.ref m0]) ++ List.replicate (2 - (lg_sl ([.ref m0])).length) Slot.unset).toArray = ls at hl ⊢
  have hl : lv_has ls 2 [(0, .ref m0)] := hl
  refine lv_aload_n hx hb dX6_wipe_0 rfl (lv_at hl 0 rfl) ?_
  refine va_get (D := D) (ci := 12) (v := .ref m6) (C := RX6) (T := TX6) (N := 9) hx hb hts iX6_wipe_X6 hown hK hP 0 rfl rfl 5 (by decide) (hts _ kX6_wipe_1) (fun _ h9 => h9) rfl dX6_wipe_1 ?_
  refine yc_i (wc := [(m6, .inr (1, [.ref v0, .int 0, .int ml, .int 0]))]) (wr := [(m0, .inr (12, [.ref m1, .ref m2, .ref m3, .ref m4, .ref m5, .ref m6, .int 0, .int 0, .int th])), (v0, .inl (cB, 16, .inl (fv)))]) (va_runV (As := []) (rest := []) ⟨hx, hb, hml, hown, hts⟩ (s4_len l hfl D tE s.heap.size m6 v0 ml 0 (va_A [(m6, .inr (1, [.ref v0, .int 0, .int ml, .int 0]))] s.heap.size) rfl) (cwV 0 hts gX6_wipe_J4_length_8abf5 rfl rfl rfl (by decide +kernel) ⟨Nat.le_of_ble_eq_true rfl, Nat.le_of_ble_eq_true rfl⟩) (yPreV (wc := [(m6, .inr (1, [.ref v0, .int 0, .int ml, .int 0]))]) (tc := []) hK hP hD hS hA hE [1] [] (by decide) rfl rfl (ci := 1) (q0 := 1) (q := (RJ4, TJ4, 4)) rfl rfl) rfl rfl hl.1 rfl (lv_room (Nat.le_of_ble_eq_true rfl)) dX6_wipe_4 ⟨Nat.le_of_ble_eq_true rfl, Nat.le_of_ble_eq_true rfl⟩) hP hD hS hA [1] [0, 2] rfl rfl (by decide) (by decide) (fun r_1 u_2 H locs hw hP hD hS => ?_)
  have hP : va_P D vwCl [(m0, .inr (12, [.ref m1, .ref m2, .ref m3, .ref m4, .ref m5, .ref m6, .int 0, .int 0, .int th])), (v0, .inl (cB, 16, .inl (fv))), (m6, .inr (1, [.ref v0, .int 0, .int ml, .int 0]))] H := hP
  have hD : va_D A [(m0, .inr (12, [.ref m1, .ref m2, .ref m3, .ref m4, .ref m5, .ref m6, .int 0, .int 0, .int th])), (v0, .inl (cB, 16, .inl (fv))), (m6, .inr (1, [.ref v0, .int 0, .int ml, .int 0]))] := hD
  have hw : r_1 = 0 := hw
  subst hw
  refine lv_istore_n (lv' := [(1, .int 0), (0, .ref m0)]) hx hb dX6_wipe_7 rfl hl (by decide) rfl (fun ls hl => ?_)
  refine lv_aload_n hx hb dX6_wipe_8 rfl (lv_at hl 1 rfl) ?_
  refine va_get (D := D) (ci := 12) (v := .ref m6) (C := RX6) (T := TX6) (N := 9) hx hb hts iX6_wipe_X6 hown hK hP 0 rfl rfl 5 (by decide) (hts _ kX6_wipe_1) (fun _ h9 => h9) rfl dX6_wipe_9 ?_
  refine lv_iconst (v := (0)) hx hb dX6_wipe_12 (by decide) ?_
  refine yc_v (wc := [(m6, .inr (1, [.ref v0, .int 0, .int ml, .int 0])), (v0, .inl (cB, 16, .inl (fv)))]) (wr := [(m0, .inr (12, [.ref m1, .ref m2, .ref m3, .ref m4, .ref m5, .ref m6, .int 0, .int 0, .int th]))]) (va_runV (As := [.int 0]) (rest := []) ⟨hx, hb, hml, hown, hts⟩ (s4_set l hfl D tE H.size m6 v0 ml cB fv (va_A [(m6, .inr (1, [.ref v0, .int 0, .int ml, .int 0])), (v0, .inl (cB, 16, .inl (fv)))] H.size) rfl) (cwV 1 hts gX6_wipe_J4_setLength_d00df rfl rfl rfl (by decide +kernel) ⟨Nat.le_of_ble_eq_true rfl, Nat.le_of_ble_eq_true rfl⟩) (yPreV (wc := [(m6, .inr (1, [.ref v0, .int 0, .int ml, .int 0])), (v0, .inl (cB, 16, .inl (fv)))]) (tc := [(cB, .byte)]) hK hP hD hS hA hE [2, 1] [0] (by decide) rfl rfl (ci := 1) (q0 := 2) (q := (RJ4, TJ4, 4)) rfl rfl) rfl rfl hl.1 rfl (lv_room (Nat.le_of_ble_eq_true rfl)) dX6_wipe_13 ⟨Nat.le_of_ble_eq_true rfl, Nat.le_of_ble_eq_true rfl⟩) hP hD hS hA [2, 1] [0] rfl rfl (by decide) (by decide) (fun u_4 H locs hw hP hD hS => ?_)
  have hP : va_P D vwCl [(m0, .inr (12, [.ref m1, .ref m2, .ref m3, .ref m4, .ref m5, .ref m6, .int 0, .int 0, .int th])), (m6, .inr (1, [.ref v0, .int 0, .int ml, .int 0])), (v0, .inl (cB, 16, .inl (fv)))] H := hP
  have hD : va_D A [(m0, .inr (12, [.ref m1, .ref m2, .ref m3, .ref m4, .ref m5, .ref m6, .int 0, .int 0, .int th])), (m6, .inr (1, [.ref v0, .int 0, .int ml, .int 0])), (v0, .inl (cB, 16, .inl (fv)))] := hD
  refine lv_iload_n hx hb dX6_wipe_16 rfl (lv_at hl 0 rfl) ?_
  exact y_iret hx hb hr hlocks () rfl (hP.sub [0] rfl) (hD.sub [0] (by decide) rfl) hS (Nat.le_of_ble_eq_true rfl) (Nat.le_of_ble_eq_true rfl) dX6_wipe_17
theorem yz_m_type_65 (p0 : Int32) (h0 : p0 < (97 : Int32)) (h1 : p0 = (62 : Int32)) : p0 ≤ 255 := by grind
theorem yz_m_type_66 (p0 : Int32) (h0 : p0 < (97 : Int32)) (h1 : p0 = (62 : Int32)) : (p0 = 62 ∨ p0 = 61 ∨ (97 ≤ p0 ∧ p0 ≤ 106)) := by grind
theorem yz_m_type_67 (p0 : Int32) (h0 : p0 < (97 : Int32)) (h1 : ¬ p0 = (62 : Int32)) (h2 : ¬ p0 = (61 : Int32)) : ¬ (p0 = 62 ∨ p0 = 61 ∨ (97 ≤ p0 ∧ p0 ≤ 106)) := by grind
theorem yz_m_type_68 (p0 : Int32) (h0 : p0 < (97 : Int32)) (h1 : ¬ p0 = (62 : Int32)) (h2 : p0 = (61 : Int32)) : p0 ≤ 255 := by grind
theorem yz_m_type_69 (p0 : Int32) (h0 : p0 < (97 : Int32)) (h1 : ¬ p0 = (62 : Int32)) (h2 : p0 = (61 : Int32)) : (p0 = 62 ∨ p0 = 61 ∨ (97 ≤ p0 ∧ p0 ≤ 106)) := by grind
theorem yz_m_type_70 (p0 : Int32) (h0 : ¬ p0 < (97 : Int32)) (h1 : p0 ≤ (106 : Int32)) : p0 ≤ 255 := by grind
theorem yz_m_type_71 (p0 : Int32) (h0 : ¬ p0 < (97 : Int32)) (h1 : p0 ≤ (106 : Int32)) : (p0 = 62 ∨ p0 = 61 ∨ (97 ≤ p0 ∧ p0 ≤ 106)) := by grind
theorem yz_m_type_72 (p0 : Int32) (h0 : ¬ p0 < (97 : Int32)) (h1 : ¬ p0 ≤ (106 : Int32)) (h2 : p0 = (62 : Int32)) : p0 ≤ 255 := by grind
theorem yz_m_type_73 (p0 : Int32) (h0 : ¬ p0 < (97 : Int32)) (h1 : ¬ p0 ≤ (106 : Int32)) (h2 : p0 = (62 : Int32)) : (p0 = 62 ∨ p0 = 61 ∨ (97 ≤ p0 ∧ p0 ≤ 106)) := by grind
theorem yz_m_type_74 (p0 : Int32) (h0 : ¬ p0 < (97 : Int32)) (h1 : ¬ p0 ≤ (106 : Int32)) (h2 : ¬ p0 = (62 : Int32)) (h3 : ¬ p0 = (61 : Int32)) : ¬ (p0 = 62 ∨ p0 = 61 ∨ (97 ≤ p0 ∧ p0 ≤ 106)) := by grind
theorem yz_m_type_75 (p0 : Int32) (h0 : ¬ p0 < (97 : Int32)) (h1 : ¬ p0 ≤ (106 : Int32)) (h2 : ¬ p0 = (62 : Int32)) (h3 : p0 = (61 : Int32)) : p0 ≤ 255 := by grind
theorem yz_m_type_76 (p0 : Int32) (h0 : ¬ p0 < (97 : Int32)) (h1 : ¬ p0 ≤ (106 : Int32)) (h2 : ¬ p0 = (62 : Int32)) (h3 : p0 = (61 : Int32)) : (p0 = 62 ∨ p0 = 61 ∨ (97 ≤ p0 ∧ p0 ≤ 106)) := by grind
theorem iX6_type_X6 : ∀ w ∈ wsX60, w ∈ wsX6_type := by decide +kernel
theorem kX6_type_1 : Cond.fieldLink RX6 34 "MostwellModel" "typed" "Ljava/lang/StringBuilder;" ∈ wsX6_type := List.mem_of_getElem? (i := 1) (by decide +kernel)
set_option maxHeartbeats 4000000 in
set_option maxRecDepth 100000 in
theorem m_type (l : Launch) (hfl : l.stackTraces = false) (D : va_G) (tE : Nat) (sz : Nat) (m0 : Nat) (m1 : Nat) (m2 : Nat) (m3 : Nat) (m4 : Nat) (m5 : Nat) (m6 : Nat) (v0 : Nat) (ml : Int32) (cB : ClassId) (fv : Nat → Int32) (th : Int32) (p0 : Int32) (A : Nat → Prop) (hA0 : A = va_A [(m0, .inr (12, [.ref m1, .ref m2, .ref m3, .ref m4, .ref m5, .ref m6, .int 0, .int 0, .int th])), (m6, .inr (1, [.ref v0, .int 0, .int ml, .int 0])), (v0, .inl (cB, 16, .inl (fv)))] sz) : Met l yX6_type wsX6_type (yR 3 0 0) (yP D tE [(m0, .inr (12, [.ref m1, .ref m2, .ref m3, .ref m4, .ref m5, .ref m6, .int 0, .int 0, .int th])), (m6, .inr (1, [.ref v0, .int 0, .int ml, .int 0])), (v0, .inl (cB, 16, .inl (fv)))] [(cB, .byte)] sz [.ref m0, .int p0]) (va_Qi (S := Int32) (fun (r : Int32) (u : Int32) => (r = 1 ∧ u = 0 ∧ (p0 = 62 ∨ p0 = 61 ∨ (97 ≤ p0 ∧ p0 ≤ 106))) ∨ (r = 0 ∧ u = 1 ∧ ¬ (p0 = 62 ∨ p0 = 61 ∨ (97 ≤ p0 ∧ p0 ≤ 106)))) (fun (u : Int32) (t : State) => yB D A ((fun (u : Int32) => [(m0, .inr (12, [.ref m1, .ref m2, .ref m3, .ref m4, .ref m5, .ref m6, .int 0, .int 0, .int u]))]) u) t) A) 0 0 A := by
  refine Met.ofW (cc := cX6_type) (maxL := 2) (ret := (some .int)) (by decide) rfl ?_
  intro p e s m args below meth c s₁ B hml hv
  obtain ⟨rfl, rfl, hP, hK, hD, hE, hA⟩ := y_start hA0 hv
  have hx := B.exec
  have hb := B.bytes
  have hr := B.returns
  have hts := atoms_spec (ws := wsX6_type) B.pre
  have hown : s.vm.findClass RX6 = some m.cls := findClass_of_methodNamed B.named
  have hlocks := B.notSynchronized
  clear hA0 hv
  have hS : va_S A s.heap s.heap [] := va_S.rf
  have hl := lv_entry ([.ref m0, .int p0]) (n := 2) (Nat.le_of_ble_eq_true rfl)
  rw [lg_entry_eq]
  generalize (lg_sl ([.ref m0, .int p0]) ++ List.replicate (2 - (lg_sl ([.ref m0, .int p0])).length) Slot.unset).toArray = ls at hl ⊢
  have hl : lv_has ls 2 [(0, .ref m0), (1, .int p0)] := hl
  refine lv_aload_n hx hb dX6_type_0 rfl (lv_at hl 0 rfl) ?_
  refine lv_iload_n hx hb dX6_type_1 rfl (lv_at hl 1 rfl) ?_
  refine lv_bipush (v := (97)) hx hb dX6_type_2 (by decide) ?_
  refine lv_icmp_lt (tgt := 13) hx hb dX6_type_4 (by decide) (fun c_1 => ?_) (fun c_1 => ?_)
  · refine lv_iload_n hx hb dX6_type_13 rfl (lv_at hl 1 rfl) ?_
    refine lv_bipush (v := (62)) hx hb dX6_type_14 (by decide) ?_
    refine lv_icmp_eq (tgt := 25) hx hb dX6_type_16 (by decide) (fun c_2 => ?_) (fun c_2 => ?_)
    · refine lv_iconst (v := (1)) hx hb dX6_type_25 (by decide) ?_
      refine lv_goto (tgt := 30) hx hb dX6_type_26 (by decide) ?_
      refine lv_iconst (v := (1)) hx hb dX6_type_30 (by decide) ?_
      refine yc_i (wc := [(m0, .inr (12, [.ref m1, .ref m2, .ref m3, .ref m4, .ref m5, .ref m6, .int 0, .int 0, .int th]))]) (wr := [(m6, .inr (1, [.ref v0, .int 0, .int ml, .int 0])), (v0, .inl (cB, 16, .inl (fv)))]) (va_runV (As := [.int 1, .int 1]) (rest := []) ⟨hx, hb, hml, hown, hts⟩ (g_no1 l hfl D tE s.heap.size m0 m1 m2 m3 m4 m5 m6 0 0 th 1 (va_A [(m0, .inr (12, [.ref m1, .ref m2, .ref m3, .ref m4, .ref m5, .ref m6, .int 0, .int 0, .int th]))] s.heap.size) rfl) (cwV 2 hts gX6_type_X6_no rfl rfl rfl (by decide +kernel) ⟨Nat.le_of_ble_eq_true rfl, Nat.le_of_ble_eq_true rfl⟩) (yPreV (wc := [(m0, .inr (12, [.ref m1, .ref m2, .ref m3, .ref m4, .ref m5, .ref m6, .int 0, .int 0, .int th]))]) (tc := []) hK hP hD hS hA hE [0] [] (by decide) rfl rfl (ci := 12) (q0 := 0) (q := (RX6, TX6, 9)) rfl rfl) rfl rfl hl.1 rfl (lv_room (Nat.le_of_ble_eq_true rfl)) dX6_type_31 ⟨Nat.le_of_ble_eq_true rfl, Nat.le_of_ble_eq_true rfl⟩) hP hD hS hA [0] [1, 2] rfl rfl (by decide) (by decide) (fun r_3 u_4 H locs hw hP hD hS => ?_)
      have hP : va_P D vwCl [(m6, .inr (1, [.ref v0, .int 0, .int ml, .int 0])), (v0, .inl (cB, 16, .inl (fv))), (m0, .inr (12, [.ref m1, .ref m2, .ref m3, .ref m4, .ref m5, .ref m6, .int 0, .int 0, .int 0]))] H := hP
      have hD : va_D A [(m6, .inr (1, [.ref v0, .int 0, .int ml, .int 0])), (v0, .inl (cB, 16, .inl (fv))), (m0, .inr (12, [.ref m1, .ref m2, .ref m3, .ref m4, .ref m5, .ref m6, .int 0, .int 0, .int 0]))] := hD
      have hw : r_3 = 0 := hw
      subst hw
      refine lv_if_ne (tgt := 62) hx hb dX6_type_34 (by decide) (fun h => absurd h (by decide)) (fun _ => ?_)
      refine lv_aload_n hx hb dX6_type_37 rfl (lv_at hl 0 rfl) ?_
      refine lv_aload_n hx hb dX6_type_38 rfl (lv_at hl 0 rfl) ?_
      refine va_get (D := D) (ci := 12) (v := .ref m6) (C := RX6) (T := TX6) (N := 9) hx hb hts iX6_type_X6 hown hK hP 2 rfl rfl 5 (by decide) (hts _ kX6_type_1) (fun _ h9 => h9) rfl dX6_type_39 ?_
      refine yc_i (wc := [(m6, .inr (1, [.ref v0, .int 0, .int ml, .int 0]))]) (wr := [(v0, .inl (cB, 16, .inl (fv))), (m0, .inr (12, [.ref m1, .ref m2, .ref m3, .ref m4, .ref m5, .ref m6, .int 0, .int 0, .int 0]))]) (va_runV (As := []) (rest := [.ref m0]) ⟨hx, hb, hml, hown, hts⟩ (s4_len l hfl D tE H.size m6 v0 ml 0 (va_A [(m6, .inr (1, [.ref v0, .int 0, .int ml, .int 0]))] H.size) rfl) (cwV 0 hts gX6_type_J4_length_8abf5 rfl rfl rfl (by decide +kernel) ⟨Nat.le_of_ble_eq_true rfl, Nat.le_of_ble_eq_true rfl⟩) (yPreV (wc := [(m6, .inr (1, [.ref v0, .int 0, .int ml, .int 0]))]) (tc := []) hK hP hD hS hA hE [0] [] (by decide) rfl rfl (ci := 1) (q0 := 0) (q := (RJ4, TJ4, 4)) rfl rfl) rfl rfl hl.1 rfl (lv_room (Nat.le_of_ble_eq_true rfl)) dX6_type_42 ⟨Nat.le_of_ble_eq_true rfl, Nat.le_of_ble_eq_true rfl⟩) hP hD hS hA [0] [1, 2] rfl rfl (by decide) (by decide) (fun r_5 u_6 H locs hw hP hD hS => ?_)
      have hP : va_P D vwCl [(v0, .inl (cB, 16, .inl (fv))), (m0, .inr (12, [.ref m1, .ref m2, .ref m3, .ref m4, .ref m5, .ref m6, .int 0, .int 0, .int 0])), (m6, .inr (1, [.ref v0, .int 0, .int ml, .int 0]))] H := hP
      have hD : va_D A [(v0, .inl (cB, 16, .inl (fv))), (m0, .inr (12, [.ref m1, .ref m2, .ref m3, .ref m4, .ref m5, .ref m6, .int 0, .int 0, .int 0])), (m6, .inr (1, [.ref v0, .int 0, .int ml, .int 0]))] := hD
      have hw : r_5 = 0 := hw
      subst hw
      refine lv_bipush (v := (20)) hx hb dX6_type_45 (by decide) ?_
      refine lv_icmp_ge (tgt := 54) hx hb dX6_type_47 (by decide) (fun h => absurd h (by decide)) (fun _ => ?_)
      refine lv_iconst (v := (1)) hx hb dX6_type_50 (by decide) ?_
      refine lv_goto (tgt := 55) hx hb dX6_type_51 (by decide) ?_
      refine lv_iconst (v := (2)) hx hb dX6_type_55 (by decide) ?_
      refine yc_i (wc := [(m0, .inr (12, [.ref m1, .ref m2, .ref m3, .ref m4, .ref m5, .ref m6, .int 0, .int 0, .int 0]))]) (wr := [(v0, .inl (cB, 16, .inl (fv))), (m6, .inr (1, [.ref v0, .int 0, .int ml, .int 0]))]) (va_runV (As := [.int 1, .int 2]) (rest := []) ⟨hx, hb, hml, hown, hts⟩ (g_no1 l hfl D tE H.size m0 m1 m2 m3 m4 m5 m6 0 0 0 2 (va_A [(m0, .inr (12, [.ref m1, .ref m2, .ref m3, .ref m4, .ref m5, .ref m6, .int 0, .int 0, .int 0]))] H.size) rfl) (cwV 2 hts gX6_type_X6_no rfl rfl rfl (by decide +kernel) ⟨Nat.le_of_ble_eq_true rfl, Nat.le_of_ble_eq_true rfl⟩) (yPreV (wc := [(m0, .inr (12, [.ref m1, .ref m2, .ref m3, .ref m4, .ref m5, .ref m6, .int 0, .int 0, .int 0]))]) (tc := []) hK hP hD hS hA hE [1] [] (by decide) rfl rfl (ci := 12) (q0 := 1) (q := (RX6, TX6, 9)) rfl rfl) rfl rfl hl.1 rfl (lv_room (Nat.le_of_ble_eq_true rfl)) dX6_type_56 ⟨Nat.le_of_ble_eq_true rfl, Nat.le_of_ble_eq_true rfl⟩) hP hD hS hA [1] [0, 2] rfl rfl (by decide) (by decide) (fun r_7 u_8 H locs hw hP hD hS => ?_)
      have hP : va_P D vwCl [(v0, .inl (cB, 16, .inl (fv))), (m6, .inr (1, [.ref v0, .int 0, .int ml, .int 0])), (m0, .inr (12, [.ref m1, .ref m2, .ref m3, .ref m4, .ref m5, .ref m6, .int 0, .int 0, .int 0]))] H := hP
      have hD : va_D A [(v0, .inl (cB, 16, .inl (fv))), (m6, .inr (1, [.ref v0, .int 0, .int ml, .int 0])), (m0, .inr (12, [.ref m1, .ref m2, .ref m3, .ref m4, .ref m5, .ref m6, .int 0, .int 0, .int 0]))] := hD
      have hw : r_7 = 0 := hw
      subst hw
      refine lv_if_eq (tgt := 64) hx hb dX6_type_59 (by decide) (fun _ => ?_) (fun h => absurd h (by decide))
      refine lv_aload_n hx hb dX6_type_64 rfl (lv_at hl 0 rfl) ?_
      refine va_get (D := D) (ci := 12) (v := .ref m6) (C := RX6) (T := TX6) (N := 9) hx hb hts iX6_type_X6 hown hK hP 2 rfl rfl 5 (by decide) (hts _ kX6_type_1) (fun _ h9 => h9) rfl dX6_type_65 ?_
      refine lv_iload_n hx hb dX6_type_68 rfl (lv_at hl 1 rfl) ?_
      refine yc_r (wc := [(m6, .inr (1, [.ref v0, .int 0, .int ml, .int 0])), (v0, .inl (cB, 16, .inl (fv)))]) (wr := [(m0, .inr (12, [.ref m1, .ref m2, .ref m3, .ref m4, .ref m5, .ref m6, .int 0, .int 0, .int 0]))]) (va_runV (As := [.int p0]) (rest := []) ⟨hx, hb, hml, hown, hts⟩ (s4_app l hfl D tE H.size m6 v0 ml cB fv p0 (yz_m_type_65 p0 c_1 c_2) (va_A [(m6, .inr (1, [.ref v0, .int 0, .int ml, .int 0])), (v0, .inl (cB, 16, .inl (fv)))] H.size) rfl) (cwV 1 hts gX6_type_J4_append_cf468 rfl rfl rfl (by decide +kernel) ⟨Nat.le_of_ble_eq_true rfl, Nat.le_of_ble_eq_true rfl⟩) (yPreV (wc := [(m6, .inr (1, [.ref v0, .int 0, .int ml, .int 0])), (v0, .inl (cB, 16, .inl (fv)))]) (tc := [(cB, .byte)]) hK hP hD hS hA hE [1, 0] [0] (by decide) rfl rfl (ci := 1) (q0 := 1) (q := (RJ4, TJ4, 4)) rfl rfl) rfl rfl hl.1 rfl (lv_room (Nat.le_of_ble_eq_true rfl)) dX6_type_69 ⟨Nat.le_of_ble_eq_true rfl, Nat.le_of_ble_eq_true rfl⟩) hP hD hS hA [1, 0] [2] rfl rfl (by decide) (by decide) (fun r_9 u_10 H locs hw hP hD hS => ?_)
      have hP : va_P D vwCl [(m0, .inr (12, [.ref m1, .ref m2, .ref m3, .ref m4, .ref m5, .ref m6, .int 0, .int 0, .int 0])), (m6, .inr (1, [.ref v0, .int 0, .int ml, .int 1]))] H := hP
      have hD : va_D A [(m0, .inr (12, [.ref m1, .ref m2, .ref m3, .ref m4, .ref m5, .ref m6, .int 0, .int 0, .int 0])), (m6, .inr (1, [.ref v0, .int 0, .int ml, .int 1]))] := hD
      refine lv_pop hx hb dX6_type_72 rfl ?_
      refine lv_aload_n hx hb dX6_type_73 rfl (lv_at hl 0 rfl) ?_
      refine va_get (D := D) (ci := 12) (v := .ref m6) (C := RX6) (T := TX6) (N := 9) hx hb hts iX6_type_X6 hown hK hP 0 rfl rfl 5 (by decide) (hts _ kX6_type_1) (fun _ h9 => h9) rfl dX6_type_74 ?_
      refine yc_i (wc := [(m6, .inr (1, [.ref v0, .int 0, .int ml, .int 1]))]) (wr := [(m0, .inr (12, [.ref m1, .ref m2, .ref m3, .ref m4, .ref m5, .ref m6, .int 0, .int 0, .int 0]))]) (va_runV (As := []) (rest := []) ⟨hx, hb, hml, hown, hts⟩ (s4_len l hfl D tE H.size m6 v0 ml 1 (va_A [(m6, .inr (1, [.ref v0, .int 0, .int ml, .int 1]))] H.size) rfl) (cwV 0 hts gX6_type_J4_length_8abf5 rfl rfl rfl (by decide +kernel) ⟨Nat.le_of_ble_eq_true rfl, Nat.le_of_ble_eq_true rfl⟩) (yPreV (wc := [(m6, .inr (1, [.ref v0, .int 0, .int ml, .int 1]))]) (tc := []) hK hP hD hS hA hE [1] [] (by decide) rfl rfl (ci := 1) (q0 := 1) (q := (RJ4, TJ4, 4)) rfl rfl) rfl rfl hl.1 rfl (lv_room (Nat.le_of_ble_eq_true rfl)) dX6_type_77 ⟨Nat.le_of_ble_eq_true rfl, Nat.le_of_ble_eq_true rfl⟩) hP hD hS hA [1] [0] rfl rfl (by decide) (by decide) (fun r_11 u_12 H locs hw hP hD hS => ?_)
      have hP : va_P D vwCl [(m0, .inr (12, [.ref m1, .ref m2, .ref m3, .ref m4, .ref m5, .ref m6, .int 0, .int 0, .int 0])), (m6, .inr (1, [.ref v0, .int 0, .int ml, .int 1]))] H := hP
      have hD : va_D A [(m0, .inr (12, [.ref m1, .ref m2, .ref m3, .ref m4, .ref m5, .ref m6, .int 0, .int 0, .int 0])), (m6, .inr (1, [.ref v0, .int 0, .int ml, .int 1]))] := hD
      have hw : r_11 = 1 := hw
      subst hw
      exact y_iret hx hb hr hlocks (0 : Int32) (Or.inl ⟨rfl, rfl, (yz_m_type_66 p0 c_1 c_2)⟩) (hP.sub [0] rfl) (hD.sub [0] (by decide) rfl) hS (Nat.le_of_ble_eq_true rfl) (Nat.le_of_ble_eq_true rfl) dX6_type_80
    · refine lv_iload_n hx hb dX6_type_19 rfl (lv_at hl 1 rfl) ?_
      refine lv_bipush (v := (61)) hx hb dX6_type_20 (by decide) ?_
      refine lv_icmp_ne (tgt := 29) hx hb dX6_type_22 (by decide) (fun c_13 => ?_) (fun c_13 => ?_)
      · refine lv_iconst (v := (0)) hx hb dX6_type_29 (by decide) ?_
        refine lv_iconst (v := (1)) hx hb dX6_type_30 (by decide) ?_
        refine yc_i (wc := [(m0, .inr (12, [.ref m1, .ref m2, .ref m3, .ref m4, .ref m5, .ref m6, .int 0, .int 0, .int th]))]) (wr := [(m6, .inr (1, [.ref v0, .int 0, .int ml, .int 0])), (v0, .inl (cB, 16, .inl (fv)))]) (va_runV (As := [.int 0, .int 1]) (rest := []) ⟨hx, hb, hml, hown, hts⟩ (g_no0 l hfl D tE s.heap.size m0 m1 m2 m3 m4 m5 m6 0 0 th 1 (va_A [(m0, .inr (12, [.ref m1, .ref m2, .ref m3, .ref m4, .ref m5, .ref m6, .int 0, .int 0, .int th]))] s.heap.size) rfl) (cwV 2 hts gX6_type_X6_no rfl rfl rfl (by decide +kernel) ⟨Nat.le_of_ble_eq_true rfl, Nat.le_of_ble_eq_true rfl⟩) (yPreV (wc := [(m0, .inr (12, [.ref m1, .ref m2, .ref m3, .ref m4, .ref m5, .ref m6, .int 0, .int 0, .int th]))]) (tc := []) hK hP hD hS hA hE [0] [] (by decide) rfl rfl (ci := 12) (q0 := 0) (q := (RX6, TX6, 9)) rfl rfl) rfl rfl hl.1 rfl (lv_room (Nat.le_of_ble_eq_true rfl)) dX6_type_31 ⟨Nat.le_of_ble_eq_true rfl, Nat.le_of_ble_eq_true rfl⟩) hP hD hS hA [0] [1, 2] rfl rfl (by decide) (by decide) (fun r_14 u_15 H locs hw hP hD hS => ?_)
        have hP : va_P D vwCl [(m6, .inr (1, [.ref v0, .int 0, .int ml, .int 0])), (v0, .inl (cB, 16, .inl (fv))), (m0, .inr (12, [.ref m1, .ref m2, .ref m3, .ref m4, .ref m5, .ref m6, .int 0, .int 0, .int 1]))] H := hP
        have hD : va_D A [(m6, .inr (1, [.ref v0, .int 0, .int ml, .int 0])), (v0, .inl (cB, 16, .inl (fv))), (m0, .inr (12, [.ref m1, .ref m2, .ref m3, .ref m4, .ref m5, .ref m6, .int 0, .int 0, .int 1]))] := hD
        have hw : r_14 = 1 := hw
        subst hw
        refine lv_if_ne (tgt := 62) hx hb dX6_type_34 (by decide) (fun _ => ?_) (fun h => absurd h (by decide))
        refine lv_iconst (v := (0)) hx hb dX6_type_62 (by decide) ?_
        exact y_iret hx hb hr hlocks (1 : Int32) (Or.inr ⟨rfl, rfl, (yz_m_type_67 p0 c_1 c_2 c_13)⟩) (hP.sub [2] rfl) (hD.sub [2] (by decide) rfl) hS (Nat.le_of_ble_eq_true rfl) (Nat.le_of_ble_eq_true rfl) dX6_type_63
      · refine lv_iconst (v := (1)) hx hb dX6_type_25 (by decide) ?_
        refine lv_goto (tgt := 30) hx hb dX6_type_26 (by decide) ?_
        refine lv_iconst (v := (1)) hx hb dX6_type_30 (by decide) ?_
        refine yc_i (wc := [(m0, .inr (12, [.ref m1, .ref m2, .ref m3, .ref m4, .ref m5, .ref m6, .int 0, .int 0, .int th]))]) (wr := [(m6, .inr (1, [.ref v0, .int 0, .int ml, .int 0])), (v0, .inl (cB, 16, .inl (fv)))]) (va_runV (As := [.int 1, .int 1]) (rest := []) ⟨hx, hb, hml, hown, hts⟩ (g_no1 l hfl D tE s.heap.size m0 m1 m2 m3 m4 m5 m6 0 0 th 1 (va_A [(m0, .inr (12, [.ref m1, .ref m2, .ref m3, .ref m4, .ref m5, .ref m6, .int 0, .int 0, .int th]))] s.heap.size) rfl) (cwV 2 hts gX6_type_X6_no rfl rfl rfl (by decide +kernel) ⟨Nat.le_of_ble_eq_true rfl, Nat.le_of_ble_eq_true rfl⟩) (yPreV (wc := [(m0, .inr (12, [.ref m1, .ref m2, .ref m3, .ref m4, .ref m5, .ref m6, .int 0, .int 0, .int th]))]) (tc := []) hK hP hD hS hA hE [0] [] (by decide) rfl rfl (ci := 12) (q0 := 0) (q := (RX6, TX6, 9)) rfl rfl) rfl rfl hl.1 rfl (lv_room (Nat.le_of_ble_eq_true rfl)) dX6_type_31 ⟨Nat.le_of_ble_eq_true rfl, Nat.le_of_ble_eq_true rfl⟩) hP hD hS hA [0] [1, 2] rfl rfl (by decide) (by decide) (fun r_16 u_17 H locs hw hP hD hS => ?_)
        have hP : va_P D vwCl [(m6, .inr (1, [.ref v0, .int 0, .int ml, .int 0])), (v0, .inl (cB, 16, .inl (fv))), (m0, .inr (12, [.ref m1, .ref m2, .ref m3, .ref m4, .ref m5, .ref m6, .int 0, .int 0, .int 0]))] H := hP
        have hD : va_D A [(m6, .inr (1, [.ref v0, .int 0, .int ml, .int 0])), (v0, .inl (cB, 16, .inl (fv))), (m0, .inr (12, [.ref m1, .ref m2, .ref m3, .ref m4, .ref m5, .ref m6, .int 0, .int 0, .int 0]))] := hD
        have hw : r_16 = 0 := hw
        subst hw
        refine lv_if_ne (tgt := 62) hx hb dX6_type_34 (by decide) (fun h => absurd h (by decide)) (fun _ => ?_)
        refine lv_aload_n hx hb dX6_type_37 rfl (lv_at hl 0 rfl) ?_
        refine lv_aload_n hx hb dX6_type_38 rfl (lv_at hl 0 rfl) ?_
        refine va_get (D := D) (ci := 12) (v := .ref m6) (C := RX6) (T := TX6) (N := 9) hx hb hts iX6_type_X6 hown hK hP 2 rfl rfl 5 (by decide) (hts _ kX6_type_1) (fun _ h9 => h9) rfl dX6_type_39 ?_
        refine yc_i (wc := [(m6, .inr (1, [.ref v0, .int 0, .int ml, .int 0]))]) (wr := [(v0, .inl (cB, 16, .inl (fv))), (m0, .inr (12, [.ref m1, .ref m2, .ref m3, .ref m4, .ref m5, .ref m6, .int 0, .int 0, .int 0]))]) (va_runV (As := []) (rest := [.ref m0]) ⟨hx, hb, hml, hown, hts⟩ (s4_len l hfl D tE H.size m6 v0 ml 0 (va_A [(m6, .inr (1, [.ref v0, .int 0, .int ml, .int 0]))] H.size) rfl) (cwV 0 hts gX6_type_J4_length_8abf5 rfl rfl rfl (by decide +kernel) ⟨Nat.le_of_ble_eq_true rfl, Nat.le_of_ble_eq_true rfl⟩) (yPreV (wc := [(m6, .inr (1, [.ref v0, .int 0, .int ml, .int 0]))]) (tc := []) hK hP hD hS hA hE [0] [] (by decide) rfl rfl (ci := 1) (q0 := 0) (q := (RJ4, TJ4, 4)) rfl rfl) rfl rfl hl.1 rfl (lv_room (Nat.le_of_ble_eq_true rfl)) dX6_type_42 ⟨Nat.le_of_ble_eq_true rfl, Nat.le_of_ble_eq_true rfl⟩) hP hD hS hA [0] [1, 2] rfl rfl (by decide) (by decide) (fun r_18 u_19 H locs hw hP hD hS => ?_)
        have hP : va_P D vwCl [(v0, .inl (cB, 16, .inl (fv))), (m0, .inr (12, [.ref m1, .ref m2, .ref m3, .ref m4, .ref m5, .ref m6, .int 0, .int 0, .int 0])), (m6, .inr (1, [.ref v0, .int 0, .int ml, .int 0]))] H := hP
        have hD : va_D A [(v0, .inl (cB, 16, .inl (fv))), (m0, .inr (12, [.ref m1, .ref m2, .ref m3, .ref m4, .ref m5, .ref m6, .int 0, .int 0, .int 0])), (m6, .inr (1, [.ref v0, .int 0, .int ml, .int 0]))] := hD
        have hw : r_18 = 0 := hw
        subst hw
        refine lv_bipush (v := (20)) hx hb dX6_type_45 (by decide) ?_
        refine lv_icmp_ge (tgt := 54) hx hb dX6_type_47 (by decide) (fun h => absurd h (by decide)) (fun _ => ?_)
        refine lv_iconst (v := (1)) hx hb dX6_type_50 (by decide) ?_
        refine lv_goto (tgt := 55) hx hb dX6_type_51 (by decide) ?_
        refine lv_iconst (v := (2)) hx hb dX6_type_55 (by decide) ?_
        refine yc_i (wc := [(m0, .inr (12, [.ref m1, .ref m2, .ref m3, .ref m4, .ref m5, .ref m6, .int 0, .int 0, .int 0]))]) (wr := [(v0, .inl (cB, 16, .inl (fv))), (m6, .inr (1, [.ref v0, .int 0, .int ml, .int 0]))]) (va_runV (As := [.int 1, .int 2]) (rest := []) ⟨hx, hb, hml, hown, hts⟩ (g_no1 l hfl D tE H.size m0 m1 m2 m3 m4 m5 m6 0 0 0 2 (va_A [(m0, .inr (12, [.ref m1, .ref m2, .ref m3, .ref m4, .ref m5, .ref m6, .int 0, .int 0, .int 0]))] H.size) rfl) (cwV 2 hts gX6_type_X6_no rfl rfl rfl (by decide +kernel) ⟨Nat.le_of_ble_eq_true rfl, Nat.le_of_ble_eq_true rfl⟩) (yPreV (wc := [(m0, .inr (12, [.ref m1, .ref m2, .ref m3, .ref m4, .ref m5, .ref m6, .int 0, .int 0, .int 0]))]) (tc := []) hK hP hD hS hA hE [1] [] (by decide) rfl rfl (ci := 12) (q0 := 1) (q := (RX6, TX6, 9)) rfl rfl) rfl rfl hl.1 rfl (lv_room (Nat.le_of_ble_eq_true rfl)) dX6_type_56 ⟨Nat.le_of_ble_eq_true rfl, Nat.le_of_ble_eq_true rfl⟩) hP hD hS hA [1] [0, 2] rfl rfl (by decide) (by decide) (fun r_20 u_21 H locs hw hP hD hS => ?_)
        have hP : va_P D vwCl [(v0, .inl (cB, 16, .inl (fv))), (m6, .inr (1, [.ref v0, .int 0, .int ml, .int 0])), (m0, .inr (12, [.ref m1, .ref m2, .ref m3, .ref m4, .ref m5, .ref m6, .int 0, .int 0, .int 0]))] H := hP
        have hD : va_D A [(v0, .inl (cB, 16, .inl (fv))), (m6, .inr (1, [.ref v0, .int 0, .int ml, .int 0])), (m0, .inr (12, [.ref m1, .ref m2, .ref m3, .ref m4, .ref m5, .ref m6, .int 0, .int 0, .int 0]))] := hD
        have hw : r_20 = 0 := hw
        subst hw
        refine lv_if_eq (tgt := 64) hx hb dX6_type_59 (by decide) (fun _ => ?_) (fun h => absurd h (by decide))
        refine lv_aload_n hx hb dX6_type_64 rfl (lv_at hl 0 rfl) ?_
        refine va_get (D := D) (ci := 12) (v := .ref m6) (C := RX6) (T := TX6) (N := 9) hx hb hts iX6_type_X6 hown hK hP 2 rfl rfl 5 (by decide) (hts _ kX6_type_1) (fun _ h9 => h9) rfl dX6_type_65 ?_
        refine lv_iload_n hx hb dX6_type_68 rfl (lv_at hl 1 rfl) ?_
        refine yc_r (wc := [(m6, .inr (1, [.ref v0, .int 0, .int ml, .int 0])), (v0, .inl (cB, 16, .inl (fv)))]) (wr := [(m0, .inr (12, [.ref m1, .ref m2, .ref m3, .ref m4, .ref m5, .ref m6, .int 0, .int 0, .int 0]))]) (va_runV (As := [.int p0]) (rest := []) ⟨hx, hb, hml, hown, hts⟩ (s4_app l hfl D tE H.size m6 v0 ml cB fv p0 (yz_m_type_68 p0 c_1 c_2 c_13) (va_A [(m6, .inr (1, [.ref v0, .int 0, .int ml, .int 0])), (v0, .inl (cB, 16, .inl (fv)))] H.size) rfl) (cwV 1 hts gX6_type_J4_append_cf468 rfl rfl rfl (by decide +kernel) ⟨Nat.le_of_ble_eq_true rfl, Nat.le_of_ble_eq_true rfl⟩) (yPreV (wc := [(m6, .inr (1, [.ref v0, .int 0, .int ml, .int 0])), (v0, .inl (cB, 16, .inl (fv)))]) (tc := [(cB, .byte)]) hK hP hD hS hA hE [1, 0] [0] (by decide) rfl rfl (ci := 1) (q0 := 1) (q := (RJ4, TJ4, 4)) rfl rfl) rfl rfl hl.1 rfl (lv_room (Nat.le_of_ble_eq_true rfl)) dX6_type_69 ⟨Nat.le_of_ble_eq_true rfl, Nat.le_of_ble_eq_true rfl⟩) hP hD hS hA [1, 0] [2] rfl rfl (by decide) (by decide) (fun r_22 u_23 H locs hw hP hD hS => ?_)
        have hP : va_P D vwCl [(m0, .inr (12, [.ref m1, .ref m2, .ref m3, .ref m4, .ref m5, .ref m6, .int 0, .int 0, .int 0])), (m6, .inr (1, [.ref v0, .int 0, .int ml, .int 1]))] H := hP
        have hD : va_D A [(m0, .inr (12, [.ref m1, .ref m2, .ref m3, .ref m4, .ref m5, .ref m6, .int 0, .int 0, .int 0])), (m6, .inr (1, [.ref v0, .int 0, .int ml, .int 1]))] := hD
        refine lv_pop hx hb dX6_type_72 rfl ?_
        refine lv_aload_n hx hb dX6_type_73 rfl (lv_at hl 0 rfl) ?_
        refine va_get (D := D) (ci := 12) (v := .ref m6) (C := RX6) (T := TX6) (N := 9) hx hb hts iX6_type_X6 hown hK hP 0 rfl rfl 5 (by decide) (hts _ kX6_type_1) (fun _ h9 => h9) rfl dX6_type_74 ?_
        refine yc_i (wc := [(m6, .inr (1, [.ref v0, .int 0, .int ml, .int 1]))]) (wr := [(m0, .inr (12, [.ref m1, .ref m2, .ref m3, .ref m4, .ref m5, .ref m6, .int 0, .int 0, .int 0]))]) (va_runV (As := []) (rest := []) ⟨hx, hb, hml, hown, hts⟩ (s4_len l hfl D tE H.size m6 v0 ml 1 (va_A [(m6, .inr (1, [.ref v0, .int 0, .int ml, .int 1]))] H.size) rfl) (cwV 0 hts gX6_type_J4_length_8abf5 rfl rfl rfl (by decide +kernel) ⟨Nat.le_of_ble_eq_true rfl, Nat.le_of_ble_eq_true rfl⟩) (yPreV (wc := [(m6, .inr (1, [.ref v0, .int 0, .int ml, .int 1]))]) (tc := []) hK hP hD hS hA hE [1] [] (by decide) rfl rfl (ci := 1) (q0 := 1) (q := (RJ4, TJ4, 4)) rfl rfl) rfl rfl hl.1 rfl (lv_room (Nat.le_of_ble_eq_true rfl)) dX6_type_77 ⟨Nat.le_of_ble_eq_true rfl, Nat.le_of_ble_eq_true rfl⟩) hP hD hS hA [1] [0] rfl rfl (by decide) (by decide) (fun r_24 u_25 H locs hw hP hD hS => ?_)
        have hP : va_P D vwCl [(m0, .inr (12, [.ref m1, .ref m2, .ref m3, .ref m4, .ref m5, .ref m6, .int 0, .int 0, .int 0])), (m6, .inr (1, [.ref v0, .int 0, .int ml, .int 1]))] H := hP
        have hD : va_D A [(m0, .inr (12, [.ref m1, .ref m2, .ref m3, .ref m4, .ref m5, .ref m6, .int 0, .int 0, .int 0])), (m6, .inr (1, [.ref v0, .int 0, .int ml, .int 1]))] := hD
        have hw : r_24 = 1 := hw
        subst hw
        exact y_iret hx hb hr hlocks (0 : Int32) (Or.inl ⟨rfl, rfl, (yz_m_type_69 p0 c_1 c_2 c_13)⟩) (hP.sub [0] rfl) (hD.sub [0] (by decide) rfl) hS (Nat.le_of_ble_eq_true rfl) (Nat.le_of_ble_eq_true rfl) dX6_type_80
  · refine lv_iload_n hx hb dX6_type_7 rfl (lv_at hl 1 rfl) ?_
    refine lv_bipush (v := (106)) hx hb dX6_type_8 (by decide) ?_
    refine lv_icmp_le (tgt := 25) hx hb dX6_type_10 (by decide) (fun c_26 => ?_) (fun c_26 => ?_)
    · refine lv_iconst (v := (1)) hx hb dX6_type_25 (by decide) ?_
      refine lv_goto (tgt := 30) hx hb dX6_type_26 (by decide) ?_
      refine lv_iconst (v := (1)) hx hb dX6_type_30 (by decide) ?_
      refine yc_i (wc := [(m0, .inr (12, [.ref m1, .ref m2, .ref m3, .ref m4, .ref m5, .ref m6, .int 0, .int 0, .int th]))]) (wr := [(m6, .inr (1, [.ref v0, .int 0, .int ml, .int 0])), (v0, .inl (cB, 16, .inl (fv)))]) (va_runV (As := [.int 1, .int 1]) (rest := []) ⟨hx, hb, hml, hown, hts⟩ (g_no1 l hfl D tE s.heap.size m0 m1 m2 m3 m4 m5 m6 0 0 th 1 (va_A [(m0, .inr (12, [.ref m1, .ref m2, .ref m3, .ref m4, .ref m5, .ref m6, .int 0, .int 0, .int th]))] s.heap.size) rfl) (cwV 2 hts gX6_type_X6_no rfl rfl rfl (by decide +kernel) ⟨Nat.le_of_ble_eq_true rfl, Nat.le_of_ble_eq_true rfl⟩) (yPreV (wc := [(m0, .inr (12, [.ref m1, .ref m2, .ref m3, .ref m4, .ref m5, .ref m6, .int 0, .int 0, .int th]))]) (tc := []) hK hP hD hS hA hE [0] [] (by decide) rfl rfl (ci := 12) (q0 := 0) (q := (RX6, TX6, 9)) rfl rfl) rfl rfl hl.1 rfl (lv_room (Nat.le_of_ble_eq_true rfl)) dX6_type_31 ⟨Nat.le_of_ble_eq_true rfl, Nat.le_of_ble_eq_true rfl⟩) hP hD hS hA [0] [1, 2] rfl rfl (by decide) (by decide) (fun r_27 u_28 H locs hw hP hD hS => ?_)
      have hP : va_P D vwCl [(m6, .inr (1, [.ref v0, .int 0, .int ml, .int 0])), (v0, .inl (cB, 16, .inl (fv))), (m0, .inr (12, [.ref m1, .ref m2, .ref m3, .ref m4, .ref m5, .ref m6, .int 0, .int 0, .int 0]))] H := hP
      have hD : va_D A [(m6, .inr (1, [.ref v0, .int 0, .int ml, .int 0])), (v0, .inl (cB, 16, .inl (fv))), (m0, .inr (12, [.ref m1, .ref m2, .ref m3, .ref m4, .ref m5, .ref m6, .int 0, .int 0, .int 0]))] := hD
      have hw : r_27 = 0 := hw
      subst hw
      refine lv_if_ne (tgt := 62) hx hb dX6_type_34 (by decide) (fun h => absurd h (by decide)) (fun _ => ?_)
      refine lv_aload_n hx hb dX6_type_37 rfl (lv_at hl 0 rfl) ?_
      refine lv_aload_n hx hb dX6_type_38 rfl (lv_at hl 0 rfl) ?_
      refine va_get (D := D) (ci := 12) (v := .ref m6) (C := RX6) (T := TX6) (N := 9) hx hb hts iX6_type_X6 hown hK hP 2 rfl rfl 5 (by decide) (hts _ kX6_type_1) (fun _ h9 => h9) rfl dX6_type_39 ?_
      refine yc_i (wc := [(m6, .inr (1, [.ref v0, .int 0, .int ml, .int 0]))]) (wr := [(v0, .inl (cB, 16, .inl (fv))), (m0, .inr (12, [.ref m1, .ref m2, .ref m3, .ref m4, .ref m5, .ref m6, .int 0, .int 0, .int 0]))]) (va_runV (As := []) (rest := [.ref m0]) ⟨hx, hb, hml, hown, hts⟩ (s4_len l hfl D tE H.size m6 v0 ml 0 (va_A [(m6, .inr (1, [.ref v0, .int 0, .int ml, .int 0]))] H.size) rfl) (cwV 0 hts gX6_type_J4_length_8abf5 rfl rfl rfl (by decide +kernel) ⟨Nat.le_of_ble_eq_true rfl, Nat.le_of_ble_eq_true rfl⟩) (yPreV (wc := [(m6, .inr (1, [.ref v0, .int 0, .int ml, .int 0]))]) (tc := []) hK hP hD hS hA hE [0] [] (by decide) rfl rfl (ci := 1) (q0 := 0) (q := (RJ4, TJ4, 4)) rfl rfl) rfl rfl hl.1 rfl (lv_room (Nat.le_of_ble_eq_true rfl)) dX6_type_42 ⟨Nat.le_of_ble_eq_true rfl, Nat.le_of_ble_eq_true rfl⟩) hP hD hS hA [0] [1, 2] rfl rfl (by decide) (by decide) (fun r_29 u_30 H locs hw hP hD hS => ?_)
      have hP : va_P D vwCl [(v0, .inl (cB, 16, .inl (fv))), (m0, .inr (12, [.ref m1, .ref m2, .ref m3, .ref m4, .ref m5, .ref m6, .int 0, .int 0, .int 0])), (m6, .inr (1, [.ref v0, .int 0, .int ml, .int 0]))] H := hP
      have hD : va_D A [(v0, .inl (cB, 16, .inl (fv))), (m0, .inr (12, [.ref m1, .ref m2, .ref m3, .ref m4, .ref m5, .ref m6, .int 0, .int 0, .int 0])), (m6, .inr (1, [.ref v0, .int 0, .int ml, .int 0]))] := hD
      have hw : r_29 = 0 := hw
      subst hw
      refine lv_bipush (v := (20)) hx hb dX6_type_45 (by decide) ?_
      refine lv_icmp_ge (tgt := 54) hx hb dX6_type_47 (by decide) (fun h => absurd h (by decide)) (fun _ => ?_)
      refine lv_iconst (v := (1)) hx hb dX6_type_50 (by decide) ?_
      refine lv_goto (tgt := 55) hx hb dX6_type_51 (by decide) ?_
      refine lv_iconst (v := (2)) hx hb dX6_type_55 (by decide) ?_
      refine yc_i (wc := [(m0, .inr (12, [.ref m1, .ref m2, .ref m3, .ref m4, .ref m5, .ref m6, .int 0, .int 0, .int 0]))]) (wr := [(v0, .inl (cB, 16, .inl (fv))), (m6, .inr (1, [.ref v0, .int 0, .int ml, .int 0]))]) (va_runV (As := [.int 1, .int 2]) (rest := []) ⟨hx, hb, hml, hown, hts⟩ (g_no1 l hfl D tE H.size m0 m1 m2 m3 m4 m5 m6 0 0 0 2 (va_A [(m0, .inr (12, [.ref m1, .ref m2, .ref m3, .ref m4, .ref m5, .ref m6, .int 0, .int 0, .int 0]))] H.size) rfl) (cwV 2 hts gX6_type_X6_no rfl rfl rfl (by decide +kernel) ⟨Nat.le_of_ble_eq_true rfl, Nat.le_of_ble_eq_true rfl⟩) (yPreV (wc := [(m0, .inr (12, [.ref m1, .ref m2, .ref m3, .ref m4, .ref m5, .ref m6, .int 0, .int 0, .int 0]))]) (tc := []) hK hP hD hS hA hE [1] [] (by decide) rfl rfl (ci := 12) (q0 := 1) (q := (RX6, TX6, 9)) rfl rfl) rfl rfl hl.1 rfl (lv_room (Nat.le_of_ble_eq_true rfl)) dX6_type_56 ⟨Nat.le_of_ble_eq_true rfl, Nat.le_of_ble_eq_true rfl⟩) hP hD hS hA [1] [0, 2] rfl rfl (by decide) (by decide) (fun r_31 u_32 H locs hw hP hD hS => ?_)
      have hP : va_P D vwCl [(v0, .inl (cB, 16, .inl (fv))), (m6, .inr (1, [.ref v0, .int 0, .int ml, .int 0])), (m0, .inr (12, [.ref m1, .ref m2, .ref m3, .ref m4, .ref m5, .ref m6, .int 0, .int 0, .int 0]))] H := hP
      have hD : va_D A [(v0, .inl (cB, 16, .inl (fv))), (m6, .inr (1, [.ref v0, .int 0, .int ml, .int 0])), (m0, .inr (12, [.ref m1, .ref m2, .ref m3, .ref m4, .ref m5, .ref m6, .int 0, .int 0, .int 0]))] := hD
      have hw : r_31 = 0 := hw
      subst hw
      refine lv_if_eq (tgt := 64) hx hb dX6_type_59 (by decide) (fun _ => ?_) (fun h => absurd h (by decide))
      refine lv_aload_n hx hb dX6_type_64 rfl (lv_at hl 0 rfl) ?_
      refine va_get (D := D) (ci := 12) (v := .ref m6) (C := RX6) (T := TX6) (N := 9) hx hb hts iX6_type_X6 hown hK hP 2 rfl rfl 5 (by decide) (hts _ kX6_type_1) (fun _ h9 => h9) rfl dX6_type_65 ?_
      refine lv_iload_n hx hb dX6_type_68 rfl (lv_at hl 1 rfl) ?_
      refine yc_r (wc := [(m6, .inr (1, [.ref v0, .int 0, .int ml, .int 0])), (v0, .inl (cB, 16, .inl (fv)))]) (wr := [(m0, .inr (12, [.ref m1, .ref m2, .ref m3, .ref m4, .ref m5, .ref m6, .int 0, .int 0, .int 0]))]) (va_runV (As := [.int p0]) (rest := []) ⟨hx, hb, hml, hown, hts⟩ (s4_app l hfl D tE H.size m6 v0 ml cB fv p0 (yz_m_type_70 p0 c_1 c_26) (va_A [(m6, .inr (1, [.ref v0, .int 0, .int ml, .int 0])), (v0, .inl (cB, 16, .inl (fv)))] H.size) rfl) (cwV 1 hts gX6_type_J4_append_cf468 rfl rfl rfl (by decide +kernel) ⟨Nat.le_of_ble_eq_true rfl, Nat.le_of_ble_eq_true rfl⟩) (yPreV (wc := [(m6, .inr (1, [.ref v0, .int 0, .int ml, .int 0])), (v0, .inl (cB, 16, .inl (fv)))]) (tc := [(cB, .byte)]) hK hP hD hS hA hE [1, 0] [0] (by decide) rfl rfl (ci := 1) (q0 := 1) (q := (RJ4, TJ4, 4)) rfl rfl) rfl rfl hl.1 rfl (lv_room (Nat.le_of_ble_eq_true rfl)) dX6_type_69 ⟨Nat.le_of_ble_eq_true rfl, Nat.le_of_ble_eq_true rfl⟩) hP hD hS hA [1, 0] [2] rfl rfl (by decide) (by decide) (fun r_33 u_34 H locs hw hP hD hS => ?_)
      have hP : va_P D vwCl [(m0, .inr (12, [.ref m1, .ref m2, .ref m3, .ref m4, .ref m5, .ref m6, .int 0, .int 0, .int 0])), (m6, .inr (1, [.ref v0, .int 0, .int ml, .int 1]))] H := hP
      have hD : va_D A [(m0, .inr (12, [.ref m1, .ref m2, .ref m3, .ref m4, .ref m5, .ref m6, .int 0, .int 0, .int 0])), (m6, .inr (1, [.ref v0, .int 0, .int ml, .int 1]))] := hD
      refine lv_pop hx hb dX6_type_72 rfl ?_
      refine lv_aload_n hx hb dX6_type_73 rfl (lv_at hl 0 rfl) ?_
      refine va_get (D := D) (ci := 12) (v := .ref m6) (C := RX6) (T := TX6) (N := 9) hx hb hts iX6_type_X6 hown hK hP 0 rfl rfl 5 (by decide) (hts _ kX6_type_1) (fun _ h9 => h9) rfl dX6_type_74 ?_
      refine yc_i (wc := [(m6, .inr (1, [.ref v0, .int 0, .int ml, .int 1]))]) (wr := [(m0, .inr (12, [.ref m1, .ref m2, .ref m3, .ref m4, .ref m5, .ref m6, .int 0, .int 0, .int 0]))]) (va_runV (As := []) (rest := []) ⟨hx, hb, hml, hown, hts⟩ (s4_len l hfl D tE H.size m6 v0 ml 1 (va_A [(m6, .inr (1, [.ref v0, .int 0, .int ml, .int 1]))] H.size) rfl) (cwV 0 hts gX6_type_J4_length_8abf5 rfl rfl rfl (by decide +kernel) ⟨Nat.le_of_ble_eq_true rfl, Nat.le_of_ble_eq_true rfl⟩) (yPreV (wc := [(m6, .inr (1, [.ref v0, .int 0, .int ml, .int 1]))]) (tc := []) hK hP hD hS hA hE [1] [] (by decide) rfl rfl (ci := 1) (q0 := 1) (q := (RJ4, TJ4, 4)) rfl rfl) rfl rfl hl.1 rfl (lv_room (Nat.le_of_ble_eq_true rfl)) dX6_type_77 ⟨Nat.le_of_ble_eq_true rfl, Nat.le_of_ble_eq_true rfl⟩) hP hD hS hA [1] [0] rfl rfl (by decide) (by decide) (fun r_35 u_36 H locs hw hP hD hS => ?_)
      have hP : va_P D vwCl [(m0, .inr (12, [.ref m1, .ref m2, .ref m3, .ref m4, .ref m5, .ref m6, .int 0, .int 0, .int 0])), (m6, .inr (1, [.ref v0, .int 0, .int ml, .int 1]))] H := hP
      have hD : va_D A [(m0, .inr (12, [.ref m1, .ref m2, .ref m3, .ref m4, .ref m5, .ref m6, .int 0, .int 0, .int 0])), (m6, .inr (1, [.ref v0, .int 0, .int ml, .int 1]))] := hD
      have hw : r_35 = 1 := hw
      subst hw
      exact y_iret hx hb hr hlocks (0 : Int32) (Or.inl ⟨rfl, rfl, (yz_m_type_71 p0 c_1 c_26)⟩) (hP.sub [0] rfl) (hD.sub [0] (by decide) rfl) hS (Nat.le_of_ble_eq_true rfl) (Nat.le_of_ble_eq_true rfl) dX6_type_80
    · refine lv_iload_n hx hb dX6_type_13 rfl (lv_at hl 1 rfl) ?_
      refine lv_bipush (v := (62)) hx hb dX6_type_14 (by decide) ?_
      refine lv_icmp_eq (tgt := 25) hx hb dX6_type_16 (by decide) (fun c_37 => ?_) (fun c_37 => ?_)
      · refine lv_iconst (v := (1)) hx hb dX6_type_25 (by decide) ?_
        refine lv_goto (tgt := 30) hx hb dX6_type_26 (by decide) ?_
        refine lv_iconst (v := (1)) hx hb dX6_type_30 (by decide) ?_
        refine yc_i (wc := [(m0, .inr (12, [.ref m1, .ref m2, .ref m3, .ref m4, .ref m5, .ref m6, .int 0, .int 0, .int th]))]) (wr := [(m6, .inr (1, [.ref v0, .int 0, .int ml, .int 0])), (v0, .inl (cB, 16, .inl (fv)))]) (va_runV (As := [.int 1, .int 1]) (rest := []) ⟨hx, hb, hml, hown, hts⟩ (g_no1 l hfl D tE s.heap.size m0 m1 m2 m3 m4 m5 m6 0 0 th 1 (va_A [(m0, .inr (12, [.ref m1, .ref m2, .ref m3, .ref m4, .ref m5, .ref m6, .int 0, .int 0, .int th]))] s.heap.size) rfl) (cwV 2 hts gX6_type_X6_no rfl rfl rfl (by decide +kernel) ⟨Nat.le_of_ble_eq_true rfl, Nat.le_of_ble_eq_true rfl⟩) (yPreV (wc := [(m0, .inr (12, [.ref m1, .ref m2, .ref m3, .ref m4, .ref m5, .ref m6, .int 0, .int 0, .int th]))]) (tc := []) hK hP hD hS hA hE [0] [] (by decide) rfl rfl (ci := 12) (q0 := 0) (q := (RX6, TX6, 9)) rfl rfl) rfl rfl hl.1 rfl (lv_room (Nat.le_of_ble_eq_true rfl)) dX6_type_31 ⟨Nat.le_of_ble_eq_true rfl, Nat.le_of_ble_eq_true rfl⟩) hP hD hS hA [0] [1, 2] rfl rfl (by decide) (by decide) (fun r_38 u_39 H locs hw hP hD hS => ?_)
        have hP : va_P D vwCl [(m6, .inr (1, [.ref v0, .int 0, .int ml, .int 0])), (v0, .inl (cB, 16, .inl (fv))), (m0, .inr (12, [.ref m1, .ref m2, .ref m3, .ref m4, .ref m5, .ref m6, .int 0, .int 0, .int 0]))] H := hP
        have hD : va_D A [(m6, .inr (1, [.ref v0, .int 0, .int ml, .int 0])), (v0, .inl (cB, 16, .inl (fv))), (m0, .inr (12, [.ref m1, .ref m2, .ref m3, .ref m4, .ref m5, .ref m6, .int 0, .int 0, .int 0]))] := hD
        have hw : r_38 = 0 := hw
        subst hw
        refine lv_if_ne (tgt := 62) hx hb dX6_type_34 (by decide) (fun h => absurd h (by decide)) (fun _ => ?_)
        refine lv_aload_n hx hb dX6_type_37 rfl (lv_at hl 0 rfl) ?_
        refine lv_aload_n hx hb dX6_type_38 rfl (lv_at hl 0 rfl) ?_
        refine va_get (D := D) (ci := 12) (v := .ref m6) (C := RX6) (T := TX6) (N := 9) hx hb hts iX6_type_X6 hown hK hP 2 rfl rfl 5 (by decide) (hts _ kX6_type_1) (fun _ h9 => h9) rfl dX6_type_39 ?_
        refine yc_i (wc := [(m6, .inr (1, [.ref v0, .int 0, .int ml, .int 0]))]) (wr := [(v0, .inl (cB, 16, .inl (fv))), (m0, .inr (12, [.ref m1, .ref m2, .ref m3, .ref m4, .ref m5, .ref m6, .int 0, .int 0, .int 0]))]) (va_runV (As := []) (rest := [.ref m0]) ⟨hx, hb, hml, hown, hts⟩ (s4_len l hfl D tE H.size m6 v0 ml 0 (va_A [(m6, .inr (1, [.ref v0, .int 0, .int ml, .int 0]))] H.size) rfl) (cwV 0 hts gX6_type_J4_length_8abf5 rfl rfl rfl (by decide +kernel) ⟨Nat.le_of_ble_eq_true rfl, Nat.le_of_ble_eq_true rfl⟩) (yPreV (wc := [(m6, .inr (1, [.ref v0, .int 0, .int ml, .int 0]))]) (tc := []) hK hP hD hS hA hE [0] [] (by decide) rfl rfl (ci := 1) (q0 := 0) (q := (RJ4, TJ4, 4)) rfl rfl) rfl rfl hl.1 rfl (lv_room (Nat.le_of_ble_eq_true rfl)) dX6_type_42 ⟨Nat.le_of_ble_eq_true rfl, Nat.le_of_ble_eq_true rfl⟩) hP hD hS hA [0] [1, 2] rfl rfl (by decide) (by decide) (fun r_40 u_41 H locs hw hP hD hS => ?_)
        have hP : va_P D vwCl [(v0, .inl (cB, 16, .inl (fv))), (m0, .inr (12, [.ref m1, .ref m2, .ref m3, .ref m4, .ref m5, .ref m6, .int 0, .int 0, .int 0])), (m6, .inr (1, [.ref v0, .int 0, .int ml, .int 0]))] H := hP
        have hD : va_D A [(v0, .inl (cB, 16, .inl (fv))), (m0, .inr (12, [.ref m1, .ref m2, .ref m3, .ref m4, .ref m5, .ref m6, .int 0, .int 0, .int 0])), (m6, .inr (1, [.ref v0, .int 0, .int ml, .int 0]))] := hD
        have hw : r_40 = 0 := hw
        subst hw
        refine lv_bipush (v := (20)) hx hb dX6_type_45 (by decide) ?_
        refine lv_icmp_ge (tgt := 54) hx hb dX6_type_47 (by decide) (fun h => absurd h (by decide)) (fun _ => ?_)
        refine lv_iconst (v := (1)) hx hb dX6_type_50 (by decide) ?_
        refine lv_goto (tgt := 55) hx hb dX6_type_51 (by decide) ?_
        refine lv_iconst (v := (2)) hx hb dX6_type_55 (by decide) ?_
        refine yc_i (wc := [(m0, .inr (12, [.ref m1, .ref m2, .ref m3, .ref m4, .ref m5, .ref m6, .int 0, .int 0, .int 0]))]) (wr := [(v0, .inl (cB, 16, .inl (fv))), (m6, .inr (1, [.ref v0, .int 0, .int ml, .int 0]))]) (va_runV (As := [.int 1, .int 2]) (rest := []) ⟨hx, hb, hml, hown, hts⟩ (g_no1 l hfl D tE H.size m0 m1 m2 m3 m4 m5 m6 0 0 0 2 (va_A [(m0, .inr (12, [.ref m1, .ref m2, .ref m3, .ref m4, .ref m5, .ref m6, .int 0, .int 0, .int 0]))] H.size) rfl) (cwV 2 hts gX6_type_X6_no rfl rfl rfl (by decide +kernel) ⟨Nat.le_of_ble_eq_true rfl, Nat.le_of_ble_eq_true rfl⟩) (yPreV (wc := [(m0, .inr (12, [.ref m1, .ref m2, .ref m3, .ref m4, .ref m5, .ref m6, .int 0, .int 0, .int 0]))]) (tc := []) hK hP hD hS hA hE [1] [] (by decide) rfl rfl (ci := 12) (q0 := 1) (q := (RX6, TX6, 9)) rfl rfl) rfl rfl hl.1 rfl (lv_room (Nat.le_of_ble_eq_true rfl)) dX6_type_56 ⟨Nat.le_of_ble_eq_true rfl, Nat.le_of_ble_eq_true rfl⟩) hP hD hS hA [1] [0, 2] rfl rfl (by decide) (by decide) (fun r_42 u_43 H locs hw hP hD hS => ?_)
        have hP : va_P D vwCl [(v0, .inl (cB, 16, .inl (fv))), (m6, .inr (1, [.ref v0, .int 0, .int ml, .int 0])), (m0, .inr (12, [.ref m1, .ref m2, .ref m3, .ref m4, .ref m5, .ref m6, .int 0, .int 0, .int 0]))] H := hP
        have hD : va_D A [(v0, .inl (cB, 16, .inl (fv))), (m6, .inr (1, [.ref v0, .int 0, .int ml, .int 0])), (m0, .inr (12, [.ref m1, .ref m2, .ref m3, .ref m4, .ref m5, .ref m6, .int 0, .int 0, .int 0]))] := hD
        have hw : r_42 = 0 := hw
        subst hw
        refine lv_if_eq (tgt := 64) hx hb dX6_type_59 (by decide) (fun _ => ?_) (fun h => absurd h (by decide))
        refine lv_aload_n hx hb dX6_type_64 rfl (lv_at hl 0 rfl) ?_
        refine va_get (D := D) (ci := 12) (v := .ref m6) (C := RX6) (T := TX6) (N := 9) hx hb hts iX6_type_X6 hown hK hP 2 rfl rfl 5 (by decide) (hts _ kX6_type_1) (fun _ h9 => h9) rfl dX6_type_65 ?_
        refine lv_iload_n hx hb dX6_type_68 rfl (lv_at hl 1 rfl) ?_
        refine yc_r (wc := [(m6, .inr (1, [.ref v0, .int 0, .int ml, .int 0])), (v0, .inl (cB, 16, .inl (fv)))]) (wr := [(m0, .inr (12, [.ref m1, .ref m2, .ref m3, .ref m4, .ref m5, .ref m6, .int 0, .int 0, .int 0]))]) (va_runV (As := [.int p0]) (rest := []) ⟨hx, hb, hml, hown, hts⟩ (s4_app l hfl D tE H.size m6 v0 ml cB fv p0 (yz_m_type_72 p0 c_1 c_26 c_37) (va_A [(m6, .inr (1, [.ref v0, .int 0, .int ml, .int 0])), (v0, .inl (cB, 16, .inl (fv)))] H.size) rfl) (cwV 1 hts gX6_type_J4_append_cf468 rfl rfl rfl (by decide +kernel) ⟨Nat.le_of_ble_eq_true rfl, Nat.le_of_ble_eq_true rfl⟩) (yPreV (wc := [(m6, .inr (1, [.ref v0, .int 0, .int ml, .int 0])), (v0, .inl (cB, 16, .inl (fv)))]) (tc := [(cB, .byte)]) hK hP hD hS hA hE [1, 0] [0] (by decide) rfl rfl (ci := 1) (q0 := 1) (q := (RJ4, TJ4, 4)) rfl rfl) rfl rfl hl.1 rfl (lv_room (Nat.le_of_ble_eq_true rfl)) dX6_type_69 ⟨Nat.le_of_ble_eq_true rfl, Nat.le_of_ble_eq_true rfl⟩) hP hD hS hA [1, 0] [2] rfl rfl (by decide) (by decide) (fun r_44 u_45 H locs hw hP hD hS => ?_)
        have hP : va_P D vwCl [(m0, .inr (12, [.ref m1, .ref m2, .ref m3, .ref m4, .ref m5, .ref m6, .int 0, .int 0, .int 0])), (m6, .inr (1, [.ref v0, .int 0, .int ml, .int 1]))] H := hP
        have hD : va_D A [(m0, .inr (12, [.ref m1, .ref m2, .ref m3, .ref m4, .ref m5, .ref m6, .int 0, .int 0, .int 0])), (m6, .inr (1, [.ref v0, .int 0, .int ml, .int 1]))] := hD
        refine lv_pop hx hb dX6_type_72 rfl ?_
        refine lv_aload_n hx hb dX6_type_73 rfl (lv_at hl 0 rfl) ?_
        refine va_get (D := D) (ci := 12) (v := .ref m6) (C := RX6) (T := TX6) (N := 9) hx hb hts iX6_type_X6 hown hK hP 0 rfl rfl 5 (by decide) (hts _ kX6_type_1) (fun _ h9 => h9) rfl dX6_type_74 ?_
        refine yc_i (wc := [(m6, .inr (1, [.ref v0, .int 0, .int ml, .int 1]))]) (wr := [(m0, .inr (12, [.ref m1, .ref m2, .ref m3, .ref m4, .ref m5, .ref m6, .int 0, .int 0, .int 0]))]) (va_runV (As := []) (rest := []) ⟨hx, hb, hml, hown, hts⟩ (s4_len l hfl D tE H.size m6 v0 ml 1 (va_A [(m6, .inr (1, [.ref v0, .int 0, .int ml, .int 1]))] H.size) rfl) (cwV 0 hts gX6_type_J4_length_8abf5 rfl rfl rfl (by decide +kernel) ⟨Nat.le_of_ble_eq_true rfl, Nat.le_of_ble_eq_true rfl⟩) (yPreV (wc := [(m6, .inr (1, [.ref v0, .int 0, .int ml, .int 1]))]) (tc := []) hK hP hD hS hA hE [1] [] (by decide) rfl rfl (ci := 1) (q0 := 1) (q := (RJ4, TJ4, 4)) rfl rfl) rfl rfl hl.1 rfl (lv_room (Nat.le_of_ble_eq_true rfl)) dX6_type_77 ⟨Nat.le_of_ble_eq_true rfl, Nat.le_of_ble_eq_true rfl⟩) hP hD hS hA [1] [0] rfl rfl (by decide) (by decide) (fun r_46 u_47 H locs hw hP hD hS => ?_)
        have hP : va_P D vwCl [(m0, .inr (12, [.ref m1, .ref m2, .ref m3, .ref m4, .ref m5, .ref m6, .int 0, .int 0, .int 0])), (m6, .inr (1, [.ref v0, .int 0, .int ml, .int 1]))] H := hP
        have hD : va_D A [(m0, .inr (12, [.ref m1, .ref m2, .ref m3, .ref m4, .ref m5, .ref m6, .int 0, .int 0, .int 0])), (m6, .inr (1, [.ref v0, .int 0, .int ml, .int 1]))] := hD
        have hw : r_46 = 1 := hw
        subst hw
        exact y_iret hx hb hr hlocks (0 : Int32) (Or.inl ⟨rfl, rfl, (yz_m_type_73 p0 c_1 c_26 c_37)⟩) (hP.sub [0] rfl) (hD.sub [0] (by decide) rfl) hS (Nat.le_of_ble_eq_true rfl) (Nat.le_of_ble_eq_true rfl) dX6_type_80
      · refine lv_iload_n hx hb dX6_type_19 rfl (lv_at hl 1 rfl) ?_
        refine lv_bipush (v := (61)) hx hb dX6_type_20 (by decide) ?_
        refine lv_icmp_ne (tgt := 29) hx hb dX6_type_22 (by decide) (fun c_48 => ?_) (fun c_48 => ?_)
        · refine lv_iconst (v := (0)) hx hb dX6_type_29 (by decide) ?_
          refine lv_iconst (v := (1)) hx hb dX6_type_30 (by decide) ?_
          refine yc_i (wc := [(m0, .inr (12, [.ref m1, .ref m2, .ref m3, .ref m4, .ref m5, .ref m6, .int 0, .int 0, .int th]))]) (wr := [(m6, .inr (1, [.ref v0, .int 0, .int ml, .int 0])), (v0, .inl (cB, 16, .inl (fv)))]) (va_runV (As := [.int 0, .int 1]) (rest := []) ⟨hx, hb, hml, hown, hts⟩ (g_no0 l hfl D tE s.heap.size m0 m1 m2 m3 m4 m5 m6 0 0 th 1 (va_A [(m0, .inr (12, [.ref m1, .ref m2, .ref m3, .ref m4, .ref m5, .ref m6, .int 0, .int 0, .int th]))] s.heap.size) rfl) (cwV 2 hts gX6_type_X6_no rfl rfl rfl (by decide +kernel) ⟨Nat.le_of_ble_eq_true rfl, Nat.le_of_ble_eq_true rfl⟩) (yPreV (wc := [(m0, .inr (12, [.ref m1, .ref m2, .ref m3, .ref m4, .ref m5, .ref m6, .int 0, .int 0, .int th]))]) (tc := []) hK hP hD hS hA hE [0] [] (by decide) rfl rfl (ci := 12) (q0 := 0) (q := (RX6, TX6, 9)) rfl rfl) rfl rfl hl.1 rfl (lv_room (Nat.le_of_ble_eq_true rfl)) dX6_type_31 ⟨Nat.le_of_ble_eq_true rfl, Nat.le_of_ble_eq_true rfl⟩) hP hD hS hA [0] [1, 2] rfl rfl (by decide) (by decide) (fun r_49 u_50 H locs hw hP hD hS => ?_)
          have hP : va_P D vwCl [(m6, .inr (1, [.ref v0, .int 0, .int ml, .int 0])), (v0, .inl (cB, 16, .inl (fv))), (m0, .inr (12, [.ref m1, .ref m2, .ref m3, .ref m4, .ref m5, .ref m6, .int 0, .int 0, .int 1]))] H := hP
          have hD : va_D A [(m6, .inr (1, [.ref v0, .int 0, .int ml, .int 0])), (v0, .inl (cB, 16, .inl (fv))), (m0, .inr (12, [.ref m1, .ref m2, .ref m3, .ref m4, .ref m5, .ref m6, .int 0, .int 0, .int 1]))] := hD
          have hw : r_49 = 1 := hw
          subst hw
          refine lv_if_ne (tgt := 62) hx hb dX6_type_34 (by decide) (fun _ => ?_) (fun h => absurd h (by decide))
          refine lv_iconst (v := (0)) hx hb dX6_type_62 (by decide) ?_
          exact y_iret hx hb hr hlocks (1 : Int32) (Or.inr ⟨rfl, rfl, (yz_m_type_74 p0 c_1 c_26 c_37 c_48)⟩) (hP.sub [2] rfl) (hD.sub [2] (by decide) rfl) hS (Nat.le_of_ble_eq_true rfl) (Nat.le_of_ble_eq_true rfl) dX6_type_63
        · refine lv_iconst (v := (1)) hx hb dX6_type_25 (by decide) ?_
          refine lv_goto (tgt := 30) hx hb dX6_type_26 (by decide) ?_
          refine lv_iconst (v := (1)) hx hb dX6_type_30 (by decide) ?_
          refine yc_i (wc := [(m0, .inr (12, [.ref m1, .ref m2, .ref m3, .ref m4, .ref m5, .ref m6, .int 0, .int 0, .int th]))]) (wr := [(m6, .inr (1, [.ref v0, .int 0, .int ml, .int 0])), (v0, .inl (cB, 16, .inl (fv)))]) (va_runV (As := [.int 1, .int 1]) (rest := []) ⟨hx, hb, hml, hown, hts⟩ (g_no1 l hfl D tE s.heap.size m0 m1 m2 m3 m4 m5 m6 0 0 th 1 (va_A [(m0, .inr (12, [.ref m1, .ref m2, .ref m3, .ref m4, .ref m5, .ref m6, .int 0, .int 0, .int th]))] s.heap.size) rfl) (cwV 2 hts gX6_type_X6_no rfl rfl rfl (by decide +kernel) ⟨Nat.le_of_ble_eq_true rfl, Nat.le_of_ble_eq_true rfl⟩) (yPreV (wc := [(m0, .inr (12, [.ref m1, .ref m2, .ref m3, .ref m4, .ref m5, .ref m6, .int 0, .int 0, .int th]))]) (tc := []) hK hP hD hS hA hE [0] [] (by decide) rfl rfl (ci := 12) (q0 := 0) (q := (RX6, TX6, 9)) rfl rfl) rfl rfl hl.1 rfl (lv_room (Nat.le_of_ble_eq_true rfl)) dX6_type_31 ⟨Nat.le_of_ble_eq_true rfl, Nat.le_of_ble_eq_true rfl⟩) hP hD hS hA [0] [1, 2] rfl rfl (by decide) (by decide) (fun r_51 u_52 H locs hw hP hD hS => ?_)
          have hP : va_P D vwCl [(m6, .inr (1, [.ref v0, .int 0, .int ml, .int 0])), (v0, .inl (cB, 16, .inl (fv))), (m0, .inr (12, [.ref m1, .ref m2, .ref m3, .ref m4, .ref m5, .ref m6, .int 0, .int 0, .int 0]))] H := hP
          have hD : va_D A [(m6, .inr (1, [.ref v0, .int 0, .int ml, .int 0])), (v0, .inl (cB, 16, .inl (fv))), (m0, .inr (12, [.ref m1, .ref m2, .ref m3, .ref m4, .ref m5, .ref m6, .int 0, .int 0, .int 0]))] := hD
          have hw : r_51 = 0 := hw
          subst hw
          refine lv_if_ne (tgt := 62) hx hb dX6_type_34 (by decide) (fun h => absurd h (by decide)) (fun _ => ?_)
          refine lv_aload_n hx hb dX6_type_37 rfl (lv_at hl 0 rfl) ?_
          refine lv_aload_n hx hb dX6_type_38 rfl (lv_at hl 0 rfl) ?_
          refine va_get (D := D) (ci := 12) (v := .ref m6) (C := RX6) (T := TX6) (N := 9) hx hb hts iX6_type_X6 hown hK hP 2 rfl rfl 5 (by decide) (hts _ kX6_type_1) (fun _ h9 => h9) rfl dX6_type_39 ?_
          refine yc_i (wc := [(m6, .inr (1, [.ref v0, .int 0, .int ml, .int 0]))]) (wr := [(v0, .inl (cB, 16, .inl (fv))), (m0, .inr (12, [.ref m1, .ref m2, .ref m3, .ref m4, .ref m5, .ref m6, .int 0, .int 0, .int 0]))]) (va_runV (As := []) (rest := [.ref m0]) ⟨hx, hb, hml, hown, hts⟩ (s4_len l hfl D tE H.size m6 v0 ml 0 (va_A [(m6, .inr (1, [.ref v0, .int 0, .int ml, .int 0]))] H.size) rfl) (cwV 0 hts gX6_type_J4_length_8abf5 rfl rfl rfl (by decide +kernel) ⟨Nat.le_of_ble_eq_true rfl, Nat.le_of_ble_eq_true rfl⟩) (yPreV (wc := [(m6, .inr (1, [.ref v0, .int 0, .int ml, .int 0]))]) (tc := []) hK hP hD hS hA hE [0] [] (by decide) rfl rfl (ci := 1) (q0 := 0) (q := (RJ4, TJ4, 4)) rfl rfl) rfl rfl hl.1 rfl (lv_room (Nat.le_of_ble_eq_true rfl)) dX6_type_42 ⟨Nat.le_of_ble_eq_true rfl, Nat.le_of_ble_eq_true rfl⟩) hP hD hS hA [0] [1, 2] rfl rfl (by decide) (by decide) (fun r_53 u_54 H locs hw hP hD hS => ?_)
          have hP : va_P D vwCl [(v0, .inl (cB, 16, .inl (fv))), (m0, .inr (12, [.ref m1, .ref m2, .ref m3, .ref m4, .ref m5, .ref m6, .int 0, .int 0, .int 0])), (m6, .inr (1, [.ref v0, .int 0, .int ml, .int 0]))] H := hP
          have hD : va_D A [(v0, .inl (cB, 16, .inl (fv))), (m0, .inr (12, [.ref m1, .ref m2, .ref m3, .ref m4, .ref m5, .ref m6, .int 0, .int 0, .int 0])), (m6, .inr (1, [.ref v0, .int 0, .int ml, .int 0]))] := hD
          have hw : r_53 = 0 := hw
          subst hw
          refine lv_bipush (v := (20)) hx hb dX6_type_45 (by decide) ?_
          refine lv_icmp_ge (tgt := 54) hx hb dX6_type_47 (by decide) (fun h => absurd h (by decide)) (fun _ => ?_)
          refine lv_iconst (v := (1)) hx hb dX6_type_50 (by decide) ?_
          refine lv_goto (tgt := 55) hx hb dX6_type_51 (by decide) ?_
          refine lv_iconst (v := (2)) hx hb dX6_type_55 (by decide) ?_
          refine yc_i (wc := [(m0, .inr (12, [.ref m1, .ref m2, .ref m3, .ref m4, .ref m5, .ref m6, .int 0, .int 0, .int 0]))]) (wr := [(v0, .inl (cB, 16, .inl (fv))), (m6, .inr (1, [.ref v0, .int 0, .int ml, .int 0]))]) (va_runV (As := [.int 1, .int 2]) (rest := []) ⟨hx, hb, hml, hown, hts⟩ (g_no1 l hfl D tE H.size m0 m1 m2 m3 m4 m5 m6 0 0 0 2 (va_A [(m0, .inr (12, [.ref m1, .ref m2, .ref m3, .ref m4, .ref m5, .ref m6, .int 0, .int 0, .int 0]))] H.size) rfl) (cwV 2 hts gX6_type_X6_no rfl rfl rfl (by decide +kernel) ⟨Nat.le_of_ble_eq_true rfl, Nat.le_of_ble_eq_true rfl⟩) (yPreV (wc := [(m0, .inr (12, [.ref m1, .ref m2, .ref m3, .ref m4, .ref m5, .ref m6, .int 0, .int 0, .int 0]))]) (tc := []) hK hP hD hS hA hE [1] [] (by decide) rfl rfl (ci := 12) (q0 := 1) (q := (RX6, TX6, 9)) rfl rfl) rfl rfl hl.1 rfl (lv_room (Nat.le_of_ble_eq_true rfl)) dX6_type_56 ⟨Nat.le_of_ble_eq_true rfl, Nat.le_of_ble_eq_true rfl⟩) hP hD hS hA [1] [0, 2] rfl rfl (by decide) (by decide) (fun r_55 u_56 H locs hw hP hD hS => ?_)
          have hP : va_P D vwCl [(v0, .inl (cB, 16, .inl (fv))), (m6, .inr (1, [.ref v0, .int 0, .int ml, .int 0])), (m0, .inr (12, [.ref m1, .ref m2, .ref m3, .ref m4, .ref m5, .ref m6, .int 0, .int 0, .int 0]))] H := hP
          have hD : va_D A [(v0, .inl (cB, 16, .inl (fv))), (m6, .inr (1, [.ref v0, .int 0, .int ml, .int 0])), (m0, .inr (12, [.ref m1, .ref m2, .ref m3, .ref m4, .ref m5, .ref m6, .int 0, .int 0, .int 0]))] := hD
          have hw : r_55 = 0 := hw
          subst hw
          refine lv_if_eq (tgt := 64) hx hb dX6_type_59 (by decide) (fun _ => ?_) (fun h => absurd h (by decide))
          refine lv_aload_n hx hb dX6_type_64 rfl (lv_at hl 0 rfl) ?_
          refine va_get (D := D) (ci := 12) (v := .ref m6) (C := RX6) (T := TX6) (N := 9) hx hb hts iX6_type_X6 hown hK hP 2 rfl rfl 5 (by decide) (hts _ kX6_type_1) (fun _ h9 => h9) rfl dX6_type_65 ?_
          refine lv_iload_n hx hb dX6_type_68 rfl (lv_at hl 1 rfl) ?_
          refine yc_r (wc := [(m6, .inr (1, [.ref v0, .int 0, .int ml, .int 0])), (v0, .inl (cB, 16, .inl (fv)))]) (wr := [(m0, .inr (12, [.ref m1, .ref m2, .ref m3, .ref m4, .ref m5, .ref m6, .int 0, .int 0, .int 0]))]) (va_runV (As := [.int p0]) (rest := []) ⟨hx, hb, hml, hown, hts⟩ (s4_app l hfl D tE H.size m6 v0 ml cB fv p0 (yz_m_type_75 p0 c_1 c_26 c_37 c_48) (va_A [(m6, .inr (1, [.ref v0, .int 0, .int ml, .int 0])), (v0, .inl (cB, 16, .inl (fv)))] H.size) rfl) (cwV 1 hts gX6_type_J4_append_cf468 rfl rfl rfl (by decide +kernel) ⟨Nat.le_of_ble_eq_true rfl, Nat.le_of_ble_eq_true rfl⟩) (yPreV (wc := [(m6, .inr (1, [.ref v0, .int 0, .int ml, .int 0])), (v0, .inl (cB, 16, .inl (fv)))]) (tc := [(cB, .byte)]) hK hP hD hS hA hE [1, 0] [0] (by decide) rfl rfl (ci := 1) (q0 := 1) (q := (RJ4, TJ4, 4)) rfl rfl) rfl rfl hl.1 rfl (lv_room (Nat.le_of_ble_eq_true rfl)) dX6_type_69 ⟨Nat.le_of_ble_eq_true rfl, Nat.le_of_ble_eq_true rfl⟩) hP hD hS hA [1, 0] [2] rfl rfl (by decide) (by decide) (fun r_57 u_58 H locs hw hP hD hS => ?_)
          have hP : va_P D vwCl [(m0, .inr (12, [.ref m1, .ref m2, .ref m3, .ref m4, .ref m5, .ref m6, .int 0, .int 0, .int 0])), (m6, .inr (1, [.ref v0, .int 0, .int ml, .int 1]))] H := hP
          have hD : va_D A [(m0, .inr (12, [.ref m1, .ref m2, .ref m3, .ref m4, .ref m5, .ref m6, .int 0, .int 0, .int 0])), (m6, .inr (1, [.ref v0, .int 0, .int ml, .int 1]))] := hD
          refine lv_pop hx hb dX6_type_72 rfl ?_
          refine lv_aload_n hx hb dX6_type_73 rfl (lv_at hl 0 rfl) ?_
          refine va_get (D := D) (ci := 12) (v := .ref m6) (C := RX6) (T := TX6) (N := 9) hx hb hts iX6_type_X6 hown hK hP 0 rfl rfl 5 (by decide) (hts _ kX6_type_1) (fun _ h9 => h9) rfl dX6_type_74 ?_
          refine yc_i (wc := [(m6, .inr (1, [.ref v0, .int 0, .int ml, .int 1]))]) (wr := [(m0, .inr (12, [.ref m1, .ref m2, .ref m3, .ref m4, .ref m5, .ref m6, .int 0, .int 0, .int 0]))]) (va_runV (As := []) (rest := []) ⟨hx, hb, hml, hown, hts⟩ (s4_len l hfl D tE H.size m6 v0 ml 1 (va_A [(m6, .inr (1, [.ref v0, .int 0, .int ml, .int 1]))] H.size) rfl) (cwV 0 hts gX6_type_J4_length_8abf5 rfl rfl rfl (by decide +kernel) ⟨Nat.le_of_ble_eq_true rfl, Nat.le_of_ble_eq_true rfl⟩) (yPreV (wc := [(m6, .inr (1, [.ref v0, .int 0, .int ml, .int 1]))]) (tc := []) hK hP hD hS hA hE [1] [] (by decide) rfl rfl (ci := 1) (q0 := 1) (q := (RJ4, TJ4, 4)) rfl rfl) rfl rfl hl.1 rfl (lv_room (Nat.le_of_ble_eq_true rfl)) dX6_type_77 ⟨Nat.le_of_ble_eq_true rfl, Nat.le_of_ble_eq_true rfl⟩) hP hD hS hA [1] [0] rfl rfl (by decide) (by decide) (fun r_59 u_60 H locs hw hP hD hS => ?_)
          have hP : va_P D vwCl [(m0, .inr (12, [.ref m1, .ref m2, .ref m3, .ref m4, .ref m5, .ref m6, .int 0, .int 0, .int 0])), (m6, .inr (1, [.ref v0, .int 0, .int ml, .int 1]))] H := hP
          have hD : va_D A [(m0, .inr (12, [.ref m1, .ref m2, .ref m3, .ref m4, .ref m5, .ref m6, .int 0, .int 0, .int 0])), (m6, .inr (1, [.ref v0, .int 0, .int ml, .int 1]))] := hD
          have hw : r_59 = 1 := hw
          subst hw
          exact y_iret hx hb hr hlocks (0 : Int32) (Or.inl ⟨rfl, rfl, (yz_m_type_76 p0 c_1 c_26 c_37 c_48)⟩) (hP.sub [0] rfl) (hD.sub [0] (by decide) rfl) hS (Nat.le_of_ble_eq_true rfl) (Nat.le_of_ble_eq_true rfl) dX6_type_80
