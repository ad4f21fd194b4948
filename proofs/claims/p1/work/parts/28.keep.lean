theorem iX5_keep_X5 : ∀ w ∈ wsX50, w ∈ wsX5_keep := by decide +kernel
theorem kX5_keep_3 : Cond.fieldLink RX5 46 "Mostwell" "keptCount" "I" ∈ wsX5_keep := List.mem_of_getElem? (i := 3) (by decide +kernel)
theorem kX5_keep_4 : Cond.fieldLink RX5 37 "Mostwell" "hand" "[I" ∈ wsX5_keep := List.mem_of_getElem? (i := 4) (by decide +kernel)
theorem kX5_keep_5 : Cond.fieldLink RX5 43 "Mostwell" "kept" "[[I" ∈ wsX5_keep := List.mem_of_getElem? (i := 5) (by decide +kernel)
theorem kX5_keep_6 : Cond.methodLink RX5 158 arraycopyName ∈ wsX5_keep := List.mem_of_getElem? (i := 6) (by decide +kernel)
theorem kX5_keep_7 : Cond.native arraycopyName ∈ wsX5_keep := List.mem_of_getElem? (i := 7) (by decide +kernel)
theorem kX5_keep_8 : Cond.static arraycopyName ∈ wsX5_keep := List.mem_of_getElem? (i := 8) (by decide +kernel)
theorem kX5_keep_9 : Cond.initialized "java/lang/System" ∈ wsX5_keep := List.mem_of_getElem? (i := 9) (by decide +kernel)
set_option maxHeartbeats 4000000 in
set_option maxRecDepth 100000 in
theorem f_keep (l : Launch) (hfl : l.stackTraces = false) (D : va_G) (tE : Nat) (sz : Nat) (h0 : Nat) (h1 : Nat) (h2 : Nat) (h3 : Nat) (h4 : Nat) (a1 : Nat) (a2 : Nat) (k0 : Nat) (cI : ClassId) (cK : ClassId) (fh : Nat → Int32) (fk : Nat → Int32) (fK : Nat → Option Nat) (hf : fK 0 = some k0) (A : Nat → Prop) (hA0 : A = va_A [(h0, .inr (11, [.ref h1, .ref h2, .ref h3, .ref h4, .ref a1, .ref a2, .int 0])), (a1, .inl (cI, 10, .inl (fh))), (a2, .inl (cK, 10, .inr (.inr (.inr (.inr (fK)))))), (k0, .inl (cI, 10, .inl (fk)))] sz) : Met l yX5_keep wsX5_keep (yR 0 0 0) (yP D tE [(h0, .inr (11, [.ref h1, .ref h2, .ref h3, .ref h4, .ref a1, .ref a2, .int 0])), (a1, .inl (cI, 10, .inl (fh))), (a2, .inl (cK, 10, .inr (.inr (.inr (.inr (fK)))))), (k0, .inl (cI, 10, .inl (fk)))] [(cI, .int), (cK, .array .int)] sz [.ref h0]) (va_Qi (S := Unit) (fun (r : Int32) (u : Unit) => r = 0) (fun (u : Unit) (t : State) => yB D A ((fun (u : Unit) => []) u) t) A) 0 0 A := by
  refine Met.ofW (cc := cX5_keep) (maxL := 2) (ret := (some .int)) (by decide) rfl ?_
  intro p e s m args below meth c s₁ B hml hv
  obtain ⟨rfl, rfl, hP, hK, hD, hE, hA⟩ := y_start hA0 hv
  have hx := B.exec
  have hb := B.bytes
  have hr := B.returns
  have hts := atoms_spec (ws := wsX5_keep) B.pre
  have hown : s.vm.findClass RX5 = some m.cls := findClass_of_methodNamed B.named
  have hlocks := B.notSynchronized
  clear hA0 hv
  have hS : va_S A s.heap s.heap [] := va_S.rf
  have hl := lv_entry ([.ref h0]) (n := 2) (Nat.le_of_ble_eq_true rfl)
  rw [lg_entry_eq]
  generalize (lg_sl ([.ref h0]) ++ List.replicate (2 - (lg_sl ([.ref h0])).length) Slot.unset).toArray = ls at hl ⊢
  have hl : lv_has ls 2 [(0, .ref h0)] := hl
  refine lv_aload_n hx hb dX5_keep_0 rfl (lv_at hl 0 rfl) ?_
  refine va_get (D := D) (ci := 11) (v := .int 0) (C := RX5) (T := TX5) (N := 7) hx hb hts iX5_keep_X5 hown hK hP 0 rfl rfl 6 (by decide) (hts _ kX5_keep_3) (fun _ h9 => h9) rfl dX5_keep_1 ?_
  refine lv_bipush (v := (10)) hx hb dX5_keep_4 (by decide) ?_
  refine lv_icmp_lt (tgt := 19) hx hb dX5_keep_6 (by decide) (fun _ => ?_) (fun h => absurd h (by decide))
  refine lv_aload_n hx hb dX5_keep_19 rfl (lv_at hl 0 rfl) ?_
  refine va_get (D := D) (ci := 11) (v := .int 0) (C := RX5) (T := TX5) (N := 7) hx hb hts iX5_keep_X5 hown hK hP 0 rfl rfl 6 (by decide) (hts _ kX5_keep_3) (fun _ h9 => h9) rfl dX5_keep_20 ?_
  refine lv_istore_n (lv' := [(1, .int 0), (0, .ref h0)]) hx hb dX5_keep_23 rfl hl (by decide) rfl (fun ls hl => ?_)
  refine lv_aload_n hx hb dX5_keep_24 rfl (lv_at hl 1 rfl) ?_
  refine va_get (D := D) (ci := 11) (v := .ref a1) (C := RX5) (T := TX5) (N := 7) hx hb hts iX5_keep_X5 hown hK hP 0 rfl rfl 4 (by decide) (hts _ kX5_keep_4) (fun _ h9 => h9) rfl dX5_keep_25 ?_
  refine lv_iconst (v := (0)) hx hb dX5_keep_28 (by decide) ?_
  refine lv_aload_n hx hb dX5_keep_29 rfl (lv_at hl 1 rfl) ?_
  refine va_get (D := D) (ci := 11) (v := .ref a2) (C := RX5) (T := TX5) (N := 7) hx hb hts iX5_keep_X5 hown hK hP 0 rfl rfl 5 (by decide) (hts _ kX5_keep_5) (fun _ h9 => h9) rfl dX5_keep_30 ?_
  refine lv_iload_n hx hb dX5_keep_33 rfl (lv_at hl 0 rfl) ?_
  refine y_aald hx hb hK hP 2 1 rfl rfl (by unfold vp_in; decide) dX5_keep_34 ?_
  rw [show va_rf (fK (0 : Int32).toNatClampNeg) = .ref k0 from (show va_rf (fK 0) = .ref k0 by rw [hf]; rfl)]
  refine lv_iconst (v := (0)) hx hb dX5_keep_35 (by decide) ?_
  refine lv_bipush (v := (10)) hx hb dX5_keep_36 (by decide) ?_
  refine va_copyi hx hb (hml.trans hl.1.symm) hown (hts _ kX5_keep_6) (hts _ kX5_keep_7) (hts _ kX5_keep_8) (hts _ kX5_keep_9) hK hP hD hS 1 3 0 0 rfl rfl rfl rfl rfl (by decide) (by decide) (by decide) (by decide) (by decide) (fun _ _ => rfl) (Nat.le_of_ble_eq_true rfl) (Nat.le_of_ble_eq_true (by decide +kernel)) dX5_keep_38 (fun H locs hP hD hS => ?_)
  obtain ⟨f_1, ef_1⟩ : ∃ g9, g9 = va_cpy fh fk (0 : Int32).toNatClampNeg (0 : Int32).toNatClampNeg (10 : Int32).toNatClampNeg := ⟨_, rfl⟩
  have hP : va_P D vwCl [(h0, .inr (11, [.ref h1, .ref h2, .ref h3, .ref h4, .ref a1, .ref a2, .int 0])), (a1, .inl (cI, 10, .inl (fh))), (a2, .inl (cK, 10, .inr (.inr (.inr (.inr (fK)))))), (k0, .inl (cI, 10, .inl (f_1)))] H := by rw [ef_1]; exact hP
  have hD : va_D A [(h0, .inr (11, [.ref h1, .ref h2, .ref h3, .ref h4, .ref a1, .ref a2, .int 0])), (a1, .inl (cI, 10, .inl (fh))), (a2, .inl (cK, 10, .inr (.inr (.inr (.inr (fK)))))), (k0, .inl (cI, 10, .inl (f_1)))] := by rw [ef_1]; exact hD
  refine lv_aload_n hx hb dX5_keep_41 rfl (lv_at hl 1 rfl) ?_
  refine lv_iload_n hx hb dX5_keep_42 rfl (lv_at hl 0 rfl) ?_
  refine lv_iconst (v := (1)) hx hb dX5_keep_43 (by decide) ?_
  refine lv_iadd hx hb dX5_keep_44 ?_
  refine lv_topi (fun x_2 ex_2 => ?_)
  obtain rfl : x_2 = (1 : Int32) := ex_2.trans (by decide)
  refine va_put (D := D) (ci := 11) (v := .int 1) (ty := .int) (C := RX5) (T := TX5) (N := 7) hx hb hts iX5_keep_X5 tyX5 tyX5_ok nmX5 hown hK hP hD hS 0 rfl rfl 6 (by decide) (hts _ kX5_keep_3) (fun _ h9 => h9) rfl (by decide +kernel) rfl rfl (Nat.le_of_ble_eq_true rfl) dX5_keep_45 (fun H locs hP hD hS => ?_)
  have hP : va_P D vwCl [(h0, .inr (11, [.ref h1, .ref h2, .ref h3, .ref h4, .ref a1, .ref a2, .int 1])), (a1, .inl (cI, 10, .inl (fh))), (a2, .inl (cK, 10, .inr (.inr (.inr (.inr (fK)))))), (k0, .inl (cI, 10, .inl (f_1)))] H := hP
  have hD : va_D A [(h0, .inr (11, [.ref h1, .ref h2, .ref h3, .ref h4, .ref a1, .ref a2, .int 1])), (a1, .inl (cI, 10, .inl (fh))), (a2, .inl (cK, 10, .inr (.inr (.inr (.inr (fK)))))), (k0, .inl (cI, 10, .inl (f_1)))] := hD
  refine lv_iload_n hx hb dX5_keep_48 rfl (lv_at hl 0 rfl) ?_
  exact y_iret hx hb hr hlocks () rfl (hP.sub [] rfl) (hD.sub [] (by decide) rfl) hS (Nat.le_of_ble_eq_true rfl) (Nat.le_of_ble_eq_true rfl) dX5_keep_49
