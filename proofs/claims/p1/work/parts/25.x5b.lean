set_option maxRecDepth 20000 in
theorem yth_X5_136_140 : yThX RX5 "java/util/NoSuchElementException" ["java/lang/RuntimeException", "java/lang/Exception"] 136 140 := ⟨by decide +kernel, by decide +kernel, by decide +kernel, by decide +kernel, by decide +kernel⟩
set_option maxRecDepth 20000 in
theorem yth_X5_249_253 : yTh RX5 "java/lang/ArithmeticException" ["java/lang/RuntimeException", "java/lang/Exception"] 249 253 := ⟨by decide +kernel, by decide +kernel, by decide +kernel, by decide +kernel, by decide +kernel⟩
theorem yz_f_addApplicant_1 (p0 : Int32) (h0 : 1 ≤ p0 ∧ p0 ≤ 9) : (0 : Int32) = 0 ∧ 1 ≤ p0 ∧ p0 ≤ 9 := by grind
theorem iX5_addApplicant_X5 : ∀ w ∈ wsX50, w ∈ wsX5_addApplicant := by decide +kernel
theorem kX5_addApplicant_3 : Cond.fieldLink RX5 10 "Mostwell" "house" "LMostwell$House;" ∈ wsX5_addApplicant := List.mem_of_getElem? (i := 3) (by decide +kernel)
theorem iX5_addApplicant_X2 : ∀ w ∈ wsX20, w ∈ wsX5_addApplicant := by decide +kernel
theorem kX5_addApplicant_4 : Cond.fieldLink RX5 60 "Mostwell$House" "applicants" "I" ∈ wsX5_addApplicant := List.mem_of_getElem? (i := 4) (by decide +kernel)
theorem kX5_addApplicant_5 : Cond.fieldLink RX5 70 "Mostwell$House" "weights" "[I" ∈ wsX5_addApplicant := List.mem_of_getElem? (i := 5) (by decide +kernel)
set_option maxHeartbeats 4000000 in
set_option maxRecDepth 100000 in
theorem f_addApplicant (l : Launch) (hfl : l.stackTraces = false) (D : va_G) (tE : Nat) (sz : Nat) (h0 : Nat) (h1 : Nat) (h2 : Nat) (h3 : Nat) (h4 : Nat) (a1 : Nat) (a2 : Nat) (w1 : Nat) (w2 : Nat) (w3 : Nat) (w4 : Nat) (w5 : Nat) (np : Int32) (cI : ClassId) (fw : Nat → Int32) (p0 : Int32) (A : Nat → Prop) (hA0 : A = va_A [(h0, .inr (11, [.ref h1, .ref h2, .ref h3, .ref h4, .ref a1, .ref a2, .int 0])), (h1, .inr (8, [.int 0, .int np, .ref w1, .ref w2, .ref w3, .ref w4, .ref w5])), (w1, .inl (cI, 10, .inl (fw)))] sz) : vx_Met l yX5_addApplicant wsX5_addApplicant (yR 1 1 6) (yP D tE [(h0, .inr (11, [.ref h1, .ref h2, .ref h3, .ref h4, .ref a1, .ref a2, .int 0])), (h1, .inr (8, [.int 0, .int np, .ref w1, .ref w2, .ref w3, .ref w4, .ref w5])), (w1, .inl (cI, 10, .inl (fw)))] [(cI, .int)] sz [.ref h0, .int p0]) (va_Qi (S := Unit) (fun (r : Int32) (u : Unit) => r = 0 ∧ 1 ≤ p0 ∧ p0 ≤ 9) (fun (u : Unit) (t : State) => yB D A ((fun (u : Unit) => []) u) t) A) (vx_X (S := Unit) (fun _ => True) (fun E _ t => (fun (E : String) => E = "java/lang/IllegalArgumentException" ∧ (p0 < 1 ∨ 9 < p0)) E ∧ yB D A [] t) A) 1 6 A := by
  refine vx_ofW (cc := cX5_addApplicant) (maxL := 3) (ret := (some .int)) (by decide) rfl ?_
  intro p e s m args below meth c s₁ B hml hout hv
  obtain ⟨rfl, rfl, hP, hK, hD, hE, hA⟩ := y_start hA0 hv
  have hx := B.exec
  have hb := B.bytes
  have hr := B.returns
  have hts := atoms_spec (ws := wsX5_addApplicant) B.pre
  have hown : s.vm.findClass RX5 = some m.cls := findClass_of_methodNamed B.named
  have hlocks := B.notSynchronized
  clear hA0 hv
  have hS : va_S A s.heap s.heap [] := va_S.rf
  have hl := lv_entry ([.ref h0, .int p0]) (n := 3) (Nat.le_of_ble_eq_true rfl)
  rw [lg_entry_eq]
  generalize (lg_sl ([.ref h0, .int p0]) ++ List.replicate (3 - (lg_sl ([.ref h0, .int p0])).length) Slot.unset).toArray = ls at hl ⊢
  have hl : lv_has ls 3 [(0, .ref h0), (1, .int p0)] := hl
  refine lv_aload_n hx hb dX5_addApplicant_0 rfl (lv_at hl 0 rfl) ?_
  refine lv_iload_n hx hb dX5_addApplicant_1 rfl (lv_at hl 1 rfl) ?_
  refine lv_iconst (v := (1)) hx hb dX5_addApplicant_2 (by decide) ?_
  refine lv_bipush (v := (9)) hx hb dX5_addApplicant_3 (by decide) ?_
  refine yx_v (wc := []) (wr := [(h0, .inr (11, [.ref h1, .ref h2, .ref h3, .ref h4, .ref a1, .ref a2, .int 0])), (h1, .inr (8, [.int 0, .int np, .ref w1, .ref w2, .ref w3, .ref w4, .ref w5])), (w1, .inl (cI, 10, .inl (fw)))]) (vx_runV (As := [.int p0, .int 1, .int 9]) (rest := []) ⟨hx, hb, hml, hown, hts⟩ (c_requireNumber l hfl D tE s.heap.size h0 p0 1 9 (va_A [] s.heap.size) rfl) (cwV 3 hts gX5_addApplicant_X5_requireNumber rfl rfl rfl (by decide +kernel) ⟨Nat.le_of_ble_eq_true rfl, Nat.le_of_ble_eq_true rfl⟩) (yPreV (wc := []) (tc := []) hK hP hD hS hA hE [] [] (by decide) rfl rfl (ci := 11) (q0 := 0) (q := (RX5, TX5, 7)) rfl rfl) rfl rfl hl.1 rfl (lv_room (Nat.le_of_ble_eq_true rfl)) dX5_addApplicant_5 ⟨Nat.le_of_ble_eq_true rfl, Nat.le_of_ble_eq_true rfl⟩) hP hD hS hA [] [0, 1, 2] rfl rfl (by decide) (by decide) (fun E ce q9 H locs hpx hP hD hS g1 g2 g3 => ?_) (fun u_2 H locs hw hP hD hS => ?_)
  · have hP : va_P D vwCl [(h0, .inr (11, [.ref h1, .ref h2, .ref h3, .ref h4, .ref a1, .ref a2, .int 0])), (h1, .inr (8, [.int 0, .int np, .ref w1, .ref w2, .ref w3, .ref w4, .ref w5])), (w1, .inl (cI, 10, .inl (fw)))] H := hP
    have hD : va_D A [(h0, .inr (11, [.ref h1, .ref h2, .ref h3, .ref h4, .ref a1, .ref a2, .int 0])), (h1, .inr (8, [.int 0, .int np, .ref w1, .ref w2, .ref w3, .ref w4, .ref w5])), (w1, .inl (cI, 10, .inl (fw)))] := hD
    have hpx : E = "java/lang/IllegalArgumentException" ∧ (p0 < 1 ∨ 9 < p0) := hpx
    exact y_out hout hlocks g1 g2 g3 hpx (hP.sub [] rfl) (hD.sub [] (by decide) rfl) hS (Nat.le_of_ble_eq_true rfl) (Nat.le_of_ble_eq_true rfl)
  · have hP : va_P D vwCl [(h0, .inr (11, [.ref h1, .ref h2, .ref h3, .ref h4, .ref a1, .ref a2, .int 0])), (h1, .inr (8, [.int 0, .int np, .ref w1, .ref w2, .ref w3, .ref w4, .ref w5])), (w1, .inl (cI, 10, .inl (fw)))] H := hP
    have hD : va_D A [(h0, .inr (11, [.ref h1, .ref h2, .ref h3, .ref h4, .ref a1, .ref a2, .int 0])), (h1, .inr (8, [.int 0, .int np, .ref w1, .ref w2, .ref w3, .ref w4, .ref w5])), (w1, .inl (cI, 10, .inl (fw)))] := hD
    have hw : 1 ≤ p0 ∧ p0 ≤ 9 := hw
    have w_3 := hw
    refine lv_aload_n hx hb dX5_addApplicant_8 rfl (lv_at hl 0 rfl) ?_
    refine va_get (D := D) (ci := 11) (v := .ref h1) (C := RX5) (T := TX5) (N := 7) hx hb hts iX5_addApplicant_X5 hown hK hP 0 rfl rfl 0 (by decide) (hts _ kX5_addApplicant_3) (fun _ h9 => h9) rfl dX5_addApplicant_9 ?_
    refine va_get (D := D) (ci := 8) (v := .int 0) (C := RX2) (T := TX2) (N := 7) hx hb hts iX5_addApplicant_X2 hown hK hP 1 rfl rfl 0 (by decide) (hts _ kX5_addApplicant_4) (fun _ h9 => h9) rfl dX5_addApplicant_12 ?_
    refine lv_bipush (v := (10)) hx hb dX5_addApplicant_15 (by decide) ?_
    refine lv_icmp_lt (tgt := 30) hx hb dX5_addApplicant_17 (by decide) (fun _ => ?_) (fun h => absurd h (by decide))
    refine lv_aload_n hx hb dX5_addApplicant_30 rfl (lv_at hl 0 rfl) ?_
    refine va_get (D := D) (ci := 11) (v := .ref h1) (C := RX5) (T := TX5) (N := 7) hx hb hts iX5_addApplicant_X5 hown hK hP 0 rfl rfl 0 (by decide) (hts _ kX5_addApplicant_3) (fun _ h9 => h9) rfl dX5_addApplicant_31 ?_
    refine va_get (D := D) (ci := 8) (v := .int 0) (C := RX2) (T := TX2) (N := 7) hx hb hts iX5_addApplicant_X2 hown hK hP 1 rfl rfl 0 (by decide) (hts _ kX5_addApplicant_4) (fun _ h9 => h9) rfl dX5_addApplicant_34 ?_
    refine lv_istore_n (lv' := [(2, .int 0), (0, .ref h0), (1, .int p0)]) hx hb dX5_addApplicant_37 rfl hl (by decide) rfl (fun ls hl => ?_)
    refine lv_aload_n hx hb dX5_addApplicant_38 rfl (lv_at hl 1 rfl) ?_
    refine va_get (D := D) (ci := 11) (v := .ref h1) (C := RX5) (T := TX5) (N := 7) hx hb hts iX5_addApplicant_X5 hown hK hP 0 rfl rfl 0 (by decide) (hts _ kX5_addApplicant_3) (fun _ h9 => h9) rfl dX5_addApplicant_39 ?_
    refine va_get (D := D) (ci := 8) (v := .ref w1) (C := RX2) (T := TX2) (N := 7) hx hb hts iX5_addApplicant_X2 hown hK hP 1 rfl rfl 2 (by decide) (hts _ kX5_addApplicant_5) (fun _ h9 => h9) rfl dX5_addApplicant_42 ?_
    refine lv_iload_n hx hb dX5_addApplicant_45 rfl (lv_at hl 0 rfl) ?_
    refine lv_iload_n hx hb dX5_addApplicant_46 rfl (lv_at hl 2 rfl) ?_
    refine va_iast hx hb hK hP hD hS 2 0 rfl rfl (by unfold vp_in; decide) dX5_addApplicant_47 (fun H locs hP hD hS => ?_)
    obtain ⟨f_4, ef_4⟩ : ∃ g9, g9 = upd fw (0 : Int32).toNatClampNeg p0 := ⟨_, rfl⟩
    have hP : va_P D vwCl [(h0, .inr (11, [.ref h1, .ref h2, .ref h3, .ref h4, .ref a1, .ref a2, .int 0])), (h1, .inr (8, [.int 0, .int np, .ref w1, .ref w2, .ref w3, .ref w4, .ref w5])), (w1, .inl (cI, 10, .inl (f_4)))] H := by rw [ef_4]; exact hP
    have hD : va_D A [(h0, .inr (11, [.ref h1, .ref h2, .ref h3, .ref h4, .ref a1, .ref a2, .int 0])), (h1, .inr (8, [.int 0, .int np, .ref w1, .ref w2, .ref w3, .ref w4, .ref w5])), (w1, .inl (cI, 10, .inl (f_4)))] := by rw [ef_4]; exact hD
    refine lv_aload_n hx hb dX5_addApplicant_48 rfl (lv_at hl 1 rfl) ?_
    refine va_get (D := D) (ci := 11) (v := .ref h1) (C := RX5) (T := TX5) (N := 7) hx hb hts iX5_addApplicant_X5 hown hK hP 0 rfl rfl 0 (by decide) (hts _ kX5_addApplicant_3) (fun _ h9 => h9) rfl dX5_addApplicant_49 ?_
    refine lv_iload_n hx hb dX5_addApplicant_52 rfl (lv_at hl 0 rfl) ?_
    refine lv_iconst (v := (1)) hx hb dX5_addApplicant_53 (by decide) ?_
    refine lv_iadd hx hb dX5_addApplicant_54 ?_
    refine lv_topi (fun x_5 ex_5 => ?_)
    obtain rfl : x_5 = (1 : Int32) := ex_5.trans (by decide)
    refine va_put (D := D) (ci := 8) (v := .int 1) (ty := .int) (C := RX2) (T := TX2) (N := 7) hx hb hts iX5_addApplicant_X2 tyX2 tyX2_ok nmX2 hown hK hP hD hS 1 rfl rfl 0 (by decide) (hts _ kX5_addApplicant_4) (fun _ h9 => h9) rfl (by decide +kernel) rfl rfl (Nat.le_of_ble_eq_true rfl) dX5_addApplicant_55 (fun H locs hP hD hS => ?_)
    have hP : va_P D vwCl [(h0, .inr (11, [.ref h1, .ref h2, .ref h3, .ref h4, .ref a1, .ref a2, .int 0])), (h1, .inr (8, [.int 1, .int np, .ref w1, .ref w2, .ref w3, .ref w4, .ref w5])), (w1, .inl (cI, 10, .inl (f_4)))] H := hP
    have hD : va_D A [(h0, .inr (11, [.ref h1, .ref h2, .ref h3, .ref h4, .ref a1, .ref a2, .int 0])), (h1, .inr (8, [.int 1, .int np, .ref w1, .ref w2, .ref w3, .ref w4, .ref w5])), (w1, .inl (cI, 10, .inl (f_4)))] := hD
    refine lv_iload_n hx hb dX5_addApplicant_58 rfl (lv_at hl 0 rfl) ?_
    exact vx_ret (y_iret hx hb hr hlocks () (yz_f_addApplicant_1 p0 w_3) (hP.sub [] rfl) (hD.sub [] (by decide) rfl) hS (Nat.le_of_ble_eq_true rfl) (Nat.le_of_ble_eq_true rfl) dX5_addApplicant_59)
theorem yz_f_addPost_2 (p0 : Int32) (h0 : 1 ≤ p0 ∧ p0 ≤ 4) : (0 : Int32) = 0 ∧ 1 ≤ p0 ∧ p0 ≤ 4 := by grind
theorem iX5_addPost_X5 : ∀ w ∈ wsX50, w ∈ wsX5_addPost := by decide +kernel
theorem kX5_addPost_3 : Cond.fieldLink RX5 10 "Mostwell" "house" "LMostwell$House;" ∈ wsX5_addPost := List.mem_of_getElem? (i := 3) (by decide +kernel)
theorem iX5_addPost_X2 : ∀ w ∈ wsX20, w ∈ wsX5_addPost := by decide +kernel
theorem kX5_addPost_4 : Cond.fieldLink RX5 73 "Mostwell$House" "posts" "I" ∈ wsX5_addPost := List.mem_of_getElem? (i := 4) (by decide +kernel)
theorem kX5_addPost_5 : Cond.fieldLink RX5 78 "Mostwell$House" "places" "[I" ∈ wsX5_addPost := List.mem_of_getElem? (i := 5) (by decide +kernel)
set_option maxHeartbeats 4000000 in
set_option maxRecDepth 100000 in
theorem f_addPost (l : Launch) (hfl : l.stackTraces = false) (D : va_G) (tE : Nat) (sz : Nat) (h0 : Nat) (h1 : Nat) (h2 : Nat) (h3 : Nat) (h4 : Nat) (a1 : Nat) (a2 : Nat) (w1 : Nat) (w2 : Nat) (w3 : Nat) (w4 : Nat) (w5 : Nat) (na : Int32) (cI : ClassId) (fw : Nat → Int32) (p0 : Int32) (A : Nat → Prop) (hA0 : A = va_A [(h0, .inr (11, [.ref h1, .ref h2, .ref h3, .ref h4, .ref a1, .ref a2, .int 0])), (h1, .inr (8, [.int na, .int 0, .ref w1, .ref w2, .ref w3, .ref w4, .ref w5])), (w2, .inl (cI, 10, .inl (fw)))] sz) : vx_Met l yX5_addPost wsX5_addPost (yR 1 1 6) (yP D tE [(h0, .inr (11, [.ref h1, .ref h2, .ref h3, .ref h4, .ref a1, .ref a2, .int 0])), (h1, .inr (8, [.int na, .int 0, .ref w1, .ref w2, .ref w3, .ref w4, .ref w5])), (w2, .inl (cI, 10, .inl (fw)))] [(cI, .int)] sz [.ref h0, .int p0]) (va_Qi (S := Unit) (fun (r : Int32) (u : Unit) => r = 0 ∧ 1 ≤ p0 ∧ p0 ≤ 4) (fun (u : Unit) (t : State) => yB D A ((fun (u : Unit) => []) u) t) A) (vx_X (S := Unit) (fun _ => True) (fun E _ t => (fun (E : String) => E = "java/lang/IllegalArgumentException" ∧ (p0 < 1 ∨ 4 < p0)) E ∧ yB D A [] t) A) 1 6 A := by
  refine vx_ofW (cc := cX5_addPost) (maxL := 3) (ret := (some .int)) (by decide) rfl ?_
  intro p e s m args below meth c s₁ B hml hout hv
  obtain ⟨rfl, rfl, hP, hK, hD, hE, hA⟩ := y_start hA0 hv
  have hx := B.exec
  have hb := B.bytes
  have hr := B.returns
  have hts := atoms_spec (ws := wsX5_addPost) B.pre
  have hown : s.vm.findClass RX5 = some m.cls := findClass_of_methodNamed B.named
  have hlocks := B.notSynchronized
  clear hA0 hv
  have hS : va_S A s.heap s.heap [] := va_S.rf
  have hl := lv_entry ([.ref h0, .int p0]) (n := 3) (Nat.le_of_ble_eq_true rfl)
  rw [lg_entry_eq]
  generalize (lg_sl ([.ref h0, .int p0]) ++ List.replicate (3 - (lg_sl ([.ref h0, .int p0])).length) Slot.unset).toArray = ls at hl ⊢
  have hl : lv_has ls 3 [(0, .ref h0), (1, .int p0)] := hl
  refine lv_aload_n hx hb dX5_addPost_0 rfl (lv_at hl 0 rfl) ?_
  refine lv_iload_n hx hb dX5_addPost_1 rfl (lv_at hl 1 rfl) ?_
  refine lv_iconst (v := (1)) hx hb dX5_addPost_2 (by decide) ?_
  refine lv_iconst (v := (4)) hx hb dX5_addPost_3 (by decide) ?_
  refine yx_v (wc := []) (wr := [(h0, .inr (11, [.ref h1, .ref h2, .ref h3, .ref h4, .ref a1, .ref a2, .int 0])), (h1, .inr (8, [.int na, .int 0, .ref w1, .ref w2, .ref w3, .ref w4, .ref w5])), (w2, .inl (cI, 10, .inl (fw)))]) (vx_runV (As := [.int p0, .int 1, .int 4]) (rest := []) ⟨hx, hb, hml, hown, hts⟩ (c_requireNumber l hfl D tE s.heap.size h0 p0 1 4 (va_A [] s.heap.size) rfl) (cwV 3 hts gX5_addPost_X5_requireNumber rfl rfl rfl (by decide +kernel) ⟨Nat.le_of_ble_eq_true rfl, Nat.le_of_ble_eq_true rfl⟩) (yPreV (wc := []) (tc := []) hK hP hD hS hA hE [] [] (by decide) rfl rfl (ci := 11) (q0 := 0) (q := (RX5, TX5, 7)) rfl rfl) rfl rfl hl.1 rfl (lv_room (Nat.le_of_ble_eq_true rfl)) dX5_addPost_4 ⟨Nat.le_of_ble_eq_true rfl, Nat.le_of_ble_eq_true rfl⟩) hP hD hS hA [] [0, 1, 2] rfl rfl (by decide) (by decide) (fun E ce q9 H locs hpx hP hD hS g1 g2 g3 => ?_) (fun u_2 H locs hw hP hD hS => ?_)
  · have hP : va_P D vwCl [(h0, .inr (11, [.ref h1, .ref h2, .ref h3, .ref h4, .ref a1, .ref a2, .int 0])), (h1, .inr (8, [.int na, .int 0, .ref w1, .ref w2, .ref w3, .ref w4, .ref w5])), (w2, .inl (cI, 10, .inl (fw)))] H := hP
    have hD : va_D A [(h0, .inr (11, [.ref h1, .ref h2, .ref h3, .ref h4, .ref a1, .ref a2, .int 0])), (h1, .inr (8, [.int na, .int 0, .ref w1, .ref w2, .ref w3, .ref w4, .ref w5])), (w2, .inl (cI, 10, .inl (fw)))] := hD
    have hpx : E = "java/lang/IllegalArgumentException" ∧ (p0 < 1 ∨ 4 < p0) := hpx
    exact y_out hout hlocks g1 g2 g3 hpx (hP.sub [] rfl) (hD.sub [] (by decide) rfl) hS (Nat.le_of_ble_eq_true rfl) (Nat.le_of_ble_eq_true rfl)
  · have hP : va_P D vwCl [(h0, .inr (11, [.ref h1, .ref h2, .ref h3, .ref h4, .ref a1, .ref a2, .int 0])), (h1, .inr (8, [.int na, .int 0, .ref w1, .ref w2, .ref w3, .ref w4, .ref w5])), (w2, .inl (cI, 10, .inl (fw)))] H := hP
    have hD : va_D A [(h0, .inr (11, [.ref h1, .ref h2, .ref h3, .ref h4, .ref a1, .ref a2, .int 0])), (h1, .inr (8, [.int na, .int 0, .ref w1, .ref w2, .ref w3, .ref w4, .ref w5])), (w2, .inl (cI, 10, .inl (fw)))] := hD
    have hw : 1 ≤ p0 ∧ p0 ≤ 4 := hw
    have w_3 := hw
    refine lv_aload_n hx hb dX5_addPost_7 rfl (lv_at hl 0 rfl) ?_
    refine va_get (D := D) (ci := 11) (v := .ref h1) (C := RX5) (T := TX5) (N := 7) hx hb hts iX5_addPost_X5 hown hK hP 0 rfl rfl 0 (by decide) (hts _ kX5_addPost_3) (fun _ h9 => h9) rfl dX5_addPost_8 ?_
    refine va_get (D := D) (ci := 8) (v := .int 0) (C := RX2) (T := TX2) (N := 7) hx hb hts iX5_addPost_X2 hown hK hP 1 rfl rfl 1 (by decide) (hts _ kX5_addPost_4) (fun _ h9 => h9) rfl dX5_addPost_11 ?_
    refine lv_bipush (v := (10)) hx hb dX5_addPost_14 (by decide) ?_
    refine lv_icmp_lt (tgt := 29) hx hb dX5_addPost_16 (by decide) (fun _ => ?_) (fun h => absurd h (by decide))
    refine lv_aload_n hx hb dX5_addPost_29 rfl (lv_at hl 0 rfl) ?_
    refine va_get (D := D) (ci := 11) (v := .ref h1) (C := RX5) (T := TX5) (N := 7) hx hb hts iX5_addPost_X5 hown hK hP 0 rfl rfl 0 (by decide) (hts _ kX5_addPost_3) (fun _ h9 => h9) rfl dX5_addPost_30 ?_
    refine va_get (D := D) (ci := 8) (v := .int 0) (C := RX2) (T := TX2) (N := 7) hx hb hts iX5_addPost_X2 hown hK hP 1 rfl rfl 1 (by decide) (hts _ kX5_addPost_4) (fun _ h9 => h9) rfl dX5_addPost_33 ?_
    refine lv_istore_n (lv' := [(2, .int 0), (0, .ref h0), (1, .int p0)]) hx hb dX5_addPost_36 rfl hl (by decide) rfl (fun ls hl => ?_)
    refine lv_aload_n hx hb dX5_addPost_37 rfl (lv_at hl 1 rfl) ?_
    refine va_get (D := D) (ci := 11) (v := .ref h1) (C := RX5) (T := TX5) (N := 7) hx hb hts iX5_addPost_X5 hown hK hP 0 rfl rfl 0 (by decide) (hts _ kX5_addPost_3) (fun _ h9 => h9) rfl dX5_addPost_38 ?_
    refine va_get (D := D) (ci := 8) (v := .ref w2) (C := RX2) (T := TX2) (N := 7) hx hb hts iX5_addPost_X2 hown hK hP 1 rfl rfl 3 (by decide) (hts _ kX5_addPost_5) (fun _ h9 => h9) rfl dX5_addPost_41 ?_
    refine lv_iload_n hx hb dX5_addPost_44 rfl (lv_at hl 0 rfl) ?_
    refine lv_iload_n hx hb dX5_addPost_45 rfl (lv_at hl 2 rfl) ?_
    refine va_iast hx hb hK hP hD hS 2 0 rfl rfl (by unfold vp_in; decide) dX5_addPost_46 (fun H locs hP hD hS => ?_)
    obtain ⟨f_4, ef_4⟩ : ∃ g9, g9 = upd fw (0 : Int32).toNatClampNeg p0 := ⟨_, rfl⟩
    have hP : va_P D vwCl [(h0, .inr (11, [.ref h1, .ref h2, .ref h3, .ref h4, .ref a1, .ref a2, .int 0])), (h1, .inr (8, [.int na, .int 0, .ref w1, .ref w2, .ref w3, .ref w4, .ref w5])), (w2, .inl (cI, 10, .inl (f_4)))] H := by rw [ef_4]; exact hP
    have hD : va_D A [(h0, .inr (11, [.ref h1, .ref h2, .ref h3, .ref h4, .ref a1, .ref a2, .int 0])), (h1, .inr (8, [.int na, .int 0, .ref w1, .ref w2, .ref w3, .ref w4, .ref w5])), (w2, .inl (cI, 10, .inl (f_4)))] := by rw [ef_4]; exact hD
    refine lv_aload_n hx hb dX5_addPost_47 rfl (lv_at hl 1 rfl) ?_
    refine va_get (D := D) (ci := 11) (v := .ref h1) (C := RX5) (T := TX5) (N := 7) hx hb hts iX5_addPost_X5 hown hK hP 0 rfl rfl 0 (by decide) (hts _ kX5_addPost_3) (fun _ h9 => h9) rfl dX5_addPost_48 ?_
    refine lv_iload_n hx hb dX5_addPost_51 rfl (lv_at hl 0 rfl) ?_
    refine lv_iconst (v := (1)) hx hb dX5_addPost_52 (by decide) ?_
    refine lv_iadd hx hb dX5_addPost_53 ?_
    refine lv_topi (fun x_5 ex_5 => ?_)
    obtain rfl : x_5 = (1 : Int32) := ex_5.trans (by decide)
    refine va_put (D := D) (ci := 8) (v := .int 1) (ty := .int) (C := RX2) (T := TX2) (N := 7) hx hb hts iX5_addPost_X2 tyX2 tyX2_ok nmX2 hown hK hP hD hS 1 rfl rfl 1 (by decide) (hts _ kX5_addPost_4) (fun _ h9 => h9) rfl (by decide +kernel) rfl rfl (Nat.le_of_ble_eq_true rfl) dX5_addPost_54 (fun H locs hP hD hS => ?_)
    have hP : va_P D vwCl [(h0, .inr (11, [.ref h1, .ref h2, .ref h3, .ref h4, .ref a1, .ref a2, .int 0])), (h1, .inr (8, [.int na, .int 1, .ref w1, .ref w2, .ref w3, .ref w4, .ref w5])), (w2, .inl (cI, 10, .inl (f_4)))] H := hP
    have hD : va_D A [(h0, .inr (11, [.ref h1, .ref h2, .ref h3, .ref h4, .ref a1, .ref a2, .int 0])), (h1, .inr (8, [.int na, .int 1, .ref w1, .ref w2, .ref w3, .ref w4, .ref w5])), (w2, .inl (cI, 10, .inl (f_4)))] := hD
    refine lv_iload_n hx hb dX5_addPost_57 rfl (lv_at hl 0 rfl) ?_
    exact vx_ret (y_iret hx hb hr hlocks () (yz_f_addPost_2 p0 w_3) (hP.sub [] rfl) (hD.sub [] (by decide) rfl) hS (Nat.le_of_ble_eq_true rfl) (Nat.le_of_ble_eq_true rfl) dX5_addPost_58)
theorem yz_c_knows_3 (p0 : Int32) (h0 : p0 = (62 : Int32)) : ((1 : Int32) = 1 ∧ (p0 = 62 ∨ p0 = 61 ∨ (97 ≤ p0 ∧ p0 ≤ 106))) ∨ ((1 : Int32) = 0 ∧ ¬ (p0 = 62 ∨ p0 = 61 ∨ (97 ≤ p0 ∧ p0 ≤ 106))) := by grind
theorem yz_c_knows_4 (p0 : Int32) (h0 : ¬ p0 = (62 : Int32)) (h1 : p0 = (61 : Int32)) : ((1 : Int32) = 1 ∧ (p0 = 62 ∨ p0 = 61 ∨ (97 ≤ p0 ∧ p0 ≤ 106))) ∨ ((1 : Int32) = 0 ∧ ¬ (p0 = 62 ∨ p0 = 61 ∨ (97 ≤ p0 ∧ p0 ≤ 106))) := by grind
theorem yz_c_knows_5 (p0 : Int32) (h0 : ¬ p0 = (62 : Int32)) (h1 : ¬ p0 = (61 : Int32)) (h2 : p0 < (97 : Int32)) : ((0 : Int32) = 1 ∧ (p0 = 62 ∨ p0 = 61 ∨ (97 ≤ p0 ∧ p0 ≤ 106))) ∨ ((0 : Int32) = 0 ∧ ¬ (p0 = 62 ∨ p0 = 61 ∨ (97 ≤ p0 ∧ p0 ≤ 106))) := by grind
theorem yz_c_knows_6 (p0 : Int32) (h0 : ¬ p0 = (62 : Int32)) (h1 : ¬ p0 = (61 : Int32)) (h2 : ¬ p0 < (97 : Int32)) (h3 : (106 : Int32) < p0) : ((0 : Int32) = 1 ∧ (p0 = 62 ∨ p0 = 61 ∨ (97 ≤ p0 ∧ p0 ≤ 106))) ∨ ((0 : Int32) = 0 ∧ ¬ (p0 = 62 ∨ p0 = 61 ∨ (97 ≤ p0 ∧ p0 ≤ 106))) := by grind
theorem yz_c_knows_7 (p0 : Int32) (h0 : ¬ p0 = (62 : Int32)) (h1 : ¬ p0 = (61 : Int32)) (h2 : ¬ p0 < (97 : Int32)) (h3 : ¬ (106 : Int32) < p0) : ((1 : Int32) = 1 ∧ (p0 = 62 ∨ p0 = 61 ∨ (97 ≤ p0 ∧ p0 ≤ 106))) ∨ ((1 : Int32) = 0 ∧ ¬ (p0 = 62 ∨ p0 = 61 ∨ (97 ≤ p0 ∧ p0 ≤ 106))) := by grind

set_option maxHeartbeats 4000000 in
set_option maxRecDepth 100000 in
theorem c_knows (l : Launch) (hfl : l.stackTraces = false) (D : va_G) (tE : Nat) (sz : Nat) (p0 : Int32) (A : Nat → Prop) (hA0 : A = va_A [] sz) : Met l yX4_knows wsX4_knows (yR 0 0 0) (yP D tE [] [] sz [.int p0]) (va_Qi (S := Unit) (fun (r : Int32) (u : Unit) => (r = 1 ∧ (p0 = 62 ∨ p0 = 61 ∨ (97 ≤ p0 ∧ p0 ≤ 106))) ∨ (r = 0 ∧ ¬ (p0 = 62 ∨ p0 = 61 ∨ (97 ≤ p0 ∧ p0 ≤ 106)))) (fun (u : Unit) (t : State) => yB D A ((fun (u : Unit) => []) u) t) A) 0 0 A := by
  refine Met.ofW (cc := cX4_knows) (maxL := 1) (ret := (some .boolean)) (by decide) rfl ?_
  intro p e s m args below meth c s₁ B hml hv
  obtain ⟨rfl, rfl, hP, hK, hD, hE, hA⟩ := y_start hA0 hv
  have hx := B.exec
  have hb := B.bytes
  have hr := B.returns
  have hts := atoms_spec (ws := wsX4_knows) B.pre
  have hown : s.vm.findClass RX4 = some m.cls := findClass_of_methodNamed B.named
  have hlocks := B.notSynchronized
  clear hA0 hv
  have hS : va_S A s.heap s.heap [] := va_S.rf
  have hl := lv_entry ([.int p0]) (n := 1) (Nat.le_of_ble_eq_true rfl)
  rw [lg_entry_eq]
  generalize (lg_sl ([.int p0]) ++ List.replicate (1 - (lg_sl ([.int p0])).length) Slot.unset).toArray = ls at hl ⊢
  have hl : lv_has ls 1 [(0, .int p0)] := hl
  refine lv_iload_n hx hb dX4_knows_0 rfl (lv_at hl 0 rfl) ?_
  refine lv_bipush (v := (62)) hx hb dX4_knows_1 (by decide) ?_
  refine lv_icmp_eq (tgt := 24) hx hb dX4_knows_3 (by decide) (fun c_1 => ?_) (fun c_1 => ?_)
  · refine lv_iconst (v := (1)) hx hb dX4_knows_24 (by decide) ?_
    refine lv_goto (tgt := 29) hx hb dX4_knows_25 (by decide) ?_
    exact y_zret hx hb hr hlocks (by decide) () (yz_c_knows_3 p0 c_1) hP hD hS (Nat.le_of_ble_eq_true rfl) (Nat.le_of_ble_eq_true rfl) dX4_knows_29
  · refine lv_iload_n hx hb dX4_knows_6 rfl (lv_at hl 0 rfl) ?_
    refine lv_bipush (v := (61)) hx hb dX4_knows_7 (by decide) ?_
    refine lv_icmp_eq (tgt := 24) hx hb dX4_knows_9 (by decide) (fun c_2 => ?_) (fun c_2 => ?_)
    · refine lv_iconst (v := (1)) hx hb dX4_knows_24 (by decide) ?_
      refine lv_goto (tgt := 29) hx hb dX4_knows_25 (by decide) ?_
      exact y_zret hx hb hr hlocks (by decide) () (yz_c_knows_4 p0 c_1 c_2) hP hD hS (Nat.le_of_ble_eq_true rfl) (Nat.le_of_ble_eq_true rfl) dX4_knows_29
    · refine lv_iload_n hx hb dX4_knows_12 rfl (lv_at hl 0 rfl) ?_
      refine lv_bipush (v := (97)) hx hb dX4_knows_13 (by decide) ?_
      refine lv_icmp_lt (tgt := 28) hx hb dX4_knows_15 (by decide) (fun c_3 => ?_) (fun c_3 => ?_)
      · refine lv_iconst (v := (0)) hx hb dX4_knows_28 (by decide) ?_
        exact y_zret hx hb hr hlocks (by decide) () (yz_c_knows_5 p0 c_1 c_2 c_3) hP hD hS (Nat.le_of_ble_eq_true rfl) (Nat.le_of_ble_eq_true rfl) dX4_knows_29
      · refine lv_iload_n hx hb dX4_knows_18 rfl (lv_at hl 0 rfl) ?_
        refine lv_bipush (v := (106)) hx hb dX4_knows_19 (by decide) ?_
        refine lv_icmp_gt (tgt := 28) hx hb dX4_knows_21 (by decide) (fun c_4 => ?_) (fun c_4 => ?_)
        · refine lv_iconst (v := (0)) hx hb dX4_knows_28 (by decide) ?_
          exact y_zret hx hb hr hlocks (by decide) () (yz_c_knows_6 p0 c_1 c_2 c_3 c_4) hP hD hS (Nat.le_of_ble_eq_true rfl) (Nat.le_of_ble_eq_true rfl) dX4_knows_29
        · refine lv_iconst (v := (1)) hx hb dX4_knows_24 (by decide) ?_
          refine lv_goto (tgt := 29) hx hb dX4_knows_25 (by decide) ?_
          exact y_zret hx hb hr hlocks (by decide) () (yz_c_knows_7 p0 c_1 c_2 c_3 c_4) hP hD hS (Nat.le_of_ble_eq_true rfl) (Nat.le_of_ble_eq_true rfl) dX4_knows_29
theorem iX4_isFull_X4 : ∀ w ∈ wsX40, w ∈ wsX4_isFull := by decide +kernel
theorem kX4_isFull_1 : Cond.fieldLink RX4 9 "Mostwell$Typing" "length" "I" ∈ wsX4_isFull := List.mem_of_getElem? (i := 1) (by decide +kernel)
set_option maxHeartbeats 4000000 in
set_option maxRecDepth 100000 in
theorem f_isFull (l : Launch) (hfl : l.stackTraces = false) (D : va_G) (tE : Nat) (sz : Nat) (h2 : Nat) (t1 : Nat) (t2 : Nat) (A : Nat → Prop) (hA0 : A = va_A [(h2, .inr (10, [.int 0, .ref t1, .ref t2]))] sz) : Met l yX4_isFull wsX4_isFull (yR 0 0 0) (yP D tE [(h2, .inr (10, [.int 0, .ref t1, .ref t2]))] [] sz [.ref h2]) (va_Qi (S := Unit) (fun (r : Int32) (u : Unit) => r = 0) (fun (u : Unit) (t : State) => yB D A ((fun (u : Unit) => [(h2, .inr (10, [.int 0, .ref t1, .ref t2]))]) u) t) A) 0 0 A := by
  refine Met.ofW (cc := cX4_isFull) (maxL := 1) (ret := (some .boolean)) (by decide) rfl ?_
  intro p e s m args below meth c s₁ B hml hv
  obtain ⟨rfl, rfl, hP, hK, hD, hE, hA⟩ := y_start hA0 hv
  have hx := B.exec
  have hb := B.bytes
  have hr := B.returns
  have hts := atoms_spec (ws := wsX4_isFull) B.pre
  have hown : s.vm.findClass RX4 = some m.cls := findClass_of_methodNamed B.named
  have hlocks := B.notSynchronized
  clear hA0 hv
  have hS : va_S A s.heap s.heap [] := va_S.rf
  have hl := lv_entry ([.ref h2]) (n := 1) (Nat.le_of_ble_eq_true rfl)
  rw [lg_entry_eq]
  generalize (lg_sl ([.ref h2]) ++ List.replicate (1 - (lg_sl ([.ref h2])).length) Slot.unset).toArray = ls at hl ⊢
  have hl : lv_has ls 1 [(0, .ref h2)] := hl
  refine lv_aload_n hx hb dX4_isFull_0 rfl (lv_at hl 0 rfl) ?_
  refine va_get (D := D) (ci := 10) (v := .int 0) (C := RX4) (T := TX4) (N := 3) hx hb hts iX4_isFull_X4 hown hK hP 0 rfl rfl 0 (by decide) (hts _ kX4_isFull_1) (fun _ h9 => h9) rfl dX4_isFull_1 ?_
  refine lv_bipush (v := (20)) hx hb dX4_isFull_4 (by decide) ?_
  refine lv_icmp_lt (tgt := 13) hx hb dX4_isFull_6 (by decide) (fun _ => ?_) (fun h => absurd h (by decide))
  refine lv_iconst (v := (0)) hx hb dX4_isFull_13 (by decide) ?_
  exact y_zret hx hb hr hlocks (by decide) () rfl hP hD hS (Nat.le_of_ble_eq_true rfl) (Nat.le_of_ble_eq_true rfl) dX4_isFull_14
theorem iX4_append_X4 : ∀ w ∈ wsX40, w ∈ wsX4_append := by decide +kernel
theorem kX4_append_1 : Cond.fieldLink RX4 19 "Mostwell$Typing" "signs" "[C" ∈ wsX4_append := List.mem_of_getElem? (i := 1) (by decide +kernel)
theorem kX4_append_2 : Cond.fieldLink RX4 9 "Mostwell$Typing" "length" "I" ∈ wsX4_append := List.mem_of_getElem? (i := 2) (by decide +kernel)
set_option maxHeartbeats 4000000 in
set_option maxRecDepth 100000 in
theorem f_append (l : Launch) (hfl : l.stackTraces = false) (D : va_G) (tE : Nat) (sz : Nat) (h2 : Nat) (t1 : Nat) (t2 : Nat) (cC : ClassId) (fc : Nat → Int32) (p0 : Int32) (A : Nat → Prop) (hA0 : A = va_A [(h2, .inr (10, [.int 0, .ref t1, .ref t2])), (t2, .inl (cC, 20, .inl (fc)))] sz) : Met l yX4_append wsX4_append (yR 1 0 0) (yP D tE [(h2, .inr (10, [.int 0, .ref t1, .ref t2])), (t2, .inl (cC, 20, .inl (fc)))] [(cC, .char)] sz [.ref h2, .int p0]) (va_Qi (S := Unit) (fun (r : Int32) (u : Unit) => r = 1) (fun (u : Unit) (t : State) => yB D A ((fun (u : Unit) => []) u) t) A) 0 0 A := by
  refine Met.ofW (cc := cX4_append) (maxL := 2) (ret := (some .int)) (by decide) rfl ?_
  intro p e s m args below meth c s₁ B hml hv
  obtain ⟨rfl, rfl, hP, hK, hD, hE, hA⟩ := y_start hA0 hv
  have hx := B.exec
  have hb := B.bytes
  have hr := B.returns
  have hts := atoms_spec (ws := wsX4_append) B.pre
  have hown : s.vm.findClass RX4 = some m.cls := findClass_of_methodNamed B.named
  have hlocks := B.notSynchronized
  clear hA0 hv
  have hS : va_S A s.heap s.heap [] := va_S.rf
  have hl := lv_entry ([.ref h2, .int p0]) (n := 2) (Nat.le_of_ble_eq_true rfl)
  rw [lg_entry_eq]
  generalize (lg_sl ([.ref h2, .int p0]) ++ List.replicate (2 - (lg_sl ([.ref h2, .int p0])).length) Slot.unset).toArray = ls at hl ⊢
  have hl : lv_has ls 2 [(0, .ref h2), (1, .int p0)] := hl
  refine lv_aload_n hx hb dX4_append_0 rfl (lv_at hl 0 rfl) ?_
  refine yc_i (wc := [(h2, .inr (10, [.int 0, .ref t1, .ref t2]))]) (wr := [(t2, .inl (cC, 20, .inl (fc)))]) (va_runV (As := []) (rest := []) ⟨hx, hb, hml, hown, hts⟩ (f_isFull l hfl D tE s.heap.size h2 t1 t2 (va_A [(h2, .inr (10, [.int 0, .ref t1, .ref t2]))] s.heap.size) rfl) (cwV 0 hts gX4_append_X4_isFull rfl rfl rfl (by decide +kernel) ⟨Nat.le_of_ble_eq_true rfl, Nat.le_of_ble_eq_true rfl⟩) (yPreV (wc := [(h2, .inr (10, [.int 0, .ref t1, .ref t2]))]) (tc := []) hK hP hD hS hA hE [0] [] (by decide) rfl rfl (ci := 10) (q0 := 0) (q := (RX4, TX4, 3)) rfl rfl) rfl rfl hl.1 rfl (lv_room (Nat.le_of_ble_eq_true rfl)) dX4_append_1 ⟨Nat.le_of_ble_eq_true rfl, Nat.le_of_ble_eq_true rfl⟩) hP hD hS hA [0] [1] rfl rfl (by decide) (by decide) (fun r_1 u_2 H locs hw hP hD hS => ?_)
  have hP : va_P D vwCl [(t2, .inl (cC, 20, .inl (fc))), (h2, .inr (10, [.int 0, .ref t1, .ref t2]))] H := hP
  have hD : va_D A [(t2, .inl (cC, 20, .inl (fc))), (h2, .inr (10, [.int 0, .ref t1, .ref t2]))] := hD
  have hw : r_1 = 0 := hw
  subst hw
  refine lv_if_ne (tgt := 27) hx hb dX4_append_4 (by decide) (fun h => absurd h (by decide)) (fun _ => ?_)
  refine lv_aload_n hx hb dX4_append_7 rfl (lv_at hl 0 rfl) ?_
  refine va_get (D := D) (ci := 10) (v := .ref t2) (C := RX4) (T := TX4) (N := 3) hx hb hts iX4_append_X4 hown hK hP 1 rfl rfl 2 (by decide) (hts _ kX4_append_1) (fun _ h9 => h9) rfl dX4_append_8 ?_
  refine lv_aload_n hx hb dX4_append_11 rfl (lv_at hl 0 rfl) ?_
  refine va_get (D := D) (ci := 10) (v := .int 0) (C := RX4) (T := TX4) (N := 3) hx hb hts iX4_append_X4 hown hK hP 1 rfl rfl 0 (by decide) (hts _ kX4_append_2) (fun _ h9 => h9) rfl dX4_append_12 ?_
  refine lv_iload_n hx hb dX4_append_15 rfl (lv_at hl 1 rfl) ?_
  refine va_cast hx hb hK hP hD hS 0 0 rfl rfl (by unfold vp_in; decide) dX4_append_16 (fun H locs hP hD hS => ?_)
  obtain ⟨f_3, ef_3⟩ : ∃ g9, g9 = upd fc (0 : Int32).toNatClampNeg (vp_nar .char p0) := ⟨_, rfl⟩
  have hP : va_P D vwCl [(t2, .inl (cC, 20, .inl (f_3))), (h2, .inr (10, [.int 0, .ref t1, .ref t2]))] H := by rw [ef_3]; exact hP
  have hD : va_D A [(t2, .inl (cC, 20, .inl (f_3))), (h2, .inr (10, [.int 0, .ref t1, .ref t2]))] := by rw [ef_3]; exact hD
  refine lv_aload_n hx hb dX4_append_17 rfl (lv_at hl 0 rfl) ?_
  refine lv_dup hx hb dX4_append_18 rfl ?_
  refine va_get (D := D) (ci := 10) (v := .int 0) (C := RX4) (T := TX4) (N := 3) hx hb hts iX4_append_X4 hown hK hP 1 rfl rfl 0 (by decide) (hts _ kX4_append_2) (fun _ h9 => h9) rfl dX4_append_19 ?_
  refine lv_iconst (v := (1)) hx hb dX4_append_22 (by decide) ?_
  refine lv_iadd hx hb dX4_append_23 ?_
  refine lv_topi (fun x_4 ex_4 => ?_)
  obtain rfl : x_4 = (1 : Int32) := ex_4.trans (by decide)
  refine va_put (D := D) (ci := 10) (v := .int 1) (ty := .int) (C := RX4) (T := TX4) (N := 3) hx hb hts iX4_append_X4 tyX4 tyX4_ok nmX4 hown hK hP hD hS 1 rfl rfl 0 (by decide) (hts _ kX4_append_2) (fun _ h9 => h9) rfl (by decide +kernel) rfl rfl (Nat.le_of_ble_eq_true rfl) dX4_append_24 (fun H locs hP hD hS => ?_)
  have hP : va_P D vwCl [(t2, .inl (cC, 20, .inl (f_3))), (h2, .inr (10, [.int 1, .ref t1, .ref t2]))] H := hP
  have hD : va_D A [(t2, .inl (cC, 20, .inl (f_3))), (h2, .inr (10, [.int 1, .ref t1, .ref t2]))] := hD
  refine lv_aload_n hx hb dX4_append_27 rfl (lv_at hl 0 rfl) ?_
  refine va_get (D := D) (ci := 10) (v := .int 1) (C := RX4) (T := TX4) (N := 3) hx hb hts iX4_append_X4 hown hK hP 1 rfl rfl 0 (by decide) (hts _ kX4_append_2) (fun _ h9 => h9) rfl dX4_append_28 ?_
  exact y_iret hx hb hr hlocks () rfl (hP.sub [] rfl) (hD.sub [] (by decide) rfl) hS (Nat.le_of_ble_eq_true rfl) (Nat.le_of_ble_eq_true rfl) dX4_append_31
theorem yz_f_type_8 (p0 : Int32) (h0 : (p0 = 62 ∨ p0 = 61 ∨ (97 ≤ p0 ∧ p0 ≤ 106))) : (1 : Int32) = 1 ∧ (p0 = 62 ∨ p0 = 61 ∨ (97 ≤ p0 ∧ p0 ≤ 106)) := by grind
theorem yz_f_type_9 (p0 : Int32) (h0 : ¬ (p0 = 62 ∨ p0 = 61 ∨ (97 ≤ p0 ∧ p0 ≤ 106))) : ¬ (p0 = 62 ∨ p0 = 61 ∨ (97 ≤ p0 ∧ p0 ≤ 106)) := by grind
theorem iX5_type_X5 : ∀ w ∈ wsX50, w ∈ wsX5_type := by decide +kernel
theorem kX5_type_5 : Cond.fieldLink RX5 19 "Mostwell" "typing" "LMostwell$Typing;" ∈ wsX5_type := List.mem_of_getElem? (i := 5) (by decide +kernel)
theorem eX5_type_111 : ∀ w ∈ (vx_atS RX5 111 "java/lang/IllegalArgumentException" ["java/lang/RuntimeException", "java/lang/Exception"]).filter goodWord, w ∈ wsX5_type := fun _ h => List.mem_cons_of_mem _ (List.mem_append_left _ (List.mem_append_left _ (List.mem_append_right _ h)))
theorem kX5_type_1 : Cond.classLink RX5 107 "java/lang/IllegalArgumentException" ∈ wsX5_type := List.mem_of_getElem? (i := 1) (by decide +kernel)
theorem kX5_type_2 : Cond.initialized "java/lang/IllegalArgumentException" ∈ wsX5_type := List.mem_of_getElem? (i := 2) (by decide +kernel)
set_option maxHeartbeats 4000000 in
set_option maxRecDepth 100000 in
theorem f_type (l : Launch) (hfl : l.stackTraces = false) (D : va_G) (tE : Nat) (sz : Nat) (h0 : Nat) (h1 : Nat) (h2 : Nat) (h3 : Nat) (h4 : Nat) (a1 : Nat) (a2 : Nat) (t1 : Nat) (t2 : Nat) (cC : ClassId) (fc : Nat → Int32) (p0 : Int32) (A : Nat → Prop) (hA0 : A = va_A [(h0, .inr (11, [.ref h1, .ref h2, .ref h3, .ref h4, .ref a1, .ref a2, .int 0])), (h2, .inr (10, [.int 0, .ref t1, .ref t2])), (t2, .inl (cC, 20, .inl (fc)))] sz) : vx_Met l yX5_type wsX5_type (yR 2 1 6) (yP D tE [(h0, .inr (11, [.ref h1, .ref h2, .ref h3, .ref h4, .ref a1, .ref a2, .int 0])), (h2, .inr (10, [.int 0, .ref t1, .ref t2])), (t2, .inl (cC, 20, .inl (fc)))] [(cC, .char)] sz [.ref h0, .int p0]) (va_Qi (S := Unit) (fun (r : Int32) (u : Unit) => r = 1 ∧ (p0 = 62 ∨ p0 = 61 ∨ (97 ≤ p0 ∧ p0 ≤ 106))) (fun (u : Unit) (t : State) => yB D A ((fun (u : Unit) => []) u) t) A) (vx_X (S := Unit) (fun _ => True) (fun E _ t => (fun (E : String) => E = "java/lang/IllegalArgumentException" ∧ ¬ (p0 = 62 ∨ p0 = 61 ∨ (97 ≤ p0 ∧ p0 ≤ 106))) E ∧ yB D A [] t) A) 1 6 A := by
  refine vx_ofW (cc := cX5_type) (maxL := 2) (ret := (some .int)) (by decide) rfl ?_
  intro p e s m args below meth c s₁ B hml hout hv
  obtain ⟨rfl, rfl, hP, hK, hD, hE, hA⟩ := y_start hA0 hv
  have hx := B.exec
  have hb := B.bytes
  have hr := B.returns
  have hts := atoms_spec (ws := wsX5_type) B.pre
  have hown : s.vm.findClass RX5 = some m.cls := findClass_of_methodNamed B.named
  have hlocks := B.notSynchronized
  clear hA0 hv
  have hS : va_S A s.heap s.heap [] := va_S.rf
  have hl := lv_entry ([.ref h0, .int p0]) (n := 2) (Nat.le_of_ble_eq_true rfl)
  rw [lg_entry_eq]
  generalize (lg_sl ([.ref h0, .int p0]) ++ List.replicate (2 - (lg_sl ([.ref h0, .int p0])).length) Slot.unset).toArray = ls at hl ⊢
  have hl : lv_has ls 2 [(0, .ref h0), (1, .int p0)] := hl
  refine lv_iload_n hx hb dX5_type_0 rfl (lv_at hl 1 rfl) ?_
  refine yc_i (wc := []) (wr := [(h0, .inr (11, [.ref h1, .ref h2, .ref h3, .ref h4, .ref a1, .ref a2, .int 0])), (h2, .inr (10, [.int 0, .ref t1, .ref t2])), (t2, .inl (cC, 20, .inl (fc)))]) (va_runS (As := [.int p0]) (rest := []) ⟨hx, hb, hml, hown, hts⟩ (c_knows l hfl D tE s.heap.size p0 (va_A [] s.heap.size) rfl) (va_cwS 1 hts gX5_type_X4_knows rfl rfl rfl (by decide +kernel) ⟨Nat.le_of_ble_eq_true rfl, Nat.le_of_ble_eq_true rfl⟩) (yPreS (wc := []) (tc := []) hK hP hD hS hA hE [] [] (by decide) rfl rfl) rfl rfl hl.1 rfl (lv_room (Nat.le_of_ble_eq_true rfl)) dX5_type_1 ⟨Nat.le_of_ble_eq_true rfl, Nat.le_of_ble_eq_true rfl⟩) hP hD hS hA [] [0, 1, 2] rfl rfl (by decide) (by decide) (fun r_1 u_2 H locs hw hP hD hS => ?_)
  have hP : va_P D vwCl [(h0, .inr (11, [.ref h1, .ref h2, .ref h3, .ref h4, .ref a1, .ref a2, .int 0])), (h2, .inr (10, [.int 0, .ref t1, .ref t2])), (t2, .inl (cC, 20, .inl (fc)))] H := hP
  have hD : va_D A [(h0, .inr (11, [.ref h1, .ref h2, .ref h3, .ref h4, .ref a1, .ref a2, .int 0])), (h2, .inr (10, [.int 0, .ref t1, .ref t2])), (t2, .inl (cC, 20, .inl (fc)))] := hD
  have hw : (r_1 = 1 ∧ (p0 = 62 ∨ p0 = 61 ∨ (97 ≤ p0 ∧ p0 ≤ 106))) ∨ (r_1 = 0 ∧ ¬ (p0 = 62 ∨ p0 = 61 ∨ (97 ≤ p0 ∧ p0 ≤ 106))) := hw
  rcases hw with ⟨hr9, hw9⟩ | ⟨hr9, hw9⟩
  · subst hr9
    have w_3 : (p0 = 62 ∨ p0 = 61 ∨ (97 ≤ p0 ∧ p0 ≤ 106)) := hw9
    refine lv_if_ne (tgt := 17) hx hb dX5_type_4 (by decide) (fun _ => ?_) (fun h => absurd h (by decide))
    refine lv_aload_n hx hb dX5_type_17 rfl (lv_at hl 0 rfl) ?_
    refine va_get (D := D) (ci := 11) (v := .ref h2) (C := RX5) (T := TX5) (N := 7) hx hb hts iX5_type_X5 hown hK hP 0 rfl rfl 1 (by decide) (hts _ kX5_type_5) (fun _ h9 => h9) rfl dX5_type_18 ?_
    refine yc_i (wc := [(h2, .inr (10, [.int 0, .ref t1, .ref t2]))]) (wr := [(h0, .inr (11, [.ref h1, .ref h2, .ref h3, .ref h4, .ref a1, .ref a2, .int 0])), (t2, .inl (cC, 20, .inl (fc)))]) (va_runV (As := []) (rest := []) ⟨hx, hb, hml, hown, hts⟩ (f_isFull l hfl D tE H.size h2 t1 t2 (va_A [(h2, .inr (10, [.int 0, .ref t1, .ref t2]))] H.size) rfl) (cwV 0 hts gX5_type_X4_isFull rfl rfl rfl (by decide +kernel) ⟨Nat.le_of_ble_eq_true rfl, Nat.le_of_ble_eq_true rfl⟩) (yPreV (wc := [(h2, .inr (10, [.int 0, .ref t1, .ref t2]))]) (tc := []) hK hP hD hS hA hE [1] [] (by decide) rfl rfl (ci := 10) (q0 := 1) (q := (RX4, TX4, 3)) rfl rfl) rfl rfl hl.1 rfl (lv_room (Nat.le_of_ble_eq_true rfl)) dX5_type_21 ⟨Nat.le_of_ble_eq_true rfl, Nat.le_of_ble_eq_true rfl⟩) hP hD hS hA [1] [0, 2] rfl rfl (by decide) (by decide) (fun r_4 u_5 H locs hw hP hD hS => ?_)
    have hP : va_P D vwCl [(h0, .inr (11, [.ref h1, .ref h2, .ref h3, .ref h4, .ref a1, .ref a2, .int 0])), (t2, .inl (cC, 20, .inl (fc))), (h2, .inr (10, [.int 0, .ref t1, .ref t2]))] H := hP
    have hD : va_D A [(h0, .inr (11, [.ref h1, .ref h2, .ref h3, .ref h4, .ref a1, .ref a2, .int 0])), (t2, .inl (cC, 20, .inl (fc))), (h2, .inr (10, [.int 0, .ref t1, .ref t2]))] := hD
    have hw : r_4 = 0 := hw
    subst hw
    refine lv_if_eq (tgt := 37) hx hb dX5_type_24 (by decide) (fun _ => ?_) (fun h => absurd h (by decide))
    refine lv_aload_n hx hb dX5_type_37 rfl (lv_at hl 0 rfl) ?_
    refine va_get (D := D) (ci := 11) (v := .ref h2) (C := RX5) (T := TX5) (N := 7) hx hb hts iX5_type_X5 hown hK hP 0 rfl rfl 1 (by decide) (hts _ kX5_type_5) (fun _ h9 => h9) rfl dX5_type_38 ?_
    refine lv_iload_n hx hb dX5_type_41 rfl (lv_at hl 1 rfl) ?_
    refine yc_i (wc := [(h2, .inr (10, [.int 0, .ref t1, .ref t2])), (t2, .inl (cC, 20, .inl (fc)))]) (wr := [(h0, .inr (11, [.ref h1, .ref h2, .ref h3, .ref h4, .ref a1, .ref a2, .int 0]))]) (va_runV (As := [.int p0]) (rest := []) ⟨hx, hb, hml, hown, hts⟩ (f_append l hfl D tE H.size h2 t1 t2 cC fc p0 (va_A [(h2, .inr (10, [.int 0, .ref t1, .ref t2])), (t2, .inl (cC, 20, .inl (fc)))] H.size) rfl) (cwV 1 hts gX5_type_X4_append rfl rfl rfl (by decide +kernel) ⟨Nat.le_of_ble_eq_true rfl, Nat.le_of_ble_eq_true rfl⟩) (yPreV (wc := [(h2, .inr (10, [.int 0, .ref t1, .ref t2])), (t2, .inl (cC, 20, .inl (fc)))]) (tc := [(cC, .char)]) hK hP hD hS hA hE [2, 1] [0] (by decide) rfl rfl (ci := 10) (q0 := 2) (q := (RX4, TX4, 3)) rfl rfl) rfl rfl hl.1 rfl (lv_room (Nat.le_of_ble_eq_true rfl)) dX5_type_42 ⟨Nat.le_of_ble_eq_true rfl, Nat.le_of_ble_eq_true rfl⟩) hP hD hS hA [2, 1] [0] rfl rfl (by decide) (by decide) (fun r_6 u_7 H locs hw hP hD hS => ?_)
    have hP : va_P D vwCl [(h0, .inr (11, [.ref h1, .ref h2, .ref h3, .ref h4, .ref a1, .ref a2, .int 0]))] H := hP
    have hD : va_D A [(h0, .inr (11, [.ref h1, .ref h2, .ref h3, .ref h4, .ref a1, .ref a2, .int 0]))] := hD
    have hw : r_6 = 1 := hw
    subst hw
    exact vx_ret (y_iret hx hb hr hlocks () (yz_f_type_8 p0 w_3) (hP.sub [] rfl) (hD.sub [] (by decide) rfl) hS (Nat.le_of_ble_eq_true rfl) (Nat.le_of_ble_eq_true rfl) dX5_type_45)
  · subst hr9
    have w_8 : ¬ (p0 = 62 ∨ p0 = 61 ∨ (97 ≤ p0 ∧ p0 ≤ 106)) := hw9
    refine lv_if_ne (tgt := 17) hx hb dX5_type_4 (by decide) (fun h => absurd h (by decide)) (fun _ => ?_)
    exact y_throwS (text := "no sign of a list") hx hb hfl hts hown yth_X5_107_111 (by decide) kX5_type_1 kX5_type_2 eX5_type_111 hE (hP.sub [] rfl) (hD.sub [] (by decide) rfl) hS (by rw [hml]; exact hl.1) dX5_type_7 dX5_type_10 dX5_type_11 dX5_type_13 dX5_type_16 hout ⟨Nat.le_of_ble_eq_true rfl, Nat.le_of_ble_eq_true rfl, Nat.le_of_ble_eq_true rfl, Nat.le_of_ble_eq_true rfl⟩ hlocks ⟨rfl, (yz_f_type_9 p0 w_8)⟩ (Nat.le_of_ble_eq_true rfl) (Nat.le_of_ble_eq_true rfl)
theorem iX5_wipe_X5 : ∀ w ∈ wsX50, w ∈ wsX5_wipe := by decide +kernel
theorem kX5_wipe_1 : Cond.fieldLink RX5 19 "Mostwell" "typing" "LMostwell$Typing;" ∈ wsX5_wipe := List.mem_of_getElem? (i := 1) (by decide +kernel)
theorem iX5_wipe_X4 : ∀ w ∈ wsX40, w ∈ wsX5_wipe := by decide +kernel
theorem kX5_wipe_2 : Cond.fieldLink RX5 122 "Mostwell$Typing" "length" "I" ∈ wsX5_wipe := List.mem_of_getElem? (i := 2) (by decide +kernel)
set_option maxHeartbeats 4000000 in
set_option maxRecDepth 100000 in
theorem f_wipe (l : Launch) (hfl : l.stackTraces = false) (D : va_G) (tE : Nat) (sz : Nat) (h0 : Nat) (h1 : Nat) (h2 : Nat) (h3 : Nat) (h4 : Nat) (a1 : Nat) (a2 : Nat) (t1 : Nat) (t2 : Nat) (A : Nat → Prop) (hA0 : A = va_A [(h0, .inr (11, [.ref h1, .ref h2, .ref h3, .ref h4, .ref a1, .ref a2, .int 0])), (h2, .inr (10, [.int 0, .ref t1, .ref t2]))] sz) : Met l yX5_wipe wsX5_wipe (yR 0 0 0) (yP D tE [(h0, .inr (11, [.ref h1, .ref h2, .ref h3, .ref h4, .ref a1, .ref a2, .int 0])), (h2, .inr (10, [.int 0, .ref t1, .ref t2]))] [] sz [.ref h0]) (va_Qi (S := Unit) (fun (r : Int32) (u : Unit) => r = 0) (fun (u : Unit) (t : State) => yB D A ((fun (u : Unit) => []) u) t) A) 0 0 A := by
  refine Met.ofW (cc := cX5_wipe) (maxL := 2) (ret := (some .int)) (by decide) rfl ?_
  intro p e s m args below meth c s₁ B hml hv
  obtain ⟨rfl, rfl, hP, hK, hD, hE, hA⟩ := y_start hA0 hv
  have hx := B.exec
  have hb := B.bytes
  have hr := B.returns
  have hts := atoms_spec (ws := wsX5_wipe) B.pre
  have hown : s.vm.findClass RX5 = some m.cls := findClass_of_methodNamed B.named
  have hlocks := B.notSynchronized
  clear hA0 hv
  have hS : va_S A s.heap s.heap [] := va_S.rf
  have hl := lv_entry ([.ref h0]) (n := 2) (Nat.le_of_ble_eq_true rfl)
  rw [lg_entry_eq]
  generalize (lg_sl ([.ref h0]) ++ List.replicate (2 - (lg_sl ([.ref h0])).length) Slot.unset).toArray = ls at hl ⊢
  have hl : lv_has ls 2 [(0, .ref h0)] := hl
  refine lv_aload_n hx hb dX5_wipe_0 rfl (lv_at hl 0 rfl) ?_
  refine va_get (D := D) (ci := 11) (v := .ref h2) (C := RX5) (T := TX5) (N := 7) hx hb hts iX5_wipe_X5 hown hK hP 0 rfl rfl 1 (by decide) (hts _ kX5_wipe_1) (fun _ h9 => h9) rfl dX5_wipe_1 ?_
  refine va_get (D := D) (ci := 10) (v := .int 0) (C := RX4) (T := TX4) (N := 3) hx hb hts iX5_wipe_X4 hown hK hP 1 rfl rfl 0 (by decide) (hts _ kX5_wipe_2) (fun _ h9 => h9) rfl dX5_wipe_4 ?_
  refine lv_istore_n (lv' := [(1, .int 0), (0, .ref h0)]) hx hb dX5_wipe_7 rfl hl (by decide) rfl (fun ls hl => ?_)
  refine lv_aload_n hx hb dX5_wipe_8 rfl (lv_at hl 1 rfl) ?_
  refine va_get (D := D) (ci := 11) (v := .ref h2) (C := RX5) (T := TX5) (N := 7) hx hb hts iX5_wipe_X5 hown hK hP 0 rfl rfl 1 (by decide) (hts _ kX5_wipe_1) (fun _ h9 => h9) rfl dX5_wipe_9 ?_
  refine lv_iconst (v := (0)) hx hb dX5_wipe_12 (by decide) ?_
  refine va_put (D := D) (ci := 10) (v := .int 0) (ty := .int) (C := RX4) (T := TX4) (N := 3) hx hb hts iX5_wipe_X4 tyX4 tyX4_ok nmX4 hown hK hP hD hS 1 rfl rfl 0 (by decide) (hts _ kX5_wipe_2) (fun _ h9 => h9) rfl (by decide +kernel) rfl rfl (Nat.le_of_ble_eq_true rfl) dX5_wipe_13 (fun H locs hP hD hS => ?_)
  have hP : va_P D vwCl [(h0, .inr (11, [.ref h1, .ref h2, .ref h3, .ref h4, .ref a1, .ref a2, .int 0])), (h2, .inr (10, [.int 0, .ref t1, .ref t2]))] H := hP
  have hD : va_D A [(h0, .inr (11, [.ref h1, .ref h2, .ref h3, .ref h4, .ref a1, .ref a2, .int 0])), (h2, .inr (10, [.int 0, .ref t1, .ref t2]))] := hD
  refine lv_iload_n hx hb dX5_wipe_16 rfl (lv_at hl 0 rfl) ?_
  exact y_iret hx hb hr hlocks () rfl (hP.sub [] rfl) (hD.sub [] (by decide) rfl) hS (Nat.le_of_ble_eq_true rfl) (Nat.le_of_ble_eq_true rfl) dX5_wipe_17
theorem yz_f_requireMatching_10 (p0 : Int32) (h0 : p0 = (-1 : Int32)) : p0 = -1 := by grind
theorem yz_f_requireMatching_11 (p0 : Int32) (h0 : ¬ p0 = (-1 : Int32)) (h1 : (p0 < 0 ∨ 0 ≤ p0)) : ¬ p0 = -1 := by grind
theorem yz_f_requireMatching_12 (p0 : Int32) (h0 : ¬ p0 = (-1 : Int32)) (h1 : 0 ≤ p0 ∧ p0 < 0) : p0 = -1 := by grind

set_option maxHeartbeats 4000000 in
set_option maxRecDepth 100000 in
theorem f_requireMatching (l : Launch) (hfl : l.stackTraces = false) (D : va_G) (tE : Nat) (sz : Nat) (h0 : Nat) (h1 : Nat) (h2 : Nat) (h3 : Nat) (h4 : Nat) (a1 : Nat) (a2 : Nat) (p0 : Int32) (A : Nat → Prop) (hA0 : A = va_A [(h0, .inr (11, [.ref h1, .ref h2, .ref h3, .ref h4, .ref a1, .ref a2, .int 0]))] sz) : vx_Met l yX5_requireMatching wsX5_requireMatching (yR 1 1 6) (yP D tE [(h0, .inr (11, [.ref h1, .ref h2, .ref h3, .ref h4, .ref a1, .ref a2, .int 0]))] [] sz [.ref h0, .int p0]) (va_Qv (S := Unit) (fun (u : Unit) => p0 = -1) (fun (u : Unit) (t : State) => yB D A ((fun (u : Unit) => [(h0, .inr (11, [.ref h1, .ref h2, .ref h3, .ref h4, .ref a1, .ref a2, .int 0]))]) u) t) A) (vx_X (S := Unit) (fun _ => True) (fun E _ t => (fun (E : String) => E = "java/lang/IndexOutOfBoundsException" ∧ ¬ p0 = -1) E ∧ yB D A [] t) A) 1 6 A := by
  refine vx_ofW (cc := cX5_requireMatching) (maxL := 2) (ret := none) (by decide) rfl ?_
  intro p e s m args below meth c s₁ B hml hout hv
  obtain ⟨rfl, rfl, hP, hK, hD, hE, hA⟩ := y_start hA0 hv
  have hx := B.exec
  have hb := B.bytes
  have hr := B.returns
  have hts := atoms_spec (ws := wsX5_requireMatching) B.pre
  have hown : s.vm.findClass RX5 = some m.cls := findClass_of_methodNamed B.named
  have hlocks := B.notSynchronized
  clear hA0 hv
  have hS : va_S A s.heap s.heap [] := va_S.rf
  have hl := lv_entry ([.ref h0, .int p0]) (n := 2) (Nat.le_of_ble_eq_true rfl)
  rw [lg_entry_eq]
  generalize (lg_sl ([.ref h0, .int p0]) ++ List.replicate (2 - (lg_sl ([.ref h0, .int p0])).length) Slot.unset).toArray = ls at hl ⊢
  have hl : lv_has ls 2 [(0, .ref h0), (1, .int p0)] := hl
  refine lv_iload_n hx hb dX5_requireMatching_0 rfl (lv_at hl 1 rfl) ?_
  refine lv_iconst (v := (-1)) hx hb dX5_requireMatching_1 (by decide) ?_
  refine lv_icmp_eq (tgt := 10) hx hb dX5_requireMatching_2 (by decide) (fun c_1 => ?_) (fun c_1 => ?_)
  · exact vx_ret (y_vret hx hb hr hlocks () (yz_f_requireMatching_10 p0 c_1) hP hD hS (Nat.le_of_ble_eq_true rfl) (Nat.le_of_ble_eq_true rfl) dX5_requireMatching_10)
  · refine lv_aload_n hx hb dX5_requireMatching_5 rfl (lv_at hl 0 rfl) ?_
    refine lv_iload_n hx hb dX5_requireMatching_6 rfl (lv_at hl 1 rfl) ?_
    refine yx_v (wc := [(h0, .inr (11, [.ref h1, .ref h2, .ref h3, .ref h4, .ref a1, .ref a2, .int 0]))]) (wr := []) (vx_runV (As := [.int p0]) (rest := []) ⟨hx, hb, hml, hown, hts⟩ (c_requireKept l hfl D tE s.heap.size h0 h1 h2 h3 h4 a1 a2 0 p0 (va_A [(h0, .inr (11, [.ref h1, .ref h2, .ref h3, .ref h4, .ref a1, .ref a2, .int 0]))] s.heap.size) rfl) (cwV 1 hts gX5_requireMatching_X5_requireKept rfl rfl rfl (by decide +kernel) ⟨Nat.le_of_ble_eq_true rfl, Nat.le_of_ble_eq_true rfl⟩) (yPreV (wc := [(h0, .inr (11, [.ref h1, .ref h2, .ref h3, .ref h4, .ref a1, .ref a2, .int 0]))]) (tc := []) hK hP hD hS hA hE [0] [] (by decide) rfl rfl (ci := 11) (q0 := 0) (q := (RX5, TX5, 7)) rfl rfl) rfl rfl hl.1 rfl (lv_room (Nat.le_of_ble_eq_true rfl)) dX5_requireMatching_7 ⟨Nat.le_of_ble_eq_true rfl, Nat.le_of_ble_eq_true rfl⟩) hP hD hS hA [0] [] rfl rfl (by decide) (by decide) (fun E ce q9 H locs hpx hP hD hS g1 g2 g3 => ?_) (fun u_3 H locs hw hP hD hS => ?_)
    · have hP : va_P D vwCl [(h0, .inr (11, [.ref h1, .ref h2, .ref h3, .ref h4, .ref a1, .ref a2, .int 0]))] H := hP
      have hD : va_D A [(h0, .inr (11, [.ref h1, .ref h2, .ref h3, .ref h4, .ref a1, .ref a2, .int 0]))] := hD
      have hpx : E = "java/lang/IndexOutOfBoundsException" ∧ (p0 < 0 ∨ 0 ≤ p0) := hpx
      obtain ⟨rfl, hpy⟩ := hpx
      exact y_out hout hlocks g1 g2 g3 ⟨rfl, (yz_f_requireMatching_11 p0 c_1 hpy)⟩ (hP.sub [] rfl) (hD.sub [] (by decide) rfl) hS (Nat.le_of_ble_eq_true rfl) (Nat.le_of_ble_eq_true rfl)
    · have hP : va_P D vwCl [(h0, .inr (11, [.ref h1, .ref h2, .ref h3, .ref h4, .ref a1, .ref a2, .int 0]))] H := hP
      have hD : va_D A [(h0, .inr (11, [.ref h1, .ref h2, .ref h3, .ref h4, .ref a1, .ref a2, .int 0]))] := hD
      have hw : 0 ≤ p0 ∧ p0 < 0 := hw
      have w_4 := hw
      exact vx_ret (y_vret hx hb hr hlocks () (yz_f_requireMatching_12 p0 c_1 w_4) hP hD hS (Nat.le_of_ble_eq_true rfl) (Nat.le_of_ble_eq_true rfl) dX5_requireMatching_10)
theorem yz_f_rowOf_13 (p0 : Int32) (h0 : ¬ p0 < (0 : Int32)) : (0 : Int32) ≤ p0 := by grind
theorem yz_f_rowOf_14 (p0 : Int32) (h0 : ¬ p0 < (0 : Int32)) : ¬ (¬ (0 : Int32) ≤ p0) := by grind
theorem iX5_rowOf_X5 : ∀ w ∈ wsX50, w ∈ wsX5_rowOf := by decide +kernel
theorem kX5_rowOf_3 : Cond.fieldLink RX5 37 "Mostwell" "hand" "[I" ∈ wsX5_rowOf := List.mem_of_getElem? (i := 3) (by decide +kernel)
theorem kX5_rowOf_1 : Cond.fieldLink RX5 46 "Mostwell" "keptCount" "I" ∈ wsX5_rowOf := List.mem_of_getElem? (i := 1) (by decide +kernel)
set_option maxHeartbeats 4000000 in
set_option maxRecDepth 100000 in
theorem f_rowOf (l : Launch) (hfl : l.stackTraces = false) (D : va_G) (tE : Nat) (sz : Nat) (h0 : Nat) (h1 : Nat) (h2 : Nat) (h3 : Nat) (h4 : Nat) (a1 : Nat) (a2 : Nat) (p0 : Int32) (A : Nat → Prop) (hA0 : A = va_A [(h0, .inr (11, [.ref h1, .ref h2, .ref h3, .ref h4, .ref a1, .ref a2, .int 0]))] sz) : Met l yX5_rowOf wsX5_rowOf (yR 0 0 0) (yP D tE [(h0, .inr (11, [.ref h1, .ref h2, .ref h3, .ref h4, .ref a1, .ref a2, .int 0]))] [] sz [.ref h0, .int p0]) (va_Qr (S := Unit) (fun (u : Unit) => True) (fun (u : Unit) (r : Nat) (t : State) => yB D A ((fun (u : Unit) (r : Nat) => [(h0, .inr (11, [.ref h1, .ref h2, .ref h3, .ref h4, .ref a1, .ref a2, .int 0]))]) u r) t) A) 0 0 A := by
  refine Met.ofW (cc := cX5_rowOf) (maxL := 2) (ret := (some (.array .int))) (by decide) rfl ?_
  intro p e s m args below meth c s₁ B hml hv
  obtain ⟨rfl, rfl, hP, hK, hD, hE, hA⟩ := y_start hA0 hv
  have hx := B.exec
  have hb := B.bytes
  have hr := B.returns
  have hts := atoms_spec (ws := wsX5_rowOf) B.pre
  have hown : s.vm.findClass RX5 = some m.cls := findClass_of_methodNamed B.named
  have hlocks := B.notSynchronized
  clear hA0 hv
  have hS : va_S A s.heap s.heap [] := va_S.rf
  have hl := lv_entry ([.ref h0, .int p0]) (n := 2) (Nat.le_of_ble_eq_true rfl)
  rw [lg_entry_eq]
  generalize (lg_sl ([.ref h0, .int p0]) ++ List.replicate (2 - (lg_sl ([.ref h0, .int p0])).length) Slot.unset).toArray = ls at hl ⊢
  have hl : lv_has ls 2 [(0, .ref h0), (1, .int p0)] := hl
  refine lv_iload_n hx hb dX5_rowOf_0 rfl (lv_at hl 1 rfl) ?_
  refine lv_if_lt (tgt := 21) hx hb dX5_rowOf_1 (by decide) (fun c_1 => ?_) (fun c_1 => ?_)
  · refine lv_aload_n hx hb dX5_rowOf_21 rfl (lv_at hl 0 rfl) ?_
    refine va_get (D := D) (ci := 11) (v := .ref a1) (C := RX5) (T := TX5) (N := 7) hx hb hts iX5_rowOf_X5 hown hK hP 0 rfl rfl 4 (by decide) (hts _ kX5_rowOf_3) (fun _ h9 => h9) rfl dX5_rowOf_22 ?_
    exact y_aret hx hb hr hlocks (Or.inr ⟨_, rfl⟩) () trivial hP hD hS (Nat.le_of_ble_eq_true rfl) (Nat.le_of_ble_eq_true rfl) dX5_rowOf_25
  · refine lv_iload_n hx hb dX5_rowOf_4 rfl (lv_at hl 1 rfl) ?_
    refine lv_aload_n hx hb dX5_rowOf_5 rfl (lv_at hl 0 rfl) ?_
    refine va_get (D := D) (ci := 11) (v := .int 0) (C := RX5) (T := TX5) (N := 7) hx hb hts iX5_rowOf_X5 hown hK hP 0 rfl rfl 6 (by decide) (hts _ kX5_rowOf_1) (fun _ h9 => h9) rfl dX5_rowOf_6 ?_
    refine lv_icmp_ge (tgt := 21) hx hb dX5_rowOf_9 (by decide) (fun c_2 => ?_) (fun h => absurd h ((yz_f_rowOf_14 p0 c_1)))
    refine lv_aload_n hx hb dX5_rowOf_21 rfl (lv_at hl 0 rfl) ?_
    refine va_get (D := D) (ci := 11) (v := .ref a1) (C := RX5) (T := TX5) (N := 7) hx hb hts iX5_rowOf_X5 hown hK hP 0 rfl rfl 4 (by decide) (hts _ kX5_rowOf_3) (fun _ h9 => h9) rfl dX5_rowOf_22 ?_
    exact y_aret hx hb hr hlocks (Or.inr ⟨_, rfl⟩) () trivial hP hD hS (Nat.le_of_ble_eq_true rfl) (Nat.le_of_ble_eq_true rfl) dX5_rowOf_25
theorem iX2_weightFor_X2 : ∀ w ∈ wsX20, w ∈ wsX2_weightFor := by decide +kernel
theorem kX2_weightFor_1 : Cond.fieldLink RX2 9 "Mostwell$House" "applicants" "I" ∈ wsX2_weightFor := List.mem_of_getElem? (i := 1) (by decide +kernel)
set_option maxHeartbeats 4000000 in
set_option maxRecDepth 100000 in
theorem f_weightFor (l : Launch) (hfl : l.stackTraces = false) (D : va_G) (tE : Nat) (sz : Nat) (h1 : Nat) (w1 : Nat) (w2 : Nat) (w3 : Nat) (w4 : Nat) (w5 : Nat) (np : Int32) (r1 : Nat) (r2 : Nat) (A : Nat → Prop) (hA0 : A = va_A [(h1, .inr (8, [.int 0, .int np, .ref w1, .ref w2, .ref w3, .ref w4, .ref w5]))] sz) : Met l yX2_weightFor wsX2_weightFor (yR 0 0 0) (yP D tE [(h1, .inr (8, [.int 0, .int np, .ref w1, .ref w2, .ref w3, .ref w4, .ref w5]))] [] sz [.ref h1, .ref r1, .ref r2]) (va_Qi (S := Unit) (fun (r : Int32) (u : Unit) => r = 0) (fun (u : Unit) (t : State) => yB D A ((fun (u : Unit) => [(h1, .inr (8, [.int 0, .int np, .ref w1, .ref w2, .ref w3, .ref w4, .ref w5]))]) u) t) A) 0 0 A := by
  refine Met.ofW (cc := cX2_weightFor) (maxL := 5) (ret := (some .int)) (by decide) rfl ?_
  intro p e s m args below meth c s₁ B hml hv
  obtain ⟨rfl, rfl, hP, hK, hD, hE, hA⟩ := y_start hA0 hv
  have hx := B.exec
  have hb := B.bytes
  have hr := B.returns
  have hts := atoms_spec (ws := wsX2_weightFor) B.pre
  have hown : s.vm.findClass RX2 = some m.cls := findClass_of_methodNamed B.named
  have hlocks := B.notSynchronized
  clear hA0 hv
  have hS : va_S A s.heap s.heap [] := va_S.rf
  have hl := lv_entry ([.ref h1, .ref r1, .ref r2]) (n := 5) (Nat.le_of_ble_eq_true rfl)
  rw [lg_entry_eq]
  generalize (lg_sl ([.ref h1, .ref r1, .ref r2]) ++ List.replicate (5 - (lg_sl ([.ref h1, .ref r1, .ref r2])).length) Slot.unset).toArray = ls at hl ⊢
  have hl : lv_has ls 5 [(0, .ref h1), (1, .ref r1), (2, .ref r2)] := hl
  refine lv_iconst (v := (0)) hx hb dX2_weightFor_0 (by decide) ?_
  refine lv_istore_n (lv' := [(3, .int 0), (0, .ref h1), (1, .ref r1), (2, .ref r2)]) hx hb dX2_weightFor_1 rfl hl (by decide) rfl (fun ls hl => ?_)
  refine lv_iconst (v := (0)) hx hb dX2_weightFor_2 (by decide) ?_
  refine lv_istore (lv' := [(4, .int 0), (3, .int 0), (0, .ref h1), (1, .ref r1), (2, .ref r2)]) hx hb dX2_weightFor_3 hl (by decide) rfl (fun ls hl => ?_)
  refine lv_iload hx hb dX2_weightFor_5 (lv_at hl 0 rfl) ?_
  refine lv_aload_n hx hb dX2_weightFor_7 rfl (lv_at hl 2 rfl) ?_
  refine va_get (D := D) (ci := 8) (v := .int 0) (C := RX2) (T := TX2) (N := 7) hx hb hts iX2_weightFor_X2 hown hK hP 0 rfl rfl 0 (by decide) (hts _ kX2_weightFor_1) (fun _ h9 => h9) rfl dX2_weightFor_8 ?_
  refine lv_icmp_ge (tgt := 53) hx hb dX2_weightFor_11 (by decide) (fun _ => ?_) (fun h => absurd h (by decide))
  refine lv_iload_n hx hb dX2_weightFor_53 rfl (lv_at hl 1 rfl) ?_
  exact y_iret hx hb hr hlocks () rfl hP hD hS (Nat.le_of_ble_eq_true rfl) (Nat.le_of_ble_eq_true rfl) dX2_weightFor_54

set_option maxHeartbeats 4000000 in
set_option maxRecDepth 100000 in
theorem f_leadOf (l : Launch) (hfl : l.stackTraces = false) (D : va_G) (tE : Nat) (sz : Nat) (h1 : Nat) (w1 : Nat) (w2 : Nat) (w3 : Nat) (w4 : Nat) (w5 : Nat) (np : Int32) (r1 : Nat) (r2 : Nat) (A : Nat → Prop) (hA0 : A = va_A [(h1, .inr (8, [.int 0, .int np, .ref w1, .ref w2, .ref w3, .ref w4, .ref w5]))] sz) : Met l yX2_leadOf wsX2_leadOf (yR 1 0 0) (yP D tE [(h1, .inr (8, [.int 0, .int np, .ref w1, .ref w2, .ref w3, .ref w4, .ref w5]))] [] sz [.ref h1, .ref r1, .ref r2]) (va_Qi (S := Unit) (fun (r : Int32) (u : Unit) => r = 0) (fun (u : Unit) (t : State) => yB D A ((fun (u : Unit) => [(h1, .inr (8, [.int 0, .int np, .ref w1, .ref w2, .ref w3, .ref w4, .ref w5]))]) u) t) A) 0 0 A := by
  refine Met.ofW (cc := cX2_leadOf) (maxL := 3) (ret := (some .int)) (by decide) rfl ?_
  intro p e s m args below meth c s₁ B hml hv
  obtain ⟨rfl, rfl, hP, hK, hD, hE, hA⟩ := y_start hA0 hv
  have hx := B.exec
  have hb := B.bytes
  have hr := B.returns
  have hts := atoms_spec (ws := wsX2_leadOf) B.pre
  have hown : s.vm.findClass RX2 = some m.cls := findClass_of_methodNamed B.named
  have hlocks := B.notSynchronized
  clear hA0 hv
  have hS : va_S A s.heap s.heap [] := va_S.rf
  have hl := lv_entry ([.ref h1, .ref r1, .ref r2]) (n := 3) (Nat.le_of_ble_eq_true rfl)
  rw [lg_entry_eq]
  generalize (lg_sl ([.ref h1, .ref r1, .ref r2]) ++ List.replicate (3 - (lg_sl ([.ref h1, .ref r1, .ref r2])).length) Slot.unset).toArray = ls at hl ⊢
  have hl : lv_has ls 3 [(0, .ref h1), (1, .ref r1), (2, .ref r2)] := hl
  refine lv_aload_n hx hb dX2_leadOf_0 rfl (lv_at hl 0 rfl) ?_
  refine lv_aload_n hx hb dX2_leadOf_1 rfl (lv_at hl 1 rfl) ?_
  refine lv_aload_n hx hb dX2_leadOf_2 rfl (lv_at hl 2 rfl) ?_
  refine yc_i (wc := [(h1, .inr (8, [.int 0, .int np, .ref w1, .ref w2, .ref w3, .ref w4, .ref w5]))]) (wr := []) (va_runV (As := [.ref r1, .ref r2]) (rest := []) ⟨hx, hb, hml, hown, hts⟩ (f_weightFor l hfl D tE s.heap.size h1 w1 w2 w3 w4 w5 np r1 r2 (va_A [(h1, .inr (8, [.int 0, .int np, .ref w1, .ref w2, .ref w3, .ref w4, .ref w5]))] s.heap.size) rfl) (cwV 2 hts gX2_leadOf_X2_weightFor rfl rfl rfl (by decide +kernel) ⟨Nat.le_of_ble_eq_true rfl, Nat.le_of_ble_eq_true rfl⟩) (yPreV (wc := [(h1, .inr (8, [.int 0, .int np, .ref w1, .ref w2, .ref w3, .ref w4, .ref w5]))]) (tc := []) hK hP hD hS hA hE [0] [] (by decide) rfl rfl (ci := 8) (q0 := 0) (q := (RX2, TX2, 7)) rfl rfl) rfl rfl hl.1 rfl (lv_room (Nat.le_of_ble_eq_true rfl)) dX2_leadOf_3 ⟨Nat.le_of_ble_eq_true rfl, Nat.le_of_ble_eq_true rfl⟩) hP hD hS hA [0] [] rfl rfl (by decide) (by decide) (fun r_1 u_2 H locs hw hP hD hS => ?_)
  have hP : va_P D vwCl [(h1, .inr (8, [.int 0, .int np, .ref w1, .ref w2, .ref w3, .ref w4, .ref w5]))] H := hP
  have hD : va_D A [(h1, .inr (8, [.int 0, .int np, .ref w1, .ref w2, .ref w3, .ref w4, .ref w5]))] := hD
  have hw : r_1 = 0 := hw
  subst hw
  refine lv_aload_n hx hb dX2_leadOf_6 rfl (lv_at hl 0 rfl) ?_
  refine lv_aload_n hx hb dX2_leadOf_7 rfl (lv_at hl 2 rfl) ?_
  refine lv_aload_n hx hb dX2_leadOf_8 rfl (lv_at hl 1 rfl) ?_
  refine yc_i (wc := [(h1, .inr (8, [.int 0, .int np, .ref w1, .ref w2, .ref w3, .ref w4, .ref w5]))]) (wr := []) (va_runV (As := [.ref r2, .ref r1]) (rest := [.int 0]) ⟨hx, hb, hml, hown, hts⟩ (f_weightFor l hfl D tE H.size h1 w1 w2 w3 w4 w5 np r2 r1 (va_A [(h1, .inr (8, [.int 0, .int np, .ref w1, .ref w2, .ref w3, .ref w4, .ref w5]))] H.size) rfl) (cwV 2 hts gX2_leadOf_X2_weightFor rfl rfl rfl (by decide +kernel) ⟨Nat.le_of_ble_eq_true rfl, Nat.le_of_ble_eq_true rfl⟩) (yPreV (wc := [(h1, .inr (8, [.int 0, .int np, .ref w1, .ref w2, .ref w3, .ref w4, .ref w5]))]) (tc := []) hK hP hD hS hA hE [0] [] (by decide) rfl rfl (ci := 8) (q0 := 0) (q := (RX2, TX2, 7)) rfl rfl) rfl rfl hl.1 rfl (lv_room (Nat.le_of_ble_eq_true rfl)) dX2_leadOf_9 ⟨Nat.le_of_ble_eq_true rfl, Nat.le_of_ble_eq_true rfl⟩) hP hD hS hA [0] [] rfl rfl (by decide) (by decide) (fun r_3 u_4 H locs hw hP hD hS => ?_)
  have hP : va_P D vwCl [(h1, .inr (8, [.int 0, .int np, .ref w1, .ref w2, .ref w3, .ref w4, .ref w5]))] H := hP
  have hD : va_D A [(h1, .inr (8, [.int 0, .int np, .ref w1, .ref w2, .ref w3, .ref w4, .ref w5]))] := hD
  have hw : r_3 = 0 := hw
  subst hw
  refine lv_isub hx hb dX2_leadOf_12 ?_
  refine lv_topi (fun x_5 ex_5 => ?_)
  obtain rfl : x_5 = (0 : Int32) := ex_5.trans (by decide)
  exact y_iret hx hb hr hlocks () rfl hP hD hS (Nat.le_of_ble_eq_true rfl) (Nat.le_of_ble_eq_true rfl) dX2_leadOf_13
theorem yz_f_votes_15 (p0 : Int32) (p1 : Int32) (h0 : ¬ p0 = -1) : ¬ (p0 = -1 ∧ p1 = -1) := by grind
theorem yz_f_votes_16 (p0 : Int32) (p1 : Int32) (h0 : p0 = -1) (h1 : ¬ p1 = -1) : ¬ (p0 = -1 ∧ p1 = -1) := by grind
theorem yz_f_votes_17 (p0 : Int32) (p1 : Int32) (h0 : p0 = -1) (h1 : p1 = -1) : (0 : Int32) = 0 ∧ p0 = -1 ∧ p1 = -1 := by grind
theorem iX5_votes_X5 : ∀ w ∈ wsX50, w ∈ wsX5_votes := by decide +kernel
theorem kX5_votes_1 : Cond.fieldLink RX5 10 "Mostwell" "house" "LMostwell$House;" ∈ wsX5_votes := List.mem_of_getElem? (i := 1) (by decide +kernel)
set_option maxHeartbeats 4000000 in
set_option maxRecDepth 100000 in
theorem f_votes (l : Launch) (hfl : l.stackTraces = false) (D : va_G) (tE : Nat) (sz : Nat) (h0 : Nat) (h1 : Nat) (h2 : Nat) (h3 : Nat) (h4 : Nat) (a1 : Nat) (a2 : Nat) (w1 : Nat) (w2 : Nat) (w3 : Nat) (w4 : Nat) (w5 : Nat) (np : Int32) (p0 : Int32) (p1 : Int32) (A : Nat → Prop) (hA0 : A = va_A [(h0, .inr (11, [.ref h1, .ref h2, .ref h3, .ref h4, .ref a1, .ref a2, .int 0])), (h1, .inr (8, [.int 0, .int np, .ref w1, .ref w2, .ref w3, .ref w4, .ref w5]))] sz) : vx_Met l yX5_votes wsX5_votes (yR 2 2 12) (yP D tE [(h0, .inr (11, [.ref h1, .ref h2, .ref h3, .ref h4, .ref a1, .ref a2, .int 0])), (h1, .inr (8, [.int 0, .int np, .ref w1, .ref w2, .ref w3, .ref w4, .ref w5]))] [] sz [.ref h0, .int p0, .int p1]) (va_Qi (S := Unit) (fun (r : Int32) (u : Unit) => r = 0 ∧ p0 = -1 ∧ p1 = -1) (fun (u : Unit) (t : State) => yB D A ((fun (u : Unit) => []) u) t) A) (vx_X (S := Unit) (fun _ => True) (fun E _ t => (fun (E : String) => E = "java/lang/IndexOutOfBoundsException" ∧ ¬ (p0 = -1 ∧ p1 = -1)) E ∧ yB D A [] t) A) 2 12 A := by
  refine vx_ofW (cc := cX5_votes) (maxL := 3) (ret := (some .int)) (by decide) rfl ?_
  intro p e s m args below meth c s₁ B hml hout hv
  obtain ⟨rfl, rfl, hP, hK, hD, hE, hA⟩ := y_start hA0 hv
  have hx := B.exec
  have hb := B.bytes
  have hr := B.returns
  have hts := atoms_spec (ws := wsX5_votes) B.pre
  have hown : s.vm.findClass RX5 = some m.cls := findClass_of_methodNamed B.named
  have hlocks := B.notSynchronized
  clear hA0 hv
  have hS : va_S A s.heap s.heap [] := va_S.rf
  have hl := lv_entry ([.ref h0, .int p0, .int p1]) (n := 3) (Nat.le_of_ble_eq_true rfl)
  rw [lg_entry_eq]
  generalize (lg_sl ([.ref h0, .int p0, .int p1]) ++ List.replicate (3 - (lg_sl ([.ref h0, .int p0, .int p1])).length) Slot.unset).toArray = ls at hl ⊢
  have hl : lv_has ls 3 [(0, .ref h0), (1, .int p0), (2, .int p1)] := hl
  refine lv_aload_n hx hb dX5_votes_0 rfl (lv_at hl 0 rfl) ?_
  refine lv_iload_n hx hb dX5_votes_1 rfl (lv_at hl 1 rfl) ?_
  refine yx_v (wc := [(h0, .inr (11, [.ref h1, .ref h2, .ref h3, .ref h4, .ref a1, .ref a2, .int 0]))]) (wr := [(h1, .inr (8, [.int 0, .int np, .ref w1, .ref w2, .ref w3, .ref w4, .ref w5]))]) (vx_runV (As := [.int p0]) (rest := []) ⟨hx, hb, hml, hown, hts⟩ (f_requireMatching l hfl D tE s.heap.size h0 h1 h2 h3 h4 a1 a2 p0 (va_A [(h0, .inr (11, [.ref h1, .ref h2, .ref h3, .ref h4, .ref a1, .ref a2, .int 0]))] s.heap.size) rfl) (cwV 1 hts gX5_votes_X5_requireMatching rfl rfl rfl (by decide +kernel) ⟨Nat.le_of_ble_eq_true rfl, Nat.le_of_ble_eq_true rfl⟩) (yPreV (wc := [(h0, .inr (11, [.ref h1, .ref h2, .ref h3, .ref h4, .ref a1, .ref a2, .int 0]))]) (tc := []) hK hP hD hS hA hE [0] [] (by decide) rfl rfl (ci := 11) (q0 := 0) (q := (RX5, TX5, 7)) rfl rfl) rfl rfl hl.1 rfl (lv_room (Nat.le_of_ble_eq_true rfl)) dX5_votes_2 ⟨Nat.le_of_ble_eq_true rfl, Nat.le_of_ble_eq_true rfl⟩) hP hD hS hA [0] [1] rfl rfl (by decide) (by decide) (fun E ce q9 H locs hpx hP hD hS g1 g2 g3 => ?_) (fun u_2 H locs hw hP hD hS => ?_)
  · have hP : va_P D vwCl [(h1, .inr (8, [.int 0, .int np, .ref w1, .ref w2, .ref w3, .ref w4, .ref w5]))] H := hP
    have hD : va_D A [(h1, .inr (8, [.int 0, .int np, .ref w1, .ref w2, .ref w3, .ref w4, .ref w5]))] := hD
    have hpx : E = "java/lang/IndexOutOfBoundsException" ∧ ¬ p0 = -1 := hpx
    obtain ⟨rfl, hpy⟩ := hpx
    exact y_out hout hlocks g1 g2 g3 ⟨rfl, (yz_f_votes_15 p0 p1 hpy)⟩ (hP.sub [] rfl) (hD.sub [] (by decide) rfl) hS (Nat.le_of_ble_eq_true rfl) (Nat.le_of_ble_eq_true rfl)
  · have hP : va_P D vwCl [(h1, .inr (8, [.int 0, .int np, .ref w1, .ref w2, .ref w3, .ref w4, .ref w5])), (h0, .inr (11, [.ref h1, .ref h2, .ref h3, .ref h4, .ref a1, .ref a2, .int 0]))] H := hP
    have hD : va_D A [(h1, .inr (8, [.int 0, .int np, .ref w1, .ref w2, .ref w3, .ref w4, .ref w5])), (h0, .inr (11, [.ref h1, .ref h2, .ref h3, .ref h4, .ref a1, .ref a2, .int 0]))] := hD
    have hw : p0 = -1 := hw
    have w_3 := hw
    refine lv_aload_n hx hb dX5_votes_5 rfl (lv_at hl 0 rfl) ?_
    refine lv_iload_n hx hb dX5_votes_6 rfl (lv_at hl 2 rfl) ?_
    refine yx_v (wc := [(h0, .inr (11, [.ref h1, .ref h2, .ref h3, .ref h4, .ref a1, .ref a2, .int 0]))]) (wr := [(h1, .inr (8, [.int 0, .int np, .ref w1, .ref w2, .ref w3, .ref w4, .ref w5]))]) (vx_runV (As := [.int p1]) (rest := []) ⟨hx, hb, hml, hown, hts⟩ (f_requireMatching l hfl D tE H.size h0 h1 h2 h3 h4 a1 a2 p1 (va_A [(h0, .inr (11, [.ref h1, .ref h2, .ref h3, .ref h4, .ref a1, .ref a2, .int 0]))] H.size) rfl) (cwV 1 hts gX5_votes_X5_requireMatching rfl rfl rfl (by decide +kernel) ⟨Nat.le_of_ble_eq_true rfl, Nat.le_of_ble_eq_true rfl⟩) (yPreV (wc := [(h0, .inr (11, [.ref h1, .ref h2, .ref h3, .ref h4, .ref a1, .ref a2, .int 0]))]) (tc := []) hK hP hD hS hA hE [1] [] (by decide) rfl rfl (ci := 11) (q0 := 1) (q := (RX5, TX5, 7)) rfl rfl) rfl rfl hl.1 rfl (lv_room (Nat.le_of_ble_eq_true rfl)) dX5_votes_7 ⟨Nat.le_of_ble_eq_true rfl, Nat.le_of_ble_eq_true rfl⟩) hP hD hS hA [1] [0] rfl rfl (by decide) (by decide) (fun E ce q9 H locs hpx hP hD hS g1 g2 g3 => ?_) (fun u_5 H locs hw hP hD hS => ?_)
    · have hP : va_P D vwCl [(h1, .inr (8, [.int 0, .int np, .ref w1, .ref w2, .ref w3, .ref w4, .ref w5]))] H := hP
      have hD : va_D A [(h1, .inr (8, [.int 0, .int np, .ref w1, .ref w2, .ref w3, .ref w4, .ref w5]))] := hD
      have hpx : E = "java/lang/IndexOutOfBoundsException" ∧ ¬ p1 = -1 := hpx
      obtain ⟨rfl, hpy⟩ := hpx
      exact y_out hout hlocks g1 g2 g3 ⟨rfl, (yz_f_votes_16 p0 p1 w_3 hpy)⟩ (hP.sub [] rfl) (hD.sub [] (by decide) rfl) hS (Nat.le_of_ble_eq_true rfl) (Nat.le_of_ble_eq_true rfl)
    · have hP : va_P D vwCl [(h1, .inr (8, [.int 0, .int np, .ref w1, .ref w2, .ref w3, .ref w4, .ref w5])), (h0, .inr (11, [.ref h1, .ref h2, .ref h3, .ref h4, .ref a1, .ref a2, .int 0]))] H := hP
      have hD : va_D A [(h1, .inr (8, [.int 0, .int np, .ref w1, .ref w2, .ref w3, .ref w4, .ref w5])), (h0, .inr (11, [.ref h1, .ref h2, .ref h3, .ref h4, .ref a1, .ref a2, .int 0]))] := hD
      have hw : p1 = -1 := hw
      have w_6 := hw
      refine lv_aload_n hx hb dX5_votes_10 rfl (lv_at hl 0 rfl) ?_
      refine va_get (D := D) (ci := 11) (v := .ref h1) (C := RX5) (T := TX5) (N := 7) hx hb hts iX5_votes_X5 hown hK hP 1 rfl rfl 0 (by decide) (hts _ kX5_votes_1) (fun _ h9 => h9) rfl dX5_votes_11 ?_
      refine lv_aload_n hx hb dX5_votes_14 rfl (lv_at hl 0 rfl) ?_
      refine lv_iload_n hx hb dX5_votes_15 rfl (lv_at hl 1 rfl) ?_
      refine yc_r (wc := [(h0, .inr (11, [.ref h1, .ref h2, .ref h3, .ref h4, .ref a1, .ref a2, .int 0]))]) (wr := [(h1, .inr (8, [.int 0, .int np, .ref w1, .ref w2, .ref w3, .ref w4, .ref w5]))]) (va_runV (As := [.int p0]) (rest := [.ref h1]) ⟨hx, hb, hml, hown, hts⟩ (f_rowOf l hfl D tE H.size h0 h1 h2 h3 h4 a1 a2 p0 (va_A [(h0, .inr (11, [.ref h1, .ref h2, .ref h3, .ref h4, .ref a1, .ref a2, .int 0]))] H.size) rfl) (cwV 1 hts gX5_votes_X5_rowOf rfl rfl rfl (by decide +kernel) ⟨Nat.le_of_ble_eq_true rfl, Nat.le_of_ble_eq_true rfl⟩) (yPreV (wc := [(h0, .inr (11, [.ref h1, .ref h2, .ref h3, .ref h4, .ref a1, .ref a2, .int 0]))]) (tc := []) hK hP hD hS hA hE [1] [] (by decide) rfl rfl (ci := 11) (q0 := 1) (q := (RX5, TX5, 7)) rfl rfl) rfl rfl hl.1 rfl (lv_room (Nat.le_of_ble_eq_true rfl)) dX5_votes_16 ⟨Nat.le_of_ble_eq_true rfl, Nat.le_of_ble_eq_true rfl⟩) hP hD hS hA [1] [0] rfl rfl (by decide) (by decide) (fun r_7 u_8 H locs hw hP hD hS => ?_)
      have hP : va_P D vwCl [(h1, .inr (8, [.int 0, .int np, .ref w1, .ref w2, .ref w3, .ref w4, .ref w5])), (h0, .inr (11, [.ref h1, .ref h2, .ref h3, .ref h4, .ref a1, .ref a2, .int 0]))] H := hP
      have hD : va_D A [(h1, .inr (8, [.int 0, .int np, .ref w1, .ref w2, .ref w3, .ref w4, .ref w5])), (h0, .inr (11, [.ref h1, .ref h2, .ref h3, .ref h4, .ref a1, .ref a2, .int 0]))] := hD
      refine lv_aload_n hx hb dX5_votes_19 rfl (lv_at hl 0 rfl) ?_
      refine lv_iload_n hx hb dX5_votes_20 rfl (lv_at hl 2 rfl) ?_
      refine yc_r (wc := [(h0, .inr (11, [.ref h1, .ref h2, .ref h3, .ref h4, .ref a1, .ref a2, .int 0]))]) (wr := [(h1, .inr (8, [.int 0, .int np, .ref w1, .ref w2, .ref w3, .ref w4, .ref w5]))]) (va_runV (As := [.int p1]) (rest := [.ref r_7, .ref h1]) ⟨hx, hb, hml, hown, hts⟩ (f_rowOf l hfl D tE H.size h0 h1 h2 h3 h4 a1 a2 p1 (va_A [(h0, .inr (11, [.ref h1, .ref h2, .ref h3, .ref h4, .ref a1, .ref a2, .int 0]))] H.size) rfl) (cwV 1 hts gX5_votes_X5_rowOf rfl rfl rfl (by decide +kernel) ⟨Nat.le_of_ble_eq_true rfl, Nat.le_of_ble_eq_true rfl⟩) (yPreV (wc := [(h0, .inr (11, [.ref h1, .ref h2, .ref h3, .ref h4, .ref a1, .ref a2, .int 0]))]) (tc := []) hK hP hD hS hA hE [1] [] (by decide) rfl rfl (ci := 11) (q0 := 1) (q := (RX5, TX5, 7)) rfl rfl) rfl rfl hl.1 rfl (lv_room (Nat.le_of_ble_eq_true rfl)) dX5_votes_21 ⟨Nat.le_of_ble_eq_true rfl, Nat.le_of_ble_eq_true rfl⟩) hP hD hS hA [1] [0] rfl rfl (by decide) (by decide) (fun r_9 u_10 H locs hw hP hD hS => ?_)
      have hP : va_P D vwCl [(h1, .inr (8, [.int 0, .int np, .ref w1, .ref w2, .ref w3, .ref w4, .ref w5])), (h0, .inr (11, [.ref h1, .ref h2, .ref h3, .ref h4, .ref a1, .ref a2, .int 0]))] H := hP
      have hD : va_D A [(h1, .inr (8, [.int 0, .int np, .ref w1, .ref w2, .ref w3, .ref w4, .ref w5])), (h0, .inr (11, [.ref h1, .ref h2, .ref h3, .ref h4, .ref a1, .ref a2, .int 0]))] := hD
      refine yc_i (wc := [(h1, .inr (8, [.int 0, .int np, .ref w1, .ref w2, .ref w3, .ref w4, .ref w5]))]) (wr := [(h0, .inr (11, [.ref h1, .ref h2, .ref h3, .ref h4, .ref a1, .ref a2, .int 0]))]) (va_runV (As := [.ref r_7, .ref r_9]) (rest := []) ⟨hx, hb, hml, hown, hts⟩ (f_weightFor l hfl D tE H.size h1 w1 w2 w3 w4 w5 np r_7 r_9 (va_A [(h1, .inr (8, [.int 0, .int np, .ref w1, .ref w2, .ref w3, .ref w4, .ref w5]))] H.size) rfl) (cwV 2 hts gX5_votes_X2_weightFor rfl rfl rfl (by decide +kernel) ⟨Nat.le_of_ble_eq_true rfl, Nat.le_of_ble_eq_true rfl⟩) (yPreV (wc := [(h1, .inr (8, [.int 0, .int np, .ref w1, .ref w2, .ref w3, .ref w4, .ref w5]))]) (tc := []) hK hP hD hS hA hE [0] [] (by decide) rfl rfl (ci := 8) (q0 := 0) (q := (RX2, TX2, 7)) rfl rfl) rfl rfl hl.1 rfl (lv_room (Nat.le_of_ble_eq_true rfl)) dX5_votes_24 ⟨Nat.le_of_ble_eq_true rfl, Nat.le_of_ble_eq_true rfl⟩) hP hD hS hA [0] [1] rfl rfl (by decide) (by decide) (fun r_11 u_12 H locs hw hP hD hS => ?_)
      have hP : va_P D vwCl [(h0, .inr (11, [.ref h1, .ref h2, .ref h3, .ref h4, .ref a1, .ref a2, .int 0])), (h1, .inr (8, [.int 0, .int np, .ref w1, .ref w2, .ref w3, .ref w4, .ref w5]))] H := hP
      have hD : va_D A [(h0, .inr (11, [.ref h1, .ref h2, .ref h3, .ref h4, .ref a1, .ref a2, .int 0])), (h1, .inr (8, [.int 0, .int np, .ref w1, .ref w2, .ref w3, .ref w4, .ref w5]))] := hD
      have hw : r_11 = 0 := hw
      subst hw
      exact vx_ret (y_iret hx hb hr hlocks () (yz_f_votes_17 p0 p1 w_3 w_6) (hP.sub [] rfl) (hD.sub [] (by decide) rfl) hS (Nat.le_of_ble_eq_true rfl) (Nat.le_of_ble_eq_true rfl) dX5_votes_27)
theorem yz_f_margin_18 (p0 : Int32) (p1 : Int32) (h0 : ¬ p0 = -1) : ¬ (p0 = -1 ∧ p1 = -1) := by grind
theorem yz_f_margin_19 (p0 : Int32) (p1 : Int32) (h0 : p0 = -1) (h1 : ¬ p1 = -1) : ¬ (p0 = -1 ∧ p1 = -1) := by grind
theorem yz_f_margin_20 (p0 : Int32) (p1 : Int32) (h0 : p0 = -1) (h1 : p1 = -1) : (0 : Int32) = 0 ∧ p0 = -1 ∧ p1 = -1 := by grind
theorem iX5_margin_X5 : ∀ w ∈ wsX50, w ∈ wsX5_margin := by decide +kernel
theorem kX5_margin_1 : Cond.fieldLink RX5 10 "Mostwell" "house" "LMostwell$House;" ∈ wsX5_margin := List.mem_of_getElem? (i := 1) (by decide +kernel)
set_option maxHeartbeats 4000000 in
set_option maxRecDepth 100000 in
theorem f_margin (l : Launch) (hfl : l.stackTraces = false) (D : va_G) (tE : Nat) (sz : Nat) (h0 : Nat) (h1 : Nat) (h2 : Nat) (h3 : Nat) (h4 : Nat) (a1 : Nat) (a2 : Nat) (w1 : Nat) (w2 : Nat) (w3 : Nat) (w4 : Nat) (w5 : Nat) (np : Int32) (p0 : Int32) (p1 : Int32) (A : Nat → Prop) (hA0 : A = va_A [(h0, .inr (11, [.ref h1, .ref h2, .ref h3, .ref h4, .ref a1, .ref a2, .int 0])), (h1, .inr (8, [.int 0, .int np, .ref w1, .ref w2, .ref w3, .ref w4, .ref w5]))] sz) : vx_Met l yX5_margin wsX5_margin (yR 2 2 12) (yP D tE [(h0, .inr (11, [.ref h1, .ref h2, .ref h3, .ref h4, .ref a1, .ref a2, .int 0])), (h1, .inr (8, [.int 0, .int np, .ref w1, .ref w2, .ref w3, .ref w4, .ref w5]))] [] sz [.ref h0, .int p0, .int p1]) (va_Qi (S := Unit) (fun (r : Int32) (u : Unit) => r = 0 ∧ p0 = -1 ∧ p1 = -1) (fun (u : Unit) (t : State) => yB D A ((fun (u : Unit) => []) u) t) A) (vx_X (S := Unit) (fun _ => True) (fun E _ t => (fun (E : String) => E = "java/lang/IndexOutOfBoundsException" ∧ ¬ (p0 = -1 ∧ p1 = -1)) E ∧ yB D A [] t) A) 2 12 A := by
  refine vx_ofW (cc := cX5_margin) (maxL := 3) (ret := (some .int)) (by decide) rfl ?_
  intro p e s m args below meth c s₁ B hml hout hv
  obtain ⟨rfl, rfl, hP, hK, hD, hE, hA⟩ := y_start hA0 hv
  have hx := B.exec
  have hb := B.bytes
  have hr := B.returns
  have hts := atoms_spec (ws := wsX5_margin) B.pre
  have hown : s.vm.findClass RX5 = some m.cls := findClass_of_methodNamed B.named
  have hlocks := B.notSynchronized
  clear hA0 hv
  have hS : va_S A s.heap s.heap [] := va_S.rf
  have hl := lv_entry ([.ref h0, .int p0, .int p1]) (n := 3) (Nat.le_of_ble_eq_true rfl)
  rw [lg_entry_eq]
  generalize (lg_sl ([.ref h0, .int p0, .int p1]) ++ List.replicate (3 - (lg_sl ([.ref h0, .int p0, .int p1])).length) Slot.unset).toArray = ls at hl ⊢
  have hl : lv_has ls 3 [(0, .ref h0), (1, .int p0), (2, .int p1)] := hl
  refine lv_aload_n hx hb dX5_margin_0 rfl (lv_at hl 0 rfl) ?_
  refine lv_iload_n hx hb dX5_margin_1 rfl (lv_at hl 1 rfl) ?_
  refine yx_v (wc := [(h0, .inr (11, [.ref h1, .ref h2, .ref h3, .ref h4, .ref a1, .ref a2, .int 0]))]) (wr := [(h1, .inr (8, [.int 0, .int np, .ref w1, .ref w2, .ref w3, .ref w4, .ref w5]))]) (vx_runV (As := [.int p0]) (rest := []) ⟨hx, hb, hml, hown, hts⟩ (f_requireMatching l hfl D tE s.heap.size h0 h1 h2 h3 h4 a1 a2 p0 (va_A [(h0, .inr (11, [.ref h1, .ref h2, .ref h3, .ref h4, .ref a1, .ref a2, .int 0]))] s.heap.size) rfl) (cwV 1 hts gX5_margin_X5_requireMatching rfl rfl rfl (by decide +kernel) ⟨Nat.le_of_ble_eq_true rfl, Nat.le_of_ble_eq_true rfl⟩) (yPreV (wc := [(h0, .inr (11, [.ref h1, .ref h2, .ref h3, .ref h4, .ref a1, .ref a2, .int 0]))]) (tc := []) hK hP hD hS hA hE [0] [] (by decide) rfl rfl (ci := 11) (q0 := 0) (q := (RX5, TX5, 7)) rfl rfl) rfl rfl hl.1 rfl (lv_room (Nat.le_of_ble_eq_true rfl)) dX5_margin_2 ⟨Nat.le_of_ble_eq_true rfl, Nat.le_of_ble_eq_true rfl⟩) hP hD hS hA [0] [1] rfl rfl (by decide) (by decide) (fun E ce q9 H locs hpx hP hD hS g1 g2 g3 => ?_) (fun u_2 H locs hw hP hD hS => ?_)
  · have hP : va_P D vwCl [(h1, .inr (8, [.int 0, .int np, .ref w1, .ref w2, .ref w3, .ref w4, .ref w5]))] H := hP
    have hD : va_D A [(h1, .inr (8, [.int 0, .int np, .ref w1, .ref w2, .ref w3, .ref w4, .ref w5]))] := hD
    have hpx : E = "java/lang/IndexOutOfBoundsException" ∧ ¬ p0 = -1 := hpx
    obtain ⟨rfl, hpy⟩ := hpx
    exact y_out hout hlocks g1 g2 g3 ⟨rfl, (yz_f_margin_18 p0 p1 hpy)⟩ (hP.sub [] rfl) (hD.sub [] (by decide) rfl) hS (Nat.le_of_ble_eq_true rfl) (Nat.le_of_ble_eq_true rfl)
  · have hP : va_P D vwCl [(h1, .inr (8, [.int 0, .int np, .ref w1, .ref w2, .ref w3, .ref w4, .ref w5])), (h0, .inr (11, [.ref h1, .ref h2, .ref h3, .ref h4, .ref a1, .ref a2, .int 0]))] H := hP
    have hD : va_D A [(h1, .inr (8, [.int 0, .int np, .ref w1, .ref w2, .ref w3, .ref w4, .ref w5])), (h0, .inr (11, [.ref h1, .ref h2, .ref h3, .ref h4, .ref a1, .ref a2, .int 0]))] := hD
    have hw : p0 = -1 := hw
    have w_3 := hw
    refine lv_aload_n hx hb dX5_margin_5 rfl (lv_at hl 0 rfl) ?_
    refine lv_iload_n hx hb dX5_margin_6 rfl (lv_at hl 2 rfl) ?_
    refine yx_v (wc := [(h0, .inr (11, [.ref h1, .ref h2, .ref h3, .ref h4, .ref a1, .ref a2, .int 0]))]) (wr := [(h1, .inr (8, [.int 0, .int np, .ref w1, .ref w2, .ref w3, .ref w4, .ref w5]))]) (vx_runV (As := [.int p1]) (rest := []) ⟨hx, hb, hml, hown, hts⟩ (f_requireMatching l hfl D tE H.size h0 h1 h2 h3 h4 a1 a2 p1 (va_A [(h0, .inr (11, [.ref h1, .ref h2, .ref h3, .ref h4, .ref a1, .ref a2, .int 0]))] H.size) rfl) (cwV 1 hts gX5_margin_X5_requireMatching rfl rfl rfl (by decide +kernel) ⟨Nat.le_of_ble_eq_true rfl, Nat.le_of_ble_eq_true rfl⟩) (yPreV (wc := [(h0, .inr (11, [.ref h1, .ref h2, .ref h3, .ref h4, .ref a1, .ref a2, .int 0]))]) (tc := []) hK hP hD hS hA hE [1] [] (by decide) rfl rfl (ci := 11) (q0 := 1) (q := (RX5, TX5, 7)) rfl rfl) rfl rfl hl.1 rfl (lv_room (Nat.le_of_ble_eq_true rfl)) dX5_margin_7 ⟨Nat.le_of_ble_eq_true rfl, Nat.le_of_ble_eq_true rfl⟩) hP hD hS hA [1] [0] rfl rfl (by decide) (by decide) (fun E ce q9 H locs hpx hP hD hS g1 g2 g3 => ?_) (fun u_5 H locs hw hP hD hS => ?_)
    · have hP : va_P D vwCl [(h1, .inr (8, [.int 0, .int np, .ref w1, .ref w2, .ref w3, .ref w4, .ref w5]))] H := hP
      have hD : va_D A [(h1, .inr (8, [.int 0, .int np, .ref w1, .ref w2, .ref w3, .ref w4, .ref w5]))] := hD
      have hpx : E = "java/lang/IndexOutOfBoundsException" ∧ ¬ p1 = -1 := hpx
      obtain ⟨rfl, hpy⟩ := hpx
      exact y_out hout hlocks g1 g2 g3 ⟨rfl, (yz_f_margin_19 p0 p1 w_3 hpy)⟩ (hP.sub [] rfl) (hD.sub [] (by decide) rfl) hS (Nat.le_of_ble_eq_true rfl) (Nat.le_of_ble_eq_true rfl)
    · have hP : va_P D vwCl [(h1, .inr (8, [.int 0, .int np, .ref w1, .ref w2, .ref w3, .ref w4, .ref w5])), (h0, .inr (11, [.ref h1, .ref h2, .ref h3, .ref h4, .ref a1, .ref a2, .int 0]))] H := hP
      have hD : va_D A [(h1, .inr (8, [.int 0, .int np, .ref w1, .ref w2, .ref w3, .ref w4, .ref w5])), (h0, .inr (11, [.ref h1, .ref h2, .ref h3, .ref h4, .ref a1, .ref a2, .int 0]))] := hD
      have hw : p1 = -1 := hw
      have w_6 := hw
      refine lv_aload_n hx hb dX5_margin_10 rfl (lv_at hl 0 rfl) ?_
      refine va_get (D := D) (ci := 11) (v := .ref h1) (C := RX5) (T := TX5) (N := 7) hx hb hts iX5_margin_X5 hown hK hP 1 rfl rfl 0 (by decide) (hts _ kX5_margin_1) (fun _ h9 => h9) rfl dX5_margin_11 ?_
      refine lv_aload_n hx hb dX5_margin_14 rfl (lv_at hl 0 rfl) ?_
      refine lv_iload_n hx hb dX5_margin_15 rfl (lv_at hl 1 rfl) ?_
      refine yc_r (wc := [(h0, .inr (11, [.ref h1, .ref h2, .ref h3, .ref h4, .ref a1, .ref a2, .int 0]))]) (wr := [(h1, .inr (8, [.int 0, .int np, .ref w1, .ref w2, .ref w3, .ref w4, .ref w5]))]) (va_runV (As := [.int p0]) (rest := [.ref h1]) ⟨hx, hb, hml, hown, hts⟩ (f_rowOf l hfl D tE H.size h0 h1 h2 h3 h4 a1 a2 p0 (va_A [(h0, .inr (11, [.ref h1, .ref h2, .ref h3, .ref h4, .ref a1, .ref a2, .int 0]))] H.size) rfl) (cwV 1 hts gX5_margin_X5_rowOf rfl rfl rfl (by decide +kernel) ⟨Nat.le_of_ble_eq_true rfl, Nat.le_of_ble_eq_true rfl⟩) (yPreV (wc := [(h0, .inr (11, [.ref h1, .ref h2, .ref h3, .ref h4, .ref a1, .ref a2, .int 0]))]) (tc := []) hK hP hD hS hA hE [1] [] (by decide) rfl rfl (ci := 11) (q0 := 1) (q := (RX5, TX5, 7)) rfl rfl) rfl rfl hl.1 rfl (lv_room (Nat.le_of_ble_eq_true rfl)) dX5_margin_16 ⟨Nat.le_of_ble_eq_true rfl, Nat.le_of_ble_eq_true rfl⟩) hP hD hS hA [1] [0] rfl rfl (by decide) (by decide) (fun r_7 u_8 H locs hw hP hD hS => ?_)
      have hP : va_P D vwCl [(h1, .inr (8, [.int 0, .int np, .ref w1, .ref w2, .ref w3, .ref w4, .ref w5])), (h0, .inr (11, [.ref h1, .ref h2, .ref h3, .ref h4, .ref a1, .ref a2, .int 0]))] H := hP
      have hD : va_D A [(h1, .inr (8, [.int 0, .int np, .ref w1, .ref w2, .ref w3, .ref w4, .ref w5])), (h0, .inr (11, [.ref h1, .ref h2, .ref h3, .ref h4, .ref a1, .ref a2, .int 0]))] := hD
      refine lv_aload_n hx hb dX5_margin_19 rfl (lv_at hl 0 rfl) ?_
      refine lv_iload_n hx hb dX5_margin_20 rfl (lv_at hl 2 rfl) ?_
      refine yc_r (wc := [(h0, .inr (11, [.ref h1, .ref h2, .ref h3, .ref h4, .ref a1, .ref a2, .int 0]))]) (wr := [(h1, .inr (8, [.int 0, .int np, .ref w1, .ref w2, .ref w3, .ref w4, .ref w5]))]) (va_runV (As := [.int p1]) (rest := [.ref r_7, .ref h1]) ⟨hx, hb, hml, hown, hts⟩ (f_rowOf l hfl D tE H.size h0 h1 h2 h3 h4 a1 a2 p1 (va_A [(h0, .inr (11, [.ref h1, .ref h2, .ref h3, .ref h4, .ref a1, .ref a2, .int 0]))] H.size) rfl) (cwV 1 hts gX5_margin_X5_rowOf rfl rfl rfl (by decide +kernel) ⟨Nat.le_of_ble_eq_true rfl, Nat.le_of_ble_eq_true rfl⟩) (yPreV (wc := [(h0, .inr (11, [.ref h1, .ref h2, .ref h3, .ref h4, .ref a1, .ref a2, .int 0]))]) (tc := []) hK hP hD hS hA hE [1] [] (by decide) rfl rfl (ci := 11) (q0 := 1) (q := (RX5, TX5, 7)) rfl rfl) rfl rfl hl.1 rfl (lv_room (Nat.le_of_ble_eq_true rfl)) dX5_margin_21 ⟨Nat.le_of_ble_eq_true rfl, Nat.le_of_ble_eq_true rfl⟩) hP hD hS hA [1] [0] rfl rfl (by decide) (by decide) (fun r_9 u_10 H locs hw hP hD hS => ?_)
      have hP : va_P D vwCl [(h1, .inr (8, [.int 0, .int np, .ref w1, .ref w2, .ref w3, .ref w4, .ref w5])), (h0, .inr (11, [.ref h1, .ref h2, .ref h3, .ref h4, .ref a1, .ref a2, .int 0]))] H := hP
      have hD : va_D A [(h1, .inr (8, [.int 0, .int np, .ref w1, .ref w2, .ref w3, .ref w4, .ref w5])), (h0, .inr (11, [.ref h1, .ref h2, .ref h3, .ref h4, .ref a1, .ref a2, .int 0]))] := hD
      refine yc_i (wc := [(h1, .inr (8, [.int 0, .int np, .ref w1, .ref w2, .ref w3, .ref w4, .ref w5]))]) (wr := [(h0, .inr (11, [.ref h1, .ref h2, .ref h3, .ref h4, .ref a1, .ref a2, .int 0]))]) (va_runV (As := [.ref r_7, .ref r_9]) (rest := []) ⟨hx, hb, hml, hown, hts⟩ (f_leadOf l hfl D tE H.size h1 w1 w2 w3 w4 w5 np r_7 r_9 (va_A [(h1, .inr (8, [.int 0, .int np, .ref w1, .ref w2, .ref w3, .ref w4, .ref w5]))] H.size) rfl) (cwV 2 hts gX5_margin_X2_leadOf rfl rfl rfl (by decide +kernel) ⟨Nat.le_of_ble_eq_true rfl, Nat.le_of_ble_eq_true rfl⟩) (yPreV (wc := [(h1, .inr (8, [.int 0, .int np, .ref w1, .ref w2, .ref w3, .ref w4, .ref w5]))]) (tc := []) hK hP hD hS hA hE [0] [] (by decide) rfl rfl (ci := 8) (q0 := 0) (q := (RX2, TX2, 7)) rfl rfl) rfl rfl hl.1 rfl (lv_room (Nat.le_of_ble_eq_true rfl)) dX5_margin_24 ⟨Nat.le_of_ble_eq_true rfl, Nat.le_of_ble_eq_true rfl⟩) hP hD hS hA [0] [1] rfl rfl (by decide) (by decide) (fun r_11 u_12 H locs hw hP hD hS => ?_)
      have hP : va_P D vwCl [(h0, .inr (11, [.ref h1, .ref h2, .ref h3, .ref h4, .ref a1, .ref a2, .int 0])), (h1, .inr (8, [.int 0, .int np, .ref w1, .ref w2, .ref w3, .ref w4, .ref w5]))] H := hP
      have hD : va_D A [(h0, .inr (11, [.ref h1, .ref h2, .ref h3, .ref h4, .ref a1, .ref a2, .int 0])), (h1, .inr (8, [.int 0, .int np, .ref w1, .ref w2, .ref w3, .ref w4, .ref w5]))] := hD
      have hw : r_11 = 0 := hw
      subst hw
      exact vx_ret (y_iret hx hb hr hlocks () (yz_f_margin_20 p0 p1 w_3 w_6) (hP.sub [] rfl) (hD.sub [] (by decide) rfl) hS (Nat.le_of_ble_eq_true rfl) (Nat.le_of_ble_eq_true rfl) dX5_margin_27)
theorem yz_f_differ_21 (p0 : Int32) (p1 : Int32) (h0 : ¬ p0 = -1) : ¬ (p0 = -1 ∧ p1 = -1) := by grind
theorem yz_f_differ_22 (p0 : Int32) (p1 : Int32) (h0 : p0 = -1) (h1 : ¬ p1 = -1) : ¬ (p0 = -1 ∧ p1 = -1) := by grind
theorem yz_f_differ_23 (p0 : Int32) (p1 : Int32) (h0 : p0 = -1) (h1 : p1 = -1) : (0 : Int32) = 0 ∧ p0 = -1 ∧ p1 = -1 := by grind
theorem iX5_differ_X5 : ∀ w ∈ wsX50, w ∈ wsX5_differ := by decide +kernel
theorem kX5_differ_1 : Cond.fieldLink RX5 10 "Mostwell" "house" "LMostwell$House;" ∈ wsX5_differ := List.mem_of_getElem? (i := 1) (by decide +kernel)
theorem iX5_differ_X2 : ∀ w ∈ wsX20, w ∈ wsX5_differ := by decide +kernel
theorem kX5_differ_2 : Cond.fieldLink RX5 60 "Mostwell$House" "applicants" "I" ∈ wsX5_differ := List.mem_of_getElem? (i := 2) (by decide +kernel)
set_option maxHeartbeats 4000000 in
set_option maxRecDepth 100000 in
theorem f_differ (l : Launch) (hfl : l.stackTraces = false) (D : va_G) (tE : Nat) (sz : Nat) (h0 : Nat) (h1 : Nat) (h2 : Nat) (h3 : Nat) (h4 : Nat) (a1 : Nat) (a2 : Nat) (w1 : Nat) (w2 : Nat) (w3 : Nat) (w4 : Nat) (w5 : Nat) (np : Int32) (p0 : Int32) (p1 : Int32) (A : Nat → Prop) (hA0 : A = va_A [(h0, .inr (11, [.ref h1, .ref h2, .ref h3, .ref h4, .ref a1, .ref a2, .int 0])), (h1, .inr (8, [.int 0, .int np, .ref w1, .ref w2, .ref w3, .ref w4, .ref w5]))] sz) : vx_Met l yX5_differ wsX5_differ (yR 2 2 12) (yP D tE [(h0, .inr (11, [.ref h1, .ref h2, .ref h3, .ref h4, .ref a1, .ref a2, .int 0])), (h1, .inr (8, [.int 0, .int np, .ref w1, .ref w2, .ref w3, .ref w4, .ref w5]))] [] sz [.ref h0, .int p0, .int p1]) (va_Qi (S := Unit) (fun (r : Int32) (u : Unit) => r = 0 ∧ p0 = -1 ∧ p1 = -1) (fun (u : Unit) (t : State) => yB D A ((fun (u : Unit) => []) u) t) A) (vx_X (S := Unit) (fun _ => True) (fun E _ t => (fun (E : String) => E = "java/lang/IndexOutOfBoundsException" ∧ ¬ (p0 = -1 ∧ p1 = -1)) E ∧ yB D A [] t) A) 2 12 A := by
  refine vx_ofW (cc := cX5_differ) (maxL := 7) (ret := (some .int)) (by decide) rfl ?_
  intro p e s m args below meth c s₁ B hml hout hv
  obtain ⟨rfl, rfl, hP, hK, hD, hE, hA⟩ := y_start hA0 hv
  have hx := B.exec
  have hb := B.bytes
  have hr := B.returns
  have hts := atoms_spec (ws := wsX5_differ) B.pre
  have hown : s.vm.findClass RX5 = some m.cls := findClass_of_methodNamed B.named
  have hlocks := B.notSynchronized
  clear hA0 hv
  have hS : va_S A s.heap s.heap [] := va_S.rf
  have hl := lv_entry ([.ref h0, .int p0, .int p1]) (n := 7) (Nat.le_of_ble_eq_true rfl)
  rw [lg_entry_eq]
  generalize (lg_sl ([.ref h0, .int p0, .int p1]) ++ List.replicate (7 - (lg_sl ([.ref h0, .int p0, .int p1])).length) Slot.unset).toArray = ls at hl ⊢
  have hl : lv_has ls 7 [(0, .ref h0), (1, .int p0), (2, .int p1)] := hl
  refine lv_aload_n hx hb dX5_differ_0 rfl (lv_at hl 0 rfl) ?_
  refine lv_iload_n hx hb dX5_differ_1 rfl (lv_at hl 1 rfl) ?_
  refine yx_v (wc := [(h0, .inr (11, [.ref h1, .ref h2, .ref h3, .ref h4, .ref a1, .ref a2, .int 0]))]) (wr := [(h1, .inr (8, [.int 0, .int np, .ref w1, .ref w2, .ref w3, .ref w4, .ref w5]))]) (vx_runV (As := [.int p0]) (rest := []) ⟨hx, hb, hml, hown, hts⟩ (f_requireMatching l hfl D tE s.heap.size h0 h1 h2 h3 h4 a1 a2 p0 (va_A [(h0, .inr (11, [.ref h1, .ref h2, .ref h3, .ref h4, .ref a1, .ref a2, .int 0]))] s.heap.size) rfl) (cwV 1 hts gX5_differ_X5_requireMatching rfl rfl rfl (by decide +kernel) ⟨Nat.le_of_ble_eq_true rfl, Nat.le_of_ble_eq_true rfl⟩) (yPreV (wc := [(h0, .inr (11, [.ref h1, .ref h2, .ref h3, .ref h4, .ref a1, .ref a2, .int 0]))]) (tc := []) hK hP hD hS hA hE [0] [] (by decide) rfl rfl (ci := 11) (q0 := 0) (q := (RX5, TX5, 7)) rfl rfl) rfl rfl hl.1 rfl (lv_room (Nat.le_of_ble_eq_true rfl)) dX5_differ_2 ⟨Nat.le_of_ble_eq_true rfl, Nat.le_of_ble_eq_true rfl⟩) hP hD hS hA [0] [1] rfl rfl (by decide) (by decide) (fun E ce q9 H locs hpx hP hD hS g1 g2 g3 => ?_) (fun u_2 H locs hw hP hD hS => ?_)
  · have hP : va_P D vwCl [(h1, .inr (8, [.int 0, .int np, .ref w1, .ref w2, .ref w3, .ref w4, .ref w5]))] H := hP
    have hD : va_D A [(h1, .inr (8, [.int 0, .int np, .ref w1, .ref w2, .ref w3, .ref w4, .ref w5]))] := hD
    have hpx : E = "java/lang/IndexOutOfBoundsException" ∧ ¬ p0 = -1 := hpx
    obtain ⟨rfl, hpy⟩ := hpx
    exact y_out hout hlocks g1 g2 g3 ⟨rfl, (yz_f_differ_21 p0 p1 hpy)⟩ (hP.sub [] rfl) (hD.sub [] (by decide) rfl) hS (Nat.le_of_ble_eq_true rfl) (Nat.le_of_ble_eq_true rfl)
  · have hP : va_P D vwCl [(h1, .inr (8, [.int 0, .int np, .ref w1, .ref w2, .ref w3, .ref w4, .ref w5])), (h0, .inr (11, [.ref h1, .ref h2, .ref h3, .ref h4, .ref a1, .ref a2, .int 0]))] H := hP
    have hD : va_D A [(h1, .inr (8, [.int 0, .int np, .ref w1, .ref w2, .ref w3, .ref w4, .ref w5])), (h0, .inr (11, [.ref h1, .ref h2, .ref h3, .ref h4, .ref a1, .ref a2, .int 0]))] := hD
    have hw : p0 = -1 := hw
    have w_3 := hw
    refine lv_aload_n hx hb dX5_differ_5 rfl (lv_at hl 0 rfl) ?_
    refine lv_iload_n hx hb dX5_differ_6 rfl (lv_at hl 2 rfl) ?_
    refine yx_v (wc := [(h0, .inr (11, [.ref h1, .ref h2, .ref h3, .ref h4, .ref a1, .ref a2, .int 0]))]) (wr := [(h1, .inr (8, [.int 0, .int np, .ref w1, .ref w2, .ref w3, .ref w4, .ref w5]))]) (vx_runV (As := [.int p1]) (rest := []) ⟨hx, hb, hml, hown, hts⟩ (f_requireMatching l hfl D tE H.size h0 h1 h2 h3 h4 a1 a2 p1 (va_A [(h0, .inr (11, [.ref h1, .ref h2, .ref h3, .ref h4, .ref a1, .ref a2, .int 0]))] H.size) rfl) (cwV 1 hts gX5_differ_X5_requireMatching rfl rfl rfl (by decide +kernel) ⟨Nat.le_of_ble_eq_true rfl, Nat.le_of_ble_eq_true rfl⟩) (yPreV (wc := [(h0, .inr (11, [.ref h1, .ref h2, .ref h3, .ref h4, .ref a1, .ref a2, .int 0]))]) (tc := []) hK hP hD hS hA hE [1] [] (by decide) rfl rfl (ci := 11) (q0 := 1) (q := (RX5, TX5, 7)) rfl rfl) rfl rfl hl.1 rfl (lv_room (Nat.le_of_ble_eq_true rfl)) dX5_differ_7 ⟨Nat.le_of_ble_eq_true rfl, Nat.le_of_ble_eq_true rfl⟩) hP hD hS hA [1] [0] rfl rfl (by decide) (by decide) (fun E ce q9 H locs hpx hP hD hS g1 g2 g3 => ?_) (fun u_5 H locs hw hP hD hS => ?_)
    · have hP : va_P D vwCl [(h1, .inr (8, [.int 0, .int np, .ref w1, .ref w2, .ref w3, .ref w4, .ref w5]))] H := hP
      have hD : va_D A [(h1, .inr (8, [.int 0, .int np, .ref w1, .ref w2, .ref w3, .ref w4, .ref w5]))] := hD
      have hpx : E = "java/lang/IndexOutOfBoundsException" ∧ ¬ p1 = -1 := hpx
      obtain ⟨rfl, hpy⟩ := hpx
      exact y_out hout hlocks g1 g2 g3 ⟨rfl, (yz_f_differ_22 p0 p1 w_3 hpy)⟩ (hP.sub [] rfl) (hD.sub [] (by decide) rfl) hS (Nat.le_of_ble_eq_true rfl) (Nat.le_of_ble_eq_true rfl)
    · have hP : va_P D vwCl [(h1, .inr (8, [.int 0, .int np, .ref w1, .ref w2, .ref w3, .ref w4, .ref w5])), (h0, .inr (11, [.ref h1, .ref h2, .ref h3, .ref h4, .ref a1, .ref a2, .int 0]))] H := hP
      have hD : va_D A [(h1, .inr (8, [.int 0, .int np, .ref w1, .ref w2, .ref w3, .ref w4, .ref w5])), (h0, .inr (11, [.ref h1, .ref h2, .ref h3, .ref h4, .ref a1, .ref a2, .int 0]))] := hD
      have hw : p1 = -1 := hw
      have w_6 := hw
      refine lv_aload_n hx hb dX5_differ_10 rfl (lv_at hl 0 rfl) ?_
      refine lv_iload_n hx hb dX5_differ_11 rfl (lv_at hl 1 rfl) ?_
      refine yc_r (wc := [(h0, .inr (11, [.ref h1, .ref h2, .ref h3, .ref h4, .ref a1, .ref a2, .int 0]))]) (wr := [(h1, .inr (8, [.int 0, .int np, .ref w1, .ref w2, .ref w3, .ref w4, .ref w5]))]) (va_runV (As := [.int p0]) (rest := []) ⟨hx, hb, hml, hown, hts⟩ (f_rowOf l hfl D tE H.size h0 h1 h2 h3 h4 a1 a2 p0 (va_A [(h0, .inr (11, [.ref h1, .ref h2, .ref h3, .ref h4, .ref a1, .ref a2, .int 0]))] H.size) rfl) (cwV 1 hts gX5_differ_X5_rowOf rfl rfl rfl (by decide +kernel) ⟨Nat.le_of_ble_eq_true rfl, Nat.le_of_ble_eq_true rfl⟩) (yPreV (wc := [(h0, .inr (11, [.ref h1, .ref h2, .ref h3, .ref h4, .ref a1, .ref a2, .int 0]))]) (tc := []) hK hP hD hS hA hE [1] [] (by decide) rfl rfl (ci := 11) (q0 := 1) (q := (RX5, TX5, 7)) rfl rfl) rfl rfl hl.1 rfl (lv_room (Nat.le_of_ble_eq_true rfl)) dX5_differ_12 ⟨Nat.le_of_ble_eq_true rfl, Nat.le_of_ble_eq_true rfl⟩) hP hD hS hA [1] [0] rfl rfl (by decide) (by decide) (fun r_7 u_8 H locs hw hP hD hS => ?_)
      have hP : va_P D vwCl [(h1, .inr (8, [.int 0, .int np, .ref w1, .ref w2, .ref w3, .ref w4, .ref w5])), (h0, .inr (11, [.ref h1, .ref h2, .ref h3, .ref h4, .ref a1, .ref a2, .int 0]))] H := hP
      have hD : va_D A [(h1, .inr (8, [.int 0, .int np, .ref w1, .ref w2, .ref w3, .ref w4, .ref w5])), (h0, .inr (11, [.ref h1, .ref h2, .ref h3, .ref h4, .ref a1, .ref a2, .int 0]))] := hD
      refine lv_astore_n (lv' := [(3, .ref r_7), (0, .ref h0), (1, .int p0), (2, .int p1)]) hx hb dX5_differ_15 rfl hl (by decide) rfl (fun ls hl => ?_)
      refine lv_aload_n hx hb dX5_differ_16 rfl (lv_at hl 1 rfl) ?_
      refine lv_iload_n hx hb dX5_differ_17 rfl (lv_at hl 3 rfl) ?_
      refine yc_r (wc := [(h0, .inr (11, [.ref h1, .ref h2, .ref h3, .ref h4, .ref a1, .ref a2, .int 0]))]) (wr := [(h1, .inr (8, [.int 0, .int np, .ref w1, .ref w2, .ref w3, .ref w4, .ref w5]))]) (va_runV (As := [.int p1]) (rest := []) ⟨hx, hb, hml, hown, hts⟩ (f_rowOf l hfl D tE H.size h0 h1 h2 h3 h4 a1 a2 p1 (va_A [(h0, .inr (11, [.ref h1, .ref h2, .ref h3, .ref h4, .ref a1, .ref a2, .int 0]))] H.size) rfl) (cwV 1 hts gX5_differ_X5_rowOf rfl rfl rfl (by decide +kernel) ⟨Nat.le_of_ble_eq_true rfl, Nat.le_of_ble_eq_true rfl⟩) (yPreV (wc := [(h0, .inr (11, [.ref h1, .ref h2, .ref h3, .ref h4, .ref a1, .ref a2, .int 0]))]) (tc := []) hK hP hD hS hA hE [1] [] (by decide) rfl rfl (ci := 11) (q0 := 1) (q := (RX5, TX5, 7)) rfl rfl) rfl rfl hl.1 rfl (lv_room (Nat.le_of_ble_eq_true rfl)) dX5_differ_18 ⟨Nat.le_of_ble_eq_true rfl, Nat.le_of_ble_eq_true rfl⟩) hP hD hS hA [1] [0] rfl rfl (by decide) (by decide) (fun r_9 u_10 H locs hw hP hD hS => ?_)
      have hP : va_P D vwCl [(h1, .inr (8, [.int 0, .int np, .ref w1, .ref w2, .ref w3, .ref w4, .ref w5])), (h0, .inr (11, [.ref h1, .ref h2, .ref h3, .ref h4, .ref a1, .ref a2, .int 0]))] H := hP
      have hD : va_D A [(h1, .inr (8, [.int 0, .int np, .ref w1, .ref w2, .ref w3, .ref w4, .ref w5])), (h0, .inr (11, [.ref h1, .ref h2, .ref h3, .ref h4, .ref a1, .ref a2, .int 0]))] := hD
      refine lv_astore (lv' := [(4, .ref r_9), (3, .ref r_7), (0, .ref h0), (1, .int p0), (2, .int p1)]) hx hb dX5_differ_21 hl (by decide) rfl (fun ls hl => ?_)
      refine lv_iconst (v := (0)) hx hb dX5_differ_23 (by decide) ?_
      refine lv_istore (lv' := [(5, .int 0), (4, .ref r_9), (3, .ref r_7), (0, .ref h0), (1, .int p0), (2, .int p1)]) hx hb dX5_differ_24 hl (by decide) rfl (fun ls hl => ?_)
      refine lv_iconst (v := (0)) hx hb dX5_differ_26 (by decide) ?_
      refine lv_istore (lv' := [(6, .int 0), (5, .int 0), (4, .ref r_9), (3, .ref r_7), (0, .ref h0), (1, .int p0), (2, .int p1)]) hx hb dX5_differ_27 hl (by decide) rfl (fun ls hl => ?_)
      refine lv_iload hx hb dX5_differ_29 (lv_at hl 0 rfl) ?_
      refine lv_aload_n hx hb dX5_differ_31 rfl (lv_at hl 4 rfl) ?_
      refine va_get (D := D) (ci := 11) (v := .ref h1) (C := RX5) (T := TX5) (N := 7) hx hb hts iX5_differ_X5 hown hK hP 1 rfl rfl 0 (by decide) (hts _ kX5_differ_1) (fun _ h9 => h9) rfl dX5_differ_32 ?_
      refine va_get (D := D) (ci := 8) (v := .int 0) (C := RX2) (T := TX2) (N := 7) hx hb hts iX5_differ_X2 hown hK hP 0 rfl rfl 0 (by decide) (hts _ kX5_differ_2) (fun _ h9 => h9) rfl dX5_differ_35 ?_
      refine lv_icmp_ge (tgt := 62) hx hb dX5_differ_38 (by decide) (fun _ => ?_) (fun h => absurd h (by decide))
      refine lv_iload hx hb dX5_differ_62 (lv_at hl 1 rfl) ?_
      exact vx_ret (y_iret hx hb hr hlocks () (yz_f_differ_23 p0 p1 w_3 w_6) (hP.sub [] rfl) (hD.sub [] (by decide) rfl) hS (Nat.le_of_ble_eq_true rfl) (Nat.le_of_ble_eq_true rfl) dX5_differ_64)
theorem iX0_compare_X0 : ∀ w ∈ wsX00, w ∈ wsX0_compare := by decide +kernel
theorem kX0_compare_1 : Cond.fieldLink RX0 9 "Mostwell$Agenda" "count" "I" ∈ wsX0_compare := List.mem_of_getElem? (i := 1) (by decide +kernel)
set_option maxHeartbeats 4000000 in
set_option maxRecDepth 100000 in
theorem f_compare (l : Launch) (hfl : l.stackTraces = false) (D : va_G) (tE : Nat) (sz : Nat) (h4 : Nat) (g1 : Nat) (g2 : Nat) (gc : Int32) (r1 : Nat) (r2 : Nat) (A : Nat → Prop) (hA0 : A = va_A [(h4, .inr (6, [.int gc, .ref g1, .ref g2]))] sz) : Met l yX0_compare wsX0_compare (yR 0 0 0) (yP D tE [(h4, .inr (6, [.int gc, .ref g1, .ref g2]))] [] sz [.ref h4, .ref r1, .ref r2, .int 0]) (va_Qv (S := Unit) (fun (u : Unit) => True) (fun (u : Unit) (t : State) => yB D A ((fun (u : Unit) => [(h4, .inr (6, [.int 0, .ref g1, .ref g2]))]) u) t) A) 0 0 A := by
  refine Met.ofW (cc := cX0_compare) (maxL := 7) (ret := none) (by decide) rfl ?_
  intro p e s m args below meth c s₁ B hml hv
  obtain ⟨rfl, rfl, hP, hK, hD, hE, hA⟩ := y_start hA0 hv
  have hx := B.exec
  have hb := B.bytes
  have hr := B.returns
  have hts := atoms_spec (ws := wsX0_compare) B.pre
  have hown : s.vm.findClass RX0 = some m.cls := findClass_of_methodNamed B.named
  have hlocks := B.notSynchronized
  clear hA0 hv
  have hS : va_S A s.heap s.heap [] := va_S.rf
  have hl := lv_entry ([.ref h4, .ref r1, .ref r2, .int 0]) (n := 7) (Nat.le_of_ble_eq_true rfl)
  rw [lg_entry_eq]
  generalize (lg_sl ([.ref h4, .ref r1, .ref r2, .int 0]) ++ List.replicate (7 - (lg_sl ([.ref h4, .ref r1, .ref r2, .int 0])).length) Slot.unset).toArray = ls at hl ⊢
  have hl : lv_has ls 7 [(0, .ref h4), (1, .ref r1), (2, .ref r2), (3, .int 0)] := hl
  refine lv_aload_n hx hb dX0_compare_0 rfl (lv_at hl 0 rfl) ?_
  refine lv_iload_n hx hb dX0_compare_1 rfl (lv_at hl 3 rfl) ?_
  refine va_put (D := D) (ci := 6) (v := .int 0) (ty := .int) (C := RX0) (T := TX0) (N := 3) hx hb hts iX0_compare_X0 tyX0 tyX0_ok nmX0 hown hK hP hD hS 0 rfl rfl 0 (by decide) (hts _ kX0_compare_1) (fun _ h9 => h9) rfl (by decide +kernel) rfl rfl (Nat.le_of_ble_eq_true rfl) dX0_compare_2 (fun H locs hP hD hS => ?_)
  have hP : va_P D vwCl [(h4, .inr (6, [.int 0, .ref g1, .ref g2]))] H := hP
  have hD : va_D A [(h4, .inr (6, [.int 0, .ref g1, .ref g2]))] := hD
  refine lv_iconst (v := (0)) hx hb dX0_compare_5 (by decide) ?_
  refine lv_istore (lv' := [(4, .int 0), (0, .ref h4), (1, .ref r1), (2, .ref r2), (3, .int 0)]) hx hb dX0_compare_6 hl (by decide) rfl (fun ls hl => ?_)
  refine lv_iload hx hb dX0_compare_8 (lv_at hl 0 rfl) ?_
  refine lv_aload_n hx hb dX0_compare_10 rfl (lv_at hl 1 rfl) ?_
  refine va_get (D := D) (ci := 6) (v := .int 0) (C := RX0) (T := TX0) (N := 3) hx hb hts iX0_compare_X0 hown hK hP 0 rfl rfl 0 (by decide) (hts _ kX0_compare_1) (fun _ h9 => h9) rfl dX0_compare_11 ?_
  refine lv_icmp_ge (tgt := 78) hx hb dX0_compare_14 (by decide) (fun _ => ?_) (fun h => absurd h (by decide))
  exact y_vret hx hb hr hlocks () trivial hP hD hS (Nat.le_of_ble_eq_true rfl) (Nat.le_of_ble_eq_true rfl) dX0_compare_78
theorem iX0_firstUnbeaten_X0 : ∀ w ∈ wsX00, w ∈ wsX0_firstUnbeaten := by decide +kernel
theorem kX0_firstUnbeaten_1 : Cond.fieldLink RX0 9 "Mostwell$Agenda" "count" "I" ∈ wsX0_firstUnbeaten := List.mem_of_getElem? (i := 1) (by decide +kernel)
set_option maxHeartbeats 4000000 in
set_option maxRecDepth 100000 in
theorem f_firstUnbeaten (l : Launch) (hfl : l.stackTraces = false) (D : va_G) (tE : Nat) (sz : Nat) (h4 : Nat) (g1 : Nat) (g2 : Nat) (A : Nat → Prop) (hA0 : A = va_A [(h4, .inr (6, [.int 0, .ref g1, .ref g2]))] sz) : Met l yX0_firstUnbeaten wsX0_firstUnbeaten (yR 0 0 0) (yP D tE [(h4, .inr (6, [.int 0, .ref g1, .ref g2]))] [] sz [.ref h4]) (va_Qi (S := Unit) (fun (r : Int32) (u : Unit) => r = -1) (fun (u : Unit) (t : State) => yB D A ((fun (u : Unit) => [(h4, .inr (6, [.int 0, .ref g1, .ref g2]))]) u) t) A) 0 0 A := by
  refine Met.ofW (cc := cX0_firstUnbeaten) (maxL := 2) (ret := (some .int)) (by decide) rfl ?_
  intro p e s m args below meth c s₁ B hml hv
  obtain ⟨rfl, rfl, hP, hK, hD, hE, hA⟩ := y_start hA0 hv
  have hx := B.exec
  have hb := B.bytes
  have hr := B.returns
  have hts := atoms_spec (ws := wsX0_firstUnbeaten) B.pre
  have hown : s.vm.findClass RX0 = some m.cls := findClass_of_methodNamed B.named
  have hlocks := B.notSynchronized
  clear hA0 hv
  have hS : va_S A s.heap s.heap [] := va_S.rf
  have hl := lv_entry ([.ref h4]) (n := 2) (Nat.le_of_ble_eq_true rfl)
  rw [lg_entry_eq]
  generalize (lg_sl ([.ref h4]) ++ List.replicate (2 - (lg_sl ([.ref h4])).length) Slot.unset).toArray = ls at hl ⊢
  have hl : lv_has ls 2 [(0, .ref h4)] := hl
  refine lv_iconst (v := (0)) hx hb dX0_firstUnbeaten_0 (by decide) ?_
  refine lv_istore_n (lv' := [(1, .int 0), (0, .ref h4)]) hx hb dX0_firstUnbeaten_1 rfl hl (by decide) rfl (fun ls hl => ?_)
  refine lv_iload_n hx hb dX0_firstUnbeaten_2 rfl (lv_at hl 0 rfl) ?_
  refine lv_aload_n hx hb dX0_firstUnbeaten_3 rfl (lv_at hl 1 rfl) ?_
  refine va_get (D := D) (ci := 6) (v := .int 0) (C := RX0) (T := TX0) (N := 3) hx hb hts iX0_firstUnbeaten_X0 hown hK hP 0 rfl rfl 0 (by decide) (hts _ kX0_firstUnbeaten_1) (fun _ h9 => h9) rfl dX0_firstUnbeaten_4 ?_
  refine lv_icmp_ge (tgt := 26) hx hb dX0_firstUnbeaten_7 (by decide) (fun _ => ?_) (fun h => absurd h (by decide))
  refine lv_iconst (v := (-1)) hx hb dX0_firstUnbeaten_26 (by decide) ?_
  exact y_iret hx hb hr hlocks () rfl hP hD hS (Nat.le_of_ble_eq_true rfl) (Nat.le_of_ble_eq_true rfl) dX0_firstUnbeaten_27
theorem iX5_winner_X5 : ∀ w ∈ wsX50, w ∈ wsX5_winner := by decide +kernel
theorem kX5_winner_3 : Cond.fieldLink RX5 33 "Mostwell" "agenda" "LMostwell$Agenda;" ∈ wsX5_winner := List.mem_of_getElem? (i := 3) (by decide +kernel)
theorem kX5_winner_4 : Cond.fieldLink RX5 10 "Mostwell" "house" "LMostwell$House;" ∈ wsX5_winner := List.mem_of_getElem? (i := 4) (by decide +kernel)
theorem kX5_winner_5 : Cond.fieldLink RX5 43 "Mostwell" "kept" "[[I" ∈ wsX5_winner := List.mem_of_getElem? (i := 5) (by decide +kernel)
theorem kX5_winner_6 : Cond.fieldLink RX5 46 "Mostwell" "keptCount" "I" ∈ wsX5_winner := List.mem_of_getElem? (i := 6) (by decide +kernel)
theorem eX5_winner_140 : ∀ w ∈ (yat_S RX5 140 "java/util/NoSuchElementException" ["java/lang/RuntimeException", "java/lang/Exception"]).filter goodWord, w ∈ wsX5_winner := fun _ h => List.mem_cons_of_mem _ (List.mem_append_left _ (List.mem_append_right _ h))
theorem kX5_winner_1 : Cond.classLink RX5 136 "java/util/NoSuchElementException" ∈ wsX5_winner := List.mem_of_getElem? (i := 1) (by decide +kernel)
theorem kX5_winner_2 : Cond.initialized "java/util/NoSuchElementException" ∈ wsX5_winner := List.mem_of_getElem? (i := 2) (by decide +kernel)
set_option maxHeartbeats 4000000 in
set_option maxRecDepth 100000 in
theorem f_winner (l : Launch) (hfl : l.stackTraces = false) (D : va_G) (tE : Nat) (sz : Nat) (h0 : Nat) (h1 : Nat) (h2 : Nat) (h3 : Nat) (h4 : Nat) (a1 : Nat) (a2 : Nat) (g1 : Nat) (g2 : Nat) (gc : Int32) (A : Nat → Prop) (hA0 : A = va_A [(h0, .inr (11, [.ref h1, .ref h2, .ref h3, .ref h4, .ref a1, .ref a2, .int 0])), (h4, .inr (6, [.int gc, .ref g1, .ref g2]))] sz) : vx_Met l yX5_winner wsX5_winner (yR 1 1 6) (yP D tE [(h0, .inr (11, [.ref h1, .ref h2, .ref h3, .ref h4, .ref a1, .ref a2, .int 0])), (h4, .inr (6, [.int gc, .ref g1, .ref g2]))] [] sz [.ref h0]) (va_Qi (S := Unit) (fun (r : Int32) (u : Unit) => False) (fun (u : Unit) (t : State) => yB D A ((fun (u : Unit) => []) u) t) A) (vx_X (S := Unit) (fun _ => True) (fun E _ t => (fun (E : String) => E = "java/util/NoSuchElementException") E ∧ yB D A [] t) A) 1 6 A := by
  refine vx_ofW (cc := cX5_winner) (maxL := 2) (ret := (some .int)) (by decide) rfl ?_
  intro p e s m args below meth c s₁ B hml hout hv
  obtain ⟨rfl, rfl, hP, hK, hD, hE, hA⟩ := y_start hA0 hv
  have hx := B.exec
  have hb := B.bytes
  have hr := B.returns
  have hts := atoms_spec (ws := wsX5_winner) B.pre
  have hown : s.vm.findClass RX5 = some m.cls := findClass_of_methodNamed B.named
  have hlocks := B.notSynchronized
  clear hA0 hv
  have hS : va_S A s.heap s.heap [] := va_S.rf
  have hl := lv_entry ([.ref h0]) (n := 2) (Nat.le_of_ble_eq_true rfl)
  rw [lg_entry_eq]
  generalize (lg_sl ([.ref h0]) ++ List.replicate (2 - (lg_sl ([.ref h0])).length) Slot.unset).toArray = ls at hl ⊢
  have hl : lv_has ls 2 [(0, .ref h0)] := hl
  refine lv_aload_n hx hb dX5_winner_0 rfl (lv_at hl 0 rfl) ?_
  refine va_get (D := D) (ci := 11) (v := .ref h4) (C := RX5) (T := TX5) (N := 7) hx hb hts iX5_winner_X5 hown hK hP 0 rfl rfl 3 (by decide) (hts _ kX5_winner_3) (fun _ h9 => h9) rfl dX5_winner_1 ?_
  refine lv_aload_n hx hb dX5_winner_4 rfl (lv_at hl 0 rfl) ?_
  refine va_get (D := D) (ci := 11) (v := .ref h1) (C := RX5) (T := TX5) (N := 7) hx hb hts iX5_winner_X5 hown hK hP 0 rfl rfl 0 (by decide) (hts _ kX5_winner_4) (fun _ h9 => h9) rfl dX5_winner_5 ?_
  refine lv_aload_n hx hb dX5_winner_8 rfl (lv_at hl 0 rfl) ?_
  refine va_get (D := D) (ci := 11) (v := .ref a2) (C := RX5) (T := TX5) (N := 7) hx hb hts iX5_winner_X5 hown hK hP 0 rfl rfl 5 (by decide) (hts _ kX5_winner_5) (fun _ h9 => h9) rfl dX5_winner_9 ?_
  refine lv_aload_n hx hb dX5_winner_12 rfl (lv_at hl 0 rfl) ?_
  refine va_get (D := D) (ci := 11) (v := .int 0) (C := RX5) (T := TX5) (N := 7) hx hb hts iX5_winner_X5 hown hK hP 0 rfl rfl 6 (by decide) (hts _ kX5_winner_6) (fun _ h9 => h9) rfl dX5_winner_13 ?_
  refine yc_v (wc := [(h4, .inr (6, [.int gc, .ref g1, .ref g2]))]) (wr := [(h0, .inr (11, [.ref h1, .ref h2, .ref h3, .ref h4, .ref a1, .ref a2, .int 0]))]) (va_runV (As := [.ref h1, .ref a2, .int 0]) (rest := []) ⟨hx, hb, hml, hown, hts⟩ (f_compare l hfl D tE s.heap.size h4 g1 g2 gc h1 a2 (va_A [(h4, .inr (6, [.int gc, .ref g1, .ref g2]))] s.heap.size) rfl) (cwV 3 hts gX5_winner_X0_compare rfl rfl rfl (by decide +kernel) ⟨Nat.le_of_ble_eq_true rfl, Nat.le_of_ble_eq_true rfl⟩) (yPreV (wc := [(h4, .inr (6, [.int gc, .ref g1, .ref g2]))]) (tc := []) hK hP hD hS hA hE [1] [] (by decide) rfl rfl (ci := 6) (q0 := 1) (q := (RX0, TX0, 3)) rfl rfl) rfl rfl hl.1 rfl (lv_room (Nat.le_of_ble_eq_true rfl)) dX5_winner_16 ⟨Nat.le_of_ble_eq_true rfl, Nat.le_of_ble_eq_true rfl⟩) hP hD hS hA [1] [0] rfl rfl (by decide) (by decide) (fun u_2 H locs hw hP hD hS => ?_)
  have hP : va_P D vwCl [(h0, .inr (11, [.ref h1, .ref h2, .ref h3, .ref h4, .ref a1, .ref a2, .int 0])), (h4, .inr (6, [.int 0, .ref g1, .ref g2]))] H := hP
  have hD : va_D A [(h0, .inr (11, [.ref h1, .ref h2, .ref h3, .ref h4, .ref a1, .ref a2, .int 0])), (h4, .inr (6, [.int 0, .ref g1, .ref g2]))] := hD
  refine lv_aload_n hx hb dX5_winner_19 rfl (lv_at hl 0 rfl) ?_
  refine va_get (D := D) (ci := 11) (v := .ref h4) (C := RX5) (T := TX5) (N := 7) hx hb hts iX5_winner_X5 hown hK hP 0 rfl rfl 3 (by decide) (hts _ kX5_winner_3) (fun _ h9 => h9) rfl dX5_winner_20 ?_
  refine yc_i (wc := [(h4, .inr (6, [.int 0, .ref g1, .ref g2]))]) (wr := [(h0, .inr (11, [.ref h1, .ref h2, .ref h3, .ref h4, .ref a1, .ref a2, .int 0]))]) (va_runV (As := []) (rest := []) ⟨hx, hb, hml, hown, hts⟩ (f_firstUnbeaten l hfl D tE H.size h4 g1 g2 (va_A [(h4, .inr (6, [.int 0, .ref g1, .ref g2]))] H.size) rfl) (cwV 0 hts gX5_winner_X0_firstUnbeaten rfl rfl rfl (by decide +kernel) ⟨Nat.le_of_ble_eq_true rfl, Nat.le_of_ble_eq_true rfl⟩) (yPreV (wc := [(h4, .inr (6, [.int 0, .ref g1, .ref g2]))]) (tc := []) hK hP hD hS hA hE [1] [] (by decide) rfl rfl (ci := 6) (q0 := 1) (q := (RX0, TX0, 3)) rfl rfl) rfl rfl hl.1 rfl (lv_room (Nat.le_of_ble_eq_true rfl)) dX5_winner_23 ⟨Nat.le_of_ble_eq_true rfl, Nat.le_of_ble_eq_true rfl⟩) hP hD hS hA [1] [0] rfl rfl (by decide) (by decide) (fun r_3 u_4 H locs hw hP hD hS => ?_)
  have hP : va_P D vwCl [(h0, .inr (11, [.ref h1, .ref h2, .ref h3, .ref h4, .ref a1, .ref a2, .int 0])), (h4, .inr (6, [.int 0, .ref g1, .ref g2]))] H := hP
  have hD : va_D A [(h0, .inr (11, [.ref h1, .ref h2, .ref h3, .ref h4, .ref a1, .ref a2, .int 0])), (h4, .inr (6, [.int 0, .ref g1, .ref g2]))] := hD
  have hw : r_3 = -1 := hw
  subst hw
  refine lv_istore_n (lv' := [(1, .int (-1)), (0, .ref h0)]) hx hb dX5_winner_26 rfl hl (by decide) rfl (fun ls hl => ?_)
  refine lv_iload_n hx hb dX5_winner_27 rfl (lv_at hl 0 rfl) ?_
  refine lv_if_ge (tgt := 41) hx hb dX5_winner_28 (by decide) (fun h => absurd h (by decide)) (fun _ => ?_)
  exact y_throwX (text := "no winner") hx hb hfl hts hown yth_X5_136_140 (by decide) kX5_winner_1 kX5_winner_2 eX5_winner_140 hE (hP.sub [] rfl) (hD.sub [] (by decide) rfl) hS (by rw [hml]; exact hl.1) dX5_winner_31 dX5_winner_34 dX5_winner_35 dX5_winner_37 dX5_winner_40 hout ⟨Nat.le_of_ble_eq_true rfl, Nat.le_of_ble_eq_true rfl, Nat.le_of_ble_eq_true rfl, Nat.le_of_ble_eq_true rfl⟩ hlocks rfl (Nat.le_of_ble_eq_true rfl) (Nat.le_of_ble_eq_true rfl)
theorem iX5_hasCycle_X5 : ∀ w ∈ wsX50, w ∈ wsX5_hasCycle := by decide +kernel
theorem kX5_hasCycle_1 : Cond.fieldLink RX5 33 "Mostwell" "agenda" "LMostwell$Agenda;" ∈ wsX5_hasCycle := List.mem_of_getElem? (i := 1) (by decide +kernel)
theorem kX5_hasCycle_2 : Cond.fieldLink RX5 10 "Mostwell" "house" "LMostwell$House;" ∈ wsX5_hasCycle := List.mem_of_getElem? (i := 2) (by decide +kernel)
theorem kX5_hasCycle_3 : Cond.fieldLink RX5 43 "Mostwell" "kept" "[[I" ∈ wsX5_hasCycle := List.mem_of_getElem? (i := 3) (by decide +kernel)
theorem kX5_hasCycle_4 : Cond.fieldLink RX5 46 "Mostwell" "keptCount" "I" ∈ wsX5_hasCycle := List.mem_of_getElem? (i := 4) (by decide +kernel)
set_option maxHeartbeats 4000000 in
set_option maxRecDepth 100000 in
theorem f_hasCycle (l : Launch) (hfl : l.stackTraces = false) (D : va_G) (tE : Nat) (sz : Nat) (h0 : Nat) (h1 : Nat) (h2 : Nat) (h3 : Nat) (h4 : Nat) (a1 : Nat) (a2 : Nat) (g1 : Nat) (g2 : Nat) (gc : Int32) (A : Nat → Prop) (hA0 : A = va_A [(h0, .inr (11, [.ref h1, .ref h2, .ref h3, .ref h4, .ref a1, .ref a2, .int 0])), (h4, .inr (6, [.int gc, .ref g1, .ref g2]))] sz) : Met l yX5_hasCycle wsX5_hasCycle (yR 1 0 0) (yP D tE [(h0, .inr (11, [.ref h1, .ref h2, .ref h3, .ref h4, .ref a1, .ref a2, .int 0])), (h4, .inr (6, [.int gc, .ref g1, .ref g2]))] [] sz [.ref h0]) (va_Qi (S := Unit) (fun (r : Int32) (u : Unit) => r = 0) (fun (u : Unit) (t : State) => yB D A ((fun (u : Unit) => []) u) t) A) 0 0 A := by
  refine Met.ofW (cc := cX5_hasCycle) (maxL := 2) (ret := (some .boolean)) (by decide) rfl ?_
  intro p e s m args below meth c s₁ B hml hv
  obtain ⟨rfl, rfl, hP, hK, hD, hE, hA⟩ := y_start hA0 hv
  have hx := B.exec
  have hb := B.bytes
  have hr := B.returns
  have hts := atoms_spec (ws := wsX5_hasCycle) B.pre
  have hown : s.vm.findClass RX5 = some m.cls := findClass_of_methodNamed B.named
  have hlocks := B.notSynchronized
  clear hA0 hv
  have hS : va_S A s.heap s.heap [] := va_S.rf
  have hl := lv_entry ([.ref h0]) (n := 2) (Nat.le_of_ble_eq_true rfl)
  rw [lg_entry_eq]
  generalize (lg_sl ([.ref h0]) ++ List.replicate (2 - (lg_sl ([.ref h0])).length) Slot.unset).toArray = ls at hl ⊢
  have hl : lv_has ls 2 [(0, .ref h0)] := hl
  refine lv_aload_n hx hb dX5_hasCycle_0 rfl (lv_at hl 0 rfl) ?_
  refine va_get (D := D) (ci := 11) (v := .ref h4) (C := RX5) (T := TX5) (N := 7) hx hb hts iX5_hasCycle_X5 hown hK hP 0 rfl rfl 3 (by decide) (hts _ kX5_hasCycle_1) (fun _ h9 => h9) rfl dX5_hasCycle_1 ?_
  refine lv_aload_n hx hb dX5_hasCycle_4 rfl (lv_at hl 0 rfl) ?_
  refine va_get (D := D) (ci := 11) (v := .ref h1) (C := RX5) (T := TX5) (N := 7) hx hb hts iX5_hasCycle_X5 hown hK hP 0 rfl rfl 0 (by decide) (hts _ kX5_hasCycle_2) (fun _ h9 => h9) rfl dX5_hasCycle_5 ?_
  refine lv_aload_n hx hb dX5_hasCycle_8 rfl (lv_at hl 0 rfl) ?_
  refine va_get (D := D) (ci := 11) (v := .ref a2) (C := RX5) (T := TX5) (N := 7) hx hb hts iX5_hasCycle_X5 hown hK hP 0 rfl rfl 5 (by decide) (hts _ kX5_hasCycle_3) (fun _ h9 => h9) rfl dX5_hasCycle_9 ?_
  refine lv_aload_n hx hb dX5_hasCycle_12 rfl (lv_at hl 0 rfl) ?_
  refine va_get (D := D) (ci := 11) (v := .int 0) (C := RX5) (T := TX5) (N := 7) hx hb hts iX5_hasCycle_X5 hown hK hP 0 rfl rfl 6 (by decide) (hts _ kX5_hasCycle_4) (fun _ h9 => h9) rfl dX5_hasCycle_13 ?_
  refine yc_v (wc := [(h4, .inr (6, [.int gc, .ref g1, .ref g2]))]) (wr := [(h0, .inr (11, [.ref h1, .ref h2, .ref h3, .ref h4, .ref a1, .ref a2, .int 0]))]) (va_runV (As := [.ref h1, .ref a2, .int 0]) (rest := []) ⟨hx, hb, hml, hown, hts⟩ (f_compare l hfl D tE s.heap.size h4 g1 g2 gc h1 a2 (va_A [(h4, .inr (6, [.int gc, .ref g1, .ref g2]))] s.heap.size) rfl) (cwV 3 hts gX5_hasCycle_X0_compare rfl rfl rfl (by decide +kernel) ⟨Nat.le_of_ble_eq_true rfl, Nat.le_of_ble_eq_true rfl⟩) (yPreV (wc := [(h4, .inr (6, [.int gc, .ref g1, .ref g2]))]) (tc := []) hK hP hD hS hA hE [1] [] (by decide) rfl rfl (ci := 6) (q0 := 1) (q := (RX0, TX0, 3)) rfl rfl) rfl rfl hl.1 rfl (lv_room (Nat.le_of_ble_eq_true rfl)) dX5_hasCycle_16 ⟨Nat.le_of_ble_eq_true rfl, Nat.le_of_ble_eq_true rfl⟩) hP hD hS hA [1] [0] rfl rfl (by decide) (by decide) (fun u_2 H locs hw hP hD hS => ?_)
  have hP : va_P D vwCl [(h0, .inr (11, [.ref h1, .ref h2, .ref h3, .ref h4, .ref a1, .ref a2, .int 0])), (h4, .inr (6, [.int 0, .ref g1, .ref g2]))] H := hP
  have hD : va_D A [(h0, .inr (11, [.ref h1, .ref h2, .ref h3, .ref h4, .ref a1, .ref a2, .int 0])), (h4, .inr (6, [.int 0, .ref g1, .ref g2]))] := hD
  refine lv_iconst (v := (0)) hx hb dX5_hasCycle_19 (by decide) ?_
  refine lv_istore_n (lv' := [(1, .int 0), (0, .ref h0)]) hx hb dX5_hasCycle_20 rfl hl (by decide) rfl (fun ls hl => ?_)
  refine lv_iload_n hx hb dX5_hasCycle_21 rfl (lv_at hl 0 rfl) ?_
  refine lv_aload_n hx hb dX5_hasCycle_22 rfl (lv_at hl 1 rfl) ?_
  refine va_get (D := D) (ci := 11) (v := .int 0) (C := RX5) (T := TX5) (N := 7) hx hb hts iX5_hasCycle_X5 hown hK hP 0 rfl rfl 6 (by decide) (hts _ kX5_hasCycle_4) (fun _ h9 => h9) rfl dX5_hasCycle_23 ?_
  refine lv_icmp_ge (tgt := 49) hx hb dX5_hasCycle_26 (by decide) (fun _ => ?_) (fun h => absurd h (by decide))
  refine lv_iconst (v := (0)) hx hb dX5_hasCycle_49 (by decide) ?_
  exact y_zret hx hb hr hlocks (by decide) () rfl (hP.sub [] rfl) (hD.sub [] (by decide) rfl) hS (Nat.le_of_ble_eq_true rfl) (Nat.le_of_ble_eq_true rfl) dX5_hasCycle_50
theorem iX5_countMatched_X5 : ∀ w ∈ wsX50, w ∈ wsX5_countMatched := by decide +kernel
theorem kX5_countMatched_1 : Cond.fieldLink RX5 10 "Mostwell" "house" "LMostwell$House;" ∈ wsX5_countMatched := List.mem_of_getElem? (i := 1) (by decide +kernel)
theorem iX5_countMatched_X2 : ∀ w ∈ wsX20, w ∈ wsX5_countMatched := by decide +kernel
theorem kX5_countMatched_2 : Cond.fieldLink RX5 60 "Mostwell$House" "applicants" "I" ∈ wsX5_countMatched := List.mem_of_getElem? (i := 2) (by decide +kernel)
set_option maxHeartbeats 4000000 in
set_option maxRecDepth 100000 in
theorem f_countMatched (l : Launch) (hfl : l.stackTraces = false) (D : va_G) (tE : Nat) (sz : Nat) (h0 : Nat) (h1 : Nat) (h2 : Nat) (h3 : Nat) (h4 : Nat) (a1 : Nat) (a2 : Nat) (w1 : Nat) (w2 : Nat) (w3 : Nat) (w4 : Nat) (w5 : Nat) (np : Int32) (A : Nat → Prop) (hA0 : A = va_A [(h0, .inr (11, [.ref h1, .ref h2, .ref h3, .ref h4, .ref a1, .ref a2, .int 0])), (h1, .inr (8, [.int 0, .int np, .ref w1, .ref w2, .ref w3, .ref w4, .ref w5]))] sz) : Met l yX5_countMatched wsX5_countMatched (yR 0 0 0) (yP D tE [(h0, .inr (11, [.ref h1, .ref h2, .ref h3, .ref h4, .ref a1, .ref a2, .int 0])), (h1, .inr (8, [.int 0, .int np, .ref w1, .ref w2, .ref w3, .ref w4, .ref w5]))] [] sz [.ref h0]) (va_Qi (S := Unit) (fun (r : Int32) (u : Unit) => r = 0) (fun (u : Unit) (t : State) => yB D A ((fun (u : Unit) => [(h0, .inr (11, [.ref h1, .ref h2, .ref h3, .ref h4, .ref a1, .ref a2, .int 0])), (h1, .inr (8, [.int 0, .int np, .ref w1, .ref w2, .ref w3, .ref w4, .ref w5]))]) u) t) A) 0 0 A := by
  refine Met.ofW (cc := cX5_countMatched) (maxL := 3) (ret := (some .int)) (by decide) rfl ?_
  intro p e s m args below meth c s₁ B hml hv
  obtain ⟨rfl, rfl, hP, hK, hD, hE, hA⟩ := y_start hA0 hv
  have hx := B.exec
  have hb := B.bytes
  have hr := B.returns
  have hts := atoms_spec (ws := wsX5_countMatched) B.pre
  have hown : s.vm.findClass RX5 = some m.cls := findClass_of_methodNamed B.named
  have hlocks := B.notSynchronized
  clear hA0 hv
  have hS : va_S A s.heap s.heap [] := va_S.rf
  have hl := lv_entry ([.ref h0]) (n := 3) (Nat.le_of_ble_eq_true rfl)
  rw [lg_entry_eq]
  generalize (lg_sl ([.ref h0]) ++ List.replicate (3 - (lg_sl ([.ref h0])).length) Slot.unset).toArray = ls at hl ⊢
  have hl : lv_has ls 3 [(0, .ref h0)] := hl
  refine lv_iconst (v := (0)) hx hb dX5_countMatched_0 (by decide) ?_
  refine lv_istore_n (lv' := [(1, .int 0), (0, .ref h0)]) hx hb dX5_countMatched_1 rfl hl (by decide) rfl (fun ls hl => ?_)
  refine lv_iconst (v := (0)) hx hb dX5_countMatched_2 (by decide) ?_
  refine lv_istore_n (lv' := [(2, .int 0), (1, .int 0), (0, .ref h0)]) hx hb dX5_countMatched_3 rfl hl (by decide) rfl (fun ls hl => ?_)
  refine lv_iload_n hx hb dX5_countMatched_4 rfl (lv_at hl 0 rfl) ?_
  refine lv_aload_n hx hb dX5_countMatched_5 rfl (lv_at hl 2 rfl) ?_
  refine va_get (D := D) (ci := 11) (v := .ref h1) (C := RX5) (T := TX5) (N := 7) hx hb hts iX5_countMatched_X5 hown hK hP 0 rfl rfl 0 (by decide) (hts _ kX5_countMatched_1) (fun _ h9 => h9) rfl dX5_countMatched_6 ?_
  refine va_get (D := D) (ci := 8) (v := .int 0) (C := RX2) (T := TX2) (N := 7) hx hb hts iX5_countMatched_X2 hown hK hP 1 rfl rfl 0 (by decide) (hts _ kX5_countMatched_2) (fun _ h9 => h9) rfl dX5_countMatched_9 ?_
  refine lv_icmp_ge (tgt := 34) hx hb dX5_countMatched_12 (by decide) (fun _ => ?_) (fun h => absurd h (by decide))
  refine lv_iload_n hx hb dX5_countMatched_34 rfl (lv_at hl 1 rfl) ?_
  exact y_iret hx hb hr hlocks () rfl hP hD hS (Nat.le_of_ble_eq_true rfl) (Nat.le_of_ble_eq_true rfl) dX5_countMatched_35
theorem iX5_countEnvy_X5 : ∀ w ∈ wsX50, w ∈ wsX5_countEnvy := by decide +kernel
theorem kX5_countEnvy_1 : Cond.fieldLink RX5 10 "Mostwell" "house" "LMostwell$House;" ∈ wsX5_countEnvy := List.mem_of_getElem? (i := 1) (by decide +kernel)
theorem iX5_countEnvy_X2 : ∀ w ∈ wsX20, w ∈ wsX5_countEnvy := by decide +kernel
theorem kX5_countEnvy_2 : Cond.fieldLink RX5 60 "Mostwell$House" "applicants" "I" ∈ wsX5_countEnvy := List.mem_of_getElem? (i := 2) (by decide +kernel)
set_option maxHeartbeats 4000000 in
set_option maxRecDepth 100000 in
theorem f_countEnvy (l : Launch) (hfl : l.stackTraces = false) (D : va_G) (tE : Nat) (sz : Nat) (h0 : Nat) (h1 : Nat) (h2 : Nat) (h3 : Nat) (h4 : Nat) (a1 : Nat) (a2 : Nat) (w1 : Nat) (w2 : Nat) (w3 : Nat) (w4 : Nat) (w5 : Nat) (np : Int32) (A : Nat → Prop) (hA0 : A = va_A [(h0, .inr (11, [.ref h1, .ref h2, .ref h3, .ref h4, .ref a1, .ref a2, .int 0])), (h1, .inr (8, [.int 0, .int np, .ref w1, .ref w2, .ref w3, .ref w4, .ref w5]))] sz) : Met l yX5_countEnvy wsX5_countEnvy (yR 0 0 0) (yP D tE [(h0, .inr (11, [.ref h1, .ref h2, .ref h3, .ref h4, .ref a1, .ref a2, .int 0])), (h1, .inr (8, [.int 0, .int np, .ref w1, .ref w2, .ref w3, .ref w4, .ref w5]))] [] sz [.ref h0]) (va_Qi (S := Unit) (fun (r : Int32) (u : Unit) => r = 0) (fun (u : Unit) (t : State) => yB D A ((fun (u : Unit) => []) u) t) A) 0 0 A := by
  refine Met.ofW (cc := cX5_countEnvy) (maxL := 4) (ret := (some .int)) (by decide) rfl ?_
  intro p e s m args below meth c s₁ B hml hv
  obtain ⟨rfl, rfl, hP, hK, hD, hE, hA⟩ := y_start hA0 hv
  have hx := B.exec
  have hb := B.bytes
  have hr := B.returns
  have hts := atoms_spec (ws := wsX5_countEnvy) B.pre
  have hown : s.vm.findClass RX5 = some m.cls := findClass_of_methodNamed B.named
  have hlocks := B.notSynchronized
  clear hA0 hv
  have hS : va_S A s.heap s.heap [] := va_S.rf
  have hl := lv_entry ([.ref h0]) (n := 4) (Nat.le_of_ble_eq_true rfl)
  rw [lg_entry_eq]
  generalize (lg_sl ([.ref h0]) ++ List.replicate (4 - (lg_sl ([.ref h0])).length) Slot.unset).toArray = ls at hl ⊢
  have hl : lv_has ls 4 [(0, .ref h0)] := hl
  refine lv_iconst (v := (0)) hx hb dX5_countEnvy_0 (by decide) ?_
  refine lv_istore_n (lv' := [(1, .int 0), (0, .ref h0)]) hx hb dX5_countEnvy_1 rfl hl (by decide) rfl (fun ls hl => ?_)
  refine lv_iconst (v := (0)) hx hb dX5_countEnvy_2 (by decide) ?_
  refine lv_istore_n (lv' := [(2, .int 0), (1, .int 0), (0, .ref h0)]) hx hb dX5_countEnvy_3 rfl hl (by decide) rfl (fun ls hl => ?_)
  refine lv_iload_n hx hb dX5_countEnvy_4 rfl (lv_at hl 0 rfl) ?_
  refine lv_aload_n hx hb dX5_countEnvy_5 rfl (lv_at hl 2 rfl) ?_
  refine va_get (D := D) (ci := 11) (v := .ref h1) (C := RX5) (T := TX5) (N := 7) hx hb hts iX5_countEnvy_X5 hown hK hP 0 rfl rfl 0 (by decide) (hts _ kX5_countEnvy_1) (fun _ h9 => h9) rfl dX5_countEnvy_6 ?_
  refine va_get (D := D) (ci := 8) (v := .int 0) (C := RX2) (T := TX2) (N := 7) hx hb hts iX5_countEnvy_X2 hown hK hP 1 rfl rfl 0 (by decide) (hts _ kX5_countEnvy_2) (fun _ h9 => h9) rfl dX5_countEnvy_9 ?_
  refine lv_icmp_ge (tgt := 52) hx hb dX5_countEnvy_12 (by decide) (fun _ => ?_) (fun h => absurd h (by decide))
  refine lv_iload_n hx hb dX5_countEnvy_52 rfl (lv_at hl 1 rfl) ?_
  exact y_iret hx hb hr hlocks () rfl (hP.sub [] rfl) (hD.sub [] (by decide) rfl) hS (Nat.le_of_ble_eq_true rfl) (Nat.le_of_ble_eq_true rfl) dX5_countEnvy_53
theorem kX5_checksum_1 : Cond.constantLong RX5 256 (7) ∈ wsX5_checksum := List.mem_of_getElem? (i := 1) (by decide +kernel)
theorem iX5_checksum_X5 : ∀ w ∈ wsX50, w ∈ wsX5_checksum := by decide +kernel
theorem kX5_checksum_2 : Cond.fieldLink RX5 10 "Mostwell" "house" "LMostwell$House;" ∈ wsX5_checksum := List.mem_of_getElem? (i := 2) (by decide +kernel)
theorem iX5_checksum_X2 : ∀ w ∈ wsX20, w ∈ wsX5_checksum := by decide +kernel
theorem kX5_checksum_3 : Cond.fieldLink RX5 60 "Mostwell$House" "applicants" "I" ∈ wsX5_checksum := List.mem_of_getElem? (i := 3) (by decide +kernel)
theorem kX5_checksum_6 : Cond.fieldLink RX5 73 "Mostwell$House" "posts" "I" ∈ wsX5_checksum := List.mem_of_getElem? (i := 6) (by decide +kernel)
theorem kX5_checksum_10 : Cond.fieldLink RX5 46 "Mostwell" "keptCount" "I" ∈ wsX5_checksum := List.mem_of_getElem? (i := 10) (by decide +kernel)
set_option maxHeartbeats 4000000 in
set_option maxRecDepth 100000 in
theorem f_checksum (l : Launch) (hfl : l.stackTraces = false) (D : va_G) (tE : Nat) (sz : Nat) (h0 : Nat) (h1 : Nat) (h2 : Nat) (h3 : Nat) (h4 : Nat) (a1 : Nat) (a2 : Nat) (w1 : Nat) (w2 : Nat) (w3 : Nat) (w4 : Nat) (w5 : Nat) (A : Nat → Prop) (hA0 : A = va_A [(h0, .inr (11, [.ref h1, .ref h2, .ref h3, .ref h4, .ref a1, .ref a2, .int 0])), (h1, .inr (8, [.int 0, .int 0, .ref w1, .ref w2, .ref w3, .ref w4, .ref w5]))] sz) : Met l yX5_checksum wsX5_checksum (yR 0 0 0) (yP D tE [(h0, .inr (11, [.ref h1, .ref h2, .ref h3, .ref h4, .ref a1, .ref a2, .int 0])), (h1, .inr (8, [.int 0, .int 0, .ref w1, .ref w2, .ref w3, .ref w4, .ref w5]))] [] sz [.ref h0]) (va_Ql (S := Unit) (fun (r : Int64) (u : Unit) => r = 7) (fun (u : Unit) (t : State) => yB D A ((fun (u : Unit) => []) u) t) A) 0 0 A := by
  refine Met.ofW (cc := cX5_checksum) (maxL := 5) (ret := (some .long)) (by decide) rfl ?_
  intro p e s m args below meth c s₁ B hml hv
  obtain ⟨rfl, rfl, hP, hK, hD, hE, hA⟩ := y_start hA0 hv
  have hx := B.exec
  have hb := B.bytes
  have hr := B.returns
  have hts := atoms_spec (ws := wsX5_checksum) B.pre
  have hown : s.vm.findClass RX5 = some m.cls := findClass_of_methodNamed B.named
  have hlocks := B.notSynchronized
  clear hA0 hv
  have hS : va_S A s.heap s.heap [] := va_S.rf
  have hl := lv_entry ([.ref h0]) (n := 5) (Nat.le_of_ble_eq_true rfl)
  rw [lg_entry_eq]
  generalize (lg_sl ([.ref h0]) ++ List.replicate (5 - (lg_sl ([.ref h0])).length) Slot.unset).toArray = ls at hl ⊢
  have hl : lv_has ls 5 [(0, .ref h0)] := hl
  refine lv_ldc2 (v := (7)) hx hb hown (hts _ kX5_checksum_1) dX5_checksum_0 ?_
  refine lv_lstore_n (lv' := [(1, .long 7), (0, .ref h0)]) hx hb dX5_checksum_3 rfl hl (by decide) rfl (fun ls hl => ?_)
  refine lv_iconst (v := (0)) hx hb dX5_checksum_4 (by decide) ?_
  refine lv_istore_n (lv' := [(3, .int 0), (1, .long 7), (0, .ref h0)]) hx hb dX5_checksum_5 rfl hl (by decide) rfl (fun ls hl => ?_)
  refine lv_iload_n hx hb dX5_checksum_6 rfl (lv_at hl 0 rfl) ?_
  refine lv_aload_n hx hb dX5_checksum_7 rfl (lv_at hl 2 rfl) ?_
  refine va_get (D := D) (ci := 11) (v := .ref h1) (C := RX5) (T := TX5) (N := 7) hx hb hts iX5_checksum_X5 hown hK hP 0 rfl rfl 0 (by decide) (hts _ kX5_checksum_2) (fun _ h9 => h9) rfl dX5_checksum_8 ?_
  refine va_get (D := D) (ci := 8) (v := .int 0) (C := RX2) (T := TX2) (N := 7) hx hb hts iX5_checksum_X2 hown hK hP 1 rfl rfl 0 (by decide) (hts _ kX5_checksum_3) (fun _ h9 => h9) rfl dX5_checksum_11 ?_
  refine lv_icmp_ge (tgt := 95) hx hb dX5_checksum_14 (by decide) (fun _ => ?_) (fun h => absurd h (by decide))
  refine lv_iconst (v := (0)) hx hb dX5_checksum_95 (by decide) ?_
  refine lv_istore_n (lv' := [(3, .int 0), (1, .long 7), (0, .ref h0)]) hx hb dX5_checksum_96 rfl hl (by decide) rfl (fun ls hl => ?_)
  refine lv_iload_n hx hb dX5_checksum_97 rfl (lv_at hl 0 rfl) ?_
  refine lv_aload_n hx hb dX5_checksum_98 rfl (lv_at hl 2 rfl) ?_
  refine va_get (D := D) (ci := 11) (v := .ref h1) (C := RX5) (T := TX5) (N := 7) hx hb hts iX5_checksum_X5 hown hK hP 0 rfl rfl 0 (by decide) (hts _ kX5_checksum_2) (fun _ h9 => h9) rfl dX5_checksum_99 ?_
  refine va_get (D := D) (ci := 8) (v := .int 0) (C := RX2) (T := TX2) (N := 7) hx hb hts iX5_checksum_X2 hown hK hP 1 rfl rfl 1 (by decide) (hts _ kX5_checksum_6) (fun _ h9 => h9) rfl dX5_checksum_102 ?_
  refine lv_icmp_ge (tgt := 131) hx hb dX5_checksum_105 (by decide) (fun _ => ?_) (fun h => absurd h (by decide))
  refine lv_iconst (v := (0)) hx hb dX5_checksum_131 (by decide) ?_
  refine lv_istore_n (lv' := [(3, .int 0), (1, .long 7), (0, .ref h0)]) hx hb dX5_checksum_132 rfl hl (by decide) rfl (fun ls hl => ?_)
  refine lv_iload_n hx hb dX5_checksum_133 rfl (lv_at hl 0 rfl) ?_
  refine lv_aload_n hx hb dX5_checksum_134 rfl (lv_at hl 2 rfl) ?_
  refine va_get (D := D) (ci := 11) (v := .int 0) (C := RX5) (T := TX5) (N := 7) hx hb hts iX5_checksum_X5 hown hK hP 0 rfl rfl 6 (by decide) (hts _ kX5_checksum_10) (fun _ h9 => h9) rfl dX5_checksum_135 ?_
  refine lv_icmp_ge (tgt := 185) hx hb dX5_checksum_138 (by decide) (fun _ => ?_) (fun h => absurd h (by decide))
  refine lv_lload_n hx hb dX5_checksum_185 rfl (lv_at hl 1 rfl) ?_
  exact y_lret hx hb hr hlocks () rfl (hP.sub [] rfl) (hD.sub [] (by decide) rfl) hS (Nat.le_of_ble_eq_true rfl) (Nat.le_of_ble_eq_true rfl) dX5_checksum_186
theorem iX5_matchedShare_X5 : ∀ w ∈ wsX50, w ∈ wsX5_matchedShare := by decide +kernel
theorem kX5_matchedShare_3 : Cond.fieldLink RX5 10 "Mostwell" "house" "LMostwell$House;" ∈ wsX5_matchedShare := List.mem_of_getElem? (i := 3) (by decide +kernel)
theorem iX5_matchedShare_X2 : ∀ w ∈ wsX20, w ∈ wsX5_matchedShare := by decide +kernel
theorem kX5_matchedShare_4 : Cond.fieldLink RX5 60 "Mostwell$House" "applicants" "I" ∈ wsX5_matchedShare := List.mem_of_getElem? (i := 4) (by decide +kernel)
theorem eX5_matchedShare_253 : ∀ w ∈ (vx_atS RX5 253 "java/lang/ArithmeticException" ["java/lang/RuntimeException", "java/lang/Exception"]).filter goodWord, w ∈ wsX5_matchedShare := fun _ h => List.mem_cons_of_mem _ (List.mem_append_left _ (List.mem_append_right _ h))
theorem kX5_matchedShare_1 : Cond.classLink RX5 249 "java/lang/ArithmeticException" ∈ wsX5_matchedShare := List.mem_of_getElem? (i := 1) (by decide +kernel)
theorem kX5_matchedShare_2 : Cond.initialized "java/lang/ArithmeticException" ∈ wsX5_matchedShare := List.mem_of_getElem? (i := 2) (by decide +kernel)
set_option maxHeartbeats 4000000 in
set_option maxRecDepth 100000 in
theorem f_matchedShare (l : Launch) (hfl : l.stackTraces = false) (D : va_G) (tE : Nat) (sz : Nat) (h0 : Nat) (h1 : Nat) (h2 : Nat) (h3 : Nat) (h4 : Nat) (a1 : Nat) (a2 : Nat) (w1 : Nat) (w2 : Nat) (w3 : Nat) (w4 : Nat) (w5 : Nat) (np : Int32) (A : Nat → Prop) (hA0 : A = va_A [(h0, .inr (11, [.ref h1, .ref h2, .ref h3, .ref h4, .ref a1, .ref a2, .int 0])), (h1, .inr (8, [.int 0, .int np, .ref w1, .ref w2, .ref w3, .ref w4, .ref w5]))] sz) : vx_Met l yX5_matchedShare wsX5_matchedShare (yR 1 1 6) (yP D tE [(h0, .inr (11, [.ref h1, .ref h2, .ref h3, .ref h4, .ref a1, .ref a2, .int 0])), (h1, .inr (8, [.int 0, .int np, .ref w1, .ref w2, .ref w3, .ref w4, .ref w5]))] [] sz [.ref h0]) (va_Qf (S := Unit) (fun (r : UInt32) (u : Unit) => False) (fun (u : Unit) (t : State) => yB D A ((fun (u : Unit) => []) u) t) A) (vx_X (S := Unit) (fun _ => True) (fun E _ t => (fun (E : String) => E = "java/lang/ArithmeticException") E ∧ yB D A [] t) A) 1 6 A := by
  refine vx_ofW (cc := cX5_matchedShare) (maxL := 1) (ret := (some .float)) (by decide) rfl ?_
  intro p e s m args below meth c s₁ B hml hout hv
  obtain ⟨rfl, rfl, hP, hK, hD, hE, hA⟩ := y_start hA0 hv
  have hx := B.exec
  have hb := B.bytes
  have hr := B.returns
  have hts := atoms_spec (ws := wsX5_matchedShare) B.pre
  have hown : s.vm.findClass RX5 = some m.cls := findClass_of_methodNamed B.named
  have hlocks := B.notSynchronized
  clear hA0 hv
  have hS : va_S A s.heap s.heap [] := va_S.rf
  have hl := lv_entry ([.ref h0]) (n := 1) (Nat.le_of_ble_eq_true rfl)
  rw [lg_entry_eq]
  generalize (lg_sl ([.ref h0]) ++ List.replicate (1 - (lg_sl ([.ref h0])).length) Slot.unset).toArray = ls at hl ⊢
  have hl : lv_has ls 1 [(0, .ref h0)] := hl
  refine lv_aload_n hx hb dX5_matchedShare_0 rfl (lv_at hl 0 rfl) ?_
  refine va_get (D := D) (ci := 11) (v := .ref h1) (C := RX5) (T := TX5) (N := 7) hx hb hts iX5_matchedShare_X5 hown hK hP 0 rfl rfl 0 (by decide) (hts _ kX5_matchedShare_3) (fun _ h9 => h9) rfl dX5_matchedShare_1 ?_
  refine va_get (D := D) (ci := 8) (v := .int 0) (C := RX2) (T := TX2) (N := 7) hx hb hts iX5_matchedShare_X2 hown hK hP 1 rfl rfl 0 (by decide) (hts _ kX5_matchedShare_4) (fun _ h9 => h9) rfl dX5_matchedShare_4 ?_
  refine lv_if_ne (tgt := 20) hx hb dX5_matchedShare_7 (by decide) (fun h => absurd h (by decide)) (fun _ => ?_)
  exact y_throwS (text := "no applicants") hx hb hfl hts hown yth_X5_249_253 (by decide) kX5_matchedShare_1 kX5_matchedShare_2 eX5_matchedShare_253 hE (hP.sub [] rfl) (hD.sub [] (by decide) rfl) hS (by rw [hml]; exact hl.1) dX5_matchedShare_10 dX5_matchedShare_13 dX5_matchedShare_14 dX5_matchedShare_16 dX5_matchedShare_19 hout ⟨Nat.le_of_ble_eq_true rfl, Nat.le_of_ble_eq_true rfl, Nat.le_of_ble_eq_true rfl, Nat.le_of_ble_eq_true rfl⟩ hlocks rfl (Nat.le_of_ble_eq_true rfl) (Nat.le_of_ble_eq_true rfl)
theorem eX5_meanRank_253 : ∀ w ∈ (vx_atS RX5 253 "java/lang/ArithmeticException" ["java/lang/RuntimeException", "java/lang/Exception"]).filter goodWord, w ∈ wsX5_meanRank := fun _ h => List.mem_cons_of_mem _ (List.mem_append_left _ (List.mem_append_right _ h))
theorem kX5_meanRank_1 : Cond.classLink RX5 249 "java/lang/ArithmeticException" ∈ wsX5_meanRank := List.mem_of_getElem? (i := 1) (by decide +kernel)
theorem kX5_meanRank_2 : Cond.initialized "java/lang/ArithmeticException" ∈ wsX5_meanRank := List.mem_of_getElem? (i := 2) (by decide +kernel)
set_option maxHeartbeats 4000000 in
set_option maxRecDepth 100000 in
theorem f_meanRank (l : Launch) (hfl : l.stackTraces = false) (D : va_G) (tE : Nat) (sz : Nat) (h0 : Nat) (h1 : Nat) (h2 : Nat) (h3 : Nat) (h4 : Nat) (a1 : Nat) (a2 : Nat) (w1 : Nat) (w2 : Nat) (w3 : Nat) (w4 : Nat) (w5 : Nat) (np : Int32) (A : Nat → Prop) (hA0 : A = va_A [(h0, .inr (11, [.ref h1, .ref h2, .ref h3, .ref h4, .ref a1, .ref a2, .int 0])), (h1, .inr (8, [.int 0, .int np, .ref w1, .ref w2, .ref w3, .ref w4, .ref w5]))] sz) : vx_Met l yX5_meanRank wsX5_meanRank (yR 1 1 6) (yP D tE [(h0, .inr (11, [.ref h1, .ref h2, .ref h3, .ref h4, .ref a1, .ref a2, .int 0])), (h1, .inr (8, [.int 0, .int np, .ref w1, .ref w2, .ref w3, .ref w4, .ref w5]))] [] sz [.ref h0]) (va_Qd (S := Unit) (fun (r : UInt64) (u : Unit) => False) (fun (u : Unit) (t : State) => yB D A ((fun (u : Unit) => []) u) t) A) (vx_X (S := Unit) (fun _ => True) (fun E _ t => (fun (E : String) => E = "java/lang/ArithmeticException") E ∧ yB D A [] t) A) 1 6 A := by
  refine vx_ofW (cc := cX5_meanRank) (maxL := 4) (ret := (some .double)) (by decide) rfl ?_
  intro p e s m args below meth c s₁ B hml hout hv
  obtain ⟨rfl, rfl, hP, hK, hD, hE, hA⟩ := y_start hA0 hv
  have hx := B.exec
  have hb := B.bytes
  have hr := B.returns
  have hts := atoms_spec (ws := wsX5_meanRank) B.pre
  have hown : s.vm.findClass RX5 = some m.cls := findClass_of_methodNamed B.named
  have hlocks := B.notSynchronized
  clear hA0 hv
  have hS : va_S A s.heap s.heap [] := va_S.rf
  have hl := lv_entry ([.ref h0]) (n := 4) (Nat.le_of_ble_eq_true rfl)
  rw [lg_entry_eq]
  generalize (lg_sl ([.ref h0]) ++ List.replicate (4 - (lg_sl ([.ref h0])).length) Slot.unset).toArray = ls at hl ⊢
  have hl : lv_has ls 4 [(0, .ref h0)] := hl
  refine lv_aload_n hx hb dX5_meanRank_0 rfl (lv_at hl 0 rfl) ?_
  refine yc_i (wc := [(h0, .inr (11, [.ref h1, .ref h2, .ref h3, .ref h4, .ref a1, .ref a2, .int 0])), (h1, .inr (8, [.int 0, .int np, .ref w1, .ref w2, .ref w3, .ref w4, .ref w5]))]) (wr := []) (va_runV (As := []) (rest := []) ⟨hx, hb, hml, hown, hts⟩ (f_countMatched l hfl D tE s.heap.size h0 h1 h2 h3 h4 a1 a2 w1 w2 w3 w4 w5 np (va_A [(h0, .inr (11, [.ref h1, .ref h2, .ref h3, .ref h4, .ref a1, .ref a2, .int 0])), (h1, .inr (8, [.int 0, .int np, .ref w1, .ref w2, .ref w3, .ref w4, .ref w5]))] s.heap.size) rfl) (cwV 0 hts gX5_meanRank_X5_countMatched rfl rfl rfl (by decide +kernel) ⟨Nat.le_of_ble_eq_true rfl, Nat.le_of_ble_eq_true rfl⟩) (yPreV (wc := [(h0, .inr (11, [.ref h1, .ref h2, .ref h3, .ref h4, .ref a1, .ref a2, .int 0])), (h1, .inr (8, [.int 0, .int np, .ref w1, .ref w2, .ref w3, .ref w4, .ref w5]))]) (tc := []) hK hP hD hS hA hE [0, 1] [] (by decide) rfl rfl (ci := 11) (q0 := 0) (q := (RX5, TX5, 7)) rfl rfl) rfl rfl hl.1 rfl (lv_room (Nat.le_of_ble_eq_true rfl)) dX5_meanRank_1 ⟨Nat.le_of_ble_eq_true rfl, Nat.le_of_ble_eq_true rfl⟩) hP hD hS hA [0, 1] [] rfl rfl (by decide) (by decide) (fun r_1 u_2 H locs hw hP hD hS => ?_)
  have hP : va_P D vwCl [(h0, .inr (11, [.ref h1, .ref h2, .ref h3, .ref h4, .ref a1, .ref a2, .int 0])), (h1, .inr (8, [.int 0, .int np, .ref w1, .ref w2, .ref w3, .ref w4, .ref w5]))] H := hP
  have hD : va_D A [(h0, .inr (11, [.ref h1, .ref h2, .ref h3, .ref h4, .ref a1, .ref a2, .int 0])), (h1, .inr (8, [.int 0, .int np, .ref w1, .ref w2, .ref w3, .ref w4, .ref w5]))] := hD
  have hw : r_1 = 0 := hw
  subst hw
  refine lv_istore_n (lv' := [(1, .int 0), (0, .ref h0)]) hx hb dX5_meanRank_4 rfl hl (by decide) rfl (fun ls hl => ?_)
  refine lv_iload_n hx hb dX5_meanRank_5 rfl (lv_at hl 0 rfl) ?_
  refine lv_if_ne (tgt := 19) hx hb dX5_meanRank_6 (by decide) (fun h => absurd h (by decide)) (fun _ => ?_)
  exact y_throwS (text := "nobody has a post") hx hb hfl hts hown yth_X5_249_253 (by decide) kX5_meanRank_1 kX5_meanRank_2 eX5_meanRank_253 hE (hP.sub [] rfl) (hD.sub [] (by decide) rfl) hS (by rw [hml]; exact hl.1) dX5_meanRank_9 dX5_meanRank_12 dX5_meanRank_13 dX5_meanRank_15 dX5_meanRank_18 hout ⟨Nat.le_of_ble_eq_true rfl, Nat.le_of_ble_eq_true rfl, Nat.le_of_ble_eq_true rfl, Nat.le_of_ble_eq_true rfl⟩ hlocks rfl (Nat.le_of_ble_eq_true rfl) (Nat.le_of_ble_eq_true rfl)
theorem iX2_hasLikeWeights_X2 : ∀ w ∈ wsX20, w ∈ wsX2_hasLikeWeights := by decide +kernel
theorem kX2_hasLikeWeights_1 : Cond.fieldLink RX2 9 "Mostwell$House" "applicants" "I" ∈ wsX2_hasLikeWeights := List.mem_of_getElem? (i := 1) (by decide +kernel)
set_option maxHeartbeats 4000000 in
set_option maxRecDepth 100000 in
theorem f_hasLikeWeights (l : Launch) (hfl : l.stackTraces = false) (D : va_G) (tE : Nat) (sz : Nat) (h1 : Nat) (w1 : Nat) (w2 : Nat) (w3 : Nat) (w4 : Nat) (w5 : Nat) (np : Int32) (A : Nat → Prop) (hA0 : A = va_A [(h1, .inr (8, [.int 0, .int np, .ref w1, .ref w2, .ref w3, .ref w4, .ref w5]))] sz) : Met l yX2_hasLikeWeights wsX2_hasLikeWeights (yR 0 0 0) (yP D tE [(h1, .inr (8, [.int 0, .int np, .ref w1, .ref w2, .ref w3, .ref w4, .ref w5]))] [] sz [.ref h1]) (va_Qi (S := Unit) (fun (r : Int32) (u : Unit) => r = 1) (fun (u : Unit) (t : State) => yB D A ((fun (u : Unit) => [(h1, .inr (8, [.int 0, .int np, .ref w1, .ref w2, .ref w3, .ref w4, .ref w5]))]) u) t) A) 0 0 A := by
  refine Met.ofW (cc := cX2_hasLikeWeights) (maxL := 2) (ret := (some .boolean)) (by decide) rfl ?_
  intro p e s m args below meth c s₁ B hml hv
  obtain ⟨rfl, rfl, hP, hK, hD, hE, hA⟩ := y_start hA0 hv
  have hx := B.exec
  have hb := B.bytes
  have hr := B.returns
  have hts := atoms_spec (ws := wsX2_hasLikeWeights) B.pre
  have hown : s.vm.findClass RX2 = some m.cls := findClass_of_methodNamed B.named
  have hlocks := B.notSynchronized
  clear hA0 hv
  have hS : va_S A s.heap s.heap [] := va_S.rf
  have hl := lv_entry ([.ref h1]) (n := 2) (Nat.le_of_ble_eq_true rfl)
  rw [lg_entry_eq]
  generalize (lg_sl ([.ref h1]) ++ List.replicate (2 - (lg_sl ([.ref h1])).length) Slot.unset).toArray = ls at hl ⊢
  have hl : lv_has ls 2 [(0, .ref h1)] := hl
  refine lv_iconst (v := (1)) hx hb dX2_hasLikeWeights_0 (by decide) ?_
  refine lv_istore_n (lv' := [(1, .int 1), (0, .ref h1)]) hx hb dX2_hasLikeWeights_1 rfl hl (by decide) rfl (fun ls hl => ?_)
  refine lv_iload_n hx hb dX2_hasLikeWeights_2 rfl (lv_at hl 0 rfl) ?_
  refine lv_aload_n hx hb dX2_hasLikeWeights_3 rfl (lv_at hl 1 rfl) ?_
  refine va_get (D := D) (ci := 8) (v := .int 0) (C := RX2) (T := TX2) (N := 7) hx hb hts iX2_hasLikeWeights_X2 hown hK hP 0 rfl rfl 0 (by decide) (hts _ kX2_hasLikeWeights_1) (fun _ h9 => h9) rfl dX2_hasLikeWeights_4 ?_
  refine lv_icmp_ge (tgt := 33) hx hb dX2_hasLikeWeights_7 (by decide) (fun _ => ?_) (fun h => absurd h (by decide))
  refine lv_iconst (v := (1)) hx hb dX2_hasLikeWeights_33 (by decide) ?_
  exact y_zret hx hb hr hlocks (by decide) () rfl hP hD hS (Nat.le_of_ble_eq_true rfl) (Nat.le_of_ble_eq_true rfl) dX2_hasLikeWeights_34
theorem iX5_requireLikeWeights_X5 : ∀ w ∈ wsX50, w ∈ wsX5_requireLikeWeights := by decide +kernel
theorem kX5_requireLikeWeights_3 : Cond.fieldLink RX5 10 "Mostwell" "house" "LMostwell$House;" ∈ wsX5_requireLikeWeights := List.mem_of_getElem? (i := 3) (by decide +kernel)
set_option maxHeartbeats 4000000 in
set_option maxRecDepth 100000 in
theorem f_requireLikeWeights (l : Launch) (hfl : l.stackTraces = false) (D : va_G) (tE : Nat) (sz : Nat) (h0 : Nat) (h1 : Nat) (h2 : Nat) (h3 : Nat) (h4 : Nat) (a1 : Nat) (a2 : Nat) (w1 : Nat) (w2 : Nat) (w3 : Nat) (w4 : Nat) (w5 : Nat) (np : Int32) (A : Nat → Prop) (hA0 : A = va_A [(h0, .inr (11, [.ref h1, .ref h2, .ref h3, .ref h4, .ref a1, .ref a2, .int 0])), (h1, .inr (8, [.int 0, .int np, .ref w1, .ref w2, .ref w3, .ref w4, .ref w5]))] sz) : vx_Met l yX5_requireLikeWeights wsX5_requireLikeWeights (yR 1 1 6) (yP D tE [(h0, .inr (11, [.ref h1, .ref h2, .ref h3, .ref h4, .ref a1, .ref a2, .int 0])), (h1, .inr (8, [.int 0, .int np, .ref w1, .ref w2, .ref w3, .ref w4, .ref w5]))] [] sz [.ref h0]) (va_Qv (S := Unit) (fun (u : Unit) => True) (fun (u : Unit) (t : State) => yB D A ((fun (u : Unit) => [(h0, .inr (11, [.ref h1, .ref h2, .ref h3, .ref h4, .ref a1, .ref a2, .int 0])), (h1, .inr (8, [.int 0, .int np, .ref w1, .ref w2, .ref w3, .ref w4, .ref w5]))]) u) t) A) (vx_X (S := Unit) (fun _ => True) (fun E _ t => (fun (E : String) => False) E ∧ yB D A [] t) A) 1 6 A := by
  refine vx_ofW (cc := cX5_requireLikeWeights) (maxL := 1) (ret := none) (by decide) rfl ?_
  intro p e s m args below meth c s₁ B hml hout hv
  obtain ⟨rfl, rfl, hP, hK, hD, hE, hA⟩ := y_start hA0 hv
  have hx := B.exec
  have hb := B.bytes
  have hr := B.returns
  have hts := atoms_spec (ws := wsX5_requireLikeWeights) B.pre
  have hown : s.vm.findClass RX5 = some m.cls := findClass_of_methodNamed B.named
  have hlocks := B.notSynchronized
  clear hA0 hv
  have hS : va_S A s.heap s.heap [] := va_S.rf
  have hl := lv_entry ([.ref h0]) (n := 1) (Nat.le_of_ble_eq_true rfl)
  rw [lg_entry_eq]
  generalize (lg_sl ([.ref h0]) ++ List.replicate (1 - (lg_sl ([.ref h0])).length) Slot.unset).toArray = ls at hl ⊢
  have hl : lv_has ls 1 [(0, .ref h0)] := hl
  refine lv_aload_n hx hb dX5_requireLikeWeights_0 rfl (lv_at hl 0 rfl) ?_
  refine va_get (D := D) (ci := 11) (v := .ref h1) (C := RX5) (T := TX5) (N := 7) hx hb hts iX5_requireLikeWeights_X5 hown hK hP 0 rfl rfl 0 (by decide) (hts _ kX5_requireLikeWeights_3) (fun _ h9 => h9) rfl dX5_requireLikeWeights_1 ?_
  refine yc_i (wc := [(h1, .inr (8, [.int 0, .int np, .ref w1, .ref w2, .ref w3, .ref w4, .ref w5]))]) (wr := [(h0, .inr (11, [.ref h1, .ref h2, .ref h3, .ref h4, .ref a1, .ref a2, .int 0]))]) (va_runV (As := []) (rest := []) ⟨hx, hb, hml, hown, hts⟩ (f_hasLikeWeights l hfl D tE s.heap.size h1 w1 w2 w3 w4 w5 np (va_A [(h1, .inr (8, [.int 0, .int np, .ref w1, .ref w2, .ref w3, .ref w4, .ref w5]))] s.heap.size) rfl) (cwV 0 hts gX5_requireLikeWeights_X2_hasLikeWeights rfl rfl rfl (by decide +kernel) ⟨Nat.le_of_ble_eq_true rfl, Nat.le_of_ble_eq_true rfl⟩) (yPreV (wc := [(h1, .inr (8, [.int 0, .int np, .ref w1, .ref w2, .ref w3, .ref w4, .ref w5]))]) (tc := []) hK hP hD hS hA hE [1] [] (by decide) rfl rfl (ci := 8) (q0 := 1) (q := (RX2, TX2, 7)) rfl rfl) rfl rfl hl.1 rfl (lv_room (Nat.le_of_ble_eq_true rfl)) dX5_requireLikeWeights_4 ⟨Nat.le_of_ble_eq_true rfl, Nat.le_of_ble_eq_true rfl⟩) hP hD hS hA [1] [0] rfl rfl (by decide) (by decide) (fun r_1 u_2 H locs hw hP hD hS => ?_)
  have hP : va_P D vwCl [(h0, .inr (11, [.ref h1, .ref h2, .ref h3, .ref h4, .ref a1, .ref a2, .int 0])), (h1, .inr (8, [.int 0, .int np, .ref w1, .ref w2, .ref w3, .ref w4, .ref w5]))] H := hP
  have hD : va_D A [(h0, .inr (11, [.ref h1, .ref h2, .ref h3, .ref h4, .ref a1, .ref a2, .int 0])), (h1, .inr (8, [.int 0, .int np, .ref w1, .ref w2, .ref w3, .ref w4, .ref w5]))] := hD
  have hw : r_1 = 1 := hw
  subst hw
  refine lv_if_ne (tgt := 21) hx hb dX5_requireLikeWeights_7 (by decide) (fun _ => ?_) (fun h => absurd h (by decide))
  exact vx_ret (y_vret hx hb hr hlocks () trivial hP hD hS (Nat.le_of_ble_eq_true rfl) (Nat.le_of_ble_eq_true rfl) dX5_requireLikeWeights_21)
theorem iX2_countRank_X2 : ∀ w ∈ wsX20, w ∈ wsX2_countRank := by decide +kernel
theorem kX2_countRank_1 : Cond.fieldLink RX2 9 "Mostwell$House" "applicants" "I" ∈ wsX2_countRank := List.mem_of_getElem? (i := 1) (by decide +kernel)
set_option maxHeartbeats 4000000 in
set_option maxRecDepth 100000 in
theorem f_countRank (l : Launch) (hfl : l.stackTraces = false) (D : va_G) (tE : Nat) (sz : Nat) (h1 : Nat) (w1 : Nat) (w2 : Nat) (w3 : Nat) (w4 : Nat) (w5 : Nat) (np : Int32) (p0 : Int32) (r1 : Nat) (A : Nat → Prop) (hA0 : A = va_A [(h1, .inr (8, [.int 0, .int np, .ref w1, .ref w2, .ref w3, .ref w4, .ref w5]))] sz) : Met l yX2_countRank wsX2_countRank (yR 0 0 0) (yP D tE [(h1, .inr (8, [.int 0, .int np, .ref w1, .ref w2, .ref w3, .ref w4, .ref w5]))] [] sz [.ref h1, .int p0, .ref r1]) (va_Qi (S := Unit) (fun (r : Int32) (u : Unit) => r = 0) (fun (u : Unit) (t : State) => yB D A ((fun (u : Unit) => [(h1, .inr (8, [.int 0, .int np, .ref w1, .ref w2, .ref w3, .ref w4, .ref w5]))]) u) t) A) 0 0 A := by
  refine Met.ofW (cc := cX2_countRank) (maxL := 5) (ret := (some .int)) (by decide) rfl ?_
  intro p e s m args below meth c s₁ B hml hv
  obtain ⟨rfl, rfl, hP, hK, hD, hE, hA⟩ := y_start hA0 hv
  have hx := B.exec
  have hb := B.bytes
  have hr := B.returns
  have hts := atoms_spec (ws := wsX2_countRank) B.pre
  have hown : s.vm.findClass RX2 = some m.cls := findClass_of_methodNamed B.named
  have hlocks := B.notSynchronized
  clear hA0 hv
  have hS : va_S A s.heap s.heap [] := va_S.rf
  have hl := lv_entry ([.ref h1, .int p0, .ref r1]) (n := 5) (Nat.le_of_ble_eq_true rfl)
  rw [lg_entry_eq]
  generalize (lg_sl ([.ref h1, .int p0, .ref r1]) ++ List.replicate (5 - (lg_sl ([.ref h1, .int p0, .ref r1])).length) Slot.unset).toArray = ls at hl ⊢
  have hl : lv_has ls 5 [(0, .ref h1), (1, .int p0), (2, .ref r1)] := hl
  refine lv_iconst (v := (0)) hx hb dX2_countRank_0 (by decide) ?_
  refine lv_istore_n (lv' := [(3, .int 0), (0, .ref h1), (1, .int p0), (2, .ref r1)]) hx hb dX2_countRank_1 rfl hl (by decide) rfl (fun ls hl => ?_)
  refine lv_iconst (v := (0)) hx hb dX2_countRank_2 (by decide) ?_
  refine lv_istore (lv' := [(4, .int 0), (3, .int 0), (0, .ref h1), (1, .int p0), (2, .ref r1)]) hx hb dX2_countRank_3 hl (by decide) rfl (fun ls hl => ?_)
  refine lv_iload hx hb dX2_countRank_5 (lv_at hl 0 rfl) ?_
  refine lv_aload_n hx hb dX2_countRank_7 rfl (lv_at hl 2 rfl) ?_
  refine va_get (D := D) (ci := 8) (v := .int 0) (C := RX2) (T := TX2) (N := 7) hx hb hts iX2_countRank_X2 hown hK hP 0 rfl rfl 0 (by decide) (hts _ kX2_countRank_1) (fun _ h9 => h9) rfl dX2_countRank_8 ?_
  refine lv_icmp_ge (tgt := 37) hx hb dX2_countRank_11 (by decide) (fun _ => ?_) (fun h => absurd h (by decide))
  refine lv_iload_n hx hb dX2_countRank_37 rfl (lv_at hl 1 rfl) ?_
  exact y_iret hx hb hr hlocks () rfl hP hD hS (Nat.le_of_ble_eq_true rfl) (Nat.le_of_ble_eq_true rfl) dX2_countRank_38
theorem yz_f_profile_24 (p0 : Int32) (h0 : 1 ≤ p0 ∧ p0 ≤ 9) : (0 : Int32) = 0 ∧ 1 ≤ p0 ∧ p0 ≤ 9 := by grind
theorem iX5_profile_X5 : ∀ w ∈ wsX50, w ∈ wsX5_profile := by decide +kernel
theorem kX5_profile_1 : Cond.fieldLink RX5 10 "Mostwell" "house" "LMostwell$House;" ∈ wsX5_profile := List.mem_of_getElem? (i := 1) (by decide +kernel)
theorem kX5_profile_2 : Cond.fieldLink RX5 37 "Mostwell" "hand" "[I" ∈ wsX5_profile := List.mem_of_getElem? (i := 2) (by decide +kernel)
set_option maxHeartbeats 4000000 in
set_option maxRecDepth 100000 in
theorem f_profile (l : Launch) (hfl : l.stackTraces = false) (D : va_G) (tE : Nat) (sz : Nat) (h0 : Nat) (h1 : Nat) (h2 : Nat) (h3 : Nat) (h4 : Nat) (a1 : Nat) (a2 : Nat) (w1 : Nat) (w2 : Nat) (w3 : Nat) (w4 : Nat) (w5 : Nat) (np : Int32) (p0 : Int32) (A : Nat → Prop) (hA0 : A = va_A [(h0, .inr (11, [.ref h1, .ref h2, .ref h3, .ref h4, .ref a1, .ref a2, .int 0])), (h1, .inr (8, [.int 0, .int np, .ref w1, .ref w2, .ref w3, .ref w4, .ref w5]))] sz) : vx_Met l yX5_profile wsX5_profile (yR 1 1 6) (yP D tE [(h0, .inr (11, [.ref h1, .ref h2, .ref h3, .ref h4, .ref a1, .ref a2, .int 0])), (h1, .inr (8, [.int 0, .int np, .ref w1, .ref w2, .ref w3, .ref w4, .ref w5]))] [] sz [.ref h0, .int p0]) (va_Qi (S := Unit) (fun (r : Int32) (u : Unit) => r = 0 ∧ 1 ≤ p0 ∧ p0 ≤ 9) (fun (u : Unit) (t : State) => yB D A ((fun (u : Unit) => []) u) t) A) (vx_X (S := Unit) (fun _ => True) (fun E _ t => (fun (E : String) => E = "java/lang/IllegalArgumentException" ∧ (p0 < 1 ∨ 9 < p0)) E ∧ yB D A [] t) A) 1 6 A := by
  refine vx_ofW (cc := cX5_profile) (maxL := 2) (ret := (some .int)) (by decide) rfl ?_
  intro p e s m args below meth c s₁ B hml hout hv
  obtain ⟨rfl, rfl, hP, hK, hD, hE, hA⟩ := y_start hA0 hv
  have hx := B.exec
  have hb := B.bytes
  have hr := B.returns
  have hts := atoms_spec (ws := wsX5_profile) B.pre
  have hown : s.vm.findClass RX5 = some m.cls := findClass_of_methodNamed B.named
  have hlocks := B.notSynchronized
  clear hA0 hv
  have hS : va_S A s.heap s.heap [] := va_S.rf
  have hl := lv_entry ([.ref h0, .int p0]) (n := 2) (Nat.le_of_ble_eq_true rfl)
  rw [lg_entry_eq]
  generalize (lg_sl ([.ref h0, .int p0]) ++ List.replicate (2 - (lg_sl ([.ref h0, .int p0])).length) Slot.unset).toArray = ls at hl ⊢
  have hl : lv_has ls 2 [(0, .ref h0), (1, .int p0)] := hl
  refine lv_aload_n hx hb dX5_profile_0 rfl (lv_at hl 0 rfl) ?_
  refine lv_iload_n hx hb dX5_profile_1 rfl (lv_at hl 1 rfl) ?_
  refine lv_iconst (v := (1)) hx hb dX5_profile_2 (by decide) ?_
  refine lv_bipush (v := (9)) hx hb dX5_profile_3 (by decide) ?_
  refine yx_v (wc := []) (wr := [(h0, .inr (11, [.ref h1, .ref h2, .ref h3, .ref h4, .ref a1, .ref a2, .int 0])), (h1, .inr (8, [.int 0, .int np, .ref w1, .ref w2, .ref w3, .ref w4, .ref w5]))]) (vx_runV (As := [.int p0, .int 1, .int 9]) (rest := []) ⟨hx, hb, hml, hown, hts⟩ (c_requireNumber l hfl D tE s.heap.size h0 p0 1 9 (va_A [] s.heap.size) rfl) (cwV 3 hts gX5_profile_X5_requireNumber rfl rfl rfl (by decide +kernel) ⟨Nat.le_of_ble_eq_true rfl, Nat.le_of_ble_eq_true rfl⟩) (yPreV (wc := []) (tc := []) hK hP hD hS hA hE [] [] (by decide) rfl rfl (ci := 11) (q0 := 0) (q := (RX5, TX5, 7)) rfl rfl) rfl rfl hl.1 rfl (lv_room (Nat.le_of_ble_eq_true rfl)) dX5_profile_5 ⟨Nat.le_of_ble_eq_true rfl, Nat.le_of_ble_eq_true rfl⟩) hP hD hS hA [] [0, 1] rfl rfl (by decide) (by decide) (fun E ce q9 H locs hpx hP hD hS g1 g2 g3 => ?_) (fun u_2 H locs hw hP hD hS => ?_)
  · have hP : va_P D vwCl [(h0, .inr (11, [.ref h1, .ref h2, .ref h3, .ref h4, .ref a1, .ref a2, .int 0])), (h1, .inr (8, [.int 0, .int np, .ref w1, .ref w2, .ref w3, .ref w4, .ref w5]))] H := hP
    have hD : va_D A [(h0, .inr (11, [.ref h1, .ref h2, .ref h3, .ref h4, .ref a1, .ref a2, .int 0])), (h1, .inr (8, [.int 0, .int np, .ref w1, .ref w2, .ref w3, .ref w4, .ref w5]))] := hD
    have hpx : E = "java/lang/IllegalArgumentException" ∧ (p0 < 1 ∨ 9 < p0) := hpx
    exact y_out hout hlocks g1 g2 g3 hpx (hP.sub [] rfl) (hD.sub [] (by decide) rfl) hS (Nat.le_of_ble_eq_true rfl) (Nat.le_of_ble_eq_true rfl)
  · have hP : va_P D vwCl [(h0, .inr (11, [.ref h1, .ref h2, .ref h3, .ref h4, .ref a1, .ref a2, .int 0])), (h1, .inr (8, [.int 0, .int np, .ref w1, .ref w2, .ref w3, .ref w4, .ref w5]))] H := hP
    have hD : va_D A [(h0, .inr (11, [.ref h1, .ref h2, .ref h3, .ref h4, .ref a1, .ref a2, .int 0])), (h1, .inr (8, [.int 0, .int np, .ref w1, .ref w2, .ref w3, .ref w4, .ref w5]))] := hD
    have hw : 1 ≤ p0 ∧ p0 ≤ 9 := hw
    have w_3 := hw
    refine lv_aload_n hx hb dX5_profile_8 rfl (lv_at hl 0 rfl) ?_
    refine va_get (D := D) (ci := 11) (v := .ref h1) (C := RX5) (T := TX5) (N := 7) hx hb hts iX5_profile_X5 hown hK hP 0 rfl rfl 0 (by decide) (hts _ kX5_profile_1) (fun _ h9 => h9) rfl dX5_profile_9 ?_
    refine lv_iload_n hx hb dX5_profile_12 rfl (lv_at hl 1 rfl) ?_
    refine lv_aload_n hx hb dX5_profile_13 rfl (lv_at hl 0 rfl) ?_
    refine va_get (D := D) (ci := 11) (v := .ref a1) (C := RX5) (T := TX5) (N := 7) hx hb hts iX5_profile_X5 hown hK hP 0 rfl rfl 4 (by decide) (hts _ kX5_profile_2) (fun _ h9 => h9) rfl dX5_profile_14 ?_
    refine yc_i (wc := [(h1, .inr (8, [.int 0, .int np, .ref w1, .ref w2, .ref w3, .ref w4, .ref w5]))]) (wr := [(h0, .inr (11, [.ref h1, .ref h2, .ref h3, .ref h4, .ref a1, .ref a2, .int 0]))]) (va_runV (As := [.int p0, .ref a1]) (rest := []) ⟨hx, hb, hml, hown, hts⟩ (f_countRank l hfl D tE H.size h1 w1 w2 w3 w4 w5 np p0 a1 (va_A [(h1, .inr (8, [.int 0, .int np, .ref w1, .ref w2, .ref w3, .ref w4, .ref w5]))] H.size) rfl) (cwV 2 hts gX5_profile_X2_countRank rfl rfl rfl (by decide +kernel) ⟨Nat.le_of_ble_eq_true rfl, Nat.le_of_ble_eq_true rfl⟩) (yPreV (wc := [(h1, .inr (8, [.int 0, .int np, .ref w1, .ref w2, .ref w3, .ref w4, .ref w5]))]) (tc := []) hK hP hD hS hA hE [1] [] (by decide) rfl rfl (ci := 8) (q0 := 1) (q := (RX2, TX2, 7)) rfl rfl) rfl rfl hl.1 rfl (lv_room (Nat.le_of_ble_eq_true rfl)) dX5_profile_17 ⟨Nat.le_of_ble_eq_true rfl, Nat.le_of_ble_eq_true rfl⟩) hP hD hS hA [1] [0] rfl rfl (by decide) (by decide) (fun r_4 u_5 H locs hw hP hD hS => ?_)
    have hP : va_P D vwCl [(h0, .inr (11, [.ref h1, .ref h2, .ref h3, .ref h4, .ref a1, .ref a2, .int 0])), (h1, .inr (8, [.int 0, .int np, .ref w1, .ref w2, .ref w3, .ref w4, .ref w5]))] H := hP
    have hD : va_D A [(h0, .inr (11, [.ref h1, .ref h2, .ref h3, .ref h4, .ref a1, .ref a2, .int 0])), (h1, .inr (8, [.int 0, .int np, .ref w1, .ref w2, .ref w3, .ref w4, .ref w5]))] := hD
    have hw : r_4 = 0 := hw
    subst hw
    exact vx_ret (y_iret hx hb hr hlocks () (yz_f_profile_24 p0 w_3) (hP.sub [] rfl) (hD.sub [] (by decide) rfl) hS (Nat.le_of_ble_eq_true rfl) (Nat.le_of_ble_eq_true rfl) dX5_profile_20)
