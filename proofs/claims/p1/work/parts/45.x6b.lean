theorem yz_m_addApplicant_42 (p0 : Int32) (h0 : 1 ≤ p0 ∧ p0 ≤ 9) : 1 ≤ p0 ∧ p0 ≤ 9 := by grind
theorem yz_m_addApplicant_43 (p0 : Int32) (h0 : (p0 < 1 ∨ 9 < p0)) : (p0 < 1 ∨ 9 < p0) := by grind
theorem iX6_addApplicant_X6 : ∀ w ∈ wsX60, w ∈ wsX6_addApplicant := by decide +kernel
theorem kX6_addApplicant_1 : Cond.fieldLink RX6 48 "MostwellModel" "people" "I" ∈ wsX6_addApplicant := List.mem_of_getElem? (i := 1) (by decide +kernel)
theorem kX6_addApplicant_2 : Cond.fieldLink RX6 9 "MostwellModel" "weights" "[I" ∈ wsX6_addApplicant := List.mem_of_getElem? (i := 2) (by decide +kernel)
set_option maxHeartbeats 4000000 in
set_option maxRecDepth 100000 in
theorem m_addApplicant (l : Launch) (hfl : l.stackTraces = false) (D : va_G) (tE : Nat) (sz : Nat) (m0 : Nat) (m1 : Nat) (m2 : Nat) (m3 : Nat) (m4 : Nat) (m5 : Nat) (m6 : Nat) (cI : ClassId) (fw : Nat → Int32) (th : Int32) (p0 : Int32) (A : Nat → Prop) (hA0 : A = va_A [(m0, .inr (12, [.ref m1, .ref m2, .ref m3, .ref m4, .ref m5, .ref m6, .int 0, .int 0, .int th])), (m1, .inl (cI, 10, .inl (fw)))] sz) : Met l yX6_addApplicant wsX6_addApplicant (yR 2 0 0) (yP D tE [(m0, .inr (12, [.ref m1, .ref m2, .ref m3, .ref m4, .ref m5, .ref m6, .int 0, .int 0, .int th])), (m1, .inl (cI, 10, .inl (fw)))] [(cI, .int)] sz [.ref m0, .int p0]) (va_Qi (S := Int32 × Int32) (fun (r : Int32) (u : Int32 × Int32) => (r = 0 ∧ u.1 = 0 ∧ 1 ≤ p0 ∧ p0 ≤ 9) ∨ (r = 0 ∧ u.1 = 1 ∧ (p0 < 1 ∨ 9 < p0))) (fun (u : Int32 × Int32) (t : State) => yB D A ((fun (u : Int32 × Int32) => [(m0, .inr (12, [.ref m1, .ref m2, .ref m3, .ref m4, .ref m5, .ref m6, .int (u.2), .int 0, .int (u.1)]))]) u) t) A) 0 0 A := by
  refine Met.ofW (cc := cX6_addApplicant) (maxL := 2) (ret := (some .int)) (by decide) rfl ?_
  intro p e s m args below meth c s₁ B hml hv
  obtain ⟨rfl, rfl, hP, hK, hD, hE, hA⟩ := y_start hA0 hv
  have hx := B.exec
  have hb := B.bytes
  have hr := B.returns
  have hts := atoms_spec (ws := wsX6_addApplicant) B.pre
  have hown : s.vm.findClass RX6 = some m.cls := findClass_of_methodNamed B.named
  have hlocks := B.notSynchronized
  clear hA0 hv
  have hS : va_S A s.heap s.heap [] := va_S.rf
  have hl := lv_entry ([.ref m0, .int p0]) (n := 2) (Nat.le_of_ble_eq_true rfl)
  rw [lg_entry_eq]
  generalize (lg_sl ([.ref m0, .int p0]) ++ List.replicate (2 - (lg_sl ([.ref m0, .int p0])).length) Slot.unset).toArray = ls at hl ⊢
  have hl : lv_has ls 2 [(0, .ref m0), (1, .int p0)] := hl
  refine lv_aload_n hx hb dX6_addApplicant_0 rfl (lv_at hl 0 rfl) ?_
  refine lv_iload_n hx hb dX6_addApplicant_1 rfl (lv_at hl 1 rfl) ?_
  refine lv_iconst (v := (1)) hx hb dX6_addApplicant_2 (by decide) ?_
  refine lv_bipush (v := (9)) hx hb dX6_addApplicant_3 (by decide) ?_
  refine yc_i (wc := []) (wr := [(m0, .inr (12, [.ref m1, .ref m2, .ref m3, .ref m4, .ref m5, .ref m6, .int 0, .int 0, .int th])), (m1, .inl (cI, 10, .inl (fw)))]) (va_runS (As := [.int p0, .int 1, .int 9]) (rest := [.ref m0]) ⟨hx, hb, hml, hown, hts⟩ (g_isIn l hfl D tE s.heap.size p0 1 9 (va_A [] s.heap.size) rfl) (va_cwS 3 hts gX6_addApplicant_X6_isIn rfl rfl rfl (by decide +kernel) ⟨Nat.le_of_ble_eq_true rfl, Nat.le_of_ble_eq_true rfl⟩) (yPreS (wc := []) (tc := []) hK hP hD hS hA hE [] [] (by decide) rfl rfl) rfl rfl hl.1 rfl (lv_room (Nat.le_of_ble_eq_true rfl)) dX6_addApplicant_5 ⟨Nat.le_of_ble_eq_true rfl, Nat.le_of_ble_eq_true rfl⟩) hP hD hS hA [] [0, 1] rfl rfl (by decide) (by decide) (fun r_1 u_2 H locs hw hP hD hS => ?_)
  have hP : va_P D vwCl [(m0, .inr (12, [.ref m1, .ref m2, .ref m3, .ref m4, .ref m5, .ref m6, .int 0, .int 0, .int th])), (m1, .inl (cI, 10, .inl (fw)))] H := hP
  have hD : va_D A [(m0, .inr (12, [.ref m1, .ref m2, .ref m3, .ref m4, .ref m5, .ref m6, .int 0, .int 0, .int th])), (m1, .inl (cI, 10, .inl (fw)))] := hD
  have hw : (r_1 = 1 ∧ 1 ≤ p0 ∧ p0 ≤ 9) ∨ (r_1 = 0 ∧ (p0 < 1 ∨ 9 < p0)) := hw
  rcases hw with ⟨hr9, hw9⟩ | ⟨hr9, hw9⟩
  · subst hr9
    have w_3 : 1 ≤ p0 ∧ p0 ≤ 9 := hw9
    refine lv_iconst (v := (1)) hx hb dX6_addApplicant_8 (by decide) ?_
    refine yc_i (wc := [(m0, .inr (12, [.ref m1, .ref m2, .ref m3, .ref m4, .ref m5, .ref m6, .int 0, .int 0, .int th]))]) (wr := [(m1, .inl (cI, 10, .inl (fw)))]) (va_runV (As := [.int 1, .int 1]) (rest := []) ⟨hx, hb, hml, hown, hts⟩ (g_no1 l hfl D tE H.size m0 m1 m2 m3 m4 m5 m6 0 0 th 1 (va_A [(m0, .inr (12, [.ref m1, .ref m2, .ref m3, .ref m4, .ref m5, .ref m6, .int 0, .int 0, .int th]))] H.size) rfl) (cwV 2 hts gX6_addApplicant_X6_no rfl rfl rfl (by decide +kernel) ⟨Nat.le_of_ble_eq_true rfl, Nat.le_of_ble_eq_true rfl⟩) (yPreV (wc := [(m0, .inr (12, [.ref m1, .ref m2, .ref m3, .ref m4, .ref m5, .ref m6, .int 0, .int 0, .int th]))]) (tc := []) hK hP hD hS hA hE [0] [] (by decide) rfl rfl (ci := 12) (q0 := 0) (q := (RX6, TX6, 9)) rfl rfl) rfl rfl hl.1 rfl (lv_room (Nat.le_of_ble_eq_true rfl)) dX6_addApplicant_9 ⟨Nat.le_of_ble_eq_true rfl, Nat.le_of_ble_eq_true rfl⟩) hP hD hS hA [0] [1] rfl rfl (by decide) (by decide) (fun r_4 u_5 H locs hw hP hD hS => ?_)
    have hP : va_P D vwCl [(m1, .inl (cI, 10, .inl (fw))), (m0, .inr (12, [.ref m1, .ref m2, .ref m3, .ref m4, .ref m5, .ref m6, .int 0, .int 0, .int 0]))] H := hP
    have hD : va_D A [(m1, .inl (cI, 10, .inl (fw))), (m0, .inr (12, [.ref m1, .ref m2, .ref m3, .ref m4, .ref m5, .ref m6, .int 0, .int 0, .int 0]))] := hD
    have hw : r_4 = 0 := hw
    subst hw
    refine lv_if_ne (tgt := 37) hx hb dX6_addApplicant_12 (by decide) (fun h => absurd h (by decide)) (fun _ => ?_)
    refine lv_aload_n hx hb dX6_addApplicant_15 rfl (lv_at hl 0 rfl) ?_
    refine lv_aload_n hx hb dX6_addApplicant_16 rfl (lv_at hl 0 rfl) ?_
    refine va_get (D := D) (ci := 12) (v := .int 0) (C := RX6) (T := TX6) (N := 9) hx hb hts iX6_addApplicant_X6 hown hK hP 1 rfl rfl 6 (by decide) (hts _ kX6_addApplicant_1) (fun _ h9 => h9) rfl dX6_addApplicant_17 ?_
    refine lv_bipush (v := (10)) hx hb dX6_addApplicant_20 (by decide) ?_
    refine lv_icmp_ge (tgt := 29) hx hb dX6_addApplicant_22 (by decide) (fun h => absurd h (by decide)) (fun _ => ?_)
    refine lv_iconst (v := (1)) hx hb dX6_addApplicant_25 (by decide) ?_
    refine lv_goto (tgt := 30) hx hb dX6_addApplicant_26 (by decide) ?_
    refine lv_iconst (v := (2)) hx hb dX6_addApplicant_30 (by decide) ?_
    refine yc_i (wc := [(m0, .inr (12, [.ref m1, .ref m2, .ref m3, .ref m4, .ref m5, .ref m6, .int 0, .int 0, .int 0]))]) (wr := [(m1, .inl (cI, 10, .inl (fw)))]) (va_runV (As := [.int 1, .int 2]) (rest := []) ⟨hx, hb, hml, hown, hts⟩ (g_no1 l hfl D tE H.size m0 m1 m2 m3 m4 m5 m6 0 0 0 2 (va_A [(m0, .inr (12, [.ref m1, .ref m2, .ref m3, .ref m4, .ref m5, .ref m6, .int 0, .int 0, .int 0]))] H.size) rfl) (cwV 2 hts gX6_addApplicant_X6_no rfl rfl rfl (by decide +kernel) ⟨Nat.le_of_ble_eq_true rfl, Nat.le_of_ble_eq_true rfl⟩) (yPreV (wc := [(m0, .inr (12, [.ref m1, .ref m2, .ref m3, .ref m4, .ref m5, .ref m6, .int 0, .int 0, .int 0]))]) (tc := []) hK hP hD hS hA hE [1] [] (by decide) rfl rfl (ci := 12) (q0 := 1) (q := (RX6, TX6, 9)) rfl rfl) rfl rfl hl.1 rfl (lv_room (Nat.le_of_ble_eq_true rfl)) dX6_addApplicant_31 ⟨Nat.le_of_ble_eq_true rfl, Nat.le_of_ble_eq_true rfl⟩) hP hD hS hA [1] [0] rfl rfl (by decide) (by decide) (fun r_6 u_7 H locs hw hP hD hS => ?_)
    have hP : va_P D vwCl [(m1, .inl (cI, 10, .inl (fw))), (m0, .inr (12, [.ref m1, .ref m2, .ref m3, .ref m4, .ref m5, .ref m6, .int 0, .int 0, .int 0]))] H := hP
    have hD : va_D A [(m1, .inl (cI, 10, .inl (fw))), (m0, .inr (12, [.ref m1, .ref m2, .ref m3, .ref m4, .ref m5, .ref m6, .int 0, .int 0, .int 0]))] := hD
    have hw : r_6 = 0 := hw
    subst hw
    refine lv_if_eq (tgt := 39) hx hb dX6_addApplicant_34 (by decide) (fun _ => ?_) (fun h => absurd h (by decide))
    refine lv_aload_n hx hb dX6_addApplicant_39 rfl (lv_at hl 0 rfl) ?_
    refine va_get (D := D) (ci := 12) (v := .ref m1) (C := RX6) (T := TX6) (N := 9) hx hb hts iX6_addApplicant_X6 hown hK hP 1 rfl rfl 0 (by decide) (hts _ kX6_addApplicant_2) (fun _ h9 => h9) rfl dX6_addApplicant_40 ?_
    refine lv_aload_n hx hb dX6_addApplicant_43 rfl (lv_at hl 0 rfl) ?_
    refine va_get (D := D) (ci := 12) (v := .int 0) (C := RX6) (T := TX6) (N := 9) hx hb hts iX6_addApplicant_X6 hown hK hP 1 rfl rfl 6 (by decide) (hts _ kX6_addApplicant_1) (fun _ h9 => h9) rfl dX6_addApplicant_44 ?_
    refine lv_iload_n hx hb dX6_addApplicant_47 rfl (lv_at hl 1 rfl) ?_
    refine va_iast hx hb hK hP hD hS 0 0 rfl rfl (by unfold vp_in; decide) dX6_addApplicant_48 (fun H locs hP hD hS => ?_)
    obtain ⟨f_8, ef_8⟩ : ∃ g9, g9 = upd fw (0 : Int32).toNatClampNeg p0 := ⟨_, rfl⟩
    have hP : va_P D vwCl [(m1, .inl (cI, 10, .inl (f_8))), (m0, .inr (12, [.ref m1, .ref m2, .ref m3, .ref m4, .ref m5, .ref m6, .int 0, .int 0, .int 0]))] H := by rw [ef_8]; exact hP
    have hD : va_D A [(m1, .inl (cI, 10, .inl (f_8))), (m0, .inr (12, [.ref m1, .ref m2, .ref m3, .ref m4, .ref m5, .ref m6, .int 0, .int 0, .int 0]))] := by rw [ef_8]; exact hD
    refine lv_aload_n hx hb dX6_addApplicant_49 rfl (lv_at hl 0 rfl) ?_
    refine lv_dup hx hb dX6_addApplicant_50 rfl ?_
    refine va_get (D := D) (ci := 12) (v := .int 0) (C := RX6) (T := TX6) (N := 9) hx hb hts iX6_addApplicant_X6 hown hK hP 1 rfl rfl 6 (by decide) (hts _ kX6_addApplicant_1) (fun _ h9 => h9) rfl dX6_addApplicant_51 ?_
    refine lv_iconst (v := (1)) hx hb dX6_addApplicant_54 (by decide) ?_
    refine lv_iadd hx hb dX6_addApplicant_55 ?_
    refine lv_topi (fun x_9 ex_9 => ?_)
    obtain rfl : x_9 = (1 : Int32) := ex_9.trans (by decide)
    refine va_put (D := D) (ci := 12) (v := .int 1) (ty := .int) (C := RX6) (T := TX6) (N := 9) hx hb hts iX6_addApplicant_X6 tyX6 tyX6_ok nmX6 hown hK hP hD hS 1 rfl rfl 6 (by decide) (hts _ kX6_addApplicant_1) (fun _ h9 => h9) rfl (by decide +kernel) rfl rfl (Nat.le_of_ble_eq_true rfl) dX6_addApplicant_56 (fun H locs hP hD hS => ?_)
    have hP : va_P D vwCl [(m1, .inl (cI, 10, .inl (f_8))), (m0, .inr (12, [.ref m1, .ref m2, .ref m3, .ref m4, .ref m5, .ref m6, .int 1, .int 0, .int 0]))] H := hP
    have hD : va_D A [(m1, .inl (cI, 10, .inl (f_8))), (m0, .inr (12, [.ref m1, .ref m2, .ref m3, .ref m4, .ref m5, .ref m6, .int 1, .int 0, .int 0]))] := hD
    refine lv_aload_n hx hb dX6_addApplicant_59 rfl (lv_at hl 0 rfl) ?_
    refine va_get (D := D) (ci := 12) (v := .int 1) (C := RX6) (T := TX6) (N := 9) hx hb hts iX6_addApplicant_X6 hown hK hP 1 rfl rfl 6 (by decide) (hts _ kX6_addApplicant_1) (fun _ h9 => h9) rfl dX6_addApplicant_60 ?_
    refine lv_iconst (v := (1)) hx hb dX6_addApplicant_63 (by decide) ?_
    refine lv_isub hx hb dX6_addApplicant_64 ?_
    refine lv_topi (fun x_10 ex_10 => ?_)
    obtain rfl : x_10 = (0 : Int32) := ex_10.trans (by decide)
    exact y_iret hx hb hr hlocks ((0 : Int32), (1 : Int32)) (Or.inl ⟨rfl, rfl, (yz_m_addApplicant_42 p0 w_3)⟩) (hP.sub [1] rfl) (hD.sub [1] (by decide) rfl) hS (Nat.le_of_ble_eq_true rfl) (Nat.le_of_ble_eq_true rfl) dX6_addApplicant_65
  · subst hr9
    have w_11 : (p0 < 1 ∨ 9 < p0) := hw9
    refine lv_iconst (v := (1)) hx hb dX6_addApplicant_8 (by decide) ?_
    refine yc_i (wc := [(m0, .inr (12, [.ref m1, .ref m2, .ref m3, .ref m4, .ref m5, .ref m6, .int 0, .int 0, .int th]))]) (wr := [(m1, .inl (cI, 10, .inl (fw)))]) (va_runV (As := [.int 0, .int 1]) (rest := []) ⟨hx, hb, hml, hown, hts⟩ (g_no0 l hfl D tE H.size m0 m1 m2 m3 m4 m5 m6 0 0 th 1 (va_A [(m0, .inr (12, [.ref m1, .ref m2, .ref m3, .ref m4, .ref m5, .ref m6, .int 0, .int 0, .int th]))] H.size) rfl) (cwV 2 hts gX6_addApplicant_X6_no rfl rfl rfl (by decide +kernel) ⟨Nat.le_of_ble_eq_true rfl, Nat.le_of_ble_eq_true rfl⟩) (yPreV (wc := [(m0, .inr (12, [.ref m1, .ref m2, .ref m3, .ref m4, .ref m5, .ref m6, .int 0, .int 0, .int th]))]) (tc := []) hK hP hD hS hA hE [0] [] (by decide) rfl rfl (ci := 12) (q0 := 0) (q := (RX6, TX6, 9)) rfl rfl) rfl rfl hl.1 rfl (lv_room (Nat.le_of_ble_eq_true rfl)) dX6_addApplicant_9 ⟨Nat.le_of_ble_eq_true rfl, Nat.le_of_ble_eq_true rfl⟩) hP hD hS hA [0] [1] rfl rfl (by decide) (by decide) (fun r_12 u_13 H locs hw hP hD hS => ?_)
    have hP : va_P D vwCl [(m1, .inl (cI, 10, .inl (fw))), (m0, .inr (12, [.ref m1, .ref m2, .ref m3, .ref m4, .ref m5, .ref m6, .int 0, .int 0, .int 1]))] H := hP
    have hD : va_D A [(m1, .inl (cI, 10, .inl (fw))), (m0, .inr (12, [.ref m1, .ref m2, .ref m3, .ref m4, .ref m5, .ref m6, .int 0, .int 0, .int 1]))] := hD
    have hw : r_12 = 1 := hw
    subst hw
    refine lv_if_ne (tgt := 37) hx hb dX6_addApplicant_12 (by decide) (fun _ => ?_) (fun h => absurd h (by decide))
    refine lv_iconst (v := (0)) hx hb dX6_addApplicant_37 (by decide) ?_
    exact y_iret hx hb hr hlocks ((1 : Int32), (0 : Int32)) (Or.inr ⟨rfl, rfl, (yz_m_addApplicant_43 p0 w_11)⟩) (hP.sub [1] rfl) (hD.sub [1] (by decide) rfl) hS (Nat.le_of_ble_eq_true rfl) (Nat.le_of_ble_eq_true rfl) dX6_addApplicant_38
theorem yz_m_addPost_44 (p0 : Int32) (h0 : 1 ≤ p0 ∧ p0 ≤ 4) : 1 ≤ p0 ∧ p0 ≤ 4 := by grind
theorem yz_m_addPost_45 (p0 : Int32) (h0 : (p0 < 1 ∨ 4 < p0)) : (p0 < 1 ∨ 4 < p0) := by grind
theorem iX6_addPost_X6 : ∀ w ∈ wsX60, w ∈ wsX6_addPost := by decide +kernel
theorem kX6_addPost_1 : Cond.fieldLink RX6 55 "MostwellModel" "posts" "I" ∈ wsX6_addPost := List.mem_of_getElem? (i := 1) (by decide +kernel)
theorem kX6_addPost_2 : Cond.fieldLink RX6 13 "MostwellModel" "places" "[I" ∈ wsX6_addPost := List.mem_of_getElem? (i := 2) (by decide +kernel)
set_option maxHeartbeats 4000000 in
set_option maxRecDepth 100000 in
theorem m_addPost (l : Launch) (hfl : l.stackTraces = false) (D : va_G) (tE : Nat) (sz : Nat) (m0 : Nat) (m1 : Nat) (m2 : Nat) (m3 : Nat) (m4 : Nat) (m5 : Nat) (m6 : Nat) (cI : ClassId) (fw : Nat → Int32) (th : Int32) (p0 : Int32) (A : Nat → Prop) (hA0 : A = va_A [(m0, .inr (12, [.ref m1, .ref m2, .ref m3, .ref m4, .ref m5, .ref m6, .int 0, .int 0, .int th])), (m2, .inl (cI, 10, .inl (fw)))] sz) : Met l yX6_addPost wsX6_addPost (yR 2 0 0) (yP D tE [(m0, .inr (12, [.ref m1, .ref m2, .ref m3, .ref m4, .ref m5, .ref m6, .int 0, .int 0, .int th])), (m2, .inl (cI, 10, .inl (fw)))] [(cI, .int)] sz [.ref m0, .int p0]) (va_Qi (S := Int32 × Int32) (fun (r : Int32) (u : Int32 × Int32) => (r = 0 ∧ u.1 = 0 ∧ 1 ≤ p0 ∧ p0 ≤ 4) ∨ (r = 0 ∧ u.1 = 1 ∧ (p0 < 1 ∨ 4 < p0))) (fun (u : Int32 × Int32) (t : State) => yB D A ((fun (u : Int32 × Int32) => [(m0, .inr (12, [.ref m1, .ref m2, .ref m3, .ref m4, .ref m5, .ref m6, .int 0, .int (u.2), .int (u.1)]))]) u) t) A) 0 0 A := by
  refine Met.ofW (cc := cX6_addPost) (maxL := 2) (ret := (some .int)) (by decide) rfl ?_
  intro p e s m args below meth c s₁ B hml hv
  obtain ⟨rfl, rfl, hP, hK, hD, hE, hA⟩ := y_start hA0 hv
  have hx := B.exec
  have hb := B.bytes
  have hr := B.returns
  have hts := atoms_spec (ws := wsX6_addPost) B.pre
  have hown : s.vm.findClass RX6 = some m.cls := findClass_of_methodNamed B.named
  have hlocks := B.notSynchronized
  clear hA0 hv
  have hS : va_S A s.heap s.heap [] := va_S.rf
  have hl := lv_entry ([.ref m0, .int p0]) (n := 2) (Nat.le_of_ble_eq_true rfl)
  rw [lg_entry_eq]
  generalize (lg_sl ([.ref m0, .int p0]) ++ List.replicate (2 - (lg_sl ([.ref m0, .int p0])).length) Slot.unset).toArray = ls at hl ⊢
  have hl : lv_has ls 2 [(0, .ref m0), (1, .int p0)] := hl
  refine lv_aload_n hx hb dX6_addPost_0 rfl (lv_at hl 0 rfl) ?_
  refine lv_iload_n hx hb dX6_addPost_1 rfl (lv_at hl 1 rfl) ?_
  refine lv_iconst (v := (1)) hx hb dX6_addPost_2 (by decide) ?_
  refine lv_iconst (v := (4)) hx hb dX6_addPost_3 (by decide) ?_
  refine yc_i (wc := []) (wr := [(m0, .inr (12, [.ref m1, .ref m2, .ref m3, .ref m4, .ref m5, .ref m6, .int 0, .int 0, .int th])), (m2, .inl (cI, 10, .inl (fw)))]) (va_runS (As := [.int p0, .int 1, .int 4]) (rest := [.ref m0]) ⟨hx, hb, hml, hown, hts⟩ (g_isIn l hfl D tE s.heap.size p0 1 4 (va_A [] s.heap.size) rfl) (va_cwS 3 hts gX6_addPost_X6_isIn rfl rfl rfl (by decide +kernel) ⟨Nat.le_of_ble_eq_true rfl, Nat.le_of_ble_eq_true rfl⟩) (yPreS (wc := []) (tc := []) hK hP hD hS hA hE [] [] (by decide) rfl rfl) rfl rfl hl.1 rfl (lv_room (Nat.le_of_ble_eq_true rfl)) dX6_addPost_4 ⟨Nat.le_of_ble_eq_true rfl, Nat.le_of_ble_eq_true rfl⟩) hP hD hS hA [] [0, 1] rfl rfl (by decide) (by decide) (fun r_1 u_2 H locs hw hP hD hS => ?_)
  have hP : va_P D vwCl [(m0, .inr (12, [.ref m1, .ref m2, .ref m3, .ref m4, .ref m5, .ref m6, .int 0, .int 0, .int th])), (m2, .inl (cI, 10, .inl (fw)))] H := hP
  have hD : va_D A [(m0, .inr (12, [.ref m1, .ref m2, .ref m3, .ref m4, .ref m5, .ref m6, .int 0, .int 0, .int th])), (m2, .inl (cI, 10, .inl (fw)))] := hD
  have hw : (r_1 = 1 ∧ 1 ≤ p0 ∧ p0 ≤ 4) ∨ (r_1 = 0 ∧ (p0 < 1 ∨ 4 < p0)) := hw
  rcases hw with ⟨hr9, hw9⟩ | ⟨hr9, hw9⟩
  · subst hr9
    have w_3 : 1 ≤ p0 ∧ p0 ≤ 4 := hw9
    refine lv_iconst (v := (1)) hx hb dX6_addPost_7 (by decide) ?_
    refine yc_i (wc := [(m0, .inr (12, [.ref m1, .ref m2, .ref m3, .ref m4, .ref m5, .ref m6, .int 0, .int 0, .int th]))]) (wr := [(m2, .inl (cI, 10, .inl (fw)))]) (va_runV (As := [.int 1, .int 1]) (rest := []) ⟨hx, hb, hml, hown, hts⟩ (g_no1 l hfl D tE H.size m0 m1 m2 m3 m4 m5 m6 0 0 th 1 (va_A [(m0, .inr (12, [.ref m1, .ref m2, .ref m3, .ref m4, .ref m5, .ref m6, .int 0, .int 0, .int th]))] H.size) rfl) (cwV 2 hts gX6_addPost_X6_no rfl rfl rfl (by decide +kernel) ⟨Nat.le_of_ble_eq_true rfl, Nat.le_of_ble_eq_true rfl⟩) (yPreV (wc := [(m0, .inr (12, [.ref m1, .ref m2, .ref m3, .ref m4, .ref m5, .ref m6, .int 0, .int 0, .int th]))]) (tc := []) hK hP hD hS hA hE [0] [] (by decide) rfl rfl (ci := 12) (q0 := 0) (q := (RX6, TX6, 9)) rfl rfl) rfl rfl hl.1 rfl (lv_room (Nat.le_of_ble_eq_true rfl)) dX6_addPost_8 ⟨Nat.le_of_ble_eq_true rfl, Nat.le_of_ble_eq_true rfl⟩) hP hD hS hA [0] [1] rfl rfl (by decide) (by decide) (fun r_4 u_5 H locs hw hP hD hS => ?_)
    have hP : va_P D vwCl [(m2, .inl (cI, 10, .inl (fw))), (m0, .inr (12, [.ref m1, .ref m2, .ref m3, .ref m4, .ref m5, .ref m6, .int 0, .int 0, .int 0]))] H := hP
    have hD : va_D A [(m2, .inl (cI, 10, .inl (fw))), (m0, .inr (12, [.ref m1, .ref m2, .ref m3, .ref m4, .ref m5, .ref m6, .int 0, .int 0, .int 0]))] := hD
    have hw : r_4 = 0 := hw
    subst hw
    refine lv_if_ne (tgt := 36) hx hb dX6_addPost_11 (by decide) (fun h => absurd h (by decide)) (fun _ => ?_)
    refine lv_aload_n hx hb dX6_addPost_14 rfl (lv_at hl 0 rfl) ?_
    refine lv_aload_n hx hb dX6_addPost_15 rfl (lv_at hl 0 rfl) ?_
    refine va_get (D := D) (ci := 12) (v := .int 0) (C := RX6) (T := TX6) (N := 9) hx hb hts iX6_addPost_X6 hown hK hP 1 rfl rfl 7 (by decide) (hts _ kX6_addPost_1) (fun _ h9 => h9) rfl dX6_addPost_16 ?_
    refine lv_bipush (v := (10)) hx hb dX6_addPost_19 (by decide) ?_
    refine lv_icmp_ge (tgt := 28) hx hb dX6_addPost_21 (by decide) (fun h => absurd h (by decide)) (fun _ => ?_)
    refine lv_iconst (v := (1)) hx hb dX6_addPost_24 (by decide) ?_
    refine lv_goto (tgt := 29) hx hb dX6_addPost_25 (by decide) ?_
    refine lv_iconst (v := (2)) hx hb dX6_addPost_29 (by decide) ?_
    refine yc_i (wc := [(m0, .inr (12, [.ref m1, .ref m2, .ref m3, .ref m4, .ref m5, .ref m6, .int 0, .int 0, .int 0]))]) (wr := [(m2, .inl (cI, 10, .inl (fw)))]) (va_runV (As := [.int 1, .int 2]) (rest := []) ⟨hx, hb, hml, hown, hts⟩ (g_no1 l hfl D tE H.size m0 m1 m2 m3 m4 m5 m6 0 0 0 2 (va_A [(m0, .inr (12, [.ref m1, .ref m2, .ref m3, .ref m4, .ref m5, .ref m6, .int 0, .int 0, .int 0]))] H.size) rfl) (cwV 2 hts gX6_addPost_X6_no rfl rfl rfl (by decide +kernel) ⟨Nat.le_of_ble_eq_true rfl, Nat.le_of_ble_eq_true rfl⟩) (yPreV (wc := [(m0, .inr (12, [.ref m1, .ref m2, .ref m3, .ref m4, .ref m5, .ref m6, .int 0, .int 0, .int 0]))]) (tc := []) hK hP hD hS hA hE [1] [] (by decide) rfl rfl (ci := 12) (q0 := 1) (q := (RX6, TX6, 9)) rfl rfl) rfl rfl hl.1 rfl (lv_room (Nat.le_of_ble_eq_true rfl)) dX6_addPost_30 ⟨Nat.le_of_ble_eq_true rfl, Nat.le_of_ble_eq_true rfl⟩) hP hD hS hA [1] [0] rfl rfl (by decide) (by decide) (fun r_6 u_7 H locs hw hP hD hS => ?_)
    have hP : va_P D vwCl [(m2, .inl (cI, 10, .inl (fw))), (m0, .inr (12, [.ref m1, .ref m2, .ref m3, .ref m4, .ref m5, .ref m6, .int 0, .int 0, .int 0]))] H := hP
    have hD : va_D A [(m2, .inl (cI, 10, .inl (fw))), (m0, .inr (12, [.ref m1, .ref m2, .ref m3, .ref m4, .ref m5, .ref m6, .int 0, .int 0, .int 0]))] := hD
    have hw : r_6 = 0 := hw
    subst hw
    refine lv_if_eq (tgt := 38) hx hb dX6_addPost_33 (by decide) (fun _ => ?_) (fun h => absurd h (by decide))
    refine lv_aload_n hx hb dX6_addPost_38 rfl (lv_at hl 0 rfl) ?_
    refine va_get (D := D) (ci := 12) (v := .ref m2) (C := RX6) (T := TX6) (N := 9) hx hb hts iX6_addPost_X6 hown hK hP 1 rfl rfl 1 (by decide) (hts _ kX6_addPost_2) (fun _ h9 => h9) rfl dX6_addPost_39 ?_
    refine lv_aload_n hx hb dX6_addPost_42 rfl (lv_at hl 0 rfl) ?_
    refine va_get (D := D) (ci := 12) (v := .int 0) (C := RX6) (T := TX6) (N := 9) hx hb hts iX6_addPost_X6 hown hK hP 1 rfl rfl 7 (by decide) (hts _ kX6_addPost_1) (fun _ h9 => h9) rfl dX6_addPost_43 ?_
    refine lv_iload_n hx hb dX6_addPost_46 rfl (lv_at hl 1 rfl) ?_
    refine va_iast hx hb hK hP hD hS 0 0 rfl rfl (by unfold vp_in; decide) dX6_addPost_47 (fun H locs hP hD hS => ?_)
    obtain ⟨f_8, ef_8⟩ : ∃ g9, g9 = upd fw (0 : Int32).toNatClampNeg p0 := ⟨_, rfl⟩
    have hP : va_P D vwCl [(m2, .inl (cI, 10, .inl (f_8))), (m0, .inr (12, [.ref m1, .ref m2, .ref m3, .ref m4, .ref m5, .ref m6, .int 0, .int 0, .int 0]))] H := by rw [ef_8]; exact hP
    have hD : va_D A [(m2, .inl (cI, 10, .inl (f_8))), (m0, .inr (12, [.ref m1, .ref m2, .ref m3, .ref m4, .ref m5, .ref m6, .int 0, .int 0, .int 0]))] := by rw [ef_8]; exact hD
    refine lv_aload_n hx hb dX6_addPost_48 rfl (lv_at hl 0 rfl) ?_
    refine lv_dup hx hb dX6_addPost_49 rfl ?_
    refine va_get (D := D) (ci := 12) (v := .int 0) (C := RX6) (T := TX6) (N := 9) hx hb hts iX6_addPost_X6 hown hK hP 1 rfl rfl 7 (by decide) (hts _ kX6_addPost_1) (fun _ h9 => h9) rfl dX6_addPost_50 ?_
    refine lv_iconst (v := (1)) hx hb dX6_addPost_53 (by decide) ?_
    refine lv_iadd hx hb dX6_addPost_54 ?_
    refine lv_topi (fun x_9 ex_9 => ?_)
    obtain rfl : x_9 = (1 : Int32) := ex_9.trans (by decide)
    refine va_put (D := D) (ci := 12) (v := .int 1) (ty := .int) (C := RX6) (T := TX6) (N := 9) hx hb hts iX6_addPost_X6 tyX6 tyX6_ok nmX6 hown hK hP hD hS 1 rfl rfl 7 (by decide) (hts _ kX6_addPost_1) (fun _ h9 => h9) rfl (by decide +kernel) rfl rfl (Nat.le_of_ble_eq_true rfl) dX6_addPost_55 (fun H locs hP hD hS => ?_)
    have hP : va_P D vwCl [(m2, .inl (cI, 10, .inl (f_8))), (m0, .inr (12, [.ref m1, .ref m2, .ref m3, .ref m4, .ref m5, .ref m6, .int 0, .int 1, .int 0]))] H := hP
    have hD : va_D A [(m2, .inl (cI, 10, .inl (f_8))), (m0, .inr (12, [.ref m1, .ref m2, .ref m3, .ref m4, .ref m5, .ref m6, .int 0, .int 1, .int 0]))] := hD
    refine lv_aload_n hx hb dX6_addPost_58 rfl (lv_at hl 0 rfl) ?_
    refine va_get (D := D) (ci := 12) (v := .int 1) (C := RX6) (T := TX6) (N := 9) hx hb hts iX6_addPost_X6 hown hK hP 1 rfl rfl 7 (by decide) (hts _ kX6_addPost_1) (fun _ h9 => h9) rfl dX6_addPost_59 ?_
    refine lv_iconst (v := (1)) hx hb dX6_addPost_62 (by decide) ?_
    refine lv_isub hx hb dX6_addPost_63 ?_
    refine lv_topi (fun x_10 ex_10 => ?_)
    obtain rfl : x_10 = (0 : Int32) := ex_10.trans (by decide)
    exact y_iret hx hb hr hlocks ((0 : Int32), (1 : Int32)) (Or.inl ⟨rfl, rfl, (yz_m_addPost_44 p0 w_3)⟩) (hP.sub [1] rfl) (hD.sub [1] (by decide) rfl) hS (Nat.le_of_ble_eq_true rfl) (Nat.le_of_ble_eq_true rfl) dX6_addPost_64
  · subst hr9
    have w_11 : (p0 < 1 ∨ 4 < p0) := hw9
    refine lv_iconst (v := (1)) hx hb dX6_addPost_7 (by decide) ?_
    refine yc_i (wc := [(m0, .inr (12, [.ref m1, .ref m2, .ref m3, .ref m4, .ref m5, .ref m6, .int 0, .int 0, .int th]))]) (wr := [(m2, .inl (cI, 10, .inl (fw)))]) (va_runV (As := [.int 0, .int 1]) (rest := []) ⟨hx, hb, hml, hown, hts⟩ (g_no0 l hfl D tE H.size m0 m1 m2 m3 m4 m5 m6 0 0 th 1 (va_A [(m0, .inr (12, [.ref m1, .ref m2, .ref m3, .ref m4, .ref m5, .ref m6, .int 0, .int 0, .int th]))] H.size) rfl) (cwV 2 hts gX6_addPost_X6_no rfl rfl rfl (by decide +kernel) ⟨Nat.le_of_ble_eq_true rfl, Nat.le_of_ble_eq_true rfl⟩) (yPreV (wc := [(m0, .inr (12, [.ref m1, .ref m2, .ref m3, .ref m4, .ref m5, .ref m6, .int 0, .int 0, .int th]))]) (tc := []) hK hP hD hS hA hE [0] [] (by decide) rfl rfl (ci := 12) (q0 := 0) (q := (RX6, TX6, 9)) rfl rfl) rfl rfl hl.1 rfl (lv_room (Nat.le_of_ble_eq_true rfl)) dX6_addPost_8 ⟨Nat.le_of_ble_eq_true rfl, Nat.le_of_ble_eq_true rfl⟩) hP hD hS hA [0] [1] rfl rfl (by decide) (by decide) (fun r_12 u_13 H locs hw hP hD hS => ?_)
    have hP : va_P D vwCl [(m2, .inl (cI, 10, .inl (fw))), (m0, .inr (12, [.ref m1, .ref m2, .ref m3, .ref m4, .ref m5, .ref m6, .int 0, .int 0, .int 1]))] H := hP
    have hD : va_D A [(m2, .inl (cI, 10, .inl (fw))), (m0, .inr (12, [.ref m1, .ref m2, .ref m3, .ref m4, .ref m5, .ref m6, .int 0, .int 0, .int 1]))] := hD
    have hw : r_12 = 1 := hw
    subst hw
    refine lv_if_ne (tgt := 36) hx hb dX6_addPost_11 (by decide) (fun _ => ?_) (fun h => absurd h (by decide))
    refine lv_iconst (v := (0)) hx hb dX6_addPost_36 (by decide) ?_
    exact y_iret hx hb hr hlocks ((1 : Int32), (0 : Int32)) (Or.inr ⟨rfl, rfl, (yz_m_addPost_45 p0 w_11)⟩) (hP.sub [1] rfl) (hD.sub [1] (by decide) rfl) hS (Nat.le_of_ble_eq_true rfl) (Nat.le_of_ble_eq_true rfl) dX6_addPost_37
theorem yz_m_isAny_46 (p0 : Int32) (h0 : p0 = (-1 : Int32)) : ((1 : Int32) = 1 ∧ p0 = -1) ∨ ((1 : Int32) = 0 ∧ ¬ p0 = -1) := by grind
theorem yz_m_isAny_47 (p0 : Int32) (h0 : ¬ p0 = (-1 : Int32)) : ((0 : Int32) = 1 ∧ p0 = -1) ∨ ((0 : Int32) = 0 ∧ ¬ p0 = -1) := by grind

set_option maxHeartbeats 4000000 in
set_option maxRecDepth 100000 in
theorem m_isAny (l : Launch) (hfl : l.stackTraces = false) (D : va_G) (tE : Nat) (sz : Nat) (m0 : Nat) (m1 : Nat) (m2 : Nat) (m3 : Nat) (m4 : Nat) (m5 : Nat) (m6 : Nat) (pe : Int32) (po : Int32) (th : Int32) (p0 : Int32) (mo : Int32) (ed : Nat) (A : Nat → Prop) (hA0 : A = va_A [(m0, .inr (12, [.ref m1, .ref m2, .ref m3, .ref m4, .ref m5, .ref m6, .int pe, .int po, .int th])), (m5, .inr (5, [.int mo, .ref ed, .int 0]))] sz) : Met l yX6_isAny wsX6_isAny (yR 2 0 0) (yP D tE [(m0, .inr (12, [.ref m1, .ref m2, .ref m3, .ref m4, .ref m5, .ref m6, .int pe, .int po, .int th])), (m5, .inr (5, [.int mo, .ref ed, .int 0]))] [] sz [.ref m0, .int p0]) (va_Qi (S := Unit) (fun (r : Int32) (u : Unit) => (r = 1 ∧ p0 = -1) ∨ (r = 0 ∧ ¬ p0 = -1)) (fun (u : Unit) (t : State) => yB D A ((fun (u : Unit) => [(m0, .inr (12, [.ref m1, .ref m2, .ref m3, .ref m4, .ref m5, .ref m6, .int pe, .int po, .int th])), (m5, .inr (5, [.int mo, .ref ed, .int 0]))]) u) t) A) 0 0 A := by
  refine Met.ofW (cc := cX6_isAny) (maxL := 2) (ret := (some .boolean)) (by decide) rfl ?_
  intro p e s m args below meth c s₁ B hml hv
  obtain ⟨rfl, rfl, hP, hK, hD, hE, hA⟩ := y_start hA0 hv
  have hx := B.exec
  have hb := B.bytes
  have hr := B.returns
  have hts := atoms_spec (ws := wsX6_isAny) B.pre
  have hown : s.vm.findClass RX6 = some m.cls := findClass_of_methodNamed B.named
  have hlocks := B.notSynchronized
  clear hA0 hv
  have hS : va_S A s.heap s.heap [] := va_S.rf
  have hl := lv_entry ([.ref m0, .int p0]) (n := 2) (Nat.le_of_ble_eq_true rfl)
  rw [lg_entry_eq]
  generalize (lg_sl ([.ref m0, .int p0]) ++ List.replicate (2 - (lg_sl ([.ref m0, .int p0])).length) Slot.unset).toArray = ls at hl ⊢
  have hl : lv_has ls 2 [(0, .ref m0), (1, .int p0)] := hl
  refine lv_iload_n hx hb dX6_isAny_0 rfl (lv_at hl 1 rfl) ?_
  refine lv_iconst (v := (-1)) hx hb dX6_isAny_1 (by decide) ?_
  refine lv_icmp_eq (tgt := 13) hx hb dX6_isAny_2 (by decide) (fun c_1 => ?_) (fun c_1 => ?_)
  · refine lv_iconst (v := (1)) hx hb dX6_isAny_13 (by decide) ?_
    refine lv_goto (tgt := 18) hx hb dX6_isAny_14 (by decide) ?_
    exact y_zret hx hb hr hlocks (by decide) () (yz_m_isAny_46 p0 c_1) hP hD hS (Nat.le_of_ble_eq_true rfl) (Nat.le_of_ble_eq_true rfl) dX6_isAny_18
  · refine lv_aload_n hx hb dX6_isAny_5 rfl (lv_at hl 0 rfl) ?_
    refine lv_iload_n hx hb dX6_isAny_6 rfl (lv_at hl 1 rfl) ?_
    refine yc_i (wc := [(m0, .inr (12, [.ref m1, .ref m2, .ref m3, .ref m4, .ref m5, .ref m6, .int pe, .int po, .int th])), (m5, .inr (5, [.int mo, .ref ed, .int 0]))]) (wr := []) (va_runV (As := [.int p0]) (rest := []) ⟨hx, hb, hml, hown, hts⟩ (f_isKept l hfl D tE s.heap.size m0 m1 m2 m3 m4 m5 m6 pe po th p0 mo ed (va_A [(m0, .inr (12, [.ref m1, .ref m2, .ref m3, .ref m4, .ref m5, .ref m6, .int pe, .int po, .int th])), (m5, .inr (5, [.int mo, .ref ed, .int 0]))] s.heap.size) rfl) (cwV 1 hts gX6_isAny_X6_isKept rfl rfl rfl (by decide +kernel) ⟨Nat.le_of_ble_eq_true rfl, Nat.le_of_ble_eq_true rfl⟩) (yPreV (wc := [(m0, .inr (12, [.ref m1, .ref m2, .ref m3, .ref m4, .ref m5, .ref m6, .int pe, .int po, .int th])), (m5, .inr (5, [.int mo, .ref ed, .int 0]))]) (tc := []) hK hP hD hS hA hE [0, 1] [] (by decide) rfl rfl (ci := 12) (q0 := 0) (q := (RX6, TX6, 9)) rfl rfl) rfl rfl hl.1 rfl (lv_room (Nat.le_of_ble_eq_true rfl)) dX6_isAny_7 ⟨Nat.le_of_ble_eq_true rfl, Nat.le_of_ble_eq_true rfl⟩) hP hD hS hA [0, 1] [] rfl rfl (by decide) (by decide) (fun r_2 u_3 H locs hw hP hD hS => ?_)
    have hP : va_P D vwCl [(m0, .inr (12, [.ref m1, .ref m2, .ref m3, .ref m4, .ref m5, .ref m6, .int pe, .int po, .int th])), (m5, .inr (5, [.int mo, .ref ed, .int 0]))] H := hP
    have hD : va_D A [(m0, .inr (12, [.ref m1, .ref m2, .ref m3, .ref m4, .ref m5, .ref m6, .int pe, .int po, .int th])), (m5, .inr (5, [.int mo, .ref ed, .int 0]))] := hD
    have hw : r_2 = 0 := hw
    subst hw
    refine lv_if_eq (tgt := 17) hx hb dX6_isAny_10 (by decide) (fun _ => ?_) (fun h => absurd h (by decide))
    refine lv_iconst (v := (0)) hx hb dX6_isAny_17 (by decide) ?_
    exact y_zret hx hb hr hlocks (by decide) () (yz_m_isAny_47 p0 c_1) hP hD hS (Nat.le_of_ble_eq_true rfl) (Nat.le_of_ble_eq_true rfl) dX6_isAny_18
theorem yz_m_row_48 (p0 : Int32) (h0 : p0 = -1) : ¬ (0 : Int32) ≤ p0 := by grind
theorem yz_m_row_49 (p0 : Int32) (h0 : p0 = -1) : ¬ ((0 : Int32) ≤ p0) := by grind
theorem iX6_row_X6 : ∀ w ∈ wsX60, w ∈ wsX6_row := by decide +kernel
theorem kX6_row_1 : Cond.fieldLink RX6 16 "MostwellModel" "hand" "[I" ∈ wsX6_row := List.mem_of_getElem? (i := 1) (by decide +kernel)
set_option maxHeartbeats 4000000 in
set_option maxRecDepth 100000 in
theorem m_row (l : Launch) (hfl : l.stackTraces = false) (D : va_G) (tE : Nat) (sz : Nat) (m0 : Nat) (m1 : Nat) (m2 : Nat) (m3 : Nat) (m4 : Nat) (m5 : Nat) (m6 : Nat) (pe : Int32) (po : Int32) (th : Int32) (p0 : Int32) (hp : p0 = -1) (A : Nat → Prop) (hA0 : A = va_A [(m0, .inr (12, [.ref m1, .ref m2, .ref m3, .ref m4, .ref m5, .ref m6, .int pe, .int po, .int th]))] sz) : Met l yX6_row wsX6_row (yR 0 0 0) (yP D tE [(m0, .inr (12, [.ref m1, .ref m2, .ref m3, .ref m4, .ref m5, .ref m6, .int pe, .int po, .int th]))] [] sz [.ref m0, .int p0]) (va_Qr (S := Unit) (fun (u : Unit) => True) (fun (u : Unit) (r : Nat) (t : State) => yB D A ((fun (u : Unit) (r : Nat) => [(m0, .inr (12, [.ref m1, .ref m2, .ref m3, .ref m4, .ref m5, .ref m6, .int pe, .int po, .int th]))]) u r) t) A) 0 0 A := by
  refine Met.ofW (cc := cX6_row) (maxL := 2) (ret := (some (.array .int))) (by decide) rfl ?_
  intro p e s m args below meth c s₁ B hml hv
  obtain ⟨rfl, rfl, hP, hK, hD, hE, hA⟩ := y_start hA0 hv
  have hx := B.exec
  have hb := B.bytes
  have hr := B.returns
  have hts := atoms_spec (ws := wsX6_row) B.pre
  have hown : s.vm.findClass RX6 = some m.cls := findClass_of_methodNamed B.named
  have hlocks := B.notSynchronized
  clear hA0 hv
  have hS : va_S A s.heap s.heap [] := va_S.rf
  have hl := lv_entry ([.ref m0, .int p0]) (n := 2) (Nat.le_of_ble_eq_true rfl)
  rw [lg_entry_eq]
  generalize (lg_sl ([.ref m0, .int p0]) ++ List.replicate (2 - (lg_sl ([.ref m0, .int p0])).length) Slot.unset).toArray = ls at hl ⊢
  have hl : lv_has ls 2 [(0, .ref m0), (1, .int p0)] := hl
  refine lv_iload_n hx hb dX6_row_0 rfl (lv_at hl 1 rfl) ?_
  refine lv_if_ge (tgt := 11) hx hb dX6_row_1 (by decide) (fun h => absurd h ((yz_m_row_49 p0 hp))) (fun c_1 => ?_)
  refine lv_aload_n hx hb dX6_row_4 rfl (lv_at hl 0 rfl) ?_
  refine va_get (D := D) (ci := 12) (v := .ref m3) (C := RX6) (T := TX6) (N := 9) hx hb hts iX6_row_X6 hown hK hP 0 rfl rfl 2 (by decide) (hts _ kX6_row_1) (fun _ h9 => h9) rfl dX6_row_5 ?_
  refine lv_goto (tgt := 24) hx hb dX6_row_8 (by decide) ?_
  exact y_aret hx hb hr hlocks (Or.inr ⟨_, rfl⟩) () trivial hP hD hS (Nat.le_of_ble_eq_true rfl) (Nat.le_of_ble_eq_true rfl) dX6_row_24
theorem iX6_votesOf_X6 : ∀ w ∈ wsX60, w ∈ wsX6_votesOf := by decide +kernel
theorem kX6_votesOf_1 : Cond.fieldLink RX6 48 "MostwellModel" "people" "I" ∈ wsX6_votesOf := List.mem_of_getElem? (i := 1) (by decide +kernel)
set_option maxHeartbeats 4000000 in
set_option maxRecDepth 100000 in
theorem m_votesOf (l : Launch) (hfl : l.stackTraces = false) (D : va_G) (tE : Nat) (sz : Nat) (m0 : Nat) (m1 : Nat) (m2 : Nat) (m3 : Nat) (m4 : Nat) (m5 : Nat) (m6 : Nat) (po : Int32) (th : Int32) (r1 : Nat) (r2 : Nat) (A : Nat → Prop) (hA0 : A = va_A [(m0, .inr (12, [.ref m1, .ref m2, .ref m3, .ref m4, .ref m5, .ref m6, .int 0, .int po, .int th]))] sz) : Met l yX6_votesOf wsX6_votesOf (yR 0 0 0) (yP D tE [(m0, .inr (12, [.ref m1, .ref m2, .ref m3, .ref m4, .ref m5, .ref m6, .int 0, .int po, .int th]))] [] sz [.ref m0, .ref r1, .ref r2]) (va_Qi (S := Unit) (fun (r : Int32) (u : Unit) => r = 0) (fun (u : Unit) (t : State) => yB D A ((fun (u : Unit) => [(m0, .inr (12, [.ref m1, .ref m2, .ref m3, .ref m4, .ref m5, .ref m6, .int 0, .int po, .int th]))]) u) t) A) 0 0 A := by
  refine Met.ofW (cc := cX6_votesOf) (maxL := 5) (ret := (some .int)) (by decide) rfl ?_
  intro p e s m args below meth c s₁ B hml hv
  obtain ⟨rfl, rfl, hP, hK, hD, hE, hA⟩ := y_start hA0 hv
  have hx := B.exec
  have hb := B.bytes
  have hr := B.returns
  have hts := atoms_spec (ws := wsX6_votesOf) B.pre
  have hown : s.vm.findClass RX6 = some m.cls := findClass_of_methodNamed B.named
  have hlocks := B.notSynchronized
  clear hA0 hv
  have hS : va_S A s.heap s.heap [] := va_S.rf
  have hl := lv_entry ([.ref m0, .ref r1, .ref r2]) (n := 5) (Nat.le_of_ble_eq_true rfl)
  rw [lg_entry_eq]
  generalize (lg_sl ([.ref m0, .ref r1, .ref r2]) ++ List.replicate (5 - (lg_sl ([.ref m0, .ref r1, .ref r2])).length) Slot.unset).toArray = ls at hl ⊢
  have hl : lv_has ls 5 [(0, .ref m0), (1, .ref r1), (2, .ref r2)] := hl
  refine lv_iconst (v := (0)) hx hb dX6_votesOf_0 (by decide) ?_
  refine lv_istore_n (lv' := [(3, .int 0), (0, .ref m0), (1, .ref r1), (2, .ref r2)]) hx hb dX6_votesOf_1 rfl hl (by decide) rfl (fun ls hl => ?_)
  refine lv_iconst (v := (0)) hx hb dX6_votesOf_2 (by decide) ?_
  refine lv_istore (lv' := [(4, .int 0), (3, .int 0), (0, .ref m0), (1, .ref r1), (2, .ref r2)]) hx hb dX6_votesOf_3 hl (by decide) rfl (fun ls hl => ?_)
  refine lv_iload hx hb dX6_votesOf_5 (lv_at hl 0 rfl) ?_
  refine lv_aload_n hx hb dX6_votesOf_7 rfl (lv_at hl 2 rfl) ?_
  refine va_get (D := D) (ci := 12) (v := .int 0) (C := RX6) (T := TX6) (N := 9) hx hb hts iX6_votesOf_X6 hown hK hP 0 rfl rfl 6 (by decide) (hts _ kX6_votesOf_1) (fun _ h9 => h9) rfl dX6_votesOf_8 ?_
  refine lv_icmp_ge (tgt := 57) hx hb dX6_votesOf_11 (by decide) (fun _ => ?_) (fun h => absurd h (by decide))
  refine lv_iload_n hx hb dX6_votesOf_57 rfl (lv_at hl 1 rfl) ?_
  exact y_iret hx hb hr hlocks () rfl hP hD hS (Nat.le_of_ble_eq_true rfl) (Nat.le_of_ble_eq_true rfl) dX6_votesOf_58

set_option maxHeartbeats 4000000 in
set_option maxRecDepth 100000 in
theorem m_marginOf (l : Launch) (hfl : l.stackTraces = false) (D : va_G) (tE : Nat) (sz : Nat) (m0 : Nat) (m1 : Nat) (m2 : Nat) (m3 : Nat) (m4 : Nat) (m5 : Nat) (m6 : Nat) (po : Int32) (th : Int32) (r1 : Nat) (r2 : Nat) (A : Nat → Prop) (hA0 : A = va_A [(m0, .inr (12, [.ref m1, .ref m2, .ref m3, .ref m4, .ref m5, .ref m6, .int 0, .int po, .int th]))] sz) : Met l yX6_marginOf wsX6_marginOf (yR 1 0 0) (yP D tE [(m0, .inr (12, [.ref m1, .ref m2, .ref m3, .ref m4, .ref m5, .ref m6, .int 0, .int po, .int th]))] [] sz [.ref m0, .ref r1, .ref r2]) (va_Qi (S := Unit) (fun (r : Int32) (u : Unit) => r = 0) (fun (u : Unit) (t : State) => yB D A ((fun (u : Unit) => [(m0, .inr (12, [.ref m1, .ref m2, .ref m3, .ref m4, .ref m5, .ref m6, .int 0, .int po, .int th]))]) u) t) A) 0 0 A := by
  refine Met.ofW (cc := cX6_marginOf) (maxL := 3) (ret := (some .int)) (by decide) rfl ?_
  intro p e s m args below meth c s₁ B hml hv
  obtain ⟨rfl, rfl, hP, hK, hD, hE, hA⟩ := y_start hA0 hv
  have hx := B.exec
  have hb := B.bytes
  have hr := B.returns
  have hts := atoms_spec (ws := wsX6_marginOf) B.pre
  have hown : s.vm.findClass RX6 = some m.cls := findClass_of_methodNamed B.named
  have hlocks := B.notSynchronized
  clear hA0 hv
  have hS : va_S A s.heap s.heap [] := va_S.rf
  have hl := lv_entry ([.ref m0, .ref r1, .ref r2]) (n := 3) (Nat.le_of_ble_eq_true rfl)
  rw [lg_entry_eq]
  generalize (lg_sl ([.ref m0, .ref r1, .ref r2]) ++ List.replicate (3 - (lg_sl ([.ref m0, .ref r1, .ref r2])).length) Slot.unset).toArray = ls at hl ⊢
  have hl : lv_has ls 3 [(0, .ref m0), (1, .ref r1), (2, .ref r2)] := hl
  refine lv_aload_n hx hb dX6_marginOf_0 rfl (lv_at hl 0 rfl) ?_
  refine lv_aload_n hx hb dX6_marginOf_1 rfl (lv_at hl 1 rfl) ?_
  refine lv_aload_n hx hb dX6_marginOf_2 rfl (lv_at hl 2 rfl) ?_
  refine yc_i (wc := [(m0, .inr (12, [.ref m1, .ref m2, .ref m3, .ref m4, .ref m5, .ref m6, .int 0, .int po, .int th]))]) (wr := []) (va_runV (As := [.ref r1, .ref r2]) (rest := []) ⟨hx, hb, hml, hown, hts⟩ (m_votesOf l hfl D tE s.heap.size m0 m1 m2 m3 m4 m5 m6 po th r1 r2 (va_A [(m0, .inr (12, [.ref m1, .ref m2, .ref m3, .ref m4, .ref m5, .ref m6, .int 0, .int po, .int th]))] s.heap.size) rfl) (cwV 2 hts gX6_marginOf_X6_votesOf rfl rfl rfl (by decide +kernel) ⟨Nat.le_of_ble_eq_true rfl, Nat.le_of_ble_eq_true rfl⟩) (yPreV (wc := [(m0, .inr (12, [.ref m1, .ref m2, .ref m3, .ref m4, .ref m5, .ref m6, .int 0, .int po, .int th]))]) (tc := []) hK hP hD hS hA hE [0] [] (by decide) rfl rfl (ci := 12) (q0 := 0) (q := (RX6, TX6, 9)) rfl rfl) rfl rfl hl.1 rfl (lv_room (Nat.le_of_ble_eq_true rfl)) dX6_marginOf_3 ⟨Nat.le_of_ble_eq_true rfl, Nat.le_of_ble_eq_true rfl⟩) hP hD hS hA [0] [] rfl rfl (by decide) (by decide) (fun r_1 u_2 H locs hw hP hD hS => ?_)
  have hP : va_P D vwCl [(m0, .inr (12, [.ref m1, .ref m2, .ref m3, .ref m4, .ref m5, .ref m6, .int 0, .int po, .int th]))] H := hP
  have hD : va_D A [(m0, .inr (12, [.ref m1, .ref m2, .ref m3, .ref m4, .ref m5, .ref m6, .int 0, .int po, .int th]))] := hD
  have hw : r_1 = 0 := hw
  subst hw
  refine lv_aload_n hx hb dX6_marginOf_6 rfl (lv_at hl 0 rfl) ?_
  refine lv_aload_n hx hb dX6_marginOf_7 rfl (lv_at hl 2 rfl) ?_
  refine lv_aload_n hx hb dX6_marginOf_8 rfl (lv_at hl 1 rfl) ?_
  refine yc_i (wc := [(m0, .inr (12, [.ref m1, .ref m2, .ref m3, .ref m4, .ref m5, .ref m6, .int 0, .int po, .int th]))]) (wr := []) (va_runV (As := [.ref r2, .ref r1]) (rest := [.int 0]) ⟨hx, hb, hml, hown, hts⟩ (m_votesOf l hfl D tE H.size m0 m1 m2 m3 m4 m5 m6 po th r2 r1 (va_A [(m0, .inr (12, [.ref m1, .ref m2, .ref m3, .ref m4, .ref m5, .ref m6, .int 0, .int po, .int th]))] H.size) rfl) (cwV 2 hts gX6_marginOf_X6_votesOf rfl rfl rfl (by decide +kernel) ⟨Nat.le_of_ble_eq_true rfl, Nat.le_of_ble_eq_true rfl⟩) (yPreV (wc := [(m0, .inr (12, [.ref m1, .ref m2, .ref m3, .ref m4, .ref m5, .ref m6, .int 0, .int po, .int th]))]) (tc := []) hK hP hD hS hA hE [0] [] (by decide) rfl rfl (ci := 12) (q0 := 0) (q := (RX6, TX6, 9)) rfl rfl) rfl rfl hl.1 rfl (lv_room (Nat.le_of_ble_eq_true rfl)) dX6_marginOf_9 ⟨Nat.le_of_ble_eq_true rfl, Nat.le_of_ble_eq_true rfl⟩) hP hD hS hA [0] [] rfl rfl (by decide) (by decide) (fun r_3 u_4 H locs hw hP hD hS => ?_)
  have hP : va_P D vwCl [(m0, .inr (12, [.ref m1, .ref m2, .ref m3, .ref m4, .ref m5, .ref m6, .int 0, .int po, .int th]))] H := hP
  have hD : va_D A [(m0, .inr (12, [.ref m1, .ref m2, .ref m3, .ref m4, .ref m5, .ref m6, .int 0, .int po, .int th]))] := hD
  have hw : r_3 = 0 := hw
  subst hw
  refine lv_isub hx hb dX6_marginOf_12 ?_
  refine lv_topi (fun x_5 ex_5 => ?_)
  obtain rfl : x_5 = (0 : Int32) := ex_5.trans (by decide)
  exact y_iret hx hb hr hlocks () rfl hP hD hS (Nat.le_of_ble_eq_true rfl) (Nat.le_of_ble_eq_true rfl) dX6_marginOf_13
theorem yz_m_votes_50 (p0 : Int32) (p1 : Int32) (h0 : p0 = -1) (h1 : p1 = -1) : (p0 = -1 ∧ p1 = -1) := by grind
theorem yz_m_votes_51 (p0 : Int32) (p1 : Int32) (h0 : p0 = -1) (h1 : ¬ p1 = -1) : ¬ (p0 = -1 ∧ p1 = -1) := by grind
theorem yz_m_votes_52 (p0 : Int32) (p1 : Int32) (h0 : ¬ p0 = -1) : ¬ (p0 = -1 ∧ p1 = -1) := by grind

set_option maxHeartbeats 4000000 in
set_option maxRecDepth 100000 in
theorem m_votes (l : Launch) (hfl : l.stackTraces = false) (D : va_G) (tE : Nat) (sz : Nat) (m0 : Nat) (m1 : Nat) (m2 : Nat) (m3 : Nat) (m4 : Nat) (m5 : Nat) (m6 : Nat) (th : Int32) (p0 : Int32) (p1 : Int32) (mo : Int32) (ed : Nat) (A : Nat → Prop) (hA0 : A = va_A [(m0, .inr (12, [.ref m1, .ref m2, .ref m3, .ref m4, .ref m5, .ref m6, .int 0, .int 0, .int th])), (m5, .inr (5, [.int mo, .ref ed, .int 0]))] sz) : Met l yX6_votes wsX6_votes (yR 3 0 0) (yP D tE [(m0, .inr (12, [.ref m1, .ref m2, .ref m3, .ref m4, .ref m5, .ref m6, .int 0, .int 0, .int th])), (m5, .inr (5, [.int mo, .ref ed, .int 0]))] [] sz [.ref m0, .int p0, .int p1]) (va_Qi (S := Int32) (fun (r : Int32) (u : Int32) => (r = 0 ∧ u = 0 ∧ (p0 = -1 ∧ p1 = -1)) ∨ (r = 0 ∧ u = 1 ∧ ¬ (p0 = -1 ∧ p1 = -1))) (fun (u : Int32) (t : State) => yB D A ((fun (u : Int32) => [(m0, .inr (12, [.ref m1, .ref m2, .ref m3, .ref m4, .ref m5, .ref m6, .int 0, .int 0, .int u]))]) u) t) A) 0 0 A := by
  refine Met.ofW (cc := cX6_votes) (maxL := 3) (ret := (some .int)) (by decide) rfl ?_
  intro p e s m args below meth c s₁ B hml hv
  obtain ⟨rfl, rfl, hP, hK, hD, hE, hA⟩ := y_start hA0 hv
  have hx := B.exec
  have hb := B.bytes
  have hr := B.returns
  have hts := atoms_spec (ws := wsX6_votes) B.pre
  have hown : s.vm.findClass RX6 = some m.cls := findClass_of_methodNamed B.named
  have hlocks := B.notSynchronized
  clear hA0 hv
  have hS : va_S A s.heap s.heap [] := va_S.rf
  have hl := lv_entry ([.ref m0, .int p0, .int p1]) (n := 3) (Nat.le_of_ble_eq_true rfl)
  rw [lg_entry_eq]
  generalize (lg_sl ([.ref m0, .int p0, .int p1]) ++ List.replicate (3 - (lg_sl ([.ref m0, .int p0, .int p1])).length) Slot.unset).toArray = ls at hl ⊢
  have hl : lv_has ls 3 [(0, .ref m0), (1, .int p0), (2, .int p1)] := hl
  refine lv_aload_n hx hb dX6_votes_0 rfl (lv_at hl 0 rfl) ?_
  refine lv_aload_n hx hb dX6_votes_1 rfl (lv_at hl 0 rfl) ?_
  refine lv_iload_n hx hb dX6_votes_2 rfl (lv_at hl 1 rfl) ?_
  refine yc_i (wc := [(m0, .inr (12, [.ref m1, .ref m2, .ref m3, .ref m4, .ref m5, .ref m6, .int 0, .int 0, .int th])), (m5, .inr (5, [.int mo, .ref ed, .int 0]))]) (wr := []) (va_runV (As := [.int p0]) (rest := [.ref m0]) ⟨hx, hb, hml, hown, hts⟩ (m_isAny l hfl D tE s.heap.size m0 m1 m2 m3 m4 m5 m6 0 0 th p0 mo ed (va_A [(m0, .inr (12, [.ref m1, .ref m2, .ref m3, .ref m4, .ref m5, .ref m6, .int 0, .int 0, .int th])), (m5, .inr (5, [.int mo, .ref ed, .int 0]))] s.heap.size) rfl) (cwV 1 hts gX6_votes_X6_isAny rfl rfl rfl (by decide +kernel) ⟨Nat.le_of_ble_eq_true rfl, Nat.le_of_ble_eq_true rfl⟩) (yPreV (wc := [(m0, .inr (12, [.ref m1, .ref m2, .ref m3, .ref m4, .ref m5, .ref m6, .int 0, .int 0, .int th])), (m5, .inr (5, [.int mo, .ref ed, .int 0]))]) (tc := []) hK hP hD hS hA hE [0, 1] [] (by decide) rfl rfl (ci := 12) (q0 := 0) (q := (RX6, TX6, 9)) rfl rfl) rfl rfl hl.1 rfl (lv_room (Nat.le_of_ble_eq_true rfl)) dX6_votes_3 ⟨Nat.le_of_ble_eq_true rfl, Nat.le_of_ble_eq_true rfl⟩) hP hD hS hA [0, 1] [] rfl rfl (by decide) (by decide) (fun r_1 u_2 H locs hw hP hD hS => ?_)
  have hP : va_P D vwCl [(m0, .inr (12, [.ref m1, .ref m2, .ref m3, .ref m4, .ref m5, .ref m6, .int 0, .int 0, .int th])), (m5, .inr (5, [.int mo, .ref ed, .int 0]))] H := hP
  have hD : va_D A [(m0, .inr (12, [.ref m1, .ref m2, .ref m3, .ref m4, .ref m5, .ref m6, .int 0, .int 0, .int th])), (m5, .inr (5, [.int mo, .ref ed, .int 0]))] := hD
  have hw : (r_1 = 1 ∧ p0 = -1) ∨ (r_1 = 0 ∧ ¬ p0 = -1) := hw
  rcases hw with ⟨hr9, hw9⟩ | ⟨hr9, hw9⟩
  · subst hr9
    have w_3 : p0 = -1 := hw9
    refine lv_if_eq (tgt := 21) hx hb dX6_votes_6 (by decide) (fun h => absurd h (by decide)) (fun _ => ?_)
    refine lv_aload_n hx hb dX6_votes_9 rfl (lv_at hl 0 rfl) ?_
    refine lv_iload_n hx hb dX6_votes_10 rfl (lv_at hl 2 rfl) ?_
    refine yc_i (wc := [(m0, .inr (12, [.ref m1, .ref m2, .ref m3, .ref m4, .ref m5, .ref m6, .int 0, .int 0, .int th])), (m5, .inr (5, [.int mo, .ref ed, .int 0]))]) (wr := []) (va_runV (As := [.int p1]) (rest := [.ref m0]) ⟨hx, hb, hml, hown, hts⟩ (m_isAny l hfl D tE H.size m0 m1 m2 m3 m4 m5 m6 0 0 th p1 mo ed (va_A [(m0, .inr (12, [.ref m1, .ref m2, .ref m3, .ref m4, .ref m5, .ref m6, .int 0, .int 0, .int th])), (m5, .inr (5, [.int mo, .ref ed, .int 0]))] H.size) rfl) (cwV 1 hts gX6_votes_X6_isAny rfl rfl rfl (by decide +kernel) ⟨Nat.le_of_ble_eq_true rfl, Nat.le_of_ble_eq_true rfl⟩) (yPreV (wc := [(m0, .inr (12, [.ref m1, .ref m2, .ref m3, .ref m4, .ref m5, .ref m6, .int 0, .int 0, .int th])), (m5, .inr (5, [.int mo, .ref ed, .int 0]))]) (tc := []) hK hP hD hS hA hE [0, 1] [] (by decide) rfl rfl (ci := 12) (q0 := 0) (q := (RX6, TX6, 9)) rfl rfl) rfl rfl hl.1 rfl (lv_room (Nat.le_of_ble_eq_true rfl)) dX6_votes_11 ⟨Nat.le_of_ble_eq_true rfl, Nat.le_of_ble_eq_true rfl⟩) hP hD hS hA [0, 1] [] rfl rfl (by decide) (by decide) (fun r_4 u_5 H locs hw hP hD hS => ?_)
    have hP : va_P D vwCl [(m0, .inr (12, [.ref m1, .ref m2, .ref m3, .ref m4, .ref m5, .ref m6, .int 0, .int 0, .int th])), (m5, .inr (5, [.int mo, .ref ed, .int 0]))] H := hP
    have hD : va_D A [(m0, .inr (12, [.ref m1, .ref m2, .ref m3, .ref m4, .ref m5, .ref m6, .int 0, .int 0, .int th])), (m5, .inr (5, [.int mo, .ref ed, .int 0]))] := hD
    have hw : (r_4 = 1 ∧ p1 = -1) ∨ (r_4 = 0 ∧ ¬ p1 = -1) := hw
    rcases hw with ⟨hr9, hw9⟩ | ⟨hr9, hw9⟩
    · subst hr9
      have w_6 : p1 = -1 := hw9
      refine lv_if_eq (tgt := 21) hx hb dX6_votes_14 (by decide) (fun h => absurd h (by decide)) (fun _ => ?_)
      refine lv_iconst (v := (1)) hx hb dX6_votes_17 (by decide) ?_
      refine lv_goto (tgt := 22) hx hb dX6_votes_18 (by decide) ?_
      refine lv_iconst (v := (1)) hx hb dX6_votes_22 (by decide) ?_
      refine yc_i (wc := [(m0, .inr (12, [.ref m1, .ref m2, .ref m3, .ref m4, .ref m5, .ref m6, .int 0, .int 0, .int th]))]) (wr := [(m5, .inr (5, [.int mo, .ref ed, .int 0]))]) (va_runV (As := [.int 1, .int 1]) (rest := []) ⟨hx, hb, hml, hown, hts⟩ (g_no1 l hfl D tE H.size m0 m1 m2 m3 m4 m5 m6 0 0 th 1 (va_A [(m0, .inr (12, [.ref m1, .ref m2, .ref m3, .ref m4, .ref m5, .ref m6, .int 0, .int 0, .int th]))] H.size) rfl) (cwV 2 hts gX6_votes_X6_no rfl rfl rfl (by decide +kernel) ⟨Nat.le_of_ble_eq_true rfl, Nat.le_of_ble_eq_true rfl⟩) (yPreV (wc := [(m0, .inr (12, [.ref m1, .ref m2, .ref m3, .ref m4, .ref m5, .ref m6, .int 0, .int 0, .int th]))]) (tc := []) hK hP hD hS hA hE [0] [] (by decide) rfl rfl (ci := 12) (q0 := 0) (q := (RX6, TX6, 9)) rfl rfl) rfl rfl hl.1 rfl (lv_room (Nat.le_of_ble_eq_true rfl)) dX6_votes_23 ⟨Nat.le_of_ble_eq_true rfl, Nat.le_of_ble_eq_true rfl⟩) hP hD hS hA [0] [1] rfl rfl (by decide) (by decide) (fun r_7 u_8 H locs hw hP hD hS => ?_)
      have hP : va_P D vwCl [(m5, .inr (5, [.int mo, .ref ed, .int 0])), (m0, .inr (12, [.ref m1, .ref m2, .ref m3, .ref m4, .ref m5, .ref m6, .int 0, .int 0, .int 0]))] H := hP
      have hD : va_D A [(m5, .inr (5, [.int mo, .ref ed, .int 0])), (m0, .inr (12, [.ref m1, .ref m2, .ref m3, .ref m4, .ref m5, .ref m6, .int 0, .int 0, .int 0]))] := hD
      have hw : r_7 = 0 := hw
      subst hw
      refine lv_if_eq (tgt := 33) hx hb dX6_votes_26 (by decide) (fun _ => ?_) (fun h => absurd h (by decide))
      refine lv_aload_n hx hb dX6_votes_33 rfl (lv_at hl 0 rfl) ?_
      refine lv_aload_n hx hb dX6_votes_34 rfl (lv_at hl 0 rfl) ?_
      refine lv_iload_n hx hb dX6_votes_35 rfl (lv_at hl 1 rfl) ?_
      refine yc_r (wc := [(m0, .inr (12, [.ref m1, .ref m2, .ref m3, .ref m4, .ref m5, .ref m6, .int 0, .int 0, .int 0]))]) (wr := [(m5, .inr (5, [.int mo, .ref ed, .int 0]))]) (va_runV (As := [.int p0]) (rest := [.ref m0]) ⟨hx, hb, hml, hown, hts⟩ (m_row l hfl D tE H.size m0 m1 m2 m3 m4 m5 m6 0 0 0 p0 w_3 (va_A [(m0, .inr (12, [.ref m1, .ref m2, .ref m3, .ref m4, .ref m5, .ref m6, .int 0, .int 0, .int 0]))] H.size) rfl) (cwV 1 hts gX6_votes_X6_row rfl rfl rfl (by decide +kernel) ⟨Nat.le_of_ble_eq_true rfl, Nat.le_of_ble_eq_true rfl⟩) (yPreV (wc := [(m0, .inr (12, [.ref m1, .ref m2, .ref m3, .ref m4, .ref m5, .ref m6, .int 0, .int 0, .int 0]))]) (tc := []) hK hP hD hS hA hE [1] [] (by decide) rfl rfl (ci := 12) (q0 := 1) (q := (RX6, TX6, 9)) rfl rfl) rfl rfl hl.1 rfl (lv_room (Nat.le_of_ble_eq_true rfl)) dX6_votes_36 ⟨Nat.le_of_ble_eq_true rfl, Nat.le_of_ble_eq_true rfl⟩) hP hD hS hA [1] [0] rfl rfl (by decide) (by decide) (fun r_9 u_10 H locs hw hP hD hS => ?_)
      have hP : va_P D vwCl [(m5, .inr (5, [.int mo, .ref ed, .int 0])), (m0, .inr (12, [.ref m1, .ref m2, .ref m3, .ref m4, .ref m5, .ref m6, .int 0, .int 0, .int 0]))] H := hP
      have hD : va_D A [(m5, .inr (5, [.int mo, .ref ed, .int 0])), (m0, .inr (12, [.ref m1, .ref m2, .ref m3, .ref m4, .ref m5, .ref m6, .int 0, .int 0, .int 0]))] := hD
      refine lv_aload_n hx hb dX6_votes_39 rfl (lv_at hl 0 rfl) ?_
      refine lv_iload_n hx hb dX6_votes_40 rfl (lv_at hl 2 rfl) ?_
      refine yc_r (wc := [(m0, .inr (12, [.ref m1, .ref m2, .ref m3, .ref m4, .ref m5, .ref m6, .int 0, .int 0, .int 0]))]) (wr := [(m5, .inr (5, [.int mo, .ref ed, .int 0]))]) (va_runV (As := [.int p1]) (rest := [.ref r_9, .ref m0]) ⟨hx, hb, hml, hown, hts⟩ (m_row l hfl D tE H.size m0 m1 m2 m3 m4 m5 m6 0 0 0 p1 w_6 (va_A [(m0, .inr (12, [.ref m1, .ref m2, .ref m3, .ref m4, .ref m5, .ref m6, .int 0, .int 0, .int 0]))] H.size) rfl) (cwV 1 hts gX6_votes_X6_row rfl rfl rfl (by decide +kernel) ⟨Nat.le_of_ble_eq_true rfl, Nat.le_of_ble_eq_true rfl⟩) (yPreV (wc := [(m0, .inr (12, [.ref m1, .ref m2, .ref m3, .ref m4, .ref m5, .ref m6, .int 0, .int 0, .int 0]))]) (tc := []) hK hP hD hS hA hE [1] [] (by decide) rfl rfl (ci := 12) (q0 := 1) (q := (RX6, TX6, 9)) rfl rfl) rfl rfl hl.1 rfl (lv_room (Nat.le_of_ble_eq_true rfl)) dX6_votes_41 ⟨Nat.le_of_ble_eq_true rfl, Nat.le_of_ble_eq_true rfl⟩) hP hD hS hA [1] [0] rfl rfl (by decide) (by decide) (fun r_11 u_12 H locs hw hP hD hS => ?_)
      have hP : va_P D vwCl [(m5, .inr (5, [.int mo, .ref ed, .int 0])), (m0, .inr (12, [.ref m1, .ref m2, .ref m3, .ref m4, .ref m5, .ref m6, .int 0, .int 0, .int 0]))] H := hP
      have hD : va_D A [(m5, .inr (5, [.int mo, .ref ed, .int 0])), (m0, .inr (12, [.ref m1, .ref m2, .ref m3, .ref m4, .ref m5, .ref m6, .int 0, .int 0, .int 0]))] := hD
      refine yc_i (wc := [(m0, .inr (12, [.ref m1, .ref m2, .ref m3, .ref m4, .ref m5, .ref m6, .int 0, .int 0, .int 0]))]) (wr := [(m5, .inr (5, [.int mo, .ref ed, .int 0]))]) (va_runV (As := [.ref r_9, .ref r_11]) (rest := []) ⟨hx, hb, hml, hown, hts⟩ (m_votesOf l hfl D tE H.size m0 m1 m2 m3 m4 m5 m6 0 0 r_9 r_11 (va_A [(m0, .inr (12, [.ref m1, .ref m2, .ref m3, .ref m4, .ref m5, .ref m6, .int 0, .int 0, .int 0]))] H.size) rfl) (cwV 2 hts gX6_votes_X6_votesOf rfl rfl rfl (by decide +kernel) ⟨Nat.le_of_ble_eq_true rfl, Nat.le_of_ble_eq_true rfl⟩) (yPreV (wc := [(m0, .inr (12, [.ref m1, .ref m2, .ref m3, .ref m4, .ref m5, .ref m6, .int 0, .int 0, .int 0]))]) (tc := []) hK hP hD hS hA hE [1] [] (by decide) rfl rfl (ci := 12) (q0 := 1) (q := (RX6, TX6, 9)) rfl rfl) rfl rfl hl.1 rfl (lv_room (Nat.le_of_ble_eq_true rfl)) dX6_votes_44 ⟨Nat.le_of_ble_eq_true rfl, Nat.le_of_ble_eq_true rfl⟩) hP hD hS hA [1] [0] rfl rfl (by decide) (by decide) (fun r_13 u_14 H locs hw hP hD hS => ?_)
      have hP : va_P D vwCl [(m5, .inr (5, [.int mo, .ref ed, .int 0])), (m0, .inr (12, [.ref m1, .ref m2, .ref m3, .ref m4, .ref m5, .ref m6, .int 0, .int 0, .int 0]))] H := hP
      have hD : va_D A [(m5, .inr (5, [.int mo, .ref ed, .int 0])), (m0, .inr (12, [.ref m1, .ref m2, .ref m3, .ref m4, .ref m5, .ref m6, .int 0, .int 0, .int 0]))] := hD
      have hw : r_13 = 0 := hw
      subst hw
      exact y_iret hx hb hr hlocks (0 : Int32) (Or.inl ⟨rfl, rfl, (yz_m_votes_50 p0 p1 w_3 w_6)⟩) (hP.sub [1] rfl) (hD.sub [1] (by decide) rfl) hS (Nat.le_of_ble_eq_true rfl) (Nat.le_of_ble_eq_true rfl) dX6_votes_47
    · subst hr9
      have w_15 : ¬ p1 = -1 := hw9
      refine lv_if_eq (tgt := 21) hx hb dX6_votes_14 (by decide) (fun _ => ?_) (fun h => absurd h (by decide))
      refine lv_iconst (v := (0)) hx hb dX6_votes_21 (by decide) ?_
      refine lv_iconst (v := (1)) hx hb dX6_votes_22 (by decide) ?_
      refine yc_i (wc := [(m0, .inr (12, [.ref m1, .ref m2, .ref m3, .ref m4, .ref m5, .ref m6, .int 0, .int 0, .int th]))]) (wr := [(m5, .inr (5, [.int mo, .ref ed, .int 0]))]) (va_runV (As := [.int 0, .int 1]) (rest := []) ⟨hx, hb, hml, hown, hts⟩ (g_no0 l hfl D tE H.size m0 m1 m2 m3 m4 m5 m6 0 0 th 1 (va_A [(m0, .inr (12, [.ref m1, .ref m2, .ref m3, .ref m4, .ref m5, .ref m6, .int 0, .int 0, .int th]))] H.size) rfl) (cwV 2 hts gX6_votes_X6_no rfl rfl rfl (by decide +kernel) ⟨Nat.le_of_ble_eq_true rfl, Nat.le_of_ble_eq_true rfl⟩) (yPreV (wc := [(m0, .inr (12, [.ref m1, .ref m2, .ref m3, .ref m4, .ref m5, .ref m6, .int 0, .int 0, .int th]))]) (tc := []) hK hP hD hS hA hE [0] [] (by decide) rfl rfl (ci := 12) (q0 := 0) (q := (RX6, TX6, 9)) rfl rfl) rfl rfl hl.1 rfl (lv_room (Nat.le_of_ble_eq_true rfl)) dX6_votes_23 ⟨Nat.le_of_ble_eq_true rfl, Nat.le_of_ble_eq_true rfl⟩) hP hD hS hA [0] [1] rfl rfl (by decide) (by decide) (fun r_16 u_17 H locs hw hP hD hS => ?_)
      have hP : va_P D vwCl [(m5, .inr (5, [.int mo, .ref ed, .int 0])), (m0, .inr (12, [.ref m1, .ref m2, .ref m3, .ref m4, .ref m5, .ref m6, .int 0, .int 0, .int 1]))] H := hP
      have hD : va_D A [(m5, .inr (5, [.int mo, .ref ed, .int 0])), (m0, .inr (12, [.ref m1, .ref m2, .ref m3, .ref m4, .ref m5, .ref m6, .int 0, .int 0, .int 1]))] := hD
      have hw : r_16 = 1 := hw
      subst hw
      refine lv_if_eq (tgt := 33) hx hb dX6_votes_26 (by decide) (fun h => absurd h (by decide)) (fun _ => ?_)
      refine lv_iconst (v := (0)) hx hb dX6_votes_29 (by decide) ?_
      refine lv_goto (tgt := 47) hx hb dX6_votes_30 (by decide) ?_
      exact y_iret hx hb hr hlocks (1 : Int32) (Or.inr ⟨rfl, rfl, (yz_m_votes_51 p0 p1 w_3 w_15)⟩) (hP.sub [1] rfl) (hD.sub [1] (by decide) rfl) hS (Nat.le_of_ble_eq_true rfl) (Nat.le_of_ble_eq_true rfl) dX6_votes_47
  · subst hr9
    have w_18 : ¬ p0 = -1 := hw9
    refine lv_if_eq (tgt := 21) hx hb dX6_votes_6 (by decide) (fun _ => ?_) (fun h => absurd h (by decide))
    refine lv_iconst (v := (0)) hx hb dX6_votes_21 (by decide) ?_
    refine lv_iconst (v := (1)) hx hb dX6_votes_22 (by decide) ?_
    refine yc_i (wc := [(m0, .inr (12, [.ref m1, .ref m2, .ref m3, .ref m4, .ref m5, .ref m6, .int 0, .int 0, .int th]))]) (wr := [(m5, .inr (5, [.int mo, .ref ed, .int 0]))]) (va_runV (As := [.int 0, .int 1]) (rest := []) ⟨hx, hb, hml, hown, hts⟩ (g_no0 l hfl D tE H.size m0 m1 m2 m3 m4 m5 m6 0 0 th 1 (va_A [(m0, .inr (12, [.ref m1, .ref m2, .ref m3, .ref m4, .ref m5, .ref m6, .int 0, .int 0, .int th]))] H.size) rfl) (cwV 2 hts gX6_votes_X6_no rfl rfl rfl (by decide +kernel) ⟨Nat.le_of_ble_eq_true rfl, Nat.le_of_ble_eq_true rfl⟩) (yPreV (wc := [(m0, .inr (12, [.ref m1, .ref m2, .ref m3, .ref m4, .ref m5, .ref m6, .int 0, .int 0, .int th]))]) (tc := []) hK hP hD hS hA hE [0] [] (by decide) rfl rfl (ci := 12) (q0 := 0) (q := (RX6, TX6, 9)) rfl rfl) rfl rfl hl.1 rfl (lv_room (Nat.le_of_ble_eq_true rfl)) dX6_votes_23 ⟨Nat.le_of_ble_eq_true rfl, Nat.le_of_ble_eq_true rfl⟩) hP hD hS hA [0] [1] rfl rfl (by decide) (by decide) (fun r_19 u_20 H locs hw hP hD hS => ?_)
    have hP : va_P D vwCl [(m5, .inr (5, [.int mo, .ref ed, .int 0])), (m0, .inr (12, [.ref m1, .ref m2, .ref m3, .ref m4, .ref m5, .ref m6, .int 0, .int 0, .int 1]))] H := hP
    have hD : va_D A [(m5, .inr (5, [.int mo, .ref ed, .int 0])), (m0, .inr (12, [.ref m1, .ref m2, .ref m3, .ref m4, .ref m5, .ref m6, .int 0, .int 0, .int 1]))] := hD
    have hw : r_19 = 1 := hw
    subst hw
    refine lv_if_eq (tgt := 33) hx hb dX6_votes_26 (by decide) (fun h => absurd h (by decide)) (fun _ => ?_)
    refine lv_iconst (v := (0)) hx hb dX6_votes_29 (by decide) ?_
    refine lv_goto (tgt := 47) hx hb dX6_votes_30 (by decide) ?_
    exact y_iret hx hb hr hlocks (1 : Int32) (Or.inr ⟨rfl, rfl, (yz_m_votes_52 p0 p1 w_18)⟩) (hP.sub [1] rfl) (hD.sub [1] (by decide) rfl) hS (Nat.le_of_ble_eq_true rfl) (Nat.le_of_ble_eq_true rfl) dX6_votes_47
theorem yz_m_margin_53 (p0 : Int32) (p1 : Int32) (h0 : p0 = -1) (h1 : p1 = -1) : (p0 = -1 ∧ p1 = -1) := by grind
theorem yz_m_margin_54 (p0 : Int32) (p1 : Int32) (h0 : p0 = -1) (h1 : ¬ p1 = -1) : ¬ (p0 = -1 ∧ p1 = -1) := by grind
theorem yz_m_margin_55 (p0 : Int32) (p1 : Int32) (h0 : ¬ p0 = -1) : ¬ (p0 = -1 ∧ p1 = -1) := by grind

set_option maxHeartbeats 4000000 in
set_option maxRecDepth 100000 in
theorem m_margin (l : Launch) (hfl : l.stackTraces = false) (D : va_G) (tE : Nat) (sz : Nat) (m0 : Nat) (m1 : Nat) (m2 : Nat) (m3 : Nat) (m4 : Nat) (m5 : Nat) (m6 : Nat) (th : Int32) (p0 : Int32) (p1 : Int32) (mo : Int32) (ed : Nat) (A : Nat → Prop) (hA0 : A = va_A [(m0, .inr (12, [.ref m1, .ref m2, .ref m3, .ref m4, .ref m5, .ref m6, .int 0, .int 0, .int th])), (m5, .inr (5, [.int mo, .ref ed, .int 0]))] sz) : Met l yX6_margin wsX6_margin (yR 3 0 0) (yP D tE [(m0, .inr (12, [.ref m1, .ref m2, .ref m3, .ref m4, .ref m5, .ref m6, .int 0, .int 0, .int th])), (m5, .inr (5, [.int mo, .ref ed, .int 0]))] [] sz [.ref m0, .int p0, .int p1]) (va_Qi (S := Int32) (fun (r : Int32) (u : Int32) => (r = 0 ∧ u = 0 ∧ (p0 = -1 ∧ p1 = -1)) ∨ (r = 0 ∧ u = 1 ∧ ¬ (p0 = -1 ∧ p1 = -1))) (fun (u : Int32) (t : State) => yB D A ((fun (u : Int32) => [(m0, .inr (12, [.ref m1, .ref m2, .ref m3, .ref m4, .ref m5, .ref m6, .int 0, .int 0, .int u]))]) u) t) A) 0 0 A := by
  refine Met.ofW (cc := cX6_margin) (maxL := 3) (ret := (some .int)) (by decide) rfl ?_
  intro p e s m args below meth c s₁ B hml hv
  obtain ⟨rfl, rfl, hP, hK, hD, hE, hA⟩ := y_start hA0 hv
  have hx := B.exec
  have hb := B.bytes
  have hr := B.returns
  have hts := atoms_spec (ws := wsX6_margin) B.pre
  have hown : s.vm.findClass RX6 = some m.cls := findClass_of_methodNamed B.named
  have hlocks := B.notSynchronized
  clear hA0 hv
  have hS : va_S A s.heap s.heap [] := va_S.rf
  have hl := lv_entry ([.ref m0, .int p0, .int p1]) (n := 3) (Nat.le_of_ble_eq_true rfl)
  rw [lg_entry_eq]
  generalize (lg_sl ([.ref m0, .int p0, .int p1]) ++ List.replicate (3 - (lg_sl ([.ref m0, .int p0, .int p1])).length) Slot.unset).toArray = ls at hl ⊢
  have hl : lv_has ls 3 [(0, .ref m0), (1, .int p0), (2, .int p1)] := hl
  refine lv_aload_n hx hb dX6_margin_0 rfl (lv_at hl 0 rfl) ?_
  refine lv_aload_n hx hb dX6_margin_1 rfl (lv_at hl 0 rfl) ?_
  refine lv_iload_n hx hb dX6_margin_2 rfl (lv_at hl 1 rfl) ?_
  refine yc_i (wc := [(m0, .inr (12, [.ref m1, .ref m2, .ref m3, .ref m4, .ref m5, .ref m6, .int 0, .int 0, .int th])), (m5, .inr (5, [.int mo, .ref ed, .int 0]))]) (wr := []) (va_runV (As := [.int p0]) (rest := [.ref m0]) ⟨hx, hb, hml, hown, hts⟩ (m_isAny l hfl D tE s.heap.size m0 m1 m2 m3 m4 m5 m6 0 0 th p0 mo ed (va_A [(m0, .inr (12, [.ref m1, .ref m2, .ref m3, .ref m4, .ref m5, .ref m6, .int 0, .int 0, .int th])), (m5, .inr (5, [.int mo, .ref ed, .int 0]))] s.heap.size) rfl) (cwV 1 hts gX6_margin_X6_isAny rfl rfl rfl (by decide +kernel) ⟨Nat.le_of_ble_eq_true rfl, Nat.le_of_ble_eq_true rfl⟩) (yPreV (wc := [(m0, .inr (12, [.ref m1, .ref m2, .ref m3, .ref m4, .ref m5, .ref m6, .int 0, .int 0, .int th])), (m5, .inr (5, [.int mo, .ref ed, .int 0]))]) (tc := []) hK hP hD hS hA hE [0, 1] [] (by decide) rfl rfl (ci := 12) (q0 := 0) (q := (RX6, TX6, 9)) rfl rfl) rfl rfl hl.1 rfl (lv_room (Nat.le_of_ble_eq_true rfl)) dX6_margin_3 ⟨Nat.le_of_ble_eq_true rfl, Nat.le_of_ble_eq_true rfl⟩) hP hD hS hA [0, 1] [] rfl rfl (by decide) (by decide) (fun r_1 u_2 H locs hw hP hD hS => ?_)
  have hP : va_P D vwCl [(m0, .inr (12, [.ref m1, .ref m2, .ref m3, .ref m4, .ref m5, .ref m6, .int 0, .int 0, .int th])), (m5, .inr (5, [.int mo, .ref ed, .int 0]))] H := hP
  have hD : va_D A [(m0, .inr (12, [.ref m1, .ref m2, .ref m3, .ref m4, .ref m5, .ref m6, .int 0, .int 0, .int th])), (m5, .inr (5, [.int mo, .ref ed, .int 0]))] := hD
  have hw : (r_1 = 1 ∧ p0 = -1) ∨ (r_1 = 0 ∧ ¬ p0 = -1) := hw
  rcases hw with ⟨hr9, hw9⟩ | ⟨hr9, hw9⟩
  · subst hr9
    have w_3 : p0 = -1 := hw9
    refine lv_if_eq (tgt := 21) hx hb dX6_margin_6 (by decide) (fun h => absurd h (by decide)) (fun _ => ?_)
    refine lv_aload_n hx hb dX6_margin_9 rfl (lv_at hl 0 rfl) ?_
    refine lv_iload_n hx hb dX6_margin_10 rfl (lv_at hl 2 rfl) ?_
    refine yc_i (wc := [(m0, .inr (12, [.ref m1, .ref m2, .ref m3, .ref m4, .ref m5, .ref m6, .int 0, .int 0, .int th])), (m5, .inr (5, [.int mo, .ref ed, .int 0]))]) (wr := []) (va_runV (As := [.int p1]) (rest := [.ref m0]) ⟨hx, hb, hml, hown, hts⟩ (m_isAny l hfl D tE H.size m0 m1 m2 m3 m4 m5 m6 0 0 th p1 mo ed (va_A [(m0, .inr (12, [.ref m1, .ref m2, .ref m3, .ref m4, .ref m5, .ref m6, .int 0, .int 0, .int th])), (m5, .inr (5, [.int mo, .ref ed, .int 0]))] H.size) rfl) (cwV 1 hts gX6_margin_X6_isAny rfl rfl rfl (by decide +kernel) ⟨Nat.le_of_ble_eq_true rfl, Nat.le_of_ble_eq_true rfl⟩) (yPreV (wc := [(m0, .inr (12, [.ref m1, .ref m2, .ref m3, .ref m4, .ref m5, .ref m6, .int 0, .int 0, .int th])), (m5, .inr (5, [.int mo, .ref ed, .int 0]))]) (tc := []) hK hP hD hS hA hE [0, 1] [] (by decide) rfl rfl (ci := 12) (q0 := 0) (q := (RX6, TX6, 9)) rfl rfl) rfl rfl hl.1 rfl (lv_room (Nat.le_of_ble_eq_true rfl)) dX6_margin_11 ⟨Nat.le_of_ble_eq_true rfl, Nat.le_of_ble_eq_true rfl⟩) hP hD hS hA [0, 1] [] rfl rfl (by decide) (by decide) (fun r_4 u_5 H locs hw hP hD hS => ?_)
    have hP : va_P D vwCl [(m0, .inr (12, [.ref m1, .ref m2, .ref m3, .ref m4, .ref m5, .ref m6, .int 0, .int 0, .int th])), (m5, .inr (5, [.int mo, .ref ed, .int 0]))] H := hP
    have hD : va_D A [(m0, .inr (12, [.ref m1, .ref m2, .ref m3, .ref m4, .ref m5, .ref m6, .int 0, .int 0, .int th])), (m5, .inr (5, [.int mo, .ref ed, .int 0]))] := hD
    have hw : (r_4 = 1 ∧ p1 = -1) ∨ (r_4 = 0 ∧ ¬ p1 = -1) := hw
    rcases hw with ⟨hr9, hw9⟩ | ⟨hr9, hw9⟩
    · subst hr9
      have w_6 : p1 = -1 := hw9
      refine lv_if_eq (tgt := 21) hx hb dX6_margin_14 (by decide) (fun h => absurd h (by decide)) (fun _ => ?_)
      refine lv_iconst (v := (1)) hx hb dX6_margin_17 (by decide) ?_
      refine lv_goto (tgt := 22) hx hb dX6_margin_18 (by decide) ?_
      refine lv_iconst (v := (1)) hx hb dX6_margin_22 (by decide) ?_
      refine yc_i (wc := [(m0, .inr (12, [.ref m1, .ref m2, .ref m3, .ref m4, .ref m5, .ref m6, .int 0, .int 0, .int th]))]) (wr := [(m5, .inr (5, [.int mo, .ref ed, .int 0]))]) (va_runV (As := [.int 1, .int 1]) (rest := []) ⟨hx, hb, hml, hown, hts⟩ (g_no1 l hfl D tE H.size m0 m1 m2 m3 m4 m5 m6 0 0 th 1 (va_A [(m0, .inr (12, [.ref m1, .ref m2, .ref m3, .ref m4, .ref m5, .ref m6, .int 0, .int 0, .int th]))] H.size) rfl) (cwV 2 hts gX6_margin_X6_no rfl rfl rfl (by decide +kernel) ⟨Nat.le_of_ble_eq_true rfl, Nat.le_of_ble_eq_true rfl⟩) (yPreV (wc := [(m0, .inr (12, [.ref m1, .ref m2, .ref m3, .ref m4, .ref m5, .ref m6, .int 0, .int 0, .int th]))]) (tc := []) hK hP hD hS hA hE [0] [] (by decide) rfl rfl (ci := 12) (q0 := 0) (q := (RX6, TX6, 9)) rfl rfl) rfl rfl hl.1 rfl (lv_room (Nat.le_of_ble_eq_true rfl)) dX6_margin_23 ⟨Nat.le_of_ble_eq_true rfl, Nat.le_of_ble_eq_true rfl⟩) hP hD hS hA [0] [1] rfl rfl (by decide) (by decide) (fun r_7 u_8 H locs hw hP hD hS => ?_)
      have hP : va_P D vwCl [(m5, .inr (5, [.int mo, .ref ed, .int 0])), (m0, .inr (12, [.ref m1, .ref m2, .ref m3, .ref m4, .ref m5, .ref m6, .int 0, .int 0, .int 0]))] H := hP
      have hD : va_D A [(m5, .inr (5, [.int mo, .ref ed, .int 0])), (m0, .inr (12, [.ref m1, .ref m2, .ref m3, .ref m4, .ref m5, .ref m6, .int 0, .int 0, .int 0]))] := hD
      have hw : r_7 = 0 := hw
      subst hw
      refine lv_if_eq (tgt := 33) hx hb dX6_margin_26 (by decide) (fun _ => ?_) (fun h => absurd h (by decide))
      refine lv_aload_n hx hb dX6_margin_33 rfl (lv_at hl 0 rfl) ?_
      refine lv_aload_n hx hb dX6_margin_34 rfl (lv_at hl 0 rfl) ?_
      refine lv_iload_n hx hb dX6_margin_35 rfl (lv_at hl 1 rfl) ?_
      refine yc_r (wc := [(m0, .inr (12, [.ref m1, .ref m2, .ref m3, .ref m4, .ref m5, .ref m6, .int 0, .int 0, .int 0]))]) (wr := [(m5, .inr (5, [.int mo, .ref ed, .int 0]))]) (va_runV (As := [.int p0]) (rest := [.ref m0]) ⟨hx, hb, hml, hown, hts⟩ (m_row l hfl D tE H.size m0 m1 m2 m3 m4 m5 m6 0 0 0 p0 w_3 (va_A [(m0, .inr (12, [.ref m1, .ref m2, .ref m3, .ref m4, .ref m5, .ref m6, .int 0, .int 0, .int 0]))] H.size) rfl) (cwV 1 hts gX6_margin_X6_row rfl rfl rfl (by decide +kernel) ⟨Nat.le_of_ble_eq_true rfl, Nat.le_of_ble_eq_true rfl⟩) (yPreV (wc := [(m0, .inr (12, [.ref m1, .ref m2, .ref m3, .ref m4, .ref m5, .ref m6, .int 0, .int 0, .int 0]))]) (tc := []) hK hP hD hS hA hE [1] [] (by decide) rfl rfl (ci := 12) (q0 := 1) (q := (RX6, TX6, 9)) rfl rfl) rfl rfl hl.1 rfl (lv_room (Nat.le_of_ble_eq_true rfl)) dX6_margin_36 ⟨Nat.le_of_ble_eq_true rfl, Nat.le_of_ble_eq_true rfl⟩) hP hD hS hA [1] [0] rfl rfl (by decide) (by decide) (fun r_9 u_10 H locs hw hP hD hS => ?_)
      have hP : va_P D vwCl [(m5, .inr (5, [.int mo, .ref ed, .int 0])), (m0, .inr (12, [.ref m1, .ref m2, .ref m3, .ref m4, .ref m5, .ref m6, .int 0, .int 0, .int 0]))] H := hP
      have hD : va_D A [(m5, .inr (5, [.int mo, .ref ed, .int 0])), (m0, .inr (12, [.ref m1, .ref m2, .ref m3, .ref m4, .ref m5, .ref m6, .int 0, .int 0, .int 0]))] := hD
      refine lv_aload_n hx hb dX6_margin_39 rfl (lv_at hl 0 rfl) ?_
      refine lv_iload_n hx hb dX6_margin_40 rfl (lv_at hl 2 rfl) ?_
      refine yc_r (wc := [(m0, .inr (12, [.ref m1, .ref m2, .ref m3, .ref m4, .ref m5, .ref m6, .int 0, .int 0, .int 0]))]) (wr := [(m5, .inr (5, [.int mo, .ref ed, .int 0]))]) (va_runV (As := [.int p1]) (rest := [.ref r_9, .ref m0]) ⟨hx, hb, hml, hown, hts⟩ (m_row l hfl D tE H.size m0 m1 m2 m3 m4 m5 m6 0 0 0 p1 w_6 (va_A [(m0, .inr (12, [.ref m1, .ref m2, .ref m3, .ref m4, .ref m5, .ref m6, .int 0, .int 0, .int 0]))] H.size) rfl) (cwV 1 hts gX6_margin_X6_row rfl rfl rfl (by decide +kernel) ⟨Nat.le_of_ble_eq_true rfl, Nat.le_of_ble_eq_true rfl⟩) (yPreV (wc := [(m0, .inr (12, [.ref m1, .ref m2, .ref m3, .ref m4, .ref m5, .ref m6, .int 0, .int 0, .int 0]))]) (tc := []) hK hP hD hS hA hE [1] [] (by decide) rfl rfl (ci := 12) (q0 := 1) (q := (RX6, TX6, 9)) rfl rfl) rfl rfl hl.1 rfl (lv_room (Nat.le_of_ble_eq_true rfl)) dX6_margin_41 ⟨Nat.le_of_ble_eq_true rfl, Nat.le_of_ble_eq_true rfl⟩) hP hD hS hA [1] [0] rfl rfl (by decide) (by decide) (fun r_11 u_12 H locs hw hP hD hS => ?_)
      have hP : va_P D vwCl [(m5, .inr (5, [.int mo, .ref ed, .int 0])), (m0, .inr (12, [.ref m1, .ref m2, .ref m3, .ref m4, .ref m5, .ref m6, .int 0, .int 0, .int 0]))] H := hP
      have hD : va_D A [(m5, .inr (5, [.int mo, .ref ed, .int 0])), (m0, .inr (12, [.ref m1, .ref m2, .ref m3, .ref m4, .ref m5, .ref m6, .int 0, .int 0, .int 0]))] := hD
      refine yc_i (wc := [(m0, .inr (12, [.ref m1, .ref m2, .ref m3, .ref m4, .ref m5, .ref m6, .int 0, .int 0, .int 0]))]) (wr := [(m5, .inr (5, [.int mo, .ref ed, .int 0]))]) (va_runV (As := [.ref r_9, .ref r_11]) (rest := []) ⟨hx, hb, hml, hown, hts⟩ (m_marginOf l hfl D tE H.size m0 m1 m2 m3 m4 m5 m6 0 0 r_9 r_11 (va_A [(m0, .inr (12, [.ref m1, .ref m2, .ref m3, .ref m4, .ref m5, .ref m6, .int 0, .int 0, .int 0]))] H.size) rfl) (cwV 2 hts gX6_margin_X6_marginOf rfl rfl rfl (by decide +kernel) ⟨Nat.le_of_ble_eq_true rfl, Nat.le_of_ble_eq_true rfl⟩) (yPreV (wc := [(m0, .inr (12, [.ref m1, .ref m2, .ref m3, .ref m4, .ref m5, .ref m6, .int 0, .int 0, .int 0]))]) (tc := []) hK hP hD hS hA hE [1] [] (by decide) rfl rfl (ci := 12) (q0 := 1) (q := (RX6, TX6, 9)) rfl rfl) rfl rfl hl.1 rfl (lv_room (Nat.le_of_ble_eq_true rfl)) dX6_margin_44 ⟨Nat.le_of_ble_eq_true rfl, Nat.le_of_ble_eq_true rfl⟩) hP hD hS hA [1] [0] rfl rfl (by decide) (by decide) (fun r_13 u_14 H locs hw hP hD hS => ?_)
      have hP : va_P D vwCl [(m5, .inr (5, [.int mo, .ref ed, .int 0])), (m0, .inr (12, [.ref m1, .ref m2, .ref m3, .ref m4, .ref m5, .ref m6, .int 0, .int 0, .int 0]))] H := hP
      have hD : va_D A [(m5, .inr (5, [.int mo, .ref ed, .int 0])), (m0, .inr (12, [.ref m1, .ref m2, .ref m3, .ref m4, .ref m5, .ref m6, .int 0, .int 0, .int 0]))] := hD
      have hw : r_13 = 0 := hw
      subst hw
      exact y_iret hx hb hr hlocks (0 : Int32) (Or.inl ⟨rfl, rfl, (yz_m_margin_53 p0 p1 w_3 w_6)⟩) (hP.sub [1] rfl) (hD.sub [1] (by decide) rfl) hS (Nat.le_of_ble_eq_true rfl) (Nat.le_of_ble_eq_true rfl) dX6_margin_47
    · subst hr9
      have w_15 : ¬ p1 = -1 := hw9
      refine lv_if_eq (tgt := 21) hx hb dX6_margin_14 (by decide) (fun _ => ?_) (fun h => absurd h (by decide))
      refine lv_iconst (v := (0)) hx hb dX6_margin_21 (by decide) ?_
      refine lv_iconst (v := (1)) hx hb dX6_margin_22 (by decide) ?_
      refine yc_i (wc := [(m0, .inr (12, [.ref m1, .ref m2, .ref m3, .ref m4, .ref m5, .ref m6, .int 0, .int 0, .int th]))]) (wr := [(m5, .inr (5, [.int mo, .ref ed, .int 0]))]) (va_runV (As := [.int 0, .int 1]) (rest := []) ⟨hx, hb, hml, hown, hts⟩ (g_no0 l hfl D tE H.size m0 m1 m2 m3 m4 m5 m6 0 0 th 1 (va_A [(m0, .inr (12, [.ref m1, .ref m2, .ref m3, .ref m4, .ref m5, .ref m6, .int 0, .int 0, .int th]))] H.size) rfl) (cwV 2 hts gX6_margin_X6_no rfl rfl rfl (by decide +kernel) ⟨Nat.le_of_ble_eq_true rfl, Nat.le_of_ble_eq_true rfl⟩) (yPreV (wc := [(m0, .inr (12, [.ref m1, .ref m2, .ref m3, .ref m4, .ref m5, .ref m6, .int 0, .int 0, .int th]))]) (tc := []) hK hP hD hS hA hE [0] [] (by decide) rfl rfl (ci := 12) (q0 := 0) (q := (RX6, TX6, 9)) rfl rfl) rfl rfl hl.1 rfl (lv_room (Nat.le_of_ble_eq_true rfl)) dX6_margin_23 ⟨Nat.le_of_ble_eq_true rfl, Nat.le_of_ble_eq_true rfl⟩) hP hD hS hA [0] [1] rfl rfl (by decide) (by decide) (fun r_16 u_17 H locs hw hP hD hS => ?_)
      have hP : va_P D vwCl [(m5, .inr (5, [.int mo, .ref ed, .int 0])), (m0, .inr (12, [.ref m1, .ref m2, .ref m3, .ref m4, .ref m5, .ref m6, .int 0, .int 0, .int 1]))] H := hP
      have hD : va_D A [(m5, .inr (5, [.int mo, .ref ed, .int 0])), (m0, .inr (12, [.ref m1, .ref m2, .ref m3, .ref m4, .ref m5, .ref m6, .int 0, .int 0, .int 1]))] := hD
      have hw : r_16 = 1 := hw
      subst hw
      refine lv_if_eq (tgt := 33) hx hb dX6_margin_26 (by decide) (fun h => absurd h (by decide)) (fun _ => ?_)
      refine lv_iconst (v := (0)) hx hb dX6_margin_29 (by decide) ?_
      refine lv_goto (tgt := 47) hx hb dX6_margin_30 (by decide) ?_
      exact y_iret hx hb hr hlocks (1 : Int32) (Or.inr ⟨rfl, rfl, (yz_m_margin_54 p0 p1 w_3 w_15)⟩) (hP.sub [1] rfl) (hD.sub [1] (by decide) rfl) hS (Nat.le_of_ble_eq_true rfl) (Nat.le_of_ble_eq_true rfl) dX6_margin_47
  · subst hr9
    have w_18 : ¬ p0 = -1 := hw9
    refine lv_if_eq (tgt := 21) hx hb dX6_margin_6 (by decide) (fun _ => ?_) (fun h => absurd h (by decide))
    refine lv_iconst (v := (0)) hx hb dX6_margin_21 (by decide) ?_
    refine lv_iconst (v := (1)) hx hb dX6_margin_22 (by decide) ?_
    refine yc_i (wc := [(m0, .inr (12, [.ref m1, .ref m2, .ref m3, .ref m4, .ref m5, .ref m6, .int 0, .int 0, .int th]))]) (wr := [(m5, .inr (5, [.int mo, .ref ed, .int 0]))]) (va_runV (As := [.int 0, .int 1]) (rest := []) ⟨hx, hb, hml, hown, hts⟩ (g_no0 l hfl D tE H.size m0 m1 m2 m3 m4 m5 m6 0 0 th 1 (va_A [(m0, .inr (12, [.ref m1, .ref m2, .ref m3, .ref m4, .ref m5, .ref m6, .int 0, .int 0, .int th]))] H.size) rfl) (cwV 2 hts gX6_margin_X6_no rfl rfl rfl (by decide +kernel) ⟨Nat.le_of_ble_eq_true rfl, Nat.le_of_ble_eq_true rfl⟩) (yPreV (wc := [(m0, .inr (12, [.ref m1, .ref m2, .ref m3, .ref m4, .ref m5, .ref m6, .int 0, .int 0, .int th]))]) (tc := []) hK hP hD hS hA hE [0] [] (by decide) rfl rfl (ci := 12) (q0 := 0) (q := (RX6, TX6, 9)) rfl rfl) rfl rfl hl.1 rfl (lv_room (Nat.le_of_ble_eq_true rfl)) dX6_margin_23 ⟨Nat.le_of_ble_eq_true rfl, Nat.le_of_ble_eq_true rfl⟩) hP hD hS hA [0] [1] rfl rfl (by decide) (by decide) (fun r_19 u_20 H locs hw hP hD hS => ?_)
    have hP : va_P D vwCl [(m5, .inr (5, [.int mo, .ref ed, .int 0])), (m0, .inr (12, [.ref m1, .ref m2, .ref m3, .ref m4, .ref m5, .ref m6, .int 0, .int 0, .int 1]))] H := hP
    have hD : va_D A [(m5, .inr (5, [.int mo, .ref ed, .int 0])), (m0, .inr (12, [.ref m1, .ref m2, .ref m3, .ref m4, .ref m5, .ref m6, .int 0, .int 0, .int 1]))] := hD
    have hw : r_19 = 1 := hw
    subst hw
    refine lv_if_eq (tgt := 33) hx hb dX6_margin_26 (by decide) (fun h => absurd h (by decide)) (fun _ => ?_)
    refine lv_iconst (v := (0)) hx hb dX6_margin_29 (by decide) ?_
    refine lv_goto (tgt := 47) hx hb dX6_margin_30 (by decide) ?_
    exact y_iret hx hb hr hlocks (1 : Int32) (Or.inr ⟨rfl, rfl, (yz_m_margin_55 p0 p1 w_18)⟩) (hP.sub [1] rfl) (hD.sub [1] (by decide) rfl) hS (Nat.le_of_ble_eq_true rfl) (Nat.le_of_ble_eq_true rfl) dX6_margin_47
theorem yz_m_differ_56 (p0 : Int32) (p1 : Int32) (h0 : p0 = -1) (h1 : p1 = -1) : (p0 = -1 ∧ p1 = -1) := by grind
theorem yz_m_differ_57 (p0 : Int32) (p1 : Int32) (h0 : p0 = -1) (h1 : ¬ p1 = -1) : ¬ (p0 = -1 ∧ p1 = -1) := by grind
theorem yz_m_differ_58 (p0 : Int32) (p1 : Int32) (h0 : ¬ p0 = -1) : ¬ (p0 = -1 ∧ p1 = -1) := by grind
theorem iX6_differ_X6 : ∀ w ∈ wsX60, w ∈ wsX6_differ := by decide +kernel
theorem kX6_differ_1 : Cond.fieldLink RX6 48 "MostwellModel" "people" "I" ∈ wsX6_differ := List.mem_of_getElem? (i := 1) (by decide +kernel)
set_option maxHeartbeats 4000000 in
set_option maxRecDepth 100000 in
theorem m_differ (l : Launch) (hfl : l.stackTraces = false) (D : va_G) (tE : Nat) (sz : Nat) (m0 : Nat) (m1 : Nat) (m2 : Nat) (m3 : Nat) (m4 : Nat) (m5 : Nat) (m6 : Nat) (th : Int32) (p0 : Int32) (p1 : Int32) (mo : Int32) (ed : Nat) (A : Nat → Prop) (hA0 : A = va_A [(m0, .inr (12, [.ref m1, .ref m2, .ref m3, .ref m4, .ref m5, .ref m6, .int 0, .int 0, .int th])), (m5, .inr (5, [.int mo, .ref ed, .int 0]))] sz) : Met l yX6_differ wsX6_differ (yR 3 0 0) (yP D tE [(m0, .inr (12, [.ref m1, .ref m2, .ref m3, .ref m4, .ref m5, .ref m6, .int 0, .int 0, .int th])), (m5, .inr (5, [.int mo, .ref ed, .int 0]))] [] sz [.ref m0, .int p0, .int p1]) (va_Qi (S := Int32) (fun (r : Int32) (u : Int32) => (r = 0 ∧ u = 0 ∧ (p0 = -1 ∧ p1 = -1)) ∨ (r = 0 ∧ u = 1 ∧ ¬ (p0 = -1 ∧ p1 = -1))) (fun (u : Int32) (t : State) => yB D A ((fun (u : Int32) => [(m0, .inr (12, [.ref m1, .ref m2, .ref m3, .ref m4, .ref m5, .ref m6, .int 0, .int 0, .int u]))]) u) t) A) 0 0 A := by
  refine Met.ofW (cc := cX6_differ) (maxL := 5) (ret := (some .int)) (by decide) rfl ?_
  intro p e s m args below meth c s₁ B hml hv
  obtain ⟨rfl, rfl, hP, hK, hD, hE, hA⟩ := y_start hA0 hv
  have hx := B.exec
  have hb := B.bytes
  have hr := B.returns
  have hts := atoms_spec (ws := wsX6_differ) B.pre
  have hown : s.vm.findClass RX6 = some m.cls := findClass_of_methodNamed B.named
  have hlocks := B.notSynchronized
  clear hA0 hv
  have hS : va_S A s.heap s.heap [] := va_S.rf
  have hl := lv_entry ([.ref m0, .int p0, .int p1]) (n := 5) (Nat.le_of_ble_eq_true rfl)
  rw [lg_entry_eq]
  generalize (lg_sl ([.ref m0, .int p0, .int p1]) ++ List.replicate (5 - (lg_sl ([.ref m0, .int p0, .int p1])).length) Slot.unset).toArray = ls at hl ⊢
  have hl : lv_has ls 5 [(0, .ref m0), (1, .int p0), (2, .int p1)] := hl
  refine lv_aload_n hx hb dX6_differ_0 rfl (lv_at hl 0 rfl) ?_
  refine lv_aload_n hx hb dX6_differ_1 rfl (lv_at hl 0 rfl) ?_
  refine lv_iload_n hx hb dX6_differ_2 rfl (lv_at hl 1 rfl) ?_
  refine yc_i (wc := [(m0, .inr (12, [.ref m1, .ref m2, .ref m3, .ref m4, .ref m5, .ref m6, .int 0, .int 0, .int th])), (m5, .inr (5, [.int mo, .ref ed, .int 0]))]) (wr := []) (va_runV (As := [.int p0]) (rest := [.ref m0]) ⟨hx, hb, hml, hown, hts⟩ (m_isAny l hfl D tE s.heap.size m0 m1 m2 m3 m4 m5 m6 0 0 th p0 mo ed (va_A [(m0, .inr (12, [.ref m1, .ref m2, .ref m3, .ref m4, .ref m5, .ref m6, .int 0, .int 0, .int th])), (m5, .inr (5, [.int mo, .ref ed, .int 0]))] s.heap.size) rfl) (cwV 1 hts gX6_differ_X6_isAny rfl rfl rfl (by decide +kernel) ⟨Nat.le_of_ble_eq_true rfl, Nat.le_of_ble_eq_true rfl⟩) (yPreV (wc := [(m0, .inr (12, [.ref m1, .ref m2, .ref m3, .ref m4, .ref m5, .ref m6, .int 0, .int 0, .int th])), (m5, .inr (5, [.int mo, .ref ed, .int 0]))]) (tc := []) hK hP hD hS hA hE [0, 1] [] (by decide) rfl rfl (ci := 12) (q0 := 0) (q := (RX6, TX6, 9)) rfl rfl) rfl rfl hl.1 rfl (lv_room (Nat.le_of_ble_eq_true rfl)) dX6_differ_3 ⟨Nat.le_of_ble_eq_true rfl, Nat.le_of_ble_eq_true rfl⟩) hP hD hS hA [0, 1] [] rfl rfl (by decide) (by decide) (fun r_1 u_2 H locs hw hP hD hS => ?_)
  have hP : va_P D vwCl [(m0, .inr (12, [.ref m1, .ref m2, .ref m3, .ref m4, .ref m5, .ref m6, .int 0, .int 0, .int th])), (m5, .inr (5, [.int mo, .ref ed, .int 0]))] H := hP
  have hD : va_D A [(m0, .inr (12, [.ref m1, .ref m2, .ref m3, .ref m4, .ref m5, .ref m6, .int 0, .int 0, .int th])), (m5, .inr (5, [.int mo, .ref ed, .int 0]))] := hD
  have hw : (r_1 = 1 ∧ p0 = -1) ∨ (r_1 = 0 ∧ ¬ p0 = -1) := hw
  rcases hw with ⟨hr9, hw9⟩ | ⟨hr9, hw9⟩
  · subst hr9
    have w_3 : p0 = -1 := hw9
    refine lv_if_eq (tgt := 21) hx hb dX6_differ_6 (by decide) (fun h => absurd h (by decide)) (fun _ => ?_)
    refine lv_aload_n hx hb dX6_differ_9 rfl (lv_at hl 0 rfl) ?_
    refine lv_iload_n hx hb dX6_differ_10 rfl (lv_at hl 2 rfl) ?_
    refine yc_i (wc := [(m0, .inr (12, [.ref m1, .ref m2, .ref m3, .ref m4, .ref m5, .ref m6, .int 0, .int 0, .int th])), (m5, .inr (5, [.int mo, .ref ed, .int 0]))]) (wr := []) (va_runV (As := [.int p1]) (rest := [.ref m0]) ⟨hx, hb, hml, hown, hts⟩ (m_isAny l hfl D tE H.size m0 m1 m2 m3 m4 m5 m6 0 0 th p1 mo ed (va_A [(m0, .inr (12, [.ref m1, .ref m2, .ref m3, .ref m4, .ref m5, .ref m6, .int 0, .int 0, .int th])), (m5, .inr (5, [.int mo, .ref ed, .int 0]))] H.size) rfl) (cwV 1 hts gX6_differ_X6_isAny rfl rfl rfl (by decide +kernel) ⟨Nat.le_of_ble_eq_true rfl, Nat.le_of_ble_eq_true rfl⟩) (yPreV (wc := [(m0, .inr (12, [.ref m1, .ref m2, .ref m3, .ref m4, .ref m5, .ref m6, .int 0, .int 0, .int th])), (m5, .inr (5, [.int mo, .ref ed, .int 0]))]) (tc := []) hK hP hD hS hA hE [0, 1] [] (by decide) rfl rfl (ci := 12) (q0 := 0) (q := (RX6, TX6, 9)) rfl rfl) rfl rfl hl.1 rfl (lv_room (Nat.le_of_ble_eq_true rfl)) dX6_differ_11 ⟨Nat.le_of_ble_eq_true rfl, Nat.le_of_ble_eq_true rfl⟩) hP hD hS hA [0, 1] [] rfl rfl (by decide) (by decide) (fun r_4 u_5 H locs hw hP hD hS => ?_)
    have hP : va_P D vwCl [(m0, .inr (12, [.ref m1, .ref m2, .ref m3, .ref m4, .ref m5, .ref m6, .int 0, .int 0, .int th])), (m5, .inr (5, [.int mo, .ref ed, .int 0]))] H := hP
    have hD : va_D A [(m0, .inr (12, [.ref m1, .ref m2, .ref m3, .ref m4, .ref m5, .ref m6, .int 0, .int 0, .int th])), (m5, .inr (5, [.int mo, .ref ed, .int 0]))] := hD
    have hw : (r_4 = 1 ∧ p1 = -1) ∨ (r_4 = 0 ∧ ¬ p1 = -1) := hw
    rcases hw with ⟨hr9, hw9⟩ | ⟨hr9, hw9⟩
    · subst hr9
      have w_6 : p1 = -1 := hw9
      refine lv_if_eq (tgt := 21) hx hb dX6_differ_14 (by decide) (fun h => absurd h (by decide)) (fun _ => ?_)
      refine lv_iconst (v := (1)) hx hb dX6_differ_17 (by decide) ?_
      refine lv_goto (tgt := 22) hx hb dX6_differ_18 (by decide) ?_
      refine lv_iconst (v := (1)) hx hb dX6_differ_22 (by decide) ?_
      refine yc_i (wc := [(m0, .inr (12, [.ref m1, .ref m2, .ref m3, .ref m4, .ref m5, .ref m6, .int 0, .int 0, .int th]))]) (wr := [(m5, .inr (5, [.int mo, .ref ed, .int 0]))]) (va_runV (As := [.int 1, .int 1]) (rest := []) ⟨hx, hb, hml, hown, hts⟩ (g_no1 l hfl D tE H.size m0 m1 m2 m3 m4 m5 m6 0 0 th 1 (va_A [(m0, .inr (12, [.ref m1, .ref m2, .ref m3, .ref m4, .ref m5, .ref m6, .int 0, .int 0, .int th]))] H.size) rfl) (cwV 2 hts gX6_differ_X6_no rfl rfl rfl (by decide +kernel) ⟨Nat.le_of_ble_eq_true rfl, Nat.le_of_ble_eq_true rfl⟩) (yPreV (wc := [(m0, .inr (12, [.ref m1, .ref m2, .ref m3, .ref m4, .ref m5, .ref m6, .int 0, .int 0, .int th]))]) (tc := []) hK hP hD hS hA hE [0] [] (by decide) rfl rfl (ci := 12) (q0 := 0) (q := (RX6, TX6, 9)) rfl rfl) rfl rfl hl.1 rfl (lv_room (Nat.le_of_ble_eq_true rfl)) dX6_differ_23 ⟨Nat.le_of_ble_eq_true rfl, Nat.le_of_ble_eq_true rfl⟩) hP hD hS hA [0] [1] rfl rfl (by decide) (by decide) (fun r_7 u_8 H locs hw hP hD hS => ?_)
      have hP : va_P D vwCl [(m5, .inr (5, [.int mo, .ref ed, .int 0])), (m0, .inr (12, [.ref m1, .ref m2, .ref m3, .ref m4, .ref m5, .ref m6, .int 0, .int 0, .int 0]))] H := hP
      have hD : va_D A [(m5, .inr (5, [.int mo, .ref ed, .int 0])), (m0, .inr (12, [.ref m1, .ref m2, .ref m3, .ref m4, .ref m5, .ref m6, .int 0, .int 0, .int 0]))] := hD
      have hw : r_7 = 0 := hw
      subst hw
      refine lv_if_eq (tgt := 31) hx hb dX6_differ_26 (by decide) (fun _ => ?_) (fun h => absurd h (by decide))
      refine lv_iconst (v := (0)) hx hb dX6_differ_31 (by decide) ?_
      refine lv_istore_n (lv' := [(3, .int 0), (0, .ref m0), (1, .int p0), (2, .int p1)]) hx hb dX6_differ_32 rfl hl (by decide) rfl (fun ls hl => ?_)
      refine lv_iconst (v := (0)) hx hb dX6_differ_33 (by decide) ?_
      refine lv_istore (lv' := [(4, .int 0), (3, .int 0), (0, .ref m0), (1, .int p0), (2, .int p1)]) hx hb dX6_differ_34 hl (by decide) rfl (fun ls hl => ?_)
      refine lv_iload hx hb dX6_differ_36 (lv_at hl 0 rfl) ?_
      refine lv_aload_n hx hb dX6_differ_38 rfl (lv_at hl 2 rfl) ?_
      refine va_get (D := D) (ci := 12) (v := .int 0) (C := RX6) (T := TX6) (N := 9) hx hb hts iX6_differ_X6 hown hK hP 1 rfl rfl 6 (by decide) (hts _ kX6_differ_1) (fun _ h9 => h9) rfl dX6_differ_39 ?_
      refine lv_icmp_ge (tgt := 78) hx hb dX6_differ_42 (by decide) (fun _ => ?_) (fun h => absurd h (by decide))
      refine lv_iload_n hx hb dX6_differ_78 rfl (lv_at hl 1 rfl) ?_
      exact y_iret hx hb hr hlocks (0 : Int32) (Or.inl ⟨rfl, rfl, (yz_m_differ_56 p0 p1 w_3 w_6)⟩) (hP.sub [1] rfl) (hD.sub [1] (by decide) rfl) hS (Nat.le_of_ble_eq_true rfl) (Nat.le_of_ble_eq_true rfl) dX6_differ_79
    · subst hr9
      have w_9 : ¬ p1 = -1 := hw9
      refine lv_if_eq (tgt := 21) hx hb dX6_differ_14 (by decide) (fun _ => ?_) (fun h => absurd h (by decide))
      refine lv_iconst (v := (0)) hx hb dX6_differ_21 (by decide) ?_
      refine lv_iconst (v := (1)) hx hb dX6_differ_22 (by decide) ?_
      refine yc_i (wc := [(m0, .inr (12, [.ref m1, .ref m2, .ref m3, .ref m4, .ref m5, .ref m6, .int 0, .int 0, .int th]))]) (wr := [(m5, .inr (5, [.int mo, .ref ed, .int 0]))]) (va_runV (As := [.int 0, .int 1]) (rest := []) ⟨hx, hb, hml, hown, hts⟩ (g_no0 l hfl D tE H.size m0 m1 m2 m3 m4 m5 m6 0 0 th 1 (va_A [(m0, .inr (12, [.ref m1, .ref m2, .ref m3, .ref m4, .ref m5, .ref m6, .int 0, .int 0, .int th]))] H.size) rfl) (cwV 2 hts gX6_differ_X6_no rfl rfl rfl (by decide +kernel) ⟨Nat.le_of_ble_eq_true rfl, Nat.le_of_ble_eq_true rfl⟩) (yPreV (wc := [(m0, .inr (12, [.ref m1, .ref m2, .ref m3, .ref m4, .ref m5, .ref m6, .int 0, .int 0, .int th]))]) (tc := []) hK hP hD hS hA hE [0] [] (by decide) rfl rfl (ci := 12) (q0 := 0) (q := (RX6, TX6, 9)) rfl rfl) rfl rfl hl.1 rfl (lv_room (Nat.le_of_ble_eq_true rfl)) dX6_differ_23 ⟨Nat.le_of_ble_eq_true rfl, Nat.le_of_ble_eq_true rfl⟩) hP hD hS hA [0] [1] rfl rfl (by decide) (by decide) (fun r_10 u_11 H locs hw hP hD hS => ?_)
      have hP : va_P D vwCl [(m5, .inr (5, [.int mo, .ref ed, .int 0])), (m0, .inr (12, [.ref m1, .ref m2, .ref m3, .ref m4, .ref m5, .ref m6, .int 0, .int 0, .int 1]))] H := hP
      have hD : va_D A [(m5, .inr (5, [.int mo, .ref ed, .int 0])), (m0, .inr (12, [.ref m1, .ref m2, .ref m3, .ref m4, .ref m5, .ref m6, .int 0, .int 0, .int 1]))] := hD
      have hw : r_10 = 1 := hw
      subst hw
      refine lv_if_eq (tgt := 31) hx hb dX6_differ_26 (by decide) (fun h => absurd h (by decide)) (fun _ => ?_)
      refine lv_iconst (v := (0)) hx hb dX6_differ_29 (by decide) ?_
      exact y_iret hx hb hr hlocks (1 : Int32) (Or.inr ⟨rfl, rfl, (yz_m_differ_57 p0 p1 w_3 w_9)⟩) (hP.sub [1] rfl) (hD.sub [1] (by decide) rfl) hS (Nat.le_of_ble_eq_true rfl) (Nat.le_of_ble_eq_true rfl) dX6_differ_30
  · subst hr9
    have w_12 : ¬ p0 = -1 := hw9
    refine lv_if_eq (tgt := 21) hx hb dX6_differ_6 (by decide) (fun _ => ?_) (fun h => absurd h (by decide))
    refine lv_iconst (v := (0)) hx hb dX6_differ_21 (by decide) ?_
    refine lv_iconst (v := (1)) hx hb dX6_differ_22 (by decide) ?_
    refine yc_i (wc := [(m0, .inr (12, [.ref m1, .ref m2, .ref m3, .ref m4, .ref m5, .ref m6, .int 0, .int 0, .int th]))]) (wr := [(m5, .inr (5, [.int mo, .ref ed, .int 0]))]) (va_runV (As := [.int 0, .int 1]) (rest := []) ⟨hx, hb, hml, hown, hts⟩ (g_no0 l hfl D tE H.size m0 m1 m2 m3 m4 m5 m6 0 0 th 1 (va_A [(m0, .inr (12, [.ref m1, .ref m2, .ref m3, .ref m4, .ref m5, .ref m6, .int 0, .int 0, .int th]))] H.size) rfl) (cwV 2 hts gX6_differ_X6_no rfl rfl rfl (by decide +kernel) ⟨Nat.le_of_ble_eq_true rfl, Nat.le_of_ble_eq_true rfl⟩) (yPreV (wc := [(m0, .inr (12, [.ref m1, .ref m2, .ref m3, .ref m4, .ref m5, .ref m6, .int 0, .int 0, .int th]))]) (tc := []) hK hP hD hS hA hE [0] [] (by decide) rfl rfl (ci := 12) (q0 := 0) (q := (RX6, TX6, 9)) rfl rfl) rfl rfl hl.1 rfl (lv_room (Nat.le_of_ble_eq_true rfl)) dX6_differ_23 ⟨Nat.le_of_ble_eq_true rfl, Nat.le_of_ble_eq_true rfl⟩) hP hD hS hA [0] [1] rfl rfl (by decide) (by decide) (fun r_13 u_14 H locs hw hP hD hS => ?_)
    have hP : va_P D vwCl [(m5, .inr (5, [.int mo, .ref ed, .int 0])), (m0, .inr (12, [.ref m1, .ref m2, .ref m3, .ref m4, .ref m5, .ref m6, .int 0, .int 0, .int 1]))] H := hP
    have hD : va_D A [(m5, .inr (5, [.int mo, .ref ed, .int 0])), (m0, .inr (12, [.ref m1, .ref m2, .ref m3, .ref m4, .ref m5, .ref m6, .int 0, .int 0, .int 1]))] := hD
    have hw : r_13 = 1 := hw
    subst hw
    refine lv_if_eq (tgt := 31) hx hb dX6_differ_26 (by decide) (fun h => absurd h (by decide)) (fun _ => ?_)
    refine lv_iconst (v := (0)) hx hb dX6_differ_29 (by decide) ?_
    exact y_iret hx hb hr hlocks (1 : Int32) (Or.inr ⟨rfl, rfl, (yz_m_differ_58 p0 p1 w_12)⟩) (hP.sub [1] rfl) (hD.sub [1] (by decide) rfl) hS (Nat.le_of_ble_eq_true rfl) (Nat.le_of_ble_eq_true rfl) dX6_differ_30
theorem iX6_winner_X6 : ∀ w ∈ wsX60, w ∈ wsX6_winner := by decide +kernel
theorem kX6_winner_1 : Cond.fieldLink RX6 27 "MostwellModel" "kept" "Ljava/util/List;" ∈ wsX6_winner := List.mem_of_getElem? (i := 1) (by decide +kernel)
theorem kX6_winner_2 : Cond.fieldLink RX6 44 "MostwellModel" "thrown" "I" ∈ wsX6_winner := List.mem_of_getElem? (i := 2) (by decide +kernel)
set_option maxHeartbeats 4000000 in
set_option maxRecDepth 100000 in
theorem m_winner (l : Launch) (hfl : l.stackTraces = false) (D : va_G) (tE : Nat) (sz : Nat) (m0 : Nat) (m1 : Nat) (m2 : Nat) (m3 : Nat) (m4 : Nat) (m5 : Nat) (m6 : Nat) (th : Int32) (mo : Int32) (ed : Nat) (A : Nat → Prop) (hA0 : A = va_A [(m0, .inr (12, [.ref m1, .ref m2, .ref m3, .ref m4, .ref m5, .ref m6, .int 0, .int 0, .int th])), (m5, .inr (5, [.int mo, .ref ed, .int 0]))] sz) : Met l yX6_winner wsX6_winner (yR 2 0 0) (yP D tE [(m0, .inr (12, [.ref m1, .ref m2, .ref m3, .ref m4, .ref m5, .ref m6, .int 0, .int 0, .int th])), (m5, .inr (5, [.int mo, .ref ed, .int 0]))] [] sz [.ref m0]) (va_Qi (S := Unit) (fun (r : Int32) (u : Unit) => r = 0) (fun (u : Unit) (t : State) => yB D A ((fun (u : Unit) => [(m0, .inr (12, [.ref m1, .ref m2, .ref m3, .ref m4, .ref m5, .ref m6, .int 0, .int 0, .int 1]))]) u) t) A) 0 0 A := by
  refine Met.ofW (cc := cX6_winner) (maxL := 4) (ret := (some .int)) (by decide) rfl ?_
  intro p e s m args below meth c s₁ B hml hv
  obtain ⟨rfl, rfl, hP, hK, hD, hE, hA⟩ := y_start hA0 hv
  have hx := B.exec
  have hb := B.bytes
  have hr := B.returns
  have hts := atoms_spec (ws := wsX6_winner) B.pre
  have hown : s.vm.findClass RX6 = some m.cls := findClass_of_methodNamed B.named
  have hlocks := B.notSynchronized
  clear hA0 hv
  have hS : va_S A s.heap s.heap [] := va_S.rf
  have hl := lv_entry ([.ref m0]) (n := 4) (Nat.le_of_ble_eq_true rfl)
  rw [lg_entry_eq]
  generalize (lg_sl ([.ref m0]) ++ List.replicate (4 - (lg_sl ([.ref m0])).length) Slot.unset).toArray = ls at hl ⊢
  have hl : lv_has ls 4 [(0, .ref m0)] := hl
  refine lv_iconst (v := (0)) hx hb dX6_winner_0 (by decide) ?_
  refine lv_istore_n (lv' := [(1, .int 0), (0, .ref m0)]) hx hb dX6_winner_1 rfl hl (by decide) rfl (fun ls hl => ?_)
  refine lv_iload_n hx hb dX6_winner_2 rfl (lv_at hl 0 rfl) ?_
  refine lv_aload_n hx hb dX6_winner_3 rfl (lv_at hl 1 rfl) ?_
  refine va_get (D := D) (ci := 12) (v := .ref m5) (C := RX6) (T := TX6) (N := 9) hx hb hts iX6_winner_X6 hown hK hP 0 rfl rfl 4 (by decide) (hts _ kX6_winner_1) (fun _ h9 => h9) rfl dX6_winner_4 ?_
  refine yc5_i (wc := [(m5, .inr (5, [.int mo, .ref ed, .int 0]))]) (wr := [(m0, .inr (12, [.ref m1, .ref m2, .ref m3, .ref m4, .ref m5, .ref m6, .int 0, .int 0, .int th]))]) (va_runF (As := []) (rest := [.int 0]) (hK.1 5 _ rfl).2 ⟨hx, hb, hml, hown, hts⟩ (g_size l hfl D tE s.heap.size m5 mo ed 0 (va_A [(m5, .inr (5, [.int mo, .ref ed, .int 0]))] s.heap.size) rfl) (va_cwF 0 hts gX6_winner_Jx4a65c_size_8abf5_f114Jx4a65c rfl rfl rfl (hE.2.2.2.2.2.2.2.1 _ (List.mem_of_getElem? (i := 0) rfl)) (by decide +kernel) ⟨Nat.le_of_ble_eq_true rfl, Nat.le_of_ble_eq_true rfl⟩) (yPreV (wc := [(m5, .inr (5, [.int mo, .ref ed, .int 0]))]) (tc := []) hK hP hD hS hA hE [1] [] (by decide) rfl rfl (ci := 5) (q0 := 1) (q := (RJx4a65c, TJx4a65c, 3)) rfl rfl) rfl rfl hl.1 rfl (lv_room (Nat.le_of_ble_eq_true rfl)) dX6_winner_7 ⟨Nat.le_of_ble_eq_true rfl, Nat.le_of_ble_eq_true rfl⟩) hP hD hS hA [1] [0] rfl rfl (by decide) (by decide) (fun r_1 u_2 H locs hw hP hD hS => ?_)
  have hP : va_P D vwCl [(m0, .inr (12, [.ref m1, .ref m2, .ref m3, .ref m4, .ref m5, .ref m6, .int 0, .int 0, .int th])), (m5, .inr (5, [.int mo, .ref ed, .int 0]))] H := hP
  have hD : va_D A [(m0, .inr (12, [.ref m1, .ref m2, .ref m3, .ref m4, .ref m5, .ref m6, .int 0, .int 0, .int th])), (m5, .inr (5, [.int mo, .ref ed, .int 0]))] := hD
  have hw : r_1 = 0 := hw
  subst hw
  refine lv_icmp_ge (tgt := 76) hx hb dX6_winner_12 (by decide) (fun _ => ?_) (fun h => absurd h (by decide))
  refine lv_aload_n hx hb dX6_winner_76 rfl (lv_at hl 1 rfl) ?_
  refine lv_iconst (v := (1)) hx hb dX6_winner_77 (by decide) ?_
  refine va_put (D := D) (ci := 12) (v := .int 1) (ty := .int) (C := RX6) (T := TX6) (N := 9) hx hb hts iX6_winner_X6 tyX6 tyX6_ok nmX6 hown hK hP hD hS 0 rfl rfl 8 (by decide) (hts _ kX6_winner_2) (fun _ h9 => h9) rfl (by decide +kernel) rfl rfl (Nat.le_of_ble_eq_true rfl) dX6_winner_78 (fun H locs hP hD hS => ?_)
  have hP : va_P D vwCl [(m0, .inr (12, [.ref m1, .ref m2, .ref m3, .ref m4, .ref m5, .ref m6, .int 0, .int 0, .int 1])), (m5, .inr (5, [.int mo, .ref ed, .int 0]))] H := hP
  have hD : va_D A [(m0, .inr (12, [.ref m1, .ref m2, .ref m3, .ref m4, .ref m5, .ref m6, .int 0, .int 0, .int 1])), (m5, .inr (5, [.int mo, .ref ed, .int 0]))] := hD
  refine lv_iconst (v := (0)) hx hb dX6_winner_81 (by decide) ?_
  exact y_iret hx hb hr hlocks () rfl (hP.sub [0] rfl) (hD.sub [0] (by decide) rfl) hS (Nat.le_of_ble_eq_true rfl) (Nat.le_of_ble_eq_true rfl) dX6_winner_82
theorem iX6_hasCycle_X6 : ∀ w ∈ wsX60, w ∈ wsX6_hasCycle := by decide +kernel
theorem kX6_hasCycle_1 : Cond.fieldLink RX6 27 "MostwellModel" "kept" "Ljava/util/List;" ∈ wsX6_hasCycle := List.mem_of_getElem? (i := 1) (by decide +kernel)
set_option maxHeartbeats 4000000 in
set_option maxRecDepth 100000 in
theorem m_hasCycle (l : Launch) (hfl : l.stackTraces = false) (D : va_G) (tE : Nat) (sz : Nat) (m0 : Nat) (m1 : Nat) (m2 : Nat) (m3 : Nat) (m4 : Nat) (m5 : Nat) (m6 : Nat) (th : Int32) (mo : Int32) (ed : Nat) (A : Nat → Prop) (hA0 : A = va_A [(m0, .inr (12, [.ref m1, .ref m2, .ref m3, .ref m4, .ref m5, .ref m6, .int 0, .int 0, .int th])), (m5, .inr (5, [.int mo, .ref ed, .int 0]))] sz) : Met l yX6_hasCycle wsX6_hasCycle (yR 2 0 0) (yP D tE [(m0, .inr (12, [.ref m1, .ref m2, .ref m3, .ref m4, .ref m5, .ref m6, .int 0, .int 0, .int th])), (m5, .inr (5, [.int mo, .ref ed, .int 0]))] [] sz [.ref m0]) (va_Qi (S := Unit) (fun (r : Int32) (u : Unit) => r = 0) (fun (u : Unit) (t : State) => yB D A ((fun (u : Unit) => [(m0, .inr (12, [.ref m1, .ref m2, .ref m3, .ref m4, .ref m5, .ref m6, .int 0, .int 0, .int th]))]) u) t) A) 0 0 A := by
  refine Met.ofW (cc := cX6_hasCycle) (maxL := 3) (ret := (some .boolean)) (by decide) rfl ?_
  intro p e s m args below meth c s₁ B hml hv
  obtain ⟨rfl, rfl, hP, hK, hD, hE, hA⟩ := y_start hA0 hv
  have hx := B.exec
  have hb := B.bytes
  have hr := B.returns
  have hts := atoms_spec (ws := wsX6_hasCycle) B.pre
  have hown : s.vm.findClass RX6 = some m.cls := findClass_of_methodNamed B.named
  have hlocks := B.notSynchronized
  clear hA0 hv
  have hS : va_S A s.heap s.heap [] := va_S.rf
  have hl := lv_entry ([.ref m0]) (n := 3) (Nat.le_of_ble_eq_true rfl)
  rw [lg_entry_eq]
  generalize (lg_sl ([.ref m0]) ++ List.replicate (3 - (lg_sl ([.ref m0])).length) Slot.unset).toArray = ls at hl ⊢
  have hl : lv_has ls 3 [(0, .ref m0)] := hl
  refine lv_iconst (v := (0)) hx hb dX6_hasCycle_0 (by decide) ?_
  refine lv_istore_n (lv' := [(1, .int 0), (0, .ref m0)]) hx hb dX6_hasCycle_1 rfl hl (by decide) rfl (fun ls hl => ?_)
  refine lv_iconst (v := (0)) hx hb dX6_hasCycle_2 (by decide) ?_
  refine lv_istore_n (lv' := [(2, .int 0), (1, .int 0), (0, .ref m0)]) hx hb dX6_hasCycle_3 rfl hl (by decide) rfl (fun ls hl => ?_)
  refine lv_iload_n hx hb dX6_hasCycle_4 rfl (lv_at hl 0 rfl) ?_
  refine lv_aload_n hx hb dX6_hasCycle_5 rfl (lv_at hl 2 rfl) ?_
  refine va_get (D := D) (ci := 12) (v := .ref m5) (C := RX6) (T := TX6) (N := 9) hx hb hts iX6_hasCycle_X6 hown hK hP 0 rfl rfl 4 (by decide) (hts _ kX6_hasCycle_1) (fun _ h9 => h9) rfl dX6_hasCycle_6 ?_
  refine yc5_i (wc := [(m5, .inr (5, [.int mo, .ref ed, .int 0]))]) (wr := [(m0, .inr (12, [.ref m1, .ref m2, .ref m3, .ref m4, .ref m5, .ref m6, .int 0, .int 0, .int th]))]) (va_runF (As := []) (rest := [.int 0]) (hK.1 5 _ rfl).2 ⟨hx, hb, hml, hown, hts⟩ (g_size l hfl D tE s.heap.size m5 mo ed 0 (va_A [(m5, .inr (5, [.int mo, .ref ed, .int 0]))] s.heap.size) rfl) (va_cwF 0 hts gX6_hasCycle_Jx4a65c_size_8abf5_f114Jx4a65c rfl rfl rfl (hE.2.2.2.2.2.2.2.1 _ (List.mem_of_getElem? (i := 0) rfl)) (by decide +kernel) ⟨Nat.le_of_ble_eq_true rfl, Nat.le_of_ble_eq_true rfl⟩) (yPreV (wc := [(m5, .inr (5, [.int mo, .ref ed, .int 0]))]) (tc := []) hK hP hD hS hA hE [1] [] (by decide) rfl rfl (ci := 5) (q0 := 1) (q := (RJx4a65c, TJx4a65c, 3)) rfl rfl) rfl rfl hl.1 rfl (lv_room (Nat.le_of_ble_eq_true rfl)) dX6_hasCycle_9 ⟨Nat.le_of_ble_eq_true rfl, Nat.le_of_ble_eq_true rfl⟩) hP hD hS hA [1] [0] rfl rfl (by decide) (by decide) (fun r_1 u_2 H locs hw hP hD hS => ?_)
  have hP : va_P D vwCl [(m0, .inr (12, [.ref m1, .ref m2, .ref m3, .ref m4, .ref m5, .ref m6, .int 0, .int 0, .int th])), (m5, .inr (5, [.int mo, .ref ed, .int 0]))] H := hP
  have hD : va_D A [(m0, .inr (12, [.ref m1, .ref m2, .ref m3, .ref m4, .ref m5, .ref m6, .int 0, .int 0, .int th])), (m5, .inr (5, [.int mo, .ref ed, .int 0]))] := hD
  have hw : r_1 = 0 := hw
  subst hw
  refine lv_icmp_ge (tgt := 40) hx hb dX6_hasCycle_14 (by decide) (fun _ => ?_) (fun h => absurd h (by decide))
  refine lv_iload_n hx hb dX6_hasCycle_40 rfl (lv_at hl 1 rfl) ?_
  exact y_zret hx hb hr hlocks (by decide) () rfl (hP.sub [0] rfl) (hD.sub [0] (by decide) rfl) hS (Nat.le_of_ble_eq_true rfl) (Nat.le_of_ble_eq_true rfl) dX6_hasCycle_41
theorem iX6_having_X6 : ∀ w ∈ wsX60, w ∈ wsX6_having := by decide +kernel
theorem kX6_having_1 : Cond.fieldLink RX6 48 "MostwellModel" "people" "I" ∈ wsX6_having := List.mem_of_getElem? (i := 1) (by decide +kernel)
set_option maxHeartbeats 4000000 in
set_option maxRecDepth 100000 in
theorem m_having (l : Launch) (hfl : l.stackTraces = false) (D : va_G) (tE : Nat) (sz : Nat) (m0 : Nat) (m1 : Nat) (m2 : Nat) (m3 : Nat) (m4 : Nat) (m5 : Nat) (m6 : Nat) (po : Int32) (th : Int32) (p0 : Int32) (r1 : Nat) (A : Nat → Prop) (hA0 : A = va_A [(m0, .inr (12, [.ref m1, .ref m2, .ref m3, .ref m4, .ref m5, .ref m6, .int 0, .int po, .int th]))] sz) : Met l yX6_having wsX6_having (yR 0 0 0) (yP D tE [(m0, .inr (12, [.ref m1, .ref m2, .ref m3, .ref m4, .ref m5, .ref m6, .int 0, .int po, .int th]))] [] sz [.ref m0, .int p0, .ref r1]) (va_Qi (S := Unit) (fun (r : Int32) (u : Unit) => r = 0) (fun (u : Unit) (t : State) => yB D A ((fun (u : Unit) => [(m0, .inr (12, [.ref m1, .ref m2, .ref m3, .ref m4, .ref m5, .ref m6, .int 0, .int po, .int th]))]) u) t) A) 0 0 A := by
  refine Met.ofW (cc := cX6_having) (maxL := 5) (ret := (some .int)) (by decide) rfl ?_
  intro p e s m args below meth c s₁ B hml hv
  obtain ⟨rfl, rfl, hP, hK, hD, hE, hA⟩ := y_start hA0 hv
  have hx := B.exec
  have hb := B.bytes
  have hr := B.returns
  have hts := atoms_spec (ws := wsX6_having) B.pre
  have hown : s.vm.findClass RX6 = some m.cls := findClass_of_methodNamed B.named
  have hlocks := B.notSynchronized
  clear hA0 hv
  have hS : va_S A s.heap s.heap [] := va_S.rf
  have hl := lv_entry ([.ref m0, .int p0, .ref r1]) (n := 5) (Nat.le_of_ble_eq_true rfl)
  rw [lg_entry_eq]
  generalize (lg_sl ([.ref m0, .int p0, .ref r1]) ++ List.replicate (5 - (lg_sl ([.ref m0, .int p0, .ref r1])).length) Slot.unset).toArray = ls at hl ⊢
  have hl : lv_has ls 5 [(0, .ref m0), (1, .int p0), (2, .ref r1)] := hl
  refine lv_iconst (v := (0)) hx hb dX6_having_0 (by decide) ?_
  refine lv_istore_n (lv' := [(3, .int 0), (0, .ref m0), (1, .int p0), (2, .ref r1)]) hx hb dX6_having_1 rfl hl (by decide) rfl (fun ls hl => ?_)
  refine lv_iconst (v := (0)) hx hb dX6_having_2 (by decide) ?_
  refine lv_istore (lv' := [(4, .int 0), (3, .int 0), (0, .ref m0), (1, .int p0), (2, .ref r1)]) hx hb dX6_having_3 hl (by decide) rfl (fun ls hl => ?_)
  refine lv_iload hx hb dX6_having_5 (lv_at hl 0 rfl) ?_
  refine lv_aload_n hx hb dX6_having_7 rfl (lv_at hl 2 rfl) ?_
  refine va_get (D := D) (ci := 12) (v := .int 0) (C := RX6) (T := TX6) (N := 9) hx hb hts iX6_having_X6 hown hK hP 0 rfl rfl 6 (by decide) (hts _ kX6_having_1) (fun _ h9 => h9) rfl dX6_having_8 ?_
  refine lv_icmp_ge (tgt := 36) hx hb dX6_having_11 (by decide) (fun _ => ?_) (fun h => absurd h (by decide))
  refine lv_iload_n hx hb dX6_having_36 rfl (lv_at hl 1 rfl) ?_
  exact y_iret hx hb hr hlocks () rfl hP hD hS (Nat.le_of_ble_eq_true rfl) (Nat.le_of_ble_eq_true rfl) dX6_having_37
theorem iX6_countEnvy_X6 : ∀ w ∈ wsX60, w ∈ wsX6_countEnvy := by decide +kernel
theorem kX6_countEnvy_1 : Cond.fieldLink RX6 48 "MostwellModel" "people" "I" ∈ wsX6_countEnvy := List.mem_of_getElem? (i := 1) (by decide +kernel)
set_option maxHeartbeats 4000000 in
set_option maxRecDepth 100000 in
theorem m_countEnvy (l : Launch) (hfl : l.stackTraces = false) (D : va_G) (tE : Nat) (sz : Nat) (m0 : Nat) (m1 : Nat) (m2 : Nat) (m3 : Nat) (m4 : Nat) (m5 : Nat) (m6 : Nat) (th : Int32) (A : Nat → Prop) (hA0 : A = va_A [(m0, .inr (12, [.ref m1, .ref m2, .ref m3, .ref m4, .ref m5, .ref m6, .int 0, .int 0, .int th]))] sz) : Met l yX6_countEnvy wsX6_countEnvy (yR 0 0 0) (yP D tE [(m0, .inr (12, [.ref m1, .ref m2, .ref m3, .ref m4, .ref m5, .ref m6, .int 0, .int 0, .int th]))] [] sz [.ref m0]) (va_Qi (S := Unit) (fun (r : Int32) (u : Unit) => r = 0) (fun (u : Unit) (t : State) => yB D A ((fun (u : Unit) => [(m0, .inr (12, [.ref m1, .ref m2, .ref m3, .ref m4, .ref m5, .ref m6, .int 0, .int 0, .int th]))]) u) t) A) 0 0 A := by
  refine Met.ofW (cc := cX6_countEnvy) (maxL := 4) (ret := (some .int)) (by decide) rfl ?_
  intro p e s m args below meth c s₁ B hml hv
  obtain ⟨rfl, rfl, hP, hK, hD, hE, hA⟩ := y_start hA0 hv
  have hx := B.exec
  have hb := B.bytes
  have hr := B.returns
  have hts := atoms_spec (ws := wsX6_countEnvy) B.pre
  have hown : s.vm.findClass RX6 = some m.cls := findClass_of_methodNamed B.named
  have hlocks := B.notSynchronized
  clear hA0 hv
  have hS : va_S A s.heap s.heap [] := va_S.rf
  have hl := lv_entry ([.ref m0]) (n := 4) (Nat.le_of_ble_eq_true rfl)
  rw [lg_entry_eq]
  generalize (lg_sl ([.ref m0]) ++ List.replicate (4 - (lg_sl ([.ref m0])).length) Slot.unset).toArray = ls at hl ⊢
  have hl : lv_has ls 4 [(0, .ref m0)] := hl
  refine lv_iconst (v := (0)) hx hb dX6_countEnvy_0 (by decide) ?_
  refine lv_istore_n (lv' := [(1, .int 0), (0, .ref m0)]) hx hb dX6_countEnvy_1 rfl hl (by decide) rfl (fun ls hl => ?_)
  refine lv_iconst (v := (0)) hx hb dX6_countEnvy_2 (by decide) ?_
  refine lv_istore_n (lv' := [(2, .int 0), (1, .int 0), (0, .ref m0)]) hx hb dX6_countEnvy_3 rfl hl (by decide) rfl (fun ls hl => ?_)
  refine lv_iload_n hx hb dX6_countEnvy_4 rfl (lv_at hl 0 rfl) ?_
  refine lv_aload_n hx hb dX6_countEnvy_5 rfl (lv_at hl 2 rfl) ?_
  refine va_get (D := D) (ci := 12) (v := .int 0) (C := RX6) (T := TX6) (N := 9) hx hb hts iX6_countEnvy_X6 hown hK hP 0 rfl rfl 6 (by decide) (hts _ kX6_countEnvy_1) (fun _ h9 => h9) rfl dX6_countEnvy_6 ?_
  refine lv_icmp_ge (tgt := 51) hx hb dX6_countEnvy_9 (by decide) (fun _ => ?_) (fun h => absurd h (by decide))
  refine lv_iload_n hx hb dX6_countEnvy_51 rfl (lv_at hl 1 rfl) ?_
  exact y_iret hx hb hr hlocks () rfl hP hD hS (Nat.le_of_ble_eq_true rfl) (Nat.le_of_ble_eq_true rfl) dX6_countEnvy_52
theorem iX6_matchedShare_X6 : ∀ w ∈ wsX60, w ∈ wsX6_matchedShare := by decide +kernel
theorem kX6_matchedShare_1 : Cond.fieldLink RX6 48 "MostwellModel" "people" "I" ∈ wsX6_matchedShare := List.mem_of_getElem? (i := 1) (by decide +kernel)
set_option maxHeartbeats 4000000 in
set_option maxRecDepth 100000 in
theorem m_matchedShare (l : Launch) (hfl : l.stackTraces = false) (D : va_G) (tE : Nat) (sz : Nat) (m0 : Nat) (m1 : Nat) (m2 : Nat) (m3 : Nat) (m4 : Nat) (m5 : Nat) (m6 : Nat) (th : Int32) (A : Nat → Prop) (hA0 : A = va_A [(m0, .inr (12, [.ref m1, .ref m2, .ref m3, .ref m4, .ref m5, .ref m6, .int 0, .int 0, .int th]))] sz) : Met l yX6_matchedShare wsX6_matchedShare (yR 1 0 0) (yP D tE [(m0, .inr (12, [.ref m1, .ref m2, .ref m3, .ref m4, .ref m5, .ref m6, .int 0, .int 0, .int th]))] [] sz [.ref m0]) (va_Qf (S := Unit) (fun (r : UInt32) (u : Unit) => True) (fun (u : Unit) (t : State) => yB D A ((fun (u : Unit) => [(m0, .inr (12, [.ref m1, .ref m2, .ref m3, .ref m4, .ref m5, .ref m6, .int 0, .int 0, .int 1]))]) u) t) A) 0 0 A := by
  refine Met.ofW (cc := cX6_matchedShare) (maxL := 1) (ret := (some .float)) (by decide) rfl ?_
  intro p e s m args below meth c s₁ B hml hv
  obtain ⟨rfl, rfl, hP, hK, hD, hE, hA⟩ := y_start hA0 hv
  have hx := B.exec
  have hb := B.bytes
  have hr := B.returns
  have hts := atoms_spec (ws := wsX6_matchedShare) B.pre
  have hown : s.vm.findClass RX6 = some m.cls := findClass_of_methodNamed B.named
  have hlocks := B.notSynchronized
  clear hA0 hv
  have hS : va_S A s.heap s.heap [] := va_S.rf
  have hl := lv_entry ([.ref m0]) (n := 1) (Nat.le_of_ble_eq_true rfl)
  rw [lg_entry_eq]
  generalize (lg_sl ([.ref m0]) ++ List.replicate (1 - (lg_sl ([.ref m0])).length) Slot.unset).toArray = ls at hl ⊢
  have hl : lv_has ls 1 [(0, .ref m0)] := hl
  refine lv_aload_n hx hb dX6_matchedShare_0 rfl (lv_at hl 0 rfl) ?_
  refine lv_aload_n hx hb dX6_matchedShare_1 rfl (lv_at hl 0 rfl) ?_
  refine va_get (D := D) (ci := 12) (v := .int 0) (C := RX6) (T := TX6) (N := 9) hx hb hts iX6_matchedShare_X6 hown hK hP 0 rfl rfl 6 (by decide) (hts _ kX6_matchedShare_1) (fun _ h9 => h9) rfl dX6_matchedShare_2 ?_
  refine lv_if_le (tgt := 12) hx hb dX6_matchedShare_5 (by decide) (fun _ => ?_) (fun h => absurd h (by decide))
  refine lv_iconst (v := (0)) hx hb dX6_matchedShare_12 (by decide) ?_
  refine lv_iconst (v := (1)) hx hb dX6_matchedShare_13 (by decide) ?_
  refine yc_i (wc := [(m0, .inr (12, [.ref m1, .ref m2, .ref m3, .ref m4, .ref m5, .ref m6, .int 0, .int 0, .int th]))]) (wr := []) (va_runV (As := [.int 0, .int 1]) (rest := []) ⟨hx, hb, hml, hown, hts⟩ (g_no0 l hfl D tE s.heap.size m0 m1 m2 m3 m4 m5 m6 0 0 th 1 (va_A [(m0, .inr (12, [.ref m1, .ref m2, .ref m3, .ref m4, .ref m5, .ref m6, .int 0, .int 0, .int th]))] s.heap.size) rfl) (cwV 2 hts gX6_matchedShare_X6_no rfl rfl rfl (by decide +kernel) ⟨Nat.le_of_ble_eq_true rfl, Nat.le_of_ble_eq_true rfl⟩) (yPreV (wc := [(m0, .inr (12, [.ref m1, .ref m2, .ref m3, .ref m4, .ref m5, .ref m6, .int 0, .int 0, .int th]))]) (tc := []) hK hP hD hS hA hE [0] [] (by decide) rfl rfl (ci := 12) (q0 := 0) (q := (RX6, TX6, 9)) rfl rfl) rfl rfl hl.1 rfl (lv_room (Nat.le_of_ble_eq_true rfl)) dX6_matchedShare_14 ⟨Nat.le_of_ble_eq_true rfl, Nat.le_of_ble_eq_true rfl⟩) hP hD hS hA [0] [] rfl rfl (by decide) (by decide) (fun r_1 u_2 H locs hw hP hD hS => ?_)
  have hP : va_P D vwCl [(m0, .inr (12, [.ref m1, .ref m2, .ref m3, .ref m4, .ref m5, .ref m6, .int 0, .int 0, .int 1]))] H := hP
  have hD : va_D A [(m0, .inr (12, [.ref m1, .ref m2, .ref m3, .ref m4, .ref m5, .ref m6, .int 0, .int 0, .int 1]))] := hD
  have hw : r_1 = 1 := hw
  subst hw
  refine lv_if_eq (tgt := 24) hx hb dX6_matchedShare_17 (by decide) (fun h => absurd h (by decide)) (fun _ => ?_)
  refine lv_fconst0 hx hb dX6_matchedShare_20 ?_
  refine lv_goto (tgt := 45) hx hb dX6_matchedShare_21 (by decide) ?_
  exact y_fret hx hb hr hlocks () trivial hP hD hS (Nat.le_of_ble_eq_true rfl) (Nat.le_of_ble_eq_true rfl) dX6_matchedShare_45
theorem iX6_meanRank_X6 : ∀ w ∈ wsX60, w ∈ wsX6_meanRank := by decide +kernel
theorem kX6_meanRank_1 : Cond.fieldLink RX6 48 "MostwellModel" "people" "I" ∈ wsX6_meanRank := List.mem_of_getElem? (i := 1) (by decide +kernel)
theorem kX6_meanRank_2 : Cond.fieldLink RX6 16 "MostwellModel" "hand" "[I" ∈ wsX6_meanRank := List.mem_of_getElem? (i := 2) (by decide +kernel)
set_option maxHeartbeats 4000000 in
set_option maxRecDepth 100000 in
theorem m_meanRank (l : Launch) (hfl : l.stackTraces = false) (D : va_G) (tE : Nat) (sz : Nat) (m0 : Nat) (m1 : Nat) (m2 : Nat) (m3 : Nat) (m4 : Nat) (m5 : Nat) (m6 : Nat) (th : Int32) (A : Nat → Prop) (hA0 : A = va_A [(m0, .inr (12, [.ref m1, .ref m2, .ref m3, .ref m4, .ref m5, .ref m6, .int 0, .int 0, .int th]))] sz) : Met l yX6_meanRank wsX6_meanRank (yR 1 0 0) (yP D tE [(m0, .inr (12, [.ref m1, .ref m2, .ref m3, .ref m4, .ref m5, .ref m6, .int 0, .int 0, .int th]))] [] sz [.ref m0]) (va_Qd (S := Unit) (fun (r : UInt64) (u : Unit) => True) (fun (u : Unit) (t : State) => yB D A ((fun (u : Unit) => [(m0, .inr (12, [.ref m1, .ref m2, .ref m3, .ref m4, .ref m5, .ref m6, .int 0, .int 0, .int 1]))]) u) t) A) 0 0 A := by
  refine Met.ofW (cc := cX6_meanRank) (maxL := 4) (ret := (some .double)) (by decide) rfl ?_
  intro p e s m args below meth c s₁ B hml hv
  obtain ⟨rfl, rfl, hP, hK, hD, hE, hA⟩ := y_start hA0 hv
  have hx := B.exec
  have hb := B.bytes
  have hr := B.returns
  have hts := atoms_spec (ws := wsX6_meanRank) B.pre
  have hown : s.vm.findClass RX6 = some m.cls := findClass_of_methodNamed B.named
  have hlocks := B.notSynchronized
  clear hA0 hv
  have hS : va_S A s.heap s.heap [] := va_S.rf
  have hl := lv_entry ([.ref m0]) (n := 4) (Nat.le_of_ble_eq_true rfl)
  rw [lg_entry_eq]
  generalize (lg_sl ([.ref m0]) ++ List.replicate (4 - (lg_sl ([.ref m0])).length) Slot.unset).toArray = ls at hl ⊢
  have hl : lv_has ls 4 [(0, .ref m0)] := hl
  refine lv_aload_n hx hb dX6_meanRank_0 rfl (lv_at hl 0 rfl) ?_
  refine va_get (D := D) (ci := 12) (v := .int 0) (C := RX6) (T := TX6) (N := 9) hx hb hts iX6_meanRank_X6 hown hK hP 0 rfl rfl 6 (by decide) (hts _ kX6_meanRank_1) (fun _ h9 => h9) rfl dX6_meanRank_1 ?_
  refine lv_aload_n hx hb dX6_meanRank_4 rfl (lv_at hl 0 rfl) ?_
  refine lv_iconst (v := (-1)) hx hb dX6_meanRank_5 (by decide) ?_
  refine lv_aload_n hx hb dX6_meanRank_6 rfl (lv_at hl 0 rfl) ?_
  refine va_get (D := D) (ci := 12) (v := .ref m3) (C := RX6) (T := TX6) (N := 9) hx hb hts iX6_meanRank_X6 hown hK hP 0 rfl rfl 2 (by decide) (hts _ kX6_meanRank_2) (fun _ h9 => h9) rfl dX6_meanRank_7 ?_
  refine yc_i (wc := [(m0, .inr (12, [.ref m1, .ref m2, .ref m3, .ref m4, .ref m5, .ref m6, .int 0, .int 0, .int th]))]) (wr := []) (va_runV (As := [.int ((-1)), .ref m3]) (rest := [.int 0]) ⟨hx, hb, hml, hown, hts⟩ (m_having l hfl D tE s.heap.size m0 m1 m2 m3 m4 m5 m6 0 th (-1) m3 (va_A [(m0, .inr (12, [.ref m1, .ref m2, .ref m3, .ref m4, .ref m5, .ref m6, .int 0, .int 0, .int th]))] s.heap.size) rfl) (cwV 2 hts gX6_meanRank_X6_having rfl rfl rfl (by decide +kernel) ⟨Nat.le_of_ble_eq_true rfl, Nat.le_of_ble_eq_true rfl⟩) (yPreV (wc := [(m0, .inr (12, [.ref m1, .ref m2, .ref m3, .ref m4, .ref m5, .ref m6, .int 0, .int 0, .int th]))]) (tc := []) hK hP hD hS hA hE [0] [] (by decide) rfl rfl (ci := 12) (q0 := 0) (q := (RX6, TX6, 9)) rfl rfl) rfl rfl hl.1 rfl (lv_room (Nat.le_of_ble_eq_true rfl)) dX6_meanRank_10 ⟨Nat.le_of_ble_eq_true rfl, Nat.le_of_ble_eq_true rfl⟩) hP hD hS hA [0] [] rfl rfl (by decide) (by decide) (fun r_1 u_2 H locs hw hP hD hS => ?_)
  have hP : va_P D vwCl [(m0, .inr (12, [.ref m1, .ref m2, .ref m3, .ref m4, .ref m5, .ref m6, .int 0, .int 0, .int th]))] H := hP
  have hD : va_D A [(m0, .inr (12, [.ref m1, .ref m2, .ref m3, .ref m4, .ref m5, .ref m6, .int 0, .int 0, .int th]))] := hD
  have hw : r_1 = 0 := hw
  subst hw
  refine lv_isub hx hb dX6_meanRank_13 ?_
  refine lv_topi (fun x_3 ex_3 => ?_)
  obtain rfl : x_3 = (0 : Int32) := ex_3.trans (by decide)
  refine lv_istore_n (lv' := [(1, .int 0), (0, .ref m0)]) hx hb dX6_meanRank_14 rfl hl (by decide) rfl (fun ls hl => ?_)
  refine lv_iconst (v := (0)) hx hb dX6_meanRank_15 (by decide) ?_
  refine lv_istore_n (lv' := [(2, .int 0), (1, .int 0), (0, .ref m0)]) hx hb dX6_meanRank_16 rfl hl (by decide) rfl (fun ls hl => ?_)
  refine lv_iconst (v := (0)) hx hb dX6_meanRank_17 (by decide) ?_
  refine lv_istore_n (lv' := [(3, .int 0), (2, .int 0), (1, .int 0), (0, .ref m0)]) hx hb dX6_meanRank_18 rfl hl (by decide) rfl (fun ls hl => ?_)
  refine lv_iload_n hx hb dX6_meanRank_19 rfl (lv_at hl 0 rfl) ?_
  refine lv_aload_n hx hb dX6_meanRank_20 rfl (lv_at hl 3 rfl) ?_
  refine va_get (D := D) (ci := 12) (v := .int 0) (C := RX6) (T := TX6) (N := 9) hx hb hts iX6_meanRank_X6 hown hK hP 0 rfl rfl 6 (by decide) (hts _ kX6_meanRank_1) (fun _ h9 => h9) rfl dX6_meanRank_21 ?_
  refine lv_icmp_ge (tgt := 62) hx hb dX6_meanRank_24 (by decide) (fun _ => ?_) (fun h => absurd h (by decide))
  refine lv_aload_n hx hb dX6_meanRank_62 rfl (lv_at hl 3 rfl) ?_
  refine lv_iload_n hx hb dX6_meanRank_63 rfl (lv_at hl 2 rfl) ?_
  refine lv_if_le (tgt := 71) hx hb dX6_meanRank_64 (by decide) (fun _ => ?_) (fun h => absurd h (by decide))
  refine lv_iconst (v := (0)) hx hb dX6_meanRank_71 (by decide) ?_
  refine lv_iconst (v := (1)) hx hb dX6_meanRank_72 (by decide) ?_
  refine yc_i (wc := [(m0, .inr (12, [.ref m1, .ref m2, .ref m3, .ref m4, .ref m5, .ref m6, .int 0, .int 0, .int th]))]) (wr := []) (va_runV (As := [.int 0, .int 1]) (rest := []) ⟨hx, hb, hml, hown, hts⟩ (g_no0 l hfl D tE H.size m0 m1 m2 m3 m4 m5 m6 0 0 th 1 (va_A [(m0, .inr (12, [.ref m1, .ref m2, .ref m3, .ref m4, .ref m5, .ref m6, .int 0, .int 0, .int th]))] H.size) rfl) (cwV 2 hts gX6_meanRank_X6_no rfl rfl rfl (by decide +kernel) ⟨Nat.le_of_ble_eq_true rfl, Nat.le_of_ble_eq_true rfl⟩) (yPreV (wc := [(m0, .inr (12, [.ref m1, .ref m2, .ref m3, .ref m4, .ref m5, .ref m6, .int 0, .int 0, .int th]))]) (tc := []) hK hP hD hS hA hE [0] [] (by decide) rfl rfl (ci := 12) (q0 := 0) (q := (RX6, TX6, 9)) rfl rfl) rfl rfl hl.1 rfl (lv_room (Nat.le_of_ble_eq_true rfl)) dX6_meanRank_73 ⟨Nat.le_of_ble_eq_true rfl, Nat.le_of_ble_eq_true rfl⟩) hP hD hS hA [0] [] rfl rfl (by decide) (by decide) (fun r_4 u_5 H locs hw hP hD hS => ?_)
  have hP : va_P D vwCl [(m0, .inr (12, [.ref m1, .ref m2, .ref m3, .ref m4, .ref m5, .ref m6, .int 0, .int 0, .int 1]))] H := hP
  have hD : va_D A [(m0, .inr (12, [.ref m1, .ref m2, .ref m3, .ref m4, .ref m5, .ref m6, .int 0, .int 0, .int 1]))] := hD
  have hw : r_4 = 1 := hw
  subst hw
  refine lv_if_eq (tgt := 83) hx hb dX6_meanRank_76 (by decide) (fun h => absurd h (by decide)) (fun _ => ?_)
  refine lv_dconst0 hx hb dX6_meanRank_79 ?_
  refine lv_goto (tgt := 88) hx hb dX6_meanRank_80 (by decide) ?_
  exact y_dret hx hb hr hlocks () trivial hP hD hS (Nat.le_of_ble_eq_true rfl) (Nat.le_of_ble_eq_true rfl) dX6_meanRank_88

set_option maxHeartbeats 4000000 in
set_option maxRecDepth 100000 in
theorem m_isTrue (l : Launch) (hfl : l.stackTraces = false) (D : va_G) (tE : Nat) (sz : Nat) (m0 : Nat) (m1 : Nat) (m2 : Nat) (m3 : Nat) (m4 : Nat) (m5 : Nat) (m6 : Nat) (th : Int32) (A : Nat → Prop) (hA0 : A = va_A [(m0, .inr (12, [.ref m1, .ref m2, .ref m3, .ref m4, .ref m5, .ref m6, .int 0, .int 0, .int th]))] sz) : Met l yX6_isTrue wsX6_isTrue (yR 0 0 0) (yP D tE [(m0, .inr (12, [.ref m1, .ref m2, .ref m3, .ref m4, .ref m5, .ref m6, .int 0, .int 0, .int th]))] [] sz [.ref m0]) (va_Qi (S := Unit) (fun (r : Int32) (u : Unit) => r = 1) (fun (u : Unit) (t : State) => yB D A ((fun (u : Unit) => [(m0, .inr (12, [.ref m1, .ref m2, .ref m3, .ref m4, .ref m5, .ref m6, .int 0, .int 0, .int th]))]) u) t) A) 0 0 A := by
  refine Met.ofW (cc := cX6_isTrue) (maxL := 1) (ret := (some .boolean)) (by decide) rfl ?_
  intro p e s m args below meth c s₁ B hml hv
  obtain ⟨rfl, rfl, hP, hK, hD, hE, hA⟩ := y_start hA0 hv
  have hx := B.exec
  have hb := B.bytes
  have hr := B.returns
  have hts := atoms_spec (ws := wsX6_isTrue) B.pre
  have hown : s.vm.findClass RX6 = some m.cls := findClass_of_methodNamed B.named
  have hlocks := B.notSynchronized
  clear hA0 hv
  have hS : va_S A s.heap s.heap [] := va_S.rf
  have hl := lv_entry ([.ref m0]) (n := 1) (Nat.le_of_ble_eq_true rfl)
  rw [lg_entry_eq]
  generalize (lg_sl ([.ref m0]) ++ List.replicate (1 - (lg_sl ([.ref m0])).length) Slot.unset).toArray = ls at hl ⊢
  have hl : lv_has ls 1 [(0, .ref m0)] := hl
  refine lv_iconst (v := (1)) hx hb dX6_isTrue_0 (by decide) ?_
  exact y_zret hx hb hr hlocks (by decide) () rfl hP hD hS (Nat.le_of_ble_eq_true rfl) (Nat.le_of_ble_eq_true rfl) dX6_isTrue_1
theorem iX6_count_X6 : ∀ w ∈ wsX60, w ∈ wsX6_count := by decide +kernel
theorem kX6_count_1 : Cond.fieldLink RX6 48 "MostwellModel" "people" "I" ∈ wsX6_count := List.mem_of_getElem? (i := 1) (by decide +kernel)
set_option maxHeartbeats 4000000 in
set_option maxRecDepth 100000 in
theorem m_count (l : Launch) (hfl : l.stackTraces = false) (D : va_G) (tE : Nat) (sz : Nat) (m0 : Nat) (m1 : Nat) (m2 : Nat) (m3 : Nat) (m4 : Nat) (m5 : Nat) (m6 : Nat) (po : Int32) (th : Int32) (p0 : Int32) (r1 : Nat) (A : Nat → Prop) (hA0 : A = va_A [(m0, .inr (12, [.ref m1, .ref m2, .ref m3, .ref m4, .ref m5, .ref m6, .int 0, .int po, .int th]))] sz) : Met l yX6_count wsX6_count (yR 0 0 0) (yP D tE [(m0, .inr (12, [.ref m1, .ref m2, .ref m3, .ref m4, .ref m5, .ref m6, .int 0, .int po, .int th]))] [] sz [.ref m0, .int p0, .ref r1]) (va_Qi (S := Unit) (fun (r : Int32) (u : Unit) => r = 0) (fun (u : Unit) (t : State) => yB D A ((fun (u : Unit) => [(m0, .inr (12, [.ref m1, .ref m2, .ref m3, .ref m4, .ref m5, .ref m6, .int 0, .int po, .int th]))]) u) t) A) 0 0 A := by
  refine Met.ofW (cc := cX6_count) (maxL := 5) (ret := (some .int)) (by decide) rfl ?_
  intro p e s m args below meth c s₁ B hml hv
  obtain ⟨rfl, rfl, hP, hK, hD, hE, hA⟩ := y_start hA0 hv
  have hx := B.exec
  have hb := B.bytes
  have hr := B.returns
  have hts := atoms_spec (ws := wsX6_count) B.pre
  have hown : s.vm.findClass RX6 = some m.cls := findClass_of_methodNamed B.named
  have hlocks := B.notSynchronized
  clear hA0 hv
  have hS : va_S A s.heap s.heap [] := va_S.rf
  have hl := lv_entry ([.ref m0, .int p0, .ref r1]) (n := 5) (Nat.le_of_ble_eq_true rfl)
  rw [lg_entry_eq]
  generalize (lg_sl ([.ref m0, .int p0, .ref r1]) ++ List.replicate (5 - (lg_sl ([.ref m0, .int p0, .ref r1])).length) Slot.unset).toArray = ls at hl ⊢
  have hl : lv_has ls 5 [(0, .ref m0), (1, .int p0), (2, .ref r1)] := hl
  refine lv_iconst (v := (0)) hx hb dX6_count_0 (by decide) ?_
  refine lv_istore_n (lv' := [(3, .int 0), (0, .ref m0), (1, .int p0), (2, .ref r1)]) hx hb dX6_count_1 rfl hl (by decide) rfl (fun ls hl => ?_)
  refine lv_iconst (v := (0)) hx hb dX6_count_2 (by decide) ?_
  refine lv_istore (lv' := [(4, .int 0), (3, .int 0), (0, .ref m0), (1, .int p0), (2, .ref r1)]) hx hb dX6_count_3 hl (by decide) rfl (fun ls hl => ?_)
  refine lv_iload hx hb dX6_count_5 (lv_at hl 0 rfl) ?_
  refine lv_aload_n hx hb dX6_count_7 rfl (lv_at hl 2 rfl) ?_
  refine va_get (D := D) (ci := 12) (v := .int 0) (C := RX6) (T := TX6) (N := 9) hx hb hts iX6_count_X6 hown hK hP 0 rfl rfl 6 (by decide) (hts _ kX6_count_1) (fun _ h9 => h9) rfl dX6_count_8 ?_
  refine lv_icmp_ge (tgt := 42) hx hb dX6_count_11 (by decide) (fun _ => ?_) (fun h => absurd h (by decide))
  refine lv_iload_n hx hb dX6_count_42 rfl (lv_at hl 1 rfl) ?_
  exact y_iret hx hb hr hlocks () rfl hP hD hS (Nat.le_of_ble_eq_true rfl) (Nat.le_of_ble_eq_true rfl) dX6_count_43
theorem yz_m_profile_59 (p0 : Int32) (h0 : 1 ≤ p0 ∧ p0 ≤ 9) : 1 ≤ p0 ∧ p0 ≤ 9 := by grind
theorem yz_m_profile_60 (p0 : Int32) (h0 : (p0 < 1 ∨ 9 < p0)) : (p0 < 1 ∨ 9 < p0) := by grind
theorem iX6_profile_X6 : ∀ w ∈ wsX60, w ∈ wsX6_profile := by decide +kernel
theorem kX6_profile_1 : Cond.fieldLink RX6 16 "MostwellModel" "hand" "[I" ∈ wsX6_profile := List.mem_of_getElem? (i := 1) (by decide +kernel)
set_option maxHeartbeats 4000000 in
set_option maxRecDepth 100000 in
theorem m_profile (l : Launch) (hfl : l.stackTraces = false) (D : va_G) (tE : Nat) (sz : Nat) (m0 : Nat) (m1 : Nat) (m2 : Nat) (m3 : Nat) (m4 : Nat) (m5 : Nat) (m6 : Nat) (th : Int32) (p0 : Int32) (A : Nat → Prop) (hA0 : A = va_A [(m0, .inr (12, [.ref m1, .ref m2, .ref m3, .ref m4, .ref m5, .ref m6, .int 0, .int 0, .int th]))] sz) : Met l yX6_profile wsX6_profile (yR 1 0 0) (yP D tE [(m0, .inr (12, [.ref m1, .ref m2, .ref m3, .ref m4, .ref m5, .ref m6, .int 0, .int 0, .int th]))] [] sz [.ref m0, .int p0]) (va_Qi (S := Int32) (fun (r : Int32) (u : Int32) => (r = 0 ∧ u = 0 ∧ 1 ≤ p0 ∧ p0 ≤ 9) ∨ (r = 0 ∧ u = 1 ∧ (p0 < 1 ∨ 9 < p0))) (fun (u : Int32) (t : State) => yB D A ((fun (u : Int32) => [(m0, .inr (12, [.ref m1, .ref m2, .ref m3, .ref m4, .ref m5, .ref m6, .int 0, .int 0, .int u]))]) u) t) A) 0 0 A := by
  refine Met.ofW (cc := cX6_profile) (maxL := 2) (ret := (some .int)) (by decide) rfl ?_
  intro p e s m args below meth c s₁ B hml hv
  obtain ⟨rfl, rfl, hP, hK, hD, hE, hA⟩ := y_start hA0 hv
  have hx := B.exec
  have hb := B.bytes
  have hr := B.returns
  have hts := atoms_spec (ws := wsX6_profile) B.pre
  have hown : s.vm.findClass RX6 = some m.cls := findClass_of_methodNamed B.named
  have hlocks := B.notSynchronized
  clear hA0 hv
  have hS : va_S A s.heap s.heap [] := va_S.rf
  have hl := lv_entry ([.ref m0, .int p0]) (n := 2) (Nat.le_of_ble_eq_true rfl)
  rw [lg_entry_eq]
  generalize (lg_sl ([.ref m0, .int p0]) ++ List.replicate (2 - (lg_sl ([.ref m0, .int p0])).length) Slot.unset).toArray = ls at hl ⊢
  have hl : lv_has ls 2 [(0, .ref m0), (1, .int p0)] := hl
  refine lv_aload_n hx hb dX6_profile_0 rfl (lv_at hl 0 rfl) ?_
  refine lv_iload_n hx hb dX6_profile_1 rfl (lv_at hl 1 rfl) ?_
  refine lv_iconst (v := (1)) hx hb dX6_profile_2 (by decide) ?_
  refine lv_bipush (v := (9)) hx hb dX6_profile_3 (by decide) ?_
  refine yc_i (wc := []) (wr := [(m0, .inr (12, [.ref m1, .ref m2, .ref m3, .ref m4, .ref m5, .ref m6, .int 0, .int 0, .int th]))]) (va_runS (As := [.int p0, .int 1, .int 9]) (rest := [.ref m0]) ⟨hx, hb, hml, hown, hts⟩ (g_isIn l hfl D tE s.heap.size p0 1 9 (va_A [] s.heap.size) rfl) (va_cwS 3 hts gX6_profile_X6_isIn rfl rfl rfl (by decide +kernel) ⟨Nat.le_of_ble_eq_true rfl, Nat.le_of_ble_eq_true rfl⟩) (yPreS (wc := []) (tc := []) hK hP hD hS hA hE [] [] (by decide) rfl rfl) rfl rfl hl.1 rfl (lv_room (Nat.le_of_ble_eq_true rfl)) dX6_profile_5 ⟨Nat.le_of_ble_eq_true rfl, Nat.le_of_ble_eq_true rfl⟩) hP hD hS hA [] [0] rfl rfl (by decide) (by decide) (fun r_1 u_2 H locs hw hP hD hS => ?_)
  have hP : va_P D vwCl [(m0, .inr (12, [.ref m1, .ref m2, .ref m3, .ref m4, .ref m5, .ref m6, .int 0, .int 0, .int th]))] H := hP
  have hD : va_D A [(m0, .inr (12, [.ref m1, .ref m2, .ref m3, .ref m4, .ref m5, .ref m6, .int 0, .int 0, .int th]))] := hD
  have hw : (r_1 = 1 ∧ 1 ≤ p0 ∧ p0 ≤ 9) ∨ (r_1 = 0 ∧ (p0 < 1 ∨ 9 < p0)) := hw
  rcases hw with ⟨hr9, hw9⟩ | ⟨hr9, hw9⟩
  · subst hr9
    have w_3 : 1 ≤ p0 ∧ p0 ≤ 9 := hw9
    refine lv_iconst (v := (1)) hx hb dX6_profile_8 (by decide) ?_
    refine yc_i (wc := [(m0, .inr (12, [.ref m1, .ref m2, .ref m3, .ref m4, .ref m5, .ref m6, .int 0, .int 0, .int th]))]) (wr := []) (va_runV (As := [.int 1, .int 1]) (rest := []) ⟨hx, hb, hml, hown, hts⟩ (g_no1 l hfl D tE H.size m0 m1 m2 m3 m4 m5 m6 0 0 th 1 (va_A [(m0, .inr (12, [.ref m1, .ref m2, .ref m3, .ref m4, .ref m5, .ref m6, .int 0, .int 0, .int th]))] H.size) rfl) (cwV 2 hts gX6_profile_X6_no rfl rfl rfl (by decide +kernel) ⟨Nat.le_of_ble_eq_true rfl, Nat.le_of_ble_eq_true rfl⟩) (yPreV (wc := [(m0, .inr (12, [.ref m1, .ref m2, .ref m3, .ref m4, .ref m5, .ref m6, .int 0, .int 0, .int th]))]) (tc := []) hK hP hD hS hA hE [0] [] (by decide) rfl rfl (ci := 12) (q0 := 0) (q := (RX6, TX6, 9)) rfl rfl) rfl rfl hl.1 rfl (lv_room (Nat.le_of_ble_eq_true rfl)) dX6_profile_9 ⟨Nat.le_of_ble_eq_true rfl, Nat.le_of_ble_eq_true rfl⟩) hP hD hS hA [0] [] rfl rfl (by decide) (by decide) (fun r_4 u_5 H locs hw hP hD hS => ?_)
    have hP : va_P D vwCl [(m0, .inr (12, [.ref m1, .ref m2, .ref m3, .ref m4, .ref m5, .ref m6, .int 0, .int 0, .int 0]))] H := hP
    have hD : va_D A [(m0, .inr (12, [.ref m1, .ref m2, .ref m3, .ref m4, .ref m5, .ref m6, .int 0, .int 0, .int 0]))] := hD
    have hw : r_4 = 0 := hw
    subst hw
    refine lv_if_eq (tgt := 19) hx hb dX6_profile_12 (by decide) (fun _ => ?_) (fun h => absurd h (by decide))
    refine lv_aload_n hx hb dX6_profile_19 rfl (lv_at hl 0 rfl) ?_
    refine lv_iload_n hx hb dX6_profile_20 rfl (lv_at hl 1 rfl) ?_
    refine lv_aload_n hx hb dX6_profile_21 rfl (lv_at hl 0 rfl) ?_
    refine va_get (D := D) (ci := 12) (v := .ref m3) (C := RX6) (T := TX6) (N := 9) hx hb hts iX6_profile_X6 hown hK hP 0 rfl rfl 2 (by decide) (hts _ kX6_profile_1) (fun _ h9 => h9) rfl dX6_profile_22 ?_
    refine yc_i (wc := [(m0, .inr (12, [.ref m1, .ref m2, .ref m3, .ref m4, .ref m5, .ref m6, .int 0, .int 0, .int 0]))]) (wr := []) (va_runV (As := [.int p0, .ref m3]) (rest := []) ⟨hx, hb, hml, hown, hts⟩ (m_count l hfl D tE H.size m0 m1 m2 m3 m4 m5 m6 0 0 p0 m3 (va_A [(m0, .inr (12, [.ref m1, .ref m2, .ref m3, .ref m4, .ref m5, .ref m6, .int 0, .int 0, .int 0]))] H.size) rfl) (cwV 2 hts gX6_profile_X6_count rfl rfl rfl (by decide +kernel) ⟨Nat.le_of_ble_eq_true rfl, Nat.le_of_ble_eq_true rfl⟩) (yPreV (wc := [(m0, .inr (12, [.ref m1, .ref m2, .ref m3, .ref m4, .ref m5, .ref m6, .int 0, .int 0, .int 0]))]) (tc := []) hK hP hD hS hA hE [0] [] (by decide) rfl rfl (ci := 12) (q0 := 0) (q := (RX6, TX6, 9)) rfl rfl) rfl rfl hl.1 rfl (lv_room (Nat.le_of_ble_eq_true rfl)) dX6_profile_25 ⟨Nat.le_of_ble_eq_true rfl, Nat.le_of_ble_eq_true rfl⟩) hP hD hS hA [0] [] rfl rfl (by decide) (by decide) (fun r_6 u_7 H locs hw hP hD hS => ?_)
    have hP : va_P D vwCl [(m0, .inr (12, [.ref m1, .ref m2, .ref m3, .ref m4, .ref m5, .ref m6, .int 0, .int 0, .int 0]))] H := hP
    have hD : va_D A [(m0, .inr (12, [.ref m1, .ref m2, .ref m3, .ref m4, .ref m5, .ref m6, .int 0, .int 0, .int 0]))] := hD
    have hw : r_6 = 0 := hw
    subst hw
    exact y_iret hx hb hr hlocks (0 : Int32) (Or.inl ⟨rfl, rfl, (yz_m_profile_59 p0 w_3)⟩) hP hD hS (Nat.le_of_ble_eq_true rfl) (Nat.le_of_ble_eq_true rfl) dX6_profile_28
  · subst hr9
    have w_8 : (p0 < 1 ∨ 9 < p0) := hw9
    refine lv_iconst (v := (1)) hx hb dX6_profile_8 (by decide) ?_
    refine yc_i (wc := [(m0, .inr (12, [.ref m1, .ref m2, .ref m3, .ref m4, .ref m5, .ref m6, .int 0, .int 0, .int th]))]) (wr := []) (va_runV (As := [.int 0, .int 1]) (rest := []) ⟨hx, hb, hml, hown, hts⟩ (g_no0 l hfl D tE H.size m0 m1 m2 m3 m4 m5 m6 0 0 th 1 (va_A [(m0, .inr (12, [.ref m1, .ref m2, .ref m3, .ref m4, .ref m5, .ref m6, .int 0, .int 0, .int th]))] H.size) rfl) (cwV 2 hts gX6_profile_X6_no rfl rfl rfl (by decide +kernel) ⟨Nat.le_of_ble_eq_true rfl, Nat.le_of_ble_eq_true rfl⟩) (yPreV (wc := [(m0, .inr (12, [.ref m1, .ref m2, .ref m3, .ref m4, .ref m5, .ref m6, .int 0, .int 0, .int th]))]) (tc := []) hK hP hD hS hA hE [0] [] (by decide) rfl rfl (ci := 12) (q0 := 0) (q := (RX6, TX6, 9)) rfl rfl) rfl rfl hl.1 rfl (lv_room (Nat.le_of_ble_eq_true rfl)) dX6_profile_9 ⟨Nat.le_of_ble_eq_true rfl, Nat.le_of_ble_eq_true rfl⟩) hP hD hS hA [0] [] rfl rfl (by decide) (by decide) (fun r_9 u_10 H locs hw hP hD hS => ?_)
    have hP : va_P D vwCl [(m0, .inr (12, [.ref m1, .ref m2, .ref m3, .ref m4, .ref m5, .ref m6, .int 0, .int 0, .int 1]))] H := hP
    have hD : va_D A [(m0, .inr (12, [.ref m1, .ref m2, .ref m3, .ref m4, .ref m5, .ref m6, .int 0, .int 0, .int 1]))] := hD
    have hw : r_9 = 1 := hw
    subst hw
    refine lv_if_eq (tgt := 19) hx hb dX6_profile_12 (by decide) (fun h => absurd h (by decide)) (fun _ => ?_)
    refine lv_iconst (v := (0)) hx hb dX6_profile_15 (by decide) ?_
    refine lv_goto (tgt := 28) hx hb dX6_profile_16 (by decide) ?_
    exact y_iret hx hb hr hlocks (1 : Int32) (Or.inr ⟨rfl, rfl, (yz_m_profile_60 p0 w_8)⟩) hP hD hS (Nat.le_of_ble_eq_true rfl) (Nat.le_of_ble_eq_true rfl) dX6_profile_28
theorem iX6_areAlike_X6 : ∀ w ∈ wsX60, w ∈ wsX6_areAlike := by decide +kernel
theorem kX6_areAlike_1 : Cond.fieldLink RX6 48 "MostwellModel" "people" "I" ∈ wsX6_areAlike := List.mem_of_getElem? (i := 1) (by decide +kernel)
set_option maxHeartbeats 4000000 in
set_option maxRecDepth 100000 in
theorem m_areAlike (l : Launch) (hfl : l.stackTraces = false) (D : va_G) (tE : Nat) (sz : Nat) (m0 : Nat) (m1 : Nat) (m2 : Nat) (m3 : Nat) (m4 : Nat) (m5 : Nat) (m6 : Nat) (po : Int32) (th : Int32) (A : Nat → Prop) (hA0 : A = va_A [(m0, .inr (12, [.ref m1, .ref m2, .ref m3, .ref m4, .ref m5, .ref m6, .int 0, .int po, .int th]))] sz) : Met l yX6_areAlike wsX6_areAlike (yR 0 0 0) (yP D tE [(m0, .inr (12, [.ref m1, .ref m2, .ref m3, .ref m4, .ref m5, .ref m6, .int 0, .int po, .int th]))] [] sz [.ref m0]) (va_Qi (S := Unit) (fun (r : Int32) (u : Unit) => r = 1) (fun (u : Unit) (t : State) => yB D A ((fun (u : Unit) => [(m0, .inr (12, [.ref m1, .ref m2, .ref m3, .ref m4, .ref m5, .ref m6, .int 0, .int po, .int th]))]) u) t) A) 0 0 A := by
  refine Met.ofW (cc := cX6_areAlike) (maxL := 3) (ret := (some .boolean)) (by decide) rfl ?_
  intro p e s m args below meth c s₁ B hml hv
  obtain ⟨rfl, rfl, hP, hK, hD, hE, hA⟩ := y_start hA0 hv
  have hx := B.exec
  have hb := B.bytes
  have hr := B.returns
  have hts := atoms_spec (ws := wsX6_areAlike) B.pre
  have hown : s.vm.findClass RX6 = some m.cls := findClass_of_methodNamed B.named
  have hlocks := B.notSynchronized
  clear hA0 hv
  have hS : va_S A s.heap s.heap [] := va_S.rf
  have hl := lv_entry ([.ref m0]) (n := 3) (Nat.le_of_ble_eq_true rfl)
  rw [lg_entry_eq]
  generalize (lg_sl ([.ref m0]) ++ List.replicate (3 - (lg_sl ([.ref m0])).length) Slot.unset).toArray = ls at hl ⊢
  have hl : lv_has ls 3 [(0, .ref m0)] := hl
  refine lv_iconst (v := (1)) hx hb dX6_areAlike_0 (by decide) ?_
  refine lv_istore_n (lv' := [(1, .int 1), (0, .ref m0)]) hx hb dX6_areAlike_1 rfl hl (by decide) rfl (fun ls hl => ?_)
  refine lv_iconst (v := (1)) hx hb dX6_areAlike_2 (by decide) ?_
  refine lv_istore_n (lv' := [(2, .int 1), (1, .int 1), (0, .ref m0)]) hx hb dX6_areAlike_3 rfl hl (by decide) rfl (fun ls hl => ?_)
  refine lv_iload_n hx hb dX6_areAlike_4 rfl (lv_at hl 0 rfl) ?_
  refine lv_aload_n hx hb dX6_areAlike_5 rfl (lv_at hl 2 rfl) ?_
  refine va_get (D := D) (ci := 12) (v := .int 0) (C := RX6) (T := TX6) (N := 9) hx hb hts iX6_areAlike_X6 hown hK hP 0 rfl rfl 6 (by decide) (hts _ kX6_areAlike_1) (fun _ h9 => h9) rfl dX6_areAlike_6 ?_
  refine lv_icmp_ge (tgt := 41) hx hb dX6_areAlike_9 (by decide) (fun _ => ?_) (fun h => absurd h (by decide))
  refine lv_iload_n hx hb dX6_areAlike_41 rfl (lv_at hl 1 rfl) ?_
  exact y_zret hx hb hr hlocks (by decide) () rfl hP hD hS (Nat.le_of_ble_eq_true rfl) (Nat.le_of_ble_eq_true rfl) dX6_areAlike_42
theorem iX6_best_X6 : ∀ w ∈ wsX60, w ∈ wsX6_best := by decide +kernel
theorem kX6_best_1 : Cond.fieldLink RX6 48 "MostwellModel" "people" "I" ∈ wsX6_best := List.mem_of_getElem? (i := 1) (by decide +kernel)
theorem kX6_best_2 : Cond.arrayClass .int ∈ wsX6_best := List.mem_of_getElem? (i := 2) (by decide +kernel)
theorem kX6_best_3 : Cond.fieldLink RX6 55 "MostwellModel" "posts" "I" ∈ wsX6_best := List.mem_of_getElem? (i := 3) (by decide +kernel)
set_option maxHeartbeats 4000000 in
set_option maxRecDepth 100000 in
theorem m_best (l : Launch) (hfl : l.stackTraces = false) (D : va_G) (tE : Nat) (sz : Nat) (m0 : Nat) (m1 : Nat) (m2 : Nat) (m3 : Nat) (m4 : Nat) (m5 : Nat) (m6 : Nat) (th : Int32) (r1 : Nat) (A : Nat → Prop) (hA0 : A = va_A [(m0, .inr (12, [.ref m1, .ref m2, .ref m3, .ref m4, .ref m5, .ref m6, .int 0, .int 0, .int th]))] sz) : Met l yX6_best wsX6_best (yR 1 2 1) (yP D tE [(m0, .inr (12, [.ref m1, .ref m2, .ref m3, .ref m4, .ref m5, .ref m6, .int 0, .int 0, .int th]))] [] sz [.ref m0, .ref r1]) (va_Ql (S := Unit) (fun (r : Int64) (u : Unit) => r = 0) (fun (u : Unit) (t : State) => yB D A ((fun (u : Unit) => [(m0, .inr (12, [.ref m1, .ref m2, .ref m3, .ref m4, .ref m5, .ref m6, .int 0, .int 0, .int th]))]) u) t) A) 2 1 A := by
  refine Met.ofW (cc := cX6_best) (maxL := 16) (ret := (some .long)) (by decide) rfl ?_
  intro p e s m args below meth c s₁ B hml hv
  obtain ⟨rfl, rfl, hP, hK, hD, hE, hA⟩ := y_start hA0 hv
  have hx := B.exec
  have hb := B.bytes
  have hr := B.returns
  have hts := atoms_spec (ws := wsX6_best) B.pre
  have hown : s.vm.findClass RX6 = some m.cls := findClass_of_methodNamed B.named
  have hlocks := B.notSynchronized
  clear hA0 hv
  have hS : va_S A s.heap s.heap [] := va_S.rf
  have hl := lv_entry ([.ref m0, .ref r1]) (n := 16) (Nat.le_of_ble_eq_true rfl)
  rw [lg_entry_eq]
  generalize (lg_sl ([.ref m0, .ref r1]) ++ List.replicate (16 - (lg_sl ([.ref m0, .ref r1])).length) Slot.unset).toArray = ls at hl ⊢
  have hl : lv_has ls 16 [(0, .ref m0), (1, .ref r1)] := hl
  refine lv_aload_n hx hb dX6_best_0 rfl (lv_at hl 0 rfl) ?_
  refine va_get (D := D) (ci := 12) (v := .int 0) (C := RX6) (T := TX6) (N := 9) hx hb hts iX6_best_X6 hown hK hP 0 rfl rfl 6 (by decide) (hts _ kX6_best_1) (fun _ h9 => h9) rfl dX6_best_1 ?_
  refine va_newa (atype := .int) (ty := .int) (N' := 0) (a0 := (0, .inl (fun _ => 0))) hx hb (hts _ kX6_best_2) rfl hK hP hD hS hA (fun _ => rfl) (by decide) (by decide) (by decide) (Nat.le_of_ble_eq_true rfl) (Nat.le_of_ble_eq_true rfl) dX6_best_4 (fun q_1 c_2 H hK hP hD hS => ?_)
  have hK : va_K D vwCl [(c_2, .int)] s := hK
  have hP : va_P D vwCl [(m0, .inr (12, [.ref m1, .ref m2, .ref m3, .ref m4, .ref m5, .ref m6, .int 0, .int 0, .int th])), (q_1, .inl (c_2, 0, .inl (fun _ => 0)))] H := hP
  have hD : va_D A [(m0, .inr (12, [.ref m1, .ref m2, .ref m3, .ref m4, .ref m5, .ref m6, .int 0, .int 0, .int th])), (q_1, .inl (c_2, 0, .inl (fun _ => 0)))] := hD
  refine lv_astore_n (lv' := [(2, .ref q_1), (0, .ref m0), (1, .ref r1)]) hx hb dX6_best_6 rfl hl (by decide) rfl (fun ls hl => ?_)
  refine lv_aload_n hx hb dX6_best_7 rfl (lv_at hl 1 rfl) ?_
  refine va_get (D := D) (ci := 12) (v := .int 0) (C := RX6) (T := TX6) (N := 9) hx hb hts iX6_best_X6 hown hK hP 0 rfl rfl 7 (by decide) (hts _ kX6_best_3) (fun _ h9 => h9) rfl dX6_best_8 ?_
  refine lv_iconst (v := (1)) hx hb dX6_best_11 (by decide) ?_
  refine lv_iadd hx hb dX6_best_12 ?_
  refine lv_topi (fun x_3 ex_3 => ?_)
  obtain rfl : x_3 = (1 : Int32) := ex_3.trans (by decide)
  refine va_newa (atype := .int) (ty := .int) (N' := 1) (a0 := (1, .inl (fun _ => 0))) hx hb (hts _ kX6_best_2) rfl hK hP hD hS hA (fun _ => rfl) (by decide) (by decide) (by decide) (Nat.le_of_ble_eq_true rfl) (Nat.le_of_ble_eq_true rfl) dX6_best_13 (fun q_4 c_5 H hK hP hD hS => ?_)
  have hc9 := (y_cls hK 0 1 rfl rfl).symm
  subst hc9
  have hK : va_K D vwCl [(c_2, .int)] s := hK.sub [0] rfl
  have hP : va_P D vwCl [(m0, .inr (12, [.ref m1, .ref m2, .ref m3, .ref m4, .ref m5, .ref m6, .int 0, .int 0, .int th])), (q_1, .inl (c_2, 0, .inl (fun _ => 0))), (q_4, .inl (c_2, 1, .inl (fun _ => 0)))] H := hP
  have hD : va_D A [(m0, .inr (12, [.ref m1, .ref m2, .ref m3, .ref m4, .ref m5, .ref m6, .int 0, .int 0, .int th])), (q_1, .inl (c_2, 0, .inl (fun _ => 0))), (q_4, .inl (c_2, 1, .inl (fun _ => 0)))] := hD
  refine lv_astore_n (lv' := [(3, .ref q_4), (2, .ref q_1), (0, .ref m0), (1, .ref r1)]) hx hb dX6_best_15 rfl hl (by decide) rfl (fun ls hl => ?_)
  refine lv_lconst (v := (0)) hx hb dX6_best_16 (by decide) ?_
  refine lv_lstore (lv' := [(4, .long 0), (3, .ref q_4), (2, .ref q_1), (0, .ref m0), (1, .ref r1)]) hx hb dX6_best_17 hl (by decide) rfl (fun ls hl => ?_)
  refine lv_iconst (v := (0)) hx hb dX6_best_19 (by decide) ?_
  refine lv_istore (lv' := [(6, .int 0), (4, .long 0), (3, .ref q_4), (2, .ref q_1), (0, .ref m0), (1, .ref r1)]) hx hb dX6_best_20 hl (by decide) rfl (fun ls hl => ?_)
  refine lv_iload hx hb dX6_best_22 (lv_at hl 0 rfl) ?_
  refine lv_aload_n hx hb dX6_best_24 rfl (lv_at hl 4 rfl) ?_
  refine va_get (D := D) (ci := 12) (v := .int 0) (C := RX6) (T := TX6) (N := 9) hx hb hts iX6_best_X6 hown hK hP 0 rfl rfl 6 (by decide) (hts _ kX6_best_1) (fun _ h9 => h9) rfl dX6_best_25 ?_
  refine lv_icmp_ge (tgt := 478) hx hb dX6_best_28 (by decide) (fun _ => ?_) (fun h => absurd h (by decide))
  refine lv_lload hx hb dX6_best_478 (lv_at hl 1 rfl) ?_
  exact y_lret hx hb hr hlocks () rfl (hP.sub [0] rfl) (hD.sub [0] (by decide) rfl) hS (Nat.le_of_ble_eq_true rfl) (Nat.le_of_ble_eq_true rfl) dX6_best_480
theorem iX6_against_X6 : ∀ w ∈ wsX60, w ∈ wsX6_against := by decide +kernel
theorem kX6_against_1 : Cond.fieldLink RX6 48 "MostwellModel" "people" "I" ∈ wsX6_against := List.mem_of_getElem? (i := 1) (by decide +kernel)
theorem kX6_against_2 : Cond.fieldLink RX6 55 "MostwellModel" "posts" "I" ∈ wsX6_against := List.mem_of_getElem? (i := 2) (by decide +kernel)
theorem kX6_against_4 : Cond.arrayClass .long ∈ wsX6_against := List.mem_of_getElem? (i := 4) (by decide +kernel)
theorem kX6_against_3 : Cond.classLink RX6 177 "[[J" ∈ wsX6_against := List.mem_of_getElem? (i := 3) (by decide +kernel)
set_option maxHeartbeats 4000000 in
set_option maxRecDepth 100000 in
theorem m_against (l : Launch) (hfl : l.stackTraces = false) (D : va_G) (tE : Nat) (sz : Nat) (m0 : Nat) (m1 : Nat) (m2 : Nat) (m3 : Nat) (m4 : Nat) (m5 : Nat) (m6 : Nat) (th : Int32) (r1 : Nat) (A : Nat → Prop) (hA0 : A = va_A [(m0, .inr (12, [.ref m1, .ref m2, .ref m3, .ref m4, .ref m5, .ref m6, .int 0, .int 0, .int th]))] sz) : Met l yX6_against wsX6_against (yR 1 1 0) (yP D tE [(m0, .inr (12, [.ref m1, .ref m2, .ref m3, .ref m4, .ref m5, .ref m6, .int 0, .int 0, .int th]))] [] sz [.ref m0, .ref r1]) (va_Qr (S := Unit) (fun (u : Unit) => True) (fun (u : Unit) (r : Nat) (t : State) => yB D A ((fun (u : Unit) (r : Nat) => [(m0, .inr (12, [.ref m1, .ref m2, .ref m3, .ref m4, .ref m5, .ref m6, .int 0, .int 0, .int th]))]) u r) t) A) 1 0 A := by
  refine Met.ofW (cc := cX6_against) (maxL := 7) (ret := (some (.array (.array .long)))) (by decide) rfl ?_
  intro p e s m args below meth c s₁ B hml hv
  obtain ⟨rfl, rfl, hP, hK, hD, hE, hA⟩ := y_start hA0 hv
  have hx := B.exec
  have hb := B.bytes
  have hr := B.returns
  have hts := atoms_spec (ws := wsX6_against) B.pre
  have hown : s.vm.findClass RX6 = some m.cls := findClass_of_methodNamed B.named
  have hlocks := B.notSynchronized
  clear hA0 hv
  have hS : va_S A s.heap s.heap [] := va_S.rf
  have hl := lv_entry ([.ref m0, .ref r1]) (n := 7) (Nat.le_of_ble_eq_true rfl)
  rw [lg_entry_eq]
  generalize (lg_sl ([.ref m0, .ref r1]) ++ List.replicate (7 - (lg_sl ([.ref m0, .ref r1])).length) Slot.unset).toArray = ls at hl ⊢
  have hl : lv_has ls 7 [(0, .ref m0), (1, .ref r1)] := hl
  refine lv_aload_n hx hb dX6_against_0 rfl (lv_at hl 0 rfl) ?_
  refine va_get (D := D) (ci := 12) (v := .int 0) (C := RX6) (T := TX6) (N := 9) hx hb hts iX6_against_X6 hown hK hP 0 rfl rfl 6 (by decide) (hts _ kX6_against_1) (fun _ h9 => h9) rfl dX6_against_1 ?_
  refine lv_aload_n hx hb dX6_against_4 rfl (lv_at hl 0 rfl) ?_
  refine va_get (D := D) (ci := 12) (v := .int 0) (C := RX6) (T := TX6) (N := 9) hx hb hts iX6_against_X6 hown hK hP 0 rfl rfl 7 (by decide) (hts _ kX6_against_2) (fun _ h9 => h9) rfl dX6_against_5 ?_
  refine lv_iconst (v := (1)) hx hb dX6_against_8 (by decide) ?_
  refine lv_iadd hx hb dX6_against_9 ?_
  refine lv_topi (fun x_1 ex_1 => ?_)
  obtain rfl : x_1 = (1 : Int32) := ex_1.trans (by decide)
  obtain ⟨cy_3, hcy_3⟩ := y_arr (hts _ kX6_against_4)
  refine va_mna (ty := .long) (cy := cy_3) (X := [(m0, .inr (12, [.ref m1, .ref m2, .ref m3, .ref m4, .ref m5, .ref m6, .int 0, .int 0, .int th]))]) (L := []) (f := fun _ => .inr (0, [])) (N' := 0) (K' := 1) (z := (1, .inr (.inl (fun _ => 0)))) hx hb hown (hts _ kX6_against_3) hE.2.2.2.2.2.2.1 (hts _ kX6_against_4) hcy_3 hK hP hD hS hA (by decide) (by decide) (by decide) (by decide) (by decide) (by decide) (by decide) (by decide) (by decide) (Nat.le_of_ble_eq_true rfl) (Nat.le_of_ble_eq_true rfl) (fun _ => rfl) dX6_against_10 (fun q_2 rr_4 co_5 H _ _ hK hP hD hS => ?_)
  have hP : va_P D vwCl [(m0, .inr (12, [.ref m1, .ref m2, .ref m3, .ref m4, .ref m5, .ref m6, .int 0, .int 0, .int th]))] H := hP.sub [0] rfl
  have hD : va_D A [(m0, .inr (12, [.ref m1, .ref m2, .ref m3, .ref m4, .ref m5, .ref m6, .int 0, .int 0, .int th]))] := hD.sub [0] (by decide) rfl
  have hK : va_K D vwCl [] s := hK.sub [] rfl
  refine lv_astore_n (lv' := [(2, .ref q_2), (0, .ref m0), (1, .ref r1)]) hx hb dX6_against_14 rfl hl (by decide) rfl (fun ls hl => ?_)
  refine lv_iconst (v := (0)) hx hb dX6_against_15 (by decide) ?_
  refine lv_istore_n (lv' := [(3, .int 0), (2, .ref q_2), (0, .ref m0), (1, .ref r1)]) hx hb dX6_against_16 rfl hl (by decide) rfl (fun ls hl => ?_)
  refine lv_iload_n hx hb dX6_against_17 rfl (lv_at hl 0 rfl) ?_
  refine lv_aload_n hx hb dX6_against_18 rfl (lv_at hl 2 rfl) ?_
  refine va_get (D := D) (ci := 12) (v := .int 0) (C := RX6) (T := TX6) (N := 9) hx hb hts iX6_against_X6 hown hK hP 0 rfl rfl 6 (by decide) (hts _ kX6_against_1) (fun _ h9 => h9) rfl dX6_against_19 ?_
  refine lv_icmp_ge (tgt := 145) hx hb dX6_against_22 (by decide) (fun _ => ?_) (fun h => absurd h (by decide))
  refine lv_aload_n hx hb dX6_against_145 rfl (lv_at hl 1 rfl) ?_
  exact y_aret hx hb hr hlocks (Or.inr ⟨_, rfl⟩) () trivial hP hD hS (Nat.le_of_ble_eq_true rfl) (Nat.le_of_ble_eq_true rfl) dX6_against_146
theorem iX6_firsts_X6 : ∀ w ∈ wsX60, w ∈ wsX6_firsts := by decide +kernel
theorem kX6_firsts_1 : Cond.fieldLink RX6 48 "MostwellModel" "people" "I" ∈ wsX6_firsts := List.mem_of_getElem? (i := 1) (by decide +kernel)
theorem kX6_firsts_2 : Cond.fieldLink RX6 55 "MostwellModel" "posts" "I" ∈ wsX6_firsts := List.mem_of_getElem? (i := 2) (by decide +kernel)
theorem kX6_firsts_4 : Cond.arrayClass .long ∈ wsX6_firsts := List.mem_of_getElem? (i := 4) (by decide +kernel)
theorem kX6_firsts_3 : Cond.classLink RX6 177 "[[J" ∈ wsX6_firsts := List.mem_of_getElem? (i := 3) (by decide +kernel)
set_option maxHeartbeats 4000000 in
set_option maxRecDepth 100000 in
theorem m_firsts (l : Launch) (hfl : l.stackTraces = false) (D : va_G) (tE : Nat) (sz : Nat) (m0 : Nat) (m1 : Nat) (m2 : Nat) (m3 : Nat) (m4 : Nat) (m5 : Nat) (m6 : Nat) (th : Int32) (A : Nat → Prop) (hA0 : A = va_A [(m0, .inr (12, [.ref m1, .ref m2, .ref m3, .ref m4, .ref m5, .ref m6, .int 0, .int 0, .int th]))] sz) : Met l yX6_firsts wsX6_firsts (yR 1 1 0) (yP D tE [(m0, .inr (12, [.ref m1, .ref m2, .ref m3, .ref m4, .ref m5, .ref m6, .int 0, .int 0, .int th]))] [] sz [.ref m0]) (va_Qr (S := Unit) (fun (u : Unit) => True) (fun (u : Unit) (r : Nat) (t : State) => yB D A ((fun (u : Unit) (r : Nat) => [(m0, .inr (12, [.ref m1, .ref m2, .ref m3, .ref m4, .ref m5, .ref m6, .int 0, .int 0, .int th]))]) u r) t) A) 1 0 A := by
  refine Met.ofW (cc := cX6_firsts) (maxL := 4) (ret := (some (.array (.array .long)))) (by decide) rfl ?_
  intro p e s m args below meth c s₁ B hml hv
  obtain ⟨rfl, rfl, hP, hK, hD, hE, hA⟩ := y_start hA0 hv
  have hx := B.exec
  have hb := B.bytes
  have hr := B.returns
  have hts := atoms_spec (ws := wsX6_firsts) B.pre
  have hown : s.vm.findClass RX6 = some m.cls := findClass_of_methodNamed B.named
  have hlocks := B.notSynchronized
  clear hA0 hv
  have hS : va_S A s.heap s.heap [] := va_S.rf
  have hl := lv_entry ([.ref m0]) (n := 4) (Nat.le_of_ble_eq_true rfl)
  rw [lg_entry_eq]
  generalize (lg_sl ([.ref m0]) ++ List.replicate (4 - (lg_sl ([.ref m0])).length) Slot.unset).toArray = ls at hl ⊢
  have hl : lv_has ls 4 [(0, .ref m0)] := hl
  refine lv_aload_n hx hb dX6_firsts_0 rfl (lv_at hl 0 rfl) ?_
  refine va_get (D := D) (ci := 12) (v := .int 0) (C := RX6) (T := TX6) (N := 9) hx hb hts iX6_firsts_X6 hown hK hP 0 rfl rfl 6 (by decide) (hts _ kX6_firsts_1) (fun _ h9 => h9) rfl dX6_firsts_1 ?_
  refine lv_aload_n hx hb dX6_firsts_4 rfl (lv_at hl 0 rfl) ?_
  refine va_get (D := D) (ci := 12) (v := .int 0) (C := RX6) (T := TX6) (N := 9) hx hb hts iX6_firsts_X6 hown hK hP 0 rfl rfl 7 (by decide) (hts _ kX6_firsts_2) (fun _ h9 => h9) rfl dX6_firsts_5 ?_
  refine lv_iconst (v := (1)) hx hb dX6_firsts_8 (by decide) ?_
  refine lv_iadd hx hb dX6_firsts_9 ?_
  refine lv_topi (fun x_1 ex_1 => ?_)
  obtain rfl : x_1 = (1 : Int32) := ex_1.trans (by decide)
  obtain ⟨cy_3, hcy_3⟩ := y_arr (hts _ kX6_firsts_4)
  refine va_mna (ty := .long) (cy := cy_3) (X := [(m0, .inr (12, [.ref m1, .ref m2, .ref m3, .ref m4, .ref m5, .ref m6, .int 0, .int 0, .int th]))]) (L := []) (f := fun _ => .inr (0, [])) (N' := 0) (K' := 1) (z := (1, .inr (.inl (fun _ => 0)))) hx hb hown (hts _ kX6_firsts_3) hE.2.2.2.2.2.2.1 (hts _ kX6_firsts_4) hcy_3 hK hP hD hS hA (by decide) (by decide) (by decide) (by decide) (by decide) (by decide) (by decide) (by decide) (by decide) (Nat.le_of_ble_eq_true rfl) (Nat.le_of_ble_eq_true rfl) (fun _ => rfl) dX6_firsts_10 (fun q_2 rr_4 co_5 H _ _ hK hP hD hS => ?_)
  have hP : va_P D vwCl [(m0, .inr (12, [.ref m1, .ref m2, .ref m3, .ref m4, .ref m5, .ref m6, .int 0, .int 0, .int th]))] H := hP.sub [0] rfl
  have hD : va_D A [(m0, .inr (12, [.ref m1, .ref m2, .ref m3, .ref m4, .ref m5, .ref m6, .int 0, .int 0, .int th]))] := hD.sub [0] (by decide) rfl
  have hK : va_K D vwCl [] s := hK.sub [] rfl
  refine lv_astore_n (lv' := [(1, .ref q_2), (0, .ref m0)]) hx hb dX6_firsts_14 rfl hl (by decide) rfl (fun ls hl => ?_)
  refine lv_iconst (v := (0)) hx hb dX6_firsts_15 (by decide) ?_
  refine lv_istore_n (lv' := [(2, .int 0), (1, .ref q_2), (0, .ref m0)]) hx hb dX6_firsts_16 rfl hl (by decide) rfl (fun ls hl => ?_)
  refine lv_iload_n hx hb dX6_firsts_17 rfl (lv_at hl 0 rfl) ?_
  refine lv_aload_n hx hb dX6_firsts_18 rfl (lv_at hl 2 rfl) ?_
  refine va_get (D := D) (ci := 12) (v := .int 0) (C := RX6) (T := TX6) (N := 9) hx hb hts iX6_firsts_X6 hown hK hP 0 rfl rfl 6 (by decide) (hts _ kX6_firsts_1) (fun _ h9 => h9) rfl dX6_firsts_19 ?_
  refine lv_icmp_ge (tgt := 83) hx hb dX6_firsts_22 (by decide) (fun _ => ?_) (fun h => absurd h (by decide))
  refine lv_aload_n hx hb dX6_firsts_83 rfl (lv_at hl 1 rfl) ?_
  exact y_aret hx hb hr hlocks (Or.inr ⟨_, rfl⟩) () trivial hP hD hS (Nat.le_of_ble_eq_true rfl) (Nat.le_of_ble_eq_true rfl) dX6_firsts_84
theorem iX6_profiles_X6 : ∀ w ∈ wsX60, w ∈ wsX6_profiles := by decide +kernel
theorem kX6_profiles_1 : Cond.fieldLink RX6 48 "MostwellModel" "people" "I" ∈ wsX6_profiles := List.mem_of_getElem? (i := 1) (by decide +kernel)
theorem kX6_profiles_2 : Cond.fieldLink RX6 55 "MostwellModel" "posts" "I" ∈ wsX6_profiles := List.mem_of_getElem? (i := 2) (by decide +kernel)
theorem kX6_profiles_4 : Cond.arrayClass .long ∈ wsX6_profiles := List.mem_of_getElem? (i := 4) (by decide +kernel)
theorem kX6_profiles_3 : Cond.classLink RX6 177 "[[J" ∈ wsX6_profiles := List.mem_of_getElem? (i := 3) (by decide +kernel)
set_option maxHeartbeats 4000000 in
set_option maxRecDepth 100000 in
theorem m_profiles (l : Launch) (hfl : l.stackTraces = false) (D : va_G) (tE : Nat) (sz : Nat) (m0 : Nat) (m1 : Nat) (m2 : Nat) (m3 : Nat) (m4 : Nat) (m5 : Nat) (m6 : Nat) (th : Int32) (A : Nat → Prop) (hA0 : A = va_A [(m0, .inr (12, [.ref m1, .ref m2, .ref m3, .ref m4, .ref m5, .ref m6, .int 0, .int 0, .int th]))] sz) : Met l yX6_profiles wsX6_profiles (yR 1 1 0) (yP D tE [(m0, .inr (12, [.ref m1, .ref m2, .ref m3, .ref m4, .ref m5, .ref m6, .int 0, .int 0, .int th]))] [] sz [.ref m0]) (va_Qr (S := Unit) (fun (u : Unit) => True) (fun (u : Unit) (r : Nat) (t : State) => yB D A ((fun (u : Unit) (r : Nat) => [(m0, .inr (12, [.ref m1, .ref m2, .ref m3, .ref m4, .ref m5, .ref m6, .int 0, .int 0, .int th]))]) u r) t) A) 1 0 A := by
  refine Met.ofW (cc := cX6_profiles) (maxL := 7) (ret := (some (.array (.array .long)))) (by decide) rfl ?_
  intro p e s m args below meth c s₁ B hml hv
  obtain ⟨rfl, rfl, hP, hK, hD, hE, hA⟩ := y_start hA0 hv
  have hx := B.exec
  have hb := B.bytes
  have hr := B.returns
  have hts := atoms_spec (ws := wsX6_profiles) B.pre
  have hown : s.vm.findClass RX6 = some m.cls := findClass_of_methodNamed B.named
  have hlocks := B.notSynchronized
  clear hA0 hv
  have hS : va_S A s.heap s.heap [] := va_S.rf
  have hl := lv_entry ([.ref m0]) (n := 7) (Nat.le_of_ble_eq_true rfl)
  rw [lg_entry_eq]
  generalize (lg_sl ([.ref m0]) ++ List.replicate (7 - (lg_sl ([.ref m0])).length) Slot.unset).toArray = ls at hl ⊢
  have hl : lv_has ls 7 [(0, .ref m0)] := hl
  refine lv_aload_n hx hb dX6_profiles_0 rfl (lv_at hl 0 rfl) ?_
  refine va_get (D := D) (ci := 12) (v := .int 0) (C := RX6) (T := TX6) (N := 9) hx hb hts iX6_profiles_X6 hown hK hP 0 rfl rfl 6 (by decide) (hts _ kX6_profiles_1) (fun _ h9 => h9) rfl dX6_profiles_1 ?_
  refine lv_aload_n hx hb dX6_profiles_4 rfl (lv_at hl 0 rfl) ?_
  refine va_get (D := D) (ci := 12) (v := .int 0) (C := RX6) (T := TX6) (N := 9) hx hb hts iX6_profiles_X6 hown hK hP 0 rfl rfl 7 (by decide) (hts _ kX6_profiles_2) (fun _ h9 => h9) rfl dX6_profiles_5 ?_
  refine lv_iconst (v := (1)) hx hb dX6_profiles_8 (by decide) ?_
  refine lv_iadd hx hb dX6_profiles_9 ?_
  refine lv_topi (fun x_1 ex_1 => ?_)
  obtain rfl : x_1 = (1 : Int32) := ex_1.trans (by decide)
  obtain ⟨cy_3, hcy_3⟩ := y_arr (hts _ kX6_profiles_4)
  refine va_mna (ty := .long) (cy := cy_3) (X := [(m0, .inr (12, [.ref m1, .ref m2, .ref m3, .ref m4, .ref m5, .ref m6, .int 0, .int 0, .int th]))]) (L := []) (f := fun _ => .inr (0, [])) (N' := 0) (K' := 1) (z := (1, .inr (.inl (fun _ => 0)))) hx hb hown (hts _ kX6_profiles_3) hE.2.2.2.2.2.2.1 (hts _ kX6_profiles_4) hcy_3 hK hP hD hS hA (by decide) (by decide) (by decide) (by decide) (by decide) (by decide) (by decide) (by decide) (by decide) (Nat.le_of_ble_eq_true rfl) (Nat.le_of_ble_eq_true rfl) (fun _ => rfl) dX6_profiles_10 (fun q_2 rr_4 co_5 H _ _ hK hP hD hS => ?_)
  have hP : va_P D vwCl [(m0, .inr (12, [.ref m1, .ref m2, .ref m3, .ref m4, .ref m5, .ref m6, .int 0, .int 0, .int th]))] H := hP.sub [0] rfl
  have hD : va_D A [(m0, .inr (12, [.ref m1, .ref m2, .ref m3, .ref m4, .ref m5, .ref m6, .int 0, .int 0, .int th]))] := hD.sub [0] (by decide) rfl
  have hK : va_K D vwCl [] s := hK.sub [] rfl
  refine lv_astore_n (lv' := [(1, .ref q_2), (0, .ref m0)]) hx hb dX6_profiles_14 rfl hl (by decide) rfl (fun ls hl => ?_)
  refine lv_iconst (v := (0)) hx hb dX6_profiles_15 (by decide) ?_
  refine lv_istore_n (lv' := [(2, .int 0), (1, .ref q_2), (0, .ref m0)]) hx hb dX6_profiles_16 rfl hl (by decide) rfl (fun ls hl => ?_)
  refine lv_iload_n hx hb dX6_profiles_17 rfl (lv_at hl 0 rfl) ?_
  refine lv_aload_n hx hb dX6_profiles_18 rfl (lv_at hl 2 rfl) ?_
  refine va_get (D := D) (ci := 12) (v := .int 0) (C := RX6) (T := TX6) (N := 9) hx hb hts iX6_profiles_X6 hown hK hP 0 rfl rfl 6 (by decide) (hts _ kX6_profiles_1) (fun _ h9 => h9) rfl dX6_profiles_19 ?_
  refine lv_icmp_ge (tgt := 105) hx hb dX6_profiles_22 (by decide) (fun _ => ?_) (fun h => absurd h (by decide))
  refine lv_aload_n hx hb dX6_profiles_105 rfl (lv_at hl 1 rfl) ?_
  exact y_aret hx hb hr hlocks (Or.inr ⟨_, rfl⟩) () trivial hP hD hS (Nat.le_of_ble_eq_true rfl) (Nat.le_of_ble_eq_true rfl) dX6_profiles_106
theorem iX6_even_X6 : ∀ w ∈ wsX60, w ∈ wsX6_even := by decide +kernel
theorem kX6_even_1 : Cond.fieldLink RX6 55 "MostwellModel" "posts" "I" ∈ wsX6_even := List.mem_of_getElem? (i := 1) (by decide +kernel)
theorem kX6_even_2 : Cond.arrayClass .boolean ∈ wsX6_even := List.mem_of_getElem? (i := 2) (by decide +kernel)
set_option maxHeartbeats 4000000 in
set_option maxRecDepth 100000 in
theorem m_even (l : Launch) (hfl : l.stackTraces = false) (D : va_G) (tE : Nat) (sz : Nat) (m0 : Nat) (m1 : Nat) (m2 : Nat) (m3 : Nat) (m4 : Nat) (m5 : Nat) (m6 : Nat) (th : Int32) (A : Nat → Prop) (hA0 : A = va_A [(m0, .inr (12, [.ref m1, .ref m2, .ref m3, .ref m4, .ref m5, .ref m6, .int 0, .int 0, .int th]))] sz) : Met l yX6_even wsX6_even (yR 2 4 1) (yP D tE [(m0, .inr (12, [.ref m1, .ref m2, .ref m3, .ref m4, .ref m5, .ref m6, .int 0, .int 0, .int th]))] [] sz [.ref m0]) (va_Qr (S := Unit) (fun (u : Unit) => True) (fun (u : Unit) (r : Nat) (t : State) => yB D A ((fun (u : Unit) (r : Nat) => [(m0, .inr (12, [.ref m1, .ref m2, .ref m3, .ref m4, .ref m5, .ref m6, .int 0, .int 0, .int th]))]) u r) t) A) 4 1 A := by
  refine Met.ofW (cc := cX6_even) (maxL := 5) (ret := (some (.array .boolean))) (by decide) rfl ?_
  intro p e s m args below meth c s₁ B hml hv
  obtain ⟨rfl, rfl, hP, hK, hD, hE, hA⟩ := y_start hA0 hv
  have hx := B.exec
  have hb := B.bytes
  have hr := B.returns
  have hts := atoms_spec (ws := wsX6_even) B.pre
  have hown : s.vm.findClass RX6 = some m.cls := findClass_of_methodNamed B.named
  have hlocks := B.notSynchronized
  clear hA0 hv
  have hS : va_S A s.heap s.heap [] := va_S.rf
  have hl := lv_entry ([.ref m0]) (n := 5) (Nat.le_of_ble_eq_true rfl)
  rw [lg_entry_eq]
  generalize (lg_sl ([.ref m0]) ++ List.replicate (5 - (lg_sl ([.ref m0])).length) Slot.unset).toArray = ls at hl ⊢
  have hl : lv_has ls 5 [(0, .ref m0)] := hl
  refine lv_aload_n hx hb dX6_even_0 rfl (lv_at hl 0 rfl) ?_
  refine lv_aload_n hx hb dX6_even_1 rfl (lv_at hl 0 rfl) ?_
  refine yc_r (wc := [(m0, .inr (12, [.ref m1, .ref m2, .ref m3, .ref m4, .ref m5, .ref m6, .int 0, .int 0, .int th]))]) (wr := []) (va_runV (As := []) (rest := [.ref m0]) ⟨hx, hb, hml, hown, hts⟩ (m_firsts l hfl D tE s.heap.size m0 m1 m2 m3 m4 m5 m6 th (va_A [(m0, .inr (12, [.ref m1, .ref m2, .ref m3, .ref m4, .ref m5, .ref m6, .int 0, .int 0, .int th]))] s.heap.size) rfl) (cwV 0 hts gX6_even_X6_firsts rfl rfl rfl (by decide +kernel) ⟨Nat.le_of_ble_eq_true rfl, Nat.le_of_ble_eq_true rfl⟩) (yPreV (wc := [(m0, .inr (12, [.ref m1, .ref m2, .ref m3, .ref m4, .ref m5, .ref m6, .int 0, .int 0, .int th]))]) (tc := []) hK hP hD hS hA hE [0] [] (by decide) rfl rfl (ci := 12) (q0 := 0) (q := (RX6, TX6, 9)) rfl rfl) rfl rfl hl.1 rfl (lv_room (Nat.le_of_ble_eq_true rfl)) dX6_even_2 ⟨Nat.le_of_ble_eq_true rfl, Nat.le_of_ble_eq_true rfl⟩) hP hD hS hA [0] [] rfl rfl (by decide) (by decide) (fun r_1 u_2 H locs hw hP hD hS => ?_)
  have hP : va_P D vwCl [(m0, .inr (12, [.ref m1, .ref m2, .ref m3, .ref m4, .ref m5, .ref m6, .int 0, .int 0, .int th]))] H := hP
  have hD : va_D A [(m0, .inr (12, [.ref m1, .ref m2, .ref m3, .ref m4, .ref m5, .ref m6, .int 0, .int 0, .int th]))] := hD
  refine yc_l (wc := [(m0, .inr (12, [.ref m1, .ref m2, .ref m3, .ref m4, .ref m5, .ref m6, .int 0, .int 0, .int th]))]) (wr := []) (va_runV (As := [.ref r_1]) (rest := []) ⟨hx, hb, hml, hown, hts⟩ (m_best l hfl D tE H.size m0 m1 m2 m3 m4 m5 m6 th r_1 (va_A [(m0, .inr (12, [.ref m1, .ref m2, .ref m3, .ref m4, .ref m5, .ref m6, .int 0, .int 0, .int th]))] H.size) rfl) (cwV 1 hts gX6_even_X6_best rfl rfl rfl (by decide +kernel) ⟨Nat.le_of_ble_eq_true rfl, Nat.le_of_ble_eq_true rfl⟩) (yPreV (wc := [(m0, .inr (12, [.ref m1, .ref m2, .ref m3, .ref m4, .ref m5, .ref m6, .int 0, .int 0, .int th]))]) (tc := []) hK hP hD hS hA hE [0] [] (by decide) rfl rfl (ci := 12) (q0 := 0) (q := (RX6, TX6, 9)) rfl rfl) rfl rfl hl.1 rfl (lv_room (Nat.le_of_ble_eq_true rfl)) dX6_even_5 ⟨Nat.le_of_ble_eq_true rfl, Nat.le_of_ble_eq_true rfl⟩) hP hD hS hA [0] [] rfl rfl (by decide) (by decide) (fun r_3 u_4 H locs hw hP hD hS => ?_)
  have hP : va_P D vwCl [(m0, .inr (12, [.ref m1, .ref m2, .ref m3, .ref m4, .ref m5, .ref m6, .int 0, .int 0, .int th]))] H := hP
  have hD : va_D A [(m0, .inr (12, [.ref m1, .ref m2, .ref m3, .ref m4, .ref m5, .ref m6, .int 0, .int 0, .int th]))] := hD
  have hw : r_3 = 0 := hw
  subst hw
  refine lv_lstore_n (lv' := [(1, .long 0), (0, .ref m0)]) hx hb dX6_even_8 rfl hl (by decide) rfl (fun ls hl => ?_)
  refine lv_aload_n hx hb dX6_even_9 rfl (lv_at hl 1 rfl) ?_
  refine va_get (D := D) (ci := 12) (v := .int 0) (C := RX6) (T := TX6) (N := 9) hx hb hts iX6_even_X6 hown hK hP 0 rfl rfl 7 (by decide) (hts _ kX6_even_1) (fun _ h9 => h9) rfl dX6_even_10 ?_
  refine va_newa (atype := .boolean) (ty := .boolean) (N' := 0) (a0 := (0, .inl (fun _ => 0))) hx hb (hts _ kX6_even_2) rfl hK hP hD hS hA (fun _ => rfl) (by decide) (by decide) (by decide) (Nat.le_of_ble_eq_true rfl) (Nat.le_of_ble_eq_true rfl) dX6_even_13 (fun q_5 c_6 H hK hP hD hS => ?_)
  have hK : va_K D vwCl [(c_6, .boolean)] s := hK
  have hP : va_P D vwCl [(m0, .inr (12, [.ref m1, .ref m2, .ref m3, .ref m4, .ref m5, .ref m6, .int 0, .int 0, .int th])), (q_5, .inl (c_6, 0, .inl (fun _ => 0)))] H := hP
  have hD : va_D A [(m0, .inr (12, [.ref m1, .ref m2, .ref m3, .ref m4, .ref m5, .ref m6, .int 0, .int 0, .int th])), (q_5, .inl (c_6, 0, .inl (fun _ => 0)))] := hD
  refine lv_astore_n (lv' := [(3, .ref q_5), (1, .long 0), (0, .ref m0)]) hx hb dX6_even_15 rfl hl (by decide) rfl (fun ls hl => ?_)
  refine lv_iconst (v := (0)) hx hb dX6_even_16 (by decide) ?_
  refine lv_istore (lv' := [(4, .int 0), (3, .ref q_5), (1, .long 0), (0, .ref m0)]) hx hb dX6_even_17 hl (by decide) rfl (fun ls hl => ?_)
  refine lv_iload hx hb dX6_even_19 (lv_at hl 0 rfl) ?_
  refine lv_aload_n hx hb dX6_even_21 rfl (lv_at hl 3 rfl) ?_
  refine va_get (D := D) (ci := 12) (v := .int 0) (C := RX6) (T := TX6) (N := 9) hx hb hts iX6_even_X6 hown hK hP 0 rfl rfl 7 (by decide) (hts _ kX6_even_1) (fun _ h9 => h9) rfl dX6_even_22 ?_
  refine lv_icmp_ge (tgt := 78) hx hb dX6_even_25 (by decide) (fun _ => ?_) (fun h => absurd h (by decide))
  refine lv_aload_n hx hb dX6_even_78 rfl (lv_at hl 1 rfl) ?_
  exact y_aret hx hb hr hlocks (Or.inr ⟨_, rfl⟩) () trivial (hP.sub [0] rfl) (hD.sub [0] (by decide) rfl) hS (Nat.le_of_ble_eq_true rfl) (Nat.le_of_ble_eq_true rfl) dX6_even_79
theorem kX6_first_1 : Cond.constantLong RX6 164 (-1000000000000000) ∈ wsX6_first := List.mem_of_getElem? (i := 1) (by decide +kernel)
theorem kX6_first_2 : Cond.arrayClass .int ∈ wsX6_first := List.mem_of_getElem? (i := 2) (by decide +kernel)
theorem iX6_first_X6 : ∀ w ∈ wsX60, w ∈ wsX6_first := by decide +kernel
theorem kX6_first_3 : Cond.fieldLink RX6 48 "MostwellModel" "people" "I" ∈ wsX6_first := List.mem_of_getElem? (i := 3) (by decide +kernel)
set_option maxHeartbeats 4000000 in
set_option maxRecDepth 100000 in
theorem m_first (l : Launch) (hfl : l.stackTraces = false) (D : va_G) (tE : Nat) (sz : Nat) (m0 : Nat) (m1 : Nat) (m2 : Nat) (m3 : Nat) (m4 : Nat) (m5 : Nat) (m6 : Nat) (th : Int32) (r1 : Nat) (A : Nat → Prop) (hA0 : A = va_A [(m0, .inr (12, [.ref m1, .ref m2, .ref m3, .ref m4, .ref m5, .ref m6, .int 0, .int 0, .int th]))] sz) : Met l yX6_first wsX6_first (yR 2 3 11) (yP D tE [(m0, .inr (12, [.ref m1, .ref m2, .ref m3, .ref m4, .ref m5, .ref m6, .int 0, .int 0, .int th]))] [] sz [.ref m0, .ref r1]) (va_Qr (S := Unit) (fun (u : Unit) => True) (fun (u : Unit) (r : Nat) (t : State) => yB D A ((fun (u : Unit) (r : Nat) => [(m0, .inr (12, [.ref m1, .ref m2, .ref m3, .ref m4, .ref m5, .ref m6, .int 0, .int 0, .int th]))]) u r) t) A) 3 11 A := by
  refine Met.ofW (cc := cX6_first) (maxL := 8) (ret := (some (.array .int))) (by decide) rfl ?_
  intro p e s m args below meth c s₁ B hml hv
  obtain ⟨rfl, rfl, hP, hK, hD, hE, hA⟩ := y_start hA0 hv
  have hx := B.exec
  have hb := B.bytes
  have hr := B.returns
  have hts := atoms_spec (ws := wsX6_first) B.pre
  have hown : s.vm.findClass RX6 = some m.cls := findClass_of_methodNamed B.named
  have hlocks := B.notSynchronized
  clear hA0 hv
  have hS : va_S A s.heap s.heap [] := va_S.rf
  have hl := lv_entry ([.ref m0, .ref r1]) (n := 8) (Nat.le_of_ble_eq_true rfl)
  rw [lg_entry_eq]
  generalize (lg_sl ([.ref m0, .ref r1]) ++ List.replicate (8 - (lg_sl ([.ref m0, .ref r1])).length) Slot.unset).toArray = ls at hl ⊢
  have hl : lv_has ls 8 [(0, .ref m0), (1, .ref r1)] := hl
  refine lv_aload_n hx hb dX6_first_0 rfl (lv_at hl 0 rfl) ?_
  refine lv_aload_n hx hb dX6_first_1 rfl (lv_at hl 1 rfl) ?_
  refine yc_l (wc := [(m0, .inr (12, [.ref m1, .ref m2, .ref m3, .ref m4, .ref m5, .ref m6, .int 0, .int 0, .int th]))]) (wr := []) (va_runV (As := [.ref r1]) (rest := []) ⟨hx, hb, hml, hown, hts⟩ (m_best l hfl D tE s.heap.size m0 m1 m2 m3 m4 m5 m6 th r1 (va_A [(m0, .inr (12, [.ref m1, .ref m2, .ref m3, .ref m4, .ref m5, .ref m6, .int 0, .int 0, .int th]))] s.heap.size) rfl) (cwV 1 hts gX6_first_X6_best rfl rfl rfl (by decide +kernel) ⟨Nat.le_of_ble_eq_true rfl, Nat.le_of_ble_eq_true rfl⟩) (yPreV (wc := [(m0, .inr (12, [.ref m1, .ref m2, .ref m3, .ref m4, .ref m5, .ref m6, .int 0, .int 0, .int th]))]) (tc := []) hK hP hD hS hA hE [0] [] (by decide) rfl rfl (ci := 12) (q0 := 0) (q := (RX6, TX6, 9)) rfl rfl) rfl rfl hl.1 rfl (lv_room (Nat.le_of_ble_eq_true rfl)) dX6_first_2 ⟨Nat.le_of_ble_eq_true rfl, Nat.le_of_ble_eq_true rfl⟩) hP hD hS hA [0] [] rfl rfl (by decide) (by decide) (fun r_1 u_2 H locs hw hP hD hS => ?_)
  have hP : va_P D vwCl [(m0, .inr (12, [.ref m1, .ref m2, .ref m3, .ref m4, .ref m5, .ref m6, .int 0, .int 0, .int th]))] H := hP
  have hD : va_D A [(m0, .inr (12, [.ref m1, .ref m2, .ref m3, .ref m4, .ref m5, .ref m6, .int 0, .int 0, .int th]))] := hD
  have hw : r_1 = 0 := hw
  subst hw
  refine lv_lstore_n (lv' := [(2, .long 0), (0, .ref m0), (1, .ref r1)]) hx hb dX6_first_5 rfl hl (by decide) rfl (fun ls hl => ?_)
  refine lv_lload_n hx hb dX6_first_6 rfl (lv_at hl 0 rfl) ?_
  refine lv_ldc2 (v := (-1000000000000000)) hx hb hown (hts _ kX6_first_1) dX6_first_7 ?_
  refine W.lcmp hx hb dX6_first_10 ?_
  refine lv_topi (fun x_3 ex_3 => ?_)
  obtain rfl : x_3 = (1 : Int32) := ex_3.trans (by decide)
  refine lv_if_ne (tgt := 16) hx hb dX6_first_11 (by decide) (fun _ => ?_) (fun h => absurd h (by decide))
  refine lv_bipush (v := (10)) hx hb dX6_first_16 (by decide) ?_
  refine va_newa (atype := .int) (ty := .int) (N' := 10) (a0 := (10, .inl (fun _ => 0))) hx hb (hts _ kX6_first_2) rfl hK hP hD hS hA (fun _ => rfl) (by decide) (by decide) (by decide) (Nat.le_of_ble_eq_true rfl) (Nat.le_of_ble_eq_true rfl) dX6_first_18 (fun q_4 c_5 H hK hP hD hS => ?_)
  have hK : va_K D vwCl [(c_5, .int)] s := hK
  have hP : va_P D vwCl [(m0, .inr (12, [.ref m1, .ref m2, .ref m3, .ref m4, .ref m5, .ref m6, .int 0, .int 0, .int th])), (q_4, .inl (c_5, 10, .inl (fun _ => 0)))] H := hP
  have hD : va_D A [(m0, .inr (12, [.ref m1, .ref m2, .ref m3, .ref m4, .ref m5, .ref m6, .int 0, .int 0, .int th])), (q_4, .inl (c_5, 10, .inl (fun _ => 0)))] := hD
  refine lv_astore (lv' := [(4, .ref q_4), (2, .long 0), (0, .ref m0), (1, .ref r1)]) hx hb dX6_first_20 hl (by decide) rfl (fun ls hl => ?_)
  refine lv_aload hx hb dX6_first_22 (lv_at hl 0 rfl) ?_
  refine lv_iconst (v := (-1)) hx hb dX6_first_24 (by decide) ?_
  refine yc_v (wc := [(q_4, .inl (c_5, 10, .inl (fun _ => 0)))]) (wr := [(m0, .inr (12, [.ref m1, .ref m2, .ref m3, .ref m4, .ref m5, .ref m6, .int 0, .int 0, .int th]))]) (va_runS (As := [.ref q_4, .int ((-1))]) (rest := []) ⟨hx, hb, hml, hown, hts⟩ (g_fill l hfl D tE H.size q_4 c_5 10 (by decide) (fun _ => 0) (-1) (va_A [(q_4, .inl (c_5, 10, .inl (fun _ => 0)))] H.size) rfl) (va_cwS 2 hts gX6_first_J7_fill_53178 rfl rfl rfl (by decide +kernel) ⟨Nat.le_of_ble_eq_true rfl, Nat.le_of_ble_eq_true rfl⟩) (yPreS (wc := [(q_4, .inl (c_5, 10, .inl (fun _ => 0)))]) (tc := [(c_5, .int)]) hK hP hD hS hA hE [1] [0] (by decide) rfl rfl) rfl rfl hl.1 rfl (lv_room (Nat.le_of_ble_eq_true rfl)) dX6_first_25 ⟨Nat.le_of_ble_eq_true rfl, Nat.le_of_ble_eq_true rfl⟩) hP hD hS hA [1] [0] rfl rfl (by decide) (by decide) (fun u_7 H locs hw hP hD hS => ?_)
  have hP : va_P D vwCl [(m0, .inr (12, [.ref m1, .ref m2, .ref m3, .ref m4, .ref m5, .ref m6, .int 0, .int 0, .int th])), (q_4, .inl (c_5, 10, .inl (u_7)))] H := hP
  have hD : va_D A [(m0, .inr (12, [.ref m1, .ref m2, .ref m3, .ref m4, .ref m5, .ref m6, .int 0, .int 0, .int th])), (q_4, .inl (c_5, 10, .inl (u_7)))] := hD
  refine lv_iconst (v := (0)) hx hb dX6_first_28 (by decide) ?_
  refine lv_istore (lv' := [(5, .int 0), (4, .ref q_4), (2, .long 0), (0, .ref m0), (1, .ref r1)]) hx hb dX6_first_29 hl (by decide) rfl (fun ls hl => ?_)
  refine lv_iload hx hb dX6_first_31 (lv_at hl 0 rfl) ?_
  refine lv_aload_n hx hb dX6_first_33 rfl (lv_at hl 3 rfl) ?_
  refine va_get (D := D) (ci := 12) (v := .int 0) (C := RX6) (T := TX6) (N := 9) hx hb hts iX6_first_X6 hown hK hP 0 rfl rfl 6 (by decide) (hts _ kX6_first_3) (fun _ h9 => h9) rfl dX6_first_34 ?_
  refine lv_icmp_ge (tgt := 133) hx hb dX6_first_37 (by decide) (fun _ => ?_) (fun h => absurd h (by decide))
  refine lv_aload hx hb dX6_first_133 (lv_at hl 1 rfl) ?_
  exact y_aret hx hb hr hlocks (Or.inr ⟨_, rfl⟩) () trivial (hP.sub [0] rfl) (hD.sub [0] (by decide) rfl) hS (Nat.le_of_ble_eq_true rfl) (Nat.le_of_ble_eq_true rfl) dX6_first_135
theorem iX6_worstMargin_X6 : ∀ w ∈ wsX60, w ∈ wsX6_worstMargin := by decide +kernel
theorem kX6_worstMargin_1 : Cond.fieldLink RX6 16 "MostwellModel" "hand" "[I" ∈ wsX6_worstMargin := List.mem_of_getElem? (i := 1) (by decide +kernel)
set_option maxHeartbeats 4000000 in
set_option maxRecDepth 100000 in
theorem m_worstMargin (l : Launch) (hfl : l.stackTraces = false) (D : va_G) (tE : Nat) (sz : Nat) (m0 : Nat) (m1 : Nat) (m2 : Nat) (m3 : Nat) (m4 : Nat) (m5 : Nat) (m6 : Nat) (th : Int32) (A : Nat → Prop) (hA0 : A = va_A [(m0, .inr (12, [.ref m1, .ref m2, .ref m3, .ref m4, .ref m5, .ref m6, .int 0, .int 0, .int th]))] sz) : Met l yX6_worstMargin wsX6_worstMargin (yR 2 3 1) (yP D tE [(m0, .inr (12, [.ref m1, .ref m2, .ref m3, .ref m4, .ref m5, .ref m6, .int 0, .int 0, .int th]))] [] sz [.ref m0]) (va_Qi (S := Unit) (fun (r : Int32) (u : Unit) => r = 0) (fun (u : Unit) (t : State) => yB D A ((fun (u : Unit) => [(m0, .inr (12, [.ref m1, .ref m2, .ref m3, .ref m4, .ref m5, .ref m6, .int 0, .int 0, .int th]))]) u) t) A) 3 1 A := by
  refine Met.ofW (cc := cX6_worstMargin) (maxL := 1) (ret := (some .int)) (by decide) rfl ?_
  intro p e s m args below meth c s₁ B hml hv
  obtain ⟨rfl, rfl, hP, hK, hD, hE, hA⟩ := y_start hA0 hv
  have hx := B.exec
  have hb := B.bytes
  have hr := B.returns
  have hts := atoms_spec (ws := wsX6_worstMargin) B.pre
  have hown : s.vm.findClass RX6 = some m.cls := findClass_of_methodNamed B.named
  have hlocks := B.notSynchronized
  clear hA0 hv
  have hS : va_S A s.heap s.heap [] := va_S.rf
  have hl := lv_entry ([.ref m0]) (n := 1) (Nat.le_of_ble_eq_true rfl)
  rw [lg_entry_eq]
  generalize (lg_sl ([.ref m0]) ++ List.replicate (1 - (lg_sl ([.ref m0])).length) Slot.unset).toArray = ls at hl ⊢
  have hl : lv_has ls 1 [(0, .ref m0)] := hl
  refine lv_aload_n hx hb dX6_worstMargin_0 rfl (lv_at hl 0 rfl) ?_
  refine lv_aload_n hx hb dX6_worstMargin_1 rfl (lv_at hl 0 rfl) ?_
  refine lv_aload_n hx hb dX6_worstMargin_2 rfl (lv_at hl 0 rfl) ?_
  refine va_get (D := D) (ci := 12) (v := .ref m3) (C := RX6) (T := TX6) (N := 9) hx hb hts iX6_worstMargin_X6 hown hK hP 0 rfl rfl 2 (by decide) (hts _ kX6_worstMargin_1) (fun _ h9 => h9) rfl dX6_worstMargin_3 ?_
  refine yc_r (wc := [(m0, .inr (12, [.ref m1, .ref m2, .ref m3, .ref m4, .ref m5, .ref m6, .int 0, .int 0, .int th]))]) (wr := []) (va_runV (As := [.ref m3]) (rest := [.ref m0]) ⟨hx, hb, hml, hown, hts⟩ (m_against l hfl D tE s.heap.size m0 m1 m2 m3 m4 m5 m6 th m3 (va_A [(m0, .inr (12, [.ref m1, .ref m2, .ref m3, .ref m4, .ref m5, .ref m6, .int 0, .int 0, .int th]))] s.heap.size) rfl) (cwV 1 hts gX6_worstMargin_X6_against rfl rfl rfl (by decide +kernel) ⟨Nat.le_of_ble_eq_true rfl, Nat.le_of_ble_eq_true rfl⟩) (yPreV (wc := [(m0, .inr (12, [.ref m1, .ref m2, .ref m3, .ref m4, .ref m5, .ref m6, .int 0, .int 0, .int th]))]) (tc := []) hK hP hD hS hA hE [0] [] (by decide) rfl rfl (ci := 12) (q0 := 0) (q := (RX6, TX6, 9)) rfl rfl) rfl rfl hl.1 rfl (lv_room (Nat.le_of_ble_eq_true rfl)) dX6_worstMargin_6 ⟨Nat.le_of_ble_eq_true rfl, Nat.le_of_ble_eq_true rfl⟩) hP hD hS hA [0] [] rfl rfl (by decide) (by decide) (fun r_1 u_2 H locs hw hP hD hS => ?_)
  have hP : va_P D vwCl [(m0, .inr (12, [.ref m1, .ref m2, .ref m3, .ref m4, .ref m5, .ref m6, .int 0, .int 0, .int th]))] H := hP
  have hD : va_D A [(m0, .inr (12, [.ref m1, .ref m2, .ref m3, .ref m4, .ref m5, .ref m6, .int 0, .int 0, .int th]))] := hD
  refine yc_l (wc := [(m0, .inr (12, [.ref m1, .ref m2, .ref m3, .ref m4, .ref m5, .ref m6, .int 0, .int 0, .int th]))]) (wr := []) (va_runV (As := [.ref r_1]) (rest := []) ⟨hx, hb, hml, hown, hts⟩ (m_best l hfl D tE H.size m0 m1 m2 m3 m4 m5 m6 th r_1 (va_A [(m0, .inr (12, [.ref m1, .ref m2, .ref m3, .ref m4, .ref m5, .ref m6, .int 0, .int 0, .int th]))] H.size) rfl) (cwV 1 hts gX6_worstMargin_X6_best rfl rfl rfl (by decide +kernel) ⟨Nat.le_of_ble_eq_true rfl, Nat.le_of_ble_eq_true rfl⟩) (yPreV (wc := [(m0, .inr (12, [.ref m1, .ref m2, .ref m3, .ref m4, .ref m5, .ref m6, .int 0, .int 0, .int th]))]) (tc := []) hK hP hD hS hA hE [0] [] (by decide) rfl rfl (ci := 12) (q0 := 0) (q := (RX6, TX6, 9)) rfl rfl) rfl rfl hl.1 rfl (lv_room (Nat.le_of_ble_eq_true rfl)) dX6_worstMargin_9 ⟨Nat.le_of_ble_eq_true rfl, Nat.le_of_ble_eq_true rfl⟩) hP hD hS hA [0] [] rfl rfl (by decide) (by decide) (fun r_3 u_4 H locs hw hP hD hS => ?_)
  have hP : va_P D vwCl [(m0, .inr (12, [.ref m1, .ref m2, .ref m3, .ref m4, .ref m5, .ref m6, .int 0, .int 0, .int th]))] H := hP
  have hD : va_D A [(m0, .inr (12, [.ref m1, .ref m2, .ref m3, .ref m4, .ref m5, .ref m6, .int 0, .int 0, .int th]))] := hD
  have hw : r_3 = 0 := hw
  subst hw
  refine lv_l2i (v := 0) hx hb dX6_worstMargin_12 (by decide) ?_
  exact y_iret hx hb hr hlocks () rfl hP hD hS (Nat.le_of_ble_eq_true rfl) (Nat.le_of_ble_eq_true rfl) dX6_worstMargin_13
theorem iX6_isPopular_X6 : ∀ w ∈ wsX60, w ∈ wsX6_isPopular := by decide +kernel
theorem kX6_isPopular_1 : Cond.fieldLink RX6 16 "MostwellModel" "hand" "[I" ∈ wsX6_isPopular := List.mem_of_getElem? (i := 1) (by decide +kernel)
set_option maxHeartbeats 4000000 in
set_option maxRecDepth 100000 in
theorem m_isPopular (l : Launch) (hfl : l.stackTraces = false) (D : va_G) (tE : Nat) (sz : Nat) (m0 : Nat) (m1 : Nat) (m2 : Nat) (m3 : Nat) (m4 : Nat) (m5 : Nat) (m6 : Nat) (th : Int32) (A : Nat → Prop) (hA0 : A = va_A [(m0, .inr (12, [.ref m1, .ref m2, .ref m3, .ref m4, .ref m5, .ref m6, .int 0, .int 0, .int th]))] sz) : Met l yX6_isPopular wsX6_isPopular (yR 2 3 1) (yP D tE [(m0, .inr (12, [.ref m1, .ref m2, .ref m3, .ref m4, .ref m5, .ref m6, .int 0, .int 0, .int th]))] [] sz [.ref m0]) (va_Qi (S := Unit) (fun (r : Int32) (u : Unit) => r = 1) (fun (u : Unit) (t : State) => yB D A ((fun (u : Unit) => [(m0, .inr (12, [.ref m1, .ref m2, .ref m3, .ref m4, .ref m5, .ref m6, .int 0, .int 0, .int th]))]) u) t) A) 3 1 A := by
  refine Met.ofW (cc := cX6_isPopular) (maxL := 1) (ret := (some .boolean)) (by decide) rfl ?_
  intro p e s m args below meth c s₁ B hml hv
  obtain ⟨rfl, rfl, hP, hK, hD, hE, hA⟩ := y_start hA0 hv
  have hx := B.exec
  have hb := B.bytes
  have hr := B.returns
  have hts := atoms_spec (ws := wsX6_isPopular) B.pre
  have hown : s.vm.findClass RX6 = some m.cls := findClass_of_methodNamed B.named
  have hlocks := B.notSynchronized
  clear hA0 hv
  have hS : va_S A s.heap s.heap [] := va_S.rf
  have hl := lv_entry ([.ref m0]) (n := 1) (Nat.le_of_ble_eq_true rfl)
  rw [lg_entry_eq]
  generalize (lg_sl ([.ref m0]) ++ List.replicate (1 - (lg_sl ([.ref m0])).length) Slot.unset).toArray = ls at hl ⊢
  have hl : lv_has ls 1 [(0, .ref m0)] := hl
  refine lv_aload_n hx hb dX6_isPopular_0 rfl (lv_at hl 0 rfl) ?_
  refine lv_aload_n hx hb dX6_isPopular_1 rfl (lv_at hl 0 rfl) ?_
  refine lv_aload_n hx hb dX6_isPopular_2 rfl (lv_at hl 0 rfl) ?_
  refine va_get (D := D) (ci := 12) (v := .ref m3) (C := RX6) (T := TX6) (N := 9) hx hb hts iX6_isPopular_X6 hown hK hP 0 rfl rfl 2 (by decide) (hts _ kX6_isPopular_1) (fun _ h9 => h9) rfl dX6_isPopular_3 ?_
  refine yc_r (wc := [(m0, .inr (12, [.ref m1, .ref m2, .ref m3, .ref m4, .ref m5, .ref m6, .int 0, .int 0, .int th]))]) (wr := []) (va_runV (As := [.ref m3]) (rest := [.ref m0]) ⟨hx, hb, hml, hown, hts⟩ (m_against l hfl D tE s.heap.size m0 m1 m2 m3 m4 m5 m6 th m3 (va_A [(m0, .inr (12, [.ref m1, .ref m2, .ref m3, .ref m4, .ref m5, .ref m6, .int 0, .int 0, .int th]))] s.heap.size) rfl) (cwV 1 hts gX6_isPopular_X6_against rfl rfl rfl (by decide +kernel) ⟨Nat.le_of_ble_eq_true rfl, Nat.le_of_ble_eq_true rfl⟩) (yPreV (wc := [(m0, .inr (12, [.ref m1, .ref m2, .ref m3, .ref m4, .ref m5, .ref m6, .int 0, .int 0, .int th]))]) (tc := []) hK hP hD hS hA hE [0] [] (by decide) rfl rfl (ci := 12) (q0 := 0) (q := (RX6, TX6, 9)) rfl rfl) rfl rfl hl.1 rfl (lv_room (Nat.le_of_ble_eq_true rfl)) dX6_isPopular_6 ⟨Nat.le_of_ble_eq_true rfl, Nat.le_of_ble_eq_true rfl⟩) hP hD hS hA [0] [] rfl rfl (by decide) (by decide) (fun r_1 u_2 H locs hw hP hD hS => ?_)
  have hP : va_P D vwCl [(m0, .inr (12, [.ref m1, .ref m2, .ref m3, .ref m4, .ref m5, .ref m6, .int 0, .int 0, .int th]))] H := hP
  have hD : va_D A [(m0, .inr (12, [.ref m1, .ref m2, .ref m3, .ref m4, .ref m5, .ref m6, .int 0, .int 0, .int th]))] := hD
  refine yc_l (wc := [(m0, .inr (12, [.ref m1, .ref m2, .ref m3, .ref m4, .ref m5, .ref m6, .int 0, .int 0, .int th]))]) (wr := []) (va_runV (As := [.ref r_1]) (rest := []) ⟨hx, hb, hml, hown, hts⟩ (m_best l hfl D tE H.size m0 m1 m2 m3 m4 m5 m6 th r_1 (va_A [(m0, .inr (12, [.ref m1, .ref m2, .ref m3, .ref m4, .ref m5, .ref m6, .int 0, .int 0, .int th]))] H.size) rfl) (cwV 1 hts gX6_isPopular_X6_best rfl rfl rfl (by decide +kernel) ⟨Nat.le_of_ble_eq_true rfl, Nat.le_of_ble_eq_true rfl⟩) (yPreV (wc := [(m0, .inr (12, [.ref m1, .ref m2, .ref m3, .ref m4, .ref m5, .ref m6, .int 0, .int 0, .int th]))]) (tc := []) hK hP hD hS hA hE [0] [] (by decide) rfl rfl (ci := 12) (q0 := 0) (q := (RX6, TX6, 9)) rfl rfl) rfl rfl hl.1 rfl (lv_room (Nat.le_of_ble_eq_true rfl)) dX6_isPopular_9 ⟨Nat.le_of_ble_eq_true rfl, Nat.le_of_ble_eq_true rfl⟩) hP hD hS hA [0] [] rfl rfl (by decide) (by decide) (fun r_3 u_4 H locs hw hP hD hS => ?_)
  have hP : va_P D vwCl [(m0, .inr (12, [.ref m1, .ref m2, .ref m3, .ref m4, .ref m5, .ref m6, .int 0, .int 0, .int th]))] H := hP
  have hD : va_D A [(m0, .inr (12, [.ref m1, .ref m2, .ref m3, .ref m4, .ref m5, .ref m6, .int 0, .int 0, .int th]))] := hD
  have hw : r_3 = 0 := hw
  subst hw
  refine lv_lconst (v := (0)) hx hb dX6_isPopular_12 (by decide) ?_
  refine W.lcmp hx hb dX6_isPopular_13 ?_
  refine lv_topi (fun x_5 ex_5 => ?_)
  obtain rfl : x_5 = (0 : Int32) := ex_5.trans (by decide)
  refine lv_if_ne (tgt := 21) hx hb dX6_isPopular_14 (by decide) (fun h => absurd h (by decide)) (fun _ => ?_)
  refine lv_iconst (v := (1)) hx hb dX6_isPopular_17 (by decide) ?_
  refine lv_goto (tgt := 22) hx hb dX6_isPopular_18 (by decide) ?_
  exact y_zret hx hb hr hlocks (by decide) () rfl hP hD hS (Nat.le_of_ble_eq_true rfl) (Nat.le_of_ble_eq_true rfl) dX6_isPopular_22
theorem iX6_popular_X6 : ∀ w ∈ wsX60, w ∈ wsX6_popular := by decide +kernel
theorem kX6_popular_1 : Cond.fieldLink RX6 48 "MostwellModel" "people" "I" ∈ wsX6_popular := List.mem_of_getElem? (i := 1) (by decide +kernel)
theorem kX6_popular_2 : Cond.fieldLink RX6 55 "MostwellModel" "posts" "I" ∈ wsX6_popular := List.mem_of_getElem? (i := 2) (by decide +kernel)
theorem kX6_popular_4 : Cond.arrayClass .long ∈ wsX6_popular := List.mem_of_getElem? (i := 4) (by decide +kernel)
theorem kX6_popular_3 : Cond.classLink RX6 177 "[[J" ∈ wsX6_popular := List.mem_of_getElem? (i := 3) (by decide +kernel)
set_option maxHeartbeats 4000000 in
set_option maxRecDepth 100000 in
theorem m_popular (l : Launch) (hfl : l.stackTraces = false) (D : va_G) (tE : Nat) (sz : Nat) (m0 : Nat) (m1 : Nat) (m2 : Nat) (m3 : Nat) (m4 : Nat) (m5 : Nat) (m6 : Nat) (th : Int32) (A : Nat → Prop) (hA0 : A = va_A [(m0, .inr (12, [.ref m1, .ref m2, .ref m3, .ref m4, .ref m5, .ref m6, .int 0, .int 0, .int th]))] sz) : Met l yX6_popular wsX6_popular (yR 3 13 14) (yP D tE [(m0, .inr (12, [.ref m1, .ref m2, .ref m3, .ref m4, .ref m5, .ref m6, .int 0, .int 0, .int th]))] [] sz [.ref m0]) (va_Qr (S := Unit) (fun (u : Unit) => True) (fun (u : Unit) (r : Nat) (t : State) => yB D A ((fun (u : Unit) (r : Nat) => [(m0, .inr (12, [.ref m1, .ref m2, .ref m3, .ref m4, .ref m5, .ref m6, .int 0, .int 0, .int th]))]) u r) t) A) 13 14 A := by
  refine Met.ofW (cc := cX6_popular) (maxL := 10) (ret := (some (.array .int))) (by decide) rfl ?_
  intro p e s m args below meth c s₁ B hml hv
  obtain ⟨rfl, rfl, hP, hK, hD, hE, hA⟩ := y_start hA0 hv
  have hx := B.exec
  have hb := B.bytes
  have hr := B.returns
  have hts := atoms_spec (ws := wsX6_popular) B.pre
  have hown : s.vm.findClass RX6 = some m.cls := findClass_of_methodNamed B.named
  have hlocks := B.notSynchronized
  clear hA0 hv
  have hS : va_S A s.heap s.heap [] := va_S.rf
  have hl := lv_entry ([.ref m0]) (n := 10) (Nat.le_of_ble_eq_true rfl)
  rw [lg_entry_eq]
  generalize (lg_sl ([.ref m0]) ++ List.replicate (10 - (lg_sl ([.ref m0])).length) Slot.unset).toArray = ls at hl ⊢
  have hl : lv_has ls 10 [(0, .ref m0)] := hl
  refine lv_aload_n hx hb dX6_popular_0 rfl (lv_at hl 0 rfl) ?_
  refine lv_aload_n hx hb dX6_popular_1 rfl (lv_at hl 0 rfl) ?_
  refine yc_r (wc := [(m0, .inr (12, [.ref m1, .ref m2, .ref m3, .ref m4, .ref m5, .ref m6, .int 0, .int 0, .int th]))]) (wr := []) (va_runV (As := []) (rest := [.ref m0]) ⟨hx, hb, hml, hown, hts⟩ (m_firsts l hfl D tE s.heap.size m0 m1 m2 m3 m4 m5 m6 th (va_A [(m0, .inr (12, [.ref m1, .ref m2, .ref m3, .ref m4, .ref m5, .ref m6, .int 0, .int 0, .int th]))] s.heap.size) rfl) (cwV 0 hts gX6_popular_X6_firsts rfl rfl rfl (by decide +kernel) ⟨Nat.le_of_ble_eq_true rfl, Nat.le_of_ble_eq_true rfl⟩) (yPreV (wc := [(m0, .inr (12, [.ref m1, .ref m2, .ref m3, .ref m4, .ref m5, .ref m6, .int 0, .int 0, .int th]))]) (tc := []) hK hP hD hS hA hE [0] [] (by decide) rfl rfl (ci := 12) (q0 := 0) (q := (RX6, TX6, 9)) rfl rfl) rfl rfl hl.1 rfl (lv_room (Nat.le_of_ble_eq_true rfl)) dX6_popular_2 ⟨Nat.le_of_ble_eq_true rfl, Nat.le_of_ble_eq_true rfl⟩) hP hD hS hA [0] [] rfl rfl (by decide) (by decide) (fun r_1 u_2 H locs hw hP hD hS => ?_)
  have hP : va_P D vwCl [(m0, .inr (12, [.ref m1, .ref m2, .ref m3, .ref m4, .ref m5, .ref m6, .int 0, .int 0, .int th]))] H := hP
  have hD : va_D A [(m0, .inr (12, [.ref m1, .ref m2, .ref m3, .ref m4, .ref m5, .ref m6, .int 0, .int 0, .int th]))] := hD
  refine yc_l (wc := [(m0, .inr (12, [.ref m1, .ref m2, .ref m3, .ref m4, .ref m5, .ref m6, .int 0, .int 0, .int th]))]) (wr := []) (va_runV (As := [.ref r_1]) (rest := []) ⟨hx, hb, hml, hown, hts⟩ (m_best l hfl D tE H.size m0 m1 m2 m3 m4 m5 m6 th r_1 (va_A [(m0, .inr (12, [.ref m1, .ref m2, .ref m3, .ref m4, .ref m5, .ref m6, .int 0, .int 0, .int th]))] H.size) rfl) (cwV 1 hts gX6_popular_X6_best rfl rfl rfl (by decide +kernel) ⟨Nat.le_of_ble_eq_true rfl, Nat.le_of_ble_eq_true rfl⟩) (yPreV (wc := [(m0, .inr (12, [.ref m1, .ref m2, .ref m3, .ref m4, .ref m5, .ref m6, .int 0, .int 0, .int th]))]) (tc := []) hK hP hD hS hA hE [0] [] (by decide) rfl rfl (ci := 12) (q0 := 0) (q := (RX6, TX6, 9)) rfl rfl) rfl rfl hl.1 rfl (lv_room (Nat.le_of_ble_eq_true rfl)) dX6_popular_5 ⟨Nat.le_of_ble_eq_true rfl, Nat.le_of_ble_eq_true rfl⟩) hP hD hS hA [0] [] rfl rfl (by decide) (by decide) (fun r_3 u_4 H locs hw hP hD hS => ?_)
  have hP : va_P D vwCl [(m0, .inr (12, [.ref m1, .ref m2, .ref m3, .ref m4, .ref m5, .ref m6, .int 0, .int 0, .int th]))] H := hP
  have hD : va_D A [(m0, .inr (12, [.ref m1, .ref m2, .ref m3, .ref m4, .ref m5, .ref m6, .int 0, .int 0, .int th]))] := hD
  have hw : r_3 = 0 := hw
  subst hw
  refine lv_lstore_n (lv' := [(1, .long 0), (0, .ref m0)]) hx hb dX6_popular_8 rfl hl (by decide) rfl (fun ls hl => ?_)
  refine lv_aload_n hx hb dX6_popular_9 rfl (lv_at hl 1 rfl) ?_
  refine yc_r (wc := [(m0, .inr (12, [.ref m1, .ref m2, .ref m3, .ref m4, .ref m5, .ref m6, .int 0, .int 0, .int th]))]) (wr := []) (va_runV (As := []) (rest := []) ⟨hx, hb, hml, hown, hts⟩ (m_even l hfl D tE H.size m0 m1 m2 m3 m4 m5 m6 th (va_A [(m0, .inr (12, [.ref m1, .ref m2, .ref m3, .ref m4, .ref m5, .ref m6, .int 0, .int 0, .int th]))] H.size) rfl) (cwV 0 hts gX6_popular_X6_even rfl rfl rfl (by decide +kernel) ⟨Nat.le_of_ble_eq_true rfl, Nat.le_of_ble_eq_true rfl⟩) (yPreV (wc := [(m0, .inr (12, [.ref m1, .ref m2, .ref m3, .ref m4, .ref m5, .ref m6, .int 0, .int 0, .int th]))]) (tc := []) hK hP hD hS hA hE [0] [] (by decide) rfl rfl (ci := 12) (q0 := 0) (q := (RX6, TX6, 9)) rfl rfl) rfl rfl hl.1 rfl (lv_room (Nat.le_of_ble_eq_true rfl)) dX6_popular_10 ⟨Nat.le_of_ble_eq_true rfl, Nat.le_of_ble_eq_true rfl⟩) hP hD hS hA [0] [] rfl rfl (by decide) (by decide) (fun r_5 u_6 H locs hw hP hD hS => ?_)
  have hP : va_P D vwCl [(m0, .inr (12, [.ref m1, .ref m2, .ref m3, .ref m4, .ref m5, .ref m6, .int 0, .int 0, .int th]))] H := hP
  have hD : va_D A [(m0, .inr (12, [.ref m1, .ref m2, .ref m3, .ref m4, .ref m5, .ref m6, .int 0, .int 0, .int th]))] := hD
  refine lv_astore_n (lv' := [(3, .ref r_5), (1, .long 0), (0, .ref m0)]) hx hb dX6_popular_13 rfl hl (by decide) rfl (fun ls hl => ?_)
  refine lv_aload_n hx hb dX6_popular_14 rfl (lv_at hl 2 rfl) ?_
  refine va_get (D := D) (ci := 12) (v := .int 0) (C := RX6) (T := TX6) (N := 9) hx hb hts iX6_popular_X6 hown hK hP 0 rfl rfl 6 (by decide) (hts _ kX6_popular_1) (fun _ h9 => h9) rfl dX6_popular_15 ?_
  refine lv_aload_n hx hb dX6_popular_18 rfl (lv_at hl 2 rfl) ?_
  refine va_get (D := D) (ci := 12) (v := .int 0) (C := RX6) (T := TX6) (N := 9) hx hb hts iX6_popular_X6 hown hK hP 0 rfl rfl 7 (by decide) (hts _ kX6_popular_2) (fun _ h9 => h9) rfl dX6_popular_19 ?_
  refine lv_iconst (v := (1)) hx hb dX6_popular_22 (by decide) ?_
  refine lv_iadd hx hb dX6_popular_23 ?_
  refine lv_topi (fun x_7 ex_7 => ?_)
  obtain rfl : x_7 = (1 : Int32) := ex_7.trans (by decide)
  obtain ⟨cy_9, hcy_9⟩ := y_arr (hts _ kX6_popular_4)
  refine va_mna (ty := .long) (cy := cy_9) (X := [(m0, .inr (12, [.ref m1, .ref m2, .ref m3, .ref m4, .ref m5, .ref m6, .int 0, .int 0, .int th]))]) (L := []) (f := fun _ => .inr (0, [])) (N' := 0) (K' := 1) (z := (1, .inr (.inl (fun _ => 0)))) hx hb hown (hts _ kX6_popular_3) hE.2.2.2.2.2.2.1 (hts _ kX6_popular_4) hcy_9 hK hP hD hS hA (by decide) (by decide) (by decide) (by decide) (by decide) (by decide) (by decide) (by decide) (by decide) (Nat.le_of_ble_eq_true rfl) (Nat.le_of_ble_eq_true rfl) (fun _ => rfl) dX6_popular_24 (fun q_8 rr_10 co_11 H _ _ hK hP hD hS => ?_)
  have hP : va_P D vwCl [(m0, .inr (12, [.ref m1, .ref m2, .ref m3, .ref m4, .ref m5, .ref m6, .int 0, .int 0, .int th]))] H := hP.sub [0] rfl
  have hD : va_D A [(m0, .inr (12, [.ref m1, .ref m2, .ref m3, .ref m4, .ref m5, .ref m6, .int 0, .int 0, .int th]))] := hD.sub [0] (by decide) rfl
  have hK : va_K D vwCl [] s := hK.sub [] rfl
  refine lv_astore (lv' := [(4, .ref q_8), (3, .ref r_5), (1, .long 0), (0, .ref m0)]) hx hb dX6_popular_28 hl (by decide) rfl (fun ls hl => ?_)
  refine lv_iconst (v := (0)) hx hb dX6_popular_30 (by decide) ?_
  refine lv_istore (lv' := [(5, .int 0), (4, .ref q_8), (3, .ref r_5), (1, .long 0), (0, .ref m0)]) hx hb dX6_popular_31 hl (by decide) rfl (fun ls hl => ?_)
  refine lv_iload hx hb dX6_popular_33 (lv_at hl 0 rfl) ?_
  refine lv_aload_n hx hb dX6_popular_35 rfl (lv_at hl 4 rfl) ?_
  refine va_get (D := D) (ci := 12) (v := .int 0) (C := RX6) (T := TX6) (N := 9) hx hb hts iX6_popular_X6 hown hK hP 0 rfl rfl 6 (by decide) (hts _ kX6_popular_1) (fun _ h9 => h9) rfl dX6_popular_36 ?_
  refine lv_icmp_ge (tgt := 245) hx hb dX6_popular_39 (by decide) (fun _ => ?_) (fun h => absurd h (by decide))
  refine lv_aload_n hx hb dX6_popular_245 rfl (lv_at hl 4 rfl) ?_
  refine lv_aload hx hb dX6_popular_246 (lv_at hl 1 rfl) ?_
  refine yc_l (wc := [(m0, .inr (12, [.ref m1, .ref m2, .ref m3, .ref m4, .ref m5, .ref m6, .int 0, .int 0, .int th]))]) (wr := []) (va_runV (As := [.ref q_8]) (rest := []) ⟨hx, hb, hml, hown, hts⟩ (m_best l hfl D tE H.size m0 m1 m2 m3 m4 m5 m6 th q_8 (va_A [(m0, .inr (12, [.ref m1, .ref m2, .ref m3, .ref m4, .ref m5, .ref m6, .int 0, .int 0, .int th]))] H.size) rfl) (cwV 1 hts gX6_popular_X6_best rfl rfl rfl (by decide +kernel) ⟨Nat.le_of_ble_eq_true rfl, Nat.le_of_ble_eq_true rfl⟩) (yPreV (wc := [(m0, .inr (12, [.ref m1, .ref m2, .ref m3, .ref m4, .ref m5, .ref m6, .int 0, .int 0, .int th]))]) (tc := []) hK hP hD hS hA hE [0] [] (by decide) rfl rfl (ci := 12) (q0 := 0) (q := (RX6, TX6, 9)) rfl rfl) rfl rfl hl.1 rfl (lv_room (Nat.le_of_ble_eq_true rfl)) dX6_popular_248 ⟨Nat.le_of_ble_eq_true rfl, Nat.le_of_ble_eq_true rfl⟩) hP hD hS hA [0] [] rfl rfl (by decide) (by decide) (fun r_12 u_13 H locs hw hP hD hS => ?_)
  have hP : va_P D vwCl [(m0, .inr (12, [.ref m1, .ref m2, .ref m3, .ref m4, .ref m5, .ref m6, .int 0, .int 0, .int th]))] H := hP
  have hD : va_D A [(m0, .inr (12, [.ref m1, .ref m2, .ref m3, .ref m4, .ref m5, .ref m6, .int 0, .int 0, .int th]))] := hD
  have hw : r_12 = 0 := hw
  subst hw
  refine lv_lload_n hx hb dX6_popular_251 rfl (lv_at hl 3 rfl) ?_
  refine W.lcmp hx hb dX6_popular_252 ?_
  refine lv_topi (fun x_14 ex_14 => ?_)
  obtain rfl : x_14 = (0 : Int32) := ex_14.trans (by decide)
  refine lv_if_ne (tgt := 265) hx hb dX6_popular_253 (by decide) (fun h => absurd h (by decide)) (fun _ => ?_)
  refine lv_aload_n hx hb dX6_popular_256 rfl (lv_at hl 4 rfl) ?_
  refine lv_aload hx hb dX6_popular_257 (lv_at hl 1 rfl) ?_
  refine yc_r (wc := [(m0, .inr (12, [.ref m1, .ref m2, .ref m3, .ref m4, .ref m5, .ref m6, .int 0, .int 0, .int th]))]) (wr := []) (va_runV (As := [.ref q_8]) (rest := []) ⟨hx, hb, hml, hown, hts⟩ (m_first l hfl D tE H.size m0 m1 m2 m3 m4 m5 m6 th q_8 (va_A [(m0, .inr (12, [.ref m1, .ref m2, .ref m3, .ref m4, .ref m5, .ref m6, .int 0, .int 0, .int th]))] H.size) rfl) (cwV 1 hts gX6_popular_X6_first rfl rfl rfl (by decide +kernel) ⟨Nat.le_of_ble_eq_true rfl, Nat.le_of_ble_eq_true rfl⟩) (yPreV (wc := [(m0, .inr (12, [.ref m1, .ref m2, .ref m3, .ref m4, .ref m5, .ref m6, .int 0, .int 0, .int th]))]) (tc := []) hK hP hD hS hA hE [0] [] (by decide) rfl rfl (ci := 12) (q0 := 0) (q := (RX6, TX6, 9)) rfl rfl) rfl rfl hl.1 rfl (lv_room (Nat.le_of_ble_eq_true rfl)) dX6_popular_259 ⟨Nat.le_of_ble_eq_true rfl, Nat.le_of_ble_eq_true rfl⟩) hP hD hS hA [0] [] rfl rfl (by decide) (by decide) (fun r_15 u_16 H locs hw hP hD hS => ?_)
  have hP : va_P D vwCl [(m0, .inr (12, [.ref m1, .ref m2, .ref m3, .ref m4, .ref m5, .ref m6, .int 0, .int 0, .int th]))] H := hP
  have hD : va_D A [(m0, .inr (12, [.ref m1, .ref m2, .ref m3, .ref m4, .ref m5, .ref m6, .int 0, .int 0, .int th]))] := hD
  refine lv_goto (tgt := 266) hx hb dX6_popular_262 (by decide) ?_
  exact y_aret hx hb hr hlocks (Or.inr ⟨_, rfl⟩) () trivial hP hD hS (Nat.le_of_ble_eq_true rfl) (Nat.le_of_ble_eq_true rfl) dX6_popular_266

set_option maxHeartbeats 4000000 in
set_option maxRecDepth 100000 in
theorem m_hasPopular (l : Launch) (hfl : l.stackTraces = false) (D : va_G) (tE : Nat) (sz : Nat) (m0 : Nat) (m1 : Nat) (m2 : Nat) (m3 : Nat) (m4 : Nat) (m5 : Nat) (m6 : Nat) (th : Int32) (A : Nat → Prop) (hA0 : A = va_A [(m0, .inr (12, [.ref m1, .ref m2, .ref m3, .ref m4, .ref m5, .ref m6, .int 0, .int 0, .int th]))] sz) : Met l yX6_hasPopular wsX6_hasPopular (yR 4 13 14) (yP D tE [(m0, .inr (12, [.ref m1, .ref m2, .ref m3, .ref m4, .ref m5, .ref m6, .int 0, .int 0, .int th]))] [] sz [.ref m0]) (va_Qi (S := Unit) (fun (r : Int32) (u : Unit) => r = 1) (fun (u : Unit) (t : State) => yB D A ((fun (u : Unit) => [(m0, .inr (12, [.ref m1, .ref m2, .ref m3, .ref m4, .ref m5, .ref m6, .int 0, .int 0, .int 0]))]) u) t) A) 13 14 A := by
  refine Met.ofW (cc := cX6_hasPopular) (maxL := 1) (ret := (some .boolean)) (by decide) rfl ?_
  intro p e s m args below meth c s₁ B hml hv
  obtain ⟨rfl, rfl, hP, hK, hD, hE, hA⟩ := y_start hA0 hv
  have hx := B.exec
  have hb := B.bytes
  have hr := B.returns
  have hts := atoms_spec (ws := wsX6_hasPopular) B.pre
  have hown : s.vm.findClass RX6 = some m.cls := findClass_of_methodNamed B.named
  have hlocks := B.notSynchronized
  clear hA0 hv
  have hS : va_S A s.heap s.heap [] := va_S.rf
  have hl := lv_entry ([.ref m0]) (n := 1) (Nat.le_of_ble_eq_true rfl)
  rw [lg_entry_eq]
  generalize (lg_sl ([.ref m0]) ++ List.replicate (1 - (lg_sl ([.ref m0])).length) Slot.unset).toArray = ls at hl ⊢
  have hl : lv_has ls 1 [(0, .ref m0)] := hl
  refine lv_aload_n hx hb dX6_hasPopular_0 rfl (lv_at hl 0 rfl) ?_
  refine lv_aload_n hx hb dX6_hasPopular_1 rfl (lv_at hl 0 rfl) ?_
  refine yc_i (wc := [(m0, .inr (12, [.ref m1, .ref m2, .ref m3, .ref m4, .ref m5, .ref m6, .int 0, .int 0, .int th]))]) (wr := []) (va_runV (As := []) (rest := [.ref m0]) ⟨hx, hb, hml, hown, hts⟩ (m_areAlike l hfl D tE s.heap.size m0 m1 m2 m3 m4 m5 m6 0 th (va_A [(m0, .inr (12, [.ref m1, .ref m2, .ref m3, .ref m4, .ref m5, .ref m6, .int 0, .int 0, .int th]))] s.heap.size) rfl) (cwV 0 hts gX6_hasPopular_X6_areAlike rfl rfl rfl (by decide +kernel) ⟨Nat.le_of_ble_eq_true rfl, Nat.le_of_ble_eq_true rfl⟩) (yPreV (wc := [(m0, .inr (12, [.ref m1, .ref m2, .ref m3, .ref m4, .ref m5, .ref m6, .int 0, .int 0, .int th]))]) (tc := []) hK hP hD hS hA hE [0] [] (by decide) rfl rfl (ci := 12) (q0 := 0) (q := (RX6, TX6, 9)) rfl rfl) rfl rfl hl.1 rfl (lv_room (Nat.le_of_ble_eq_true rfl)) dX6_hasPopular_2 ⟨Nat.le_of_ble_eq_true rfl, Nat.le_of_ble_eq_true rfl⟩) hP hD hS hA [0] [] rfl rfl (by decide) (by decide) (fun r_1 u_2 H locs hw hP hD hS => ?_)
  have hP : va_P D vwCl [(m0, .inr (12, [.ref m1, .ref m2, .ref m3, .ref m4, .ref m5, .ref m6, .int 0, .int 0, .int th]))] H := hP
  have hD : va_D A [(m0, .inr (12, [.ref m1, .ref m2, .ref m3, .ref m4, .ref m5, .ref m6, .int 0, .int 0, .int th]))] := hD
  have hw : r_1 = 1 := hw
  subst hw
  refine lv_iconst (v := (1)) hx hb dX6_hasPopular_5 (by decide) ?_
  refine yc_i (wc := [(m0, .inr (12, [.ref m1, .ref m2, .ref m3, .ref m4, .ref m5, .ref m6, .int 0, .int 0, .int th]))]) (wr := []) (va_runV (As := [.int 1, .int 1]) (rest := []) ⟨hx, hb, hml, hown, hts⟩ (g_no1 l hfl D tE H.size m0 m1 m2 m3 m4 m5 m6 0 0 th 1 (va_A [(m0, .inr (12, [.ref m1, .ref m2, .ref m3, .ref m4, .ref m5, .ref m6, .int 0, .int 0, .int th]))] H.size) rfl) (cwV 2 hts gX6_hasPopular_X6_no rfl rfl rfl (by decide +kernel) ⟨Nat.le_of_ble_eq_true rfl, Nat.le_of_ble_eq_true rfl⟩) (yPreV (wc := [(m0, .inr (12, [.ref m1, .ref m2, .ref m3, .ref m4, .ref m5, .ref m6, .int 0, .int 0, .int th]))]) (tc := []) hK hP hD hS hA hE [0] [] (by decide) rfl rfl (ci := 12) (q0 := 0) (q := (RX6, TX6, 9)) rfl rfl) rfl rfl hl.1 rfl (lv_room (Nat.le_of_ble_eq_true rfl)) dX6_hasPopular_6 ⟨Nat.le_of_ble_eq_true rfl, Nat.le_of_ble_eq_true rfl⟩) hP hD hS hA [0] [] rfl rfl (by decide) (by decide) (fun r_3 u_4 H locs hw hP hD hS => ?_)
  have hP : va_P D vwCl [(m0, .inr (12, [.ref m1, .ref m2, .ref m3, .ref m4, .ref m5, .ref m6, .int 0, .int 0, .int 0]))] H := hP
  have hD : va_D A [(m0, .inr (12, [.ref m1, .ref m2, .ref m3, .ref m4, .ref m5, .ref m6, .int 0, .int 0, .int 0]))] := hD
  have hw : r_3 = 0 := hw
  subst hw
  refine lv_if_ne (tgt := 23) hx hb dX6_hasPopular_9 (by decide) (fun h => absurd h (by decide)) (fun _ => ?_)
  refine lv_aload_n hx hb dX6_hasPopular_12 rfl (lv_at hl 0 rfl) ?_
  refine yc_r (wc := [(m0, .inr (12, [.ref m1, .ref m2, .ref m3, .ref m4, .ref m5, .ref m6, .int 0, .int 0, .int 0]))]) (wr := []) (va_runV (As := []) (rest := []) ⟨hx, hb, hml, hown, hts⟩ (m_popular l hfl D tE H.size m0 m1 m2 m3 m4 m5 m6 0 (va_A [(m0, .inr (12, [.ref m1, .ref m2, .ref m3, .ref m4, .ref m5, .ref m6, .int 0, .int 0, .int 0]))] H.size) rfl) (cwV 0 hts gX6_hasPopular_X6_popular rfl rfl rfl (by decide +kernel) ⟨Nat.le_of_ble_eq_true rfl, Nat.le_of_ble_eq_true rfl⟩) (yPreV (wc := [(m0, .inr (12, [.ref m1, .ref m2, .ref m3, .ref m4, .ref m5, .ref m6, .int 0, .int 0, .int 0]))]) (tc := []) hK hP hD hS hA hE [0] [] (by decide) rfl rfl (ci := 12) (q0 := 0) (q := (RX6, TX6, 9)) rfl rfl) rfl rfl hl.1 rfl (lv_room (Nat.le_of_ble_eq_true rfl)) dX6_hasPopular_13 ⟨Nat.le_of_ble_eq_true rfl, Nat.le_of_ble_eq_true rfl⟩) hP hD hS hA [0] [] rfl rfl (by decide) (by decide) (fun r_5 u_6 H locs hw hP hD hS => ?_)
  have hP : va_P D vwCl [(m0, .inr (12, [.ref m1, .ref m2, .ref m3, .ref m4, .ref m5, .ref m6, .int 0, .int 0, .int 0]))] H := hP
  have hD : va_D A [(m0, .inr (12, [.ref m1, .ref m2, .ref m3, .ref m4, .ref m5, .ref m6, .int 0, .int 0, .int 0]))] := hD
  refine lv_ifnull hx hb dX6_hasPopular_16 ?_
  refine lv_iconst (v := (1)) hx hb dX6_hasPopular_19 (by decide) ?_
  refine lv_goto (tgt := 24) hx hb dX6_hasPopular_20 (by decide) ?_
  exact y_zret hx hb hr hlocks (by decide) () rfl hP hD hS (Nat.le_of_ble_eq_true rfl) (Nat.le_of_ble_eq_true rfl) dX6_hasPopular_24
theorem yz_m_bestProfile_61 (p0 : Int32) (h0 : 1 ≤ p0 ∧ p0 ≤ 9) : 1 ≤ p0 ∧ p0 ≤ 9 := by grind
theorem yz_m_bestProfile_62 (p0 : Int32) (h0 : (p0 < 1 ∨ 9 < p0)) : (p0 < 1 ∨ 9 < p0) := by grind

set_option maxHeartbeats 4000000 in
set_option maxRecDepth 100000 in
theorem m_bestProfile (l : Launch) (hfl : l.stackTraces = false) (D : va_G) (tE : Nat) (sz : Nat) (m0 : Nat) (m1 : Nat) (m2 : Nat) (m3 : Nat) (m4 : Nat) (m5 : Nat) (m6 : Nat) (th : Int32) (p0 : Int32) (A : Nat → Prop) (hA0 : A = va_A [(m0, .inr (12, [.ref m1, .ref m2, .ref m3, .ref m4, .ref m5, .ref m6, .int 0, .int 0, .int th]))] sz) : Met l yX6_bestProfile wsX6_bestProfile (yR 3 4 11) (yP D tE [(m0, .inr (12, [.ref m1, .ref m2, .ref m3, .ref m4, .ref m5, .ref m6, .int 0, .int 0, .int th]))] [] sz [.ref m0, .int p0]) (va_Qi (S := Int32) (fun (r : Int32) (u : Int32) => (r = 0 ∧ u = 0 ∧ 1 ≤ p0 ∧ p0 ≤ 9) ∨ (r = 0 ∧ u = 1 ∧ (p0 < 1 ∨ 9 < p0))) (fun (u : Int32) (t : State) => yB D A ((fun (u : Int32) => [(m0, .inr (12, [.ref m1, .ref m2, .ref m3, .ref m4, .ref m5, .ref m6, .int 0, .int 0, .int u]))]) u) t) A) 4 11 A := by
  refine Met.ofW (cc := cX6_bestProfile) (maxL := 2) (ret := (some .int)) (by decide) rfl ?_
  intro p e s m args below meth c s₁ B hml hv
  obtain ⟨rfl, rfl, hP, hK, hD, hE, hA⟩ := y_start hA0 hv
  have hx := B.exec
  have hb := B.bytes
  have hr := B.returns
  have hts := atoms_spec (ws := wsX6_bestProfile) B.pre
  have hown : s.vm.findClass RX6 = some m.cls := findClass_of_methodNamed B.named
  have hlocks := B.notSynchronized
  clear hA0 hv
  have hS : va_S A s.heap s.heap [] := va_S.rf
  have hl := lv_entry ([.ref m0, .int p0]) (n := 2) (Nat.le_of_ble_eq_true rfl)
  rw [lg_entry_eq]
  generalize (lg_sl ([.ref m0, .int p0]) ++ List.replicate (2 - (lg_sl ([.ref m0, .int p0])).length) Slot.unset).toArray = ls at hl ⊢
  have hl : lv_has ls 2 [(0, .ref m0), (1, .int p0)] := hl
  refine lv_aload_n hx hb dX6_bestProfile_0 rfl (lv_at hl 0 rfl) ?_
  refine lv_iload_n hx hb dX6_bestProfile_1 rfl (lv_at hl 1 rfl) ?_
  refine lv_iconst (v := (1)) hx hb dX6_bestProfile_2 (by decide) ?_
  refine lv_bipush (v := (9)) hx hb dX6_bestProfile_3 (by decide) ?_
  refine yc_i (wc := []) (wr := [(m0, .inr (12, [.ref m1, .ref m2, .ref m3, .ref m4, .ref m5, .ref m6, .int 0, .int 0, .int th]))]) (va_runS (As := [.int p0, .int 1, .int 9]) (rest := [.ref m0]) ⟨hx, hb, hml, hown, hts⟩ (g_isIn l hfl D tE s.heap.size p0 1 9 (va_A [] s.heap.size) rfl) (va_cwS 3 hts gX6_bestProfile_X6_isIn rfl rfl rfl (by decide +kernel) ⟨Nat.le_of_ble_eq_true rfl, Nat.le_of_ble_eq_true rfl⟩) (yPreS (wc := []) (tc := []) hK hP hD hS hA hE [] [] (by decide) rfl rfl) rfl rfl hl.1 rfl (lv_room (Nat.le_of_ble_eq_true rfl)) dX6_bestProfile_5 ⟨Nat.le_of_ble_eq_true rfl, Nat.le_of_ble_eq_true rfl⟩) hP hD hS hA [] [0] rfl rfl (by decide) (by decide) (fun r_1 u_2 H locs hw hP hD hS => ?_)
  have hP : va_P D vwCl [(m0, .inr (12, [.ref m1, .ref m2, .ref m3, .ref m4, .ref m5, .ref m6, .int 0, .int 0, .int th]))] H := hP
  have hD : va_D A [(m0, .inr (12, [.ref m1, .ref m2, .ref m3, .ref m4, .ref m5, .ref m6, .int 0, .int 0, .int th]))] := hD
  have hw : (r_1 = 1 ∧ 1 ≤ p0 ∧ p0 ≤ 9) ∨ (r_1 = 0 ∧ (p0 < 1 ∨ 9 < p0)) := hw
  rcases hw with ⟨hr9, hw9⟩ | ⟨hr9, hw9⟩
  · subst hr9
    have w_3 : 1 ≤ p0 ∧ p0 ≤ 9 := hw9
    refine lv_iconst (v := (1)) hx hb dX6_bestProfile_8 (by decide) ?_
    refine yc_i (wc := [(m0, .inr (12, [.ref m1, .ref m2, .ref m3, .ref m4, .ref m5, .ref m6, .int 0, .int 0, .int th]))]) (wr := []) (va_runV (As := [.int 1, .int 1]) (rest := []) ⟨hx, hb, hml, hown, hts⟩ (g_no1 l hfl D tE H.size m0 m1 m2 m3 m4 m5 m6 0 0 th 1 (va_A [(m0, .inr (12, [.ref m1, .ref m2, .ref m3, .ref m4, .ref m5, .ref m6, .int 0, .int 0, .int th]))] H.size) rfl) (cwV 2 hts gX6_bestProfile_X6_no rfl rfl rfl (by decide +kernel) ⟨Nat.le_of_ble_eq_true rfl, Nat.le_of_ble_eq_true rfl⟩) (yPreV (wc := [(m0, .inr (12, [.ref m1, .ref m2, .ref m3, .ref m4, .ref m5, .ref m6, .int 0, .int 0, .int th]))]) (tc := []) hK hP hD hS hA hE [0] [] (by decide) rfl rfl (ci := 12) (q0 := 0) (q := (RX6, TX6, 9)) rfl rfl) rfl rfl hl.1 rfl (lv_room (Nat.le_of_ble_eq_true rfl)) dX6_bestProfile_9 ⟨Nat.le_of_ble_eq_true rfl, Nat.le_of_ble_eq_true rfl⟩) hP hD hS hA [0] [] rfl rfl (by decide) (by decide) (fun r_4 u_5 H locs hw hP hD hS => ?_)
    have hP : va_P D vwCl [(m0, .inr (12, [.ref m1, .ref m2, .ref m3, .ref m4, .ref m5, .ref m6, .int 0, .int 0, .int 0]))] H := hP
    have hD : va_D A [(m0, .inr (12, [.ref m1, .ref m2, .ref m3, .ref m4, .ref m5, .ref m6, .int 0, .int 0, .int 0]))] := hD
    have hw : r_4 = 0 := hw
    subst hw
    refine lv_if_eq (tgt := 19) hx hb dX6_bestProfile_12 (by decide) (fun _ => ?_) (fun h => absurd h (by decide))
    refine lv_aload_n hx hb dX6_bestProfile_19 rfl (lv_at hl 0 rfl) ?_
    refine lv_iload_n hx hb dX6_bestProfile_20 rfl (lv_at hl 1 rfl) ?_
    refine lv_aload_n hx hb dX6_bestProfile_21 rfl (lv_at hl 0 rfl) ?_
    refine lv_aload_n hx hb dX6_bestProfile_22 rfl (lv_at hl 0 rfl) ?_
    refine yc_r (wc := [(m0, .inr (12, [.ref m1, .ref m2, .ref m3, .ref m4, .ref m5, .ref m6, .int 0, .int 0, .int 0]))]) (wr := []) (va_runV (As := []) (rest := [.ref m0, .int p0, .ref m0]) ⟨hx, hb, hml, hown, hts⟩ (m_profiles l hfl D tE H.size m0 m1 m2 m3 m4 m5 m6 0 (va_A [(m0, .inr (12, [.ref m1, .ref m2, .ref m3, .ref m4, .ref m5, .ref m6, .int 0, .int 0, .int 0]))] H.size) rfl) (cwV 0 hts gX6_bestProfile_X6_profiles rfl rfl rfl (by decide +kernel) ⟨Nat.le_of_ble_eq_true rfl, Nat.le_of_ble_eq_true rfl⟩) (yPreV (wc := [(m0, .inr (12, [.ref m1, .ref m2, .ref m3, .ref m4, .ref m5, .ref m6, .int 0, .int 0, .int 0]))]) (tc := []) hK hP hD hS hA hE [0] [] (by decide) rfl rfl (ci := 12) (q0 := 0) (q := (RX6, TX6, 9)) rfl rfl) rfl rfl hl.1 rfl (lv_room (Nat.le_of_ble_eq_true rfl)) dX6_bestProfile_23 ⟨Nat.le_of_ble_eq_true rfl, Nat.le_of_ble_eq_true rfl⟩) hP hD hS hA [0] [] rfl rfl (by decide) (by decide) (fun r_6 u_7 H locs hw hP hD hS => ?_)
    have hP : va_P D vwCl [(m0, .inr (12, [.ref m1, .ref m2, .ref m3, .ref m4, .ref m5, .ref m6, .int 0, .int 0, .int 0]))] H := hP
    have hD : va_D A [(m0, .inr (12, [.ref m1, .ref m2, .ref m3, .ref m4, .ref m5, .ref m6, .int 0, .int 0, .int 0]))] := hD
    refine yc_r (wc := [(m0, .inr (12, [.ref m1, .ref m2, .ref m3, .ref m4, .ref m5, .ref m6, .int 0, .int 0, .int 0]))]) (wr := []) (va_runV (As := [.ref r_6]) (rest := [.int p0, .ref m0]) ⟨hx, hb, hml, hown, hts⟩ (m_first l hfl D tE H.size m0 m1 m2 m3 m4 m5 m6 0 r_6 (va_A [(m0, .inr (12, [.ref m1, .ref m2, .ref m3, .ref m4, .ref m5, .ref m6, .int 0, .int 0, .int 0]))] H.size) rfl) (cwV 1 hts gX6_bestProfile_X6_first rfl rfl rfl (by decide +kernel) ⟨Nat.le_of_ble_eq_true rfl, Nat.le_of_ble_eq_true rfl⟩) (yPreV (wc := [(m0, .inr (12, [.ref m1, .ref m2, .ref m3, .ref m4, .ref m5, .ref m6, .int 0, .int 0, .int 0]))]) (tc := []) hK hP hD hS hA hE [0] [] (by decide) rfl rfl (ci := 12) (q0 := 0) (q := (RX6, TX6, 9)) rfl rfl) rfl rfl hl.1 rfl (lv_room (Nat.le_of_ble_eq_true rfl)) dX6_bestProfile_26 ⟨Nat.le_of_ble_eq_true rfl, Nat.le_of_ble_eq_true rfl⟩) hP hD hS hA [0] [] rfl rfl (by decide) (by decide) (fun r_8 u_9 H locs hw hP hD hS => ?_)
    have hP : va_P D vwCl [(m0, .inr (12, [.ref m1, .ref m2, .ref m3, .ref m4, .ref m5, .ref m6, .int 0, .int 0, .int 0]))] H := hP
    have hD : va_D A [(m0, .inr (12, [.ref m1, .ref m2, .ref m3, .ref m4, .ref m5, .ref m6, .int 0, .int 0, .int 0]))] := hD
    refine yc_i (wc := [(m0, .inr (12, [.ref m1, .ref m2, .ref m3, .ref m4, .ref m5, .ref m6, .int 0, .int 0, .int 0]))]) (wr := []) (va_runV (As := [.int p0, .ref r_8]) (rest := []) ⟨hx, hb, hml, hown, hts⟩ (m_count l hfl D tE H.size m0 m1 m2 m3 m4 m5 m6 0 0 p0 r_8 (va_A [(m0, .inr (12, [.ref m1, .ref m2, .ref m3, .ref m4, .ref m5, .ref m6, .int 0, .int 0, .int 0]))] H.size) rfl) (cwV 2 hts gX6_bestProfile_X6_count rfl rfl rfl (by decide +kernel) ⟨Nat.le_of_ble_eq_true rfl, Nat.le_of_ble_eq_true rfl⟩) (yPreV (wc := [(m0, .inr (12, [.ref m1, .ref m2, .ref m3, .ref m4, .ref m5, .ref m6, .int 0, .int 0, .int 0]))]) (tc := []) hK hP hD hS hA hE [0] [] (by decide) rfl rfl (ci := 12) (q0 := 0) (q := (RX6, TX6, 9)) rfl rfl) rfl rfl hl.1 rfl (lv_room (Nat.le_of_ble_eq_true rfl)) dX6_bestProfile_29 ⟨Nat.le_of_ble_eq_true rfl, Nat.le_of_ble_eq_true rfl⟩) hP hD hS hA [0] [] rfl rfl (by decide) (by decide) (fun r_10 u_11 H locs hw hP hD hS => ?_)
    have hP : va_P D vwCl [(m0, .inr (12, [.ref m1, .ref m2, .ref m3, .ref m4, .ref m5, .ref m6, .int 0, .int 0, .int 0]))] H := hP
    have hD : va_D A [(m0, .inr (12, [.ref m1, .ref m2, .ref m3, .ref m4, .ref m5, .ref m6, .int 0, .int 0, .int 0]))] := hD
    have hw : r_10 = 0 := hw
    subst hw
    exact y_iret hx hb hr hlocks (0 : Int32) (Or.inl ⟨rfl, rfl, (yz_m_bestProfile_61 p0 w_3)⟩) hP hD hS (Nat.le_of_ble_eq_true rfl) (Nat.le_of_ble_eq_true rfl) dX6_bestProfile_32
  · subst hr9
    have w_12 : (p0 < 1 ∨ 9 < p0) := hw9
    refine lv_iconst (v := (1)) hx hb dX6_bestProfile_8 (by decide) ?_
    refine yc_i (wc := [(m0, .inr (12, [.ref m1, .ref m2, .ref m3, .ref m4, .ref m5, .ref m6, .int 0, .int 0, .int th]))]) (wr := []) (va_runV (As := [.int 0, .int 1]) (rest := []) ⟨hx, hb, hml, hown, hts⟩ (g_no0 l hfl D tE H.size m0 m1 m2 m3 m4 m5 m6 0 0 th 1 (va_A [(m0, .inr (12, [.ref m1, .ref m2, .ref m3, .ref m4, .ref m5, .ref m6, .int 0, .int 0, .int th]))] H.size) rfl) (cwV 2 hts gX6_bestProfile_X6_no rfl rfl rfl (by decide +kernel) ⟨Nat.le_of_ble_eq_true rfl, Nat.le_of_ble_eq_true rfl⟩) (yPreV (wc := [(m0, .inr (12, [.ref m1, .ref m2, .ref m3, .ref m4, .ref m5, .ref m6, .int 0, .int 0, .int th]))]) (tc := []) hK hP hD hS hA hE [0] [] (by decide) rfl rfl (ci := 12) (q0 := 0) (q := (RX6, TX6, 9)) rfl rfl) rfl rfl hl.1 rfl (lv_room (Nat.le_of_ble_eq_true rfl)) dX6_bestProfile_9 ⟨Nat.le_of_ble_eq_true rfl, Nat.le_of_ble_eq_true rfl⟩) hP hD hS hA [0] [] rfl rfl (by decide) (by decide) (fun r_13 u_14 H locs hw hP hD hS => ?_)
    have hP : va_P D vwCl [(m0, .inr (12, [.ref m1, .ref m2, .ref m3, .ref m4, .ref m5, .ref m6, .int 0, .int 0, .int 1]))] H := hP
    have hD : va_D A [(m0, .inr (12, [.ref m1, .ref m2, .ref m3, .ref m4, .ref m5, .ref m6, .int 0, .int 0, .int 1]))] := hD
    have hw : r_13 = 1 := hw
    subst hw
    refine lv_if_eq (tgt := 19) hx hb dX6_bestProfile_12 (by decide) (fun h => absurd h (by decide)) (fun _ => ?_)
    refine lv_iconst (v := (0)) hx hb dX6_bestProfile_15 (by decide) ?_
    refine lv_goto (tgt := 32) hx hb dX6_bestProfile_16 (by decide) ?_
    exact y_iret hx hb hr hlocks (1 : Int32) (Or.inr ⟨rfl, rfl, (yz_m_bestProfile_62 p0 w_12)⟩) hP hD hS (Nat.le_of_ble_eq_true rfl) (Nat.le_of_ble_eq_true rfl) dX6_bestProfile_32
