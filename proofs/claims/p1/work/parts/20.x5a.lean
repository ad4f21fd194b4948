set_option maxRecDepth 20000 in
theorem yth_X5_107_111 : yTh RX5 "java/lang/IllegalArgumentException" ["java/lang/RuntimeException", "java/lang/Exception"] 107 111 := ⟨by decide +kernel, by decide +kernel, by decide +kernel, by decide +kernel, by decide +kernel⟩
set_option maxRecDepth 20000 in
theorem yth_X5_277_281 : yTh RX5 "java/lang/IndexOutOfBoundsException" ["java/lang/RuntimeException", "java/lang/Exception"] 277 281 := ⟨by decide +kernel, by decide +kernel, by decide +kernel, by decide +kernel, by decide +kernel⟩
theorem eX5_requireNumber_111 : ∀ w ∈ (vx_atS RX5 111 "java/lang/IllegalArgumentException" ["java/lang/RuntimeException", "java/lang/Exception"]).filter goodWord, w ∈ wsX5_requireNumber := fun _ h => List.mem_cons_of_mem _ (List.mem_append_right _ h)
theorem kX5_requireNumber_1 : Cond.classLink RX5 107 "java/lang/IllegalArgumentException" ∈ wsX5_requireNumber := List.mem_of_getElem? (i := 1) (by decide +kernel)
theorem kX5_requireNumber_2 : Cond.initialized "java/lang/IllegalArgumentException" ∈ wsX5_requireNumber := List.mem_of_getElem? (i := 2) (by decide +kernel)
set_option maxHeartbeats 4000000 in
set_option maxRecDepth 100000 in
theorem c_requireNumber (l : Launch) (hfl : l.stackTraces = false) (D : va_G) (tE : Nat) (sz : Nat) (h0 : Nat) (n : Int32) (lo : Int32) (hi : Int32) (A : Nat → Prop) (hA0 : A = va_A [] sz) : vx_Met l yX5_requireNumber wsX5_requireNumber (yR 0 1 6) (yP D tE [] [] sz [.ref h0, .int n, .int lo, .int hi]) (va_Qv (S := Unit) (fun (u : Unit) => lo ≤ n ∧ n ≤ hi) (fun (u : Unit) (t : State) => yB D A ((fun (u : Unit) => []) u) t) A) (vx_X (S := Unit) (fun _ => True) (fun E _ t => (fun (E : String) => E = "java/lang/IllegalArgumentException" ∧ (n < lo ∨ hi < n)) E ∧ yB D A [] t) A) 1 6 A := by
  refine vx_ofW (cc := cX5_requireNumber) (maxL := 4) (ret := none) (by decide) rfl ?_
  intro p e s m args below meth c s₁ B hml hout hv
  obtain ⟨rfl, rfl, hP, hK, hD, hE, hA⟩ := y_start hA0 hv
  have hx := B.exec
  have hb := B.bytes
  have hr := B.returns
  have hts := atoms_spec (ws := wsX5_requireNumber) B.pre
  have hown : s.vm.findClass RX5 = some m.cls := findClass_of_methodNamed B.named
  have hlocks := B.notSynchronized
  clear hA0 hv
  have hS : va_S A s.heap s.heap [] := va_S.rf
  have hl := lv_entry ([.ref h0, .int n, .int lo, .int hi]) (n := 4) (Nat.le_of_ble_eq_true rfl)
  rw [lg_entry_eq]
  generalize (lg_sl ([.ref h0, .int n, .int lo, .int hi]) ++ List.replicate (4 - (lg_sl ([.ref h0, .int n, .int lo, .int hi])).length) Slot.unset).toArray = ls at hl ⊢
  have hl : lv_has ls 4 [(0, .ref h0), (1, .int n), (2, .int lo), (3, .int hi)] := hl
  refine lv_iload_n hx hb dX5_requireNumber_0 rfl (lv_at hl 1 rfl) ?_
  refine lv_iload_n hx hb dX5_requireNumber_1 rfl (lv_at hl 2 rfl) ?_
  refine lv_icmp_lt (tgt := 10) hx hb dX5_requireNumber_2 (by decide) (fun c_1 => ?_) (fun c_1 => ?_)
  · exact y_throwSW (text := "number out of range") hx hb hfl hts hown yth_X5_107_111 (by decide) kX5_requireNumber_1 kX5_requireNumber_2 eX5_requireNumber_111 hE hP hD hS (by rw [hml]; exact hl.1) dX5_requireNumber_10 dX5_requireNumber_13 dX5_requireNumber_14 dX5_requireNumber_17 dX5_requireNumber_20 hout ⟨Nat.le_of_ble_eq_true rfl, Nat.le_of_ble_eq_true rfl, Nat.le_of_ble_eq_true rfl, Nat.le_of_ble_eq_true rfl⟩ hlocks ⟨rfl, Or.inl c_1⟩ (Nat.le_of_ble_eq_true rfl) (Nat.le_of_ble_eq_true rfl)
  · refine lv_iload_n hx hb dX5_requireNumber_5 rfl (lv_at hl 1 rfl) ?_
    refine lv_iload_n hx hb dX5_requireNumber_6 rfl (lv_at hl 3 rfl) ?_
    refine lv_icmp_le (tgt := 21) hx hb dX5_requireNumber_7 (by decide) (fun c_2 => ?_) (fun c_2 => ?_)
    · exact vx_ret (y_vret hx hb hr hlocks () ⟨y_nlt c_1, c_2⟩ hP hD hS (Nat.le_of_ble_eq_true rfl) (Nat.le_of_ble_eq_true rfl) dX5_requireNumber_21)
    · exact y_throwSW (text := "number out of range") hx hb hfl hts hown yth_X5_107_111 (by decide) kX5_requireNumber_1 kX5_requireNumber_2 eX5_requireNumber_111 hE hP hD hS (by rw [hml]; exact hl.1) dX5_requireNumber_10 dX5_requireNumber_13 dX5_requireNumber_14 dX5_requireNumber_17 dX5_requireNumber_20 hout ⟨Nat.le_of_ble_eq_true rfl, Nat.le_of_ble_eq_true rfl, Nat.le_of_ble_eq_true rfl, Nat.le_of_ble_eq_true rfl⟩ hlocks ⟨rfl, Or.inr (y_nle c_2)⟩ (Nat.le_of_ble_eq_true rfl) (Nat.le_of_ble_eq_true rfl)
theorem eX5_requireApplicant_281 : ∀ w ∈ (vx_atS RX5 281 "java/lang/IndexOutOfBoundsException" ["java/lang/RuntimeException", "java/lang/Exception"]).filter goodWord, w ∈ wsX5_requireApplicant := fun _ h => List.mem_cons_of_mem _ (List.mem_append_right _ h)
theorem kX5_requireApplicant_1 : Cond.classLink RX5 277 "java/lang/IndexOutOfBoundsException" ∈ wsX5_requireApplicant := List.mem_of_getElem? (i := 1) (by decide +kernel)
theorem kX5_requireApplicant_2 : Cond.initialized "java/lang/IndexOutOfBoundsException" ∈ wsX5_requireApplicant := List.mem_of_getElem? (i := 2) (by decide +kernel)
theorem iX5_requireApplicant_X5 : ∀ w ∈ wsX50, w ∈ wsX5_requireApplicant := by decide +kernel
theorem kX5_requireApplicant_3 : Cond.fieldLink RX5 10 "Mostwell" "house" "LMostwell$House;" ∈ wsX5_requireApplicant := List.mem_of_getElem? (i := 3) (by decide +kernel)
theorem iX5_requireApplicant_X2 : ∀ w ∈ wsX20, w ∈ wsX5_requireApplicant := by decide +kernel
theorem kX5_requireApplicant_4 : Cond.fieldLink RX5 60 "Mostwell$House" "applicants" "I" ∈ wsX5_requireApplicant := List.mem_of_getElem? (i := 4) (by decide +kernel)
set_option maxHeartbeats 4000000 in
set_option maxRecDepth 100000 in
theorem c_requireApplicant (l : Launch) (hfl : l.stackTraces = false) (D : va_G) (tE : Nat) (sz : Nat) (h0 : Nat) (h1 : Nat) (h2 : Nat) (h3 : Nat) (h4 : Nat) (a1 : Nat) (a2 : Nat) (w1 : Nat) (w2 : Nat) (w3 : Nat) (w4 : Nat) (w5 : Nat) (kc : Int32) (na : Int32) (np : Int32) (a : Int32) (A : Nat → Prop) (hA0 : A = va_A [(h0, .inr (11, [.ref h1, .ref h2, .ref h3, .ref h4, .ref a1, .ref a2, .int kc])), (h1, .inr (8, [.int na, .int np, .ref w1, .ref w2, .ref w3, .ref w4, .ref w5]))] sz) : vx_Met l yX5_requireApplicant wsX5_requireApplicant (yR 0 1 6) (yP D tE [(h0, .inr (11, [.ref h1, .ref h2, .ref h3, .ref h4, .ref a1, .ref a2, .int kc])), (h1, .inr (8, [.int na, .int np, .ref w1, .ref w2, .ref w3, .ref w4, .ref w5]))] [] sz [.ref h0, .int a]) (va_Qv (S := Unit) (fun (u : Unit) => 0 ≤ a ∧ a < na) (fun (u : Unit) (t : State) => yB D A ((fun (u : Unit) => [(h0, .inr (11, [.ref h1, .ref h2, .ref h3, .ref h4, .ref a1, .ref a2, .int kc])), (h1, .inr (8, [.int na, .int np, .ref w1, .ref w2, .ref w3, .ref w4, .ref w5]))]) u) t) A) (vx_X (S := Unit) (fun _ => True) (fun E _ t => (fun (E : String) => E = "java/lang/IndexOutOfBoundsException" ∧ (a < 0 ∨ na ≤ a)) E ∧ yB D A [(h0, .inr (11, [.ref h1, .ref h2, .ref h3, .ref h4, .ref a1, .ref a2, .int kc])), (h1, .inr (8, [.int na, .int np, .ref w1, .ref w2, .ref w3, .ref w4, .ref w5]))] t) A) 1 6 A := by
  refine vx_ofW (cc := cX5_requireApplicant) (maxL := 2) (ret := none) (by decide) rfl ?_
  intro p e s m args below meth c s₁ B hml hout hv
  obtain ⟨rfl, rfl, hP, hK, hD, hE, hA⟩ := y_start hA0 hv
  have hx := B.exec
  have hb := B.bytes
  have hr := B.returns
  have hts := atoms_spec (ws := wsX5_requireApplicant) B.pre
  have hown : s.vm.findClass RX5 = some m.cls := findClass_of_methodNamed B.named
  have hlocks := B.notSynchronized
  clear hA0 hv
  have hS : va_S A s.heap s.heap [] := va_S.rf
  have hl := lv_entry ([.ref h0, .int a]) (n := 2) (Nat.le_of_ble_eq_true rfl)
  rw [lg_entry_eq]
  generalize (lg_sl ([.ref h0, .int a]) ++ List.replicate (2 - (lg_sl ([.ref h0, .int a])).length) Slot.unset).toArray = ls at hl ⊢
  have hl : lv_has ls 2 [(0, .ref h0), (1, .int a)] := hl
  refine lv_iload_n hx hb dX5_requireApplicant_0 rfl (lv_at hl 1 rfl) ?_
  refine lv_if_lt (tgt := 15) hx hb dX5_requireApplicant_1 (by decide) (fun c_1 => ?_) (fun c_1 => ?_)
  · exact y_throwSW (text := "no such applicant") hx hb hfl hts hown yth_X5_277_281 (by decide) kX5_requireApplicant_1 kX5_requireApplicant_2 eX5_requireApplicant_281 hE hP hD hS (by rw [hml]; exact hl.1) dX5_requireApplicant_15 dX5_requireApplicant_18 dX5_requireApplicant_19 dX5_requireApplicant_22 dX5_requireApplicant_25 hout ⟨Nat.le_of_ble_eq_true rfl, Nat.le_of_ble_eq_true rfl, Nat.le_of_ble_eq_true rfl, Nat.le_of_ble_eq_true rfl⟩ hlocks ⟨rfl, Or.inl c_1⟩ (Nat.le_of_ble_eq_true rfl) (Nat.le_of_ble_eq_true rfl)
  · refine lv_iload_n hx hb dX5_requireApplicant_4 rfl (lv_at hl 1 rfl) ?_
    refine lv_aload_n hx hb dX5_requireApplicant_5 rfl (lv_at hl 0 rfl) ?_
    refine va_get (D := D) (ci := 11) (v := .ref h1) (C := RX5) (T := TX5) (N := 7) hx hb hts iX5_requireApplicant_X5 hown hK hP 0 rfl rfl 0 (by decide) (hts _ kX5_requireApplicant_3) (fun _ h9 => h9) rfl dX5_requireApplicant_6 ?_
    refine va_get (D := D) (ci := 8) (v := .int na) (C := RX2) (T := TX2) (N := 7) hx hb hts iX5_requireApplicant_X2 hown hK hP 1 rfl rfl 0 (by decide) (hts _ kX5_requireApplicant_4) (fun _ h9 => h9) rfl dX5_requireApplicant_9 ?_
    refine lv_icmp_lt (tgt := 26) hx hb dX5_requireApplicant_12 (by decide) (fun c_2 => ?_) (fun c_2 => ?_)
    · exact vx_ret (y_vret hx hb hr hlocks () ⟨y_nlt c_1, c_2⟩ hP hD hS (Nat.le_of_ble_eq_true rfl) (Nat.le_of_ble_eq_true rfl) dX5_requireApplicant_26)
    · exact y_throwSW (text := "no such applicant") hx hb hfl hts hown yth_X5_277_281 (by decide) kX5_requireApplicant_1 kX5_requireApplicant_2 eX5_requireApplicant_281 hE hP hD hS (by rw [hml]; exact hl.1) dX5_requireApplicant_15 dX5_requireApplicant_18 dX5_requireApplicant_19 dX5_requireApplicant_22 dX5_requireApplicant_25 hout ⟨Nat.le_of_ble_eq_true rfl, Nat.le_of_ble_eq_true rfl, Nat.le_of_ble_eq_true rfl, Nat.le_of_ble_eq_true rfl⟩ hlocks ⟨rfl, Or.inr (y_nlt c_2)⟩ (Nat.le_of_ble_eq_true rfl) (Nat.le_of_ble_eq_true rfl)
theorem eX5_requirePost_281 : ∀ w ∈ (vx_atS RX5 281 "java/lang/IndexOutOfBoundsException" ["java/lang/RuntimeException", "java/lang/Exception"]).filter goodWord, w ∈ wsX5_requirePost := fun _ h => List.mem_cons_of_mem _ (List.mem_append_right _ h)
theorem kX5_requirePost_1 : Cond.classLink RX5 277 "java/lang/IndexOutOfBoundsException" ∈ wsX5_requirePost := List.mem_of_getElem? (i := 1) (by decide +kernel)
theorem kX5_requirePost_2 : Cond.initialized "java/lang/IndexOutOfBoundsException" ∈ wsX5_requirePost := List.mem_of_getElem? (i := 2) (by decide +kernel)
theorem iX5_requirePost_X5 : ∀ w ∈ wsX50, w ∈ wsX5_requirePost := by decide +kernel
theorem kX5_requirePost_3 : Cond.fieldLink RX5 10 "Mostwell" "house" "LMostwell$House;" ∈ wsX5_requirePost := List.mem_of_getElem? (i := 3) (by decide +kernel)
theorem iX5_requirePost_X2 : ∀ w ∈ wsX20, w ∈ wsX5_requirePost := by decide +kernel
theorem kX5_requirePost_4 : Cond.fieldLink RX5 73 "Mostwell$House" "posts" "I" ∈ wsX5_requirePost := List.mem_of_getElem? (i := 4) (by decide +kernel)
set_option maxHeartbeats 4000000 in
set_option maxRecDepth 100000 in
theorem c_requirePost (l : Launch) (hfl : l.stackTraces = false) (D : va_G) (tE : Nat) (sz : Nat) (h0 : Nat) (h1 : Nat) (h2 : Nat) (h3 : Nat) (h4 : Nat) (a1 : Nat) (a2 : Nat) (w1 : Nat) (w2 : Nat) (w3 : Nat) (w4 : Nat) (w5 : Nat) (kc : Int32) (na : Int32) (np : Int32) (q : Int32) (A : Nat → Prop) (hA0 : A = va_A [(h0, .inr (11, [.ref h1, .ref h2, .ref h3, .ref h4, .ref a1, .ref a2, .int kc])), (h1, .inr (8, [.int na, .int np, .ref w1, .ref w2, .ref w3, .ref w4, .ref w5]))] sz) : vx_Met l yX5_requirePost wsX5_requirePost (yR 0 1 6) (yP D tE [(h0, .inr (11, [.ref h1, .ref h2, .ref h3, .ref h4, .ref a1, .ref a2, .int kc])), (h1, .inr (8, [.int na, .int np, .ref w1, .ref w2, .ref w3, .ref w4, .ref w5]))] [] sz [.ref h0, .int q]) (va_Qv (S := Unit) (fun (u : Unit) => 0 ≤ q ∧ q < np) (fun (u : Unit) (t : State) => yB D A ((fun (u : Unit) => [(h0, .inr (11, [.ref h1, .ref h2, .ref h3, .ref h4, .ref a1, .ref a2, .int kc])), (h1, .inr (8, [.int na, .int np, .ref w1, .ref w2, .ref w3, .ref w4, .ref w5]))]) u) t) A) (vx_X (S := Unit) (fun _ => True) (fun E _ t => (fun (E : String) => E = "java/lang/IndexOutOfBoundsException" ∧ (q < 0 ∨ np ≤ q)) E ∧ yB D A [(h0, .inr (11, [.ref h1, .ref h2, .ref h3, .ref h4, .ref a1, .ref a2, .int kc])), (h1, .inr (8, [.int na, .int np, .ref w1, .ref w2, .ref w3, .ref w4, .ref w5]))] t) A) 1 6 A := by
  refine vx_ofW (cc := cX5_requirePost) (maxL := 2) (ret := none) (by decide) rfl ?_
  intro p e s m args below meth c s₁ B hml hout hv
  obtain ⟨rfl, rfl, hP, hK, hD, hE, hA⟩ := y_start hA0 hv
  have hx := B.exec
  have hb := B.bytes
  have hr := B.returns
  have hts := atoms_spec (ws := wsX5_requirePost) B.pre
  have hown : s.vm.findClass RX5 = some m.cls := findClass_of_methodNamed B.named
  have hlocks := B.notSynchronized
  clear hA0 hv
  have hS : va_S A s.heap s.heap [] := va_S.rf
  have hl := lv_entry ([.ref h0, .int q]) (n := 2) (Nat.le_of_ble_eq_true rfl)
  rw [lg_entry_eq]
  generalize (lg_sl ([.ref h0, .int q]) ++ List.replicate (2 - (lg_sl ([.ref h0, .int q])).length) Slot.unset).toArray = ls at hl ⊢
  have hl : lv_has ls 2 [(0, .ref h0), (1, .int q)] := hl
  refine lv_iload_n hx hb dX5_requirePost_0 rfl (lv_at hl 1 rfl) ?_
  refine lv_if_lt (tgt := 15) hx hb dX5_requirePost_1 (by decide) (fun c_1 => ?_) (fun c_1 => ?_)
  · exact y_throwSW (text := "no such post") hx hb hfl hts hown yth_X5_277_281 (by decide) kX5_requirePost_1 kX5_requirePost_2 eX5_requirePost_281 hE hP hD hS (by rw [hml]; exact hl.1) dX5_requirePost_15 dX5_requirePost_18 dX5_requirePost_19 dX5_requirePost_22 dX5_requirePost_25 hout ⟨Nat.le_of_ble_eq_true rfl, Nat.le_of_ble_eq_true rfl, Nat.le_of_ble_eq_true rfl, Nat.le_of_ble_eq_true rfl⟩ hlocks ⟨rfl, Or.inl c_1⟩ (Nat.le_of_ble_eq_true rfl) (Nat.le_of_ble_eq_true rfl)
  · refine lv_iload_n hx hb dX5_requirePost_4 rfl (lv_at hl 1 rfl) ?_
    refine lv_aload_n hx hb dX5_requirePost_5 rfl (lv_at hl 0 rfl) ?_
    refine va_get (D := D) (ci := 11) (v := .ref h1) (C := RX5) (T := TX5) (N := 7) hx hb hts iX5_requirePost_X5 hown hK hP 0 rfl rfl 0 (by decide) (hts _ kX5_requirePost_3) (fun _ h9 => h9) rfl dX5_requirePost_6 ?_
    refine va_get (D := D) (ci := 8) (v := .int np) (C := RX2) (T := TX2) (N := 7) hx hb hts iX5_requirePost_X2 hown hK hP 1 rfl rfl 1 (by decide) (hts _ kX5_requirePost_4) (fun _ h9 => h9) rfl dX5_requirePost_9 ?_
    refine lv_icmp_lt (tgt := 26) hx hb dX5_requirePost_12 (by decide) (fun c_2 => ?_) (fun c_2 => ?_)
    · exact vx_ret (y_vret hx hb hr hlocks () ⟨y_nlt c_1, c_2⟩ hP hD hS (Nat.le_of_ble_eq_true rfl) (Nat.le_of_ble_eq_true rfl) dX5_requirePost_26)
    · exact y_throwSW (text := "no such post") hx hb hfl hts hown yth_X5_277_281 (by decide) kX5_requirePost_1 kX5_requirePost_2 eX5_requirePost_281 hE hP hD hS (by rw [hml]; exact hl.1) dX5_requirePost_15 dX5_requirePost_18 dX5_requirePost_19 dX5_requirePost_22 dX5_requirePost_25 hout ⟨Nat.le_of_ble_eq_true rfl, Nat.le_of_ble_eq_true rfl, Nat.le_of_ble_eq_true rfl, Nat.le_of_ble_eq_true rfl⟩ hlocks ⟨rfl, Or.inr (y_nlt c_2)⟩ (Nat.le_of_ble_eq_true rfl) (Nat.le_of_ble_eq_true rfl)
theorem eX5_requireKept_281 : ∀ w ∈ (vx_atS RX5 281 "java/lang/IndexOutOfBoundsException" ["java/lang/RuntimeException", "java/lang/Exception"]).filter goodWord, w ∈ wsX5_requireKept := fun _ h => List.mem_cons_of_mem _ (List.mem_append_right _ h)
theorem kX5_requireKept_1 : Cond.classLink RX5 277 "java/lang/IndexOutOfBoundsException" ∈ wsX5_requireKept := List.mem_of_getElem? (i := 1) (by decide +kernel)
theorem kX5_requireKept_2 : Cond.initialized "java/lang/IndexOutOfBoundsException" ∈ wsX5_requireKept := List.mem_of_getElem? (i := 2) (by decide +kernel)
theorem iX5_requireKept_X5 : ∀ w ∈ wsX50, w ∈ wsX5_requireKept := by decide +kernel
theorem kX5_requireKept_3 : Cond.fieldLink RX5 46 "Mostwell" "keptCount" "I" ∈ wsX5_requireKept := List.mem_of_getElem? (i := 3) (by decide +kernel)
set_option maxHeartbeats 4000000 in
set_option maxRecDepth 100000 in
theorem c_requireKept (l : Launch) (hfl : l.stackTraces = false) (D : va_G) (tE : Nat) (sz : Nat) (h0 : Nat) (h1 : Nat) (h2 : Nat) (h3 : Nat) (h4 : Nat) (a1 : Nat) (a2 : Nat) (kc : Int32) (mt : Int32) (A : Nat → Prop) (hA0 : A = va_A [(h0, .inr (11, [.ref h1, .ref h2, .ref h3, .ref h4, .ref a1, .ref a2, .int kc]))] sz) : vx_Met l yX5_requireKept wsX5_requireKept (yR 0 1 6) (yP D tE [(h0, .inr (11, [.ref h1, .ref h2, .ref h3, .ref h4, .ref a1, .ref a2, .int kc]))] [] sz [.ref h0, .int mt]) (va_Qv (S := Unit) (fun (u : Unit) => 0 ≤ mt ∧ mt < kc) (fun (u : Unit) (t : State) => yB D A ((fun (u : Unit) => [(h0, .inr (11, [.ref h1, .ref h2, .ref h3, .ref h4, .ref a1, .ref a2, .int kc]))]) u) t) A) (vx_X (S := Unit) (fun _ => True) (fun E _ t => (fun (E : String) => E = "java/lang/IndexOutOfBoundsException" ∧ (mt < 0 ∨ kc ≤ mt)) E ∧ yB D A [(h0, .inr (11, [.ref h1, .ref h2, .ref h3, .ref h4, .ref a1, .ref a2, .int kc]))] t) A) 1 6 A := by
  refine vx_ofW (cc := cX5_requireKept) (maxL := 2) (ret := none) (by decide) rfl ?_
  intro p e s m args below meth c s₁ B hml hout hv
  obtain ⟨rfl, rfl, hP, hK, hD, hE, hA⟩ := y_start hA0 hv
  have hx := B.exec
  have hb := B.bytes
  have hr := B.returns
  have hts := atoms_spec (ws := wsX5_requireKept) B.pre
  have hown : s.vm.findClass RX5 = some m.cls := findClass_of_methodNamed B.named
  have hlocks := B.notSynchronized
  clear hA0 hv
  have hS : va_S A s.heap s.heap [] := va_S.rf
  have hl := lv_entry ([.ref h0, .int mt]) (n := 2) (Nat.le_of_ble_eq_true rfl)
  rw [lg_entry_eq]
  generalize (lg_sl ([.ref h0, .int mt]) ++ List.replicate (2 - (lg_sl ([.ref h0, .int mt])).length) Slot.unset).toArray = ls at hl ⊢
  have hl : lv_has ls 2 [(0, .ref h0), (1, .int mt)] := hl
  refine lv_iload_n hx hb dX5_requireKept_0 rfl (lv_at hl 1 rfl) ?_
  refine lv_if_lt (tgt := 12) hx hb dX5_requireKept_1 (by decide) (fun c_1 => ?_) (fun c_1 => ?_)
  · exact y_throwSW (text := "no such kept matching") hx hb hfl hts hown yth_X5_277_281 (by decide) kX5_requireKept_1 kX5_requireKept_2 eX5_requireKept_281 hE hP hD hS (by rw [hml]; exact hl.1) dX5_requireKept_12 dX5_requireKept_15 dX5_requireKept_16 dX5_requireKept_19 dX5_requireKept_22 hout ⟨Nat.le_of_ble_eq_true rfl, Nat.le_of_ble_eq_true rfl, Nat.le_of_ble_eq_true rfl, Nat.le_of_ble_eq_true rfl⟩ hlocks ⟨rfl, Or.inl c_1⟩ (Nat.le_of_ble_eq_true rfl) (Nat.le_of_ble_eq_true rfl)
  · refine lv_iload_n hx hb dX5_requireKept_4 rfl (lv_at hl 1 rfl) ?_
    refine lv_aload_n hx hb dX5_requireKept_5 rfl (lv_at hl 0 rfl) ?_
    refine va_get (D := D) (ci := 11) (v := .int kc) (C := RX5) (T := TX5) (N := 7) hx hb hts iX5_requireKept_X5 hown hK hP 0 rfl rfl 6 (by decide) (hts _ kX5_requireKept_3) (fun _ h9 => h9) rfl dX5_requireKept_6 ?_
    refine lv_icmp_lt (tgt := 23) hx hb dX5_requireKept_9 (by decide) (fun c_2 => ?_) (fun c_2 => ?_)
    · exact vx_ret (y_vret hx hb hr hlocks () ⟨y_nlt c_1, c_2⟩ hP hD hS (Nat.le_of_ble_eq_true rfl) (Nat.le_of_ble_eq_true rfl) dX5_requireKept_23)
    · exact y_throwSW (text := "no such kept matching") hx hb hfl hts hown yth_X5_277_281 (by decide) kX5_requireKept_1 kX5_requireKept_2 eX5_requireKept_281 hE hP hD hS (by rw [hml]; exact hl.1) dX5_requireKept_12 dX5_requireKept_15 dX5_requireKept_16 dX5_requireKept_19 dX5_requireKept_22 hout ⟨Nat.le_of_ble_eq_true rfl, Nat.le_of_ble_eq_true rfl, Nat.le_of_ble_eq_true rfl, Nat.le_of_ble_eq_true rfl⟩ hlocks ⟨rfl, Or.inr (y_nlt c_2)⟩ (Nat.le_of_ble_eq_true rfl) (Nat.le_of_ble_eq_true rfl)

set_option maxHeartbeats 4000000 in
set_option maxRecDepth 100000 in
theorem f_setWeight (l : Launch) (hfl : l.stackTraces = false) (D : va_G) (tE : Nat) (sz : Nat) (h0 : Nat) (h1 : Nat) (h2 : Nat) (h3 : Nat) (h4 : Nat) (a1 : Nat) (a2 : Nat) (w1 : Nat) (w2 : Nat) (w3 : Nat) (w4 : Nat) (w5 : Nat) (np : Int32) (p0 : Int32) (p1 : Int32) (A : Nat → Prop) (hA0 : A = va_A [(h0, .inr (11, [.ref h1, .ref h2, .ref h3, .ref h4, .ref a1, .ref a2, .int 0])), (h1, .inr (8, [.int 0, .int np, .ref w1, .ref w2, .ref w3, .ref w4, .ref w5]))] sz) : vx_Met l yX5_setWeight wsX5_setWeight (yR 1 1 6) (yP D tE [(h0, .inr (11, [.ref h1, .ref h2, .ref h3, .ref h4, .ref a1, .ref a2, .int 0])), (h1, .inr (8, [.int 0, .int np, .ref w1, .ref w2, .ref w3, .ref w4, .ref w5]))] [] sz [.ref h0, .int p0, .int p1]) (va_Qi (S := Unit) (fun (r : Int32) (u : Unit) => False) (fun (u : Unit) (t : State) => yB D A ((fun (u : Unit) => [(h0, .inr (11, [.ref h1, .ref h2, .ref h3, .ref h4, .ref a1, .ref a2, .int 0])), (h1, .inr (8, [.int 0, .int np, .ref w1, .ref w2, .ref w3, .ref w4, .ref w5]))]) u) t) A) (vx_X (S := Unit) (fun _ => True) (fun E _ t => (fun (E : String) => E = "java/lang/IndexOutOfBoundsException") E ∧ yB D A [] t) A) 1 6 A := by
  refine vx_ofW (cc := cX5_setWeight) (maxL := 4) (ret := (some .int)) (by decide) rfl ?_
  intro p e s m args below meth c s₁ B hml hout hv
  obtain ⟨rfl, rfl, hP, hK, hD, hE, hA⟩ := y_start hA0 hv
  have hx := B.exec
  have hb := B.bytes
  have hr := B.returns
  have hts := atoms_spec (ws := wsX5_setWeight) B.pre
  have hown : s.vm.findClass RX5 = some m.cls := findClass_of_methodNamed B.named
  have hlocks := B.notSynchronized
  clear hA0 hv
  have hS : va_S A s.heap s.heap [] := va_S.rf
  have hl := lv_entry ([.ref h0, .int p0, .int p1]) (n := 4) (Nat.le_of_ble_eq_true rfl)
  rw [lg_entry_eq]
  generalize (lg_sl ([.ref h0, .int p0, .int p1]) ++ List.replicate (4 - (lg_sl ([.ref h0, .int p0, .int p1])).length) Slot.unset).toArray = ls at hl ⊢
  have hl : lv_has ls 4 [(0, .ref h0), (1, .int p0), (2, .int p1)] := hl
  refine lv_aload_n hx hb dX5_setWeight_0 rfl (lv_at hl 0 rfl) ?_
  refine lv_iload_n hx hb dX5_setWeight_1 rfl (lv_at hl 1 rfl) ?_
  refine yx_v (wc := [(h0, .inr (11, [.ref h1, .ref h2, .ref h3, .ref h4, .ref a1, .ref a2, .int 0])), (h1, .inr (8, [.int 0, .int np, .ref w1, .ref w2, .ref w3, .ref w4, .ref w5]))]) (wr := []) (vx_runV (As := [.int p0]) (rest := []) ⟨hx, hb, hml, hown, hts⟩ (c_requireApplicant l hfl D tE s.heap.size h0 h1 h2 h3 h4 a1 a2 w1 w2 w3 w4 w5 0 0 np p0 (va_A [(h0, .inr (11, [.ref h1, .ref h2, .ref h3, .ref h4, .ref a1, .ref a2, .int 0])), (h1, .inr (8, [.int 0, .int np, .ref w1, .ref w2, .ref w3, .ref w4, .ref w5]))] s.heap.size) rfl) (cwV 1 hts gX5_setWeight_X5_requireApplicant rfl rfl rfl (by decide +kernel) ⟨Nat.le_of_ble_eq_true rfl, Nat.le_of_ble_eq_true rfl⟩) (yPreV (wc := [(h0, .inr (11, [.ref h1, .ref h2, .ref h3, .ref h4, .ref a1, .ref a2, .int 0])), (h1, .inr (8, [.int 0, .int np, .ref w1, .ref w2, .ref w3, .ref w4, .ref w5]))]) (tc := []) hK hP hD hS hA hE [0, 1] [] (by decide) rfl rfl (ci := 11) (q0 := 0) (q := (RX5, TX5, 7)) rfl rfl) rfl rfl hl.1 rfl (lv_room (Nat.le_of_ble_eq_true rfl)) dX5_setWeight_2 ⟨Nat.le_of_ble_eq_true rfl, Nat.le_of_ble_eq_true rfl⟩) hP hD hS hA [0, 1] [] rfl rfl (by decide) (by decide) (fun E ce q9 H locs hpx hP hD hS g1 g2 g3 => ?_) (fun u_2 H locs hw hP hD hS => ?_)
  · have hP : va_P D vwCl [(h0, .inr (11, [.ref h1, .ref h2, .ref h3, .ref h4, .ref a1, .ref a2, .int 0])), (h1, .inr (8, [.int 0, .int np, .ref w1, .ref w2, .ref w3, .ref w4, .ref w5]))] H := hP
    have hD : va_D A [(h0, .inr (11, [.ref h1, .ref h2, .ref h3, .ref h4, .ref a1, .ref a2, .int 0])), (h1, .inr (8, [.int 0, .int np, .ref w1, .ref w2, .ref w3, .ref w4, .ref w5]))] := hD
    have hpx : E = "java/lang/IndexOutOfBoundsException" ∧ (p0 < 0 ∨ 0 ≤ p0) := hpx
    exact y_out hout hlocks g1 g2 g3 hpx.1 (hP.sub [] rfl) (hD.sub [] (by decide) rfl) hS (Nat.le_of_ble_eq_true rfl) (Nat.le_of_ble_eq_true rfl)
  · have hP : va_P D vwCl [(h0, .inr (11, [.ref h1, .ref h2, .ref h3, .ref h4, .ref a1, .ref a2, .int 0])), (h1, .inr (8, [.int 0, .int np, .ref w1, .ref w2, .ref w3, .ref w4, .ref w5]))] H := hP
    have hD : va_D A [(h0, .inr (11, [.ref h1, .ref h2, .ref h3, .ref h4, .ref a1, .ref a2, .int 0])), (h1, .inr (8, [.int 0, .int np, .ref w1, .ref w2, .ref w3, .ref w4, .ref w5]))] := hD
    have hw : 0 ≤ p0 ∧ p0 < 0 := hw
    exact (y_no hw.1 hw.2).elim

set_option maxHeartbeats 4000000 in
set_option maxRecDepth 100000 in
theorem f_setRank (l : Launch) (hfl : l.stackTraces = false) (D : va_G) (tE : Nat) (sz : Nat) (h0 : Nat) (h1 : Nat) (h2 : Nat) (h3 : Nat) (h4 : Nat) (a1 : Nat) (a2 : Nat) (w1 : Nat) (w2 : Nat) (w3 : Nat) (w4 : Nat) (w5 : Nat) (np : Int32) (p0 : Int32) (p1 : Int32) (p2 : Int32) (A : Nat → Prop) (hA0 : A = va_A [(h0, .inr (11, [.ref h1, .ref h2, .ref h3, .ref h4, .ref a1, .ref a2, .int 0])), (h1, .inr (8, [.int 0, .int np, .ref w1, .ref w2, .ref w3, .ref w4, .ref w5]))] sz) : vx_Met l yX5_setRank wsX5_setRank (yR 1 1 6) (yP D tE [(h0, .inr (11, [.ref h1, .ref h2, .ref h3, .ref h4, .ref a1, .ref a2, .int 0])), (h1, .inr (8, [.int 0, .int np, .ref w1, .ref w2, .ref w3, .ref w4, .ref w5]))] [] sz [.ref h0, .int p0, .int p1, .int p2]) (va_Qi (S := Unit) (fun (r : Int32) (u : Unit) => False) (fun (u : Unit) (t : State) => yB D A ((fun (u : Unit) => [(h0, .inr (11, [.ref h1, .ref h2, .ref h3, .ref h4, .ref a1, .ref a2, .int 0])), (h1, .inr (8, [.int 0, .int np, .ref w1, .ref w2, .ref w3, .ref w4, .ref w5]))]) u) t) A) (vx_X (S := Unit) (fun _ => True) (fun E _ t => (fun (E : String) => E = "java/lang/IndexOutOfBoundsException") E ∧ yB D A [] t) A) 1 6 A := by
  refine vx_ofW (cc := cX5_setRank) (maxL := 5) (ret := (some .int)) (by decide) rfl ?_
  intro p e s m args below meth c s₁ B hml hout hv
  obtain ⟨rfl, rfl, hP, hK, hD, hE, hA⟩ := y_start hA0 hv
  have hx := B.exec
  have hb := B.bytes
  have hr := B.returns
  have hts := atoms_spec (ws := wsX5_setRank) B.pre
  have hown : s.vm.findClass RX5 = some m.cls := findClass_of_methodNamed B.named
  have hlocks := B.notSynchronized
  clear hA0 hv
  have hS : va_S A s.heap s.heap [] := va_S.rf
  have hl := lv_entry ([.ref h0, .int p0, .int p1, .int p2]) (n := 5) (Nat.le_of_ble_eq_true rfl)
  rw [lg_entry_eq]
  generalize (lg_sl ([.ref h0, .int p0, .int p1, .int p2]) ++ List.replicate (5 - (lg_sl ([.ref h0, .int p0, .int p1, .int p2])).length) Slot.unset).toArray = ls at hl ⊢
  have hl : lv_has ls 5 [(0, .ref h0), (1, .int p0), (2, .int p1), (3, .int p2)] := hl
  refine lv_aload_n hx hb dX5_setRank_0 rfl (lv_at hl 0 rfl) ?_
  refine lv_iload_n hx hb dX5_setRank_1 rfl (lv_at hl 1 rfl) ?_
  refine yx_v (wc := [(h0, .inr (11, [.ref h1, .ref h2, .ref h3, .ref h4, .ref a1, .ref a2, .int 0])), (h1, .inr (8, [.int 0, .int np, .ref w1, .ref w2, .ref w3, .ref w4, .ref w5]))]) (wr := []) (vx_runV (As := [.int p0]) (rest := []) ⟨hx, hb, hml, hown, hts⟩ (c_requireApplicant l hfl D tE s.heap.size h0 h1 h2 h3 h4 a1 a2 w1 w2 w3 w4 w5 0 0 np p0 (va_A [(h0, .inr (11, [.ref h1, .ref h2, .ref h3, .ref h4, .ref a1, .ref a2, .int 0])), (h1, .inr (8, [.int 0, .int np, .ref w1, .ref w2, .ref w3, .ref w4, .ref w5]))] s.heap.size) rfl) (cwV 1 hts gX5_setRank_X5_requireApplicant rfl rfl rfl (by decide +kernel) ⟨Nat.le_of_ble_eq_true rfl, Nat.le_of_ble_eq_true rfl⟩) (yPreV (wc := [(h0, .inr (11, [.ref h1, .ref h2, .ref h3, .ref h4, .ref a1, .ref a2, .int 0])), (h1, .inr (8, [.int 0, .int np, .ref w1, .ref w2, .ref w3, .ref w4, .ref w5]))]) (tc := []) hK hP hD hS hA hE [0, 1] [] (by decide) rfl rfl (ci := 11) (q0 := 0) (q := (RX5, TX5, 7)) rfl rfl) rfl rfl hl.1 rfl (lv_room (Nat.le_of_ble_eq_true rfl)) dX5_setRank_2 ⟨Nat.le_of_ble_eq_true rfl, Nat.le_of_ble_eq_true rfl⟩) hP hD hS hA [0, 1] [] rfl rfl (by decide) (by decide) (fun E ce q9 H locs hpx hP hD hS g1 g2 g3 => ?_) (fun u_2 H locs hw hP hD hS => ?_)
  · have hP : va_P D vwCl [(h0, .inr (11, [.ref h1, .ref h2, .ref h3, .ref h4, .ref a1, .ref a2, .int 0])), (h1, .inr (8, [.int 0, .int np, .ref w1, .ref w2, .ref w3, .ref w4, .ref w5]))] H := hP
    have hD : va_D A [(h0, .inr (11, [.ref h1, .ref h2, .ref h3, .ref h4, .ref a1, .ref a2, .int 0])), (h1, .inr (8, [.int 0, .int np, .ref w1, .ref w2, .ref w3, .ref w4, .ref w5]))] := hD
    have hpx : E = "java/lang/IndexOutOfBoundsException" ∧ (p0 < 0 ∨ 0 ≤ p0) := hpx
    exact y_out hout hlocks g1 g2 g3 hpx.1 (hP.sub [] rfl) (hD.sub [] (by decide) rfl) hS (Nat.le_of_ble_eq_true rfl) (Nat.le_of_ble_eq_true rfl)
  · have hP : va_P D vwCl [(h0, .inr (11, [.ref h1, .ref h2, .ref h3, .ref h4, .ref a1, .ref a2, .int 0])), (h1, .inr (8, [.int 0, .int np, .ref w1, .ref w2, .ref w3, .ref w4, .ref w5]))] H := hP
    have hD : va_D A [(h0, .inr (11, [.ref h1, .ref h2, .ref h3, .ref h4, .ref a1, .ref a2, .int 0])), (h1, .inr (8, [.int 0, .int np, .ref w1, .ref w2, .ref w3, .ref w4, .ref w5]))] := hD
    have hw : 0 ≤ p0 ∧ p0 < 0 := hw
    exact (y_no hw.1 hw.2).elim

set_option maxHeartbeats 4000000 in
set_option maxRecDepth 100000 in
theorem f_rankOf (l : Launch) (hfl : l.stackTraces = false) (D : va_G) (tE : Nat) (sz : Nat) (h0 : Nat) (h1 : Nat) (h2 : Nat) (h3 : Nat) (h4 : Nat) (a1 : Nat) (a2 : Nat) (w1 : Nat) (w2 : Nat) (w3 : Nat) (w4 : Nat) (w5 : Nat) (np : Int32) (p0 : Int32) (p1 : Int32) (A : Nat → Prop) (hA0 : A = va_A [(h0, .inr (11, [.ref h1, .ref h2, .ref h3, .ref h4, .ref a1, .ref a2, .int 0])), (h1, .inr (8, [.int 0, .int np, .ref w1, .ref w2, .ref w3, .ref w4, .ref w5]))] sz) : vx_Met l yX5_rankOf wsX5_rankOf (yR 1 1 6) (yP D tE [(h0, .inr (11, [.ref h1, .ref h2, .ref h3, .ref h4, .ref a1, .ref a2, .int 0])), (h1, .inr (8, [.int 0, .int np, .ref w1, .ref w2, .ref w3, .ref w4, .ref w5]))] [] sz [.ref h0, .int p0, .int p1]) (va_Qi (S := Unit) (fun (r : Int32) (u : Unit) => False) (fun (u : Unit) (t : State) => yB D A ((fun (u : Unit) => [(h0, .inr (11, [.ref h1, .ref h2, .ref h3, .ref h4, .ref a1, .ref a2, .int 0])), (h1, .inr (8, [.int 0, .int np, .ref w1, .ref w2, .ref w3, .ref w4, .ref w5]))]) u) t) A) (vx_X (S := Unit) (fun _ => True) (fun E _ t => (fun (E : String) => E = "java/lang/IndexOutOfBoundsException") E ∧ yB D A [] t) A) 1 6 A := by
  refine vx_ofW (cc := cX5_rankOf) (maxL := 3) (ret := (some .int)) (by decide) rfl ?_
  intro p e s m args below meth c s₁ B hml hout hv
  obtain ⟨rfl, rfl, hP, hK, hD, hE, hA⟩ := y_start hA0 hv
  have hx := B.exec
  have hb := B.bytes
  have hr := B.returns
  have hts := atoms_spec (ws := wsX5_rankOf) B.pre
  have hown : s.vm.findClass RX5 = some m.cls := findClass_of_methodNamed B.named
  have hlocks := B.notSynchronized
  clear hA0 hv
  have hS : va_S A s.heap s.heap [] := va_S.rf
  have hl := lv_entry ([.ref h0, .int p0, .int p1]) (n := 3) (Nat.le_of_ble_eq_true rfl)
  rw [lg_entry_eq]
  generalize (lg_sl ([.ref h0, .int p0, .int p1]) ++ List.replicate (3 - (lg_sl ([.ref h0, .int p0, .int p1])).length) Slot.unset).toArray = ls at hl ⊢
  have hl : lv_has ls 3 [(0, .ref h0), (1, .int p0), (2, .int p1)] := hl
  refine lv_aload_n hx hb dX5_rankOf_0 rfl (lv_at hl 0 rfl) ?_
  refine lv_iload_n hx hb dX5_rankOf_1 rfl (lv_at hl 1 rfl) ?_
  refine yx_v (wc := [(h0, .inr (11, [.ref h1, .ref h2, .ref h3, .ref h4, .ref a1, .ref a2, .int 0])), (h1, .inr (8, [.int 0, .int np, .ref w1, .ref w2, .ref w3, .ref w4, .ref w5]))]) (wr := []) (vx_runV (As := [.int p0]) (rest := []) ⟨hx, hb, hml, hown, hts⟩ (c_requireApplicant l hfl D tE s.heap.size h0 h1 h2 h3 h4 a1 a2 w1 w2 w3 w4 w5 0 0 np p0 (va_A [(h0, .inr (11, [.ref h1, .ref h2, .ref h3, .ref h4, .ref a1, .ref a2, .int 0])), (h1, .inr (8, [.int 0, .int np, .ref w1, .ref w2, .ref w3, .ref w4, .ref w5]))] s.heap.size) rfl) (cwV 1 hts gX5_rankOf_X5_requireApplicant rfl rfl rfl (by decide +kernel) ⟨Nat.le_of_ble_eq_true rfl, Nat.le_of_ble_eq_true rfl⟩) (yPreV (wc := [(h0, .inr (11, [.ref h1, .ref h2, .ref h3, .ref h4, .ref a1, .ref a2, .int 0])), (h1, .inr (8, [.int 0, .int np, .ref w1, .ref w2, .ref w3, .ref w4, .ref w5]))]) (tc := []) hK hP hD hS hA hE [0, 1] [] (by decide) rfl rfl (ci := 11) (q0 := 0) (q := (RX5, TX5, 7)) rfl rfl) rfl rfl hl.1 rfl (lv_room (Nat.le_of_ble_eq_true rfl)) dX5_rankOf_2 ⟨Nat.le_of_ble_eq_true rfl, Nat.le_of_ble_eq_true rfl⟩) hP hD hS hA [0, 1] [] rfl rfl (by decide) (by decide) (fun E ce q9 H locs hpx hP hD hS g1 g2 g3 => ?_) (fun u_2 H locs hw hP hD hS => ?_)
  · have hP : va_P D vwCl [(h0, .inr (11, [.ref h1, .ref h2, .ref h3, .ref h4, .ref a1, .ref a2, .int 0])), (h1, .inr (8, [.int 0, .int np, .ref w1, .ref w2, .ref w3, .ref w4, .ref w5]))] H := hP
    have hD : va_D A [(h0, .inr (11, [.ref h1, .ref h2, .ref h3, .ref h4, .ref a1, .ref a2, .int 0])), (h1, .inr (8, [.int 0, .int np, .ref w1, .ref w2, .ref w3, .ref w4, .ref w5]))] := hD
    have hpx : E = "java/lang/IndexOutOfBoundsException" ∧ (p0 < 0 ∨ 0 ≤ p0) := hpx
    exact y_out hout hlocks g1 g2 g3 hpx.1 (hP.sub [] rfl) (hD.sub [] (by decide) rfl) hS (Nat.le_of_ble_eq_true rfl) (Nat.le_of_ble_eq_true rfl)
  · have hP : va_P D vwCl [(h0, .inr (11, [.ref h1, .ref h2, .ref h3, .ref h4, .ref a1, .ref a2, .int 0])), (h1, .inr (8, [.int 0, .int np, .ref w1, .ref w2, .ref w3, .ref w4, .ref w5]))] H := hP
    have hD : va_D A [(h0, .inr (11, [.ref h1, .ref h2, .ref h3, .ref h4, .ref a1, .ref a2, .int 0])), (h1, .inr (8, [.int 0, .int np, .ref w1, .ref w2, .ref w3, .ref w4, .ref w5]))] := hD
    have hw : 0 ≤ p0 ∧ p0 < 0 := hw
    exact (y_no hw.1 hw.2).elim

set_option maxHeartbeats 4000000 in
set_option maxRecDepth 100000 in
theorem f_tell (l : Launch) (hfl : l.stackTraces = false) (D : va_G) (tE : Nat) (sz : Nat) (h0 : Nat) (h1 : Nat) (h2 : Nat) (h3 : Nat) (h4 : Nat) (a1 : Nat) (a2 : Nat) (w1 : Nat) (w2 : Nat) (w3 : Nat) (w4 : Nat) (w5 : Nat) (np : Int32) (p0 : Int32) (A : Nat → Prop) (hA0 : A = va_A [(h0, .inr (11, [.ref h1, .ref h2, .ref h3, .ref h4, .ref a1, .ref a2, .int 0])), (h1, .inr (8, [.int 0, .int np, .ref w1, .ref w2, .ref w3, .ref w4, .ref w5]))] sz) : vx_Met l yX5_tell wsX5_tell (yR 1 1 6) (yP D tE [(h0, .inr (11, [.ref h1, .ref h2, .ref h3, .ref h4, .ref a1, .ref a2, .int 0])), (h1, .inr (8, [.int 0, .int np, .ref w1, .ref w2, .ref w3, .ref w4, .ref w5]))] [] sz [.ref h0, .int p0]) (va_Qi (S := Unit) (fun (r : Int32) (u : Unit) => False) (fun (u : Unit) (t : State) => yB D A ((fun (u : Unit) => [(h0, .inr (11, [.ref h1, .ref h2, .ref h3, .ref h4, .ref a1, .ref a2, .int 0])), (h1, .inr (8, [.int 0, .int np, .ref w1, .ref w2, .ref w3, .ref w4, .ref w5]))]) u) t) A) (vx_X (S := Unit) (fun _ => True) (fun E _ t => (fun (E : String) => E = "java/lang/IndexOutOfBoundsException") E ∧ yB D A [] t) A) 1 6 A := by
  refine vx_ofW (cc := cX5_tell) (maxL := 4) (ret := (some .int)) (by decide) rfl ?_
  intro p e s m args below meth c s₁ B hml hout hv
  obtain ⟨rfl, rfl, hP, hK, hD, hE, hA⟩ := y_start hA0 hv
  have hx := B.exec
  have hb := B.bytes
  have hr := B.returns
  have hts := atoms_spec (ws := wsX5_tell) B.pre
  have hown : s.vm.findClass RX5 = some m.cls := findClass_of_methodNamed B.named
  have hlocks := B.notSynchronized
  clear hA0 hv
  have hS : va_S A s.heap s.heap [] := va_S.rf
  have hl := lv_entry ([.ref h0, .int p0]) (n := 4) (Nat.le_of_ble_eq_true rfl)
  rw [lg_entry_eq]
  generalize (lg_sl ([.ref h0, .int p0]) ++ List.replicate (4 - (lg_sl ([.ref h0, .int p0])).length) Slot.unset).toArray = ls at hl ⊢
  have hl : lv_has ls 4 [(0, .ref h0), (1, .int p0)] := hl
  refine lv_aload_n hx hb dX5_tell_0 rfl (lv_at hl 0 rfl) ?_
  refine lv_iload_n hx hb dX5_tell_1 rfl (lv_at hl 1 rfl) ?_
  refine yx_v (wc := [(h0, .inr (11, [.ref h1, .ref h2, .ref h3, .ref h4, .ref a1, .ref a2, .int 0])), (h1, .inr (8, [.int 0, .int np, .ref w1, .ref w2, .ref w3, .ref w4, .ref w5]))]) (wr := []) (vx_runV (As := [.int p0]) (rest := []) ⟨hx, hb, hml, hown, hts⟩ (c_requireApplicant l hfl D tE s.heap.size h0 h1 h2 h3 h4 a1 a2 w1 w2 w3 w4 w5 0 0 np p0 (va_A [(h0, .inr (11, [.ref h1, .ref h2, .ref h3, .ref h4, .ref a1, .ref a2, .int 0])), (h1, .inr (8, [.int 0, .int np, .ref w1, .ref w2, .ref w3, .ref w4, .ref w5]))] s.heap.size) rfl) (cwV 1 hts gX5_tell_X5_requireApplicant rfl rfl rfl (by decide +kernel) ⟨Nat.le_of_ble_eq_true rfl, Nat.le_of_ble_eq_true rfl⟩) (yPreV (wc := [(h0, .inr (11, [.ref h1, .ref h2, .ref h3, .ref h4, .ref a1, .ref a2, .int 0])), (h1, .inr (8, [.int 0, .int np, .ref w1, .ref w2, .ref w3, .ref w4, .ref w5]))]) (tc := []) hK hP hD hS hA hE [0, 1] [] (by decide) rfl rfl (ci := 11) (q0 := 0) (q := (RX5, TX5, 7)) rfl rfl) rfl rfl hl.1 rfl (lv_room (Nat.le_of_ble_eq_true rfl)) dX5_tell_2 ⟨Nat.le_of_ble_eq_true rfl, Nat.le_of_ble_eq_true rfl⟩) hP hD hS hA [0, 1] [] rfl rfl (by decide) (by decide) (fun E ce q9 H locs hpx hP hD hS g1 g2 g3 => ?_) (fun u_2 H locs hw hP hD hS => ?_)
  · have hP : va_P D vwCl [(h0, .inr (11, [.ref h1, .ref h2, .ref h3, .ref h4, .ref a1, .ref a2, .int 0])), (h1, .inr (8, [.int 0, .int np, .ref w1, .ref w2, .ref w3, .ref w4, .ref w5]))] H := hP
    have hD : va_D A [(h0, .inr (11, [.ref h1, .ref h2, .ref h3, .ref h4, .ref a1, .ref a2, .int 0])), (h1, .inr (8, [.int 0, .int np, .ref w1, .ref w2, .ref w3, .ref w4, .ref w5]))] := hD
    have hpx : E = "java/lang/IndexOutOfBoundsException" ∧ (p0 < 0 ∨ 0 ≤ p0) := hpx
    exact y_out hout hlocks g1 g2 g3 hpx.1 (hP.sub [] rfl) (hD.sub [] (by decide) rfl) hS (Nat.le_of_ble_eq_true rfl) (Nat.le_of_ble_eq_true rfl)
  · have hP : va_P D vwCl [(h0, .inr (11, [.ref h1, .ref h2, .ref h3, .ref h4, .ref a1, .ref a2, .int 0])), (h1, .inr (8, [.int 0, .int np, .ref w1, .ref w2, .ref w3, .ref w4, .ref w5]))] H := hP
    have hD : va_D A [(h0, .inr (11, [.ref h1, .ref h2, .ref h3, .ref h4, .ref a1, .ref a2, .int 0])), (h1, .inr (8, [.int 0, .int np, .ref w1, .ref w2, .ref w3, .ref w4, .ref w5]))] := hD
    have hw : 0 ≤ p0 ∧ p0 < 0 := hw
    exact (y_no hw.1 hw.2).elim

set_option maxHeartbeats 4000000 in
set_option maxRecDepth 100000 in
theorem f_textLength (l : Launch) (hfl : l.stackTraces = false) (D : va_G) (tE : Nat) (sz : Nat) (h0 : Nat) (h1 : Nat) (h2 : Nat) (h3 : Nat) (h4 : Nat) (a1 : Nat) (a2 : Nat) (w1 : Nat) (w2 : Nat) (w3 : Nat) (w4 : Nat) (w5 : Nat) (np : Int32) (p0 : Int32) (A : Nat → Prop) (hA0 : A = va_A [(h0, .inr (11, [.ref h1, .ref h2, .ref h3, .ref h4, .ref a1, .ref a2, .int 0])), (h1, .inr (8, [.int 0, .int np, .ref w1, .ref w2, .ref w3, .ref w4, .ref w5]))] sz) : vx_Met l yX5_textLength wsX5_textLength (yR 1 1 6) (yP D tE [(h0, .inr (11, [.ref h1, .ref h2, .ref h3, .ref h4, .ref a1, .ref a2, .int 0])), (h1, .inr (8, [.int 0, .int np, .ref w1, .ref w2, .ref w3, .ref w4, .ref w5]))] [] sz [.ref h0, .int p0]) (va_Qi (S := Unit) (fun (r : Int32) (u : Unit) => False) (fun (u : Unit) (t : State) => yB D A ((fun (u : Unit) => [(h0, .inr (11, [.ref h1, .ref h2, .ref h3, .ref h4, .ref a1, .ref a2, .int 0])), (h1, .inr (8, [.int 0, .int np, .ref w1, .ref w2, .ref w3, .ref w4, .ref w5]))]) u) t) A) (vx_X (S := Unit) (fun _ => True) (fun E _ t => (fun (E : String) => E = "java/lang/IndexOutOfBoundsException") E ∧ yB D A [] t) A) 1 6 A := by
  refine vx_ofW (cc := cX5_textLength) (maxL := 2) (ret := (some .int)) (by decide) rfl ?_
  intro p e s m args below meth c s₁ B hml hout hv
  obtain ⟨rfl, rfl, hP, hK, hD, hE, hA⟩ := y_start hA0 hv
  have hx := B.exec
  have hb := B.bytes
  have hr := B.returns
  have hts := atoms_spec (ws := wsX5_textLength) B.pre
  have hown : s.vm.findClass RX5 = some m.cls := findClass_of_methodNamed B.named
  have hlocks := B.notSynchronized
  clear hA0 hv
  have hS : va_S A s.heap s.heap [] := va_S.rf
  have hl := lv_entry ([.ref h0, .int p0]) (n := 2) (Nat.le_of_ble_eq_true rfl)
  rw [lg_entry_eq]
  generalize (lg_sl ([.ref h0, .int p0]) ++ List.replicate (2 - (lg_sl ([.ref h0, .int p0])).length) Slot.unset).toArray = ls at hl ⊢
  have hl : lv_has ls 2 [(0, .ref h0), (1, .int p0)] := hl
  refine lv_aload_n hx hb dX5_textLength_0 rfl (lv_at hl 0 rfl) ?_
  refine lv_iload_n hx hb dX5_textLength_1 rfl (lv_at hl 1 rfl) ?_
  refine yx_v (wc := [(h0, .inr (11, [.ref h1, .ref h2, .ref h3, .ref h4, .ref a1, .ref a2, .int 0])), (h1, .inr (8, [.int 0, .int np, .ref w1, .ref w2, .ref w3, .ref w4, .ref w5]))]) (wr := []) (vx_runV (As := [.int p0]) (rest := []) ⟨hx, hb, hml, hown, hts⟩ (c_requireApplicant l hfl D tE s.heap.size h0 h1 h2 h3 h4 a1 a2 w1 w2 w3 w4 w5 0 0 np p0 (va_A [(h0, .inr (11, [.ref h1, .ref h2, .ref h3, .ref h4, .ref a1, .ref a2, .int 0])), (h1, .inr (8, [.int 0, .int np, .ref w1, .ref w2, .ref w3, .ref w4, .ref w5]))] s.heap.size) rfl) (cwV 1 hts gX5_textLength_X5_requireApplicant rfl rfl rfl (by decide +kernel) ⟨Nat.le_of_ble_eq_true rfl, Nat.le_of_ble_eq_true rfl⟩) (yPreV (wc := [(h0, .inr (11, [.ref h1, .ref h2, .ref h3, .ref h4, .ref a1, .ref a2, .int 0])), (h1, .inr (8, [.int 0, .int np, .ref w1, .ref w2, .ref w3, .ref w4, .ref w5]))]) (tc := []) hK hP hD hS hA hE [0, 1] [] (by decide) rfl rfl (ci := 11) (q0 := 0) (q := (RX5, TX5, 7)) rfl rfl) rfl rfl hl.1 rfl (lv_room (Nat.le_of_ble_eq_true rfl)) dX5_textLength_2 ⟨Nat.le_of_ble_eq_true rfl, Nat.le_of_ble_eq_true rfl⟩) hP hD hS hA [0, 1] [] rfl rfl (by decide) (by decide) (fun E ce q9 H locs hpx hP hD hS g1 g2 g3 => ?_) (fun u_2 H locs hw hP hD hS => ?_)
  · have hP : va_P D vwCl [(h0, .inr (11, [.ref h1, .ref h2, .ref h3, .ref h4, .ref a1, .ref a2, .int 0])), (h1, .inr (8, [.int 0, .int np, .ref w1, .ref w2, .ref w3, .ref w4, .ref w5]))] H := hP
    have hD : va_D A [(h0, .inr (11, [.ref h1, .ref h2, .ref h3, .ref h4, .ref a1, .ref a2, .int 0])), (h1, .inr (8, [.int 0, .int np, .ref w1, .ref w2, .ref w3, .ref w4, .ref w5]))] := hD
    have hpx : E = "java/lang/IndexOutOfBoundsException" ∧ (p0 < 0 ∨ 0 ≤ p0) := hpx
    exact y_out hout hlocks g1 g2 g3 hpx.1 (hP.sub [] rfl) (hD.sub [] (by decide) rfl) hS (Nat.le_of_ble_eq_true rfl) (Nat.le_of_ble_eq_true rfl)
  · have hP : va_P D vwCl [(h0, .inr (11, [.ref h1, .ref h2, .ref h3, .ref h4, .ref a1, .ref a2, .int 0])), (h1, .inr (8, [.int 0, .int np, .ref w1, .ref w2, .ref w3, .ref w4, .ref w5]))] H := hP
    have hD : va_D A [(h0, .inr (11, [.ref h1, .ref h2, .ref h3, .ref h4, .ref a1, .ref a2, .int 0])), (h1, .inr (8, [.int 0, .int np, .ref w1, .ref w2, .ref w3, .ref w4, .ref w5]))] := hD
    have hw : 0 ≤ p0 ∧ p0 < 0 := hw
    exact (y_no hw.1 hw.2).elim

set_option maxHeartbeats 4000000 in
set_option maxRecDepth 100000 in
theorem f_textAt (l : Launch) (hfl : l.stackTraces = false) (D : va_G) (tE : Nat) (sz : Nat) (h0 : Nat) (h1 : Nat) (h2 : Nat) (h3 : Nat) (h4 : Nat) (a1 : Nat) (a2 : Nat) (w1 : Nat) (w2 : Nat) (w3 : Nat) (w4 : Nat) (w5 : Nat) (np : Int32) (p0 : Int32) (p1 : Int32) (A : Nat → Prop) (hA0 : A = va_A [(h0, .inr (11, [.ref h1, .ref h2, .ref h3, .ref h4, .ref a1, .ref a2, .int 0])), (h1, .inr (8, [.int 0, .int np, .ref w1, .ref w2, .ref w3, .ref w4, .ref w5]))] sz) : vx_Met l yX5_textAt wsX5_textAt (yR 1 1 6) (yP D tE [(h0, .inr (11, [.ref h1, .ref h2, .ref h3, .ref h4, .ref a1, .ref a2, .int 0])), (h1, .inr (8, [.int 0, .int np, .ref w1, .ref w2, .ref w3, .ref w4, .ref w5]))] [] sz [.ref h0, .int p0, .int p1]) (va_Qi (S := Unit) (fun (r : Int32) (u : Unit) => False) (fun (u : Unit) (t : State) => yB D A ((fun (u : Unit) => [(h0, .inr (11, [.ref h1, .ref h2, .ref h3, .ref h4, .ref a1, .ref a2, .int 0])), (h1, .inr (8, [.int 0, .int np, .ref w1, .ref w2, .ref w3, .ref w4, .ref w5]))]) u) t) A) (vx_X (S := Unit) (fun _ => True) (fun E _ t => (fun (E : String) => E = "java/lang/IndexOutOfBoundsException") E ∧ yB D A [] t) A) 1 6 A := by
  refine vx_ofW (cc := cX5_textAt) (maxL := 3) (ret := (some .char)) (by decide) rfl ?_
  intro p e s m args below meth c s₁ B hml hout hv
  obtain ⟨rfl, rfl, hP, hK, hD, hE, hA⟩ := y_start hA0 hv
  have hx := B.exec
  have hb := B.bytes
  have hr := B.returns
  have hts := atoms_spec (ws := wsX5_textAt) B.pre
  have hown : s.vm.findClass RX5 = some m.cls := findClass_of_methodNamed B.named
  have hlocks := B.notSynchronized
  clear hA0 hv
  have hS : va_S A s.heap s.heap [] := va_S.rf
  have hl := lv_entry ([.ref h0, .int p0, .int p1]) (n := 3) (Nat.le_of_ble_eq_true rfl)
  rw [lg_entry_eq]
  generalize (lg_sl ([.ref h0, .int p0, .int p1]) ++ List.replicate (3 - (lg_sl ([.ref h0, .int p0, .int p1])).length) Slot.unset).toArray = ls at hl ⊢
  have hl : lv_has ls 3 [(0, .ref h0), (1, .int p0), (2, .int p1)] := hl
  refine lv_aload_n hx hb dX5_textAt_0 rfl (lv_at hl 0 rfl) ?_
  refine lv_iload_n hx hb dX5_textAt_1 rfl (lv_at hl 1 rfl) ?_
  refine yx_v (wc := [(h0, .inr (11, [.ref h1, .ref h2, .ref h3, .ref h4, .ref a1, .ref a2, .int 0])), (h1, .inr (8, [.int 0, .int np, .ref w1, .ref w2, .ref w3, .ref w4, .ref w5]))]) (wr := []) (vx_runV (As := [.int p0]) (rest := []) ⟨hx, hb, hml, hown, hts⟩ (c_requireApplicant l hfl D tE s.heap.size h0 h1 h2 h3 h4 a1 a2 w1 w2 w3 w4 w5 0 0 np p0 (va_A [(h0, .inr (11, [.ref h1, .ref h2, .ref h3, .ref h4, .ref a1, .ref a2, .int 0])), (h1, .inr (8, [.int 0, .int np, .ref w1, .ref w2, .ref w3, .ref w4, .ref w5]))] s.heap.size) rfl) (cwV 1 hts gX5_textAt_X5_requireApplicant rfl rfl rfl (by decide +kernel) ⟨Nat.le_of_ble_eq_true rfl, Nat.le_of_ble_eq_true rfl⟩) (yPreV (wc := [(h0, .inr (11, [.ref h1, .ref h2, .ref h3, .ref h4, .ref a1, .ref a2, .int 0])), (h1, .inr (8, [.int 0, .int np, .ref w1, .ref w2, .ref w3, .ref w4, .ref w5]))]) (tc := []) hK hP hD hS hA hE [0, 1] [] (by decide) rfl rfl (ci := 11) (q0 := 0) (q := (RX5, TX5, 7)) rfl rfl) rfl rfl hl.1 rfl (lv_room (Nat.le_of_ble_eq_true rfl)) dX5_textAt_2 ⟨Nat.le_of_ble_eq_true rfl, Nat.le_of_ble_eq_true rfl⟩) hP hD hS hA [0, 1] [] rfl rfl (by decide) (by decide) (fun E ce q9 H locs hpx hP hD hS g1 g2 g3 => ?_) (fun u_2 H locs hw hP hD hS => ?_)
  · have hP : va_P D vwCl [(h0, .inr (11, [.ref h1, .ref h2, .ref h3, .ref h4, .ref a1, .ref a2, .int 0])), (h1, .inr (8, [.int 0, .int np, .ref w1, .ref w2, .ref w3, .ref w4, .ref w5]))] H := hP
    have hD : va_D A [(h0, .inr (11, [.ref h1, .ref h2, .ref h3, .ref h4, .ref a1, .ref a2, .int 0])), (h1, .inr (8, [.int 0, .int np, .ref w1, .ref w2, .ref w3, .ref w4, .ref w5]))] := hD
    have hpx : E = "java/lang/IndexOutOfBoundsException" ∧ (p0 < 0 ∨ 0 ≤ p0) := hpx
    exact y_out hout hlocks g1 g2 g3 hpx.1 (hP.sub [] rfl) (hD.sub [] (by decide) rfl) hS (Nat.le_of_ble_eq_true rfl) (Nat.le_of_ble_eq_true rfl)
  · have hP : va_P D vwCl [(h0, .inr (11, [.ref h1, .ref h2, .ref h3, .ref h4, .ref a1, .ref a2, .int 0])), (h1, .inr (8, [.int 0, .int np, .ref w1, .ref w2, .ref w3, .ref w4, .ref w5]))] H := hP
    have hD : va_D A [(h0, .inr (11, [.ref h1, .ref h2, .ref h3, .ref h4, .ref a1, .ref a2, .int 0])), (h1, .inr (8, [.int 0, .int np, .ref w1, .ref w2, .ref w3, .ref w4, .ref w5]))] := hD
    have hw : 0 ≤ p0 ∧ p0 < 0 := hw
    exact (y_no hw.1 hw.2).elim

set_option maxHeartbeats 4000000 in
set_option maxRecDepth 100000 in
theorem f_assign (l : Launch) (hfl : l.stackTraces = false) (D : va_G) (tE : Nat) (sz : Nat) (h0 : Nat) (h1 : Nat) (h2 : Nat) (h3 : Nat) (h4 : Nat) (a1 : Nat) (a2 : Nat) (w1 : Nat) (w2 : Nat) (w3 : Nat) (w4 : Nat) (w5 : Nat) (np : Int32) (p0 : Int32) (p1 : Int32) (A : Nat → Prop) (hA0 : A = va_A [(h0, .inr (11, [.ref h1, .ref h2, .ref h3, .ref h4, .ref a1, .ref a2, .int 0])), (h1, .inr (8, [.int 0, .int np, .ref w1, .ref w2, .ref w3, .ref w4, .ref w5]))] sz) : vx_Met l yX5_assign wsX5_assign (yR 1 1 6) (yP D tE [(h0, .inr (11, [.ref h1, .ref h2, .ref h3, .ref h4, .ref a1, .ref a2, .int 0])), (h1, .inr (8, [.int 0, .int np, .ref w1, .ref w2, .ref w3, .ref w4, .ref w5]))] [] sz [.ref h0, .int p0, .int p1]) (va_Qi (S := Unit) (fun (r : Int32) (u : Unit) => False) (fun (u : Unit) (t : State) => yB D A ((fun (u : Unit) => [(h0, .inr (11, [.ref h1, .ref h2, .ref h3, .ref h4, .ref a1, .ref a2, .int 0])), (h1, .inr (8, [.int 0, .int np, .ref w1, .ref w2, .ref w3, .ref w4, .ref w5]))]) u) t) A) (vx_X (S := Unit) (fun _ => True) (fun E _ t => (fun (E : String) => E = "java/lang/IndexOutOfBoundsException") E ∧ yB D A [] t) A) 1 6 A := by
  refine vx_ofW (cc := cX5_assign) (maxL := 4) (ret := (some .int)) (by decide) rfl ?_
  intro p e s m args below meth c s₁ B hml hout hv
  obtain ⟨rfl, rfl, hP, hK, hD, hE, hA⟩ := y_start hA0 hv
  have hx := B.exec
  have hb := B.bytes
  have hr := B.returns
  have hts := atoms_spec (ws := wsX5_assign) B.pre
  have hown : s.vm.findClass RX5 = some m.cls := findClass_of_methodNamed B.named
  have hlocks := B.notSynchronized
  clear hA0 hv
  have hS : va_S A s.heap s.heap [] := va_S.rf
  have hl := lv_entry ([.ref h0, .int p0, .int p1]) (n := 4) (Nat.le_of_ble_eq_true rfl)
  rw [lg_entry_eq]
  generalize (lg_sl ([.ref h0, .int p0, .int p1]) ++ List.replicate (4 - (lg_sl ([.ref h0, .int p0, .int p1])).length) Slot.unset).toArray = ls at hl ⊢
  have hl : lv_has ls 4 [(0, .ref h0), (1, .int p0), (2, .int p1)] := hl
  refine lv_aload_n hx hb dX5_assign_0 rfl (lv_at hl 0 rfl) ?_
  refine lv_iload_n hx hb dX5_assign_1 rfl (lv_at hl 1 rfl) ?_
  refine yx_v (wc := [(h0, .inr (11, [.ref h1, .ref h2, .ref h3, .ref h4, .ref a1, .ref a2, .int 0])), (h1, .inr (8, [.int 0, .int np, .ref w1, .ref w2, .ref w3, .ref w4, .ref w5]))]) (wr := []) (vx_runV (As := [.int p0]) (rest := []) ⟨hx, hb, hml, hown, hts⟩ (c_requireApplicant l hfl D tE s.heap.size h0 h1 h2 h3 h4 a1 a2 w1 w2 w3 w4 w5 0 0 np p0 (va_A [(h0, .inr (11, [.ref h1, .ref h2, .ref h3, .ref h4, .ref a1, .ref a2, .int 0])), (h1, .inr (8, [.int 0, .int np, .ref w1, .ref w2, .ref w3, .ref w4, .ref w5]))] s.heap.size) rfl) (cwV 1 hts gX5_assign_X5_requireApplicant rfl rfl rfl (by decide +kernel) ⟨Nat.le_of_ble_eq_true rfl, Nat.le_of_ble_eq_true rfl⟩) (yPreV (wc := [(h0, .inr (11, [.ref h1, .ref h2, .ref h3, .ref h4, .ref a1, .ref a2, .int 0])), (h1, .inr (8, [.int 0, .int np, .ref w1, .ref w2, .ref w3, .ref w4, .ref w5]))]) (tc := []) hK hP hD hS hA hE [0, 1] [] (by decide) rfl rfl (ci := 11) (q0 := 0) (q := (RX5, TX5, 7)) rfl rfl) rfl rfl hl.1 rfl (lv_room (Nat.le_of_ble_eq_true rfl)) dX5_assign_2 ⟨Nat.le_of_ble_eq_true rfl, Nat.le_of_ble_eq_true rfl⟩) hP hD hS hA [0, 1] [] rfl rfl (by decide) (by decide) (fun E ce q9 H locs hpx hP hD hS g1 g2 g3 => ?_) (fun u_2 H locs hw hP hD hS => ?_)
  · have hP : va_P D vwCl [(h0, .inr (11, [.ref h1, .ref h2, .ref h3, .ref h4, .ref a1, .ref a2, .int 0])), (h1, .inr (8, [.int 0, .int np, .ref w1, .ref w2, .ref w3, .ref w4, .ref w5]))] H := hP
    have hD : va_D A [(h0, .inr (11, [.ref h1, .ref h2, .ref h3, .ref h4, .ref a1, .ref a2, .int 0])), (h1, .inr (8, [.int 0, .int np, .ref w1, .ref w2, .ref w3, .ref w4, .ref w5]))] := hD
    have hpx : E = "java/lang/IndexOutOfBoundsException" ∧ (p0 < 0 ∨ 0 ≤ p0) := hpx
    exact y_out hout hlocks g1 g2 g3 hpx.1 (hP.sub [] rfl) (hD.sub [] (by decide) rfl) hS (Nat.le_of_ble_eq_true rfl) (Nat.le_of_ble_eq_true rfl)
  · have hP : va_P D vwCl [(h0, .inr (11, [.ref h1, .ref h2, .ref h3, .ref h4, .ref a1, .ref a2, .int 0])), (h1, .inr (8, [.int 0, .int np, .ref w1, .ref w2, .ref w3, .ref w4, .ref w5]))] H := hP
    have hD : va_D A [(h0, .inr (11, [.ref h1, .ref h2, .ref h3, .ref h4, .ref a1, .ref a2, .int 0])), (h1, .inr (8, [.int 0, .int np, .ref w1, .ref w2, .ref w3, .ref w4, .ref w5]))] := hD
    have hw : 0 ≤ p0 ∧ p0 < 0 := hw
    exact (y_no hw.1 hw.2).elim

set_option maxHeartbeats 4000000 in
set_option maxRecDepth 100000 in
theorem f_release (l : Launch) (hfl : l.stackTraces = false) (D : va_G) (tE : Nat) (sz : Nat) (h0 : Nat) (h1 : Nat) (h2 : Nat) (h3 : Nat) (h4 : Nat) (a1 : Nat) (a2 : Nat) (w1 : Nat) (w2 : Nat) (w3 : Nat) (w4 : Nat) (w5 : Nat) (np : Int32) (p0 : Int32) (A : Nat → Prop) (hA0 : A = va_A [(h0, .inr (11, [.ref h1, .ref h2, .ref h3, .ref h4, .ref a1, .ref a2, .int 0])), (h1, .inr (8, [.int 0, .int np, .ref w1, .ref w2, .ref w3, .ref w4, .ref w5]))] sz) : vx_Met l yX5_release wsX5_release (yR 1 1 6) (yP D tE [(h0, .inr (11, [.ref h1, .ref h2, .ref h3, .ref h4, .ref a1, .ref a2, .int 0])), (h1, .inr (8, [.int 0, .int np, .ref w1, .ref w2, .ref w3, .ref w4, .ref w5]))] [] sz [.ref h0, .int p0]) (va_Qi (S := Unit) (fun (r : Int32) (u : Unit) => False) (fun (u : Unit) (t : State) => yB D A ((fun (u : Unit) => [(h0, .inr (11, [.ref h1, .ref h2, .ref h3, .ref h4, .ref a1, .ref a2, .int 0])), (h1, .inr (8, [.int 0, .int np, .ref w1, .ref w2, .ref w3, .ref w4, .ref w5]))]) u) t) A) (vx_X (S := Unit) (fun _ => True) (fun E _ t => (fun (E : String) => E = "java/lang/IndexOutOfBoundsException") E ∧ yB D A [] t) A) 1 6 A := by
  refine vx_ofW (cc := cX5_release) (maxL := 3) (ret := (some .int)) (by decide) rfl ?_
  intro p e s m args below meth c s₁ B hml hout hv
  obtain ⟨rfl, rfl, hP, hK, hD, hE, hA⟩ := y_start hA0 hv
  have hx := B.exec
  have hb := B.bytes
  have hr := B.returns
  have hts := atoms_spec (ws := wsX5_release) B.pre
  have hown : s.vm.findClass RX5 = some m.cls := findClass_of_methodNamed B.named
  have hlocks := B.notSynchronized
  clear hA0 hv
  have hS : va_S A s.heap s.heap [] := va_S.rf
  have hl := lv_entry ([.ref h0, .int p0]) (n := 3) (Nat.le_of_ble_eq_true rfl)
  rw [lg_entry_eq]
  generalize (lg_sl ([.ref h0, .int p0]) ++ List.replicate (3 - (lg_sl ([.ref h0, .int p0])).length) Slot.unset).toArray = ls at hl ⊢
  have hl : lv_has ls 3 [(0, .ref h0), (1, .int p0)] := hl
  refine lv_aload_n hx hb dX5_release_0 rfl (lv_at hl 0 rfl) ?_
  refine lv_iload_n hx hb dX5_release_1 rfl (lv_at hl 1 rfl) ?_
  refine yx_v (wc := [(h0, .inr (11, [.ref h1, .ref h2, .ref h3, .ref h4, .ref a1, .ref a2, .int 0])), (h1, .inr (8, [.int 0, .int np, .ref w1, .ref w2, .ref w3, .ref w4, .ref w5]))]) (wr := []) (vx_runV (As := [.int p0]) (rest := []) ⟨hx, hb, hml, hown, hts⟩ (c_requireApplicant l hfl D tE s.heap.size h0 h1 h2 h3 h4 a1 a2 w1 w2 w3 w4 w5 0 0 np p0 (va_A [(h0, .inr (11, [.ref h1, .ref h2, .ref h3, .ref h4, .ref a1, .ref a2, .int 0])), (h1, .inr (8, [.int 0, .int np, .ref w1, .ref w2, .ref w3, .ref w4, .ref w5]))] s.heap.size) rfl) (cwV 1 hts gX5_release_X5_requireApplicant rfl rfl rfl (by decide +kernel) ⟨Nat.le_of_ble_eq_true rfl, Nat.le_of_ble_eq_true rfl⟩) (yPreV (wc := [(h0, .inr (11, [.ref h1, .ref h2, .ref h3, .ref h4, .ref a1, .ref a2, .int 0])), (h1, .inr (8, [.int 0, .int np, .ref w1, .ref w2, .ref w3, .ref w4, .ref w5]))]) (tc := []) hK hP hD hS hA hE [0, 1] [] (by decide) rfl rfl (ci := 11) (q0 := 0) (q := (RX5, TX5, 7)) rfl rfl) rfl rfl hl.1 rfl (lv_room (Nat.le_of_ble_eq_true rfl)) dX5_release_2 ⟨Nat.le_of_ble_eq_true rfl, Nat.le_of_ble_eq_true rfl⟩) hP hD hS hA [0, 1] [] rfl rfl (by decide) (by decide) (fun E ce q9 H locs hpx hP hD hS g1 g2 g3 => ?_) (fun u_2 H locs hw hP hD hS => ?_)
  · have hP : va_P D vwCl [(h0, .inr (11, [.ref h1, .ref h2, .ref h3, .ref h4, .ref a1, .ref a2, .int 0])), (h1, .inr (8, [.int 0, .int np, .ref w1, .ref w2, .ref w3, .ref w4, .ref w5]))] H := hP
    have hD : va_D A [(h0, .inr (11, [.ref h1, .ref h2, .ref h3, .ref h4, .ref a1, .ref a2, .int 0])), (h1, .inr (8, [.int 0, .int np, .ref w1, .ref w2, .ref w3, .ref w4, .ref w5]))] := hD
    have hpx : E = "java/lang/IndexOutOfBoundsException" ∧ (p0 < 0 ∨ 0 ≤ p0) := hpx
    exact y_out hout hlocks g1 g2 g3 hpx.1 (hP.sub [] rfl) (hD.sub [] (by decide) rfl) hS (Nat.le_of_ble_eq_true rfl) (Nat.le_of_ble_eq_true rfl)
  · have hP : va_P D vwCl [(h0, .inr (11, [.ref h1, .ref h2, .ref h3, .ref h4, .ref a1, .ref a2, .int 0])), (h1, .inr (8, [.int 0, .int np, .ref w1, .ref w2, .ref w3, .ref w4, .ref w5]))] H := hP
    have hD : va_D A [(h0, .inr (11, [.ref h1, .ref h2, .ref h3, .ref h4, .ref a1, .ref a2, .int 0])), (h1, .inr (8, [.int 0, .int np, .ref w1, .ref w2, .ref w3, .ref w4, .ref w5]))] := hD
    have hw : 0 ≤ p0 ∧ p0 < 0 := hw
    exact (y_no hw.1 hw.2).elim

set_option maxHeartbeats 4000000 in
set_option maxRecDepth 100000 in
theorem f_postOf (l : Launch) (hfl : l.stackTraces = false) (D : va_G) (tE : Nat) (sz : Nat) (h0 : Nat) (h1 : Nat) (h2 : Nat) (h3 : Nat) (h4 : Nat) (a1 : Nat) (a2 : Nat) (w1 : Nat) (w2 : Nat) (w3 : Nat) (w4 : Nat) (w5 : Nat) (np : Int32) (p0 : Int32) (A : Nat → Prop) (hA0 : A = va_A [(h0, .inr (11, [.ref h1, .ref h2, .ref h3, .ref h4, .ref a1, .ref a2, .int 0])), (h1, .inr (8, [.int 0, .int np, .ref w1, .ref w2, .ref w3, .ref w4, .ref w5]))] sz) : vx_Met l yX5_postOf wsX5_postOf (yR 1 1 6) (yP D tE [(h0, .inr (11, [.ref h1, .ref h2, .ref h3, .ref h4, .ref a1, .ref a2, .int 0])), (h1, .inr (8, [.int 0, .int np, .ref w1, .ref w2, .ref w3, .ref w4, .ref w5]))] [] sz [.ref h0, .int p0]) (va_Qi (S := Unit) (fun (r : Int32) (u : Unit) => False) (fun (u : Unit) (t : State) => yB D A ((fun (u : Unit) => [(h0, .inr (11, [.ref h1, .ref h2, .ref h3, .ref h4, .ref a1, .ref a2, .int 0])), (h1, .inr (8, [.int 0, .int np, .ref w1, .ref w2, .ref w3, .ref w4, .ref w5]))]) u) t) A) (vx_X (S := Unit) (fun _ => True) (fun E _ t => (fun (E : String) => E = "java/lang/IndexOutOfBoundsException") E ∧ yB D A [] t) A) 1 6 A := by
  refine vx_ofW (cc := cX5_postOf) (maxL := 2) (ret := (some .int)) (by decide) rfl ?_
  intro p e s m args below meth c s₁ B hml hout hv
  obtain ⟨rfl, rfl, hP, hK, hD, hE, hA⟩ := y_start hA0 hv
  have hx := B.exec
  have hb := B.bytes
  have hr := B.returns
  have hts := atoms_spec (ws := wsX5_postOf) B.pre
  have hown : s.vm.findClass RX5 = some m.cls := findClass_of_methodNamed B.named
  have hlocks := B.notSynchronized
  clear hA0 hv
  have hS : va_S A s.heap s.heap [] := va_S.rf
  have hl := lv_entry ([.ref h0, .int p0]) (n := 2) (Nat.le_of_ble_eq_true rfl)
  rw [lg_entry_eq]
  generalize (lg_sl ([.ref h0, .int p0]) ++ List.replicate (2 - (lg_sl ([.ref h0, .int p0])).length) Slot.unset).toArray = ls at hl ⊢
  have hl : lv_has ls 2 [(0, .ref h0), (1, .int p0)] := hl
  refine lv_aload_n hx hb dX5_postOf_0 rfl (lv_at hl 0 rfl) ?_
  refine lv_iload_n hx hb dX5_postOf_1 rfl (lv_at hl 1 rfl) ?_
  refine yx_v (wc := [(h0, .inr (11, [.ref h1, .ref h2, .ref h3, .ref h4, .ref a1, .ref a2, .int 0])), (h1, .inr (8, [.int 0, .int np, .ref w1, .ref w2, .ref w3, .ref w4, .ref w5]))]) (wr := []) (vx_runV (As := [.int p0]) (rest := []) ⟨hx, hb, hml, hown, hts⟩ (c_requireApplicant l hfl D tE s.heap.size h0 h1 h2 h3 h4 a1 a2 w1 w2 w3 w4 w5 0 0 np p0 (va_A [(h0, .inr (11, [.ref h1, .ref h2, .ref h3, .ref h4, .ref a1, .ref a2, .int 0])), (h1, .inr (8, [.int 0, .int np, .ref w1, .ref w2, .ref w3, .ref w4, .ref w5]))] s.heap.size) rfl) (cwV 1 hts gX5_postOf_X5_requireApplicant rfl rfl rfl (by decide +kernel) ⟨Nat.le_of_ble_eq_true rfl, Nat.le_of_ble_eq_true rfl⟩) (yPreV (wc := [(h0, .inr (11, [.ref h1, .ref h2, .ref h3, .ref h4, .ref a1, .ref a2, .int 0])), (h1, .inr (8, [.int 0, .int np, .ref w1, .ref w2, .ref w3, .ref w4, .ref w5]))]) (tc := []) hK hP hD hS hA hE [0, 1] [] (by decide) rfl rfl (ci := 11) (q0 := 0) (q := (RX5, TX5, 7)) rfl rfl) rfl rfl hl.1 rfl (lv_room (Nat.le_of_ble_eq_true rfl)) dX5_postOf_2 ⟨Nat.le_of_ble_eq_true rfl, Nat.le_of_ble_eq_true rfl⟩) hP hD hS hA [0, 1] [] rfl rfl (by decide) (by decide) (fun E ce q9 H locs hpx hP hD hS g1 g2 g3 => ?_) (fun u_2 H locs hw hP hD hS => ?_)
  · have hP : va_P D vwCl [(h0, .inr (11, [.ref h1, .ref h2, .ref h3, .ref h4, .ref a1, .ref a2, .int 0])), (h1, .inr (8, [.int 0, .int np, .ref w1, .ref w2, .ref w3, .ref w4, .ref w5]))] H := hP
    have hD : va_D A [(h0, .inr (11, [.ref h1, .ref h2, .ref h3, .ref h4, .ref a1, .ref a2, .int 0])), (h1, .inr (8, [.int 0, .int np, .ref w1, .ref w2, .ref w3, .ref w4, .ref w5]))] := hD
    have hpx : E = "java/lang/IndexOutOfBoundsException" ∧ (p0 < 0 ∨ 0 ≤ p0) := hpx
    exact y_out hout hlocks g1 g2 g3 hpx.1 (hP.sub [] rfl) (hD.sub [] (by decide) rfl) hS (Nat.le_of_ble_eq_true rfl) (Nat.le_of_ble_eq_true rfl)
  · have hP : va_P D vwCl [(h0, .inr (11, [.ref h1, .ref h2, .ref h3, .ref h4, .ref a1, .ref a2, .int 0])), (h1, .inr (8, [.int 0, .int np, .ref w1, .ref w2, .ref w3, .ref w4, .ref w5]))] H := hP
    have hD : va_D A [(h0, .inr (11, [.ref h1, .ref h2, .ref h3, .ref h4, .ref a1, .ref a2, .int 0])), (h1, .inr (8, [.int 0, .int np, .ref w1, .ref w2, .ref w3, .ref w4, .ref w5]))] := hD
    have hw : 0 ≤ p0 ∧ p0 < 0 := hw
    exact (y_no hw.1 hw.2).elim

set_option maxHeartbeats 4000000 in
set_option maxRecDepth 100000 in
theorem f_challenger (l : Launch) (hfl : l.stackTraces = false) (D : va_G) (tE : Nat) (sz : Nat) (h0 : Nat) (h1 : Nat) (h2 : Nat) (h3 : Nat) (h4 : Nat) (a1 : Nat) (a2 : Nat) (w1 : Nat) (w2 : Nat) (w3 : Nat) (w4 : Nat) (w5 : Nat) (np : Int32) (p0 : Int32) (A : Nat → Prop) (hA0 : A = va_A [(h0, .inr (11, [.ref h1, .ref h2, .ref h3, .ref h4, .ref a1, .ref a2, .int 0])), (h1, .inr (8, [.int 0, .int np, .ref w1, .ref w2, .ref w3, .ref w4, .ref w5]))] sz) : vx_Met l yX5_challenger wsX5_challenger (yR 1 1 6) (yP D tE [(h0, .inr (11, [.ref h1, .ref h2, .ref h3, .ref h4, .ref a1, .ref a2, .int 0])), (h1, .inr (8, [.int 0, .int np, .ref w1, .ref w2, .ref w3, .ref w4, .ref w5]))] [] sz [.ref h0, .int p0]) (va_Qi (S := Unit) (fun (r : Int32) (u : Unit) => False) (fun (u : Unit) (t : State) => yB D A ((fun (u : Unit) => [(h0, .inr (11, [.ref h1, .ref h2, .ref h3, .ref h4, .ref a1, .ref a2, .int 0])), (h1, .inr (8, [.int 0, .int np, .ref w1, .ref w2, .ref w3, .ref w4, .ref w5]))]) u) t) A) (vx_X (S := Unit) (fun _ => True) (fun E _ t => (fun (E : String) => E = "java/lang/IndexOutOfBoundsException") E ∧ yB D A [] t) A) 1 6 A := by
  refine vx_ofW (cc := cX5_challenger) (maxL := 2) (ret := (some .int)) (by decide) rfl ?_
  intro p e s m args below meth c s₁ B hml hout hv
  obtain ⟨rfl, rfl, hP, hK, hD, hE, hA⟩ := y_start hA0 hv
  have hx := B.exec
  have hb := B.bytes
  have hr := B.returns
  have hts := atoms_spec (ws := wsX5_challenger) B.pre
  have hown : s.vm.findClass RX5 = some m.cls := findClass_of_methodNamed B.named
  have hlocks := B.notSynchronized
  clear hA0 hv
  have hS : va_S A s.heap s.heap [] := va_S.rf
  have hl := lv_entry ([.ref h0, .int p0]) (n := 2) (Nat.le_of_ble_eq_true rfl)
  rw [lg_entry_eq]
  generalize (lg_sl ([.ref h0, .int p0]) ++ List.replicate (2 - (lg_sl ([.ref h0, .int p0])).length) Slot.unset).toArray = ls at hl ⊢
  have hl : lv_has ls 2 [(0, .ref h0), (1, .int p0)] := hl
  refine lv_aload_n hx hb dX5_challenger_0 rfl (lv_at hl 0 rfl) ?_
  refine lv_iload_n hx hb dX5_challenger_1 rfl (lv_at hl 1 rfl) ?_
  refine yx_v (wc := [(h0, .inr (11, [.ref h1, .ref h2, .ref h3, .ref h4, .ref a1, .ref a2, .int 0])), (h1, .inr (8, [.int 0, .int np, .ref w1, .ref w2, .ref w3, .ref w4, .ref w5]))]) (wr := []) (vx_runV (As := [.int p0]) (rest := []) ⟨hx, hb, hml, hown, hts⟩ (c_requireApplicant l hfl D tE s.heap.size h0 h1 h2 h3 h4 a1 a2 w1 w2 w3 w4 w5 0 0 np p0 (va_A [(h0, .inr (11, [.ref h1, .ref h2, .ref h3, .ref h4, .ref a1, .ref a2, .int 0])), (h1, .inr (8, [.int 0, .int np, .ref w1, .ref w2, .ref w3, .ref w4, .ref w5]))] s.heap.size) rfl) (cwV 1 hts gX5_challenger_X5_requireApplicant rfl rfl rfl (by decide +kernel) ⟨Nat.le_of_ble_eq_true rfl, Nat.le_of_ble_eq_true rfl⟩) (yPreV (wc := [(h0, .inr (11, [.ref h1, .ref h2, .ref h3, .ref h4, .ref a1, .ref a2, .int 0])), (h1, .inr (8, [.int 0, .int np, .ref w1, .ref w2, .ref w3, .ref w4, .ref w5]))]) (tc := []) hK hP hD hS hA hE [0, 1] [] (by decide) rfl rfl (ci := 11) (q0 := 0) (q := (RX5, TX5, 7)) rfl rfl) rfl rfl hl.1 rfl (lv_room (Nat.le_of_ble_eq_true rfl)) dX5_challenger_2 ⟨Nat.le_of_ble_eq_true rfl, Nat.le_of_ble_eq_true rfl⟩) hP hD hS hA [0, 1] [] rfl rfl (by decide) (by decide) (fun E ce q9 H locs hpx hP hD hS g1 g2 g3 => ?_) (fun u_2 H locs hw hP hD hS => ?_)
  · have hP : va_P D vwCl [(h0, .inr (11, [.ref h1, .ref h2, .ref h3, .ref h4, .ref a1, .ref a2, .int 0])), (h1, .inr (8, [.int 0, .int np, .ref w1, .ref w2, .ref w3, .ref w4, .ref w5]))] H := hP
    have hD : va_D A [(h0, .inr (11, [.ref h1, .ref h2, .ref h3, .ref h4, .ref a1, .ref a2, .int 0])), (h1, .inr (8, [.int 0, .int np, .ref w1, .ref w2, .ref w3, .ref w4, .ref w5]))] := hD
    have hpx : E = "java/lang/IndexOutOfBoundsException" ∧ (p0 < 0 ∨ 0 ≤ p0) := hpx
    exact y_out hout hlocks g1 g2 g3 hpx.1 (hP.sub [] rfl) (hD.sub [] (by decide) rfl) hS (Nat.le_of_ble_eq_true rfl) (Nat.le_of_ble_eq_true rfl)
  · have hP : va_P D vwCl [(h0, .inr (11, [.ref h1, .ref h2, .ref h3, .ref h4, .ref a1, .ref a2, .int 0])), (h1, .inr (8, [.int 0, .int np, .ref w1, .ref w2, .ref w3, .ref w4, .ref w5]))] H := hP
    have hD : va_D A [(h0, .inr (11, [.ref h1, .ref h2, .ref h3, .ref h4, .ref a1, .ref a2, .int 0])), (h1, .inr (8, [.int 0, .int np, .ref w1, .ref w2, .ref w3, .ref w4, .ref w5]))] := hD
    have hw : 0 ≤ p0 ∧ p0 < 0 := hw
    exact (y_no hw.1 hw.2).elim

set_option maxHeartbeats 4000000 in
set_option maxRecDepth 100000 in
theorem f_popularPost (l : Launch) (hfl : l.stackTraces = false) (D : va_G) (tE : Nat) (sz : Nat) (h0 : Nat) (h1 : Nat) (h2 : Nat) (h3 : Nat) (h4 : Nat) (a1 : Nat) (a2 : Nat) (w1 : Nat) (w2 : Nat) (w3 : Nat) (w4 : Nat) (w5 : Nat) (np : Int32) (p0 : Int32) (A : Nat → Prop) (hA0 : A = va_A [(h0, .inr (11, [.ref h1, .ref h2, .ref h3, .ref h4, .ref a1, .ref a2, .int 0])), (h1, .inr (8, [.int 0, .int np, .ref w1, .ref w2, .ref w3, .ref w4, .ref w5]))] sz) : vx_Met l yX5_popularPost wsX5_popularPost (yR 1 1 6) (yP D tE [(h0, .inr (11, [.ref h1, .ref h2, .ref h3, .ref h4, .ref a1, .ref a2, .int 0])), (h1, .inr (8, [.int 0, .int np, .ref w1, .ref w2, .ref w3, .ref w4, .ref w5]))] [] sz [.ref h0, .int p0]) (va_Qi (S := Unit) (fun (r : Int32) (u : Unit) => False) (fun (u : Unit) (t : State) => yB D A ((fun (u : Unit) => [(h0, .inr (11, [.ref h1, .ref h2, .ref h3, .ref h4, .ref a1, .ref a2, .int 0])), (h1, .inr (8, [.int 0, .int np, .ref w1, .ref w2, .ref w3, .ref w4, .ref w5]))]) u) t) A) (vx_X (S := Unit) (fun _ => True) (fun E _ t => (fun (E : String) => E = "java/lang/IndexOutOfBoundsException") E ∧ yB D A [] t) A) 1 6 A := by
  refine vx_ofW (cc := cX5_popularPost) (maxL := 2) (ret := (some .int)) (by decide) rfl ?_
  intro p e s m args below meth c s₁ B hml hout hv
  obtain ⟨rfl, rfl, hP, hK, hD, hE, hA⟩ := y_start hA0 hv
  have hx := B.exec
  have hb := B.bytes
  have hr := B.returns
  have hts := atoms_spec (ws := wsX5_popularPost) B.pre
  have hown : s.vm.findClass RX5 = some m.cls := findClass_of_methodNamed B.named
  have hlocks := B.notSynchronized
  clear hA0 hv
  have hS : va_S A s.heap s.heap [] := va_S.rf
  have hl := lv_entry ([.ref h0, .int p0]) (n := 2) (Nat.le_of_ble_eq_true rfl)
  rw [lg_entry_eq]
  generalize (lg_sl ([.ref h0, .int p0]) ++ List.replicate (2 - (lg_sl ([.ref h0, .int p0])).length) Slot.unset).toArray = ls at hl ⊢
  have hl : lv_has ls 2 [(0, .ref h0), (1, .int p0)] := hl
  refine lv_aload_n hx hb dX5_popularPost_0 rfl (lv_at hl 0 rfl) ?_
  refine lv_iload_n hx hb dX5_popularPost_1 rfl (lv_at hl 1 rfl) ?_
  refine yx_v (wc := [(h0, .inr (11, [.ref h1, .ref h2, .ref h3, .ref h4, .ref a1, .ref a2, .int 0])), (h1, .inr (8, [.int 0, .int np, .ref w1, .ref w2, .ref w3, .ref w4, .ref w5]))]) (wr := []) (vx_runV (As := [.int p0]) (rest := []) ⟨hx, hb, hml, hown, hts⟩ (c_requireApplicant l hfl D tE s.heap.size h0 h1 h2 h3 h4 a1 a2 w1 w2 w3 w4 w5 0 0 np p0 (va_A [(h0, .inr (11, [.ref h1, .ref h2, .ref h3, .ref h4, .ref a1, .ref a2, .int 0])), (h1, .inr (8, [.int 0, .int np, .ref w1, .ref w2, .ref w3, .ref w4, .ref w5]))] s.heap.size) rfl) (cwV 1 hts gX5_popularPost_X5_requireApplicant rfl rfl rfl (by decide +kernel) ⟨Nat.le_of_ble_eq_true rfl, Nat.le_of_ble_eq_true rfl⟩) (yPreV (wc := [(h0, .inr (11, [.ref h1, .ref h2, .ref h3, .ref h4, .ref a1, .ref a2, .int 0])), (h1, .inr (8, [.int 0, .int np, .ref w1, .ref w2, .ref w3, .ref w4, .ref w5]))]) (tc := []) hK hP hD hS hA hE [0, 1] [] (by decide) rfl rfl (ci := 11) (q0 := 0) (q := (RX5, TX5, 7)) rfl rfl) rfl rfl hl.1 rfl (lv_room (Nat.le_of_ble_eq_true rfl)) dX5_popularPost_2 ⟨Nat.le_of_ble_eq_true rfl, Nat.le_of_ble_eq_true rfl⟩) hP hD hS hA [0, 1] [] rfl rfl (by decide) (by decide) (fun E ce q9 H locs hpx hP hD hS g1 g2 g3 => ?_) (fun u_2 H locs hw hP hD hS => ?_)
  · have hP : va_P D vwCl [(h0, .inr (11, [.ref h1, .ref h2, .ref h3, .ref h4, .ref a1, .ref a2, .int 0])), (h1, .inr (8, [.int 0, .int np, .ref w1, .ref w2, .ref w3, .ref w4, .ref w5]))] H := hP
    have hD : va_D A [(h0, .inr (11, [.ref h1, .ref h2, .ref h3, .ref h4, .ref a1, .ref a2, .int 0])), (h1, .inr (8, [.int 0, .int np, .ref w1, .ref w2, .ref w3, .ref w4, .ref w5]))] := hD
    have hpx : E = "java/lang/IndexOutOfBoundsException" ∧ (p0 < 0 ∨ 0 ≤ p0) := hpx
    exact y_out hout hlocks g1 g2 g3 hpx.1 (hP.sub [] rfl) (hD.sub [] (by decide) rfl) hS (Nat.le_of_ble_eq_true rfl) (Nat.le_of_ble_eq_true rfl)
  · have hP : va_P D vwCl [(h0, .inr (11, [.ref h1, .ref h2, .ref h3, .ref h4, .ref a1, .ref a2, .int 0])), (h1, .inr (8, [.int 0, .int np, .ref w1, .ref w2, .ref w3, .ref w4, .ref w5]))] H := hP
    have hD : va_D A [(h0, .inr (11, [.ref h1, .ref h2, .ref h3, .ref h4, .ref a1, .ref a2, .int 0])), (h1, .inr (8, [.int 0, .int np, .ref w1, .ref w2, .ref w3, .ref w4, .ref w5]))] := hD
    have hw : 0 ≤ p0 ∧ p0 < 0 := hw
    exact (y_no hw.1 hw.2).elim

set_option maxHeartbeats 4000000 in
set_option maxRecDepth 100000 in
theorem f_bestPost (l : Launch) (hfl : l.stackTraces = false) (D : va_G) (tE : Nat) (sz : Nat) (h0 : Nat) (h1 : Nat) (h2 : Nat) (h3 : Nat) (h4 : Nat) (a1 : Nat) (a2 : Nat) (w1 : Nat) (w2 : Nat) (w3 : Nat) (w4 : Nat) (w5 : Nat) (np : Int32) (p0 : Int32) (A : Nat → Prop) (hA0 : A = va_A [(h0, .inr (11, [.ref h1, .ref h2, .ref h3, .ref h4, .ref a1, .ref a2, .int 0])), (h1, .inr (8, [.int 0, .int np, .ref w1, .ref w2, .ref w3, .ref w4, .ref w5]))] sz) : vx_Met l yX5_bestPost wsX5_bestPost (yR 1 1 6) (yP D tE [(h0, .inr (11, [.ref h1, .ref h2, .ref h3, .ref h4, .ref a1, .ref a2, .int 0])), (h1, .inr (8, [.int 0, .int np, .ref w1, .ref w2, .ref w3, .ref w4, .ref w5]))] [] sz [.ref h0, .int p0]) (va_Qi (S := Unit) (fun (r : Int32) (u : Unit) => False) (fun (u : Unit) (t : State) => yB D A ((fun (u : Unit) => [(h0, .inr (11, [.ref h1, .ref h2, .ref h3, .ref h4, .ref a1, .ref a2, .int 0])), (h1, .inr (8, [.int 0, .int np, .ref w1, .ref w2, .ref w3, .ref w4, .ref w5]))]) u) t) A) (vx_X (S := Unit) (fun _ => True) (fun E _ t => (fun (E : String) => E = "java/lang/IndexOutOfBoundsException") E ∧ yB D A [] t) A) 1 6 A := by
  refine vx_ofW (cc := cX5_bestPost) (maxL := 2) (ret := (some .int)) (by decide) rfl ?_
  intro p e s m args below meth c s₁ B hml hout hv
  obtain ⟨rfl, rfl, hP, hK, hD, hE, hA⟩ := y_start hA0 hv
  have hx := B.exec
  have hb := B.bytes
  have hr := B.returns
  have hts := atoms_spec (ws := wsX5_bestPost) B.pre
  have hown : s.vm.findClass RX5 = some m.cls := findClass_of_methodNamed B.named
  have hlocks := B.notSynchronized
  clear hA0 hv
  have hS : va_S A s.heap s.heap [] := va_S.rf
  have hl := lv_entry ([.ref h0, .int p0]) (n := 2) (Nat.le_of_ble_eq_true rfl)
  rw [lg_entry_eq]
  generalize (lg_sl ([.ref h0, .int p0]) ++ List.replicate (2 - (lg_sl ([.ref h0, .int p0])).length) Slot.unset).toArray = ls at hl ⊢
  have hl : lv_has ls 2 [(0, .ref h0), (1, .int p0)] := hl
  refine lv_aload_n hx hb dX5_bestPost_0 rfl (lv_at hl 0 rfl) ?_
  refine lv_iload_n hx hb dX5_bestPost_1 rfl (lv_at hl 1 rfl) ?_
  refine yx_v (wc := [(h0, .inr (11, [.ref h1, .ref h2, .ref h3, .ref h4, .ref a1, .ref a2, .int 0])), (h1, .inr (8, [.int 0, .int np, .ref w1, .ref w2, .ref w3, .ref w4, .ref w5]))]) (wr := []) (vx_runV (As := [.int p0]) (rest := []) ⟨hx, hb, hml, hown, hts⟩ (c_requireApplicant l hfl D tE s.heap.size h0 h1 h2 h3 h4 a1 a2 w1 w2 w3 w4 w5 0 0 np p0 (va_A [(h0, .inr (11, [.ref h1, .ref h2, .ref h3, .ref h4, .ref a1, .ref a2, .int 0])), (h1, .inr (8, [.int 0, .int np, .ref w1, .ref w2, .ref w3, .ref w4, .ref w5]))] s.heap.size) rfl) (cwV 1 hts gX5_bestPost_X5_requireApplicant rfl rfl rfl (by decide +kernel) ⟨Nat.le_of_ble_eq_true rfl, Nat.le_of_ble_eq_true rfl⟩) (yPreV (wc := [(h0, .inr (11, [.ref h1, .ref h2, .ref h3, .ref h4, .ref a1, .ref a2, .int 0])), (h1, .inr (8, [.int 0, .int np, .ref w1, .ref w2, .ref w3, .ref w4, .ref w5]))]) (tc := []) hK hP hD hS hA hE [0, 1] [] (by decide) rfl rfl (ci := 11) (q0 := 0) (q := (RX5, TX5, 7)) rfl rfl) rfl rfl hl.1 rfl (lv_room (Nat.le_of_ble_eq_true rfl)) dX5_bestPost_2 ⟨Nat.le_of_ble_eq_true rfl, Nat.le_of_ble_eq_true rfl⟩) hP hD hS hA [0, 1] [] rfl rfl (by decide) (by decide) (fun E ce q9 H locs hpx hP hD hS g1 g2 g3 => ?_) (fun u_2 H locs hw hP hD hS => ?_)
  · have hP : va_P D vwCl [(h0, .inr (11, [.ref h1, .ref h2, .ref h3, .ref h4, .ref a1, .ref a2, .int 0])), (h1, .inr (8, [.int 0, .int np, .ref w1, .ref w2, .ref w3, .ref w4, .ref w5]))] H := hP
    have hD : va_D A [(h0, .inr (11, [.ref h1, .ref h2, .ref h3, .ref h4, .ref a1, .ref a2, .int 0])), (h1, .inr (8, [.int 0, .int np, .ref w1, .ref w2, .ref w3, .ref w4, .ref w5]))] := hD
    have hpx : E = "java/lang/IndexOutOfBoundsException" ∧ (p0 < 0 ∨ 0 ≤ p0) := hpx
    exact y_out hout hlocks g1 g2 g3 hpx.1 (hP.sub [] rfl) (hD.sub [] (by decide) rfl) hS (Nat.le_of_ble_eq_true rfl) (Nat.le_of_ble_eq_true rfl)
  · have hP : va_P D vwCl [(h0, .inr (11, [.ref h1, .ref h2, .ref h3, .ref h4, .ref a1, .ref a2, .int 0])), (h1, .inr (8, [.int 0, .int np, .ref w1, .ref w2, .ref w3, .ref w4, .ref w5]))] H := hP
    have hD : va_D A [(h0, .inr (11, [.ref h1, .ref h2, .ref h3, .ref h4, .ref a1, .ref a2, .int 0])), (h1, .inr (8, [.int 0, .int np, .ref w1, .ref w2, .ref w3, .ref w4, .ref w5]))] := hD
    have hw : 0 ≤ p0 ∧ p0 < 0 := hw
    exact (y_no hw.1 hw.2).elim

set_option maxHeartbeats 4000000 in
set_option maxRecDepth 100000 in
theorem f_isSure (l : Launch) (hfl : l.stackTraces = false) (D : va_G) (tE : Nat) (sz : Nat) (h0 : Nat) (h1 : Nat) (h2 : Nat) (h3 : Nat) (h4 : Nat) (a1 : Nat) (a2 : Nat) (w1 : Nat) (w2 : Nat) (w3 : Nat) (w4 : Nat) (w5 : Nat) (np : Int32) (p0 : Int32) (A : Nat → Prop) (hA0 : A = va_A [(h0, .inr (11, [.ref h1, .ref h2, .ref h3, .ref h4, .ref a1, .ref a2, .int 0])), (h1, .inr (8, [.int 0, .int np, .ref w1, .ref w2, .ref w3, .ref w4, .ref w5]))] sz) : vx_Met l yX5_isSure wsX5_isSure (yR 1 1 6) (yP D tE [(h0, .inr (11, [.ref h1, .ref h2, .ref h3, .ref h4, .ref a1, .ref a2, .int 0])), (h1, .inr (8, [.int 0, .int np, .ref w1, .ref w2, .ref w3, .ref w4, .ref w5]))] [] sz [.ref h0, .int p0]) (va_Qi (S := Unit) (fun (r : Int32) (u : Unit) => False) (fun (u : Unit) (t : State) => yB D A ((fun (u : Unit) => [(h0, .inr (11, [.ref h1, .ref h2, .ref h3, .ref h4, .ref a1, .ref a2, .int 0])), (h1, .inr (8, [.int 0, .int np, .ref w1, .ref w2, .ref w3, .ref w4, .ref w5]))]) u) t) A) (vx_X (S := Unit) (fun _ => True) (fun E _ t => (fun (E : String) => E = "java/lang/IndexOutOfBoundsException") E ∧ yB D A [] t) A) 1 6 A := by
  refine vx_ofW (cc := cX5_isSure) (maxL := 2) (ret := (some .boolean)) (by decide) rfl ?_
  intro p e s m args below meth c s₁ B hml hout hv
  obtain ⟨rfl, rfl, hP, hK, hD, hE, hA⟩ := y_start hA0 hv
  have hx := B.exec
  have hb := B.bytes
  have hr := B.returns
  have hts := atoms_spec (ws := wsX5_isSure) B.pre
  have hown : s.vm.findClass RX5 = some m.cls := findClass_of_methodNamed B.named
  have hlocks := B.notSynchronized
  clear hA0 hv
  have hS : va_S A s.heap s.heap [] := va_S.rf
  have hl := lv_entry ([.ref h0, .int p0]) (n := 2) (Nat.le_of_ble_eq_true rfl)
  rw [lg_entry_eq]
  generalize (lg_sl ([.ref h0, .int p0]) ++ List.replicate (2 - (lg_sl ([.ref h0, .int p0])).length) Slot.unset).toArray = ls at hl ⊢
  have hl : lv_has ls 2 [(0, .ref h0), (1, .int p0)] := hl
  refine lv_aload_n hx hb dX5_isSure_0 rfl (lv_at hl 0 rfl) ?_
  refine lv_iload_n hx hb dX5_isSure_1 rfl (lv_at hl 1 rfl) ?_
  refine yx_v (wc := [(h0, .inr (11, [.ref h1, .ref h2, .ref h3, .ref h4, .ref a1, .ref a2, .int 0])), (h1, .inr (8, [.int 0, .int np, .ref w1, .ref w2, .ref w3, .ref w4, .ref w5]))]) (wr := []) (vx_runV (As := [.int p0]) (rest := []) ⟨hx, hb, hml, hown, hts⟩ (c_requireApplicant l hfl D tE s.heap.size h0 h1 h2 h3 h4 a1 a2 w1 w2 w3 w4 w5 0 0 np p0 (va_A [(h0, .inr (11, [.ref h1, .ref h2, .ref h3, .ref h4, .ref a1, .ref a2, .int 0])), (h1, .inr (8, [.int 0, .int np, .ref w1, .ref w2, .ref w3, .ref w4, .ref w5]))] s.heap.size) rfl) (cwV 1 hts gX5_isSure_X5_requireApplicant rfl rfl rfl (by decide +kernel) ⟨Nat.le_of_ble_eq_true rfl, Nat.le_of_ble_eq_true rfl⟩) (yPreV (wc := [(h0, .inr (11, [.ref h1, .ref h2, .ref h3, .ref h4, .ref a1, .ref a2, .int 0])), (h1, .inr (8, [.int 0, .int np, .ref w1, .ref w2, .ref w3, .ref w4, .ref w5]))]) (tc := []) hK hP hD hS hA hE [0, 1] [] (by decide) rfl rfl (ci := 11) (q0 := 0) (q := (RX5, TX5, 7)) rfl rfl) rfl rfl hl.1 rfl (lv_room (Nat.le_of_ble_eq_true rfl)) dX5_isSure_2 ⟨Nat.le_of_ble_eq_true rfl, Nat.le_of_ble_eq_true rfl⟩) hP hD hS hA [0, 1] [] rfl rfl (by decide) (by decide) (fun E ce q9 H locs hpx hP hD hS g1 g2 g3 => ?_) (fun u_2 H locs hw hP hD hS => ?_)
  · have hP : va_P D vwCl [(h0, .inr (11, [.ref h1, .ref h2, .ref h3, .ref h4, .ref a1, .ref a2, .int 0])), (h1, .inr (8, [.int 0, .int np, .ref w1, .ref w2, .ref w3, .ref w4, .ref w5]))] H := hP
    have hD : va_D A [(h0, .inr (11, [.ref h1, .ref h2, .ref h3, .ref h4, .ref a1, .ref a2, .int 0])), (h1, .inr (8, [.int 0, .int np, .ref w1, .ref w2, .ref w3, .ref w4, .ref w5]))] := hD
    have hpx : E = "java/lang/IndexOutOfBoundsException" ∧ (p0 < 0 ∨ 0 ≤ p0) := hpx
    exact y_out hout hlocks g1 g2 g3 hpx.1 (hP.sub [] rfl) (hD.sub [] (by decide) rfl) hS (Nat.le_of_ble_eq_true rfl) (Nat.le_of_ble_eq_true rfl)
  · have hP : va_P D vwCl [(h0, .inr (11, [.ref h1, .ref h2, .ref h3, .ref h4, .ref a1, .ref a2, .int 0])), (h1, .inr (8, [.int 0, .int np, .ref w1, .ref w2, .ref w3, .ref w4, .ref w5]))] H := hP
    have hD : va_D A [(h0, .inr (11, [.ref h1, .ref h2, .ref h3, .ref h4, .ref a1, .ref a2, .int 0])), (h1, .inr (8, [.int 0, .int np, .ref w1, .ref w2, .ref w3, .ref w4, .ref w5]))] := hD
    have hw : 0 ≤ p0 ∧ p0 < 0 := hw
    exact (y_no hw.1 hw.2).elim

set_option maxHeartbeats 4000000 in
set_option maxRecDepth 100000 in
theorem f_gains (l : Launch) (hfl : l.stackTraces = false) (D : va_G) (tE : Nat) (sz : Nat) (h0 : Nat) (h1 : Nat) (h2 : Nat) (h3 : Nat) (h4 : Nat) (a1 : Nat) (a2 : Nat) (w1 : Nat) (w2 : Nat) (w3 : Nat) (w4 : Nat) (w5 : Nat) (np : Int32) (p0 : Int32) (p1 : Int32) (A : Nat → Prop) (hA0 : A = va_A [(h0, .inr (11, [.ref h1, .ref h2, .ref h3, .ref h4, .ref a1, .ref a2, .int 0])), (h1, .inr (8, [.int 0, .int np, .ref w1, .ref w2, .ref w3, .ref w4, .ref w5]))] sz) : vx_Met l yX5_gains wsX5_gains (yR 1 1 6) (yP D tE [(h0, .inr (11, [.ref h1, .ref h2, .ref h3, .ref h4, .ref a1, .ref a2, .int 0])), (h1, .inr (8, [.int 0, .int np, .ref w1, .ref w2, .ref w3, .ref w4, .ref w5]))] [] sz [.ref h0, .int p0, .int p1]) (va_Qi (S := Unit) (fun (r : Int32) (u : Unit) => False) (fun (u : Unit) (t : State) => yB D A ((fun (u : Unit) => [(h0, .inr (11, [.ref h1, .ref h2, .ref h3, .ref h4, .ref a1, .ref a2, .int 0])), (h1, .inr (8, [.int 0, .int np, .ref w1, .ref w2, .ref w3, .ref w4, .ref w5]))]) u) t) A) (vx_X (S := Unit) (fun _ => True) (fun E _ t => (fun (E : String) => E = "java/lang/IndexOutOfBoundsException") E ∧ yB D A [] t) A) 1 6 A := by
  refine vx_ofW (cc := cX5_gains) (maxL := 4) (ret := (some .boolean)) (by decide) rfl ?_
  intro p e s m args below meth c s₁ B hml hout hv
  obtain ⟨rfl, rfl, hP, hK, hD, hE, hA⟩ := y_start hA0 hv
  have hx := B.exec
  have hb := B.bytes
  have hr := B.returns
  have hts := atoms_spec (ws := wsX5_gains) B.pre
  have hown : s.vm.findClass RX5 = some m.cls := findClass_of_methodNamed B.named
  have hlocks := B.notSynchronized
  clear hA0 hv
  have hS : va_S A s.heap s.heap [] := va_S.rf
  have hl := lv_entry ([.ref h0, .int p0, .int p1]) (n := 4) (Nat.le_of_ble_eq_true rfl)
  rw [lg_entry_eq]
  generalize (lg_sl ([.ref h0, .int p0, .int p1]) ++ List.replicate (4 - (lg_sl ([.ref h0, .int p0, .int p1])).length) Slot.unset).toArray = ls at hl ⊢
  have hl : lv_has ls 4 [(0, .ref h0), (1, .int p0), (2, .int p1)] := hl
  refine lv_aload_n hx hb dX5_gains_0 rfl (lv_at hl 0 rfl) ?_
  refine lv_iload_n hx hb dX5_gains_1 rfl (lv_at hl 1 rfl) ?_
  refine yx_v (wc := [(h0, .inr (11, [.ref h1, .ref h2, .ref h3, .ref h4, .ref a1, .ref a2, .int 0])), (h1, .inr (8, [.int 0, .int np, .ref w1, .ref w2, .ref w3, .ref w4, .ref w5]))]) (wr := []) (vx_runV (As := [.int p0]) (rest := []) ⟨hx, hb, hml, hown, hts⟩ (c_requireApplicant l hfl D tE s.heap.size h0 h1 h2 h3 h4 a1 a2 w1 w2 w3 w4 w5 0 0 np p0 (va_A [(h0, .inr (11, [.ref h1, .ref h2, .ref h3, .ref h4, .ref a1, .ref a2, .int 0])), (h1, .inr (8, [.int 0, .int np, .ref w1, .ref w2, .ref w3, .ref w4, .ref w5]))] s.heap.size) rfl) (cwV 1 hts gX5_gains_X5_requireApplicant rfl rfl rfl (by decide +kernel) ⟨Nat.le_of_ble_eq_true rfl, Nat.le_of_ble_eq_true rfl⟩) (yPreV (wc := [(h0, .inr (11, [.ref h1, .ref h2, .ref h3, .ref h4, .ref a1, .ref a2, .int 0])), (h1, .inr (8, [.int 0, .int np, .ref w1, .ref w2, .ref w3, .ref w4, .ref w5]))]) (tc := []) hK hP hD hS hA hE [0, 1] [] (by decide) rfl rfl (ci := 11) (q0 := 0) (q := (RX5, TX5, 7)) rfl rfl) rfl rfl hl.1 rfl (lv_room (Nat.le_of_ble_eq_true rfl)) dX5_gains_2 ⟨Nat.le_of_ble_eq_true rfl, Nat.le_of_ble_eq_true rfl⟩) hP hD hS hA [0, 1] [] rfl rfl (by decide) (by decide) (fun E ce q9 H locs hpx hP hD hS g1 g2 g3 => ?_) (fun u_2 H locs hw hP hD hS => ?_)
  · have hP : va_P D vwCl [(h0, .inr (11, [.ref h1, .ref h2, .ref h3, .ref h4, .ref a1, .ref a2, .int 0])), (h1, .inr (8, [.int 0, .int np, .ref w1, .ref w2, .ref w3, .ref w4, .ref w5]))] H := hP
    have hD : va_D A [(h0, .inr (11, [.ref h1, .ref h2, .ref h3, .ref h4, .ref a1, .ref a2, .int 0])), (h1, .inr (8, [.int 0, .int np, .ref w1, .ref w2, .ref w3, .ref w4, .ref w5]))] := hD
    have hpx : E = "java/lang/IndexOutOfBoundsException" ∧ (p0 < 0 ∨ 0 ≤ p0) := hpx
    exact y_out hout hlocks g1 g2 g3 hpx.1 (hP.sub [] rfl) (hD.sub [] (by decide) rfl) hS (Nat.le_of_ble_eq_true rfl) (Nat.le_of_ble_eq_true rfl)
  · have hP : va_P D vwCl [(h0, .inr (11, [.ref h1, .ref h2, .ref h3, .ref h4, .ref a1, .ref a2, .int 0])), (h1, .inr (8, [.int 0, .int np, .ref w1, .ref w2, .ref w3, .ref w4, .ref w5]))] H := hP
    have hD : va_D A [(h0, .inr (11, [.ref h1, .ref h2, .ref h3, .ref h4, .ref a1, .ref a2, .int 0])), (h1, .inr (8, [.int 0, .int np, .ref w1, .ref w2, .ref w3, .ref w4, .ref w5]))] := hD
    have hw : 0 ≤ p0 ∧ p0 < 0 := hw
    exact (y_no hw.1 hw.2).elim

set_option maxHeartbeats 4000000 in
set_option maxRecDepth 100000 in
theorem f_envies (l : Launch) (hfl : l.stackTraces = false) (D : va_G) (tE : Nat) (sz : Nat) (h0 : Nat) (h1 : Nat) (h2 : Nat) (h3 : Nat) (h4 : Nat) (a1 : Nat) (a2 : Nat) (w1 : Nat) (w2 : Nat) (w3 : Nat) (w4 : Nat) (w5 : Nat) (np : Int32) (p0 : Int32) (p1 : Int32) (A : Nat → Prop) (hA0 : A = va_A [(h0, .inr (11, [.ref h1, .ref h2, .ref h3, .ref h4, .ref a1, .ref a2, .int 0])), (h1, .inr (8, [.int 0, .int np, .ref w1, .ref w2, .ref w3, .ref w4, .ref w5]))] sz) : vx_Met l yX5_envies wsX5_envies (yR 1 1 6) (yP D tE [(h0, .inr (11, [.ref h1, .ref h2, .ref h3, .ref h4, .ref a1, .ref a2, .int 0])), (h1, .inr (8, [.int 0, .int np, .ref w1, .ref w2, .ref w3, .ref w4, .ref w5]))] [] sz [.ref h0, .int p0, .int p1]) (va_Qi (S := Unit) (fun (r : Int32) (u : Unit) => False) (fun (u : Unit) (t : State) => yB D A ((fun (u : Unit) => [(h0, .inr (11, [.ref h1, .ref h2, .ref h3, .ref h4, .ref a1, .ref a2, .int 0])), (h1, .inr (8, [.int 0, .int np, .ref w1, .ref w2, .ref w3, .ref w4, .ref w5]))]) u) t) A) (vx_X (S := Unit) (fun _ => True) (fun E _ t => (fun (E : String) => E = "java/lang/IndexOutOfBoundsException") E ∧ yB D A [] t) A) 1 6 A := by
  refine vx_ofW (cc := cX5_envies) (maxL := 3) (ret := (some .boolean)) (by decide) rfl ?_
  intro p e s m args below meth c s₁ B hml hout hv
  obtain ⟨rfl, rfl, hP, hK, hD, hE, hA⟩ := y_start hA0 hv
  have hx := B.exec
  have hb := B.bytes
  have hr := B.returns
  have hts := atoms_spec (ws := wsX5_envies) B.pre
  have hown : s.vm.findClass RX5 = some m.cls := findClass_of_methodNamed B.named
  have hlocks := B.notSynchronized
  clear hA0 hv
  have hS : va_S A s.heap s.heap [] := va_S.rf
  have hl := lv_entry ([.ref h0, .int p0, .int p1]) (n := 3) (Nat.le_of_ble_eq_true rfl)
  rw [lg_entry_eq]
  generalize (lg_sl ([.ref h0, .int p0, .int p1]) ++ List.replicate (3 - (lg_sl ([.ref h0, .int p0, .int p1])).length) Slot.unset).toArray = ls at hl ⊢
  have hl : lv_has ls 3 [(0, .ref h0), (1, .int p0), (2, .int p1)] := hl
  refine lv_aload_n hx hb dX5_envies_0 rfl (lv_at hl 0 rfl) ?_
  refine lv_iload_n hx hb dX5_envies_1 rfl (lv_at hl 1 rfl) ?_
  refine yx_v (wc := [(h0, .inr (11, [.ref h1, .ref h2, .ref h3, .ref h4, .ref a1, .ref a2, .int 0])), (h1, .inr (8, [.int 0, .int np, .ref w1, .ref w2, .ref w3, .ref w4, .ref w5]))]) (wr := []) (vx_runV (As := [.int p0]) (rest := []) ⟨hx, hb, hml, hown, hts⟩ (c_requireApplicant l hfl D tE s.heap.size h0 h1 h2 h3 h4 a1 a2 w1 w2 w3 w4 w5 0 0 np p0 (va_A [(h0, .inr (11, [.ref h1, .ref h2, .ref h3, .ref h4, .ref a1, .ref a2, .int 0])), (h1, .inr (8, [.int 0, .int np, .ref w1, .ref w2, .ref w3, .ref w4, .ref w5]))] s.heap.size) rfl) (cwV 1 hts gX5_envies_X5_requireApplicant rfl rfl rfl (by decide +kernel) ⟨Nat.le_of_ble_eq_true rfl, Nat.le_of_ble_eq_true rfl⟩) (yPreV (wc := [(h0, .inr (11, [.ref h1, .ref h2, .ref h3, .ref h4, .ref a1, .ref a2, .int 0])), (h1, .inr (8, [.int 0, .int np, .ref w1, .ref w2, .ref w3, .ref w4, .ref w5]))]) (tc := []) hK hP hD hS hA hE [0, 1] [] (by decide) rfl rfl (ci := 11) (q0 := 0) (q := (RX5, TX5, 7)) rfl rfl) rfl rfl hl.1 rfl (lv_room (Nat.le_of_ble_eq_true rfl)) dX5_envies_2 ⟨Nat.le_of_ble_eq_true rfl, Nat.le_of_ble_eq_true rfl⟩) hP hD hS hA [0, 1] [] rfl rfl (by decide) (by decide) (fun E ce q9 H locs hpx hP hD hS g1 g2 g3 => ?_) (fun u_2 H locs hw hP hD hS => ?_)
  · have hP : va_P D vwCl [(h0, .inr (11, [.ref h1, .ref h2, .ref h3, .ref h4, .ref a1, .ref a2, .int 0])), (h1, .inr (8, [.int 0, .int np, .ref w1, .ref w2, .ref w3, .ref w4, .ref w5]))] H := hP
    have hD : va_D A [(h0, .inr (11, [.ref h1, .ref h2, .ref h3, .ref h4, .ref a1, .ref a2, .int 0])), (h1, .inr (8, [.int 0, .int np, .ref w1, .ref w2, .ref w3, .ref w4, .ref w5]))] := hD
    have hpx : E = "java/lang/IndexOutOfBoundsException" ∧ (p0 < 0 ∨ 0 ≤ p0) := hpx
    exact y_out hout hlocks g1 g2 g3 hpx.1 (hP.sub [] rfl) (hD.sub [] (by decide) rfl) hS (Nat.le_of_ble_eq_true rfl) (Nat.le_of_ble_eq_true rfl)
  · have hP : va_P D vwCl [(h0, .inr (11, [.ref h1, .ref h2, .ref h3, .ref h4, .ref a1, .ref a2, .int 0])), (h1, .inr (8, [.int 0, .int np, .ref w1, .ref w2, .ref w3, .ref w4, .ref w5]))] H := hP
    have hD : va_D A [(h0, .inr (11, [.ref h1, .ref h2, .ref h3, .ref h4, .ref a1, .ref a2, .int 0])), (h1, .inr (8, [.int 0, .int np, .ref w1, .ref w2, .ref w3, .ref w4, .ref w5]))] := hD
    have hw : 0 ≤ p0 ∧ p0 < 0 := hw
    exact (y_no hw.1 hw.2).elim

set_option maxHeartbeats 4000000 in
set_option maxRecDepth 100000 in
theorem f_setPlaces (l : Launch) (hfl : l.stackTraces = false) (D : va_G) (tE : Nat) (sz : Nat) (h0 : Nat) (h1 : Nat) (h2 : Nat) (h3 : Nat) (h4 : Nat) (a1 : Nat) (a2 : Nat) (w1 : Nat) (w2 : Nat) (w3 : Nat) (w4 : Nat) (w5 : Nat) (p0 : Int32) (p1 : Int32) (A : Nat → Prop) (hA0 : A = va_A [(h0, .inr (11, [.ref h1, .ref h2, .ref h3, .ref h4, .ref a1, .ref a2, .int 0])), (h1, .inr (8, [.int 0, .int 0, .ref w1, .ref w2, .ref w3, .ref w4, .ref w5]))] sz) : vx_Met l yX5_setPlaces wsX5_setPlaces (yR 1 1 6) (yP D tE [(h0, .inr (11, [.ref h1, .ref h2, .ref h3, .ref h4, .ref a1, .ref a2, .int 0])), (h1, .inr (8, [.int 0, .int 0, .ref w1, .ref w2, .ref w3, .ref w4, .ref w5]))] [] sz [.ref h0, .int p0, .int p1]) (va_Qi (S := Unit) (fun (r : Int32) (u : Unit) => False) (fun (u : Unit) (t : State) => yB D A ((fun (u : Unit) => [(h0, .inr (11, [.ref h1, .ref h2, .ref h3, .ref h4, .ref a1, .ref a2, .int 0])), (h1, .inr (8, [.int 0, .int 0, .ref w1, .ref w2, .ref w3, .ref w4, .ref w5]))]) u) t) A) (vx_X (S := Unit) (fun _ => True) (fun E _ t => (fun (E : String) => E = "java/lang/IndexOutOfBoundsException") E ∧ yB D A [] t) A) 1 6 A := by
  refine vx_ofW (cc := cX5_setPlaces) (maxL := 4) (ret := (some .int)) (by decide) rfl ?_
  intro p e s m args below meth c s₁ B hml hout hv
  obtain ⟨rfl, rfl, hP, hK, hD, hE, hA⟩ := y_start hA0 hv
  have hx := B.exec
  have hb := B.bytes
  have hr := B.returns
  have hts := atoms_spec (ws := wsX5_setPlaces) B.pre
  have hown : s.vm.findClass RX5 = some m.cls := findClass_of_methodNamed B.named
  have hlocks := B.notSynchronized
  clear hA0 hv
  have hS : va_S A s.heap s.heap [] := va_S.rf
  have hl := lv_entry ([.ref h0, .int p0, .int p1]) (n := 4) (Nat.le_of_ble_eq_true rfl)
  rw [lg_entry_eq]
  generalize (lg_sl ([.ref h0, .int p0, .int p1]) ++ List.replicate (4 - (lg_sl ([.ref h0, .int p0, .int p1])).length) Slot.unset).toArray = ls at hl ⊢
  have hl : lv_has ls 4 [(0, .ref h0), (1, .int p0), (2, .int p1)] := hl
  refine lv_aload_n hx hb dX5_setPlaces_0 rfl (lv_at hl 0 rfl) ?_
  refine lv_iload_n hx hb dX5_setPlaces_1 rfl (lv_at hl 1 rfl) ?_
  refine yx_v (wc := [(h0, .inr (11, [.ref h1, .ref h2, .ref h3, .ref h4, .ref a1, .ref a2, .int 0])), (h1, .inr (8, [.int 0, .int 0, .ref w1, .ref w2, .ref w3, .ref w4, .ref w5]))]) (wr := []) (vx_runV (As := [.int p0]) (rest := []) ⟨hx, hb, hml, hown, hts⟩ (c_requirePost l hfl D tE s.heap.size h0 h1 h2 h3 h4 a1 a2 w1 w2 w3 w4 w5 0 0 0 p0 (va_A [(h0, .inr (11, [.ref h1, .ref h2, .ref h3, .ref h4, .ref a1, .ref a2, .int 0])), (h1, .inr (8, [.int 0, .int 0, .ref w1, .ref w2, .ref w3, .ref w4, .ref w5]))] s.heap.size) rfl) (cwV 1 hts gX5_setPlaces_X5_requirePost rfl rfl rfl (by decide +kernel) ⟨Nat.le_of_ble_eq_true rfl, Nat.le_of_ble_eq_true rfl⟩) (yPreV (wc := [(h0, .inr (11, [.ref h1, .ref h2, .ref h3, .ref h4, .ref a1, .ref a2, .int 0])), (h1, .inr (8, [.int 0, .int 0, .ref w1, .ref w2, .ref w3, .ref w4, .ref w5]))]) (tc := []) hK hP hD hS hA hE [0, 1] [] (by decide) rfl rfl (ci := 11) (q0 := 0) (q := (RX5, TX5, 7)) rfl rfl) rfl rfl hl.1 rfl (lv_room (Nat.le_of_ble_eq_true rfl)) dX5_setPlaces_2 ⟨Nat.le_of_ble_eq_true rfl, Nat.le_of_ble_eq_true rfl⟩) hP hD hS hA [0, 1] [] rfl rfl (by decide) (by decide) (fun E ce q9 H locs hpx hP hD hS g1 g2 g3 => ?_) (fun u_2 H locs hw hP hD hS => ?_)
  · have hP : va_P D vwCl [(h0, .inr (11, [.ref h1, .ref h2, .ref h3, .ref h4, .ref a1, .ref a2, .int 0])), (h1, .inr (8, [.int 0, .int 0, .ref w1, .ref w2, .ref w3, .ref w4, .ref w5]))] H := hP
    have hD : va_D A [(h0, .inr (11, [.ref h1, .ref h2, .ref h3, .ref h4, .ref a1, .ref a2, .int 0])), (h1, .inr (8, [.int 0, .int 0, .ref w1, .ref w2, .ref w3, .ref w4, .ref w5]))] := hD
    have hpx : E = "java/lang/IndexOutOfBoundsException" ∧ (p0 < 0 ∨ 0 ≤ p0) := hpx
    exact y_out hout hlocks g1 g2 g3 hpx.1 (hP.sub [] rfl) (hD.sub [] (by decide) rfl) hS (Nat.le_of_ble_eq_true rfl) (Nat.le_of_ble_eq_true rfl)
  · have hP : va_P D vwCl [(h0, .inr (11, [.ref h1, .ref h2, .ref h3, .ref h4, .ref a1, .ref a2, .int 0])), (h1, .inr (8, [.int 0, .int 0, .ref w1, .ref w2, .ref w3, .ref w4, .ref w5]))] H := hP
    have hD : va_D A [(h0, .inr (11, [.ref h1, .ref h2, .ref h3, .ref h4, .ref a1, .ref a2, .int 0])), (h1, .inr (8, [.int 0, .int 0, .ref w1, .ref w2, .ref w3, .ref w4, .ref w5]))] := hD
    have hw : 0 ≤ p0 ∧ p0 < 0 := hw
    exact (y_no hw.1 hw.2).elim

set_option maxHeartbeats 4000000 in
set_option maxRecDepth 100000 in
theorem f_freeOf (l : Launch) (hfl : l.stackTraces = false) (D : va_G) (tE : Nat) (sz : Nat) (h0 : Nat) (h1 : Nat) (h2 : Nat) (h3 : Nat) (h4 : Nat) (a1 : Nat) (a2 : Nat) (w1 : Nat) (w2 : Nat) (w3 : Nat) (w4 : Nat) (w5 : Nat) (p0 : Int32) (A : Nat → Prop) (hA0 : A = va_A [(h0, .inr (11, [.ref h1, .ref h2, .ref h3, .ref h4, .ref a1, .ref a2, .int 0])), (h1, .inr (8, [.int 0, .int 0, .ref w1, .ref w2, .ref w3, .ref w4, .ref w5]))] sz) : vx_Met l yX5_freeOf wsX5_freeOf (yR 1 1 6) (yP D tE [(h0, .inr (11, [.ref h1, .ref h2, .ref h3, .ref h4, .ref a1, .ref a2, .int 0])), (h1, .inr (8, [.int 0, .int 0, .ref w1, .ref w2, .ref w3, .ref w4, .ref w5]))] [] sz [.ref h0, .int p0]) (va_Qi (S := Unit) (fun (r : Int32) (u : Unit) => False) (fun (u : Unit) (t : State) => yB D A ((fun (u : Unit) => [(h0, .inr (11, [.ref h1, .ref h2, .ref h3, .ref h4, .ref a1, .ref a2, .int 0])), (h1, .inr (8, [.int 0, .int 0, .ref w1, .ref w2, .ref w3, .ref w4, .ref w5]))]) u) t) A) (vx_X (S := Unit) (fun _ => True) (fun E _ t => (fun (E : String) => E = "java/lang/IndexOutOfBoundsException") E ∧ yB D A [] t) A) 1 6 A := by
  refine vx_ofW (cc := cX5_freeOf) (maxL := 2) (ret := (some .int)) (by decide) rfl ?_
  intro p e s m args below meth c s₁ B hml hout hv
  obtain ⟨rfl, rfl, hP, hK, hD, hE, hA⟩ := y_start hA0 hv
  have hx := B.exec
  have hb := B.bytes
  have hr := B.returns
  have hts := atoms_spec (ws := wsX5_freeOf) B.pre
  have hown : s.vm.findClass RX5 = some m.cls := findClass_of_methodNamed B.named
  have hlocks := B.notSynchronized
  clear hA0 hv
  have hS : va_S A s.heap s.heap [] := va_S.rf
  have hl := lv_entry ([.ref h0, .int p0]) (n := 2) (Nat.le_of_ble_eq_true rfl)
  rw [lg_entry_eq]
  generalize (lg_sl ([.ref h0, .int p0]) ++ List.replicate (2 - (lg_sl ([.ref h0, .int p0])).length) Slot.unset).toArray = ls at hl ⊢
  have hl : lv_has ls 2 [(0, .ref h0), (1, .int p0)] := hl
  refine lv_aload_n hx hb dX5_freeOf_0 rfl (lv_at hl 0 rfl) ?_
  refine lv_iload_n hx hb dX5_freeOf_1 rfl (lv_at hl 1 rfl) ?_
  refine yx_v (wc := [(h0, .inr (11, [.ref h1, .ref h2, .ref h3, .ref h4, .ref a1, .ref a2, .int 0])), (h1, .inr (8, [.int 0, .int 0, .ref w1, .ref w2, .ref w3, .ref w4, .ref w5]))]) (wr := []) (vx_runV (As := [.int p0]) (rest := []) ⟨hx, hb, hml, hown, hts⟩ (c_requirePost l hfl D tE s.heap.size h0 h1 h2 h3 h4 a1 a2 w1 w2 w3 w4 w5 0 0 0 p0 (va_A [(h0, .inr (11, [.ref h1, .ref h2, .ref h3, .ref h4, .ref a1, .ref a2, .int 0])), (h1, .inr (8, [.int 0, .int 0, .ref w1, .ref w2, .ref w3, .ref w4, .ref w5]))] s.heap.size) rfl) (cwV 1 hts gX5_freeOf_X5_requirePost rfl rfl rfl (by decide +kernel) ⟨Nat.le_of_ble_eq_true rfl, Nat.le_of_ble_eq_true rfl⟩) (yPreV (wc := [(h0, .inr (11, [.ref h1, .ref h2, .ref h3, .ref h4, .ref a1, .ref a2, .int 0])), (h1, .inr (8, [.int 0, .int 0, .ref w1, .ref w2, .ref w3, .ref w4, .ref w5]))]) (tc := []) hK hP hD hS hA hE [0, 1] [] (by decide) rfl rfl (ci := 11) (q0 := 0) (q := (RX5, TX5, 7)) rfl rfl) rfl rfl hl.1 rfl (lv_room (Nat.le_of_ble_eq_true rfl)) dX5_freeOf_2 ⟨Nat.le_of_ble_eq_true rfl, Nat.le_of_ble_eq_true rfl⟩) hP hD hS hA [0, 1] [] rfl rfl (by decide) (by decide) (fun E ce q9 H locs hpx hP hD hS g1 g2 g3 => ?_) (fun u_2 H locs hw hP hD hS => ?_)
  · have hP : va_P D vwCl [(h0, .inr (11, [.ref h1, .ref h2, .ref h3, .ref h4, .ref a1, .ref a2, .int 0])), (h1, .inr (8, [.int 0, .int 0, .ref w1, .ref w2, .ref w3, .ref w4, .ref w5]))] H := hP
    have hD : va_D A [(h0, .inr (11, [.ref h1, .ref h2, .ref h3, .ref h4, .ref a1, .ref a2, .int 0])), (h1, .inr (8, [.int 0, .int 0, .ref w1, .ref w2, .ref w3, .ref w4, .ref w5]))] := hD
    have hpx : E = "java/lang/IndexOutOfBoundsException" ∧ (p0 < 0 ∨ 0 ≤ p0) := hpx
    exact y_out hout hlocks g1 g2 g3 hpx.1 (hP.sub [] rfl) (hD.sub [] (by decide) rfl) hS (Nat.le_of_ble_eq_true rfl) (Nat.le_of_ble_eq_true rfl)
  · have hP : va_P D vwCl [(h0, .inr (11, [.ref h1, .ref h2, .ref h3, .ref h4, .ref a1, .ref a2, .int 0])), (h1, .inr (8, [.int 0, .int 0, .ref w1, .ref w2, .ref w3, .ref w4, .ref w5]))] H := hP
    have hD : va_D A [(h0, .inr (11, [.ref h1, .ref h2, .ref h3, .ref h4, .ref a1, .ref a2, .int 0])), (h1, .inr (8, [.int 0, .int 0, .ref w1, .ref w2, .ref w3, .ref w4, .ref w5]))] := hD
    have hw : 0 ≤ p0 ∧ p0 < 0 := hw
    exact (y_no hw.1 hw.2).elim

set_option maxHeartbeats 4000000 in
set_option maxRecDepth 100000 in
theorem f_take (l : Launch) (hfl : l.stackTraces = false) (D : va_G) (tE : Nat) (sz : Nat) (h0 : Nat) (h1 : Nat) (h2 : Nat) (h3 : Nat) (h4 : Nat) (a1 : Nat) (a2 : Nat) (p0 : Int32) (A : Nat → Prop) (hA0 : A = va_A [(h0, .inr (11, [.ref h1, .ref h2, .ref h3, .ref h4, .ref a1, .ref a2, .int 0]))] sz) : vx_Met l yX5_take wsX5_take (yR 1 1 6) (yP D tE [(h0, .inr (11, [.ref h1, .ref h2, .ref h3, .ref h4, .ref a1, .ref a2, .int 0]))] [] sz [.ref h0, .int p0]) (va_Qi (S := Unit) (fun (r : Int32) (u : Unit) => False) (fun (u : Unit) (t : State) => yB D A ((fun (u : Unit) => [(h0, .inr (11, [.ref h1, .ref h2, .ref h3, .ref h4, .ref a1, .ref a2, .int 0]))]) u) t) A) (vx_X (S := Unit) (fun _ => True) (fun E _ t => (fun (E : String) => E = "java/lang/IndexOutOfBoundsException") E ∧ yB D A [] t) A) 1 6 A := by
  refine vx_ofW (cc := cX5_take) (maxL := 2) (ret := (some .int)) (by decide) rfl ?_
  intro p e s m args below meth c s₁ B hml hout hv
  obtain ⟨rfl, rfl, hP, hK, hD, hE, hA⟩ := y_start hA0 hv
  have hx := B.exec
  have hb := B.bytes
  have hr := B.returns
  have hts := atoms_spec (ws := wsX5_take) B.pre
  have hown : s.vm.findClass RX5 = some m.cls := findClass_of_methodNamed B.named
  have hlocks := B.notSynchronized
  clear hA0 hv
  have hS : va_S A s.heap s.heap [] := va_S.rf
  have hl := lv_entry ([.ref h0, .int p0]) (n := 2) (Nat.le_of_ble_eq_true rfl)
  rw [lg_entry_eq]
  generalize (lg_sl ([.ref h0, .int p0]) ++ List.replicate (2 - (lg_sl ([.ref h0, .int p0])).length) Slot.unset).toArray = ls at hl ⊢
  have hl : lv_has ls 2 [(0, .ref h0), (1, .int p0)] := hl
  refine lv_aload_n hx hb dX5_take_0 rfl (lv_at hl 0 rfl) ?_
  refine lv_iload_n hx hb dX5_take_1 rfl (lv_at hl 1 rfl) ?_
  refine yx_v (wc := [(h0, .inr (11, [.ref h1, .ref h2, .ref h3, .ref h4, .ref a1, .ref a2, .int 0]))]) (wr := []) (vx_runV (As := [.int p0]) (rest := []) ⟨hx, hb, hml, hown, hts⟩ (c_requireKept l hfl D tE s.heap.size h0 h1 h2 h3 h4 a1 a2 0 p0 (va_A [(h0, .inr (11, [.ref h1, .ref h2, .ref h3, .ref h4, .ref a1, .ref a2, .int 0]))] s.heap.size) rfl) (cwV 1 hts gX5_take_X5_requireKept rfl rfl rfl (by decide +kernel) ⟨Nat.le_of_ble_eq_true rfl, Nat.le_of_ble_eq_true rfl⟩) (yPreV (wc := [(h0, .inr (11, [.ref h1, .ref h2, .ref h3, .ref h4, .ref a1, .ref a2, .int 0]))]) (tc := []) hK hP hD hS hA hE [0] [] (by decide) rfl rfl (ci := 11) (q0 := 0) (q := (RX5, TX5, 7)) rfl rfl) rfl rfl hl.1 rfl (lv_room (Nat.le_of_ble_eq_true rfl)) dX5_take_2 ⟨Nat.le_of_ble_eq_true rfl, Nat.le_of_ble_eq_true rfl⟩) hP hD hS hA [0] [] rfl rfl (by decide) (by decide) (fun E ce q9 H locs hpx hP hD hS g1 g2 g3 => ?_) (fun u_2 H locs hw hP hD hS => ?_)
  · have hP : va_P D vwCl [(h0, .inr (11, [.ref h1, .ref h2, .ref h3, .ref h4, .ref a1, .ref a2, .int 0]))] H := hP
    have hD : va_D A [(h0, .inr (11, [.ref h1, .ref h2, .ref h3, .ref h4, .ref a1, .ref a2, .int 0]))] := hD
    have hpx : E = "java/lang/IndexOutOfBoundsException" ∧ (p0 < 0 ∨ 0 ≤ p0) := hpx
    exact y_out hout hlocks g1 g2 g3 hpx.1 (hP.sub [] rfl) (hD.sub [] (by decide) rfl) hS (Nat.le_of_ble_eq_true rfl) (Nat.le_of_ble_eq_true rfl)
  · have hP : va_P D vwCl [(h0, .inr (11, [.ref h1, .ref h2, .ref h3, .ref h4, .ref a1, .ref a2, .int 0]))] H := hP
    have hD : va_D A [(h0, .inr (11, [.ref h1, .ref h2, .ref h3, .ref h4, .ref a1, .ref a2, .int 0]))] := hD
    have hw : 0 ≤ p0 ∧ p0 < 0 := hw
    exact (y_no hw.1 hw.2).elim

set_option maxHeartbeats 4000000 in
set_option maxRecDepth 100000 in
theorem f_keptPost (l : Launch) (hfl : l.stackTraces = false) (D : va_G) (tE : Nat) (sz : Nat) (h0 : Nat) (h1 : Nat) (h2 : Nat) (h3 : Nat) (h4 : Nat) (a1 : Nat) (a2 : Nat) (p0 : Int32) (p1 : Int32) (A : Nat → Prop) (hA0 : A = va_A [(h0, .inr (11, [.ref h1, .ref h2, .ref h3, .ref h4, .ref a1, .ref a2, .int 0]))] sz) : vx_Met l yX5_keptPost wsX5_keptPost (yR 1 1 6) (yP D tE [(h0, .inr (11, [.ref h1, .ref h2, .ref h3, .ref h4, .ref a1, .ref a2, .int 0]))] [] sz [.ref h0, .int p0, .int p1]) (va_Qi (S := Unit) (fun (r : Int32) (u : Unit) => False) (fun (u : Unit) (t : State) => yB D A ((fun (u : Unit) => [(h0, .inr (11, [.ref h1, .ref h2, .ref h3, .ref h4, .ref a1, .ref a2, .int 0]))]) u) t) A) (vx_X (S := Unit) (fun _ => True) (fun E _ t => (fun (E : String) => E = "java/lang/IndexOutOfBoundsException") E ∧ yB D A [] t) A) 1 6 A := by
  refine vx_ofW (cc := cX5_keptPost) (maxL := 3) (ret := (some .int)) (by decide) rfl ?_
  intro p e s m args below meth c s₁ B hml hout hv
  obtain ⟨rfl, rfl, hP, hK, hD, hE, hA⟩ := y_start hA0 hv
  have hx := B.exec
  have hb := B.bytes
  have hr := B.returns
  have hts := atoms_spec (ws := wsX5_keptPost) B.pre
  have hown : s.vm.findClass RX5 = some m.cls := findClass_of_methodNamed B.named
  have hlocks := B.notSynchronized
  clear hA0 hv
  have hS : va_S A s.heap s.heap [] := va_S.rf
  have hl := lv_entry ([.ref h0, .int p0, .int p1]) (n := 3) (Nat.le_of_ble_eq_true rfl)
  rw [lg_entry_eq]
  generalize (lg_sl ([.ref h0, .int p0, .int p1]) ++ List.replicate (3 - (lg_sl ([.ref h0, .int p0, .int p1])).length) Slot.unset).toArray = ls at hl ⊢
  have hl : lv_has ls 3 [(0, .ref h0), (1, .int p0), (2, .int p1)] := hl
  refine lv_aload_n hx hb dX5_keptPost_0 rfl (lv_at hl 0 rfl) ?_
  refine lv_iload_n hx hb dX5_keptPost_1 rfl (lv_at hl 1 rfl) ?_
  refine yx_v (wc := [(h0, .inr (11, [.ref h1, .ref h2, .ref h3, .ref h4, .ref a1, .ref a2, .int 0]))]) (wr := []) (vx_runV (As := [.int p0]) (rest := []) ⟨hx, hb, hml, hown, hts⟩ (c_requireKept l hfl D tE s.heap.size h0 h1 h2 h3 h4 a1 a2 0 p0 (va_A [(h0, .inr (11, [.ref h1, .ref h2, .ref h3, .ref h4, .ref a1, .ref a2, .int 0]))] s.heap.size) rfl) (cwV 1 hts gX5_keptPost_X5_requireKept rfl rfl rfl (by decide +kernel) ⟨Nat.le_of_ble_eq_true rfl, Nat.le_of_ble_eq_true rfl⟩) (yPreV (wc := [(h0, .inr (11, [.ref h1, .ref h2, .ref h3, .ref h4, .ref a1, .ref a2, .int 0]))]) (tc := []) hK hP hD hS hA hE [0] [] (by decide) rfl rfl (ci := 11) (q0 := 0) (q := (RX5, TX5, 7)) rfl rfl) rfl rfl hl.1 rfl (lv_room (Nat.le_of_ble_eq_true rfl)) dX5_keptPost_2 ⟨Nat.le_of_ble_eq_true rfl, Nat.le_of_ble_eq_true rfl⟩) hP hD hS hA [0] [] rfl rfl (by decide) (by decide) (fun E ce q9 H locs hpx hP hD hS g1 g2 g3 => ?_) (fun u_2 H locs hw hP hD hS => ?_)
  · have hP : va_P D vwCl [(h0, .inr (11, [.ref h1, .ref h2, .ref h3, .ref h4, .ref a1, .ref a2, .int 0]))] H := hP
    have hD : va_D A [(h0, .inr (11, [.ref h1, .ref h2, .ref h3, .ref h4, .ref a1, .ref a2, .int 0]))] := hD
    have hpx : E = "java/lang/IndexOutOfBoundsException" ∧ (p0 < 0 ∨ 0 ≤ p0) := hpx
    exact y_out hout hlocks g1 g2 g3 hpx.1 (hP.sub [] rfl) (hD.sub [] (by decide) rfl) hS (Nat.le_of_ble_eq_true rfl) (Nat.le_of_ble_eq_true rfl)
  · have hP : va_P D vwCl [(h0, .inr (11, [.ref h1, .ref h2, .ref h3, .ref h4, .ref a1, .ref a2, .int 0]))] H := hP
    have hD : va_D A [(h0, .inr (11, [.ref h1, .ref h2, .ref h3, .ref h4, .ref a1, .ref a2, .int 0]))] := hD
    have hw : 0 ≤ p0 ∧ p0 < 0 := hw
    exact (y_no hw.1 hw.2).elim

set_option maxHeartbeats 4000000 in
set_option maxRecDepth 100000 in
theorem f_leadLength (l : Launch) (hfl : l.stackTraces = false) (D : va_G) (tE : Nat) (sz : Nat) (h0 : Nat) (h1 : Nat) (h2 : Nat) (h3 : Nat) (h4 : Nat) (a1 : Nat) (a2 : Nat) (p0 : Int32) (p1 : Int32) (A : Nat → Prop) (hA0 : A = va_A [(h0, .inr (11, [.ref h1, .ref h2, .ref h3, .ref h4, .ref a1, .ref a2, .int 0]))] sz) : vx_Met l yX5_leadLength wsX5_leadLength (yR 1 1 6) (yP D tE [(h0, .inr (11, [.ref h1, .ref h2, .ref h3, .ref h4, .ref a1, .ref a2, .int 0]))] [] sz [.ref h0, .int p0, .int p1]) (va_Qi (S := Unit) (fun (r : Int32) (u : Unit) => False) (fun (u : Unit) (t : State) => yB D A ((fun (u : Unit) => [(h0, .inr (11, [.ref h1, .ref h2, .ref h3, .ref h4, .ref a1, .ref a2, .int 0]))]) u) t) A) (vx_X (S := Unit) (fun _ => True) (fun E _ t => (fun (E : String) => E = "java/lang/IndexOutOfBoundsException") E ∧ yB D A [] t) A) 1 6 A := by
  refine vx_ofW (cc := cX5_leadLength) (maxL := 4) (ret := (some .int)) (by decide) rfl ?_
  intro p e s m args below meth c s₁ B hml hout hv
  obtain ⟨rfl, rfl, hP, hK, hD, hE, hA⟩ := y_start hA0 hv
  have hx := B.exec
  have hb := B.bytes
  have hr := B.returns
  have hts := atoms_spec (ws := wsX5_leadLength) B.pre
  have hown : s.vm.findClass RX5 = some m.cls := findClass_of_methodNamed B.named
  have hlocks := B.notSynchronized
  clear hA0 hv
  have hS : va_S A s.heap s.heap [] := va_S.rf
  have hl := lv_entry ([.ref h0, .int p0, .int p1]) (n := 4) (Nat.le_of_ble_eq_true rfl)
  rw [lg_entry_eq]
  generalize (lg_sl ([.ref h0, .int p0, .int p1]) ++ List.replicate (4 - (lg_sl ([.ref h0, .int p0, .int p1])).length) Slot.unset).toArray = ls at hl ⊢
  have hl : lv_has ls 4 [(0, .ref h0), (1, .int p0), (2, .int p1)] := hl
  refine lv_aload_n hx hb dX5_leadLength_0 rfl (lv_at hl 0 rfl) ?_
  refine lv_iload_n hx hb dX5_leadLength_1 rfl (lv_at hl 1 rfl) ?_
  refine yx_v (wc := [(h0, .inr (11, [.ref h1, .ref h2, .ref h3, .ref h4, .ref a1, .ref a2, .int 0]))]) (wr := []) (vx_runV (As := [.int p0]) (rest := []) ⟨hx, hb, hml, hown, hts⟩ (c_requireKept l hfl D tE s.heap.size h0 h1 h2 h3 h4 a1 a2 0 p0 (va_A [(h0, .inr (11, [.ref h1, .ref h2, .ref h3, .ref h4, .ref a1, .ref a2, .int 0]))] s.heap.size) rfl) (cwV 1 hts gX5_leadLength_X5_requireKept rfl rfl rfl (by decide +kernel) ⟨Nat.le_of_ble_eq_true rfl, Nat.le_of_ble_eq_true rfl⟩) (yPreV (wc := [(h0, .inr (11, [.ref h1, .ref h2, .ref h3, .ref h4, .ref a1, .ref a2, .int 0]))]) (tc := []) hK hP hD hS hA hE [0] [] (by decide) rfl rfl (ci := 11) (q0 := 0) (q := (RX5, TX5, 7)) rfl rfl) rfl rfl hl.1 rfl (lv_room (Nat.le_of_ble_eq_true rfl)) dX5_leadLength_2 ⟨Nat.le_of_ble_eq_true rfl, Nat.le_of_ble_eq_true rfl⟩) hP hD hS hA [0] [] rfl rfl (by decide) (by decide) (fun E ce q9 H locs hpx hP hD hS g1 g2 g3 => ?_) (fun u_2 H locs hw hP hD hS => ?_)
  · have hP : va_P D vwCl [(h0, .inr (11, [.ref h1, .ref h2, .ref h3, .ref h4, .ref a1, .ref a2, .int 0]))] H := hP
    have hD : va_D A [(h0, .inr (11, [.ref h1, .ref h2, .ref h3, .ref h4, .ref a1, .ref a2, .int 0]))] := hD
    have hpx : E = "java/lang/IndexOutOfBoundsException" ∧ (p0 < 0 ∨ 0 ≤ p0) := hpx
    exact y_out hout hlocks g1 g2 g3 hpx.1 (hP.sub [] rfl) (hD.sub [] (by decide) rfl) hS (Nat.le_of_ble_eq_true rfl) (Nat.le_of_ble_eq_true rfl)
  · have hP : va_P D vwCl [(h0, .inr (11, [.ref h1, .ref h2, .ref h3, .ref h4, .ref a1, .ref a2, .int 0]))] H := hP
    have hD : va_D A [(h0, .inr (11, [.ref h1, .ref h2, .ref h3, .ref h4, .ref a1, .ref a2, .int 0]))] := hD
    have hw : 0 ≤ p0 ∧ p0 < 0 := hw
    exact (y_no hw.1 hw.2).elim
