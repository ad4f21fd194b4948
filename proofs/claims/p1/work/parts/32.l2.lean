theorem yz_w_addApplicant_26 (p0 : Int32) (h0 : (p0 < 1 ∨ 9 < p0)) : (p0 < 1 ∨ 9 < p0) := by grind
theorem yz_w_addApplicant_27 (p0 : Int32) (h0 : 1 ≤ p0 ∧ p0 ≤ 9) : 1 ≤ p0 ∧ p0 ≤ 9 := by grind
theorem ktL_addApplicant : Cond.codeWith yL_addApplicant cL_addApplicant 4 (some .int) [(0, 9, 12, 13), (0, 9, 15, 15)] ∈ wsL_addApplicant := by unfold wsL_addApplicant; exact List.mem_cons_self
theorem kL_addApplicant_1 : Cond.classLink RL 13 "java/lang/IllegalArgumentException" ∈ wsL_addApplicant := List.mem_of_getElem? (i := 1) (by decide +kernel)
set_option maxHeartbeats 4000000 in
set_option maxRecDepth 100000 in
theorem w_addApplicant (l : Launch) (hfl : l.stackTraces = false) (D : va_G) (tE : Nat) (sz : Nat) (h0 : Nat) (h1 : Nat) (h2 : Nat) (h3 : Nat) (h4 : Nat) (a1 : Nat) (a2 : Nat) (w1 : Nat) (w2 : Nat) (w3 : Nat) (w4 : Nat) (w5 : Nat) (np : Int32) (cI : ClassId) (fw : Nat → Int32) (o1 : Nat) (cJ : ClassId) (fo : Nat → Int64) (p0 : Int32) (A : Nat → Prop) (hA0 : A = va_A [(h0, .inr (11, [.ref h1, .ref h2, .ref h3, .ref h4, .ref a1, .ref a2, .int 0])), (h1, .inr (8, [.int 0, .int np, .ref w1, .ref w2, .ref w3, .ref w4, .ref w5])), (w1, .inl (cI, 10, .inl (fw))), (o1, .inl (cJ, 1, .inr (.inl (fo))))] sz) : Met l yL_addApplicant wsL_addApplicant (yR 2 1 6) (yP D tE [(h0, .inr (11, [.ref h1, .ref h2, .ref h3, .ref h4, .ref a1, .ref a2, .int 0])), (h1, .inr (8, [.int 0, .int np, .ref w1, .ref w2, .ref w3, .ref w4, .ref w5])), (w1, .inl (cI, 10, .inl (fw))), (o1, .inl (cJ, 1, .inr (.inl (fo))))] [(cI, .int), (cJ, .long)] sz [.ref h0, .int p0, .ref o1]) (va_Qi (S := Nat → Int64) (fun (r : Int32) (u : Nat → Int64) => (r = 0 ∧ u 0 = 0 ∧ 1 ≤ p0 ∧ p0 ≤ 9) ∨ (r = 1 ∧ (p0 < 1 ∨ 9 < p0))) (fun (u : Nat → Int64) (t : State) => yB D A ((fun (u : Nat → Int64) => [(o1, .inl (cJ, 1, .inr (.inl (u))))]) u) t) A) 1 6 A := by
  refine va_MetW (cc := cL_addApplicant) (maxL := 4) (ret := (some .int)) (hh := [(0, 9, 12, 13), (0, 9, 15, 15)]) (by decide) rfl ?_
  intro p e s m args below meth c s₁ B hml hv
  obtain ⟨rfl, rfl, hP, hK, hD, hE, hA⟩ := y_start hA0 hv
  have hx := B.exec
  have hb := B.bytes
  have hr := B.returns
  have hts := atoms_spec (ws := wsL_addApplicant) B.pre
  have hown : s.vm.findClass RL = some m.cls := findClass_of_methodNamed B.named
  have hlocks := B.notSynchronized
  have htab : c.exceptionTable.toList = tableOf [(0, 9, 12, 13), (0, 9, 15, 15)] := vx_table (x := yL_addApplicant) (y := yL_addApplicant) (bytes := cL_addApplicant) (maxL' := 4) (ret' := (some .int)) (hh := [(0, 9, 12, 13), (0, 9, 15, 15)]) B (hts _ ktL_addApplicant)
  clear hA0 hv
  have hS : va_S A s.heap s.heap [] := va_S.rf
  have hl := lv_entry ([.ref h0, .int p0, .ref o1]) (n := 4) (Nat.le_of_ble_eq_true rfl)
  rw [lg_entry_eq]
  generalize (lg_sl ([.ref h0, .int p0, .ref o1]) ++ List.replicate (4 - (lg_sl ([.ref h0, .int p0, .ref o1])).length) Slot.unset).toArray = ls at hl ⊢
  have hl : lv_has ls 4 [(0, .ref h0), (1, .int p0), (2, .ref o1)] := hl
  refine lv_aload_n hx hb dL_addApplicant_0 rfl (lv_at hl 2 rfl) ?_
  refine lv_iconst (v := (0)) hx hb dL_addApplicant_1 (by decide) ?_
  refine lv_aload_n hx hb dL_addApplicant_2 rfl (lv_at hl 0 rfl) ?_
  refine lv_iload_n hx hb dL_addApplicant_3 rfl (lv_at hl 1 rfl) ?_
  refine yx_i (wc := [(h0, .inr (11, [.ref h1, .ref h2, .ref h3, .ref h4, .ref a1, .ref a2, .int 0])), (h1, .inr (8, [.int 0, .int np, .ref w1, .ref w2, .ref w3, .ref w4, .ref w5])), (w1, .inl (cI, 10, .inl (fw)))]) (wr := [(o1, .inl (cJ, 1, .inr (.inl (fo))))]) (vx_runV (As := [.int p0]) (rest := [.int 0, .ref o1]) ⟨hx, hb, hml, hown, hts⟩ (f_addApplicant l hfl D tE s.heap.size h0 h1 h2 h3 h4 a1 a2 w1 w2 w3 w4 w5 np cI fw p0 (va_A [(h0, .inr (11, [.ref h1, .ref h2, .ref h3, .ref h4, .ref a1, .ref a2, .int 0])), (h1, .inr (8, [.int 0, .int np, .ref w1, .ref w2, .ref w3, .ref w4, .ref w5])), (w1, .inl (cI, 10, .inl (fw)))] s.heap.size) rfl) (cwV 1 hts gL_addApplicant_X5_addApplicant rfl rfl rfl (by decide +kernel) ⟨Nat.le_of_ble_eq_true rfl, Nat.le_of_ble_eq_true rfl⟩) (yPreV (wc := [(h0, .inr (11, [.ref h1, .ref h2, .ref h3, .ref h4, .ref a1, .ref a2, .int 0])), (h1, .inr (8, [.int 0, .int np, .ref w1, .ref w2, .ref w3, .ref w4, .ref w5])), (w1, .inl (cI, 10, .inl (fw)))]) (tc := [(cI, .int)]) hK hP hD hS hA hE [0, 1, 2] [0] (by decide) rfl rfl (ci := 11) (q0 := 0) (q := (RX5, TX5, 7)) rfl rfl) rfl rfl hl.1 rfl (lv_room (Nat.le_of_ble_eq_true rfl)) dL_addApplicant_4 ⟨Nat.le_of_ble_eq_true rfl, Nat.le_of_ble_eq_true rfl⟩) hP hD hS hA [0, 1, 2] [3] rfl rfl (by decide) (by decide) (fun E ce q9 H locs hpx hP hD hS g1 g2 g3 => ?_) (fun r_1 u_2 H locs hw hP hD hS => ?_)
  · have hP : va_P D vwCl [(o1, .inl (cJ, 1, .inr (.inl (fo))))] H := hP
    have hD : va_D A [(o1, .inl (cJ, 1, .inr (.inl (fo))))] := hD
    have hpx : E = "java/lang/IllegalArgumentException" ∧ (p0 < 1 ∨ 9 < p0) := hpx
    obtain ⟨rfl, hpy⟩ := hpx
    refine vx_catch (E := "java/lang/IllegalArgumentException") (name := "java/lang/IllegalArgumentException") hown [] (⟨0, 9, 12, 13⟩ : ExceptionTableEntry) [(⟨0, 9, 15, 15⟩ : ExceptionTableEntry)] (by rw [htab]; rfl) (fun z hz => nomatch hz) (by decide) (by decide) (hts _ kL_addApplicant_1) (va_Nw.use rfl (hE.2.1 _ (by decide))) g1 g2 g3 ?_
    refine lv_astore_n (lv' := [(3, .ref q9), (0, .ref h0), (1, .int p0), (2, .ref o1)]) hx hb dL_addApplicant_12 rfl hl (by decide) rfl (fun ls hl => ?_)
    refine lv_iconst (v := (1)) hx hb dL_addApplicant_13 (by decide) ?_
    exact y_iret hx hb hr hlocks fo (Or.inr ⟨rfl, (yz_w_addApplicant_26 p0 hpy)⟩) hP hD hS (Nat.le_of_ble_eq_true rfl) (Nat.le_of_ble_eq_true rfl) dL_addApplicant_14
  · have hP : va_P D vwCl [(o1, .inl (cJ, 1, .inr (.inl (fo))))] H := hP
    have hD : va_D A [(o1, .inl (cJ, 1, .inr (.inl (fo))))] := hD
    have hw : r_1 = 0 ∧ 1 ≤ p0 ∧ p0 ≤ 9 := hw
    rcases hw with ⟨hr9, hw9⟩
    · subst hr9
      have w_3 : 1 ≤ p0 ∧ p0 ≤ 9 := hw9
      refine lv_i2l (v := 0) hx hb dL_addApplicant_7 (by decide) ?_
      refine va_last hx hb hK hP hD hS 0 1 rfl rfl (by unfold vp_in; decide) dL_addApplicant_8 (fun H locs hP hD hS => ?_)
      obtain ⟨f_4, ef_4⟩ : ∃ g9, g9 = vp_updL fo (0 : Int32).toNatClampNeg 0 := ⟨_, rfl⟩
      have hP : va_P D vwCl [(o1, .inl (cJ, 1, .inr (.inl (f_4))))] H := by rw [ef_4]; exact hP
      have hD : va_D A [(o1, .inl (cJ, 1, .inr (.inl (f_4))))] := by rw [ef_4]; exact hD
      refine lv_goto (tgt := 18) hx hb dL_addApplicant_9 (by decide) ?_
      refine lv_iconst (v := (0)) hx hb dL_addApplicant_18 (by decide) ?_
      exact y_iret hx hb hr hlocks f_4 (Or.inl ⟨rfl, y_up ef_4, (yz_w_addApplicant_27 p0 w_3)⟩) hP hD hS (Nat.le_of_ble_eq_true rfl) (Nat.le_of_ble_eq_true rfl) dL_addApplicant_19
theorem yz_w_addPost_28 (p0 : Int32) (h0 : (p0 < 1 ∨ 4 < p0)) : (p0 < 1 ∨ 4 < p0) := by grind
theorem yz_w_addPost_29 (p0 : Int32) (h0 : 1 ≤ p0 ∧ p0 ≤ 4) : 1 ≤ p0 ∧ p0 ≤ 4 := by grind
theorem ktL_addPost : Cond.codeWith yL_addPost cL_addPost 4 (some .int) [(0, 9, 12, 13), (0, 9, 15, 15)] ∈ wsL_addPost := by unfold wsL_addPost; exact List.mem_cons_self
theorem kL_addPost_1 : Cond.classLink RL 13 "java/lang/IllegalArgumentException" ∈ wsL_addPost := List.mem_of_getElem? (i := 1) (by decide +kernel)
set_option maxHeartbeats 4000000 in
set_option maxRecDepth 100000 in
theorem w_addPost (l : Launch) (hfl : l.stackTraces = false) (D : va_G) (tE : Nat) (sz : Nat) (h0 : Nat) (h1 : Nat) (h2 : Nat) (h3 : Nat) (h4 : Nat) (a1 : Nat) (a2 : Nat) (w1 : Nat) (w2 : Nat) (w3 : Nat) (w4 : Nat) (w5 : Nat) (na : Int32) (cI : ClassId) (fw : Nat → Int32) (o1 : Nat) (cJ : ClassId) (fo : Nat → Int64) (p0 : Int32) (A : Nat → Prop) (hA0 : A = va_A [(h0, .inr (11, [.ref h1, .ref h2, .ref h3, .ref h4, .ref a1, .ref a2, .int 0])), (h1, .inr (8, [.int na, .int 0, .ref w1, .ref w2, .ref w3, .ref w4, .ref w5])), (w2, .inl (cI, 10, .inl (fw))), (o1, .inl (cJ, 1, .inr (.inl (fo))))] sz) : Met l yL_addPost wsL_addPost (yR 2 1 6) (yP D tE [(h0, .inr (11, [.ref h1, .ref h2, .ref h3, .ref h4, .ref a1, .ref a2, .int 0])), (h1, .inr (8, [.int na, .int 0, .ref w1, .ref w2, .ref w3, .ref w4, .ref w5])), (w2, .inl (cI, 10, .inl (fw))), (o1, .inl (cJ, 1, .inr (.inl (fo))))] [(cI, .int), (cJ, .long)] sz [.ref h0, .int p0, .ref o1]) (va_Qi (S := Nat → Int64) (fun (r : Int32) (u : Nat → Int64) => (r = 0 ∧ u 0 = 0 ∧ 1 ≤ p0 ∧ p0 ≤ 4) ∨ (r = 1 ∧ (p0 < 1 ∨ 4 < p0))) (fun (u : Nat → Int64) (t : State) => yB D A ((fun (u : Nat → Int64) => [(o1, .inl (cJ, 1, .inr (.inl (u))))]) u) t) A) 1 6 A := by
  refine va_MetW (cc := cL_addPost) (maxL := 4) (ret := (some .int)) (hh := [(0, 9, 12, 13), (0, 9, 15, 15)]) (by decide) rfl ?_
  intro p e s m args below meth c s₁ B hml hv
  obtain ⟨rfl, rfl, hP, hK, hD, hE, hA⟩ := y_start hA0 hv
  have hx := B.exec
  have hb := B.bytes
  have hr := B.returns
  have hts := atoms_spec (ws := wsL_addPost) B.pre
  have hown : s.vm.findClass RL = some m.cls := findClass_of_methodNamed B.named
  have hlocks := B.notSynchronized
  have htab : c.exceptionTable.toList = tableOf [(0, 9, 12, 13), (0, 9, 15, 15)] := vx_table (x := yL_addPost) (y := yL_addPost) (bytes := cL_addPost) (maxL' := 4) (ret' := (some .int)) (hh := [(0, 9, 12, 13), (0, 9, 15, 15)]) B (hts _ ktL_addPost)
  clear hA0 hv
  have hS : va_S A s.heap s.heap [] := va_S.rf
  have hl := lv_entry ([.ref h0, .int p0, .ref o1]) (n := 4) (Nat.le_of_ble_eq_true rfl)
  rw [lg_entry_eq]
  generalize (lg_sl ([.ref h0, .int p0, .ref o1]) ++ List.replicate (4 - (lg_sl ([.ref h0, .int p0, .ref o1])).length) Slot.unset).toArray = ls at hl ⊢
  have hl : lv_has ls 4 [(0, .ref h0), (1, .int p0), (2, .ref o1)] := hl
  refine lv_aload_n hx hb dL_addPost_0 rfl (lv_at hl 2 rfl) ?_
  refine lv_iconst (v := (0)) hx hb dL_addPost_1 (by decide) ?_
  refine lv_aload_n hx hb dL_addPost_2 rfl (lv_at hl 0 rfl) ?_
  refine lv_iload_n hx hb dL_addPost_3 rfl (lv_at hl 1 rfl) ?_
  refine yx_i (wc := [(h0, .inr (11, [.ref h1, .ref h2, .ref h3, .ref h4, .ref a1, .ref a2, .int 0])), (h1, .inr (8, [.int na, .int 0, .ref w1, .ref w2, .ref w3, .ref w4, .ref w5])), (w2, .inl (cI, 10, .inl (fw)))]) (wr := [(o1, .inl (cJ, 1, .inr (.inl (fo))))]) (vx_runV (As := [.int p0]) (rest := [.int 0, .ref o1]) ⟨hx, hb, hml, hown, hts⟩ (f_addPost l hfl D tE s.heap.size h0 h1 h2 h3 h4 a1 a2 w1 w2 w3 w4 w5 na cI fw p0 (va_A [(h0, .inr (11, [.ref h1, .ref h2, .ref h3, .ref h4, .ref a1, .ref a2, .int 0])), (h1, .inr (8, [.int na, .int 0, .ref w1, .ref w2, .ref w3, .ref w4, .ref w5])), (w2, .inl (cI, 10, .inl (fw)))] s.heap.size) rfl) (cwV 1 hts gL_addPost_X5_addPost rfl rfl rfl (by decide +kernel) ⟨Nat.le_of_ble_eq_true rfl, Nat.le_of_ble_eq_true rfl⟩) (yPreV (wc := [(h0, .inr (11, [.ref h1, .ref h2, .ref h3, .ref h4, .ref a1, .ref a2, .int 0])), (h1, .inr (8, [.int na, .int 0, .ref w1, .ref w2, .ref w3, .ref w4, .ref w5])), (w2, .inl (cI, 10, .inl (fw)))]) (tc := [(cI, .int)]) hK hP hD hS hA hE [0, 1, 2] [0] (by decide) rfl rfl (ci := 11) (q0 := 0) (q := (RX5, TX5, 7)) rfl rfl) rfl rfl hl.1 rfl (lv_room (Nat.le_of_ble_eq_true rfl)) dL_addPost_4 ⟨Nat.le_of_ble_eq_true rfl, Nat.le_of_ble_eq_true rfl⟩) hP hD hS hA [0, 1, 2] [3] rfl rfl (by decide) (by decide) (fun E ce q9 H locs hpx hP hD hS g1 g2 g3 => ?_) (fun r_1 u_2 H locs hw hP hD hS => ?_)
  · have hP : va_P D vwCl [(o1, .inl (cJ, 1, .inr (.inl (fo))))] H := hP
    have hD : va_D A [(o1, .inl (cJ, 1, .inr (.inl (fo))))] := hD
    have hpx : E = "java/lang/IllegalArgumentException" ∧ (p0 < 1 ∨ 4 < p0) := hpx
    obtain ⟨rfl, hpy⟩ := hpx
    refine vx_catch (E := "java/lang/IllegalArgumentException") (name := "java/lang/IllegalArgumentException") hown [] (⟨0, 9, 12, 13⟩ : ExceptionTableEntry) [(⟨0, 9, 15, 15⟩ : ExceptionTableEntry)] (by rw [htab]; rfl) (fun z hz => nomatch hz) (by decide) (by decide) (hts _ kL_addPost_1) (va_Nw.use rfl (hE.2.1 _ (by decide))) g1 g2 g3 ?_
    refine lv_astore_n (lv' := [(3, .ref q9), (0, .ref h0), (1, .int p0), (2, .ref o1)]) hx hb dL_addPost_12 rfl hl (by decide) rfl (fun ls hl => ?_)
    refine lv_iconst (v := (1)) hx hb dL_addPost_13 (by decide) ?_
    exact y_iret hx hb hr hlocks fo (Or.inr ⟨rfl, (yz_w_addPost_28 p0 hpy)⟩) hP hD hS (Nat.le_of_ble_eq_true rfl) (Nat.le_of_ble_eq_true rfl) dL_addPost_14
  · have hP : va_P D vwCl [(o1, .inl (cJ, 1, .inr (.inl (fo))))] H := hP
    have hD : va_D A [(o1, .inl (cJ, 1, .inr (.inl (fo))))] := hD
    have hw : r_1 = 0 ∧ 1 ≤ p0 ∧ p0 ≤ 4 := hw
    rcases hw with ⟨hr9, hw9⟩
    · subst hr9
      have w_3 : 1 ≤ p0 ∧ p0 ≤ 4 := hw9
      refine lv_i2l (v := 0) hx hb dL_addPost_7 (by decide) ?_
      refine va_last hx hb hK hP hD hS 0 1 rfl rfl (by unfold vp_in; decide) dL_addPost_8 (fun H locs hP hD hS => ?_)
      obtain ⟨f_4, ef_4⟩ : ∃ g9, g9 = vp_updL fo (0 : Int32).toNatClampNeg 0 := ⟨_, rfl⟩
      have hP : va_P D vwCl [(o1, .inl (cJ, 1, .inr (.inl (f_4))))] H := by rw [ef_4]; exact hP
      have hD : va_D A [(o1, .inl (cJ, 1, .inr (.inl (f_4))))] := by rw [ef_4]; exact hD
      refine lv_goto (tgt := 18) hx hb dL_addPost_9 (by decide) ?_
      refine lv_iconst (v := (0)) hx hb dL_addPost_18 (by decide) ?_
      exact y_iret hx hb hr hlocks f_4 (Or.inl ⟨rfl, y_up ef_4, (yz_w_addPost_29 p0 w_3)⟩) hP hD hS (Nat.le_of_ble_eq_true rfl) (Nat.le_of_ble_eq_true rfl) dL_addPost_19
theorem yz_w_type_30 (p0 : Int32) (h0 : ¬ (p0 = 62 ∨ p0 = 61 ∨ (97 ≤ p0 ∧ p0 ≤ 106))) : ¬ (p0 = 62 ∨ p0 = 61 ∨ (97 ≤ p0 ∧ p0 ≤ 106)) := by grind
theorem yz_w_type_31 (p0 : Int32) (h0 : (p0 = 62 ∨ p0 = 61 ∨ (97 ≤ p0 ∧ p0 ≤ 106))) : (p0 = 62 ∨ p0 = 61 ∨ (97 ≤ p0 ∧ p0 ≤ 106)) := by grind
theorem ktL_type : Cond.codeWith yL_type cL_type 4 (some .int) [(0, 9, 12, 13), (0, 9, 15, 15)] ∈ wsL_type := by unfold wsL_type; exact List.mem_cons_self
theorem kL_type_1 : Cond.classLink RL 13 "java/lang/IllegalArgumentException" ∈ wsL_type := List.mem_of_getElem? (i := 1) (by decide +kernel)
set_option maxHeartbeats 4000000 in
set_option maxRecDepth 100000 in
theorem w_type (l : Launch) (hfl : l.stackTraces = false) (D : va_G) (tE : Nat) (sz : Nat) (h0 : Nat) (h1 : Nat) (h2 : Nat) (h3 : Nat) (h4 : Nat) (a1 : Nat) (a2 : Nat) (t1 : Nat) (t2 : Nat) (cC : ClassId) (fc : Nat → Int32) (o1 : Nat) (cJ : ClassId) (fo : Nat → Int64) (p0 : Int32) (A : Nat → Prop) (hA0 : A = va_A [(h0, .inr (11, [.ref h1, .ref h2, .ref h3, .ref h4, .ref a1, .ref a2, .int 0])), (h2, .inr (10, [.int 0, .ref t1, .ref t2])), (t2, .inl (cC, 20, .inl (fc))), (o1, .inl (cJ, 1, .inr (.inl (fo))))] sz) : Met l yL_type wsL_type (yR 3 1 6) (yP D tE [(h0, .inr (11, [.ref h1, .ref h2, .ref h3, .ref h4, .ref a1, .ref a2, .int 0])), (h2, .inr (10, [.int 0, .ref t1, .ref t2])), (t2, .inl (cC, 20, .inl (fc))), (o1, .inl (cJ, 1, .inr (.inl (fo))))] [(cC, .char), (cJ, .long)] sz [.ref h0, .int p0, .ref o1]) (va_Qi (S := Nat → Int64) (fun (r : Int32) (u : Nat → Int64) => (r = 0 ∧ u 0 = 1 ∧ (p0 = 62 ∨ p0 = 61 ∨ (97 ≤ p0 ∧ p0 ≤ 106))) ∨ (r = 1 ∧ ¬ (p0 = 62 ∨ p0 = 61 ∨ (97 ≤ p0 ∧ p0 ≤ 106)))) (fun (u : Nat → Int64) (t : State) => yB D A ((fun (u : Nat → Int64) => [(o1, .inl (cJ, 1, .inr (.inl (u))))]) u) t) A) 1 6 A := by
  refine va_MetW (cc := cL_type) (maxL := 4) (ret := (some .int)) (hh := [(0, 9, 12, 13), (0, 9, 15, 15)]) (by decide) rfl ?_
  intro p e s m args below meth c s₁ B hml hv
  obtain ⟨rfl, rfl, hP, hK, hD, hE, hA⟩ := y_start hA0 hv
  have hx := B.exec
  have hb := B.bytes
  have hr := B.returns
  have hts := atoms_spec (ws := wsL_type) B.pre
  have hown : s.vm.findClass RL = some m.cls := findClass_of_methodNamed B.named
  have hlocks := B.notSynchronized
  have htab : c.exceptionTable.toList = tableOf [(0, 9, 12, 13), (0, 9, 15, 15)] := vx_table (x := yL_type) (y := yL_type) (bytes := cL_type) (maxL' := 4) (ret' := (some .int)) (hh := [(0, 9, 12, 13), (0, 9, 15, 15)]) B (hts _ ktL_type)
  clear hA0 hv
  have hS : va_S A s.heap s.heap [] := va_S.rf
  have hl := lv_entry ([.ref h0, .int p0, .ref o1]) (n := 4) (Nat.le_of_ble_eq_true rfl)
  rw [lg_entry_eq]
  generalize (lg_sl ([.ref h0, .int p0, .ref o1]) ++ List.replicate (4 - (lg_sl ([.ref h0, .int p0, .ref o1])).length) Slot.unset).toArray = ls at hl ⊢
  have hl : lv_has ls 4 [(0, .ref h0), (1, .int p0), (2, .ref o1)] := hl
  refine lv_aload_n hx hb dL_type_0 rfl (lv_at hl 2 rfl) ?_
  refine lv_iconst (v := (0)) hx hb dL_type_1 (by decide) ?_
  refine lv_aload_n hx hb dL_type_2 rfl (lv_at hl 0 rfl) ?_
  refine lv_iload_n hx hb dL_type_3 rfl (lv_at hl 1 rfl) ?_
  refine yx_i (wc := [(h0, .inr (11, [.ref h1, .ref h2, .ref h3, .ref h4, .ref a1, .ref a2, .int 0])), (h2, .inr (10, [.int 0, .ref t1, .ref t2])), (t2, .inl (cC, 20, .inl (fc)))]) (wr := [(o1, .inl (cJ, 1, .inr (.inl (fo))))]) (vx_runV (As := [.int p0]) (rest := [.int 0, .ref o1]) ⟨hx, hb, hml, hown, hts⟩ (f_type l hfl D tE s.heap.size h0 h1 h2 h3 h4 a1 a2 t1 t2 cC fc p0 (va_A [(h0, .inr (11, [.ref h1, .ref h2, .ref h3, .ref h4, .ref a1, .ref a2, .int 0])), (h2, .inr (10, [.int 0, .ref t1, .ref t2])), (t2, .inl (cC, 20, .inl (fc)))] s.heap.size) rfl) (cwV 1 hts gL_type_X5_type rfl rfl rfl (by decide +kernel) ⟨Nat.le_of_ble_eq_true rfl, Nat.le_of_ble_eq_true rfl⟩) (yPreV (wc := [(h0, .inr (11, [.ref h1, .ref h2, .ref h3, .ref h4, .ref a1, .ref a2, .int 0])), (h2, .inr (10, [.int 0, .ref t1, .ref t2])), (t2, .inl (cC, 20, .inl (fc)))]) (tc := [(cC, .char)]) hK hP hD hS hA hE [0, 1, 2] [0] (by decide) rfl rfl (ci := 11) (q0 := 0) (q := (RX5, TX5, 7)) rfl rfl) rfl rfl hl.1 rfl (lv_room (Nat.le_of_ble_eq_true rfl)) dL_type_4 ⟨Nat.le_of_ble_eq_true rfl, Nat.le_of_ble_eq_true rfl⟩) hP hD hS hA [0, 1, 2] [3] rfl rfl (by decide) (by decide) (fun E ce q9 H locs hpx hP hD hS g1 g2 g3 => ?_) (fun r_1 u_2 H locs hw hP hD hS => ?_)
  · have hP : va_P D vwCl [(o1, .inl (cJ, 1, .inr (.inl (fo))))] H := hP
    have hD : va_D A [(o1, .inl (cJ, 1, .inr (.inl (fo))))] := hD
    have hpx : E = "java/lang/IllegalArgumentException" ∧ ¬ (p0 = 62 ∨ p0 = 61 ∨ (97 ≤ p0 ∧ p0 ≤ 106)) := hpx
    obtain ⟨rfl, hpy⟩ := hpx
    refine vx_catch (E := "java/lang/IllegalArgumentException") (name := "java/lang/IllegalArgumentException") hown [] (⟨0, 9, 12, 13⟩ : ExceptionTableEntry) [(⟨0, 9, 15, 15⟩ : ExceptionTableEntry)] (by rw [htab]; rfl) (fun z hz => nomatch hz) (by decide) (by decide) (hts _ kL_type_1) (va_Nw.use rfl (hE.2.1 _ (by decide))) g1 g2 g3 ?_
    refine lv_astore_n (lv' := [(3, .ref q9), (0, .ref h0), (1, .int p0), (2, .ref o1)]) hx hb dL_type_12 rfl hl (by decide) rfl (fun ls hl => ?_)
    refine lv_iconst (v := (1)) hx hb dL_type_13 (by decide) ?_
    exact y_iret hx hb hr hlocks fo (Or.inr ⟨rfl, (yz_w_type_30 p0 hpy)⟩) hP hD hS (Nat.le_of_ble_eq_true rfl) (Nat.le_of_ble_eq_true rfl) dL_type_14
  · have hP : va_P D vwCl [(o1, .inl (cJ, 1, .inr (.inl (fo))))] H := hP
    have hD : va_D A [(o1, .inl (cJ, 1, .inr (.inl (fo))))] := hD
    have hw : r_1 = 1 ∧ (p0 = 62 ∨ p0 = 61 ∨ (97 ≤ p0 ∧ p0 ≤ 106)) := hw
    rcases hw with ⟨hr9, hw9⟩
    · subst hr9
      have w_3 : (p0 = 62 ∨ p0 = 61 ∨ (97 ≤ p0 ∧ p0 ≤ 106)) := hw9
      refine lv_i2l (v := 1) hx hb dL_type_7 (by decide) ?_
      refine va_last hx hb hK hP hD hS 0 1 rfl rfl (by unfold vp_in; decide) dL_type_8 (fun H locs hP hD hS => ?_)
      obtain ⟨f_4, ef_4⟩ : ∃ g9, g9 = vp_updL fo (0 : Int32).toNatClampNeg 1 := ⟨_, rfl⟩
      have hP : va_P D vwCl [(o1, .inl (cJ, 1, .inr (.inl (f_4))))] H := by rw [ef_4]; exact hP
      have hD : va_D A [(o1, .inl (cJ, 1, .inr (.inl (f_4))))] := by rw [ef_4]; exact hD
      refine lv_goto (tgt := 18) hx hb dL_type_9 (by decide) ?_
      refine lv_iconst (v := (0)) hx hb dL_type_18 (by decide) ?_
      exact y_iret hx hb hr hlocks f_4 (Or.inl ⟨rfl, y_up ef_4, (yz_w_type_31 p0 w_3)⟩) hP hD hS (Nat.le_of_ble_eq_true rfl) (Nat.le_of_ble_eq_true rfl) dL_type_19
theorem yz_w_votes_32 (p0 : Int32) (p1 : Int32) (h0 : ¬ (p0 = -1 ∧ p1 = -1)) : ¬ (p0 = -1 ∧ p1 = -1) := by grind
theorem yz_w_votes_33 (p0 : Int32) (p1 : Int32) (h0 : p0 = -1 ∧ p1 = -1) : p0 = -1 ∧ p1 = -1 := by grind
theorem ktL_votes : Cond.codeWith yL_votes cL_votes 5 (some .int) [(0, 10, 13, 24)] ∈ wsL_votes := by unfold wsL_votes; exact List.mem_cons_self
theorem kL_votes_1 : Cond.classLink RL 24 "java/lang/IndexOutOfBoundsException" ∈ wsL_votes := List.mem_of_getElem? (i := 1) (by decide +kernel)
set_option maxHeartbeats 4000000 in
set_option maxRecDepth 100000 in
theorem w_votes (l : Launch) (hfl : l.stackTraces = false) (D : va_G) (tE : Nat) (sz : Nat) (h0 : Nat) (h1 : Nat) (h2 : Nat) (h3 : Nat) (h4 : Nat) (a1 : Nat) (a2 : Nat) (w1 : Nat) (w2 : Nat) (w3 : Nat) (w4 : Nat) (w5 : Nat) (np : Int32) (o1 : Nat) (cJ : ClassId) (fo : Nat → Int64) (p0 : Int32) (p1 : Int32) (A : Nat → Prop) (hA0 : A = va_A [(h0, .inr (11, [.ref h1, .ref h2, .ref h3, .ref h4, .ref a1, .ref a2, .int 0])), (h1, .inr (8, [.int 0, .int np, .ref w1, .ref w2, .ref w3, .ref w4, .ref w5])), (o1, .inl (cJ, 1, .inr (.inl (fo))))] sz) : Met l yL_votes wsL_votes (yR 3 2 12) (yP D tE [(h0, .inr (11, [.ref h1, .ref h2, .ref h3, .ref h4, .ref a1, .ref a2, .int 0])), (h1, .inr (8, [.int 0, .int np, .ref w1, .ref w2, .ref w3, .ref w4, .ref w5])), (o1, .inl (cJ, 1, .inr (.inl (fo))))] [(cJ, .long)] sz [.ref h0, .int p0, .int p1, .ref o1]) (va_Qi (S := Nat → Int64) (fun (r : Int32) (u : Nat → Int64) => (r = 0 ∧ u 0 = 0 ∧ p0 = -1 ∧ p1 = -1) ∨ (r = 1 ∧ ¬ (p0 = -1 ∧ p1 = -1))) (fun (u : Nat → Int64) (t : State) => yB D A ((fun (u : Nat → Int64) => [(o1, .inl (cJ, 1, .inr (.inl (u))))]) u) t) A) 2 12 A := by
  refine va_MetW (cc := cL_votes) (maxL := 5) (ret := (some .int)) (hh := [(0, 10, 13, 24)]) (by decide) rfl ?_
  intro p e s m args below meth c s₁ B hml hv
  obtain ⟨rfl, rfl, hP, hK, hD, hE, hA⟩ := y_start hA0 hv
  have hx := B.exec
  have hb := B.bytes
  have hr := B.returns
  have hts := atoms_spec (ws := wsL_votes) B.pre
  have hown : s.vm.findClass RL = some m.cls := findClass_of_methodNamed B.named
  have hlocks := B.notSynchronized
  have htab : c.exceptionTable.toList = tableOf [(0, 10, 13, 24)] := vx_table (x := yL_votes) (y := yL_votes) (bytes := cL_votes) (maxL' := 5) (ret' := (some .int)) (hh := [(0, 10, 13, 24)]) B (hts _ ktL_votes)
  clear hA0 hv
  have hS : va_S A s.heap s.heap [] := va_S.rf
  have hl := lv_entry ([.ref h0, .int p0, .int p1, .ref o1]) (n := 5) (Nat.le_of_ble_eq_true rfl)
  rw [lg_entry_eq]
  generalize (lg_sl ([.ref h0, .int p0, .int p1, .ref o1]) ++ List.replicate (5 - (lg_sl ([.ref h0, .int p0, .int p1, .ref o1])).length) Slot.unset).toArray = ls at hl ⊢
  have hl : lv_has ls 5 [(0, .ref h0), (1, .int p0), (2, .int p1), (3, .ref o1)] := hl
  refine lv_aload_n hx hb dL_votes_0 rfl (lv_at hl 3 rfl) ?_
  refine lv_iconst (v := (0)) hx hb dL_votes_1 (by decide) ?_
  refine lv_aload_n hx hb dL_votes_2 rfl (lv_at hl 0 rfl) ?_
  refine lv_iload_n hx hb dL_votes_3 rfl (lv_at hl 1 rfl) ?_
  refine lv_iload_n hx hb dL_votes_4 rfl (lv_at hl 2 rfl) ?_
  refine yx_i (wc := [(h0, .inr (11, [.ref h1, .ref h2, .ref h3, .ref h4, .ref a1, .ref a2, .int 0])), (h1, .inr (8, [.int 0, .int np, .ref w1, .ref w2, .ref w3, .ref w4, .ref w5]))]) (wr := [(o1, .inl (cJ, 1, .inr (.inl (fo))))]) (vx_runV (As := [.int p0, .int p1]) (rest := [.int 0, .ref o1]) ⟨hx, hb, hml, hown, hts⟩ (f_votes l hfl D tE s.heap.size h0 h1 h2 h3 h4 a1 a2 w1 w2 w3 w4 w5 np p0 p1 (va_A [(h0, .inr (11, [.ref h1, .ref h2, .ref h3, .ref h4, .ref a1, .ref a2, .int 0])), (h1, .inr (8, [.int 0, .int np, .ref w1, .ref w2, .ref w3, .ref w4, .ref w5]))] s.heap.size) rfl) (cwV 2 hts gL_votes_X5_votes rfl rfl rfl (by decide +kernel) ⟨Nat.le_of_ble_eq_true rfl, Nat.le_of_ble_eq_true rfl⟩) (yPreV (wc := [(h0, .inr (11, [.ref h1, .ref h2, .ref h3, .ref h4, .ref a1, .ref a2, .int 0])), (h1, .inr (8, [.int 0, .int np, .ref w1, .ref w2, .ref w3, .ref w4, .ref w5]))]) (tc := []) hK hP hD hS hA hE [0, 1] [] (by decide) rfl rfl (ci := 11) (q0 := 0) (q := (RX5, TX5, 7)) rfl rfl) rfl rfl hl.1 rfl (lv_room (Nat.le_of_ble_eq_true rfl)) dL_votes_5 ⟨Nat.le_of_ble_eq_true rfl, Nat.le_of_ble_eq_true rfl⟩) hP hD hS hA [0, 1] [2] rfl rfl (by decide) (by decide) (fun E ce q9 H locs hpx hP hD hS g1 g2 g3 => ?_) (fun r_1 u_2 H locs hw hP hD hS => ?_)
  · have hP : va_P D vwCl [(o1, .inl (cJ, 1, .inr (.inl (fo))))] H := hP
    have hD : va_D A [(o1, .inl (cJ, 1, .inr (.inl (fo))))] := hD
    have hpx : E = "java/lang/IndexOutOfBoundsException" ∧ ¬ (p0 = -1 ∧ p1 = -1) := hpx
    obtain ⟨rfl, hpy⟩ := hpx
    refine vx_catch (E := "java/lang/IndexOutOfBoundsException") (name := "java/lang/IndexOutOfBoundsException") hown [] (⟨0, 10, 13, 24⟩ : ExceptionTableEntry) [] (by rw [htab]; rfl) (fun z hz => nomatch hz) (by decide) (by decide) (hts _ kL_votes_1) (va_Nw.use rfl (hE.2.1 _ (by decide))) g1 g2 g3 ?_
    refine lv_astore (lv' := [(4, .ref q9), (0, .ref h0), (1, .int p0), (2, .int p1), (3, .ref o1)]) hx hb dL_votes_13 hl (by decide) rfl (fun ls hl => ?_)
    refine lv_iconst (v := (1)) hx hb dL_votes_15 (by decide) ?_
    exact y_iret hx hb hr hlocks fo (Or.inr ⟨rfl, (yz_w_votes_32 p0 p1 hpy)⟩) hP hD hS (Nat.le_of_ble_eq_true rfl) (Nat.le_of_ble_eq_true rfl) dL_votes_16
  · have hP : va_P D vwCl [(o1, .inl (cJ, 1, .inr (.inl (fo))))] H := hP
    have hD : va_D A [(o1, .inl (cJ, 1, .inr (.inl (fo))))] := hD
    have hw : r_1 = 0 ∧ p0 = -1 ∧ p1 = -1 := hw
    rcases hw with ⟨hr9, hw9⟩
    · subst hr9
      have w_3 : p0 = -1 ∧ p1 = -1 := hw9
      refine lv_i2l (v := 0) hx hb dL_votes_8 (by decide) ?_
      refine va_last hx hb hK hP hD hS 0 0 rfl rfl (by unfold vp_in; decide) dL_votes_9 (fun H locs hP hD hS => ?_)
      obtain ⟨f_4, ef_4⟩ : ∃ g9, g9 = vp_updL fo (0 : Int32).toNatClampNeg 0 := ⟨_, rfl⟩
      have hP : va_P D vwCl [(o1, .inl (cJ, 1, .inr (.inl (f_4))))] H := by rw [ef_4]; exact hP
      have hD : va_D A [(o1, .inl (cJ, 1, .inr (.inl (f_4))))] := by rw [ef_4]; exact hD
      refine lv_goto (tgt := 17) hx hb dL_votes_10 (by decide) ?_
      refine lv_iconst (v := (0)) hx hb dL_votes_17 (by decide) ?_
      exact y_iret hx hb hr hlocks f_4 (Or.inl ⟨rfl, y_up ef_4, (yz_w_votes_33 p0 p1 w_3)⟩) hP hD hS (Nat.le_of_ble_eq_true rfl) (Nat.le_of_ble_eq_true rfl) dL_votes_18
theorem yz_w_margin_34 (p0 : Int32) (p1 : Int32) (h0 : ¬ (p0 = -1 ∧ p1 = -1)) : ¬ (p0 = -1 ∧ p1 = -1) := by grind
theorem yz_w_margin_35 (p0 : Int32) (p1 : Int32) (h0 : p0 = -1 ∧ p1 = -1) : p0 = -1 ∧ p1 = -1 := by grind
theorem ktL_margin : Cond.codeWith yL_margin cL_margin 5 (some .int) [(0, 10, 13, 24)] ∈ wsL_margin := by unfold wsL_margin; exact List.mem_cons_self
theorem kL_margin_1 : Cond.classLink RL 24 "java/lang/IndexOutOfBoundsException" ∈ wsL_margin := List.mem_of_getElem? (i := 1) (by decide +kernel)
set_option maxHeartbeats 4000000 in
set_option maxRecDepth 100000 in
theorem w_margin (l : Launch) (hfl : l.stackTraces = false) (D : va_G) (tE : Nat) (sz : Nat) (h0 : Nat) (h1 : Nat) (h2 : Nat) (h3 : Nat) (h4 : Nat) (a1 : Nat) (a2 : Nat) (w1 : Nat) (w2 : Nat) (w3 : Nat) (w4 : Nat) (w5 : Nat) (np : Int32) (o1 : Nat) (cJ : ClassId) (fo : Nat → Int64) (p0 : Int32) (p1 : Int32) (A : Nat → Prop) (hA0 : A = va_A [(h0, .inr (11, [.ref h1, .ref h2, .ref h3, .ref h4, .ref a1, .ref a2, .int 0])), (h1, .inr (8, [.int 0, .int np, .ref w1, .ref w2, .ref w3, .ref w4, .ref w5])), (o1, .inl (cJ, 1, .inr (.inl (fo))))] sz) : Met l yL_margin wsL_margin (yR 3 2 12) (yP D tE [(h0, .inr (11, [.ref h1, .ref h2, .ref h3, .ref h4, .ref a1, .ref a2, .int 0])), (h1, .inr (8, [.int 0, .int np, .ref w1, .ref w2, .ref w3, .ref w4, .ref w5])), (o1, .inl (cJ, 1, .inr (.inl (fo))))] [(cJ, .long)] sz [.ref h0, .int p0, .int p1, .ref o1]) (va_Qi (S := Nat → Int64) (fun (r : Int32) (u : Nat → Int64) => (r = 0 ∧ u 0 = 0 ∧ p0 = -1 ∧ p1 = -1) ∨ (r = 1 ∧ ¬ (p0 = -1 ∧ p1 = -1))) (fun (u : Nat → Int64) (t : State) => yB D A ((fun (u : Nat → Int64) => [(o1, .inl (cJ, 1, .inr (.inl (u))))]) u) t) A) 2 12 A := by
  refine va_MetW (cc := cL_margin) (maxL := 5) (ret := (some .int)) (hh := [(0, 10, 13, 24)]) (by decide) rfl ?_
  intro p e s m args below meth c s₁ B hml hv
  obtain ⟨rfl, rfl, hP, hK, hD, hE, hA⟩ := y_start hA0 hv
  have hx := B.exec
  have hb := B.bytes
  have hr := B.returns
  have hts := atoms_spec (ws := wsL_margin) B.pre
  have hown : s.vm.findClass RL = some m.cls := findClass_of_methodNamed B.named
  have hlocks := B.notSynchronized
  have htab : c.exceptionTable.toList = tableOf [(0, 10, 13, 24)] := vx_table (x := yL_margin) (y := yL_margin) (bytes := cL_margin) (maxL' := 5) (ret' := (some .int)) (hh := [(0, 10, 13, 24)]) B (hts _ ktL_margin)
  clear hA0 hv
  have hS : va_S A s.heap s.heap [] := va_S.rf
  have hl := lv_entry ([.ref h0, .int p0, .int p1, .ref o1]) (n := 5) (Nat.le_of_ble_eq_true rfl)
  rw [lg_entry_eq]
  generalize (lg_sl ([.ref h0, .int p0, .int p1, .ref o1]) ++ List.replicate (5 - (lg_sl ([.ref h0, .int p0, .int p1, .ref o1])).length) Slot.unset).toArray = ls at hl ⊢
  have hl : lv_has ls 5 [(0, .ref h0), (1, .int p0), (2, .int p1), (3, .ref o1)] := hl
  refine lv_aload_n hx hb dL_margin_0 rfl (lv_at hl 3 rfl) ?_
  refine lv_iconst (v := (0)) hx hb dL_margin_1 (by decide) ?_
  refine lv_aload_n hx hb dL_margin_2 rfl (lv_at hl 0 rfl) ?_
  refine lv_iload_n hx hb dL_margin_3 rfl (lv_at hl 1 rfl) ?_
  refine lv_iload_n hx hb dL_margin_4 rfl (lv_at hl 2 rfl) ?_
  refine yx_i (wc := [(h0, .inr (11, [.ref h1, .ref h2, .ref h3, .ref h4, .ref a1, .ref a2, .int 0])), (h1, .inr (8, [.int 0, .int np, .ref w1, .ref w2, .ref w3, .ref w4, .ref w5]))]) (wr := [(o1, .inl (cJ, 1, .inr (.inl (fo))))]) (vx_runV (As := [.int p0, .int p1]) (rest := [.int 0, .ref o1]) ⟨hx, hb, hml, hown, hts⟩ (f_margin l hfl D tE s.heap.size h0 h1 h2 h3 h4 a1 a2 w1 w2 w3 w4 w5 np p0 p1 (va_A [(h0, .inr (11, [.ref h1, .ref h2, .ref h3, .ref h4, .ref a1, .ref a2, .int 0])), (h1, .inr (8, [.int 0, .int np, .ref w1, .ref w2, .ref w3, .ref w4, .ref w5]))] s.heap.size) rfl) (cwV 2 hts gL_margin_X5_margin rfl rfl rfl (by decide +kernel) ⟨Nat.le_of_ble_eq_true rfl, Nat.le_of_ble_eq_true rfl⟩) (yPreV (wc := [(h0, .inr (11, [.ref h1, .ref h2, .ref h3, .ref h4, .ref a1, .ref a2, .int 0])), (h1, .inr (8, [.int 0, .int np, .ref w1, .ref w2, .ref w3, .ref w4, .ref w5]))]) (tc := []) hK hP hD hS hA hE [0, 1] [] (by decide) rfl rfl (ci := 11) (q0 := 0) (q := (RX5, TX5, 7)) rfl rfl) rfl rfl hl.1 rfl (lv_room (Nat.le_of_ble_eq_true rfl)) dL_margin_5 ⟨Nat.le_of_ble_eq_true rfl, Nat.le_of_ble_eq_true rfl⟩) hP hD hS hA [0, 1] [2] rfl rfl (by decide) (by decide) (fun E ce q9 H locs hpx hP hD hS g1 g2 g3 => ?_) (fun r_1 u_2 H locs hw hP hD hS => ?_)
  · have hP : va_P D vwCl [(o1, .inl (cJ, 1, .inr (.inl (fo))))] H := hP
    have hD : va_D A [(o1, .inl (cJ, 1, .inr (.inl (fo))))] := hD
    have hpx : E = "java/lang/IndexOutOfBoundsException" ∧ ¬ (p0 = -1 ∧ p1 = -1) := hpx
    obtain ⟨rfl, hpy⟩ := hpx
    refine vx_catch (E := "java/lang/IndexOutOfBoundsException") (name := "java/lang/IndexOutOfBoundsException") hown [] (⟨0, 10, 13, 24⟩ : ExceptionTableEntry) [] (by rw [htab]; rfl) (fun z hz => nomatch hz) (by decide) (by decide) (hts _ kL_margin_1) (va_Nw.use rfl (hE.2.1 _ (by decide))) g1 g2 g3 ?_
    refine lv_astore (lv' := [(4, .ref q9), (0, .ref h0), (1, .int p0), (2, .int p1), (3, .ref o1)]) hx hb dL_margin_13 hl (by decide) rfl (fun ls hl => ?_)
    refine lv_iconst (v := (1)) hx hb dL_margin_15 (by decide) ?_
    exact y_iret hx hb hr hlocks fo (Or.inr ⟨rfl, (yz_w_margin_34 p0 p1 hpy)⟩) hP hD hS (Nat.le_of_ble_eq_true rfl) (Nat.le_of_ble_eq_true rfl) dL_margin_16
  · have hP : va_P D vwCl [(o1, .inl (cJ, 1, .inr (.inl (fo))))] H := hP
    have hD : va_D A [(o1, .inl (cJ, 1, .inr (.inl (fo))))] := hD
    have hw : r_1 = 0 ∧ p0 = -1 ∧ p1 = -1 := hw
    rcases hw with ⟨hr9, hw9⟩
    · subst hr9
      have w_3 : p0 = -1 ∧ p1 = -1 := hw9
      refine lv_i2l (v := 0) hx hb dL_margin_8 (by decide) ?_
      refine va_last hx hb hK hP hD hS 0 0 rfl rfl (by unfold vp_in; decide) dL_margin_9 (fun H locs hP hD hS => ?_)
      obtain ⟨f_4, ef_4⟩ : ∃ g9, g9 = vp_updL fo (0 : Int32).toNatClampNeg 0 := ⟨_, rfl⟩
      have hP : va_P D vwCl [(o1, .inl (cJ, 1, .inr (.inl (f_4))))] H := by rw [ef_4]; exact hP
      have hD : va_D A [(o1, .inl (cJ, 1, .inr (.inl (f_4))))] := by rw [ef_4]; exact hD
      refine lv_goto (tgt := 17) hx hb dL_margin_10 (by decide) ?_
      refine lv_iconst (v := (0)) hx hb dL_margin_17 (by decide) ?_
      exact y_iret hx hb hr hlocks f_4 (Or.inl ⟨rfl, y_up ef_4, (yz_w_margin_35 p0 p1 w_3)⟩) hP hD hS (Nat.le_of_ble_eq_true rfl) (Nat.le_of_ble_eq_true rfl) dL_margin_18
theorem yz_w_differ_36 (p0 : Int32) (p1 : Int32) (h0 : ¬ (p0 = -1 ∧ p1 = -1)) : ¬ (p0 = -1 ∧ p1 = -1) := by grind
theorem yz_w_differ_37 (p0 : Int32) (p1 : Int32) (h0 : p0 = -1 ∧ p1 = -1) : p0 = -1 ∧ p1 = -1 := by grind
theorem ktL_differ : Cond.codeWith yL_differ cL_differ 5 (some .int) [(0, 10, 13, 24)] ∈ wsL_differ := by unfold wsL_differ; exact List.mem_cons_self
theorem kL_differ_1 : Cond.classLink RL 24 "java/lang/IndexOutOfBoundsException" ∈ wsL_differ := List.mem_of_getElem? (i := 1) (by decide +kernel)
set_option maxHeartbeats 4000000 in
set_option maxRecDepth 100000 in
theorem w_differ (l : Launch) (hfl : l.stackTraces = false) (D : va_G) (tE : Nat) (sz : Nat) (h0 : Nat) (h1 : Nat) (h2 : Nat) (h3 : Nat) (h4 : Nat) (a1 : Nat) (a2 : Nat) (w1 : Nat) (w2 : Nat) (w3 : Nat) (w4 : Nat) (w5 : Nat) (np : Int32) (o1 : Nat) (cJ : ClassId) (fo : Nat → Int64) (p0 : Int32) (p1 : Int32) (A : Nat → Prop) (hA0 : A = va_A [(h0, .inr (11, [.ref h1, .ref h2, .ref h3, .ref h4, .ref a1, .ref a2, .int 0])), (h1, .inr (8, [.int 0, .int np, .ref w1, .ref w2, .ref w3, .ref w4, .ref w5])), (o1, .inl (cJ, 1, .inr (.inl (fo))))] sz) : Met l yL_differ wsL_differ (yR 3 2 12) (yP D tE [(h0, .inr (11, [.ref h1, .ref h2, .ref h3, .ref h4, .ref a1, .ref a2, .int 0])), (h1, .inr (8, [.int 0, .int np, .ref w1, .ref w2, .ref w3, .ref w4, .ref w5])), (o1, .inl (cJ, 1, .inr (.inl (fo))))] [(cJ, .long)] sz [.ref h0, .int p0, .int p1, .ref o1]) (va_Qi (S := Nat → Int64) (fun (r : Int32) (u : Nat → Int64) => (r = 0 ∧ u 0 = 0 ∧ p0 = -1 ∧ p1 = -1) ∨ (r = 1 ∧ ¬ (p0 = -1 ∧ p1 = -1))) (fun (u : Nat → Int64) (t : State) => yB D A ((fun (u : Nat → Int64) => [(o1, .inl (cJ, 1, .inr (.inl (u))))]) u) t) A) 2 12 A := by
  refine va_MetW (cc := cL_differ) (maxL := 5) (ret := (some .int)) (hh := [(0, 10, 13, 24)]) (by decide) rfl ?_
  intro p e s m args below meth c s₁ B hml hv
  obtain ⟨rfl, rfl, hP, hK, hD, hE, hA⟩ := y_start hA0 hv
  have hx := B.exec
  have hb := B.bytes
  have hr := B.returns
  have hts := atoms_spec (ws := wsL_differ) B.pre
  have hown : s.vm.findClass RL = some m.cls := findClass_of_methodNamed B.named
  have hlocks := B.notSynchronized
  have htab : c.exceptionTable.toList = tableOf [(0, 10, 13, 24)] := vx_table (x := yL_differ) (y := yL_differ) (bytes := cL_differ) (maxL' := 5) (ret' := (some .int)) (hh := [(0, 10, 13, 24)]) B (hts _ ktL_differ)
  clear hA0 hv
  have hS : va_S A s.heap s.heap [] := va_S.rf
  have hl := lv_entry ([.ref h0, .int p0, .int p1, .ref o1]) (n := 5) (Nat.le_of_ble_eq_true rfl)
  rw [lg_entry_eq]
  generalize (lg_sl ([.ref h0, .int p0, .int p1, .ref o1]) ++ List.replicate (5 - (lg_sl ([.ref h0, .int p0, .int p1, .ref o1])).length) Slot.unset).toArray = ls at hl ⊢
  have hl : lv_has ls 5 [(0, .ref h0), (1, .int p0), (2, .int p1), (3, .ref o1)] := hl
  refine lv_aload_n hx hb dL_differ_0 rfl (lv_at hl 3 rfl) ?_
  refine lv_iconst (v := (0)) hx hb dL_differ_1 (by decide) ?_
  refine lv_aload_n hx hb dL_differ_2 rfl (lv_at hl 0 rfl) ?_
  refine lv_iload_n hx hb dL_differ_3 rfl (lv_at hl 1 rfl) ?_
  refine lv_iload_n hx hb dL_differ_4 rfl (lv_at hl 2 rfl) ?_
  refine yx_i (wc := [(h0, .inr (11, [.ref h1, .ref h2, .ref h3, .ref h4, .ref a1, .ref a2, .int 0])), (h1, .inr (8, [.int 0, .int np, .ref w1, .ref w2, .ref w3, .ref w4, .ref w5]))]) (wr := [(o1, .inl (cJ, 1, .inr (.inl (fo))))]) (vx_runV (As := [.int p0, .int p1]) (rest := [.int 0, .ref o1]) ⟨hx, hb, hml, hown, hts⟩ (f_differ l hfl D tE s.heap.size h0 h1 h2 h3 h4 a1 a2 w1 w2 w3 w4 w5 np p0 p1 (va_A [(h0, .inr (11, [.ref h1, .ref h2, .ref h3, .ref h4, .ref a1, .ref a2, .int 0])), (h1, .inr (8, [.int 0, .int np, .ref w1, .ref w2, .ref w3, .ref w4, .ref w5]))] s.heap.size) rfl) (cwV 2 hts gL_differ_X5_differ rfl rfl rfl (by decide +kernel) ⟨Nat.le_of_ble_eq_true rfl, Nat.le_of_ble_eq_true rfl⟩) (yPreV (wc := [(h0, .inr (11, [.ref h1, .ref h2, .ref h3, .ref h4, .ref a1, .ref a2, .int 0])), (h1, .inr (8, [.int 0, .int np, .ref w1, .ref w2, .ref w3, .ref w4, .ref w5]))]) (tc := []) hK hP hD hS hA hE [0, 1] [] (by decide) rfl rfl (ci := 11) (q0 := 0) (q := (RX5, TX5, 7)) rfl rfl) rfl rfl hl.1 rfl (lv_room (Nat.le_of_ble_eq_true rfl)) dL_differ_5 ⟨Nat.le_of_ble_eq_true rfl, Nat.le_of_ble_eq_true rfl⟩) hP hD hS hA [0, 1] [2] rfl rfl (by decide) (by decide) (fun E ce q9 H locs hpx hP hD hS g1 g2 g3 => ?_) (fun r_1 u_2 H locs hw hP hD hS => ?_)
  · have hP : va_P D vwCl [(o1, .inl (cJ, 1, .inr (.inl (fo))))] H := hP
    have hD : va_D A [(o1, .inl (cJ, 1, .inr (.inl (fo))))] := hD
    have hpx : E = "java/lang/IndexOutOfBoundsException" ∧ ¬ (p0 = -1 ∧ p1 = -1) := hpx
    obtain ⟨rfl, hpy⟩ := hpx
    refine vx_catch (E := "java/lang/IndexOutOfBoundsException") (name := "java/lang/IndexOutOfBoundsException") hown [] (⟨0, 10, 13, 24⟩ : ExceptionTableEntry) [] (by rw [htab]; rfl) (fun z hz => nomatch hz) (by decide) (by decide) (hts _ kL_differ_1) (va_Nw.use rfl (hE.2.1 _ (by decide))) g1 g2 g3 ?_
    refine lv_astore (lv' := [(4, .ref q9), (0, .ref h0), (1, .int p0), (2, .int p1), (3, .ref o1)]) hx hb dL_differ_13 hl (by decide) rfl (fun ls hl => ?_)
    refine lv_iconst (v := (1)) hx hb dL_differ_15 (by decide) ?_
    exact y_iret hx hb hr hlocks fo (Or.inr ⟨rfl, (yz_w_differ_36 p0 p1 hpy)⟩) hP hD hS (Nat.le_of_ble_eq_true rfl) (Nat.le_of_ble_eq_true rfl) dL_differ_16
  · have hP : va_P D vwCl [(o1, .inl (cJ, 1, .inr (.inl (fo))))] H := hP
    have hD : va_D A [(o1, .inl (cJ, 1, .inr (.inl (fo))))] := hD
    have hw : r_1 = 0 ∧ p0 = -1 ∧ p1 = -1 := hw
    rcases hw with ⟨hr9, hw9⟩
    · subst hr9
      have w_3 : p0 = -1 ∧ p1 = -1 := hw9
      refine lv_i2l (v := 0) hx hb dL_differ_8 (by decide) ?_
      refine va_last hx hb hK hP hD hS 0 0 rfl rfl (by unfold vp_in; decide) dL_differ_9 (fun H locs hP hD hS => ?_)
      obtain ⟨f_4, ef_4⟩ : ∃ g9, g9 = vp_updL fo (0 : Int32).toNatClampNeg 0 := ⟨_, rfl⟩
      have hP : va_P D vwCl [(o1, .inl (cJ, 1, .inr (.inl (f_4))))] H := by rw [ef_4]; exact hP
      have hD : va_D A [(o1, .inl (cJ, 1, .inr (.inl (f_4))))] := by rw [ef_4]; exact hD
      refine lv_goto (tgt := 17) hx hb dL_differ_10 (by decide) ?_
      refine lv_iconst (v := (0)) hx hb dL_differ_17 (by decide) ?_
      exact y_iret hx hb hr hlocks f_4 (Or.inl ⟨rfl, y_up ef_4, (yz_w_differ_37 p0 p1 w_3)⟩) hP hD hS (Nat.le_of_ble_eq_true rfl) (Nat.le_of_ble_eq_true rfl) dL_differ_18
theorem ktL_winner : Cond.codeWith yL_winner cL_winner 3 (some .int) [(0, 8, 11, 52)] ∈ wsL_winner := by unfold wsL_winner; exact List.mem_cons_self
theorem kL_winner_1 : Cond.classLink RL 52 "java/util/NoSuchElementException" ∈ wsL_winner := List.mem_of_getElem? (i := 1) (by decide +kernel)
set_option maxHeartbeats 4000000 in
set_option maxRecDepth 100000 in
theorem w_winner (l : Launch) (hfl : l.stackTraces = false) (D : va_G) (tE : Nat) (sz : Nat) (h0 : Nat) (h1 : Nat) (h2 : Nat) (h3 : Nat) (h4 : Nat) (a1 : Nat) (a2 : Nat) (g1 : Nat) (g2 : Nat) (gc : Int32) (o1 : Nat) (cJ : ClassId) (fo : Nat → Int64) (A : Nat → Prop) (hA0 : A = va_A [(h0, .inr (11, [.ref h1, .ref h2, .ref h3, .ref h4, .ref a1, .ref a2, .int 0])), (h4, .inr (6, [.int gc, .ref g1, .ref g2])), (o1, .inl (cJ, 1, .inr (.inl (fo))))] sz) : Met l yL_winner wsL_winner (yR 2 1 6) (yP D tE [(h0, .inr (11, [.ref h1, .ref h2, .ref h3, .ref h4, .ref a1, .ref a2, .int 0])), (h4, .inr (6, [.int gc, .ref g1, .ref g2])), (o1, .inl (cJ, 1, .inr (.inl (fo))))] [(cJ, .long)] sz [.ref h0, .ref o1]) (va_Qi (S := Nat → Int64) (fun (r : Int32) (u : Nat → Int64) => r = 1) (fun (u : Nat → Int64) (t : State) => yB D A ((fun (u : Nat → Int64) => [(o1, .inl (cJ, 1, .inr (.inl (u))))]) u) t) A) 1 6 A := by
  refine va_MetW (cc := cL_winner) (maxL := 3) (ret := (some .int)) (hh := [(0, 8, 11, 52)]) (by decide) rfl ?_
  intro p e s m args below meth c s₁ B hml hv
  obtain ⟨rfl, rfl, hP, hK, hD, hE, hA⟩ := y_start hA0 hv
  have hx := B.exec
  have hb := B.bytes
  have hr := B.returns
  have hts := atoms_spec (ws := wsL_winner) B.pre
  have hown : s.vm.findClass RL = some m.cls := findClass_of_methodNamed B.named
  have hlocks := B.notSynchronized
  have htab : c.exceptionTable.toList = tableOf [(0, 8, 11, 52)] := vx_table (x := yL_winner) (y := yL_winner) (bytes := cL_winner) (maxL' := 3) (ret' := (some .int)) (hh := [(0, 8, 11, 52)]) B (hts _ ktL_winner)
  clear hA0 hv
  have hS : va_S A s.heap s.heap [] := va_S.rf
  have hl := lv_entry ([.ref h0, .ref o1]) (n := 3) (Nat.le_of_ble_eq_true rfl)
  rw [lg_entry_eq]
  generalize (lg_sl ([.ref h0, .ref o1]) ++ List.replicate (3 - (lg_sl ([.ref h0, .ref o1])).length) Slot.unset).toArray = ls at hl ⊢
  have hl : lv_has ls 3 [(0, .ref h0), (1, .ref o1)] := hl
  refine lv_aload_n hx hb dL_winner_0 rfl (lv_at hl 1 rfl) ?_
  refine lv_iconst (v := (0)) hx hb dL_winner_1 (by decide) ?_
  refine lv_aload_n hx hb dL_winner_2 rfl (lv_at hl 0 rfl) ?_
  refine yx_i (wc := [(h0, .inr (11, [.ref h1, .ref h2, .ref h3, .ref h4, .ref a1, .ref a2, .int 0])), (h4, .inr (6, [.int gc, .ref g1, .ref g2]))]) (wr := [(o1, .inl (cJ, 1, .inr (.inl (fo))))]) (vx_runV (As := []) (rest := [.int 0, .ref o1]) ⟨hx, hb, hml, hown, hts⟩ (f_winner l hfl D tE s.heap.size h0 h1 h2 h3 h4 a1 a2 g1 g2 gc (va_A [(h0, .inr (11, [.ref h1, .ref h2, .ref h3, .ref h4, .ref a1, .ref a2, .int 0])), (h4, .inr (6, [.int gc, .ref g1, .ref g2]))] s.heap.size) rfl) (cwV 0 hts gL_winner_X5_winner rfl rfl rfl (by decide +kernel) ⟨Nat.le_of_ble_eq_true rfl, Nat.le_of_ble_eq_true rfl⟩) (yPreV (wc := [(h0, .inr (11, [.ref h1, .ref h2, .ref h3, .ref h4, .ref a1, .ref a2, .int 0])), (h4, .inr (6, [.int gc, .ref g1, .ref g2]))]) (tc := []) hK hP hD hS hA hE [0, 1] [] (by decide) rfl rfl (ci := 11) (q0 := 0) (q := (RX5, TX5, 7)) rfl rfl) rfl rfl hl.1 rfl (lv_room (Nat.le_of_ble_eq_true rfl)) dL_winner_3 ⟨Nat.le_of_ble_eq_true rfl, Nat.le_of_ble_eq_true rfl⟩) hP hD hS hA [0, 1] [2] rfl rfl (by decide) (by decide) (fun E ce q9 H locs hpx hP hD hS g1 g2 g3 => ?_) (fun r_1 u_2 H locs hw hP hD hS => ?_)
  · have hP : va_P D vwCl [(o1, .inl (cJ, 1, .inr (.inl (fo))))] H := hP
    have hD : va_D A [(o1, .inl (cJ, 1, .inr (.inl (fo))))] := hD
    have hpx : E = "java/util/NoSuchElementException" := hpx
    subst hpx
    refine vx_catch (E := "java/util/NoSuchElementException") (name := "java/util/NoSuchElementException") hown [] (⟨0, 8, 11, 52⟩ : ExceptionTableEntry) [] (by rw [htab]; rfl) (fun z hz => nomatch hz) (by decide) (by decide) (hts _ kL_winner_1) (va_Nw.use rfl (hE.2.1 _ (by decide))) g1 g2 g3 ?_
    refine lv_astore_n (lv' := [(2, .ref q9), (0, .ref h0), (1, .ref o1)]) hx hb dL_winner_11 rfl hl (by decide) rfl (fun ls hl => ?_)
    refine lv_iconst (v := (1)) hx hb dL_winner_12 (by decide) ?_
    exact y_iret hx hb hr hlocks fo rfl hP hD hS (Nat.le_of_ble_eq_true rfl) (Nat.le_of_ble_eq_true rfl) dL_winner_13
  · have hP : va_P D vwCl [(o1, .inl (cJ, 1, .inr (.inl (fo))))] H := hP
    have hD : va_D A [(o1, .inl (cJ, 1, .inr (.inl (fo))))] := hD
    have hw : False := hw
    exact hw.elim
theorem ktL_hasPopular : Cond.codeWith yL_hasPopular cL_hasPopular 3 (some .int) [(0, 15, 18, 29)] ∈ wsL_hasPopular := by unfold wsL_hasPopular; exact List.mem_cons_self
set_option maxHeartbeats 4000000 in
set_option maxRecDepth 100000 in
theorem w_hasPopular (l : Launch) (hfl : l.stackTraces = false) (D : va_G) (tE : Nat) (sz : Nat) (h0 : Nat) (h1 : Nat) (h2 : Nat) (h3 : Nat) (h4 : Nat) (a1 : Nat) (a2 : Nat) (b1 : Nat) (b2 : Nat) (b3 : Nat) (h5 : Nat) (b4 : Nat) (b5 : Nat) (w1 : Nat) (w2 : Nat) (w3 : Nat) (w4 : Nat) (w5 : Nat) (s1 : Nat) (s2 : Nat) (s3 : Nat) (s4 : Nat) (s5 : Nat) (s6 : Nat) (cI : ClassId) (f1 : Nat → Int32) (f2 : Nat → Int32) (fb : Nat → Int32) (sn : Int32) (o1 : Nat) (cJ : ClassId) (fo : Nat → Int64) (A : Nat → Prop) (hA0 : A = va_A [(h0, .inr (11, [.ref h1, .ref h2, .ref h3, .ref h4, .ref a1, .ref a2, .int 0])), (h3, .inr (7, [.ref b1, .ref b2, .ref b3, .ref h5, .ref b4, .ref b5])), (h5, .inr (9, [.ref s1, .ref s2, .ref s3, .int sn, .ref s4, .ref s5, .ref s6])), (h1, .inr (8, [.int 0, .int 0, .ref w1, .ref w2, .ref w3, .ref w4, .ref w5])), (s2, .inl (cI, 10, .inl (f1))), (s3, .inl (cI, 11, .inl (f2))), (b3, .inl (cI, 10, .inl (fb))), (o1, .inl (cJ, 1, .inr (.inl (fo))))] sz) : Met l yL_hasPopular wsL_hasPopular (yR 4 1 6) (yP D tE [(h0, .inr (11, [.ref h1, .ref h2, .ref h3, .ref h4, .ref a1, .ref a2, .int 0])), (h3, .inr (7, [.ref b1, .ref b2, .ref b3, .ref h5, .ref b4, .ref b5])), (h5, .inr (9, [.ref s1, .ref s2, .ref s3, .int sn, .ref s4, .ref s5, .ref s6])), (h1, .inr (8, [.int 0, .int 0, .ref w1, .ref w2, .ref w3, .ref w4, .ref w5])), (s2, .inl (cI, 10, .inl (f1))), (s3, .inl (cI, 11, .inl (f2))), (b3, .inl (cI, 10, .inl (fb))), (o1, .inl (cJ, 1, .inr (.inl (fo))))] [(cI, .int), (cJ, .long)] sz [.ref h0, .ref o1]) (va_Qi (S := Nat → Int64) (fun (r : Int32) (u : Nat → Int64) => r = 0 ∧ u 0 = 1) (fun (u : Nat → Int64) (t : State) => yB D A ((fun (u : Nat → Int64) => [(o1, .inl (cJ, 1, .inr (.inl (u))))]) u) t) A) 1 6 A := by
  refine va_MetW (cc := cL_hasPopular) (maxL := 3) (ret := (some .int)) (hh := [(0, 15, 18, 29)]) (by decide) rfl ?_
  intro p e s m args below meth c s₁ B hml hv
  obtain ⟨rfl, rfl, hP, hK, hD, hE, hA⟩ := y_start hA0 hv
  have hx := B.exec
  have hb := B.bytes
  have hr := B.returns
  have hts := atoms_spec (ws := wsL_hasPopular) B.pre
  have hown : s.vm.findClass RL = some m.cls := findClass_of_methodNamed B.named
  have hlocks := B.notSynchronized
  have htab : c.exceptionTable.toList = tableOf [(0, 15, 18, 29)] := vx_table (x := yL_hasPopular) (y := yL_hasPopular) (bytes := cL_hasPopular) (maxL' := 3) (ret' := (some .int)) (hh := [(0, 15, 18, 29)]) B (hts _ ktL_hasPopular)
  clear hA0 hv
  have hS : va_S A s.heap s.heap [] := va_S.rf
  have hl := lv_entry ([.ref h0, .ref o1]) (n := 3) (Nat.le_of_ble_eq_true rfl)
  rw [lg_entry_eq]
  generalize (lg_sl ([.ref h0, .ref o1]) ++ List.replicate (3 - (lg_sl ([.ref h0, .ref o1])).length) Slot.unset).toArray = ls at hl ⊢
  have hl : lv_has ls 3 [(0, .ref h0), (1, .ref o1)] := hl
  refine lv_aload_n hx hb dL_hasPopular_0 rfl (lv_at hl 1 rfl) ?_
  refine lv_iconst (v := (0)) hx hb dL_hasPopular_1 (by decide) ?_
  refine lv_aload_n hx hb dL_hasPopular_2 rfl (lv_at hl 0 rfl) ?_
  refine yx_i (wc := [(h0, .inr (11, [.ref h1, .ref h2, .ref h3, .ref h4, .ref a1, .ref a2, .int 0])), (h3, .inr (7, [.ref b1, .ref b2, .ref b3, .ref h5, .ref b4, .ref b5])), (h5, .inr (9, [.ref s1, .ref s2, .ref s3, .int sn, .ref s4, .ref s5, .ref s6])), (h1, .inr (8, [.int 0, .int 0, .ref w1, .ref w2, .ref w3, .ref w4, .ref w5])), (s2, .inl (cI, 10, .inl (f1))), (s3, .inl (cI, 11, .inl (f2))), (b3, .inl (cI, 10, .inl (fb)))]) (wr := [(o1, .inl (cJ, 1, .inr (.inl (fo))))]) (vx_runV (As := []) (rest := [.int 0, .ref o1]) ⟨hx, hb, hml, hown, hts⟩ (f_hasPopular l hfl D tE s.heap.size h0 h1 h2 h3 h4 a1 a2 b1 b2 b3 h5 b4 b5 w1 w2 w3 w4 w5 s1 s2 s3 s4 s5 s6 cI f1 f2 fb sn (va_A [(h0, .inr (11, [.ref h1, .ref h2, .ref h3, .ref h4, .ref a1, .ref a2, .int 0])), (h3, .inr (7, [.ref b1, .ref b2, .ref b3, .ref h5, .ref b4, .ref b5])), (h5, .inr (9, [.ref s1, .ref s2, .ref s3, .int sn, .ref s4, .ref s5, .ref s6])), (h1, .inr (8, [.int 0, .int 0, .ref w1, .ref w2, .ref w3, .ref w4, .ref w5])), (s2, .inl (cI, 10, .inl (f1))), (s3, .inl (cI, 11, .inl (f2))), (b3, .inl (cI, 10, .inl (fb)))] s.heap.size) rfl) (cwV 0 hts gL_hasPopular_X5_hasPopular rfl rfl rfl (by decide +kernel) ⟨Nat.le_of_ble_eq_true rfl, Nat.le_of_ble_eq_true rfl⟩) (yPreV (wc := [(h0, .inr (11, [.ref h1, .ref h2, .ref h3, .ref h4, .ref a1, .ref a2, .int 0])), (h3, .inr (7, [.ref b1, .ref b2, .ref b3, .ref h5, .ref b4, .ref b5])), (h5, .inr (9, [.ref s1, .ref s2, .ref s3, .int sn, .ref s4, .ref s5, .ref s6])), (h1, .inr (8, [.int 0, .int 0, .ref w1, .ref w2, .ref w3, .ref w4, .ref w5])), (s2, .inl (cI, 10, .inl (f1))), (s3, .inl (cI, 11, .inl (f2))), (b3, .inl (cI, 10, .inl (fb)))]) (tc := [(cI, .int)]) hK hP hD hS hA hE [0, 1, 2, 3, 4, 5, 6] [0] (by decide) rfl rfl (ci := 11) (q0 := 0) (q := (RX5, TX5, 7)) rfl rfl) rfl rfl hl.1 rfl (lv_room (Nat.le_of_ble_eq_true rfl)) dL_hasPopular_3 ⟨Nat.le_of_ble_eq_true rfl, Nat.le_of_ble_eq_true rfl⟩) hP hD hS hA [0, 1, 2, 3, 4, 5, 6] [7] rfl rfl (by decide) (by decide) (fun E ce q9 H locs hpx hP hD hS g1 g2 g3 => ?_) (fun r_1 u_2 H locs hw hP hD hS => ?_)
  · have hP : va_P D vwCl [(o1, .inl (cJ, 1, .inr (.inl (fo))))] H := hP
    have hD : va_D A [(o1, .inl (cJ, 1, .inr (.inl (fo))))] := hD
    have hpx : False := hpx
    exact hpx.elim
  · have hP : va_P D vwCl [(o1, .inl (cJ, 1, .inr (.inl (fo))))] H := hP
    have hD : va_D A [(o1, .inl (cJ, 1, .inr (.inl (fo))))] := hD
    have hw : r_1 = 1 := hw
    subst hw
    refine lv_if_eq (tgt := 13) hx hb dL_hasPopular_6 (by decide) (fun h => absurd h (by decide)) (fun _ => ?_)
    refine lv_lconst (v := (1)) hx hb dL_hasPopular_9 (by decide) ?_
    refine lv_goto (tgt := 14) hx hb dL_hasPopular_10 (by decide) ?_
    refine va_last hx hb hK hP hD hS 0 1 rfl rfl (by unfold vp_in; decide) dL_hasPopular_14 (fun H locs hP hD hS => ?_)
    obtain ⟨f_3, ef_3⟩ : ∃ g9, g9 = vp_updL fo (0 : Int32).toNatClampNeg 1 := ⟨_, rfl⟩
    have hP : va_P D vwCl [(o1, .inl (cJ, 1, .inr (.inl (f_3))))] H := by rw [ef_3]; exact hP
    have hD : va_D A [(o1, .inl (cJ, 1, .inr (.inl (f_3))))] := by rw [ef_3]; exact hD
    refine lv_goto (tgt := 21) hx hb dL_hasPopular_15 (by decide) ?_
    refine lv_iconst (v := (0)) hx hb dL_hasPopular_21 (by decide) ?_
    exact y_iret hx hb hr hlocks f_3 ⟨rfl, y_up ef_3⟩ hP hD hS (Nat.le_of_ble_eq_true rfl) (Nat.le_of_ble_eq_true rfl) dL_hasPopular_22
theorem yz_w_profile_38 (p0 : Int32) (h0 : (p0 < 1 ∨ 9 < p0)) : (p0 < 1 ∨ 9 < p0) := by grind
theorem yz_w_profile_39 (p0 : Int32) (h0 : 1 ≤ p0 ∧ p0 ≤ 9) : 1 ≤ p0 ∧ p0 ≤ 9 := by grind
theorem ktL_profile : Cond.codeWith yL_profile cL_profile 4 (some .int) [(0, 9, 12, 13)] ∈ wsL_profile := by unfold wsL_profile; exact List.mem_cons_self
theorem kL_profile_1 : Cond.classLink RL 13 "java/lang/IllegalArgumentException" ∈ wsL_profile := List.mem_of_getElem? (i := 1) (by decide +kernel)
set_option maxHeartbeats 4000000 in
set_option maxRecDepth 100000 in
theorem w_profile (l : Launch) (hfl : l.stackTraces = false) (D : va_G) (tE : Nat) (sz : Nat) (h0 : Nat) (h1 : Nat) (h2 : Nat) (h3 : Nat) (h4 : Nat) (a1 : Nat) (a2 : Nat) (w1 : Nat) (w2 : Nat) (w3 : Nat) (w4 : Nat) (w5 : Nat) (np : Int32) (o1 : Nat) (cJ : ClassId) (fo : Nat → Int64) (p0 : Int32) (A : Nat → Prop) (hA0 : A = va_A [(h0, .inr (11, [.ref h1, .ref h2, .ref h3, .ref h4, .ref a1, .ref a2, .int 0])), (h1, .inr (8, [.int 0, .int np, .ref w1, .ref w2, .ref w3, .ref w4, .ref w5])), (o1, .inl (cJ, 1, .inr (.inl (fo))))] sz) : Met l yL_profile wsL_profile (yR 2 1 6) (yP D tE [(h0, .inr (11, [.ref h1, .ref h2, .ref h3, .ref h4, .ref a1, .ref a2, .int 0])), (h1, .inr (8, [.int 0, .int np, .ref w1, .ref w2, .ref w3, .ref w4, .ref w5])), (o1, .inl (cJ, 1, .inr (.inl (fo))))] [(cJ, .long)] sz [.ref h0, .int p0, .ref o1]) (va_Qi (S := Nat → Int64) (fun (r : Int32) (u : Nat → Int64) => (r = 0 ∧ u 0 = 0 ∧ 1 ≤ p0 ∧ p0 ≤ 9) ∨ (r = 1 ∧ (p0 < 1 ∨ 9 < p0))) (fun (u : Nat → Int64) (t : State) => yB D A ((fun (u : Nat → Int64) => [(o1, .inl (cJ, 1, .inr (.inl (u))))]) u) t) A) 1 6 A := by
  refine va_MetW (cc := cL_profile) (maxL := 4) (ret := (some .int)) (hh := [(0, 9, 12, 13)]) (by decide) rfl ?_
  intro p e s m args below meth c s₁ B hml hv
  obtain ⟨rfl, rfl, hP, hK, hD, hE, hA⟩ := y_start hA0 hv
  have hx := B.exec
  have hb := B.bytes
  have hr := B.returns
  have hts := atoms_spec (ws := wsL_profile) B.pre
  have hown : s.vm.findClass RL = some m.cls := findClass_of_methodNamed B.named
  have hlocks := B.notSynchronized
  have htab : c.exceptionTable.toList = tableOf [(0, 9, 12, 13)] := vx_table (x := yL_profile) (y := yL_profile) (bytes := cL_profile) (maxL' := 4) (ret' := (some .int)) (hh := [(0, 9, 12, 13)]) B (hts _ ktL_profile)
  clear hA0 hv
  have hS : va_S A s.heap s.heap [] := va_S.rf
  have hl := lv_entry ([.ref h0, .int p0, .ref o1]) (n := 4) (Nat.le_of_ble_eq_true rfl)
  rw [lg_entry_eq]
  generalize (lg_sl ([.ref h0, .int p0, .ref o1]) ++ List.replicate (4 - (lg_sl ([.ref h0, .int p0, .ref o1])).length) Slot.unset).toArray = ls at hl ⊢
  have hl : lv_has ls 4 [(0, .ref h0), (1, .int p0), (2, .ref o1)] := hl
  refine lv_aload_n hx hb dL_profile_0 rfl (lv_at hl 2 rfl) ?_
  refine lv_iconst (v := (0)) hx hb dL_profile_1 (by decide) ?_
  refine lv_aload_n hx hb dL_profile_2 rfl (lv_at hl 0 rfl) ?_
  refine lv_iload_n hx hb dL_profile_3 rfl (lv_at hl 1 rfl) ?_
  refine yx_i (wc := [(h0, .inr (11, [.ref h1, .ref h2, .ref h3, .ref h4, .ref a1, .ref a2, .int 0])), (h1, .inr (8, [.int 0, .int np, .ref w1, .ref w2, .ref w3, .ref w4, .ref w5]))]) (wr := [(o1, .inl (cJ, 1, .inr (.inl (fo))))]) (vx_runV (As := [.int p0]) (rest := [.int 0, .ref o1]) ⟨hx, hb, hml, hown, hts⟩ (f_profile l hfl D tE s.heap.size h0 h1 h2 h3 h4 a1 a2 w1 w2 w3 w4 w5 np p0 (va_A [(h0, .inr (11, [.ref h1, .ref h2, .ref h3, .ref h4, .ref a1, .ref a2, .int 0])), (h1, .inr (8, [.int 0, .int np, .ref w1, .ref w2, .ref w3, .ref w4, .ref w5]))] s.heap.size) rfl) (cwV 1 hts gL_profile_X5_profile rfl rfl rfl (by decide +kernel) ⟨Nat.le_of_ble_eq_true rfl, Nat.le_of_ble_eq_true rfl⟩) (yPreV (wc := [(h0, .inr (11, [.ref h1, .ref h2, .ref h3, .ref h4, .ref a1, .ref a2, .int 0])), (h1, .inr (8, [.int 0, .int np, .ref w1, .ref w2, .ref w3, .ref w4, .ref w5]))]) (tc := []) hK hP hD hS hA hE [0, 1] [] (by decide) rfl rfl (ci := 11) (q0 := 0) (q := (RX5, TX5, 7)) rfl rfl) rfl rfl hl.1 rfl (lv_room (Nat.le_of_ble_eq_true rfl)) dL_profile_4 ⟨Nat.le_of_ble_eq_true rfl, Nat.le_of_ble_eq_true rfl⟩) hP hD hS hA [0, 1] [2] rfl rfl (by decide) (by decide) (fun E ce q9 H locs hpx hP hD hS g1 g2 g3 => ?_) (fun r_1 u_2 H locs hw hP hD hS => ?_)
  · have hP : va_P D vwCl [(o1, .inl (cJ, 1, .inr (.inl (fo))))] H := hP
    have hD : va_D A [(o1, .inl (cJ, 1, .inr (.inl (fo))))] := hD
    have hpx : E = "java/lang/IllegalArgumentException" ∧ (p0 < 1 ∨ 9 < p0) := hpx
    obtain ⟨rfl, hpy⟩ := hpx
    refine vx_catch (E := "java/lang/IllegalArgumentException") (name := "java/lang/IllegalArgumentException") hown [] (⟨0, 9, 12, 13⟩ : ExceptionTableEntry) [] (by rw [htab]; rfl) (fun z hz => nomatch hz) (by decide) (by decide) (hts _ kL_profile_1) (va_Nw.use rfl (hE.2.1 _ (by decide))) g1 g2 g3 ?_
    refine lv_astore_n (lv' := [(3, .ref q9), (0, .ref h0), (1, .int p0), (2, .ref o1)]) hx hb dL_profile_12 rfl hl (by decide) rfl (fun ls hl => ?_)
    refine lv_iconst (v := (1)) hx hb dL_profile_13 (by decide) ?_
    exact y_iret hx hb hr hlocks fo (Or.inr ⟨rfl, (yz_w_profile_38 p0 hpy)⟩) hP hD hS (Nat.le_of_ble_eq_true rfl) (Nat.le_of_ble_eq_true rfl) dL_profile_14
  · have hP : va_P D vwCl [(o1, .inl (cJ, 1, .inr (.inl (fo))))] H := hP
    have hD : va_D A [(o1, .inl (cJ, 1, .inr (.inl (fo))))] := hD
    have hw : r_1 = 0 ∧ 1 ≤ p0 ∧ p0 ≤ 9 := hw
    rcases hw with ⟨hr9, hw9⟩
    · subst hr9
      have w_3 : 1 ≤ p0 ∧ p0 ≤ 9 := hw9
      refine lv_i2l (v := 0) hx hb dL_profile_7 (by decide) ?_
      refine va_last hx hb hK hP hD hS 0 0 rfl rfl (by unfold vp_in; decide) dL_profile_8 (fun H locs hP hD hS => ?_)
      obtain ⟨f_4, ef_4⟩ : ∃ g9, g9 = vp_updL fo (0 : Int32).toNatClampNeg 0 := ⟨_, rfl⟩
      have hP : va_P D vwCl [(o1, .inl (cJ, 1, .inr (.inl (f_4))))] H := by rw [ef_4]; exact hP
      have hD : va_D A [(o1, .inl (cJ, 1, .inr (.inl (f_4))))] := by rw [ef_4]; exact hD
      refine lv_goto (tgt := 15) hx hb dL_profile_9 (by decide) ?_
      refine lv_iconst (v := (0)) hx hb dL_profile_15 (by decide) ?_
      exact y_iret hx hb hr hlocks f_4 (Or.inl ⟨rfl, y_up ef_4, (yz_w_profile_39 p0 w_3)⟩) hP hD hS (Nat.le_of_ble_eq_true rfl) (Nat.le_of_ble_eq_true rfl) dL_profile_16
theorem yz_w_bestProfile_40 (p0 : Int32) (h0 : (p0 < 1 ∨ 9 < p0)) : (p0 < 1 ∨ 9 < p0) := by grind
theorem yz_w_bestProfile_41 (p0 : Int32) (h0 : 1 ≤ p0 ∧ p0 ≤ 9) : 1 ≤ p0 ∧ p0 ≤ 9 := by grind
theorem ktL_bestProfile : Cond.codeWith yL_bestProfile cL_bestProfile 4 (some .int) [(0, 9, 12, 13)] ∈ wsL_bestProfile := by unfold wsL_bestProfile; exact List.mem_cons_self
theorem kL_bestProfile_1 : Cond.classLink RL 13 "java/lang/IllegalArgumentException" ∈ wsL_bestProfile := List.mem_of_getElem? (i := 1) (by decide +kernel)
set_option maxHeartbeats 4000000 in
set_option maxRecDepth 100000 in
theorem w_bestProfile (l : Launch) (hfl : l.stackTraces = false) (D : va_G) (tE : Nat) (sz : Nat) (h0 : Nat) (h1 : Nat) (h2 : Nat) (h3 : Nat) (h4 : Nat) (a1 : Nat) (a2 : Nat) (b1 : Nat) (b2 : Nat) (b3 : Nat) (h5 : Nat) (b4 : Nat) (b5 : Nat) (w1 : Nat) (w2 : Nat) (w3 : Nat) (w4 : Nat) (w5 : Nat) (s1 : Nat) (s2 : Nat) (s3 : Nat) (s4 : Nat) (s5 : Nat) (s6 : Nat) (cI : ClassId) (f1 : Nat → Int32) (f2 : Nat → Int32) (fb : Nat → Int32) (sn : Int32) (np : Int32) (o1 : Nat) (cJ : ClassId) (fo : Nat → Int64) (p0 : Int32) (A : Nat → Prop) (hA0 : A = va_A [(h0, .inr (11, [.ref h1, .ref h2, .ref h3, .ref h4, .ref a1, .ref a2, .int 0])), (h3, .inr (7, [.ref b1, .ref b2, .ref b3, .ref h5, .ref b4, .ref b5])), (h5, .inr (9, [.ref s1, .ref s2, .ref s3, .int sn, .ref s4, .ref s5, .ref s6])), (h1, .inr (8, [.int 0, .int np, .ref w1, .ref w2, .ref w3, .ref w4, .ref w5])), (s2, .inl (cI, 10, .inl (f1))), (s3, .inl (cI, 11, .inl (f2))), (b2, .inl (cI, 10, .inl (fb))), (o1, .inl (cJ, 1, .inr (.inl (fo))))] sz) : Met l yL_bestProfile wsL_bestProfile (yR 4 1 6) (yP D tE [(h0, .inr (11, [.ref h1, .ref h2, .ref h3, .ref h4, .ref a1, .ref a2, .int 0])), (h3, .inr (7, [.ref b1, .ref b2, .ref b3, .ref h5, .ref b4, .ref b5])), (h5, .inr (9, [.ref s1, .ref s2, .ref s3, .int sn, .ref s4, .ref s5, .ref s6])), (h1, .inr (8, [.int 0, .int np, .ref w1, .ref w2, .ref w3, .ref w4, .ref w5])), (s2, .inl (cI, 10, .inl (f1))), (s3, .inl (cI, 11, .inl (f2))), (b2, .inl (cI, 10, .inl (fb))), (o1, .inl (cJ, 1, .inr (.inl (fo))))] [(cI, .int), (cJ, .long)] sz [.ref h0, .int p0, .ref o1]) (va_Qi (S := Nat → Int64) (fun (r : Int32) (u : Nat → Int64) => (r = 0 ∧ u 0 = 0 ∧ 1 ≤ p0 ∧ p0 ≤ 9) ∨ (r = 1 ∧ (p0 < 1 ∨ 9 < p0))) (fun (u : Nat → Int64) (t : State) => yB D A ((fun (u : Nat → Int64) => [(o1, .inl (cJ, 1, .inr (.inl (u))))]) u) t) A) 1 6 A := by
  refine va_MetW (cc := cL_bestProfile) (maxL := 4) (ret := (some .int)) (hh := [(0, 9, 12, 13)]) (by decide) rfl ?_
  intro p e s m args below meth c s₁ B hml hv
  obtain ⟨rfl, rfl, hP, hK, hD, hE, hA⟩ := y_start hA0 hv
  have hx := B.exec
  have hb := B.bytes
  have hr := B.returns
  have hts := atoms_spec (ws := wsL_bestProfile) B.pre
  have hown : s.vm.findClass RL = some m.cls := findClass_of_methodNamed B.named
  have hlocks := B.notSynchronized
  have htab : c.exceptionTable.toList = tableOf [(0, 9, 12, 13)] := vx_table (x := yL_bestProfile) (y := yL_bestProfile) (bytes := cL_bestProfile) (maxL' := 4) (ret' := (some .int)) (hh := [(0, 9, 12, 13)]) B (hts _ ktL_bestProfile)
  clear hA0 hv
  have hS : va_S A s.heap s.heap [] := va_S.rf
  have hl := lv_entry ([.ref h0, .int p0, .ref o1]) (n := 4) (Nat.le_of_ble_eq_true rfl)
  rw [lg_entry_eq]
  generalize (lg_sl ([.ref h0, .int p0, .ref o1]) ++ List.replicate (4 - (lg_sl ([.ref h0, .int p0, .ref o1])).length) Slot.unset).toArray = ls at hl ⊢
  have hl : lv_has ls 4 [(0, .ref h0), (1, .int p0), (2, .ref o1)] := hl
  refine lv_aload_n hx hb dL_bestProfile_0 rfl (lv_at hl 2 rfl) ?_
  refine lv_iconst (v := (0)) hx hb dL_bestProfile_1 (by decide) ?_
  refine lv_aload_n hx hb dL_bestProfile_2 rfl (lv_at hl 0 rfl) ?_
  refine lv_iload_n hx hb dL_bestProfile_3 rfl (lv_at hl 1 rfl) ?_
  refine yx_i (wc := [(h0, .inr (11, [.ref h1, .ref h2, .ref h3, .ref h4, .ref a1, .ref a2, .int 0])), (h3, .inr (7, [.ref b1, .ref b2, .ref b3, .ref h5, .ref b4, .ref b5])), (h5, .inr (9, [.ref s1, .ref s2, .ref s3, .int sn, .ref s4, .ref s5, .ref s6])), (h1, .inr (8, [.int 0, .int np, .ref w1, .ref w2, .ref w3, .ref w4, .ref w5])), (s2, .inl (cI, 10, .inl (f1))), (s3, .inl (cI, 11, .inl (f2))), (b2, .inl (cI, 10, .inl (fb)))]) (wr := [(o1, .inl (cJ, 1, .inr (.inl (fo))))]) (vx_runV (As := [.int p0]) (rest := [.int 0, .ref o1]) ⟨hx, hb, hml, hown, hts⟩ (f_bestProfile l hfl D tE s.heap.size h0 h1 h2 h3 h4 a1 a2 b1 b2 b3 h5 b4 b5 w1 w2 w3 w4 w5 s1 s2 s3 s4 s5 s6 cI f1 f2 fb sn np p0 (va_A [(h0, .inr (11, [.ref h1, .ref h2, .ref h3, .ref h4, .ref a1, .ref a2, .int 0])), (h3, .inr (7, [.ref b1, .ref b2, .ref b3, .ref h5, .ref b4, .ref b5])), (h5, .inr (9, [.ref s1, .ref s2, .ref s3, .int sn, .ref s4, .ref s5, .ref s6])), (h1, .inr (8, [.int 0, .int np, .ref w1, .ref w2, .ref w3, .ref w4, .ref w5])), (s2, .inl (cI, 10, .inl (f1))), (s3, .inl (cI, 11, .inl (f2))), (b2, .inl (cI, 10, .inl (fb)))] s.heap.size) rfl) (cwV 1 hts gL_bestProfile_X5_bestProfile rfl rfl rfl (by decide +kernel) ⟨Nat.le_of_ble_eq_true rfl, Nat.le_of_ble_eq_true rfl⟩) (yPreV (wc := [(h0, .inr (11, [.ref h1, .ref h2, .ref h3, .ref h4, .ref a1, .ref a2, .int 0])), (h3, .inr (7, [.ref b1, .ref b2, .ref b3, .ref h5, .ref b4, .ref b5])), (h5, .inr (9, [.ref s1, .ref s2, .ref s3, .int sn, .ref s4, .ref s5, .ref s6])), (h1, .inr (8, [.int 0, .int np, .ref w1, .ref w2, .ref w3, .ref w4, .ref w5])), (s2, .inl (cI, 10, .inl (f1))), (s3, .inl (cI, 11, .inl (f2))), (b2, .inl (cI, 10, .inl (fb)))]) (tc := [(cI, .int)]) hK hP hD hS hA hE [0, 1, 2, 3, 4, 5, 6] [0] (by decide) rfl rfl (ci := 11) (q0 := 0) (q := (RX5, TX5, 7)) rfl rfl) rfl rfl hl.1 rfl (lv_room (Nat.le_of_ble_eq_true rfl)) dL_bestProfile_4 ⟨Nat.le_of_ble_eq_true rfl, Nat.le_of_ble_eq_true rfl⟩) hP hD hS hA [0, 1, 2, 3, 4, 5, 6] [7] rfl rfl (by decide) (by decide) (fun E ce q9 H locs hpx hP hD hS g1 g2 g3 => ?_) (fun r_1 u_2 H locs hw hP hD hS => ?_)
  · have hP : va_P D vwCl [(o1, .inl (cJ, 1, .inr (.inl (fo))))] H := hP
    have hD : va_D A [(o1, .inl (cJ, 1, .inr (.inl (fo))))] := hD
    have hpx : E = "java/lang/IllegalArgumentException" ∧ (p0 < 1 ∨ 9 < p0) := hpx
    obtain ⟨rfl, hpy⟩ := hpx
    refine vx_catch (E := "java/lang/IllegalArgumentException") (name := "java/lang/IllegalArgumentException") hown [] (⟨0, 9, 12, 13⟩ : ExceptionTableEntry) [] (by rw [htab]; rfl) (fun z hz => nomatch hz) (by decide) (by decide) (hts _ kL_bestProfile_1) (va_Nw.use rfl (hE.2.1 _ (by decide))) g1 g2 g3 ?_
    refine lv_astore_n (lv' := [(3, .ref q9), (0, .ref h0), (1, .int p0), (2, .ref o1)]) hx hb dL_bestProfile_12 rfl hl (by decide) rfl (fun ls hl => ?_)
    refine lv_iconst (v := (1)) hx hb dL_bestProfile_13 (by decide) ?_
    exact y_iret hx hb hr hlocks fo (Or.inr ⟨rfl, (yz_w_bestProfile_40 p0 hpy)⟩) hP hD hS (Nat.le_of_ble_eq_true rfl) (Nat.le_of_ble_eq_true rfl) dL_bestProfile_14
  · have hP : va_P D vwCl [(o1, .inl (cJ, 1, .inr (.inl (fo))))] H := hP
    have hD : va_D A [(o1, .inl (cJ, 1, .inr (.inl (fo))))] := hD
    have hw : r_1 = 0 ∧ 1 ≤ p0 ∧ p0 ≤ 9 := hw
    rcases hw with ⟨hr9, hw9⟩
    · subst hr9
      have w_3 : 1 ≤ p0 ∧ p0 ≤ 9 := hw9
      refine lv_i2l (v := 0) hx hb dL_bestProfile_7 (by decide) ?_
      refine va_last hx hb hK hP hD hS 0 1 rfl rfl (by unfold vp_in; decide) dL_bestProfile_8 (fun H locs hP hD hS => ?_)
      obtain ⟨f_4, ef_4⟩ : ∃ g9, g9 = vp_updL fo (0 : Int32).toNatClampNeg 0 := ⟨_, rfl⟩
      have hP : va_P D vwCl [(o1, .inl (cJ, 1, .inr (.inl (f_4))))] H := by rw [ef_4]; exact hP
      have hD : va_D A [(o1, .inl (cJ, 1, .inr (.inl (f_4))))] := by rw [ef_4]; exact hD
      refine lv_goto (tgt := 15) hx hb dL_bestProfile_9 (by decide) ?_
      refine lv_iconst (v := (0)) hx hb dL_bestProfile_15 (by decide) ?_
      exact y_iret hx hb hr hlocks f_4 (Or.inl ⟨rfl, y_up ef_4, (yz_w_bestProfile_41 p0 w_3)⟩) hP hD hS (Nat.le_of_ble_eq_true rfl) (Nat.le_of_ble_eq_true rfl) dL_bestProfile_16
theorem ktL_matchedShare : Cond.codeWith yL_matchedShare cL_matchedShare 3 (some .int) [(0, 8, 11, 125)] ∈ wsL_matchedShare := by unfold wsL_matchedShare; exact List.mem_cons_self
theorem kL_matchedShare_1 : Cond.classLink RL 125 "java/lang/ArithmeticException" ∈ wsL_matchedShare := List.mem_of_getElem? (i := 1) (by decide +kernel)
set_option maxHeartbeats 4000000 in
set_option maxRecDepth 100000 in
theorem w_matchedShare (l : Launch) (hfl : l.stackTraces = false) (D : va_G) (tE : Nat) (sz : Nat) (h0 : Nat) (h1 : Nat) (h2 : Nat) (h3 : Nat) (h4 : Nat) (a1 : Nat) (a2 : Nat) (w1 : Nat) (w2 : Nat) (w3 : Nat) (w4 : Nat) (w5 : Nat) (np : Int32) (o1 : Nat) (cJ : ClassId) (fo : Nat → UInt64) (A : Nat → Prop) (hA0 : A = va_A [(h0, .inr (11, [.ref h1, .ref h2, .ref h3, .ref h4, .ref a1, .ref a2, .int 0])), (h1, .inr (8, [.int 0, .int np, .ref w1, .ref w2, .ref w3, .ref w4, .ref w5])), (o1, .inl (cJ, 1, .inr (.inr (.inr (.inl (fo))))))] sz) : Met l yL_matchedShare wsL_matchedShare (yR 2 1 6) (yP D tE [(h0, .inr (11, [.ref h1, .ref h2, .ref h3, .ref h4, .ref a1, .ref a2, .int 0])), (h1, .inr (8, [.int 0, .int np, .ref w1, .ref w2, .ref w3, .ref w4, .ref w5])), (o1, .inl (cJ, 1, .inr (.inr (.inr (.inl (fo))))))] [(cJ, .double)] sz [.ref h0, .ref o1]) (va_Qi (S := Nat → UInt64) (fun (r : Int32) (u : Nat → UInt64) => r = 1) (fun (u : Nat → UInt64) (t : State) => yB D A ((fun (u : Nat → UInt64) => [(o1, .inl (cJ, 1, .inr (.inr (.inr (.inl (u))))))]) u) t) A) 1 6 A := by
  refine va_MetW (cc := cL_matchedShare) (maxL := 3) (ret := (some .int)) (hh := [(0, 8, 11, 125)]) (by decide) rfl ?_
  intro p e s m args below meth c s₁ B hml hv
  obtain ⟨rfl, rfl, hP, hK, hD, hE, hA⟩ := y_start hA0 hv
  have hx := B.exec
  have hb := B.bytes
  have hr := B.returns
  have hts := atoms_spec (ws := wsL_matchedShare) B.pre
  have hown : s.vm.findClass RL = some m.cls := findClass_of_methodNamed B.named
  have hlocks := B.notSynchronized
  have htab : c.exceptionTable.toList = tableOf [(0, 8, 11, 125)] := vx_table (x := yL_matchedShare) (y := yL_matchedShare) (bytes := cL_matchedShare) (maxL' := 3) (ret' := (some .int)) (hh := [(0, 8, 11, 125)]) B (hts _ ktL_matchedShare)
  clear hA0 hv
  have hS : va_S A s.heap s.heap [] := va_S.rf
  have hl := lv_entry ([.ref h0, .ref o1]) (n := 3) (Nat.le_of_ble_eq_true rfl)
  rw [lg_entry_eq]
  generalize (lg_sl ([.ref h0, .ref o1]) ++ List.replicate (3 - (lg_sl ([.ref h0, .ref o1])).length) Slot.unset).toArray = ls at hl ⊢
  have hl : lv_has ls 3 [(0, .ref h0), (1, .ref o1)] := hl
  refine lv_aload_n hx hb dL_matchedShare_0 rfl (lv_at hl 1 rfl) ?_
  refine lv_iconst (v := (0)) hx hb dL_matchedShare_1 (by decide) ?_
  refine lv_aload_n hx hb dL_matchedShare_2 rfl (lv_at hl 0 rfl) ?_
  refine yx_f (wc := [(h0, .inr (11, [.ref h1, .ref h2, .ref h3, .ref h4, .ref a1, .ref a2, .int 0])), (h1, .inr (8, [.int 0, .int np, .ref w1, .ref w2, .ref w3, .ref w4, .ref w5]))]) (wr := [(o1, .inl (cJ, 1, .inr (.inr (.inr (.inl (fo))))))]) (vx_runV (As := []) (rest := [.int 0, .ref o1]) ⟨hx, hb, hml, hown, hts⟩ (f_matchedShare l hfl D tE s.heap.size h0 h1 h2 h3 h4 a1 a2 w1 w2 w3 w4 w5 np (va_A [(h0, .inr (11, [.ref h1, .ref h2, .ref h3, .ref h4, .ref a1, .ref a2, .int 0])), (h1, .inr (8, [.int 0, .int np, .ref w1, .ref w2, .ref w3, .ref w4, .ref w5]))] s.heap.size) rfl) (cwV 0 hts gL_matchedShare_X5_matchedShare rfl rfl rfl (by decide +kernel) ⟨Nat.le_of_ble_eq_true rfl, Nat.le_of_ble_eq_true rfl⟩) (yPreV (wc := [(h0, .inr (11, [.ref h1, .ref h2, .ref h3, .ref h4, .ref a1, .ref a2, .int 0])), (h1, .inr (8, [.int 0, .int np, .ref w1, .ref w2, .ref w3, .ref w4, .ref w5]))]) (tc := []) hK hP hD hS hA hE [0, 1] [] (by decide) rfl rfl (ci := 11) (q0 := 0) (q := (RX5, TX5, 7)) rfl rfl) rfl rfl hl.1 rfl (lv_room (Nat.le_of_ble_eq_true rfl)) dL_matchedShare_3 ⟨Nat.le_of_ble_eq_true rfl, Nat.le_of_ble_eq_true rfl⟩) hP hD hS hA [0, 1] [2] rfl rfl (by decide) (by decide) (fun E ce q9 H locs hpx hP hD hS g1 g2 g3 => ?_) (fun r_1 u_2 H locs hw hP hD hS => ?_)
  · have hP : va_P D vwCl [(o1, .inl (cJ, 1, .inr (.inr (.inr (.inl (fo))))))] H := hP
    have hD : va_D A [(o1, .inl (cJ, 1, .inr (.inr (.inr (.inl (fo))))))] := hD
    have hpx : E = "java/lang/ArithmeticException" := hpx
    subst hpx
    refine vx_catch (E := "java/lang/ArithmeticException") (name := "java/lang/ArithmeticException") hown [] (⟨0, 8, 11, 125⟩ : ExceptionTableEntry) [] (by rw [htab]; rfl) (fun z hz => nomatch hz) (by decide) (by decide) (hts _ kL_matchedShare_1) (va_Nw.use rfl (hE.2.1 _ (by decide))) g1 g2 g3 ?_
    refine lv_astore_n (lv' := [(2, .ref q9), (0, .ref h0), (1, .ref o1)]) hx hb dL_matchedShare_11 rfl hl (by decide) rfl (fun ls hl => ?_)
    refine lv_iconst (v := (1)) hx hb dL_matchedShare_12 (by decide) ?_
    exact y_iret hx hb hr hlocks fo rfl hP hD hS (Nat.le_of_ble_eq_true rfl) (Nat.le_of_ble_eq_true rfl) dL_matchedShare_13
  · have hP : va_P D vwCl [(o1, .inl (cJ, 1, .inr (.inr (.inr (.inl (fo))))))] H := hP
    have hD : va_D A [(o1, .inl (cJ, 1, .inr (.inr (.inr (.inl (fo))))))] := hD
    have hw : False := hw
    exact hw.elim
theorem ktL_meanRank : Cond.codeWith yL_meanRank cL_meanRank 3 (some .int) [(0, 7, 10, 125)] ∈ wsL_meanRank := by unfold wsL_meanRank; exact List.mem_cons_self
theorem kL_meanRank_1 : Cond.classLink RL 125 "java/lang/ArithmeticException" ∈ wsL_meanRank := List.mem_of_getElem? (i := 1) (by decide +kernel)
set_option maxHeartbeats 4000000 in
set_option maxRecDepth 100000 in
theorem w_meanRank (l : Launch) (hfl : l.stackTraces = false) (D : va_G) (tE : Nat) (sz : Nat) (h0 : Nat) (h1 : Nat) (h2 : Nat) (h3 : Nat) (h4 : Nat) (a1 : Nat) (a2 : Nat) (w1 : Nat) (w2 : Nat) (w3 : Nat) (w4 : Nat) (w5 : Nat) (np : Int32) (o1 : Nat) (cJ : ClassId) (fo : Nat → UInt64) (A : Nat → Prop) (hA0 : A = va_A [(h0, .inr (11, [.ref h1, .ref h2, .ref h3, .ref h4, .ref a1, .ref a2, .int 0])), (h1, .inr (8, [.int 0, .int np, .ref w1, .ref w2, .ref w3, .ref w4, .ref w5])), (o1, .inl (cJ, 1, .inr (.inr (.inr (.inl (fo))))))] sz) : Met l yL_meanRank wsL_meanRank (yR 2 1 6) (yP D tE [(h0, .inr (11, [.ref h1, .ref h2, .ref h3, .ref h4, .ref a1, .ref a2, .int 0])), (h1, .inr (8, [.int 0, .int np, .ref w1, .ref w2, .ref w3, .ref w4, .ref w5])), (o1, .inl (cJ, 1, .inr (.inr (.inr (.inl (fo))))))] [(cJ, .double)] sz [.ref h0, .ref o1]) (va_Qi (S := Nat → UInt64) (fun (r : Int32) (u : Nat → UInt64) => r = 1) (fun (u : Nat → UInt64) (t : State) => yB D A ((fun (u : Nat → UInt64) => [(o1, .inl (cJ, 1, .inr (.inr (.inr (.inl (u))))))]) u) t) A) 1 6 A := by
  refine va_MetW (cc := cL_meanRank) (maxL := 3) (ret := (some .int)) (hh := [(0, 7, 10, 125)]) (by decide) rfl ?_
  intro p e s m args below meth c s₁ B hml hv
  obtain ⟨rfl, rfl, hP, hK, hD, hE, hA⟩ := y_start hA0 hv
  have hx := B.exec
  have hb := B.bytes
  have hr := B.returns
  have hts := atoms_spec (ws := wsL_meanRank) B.pre
  have hown : s.vm.findClass RL = some m.cls := findClass_of_methodNamed B.named
  have hlocks := B.notSynchronized
  have htab : c.exceptionTable.toList = tableOf [(0, 7, 10, 125)] := vx_table (x := yL_meanRank) (y := yL_meanRank) (bytes := cL_meanRank) (maxL' := 3) (ret' := (some .int)) (hh := [(0, 7, 10, 125)]) B (hts _ ktL_meanRank)
  clear hA0 hv
  have hS : va_S A s.heap s.heap [] := va_S.rf
  have hl := lv_entry ([.ref h0, .ref o1]) (n := 3) (Nat.le_of_ble_eq_true rfl)
  rw [lg_entry_eq]
  generalize (lg_sl ([.ref h0, .ref o1]) ++ List.replicate (3 - (lg_sl ([.ref h0, .ref o1])).length) Slot.unset).toArray = ls at hl ⊢
  have hl : lv_has ls 3 [(0, .ref h0), (1, .ref o1)] := hl
  refine lv_aload_n hx hb dL_meanRank_0 rfl (lv_at hl 1 rfl) ?_
  refine lv_iconst (v := (0)) hx hb dL_meanRank_1 (by decide) ?_
  refine lv_aload_n hx hb dL_meanRank_2 rfl (lv_at hl 0 rfl) ?_
  refine yx_d (wc := [(h0, .inr (11, [.ref h1, .ref h2, .ref h3, .ref h4, .ref a1, .ref a2, .int 0])), (h1, .inr (8, [.int 0, .int np, .ref w1, .ref w2, .ref w3, .ref w4, .ref w5]))]) (wr := [(o1, .inl (cJ, 1, .inr (.inr (.inr (.inl (fo))))))]) (vx_runV (As := []) (rest := [.int 0, .ref o1]) ⟨hx, hb, hml, hown, hts⟩ (f_meanRank l hfl D tE s.heap.size h0 h1 h2 h3 h4 a1 a2 w1 w2 w3 w4 w5 np (va_A [(h0, .inr (11, [.ref h1, .ref h2, .ref h3, .ref h4, .ref a1, .ref a2, .int 0])), (h1, .inr (8, [.int 0, .int np, .ref w1, .ref w2, .ref w3, .ref w4, .ref w5]))] s.heap.size) rfl) (cwV 0 hts gL_meanRank_X5_meanRank rfl rfl rfl (by decide +kernel) ⟨Nat.le_of_ble_eq_true rfl, Nat.le_of_ble_eq_true rfl⟩) (yPreV (wc := [(h0, .inr (11, [.ref h1, .ref h2, .ref h3, .ref h4, .ref a1, .ref a2, .int 0])), (h1, .inr (8, [.int 0, .int np, .ref w1, .ref w2, .ref w3, .ref w4, .ref w5]))]) (tc := []) hK hP hD hS hA hE [0, 1] [] (by decide) rfl rfl (ci := 11) (q0 := 0) (q := (RX5, TX5, 7)) rfl rfl) rfl rfl hl.1 rfl (lv_room (Nat.le_of_ble_eq_true rfl)) dL_meanRank_3 ⟨Nat.le_of_ble_eq_true rfl, Nat.le_of_ble_eq_true rfl⟩) hP hD hS hA [0, 1] [2] rfl rfl (by decide) (by decide) (fun E ce q9 H locs hpx hP hD hS g1 g2 g3 => ?_) (fun r_1 u_2 H locs hw hP hD hS => ?_)
  · have hP : va_P D vwCl [(o1, .inl (cJ, 1, .inr (.inr (.inr (.inl (fo))))))] H := hP
    have hD : va_D A [(o1, .inl (cJ, 1, .inr (.inr (.inr (.inl (fo))))))] := hD
    have hpx : E = "java/lang/ArithmeticException" := hpx
    subst hpx
    refine vx_catch (E := "java/lang/ArithmeticException") (name := "java/lang/ArithmeticException") hown [] (⟨0, 7, 10, 125⟩ : ExceptionTableEntry) [] (by rw [htab]; rfl) (fun z hz => nomatch hz) (by decide) (by decide) (hts _ kL_meanRank_1) (va_Nw.use rfl (hE.2.1 _ (by decide))) g1 g2 g3 ?_
    refine lv_astore_n (lv' := [(2, .ref q9), (0, .ref h0), (1, .ref o1)]) hx hb dL_meanRank_10 rfl hl (by decide) rfl (fun ls hl => ?_)
    refine lv_iconst (v := (1)) hx hb dL_meanRank_11 (by decide) ?_
    exact y_iret hx hb hr hlocks fo rfl hP hD hS (Nat.le_of_ble_eq_true rfl) (Nat.le_of_ble_eq_true rfl) dL_meanRank_12
  · have hP : va_P D vwCl [(o1, .inl (cJ, 1, .inr (.inr (.inr (.inl (fo))))))] H := hP
    have hD : va_D A [(o1, .inl (cJ, 1, .inr (.inr (.inr (.inl (fo))))))] := hD
    have hw : False := hw
    exact hw.elim
theorem ktL_keep : Cond.codeWith yL_keep cL_keep 3 (some .int) [(0, 8, 11, 15)] ∈ wsL_keep := by unfold wsL_keep; exact List.mem_cons_self
set_option maxHeartbeats 4000000 in
set_option maxRecDepth 100000 in
theorem w_keep (l : Launch) (hfl : l.stackTraces = false) (D : va_G) (tE : Nat) (sz : Nat) (h0 : Nat) (h1 : Nat) (h2 : Nat) (h3 : Nat) (h4 : Nat) (a1 : Nat) (a2 : Nat) (k0 : Nat) (cI : ClassId) (cK : ClassId) (fh : Nat → Int32) (fk : Nat → Int32) (fK : Nat → Option Nat) (hf : fK 0 = some k0) (o1 : Nat) (cJ : ClassId) (fo : Nat → Int64) (A : Nat → Prop) (hA0 : A = va_A [(h0, .inr (11, [.ref h1, .ref h2, .ref h3, .ref h4, .ref a1, .ref a2, .int 0])), (a1, .inl (cI, 10, .inl (fh))), (a2, .inl (cK, 10, .inr (.inr (.inr (.inr (fK)))))), (k0, .inl (cI, 10, .inl (fk))), (o1, .inl (cJ, 1, .inr (.inl (fo))))] sz) : Met l yL_keep wsL_keep (yR 1 0 0) (yP D tE [(h0, .inr (11, [.ref h1, .ref h2, .ref h3, .ref h4, .ref a1, .ref a2, .int 0])), (a1, .inl (cI, 10, .inl (fh))), (a2, .inl (cK, 10, .inr (.inr (.inr (.inr (fK)))))), (k0, .inl (cI, 10, .inl (fk))), (o1, .inl (cJ, 1, .inr (.inl (fo))))] [(cI, .int), (cK, .array .int), (cJ, .long)] sz [.ref h0, .ref o1]) (va_Qi (S := Nat → Int64) (fun (r : Int32) (u : Nat → Int64) => r = 0 ∧ u 0 = 0) (fun (u : Nat → Int64) (t : State) => yB D A ((fun (u : Nat → Int64) => [(o1, .inl (cJ, 1, .inr (.inl (u))))]) u) t) A) 0 0 A := by
  refine va_MetW (cc := cL_keep) (maxL := 3) (ret := (some .int)) (hh := [(0, 8, 11, 15)]) (by decide) rfl ?_
  intro p e s m args below meth c s₁ B hml hv
  obtain ⟨rfl, rfl, hP, hK, hD, hE, hA⟩ := y_start hA0 hv
  have hx := B.exec
  have hb := B.bytes
  have hr := B.returns
  have hts := atoms_spec (ws := wsL_keep) B.pre
  have hown : s.vm.findClass RL = some m.cls := findClass_of_methodNamed B.named
  have hlocks := B.notSynchronized
  have htab : c.exceptionTable.toList = tableOf [(0, 8, 11, 15)] := vx_table (x := yL_keep) (y := yL_keep) (bytes := cL_keep) (maxL' := 3) (ret' := (some .int)) (hh := [(0, 8, 11, 15)]) B (hts _ ktL_keep)
  clear hA0 hv
  have hS : va_S A s.heap s.heap [] := va_S.rf
  have hl := lv_entry ([.ref h0, .ref o1]) (n := 3) (Nat.le_of_ble_eq_true rfl)
  rw [lg_entry_eq]
  generalize (lg_sl ([.ref h0, .ref o1]) ++ List.replicate (3 - (lg_sl ([.ref h0, .ref o1])).length) Slot.unset).toArray = ls at hl ⊢
  have hl : lv_has ls 3 [(0, .ref h0), (1, .ref o1)] := hl
  refine lv_aload_n hx hb dL_keep_0 rfl (lv_at hl 1 rfl) ?_
  refine lv_iconst (v := (0)) hx hb dL_keep_1 (by decide) ?_
  refine lv_aload_n hx hb dL_keep_2 rfl (lv_at hl 0 rfl) ?_
  refine yc_i (wc := [(h0, .inr (11, [.ref h1, .ref h2, .ref h3, .ref h4, .ref a1, .ref a2, .int 0])), (a1, .inl (cI, 10, .inl (fh))), (a2, .inl (cK, 10, .inr (.inr (.inr (.inr (fK)))))), (k0, .inl (cI, 10, .inl (fk)))]) (wr := [(o1, .inl (cJ, 1, .inr (.inl (fo))))]) (va_runV (As := []) (rest := [.int 0, .ref o1]) ⟨hx, hb, hml, hown, hts⟩ (f_keep l hfl D tE s.heap.size h0 h1 h2 h3 h4 a1 a2 k0 cI cK fh fk fK hf (va_A [(h0, .inr (11, [.ref h1, .ref h2, .ref h3, .ref h4, .ref a1, .ref a2, .int 0])), (a1, .inl (cI, 10, .inl (fh))), (a2, .inl (cK, 10, .inr (.inr (.inr (.inr (fK)))))), (k0, .inl (cI, 10, .inl (fk)))] s.heap.size) rfl) (cwV 0 hts gL_keep_X5_keep rfl rfl rfl (by decide +kernel) ⟨Nat.le_of_ble_eq_true rfl, Nat.le_of_ble_eq_true rfl⟩) (yPreV (wc := [(h0, .inr (11, [.ref h1, .ref h2, .ref h3, .ref h4, .ref a1, .ref a2, .int 0])), (a1, .inl (cI, 10, .inl (fh))), (a2, .inl (cK, 10, .inr (.inr (.inr (.inr (fK)))))), (k0, .inl (cI, 10, .inl (fk)))]) (tc := [(cI, .int), (cK, .array .int)]) hK hP hD hS hA hE [0, 1, 2, 3] [0, 1] (by decide) rfl rfl (ci := 11) (q0 := 0) (q := (RX5, TX5, 7)) rfl rfl) rfl rfl hl.1 rfl (lv_room (Nat.le_of_ble_eq_true rfl)) dL_keep_3 ⟨Nat.le_of_ble_eq_true rfl, Nat.le_of_ble_eq_true rfl⟩) hP hD hS hA [0, 1, 2, 3] [4] rfl rfl (by decide) (by decide) (fun r_1 u_2 H locs hw hP hD hS => ?_)
  have hP : va_P D vwCl [(o1, .inl (cJ, 1, .inr (.inl (fo))))] H := hP
  have hD : va_D A [(o1, .inl (cJ, 1, .inr (.inl (fo))))] := hD
  have hw : r_1 = 0 := hw
  subst hw
  refine lv_i2l (v := 0) hx hb dL_keep_6 (by decide) ?_
  refine va_last hx hb hK hP hD hS 0 2 rfl rfl (by unfold vp_in; decide) dL_keep_7 (fun H locs hP hD hS => ?_)
  obtain ⟨f_3, ef_3⟩ : ∃ g9, g9 = vp_updL fo (0 : Int32).toNatClampNeg 0 := ⟨_, rfl⟩
  have hP : va_P D vwCl [(o1, .inl (cJ, 1, .inr (.inl (f_3))))] H := by rw [ef_3]; exact hP
  have hD : va_D A [(o1, .inl (cJ, 1, .inr (.inl (f_3))))] := by rw [ef_3]; exact hD
  refine lv_goto (tgt := 14) hx hb dL_keep_8 (by decide) ?_
  refine lv_iconst (v := (0)) hx hb dL_keep_14 (by decide) ?_
  exact y_iret hx hb hr hlocks f_3 ⟨rfl, y_up ef_3⟩ hP hD hS (Nat.le_of_ble_eq_true rfl) (Nat.le_of_ble_eq_true rfl) dL_keep_15
