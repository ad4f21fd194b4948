theorem ktL_setWeight : Cond.codeWith yL_setWeight cL_setWeight 5 (some .int) [(0, 10, 13, 24), (0, 10, 17, 13)] ∈ wsL_setWeight := by unfold wsL_setWeight; exact List.mem_cons_self
theorem kL_setWeight_1 : Cond.classLink RL 24 "java/lang/IndexOutOfBoundsException" ∈ wsL_setWeight := List.mem_of_getElem? (i := 1) (by decide +kernel)
set_option maxHeartbeats 4000000 in
set_option maxRecDepth 100000 in
theorem w_setWeight (l : Launch) (hfl : l.stackTraces = false) (D : va_G) (tE : Nat) (sz : Nat) (h0 : Nat) (h1 : Nat) (h2 : Nat) (h3 : Nat) (h4 : Nat) (a1 : Nat) (a2 : Nat) (w1 : Nat) (w2 : Nat) (w3 : Nat) (w4 : Nat) (w5 : Nat) (np : Int32) (o1 : Nat) (cJ : ClassId) (fo : Nat → Int64) (p0 : Int32) (p1 : Int32) (A : Nat → Prop) (hA0 : A = va_A [(h0, .inr (11, [.ref h1, .ref h2, .ref h3, .ref h4, .ref a1, .ref a2, .int 0])), (h1, .inr (8, [.int 0, .int np, .ref w1, .ref w2, .ref w3, .ref w4, .ref w5])), (o1, .inl (cJ, 1, .inr (.inl (fo))))] sz) : Met l yL_setWeight wsL_setWeight (yR 2 1 6) (yP D tE [(h0, .inr (11, [.ref h1, .ref h2, .ref h3, .ref h4, .ref a1, .ref a2, .int 0])), (h1, .inr (8, [.int 0, .int np, .ref w1, .ref w2, .ref w3, .ref w4, .ref w5])), (o1, .inl (cJ, 1, .inr (.inl (fo))))] [(cJ, .long)] sz [.ref h0, .int p0, .int p1, .ref o1]) (va_Qi (S := Unit) (fun (r : Int32) (u : Unit) => r = 1) (fun (u : Unit) (t : State) => yB D A ((fun (u : Unit) => [(o1, .inl (cJ, 1, .inr (.inl (fo))))]) u) t) A) 1 6 A := by
  refine va_MetW (cc := cL_setWeight) (maxL := 5) (ret := (some .int)) (hh := [(0, 10, 13, 24), (0, 10, 17, 13)]) (by decide) rfl ?_
  intro p e s m args below meth c s₁ B hml hv
  obtain ⟨rfl, rfl, hP, hK, hD, hE, hA⟩ := y_start hA0 hv
  have hx := B.exec
  have hb := B.bytes
  have hr := B.returns
  have hts := atoms_spec (ws := wsL_setWeight) B.pre
  have hown : s.vm.findClass RL = some m.cls := findClass_of_methodNamed B.named
  have hlocks := B.notSynchronized
  have htab : c.exceptionTable.toList = tableOf [(0, 10, 13, 24), (0, 10, 17, 13)] := vx_table (x := yL_setWeight) (y := yL_setWeight) (bytes := cL_setWeight) (maxL' := 5) (ret' := (some .int)) (hh := [(0, 10, 13, 24), (0, 10, 17, 13)]) B (hts _ ktL_setWeight)
  clear hA0 hv
  have hS : va_S A s.heap s.heap [] := va_S.rf
  have hl := lv_entry ([.ref h0, .int p0, .int p1, .ref o1]) (n := 5) (Nat.le_of_ble_eq_true rfl)
  rw [lg_entry_eq]
  generalize (lg_sl ([.ref h0, .int p0, .int p1, .ref o1]) ++ List.replicate (5 - (lg_sl ([.ref h0, .int p0, .int p1, .ref o1])).length) Slot.unset).toArray = ls at hl ⊢
  have hl : lv_has ls 5 [(0, .ref h0), (1, .int p0), (2, .int p1), (3, .ref o1)] := hl
  refine lv_aload_n hx hb dL_setWeight_0 rfl (lv_at hl 3 rfl) ?_
  refine lv_iconst (v := (0)) hx hb dL_setWeight_1 (by decide) ?_
  refine lv_aload_n hx hb dL_setWeight_2 rfl (lv_at hl 0 rfl) ?_
  refine lv_iload_n hx hb dL_setWeight_3 rfl (lv_at hl 1 rfl) ?_
  refine lv_iload_n hx hb dL_setWeight_4 rfl (lv_at hl 2 rfl) ?_
  refine yx_i (wc := [(h0, .inr (11, [.ref h1, .ref h2, .ref h3, .ref h4, .ref a1, .ref a2, .int 0])), (h1, .inr (8, [.int 0, .int np, .ref w1, .ref w2, .ref w3, .ref w4, .ref w5]))]) (wr := [(o1, .inl (cJ, 1, .inr (.inl (fo))))]) (vx_runV (As := [.int p0, .int p1]) (rest := [.int 0, .ref o1]) ⟨hx, hb, hml, hown, hts⟩ (f_setWeight l hfl D tE s.heap.size h0 h1 h2 h3 h4 a1 a2 w1 w2 w3 w4 w5 np p0 p1 (va_A [(h0, .inr (11, [.ref h1, .ref h2, .ref h3, .ref h4, .ref a1, .ref a2, .int 0])), (h1, .inr (8, [.int 0, .int np, .ref w1, .ref w2, .ref w3, .ref w4, .ref w5]))] s.heap.size) rfl) (cwV 2 hts gL_setWeight_X5_setWeight rfl rfl rfl (by decide +kernel) ⟨Nat.le_of_ble_eq_true rfl, Nat.le_of_ble_eq_true rfl⟩) (yPreV (wc := [(h0, .inr (11, [.ref h1, .ref h2, .ref h3, .ref h4, .ref a1, .ref a2, .int 0])), (h1, .inr (8, [.int 0, .int np, .ref w1, .ref w2, .ref w3, .ref w4, .ref w5]))]) (tc := []) hK hP hD hS hA hE [0, 1] [] (by decide) rfl rfl (ci := 11) (q0 := 0) (q := (RX5, TX5, 7)) rfl rfl) rfl rfl hl.1 rfl (lv_room (Nat.le_of_ble_eq_true rfl)) dL_setWeight_5 ⟨Nat.le_of_ble_eq_true rfl, Nat.le_of_ble_eq_true rfl⟩) hP hD hS hA [0, 1] [2] rfl rfl (by decide) (by decide) (fun E ce q9 H locs hpx hP hD hS g1 g2 g3 => ?_) (fun r_1 u_2 H locs hw hP hD hS => ?_)
  · have hP : va_P D vwCl [(o1, .inl (cJ, 1, .inr (.inl (fo))))] H := hP
    have hD : va_D A [(o1, .inl (cJ, 1, .inr (.inl (fo))))] := hD
    have hpx : E = "java/lang/IndexOutOfBoundsException" := hpx
    subst hpx
    refine vx_catch (E := "java/lang/IndexOutOfBoundsException") (name := "java/lang/IndexOutOfBoundsException") hown [] (⟨0, 10, 13, 24⟩ : ExceptionTableEntry) [(⟨0, 10, 17, 13⟩ : ExceptionTableEntry)] (by rw [htab]; rfl) (fun z hz => nomatch hz) (by decide) (by decide) (hts _ kL_setWeight_1) (va_Nw.use rfl (hE.2.1 _ (by decide))) g1 g2 g3 ?_
    refine lv_astore (lv' := [(4, .ref q9), (0, .ref h0), (1, .int p0), (2, .int p1), (3, .ref o1)]) hx hb dL_setWeight_13 hl (by decide) rfl (fun ls hl => ?_)
    refine lv_iconst (v := (1)) hx hb dL_setWeight_15 (by decide) ?_
    exact y_iret hx hb hr hlocks () rfl hP hD hS (Nat.le_of_ble_eq_true rfl) (Nat.le_of_ble_eq_true rfl) dL_setWeight_16
  · have hP : va_P D vwCl [(o1, .inl (cJ, 1, .inr (.inl (fo)))), (h0, .inr (11, [.ref h1, .ref h2, .ref h3, .ref h4, .ref a1, .ref a2, .int 0])), (h1, .inr (8, [.int 0, .int np, .ref w1, .ref w2, .ref w3, .ref w4, .ref w5]))] H := hP
    have hD : va_D A [(o1, .inl (cJ, 1, .inr (.inl (fo)))), (h0, .inr (11, [.ref h1, .ref h2, .ref h3, .ref h4, .ref a1, .ref a2, .int 0])), (h1, .inr (8, [.int 0, .int np, .ref w1, .ref w2, .ref w3, .ref w4, .ref w5]))] := hD
    have hw : False := hw
    exact hw.elim
theorem ktL_setRank : Cond.codeWith yL_setRank cL_setRank 6 (some .int) [(0, 12, 15, 24), (0, 12, 19, 13)] ∈ wsL_setRank := by unfold wsL_setRank; exact List.mem_cons_self
theorem kL_setRank_1 : Cond.classLink RL 24 "java/lang/IndexOutOfBoundsException" ∈ wsL_setRank := List.mem_of_getElem? (i := 1) (by decide +kernel)
set_option maxHeartbeats 4000000 in
set_option maxRecDepth 100000 in
theorem w_setRank (l : Launch) (hfl : l.stackTraces = false) (D : va_G) (tE : Nat) (sz : Nat) (h0 : Nat) (h1 : Nat) (h2 : Nat) (h3 : Nat) (h4 : Nat) (a1 : Nat) (a2 : Nat) (w1 : Nat) (w2 : Nat) (w3 : Nat) (w4 : Nat) (w5 : Nat) (np : Int32) (o1 : Nat) (cJ : ClassId) (fo : Nat → Int64) (p0 : Int32) (p1 : Int32) (p2 : Int32) (A : Nat → Prop) (hA0 : A = va_A [(h0, .inr (11, [.ref h1, .ref h2, .ref h3, .ref h4, .ref a1, .ref a2, .int 0])), (h1, .inr (8, [.int 0, .int np, .ref w1, .ref w2, .ref w3, .ref w4, .ref w5])), (o1, .inl (cJ, 1, .inr (.inl (fo))))] sz) : Met l yL_setRank wsL_setRank (yR 2 1 6) (yP D tE [(h0, .inr (11, [.ref h1, .ref h2, .ref h3, .ref h4, .ref a1, .ref a2, .int 0])), (h1, .inr (8, [.int 0, .int np, .ref w1, .ref w2, .ref w3, .ref w4, .ref w5])), (o1, .inl (cJ, 1, .inr (.inl (fo))))] [(cJ, .long)] sz [.ref h0, .int p0, .int p1, .int p2, .ref o1]) (va_Qi (S := Unit) (fun (r : Int32) (u : Unit) => r = 1) (fun (u : Unit) (t : State) => yB D A ((fun (u : Unit) => [(o1, .inl (cJ, 1, .inr (.inl (fo))))]) u) t) A) 1 6 A := by
  refine va_MetW (cc := cL_setRank) (maxL := 6) (ret := (some .int)) (hh := [(0, 12, 15, 24), (0, 12, 19, 13)]) (by decide) rfl ?_
  intro p e s m args below meth c s₁ B hml hv
  obtain ⟨rfl, rfl, hP, hK, hD, hE, hA⟩ := y_start hA0 hv
  have hx := B.exec
  have hb := B.bytes
  have hr := B.returns
  have hts := atoms_spec (ws := wsL_setRank) B.pre
  have hown : s.vm.findClass RL = some m.cls := findClass_of_methodNamed B.named
  have hlocks := B.notSynchronized
  have htab : c.exceptionTable.toList = tableOf [(0, 12, 15, 24), (0, 12, 19, 13)] := vx_table (x := yL_setRank) (y := yL_setRank) (bytes := cL_setRank) (maxL' := 6) (ret' := (some .int)) (hh := [(0, 12, 15, 24), (0, 12, 19, 13)]) B (hts _ ktL_setRank)
  clear hA0 hv
  have hS : va_S A s.heap s.heap [] := va_S.rf
  have hl := lv_entry ([.ref h0, .int p0, .int p1, .int p2, .ref o1]) (n := 6) (Nat.le_of_ble_eq_true rfl)
  rw [lg_entry_eq]
  generalize (lg_sl ([.ref h0, .int p0, .int p1, .int p2, .ref o1]) ++ List.replicate (6 - (lg_sl ([.ref h0, .int p0, .int p1, .int p2, .ref o1])).length) Slot.unset).toArray = ls at hl ⊢
  have hl : lv_has ls 6 [(0, .ref h0), (1, .int p0), (2, .int p1), (3, .int p2), (4, .ref o1)] := hl
  refine lv_aload hx hb dL_setRank_0 (lv_at hl 4 rfl) ?_
  refine lv_iconst (v := (0)) hx hb dL_setRank_2 (by decide) ?_
  refine lv_aload_n hx hb dL_setRank_3 rfl (lv_at hl 0 rfl) ?_
  refine lv_iload_n hx hb dL_setRank_4 rfl (lv_at hl 1 rfl) ?_
  refine lv_iload_n hx hb dL_setRank_5 rfl (lv_at hl 2 rfl) ?_
  refine lv_iload_n hx hb dL_setRank_6 rfl (lv_at hl 3 rfl) ?_
  refine yx_i (wc := [(h0, .inr (11, [.ref h1, .ref h2, .ref h3, .ref h4, .ref a1, .ref a2, .int 0])), (h1, .inr (8, [.int 0, .int np, .ref w1, .ref w2, .ref w3, .ref w4, .ref w5]))]) (wr := [(o1, .inl (cJ, 1, .inr (.inl (fo))))]) (vx_runV (As := [.int p0, .int p1, .int p2]) (rest := [.int 0, .ref o1]) ⟨hx, hb, hml, hown, hts⟩ (f_setRank l hfl D tE s.heap.size h0 h1 h2 h3 h4 a1 a2 w1 w2 w3 w4 w5 np p0 p1 p2 (va_A [(h0, .inr (11, [.ref h1, .ref h2, .ref h3, .ref h4, .ref a1, .ref a2, .int 0])), (h1, .inr (8, [.int 0, .int np, .ref w1, .ref w2, .ref w3, .ref w4, .ref w5]))] s.heap.size) rfl) (cwV 3 hts gL_setRank_X5_setRank rfl rfl rfl (by decide +kernel) ⟨Nat.le_of_ble_eq_true rfl, Nat.le_of_ble_eq_true rfl⟩) (yPreV (wc := [(h0, .inr (11, [.ref h1, .ref h2, .ref h3, .ref h4, .ref a1, .ref a2, .int 0])), (h1, .inr (8, [.int 0, .int np, .ref w1, .ref w2, .ref w3, .ref w4, .ref w5]))]) (tc := []) hK hP hD hS hA hE [0, 1] [] (by decide) rfl rfl (ci := 11) (q0 := 0) (q := (RX5, TX5, 7)) rfl rfl) rfl rfl hl.1 rfl (lv_room (Nat.le_of_ble_eq_true rfl)) dL_setRank_7 ⟨Nat.le_of_ble_eq_true rfl, Nat.le_of_ble_eq_true rfl⟩) hP hD hS hA [0, 1] [2] rfl rfl (by decide) (by decide) (fun E ce q9 H locs hpx hP hD hS g1 g2 g3 => ?_) (fun r_1 u_2 H locs hw hP hD hS => ?_)
  · have hP : va_P D vwCl [(o1, .inl (cJ, 1, .inr (.inl (fo))))] H := hP
    have hD : va_D A [(o1, .inl (cJ, 1, .inr (.inl (fo))))] := hD
    have hpx : E = "java/lang/IndexOutOfBoundsException" := hpx
    subst hpx
    refine vx_catch (E := "java/lang/IndexOutOfBoundsException") (name := "java/lang/IndexOutOfBoundsException") hown [] (⟨0, 12, 15, 24⟩ : ExceptionTableEntry) [(⟨0, 12, 19, 13⟩ : ExceptionTableEntry)] (by rw [htab]; rfl) (fun z hz => nomatch hz) (by decide) (by decide) (hts _ kL_setRank_1) (va_Nw.use rfl (hE.2.1 _ (by decide))) g1 g2 g3 ?_
    refine lv_astore (lv' := [(5, .ref q9), (0, .ref h0), (1, .int p0), (2, .int p1), (3, .int p2), (4, .ref o1)]) hx hb dL_setRank_15 hl (by decide) rfl (fun ls hl => ?_)
    refine lv_iconst (v := (1)) hx hb dL_setRank_17 (by decide) ?_
    exact y_iret hx hb hr hlocks () rfl hP hD hS (Nat.le_of_ble_eq_true rfl) (Nat.le_of_ble_eq_true rfl) dL_setRank_18
  · have hP : va_P D vwCl [(o1, .inl (cJ, 1, .inr (.inl (fo)))), (h0, .inr (11, [.ref h1, .ref h2, .ref h3, .ref h4, .ref a1, .ref a2, .int 0])), (h1, .inr (8, [.int 0, .int np, .ref w1, .ref w2, .ref w3, .ref w4, .ref w5]))] H := hP
    have hD : va_D A [(o1, .inl (cJ, 1, .inr (.inl (fo)))), (h0, .inr (11, [.ref h1, .ref h2, .ref h3, .ref h4, .ref a1, .ref a2, .int 0])), (h1, .inr (8, [.int 0, .int np, .ref w1, .ref w2, .ref w3, .ref w4, .ref w5]))] := hD
    have hw : False := hw
    exact hw.elim
theorem ktL_rankOf : Cond.codeWith yL_rankOf cL_rankOf 5 (some .int) [(0, 10, 13, 24)] ∈ wsL_rankOf := by unfold wsL_rankOf; exact List.mem_cons_self
theorem kL_rankOf_1 : Cond.classLink RL 24 "java/lang/IndexOutOfBoundsException" ∈ wsL_rankOf := List.mem_of_getElem? (i := 1) (by decide +kernel)
set_option maxHeartbeats 4000000 in
set_option maxRecDepth 100000 in
theorem w_rankOf (l : Launch) (hfl : l.stackTraces = false) (D : va_G) (tE : Nat) (sz : Nat) (h0 : Nat) (h1 : Nat) (h2 : Nat) (h3 : Nat) (h4 : Nat) (a1 : Nat) (a2 : Nat) (w1 : Nat) (w2 : Nat) (w3 : Nat) (w4 : Nat) (w5 : Nat) (np : Int32) (o1 : Nat) (cJ : ClassId) (fo : Nat → Int64) (p0 : Int32) (p1 : Int32) (A : Nat → Prop) (hA0 : A = va_A [(h0, .inr (11, [.ref h1, .ref h2, .ref h3, .ref h4, .ref a1, .ref a2, .int 0])), (h1, .inr (8, [.int 0, .int np, .ref w1, .ref w2, .ref w3, .ref w4, .ref w5])), (o1, .inl (cJ, 1, .inr (.inl (fo))))] sz) : Met l yL_rankOf wsL_rankOf (yR 2 1 6) (yP D tE [(h0, .inr (11, [.ref h1, .ref h2, .ref h3, .ref h4, .ref a1, .ref a2, .int 0])), (h1, .inr (8, [.int 0, .int np, .ref w1, .ref w2, .ref w3, .ref w4, .ref w5])), (o1, .inl (cJ, 1, .inr (.inl (fo))))] [(cJ, .long)] sz [.ref h0, .int p0, .int p1, .ref o1]) (va_Qi (S := Unit) (fun (r : Int32) (u : Unit) => r = 1) (fun (u : Unit) (t : State) => yB D A ((fun (u : Unit) => [(o1, .inl (cJ, 1, .inr (.inl (fo))))]) u) t) A) 1 6 A := by
  refine va_MetW (cc := cL_rankOf) (maxL := 5) (ret := (some .int)) (hh := [(0, 10, 13, 24)]) (by decide) rfl ?_
  intro p e s m args below meth c s₁ B hml hv
  obtain ⟨rfl, rfl, hP, hK, hD, hE, hA⟩ := y_start hA0 hv
  have hx := B.exec
  have hb := B.bytes
  have hr := B.returns
  have hts := atoms_spec (ws := wsL_rankOf) B.pre
  have hown : s.vm.findClass RL = some m.cls := findClass_of_methodNamed B.named
  have hlocks := B.notSynchronized
  have htab : c.exceptionTable.toList = tableOf [(0, 10, 13, 24)] := vx_table (x := yL_rankOf) (y := yL_rankOf) (bytes := cL_rankOf) (maxL' := 5) (ret' := (some .int)) (hh := [(0, 10, 13, 24)]) B (hts _ ktL_rankOf)
  clear hA0 hv
  have hS : va_S A s.heap s.heap [] := va_S.rf
  have hl := lv_entry ([.ref h0, .int p0, .int p1, .ref o1]) (n := 5) (Nat.le_of_ble_eq_true rfl)
  rw [lg_entry_eq]
  generalize (lg_sl ([.ref h0, .int p0, .int p1, .ref o1]) ++ List.replicate (5 - (lg_sl ([.ref h0, .int p0, .int p1, .ref o1])).length) Slot.unset).toArray = ls at hl ⊢
  have hl : lv_has ls 5 [(0, .ref h0), (1, .int p0), (2, .int p1), (3, .ref o1)] := hl
  refine lv_aload_n hx hb dL_rankOf_0 rfl (lv_at hl 3 rfl) ?_
  refine lv_iconst (v := (0)) hx hb dL_rankOf_1 (by decide) ?_
  refine lv_aload_n hx hb dL_rankOf_2 rfl (lv_at hl 0 rfl) ?_
  refine lv_iload_n hx hb dL_rankOf_3 rfl (lv_at hl 1 rfl) ?_
  refine lv_iload_n hx hb dL_rankOf_4 rfl (lv_at hl 2 rfl) ?_
  refine yx_i (wc := [(h0, .inr (11, [.ref h1, .ref h2, .ref h3, .ref h4, .ref a1, .ref a2, .int 0])), (h1, .inr (8, [.int 0, .int np, .ref w1, .ref w2, .ref w3, .ref w4, .ref w5]))]) (wr := [(o1, .inl (cJ, 1, .inr (.inl (fo))))]) (vx_runV (As := [.int p0, .int p1]) (rest := [.int 0, .ref o1]) ⟨hx, hb, hml, hown, hts⟩ (f_rankOf l hfl D tE s.heap.size h0 h1 h2 h3 h4 a1 a2 w1 w2 w3 w4 w5 np p0 p1 (va_A [(h0, .inr (11, [.ref h1, .ref h2, .ref h3, .ref h4, .ref a1, .ref a2, .int 0])), (h1, .inr (8, [.int 0, .int np, .ref w1, .ref w2, .ref w3, .ref w4, .ref w5]))] s.heap.size) rfl) (cwV 2 hts gL_rankOf_X5_rankOf rfl rfl rfl (by decide +kernel) ⟨Nat.le_of_ble_eq_true rfl, Nat.le_of_ble_eq_true rfl⟩) (yPreV (wc := [(h0, .inr (11, [.ref h1, .ref h2, .ref h3, .ref h4, .ref a1, .ref a2, .int 0])), (h1, .inr (8, [.int 0, .int np, .ref w1, .ref w2, .ref w3, .ref w4, .ref w5]))]) (tc := []) hK hP hD hS hA hE [0, 1] [] (by decide) rfl rfl (ci := 11) (q0 := 0) (q := (RX5, TX5, 7)) rfl rfl) rfl rfl hl.1 rfl (lv_room (Nat.le_of_ble_eq_true rfl)) dL_rankOf_5 ⟨Nat.le_of_ble_eq_true rfl, Nat.le_of_ble_eq_true rfl⟩) hP hD hS hA [0, 1] [2] rfl rfl (by decide) (by decide) (fun E ce q9 H locs hpx hP hD hS g1 g2 g3 => ?_) (fun r_1 u_2 H locs hw hP hD hS => ?_)
  · have hP : va_P D vwCl [(o1, .inl (cJ, 1, .inr (.inl (fo))))] H := hP
    have hD : va_D A [(o1, .inl (cJ, 1, .inr (.inl (fo))))] := hD
    have hpx : E = "java/lang/IndexOutOfBoundsException" := hpx
    subst hpx
    refine vx_catch (E := "java/lang/IndexOutOfBoundsException") (name := "java/lang/IndexOutOfBoundsException") hown [] (⟨0, 10, 13, 24⟩ : ExceptionTableEntry) [] (by rw [htab]; rfl) (fun z hz => nomatch hz) (by decide) (by decide) (hts _ kL_rankOf_1) (va_Nw.use rfl (hE.2.1 _ (by decide))) g1 g2 g3 ?_
    refine lv_astore (lv' := [(4, .ref q9), (0, .ref h0), (1, .int p0), (2, .int p1), (3, .ref o1)]) hx hb dL_rankOf_13 hl (by decide) rfl (fun ls hl => ?_)
    refine lv_iconst (v := (1)) hx hb dL_rankOf_15 (by decide) ?_
    exact y_iret hx hb hr hlocks () rfl hP hD hS (Nat.le_of_ble_eq_true rfl) (Nat.le_of_ble_eq_true rfl) dL_rankOf_16
  · have hP : va_P D vwCl [(o1, .inl (cJ, 1, .inr (.inl (fo)))), (h0, .inr (11, [.ref h1, .ref h2, .ref h3, .ref h4, .ref a1, .ref a2, .int 0])), (h1, .inr (8, [.int 0, .int np, .ref w1, .ref w2, .ref w3, .ref w4, .ref w5]))] H := hP
    have hD : va_D A [(o1, .inl (cJ, 1, .inr (.inl (fo)))), (h0, .inr (11, [.ref h1, .ref h2, .ref h3, .ref h4, .ref a1, .ref a2, .int 0])), (h1, .inr (8, [.int 0, .int np, .ref w1, .ref w2, .ref w3, .ref w4, .ref w5]))] := hD
    have hw : False := hw
    exact hw.elim
theorem ktL_tell : Cond.codeWith yL_tell cL_tell 4 (some .int) [(0, 9, 12, 24), (0, 9, 15, 29)] ∈ wsL_tell := by unfold wsL_tell; exact List.mem_cons_self
theorem kL_tell_1 : Cond.classLink RL 24 "java/lang/IndexOutOfBoundsException" ∈ wsL_tell := List.mem_of_getElem? (i := 1) (by decide +kernel)
set_option maxHeartbeats 4000000 in
set_option maxRecDepth 100000 in
theorem w_tell (l : Launch) (hfl : l.stackTraces = false) (D : va_G) (tE : Nat) (sz : Nat) (h0 : Nat) (h1 : Nat) (h2 : Nat) (h3 : Nat) (h4 : Nat) (a1 : Nat) (a2 : Nat) (w1 : Nat) (w2 : Nat) (w3 : Nat) (w4 : Nat) (w5 : Nat) (np : Int32) (o1 : Nat) (cJ : ClassId) (fo : Nat → Int64) (p0 : Int32) (A : Nat → Prop) (hA0 : A = va_A [(h0, .inr (11, [.ref h1, .ref h2, .ref h3, .ref h4, .ref a1, .ref a2, .int 0])), (h1, .inr (8, [.int 0, .int np, .ref w1, .ref w2, .ref w3, .ref w4, .ref w5])), (o1, .inl (cJ, 1, .inr (.inl (fo))))] sz) : Met l yL_tell wsL_tell (yR 2 1 6) (yP D tE [(h0, .inr (11, [.ref h1, .ref h2, .ref h3, .ref h4, .ref a1, .ref a2, .int 0])), (h1, .inr (8, [.int 0, .int np, .ref w1, .ref w2, .ref w3, .ref w4, .ref w5])), (o1, .inl (cJ, 1, .inr (.inl (fo))))] [(cJ, .long)] sz [.ref h0, .int p0, .ref o1]) (va_Qi (S := Unit) (fun (r : Int32) (u : Unit) => r = 1) (fun (u : Unit) (t : State) => yB D A ((fun (u : Unit) => [(o1, .inl (cJ, 1, .inr (.inl (fo))))]) u) t) A) 1 6 A := by
  refine va_MetW (cc := cL_tell) (maxL := 4) (ret := (some .int)) (hh := [(0, 9, 12, 24), (0, 9, 15, 29)]) (by decide) rfl ?_
  intro p e s m args below meth c s₁ B hml hv
  obtain ⟨rfl, rfl, hP, hK, hD, hE, hA⟩ := y_start hA0 hv
  have hx := B.exec
  have hb := B.bytes
  have hr := B.returns
  have hts := atoms_spec (ws := wsL_tell) B.pre
  have hown : s.vm.findClass RL = some m.cls := findClass_of_methodNamed B.named
  have hlocks := B.notSynchronized
  have htab : c.exceptionTable.toList = tableOf [(0, 9, 12, 24), (0, 9, 15, 29)] := vx_table (x := yL_tell) (y := yL_tell) (bytes := cL_tell) (maxL' := 4) (ret' := (some .int)) (hh := [(0, 9, 12, 24), (0, 9, 15, 29)]) B (hts _ ktL_tell)
  clear hA0 hv
  have hS : va_S A s.heap s.heap [] := va_S.rf
  have hl := lv_entry ([.ref h0, .int p0, .ref o1]) (n := 4) (Nat.le_of_ble_eq_true rfl)
  rw [lg_entry_eq]
  generalize (lg_sl ([.ref h0, .int p0, .ref o1]) ++ List.replicate (4 - (lg_sl ([.ref h0, .int p0, .ref o1])).length) Slot.unset).toArray = ls at hl ⊢
  have hl : lv_has ls 4 [(0, .ref h0), (1, .int p0), (2, .ref o1)] := hl
  refine lv_aload_n hx hb dL_tell_0 rfl (lv_at hl 2 rfl) ?_
  refine lv_iconst (v := (0)) hx hb dL_tell_1 (by decide) ?_
  refine lv_aload_n hx hb dL_tell_2 rfl (lv_at hl 0 rfl) ?_
  refine lv_iload_n hx hb dL_tell_3 rfl (lv_at hl 1 rfl) ?_
  refine yx_i (wc := [(h0, .inr (11, [.ref h1, .ref h2, .ref h3, .ref h4, .ref a1, .ref a2, .int 0])), (h1, .inr (8, [.int 0, .int np, .ref w1, .ref w2, .ref w3, .ref w4, .ref w5]))]) (wr := [(o1, .inl (cJ, 1, .inr (.inl (fo))))]) (vx_runV (As := [.int p0]) (rest := [.int 0, .ref o1]) ⟨hx, hb, hml, hown, hts⟩ (f_tell l hfl D tE s.heap.size h0 h1 h2 h3 h4 a1 a2 w1 w2 w3 w4 w5 np p0 (va_A [(h0, .inr (11, [.ref h1, .ref h2, .ref h3, .ref h4, .ref a1, .ref a2, .int 0])), (h1, .inr (8, [.int 0, .int np, .ref w1, .ref w2, .ref w3, .ref w4, .ref w5]))] s.heap.size) rfl) (cwV 1 hts gL_tell_X5_tell rfl rfl rfl (by decide +kernel) ⟨Nat.le_of_ble_eq_true rfl, Nat.le_of_ble_eq_true rfl⟩) (yPreV (wc := [(h0, .inr (11, [.ref h1, .ref h2, .ref h3, .ref h4, .ref a1, .ref a2, .int 0])), (h1, .inr (8, [.int 0, .int np, .ref w1, .ref w2, .ref w3, .ref w4, .ref w5]))]) (tc := []) hK hP hD hS hA hE [0, 1] [] (by decide) rfl rfl (ci := 11) (q0 := 0) (q := (RX5, TX5, 7)) rfl rfl) rfl rfl hl.1 rfl (lv_room (Nat.le_of_ble_eq_true rfl)) dL_tell_4 ⟨Nat.le_of_ble_eq_true rfl, Nat.le_of_ble_eq_true rfl⟩) hP hD hS hA [0, 1] [2] rfl rfl (by decide) (by decide) (fun E ce q9 H locs hpx hP hD hS g1 g2 g3 => ?_) (fun r_1 u_2 H locs hw hP hD hS => ?_)
  · have hP : va_P D vwCl [(o1, .inl (cJ, 1, .inr (.inl (fo))))] H := hP
    have hD : va_D A [(o1, .inl (cJ, 1, .inr (.inl (fo))))] := hD
    have hpx : E = "java/lang/IndexOutOfBoundsException" := hpx
    subst hpx
    refine vx_catch (E := "java/lang/IndexOutOfBoundsException") (name := "java/lang/IndexOutOfBoundsException") hown [] (⟨0, 9, 12, 24⟩ : ExceptionTableEntry) [(⟨0, 9, 15, 29⟩ : ExceptionTableEntry)] (by rw [htab]; rfl) (fun z hz => nomatch hz) (by decide) (by decide) (hts _ kL_tell_1) (va_Nw.use rfl (hE.2.1 _ (by decide))) g1 g2 g3 ?_
    refine lv_astore_n (lv' := [(3, .ref q9), (0, .ref h0), (1, .int p0), (2, .ref o1)]) hx hb dL_tell_12 rfl hl (by decide) rfl (fun ls hl => ?_)
    refine lv_iconst (v := (1)) hx hb dL_tell_13 (by decide) ?_
    exact y_iret hx hb hr hlocks () rfl hP hD hS (Nat.le_of_ble_eq_true rfl) (Nat.le_of_ble_eq_true rfl) dL_tell_14
  · have hP : va_P D vwCl [(o1, .inl (cJ, 1, .inr (.inl (fo)))), (h0, .inr (11, [.ref h1, .ref h2, .ref h3, .ref h4, .ref a1, .ref a2, .int 0])), (h1, .inr (8, [.int 0, .int np, .ref w1, .ref w2, .ref w3, .ref w4, .ref w5]))] H := hP
    have hD : va_D A [(o1, .inl (cJ, 1, .inr (.inl (fo)))), (h0, .inr (11, [.ref h1, .ref h2, .ref h3, .ref h4, .ref a1, .ref a2, .int 0])), (h1, .inr (8, [.int 0, .int np, .ref w1, .ref w2, .ref w3, .ref w4, .ref w5]))] := hD
    have hw : False := hw
    exact hw.elim
theorem ktL_textLength : Cond.codeWith yL_textLength cL_textLength 4 (some .int) [(0, 9, 12, 24)] ∈ wsL_textLength := by unfold wsL_textLength; exact List.mem_cons_self
theorem kL_textLength_1 : Cond.classLink RL 24 "java/lang/IndexOutOfBoundsException" ∈ wsL_textLength := List.mem_of_getElem? (i := 1) (by decide +kernel)
set_option maxHeartbeats 4000000 in
set_option maxRecDepth 100000 in
theorem w_textLength (l : Launch) (hfl : l.stackTraces = false) (D : va_G) (tE : Nat) (sz : Nat) (h0 : Nat) (h1 : Nat) (h2 : Nat) (h3 : Nat) (h4 : Nat) (a1 : Nat) (a2 : Nat) (w1 : Nat) (w2 : Nat) (w3 : Nat) (w4 : Nat) (w5 : Nat) (np : Int32) (o1 : Nat) (cJ : ClassId) (fo : Nat → Int64) (p0 : Int32) (A : Nat → Prop) (hA0 : A = va_A [(h0, .inr (11, [.ref h1, .ref h2, .ref h3, .ref h4, .ref a1, .ref a2, .int 0])), (h1, .inr (8, [.int 0, .int np, .ref w1, .ref w2, .ref w3, .ref w4, .ref w5])), (o1, .inl (cJ, 1, .inr (.inl (fo))))] sz) : Met l yL_textLength wsL_textLength (yR 2 1 6) (yP D tE [(h0, .inr (11, [.ref h1, .ref h2, .ref h3, .ref h4, .ref a1, .ref a2, .int 0])), (h1, .inr (8, [.int 0, .int np, .ref w1, .ref w2, .ref w3, .ref w4, .ref w5])), (o1, .inl (cJ, 1, .inr (.inl (fo))))] [(cJ, .long)] sz [.ref h0, .int p0, .ref o1]) (va_Qi (S := Unit) (fun (r : Int32) (u : Unit) => r = 1) (fun (u : Unit) (t : State) => yB D A ((fun (u : Unit) => [(o1, .inl (cJ, 1, .inr (.inl (fo))))]) u) t) A) 1 6 A := by
  refine va_MetW (cc := cL_textLength) (maxL := 4) (ret := (some .int)) (hh := [(0, 9, 12, 24)]) (by decide) rfl ?_
  intro p e s m args below meth c s₁ B hml hv
  obtain ⟨rfl, rfl, hP, hK, hD, hE, hA⟩ := y_start hA0 hv
  have hx := B.exec
  have hb := B.bytes
  have hr := B.returns
  have hts := atoms_spec (ws := wsL_textLength) B.pre
  have hown : s.vm.findClass RL = some m.cls := findClass_of_methodNamed B.named
  have hlocks := B.notSynchronized
  have htab : c.exceptionTable.toList = tableOf [(0, 9, 12, 24)] := vx_table (x := yL_textLength) (y := yL_textLength) (bytes := cL_textLength) (maxL' := 4) (ret' := (some .int)) (hh := [(0, 9, 12, 24)]) B (hts _ ktL_textLength)
  clear hA0 hv
  have hS : va_S A s.heap s.heap [] := va_S.rf
  have hl := lv_entry ([.ref h0, .int p0, .ref o1]) (n := 4) (Nat.le_of_ble_eq_true rfl)
  rw [lg_entry_eq]
  generalize (lg_sl ([.ref h0, .int p0, .ref o1]) ++ List.replicate (4 - (lg_sl ([.ref h0, .int p0, .ref o1])).length) Slot.unset).toArray = ls at hl ⊢
  have hl : lv_has ls 4 [(0, .ref h0), (1, .int p0), (2, .ref o1)] := hl
  refine lv_aload_n hx hb dL_textLength_0 rfl (lv_at hl 2 rfl) ?_
  refine lv_iconst (v := (0)) hx hb dL_textLength_1 (by decide) ?_
  refine lv_aload_n hx hb dL_textLength_2 rfl (lv_at hl 0 rfl) ?_
  refine lv_iload_n hx hb dL_textLength_3 rfl (lv_at hl 1 rfl) ?_
  refine yx_i (wc := [(h0, .inr (11, [.ref h1, .ref h2, .ref h3, .ref h4, .ref a1, .ref a2, .int 0])), (h1, .inr (8, [.int 0, .int np, .ref w1, .ref w2, .ref w3, .ref w4, .ref w5]))]) (wr := [(o1, .inl (cJ, 1, .inr (.inl (fo))))]) (vx_runV (As := [.int p0]) (rest := [.int 0, .ref o1]) ⟨hx, hb, hml, hown, hts⟩ (f_textLength l hfl D tE s.heap.size h0 h1 h2 h3 h4 a1 a2 w1 w2 w3 w4 w5 np p0 (va_A [(h0, .inr (11, [.ref h1, .ref h2, .ref h3, .ref h4, .ref a1, .ref a2, .int 0])), (h1, .inr (8, [.int 0, .int np, .ref w1, .ref w2, .ref w3, .ref w4, .ref w5]))] s.heap.size) rfl) (cwV 1 hts gL_textLength_X5_textLength rfl rfl rfl (by decide +kernel) ⟨Nat.le_of_ble_eq_true rfl, Nat.le_of_ble_eq_true rfl⟩) (yPreV (wc := [(h0, .inr (11, [.ref h1, .ref h2, .ref h3, .ref h4, .ref a1, .ref a2, .int 0])), (h1, .inr (8, [.int 0, .int np, .ref w1, .ref w2, .ref w3, .ref w4, .ref w5]))]) (tc := []) hK hP hD hS hA hE [0, 1] [] (by decide) rfl rfl (ci := 11) (q0 := 0) (q := (RX5, TX5, 7)) rfl rfl) rfl rfl hl.1 rfl (lv_room (Nat.le_of_ble_eq_true rfl)) dL_textLength_4 ⟨Nat.le_of_ble_eq_true rfl, Nat.le_of_ble_eq_true rfl⟩) hP hD hS hA [0, 1] [2] rfl rfl (by decide) (by decide) (fun E ce q9 H locs hpx hP hD hS g1 g2 g3 => ?_) (fun r_1 u_2 H locs hw hP hD hS => ?_)
  · have hP : va_P D vwCl [(o1, .inl (cJ, 1, .inr (.inl (fo))))] H := hP
    have hD : va_D A [(o1, .inl (cJ, 1, .inr (.inl (fo))))] := hD
    have hpx : E = "java/lang/IndexOutOfBoundsException" := hpx
    subst hpx
    refine vx_catch (E := "java/lang/IndexOutOfBoundsException") (name := "java/lang/IndexOutOfBoundsException") hown [] (⟨0, 9, 12, 24⟩ : ExceptionTableEntry) [] (by rw [htab]; rfl) (fun z hz => nomatch hz) (by decide) (by decide) (hts _ kL_textLength_1) (va_Nw.use rfl (hE.2.1 _ (by decide))) g1 g2 g3 ?_
    refine lv_astore_n (lv' := [(3, .ref q9), (0, .ref h0), (1, .int p0), (2, .ref o1)]) hx hb dL_textLength_12 rfl hl (by decide) rfl (fun ls hl => ?_)
    refine lv_iconst (v := (1)) hx hb dL_textLength_13 (by decide) ?_
    exact y_iret hx hb hr hlocks () rfl hP hD hS (Nat.le_of_ble_eq_true rfl) (Nat.le_of_ble_eq_true rfl) dL_textLength_14
  · have hP : va_P D vwCl [(o1, .inl (cJ, 1, .inr (.inl (fo)))), (h0, .inr (11, [.ref h1, .ref h2, .ref h3, .ref h4, .ref a1, .ref a2, .int 0])), (h1, .inr (8, [.int 0, .int np, .ref w1, .ref w2, .ref w3, .ref w4, .ref w5]))] H := hP
    have hD : va_D A [(o1, .inl (cJ, 1, .inr (.inl (fo)))), (h0, .inr (11, [.ref h1, .ref h2, .ref h3, .ref h4, .ref a1, .ref a2, .int 0])), (h1, .inr (8, [.int 0, .int np, .ref w1, .ref w2, .ref w3, .ref w4, .ref w5]))] := hD
    have hw : False := hw
    exact hw.elim
theorem ktL_textAt : Cond.codeWith yL_textAt cL_textAt 5 (some .int) [(0, 10, 13, 24), (0, 10, 17, 52)] ∈ wsL_textAt := by unfold wsL_textAt; exact List.mem_cons_self
theorem kL_textAt_1 : Cond.classLink RL 24 "java/lang/IndexOutOfBoundsException" ∈ wsL_textAt := List.mem_of_getElem? (i := 1) (by decide +kernel)
set_option maxHeartbeats 4000000 in
set_option maxRecDepth 100000 in
theorem w_textAt (l : Launch) (hfl : l.stackTraces = false) (D : va_G) (tE : Nat) (sz : Nat) (h0 : Nat) (h1 : Nat) (h2 : Nat) (h3 : Nat) (h4 : Nat) (a1 : Nat) (a2 : Nat) (w1 : Nat) (w2 : Nat) (w3 : Nat) (w4 : Nat) (w5 : Nat) (np : Int32) (o1 : Nat) (cJ : ClassId) (fo : Nat → Int64) (p0 : Int32) (p1 : Int32) (A : Nat → Prop) (hA0 : A = va_A [(h0, .inr (11, [.ref h1, .ref h2, .ref h3, .ref h4, .ref a1, .ref a2, .int 0])), (h1, .inr (8, [.int 0, .int np, .ref w1, .ref w2, .ref w3, .ref w4, .ref w5])), (o1, .inl (cJ, 1, .inr (.inl (fo))))] sz) : Met l yL_textAt wsL_textAt (yR 2 1 6) (yP D tE [(h0, .inr (11, [.ref h1, .ref h2, .ref h3, .ref h4, .ref a1, .ref a2, .int 0])), (h1, .inr (8, [.int 0, .int np, .ref w1, .ref w2, .ref w3, .ref w4, .ref w5])), (o1, .inl (cJ, 1, .inr (.inl (fo))))] [(cJ, .long)] sz [.ref h0, .int p0, .int p1, .ref o1]) (va_Qi (S := Unit) (fun (r : Int32) (u : Unit) => r = 1) (fun (u : Unit) (t : State) => yB D A ((fun (u : Unit) => [(o1, .inl (cJ, 1, .inr (.inl (fo))))]) u) t) A) 1 6 A := by
  refine va_MetW (cc := cL_textAt) (maxL := 5) (ret := (some .int)) (hh := [(0, 10, 13, 24), (0, 10, 17, 52)]) (by decide) rfl ?_
  intro p e s m args below meth c s₁ B hml hv
  obtain ⟨rfl, rfl, hP, hK, hD, hE, hA⟩ := y_start hA0 hv
  have hx := B.exec
  have hb := B.bytes
  have hr := B.returns
  have hts := atoms_spec (ws := wsL_textAt) B.pre
  have hown : s.vm.findClass RL = some m.cls := findClass_of_methodNamed B.named
  have hlocks := B.notSynchronized
  have htab : c.exceptionTable.toList = tableOf [(0, 10, 13, 24), (0, 10, 17, 52)] := vx_table (x := yL_textAt) (y := yL_textAt) (bytes := cL_textAt) (maxL' := 5) (ret' := (some .int)) (hh := [(0, 10, 13, 24), (0, 10, 17, 52)]) B (hts _ ktL_textAt)
  clear hA0 hv
  have hS : va_S A s.heap s.heap [] := va_S.rf
  have hl := lv_entry ([.ref h0, .int p0, .int p1, .ref o1]) (n := 5) (Nat.le_of_ble_eq_true rfl)
  rw [lg_entry_eq]
  generalize (lg_sl ([.ref h0, .int p0, .int p1, .ref o1]) ++ List.replicate (5 - (lg_sl ([.ref h0, .int p0, .int p1, .ref o1])).length) Slot.unset).toArray = ls at hl ⊢
  have hl : lv_has ls 5 [(0, .ref h0), (1, .int p0), (2, .int p1), (3, .ref o1)] := hl
  refine lv_aload_n hx hb dL_textAt_0 rfl (lv_at hl 3 rfl) ?_
  refine lv_iconst (v := (0)) hx hb dL_textAt_1 (by decide) ?_
  refine lv_aload_n hx hb dL_textAt_2 rfl (lv_at hl 0 rfl) ?_
  refine lv_iload_n hx hb dL_textAt_3 rfl (lv_at hl 1 rfl) ?_
  refine lv_iload_n hx hb dL_textAt_4 rfl (lv_at hl 2 rfl) ?_
  refine yx_i (wc := [(h0, .inr (11, [.ref h1, .ref h2, .ref h3, .ref h4, .ref a1, .ref a2, .int 0])), (h1, .inr (8, [.int 0, .int np, .ref w1, .ref w2, .ref w3, .ref w4, .ref w5]))]) (wr := [(o1, .inl (cJ, 1, .inr (.inl (fo))))]) (vx_runV (As := [.int p0, .int p1]) (rest := [.int 0, .ref o1]) ⟨hx, hb, hml, hown, hts⟩ (f_textAt l hfl D tE s.heap.size h0 h1 h2 h3 h4 a1 a2 w1 w2 w3 w4 w5 np p0 p1 (va_A [(h0, .inr (11, [.ref h1, .ref h2, .ref h3, .ref h4, .ref a1, .ref a2, .int 0])), (h1, .inr (8, [.int 0, .int np, .ref w1, .ref w2, .ref w3, .ref w4, .ref w5]))] s.heap.size) rfl) (cwV 2 hts gL_textAt_X5_textAt rfl rfl rfl (by decide +kernel) ⟨Nat.le_of_ble_eq_true rfl, Nat.le_of_ble_eq_true rfl⟩) (yPreV (wc := [(h0, .inr (11, [.ref h1, .ref h2, .ref h3, .ref h4, .ref a1, .ref a2, .int 0])), (h1, .inr (8, [.int 0, .int np, .ref w1, .ref w2, .ref w3, .ref w4, .ref w5]))]) (tc := []) hK hP hD hS hA hE [0, 1] [] (by decide) rfl rfl (ci := 11) (q0 := 0) (q := (RX5, TX5, 7)) rfl rfl) rfl rfl hl.1 rfl (lv_room (Nat.le_of_ble_eq_true rfl)) dL_textAt_5 ⟨Nat.le_of_ble_eq_true rfl, Nat.le_of_ble_eq_true rfl⟩) hP hD hS hA [0, 1] [2] rfl rfl (by decide) (by decide) (fun E ce q9 H locs hpx hP hD hS g1 g2 g3 => ?_) (fun r_1 u_2 H locs hw hP hD hS => ?_)
  · have hP : va_P D vwCl [(o1, .inl (cJ, 1, .inr (.inl (fo))))] H := hP
    have hD : va_D A [(o1, .inl (cJ, 1, .inr (.inl (fo))))] := hD
    have hpx : E = "java/lang/IndexOutOfBoundsException" := hpx
    subst hpx
    refine vx_catch (E := "java/lang/IndexOutOfBoundsException") (name := "java/lang/IndexOutOfBoundsException") hown [] (⟨0, 10, 13, 24⟩ : ExceptionTableEntry) [(⟨0, 10, 17, 52⟩ : ExceptionTableEntry)] (by rw [htab]; rfl) (fun z hz => nomatch hz) (by decide) (by decide) (hts _ kL_textAt_1) (va_Nw.use rfl (hE.2.1 _ (by decide))) g1 g2 g3 ?_
    refine lv_astore (lv' := [(4, .ref q9), (0, .ref h0), (1, .int p0), (2, .int p1), (3, .ref o1)]) hx hb dL_textAt_13 hl (by decide) rfl (fun ls hl => ?_)
    refine lv_iconst (v := (1)) hx hb dL_textAt_15 (by decide) ?_
    exact y_iret hx hb hr hlocks () rfl hP hD hS (Nat.le_of_ble_eq_true rfl) (Nat.le_of_ble_eq_true rfl) dL_textAt_16
  · have hP : va_P D vwCl [(o1, .inl (cJ, 1, .inr (.inl (fo)))), (h0, .inr (11, [.ref h1, .ref h2, .ref h3, .ref h4, .ref a1, .ref a2, .int 0])), (h1, .inr (8, [.int 0, .int np, .ref w1, .ref w2, .ref w3, .ref w4, .ref w5]))] H := hP
    have hD : va_D A [(o1, .inl (cJ, 1, .inr (.inl (fo)))), (h0, .inr (11, [.ref h1, .ref h2, .ref h3, .ref h4, .ref a1, .ref a2, .int 0])), (h1, .inr (8, [.int 0, .int np, .ref w1, .ref w2, .ref w3, .ref w4, .ref w5]))] := hD
    have hw : False := hw
    exact hw.elim
theorem ktL_assign : Cond.codeWith yL_assign cL_assign 5 (some .int) [(0, 10, 13, 24), (0, 10, 17, 29)] ∈ wsL_assign := by unfold wsL_assign; exact List.mem_cons_self
theorem kL_assign_1 : Cond.classLink RL 24 "java/lang/IndexOutOfBoundsException" ∈ wsL_assign := List.mem_of_getElem? (i := 1) (by decide +kernel)
set_option maxHeartbeats 4000000 in
set_option maxRecDepth 100000 in
theorem w_assign (l : Launch) (hfl : l.stackTraces = false) (D : va_G) (tE : Nat) (sz : Nat) (h0 : Nat) (h1 : Nat) (h2 : Nat) (h3 : Nat) (h4 : Nat) (a1 : Nat) (a2 : Nat) (w1 : Nat) (w2 : Nat) (w3 : Nat) (w4 : Nat) (w5 : Nat) (np : Int32) (o1 : Nat) (cJ : ClassId) (fo : Nat → Int64) (p0 : Int32) (p1 : Int32) (A : Nat → Prop) (hA0 : A = va_A [(h0, .inr (11, [.ref h1, .ref h2, .ref h3, .ref h4, .ref a1, .ref a2, .int 0])), (h1, .inr (8, [.int 0, .int np, .ref w1, .ref w2, .ref w3, .ref w4, .ref w5])), (o1, .inl (cJ, 1, .inr (.inl (fo))))] sz) : Met l yL_assign wsL_assign (yR 2 1 6) (yP D tE [(h0, .inr (11, [.ref h1, .ref h2, .ref h3, .ref h4, .ref a1, .ref a2, .int 0])), (h1, .inr (8, [.int 0, .int np, .ref w1, .ref w2, .ref w3, .ref w4, .ref w5])), (o1, .inl (cJ, 1, .inr (.inl (fo))))] [(cJ, .long)] sz [.ref h0, .int p0, .int p1, .ref o1]) (va_Qi (S := Unit) (fun (r : Int32) (u : Unit) => r = 1) (fun (u : Unit) (t : State) => yB D A ((fun (u : Unit) => [(o1, .inl (cJ, 1, .inr (.inl (fo))))]) u) t) A) 1 6 A := by
  refine va_MetW (cc := cL_assign) (maxL := 5) (ret := (some .int)) (hh := [(0, 10, 13, 24), (0, 10, 17, 29)]) (by decide) rfl ?_
  intro p e s m args below meth c s₁ B hml hv
  obtain ⟨rfl, rfl, hP, hK, hD, hE, hA⟩ := y_start hA0 hv
  have hx := B.exec
  have hb := B.bytes
  have hr := B.returns
  have hts := atoms_spec (ws := wsL_assign) B.pre
  have hown : s.vm.findClass RL = some m.cls := findClass_of_methodNamed B.named
  have hlocks := B.notSynchronized
  have htab : c.exceptionTable.toList = tableOf [(0, 10, 13, 24), (0, 10, 17, 29)] := vx_table (x := yL_assign) (y := yL_assign) (bytes := cL_assign) (maxL' := 5) (ret' := (some .int)) (hh := [(0, 10, 13, 24), (0, 10, 17, 29)]) B (hts _ ktL_assign)
  clear hA0 hv
  have hS : va_S A s.heap s.heap [] := va_S.rf
  have hl := lv_entry ([.ref h0, .int p0, .int p1, .ref o1]) (n := 5) (Nat.le_of_ble_eq_true rfl)
  rw [lg_entry_eq]
  generalize (lg_sl ([.ref h0, .int p0, .int p1, .ref o1]) ++ List.replicate (5 - (lg_sl ([.ref h0, .int p0, .int p1, .ref o1])).length) Slot.unset).toArray = ls at hl ⊢
  have hl : lv_has ls 5 [(0, .ref h0), (1, .int p0), (2, .int p1), (3, .ref o1)] := hl
  refine lv_aload_n hx hb dL_assign_0 rfl (lv_at hl 3 rfl) ?_
  refine lv_iconst (v := (0)) hx hb dL_assign_1 (by decide) ?_
  refine lv_aload_n hx hb dL_assign_2 rfl (lv_at hl 0 rfl) ?_
  refine lv_iload_n hx hb dL_assign_3 rfl (lv_at hl 1 rfl) ?_
  refine lv_iload_n hx hb dL_assign_4 rfl (lv_at hl 2 rfl) ?_
  refine yx_i (wc := [(h0, .inr (11, [.ref h1, .ref h2, .ref h3, .ref h4, .ref a1, .ref a2, .int 0])), (h1, .inr (8, [.int 0, .int np, .ref w1, .ref w2, .ref w3, .ref w4, .ref w5]))]) (wr := [(o1, .inl (cJ, 1, .inr (.inl (fo))))]) (vx_runV (As := [.int p0, .int p1]) (rest := [.int 0, .ref o1]) ⟨hx, hb, hml, hown, hts⟩ (f_assign l hfl D tE s.heap.size h0 h1 h2 h3 h4 a1 a2 w1 w2 w3 w4 w5 np p0 p1 (va_A [(h0, .inr (11, [.ref h1, .ref h2, .ref h3, .ref h4, .ref a1, .ref a2, .int 0])), (h1, .inr (8, [.int 0, .int np, .ref w1, .ref w2, .ref w3, .ref w4, .ref w5]))] s.heap.size) rfl) (cwV 2 hts gL_assign_X5_assign rfl rfl rfl (by decide +kernel) ⟨Nat.le_of_ble_eq_true rfl, Nat.le_of_ble_eq_true rfl⟩) (yPreV (wc := [(h0, .inr (11, [.ref h1, .ref h2, .ref h3, .ref h4, .ref a1, .ref a2, .int 0])), (h1, .inr (8, [.int 0, .int np, .ref w1, .ref w2, .ref w3, .ref w4, .ref w5]))]) (tc := []) hK hP hD hS hA hE [0, 1] [] (by decide) rfl rfl (ci := 11) (q0 := 0) (q := (RX5, TX5, 7)) rfl rfl) rfl rfl hl.1 rfl (lv_room (Nat.le_of_ble_eq_true rfl)) dL_assign_5 ⟨Nat.le_of_ble_eq_true rfl, Nat.le_of_ble_eq_true rfl⟩) hP hD hS hA [0, 1] [2] rfl rfl (by decide) (by decide) (fun E ce q9 H locs hpx hP hD hS g1 g2 g3 => ?_) (fun r_1 u_2 H locs hw hP hD hS => ?_)
  · have hP : va_P D vwCl [(o1, .inl (cJ, 1, .inr (.inl (fo))))] H := hP
    have hD : va_D A [(o1, .inl (cJ, 1, .inr (.inl (fo))))] := hD
    have hpx : E = "java/lang/IndexOutOfBoundsException" := hpx
    subst hpx
    refine vx_catch (E := "java/lang/IndexOutOfBoundsException") (name := "java/lang/IndexOutOfBoundsException") hown [] (⟨0, 10, 13, 24⟩ : ExceptionTableEntry) [(⟨0, 10, 17, 29⟩ : ExceptionTableEntry)] (by rw [htab]; rfl) (fun z hz => nomatch hz) (by decide) (by decide) (hts _ kL_assign_1) (va_Nw.use rfl (hE.2.1 _ (by decide))) g1 g2 g3 ?_
    refine lv_astore (lv' := [(4, .ref q9), (0, .ref h0), (1, .int p0), (2, .int p1), (3, .ref o1)]) hx hb dL_assign_13 hl (by decide) rfl (fun ls hl => ?_)
    refine lv_iconst (v := (1)) hx hb dL_assign_15 (by decide) ?_
    exact y_iret hx hb hr hlocks () rfl hP hD hS (Nat.le_of_ble_eq_true rfl) (Nat.le_of_ble_eq_true rfl) dL_assign_16
  · have hP : va_P D vwCl [(o1, .inl (cJ, 1, .inr (.inl (fo)))), (h0, .inr (11, [.ref h1, .ref h2, .ref h3, .ref h4, .ref a1, .ref a2, .int 0])), (h1, .inr (8, [.int 0, .int np, .ref w1, .ref w2, .ref w3, .ref w4, .ref w5]))] H := hP
    have hD : va_D A [(o1, .inl (cJ, 1, .inr (.inl (fo)))), (h0, .inr (11, [.ref h1, .ref h2, .ref h3, .ref h4, .ref a1, .ref a2, .int 0])), (h1, .inr (8, [.int 0, .int np, .ref w1, .ref w2, .ref w3, .ref w4, .ref w5]))] := hD
    have hw : False := hw
    exact hw.elim
theorem ktL_release : Cond.codeWith yL_release cL_release 4 (some .int) [(0, 9, 12, 24), (0, 9, 15, 52)] ∈ wsL_release := by unfold wsL_release; exact List.mem_cons_self
theorem kL_release_1 : Cond.classLink RL 24 "java/lang/IndexOutOfBoundsException" ∈ wsL_release := List.mem_of_getElem? (i := 1) (by decide +kernel)
set_option maxHeartbeats 4000000 in
set_option maxRecDepth 100000 in
theorem w_release (l : Launch) (hfl : l.stackTraces = false) (D : va_G) (tE : Nat) (sz : Nat) (h0 : Nat) (h1 : Nat) (h2 : Nat) (h3 : Nat) (h4 : Nat) (a1 : Nat) (a2 : Nat) (w1 : Nat) (w2 : Nat) (w3 : Nat) (w4 : Nat) (w5 : Nat) (np : Int32) (o1 : Nat) (cJ : ClassId) (fo : Nat → Int64) (p0 : Int32) (A : Nat → Prop) (hA0 : A = va_A [(h0, .inr (11, [.ref h1, .ref h2, .ref h3, .ref h4, .ref a1, .ref a2, .int 0])), (h1, .inr (8, [.int 0, .int np, .ref w1, .ref w2, .ref w3, .ref w4, .ref w5])), (o1, .inl (cJ, 1, .inr (.inl (fo))))] sz) : Met l yL_release wsL_release (yR 2 1 6) (yP D tE [(h0, .inr (11, [.ref h1, .ref h2, .ref h3, .ref h4, .ref a1, .ref a2, .int 0])), (h1, .inr (8, [.int 0, .int np, .ref w1, .ref w2, .ref w3, .ref w4, .ref w5])), (o1, .inl (cJ, 1, .inr (.inl (fo))))] [(cJ, .long)] sz [.ref h0, .int p0, .ref o1]) (va_Qi (S := Unit) (fun (r : Int32) (u : Unit) => r = 1) (fun (u : Unit) (t : State) => yB D A ((fun (u : Unit) => [(o1, .inl (cJ, 1, .inr (.inl (fo))))]) u) t) A) 1 6 A := by
  refine va_MetW (cc := cL_release) (maxL := 4) (ret := (some .int)) (hh := [(0, 9, 12, 24), (0, 9, 15, 52)]) (by decide) rfl ?_
  intro p e s m args below meth c s₁ B hml hv
  obtain ⟨rfl, rfl, hP, hK, hD, hE, hA⟩ := y_start hA0 hv
  have hx := B.exec
  have hb := B.bytes
  have hr := B.returns
  have hts := atoms_spec (ws := wsL_release) B.pre
  have hown : s.vm.findClass RL = some m.cls := findClass_of_methodNamed B.named
  have hlocks := B.notSynchronized
  have htab : c.exceptionTable.toList = tableOf [(0, 9, 12, 24), (0, 9, 15, 52)] := vx_table (x := yL_release) (y := yL_release) (bytes := cL_release) (maxL' := 4) (ret' := (some .int)) (hh := [(0, 9, 12, 24), (0, 9, 15, 52)]) B (hts _ ktL_release)
  clear hA0 hv
  have hS : va_S A s.heap s.heap [] := va_S.rf
  have hl := lv_entry ([.ref h0, .int p0, .ref o1]) (n := 4) (Nat.le_of_ble_eq_true rfl)
  rw [lg_entry_eq]
  generalize (lg_sl ([.ref h0, .int p0, .ref o1]) ++ List.replicate (4 - (lg_sl ([.ref h0, .int p0, .ref o1])).length) Slot.unset).toArray = ls at hl ⊢
  have hl : lv_has ls 4 [(0, .ref h0), (1, .int p0), (2, .ref o1)] := hl
  refine lv_aload_n hx hb dL_release_0 rfl (lv_at hl 2 rfl) ?_
  refine lv_iconst (v := (0)) hx hb dL_release_1 (by decide) ?_
  refine lv_aload_n hx hb dL_release_2 rfl (lv_at hl 0 rfl) ?_
  refine lv_iload_n hx hb dL_release_3 rfl (lv_at hl 1 rfl) ?_
  refine yx_i (wc := [(h0, .inr (11, [.ref h1, .ref h2, .ref h3, .ref h4, .ref a1, .ref a2, .int 0])), (h1, .inr (8, [.int 0, .int np, .ref w1, .ref w2, .ref w3, .ref w4, .ref w5]))]) (wr := [(o1, .inl (cJ, 1, .inr (.inl (fo))))]) (vx_runV (As := [.int p0]) (rest := [.int 0, .ref o1]) ⟨hx, hb, hml, hown, hts⟩ (f_release l hfl D tE s.heap.size h0 h1 h2 h3 h4 a1 a2 w1 w2 w3 w4 w5 np p0 (va_A [(h0, .inr (11, [.ref h1, .ref h2, .ref h3, .ref h4, .ref a1, .ref a2, .int 0])), (h1, .inr (8, [.int 0, .int np, .ref w1, .ref w2, .ref w3, .ref w4, .ref w5]))] s.heap.size) rfl) (cwV 1 hts gL_release_X5_release rfl rfl rfl (by decide +kernel) ⟨Nat.le_of_ble_eq_true rfl, Nat.le_of_ble_eq_true rfl⟩) (yPreV (wc := [(h0, .inr (11, [.ref h1, .ref h2, .ref h3, .ref h4, .ref a1, .ref a2, .int 0])), (h1, .inr (8, [.int 0, .int np, .ref w1, .ref w2, .ref w3, .ref w4, .ref w5]))]) (tc := []) hK hP hD hS hA hE [0, 1] [] (by decide) rfl rfl (ci := 11) (q0 := 0) (q := (RX5, TX5, 7)) rfl rfl) rfl rfl hl.1 rfl (lv_room (Nat.le_of_ble_eq_true rfl)) dL_release_4 ⟨Nat.le_of_ble_eq_true rfl, Nat.le_of_ble_eq_true rfl⟩) hP hD hS hA [0, 1] [2] rfl rfl (by decide) (by decide) (fun E ce q9 H locs hpx hP hD hS g1 g2 g3 => ?_) (fun r_1 u_2 H locs hw hP hD hS => ?_)
  · have hP : va_P D vwCl [(o1, .inl (cJ, 1, .inr (.inl (fo))))] H := hP
    have hD : va_D A [(o1, .inl (cJ, 1, .inr (.inl (fo))))] := hD
    have hpx : E = "java/lang/IndexOutOfBoundsException" := hpx
    subst hpx
    refine vx_catch (E := "java/lang/IndexOutOfBoundsException") (name := "java/lang/IndexOutOfBoundsException") hown [] (⟨0, 9, 12, 24⟩ : ExceptionTableEntry) [(⟨0, 9, 15, 52⟩ : ExceptionTableEntry)] (by rw [htab]; rfl) (fun z hz => nomatch hz) (by decide) (by decide) (hts _ kL_release_1) (va_Nw.use rfl (hE.2.1 _ (by decide))) g1 g2 g3 ?_
    refine lv_astore_n (lv' := [(3, .ref q9), (0, .ref h0), (1, .int p0), (2, .ref o1)]) hx hb dL_release_12 rfl hl (by decide) rfl (fun ls hl => ?_)
    refine lv_iconst (v := (1)) hx hb dL_release_13 (by decide) ?_
    exact y_iret hx hb hr hlocks () rfl hP hD hS (Nat.le_of_ble_eq_true rfl) (Nat.le_of_ble_eq_true rfl) dL_release_14
  · have hP : va_P D vwCl [(o1, .inl (cJ, 1, .inr (.inl (fo)))), (h0, .inr (11, [.ref h1, .ref h2, .ref h3, .ref h4, .ref a1, .ref a2, .int 0])), (h1, .inr (8, [.int 0, .int np, .ref w1, .ref w2, .ref w3, .ref w4, .ref w5]))] H := hP
    have hD : va_D A [(o1, .inl (cJ, 1, .inr (.inl (fo)))), (h0, .inr (11, [.ref h1, .ref h2, .ref h3, .ref h4, .ref a1, .ref a2, .int 0])), (h1, .inr (8, [.int 0, .int np, .ref w1, .ref w2, .ref w3, .ref w4, .ref w5]))] := hD
    have hw : False := hw
    exact hw.elim
theorem ktL_postOf : Cond.codeWith yL_postOf cL_postOf 4 (some .int) [(0, 9, 12, 24)] ∈ wsL_postOf := by unfold wsL_postOf; exact List.mem_cons_self
theorem kL_postOf_1 : Cond.classLink RL 24 "java/lang/IndexOutOfBoundsException" ∈ wsL_postOf := List.mem_of_getElem? (i := 1) (by decide +kernel)
set_option maxHeartbeats 4000000 in
set_option maxRecDepth 100000 in
theorem w_postOf (l : Launch) (hfl : l.stackTraces = false) (D : va_G) (tE : Nat) (sz : Nat) (h0 : Nat) (h1 : Nat) (h2 : Nat) (h3 : Nat) (h4 : Nat) (a1 : Nat) (a2 : Nat) (w1 : Nat) (w2 : Nat) (w3 : Nat) (w4 : Nat) (w5 : Nat) (np : Int32) (o1 : Nat) (cJ : ClassId) (fo : Nat → Int64) (p0 : Int32) (A : Nat → Prop) (hA0 : A = va_A [(h0, .inr (11, [.ref h1, .ref h2, .ref h3, .ref h4, .ref a1, .ref a2, .int 0])), (h1, .inr (8, [.int 0, .int np, .ref w1, .ref w2, .ref w3, .ref w4, .ref w5])), (o1, .inl (cJ, 1, .inr (.inl (fo))))] sz) : Met l yL_postOf wsL_postOf (yR 2 1 6) (yP D tE [(h0, .inr (11, [.ref h1, .ref h2, .ref h3, .ref h4, .ref a1, .ref a2, .int 0])), (h1, .inr (8, [.int 0, .int np, .ref w1, .ref w2, .ref w3, .ref w4, .ref w5])), (o1, .inl (cJ, 1, .inr (.inl (fo))))] [(cJ, .long)] sz [.ref h0, .int p0, .ref o1]) (va_Qi (S := Unit) (fun (r : Int32) (u : Unit) => r = 1) (fun (u : Unit) (t : State) => yB D A ((fun (u : Unit) => [(o1, .inl (cJ, 1, .inr (.inl (fo))))]) u) t) A) 1 6 A := by
  refine va_MetW (cc := cL_postOf) (maxL := 4) (ret := (some .int)) (hh := [(0, 9, 12, 24)]) (by decide) rfl ?_
  intro p e s m args below meth c s₁ B hml hv
  obtain ⟨rfl, rfl, hP, hK, hD, hE, hA⟩ := y_start hA0 hv
  have hx := B.exec
  have hb := B.bytes
  have hr := B.returns
  have hts := atoms_spec (ws := wsL_postOf) B.pre
  have hown : s.vm.findClass RL = some m.cls := findClass_of_methodNamed B.named
  have hlocks := B.notSynchronized
  have htab : c.exceptionTable.toList = tableOf [(0, 9, 12, 24)] := vx_table (x := yL_postOf) (y := yL_postOf) (bytes := cL_postOf) (maxL' := 4) (ret' := (some .int)) (hh := [(0, 9, 12, 24)]) B (hts _ ktL_postOf)
  clear hA0 hv
  have hS : va_S A s.heap s.heap [] := va_S.rf
  have hl := lv_entry ([.ref h0, .int p0, .ref o1]) (n := 4) (Nat.le_of_ble_eq_true rfl)
  rw [lg_entry_eq]
  generalize (lg_sl ([.ref h0, .int p0, .ref o1]) ++ List.replicate (4 - (lg_sl ([.ref h0, .int p0, .ref o1])).length) Slot.unset).toArray = ls at hl ⊢
  have hl : lv_has ls 4 [(0, .ref h0), (1, .int p0), (2, .ref o1)] := hl
  refine lv_aload_n hx hb dL_postOf_0 rfl (lv_at hl 2 rfl) ?_
  refine lv_iconst (v := (0)) hx hb dL_postOf_1 (by decide) ?_
  refine lv_aload_n hx hb dL_postOf_2 rfl (lv_at hl 0 rfl) ?_
  refine lv_iload_n hx hb dL_postOf_3 rfl (lv_at hl 1 rfl) ?_
  refine yx_i (wc := [(h0, .inr (11, [.ref h1, .ref h2, .ref h3, .ref h4, .ref a1, .ref a2, .int 0])), (h1, .inr (8, [.int 0, .int np, .ref w1, .ref w2, .ref w3, .ref w4, .ref w5]))]) (wr := [(o1, .inl (cJ, 1, .inr (.inl (fo))))]) (vx_runV (As := [.int p0]) (rest := [.int 0, .ref o1]) ⟨hx, hb, hml, hown, hts⟩ (f_postOf l hfl D tE s.heap.size h0 h1 h2 h3 h4 a1 a2 w1 w2 w3 w4 w5 np p0 (va_A [(h0, .inr (11, [.ref h1, .ref h2, .ref h3, .ref h4, .ref a1, .ref a2, .int 0])), (h1, .inr (8, [.int 0, .int np, .ref w1, .ref w2, .ref w3, .ref w4, .ref w5]))] s.heap.size) rfl) (cwV 1 hts gL_postOf_X5_postOf rfl rfl rfl (by decide +kernel) ⟨Nat.le_of_ble_eq_true rfl, Nat.le_of_ble_eq_true rfl⟩) (yPreV (wc := [(h0, .inr (11, [.ref h1, .ref h2, .ref h3, .ref h4, .ref a1, .ref a2, .int 0])), (h1, .inr (8, [.int 0, .int np, .ref w1, .ref w2, .ref w3, .ref w4, .ref w5]))]) (tc := []) hK hP hD hS hA hE [0, 1] [] (by decide) rfl rfl (ci := 11) (q0 := 0) (q := (RX5, TX5, 7)) rfl rfl) rfl rfl hl.1 rfl (lv_room (Nat.le_of_ble_eq_true rfl)) dL_postOf_4 ⟨Nat.le_of_ble_eq_true rfl, Nat.le_of_ble_eq_true rfl⟩) hP hD hS hA [0, 1] [2] rfl rfl (by decide) (by decide) (fun E ce q9 H locs hpx hP hD hS g1 g2 g3 => ?_) (fun r_1 u_2 H locs hw hP hD hS => ?_)
  · have hP : va_P D vwCl [(o1, .inl (cJ, 1, .inr (.inl (fo))))] H := hP
    have hD : va_D A [(o1, .inl (cJ, 1, .inr (.inl (fo))))] := hD
    have hpx : E = "java/lang/IndexOutOfBoundsException" := hpx
    subst hpx
    refine vx_catch (E := "java/lang/IndexOutOfBoundsException") (name := "java/lang/IndexOutOfBoundsException") hown [] (⟨0, 9, 12, 24⟩ : ExceptionTableEntry) [] (by rw [htab]; rfl) (fun z hz => nomatch hz) (by decide) (by decide) (hts _ kL_postOf_1) (va_Nw.use rfl (hE.2.1 _ (by decide))) g1 g2 g3 ?_
    refine lv_astore_n (lv' := [(3, .ref q9), (0, .ref h0), (1, .int p0), (2, .ref o1)]) hx hb dL_postOf_12 rfl hl (by decide) rfl (fun ls hl => ?_)
    refine lv_iconst (v := (1)) hx hb dL_postOf_13 (by decide) ?_
    exact y_iret hx hb hr hlocks () rfl hP hD hS (Nat.le_of_ble_eq_true rfl) (Nat.le_of_ble_eq_true rfl) dL_postOf_14
  · have hP : va_P D vwCl [(o1, .inl (cJ, 1, .inr (.inl (fo)))), (h0, .inr (11, [.ref h1, .ref h2, .ref h3, .ref h4, .ref a1, .ref a2, .int 0])), (h1, .inr (8, [.int 0, .int np, .ref w1, .ref w2, .ref w3, .ref w4, .ref w5]))] H := hP
    have hD : va_D A [(o1, .inl (cJ, 1, .inr (.inl (fo)))), (h0, .inr (11, [.ref h1, .ref h2, .ref h3, .ref h4, .ref a1, .ref a2, .int 0])), (h1, .inr (8, [.int 0, .int np, .ref w1, .ref w2, .ref w3, .ref w4, .ref w5]))] := hD
    have hw : False := hw
    exact hw.elim
theorem ktL_challenger : Cond.codeWith yL_challenger cL_challenger 4 (some .int) [(0, 9, 12, 24)] ∈ wsL_challenger := by unfold wsL_challenger; exact List.mem_cons_self
theorem kL_challenger_1 : Cond.classLink RL 24 "java/lang/IndexOutOfBoundsException" ∈ wsL_challenger := List.mem_of_getElem? (i := 1) (by decide +kernel)
set_option maxHeartbeats 4000000 in
set_option maxRecDepth 100000 in
theorem w_challenger (l : Launch) (hfl : l.stackTraces = false) (D : va_G) (tE : Nat) (sz : Nat) (h0 : Nat) (h1 : Nat) (h2 : Nat) (h3 : Nat) (h4 : Nat) (a1 : Nat) (a2 : Nat) (w1 : Nat) (w2 : Nat) (w3 : Nat) (w4 : Nat) (w5 : Nat) (np : Int32) (o1 : Nat) (cJ : ClassId) (fo : Nat → Int64) (p0 : Int32) (A : Nat → Prop) (hA0 : A = va_A [(h0, .inr (11, [.ref h1, .ref h2, .ref h3, .ref h4, .ref a1, .ref a2, .int 0])), (h1, .inr (8, [.int 0, .int np, .ref w1, .ref w2, .ref w3, .ref w4, .ref w5])), (o1, .inl (cJ, 1, .inr (.inl (fo))))] sz) : Met l yL_challenger wsL_challenger (yR 2 1 6) (yP D tE [(h0, .inr (11, [.ref h1, .ref h2, .ref h3, .ref h4, .ref a1, .ref a2, .int 0])), (h1, .inr (8, [.int 0, .int np, .ref w1, .ref w2, .ref w3, .ref w4, .ref w5])), (o1, .inl (cJ, 1, .inr (.inl (fo))))] [(cJ, .long)] sz [.ref h0, .int p0, .ref o1]) (va_Qi (S := Unit) (fun (r : Int32) (u : Unit) => r = 1) (fun (u : Unit) (t : State) => yB D A ((fun (u : Unit) => [(o1, .inl (cJ, 1, .inr (.inl (fo))))]) u) t) A) 1 6 A := by
  refine va_MetW (cc := cL_challenger) (maxL := 4) (ret := (some .int)) (hh := [(0, 9, 12, 24)]) (by decide) rfl ?_
  intro p e s m args below meth c s₁ B hml hv
  obtain ⟨rfl, rfl, hP, hK, hD, hE, hA⟩ := y_start hA0 hv
  have hx := B.exec
  have hb := B.bytes
  have hr := B.returns
  have hts := atoms_spec (ws := wsL_challenger) B.pre
  have hown : s.vm.findClass RL = some m.cls := findClass_of_methodNamed B.named
  have hlocks := B.notSynchronized
  have htab : c.exceptionTable.toList = tableOf [(0, 9, 12, 24)] := vx_table (x := yL_challenger) (y := yL_challenger) (bytes := cL_challenger) (maxL' := 4) (ret' := (some .int)) (hh := [(0, 9, 12, 24)]) B (hts _ ktL_challenger)
  clear hA0 hv
  have hS : va_S A s.heap s.heap [] := va_S.rf
  have hl := lv_entry ([.ref h0, .int p0, .ref o1]) (n := 4) (Nat.le_of_ble_eq_true rfl)
  rw [lg_entry_eq]
  generalize (lg_sl ([.ref h0, .int p0, .ref o1]) ++ List.replicate (4 - (lg_sl ([.ref h0, .int p0, .ref o1])).length) Slot.unset).toArray = ls at hl ⊢
  have hl : lv_has ls 4 [(0, .ref h0), (1, .int p0), (2, .ref o1)] := hl
  refine lv_aload_n hx hb dL_challenger_0 rfl (lv_at hl 2 rfl) ?_
  refine lv_iconst (v := (0)) hx hb dL_challenger_1 (by decide) ?_
  refine lv_aload_n hx hb dL_challenger_2 rfl (lv_at hl 0 rfl) ?_
  refine lv_iload_n hx hb dL_challenger_3 rfl (lv_at hl 1 rfl) ?_
  refine yx_i (wc := [(h0, .inr (11, [.ref h1, .ref h2, .ref h3, .ref h4, .ref a1, .ref a2, .int 0])), (h1, .inr (8, [.int 0, .int np, .ref w1, .ref w2, .ref w3, .ref w4, .ref w5]))]) (wr := [(o1, .inl (cJ, 1, .inr (.inl (fo))))]) (vx_runV (As := [.int p0]) (rest := [.int 0, .ref o1]) ⟨hx, hb, hml, hown, hts⟩ (f_challenger l hfl D tE s.heap.size h0 h1 h2 h3 h4 a1 a2 w1 w2 w3 w4 w5 np p0 (va_A [(h0, .inr (11, [.ref h1, .ref h2, .ref h3, .ref h4, .ref a1, .ref a2, .int 0])), (h1, .inr (8, [.int 0, .int np, .ref w1, .ref w2, .ref w3, .ref w4, .ref w5]))] s.heap.size) rfl) (cwV 1 hts gL_challenger_X5_challenger rfl rfl rfl (by decide +kernel) ⟨Nat.le_of_ble_eq_true rfl, Nat.le_of_ble_eq_true rfl⟩) (yPreV (wc := [(h0, .inr (11, [.ref h1, .ref h2, .ref h3, .ref h4, .ref a1, .ref a2, .int 0])), (h1, .inr (8, [.int 0, .int np, .ref w1, .ref w2, .ref w3, .ref w4, .ref w5]))]) (tc := []) hK hP hD hS hA hE [0, 1] [] (by decide) rfl rfl (ci := 11) (q0 := 0) (q := (RX5, TX5, 7)) rfl rfl) rfl rfl hl.1 rfl (lv_room (Nat.le_of_ble_eq_true rfl)) dL_challenger_4 ⟨Nat.le_of_ble_eq_true rfl, Nat.le_of_ble_eq_true rfl⟩) hP hD hS hA [0, 1] [2] rfl rfl (by decide) (by decide) (fun E ce q9 H locs hpx hP hD hS g1 g2 g3 => ?_) (fun r_1 u_2 H locs hw hP hD hS => ?_)
  · have hP : va_P D vwCl [(o1, .inl (cJ, 1, .inr (.inl (fo))))] H := hP
    have hD : va_D A [(o1, .inl (cJ, 1, .inr (.inl (fo))))] := hD
    have hpx : E = "java/lang/IndexOutOfBoundsException" := hpx
    subst hpx
    refine vx_catch (E := "java/lang/IndexOutOfBoundsException") (name := "java/lang/IndexOutOfBoundsException") hown [] (⟨0, 9, 12, 24⟩ : ExceptionTableEntry) [] (by rw [htab]; rfl) (fun z hz => nomatch hz) (by decide) (by decide) (hts _ kL_challenger_1) (va_Nw.use rfl (hE.2.1 _ (by decide))) g1 g2 g3 ?_
    refine lv_astore_n (lv' := [(3, .ref q9), (0, .ref h0), (1, .int p0), (2, .ref o1)]) hx hb dL_challenger_12 rfl hl (by decide) rfl (fun ls hl => ?_)
    refine lv_iconst (v := (1)) hx hb dL_challenger_13 (by decide) ?_
    exact y_iret hx hb hr hlocks () rfl hP hD hS (Nat.le_of_ble_eq_true rfl) (Nat.le_of_ble_eq_true rfl) dL_challenger_14
  · have hP : va_P D vwCl [(o1, .inl (cJ, 1, .inr (.inl (fo)))), (h0, .inr (11, [.ref h1, .ref h2, .ref h3, .ref h4, .ref a1, .ref a2, .int 0])), (h1, .inr (8, [.int 0, .int np, .ref w1, .ref w2, .ref w3, .ref w4, .ref w5]))] H := hP
    have hD : va_D A [(o1, .inl (cJ, 1, .inr (.inl (fo)))), (h0, .inr (11, [.ref h1, .ref h2, .ref h3, .ref h4, .ref a1, .ref a2, .int 0])), (h1, .inr (8, [.int 0, .int np, .ref w1, .ref w2, .ref w3, .ref w4, .ref w5]))] := hD
    have hw : False := hw
    exact hw.elim
theorem ktL_popularPost : Cond.codeWith yL_popularPost cL_popularPost 4 (some .int) [(0, 9, 12, 24), (0, 9, 15, 29), (0, 9, 18, 52)] ∈ wsL_popularPost := by unfold wsL_popularPost; exact List.mem_cons_self
theorem kL_popularPost_1 : Cond.classLink RL 24 "java/lang/IndexOutOfBoundsException" ∈ wsL_popularPost := List.mem_of_getElem? (i := 1) (by decide +kernel)
set_option maxHeartbeats 4000000 in
set_option maxRecDepth 100000 in
theorem w_popularPost (l : Launch) (hfl : l.stackTraces = false) (D : va_G) (tE : Nat) (sz : Nat) (h0 : Nat) (h1 : Nat) (h2 : Nat) (h3 : Nat) (h4 : Nat) (a1 : Nat) (a2 : Nat) (w1 : Nat) (w2 : Nat) (w3 : Nat) (w4 : Nat) (w5 : Nat) (np : Int32) (o1 : Nat) (cJ : ClassId) (fo : Nat → Int64) (p0 : Int32) (A : Nat → Prop) (hA0 : A = va_A [(h0, .inr (11, [.ref h1, .ref h2, .ref h3, .ref h4, .ref a1, .ref a2, .int 0])), (h1, .inr (8, [.int 0, .int np, .ref w1, .ref w2, .ref w3, .ref w4, .ref w5])), (o1, .inl (cJ, 1, .inr (.inl (fo))))] sz) : Met l yL_popularPost wsL_popularPost (yR 2 1 6) (yP D tE [(h0, .inr (11, [.ref h1, .ref h2, .ref h3, .ref h4, .ref a1, .ref a2, .int 0])), (h1, .inr (8, [.int 0, .int np, .ref w1, .ref w2, .ref w3, .ref w4, .ref w5])), (o1, .inl (cJ, 1, .inr (.inl (fo))))] [(cJ, .long)] sz [.ref h0, .int p0, .ref o1]) (va_Qi (S := Unit) (fun (r : Int32) (u : Unit) => r = 1) (fun (u : Unit) (t : State) => yB D A ((fun (u : Unit) => [(o1, .inl (cJ, 1, .inr (.inl (fo))))]) u) t) A) 1 6 A := by
  refine va_MetW (cc := cL_popularPost) (maxL := 4) (ret := (some .int)) (hh := [(0, 9, 12, 24), (0, 9, 15, 29), (0, 9, 18, 52)]) (by decide) rfl ?_
  intro p e s m args below meth c s₁ B hml hv
  obtain ⟨rfl, rfl, hP, hK, hD, hE, hA⟩ := y_start hA0 hv
  have hx := B.exec
  have hb := B.bytes
  have hr := B.returns
  have hts := atoms_spec (ws := wsL_popularPost) B.pre
  have hown : s.vm.findClass RL = some m.cls := findClass_of_methodNamed B.named
  have hlocks := B.notSynchronized
  have htab : c.exceptionTable.toList = tableOf [(0, 9, 12, 24), (0, 9, 15, 29), (0, 9, 18, 52)] := vx_table (x := yL_popularPost) (y := yL_popularPost) (bytes := cL_popularPost) (maxL' := 4) (ret' := (some .int)) (hh := [(0, 9, 12, 24), (0, 9, 15, 29), (0, 9, 18, 52)]) B (hts _ ktL_popularPost)
  clear hA0 hv
  have hS : va_S A s.heap s.heap [] := va_S.rf
  have hl := lv_entry ([.ref h0, .int p0, .ref o1]) (n := 4) (Nat.le_of_ble_eq_true rfl)
  rw [lg_entry_eq]
  generalize (lg_sl ([.ref h0, .int p0, .ref o1]) ++ List.replicate (4 - (lg_sl ([.ref h0, .int p0, .ref o1])).length) Slot.unset).toArray = ls at hl ⊢
  have hl : lv_has ls 4 [(0, .ref h0), (1, .int p0), (2, .ref o1)] := hl
  refine lv_aload_n hx hb dL_popularPost_0 rfl (lv_at hl 2 rfl) ?_
  refine lv_iconst (v := (0)) hx hb dL_popularPost_1 (by decide) ?_
  refine lv_aload_n hx hb dL_popularPost_2 rfl (lv_at hl 0 rfl) ?_
  refine lv_iload_n hx hb dL_popularPost_3 rfl (lv_at hl 1 rfl) ?_
  refine yx_i (wc := [(h0, .inr (11, [.ref h1, .ref h2, .ref h3, .ref h4, .ref a1, .ref a2, .int 0])), (h1, .inr (8, [.int 0, .int np, .ref w1, .ref w2, .ref w3, .ref w4, .ref w5]))]) (wr := [(o1, .inl (cJ, 1, .inr (.inl (fo))))]) (vx_runV (As := [.int p0]) (rest := [.int 0, .ref o1]) ⟨hx, hb, hml, hown, hts⟩ (f_popularPost l hfl D tE s.heap.size h0 h1 h2 h3 h4 a1 a2 w1 w2 w3 w4 w5 np p0 (va_A [(h0, .inr (11, [.ref h1, .ref h2, .ref h3, .ref h4, .ref a1, .ref a2, .int 0])), (h1, .inr (8, [.int 0, .int np, .ref w1, .ref w2, .ref w3, .ref w4, .ref w5]))] s.heap.size) rfl) (cwV 1 hts gL_popularPost_X5_popularPost rfl rfl rfl (by decide +kernel) ⟨Nat.le_of_ble_eq_true rfl, Nat.le_of_ble_eq_true rfl⟩) (yPreV (wc := [(h0, .inr (11, [.ref h1, .ref h2, .ref h3, .ref h4, .ref a1, .ref a2, .int 0])), (h1, .inr (8, [.int 0, .int np, .ref w1, .ref w2, .ref w3, .ref w4, .ref w5]))]) (tc := []) hK hP hD hS hA hE [0, 1] [] (by decide) rfl rfl (ci := 11) (q0 := 0) (q := (RX5, TX5, 7)) rfl rfl) rfl rfl hl.1 rfl (lv_room (Nat.le_of_ble_eq_true rfl)) dL_popularPost_4 ⟨Nat.le_of_ble_eq_true rfl, Nat.le_of_ble_eq_true rfl⟩) hP hD hS hA [0, 1] [2] rfl rfl (by decide) (by decide) (fun E ce q9 H locs hpx hP hD hS g1 g2 g3 => ?_) (fun r_1 u_2 H locs hw hP hD hS => ?_)
  · have hP : va_P D vwCl [(o1, .inl (cJ, 1, .inr (.inl (fo))))] H := hP
    have hD : va_D A [(o1, .inl (cJ, 1, .inr (.inl (fo))))] := hD
    have hpx : E = "java/lang/IndexOutOfBoundsException" := hpx
    subst hpx
    refine vx_catch (E := "java/lang/IndexOutOfBoundsException") (name := "java/lang/IndexOutOfBoundsException") hown [] (⟨0, 9, 12, 24⟩ : ExceptionTableEntry) [(⟨0, 9, 15, 29⟩ : ExceptionTableEntry), (⟨0, 9, 18, 52⟩ : ExceptionTableEntry)] (by rw [htab]; rfl) (fun z hz => nomatch hz) (by decide) (by decide) (hts _ kL_popularPost_1) (va_Nw.use rfl (hE.2.1 _ (by decide))) g1 g2 g3 ?_
    refine lv_astore_n (lv' := [(3, .ref q9), (0, .ref h0), (1, .int p0), (2, .ref o1)]) hx hb dL_popularPost_12 rfl hl (by decide) rfl (fun ls hl => ?_)
    refine lv_iconst (v := (1)) hx hb dL_popularPost_13 (by decide) ?_
    exact y_iret hx hb hr hlocks () rfl hP hD hS (Nat.le_of_ble_eq_true rfl) (Nat.le_of_ble_eq_true rfl) dL_popularPost_14
  · have hP : va_P D vwCl [(o1, .inl (cJ, 1, .inr (.inl (fo)))), (h0, .inr (11, [.ref h1, .ref h2, .ref h3, .ref h4, .ref a1, .ref a2, .int 0])), (h1, .inr (8, [.int 0, .int np, .ref w1, .ref w2, .ref w3, .ref w4, .ref w5]))] H := hP
    have hD : va_D A [(o1, .inl (cJ, 1, .inr (.inl (fo)))), (h0, .inr (11, [.ref h1, .ref h2, .ref h3, .ref h4, .ref a1, .ref a2, .int 0])), (h1, .inr (8, [.int 0, .int np, .ref w1, .ref w2, .ref w3, .ref w4, .ref w5]))] := hD
    have hw : False := hw
    exact hw.elim
theorem ktL_bestPost : Cond.codeWith yL_bestPost cL_bestPost 4 (some .int) [(0, 9, 12, 24)] ∈ wsL_bestPost := by unfold wsL_bestPost; exact List.mem_cons_self
theorem kL_bestPost_1 : Cond.classLink RL 24 "java/lang/IndexOutOfBoundsException" ∈ wsL_bestPost := List.mem_of_getElem? (i := 1) (by decide +kernel)
set_option maxHeartbeats 4000000 in
set_option maxRecDepth 100000 in
theorem w_bestPost (l : Launch) (hfl : l.stackTraces = false) (D : va_G) (tE : Nat) (sz : Nat) (h0 : Nat) (h1 : Nat) (h2 : Nat) (h3 : Nat) (h4 : Nat) (a1 : Nat) (a2 : Nat) (w1 : Nat) (w2 : Nat) (w3 : Nat) (w4 : Nat) (w5 : Nat) (np : Int32) (o1 : Nat) (cJ : ClassId) (fo : Nat → Int64) (p0 : Int32) (A : Nat → Prop) (hA0 : A = va_A [(h0, .inr (11, [.ref h1, .ref h2, .ref h3, .ref h4, .ref a1, .ref a2, .int 0])), (h1, .inr (8, [.int 0, .int np, .ref w1, .ref w2, .ref w3, .ref w4, .ref w5])), (o1, .inl (cJ, 1, .inr (.inl (fo))))] sz) : Met l yL_bestPost wsL_bestPost (yR 2 1 6) (yP D tE [(h0, .inr (11, [.ref h1, .ref h2, .ref h3, .ref h4, .ref a1, .ref a2, .int 0])), (h1, .inr (8, [.int 0, .int np, .ref w1, .ref w2, .ref w3, .ref w4, .ref w5])), (o1, .inl (cJ, 1, .inr (.inl (fo))))] [(cJ, .long)] sz [.ref h0, .int p0, .ref o1]) (va_Qi (S := Unit) (fun (r : Int32) (u : Unit) => r = 1) (fun (u : Unit) (t : State) => yB D A ((fun (u : Unit) => [(o1, .inl (cJ, 1, .inr (.inl (fo))))]) u) t) A) 1 6 A := by
  refine va_MetW (cc := cL_bestPost) (maxL := 4) (ret := (some .int)) (hh := [(0, 9, 12, 24)]) (by decide) rfl ?_
  intro p e s m args below meth c s₁ B hml hv
  obtain ⟨rfl, rfl, hP, hK, hD, hE, hA⟩ := y_start hA0 hv
  have hx := B.exec
  have hb := B.bytes
  have hr := B.returns
  have hts := atoms_spec (ws := wsL_bestPost) B.pre
  have hown : s.vm.findClass RL = some m.cls := findClass_of_methodNamed B.named
  have hlocks := B.notSynchronized
  have htab : c.exceptionTable.toList = tableOf [(0, 9, 12, 24)] := vx_table (x := yL_bestPost) (y := yL_bestPost) (bytes := cL_bestPost) (maxL' := 4) (ret' := (some .int)) (hh := [(0, 9, 12, 24)]) B (hts _ ktL_bestPost)
  clear hA0 hv
  have hS : va_S A s.heap s.heap [] := va_S.rf
  have hl := lv_entry ([.ref h0, .int p0, .ref o1]) (n := 4) (Nat.le_of_ble_eq_true rfl)
  rw [lg_entry_eq]
  generalize (lg_sl ([.ref h0, .int p0, .ref o1]) ++ List.replicate (4 - (lg_sl ([.ref h0, .int p0, .ref o1])).length) Slot.unset).toArray = ls at hl ⊢
  have hl : lv_has ls 4 [(0, .ref h0), (1, .int p0), (2, .ref o1)] := hl
  refine lv_aload_n hx hb dL_bestPost_0 rfl (lv_at hl 2 rfl) ?_
  refine lv_iconst (v := (0)) hx hb dL_bestPost_1 (by decide) ?_
  refine lv_aload_n hx hb dL_bestPost_2 rfl (lv_at hl 0 rfl) ?_
  refine lv_iload_n hx hb dL_bestPost_3 rfl (lv_at hl 1 rfl) ?_
  refine yx_i (wc := [(h0, .inr (11, [.ref h1, .ref h2, .ref h3, .ref h4, .ref a1, .ref a2, .int 0])), (h1, .inr (8, [.int 0, .int np, .ref w1, .ref w2, .ref w3, .ref w4, .ref w5]))]) (wr := [(o1, .inl (cJ, 1, .inr (.inl (fo))))]) (vx_runV (As := [.int p0]) (rest := [.int 0, .ref o1]) ⟨hx, hb, hml, hown, hts⟩ (f_bestPost l hfl D tE s.heap.size h0 h1 h2 h3 h4 a1 a2 w1 w2 w3 w4 w5 np p0 (va_A [(h0, .inr (11, [.ref h1, .ref h2, .ref h3, .ref h4, .ref a1, .ref a2, .int 0])), (h1, .inr (8, [.int 0, .int np, .ref w1, .ref w2, .ref w3, .ref w4, .ref w5]))] s.heap.size) rfl) (cwV 1 hts gL_bestPost_X5_bestPost rfl rfl rfl (by decide +kernel) ⟨Nat.le_of_ble_eq_true rfl, Nat.le_of_ble_eq_true rfl⟩) (yPreV (wc := [(h0, .inr (11, [.ref h1, .ref h2, .ref h3, .ref h4, .ref a1, .ref a2, .int 0])), (h1, .inr (8, [.int 0, .int np, .ref w1, .ref w2, .ref w3, .ref w4, .ref w5]))]) (tc := []) hK hP hD hS hA hE [0, 1] [] (by decide) rfl rfl (ci := 11) (q0 := 0) (q := (RX5, TX5, 7)) rfl rfl) rfl rfl hl.1 rfl (lv_room (Nat.le_of_ble_eq_true rfl)) dL_bestPost_4 ⟨Nat.le_of_ble_eq_true rfl, Nat.le_of_ble_eq_true rfl⟩) hP hD hS hA [0, 1] [2] rfl rfl (by decide) (by decide) (fun E ce q9 H locs hpx hP hD hS g1 g2 g3 => ?_) (fun r_1 u_2 H locs hw hP hD hS => ?_)
  · have hP : va_P D vwCl [(o1, .inl (cJ, 1, .inr (.inl (fo))))] H := hP
    have hD : va_D A [(o1, .inl (cJ, 1, .inr (.inl (fo))))] := hD
    have hpx : E = "java/lang/IndexOutOfBoundsException" := hpx
    subst hpx
    refine vx_catch (E := "java/lang/IndexOutOfBoundsException") (name := "java/lang/IndexOutOfBoundsException") hown [] (⟨0, 9, 12, 24⟩ : ExceptionTableEntry) [] (by rw [htab]; rfl) (fun z hz => nomatch hz) (by decide) (by decide) (hts _ kL_bestPost_1) (va_Nw.use rfl (hE.2.1 _ (by decide))) g1 g2 g3 ?_
    refine lv_astore_n (lv' := [(3, .ref q9), (0, .ref h0), (1, .int p0), (2, .ref o1)]) hx hb dL_bestPost_12 rfl hl (by decide) rfl (fun ls hl => ?_)
    refine lv_iconst (v := (1)) hx hb dL_bestPost_13 (by decide) ?_
    exact y_iret hx hb hr hlocks () rfl hP hD hS (Nat.le_of_ble_eq_true rfl) (Nat.le_of_ble_eq_true rfl) dL_bestPost_14
  · have hP : va_P D vwCl [(o1, .inl (cJ, 1, .inr (.inl (fo)))), (h0, .inr (11, [.ref h1, .ref h2, .ref h3, .ref h4, .ref a1, .ref a2, .int 0])), (h1, .inr (8, [.int 0, .int np, .ref w1, .ref w2, .ref w3, .ref w4, .ref w5]))] H := hP
    have hD : va_D A [(o1, .inl (cJ, 1, .inr (.inl (fo)))), (h0, .inr (11, [.ref h1, .ref h2, .ref h3, .ref h4, .ref a1, .ref a2, .int 0])), (h1, .inr (8, [.int 0, .int np, .ref w1, .ref w2, .ref w3, .ref w4, .ref w5]))] := hD
    have hw : False := hw
    exact hw.elim
theorem ktL_isSure : Cond.codeWith yL_isSure cL_isSure 4 (some .int) [(0, 16, 19, 24)] ∈ wsL_isSure := by unfold wsL_isSure; exact List.mem_cons_self
theorem kL_isSure_1 : Cond.classLink RL 24 "java/lang/IndexOutOfBoundsException" ∈ wsL_isSure := List.mem_of_getElem? (i := 1) (by decide +kernel)
set_option maxHeartbeats 4000000 in
set_option maxRecDepth 100000 in
theorem w_isSure (l : Launch) (hfl : l.stackTraces = false) (D : va_G) (tE : Nat) (sz : Nat) (h0 : Nat) (h1 : Nat) (h2 : Nat) (h3 : Nat) (h4 : Nat) (a1 : Nat) (a2 : Nat) (w1 : Nat) (w2 : Nat) (w3 : Nat) (w4 : Nat) (w5 : Nat) (np : Int32) (o1 : Nat) (cJ : ClassId) (fo : Nat → Int64) (p0 : Int32) (A : Nat → Prop) (hA0 : A = va_A [(h0, .inr (11, [.ref h1, .ref h2, .ref h3, .ref h4, .ref a1, .ref a2, .int 0])), (h1, .inr (8, [.int 0, .int np, .ref w1, .ref w2, .ref w3, .ref w4, .ref w5])), (o1, .inl (cJ, 1, .inr (.inl (fo))))] sz) : Met l yL_isSure wsL_isSure (yR 2 1 6) (yP D tE [(h0, .inr (11, [.ref h1, .ref h2, .ref h3, .ref h4, .ref a1, .ref a2, .int 0])), (h1, .inr (8, [.int 0, .int np, .ref w1, .ref w2, .ref w3, .ref w4, .ref w5])), (o1, .inl (cJ, 1, .inr (.inl (fo))))] [(cJ, .long)] sz [.ref h0, .int p0, .ref o1]) (va_Qi (S := Unit) (fun (r : Int32) (u : Unit) => r = 1) (fun (u : Unit) (t : State) => yB D A ((fun (u : Unit) => [(o1, .inl (cJ, 1, .inr (.inl (fo))))]) u) t) A) 1 6 A := by
  refine va_MetW (cc := cL_isSure) (maxL := 4) (ret := (some .int)) (hh := [(0, 16, 19, 24)]) (by decide) rfl ?_
  intro p e s m args below meth c s₁ B hml hv
  obtain ⟨rfl, rfl, hP, hK, hD, hE, hA⟩ := y_start hA0 hv
  have hx := B.exec
  have hb := B.bytes
  have hr := B.returns
  have hts := atoms_spec (ws := wsL_isSure) B.pre
  have hown : s.vm.findClass RL = some m.cls := findClass_of_methodNamed B.named
  have hlocks := B.notSynchronized
  have htab : c.exceptionTable.toList = tableOf [(0, 16, 19, 24)] := vx_table (x := yL_isSure) (y := yL_isSure) (bytes := cL_isSure) (maxL' := 4) (ret' := (some .int)) (hh := [(0, 16, 19, 24)]) B (hts _ ktL_isSure)
  clear hA0 hv
  have hS : va_S A s.heap s.heap [] := va_S.rf
  have hl := lv_entry ([.ref h0, .int p0, .ref o1]) (n := 4) (Nat.le_of_ble_eq_true rfl)
  rw [lg_entry_eq]
  generalize (lg_sl ([.ref h0, .int p0, .ref o1]) ++ List.replicate (4 - (lg_sl ([.ref h0, .int p0, .ref o1])).length) Slot.unset).toArray = ls at hl ⊢
  have hl : lv_has ls 4 [(0, .ref h0), (1, .int p0), (2, .ref o1)] := hl
  refine lv_aload_n hx hb dL_isSure_0 rfl (lv_at hl 2 rfl) ?_
  refine lv_iconst (v := (0)) hx hb dL_isSure_1 (by decide) ?_
  refine lv_aload_n hx hb dL_isSure_2 rfl (lv_at hl 0 rfl) ?_
  refine lv_iload_n hx hb dL_isSure_3 rfl (lv_at hl 1 rfl) ?_
  refine yx_i (wc := [(h0, .inr (11, [.ref h1, .ref h2, .ref h3, .ref h4, .ref a1, .ref a2, .int 0])), (h1, .inr (8, [.int 0, .int np, .ref w1, .ref w2, .ref w3, .ref w4, .ref w5]))]) (wr := [(o1, .inl (cJ, 1, .inr (.inl (fo))))]) (vx_runV (As := [.int p0]) (rest := [.int 0, .ref o1]) ⟨hx, hb, hml, hown, hts⟩ (f_isSure l hfl D tE s.heap.size h0 h1 h2 h3 h4 a1 a2 w1 w2 w3 w4 w5 np p0 (va_A [(h0, .inr (11, [.ref h1, .ref h2, .ref h3, .ref h4, .ref a1, .ref a2, .int 0])), (h1, .inr (8, [.int 0, .int np, .ref w1, .ref w2, .ref w3, .ref w4, .ref w5]))] s.heap.size) rfl) (cwV 1 hts gL_isSure_X5_isSure rfl rfl rfl (by decide +kernel) ⟨Nat.le_of_ble_eq_true rfl, Nat.le_of_ble_eq_true rfl⟩) (yPreV (wc := [(h0, .inr (11, [.ref h1, .ref h2, .ref h3, .ref h4, .ref a1, .ref a2, .int 0])), (h1, .inr (8, [.int 0, .int np, .ref w1, .ref w2, .ref w3, .ref w4, .ref w5]))]) (tc := []) hK hP hD hS hA hE [0, 1] [] (by decide) rfl rfl (ci := 11) (q0 := 0) (q := (RX5, TX5, 7)) rfl rfl) rfl rfl hl.1 rfl (lv_room (Nat.le_of_ble_eq_true rfl)) dL_isSure_4 ⟨Nat.le_of_ble_eq_true rfl, Nat.le_of_ble_eq_true rfl⟩) hP hD hS hA [0, 1] [2] rfl rfl (by decide) (by decide) (fun E ce q9 H locs hpx hP hD hS g1 g2 g3 => ?_) (fun r_1 u_2 H locs hw hP hD hS => ?_)
  · have hP : va_P D vwCl [(o1, .inl (cJ, 1, .inr (.inl (fo))))] H := hP
    have hD : va_D A [(o1, .inl (cJ, 1, .inr (.inl (fo))))] := hD
    have hpx : E = "java/lang/IndexOutOfBoundsException" := hpx
    subst hpx
    refine vx_catch (E := "java/lang/IndexOutOfBoundsException") (name := "java/lang/IndexOutOfBoundsException") hown [] (⟨0, 16, 19, 24⟩ : ExceptionTableEntry) [] (by rw [htab]; rfl) (fun z hz => nomatch hz) (by decide) (by decide) (hts _ kL_isSure_1) (va_Nw.use rfl (hE.2.1 _ (by decide))) g1 g2 g3 ?_
    refine lv_astore_n (lv' := [(3, .ref q9), (0, .ref h0), (1, .int p0), (2, .ref o1)]) hx hb dL_isSure_19 rfl hl (by decide) rfl (fun ls hl => ?_)
    refine lv_iconst (v := (1)) hx hb dL_isSure_20 (by decide) ?_
    exact y_iret hx hb hr hlocks () rfl hP hD hS (Nat.le_of_ble_eq_true rfl) (Nat.le_of_ble_eq_true rfl) dL_isSure_21
  · have hP : va_P D vwCl [(o1, .inl (cJ, 1, .inr (.inl (fo)))), (h0, .inr (11, [.ref h1, .ref h2, .ref h3, .ref h4, .ref a1, .ref a2, .int 0])), (h1, .inr (8, [.int 0, .int np, .ref w1, .ref w2, .ref w3, .ref w4, .ref w5]))] H := hP
    have hD : va_D A [(o1, .inl (cJ, 1, .inr (.inl (fo)))), (h0, .inr (11, [.ref h1, .ref h2, .ref h3, .ref h4, .ref a1, .ref a2, .int 0])), (h1, .inr (8, [.int 0, .int np, .ref w1, .ref w2, .ref w3, .ref w4, .ref w5]))] := hD
    have hw : False := hw
    exact hw.elim
theorem ktL_gains : Cond.codeWith yL_gains cL_gains 5 (some .int) [(0, 17, 20, 24)] ∈ wsL_gains := by unfold wsL_gains; exact List.mem_cons_self
theorem kL_gains_1 : Cond.classLink RL 24 "java/lang/IndexOutOfBoundsException" ∈ wsL_gains := List.mem_of_getElem? (i := 1) (by decide +kernel)
set_option maxHeartbeats 4000000 in
set_option maxRecDepth 100000 in
theorem w_gains (l : Launch) (hfl : l.stackTraces = false) (D : va_G) (tE : Nat) (sz : Nat) (h0 : Nat) (h1 : Nat) (h2 : Nat) (h3 : Nat) (h4 : Nat) (a1 : Nat) (a2 : Nat) (w1 : Nat) (w2 : Nat) (w3 : Nat) (w4 : Nat) (w5 : Nat) (np : Int32) (o1 : Nat) (cJ : ClassId) (fo : Nat → Int64) (p0 : Int32) (p1 : Int32) (A : Nat → Prop) (hA0 : A = va_A [(h0, .inr (11, [.ref h1, .ref h2, .ref h3, .ref h4, .ref a1, .ref a2, .int 0])), (h1, .inr (8, [.int 0, .int np, .ref w1, .ref w2, .ref w3, .ref w4, .ref w5])), (o1, .inl (cJ, 1, .inr (.inl (fo))))] sz) : Met l yL_gains wsL_gains (yR 2 1 6) (yP D tE [(h0, .inr (11, [.ref h1, .ref h2, .ref h3, .ref h4, .ref a1, .ref a2, .int 0])), (h1, .inr (8, [.int 0, .int np, .ref w1, .ref w2, .ref w3, .ref w4, .ref w5])), (o1, .inl (cJ, 1, .inr (.inl (fo))))] [(cJ, .long)] sz [.ref h0, .int p0, .int p1, .ref o1]) (va_Qi (S := Unit) (fun (r : Int32) (u : Unit) => r = 1) (fun (u : Unit) (t : State) => yB D A ((fun (u : Unit) => [(o1, .inl (cJ, 1, .inr (.inl (fo))))]) u) t) A) 1 6 A := by
  refine va_MetW (cc := cL_gains) (maxL := 5) (ret := (some .int)) (hh := [(0, 17, 20, 24)]) (by decide) rfl ?_
  intro p e s m args below meth c s₁ B hml hv
  obtain ⟨rfl, rfl, hP, hK, hD, hE, hA⟩ := y_start hA0 hv
  have hx := B.exec
  have hb := B.bytes
  have hr := B.returns
  have hts := atoms_spec (ws := wsL_gains) B.pre
  have hown : s.vm.findClass RL = some m.cls := findClass_of_methodNamed B.named
  have hlocks := B.notSynchronized
  have htab : c.exceptionTable.toList = tableOf [(0, 17, 20, 24)] := vx_table (x := yL_gains) (y := yL_gains) (bytes := cL_gains) (maxL' := 5) (ret' := (some .int)) (hh := [(0, 17, 20, 24)]) B (hts _ ktL_gains)
  clear hA0 hv
  have hS : va_S A s.heap s.heap [] := va_S.rf
  have hl := lv_entry ([.ref h0, .int p0, .int p1, .ref o1]) (n := 5) (Nat.le_of_ble_eq_true rfl)
  rw [lg_entry_eq]
  generalize (lg_sl ([.ref h0, .int p0, .int p1, .ref o1]) ++ List.replicate (5 - (lg_sl ([.ref h0, .int p0, .int p1, .ref o1])).length) Slot.unset).toArray = ls at hl ⊢
  have hl : lv_has ls 5 [(0, .ref h0), (1, .int p0), (2, .int p1), (3, .ref o1)] := hl
  refine lv_aload_n hx hb dL_gains_0 rfl (lv_at hl 3 rfl) ?_
  refine lv_iconst (v := (0)) hx hb dL_gains_1 (by decide) ?_
  refine lv_aload_n hx hb dL_gains_2 rfl (lv_at hl 0 rfl) ?_
  refine lv_iload_n hx hb dL_gains_3 rfl (lv_at hl 1 rfl) ?_
  refine lv_iload_n hx hb dL_gains_4 rfl (lv_at hl 2 rfl) ?_
  refine yx_i (wc := [(h0, .inr (11, [.ref h1, .ref h2, .ref h3, .ref h4, .ref a1, .ref a2, .int 0])), (h1, .inr (8, [.int 0, .int np, .ref w1, .ref w2, .ref w3, .ref w4, .ref w5]))]) (wr := [(o1, .inl (cJ, 1, .inr (.inl (fo))))]) (vx_runV (As := [.int p0, .int p1]) (rest := [.int 0, .ref o1]) ⟨hx, hb, hml, hown, hts⟩ (f_gains l hfl D tE s.heap.size h0 h1 h2 h3 h4 a1 a2 w1 w2 w3 w4 w5 np p0 p1 (va_A [(h0, .inr (11, [.ref h1, .ref h2, .ref h3, .ref h4, .ref a1, .ref a2, .int 0])), (h1, .inr (8, [.int 0, .int np, .ref w1, .ref w2, .ref w3, .ref w4, .ref w5]))] s.heap.size) rfl) (cwV 2 hts gL_gains_X5_gains rfl rfl rfl (by decide +kernel) ⟨Nat.le_of_ble_eq_true rfl, Nat.le_of_ble_eq_true rfl⟩) (yPreV (wc := [(h0, .inr (11, [.ref h1, .ref h2, .ref h3, .ref h4, .ref a1, .ref a2, .int 0])), (h1, .inr (8, [.int 0, .int np, .ref w1, .ref w2, .ref w3, .ref w4, .ref w5]))]) (tc := []) hK hP hD hS hA hE [0, 1] [] (by decide) rfl rfl (ci := 11) (q0 := 0) (q := (RX5, TX5, 7)) rfl rfl) rfl rfl hl.1 rfl (lv_room (Nat.le_of_ble_eq_true rfl)) dL_gains_5 ⟨Nat.le_of_ble_eq_true rfl, Nat.le_of_ble_eq_true rfl⟩) hP hD hS hA [0, 1] [2] rfl rfl (by decide) (by decide) (fun E ce q9 H locs hpx hP hD hS g1 g2 g3 => ?_) (fun r_1 u_2 H locs hw hP hD hS => ?_)
  · have hP : va_P D vwCl [(o1, .inl (cJ, 1, .inr (.inl (fo))))] H := hP
    have hD : va_D A [(o1, .inl (cJ, 1, .inr (.inl (fo))))] := hD
    have hpx : E = "java/lang/IndexOutOfBoundsException" := hpx
    subst hpx
    refine vx_catch (E := "java/lang/IndexOutOfBoundsException") (name := "java/lang/IndexOutOfBoundsException") hown [] (⟨0, 17, 20, 24⟩ : ExceptionTableEntry) [] (by rw [htab]; rfl) (fun z hz => nomatch hz) (by decide) (by decide) (hts _ kL_gains_1) (va_Nw.use rfl (hE.2.1 _ (by decide))) g1 g2 g3 ?_
    refine lv_astore (lv' := [(4, .ref q9), (0, .ref h0), (1, .int p0), (2, .int p1), (3, .ref o1)]) hx hb dL_gains_20 hl (by decide) rfl (fun ls hl => ?_)
    refine lv_iconst (v := (1)) hx hb dL_gains_22 (by decide) ?_
    exact y_iret hx hb hr hlocks () rfl hP hD hS (Nat.le_of_ble_eq_true rfl) (Nat.le_of_ble_eq_true rfl) dL_gains_23
  · have hP : va_P D vwCl [(o1, .inl (cJ, 1, .inr (.inl (fo)))), (h0, .inr (11, [.ref h1, .ref h2, .ref h3, .ref h4, .ref a1, .ref a2, .int 0])), (h1, .inr (8, [.int 0, .int np, .ref w1, .ref w2, .ref w3, .ref w4, .ref w5]))] H := hP
    have hD : va_D A [(o1, .inl (cJ, 1, .inr (.inl (fo)))), (h0, .inr (11, [.ref h1, .ref h2, .ref h3, .ref h4, .ref a1, .ref a2, .int 0])), (h1, .inr (8, [.int 0, .int np, .ref w1, .ref w2, .ref w3, .ref w4, .ref w5]))] := hD
    have hw : False := hw
    exact hw.elim
theorem ktL_envies : Cond.codeWith yL_envies cL_envies 5 (some .int) [(0, 17, 20, 24)] ∈ wsL_envies := by unfold wsL_envies; exact List.mem_cons_self
theorem kL_envies_1 : Cond.classLink RL 24 "java/lang/IndexOutOfBoundsException" ∈ wsL_envies := List.mem_of_getElem? (i := 1) (by decide +kernel)
set_option maxHeartbeats 4000000 in
set_option maxRecDepth 100000 in
theorem w_envies (l : Launch) (hfl : l.stackTraces = false) (D : va_G) (tE : Nat) (sz : Nat) (h0 : Nat) (h1 : Nat) (h2 : Nat) (h3 : Nat) (h4 : Nat) (a1 : Nat) (a2 : Nat) (w1 : Nat) (w2 : Nat) (w3 : Nat) (w4 : Nat) (w5 : Nat) (np : Int32) (o1 : Nat) (cJ : ClassId) (fo : Nat → Int64) (p0 : Int32) (p1 : Int32) (A : Nat → Prop) (hA0 : A = va_A [(h0, .inr (11, [.ref h1, .ref h2, .ref h3, .ref h4, .ref a1, .ref a2, .int 0])), (h1, .inr (8, [.int 0, .int np, .ref w1, .ref w2, .ref w3, .ref w4, .ref w5])), (o1, .inl (cJ, 1, .inr (.inl (fo))))] sz) : Met l yL_envies wsL_envies (yR 2 1 6) (yP D tE [(h0, .inr (11, [.ref h1, .ref h2, .ref h3, .ref h4, .ref a1, .ref a2, .int 0])), (h1, .inr (8, [.int 0, .int np, .ref w1, .ref w2, .ref w3, .ref w4, .ref w5])), (o1, .inl (cJ, 1, .inr (.inl (fo))))] [(cJ, .long)] sz [.ref h0, .int p0, .int p1, .ref o1]) (va_Qi (S := Unit) (fun (r : Int32) (u : Unit) => r = 1) (fun (u : Unit) (t : State) => yB D A ((fun (u : Unit) => [(o1, .inl (cJ, 1, .inr (.inl (fo))))]) u) t) A) 1 6 A := by
  refine va_MetW (cc := cL_envies) (maxL := 5) (ret := (some .int)) (hh := [(0, 17, 20, 24)]) (by decide) rfl ?_
  intro p e s m args below meth c s₁ B hml hv
  obtain ⟨rfl, rfl, hP, hK, hD, hE, hA⟩ := y_start hA0 hv
  have hx := B.exec
  have hb := B.bytes
  have hr := B.returns
  have hts := atoms_spec (ws := wsL_envies) B.pre
  have hown : s.vm.findClass RL = some m.cls := findClass_of_methodNamed B.named
  have hlocks := B.notSynchronized
  have htab : c.exceptionTable.toList = tableOf [(0, 17, 20, 24)] := vx_table (x := yL_envies) (y := yL_envies) (bytes := cL_envies) (maxL' := 5) (ret' := (some .int)) (hh := [(0, 17, 20, 24)]) B (hts _ ktL_envies)
  clear hA0 hv
  have hS : va_S A s.heap s.heap [] := va_S.rf
  have hl := lv_entry ([.ref h0, .int p0, .int p1, .ref o1]) (n := 5) (Nat.le_of_ble_eq_true rfl)
  rw [lg_entry_eq]
  generalize (lg_sl ([.ref h0, .int p0, .int p1, .ref o1]) ++ List.replicate (5 - (lg_sl ([.ref h0, .int p0, .int p1, .ref o1])).length) Slot.unset).toArray = ls at hl ⊢
  have hl : lv_has ls 5 [(0, .ref h0), (1, .int p0), (2, .int p1), (3, .ref o1)] := hl
  refine lv_aload_n hx hb dL_envies_0 rfl (lv_at hl 3 rfl) ?_
  refine lv_iconst (v := (0)) hx hb dL_envies_1 (by decide) ?_
  refine lv_aload_n hx hb dL_envies_2 rfl (lv_at hl 0 rfl) ?_
  refine lv_iload_n hx hb dL_envies_3 rfl (lv_at hl 1 rfl) ?_
  refine lv_iload_n hx hb dL_envies_4 rfl (lv_at hl 2 rfl) ?_
  refine yx_i (wc := [(h0, .inr (11, [.ref h1, .ref h2, .ref h3, .ref h4, .ref a1, .ref a2, .int 0])), (h1, .inr (8, [.int 0, .int np, .ref w1, .ref w2, .ref w3, .ref w4, .ref w5]))]) (wr := [(o1, .inl (cJ, 1, .inr (.inl (fo))))]) (vx_runV (As := [.int p0, .int p1]) (rest := [.int 0, .ref o1]) ⟨hx, hb, hml, hown, hts⟩ (f_envies l hfl D tE s.heap.size h0 h1 h2 h3 h4 a1 a2 w1 w2 w3 w4 w5 np p0 p1 (va_A [(h0, .inr (11, [.ref h1, .ref h2, .ref h3, .ref h4, .ref a1, .ref a2, .int 0])), (h1, .inr (8, [.int 0, .int np, .ref w1, .ref w2, .ref w3, .ref w4, .ref w5]))] s.heap.size) rfl) (cwV 2 hts gL_envies_X5_envies rfl rfl rfl (by decide +kernel) ⟨Nat.le_of_ble_eq_true rfl, Nat.le_of_ble_eq_true rfl⟩) (yPreV (wc := [(h0, .inr (11, [.ref h1, .ref h2, .ref h3, .ref h4, .ref a1, .ref a2, .int 0])), (h1, .inr (8, [.int 0, .int np, .ref w1, .ref w2, .ref w3, .ref w4, .ref w5]))]) (tc := []) hK hP hD hS hA hE [0, 1] [] (by decide) rfl rfl (ci := 11) (q0 := 0) (q := (RX5, TX5, 7)) rfl rfl) rfl rfl hl.1 rfl (lv_room (Nat.le_of_ble_eq_true rfl)) dL_envies_5 ⟨Nat.le_of_ble_eq_true rfl, Nat.le_of_ble_eq_true rfl⟩) hP hD hS hA [0, 1] [2] rfl rfl (by decide) (by decide) (fun E ce q9 H locs hpx hP hD hS g1 g2 g3 => ?_) (fun r_1 u_2 H locs hw hP hD hS => ?_)
  · have hP : va_P D vwCl [(o1, .inl (cJ, 1, .inr (.inl (fo))))] H := hP
    have hD : va_D A [(o1, .inl (cJ, 1, .inr (.inl (fo))))] := hD
    have hpx : E = "java/lang/IndexOutOfBoundsException" := hpx
    subst hpx
    refine vx_catch (E := "java/lang/IndexOutOfBoundsException") (name := "java/lang/IndexOutOfBoundsException") hown [] (⟨0, 17, 20, 24⟩ : ExceptionTableEntry) [] (by rw [htab]; rfl) (fun z hz => nomatch hz) (by decide) (by decide) (hts _ kL_envies_1) (va_Nw.use rfl (hE.2.1 _ (by decide))) g1 g2 g3 ?_
    refine lv_astore (lv' := [(4, .ref q9), (0, .ref h0), (1, .int p0), (2, .int p1), (3, .ref o1)]) hx hb dL_envies_20 hl (by decide) rfl (fun ls hl => ?_)
    refine lv_iconst (v := (1)) hx hb dL_envies_22 (by decide) ?_
    exact y_iret hx hb hr hlocks () rfl hP hD hS (Nat.le_of_ble_eq_true rfl) (Nat.le_of_ble_eq_true rfl) dL_envies_23
  · have hP : va_P D vwCl [(o1, .inl (cJ, 1, .inr (.inl (fo)))), (h0, .inr (11, [.ref h1, .ref h2, .ref h3, .ref h4, .ref a1, .ref a2, .int 0])), (h1, .inr (8, [.int 0, .int np, .ref w1, .ref w2, .ref w3, .ref w4, .ref w5]))] H := hP
    have hD : va_D A [(o1, .inl (cJ, 1, .inr (.inl (fo)))), (h0, .inr (11, [.ref h1, .ref h2, .ref h3, .ref h4, .ref a1, .ref a2, .int 0])), (h1, .inr (8, [.int 0, .int np, .ref w1, .ref w2, .ref w3, .ref w4, .ref w5]))] := hD
    have hw : False := hw
    exact hw.elim
theorem ktL_setPlaces : Cond.codeWith yL_setPlaces cL_setPlaces 5 (some .int) [(0, 10, 13, 24), (0, 10, 17, 13), (0, 10, 21, 29)] ∈ wsL_setPlaces := by unfold wsL_setPlaces; exact List.mem_cons_self
theorem kL_setPlaces_1 : Cond.classLink RL 24 "java/lang/IndexOutOfBoundsException" ∈ wsL_setPlaces := List.mem_of_getElem? (i := 1) (by decide +kernel)
set_option maxHeartbeats 4000000 in
set_option maxRecDepth 100000 in
theorem w_setPlaces (l : Launch) (hfl : l.stackTraces = false) (D : va_G) (tE : Nat) (sz : Nat) (h0 : Nat) (h1 : Nat) (h2 : Nat) (h3 : Nat) (h4 : Nat) (a1 : Nat) (a2 : Nat) (w1 : Nat) (w2 : Nat) (w3 : Nat) (w4 : Nat) (w5 : Nat) (o1 : Nat) (cJ : ClassId) (fo : Nat → Int64) (p0 : Int32) (p1 : Int32) (A : Nat → Prop) (hA0 : A = va_A [(h0, .inr (11, [.ref h1, .ref h2, .ref h3, .ref h4, .ref a1, .ref a2, .int 0])), (h1, .inr (8, [.int 0, .int 0, .ref w1, .ref w2, .ref w3, .ref w4, .ref w5])), (o1, .inl (cJ, 1, .inr (.inl (fo))))] sz) : Met l yL_setPlaces wsL_setPlaces (yR 2 1 6) (yP D tE [(h0, .inr (11, [.ref h1, .ref h2, .ref h3, .ref h4, .ref a1, .ref a2, .int 0])), (h1, .inr (8, [.int 0, .int 0, .ref w1, .ref w2, .ref w3, .ref w4, .ref w5])), (o1, .inl (cJ, 1, .inr (.inl (fo))))] [(cJ, .long)] sz [.ref h0, .int p0, .int p1, .ref o1]) (va_Qi (S := Unit) (fun (r : Int32) (u : Unit) => r = 1) (fun (u : Unit) (t : State) => yB D A ((fun (u : Unit) => [(o1, .inl (cJ, 1, .inr (.inl (fo))))]) u) t) A) 1 6 A := by
  refine va_MetW (cc := cL_setPlaces) (maxL := 5) (ret := (some .int)) (hh := [(0, 10, 13, 24), (0, 10, 17, 13), (0, 10, 21, 29)]) (by decide) rfl ?_
  intro p e s m args below meth c s₁ B hml hv
  obtain ⟨rfl, rfl, hP, hK, hD, hE, hA⟩ := y_start hA0 hv
  have hx := B.exec
  have hb := B.bytes
  have hr := B.returns
  have hts := atoms_spec (ws := wsL_setPlaces) B.pre
  have hown : s.vm.findClass RL = some m.cls := findClass_of_methodNamed B.named
  have hlocks := B.notSynchronized
  have htab : c.exceptionTable.toList = tableOf [(0, 10, 13, 24), (0, 10, 17, 13), (0, 10, 21, 29)] := vx_table (x := yL_setPlaces) (y := yL_setPlaces) (bytes := cL_setPlaces) (maxL' := 5) (ret' := (some .int)) (hh := [(0, 10, 13, 24), (0, 10, 17, 13), (0, 10, 21, 29)]) B (hts _ ktL_setPlaces)
  clear hA0 hv
  have hS : va_S A s.heap s.heap [] := va_S.rf
  have hl := lv_entry ([.ref h0, .int p0, .int p1, .ref o1]) (n := 5) (Nat.le_of_ble_eq_true rfl)
  rw [lg_entry_eq]
  generalize (lg_sl ([.ref h0, .int p0, .int p1, .ref o1]) ++ List.replicate (5 - (lg_sl ([.ref h0, .int p0, .int p1, .ref o1])).length) Slot.unset).toArray = ls at hl ⊢
  have hl : lv_has ls 5 [(0, .ref h0), (1, .int p0), (2, .int p1), (3, .ref o1)] := hl
  refine lv_aload_n hx hb dL_setPlaces_0 rfl (lv_at hl 3 rfl) ?_
  refine lv_iconst (v := (0)) hx hb dL_setPlaces_1 (by decide) ?_
  refine lv_aload_n hx hb dL_setPlaces_2 rfl (lv_at hl 0 rfl) ?_
  refine lv_iload_n hx hb dL_setPlaces_3 rfl (lv_at hl 1 rfl) ?_
  refine lv_iload_n hx hb dL_setPlaces_4 rfl (lv_at hl 2 rfl) ?_
  refine yx_i (wc := [(h0, .inr (11, [.ref h1, .ref h2, .ref h3, .ref h4, .ref a1, .ref a2, .int 0])), (h1, .inr (8, [.int 0, .int 0, .ref w1, .ref w2, .ref w3, .ref w4, .ref w5]))]) (wr := [(o1, .inl (cJ, 1, .inr (.inl (fo))))]) (vx_runV (As := [.int p0, .int p1]) (rest := [.int 0, .ref o1]) ⟨hx, hb, hml, hown, hts⟩ (f_setPlaces l hfl D tE s.heap.size h0 h1 h2 h3 h4 a1 a2 w1 w2 w3 w4 w5 p0 p1 (va_A [(h0, .inr (11, [.ref h1, .ref h2, .ref h3, .ref h4, .ref a1, .ref a2, .int 0])), (h1, .inr (8, [.int 0, .int 0, .ref w1, .ref w2, .ref w3, .ref w4, .ref w5]))] s.heap.size) rfl) (cwV 2 hts gL_setPlaces_X5_setPlaces rfl rfl rfl (by decide +kernel) ⟨Nat.le_of_ble_eq_true rfl, Nat.le_of_ble_eq_true rfl⟩) (yPreV (wc := [(h0, .inr (11, [.ref h1, .ref h2, .ref h3, .ref h4, .ref a1, .ref a2, .int 0])), (h1, .inr (8, [.int 0, .int 0, .ref w1, .ref w2, .ref w3, .ref w4, .ref w5]))]) (tc := []) hK hP hD hS hA hE [0, 1] [] (by decide) rfl rfl (ci := 11) (q0 := 0) (q := (RX5, TX5, 7)) rfl rfl) rfl rfl hl.1 rfl (lv_room (Nat.le_of_ble_eq_true rfl)) dL_setPlaces_5 ⟨Nat.le_of_ble_eq_true rfl, Nat.le_of_ble_eq_true rfl⟩) hP hD hS hA [0, 1] [2] rfl rfl (by decide) (by decide) (fun E ce q9 H locs hpx hP hD hS g1 g2 g3 => ?_) (fun r_1 u_2 H locs hw hP hD hS => ?_)
  · have hP : va_P D vwCl [(o1, .inl (cJ, 1, .inr (.inl (fo))))] H := hP
    have hD : va_D A [(o1, .inl (cJ, 1, .inr (.inl (fo))))] := hD
    have hpx : E = "java/lang/IndexOutOfBoundsException" := hpx
    subst hpx
    refine vx_catch (E := "java/lang/IndexOutOfBoundsException") (name := "java/lang/IndexOutOfBoundsException") hown [] (⟨0, 10, 13, 24⟩ : ExceptionTableEntry) [(⟨0, 10, 17, 13⟩ : ExceptionTableEntry), (⟨0, 10, 21, 29⟩ : ExceptionTableEntry)] (by rw [htab]; rfl) (fun z hz => nomatch hz) (by decide) (by decide) (hts _ kL_setPlaces_1) (va_Nw.use rfl (hE.2.1 _ (by decide))) g1 g2 g3 ?_
    refine lv_astore (lv' := [(4, .ref q9), (0, .ref h0), (1, .int p0), (2, .int p1), (3, .ref o1)]) hx hb dL_setPlaces_13 hl (by decide) rfl (fun ls hl => ?_)
    refine lv_iconst (v := (1)) hx hb dL_setPlaces_15 (by decide) ?_
    exact y_iret hx hb hr hlocks () rfl hP hD hS (Nat.le_of_ble_eq_true rfl) (Nat.le_of_ble_eq_true rfl) dL_setPlaces_16
  · have hP : va_P D vwCl [(o1, .inl (cJ, 1, .inr (.inl (fo)))), (h0, .inr (11, [.ref h1, .ref h2, .ref h3, .ref h4, .ref a1, .ref a2, .int 0])), (h1, .inr (8, [.int 0, .int 0, .ref w1, .ref w2, .ref w3, .ref w4, .ref w5]))] H := hP
    have hD : va_D A [(o1, .inl (cJ, 1, .inr (.inl (fo)))), (h0, .inr (11, [.ref h1, .ref h2, .ref h3, .ref h4, .ref a1, .ref a2, .int 0])), (h1, .inr (8, [.int 0, .int 0, .ref w1, .ref w2, .ref w3, .ref w4, .ref w5]))] := hD
    have hw : False := hw
    exact hw.elim
theorem ktL_freeOf : Cond.codeWith yL_freeOf cL_freeOf 4 (some .int) [(0, 9, 12, 24)] ∈ wsL_freeOf := by unfold wsL_freeOf; exact List.mem_cons_self
theorem kL_freeOf_1 : Cond.classLink RL 24 "java/lang/IndexOutOfBoundsException" ∈ wsL_freeOf := List.mem_of_getElem? (i := 1) (by decide +kernel)
set_option maxHeartbeats 4000000 in
set_option maxRecDepth 100000 in
theorem w_freeOf (l : Launch) (hfl : l.stackTraces = false) (D : va_G) (tE : Nat) (sz : Nat) (h0 : Nat) (h1 : Nat) (h2 : Nat) (h3 : Nat) (h4 : Nat) (a1 : Nat) (a2 : Nat) (w1 : Nat) (w2 : Nat) (w3 : Nat) (w4 : Nat) (w5 : Nat) (o1 : Nat) (cJ : ClassId) (fo : Nat → Int64) (p0 : Int32) (A : Nat → Prop) (hA0 : A = va_A [(h0, .inr (11, [.ref h1, .ref h2, .ref h3, .ref h4, .ref a1, .ref a2, .int 0])), (h1, .inr (8, [.int 0, .int 0, .ref w1, .ref w2, .ref w3, .ref w4, .ref w5])), (o1, .inl (cJ, 1, .inr (.inl (fo))))] sz) : Met l yL_freeOf wsL_freeOf (yR 2 1 6) (yP D tE [(h0, .inr (11, [.ref h1, .ref h2, .ref h3, .ref h4, .ref a1, .ref a2, .int 0])), (h1, .inr (8, [.int 0, .int 0, .ref w1, .ref w2, .ref w3, .ref w4, .ref w5])), (o1, .inl (cJ, 1, .inr (.inl (fo))))] [(cJ, .long)] sz [.ref h0, .int p0, .ref o1]) (va_Qi (S := Unit) (fun (r : Int32) (u : Unit) => r = 1) (fun (u : Unit) (t : State) => yB D A ((fun (u : Unit) => [(o1, .inl (cJ, 1, .inr (.inl (fo))))]) u) t) A) 1 6 A := by
  refine va_MetW (cc := cL_freeOf) (maxL := 4) (ret := (some .int)) (hh := [(0, 9, 12, 24)]) (by decide) rfl ?_
  intro p e s m args below meth c s₁ B hml hv
  obtain ⟨rfl, rfl, hP, hK, hD, hE, hA⟩ := y_start hA0 hv
  have hx := B.exec
  have hb := B.bytes
  have hr := B.returns
  have hts := atoms_spec (ws := wsL_freeOf) B.pre
  have hown : s.vm.findClass RL = some m.cls := findClass_of_methodNamed B.named
  have hlocks := B.notSynchronized
  have htab : c.exceptionTable.toList = tableOf [(0, 9, 12, 24)] := vx_table (x := yL_freeOf) (y := yL_freeOf) (bytes := cL_freeOf) (maxL' := 4) (ret' := (some .int)) (hh := [(0, 9, 12, 24)]) B (hts _ ktL_freeOf)
  clear hA0 hv
  have hS : va_S A s.heap s.heap [] := va_S.rf
  have hl := lv_entry ([.ref h0, .int p0, .ref o1]) (n := 4) (Nat.le_of_ble_eq_true rfl)
  rw [lg_entry_eq]
  generalize (lg_sl ([.ref h0, .int p0, .ref o1]) ++ List.replicate (4 - (lg_sl ([.ref h0, .int p0, .ref o1])).length) Slot.unset).toArray = ls at hl ⊢
  have hl : lv_has ls 4 [(0, .ref h0), (1, .int p0), (2, .ref o1)] := hl
  refine lv_aload_n hx hb dL_freeOf_0 rfl (lv_at hl 2 rfl) ?_
  refine lv_iconst (v := (0)) hx hb dL_freeOf_1 (by decide) ?_
  refine lv_aload_n hx hb dL_freeOf_2 rfl (lv_at hl 0 rfl) ?_
  refine lv_iload_n hx hb dL_freeOf_3 rfl (lv_at hl 1 rfl) ?_
  refine yx_i (wc := [(h0, .inr (11, [.ref h1, .ref h2, .ref h3, .ref h4, .ref a1, .ref a2, .int 0])), (h1, .inr (8, [.int 0, .int 0, .ref w1, .ref w2, .ref w3, .ref w4, .ref w5]))]) (wr := [(o1, .inl (cJ, 1, .inr (.inl (fo))))]) (vx_runV (As := [.int p0]) (rest := [.int 0, .ref o1]) ⟨hx, hb, hml, hown, hts⟩ (f_freeOf l hfl D tE s.heap.size h0 h1 h2 h3 h4 a1 a2 w1 w2 w3 w4 w5 p0 (va_A [(h0, .inr (11, [.ref h1, .ref h2, .ref h3, .ref h4, .ref a1, .ref a2, .int 0])), (h1, .inr (8, [.int 0, .int 0, .ref w1, .ref w2, .ref w3, .ref w4, .ref w5]))] s.heap.size) rfl) (cwV 1 hts gL_freeOf_X5_freeOf rfl rfl rfl (by decide +kernel) ⟨Nat.le_of_ble_eq_true rfl, Nat.le_of_ble_eq_true rfl⟩) (yPreV (wc := [(h0, .inr (11, [.ref h1, .ref h2, .ref h3, .ref h4, .ref a1, .ref a2, .int 0])), (h1, .inr (8, [.int 0, .int 0, .ref w1, .ref w2, .ref w3, .ref w4, .ref w5]))]) (tc := []) hK hP hD hS hA hE [0, 1] [] (by decide) rfl rfl (ci := 11) (q0 := 0) (q := (RX5, TX5, 7)) rfl rfl) rfl rfl hl.1 rfl (lv_room (Nat.le_of_ble_eq_true rfl)) dL_freeOf_4 ⟨Nat.le_of_ble_eq_true rfl, Nat.le_of_ble_eq_true rfl⟩) hP hD hS hA [0, 1] [2] rfl rfl (by decide) (by decide) (fun E ce q9 H locs hpx hP hD hS g1 g2 g3 => ?_) (fun r_1 u_2 H locs hw hP hD hS => ?_)
  · have hP : va_P D vwCl [(o1, .inl (cJ, 1, .inr (.inl (fo))))] H := hP
    have hD : va_D A [(o1, .inl (cJ, 1, .inr (.inl (fo))))] := hD
    have hpx : E = "java/lang/IndexOutOfBoundsException" := hpx
    subst hpx
    refine vx_catch (E := "java/lang/IndexOutOfBoundsException") (name := "java/lang/IndexOutOfBoundsException") hown [] (⟨0, 9, 12, 24⟩ : ExceptionTableEntry) [] (by rw [htab]; rfl) (fun z hz => nomatch hz) (by decide) (by decide) (hts _ kL_freeOf_1) (va_Nw.use rfl (hE.2.1 _ (by decide))) g1 g2 g3 ?_
    refine lv_astore_n (lv' := [(3, .ref q9), (0, .ref h0), (1, .int p0), (2, .ref o1)]) hx hb dL_freeOf_12 rfl hl (by decide) rfl (fun ls hl => ?_)
    refine lv_iconst (v := (1)) hx hb dL_freeOf_13 (by decide) ?_
    exact y_iret hx hb hr hlocks () rfl hP hD hS (Nat.le_of_ble_eq_true rfl) (Nat.le_of_ble_eq_true rfl) dL_freeOf_14
  · have hP : va_P D vwCl [(o1, .inl (cJ, 1, .inr (.inl (fo)))), (h0, .inr (11, [.ref h1, .ref h2, .ref h3, .ref h4, .ref a1, .ref a2, .int 0])), (h1, .inr (8, [.int 0, .int 0, .ref w1, .ref w2, .ref w3, .ref w4, .ref w5]))] H := hP
    have hD : va_D A [(o1, .inl (cJ, 1, .inr (.inl (fo)))), (h0, .inr (11, [.ref h1, .ref h2, .ref h3, .ref h4, .ref a1, .ref a2, .int 0])), (h1, .inr (8, [.int 0, .int 0, .ref w1, .ref w2, .ref w3, .ref w4, .ref w5]))] := hD
    have hw : False := hw
    exact hw.elim
theorem ktL_take : Cond.codeWith yL_take cL_take 4 (some .int) [(0, 9, 12, 24), (0, 9, 15, 29)] ∈ wsL_take := by unfold wsL_take; exact List.mem_cons_self
theorem kL_take_1 : Cond.classLink RL 24 "java/lang/IndexOutOfBoundsException" ∈ wsL_take := List.mem_of_getElem? (i := 1) (by decide +kernel)
set_option maxHeartbeats 4000000 in
set_option maxRecDepth 100000 in
theorem w_take (l : Launch) (hfl : l.stackTraces = false) (D : va_G) (tE : Nat) (sz : Nat) (h0 : Nat) (h1 : Nat) (h2 : Nat) (h3 : Nat) (h4 : Nat) (a1 : Nat) (a2 : Nat) (o1 : Nat) (cJ : ClassId) (fo : Nat → Int64) (p0 : Int32) (A : Nat → Prop) (hA0 : A = va_A [(h0, .inr (11, [.ref h1, .ref h2, .ref h3, .ref h4, .ref a1, .ref a2, .int 0])), (o1, .inl (cJ, 1, .inr (.inl (fo))))] sz) : Met l yL_take wsL_take (yR 2 1 6) (yP D tE [(h0, .inr (11, [.ref h1, .ref h2, .ref h3, .ref h4, .ref a1, .ref a2, .int 0])), (o1, .inl (cJ, 1, .inr (.inl (fo))))] [(cJ, .long)] sz [.ref h0, .int p0, .ref o1]) (va_Qi (S := Unit) (fun (r : Int32) (u : Unit) => r = 1) (fun (u : Unit) (t : State) => yB D A ((fun (u : Unit) => [(o1, .inl (cJ, 1, .inr (.inl (fo))))]) u) t) A) 1 6 A := by
  refine va_MetW (cc := cL_take) (maxL := 4) (ret := (some .int)) (hh := [(0, 9, 12, 24), (0, 9, 15, 29)]) (by decide) rfl ?_
  intro p e s m args below meth c s₁ B hml hv
  obtain ⟨rfl, rfl, hP, hK, hD, hE, hA⟩ := y_start hA0 hv
  have hx := B.exec
  have hb := B.bytes
  have hr := B.returns
  have hts := atoms_spec (ws := wsL_take) B.pre
  have hown : s.vm.findClass RL = some m.cls := findClass_of_methodNamed B.named
  have hlocks := B.notSynchronized
  have htab : c.exceptionTable.toList = tableOf [(0, 9, 12, 24), (0, 9, 15, 29)] := vx_table (x := yL_take) (y := yL_take) (bytes := cL_take) (maxL' := 4) (ret' := (some .int)) (hh := [(0, 9, 12, 24), (0, 9, 15, 29)]) B (hts _ ktL_take)
  clear hA0 hv
  have hS : va_S A s.heap s.heap [] := va_S.rf
  have hl := lv_entry ([.ref h0, .int p0, .ref o1]) (n := 4) (Nat.le_of_ble_eq_true rfl)
  rw [lg_entry_eq]
  generalize (lg_sl ([.ref h0, .int p0, .ref o1]) ++ List.replicate (4 - (lg_sl ([.ref h0, .int p0, .ref o1])).length) Slot.unset).toArray = ls at hl ⊢
  have hl : lv_has ls 4 [(0, .ref h0), (1, .int p0), (2, .ref o1)] := hl
  refine lv_aload_n hx hb dL_take_0 rfl (lv_at hl 2 rfl) ?_
  refine lv_iconst (v := (0)) hx hb dL_take_1 (by decide) ?_
  refine lv_aload_n hx hb dL_take_2 rfl (lv_at hl 0 rfl) ?_
  refine lv_iload_n hx hb dL_take_3 rfl (lv_at hl 1 rfl) ?_
  refine yx_i (wc := [(h0, .inr (11, [.ref h1, .ref h2, .ref h3, .ref h4, .ref a1, .ref a2, .int 0]))]) (wr := [(o1, .inl (cJ, 1, .inr (.inl (fo))))]) (vx_runV (As := [.int p0]) (rest := [.int 0, .ref o1]) ⟨hx, hb, hml, hown, hts⟩ (f_take l hfl D tE s.heap.size h0 h1 h2 h3 h4 a1 a2 p0 (va_A [(h0, .inr (11, [.ref h1, .ref h2, .ref h3, .ref h4, .ref a1, .ref a2, .int 0]))] s.heap.size) rfl) (cwV 1 hts gL_take_X5_take rfl rfl rfl (by decide +kernel) ⟨Nat.le_of_ble_eq_true rfl, Nat.le_of_ble_eq_true rfl⟩) (yPreV (wc := [(h0, .inr (11, [.ref h1, .ref h2, .ref h3, .ref h4, .ref a1, .ref a2, .int 0]))]) (tc := []) hK hP hD hS hA hE [0] [] (by decide) rfl rfl (ci := 11) (q0 := 0) (q := (RX5, TX5, 7)) rfl rfl) rfl rfl hl.1 rfl (lv_room (Nat.le_of_ble_eq_true rfl)) dL_take_4 ⟨Nat.le_of_ble_eq_true rfl, Nat.le_of_ble_eq_true rfl⟩) hP hD hS hA [0] [1] rfl rfl (by decide) (by decide) (fun E ce q9 H locs hpx hP hD hS g1 g2 g3 => ?_) (fun r_1 u_2 H locs hw hP hD hS => ?_)
  · have hP : va_P D vwCl [(o1, .inl (cJ, 1, .inr (.inl (fo))))] H := hP
    have hD : va_D A [(o1, .inl (cJ, 1, .inr (.inl (fo))))] := hD
    have hpx : E = "java/lang/IndexOutOfBoundsException" := hpx
    subst hpx
    refine vx_catch (E := "java/lang/IndexOutOfBoundsException") (name := "java/lang/IndexOutOfBoundsException") hown [] (⟨0, 9, 12, 24⟩ : ExceptionTableEntry) [(⟨0, 9, 15, 29⟩ : ExceptionTableEntry)] (by rw [htab]; rfl) (fun z hz => nomatch hz) (by decide) (by decide) (hts _ kL_take_1) (va_Nw.use rfl (hE.2.1 _ (by decide))) g1 g2 g3 ?_
    refine lv_astore_n (lv' := [(3, .ref q9), (0, .ref h0), (1, .int p0), (2, .ref o1)]) hx hb dL_take_12 rfl hl (by decide) rfl (fun ls hl => ?_)
    refine lv_iconst (v := (1)) hx hb dL_take_13 (by decide) ?_
    exact y_iret hx hb hr hlocks () rfl hP hD hS (Nat.le_of_ble_eq_true rfl) (Nat.le_of_ble_eq_true rfl) dL_take_14
  · have hP : va_P D vwCl [(o1, .inl (cJ, 1, .inr (.inl (fo)))), (h0, .inr (11, [.ref h1, .ref h2, .ref h3, .ref h4, .ref a1, .ref a2, .int 0]))] H := hP
    have hD : va_D A [(o1, .inl (cJ, 1, .inr (.inl (fo)))), (h0, .inr (11, [.ref h1, .ref h2, .ref h3, .ref h4, .ref a1, .ref a2, .int 0]))] := hD
    have hw : False := hw
    exact hw.elim
theorem ktL_keptPost : Cond.codeWith yL_keptPost cL_keptPost 5 (some .int) [(0, 10, 13, 24)] ∈ wsL_keptPost := by unfold wsL_keptPost; exact List.mem_cons_self
theorem kL_keptPost_1 : Cond.classLink RL 24 "java/lang/IndexOutOfBoundsException" ∈ wsL_keptPost := List.mem_of_getElem? (i := 1) (by decide +kernel)
set_option maxHeartbeats 4000000 in
set_option maxRecDepth 100000 in
theorem w_keptPost (l : Launch) (hfl : l.stackTraces = false) (D : va_G) (tE : Nat) (sz : Nat) (h0 : Nat) (h1 : Nat) (h2 : Nat) (h3 : Nat) (h4 : Nat) (a1 : Nat) (a2 : Nat) (o1 : Nat) (cJ : ClassId) (fo : Nat → Int64) (p0 : Int32) (p1 : Int32) (A : Nat → Prop) (hA0 : A = va_A [(h0, .inr (11, [.ref h1, .ref h2, .ref h3, .ref h4, .ref a1, .ref a2, .int 0])), (o1, .inl (cJ, 1, .inr (.inl (fo))))] sz) : Met l yL_keptPost wsL_keptPost (yR 2 1 6) (yP D tE [(h0, .inr (11, [.ref h1, .ref h2, .ref h3, .ref h4, .ref a1, .ref a2, .int 0])), (o1, .inl (cJ, 1, .inr (.inl (fo))))] [(cJ, .long)] sz [.ref h0, .int p0, .int p1, .ref o1]) (va_Qi (S := Unit) (fun (r : Int32) (u : Unit) => r = 1) (fun (u : Unit) (t : State) => yB D A ((fun (u : Unit) => [(o1, .inl (cJ, 1, .inr (.inl (fo))))]) u) t) A) 1 6 A := by
  refine va_MetW (cc := cL_keptPost) (maxL := 5) (ret := (some .int)) (hh := [(0, 10, 13, 24)]) (by decide) rfl ?_
  intro p e s m args below meth c s₁ B hml hv
  obtain ⟨rfl, rfl, hP, hK, hD, hE, hA⟩ := y_start hA0 hv
  have hx := B.exec
  have hb := B.bytes
  have hr := B.returns
  have hts := atoms_spec (ws := wsL_keptPost) B.pre
  have hown : s.vm.findClass RL = some m.cls := findClass_of_methodNamed B.named
  have hlocks := B.notSynchronized
  have htab : c.exceptionTable.toList = tableOf [(0, 10, 13, 24)] := vx_table (x := yL_keptPost) (y := yL_keptPost) (bytes := cL_keptPost) (maxL' := 5) (ret' := (some .int)) (hh := [(0, 10, 13, 24)]) B (hts _ ktL_keptPost)
  clear hA0 hv
  have hS : va_S A s.heap s.heap [] := va_S.rf
  have hl := lv_entry ([.ref h0, .int p0, .int p1, .ref o1]) (n := 5) (Nat.le_of_ble_eq_true rfl)
  rw [lg_entry_eq]
  generalize (lg_sl ([.ref h0, .int p0, .int p1, .ref o1]) ++ List.replicate (5 - (lg_sl ([.ref h0, .int p0, .int p1, .ref o1])).length) Slot.unset).toArray = ls at hl ⊢
  have hl : lv_has ls 5 [(0, .ref h0), (1, .int p0), (2, .int p1), (3, .ref o1)] := hl
  refine lv_aload_n hx hb dL_keptPost_0 rfl (lv_at hl 3 rfl) ?_
  refine lv_iconst (v := (0)) hx hb dL_keptPost_1 (by decide) ?_
  refine lv_aload_n hx hb dL_keptPost_2 rfl (lv_at hl 0 rfl) ?_
  refine lv_iload_n hx hb dL_keptPost_3 rfl (lv_at hl 1 rfl) ?_
  refine lv_iload_n hx hb dL_keptPost_4 rfl (lv_at hl 2 rfl) ?_
  refine yx_i (wc := [(h0, .inr (11, [.ref h1, .ref h2, .ref h3, .ref h4, .ref a1, .ref a2, .int 0]))]) (wr := [(o1, .inl (cJ, 1, .inr (.inl (fo))))]) (vx_runV (As := [.int p0, .int p1]) (rest := [.int 0, .ref o1]) ⟨hx, hb, hml, hown, hts⟩ (f_keptPost l hfl D tE s.heap.size h0 h1 h2 h3 h4 a1 a2 p0 p1 (va_A [(h0, .inr (11, [.ref h1, .ref h2, .ref h3, .ref h4, .ref a1, .ref a2, .int 0]))] s.heap.size) rfl) (cwV 2 hts gL_keptPost_X5_keptPost rfl rfl rfl (by decide +kernel) ⟨Nat.le_of_ble_eq_true rfl, Nat.le_of_ble_eq_true rfl⟩) (yPreV (wc := [(h0, .inr (11, [.ref h1, .ref h2, .ref h3, .ref h4, .ref a1, .ref a2, .int 0]))]) (tc := []) hK hP hD hS hA hE [0] [] (by decide) rfl rfl (ci := 11) (q0 := 0) (q := (RX5, TX5, 7)) rfl rfl) rfl rfl hl.1 rfl (lv_room (Nat.le_of_ble_eq_true rfl)) dL_keptPost_5 ⟨Nat.le_of_ble_eq_true rfl, Nat.le_of_ble_eq_true rfl⟩) hP hD hS hA [0] [1] rfl rfl (by decide) (by decide) (fun E ce q9 H locs hpx hP hD hS g1 g2 g3 => ?_) (fun r_1 u_2 H locs hw hP hD hS => ?_)
  · have hP : va_P D vwCl [(o1, .inl (cJ, 1, .inr (.inl (fo))))] H := hP
    have hD : va_D A [(o1, .inl (cJ, 1, .inr (.inl (fo))))] := hD
    have hpx : E = "java/lang/IndexOutOfBoundsException" := hpx
    subst hpx
    refine vx_catch (E := "java/lang/IndexOutOfBoundsException") (name := "java/lang/IndexOutOfBoundsException") hown [] (⟨0, 10, 13, 24⟩ : ExceptionTableEntry) [] (by rw [htab]; rfl) (fun z hz => nomatch hz) (by decide) (by decide) (hts _ kL_keptPost_1) (va_Nw.use rfl (hE.2.1 _ (by decide))) g1 g2 g3 ?_
    refine lv_astore (lv' := [(4, .ref q9), (0, .ref h0), (1, .int p0), (2, .int p1), (3, .ref o1)]) hx hb dL_keptPost_13 hl (by decide) rfl (fun ls hl => ?_)
    refine lv_iconst (v := (1)) hx hb dL_keptPost_15 (by decide) ?_
    exact y_iret hx hb hr hlocks () rfl hP hD hS (Nat.le_of_ble_eq_true rfl) (Nat.le_of_ble_eq_true rfl) dL_keptPost_16
  · have hP : va_P D vwCl [(o1, .inl (cJ, 1, .inr (.inl (fo)))), (h0, .inr (11, [.ref h1, .ref h2, .ref h3, .ref h4, .ref a1, .ref a2, .int 0]))] H := hP
    have hD : va_D A [(o1, .inl (cJ, 1, .inr (.inl (fo)))), (h0, .inr (11, [.ref h1, .ref h2, .ref h3, .ref h4, .ref a1, .ref a2, .int 0]))] := hD
    have hw : False := hw
    exact hw.elim
theorem ktL_leadLength : Cond.codeWith yL_leadLength cL_leadLength 5 (some .int) [(0, 10, 13, 24), (0, 10, 17, 52)] ∈ wsL_leadLength := by unfold wsL_leadLength; exact List.mem_cons_self
theorem kL_leadLength_1 : Cond.classLink RL 24 "java/lang/IndexOutOfBoundsException" ∈ wsL_leadLength := List.mem_of_getElem? (i := 1) (by decide +kernel)
set_option maxHeartbeats 4000000 in
set_option maxRecDepth 100000 in
theorem w_leadLength (l : Launch) (hfl : l.stackTraces = false) (D : va_G) (tE : Nat) (sz : Nat) (h0 : Nat) (h1 : Nat) (h2 : Nat) (h3 : Nat) (h4 : Nat) (a1 : Nat) (a2 : Nat) (o1 : Nat) (cJ : ClassId) (fo : Nat → Int64) (p0 : Int32) (p1 : Int32) (A : Nat → Prop) (hA0 : A = va_A [(h0, .inr (11, [.ref h1, .ref h2, .ref h3, .ref h4, .ref a1, .ref a2, .int 0])), (o1, .inl (cJ, 1, .inr (.inl (fo))))] sz) : Met l yL_leadLength wsL_leadLength (yR 2 1 6) (yP D tE [(h0, .inr (11, [.ref h1, .ref h2, .ref h3, .ref h4, .ref a1, .ref a2, .int 0])), (o1, .inl (cJ, 1, .inr (.inl (fo))))] [(cJ, .long)] sz [.ref h0, .int p0, .int p1, .ref o1]) (va_Qi (S := Unit) (fun (r : Int32) (u : Unit) => r = 1) (fun (u : Unit) (t : State) => yB D A ((fun (u : Unit) => [(o1, .inl (cJ, 1, .inr (.inl (fo))))]) u) t) A) 1 6 A := by
  refine va_MetW (cc := cL_leadLength) (maxL := 5) (ret := (some .int)) (hh := [(0, 10, 13, 24), (0, 10, 17, 52)]) (by decide) rfl ?_
  intro p e s m args below meth c s₁ B hml hv
  obtain ⟨rfl, rfl, hP, hK, hD, hE, hA⟩ := y_start hA0 hv
  have hx := B.exec
  have hb := B.bytes
  have hr := B.returns
  have hts := atoms_spec (ws := wsL_leadLength) B.pre
  have hown : s.vm.findClass RL = some m.cls := findClass_of_methodNamed B.named
  have hlocks := B.notSynchronized
  have htab : c.exceptionTable.toList = tableOf [(0, 10, 13, 24), (0, 10, 17, 52)] := vx_table (x := yL_leadLength) (y := yL_leadLength) (bytes := cL_leadLength) (maxL' := 5) (ret' := (some .int)) (hh := [(0, 10, 13, 24), (0, 10, 17, 52)]) B (hts _ ktL_leadLength)
  clear hA0 hv
  have hS : va_S A s.heap s.heap [] := va_S.rf
  have hl := lv_entry ([.ref h0, .int p0, .int p1, .ref o1]) (n := 5) (Nat.le_of_ble_eq_true rfl)
  rw [lg_entry_eq]
  generalize (lg_sl ([.ref h0, .int p0, .int p1, .ref o1]) ++ List.replicate (5 - (lg_sl ([.ref h0, .int p0, .int p1, .ref o1])).length) Slot.unset).toArray = ls at hl ⊢
  have hl : lv_has ls 5 [(0, .ref h0), (1, .int p0), (2, .int p1), (3, .ref o1)] := hl
  refine lv_aload_n hx hb dL_leadLength_0 rfl (lv_at hl 3 rfl) ?_
  refine lv_iconst (v := (0)) hx hb dL_leadLength_1 (by decide) ?_
  refine lv_aload_n hx hb dL_leadLength_2 rfl (lv_at hl 0 rfl) ?_
  refine lv_iload_n hx hb dL_leadLength_3 rfl (lv_at hl 1 rfl) ?_
  refine lv_iload_n hx hb dL_leadLength_4 rfl (lv_at hl 2 rfl) ?_
  refine yx_i (wc := [(h0, .inr (11, [.ref h1, .ref h2, .ref h3, .ref h4, .ref a1, .ref a2, .int 0]))]) (wr := [(o1, .inl (cJ, 1, .inr (.inl (fo))))]) (vx_runV (As := [.int p0, .int p1]) (rest := [.int 0, .ref o1]) ⟨hx, hb, hml, hown, hts⟩ (f_leadLength l hfl D tE s.heap.size h0 h1 h2 h3 h4 a1 a2 p0 p1 (va_A [(h0, .inr (11, [.ref h1, .ref h2, .ref h3, .ref h4, .ref a1, .ref a2, .int 0]))] s.heap.size) rfl) (cwV 2 hts gL_leadLength_X5_leadLength rfl rfl rfl (by decide +kernel) ⟨Nat.le_of_ble_eq_true rfl, Nat.le_of_ble_eq_true rfl⟩) (yPreV (wc := [(h0, .inr (11, [.ref h1, .ref h2, .ref h3, .ref h4, .ref a1, .ref a2, .int 0]))]) (tc := []) hK hP hD hS hA hE [0] [] (by decide) rfl rfl (ci := 11) (q0 := 0) (q := (RX5, TX5, 7)) rfl rfl) rfl rfl hl.1 rfl (lv_room (Nat.le_of_ble_eq_true rfl)) dL_leadLength_5 ⟨Nat.le_of_ble_eq_true rfl, Nat.le_of_ble_eq_true rfl⟩) hP hD hS hA [0] [1] rfl rfl (by decide) (by decide) (fun E ce q9 H locs hpx hP hD hS g1 g2 g3 => ?_) (fun r_1 u_2 H locs hw hP hD hS => ?_)
  · have hP : va_P D vwCl [(o1, .inl (cJ, 1, .inr (.inl (fo))))] H := hP
    have hD : va_D A [(o1, .inl (cJ, 1, .inr (.inl (fo))))] := hD
    have hpx : E = "java/lang/IndexOutOfBoundsException" := hpx
    subst hpx
    refine vx_catch (E := "java/lang/IndexOutOfBoundsException") (name := "java/lang/IndexOutOfBoundsException") hown [] (⟨0, 10, 13, 24⟩ : ExceptionTableEntry) [(⟨0, 10, 17, 52⟩ : ExceptionTableEntry)] (by rw [htab]; rfl) (fun z hz => nomatch hz) (by decide) (by decide) (hts _ kL_leadLength_1) (va_Nw.use rfl (hE.2.1 _ (by decide))) g1 g2 g3 ?_
    refine lv_astore (lv' := [(4, .ref q9), (0, .ref h0), (1, .int p0), (2, .int p1), (3, .ref o1)]) hx hb dL_leadLength_13 hl (by decide) rfl (fun ls hl => ?_)
    refine lv_iconst (v := (1)) hx hb dL_leadLength_15 (by decide) ?_
    exact y_iret hx hb hr hlocks () rfl hP hD hS (Nat.le_of_ble_eq_true rfl) (Nat.le_of_ble_eq_true rfl) dL_leadLength_16
  · have hP : va_P D vwCl [(o1, .inl (cJ, 1, .inr (.inl (fo)))), (h0, .inr (11, [.ref h1, .ref h2, .ref h3, .ref h4, .ref a1, .ref a2, .int 0]))] H := hP
    have hD : va_D A [(o1, .inl (cJ, 1, .inr (.inl (fo)))), (h0, .inr (11, [.ref h1, .ref h2, .ref h3, .ref h4, .ref a1, .ref a2, .int 0]))] := hD
    have hw : False := hw
    exact hw.elim
