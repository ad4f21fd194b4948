
set_option maxHeartbeats 4000000 in
set_option maxRecDepth 100000 in
theorem g_isIn (l : Launch) (hfl : l.stackTraces = false) (D : va_G) (tE : Nat) (sz : Nat) (v : Int32) (lo : Int32) (hi : Int32) (A : Nat → Prop) (hA0 : A = va_A [] sz) : Met l yX6_isIn wsX6_isIn (yR 0 0 0) (yP D tE [] [] sz [.int v, .int lo, .int hi]) (va_Qi (S := Unit) (fun (r : Int32) (u : Unit) => (r = 1 ∧ lo ≤ v ∧ v ≤ hi) ∨ (r = 0 ∧ (v < lo ∨ hi < v))) (fun (u : Unit) (t : State) => yB D A ((fun (u : Unit) => []) u) t) A) 0 0 A := by
  refine Met.ofW (cc := cX6_isIn) (maxL := 3) (ret := (some .boolean)) (by decide) rfl ?_
  intro p e s m args below meth c s₁ B hml hv
  obtain ⟨rfl, rfl, hP, hK, hD, hE, hA⟩ := y_start hA0 hv
  have hx := B.exec
  have hb := B.bytes
  have hr := B.returns
  have hts := atoms_spec (ws := wsX6_isIn) B.pre
  have hown : s.vm.findClass RX6 = some m.cls := findClass_of_methodNamed B.named
  have hlocks := B.notSynchronized
  clear hA0 hv
  have hS : va_S A s.heap s.heap [] := va_S.rf
  have hl := lv_entry ([.int v, .int lo, .int hi]) (n := 3) (Nat.le_of_ble_eq_true rfl)
  rw [lg_entry_eq]
  generalize (lg_sl ([.int v, .int lo, .int hi]) ++ List.replicate (3 - (lg_sl ([.int v, .int lo, .int hi])).length) Slot.unset).toArray = ls at hl ⊢
  have hl : lv_has ls 3 [(0, .int v), (1, .int lo), (2, .int hi)] := hl
  refine lv_iload_n hx hb dX6_isIn_0 rfl (lv_at hl 0 rfl) ?_
  refine lv_iload_n hx hb dX6_isIn_1 rfl (lv_at hl 1 rfl) ?_
  refine lv_icmp_lt (tgt := 14) hx hb dX6_isIn_2 (by decide) (fun c_1 => ?_) (fun c_1 => ?_)
  · refine lv_iconst (v := (0)) hx hb dX6_isIn_14 (by decide) ?_
    exact y_zret hx hb hr hlocks (by decide) () (Or.inr ⟨rfl, Or.inl c_1⟩) hP hD hS (Nat.le_of_ble_eq_true rfl) (Nat.le_of_ble_eq_true rfl) dX6_isIn_15
  · refine lv_iload_n hx hb dX6_isIn_5 rfl (lv_at hl 0 rfl) ?_
    refine lv_iload_n hx hb dX6_isIn_6 rfl (lv_at hl 2 rfl) ?_
    refine lv_icmp_gt (tgt := 14) hx hb dX6_isIn_7 (by decide) (fun c_2 => ?_) (fun c_2 => ?_)
    · refine lv_iconst (v := (0)) hx hb dX6_isIn_14 (by decide) ?_
      exact y_zret hx hb hr hlocks (by decide) () (Or.inr ⟨rfl, Or.inr c_2⟩) hP hD hS (Nat.le_of_ble_eq_true rfl) (Nat.le_of_ble_eq_true rfl) dX6_isIn_15
    · refine lv_iconst (v := (1)) hx hb dX6_isIn_10 (by decide) ?_
      refine lv_goto (tgt := 15) hx hb dX6_isIn_11 (by decide) ?_
      exact y_zret hx hb hr hlocks (by decide) () (Or.inl ⟨rfl, y_nlt c_1, y_nlt c_2⟩) hP hD hS (Nat.le_of_ble_eq_true rfl) (Nat.le_of_ble_eq_true rfl) dX6_isIn_15
theorem iX6_no_X6 : ∀ w ∈ wsX60, w ∈ wsX6_no := by decide +kernel
theorem kX6_no_1 : Cond.fieldLink RX6 44 "MostwellModel" "thrown" "I" ∈ wsX6_no := List.mem_of_getElem? (i := 1) (by decide +kernel)
set_option maxHeartbeats 4000000 in
set_option maxRecDepth 100000 in
theorem g_no0 (l : Launch) (hfl : l.stackTraces = false) (D : va_G) (tE : Nat) (sz : Nat) (m0 : Nat) (m1 : Nat) (m2 : Nat) (m3 : Nat) (m4 : Nat) (m5 : Nat) (m6 : Nat) (pe : Int32) (po : Int32) (th : Int32) (pl : Int32) (A : Nat → Prop) (hA0 : A = va_A [(m0, .inr (12, [.ref m1, .ref m2, .ref m3, .ref m4, .ref m5, .ref m6, .int pe, .int po, .int th]))] sz) : Met l yX6_no wsX6_no (yR 0 0 0) (yP D tE [(m0, .inr (12, [.ref m1, .ref m2, .ref m3, .ref m4, .ref m5, .ref m6, .int pe, .int po, .int th]))] [] sz [.ref m0, .int 0, .int pl]) (va_Qi (S := Unit) (fun (r : Int32) (u : Unit) => r = 1) (fun (u : Unit) (t : State) => yB D A ((fun (u : Unit) => [(m0, .inr (12, [.ref m1, .ref m2, .ref m3, .ref m4, .ref m5, .ref m6, .int pe, .int po, .int pl]))]) u) t) A) 0 0 A := by
  refine Met.ofW (cc := cX6_no) (maxL := 3) (ret := (some .boolean)) (by decide) rfl ?_
  intro p e s m args below meth c s₁ B hml hv
  obtain ⟨rfl, rfl, hP, hK, hD, hE, hA⟩ := y_start hA0 hv
  have hx := B.exec
  have hb := B.bytes
  have hr := B.returns
  have hts := atoms_spec (ws := wsX6_no) B.pre
  have hown : s.vm.findClass RX6 = some m.cls := findClass_of_methodNamed B.named
  have hlocks := B.notSynchronized
  clear hA0 hv
  have hS : va_S A s.heap s.heap [] := va_S.rf
  have hl := lv_entry ([.ref m0, .int 0, .int pl]) (n := 3) (Nat.le_of_ble_eq_true rfl)
  rw [lg_entry_eq]
  generalize (lg_sl ([.ref m0, .int 0, .int pl]) ++ List.replicate (3 - (lg_sl ([.ref m0, .int 0, .int pl])).length) Slot.unset).toArray = ls at hl ⊢
  have hl : lv_has ls 3 [(0, .ref m0), (1, .int 0), (2, .int pl)] := hl
  refine lv_aload_n hx hb dX6_no_0 rfl (lv_at hl 0 rfl) ?_
  refine lv_iload_n hx hb dX6_no_1 rfl (lv_at hl 1 rfl) ?_
  refine lv_if_eq (tgt := 9) hx hb dX6_no_2 (by decide) (fun _ => ?_) (fun h => absurd rfl h)
  refine lv_iload_n hx hb dX6_no_9 rfl (lv_at hl 2 rfl) ?_
  refine va_put (D := D) (ci := 12) (v := .int pl) (ty := .int) (C := RX6) (T := TX6) (N := 9) hx hb hts iX6_no_X6 tyX6 tyX6_ok nmX6 hown hK hP hD hS 0 rfl rfl 8 (by decide) (hts _ kX6_no_1) (fun _ h9 => h9) rfl (by decide +kernel) rfl rfl (Nat.le_of_ble_eq_true rfl) dX6_no_10 (fun H locs hP hD hS => ?_)
  have hP : va_P D vwCl [(m0, .inr (12, [.ref m1, .ref m2, .ref m3, .ref m4, .ref m5, .ref m6, .int pe, .int po, .int pl]))] H := hP
  have hD : va_D A [(m0, .inr (12, [.ref m1, .ref m2, .ref m3, .ref m4, .ref m5, .ref m6, .int pe, .int po, .int pl]))] := hD
  refine lv_iload_n hx hb dX6_no_13 rfl (lv_at hl 1 rfl) ?_
  refine lv_if_ne (tgt := 21) hx hb dX6_no_14 (by decide) (fun h => absurd rfl h) (fun _ => ?_)
  refine lv_iconst (v := (1)) hx hb dX6_no_17 (by decide) ?_
  refine lv_goto (tgt := 22) hx hb dX6_no_18 (by decide) ?_
  exact y_zret hx hb hr hlocks (by decide) () rfl hP hD hS (Nat.le_of_ble_eq_true rfl) (Nat.le_of_ble_eq_true rfl) dX6_no_22

set_option maxHeartbeats 4000000 in
set_option maxRecDepth 100000 in
theorem g_no1 (l : Launch) (hfl : l.stackTraces = false) (D : va_G) (tE : Nat) (sz : Nat) (m0 : Nat) (m1 : Nat) (m2 : Nat) (m3 : Nat) (m4 : Nat) (m5 : Nat) (m6 : Nat) (pe : Int32) (po : Int32) (th : Int32) (pl : Int32) (A : Nat → Prop) (hA0 : A = va_A [(m0, .inr (12, [.ref m1, .ref m2, .ref m3, .ref m4, .ref m5, .ref m6, .int pe, .int po, .int th]))] sz) : Met l yX6_no wsX6_no (yR 0 0 0) (yP D tE [(m0, .inr (12, [.ref m1, .ref m2, .ref m3, .ref m4, .ref m5, .ref m6, .int pe, .int po, .int th]))] [] sz [.ref m0, .int 1, .int pl]) (va_Qi (S := Unit) (fun (r : Int32) (u : Unit) => r = 0) (fun (u : Unit) (t : State) => yB D A ((fun (u : Unit) => [(m0, .inr (12, [.ref m1, .ref m2, .ref m3, .ref m4, .ref m5, .ref m6, .int pe, .int po, .int 0]))]) u) t) A) 0 0 A := by
  refine Met.ofW (cc := cX6_no) (maxL := 3) (ret := (some .boolean)) (by decide) rfl ?_
  intro p e s m args below meth c s₁ B hml hv
  obtain ⟨rfl, rfl, hP, hK, hD, hE, hA⟩ := y_start hA0 hv
  have hx := B.exec
  have hb := B.bytes
  have hr := B.returns
  have hts := atoms_spec (ws := wsX6_no) B.pre
  have hown : s.vm.findClass RX6 = some m.cls := findClass_of_methodNamed B.named
  have hlocks := B.notSynchronized
  clear hA0 hv
  have hS : va_S A s.heap s.heap [] := va_S.rf
  have hl := lv_entry ([.ref m0, .int 1, .int pl]) (n := 3) (Nat.le_of_ble_eq_true rfl)
  rw [lg_entry_eq]
  generalize (lg_sl ([.ref m0, .int 1, .int pl]) ++ List.replicate (3 - (lg_sl ([.ref m0, .int 1, .int pl])).length) Slot.unset).toArray = ls at hl ⊢
  have hl : lv_has ls 3 [(0, .ref m0), (1, .int 1), (2, .int pl)] := hl
  refine lv_aload_n hx hb dX6_no_0 rfl (lv_at hl 0 rfl) ?_
  refine lv_iload_n hx hb dX6_no_1 rfl (lv_at hl 1 rfl) ?_
  refine lv_if_eq (tgt := 9) hx hb dX6_no_2 (by decide) (fun h => absurd h (by decide)) (fun _ => ?_)
  refine lv_iconst (v := (0)) hx hb dX6_no_5 (by decide) ?_
  refine lv_goto (tgt := 10) hx hb dX6_no_6 (by decide) ?_
  refine va_put (D := D) (ci := 12) (v := .int 0) (ty := .int) (C := RX6) (T := TX6) (N := 9) hx hb hts iX6_no_X6 tyX6 tyX6_ok nmX6 hown hK hP hD hS 0 rfl rfl 8 (by decide) (hts _ kX6_no_1) (fun _ h9 => h9) rfl (by decide +kernel) rfl rfl (Nat.le_of_ble_eq_true rfl) dX6_no_10 (fun H locs hP hD hS => ?_)
  have hP : va_P D vwCl [(m0, .inr (12, [.ref m1, .ref m2, .ref m3, .ref m4, .ref m5, .ref m6, .int pe, .int po, .int 0]))] H := hP
  have hD : va_D A [(m0, .inr (12, [.ref m1, .ref m2, .ref m3, .ref m4, .ref m5, .ref m6, .int pe, .int po, .int 0]))] := hD
  refine lv_iload_n hx hb dX6_no_13 rfl (lv_at hl 1 rfl) ?_
  refine lv_if_ne (tgt := 21) hx hb dX6_no_14 (by decide) (fun _ => ?_) (fun h => absurd h (by decide))
  refine lv_iconst (v := (0)) hx hb dX6_no_21 (by decide) ?_
  exact y_zret hx hb hr hlocks (by decide) () rfl hP hD hS (Nat.le_of_ble_eq_true rfl) (Nat.le_of_ble_eq_true rfl) dX6_no_22
theorem iX6_isWho_X6 : ∀ w ∈ wsX60, w ∈ wsX6_isWho := by decide +kernel
theorem kX6_isWho_1 : Cond.fieldLink RX6 48 "MostwellModel" "people" "I" ∈ wsX6_isWho := List.mem_of_getElem? (i := 1) (by decide +kernel)
set_option maxHeartbeats 4000000 in
set_option maxRecDepth 100000 in
theorem f_isWho (l : Launch) (hfl : l.stackTraces = false) (D : va_G) (tE : Nat) (sz : Nat) (m0 : Nat) (m1 : Nat) (m2 : Nat) (m3 : Nat) (m4 : Nat) (m5 : Nat) (m6 : Nat) (th : Int32) (x : Int32) (po : Int32) (A : Nat → Prop) (hA0 : A = va_A [(m0, .inr (12, [.ref m1, .ref m2, .ref m3, .ref m4, .ref m5, .ref m6, .int 0, .int po, .int th]))] sz) : Met l yX6_isWho wsX6_isWho (yR 1 0 0) (yP D tE [(m0, .inr (12, [.ref m1, .ref m2, .ref m3, .ref m4, .ref m5, .ref m6, .int 0, .int po, .int th]))] [] sz [.ref m0, .int x]) (va_Qi (S := Unit) (fun (r : Int32) (u : Unit) => r = 0) (fun (u : Unit) (t : State) => yB D A ((fun (u : Unit) => [(m0, .inr (12, [.ref m1, .ref m2, .ref m3, .ref m4, .ref m5, .ref m6, .int 0, .int po, .int th]))]) u) t) A) 0 0 A := by
  refine Met.ofW (cc := cX6_isWho) (maxL := 2) (ret := (some .boolean)) (by decide) rfl ?_
  intro p e s m args below meth c s₁ B hml hv
  obtain ⟨rfl, rfl, hP, hK, hD, hE, hA⟩ := y_start hA0 hv
  have hx := B.exec
  have hb := B.bytes
  have hr := B.returns
  have hts := atoms_spec (ws := wsX6_isWho) B.pre
  have hown : s.vm.findClass RX6 = some m.cls := findClass_of_methodNamed B.named
  have hlocks := B.notSynchronized
  clear hA0 hv
  have hS : va_S A s.heap s.heap [] := va_S.rf
  have hl := lv_entry ([.ref m0, .int x]) (n := 2) (Nat.le_of_ble_eq_true rfl)
  rw [lg_entry_eq]
  generalize (lg_sl ([.ref m0, .int x]) ++ List.replicate (2 - (lg_sl ([.ref m0, .int x])).length) Slot.unset).toArray = ls at hl ⊢
  have hl : lv_has ls 2 [(0, .ref m0), (1, .int x)] := hl
  refine lv_iload_n hx hb dX6_isWho_0 rfl (lv_at hl 1 rfl) ?_
  refine lv_iconst (v := (0)) hx hb dX6_isWho_1 (by decide) ?_
  refine lv_aload_n hx hb dX6_isWho_2 rfl (lv_at hl 0 rfl) ?_
  refine va_get (D := D) (ci := 12) (v := .int 0) (C := RX6) (T := TX6) (N := 9) hx hb hts iX6_isWho_X6 hown hK hP 0 rfl rfl 6 (by decide) (hts _ kX6_isWho_1) (fun _ h9 => h9) rfl dX6_isWho_3 ?_
  refine lv_iconst (v := (1)) hx hb dX6_isWho_6 (by decide) ?_
  refine lv_isub hx hb dX6_isWho_7 ?_
  refine lv_topi (fun x_1 ex_1 => ?_)
  obtain rfl : x_1 = (-1 : Int32) := ex_1.trans (by decide)
  refine yc_i (wc := []) (wr := [(m0, .inr (12, [.ref m1, .ref m2, .ref m3, .ref m4, .ref m5, .ref m6, .int 0, .int po, .int th]))]) (va_runS (As := [.int x, .int 0, .int ((-1))]) (rest := []) ⟨hx, hb, hml, hown, hts⟩ (g_isIn l hfl D tE s.heap.size x 0 (-1) (va_A [] s.heap.size) rfl) (va_cwS 3 hts gX6_isWho_X6_isIn rfl rfl rfl (by decide +kernel) ⟨Nat.le_of_ble_eq_true rfl, Nat.le_of_ble_eq_true rfl⟩) (yPreS (wc := []) (tc := []) hK hP hD hS hA hE [] [] (by decide) rfl rfl) rfl rfl hl.1 rfl (lv_room (Nat.le_of_ble_eq_true rfl)) dX6_isWho_8 ⟨Nat.le_of_ble_eq_true rfl, Nat.le_of_ble_eq_true rfl⟩) hP hD hS hA [] [0] rfl rfl (by decide) (by decide) (fun r_2 u_3 H locs hw hP hD hS => ?_)
  have hP : va_P D vwCl [(m0, .inr (12, [.ref m1, .ref m2, .ref m3, .ref m4, .ref m5, .ref m6, .int 0, .int po, .int th]))] H := hP
  have hD : va_D A [(m0, .inr (12, [.ref m1, .ref m2, .ref m3, .ref m4, .ref m5, .ref m6, .int 0, .int po, .int th]))] := hD
  have hw : (r_2 = 1 ∧ 0 ≤ x ∧ x ≤ (-1)) ∨ (r_2 = 0 ∧ (x < 0 ∨ (-1) < x)) := hw
  rcases hw with ⟨hr9, h1, h2⟩ | ⟨hr9, h1⟩
  · subst hr9
    exact (y_no h1 (by rw [Int32.lt_iff_toInt_lt]; rw [Int32.le_iff_toInt_le] at h2; have := h2; simp at this ⊢; omega)).elim
  · subst hr9
    exact y_zret hx hb hr hlocks (by decide) () rfl hP hD hS (Nat.le_of_ble_eq_true rfl) (Nat.le_of_ble_eq_true rfl) dX6_isWho_11
theorem iX6_isPost_X6 : ∀ w ∈ wsX60, w ∈ wsX6_isPost := by decide +kernel
theorem kX6_isPost_1 : Cond.fieldLink RX6 55 "MostwellModel" "posts" "I" ∈ wsX6_isPost := List.mem_of_getElem? (i := 1) (by decide +kernel)
set_option maxHeartbeats 4000000 in
set_option maxRecDepth 100000 in
theorem f_isPost (l : Launch) (hfl : l.stackTraces = false) (D : va_G) (tE : Nat) (sz : Nat) (m0 : Nat) (m1 : Nat) (m2 : Nat) (m3 : Nat) (m4 : Nat) (m5 : Nat) (m6 : Nat) (th : Int32) (x : Int32) (pe : Int32) (A : Nat → Prop) (hA0 : A = va_A [(m0, .inr (12, [.ref m1, .ref m2, .ref m3, .ref m4, .ref m5, .ref m6, .int pe, .int 0, .int th]))] sz) : Met l yX6_isPost wsX6_isPost (yR 1 0 0) (yP D tE [(m0, .inr (12, [.ref m1, .ref m2, .ref m3, .ref m4, .ref m5, .ref m6, .int pe, .int 0, .int th]))] [] sz [.ref m0, .int x]) (va_Qi (S := Unit) (fun (r : Int32) (u : Unit) => r = 0) (fun (u : Unit) (t : State) => yB D A ((fun (u : Unit) => [(m0, .inr (12, [.ref m1, .ref m2, .ref m3, .ref m4, .ref m5, .ref m6, .int pe, .int 0, .int th]))]) u) t) A) 0 0 A := by
  refine Met.ofW (cc := cX6_isPost) (maxL := 2) (ret := (some .boolean)) (by decide) rfl ?_
  intro p e s m args below meth c s₁ B hml hv
  obtain ⟨rfl, rfl, hP, hK, hD, hE, hA⟩ := y_start hA0 hv
  have hx := B.exec
  have hb := B.bytes
  have hr := B.returns
  have hts := atoms_spec (ws := wsX6_isPost) B.pre
  have hown : s.vm.findClass RX6 = some m.cls := findClass_of_methodNamed B.named
  have hlocks := B.notSynchronized
  clear hA0 hv
  have hS : va_S A s.heap s.heap [] := va_S.rf
  have hl := lv_entry ([.ref m0, .int x]) (n := 2) (Nat.le_of_ble_eq_true rfl)
  rw [lg_entry_eq]
  generalize (lg_sl ([.ref m0, .int x]) ++ List.replicate (2 - (lg_sl ([.ref m0, .int x])).length) Slot.unset).toArray = ls at hl ⊢
  have hl : lv_has ls 2 [(0, .ref m0), (1, .int x)] := hl
  refine lv_iload_n hx hb dX6_isPost_0 rfl (lv_at hl 1 rfl) ?_
  refine lv_iconst (v := (0)) hx hb dX6_isPost_1 (by decide) ?_
  refine lv_aload_n hx hb dX6_isPost_2 rfl (lv_at hl 0 rfl) ?_
  refine va_get (D := D) (ci := 12) (v := .int 0) (C := RX6) (T := TX6) (N := 9) hx hb hts iX6_isPost_X6 hown hK hP 0 rfl rfl 7 (by decide) (hts _ kX6_isPost_1) (fun _ h9 => h9) rfl dX6_isPost_3 ?_
  refine lv_iconst (v := (1)) hx hb dX6_isPost_6 (by decide) ?_
  refine lv_isub hx hb dX6_isPost_7 ?_
  refine lv_topi (fun x_1 ex_1 => ?_)
  obtain rfl : x_1 = (-1 : Int32) := ex_1.trans (by decide)
  refine yc_i (wc := []) (wr := [(m0, .inr (12, [.ref m1, .ref m2, .ref m3, .ref m4, .ref m5, .ref m6, .int pe, .int 0, .int th]))]) (va_runS (As := [.int x, .int 0, .int ((-1))]) (rest := []) ⟨hx, hb, hml, hown, hts⟩ (g_isIn l hfl D tE s.heap.size x 0 (-1) (va_A [] s.heap.size) rfl) (va_cwS 3 hts gX6_isPost_X6_isIn rfl rfl rfl (by decide +kernel) ⟨Nat.le_of_ble_eq_true rfl, Nat.le_of_ble_eq_true rfl⟩) (yPreS (wc := []) (tc := []) hK hP hD hS hA hE [] [] (by decide) rfl rfl) rfl rfl hl.1 rfl (lv_room (Nat.le_of_ble_eq_true rfl)) dX6_isPost_8 ⟨Nat.le_of_ble_eq_true rfl, Nat.le_of_ble_eq_true rfl⟩) hP hD hS hA [] [0] rfl rfl (by decide) (by decide) (fun r_2 u_3 H locs hw hP hD hS => ?_)
  have hP : va_P D vwCl [(m0, .inr (12, [.ref m1, .ref m2, .ref m3, .ref m4, .ref m5, .ref m6, .int pe, .int 0, .int th]))] H := hP
  have hD : va_D A [(m0, .inr (12, [.ref m1, .ref m2, .ref m3, .ref m4, .ref m5, .ref m6, .int pe, .int 0, .int th]))] := hD
  have hw : (r_2 = 1 ∧ 0 ≤ x ∧ x ≤ (-1)) ∨ (r_2 = 0 ∧ (x < 0 ∨ (-1) < x)) := hw
  rcases hw with ⟨hr9, h1, h2⟩ | ⟨hr9, h1⟩
  · subst hr9
    exact (y_no h1 (by rw [Int32.lt_iff_toInt_lt]; rw [Int32.le_iff_toInt_le] at h2; have := h2; simp at this ⊢; omega)).elim
  · subst hr9
    exact y_zret hx hb hr hlocks (by decide) () rfl hP hD hS (Nat.le_of_ble_eq_true rfl) (Nat.le_of_ble_eq_true rfl) dX6_isPost_11
theorem iJx4a65c_size_8abf5_Jx4a65c : ∀ w ∈ wsJx4a65c0, w ∈ wsJx4a65c_size_8abf5 := by decide +kernel
theorem kJx4a65c_size_8abf5_1 : Cond.fieldLink RJx4a65c 48 "java/util/ArrayList" "size" "I" ∈ wsJx4a65c_size_8abf5 := List.mem_of_getElem? (i := 1) (by decide +kernel)
set_option maxHeartbeats 4000000 in
set_option maxRecDepth 100000 in
theorem g_size (l : Launch) (hfl : l.stackTraces = false) (D : va_G) (tE : Nat) (sz : Nat) (m5 : Nat) (mo : Int32) (ed : Nat) (lz : Int32) (A : Nat → Prop) (hA0 : A = va_A [(m5, .inr (5, [.int mo, .ref ed, .int lz]))] sz) : Met l yJx4a65c_size_8abf5 wsJx4a65c_size_8abf5 (yR 0 0 0) (yP D tE [(m5, .inr (5, [.int mo, .ref ed, .int lz]))] [] sz [.ref m5]) (va_Qi (S := Unit) (fun (r : Int32) (u : Unit) => r = lz) (fun (u : Unit) (t : State) => yB D A ((fun (u : Unit) => [(m5, .inr (5, [.int mo, .ref ed, .int lz]))]) u) t) A) 0 0 A := by
  refine Met.ofW (cc := cJx4a65c_size_8abf5) (maxL := 1) (ret := (some .int)) (by decide) rfl ?_
  intro p e s m args below meth c s₁ B hml hv
  obtain ⟨rfl, rfl, hP, hK, hD, hE, hA⟩ := y_start hA0 hv
  have hx := B.exec
  have hb := B.bytes
  have hr := B.returns
  have hts := atoms_spec (ws := wsJx4a65c_size_8abf5) B.pre
  have hown : s.vm.findClass RJx4a65c = some m.cls := findClass_of_methodNamed B.named
  have hlocks := B.notSynchronized
  clear hA0 hv
  have hS : va_S A s.heap s.heap [] := va_S.rf
  have hl := lv_entry ([.ref m5]) (n := 1) (Nat.le_of_ble_eq_true rfl)
  rw [lg_entry_eq]
  generalize (lg_sl ([.ref m5]) ++ List.replicate (1 - (lg_sl ([.ref m5])).length) Slot.unset).toArray = ls at hl ⊢
  have hl : lv_has ls 1 [(0, .ref m5)] := hl
  refine lv_aload_n hx hb dJx4a65c_size_8abf5_0 rfl (lv_at hl 0 rfl) ?_
  refine va_get (D := D) (ci := 5) (v := .int lz) (C := RJx4a65c) (T := TJx4a65c) (N := 3) hx hb hts iJx4a65c_size_8abf5_Jx4a65c hown hK hP 0 rfl rfl 2 (by decide) (hts _ kJx4a65c_size_8abf5_1) (fun _ h9 => h9) rfl dJx4a65c_size_8abf5_1 ?_
  exact y_iret hx hb hr hlocks () rfl hP hD hS (Nat.le_of_ble_eq_true rfl) (Nat.le_of_ble_eq_true rfl) dJx4a65c_size_8abf5_4
theorem iX6_isKept_X6 : ∀ w ∈ wsX60, w ∈ wsX6_isKept := by decide +kernel
theorem kX6_isKept_1 : Cond.fieldLink RX6 27 "MostwellModel" "kept" "Ljava/util/List;" ∈ wsX6_isKept := List.mem_of_getElem? (i := 1) (by decide +kernel)
set_option maxHeartbeats 4000000 in
set_option maxRecDepth 100000 in
theorem f_isKept (l : Launch) (hfl : l.stackTraces = false) (D : va_G) (tE : Nat) (sz : Nat) (m0 : Nat) (m1 : Nat) (m2 : Nat) (m3 : Nat) (m4 : Nat) (m5 : Nat) (m6 : Nat) (pe : Int32) (po : Int32) (th : Int32) (x : Int32) (mo : Int32) (ed : Nat) (A : Nat → Prop) (hA0 : A = va_A [(m0, .inr (12, [.ref m1, .ref m2, .ref m3, .ref m4, .ref m5, .ref m6, .int pe, .int po, .int th])), (m5, .inr (5, [.int mo, .ref ed, .int 0]))] sz) : Met l yX6_isKept wsX6_isKept (yR 1 0 0) (yP D tE [(m0, .inr (12, [.ref m1, .ref m2, .ref m3, .ref m4, .ref m5, .ref m6, .int pe, .int po, .int th])), (m5, .inr (5, [.int mo, .ref ed, .int 0]))] [] sz [.ref m0, .int x]) (va_Qi (S := Unit) (fun (r : Int32) (u : Unit) => r = 0) (fun (u : Unit) (t : State) => yB D A ((fun (u : Unit) => [(m0, .inr (12, [.ref m1, .ref m2, .ref m3, .ref m4, .ref m5, .ref m6, .int pe, .int po, .int th])), (m5, .inr (5, [.int mo, .ref ed, .int 0]))]) u) t) A) 0 0 A := by
  refine Met.ofW (cc := cX6_isKept) (maxL := 2) (ret := (some .boolean)) (by decide) rfl ?_
  intro p e s m args below meth c s₁ B hml hv
  obtain ⟨rfl, rfl, hP, hK, hD, hE, hA⟩ := y_start hA0 hv
  have hx := B.exec
  have hb := B.bytes
  have hr := B.returns
  have hts := atoms_spec (ws := wsX6_isKept) B.pre
  have hown : s.vm.findClass RX6 = some m.cls := findClass_of_methodNamed B.named
  have hlocks := B.notSynchronized
  clear hA0 hv
  have hS : va_S A s.heap s.heap [] := va_S.rf
  have hl := lv_entry ([.ref m0, .int x]) (n := 2) (Nat.le_of_ble_eq_true rfl)
  rw [lg_entry_eq]
  generalize (lg_sl ([.ref m0, .int x]) ++ List.replicate (2 - (lg_sl ([.ref m0, .int x])).length) Slot.unset).toArray = ls at hl ⊢
  have hl : lv_has ls 2 [(0, .ref m0), (1, .int x)] := hl
  refine lv_iload_n hx hb dX6_isKept_0 rfl (lv_at hl 1 rfl) ?_
  refine lv_iconst (v := (0)) hx hb dX6_isKept_1 (by decide) ?_
  refine lv_aload_n hx hb dX6_isKept_2 rfl (lv_at hl 0 rfl) ?_
  refine va_get (D := D) (ci := 12) (v := .ref m5) (C := RX6) (T := TX6) (N := 9) hx hb hts iX6_isKept_X6 hown hK hP 0 rfl rfl 4 (by decide) (hts _ kX6_isKept_1) (fun _ h9 => h9) rfl dX6_isKept_3 ?_
  refine yc5_i (wc := [(m5, .inr (5, [.int mo, .ref ed, .int 0]))]) (wr := [(m0, .inr (12, [.ref m1, .ref m2, .ref m3, .ref m4, .ref m5, .ref m6, .int pe, .int po, .int th]))]) (va_runF (As := []) (rest := [.int 0, .int x]) (hK.1 5 _ rfl).2 ⟨hx, hb, hml, hown, hts⟩ (g_size l hfl D tE s.heap.size m5 mo ed 0 (va_A [(m5, .inr (5, [.int mo, .ref ed, .int 0]))] s.heap.size) rfl) (va_cwF 0 hts gX6_isKept_Jx4a65c_size_8abf5_f114Jx4a65c rfl rfl rfl (hE.2.2.2.2.2.2.2.1 _ (List.mem_of_getElem? (i := 0) rfl)) (by decide +kernel) ⟨Nat.le_of_ble_eq_true rfl, Nat.le_of_ble_eq_true rfl⟩) (yPreV (wc := [(m5, .inr (5, [.int mo, .ref ed, .int 0]))]) (tc := []) hK hP hD hS hA hE [1] [] (by decide) rfl rfl (ci := 5) (q0 := 1) (q := (RJx4a65c, TJx4a65c, 3)) rfl rfl) rfl rfl hl.1 rfl (lv_room (Nat.le_of_ble_eq_true rfl)) dX6_isKept_6 ⟨Nat.le_of_ble_eq_true rfl, Nat.le_of_ble_eq_true rfl⟩) hP hD hS hA [1] [0] rfl rfl (by decide) (by decide) (fun r_1 u_2 H locs hw hP hD hS => ?_)
  have hP : va_P D vwCl [(m0, .inr (12, [.ref m1, .ref m2, .ref m3, .ref m4, .ref m5, .ref m6, .int pe, .int po, .int th])), (m5, .inr (5, [.int mo, .ref ed, .int 0]))] H := hP
  have hD : va_D A [(m0, .inr (12, [.ref m1, .ref m2, .ref m3, .ref m4, .ref m5, .ref m6, .int pe, .int po, .int th])), (m5, .inr (5, [.int mo, .ref ed, .int 0]))] := hD
  have hw : r_1 = 0 := hw
  subst hw
  refine lv_iconst (v := (1)) hx hb dX6_isKept_11 (by decide) ?_
  refine lv_isub hx hb dX6_isKept_12 ?_
  refine lv_topi (fun x_3 ex_3 => ?_)
  obtain rfl : x_3 = (-1 : Int32) := ex_3.trans (by decide)
  refine yc_i (wc := []) (wr := [(m0, .inr (12, [.ref m1, .ref m2, .ref m3, .ref m4, .ref m5, .ref m6, .int pe, .int po, .int th])), (m5, .inr (5, [.int mo, .ref ed, .int 0]))]) (va_runS (As := [.int x, .int 0, .int ((-1))]) (rest := []) ⟨hx, hb, hml, hown, hts⟩ (g_isIn l hfl D tE H.size x 0 (-1) (va_A [] H.size) rfl) (va_cwS 3 hts gX6_isKept_X6_isIn rfl rfl rfl (by decide +kernel) ⟨Nat.le_of_ble_eq_true rfl, Nat.le_of_ble_eq_true rfl⟩) (yPreS (wc := []) (tc := []) hK hP hD hS hA hE [] [] (by decide) rfl rfl) rfl rfl hl.1 rfl (lv_room (Nat.le_of_ble_eq_true rfl)) dX6_isKept_13 ⟨Nat.le_of_ble_eq_true rfl, Nat.le_of_ble_eq_true rfl⟩) hP hD hS hA [] [0, 1] rfl rfl (by decide) (by decide) (fun r_4 u_5 H locs hw hP hD hS => ?_)
  have hP : va_P D vwCl [(m0, .inr (12, [.ref m1, .ref m2, .ref m3, .ref m4, .ref m5, .ref m6, .int pe, .int po, .int th])), (m5, .inr (5, [.int mo, .ref ed, .int 0]))] H := hP
  have hD : va_D A [(m0, .inr (12, [.ref m1, .ref m2, .ref m3, .ref m4, .ref m5, .ref m6, .int pe, .int po, .int th])), (m5, .inr (5, [.int mo, .ref ed, .int 0]))] := hD
  have hw : (r_4 = 1 ∧ 0 ≤ x ∧ x ≤ (-1)) ∨ (r_4 = 0 ∧ (x < 0 ∨ (-1) < x)) := hw
  rcases hw with ⟨hr9, h1, h2⟩ | ⟨hr9, h1⟩
  · subst hr9
    exact (y_no h1 (by rw [Int32.lt_iff_toInt_lt]; rw [Int32.le_iff_toInt_le] at h2; have := h2; simp at this ⊢; omega)).elim
  · subst hr9
    exact y_zret hx hb hr hlocks (by decide) () rfl hP hD hS (Nat.le_of_ble_eq_true rfl) (Nat.le_of_ble_eq_true rfl) dX6_isKept_16
theorem iX6_thrown_X6 : ∀ w ∈ wsX60, w ∈ wsX6_thrown := by decide +kernel
theorem kX6_thrown_1 : Cond.fieldLink RX6 44 "MostwellModel" "thrown" "I" ∈ wsX6_thrown := List.mem_of_getElem? (i := 1) (by decide +kernel)
set_option maxHeartbeats 4000000 in
set_option maxRecDepth 100000 in
theorem g_thrown (l : Launch) (hfl : l.stackTraces = false) (D : va_G) (tE : Nat) (sz : Nat) (m0 : Nat) (m1 : Nat) (m2 : Nat) (m3 : Nat) (m4 : Nat) (m5 : Nat) (m6 : Nat) (pe : Int32) (po : Int32) (th : Int32) (A : Nat → Prop) (hA0 : A = va_A [(m0, .inr (12, [.ref m1, .ref m2, .ref m3, .ref m4, .ref m5, .ref m6, .int pe, .int po, .int th]))] sz) : Met l yX6_thrown wsX6_thrown (yR 0 0 0) (yP D tE [(m0, .inr (12, [.ref m1, .ref m2, .ref m3, .ref m4, .ref m5, .ref m6, .int pe, .int po, .int th]))] [] sz [.ref m0]) (va_Qi (S := Unit) (fun (r : Int32) (u : Unit) => r = th) (fun (u : Unit) (t : State) => yB D A ((fun (u : Unit) => [(m0, .inr (12, [.ref m1, .ref m2, .ref m3, .ref m4, .ref m5, .ref m6, .int pe, .int po, .int th]))]) u) t) A) 0 0 A := by
  refine Met.ofW (cc := cX6_thrown) (maxL := 1) (ret := (some .int)) (by decide) rfl ?_
  intro p e s m args below meth c s₁ B hml hv
  obtain ⟨rfl, rfl, hP, hK, hD, hE, hA⟩ := y_start hA0 hv
  have hx := B.exec
  have hb := B.bytes
  have hr := B.returns
  have hts := atoms_spec (ws := wsX6_thrown) B.pre
  have hown : s.vm.findClass RX6 = some m.cls := findClass_of_methodNamed B.named
  have hlocks := B.notSynchronized
  clear hA0 hv
  have hS : va_S A s.heap s.heap [] := va_S.rf
  have hl := lv_entry ([.ref m0]) (n := 1) (Nat.le_of_ble_eq_true rfl)
  rw [lg_entry_eq]
  generalize (lg_sl ([.ref m0]) ++ List.replicate (1 - (lg_sl ([.ref m0])).length) Slot.unset).toArray = ls at hl ⊢
  have hl : lv_has ls 1 [(0, .ref m0)] := hl
  refine lv_aload_n hx hb dX6_thrown_0 rfl (lv_at hl 0 rfl) ?_
  refine va_get (D := D) (ci := 12) (v := .int th) (C := RX6) (T := TX6) (N := 9) hx hb hts iX6_thrown_X6 hown hK hP 0 rfl rfl 8 (by decide) (hts _ kX6_thrown_1) (fun _ h9 => h9) rfl dX6_thrown_1 ?_
  exact y_iret hx hb hr hlocks () rfl hP hD hS (Nat.le_of_ble_eq_true rfl) (Nat.le_of_ble_eq_true rfl) dX6_thrown_4

set_option maxHeartbeats 4000000 in
set_option maxRecDepth 100000 in
theorem m_setWeight (l : Launch) (hfl : l.stackTraces = false) (D : va_G) (tE : Nat) (sz : Nat) (m0 : Nat) (m1 : Nat) (m2 : Nat) (m3 : Nat) (m4 : Nat) (m5 : Nat) (m6 : Nat) (th : Int32) (p0 : Int32) (p1 : Int32) (A : Nat → Prop) (hA0 : A = va_A [(m0, .inr (12, [.ref m1, .ref m2, .ref m3, .ref m4, .ref m5, .ref m6, .int 0, .int 0, .int th]))] sz) : Met l yX6_setWeight wsX6_setWeight (yR 2 0 0) (yP D tE [(m0, .inr (12, [.ref m1, .ref m2, .ref m3, .ref m4, .ref m5, .ref m6, .int 0, .int 0, .int th]))] [] sz [.ref m0, .int p0, .int p1]) (va_Qi (S := Unit) (fun (r : Int32) (u : Unit) => r = 0) (fun (u : Unit) (t : State) => yB D A ((fun (u : Unit) => [(m0, .inr (12, [.ref m1, .ref m2, .ref m3, .ref m4, .ref m5, .ref m6, .int 0, .int 0, .int 1]))]) u) t) A) 0 0 A := by
  refine Met.ofW (cc := cX6_setWeight) (maxL := 4) (ret := (some .int)) (by decide) rfl ?_
  intro p e s m args below meth c s₁ B hml hv
  obtain ⟨rfl, rfl, hP, hK, hD, hE, hA⟩ := y_start hA0 hv
  have hx := B.exec
  have hb := B.bytes
  have hr := B.returns
  have hts := atoms_spec (ws := wsX6_setWeight) B.pre
  have hown : s.vm.findClass RX6 = some m.cls := findClass_of_methodNamed B.named
  have hlocks := B.notSynchronized
  clear hA0 hv
  have hS : va_S A s.heap s.heap [] := va_S.rf
  have hl := lv_entry ([.ref m0, .int p0, .int p1]) (n := 4) (Nat.le_of_ble_eq_true rfl)
  rw [lg_entry_eq]
  generalize (lg_sl ([.ref m0, .int p0, .int p1]) ++ List.replicate (4 - (lg_sl ([.ref m0, .int p0, .int p1])).length) Slot.unset).toArray = ls at hl ⊢
  have hl : lv_has ls 4 [(0, .ref m0), (1, .int p0), (2, .int p1)] := hl
  refine lv_aload_n hx hb dX6_setWeight_0 rfl (lv_at hl 0 rfl) ?_
  refine lv_aload_n hx hb dX6_setWeight_1 rfl (lv_at hl 0 rfl) ?_
  refine lv_iload_n hx hb dX6_setWeight_2 rfl (lv_at hl 1 rfl) ?_
  refine yc_i (wc := [(m0, .inr (12, [.ref m1, .ref m2, .ref m3, .ref m4, .ref m5, .ref m6, .int 0, .int 0, .int th]))]) (wr := []) (va_runV (As := [.int p0]) (rest := [.ref m0]) ⟨hx, hb, hml, hown, hts⟩ (f_isWho l hfl D tE s.heap.size m0 m1 m2 m3 m4 m5 m6 th p0 0 (va_A [(m0, .inr (12, [.ref m1, .ref m2, .ref m3, .ref m4, .ref m5, .ref m6, .int 0, .int 0, .int th]))] s.heap.size) rfl) (cwV 1 hts gX6_setWeight_X6_isWho rfl rfl rfl (by decide +kernel) ⟨Nat.le_of_ble_eq_true rfl, Nat.le_of_ble_eq_true rfl⟩) (yPreV (wc := [(m0, .inr (12, [.ref m1, .ref m2, .ref m3, .ref m4, .ref m5, .ref m6, .int 0, .int 0, .int th]))]) (tc := []) hK hP hD hS hA hE [0] [] (by decide) rfl rfl (ci := 12) (q0 := 0) (q := (RX6, TX6, 9)) rfl rfl) rfl rfl hl.1 rfl (lv_room (Nat.le_of_ble_eq_true rfl)) dX6_setWeight_3 ⟨Nat.le_of_ble_eq_true rfl, Nat.le_of_ble_eq_true rfl⟩) hP hD hS hA [0] [] rfl rfl (by decide) (by decide) (fun r_1 u_2 H locs hw hP hD hS => ?_)
  have hP : va_P D vwCl [(m0, .inr (12, [.ref m1, .ref m2, .ref m3, .ref m4, .ref m5, .ref m6, .int 0, .int 0, .int th]))] H := hP
  have hD : va_D A [(m0, .inr (12, [.ref m1, .ref m2, .ref m3, .ref m4, .ref m5, .ref m6, .int 0, .int 0, .int th]))] := hD
  have hw : r_1 = 0 := hw
  subst hw
  refine lv_iconst (v := (1)) hx hb dX6_setWeight_6 (by decide) ?_
  refine yc_i (wc := [(m0, .inr (12, [.ref m1, .ref m2, .ref m3, .ref m4, .ref m5, .ref m6, .int 0, .int 0, .int th]))]) (wr := []) (va_runV (As := [.int 0, .int 1]) (rest := []) ⟨hx, hb, hml, hown, hts⟩ (g_no0 l hfl D tE H.size m0 m1 m2 m3 m4 m5 m6 0 0 th 1 (va_A [(m0, .inr (12, [.ref m1, .ref m2, .ref m3, .ref m4, .ref m5, .ref m6, .int 0, .int 0, .int th]))] H.size) rfl) (cwV 2 hts gX6_setWeight_X6_no rfl rfl rfl (by decide +kernel) ⟨Nat.le_of_ble_eq_true rfl, Nat.le_of_ble_eq_true rfl⟩) (yPreV (wc := [(m0, .inr (12, [.ref m1, .ref m2, .ref m3, .ref m4, .ref m5, .ref m6, .int 0, .int 0, .int th]))]) (tc := []) hK hP hD hS hA hE [0] [] (by decide) rfl rfl (ci := 12) (q0 := 0) (q := (RX6, TX6, 9)) rfl rfl) rfl rfl hl.1 rfl (lv_room (Nat.le_of_ble_eq_true rfl)) dX6_setWeight_7 ⟨Nat.le_of_ble_eq_true rfl, Nat.le_of_ble_eq_true rfl⟩) hP hD hS hA [0] [] rfl rfl (by decide) (by decide) (fun r_3 u_4 H locs hw hP hD hS => ?_)
  have hP : va_P D vwCl [(m0, .inr (12, [.ref m1, .ref m2, .ref m3, .ref m4, .ref m5, .ref m6, .int 0, .int 0, .int 1]))] H := hP
  have hD : va_D A [(m0, .inr (12, [.ref m1, .ref m2, .ref m3, .ref m4, .ref m5, .ref m6, .int 0, .int 0, .int 1]))] := hD
  have hw : r_3 = 1 := hw
  subst hw
  refine lv_if_ne (tgt := 28) hx hb dX6_setWeight_10 (by decide) (fun _ => ?_) (fun h => absurd h (by decide))
  refine lv_iconst (v := (0)) hx hb dX6_setWeight_28 (by decide) ?_
  exact y_iret hx hb hr hlocks () rfl hP hD hS (Nat.le_of_ble_eq_true rfl) (Nat.le_of_ble_eq_true rfl) dX6_setWeight_29

set_option maxHeartbeats 4000000 in
set_option maxRecDepth 100000 in
theorem m_setRank (l : Launch) (hfl : l.stackTraces = false) (D : va_G) (tE : Nat) (sz : Nat) (m0 : Nat) (m1 : Nat) (m2 : Nat) (m3 : Nat) (m4 : Nat) (m5 : Nat) (m6 : Nat) (th : Int32) (p0 : Int32) (p1 : Int32) (p2 : Int32) (A : Nat → Prop) (hA0 : A = va_A [(m0, .inr (12, [.ref m1, .ref m2, .ref m3, .ref m4, .ref m5, .ref m6, .int 0, .int 0, .int th]))] sz) : Met l yX6_setRank wsX6_setRank (yR 2 0 0) (yP D tE [(m0, .inr (12, [.ref m1, .ref m2, .ref m3, .ref m4, .ref m5, .ref m6, .int 0, .int 0, .int th]))] [] sz [.ref m0, .int p0, .int p1, .int p2]) (va_Qi (S := Unit) (fun (r : Int32) (u : Unit) => r = 0) (fun (u : Unit) (t : State) => yB D A ((fun (u : Unit) => [(m0, .inr (12, [.ref m1, .ref m2, .ref m3, .ref m4, .ref m5, .ref m6, .int 0, .int 0, .int 1]))]) u) t) A) 0 0 A := by
  refine Met.ofW (cc := cX6_setRank) (maxL := 5) (ret := (some .int)) (by decide) rfl ?_
  intro p e s m args below meth c s₁ B hml hv
  obtain ⟨rfl, rfl, hP, hK, hD, hE, hA⟩ := y_start hA0 hv
  have hx := B.exec
  have hb := B.bytes
  have hr := B.returns
  have hts := atoms_spec (ws := wsX6_setRank) B.pre
  have hown : s.vm.findClass RX6 = some m.cls := findClass_of_methodNamed B.named
  have hlocks := B.notSynchronized
  clear hA0 hv
  have hS : va_S A s.heap s.heap [] := va_S.rf
  have hl := lv_entry ([.ref m0, .int p0, .int p1, .int p2]) (n := 5) (Nat.le_of_ble_eq_true rfl)
  rw [lg_entry_eq]
  generalize (lg_sl ([.ref m0, .int p0, .int p1, .int p2]) ++ List.replicate (5 - (lg_sl ([.ref m0, .int p0, .int p1, .int p2])).length) Slot.unset).toArray = ls at hl ⊢
  have hl : lv_has ls 5 [(0, .ref m0), (1, .int p0), (2, .int p1), (3, .int p2)] := hl
  refine lv_aload_n hx hb dX6_setRank_0 rfl (lv_at hl 0 rfl) ?_
  refine lv_aload_n hx hb dX6_setRank_1 rfl (lv_at hl 0 rfl) ?_
  refine lv_iload_n hx hb dX6_setRank_2 rfl (lv_at hl 1 rfl) ?_
  refine yc_i (wc := [(m0, .inr (12, [.ref m1, .ref m2, .ref m3, .ref m4, .ref m5, .ref m6, .int 0, .int 0, .int th]))]) (wr := []) (va_runV (As := [.int p0]) (rest := [.ref m0]) ⟨hx, hb, hml, hown, hts⟩ (f_isWho l hfl D tE s.heap.size m0 m1 m2 m3 m4 m5 m6 th p0 0 (va_A [(m0, .inr (12, [.ref m1, .ref m2, .ref m3, .ref m4, .ref m5, .ref m6, .int 0, .int 0, .int th]))] s.heap.size) rfl) (cwV 1 hts gX6_setRank_X6_isWho rfl rfl rfl (by decide +kernel) ⟨Nat.le_of_ble_eq_true rfl, Nat.le_of_ble_eq_true rfl⟩) (yPreV (wc := [(m0, .inr (12, [.ref m1, .ref m2, .ref m3, .ref m4, .ref m5, .ref m6, .int 0, .int 0, .int th]))]) (tc := []) hK hP hD hS hA hE [0] [] (by decide) rfl rfl (ci := 12) (q0 := 0) (q := (RX6, TX6, 9)) rfl rfl) rfl rfl hl.1 rfl (lv_room (Nat.le_of_ble_eq_true rfl)) dX6_setRank_3 ⟨Nat.le_of_ble_eq_true rfl, Nat.le_of_ble_eq_true rfl⟩) hP hD hS hA [0] [] rfl rfl (by decide) (by decide) (fun r_1 u_2 H locs hw hP hD hS => ?_)
  have hP : va_P D vwCl [(m0, .inr (12, [.ref m1, .ref m2, .ref m3, .ref m4, .ref m5, .ref m6, .int 0, .int 0, .int th]))] H := hP
  have hD : va_D A [(m0, .inr (12, [.ref m1, .ref m2, .ref m3, .ref m4, .ref m5, .ref m6, .int 0, .int 0, .int th]))] := hD
  have hw : r_1 = 0 := hw
  subst hw
  refine lv_if_eq (tgt := 21) hx hb dX6_setRank_6 (by decide) (fun _ => ?_) (fun h => absurd h (by decide))
  refine lv_iconst (v := (0)) hx hb dX6_setRank_21 (by decide) ?_
  refine lv_iconst (v := (1)) hx hb dX6_setRank_22 (by decide) ?_
  refine yc_i (wc := [(m0, .inr (12, [.ref m1, .ref m2, .ref m3, .ref m4, .ref m5, .ref m6, .int 0, .int 0, .int th]))]) (wr := []) (va_runV (As := [.int 0, .int 1]) (rest := []) ⟨hx, hb, hml, hown, hts⟩ (g_no0 l hfl D tE H.size m0 m1 m2 m3 m4 m5 m6 0 0 th 1 (va_A [(m0, .inr (12, [.ref m1, .ref m2, .ref m3, .ref m4, .ref m5, .ref m6, .int 0, .int 0, .int th]))] H.size) rfl) (cwV 2 hts gX6_setRank_X6_no rfl rfl rfl (by decide +kernel) ⟨Nat.le_of_ble_eq_true rfl, Nat.le_of_ble_eq_true rfl⟩) (yPreV (wc := [(m0, .inr (12, [.ref m1, .ref m2, .ref m3, .ref m4, .ref m5, .ref m6, .int 0, .int 0, .int th]))]) (tc := []) hK hP hD hS hA hE [0] [] (by decide) rfl rfl (ci := 12) (q0 := 0) (q := (RX6, TX6, 9)) rfl rfl) rfl rfl hl.1 rfl (lv_room (Nat.le_of_ble_eq_true rfl)) dX6_setRank_23 ⟨Nat.le_of_ble_eq_true rfl, Nat.le_of_ble_eq_true rfl⟩) hP hD hS hA [0] [] rfl rfl (by decide) (by decide) (fun r_3 u_4 H locs hw hP hD hS => ?_)
  have hP : va_P D vwCl [(m0, .inr (12, [.ref m1, .ref m2, .ref m3, .ref m4, .ref m5, .ref m6, .int 0, .int 0, .int 1]))] H := hP
  have hD : va_D A [(m0, .inr (12, [.ref m1, .ref m2, .ref m3, .ref m4, .ref m5, .ref m6, .int 0, .int 0, .int 1]))] := hD
  have hw : r_3 = 1 := hw
  subst hw
  refine lv_if_ne (tgt := 44) hx hb dX6_setRank_26 (by decide) (fun _ => ?_) (fun h => absurd h (by decide))
  refine lv_iconst (v := (0)) hx hb dX6_setRank_44 (by decide) ?_
  exact y_iret hx hb hr hlocks () rfl hP hD hS (Nat.le_of_ble_eq_true rfl) (Nat.le_of_ble_eq_true rfl) dX6_setRank_45

set_option maxHeartbeats 4000000 in
set_option maxRecDepth 100000 in
theorem m_rankOf (l : Launch) (hfl : l.stackTraces = false) (D : va_G) (tE : Nat) (sz : Nat) (m0 : Nat) (m1 : Nat) (m2 : Nat) (m3 : Nat) (m4 : Nat) (m5 : Nat) (m6 : Nat) (th : Int32) (p0 : Int32) (p1 : Int32) (A : Nat → Prop) (hA0 : A = va_A [(m0, .inr (12, [.ref m1, .ref m2, .ref m3, .ref m4, .ref m5, .ref m6, .int 0, .int 0, .int th]))] sz) : Met l yX6_rankOf wsX6_rankOf (yR 2 0 0) (yP D tE [(m0, .inr (12, [.ref m1, .ref m2, .ref m3, .ref m4, .ref m5, .ref m6, .int 0, .int 0, .int th]))] [] sz [.ref m0, .int p0, .int p1]) (va_Qi (S := Unit) (fun (r : Int32) (u : Unit) => r = 0) (fun (u : Unit) (t : State) => yB D A ((fun (u : Unit) => [(m0, .inr (12, [.ref m1, .ref m2, .ref m3, .ref m4, .ref m5, .ref m6, .int 0, .int 0, .int 1]))]) u) t) A) 0 0 A := by
  refine Met.ofW (cc := cX6_rankOf) (maxL := 3) (ret := (some .int)) (by decide) rfl ?_
  intro p e s m args below meth c s₁ B hml hv
  obtain ⟨rfl, rfl, hP, hK, hD, hE, hA⟩ := y_start hA0 hv
  have hx := B.exec
  have hb := B.bytes
  have hr := B.returns
  have hts := atoms_spec (ws := wsX6_rankOf) B.pre
  have hown : s.vm.findClass RX6 = some m.cls := findClass_of_methodNamed B.named
  have hlocks := B.notSynchronized
  clear hA0 hv
  have hS : va_S A s.heap s.heap [] := va_S.rf
  have hl := lv_entry ([.ref m0, .int p0, .int p1]) (n := 3) (Nat.le_of_ble_eq_true rfl)
  rw [lg_entry_eq]
  generalize (lg_sl ([.ref m0, .int p0, .int p1]) ++ List.replicate (3 - (lg_sl ([.ref m0, .int p0, .int p1])).length) Slot.unset).toArray = ls at hl ⊢
  have hl : lv_has ls 3 [(0, .ref m0), (1, .int p0), (2, .int p1)] := hl
  refine lv_aload_n hx hb dX6_rankOf_0 rfl (lv_at hl 0 rfl) ?_
  refine lv_aload_n hx hb dX6_rankOf_1 rfl (lv_at hl 0 rfl) ?_
  refine lv_iload_n hx hb dX6_rankOf_2 rfl (lv_at hl 1 rfl) ?_
  refine yc_i (wc := [(m0, .inr (12, [.ref m1, .ref m2, .ref m3, .ref m4, .ref m5, .ref m6, .int 0, .int 0, .int th]))]) (wr := []) (va_runV (As := [.int p0]) (rest := [.ref m0]) ⟨hx, hb, hml, hown, hts⟩ (f_isWho l hfl D tE s.heap.size m0 m1 m2 m3 m4 m5 m6 th p0 0 (va_A [(m0, .inr (12, [.ref m1, .ref m2, .ref m3, .ref m4, .ref m5, .ref m6, .int 0, .int 0, .int th]))] s.heap.size) rfl) (cwV 1 hts gX6_rankOf_X6_isWho rfl rfl rfl (by decide +kernel) ⟨Nat.le_of_ble_eq_true rfl, Nat.le_of_ble_eq_true rfl⟩) (yPreV (wc := [(m0, .inr (12, [.ref m1, .ref m2, .ref m3, .ref m4, .ref m5, .ref m6, .int 0, .int 0, .int th]))]) (tc := []) hK hP hD hS hA hE [0] [] (by decide) rfl rfl (ci := 12) (q0 := 0) (q := (RX6, TX6, 9)) rfl rfl) rfl rfl hl.1 rfl (lv_room (Nat.le_of_ble_eq_true rfl)) dX6_rankOf_3 ⟨Nat.le_of_ble_eq_true rfl, Nat.le_of_ble_eq_true rfl⟩) hP hD hS hA [0] [] rfl rfl (by decide) (by decide) (fun r_1 u_2 H locs hw hP hD hS => ?_)
  have hP : va_P D vwCl [(m0, .inr (12, [.ref m1, .ref m2, .ref m3, .ref m4, .ref m5, .ref m6, .int 0, .int 0, .int th]))] H := hP
  have hD : va_D A [(m0, .inr (12, [.ref m1, .ref m2, .ref m3, .ref m4, .ref m5, .ref m6, .int 0, .int 0, .int th]))] := hD
  have hw : r_1 = 0 := hw
  subst hw
  refine lv_if_eq (tgt := 21) hx hb dX6_rankOf_6 (by decide) (fun _ => ?_) (fun h => absurd h (by decide))
  refine lv_iconst (v := (0)) hx hb dX6_rankOf_21 (by decide) ?_
  refine lv_iconst (v := (1)) hx hb dX6_rankOf_22 (by decide) ?_
  refine yc_i (wc := [(m0, .inr (12, [.ref m1, .ref m2, .ref m3, .ref m4, .ref m5, .ref m6, .int 0, .int 0, .int th]))]) (wr := []) (va_runV (As := [.int 0, .int 1]) (rest := []) ⟨hx, hb, hml, hown, hts⟩ (g_no0 l hfl D tE H.size m0 m1 m2 m3 m4 m5 m6 0 0 th 1 (va_A [(m0, .inr (12, [.ref m1, .ref m2, .ref m3, .ref m4, .ref m5, .ref m6, .int 0, .int 0, .int th]))] H.size) rfl) (cwV 2 hts gX6_rankOf_X6_no rfl rfl rfl (by decide +kernel) ⟨Nat.le_of_ble_eq_true rfl, Nat.le_of_ble_eq_true rfl⟩) (yPreV (wc := [(m0, .inr (12, [.ref m1, .ref m2, .ref m3, .ref m4, .ref m5, .ref m6, .int 0, .int 0, .int th]))]) (tc := []) hK hP hD hS hA hE [0] [] (by decide) rfl rfl (ci := 12) (q0 := 0) (q := (RX6, TX6, 9)) rfl rfl) rfl rfl hl.1 rfl (lv_room (Nat.le_of_ble_eq_true rfl)) dX6_rankOf_23 ⟨Nat.le_of_ble_eq_true rfl, Nat.le_of_ble_eq_true rfl⟩) hP hD hS hA [0] [] rfl rfl (by decide) (by decide) (fun r_3 u_4 H locs hw hP hD hS => ?_)
  have hP : va_P D vwCl [(m0, .inr (12, [.ref m1, .ref m2, .ref m3, .ref m4, .ref m5, .ref m6, .int 0, .int 0, .int 1]))] H := hP
  have hD : va_D A [(m0, .inr (12, [.ref m1, .ref m2, .ref m3, .ref m4, .ref m5, .ref m6, .int 0, .int 0, .int 1]))] := hD
  have hw : r_3 = 1 := hw
  subst hw
  refine lv_if_eq (tgt := 33) hx hb dX6_rankOf_26 (by decide) (fun h => absurd h (by decide)) (fun _ => ?_)
  refine lv_iconst (v := (0)) hx hb dX6_rankOf_29 (by decide) ?_
  refine lv_goto (tgt := 41) hx hb dX6_rankOf_30 (by decide) ?_
  exact y_iret hx hb hr hlocks () rfl hP hD hS (Nat.le_of_ble_eq_true rfl) (Nat.le_of_ble_eq_true rfl) dX6_rankOf_41

set_option maxHeartbeats 4000000 in
set_option maxRecDepth 100000 in
theorem m_tell (l : Launch) (hfl : l.stackTraces = false) (D : va_G) (tE : Nat) (sz : Nat) (m0 : Nat) (m1 : Nat) (m2 : Nat) (m3 : Nat) (m4 : Nat) (m5 : Nat) (m6 : Nat) (th : Int32) (p0 : Int32) (A : Nat → Prop) (hA0 : A = va_A [(m0, .inr (12, [.ref m1, .ref m2, .ref m3, .ref m4, .ref m5, .ref m6, .int 0, .int 0, .int th]))] sz) : Met l yX6_tell wsX6_tell (yR 2 0 0) (yP D tE [(m0, .inr (12, [.ref m1, .ref m2, .ref m3, .ref m4, .ref m5, .ref m6, .int 0, .int 0, .int th]))] [] sz [.ref m0, .int p0]) (va_Qi (S := Unit) (fun (r : Int32) (u : Unit) => r = 0) (fun (u : Unit) (t : State) => yB D A ((fun (u : Unit) => [(m0, .inr (12, [.ref m1, .ref m2, .ref m3, .ref m4, .ref m5, .ref m6, .int 0, .int 0, .int 1]))]) u) t) A) 0 0 A := by
  refine Met.ofW (cc := cX6_tell) (maxL := 4) (ret := (some .int)) (by decide) rfl ?_
  intro p e s m args below meth c s₁ B hml hv
  obtain ⟨rfl, rfl, hP, hK, hD, hE, hA⟩ := y_start hA0 hv
  have hx := B.exec
  have hb := B.bytes
  have hr := B.returns
  have hts := atoms_spec (ws := wsX6_tell) B.pre
  have hown : s.vm.findClass RX6 = some m.cls := findClass_of_methodNamed B.named
  have hlocks := B.notSynchronized
  clear hA0 hv
  have hS : va_S A s.heap s.heap [] := va_S.rf
  have hl := lv_entry ([.ref m0, .int p0]) (n := 4) (Nat.le_of_ble_eq_true rfl)
  rw [lg_entry_eq]
  generalize (lg_sl ([.ref m0, .int p0]) ++ List.replicate (4 - (lg_sl ([.ref m0, .int p0])).length) Slot.unset).toArray = ls at hl ⊢
  have hl : lv_has ls 4 [(0, .ref m0), (1, .int p0)] := hl
  refine lv_aload_n hx hb dX6_tell_0 rfl (lv_at hl 0 rfl) ?_
  refine lv_aload_n hx hb dX6_tell_1 rfl (lv_at hl 0 rfl) ?_
  refine lv_iload_n hx hb dX6_tell_2 rfl (lv_at hl 1 rfl) ?_
  refine yc_i (wc := [(m0, .inr (12, [.ref m1, .ref m2, .ref m3, .ref m4, .ref m5, .ref m6, .int 0, .int 0, .int th]))]) (wr := []) (va_runV (As := [.int p0]) (rest := [.ref m0]) ⟨hx, hb, hml, hown, hts⟩ (f_isWho l hfl D tE s.heap.size m0 m1 m2 m3 m4 m5 m6 th p0 0 (va_A [(m0, .inr (12, [.ref m1, .ref m2, .ref m3, .ref m4, .ref m5, .ref m6, .int 0, .int 0, .int th]))] s.heap.size) rfl) (cwV 1 hts gX6_tell_X6_isWho rfl rfl rfl (by decide +kernel) ⟨Nat.le_of_ble_eq_true rfl, Nat.le_of_ble_eq_true rfl⟩) (yPreV (wc := [(m0, .inr (12, [.ref m1, .ref m2, .ref m3, .ref m4, .ref m5, .ref m6, .int 0, .int 0, .int th]))]) (tc := []) hK hP hD hS hA hE [0] [] (by decide) rfl rfl (ci := 12) (q0 := 0) (q := (RX6, TX6, 9)) rfl rfl) rfl rfl hl.1 rfl (lv_room (Nat.le_of_ble_eq_true rfl)) dX6_tell_3 ⟨Nat.le_of_ble_eq_true rfl, Nat.le_of_ble_eq_true rfl⟩) hP hD hS hA [0] [] rfl rfl (by decide) (by decide) (fun r_1 u_2 H locs hw hP hD hS => ?_)
  have hP : va_P D vwCl [(m0, .inr (12, [.ref m1, .ref m2, .ref m3, .ref m4, .ref m5, .ref m6, .int 0, .int 0, .int th]))] H := hP
  have hD : va_D A [(m0, .inr (12, [.ref m1, .ref m2, .ref m3, .ref m4, .ref m5, .ref m6, .int 0, .int 0, .int th]))] := hD
  have hw : r_1 = 0 := hw
  subst hw
  refine lv_iconst (v := (1)) hx hb dX6_tell_6 (by decide) ?_
  refine yc_i (wc := [(m0, .inr (12, [.ref m1, .ref m2, .ref m3, .ref m4, .ref m5, .ref m6, .int 0, .int 0, .int th]))]) (wr := []) (va_runV (As := [.int 0, .int 1]) (rest := []) ⟨hx, hb, hml, hown, hts⟩ (g_no0 l hfl D tE H.size m0 m1 m2 m3 m4 m5 m6 0 0 th 1 (va_A [(m0, .inr (12, [.ref m1, .ref m2, .ref m3, .ref m4, .ref m5, .ref m6, .int 0, .int 0, .int th]))] H.size) rfl) (cwV 2 hts gX6_tell_X6_no rfl rfl rfl (by decide +kernel) ⟨Nat.le_of_ble_eq_true rfl, Nat.le_of_ble_eq_true rfl⟩) (yPreV (wc := [(m0, .inr (12, [.ref m1, .ref m2, .ref m3, .ref m4, .ref m5, .ref m6, .int 0, .int 0, .int th]))]) (tc := []) hK hP hD hS hA hE [0] [] (by decide) rfl rfl (ci := 12) (q0 := 0) (q := (RX6, TX6, 9)) rfl rfl) rfl rfl hl.1 rfl (lv_room (Nat.le_of_ble_eq_true rfl)) dX6_tell_7 ⟨Nat.le_of_ble_eq_true rfl, Nat.le_of_ble_eq_true rfl⟩) hP hD hS hA [0] [] rfl rfl (by decide) (by decide) (fun r_3 u_4 H locs hw hP hD hS => ?_)
  have hP : va_P D vwCl [(m0, .inr (12, [.ref m1, .ref m2, .ref m3, .ref m4, .ref m5, .ref m6, .int 0, .int 0, .int 1]))] H := hP
  have hD : va_D A [(m0, .inr (12, [.ref m1, .ref m2, .ref m3, .ref m4, .ref m5, .ref m6, .int 0, .int 0, .int 1]))] := hD
  have hw : r_3 = 1 := hw
  subst hw
  refine lv_if_eq (tgt := 15) hx hb dX6_tell_10 (by decide) (fun h => absurd h (by decide)) (fun _ => ?_)
  refine lv_iconst (v := (0)) hx hb dX6_tell_13 (by decide) ?_
  exact y_iret hx hb hr hlocks () rfl hP hD hS (Nat.le_of_ble_eq_true rfl) (Nat.le_of_ble_eq_true rfl) dX6_tell_14

set_option maxHeartbeats 4000000 in
set_option maxRecDepth 100000 in
theorem m_textLength (l : Launch) (hfl : l.stackTraces = false) (D : va_G) (tE : Nat) (sz : Nat) (m0 : Nat) (m1 : Nat) (m2 : Nat) (m3 : Nat) (m4 : Nat) (m5 : Nat) (m6 : Nat) (th : Int32) (p0 : Int32) (A : Nat → Prop) (hA0 : A = va_A [(m0, .inr (12, [.ref m1, .ref m2, .ref m3, .ref m4, .ref m5, .ref m6, .int 0, .int 0, .int th]))] sz) : Met l yX6_textLength wsX6_textLength (yR 2 0 0) (yP D tE [(m0, .inr (12, [.ref m1, .ref m2, .ref m3, .ref m4, .ref m5, .ref m6, .int 0, .int 0, .int th]))] [] sz [.ref m0, .int p0]) (va_Qi (S := Unit) (fun (r : Int32) (u : Unit) => r = 0) (fun (u : Unit) (t : State) => yB D A ((fun (u : Unit) => [(m0, .inr (12, [.ref m1, .ref m2, .ref m3, .ref m4, .ref m5, .ref m6, .int 0, .int 0, .int 1]))]) u) t) A) 0 0 A := by
  refine Met.ofW (cc := cX6_textLength) (maxL := 2) (ret := (some .int)) (by decide) rfl ?_
  intro p e s m args below meth c s₁ B hml hv
  obtain ⟨rfl, rfl, hP, hK, hD, hE, hA⟩ := y_start hA0 hv
  have hx := B.exec
  have hb := B.bytes
  have hr := B.returns
  have hts := atoms_spec (ws := wsX6_textLength) B.pre
  have hown : s.vm.findClass RX6 = some m.cls := findClass_of_methodNamed B.named
  have hlocks := B.notSynchronized
  clear hA0 hv
  have hS : va_S A s.heap s.heap [] := va_S.rf
  have hl := lv_entry ([.ref m0, .int p0]) (n := 2) (Nat.le_of_ble_eq_true rfl)
  rw [lg_entry_eq]
  generalize (lg_sl ([.ref m0, .int p0]) ++ List.replicate (2 - (lg_sl ([.ref m0, .int p0])).length) Slot.unset).toArray = ls at hl ⊢
  have hl : lv_has ls 2 [(0, .ref m0), (1, .int p0)] := hl
  refine lv_aload_n hx hb dX6_textLength_0 rfl (lv_at hl 0 rfl) ?_
  refine lv_aload_n hx hb dX6_textLength_1 rfl (lv_at hl 0 rfl) ?_
  refine lv_iload_n hx hb dX6_textLength_2 rfl (lv_at hl 1 rfl) ?_
  refine yc_i (wc := [(m0, .inr (12, [.ref m1, .ref m2, .ref m3, .ref m4, .ref m5, .ref m6, .int 0, .int 0, .int th]))]) (wr := []) (va_runV (As := [.int p0]) (rest := [.ref m0]) ⟨hx, hb, hml, hown, hts⟩ (f_isWho l hfl D tE s.heap.size m0 m1 m2 m3 m4 m5 m6 th p0 0 (va_A [(m0, .inr (12, [.ref m1, .ref m2, .ref m3, .ref m4, .ref m5, .ref m6, .int 0, .int 0, .int th]))] s.heap.size) rfl) (cwV 1 hts gX6_textLength_X6_isWho rfl rfl rfl (by decide +kernel) ⟨Nat.le_of_ble_eq_true rfl, Nat.le_of_ble_eq_true rfl⟩) (yPreV (wc := [(m0, .inr (12, [.ref m1, .ref m2, .ref m3, .ref m4, .ref m5, .ref m6, .int 0, .int 0, .int th]))]) (tc := []) hK hP hD hS hA hE [0] [] (by decide) rfl rfl (ci := 12) (q0 := 0) (q := (RX6, TX6, 9)) rfl rfl) rfl rfl hl.1 rfl (lv_room (Nat.le_of_ble_eq_true rfl)) dX6_textLength_3 ⟨Nat.le_of_ble_eq_true rfl, Nat.le_of_ble_eq_true rfl⟩) hP hD hS hA [0] [] rfl rfl (by decide) (by decide) (fun r_1 u_2 H locs hw hP hD hS => ?_)
  have hP : va_P D vwCl [(m0, .inr (12, [.ref m1, .ref m2, .ref m3, .ref m4, .ref m5, .ref m6, .int 0, .int 0, .int th]))] H := hP
  have hD : va_D A [(m0, .inr (12, [.ref m1, .ref m2, .ref m3, .ref m4, .ref m5, .ref m6, .int 0, .int 0, .int th]))] := hD
  have hw : r_1 = 0 := hw
  subst hw
  refine lv_iconst (v := (1)) hx hb dX6_textLength_6 (by decide) ?_
  refine yc_i (wc := [(m0, .inr (12, [.ref m1, .ref m2, .ref m3, .ref m4, .ref m5, .ref m6, .int 0, .int 0, .int th]))]) (wr := []) (va_runV (As := [.int 0, .int 1]) (rest := []) ⟨hx, hb, hml, hown, hts⟩ (g_no0 l hfl D tE H.size m0 m1 m2 m3 m4 m5 m6 0 0 th 1 (va_A [(m0, .inr (12, [.ref m1, .ref m2, .ref m3, .ref m4, .ref m5, .ref m6, .int 0, .int 0, .int th]))] H.size) rfl) (cwV 2 hts gX6_textLength_X6_no rfl rfl rfl (by decide +kernel) ⟨Nat.le_of_ble_eq_true rfl, Nat.le_of_ble_eq_true rfl⟩) (yPreV (wc := [(m0, .inr (12, [.ref m1, .ref m2, .ref m3, .ref m4, .ref m5, .ref m6, .int 0, .int 0, .int th]))]) (tc := []) hK hP hD hS hA hE [0] [] (by decide) rfl rfl (ci := 12) (q0 := 0) (q := (RX6, TX6, 9)) rfl rfl) rfl rfl hl.1 rfl (lv_room (Nat.le_of_ble_eq_true rfl)) dX6_textLength_7 ⟨Nat.le_of_ble_eq_true rfl, Nat.le_of_ble_eq_true rfl⟩) hP hD hS hA [0] [] rfl rfl (by decide) (by decide) (fun r_3 u_4 H locs hw hP hD hS => ?_)
  have hP : va_P D vwCl [(m0, .inr (12, [.ref m1, .ref m2, .ref m3, .ref m4, .ref m5, .ref m6, .int 0, .int 0, .int 1]))] H := hP
  have hD : va_D A [(m0, .inr (12, [.ref m1, .ref m2, .ref m3, .ref m4, .ref m5, .ref m6, .int 0, .int 0, .int 1]))] := hD
  have hw : r_3 = 1 := hw
  subst hw
  refine lv_if_eq (tgt := 17) hx hb dX6_textLength_10 (by decide) (fun h => absurd h (by decide)) (fun _ => ?_)
  refine lv_iconst (v := (0)) hx hb dX6_textLength_13 (by decide) ?_
  refine lv_goto (tgt := 25) hx hb dX6_textLength_14 (by decide) ?_
  exact y_iret hx hb hr hlocks () rfl hP hD hS (Nat.le_of_ble_eq_true rfl) (Nat.le_of_ble_eq_true rfl) dX6_textLength_25

set_option maxHeartbeats 4000000 in
set_option maxRecDepth 100000 in
theorem m_assign (l : Launch) (hfl : l.stackTraces = false) (D : va_G) (tE : Nat) (sz : Nat) (m0 : Nat) (m1 : Nat) (m2 : Nat) (m3 : Nat) (m4 : Nat) (m5 : Nat) (m6 : Nat) (th : Int32) (p0 : Int32) (p1 : Int32) (A : Nat → Prop) (hA0 : A = va_A [(m0, .inr (12, [.ref m1, .ref m2, .ref m3, .ref m4, .ref m5, .ref m6, .int 0, .int 0, .int th]))] sz) : Met l yX6_assign wsX6_assign (yR 2 0 0) (yP D tE [(m0, .inr (12, [.ref m1, .ref m2, .ref m3, .ref m4, .ref m5, .ref m6, .int 0, .int 0, .int th]))] [] sz [.ref m0, .int p0, .int p1]) (va_Qi (S := Unit) (fun (r : Int32) (u : Unit) => r = 0) (fun (u : Unit) (t : State) => yB D A ((fun (u : Unit) => [(m0, .inr (12, [.ref m1, .ref m2, .ref m3, .ref m4, .ref m5, .ref m6, .int 0, .int 0, .int 1]))]) u) t) A) 0 0 A := by
  refine Met.ofW (cc := cX6_assign) (maxL := 4) (ret := (some .int)) (by decide) rfl ?_
  intro p e s m args below meth c s₁ B hml hv
  obtain ⟨rfl, rfl, hP, hK, hD, hE, hA⟩ := y_start hA0 hv
  have hx := B.exec
  have hb := B.bytes
  have hr := B.returns
  have hts := atoms_spec (ws := wsX6_assign) B.pre
  have hown : s.vm.findClass RX6 = some m.cls := findClass_of_methodNamed B.named
  have hlocks := B.notSynchronized
  clear hA0 hv
  have hS : va_S A s.heap s.heap [] := va_S.rf
  have hl := lv_entry ([.ref m0, .int p0, .int p1]) (n := 4) (Nat.le_of_ble_eq_true rfl)
  rw [lg_entry_eq]
  generalize (lg_sl ([.ref m0, .int p0, .int p1]) ++ List.replicate (4 - (lg_sl ([.ref m0, .int p0, .int p1])).length) Slot.unset).toArray = ls at hl ⊢
  have hl : lv_has ls 4 [(0, .ref m0), (1, .int p0), (2, .int p1)] := hl
  refine lv_aload_n hx hb dX6_assign_0 rfl (lv_at hl 0 rfl) ?_
  refine lv_aload_n hx hb dX6_assign_1 rfl (lv_at hl 0 rfl) ?_
  refine lv_iload_n hx hb dX6_assign_2 rfl (lv_at hl 1 rfl) ?_
  refine yc_i (wc := [(m0, .inr (12, [.ref m1, .ref m2, .ref m3, .ref m4, .ref m5, .ref m6, .int 0, .int 0, .int th]))]) (wr := []) (va_runV (As := [.int p0]) (rest := [.ref m0]) ⟨hx, hb, hml, hown, hts⟩ (f_isWho l hfl D tE s.heap.size m0 m1 m2 m3 m4 m5 m6 th p0 0 (va_A [(m0, .inr (12, [.ref m1, .ref m2, .ref m3, .ref m4, .ref m5, .ref m6, .int 0, .int 0, .int th]))] s.heap.size) rfl) (cwV 1 hts gX6_assign_X6_isWho rfl rfl rfl (by decide +kernel) ⟨Nat.le_of_ble_eq_true rfl, Nat.le_of_ble_eq_true rfl⟩) (yPreV (wc := [(m0, .inr (12, [.ref m1, .ref m2, .ref m3, .ref m4, .ref m5, .ref m6, .int 0, .int 0, .int th]))]) (tc := []) hK hP hD hS hA hE [0] [] (by decide) rfl rfl (ci := 12) (q0 := 0) (q := (RX6, TX6, 9)) rfl rfl) rfl rfl hl.1 rfl (lv_room (Nat.le_of_ble_eq_true rfl)) dX6_assign_3 ⟨Nat.le_of_ble_eq_true rfl, Nat.le_of_ble_eq_true rfl⟩) hP hD hS hA [0] [] rfl rfl (by decide) (by decide) (fun r_1 u_2 H locs hw hP hD hS => ?_)
  have hP : va_P D vwCl [(m0, .inr (12, [.ref m1, .ref m2, .ref m3, .ref m4, .ref m5, .ref m6, .int 0, .int 0, .int th]))] H := hP
  have hD : va_D A [(m0, .inr (12, [.ref m1, .ref m2, .ref m3, .ref m4, .ref m5, .ref m6, .int 0, .int 0, .int th]))] := hD
  have hw : r_1 = 0 := hw
  subst hw
  refine lv_if_eq (tgt := 21) hx hb dX6_assign_6 (by decide) (fun _ => ?_) (fun h => absurd h (by decide))
  refine lv_iconst (v := (0)) hx hb dX6_assign_21 (by decide) ?_
  refine lv_iconst (v := (1)) hx hb dX6_assign_22 (by decide) ?_
  refine yc_i (wc := [(m0, .inr (12, [.ref m1, .ref m2, .ref m3, .ref m4, .ref m5, .ref m6, .int 0, .int 0, .int th]))]) (wr := []) (va_runV (As := [.int 0, .int 1]) (rest := []) ⟨hx, hb, hml, hown, hts⟩ (g_no0 l hfl D tE H.size m0 m1 m2 m3 m4 m5 m6 0 0 th 1 (va_A [(m0, .inr (12, [.ref m1, .ref m2, .ref m3, .ref m4, .ref m5, .ref m6, .int 0, .int 0, .int th]))] H.size) rfl) (cwV 2 hts gX6_assign_X6_no rfl rfl rfl (by decide +kernel) ⟨Nat.le_of_ble_eq_true rfl, Nat.le_of_ble_eq_true rfl⟩) (yPreV (wc := [(m0, .inr (12, [.ref m1, .ref m2, .ref m3, .ref m4, .ref m5, .ref m6, .int 0, .int 0, .int th]))]) (tc := []) hK hP hD hS hA hE [0] [] (by decide) rfl rfl (ci := 12) (q0 := 0) (q := (RX6, TX6, 9)) rfl rfl) rfl rfl hl.1 rfl (lv_room (Nat.le_of_ble_eq_true rfl)) dX6_assign_23 ⟨Nat.le_of_ble_eq_true rfl, Nat.le_of_ble_eq_true rfl⟩) hP hD hS hA [0] [] rfl rfl (by decide) (by decide) (fun r_3 u_4 H locs hw hP hD hS => ?_)
  have hP : va_P D vwCl [(m0, .inr (12, [.ref m1, .ref m2, .ref m3, .ref m4, .ref m5, .ref m6, .int 0, .int 0, .int 1]))] H := hP
  have hD : va_D A [(m0, .inr (12, [.ref m1, .ref m2, .ref m3, .ref m4, .ref m5, .ref m6, .int 0, .int 0, .int 1]))] := hD
  have hw : r_3 = 1 := hw
  subst hw
  refine lv_if_eq (tgt := 31) hx hb dX6_assign_26 (by decide) (fun h => absurd h (by decide)) (fun _ => ?_)
  refine lv_iconst (v := (0)) hx hb dX6_assign_29 (by decide) ?_
  exact y_iret hx hb hr hlocks () rfl hP hD hS (Nat.le_of_ble_eq_true rfl) (Nat.le_of_ble_eq_true rfl) dX6_assign_30

set_option maxHeartbeats 4000000 in
set_option maxRecDepth 100000 in
theorem m_release (l : Launch) (hfl : l.stackTraces = false) (D : va_G) (tE : Nat) (sz : Nat) (m0 : Nat) (m1 : Nat) (m2 : Nat) (m3 : Nat) (m4 : Nat) (m5 : Nat) (m6 : Nat) (th : Int32) (p0 : Int32) (A : Nat → Prop) (hA0 : A = va_A [(m0, .inr (12, [.ref m1, .ref m2, .ref m3, .ref m4, .ref m5, .ref m6, .int 0, .int 0, .int th]))] sz) : Met l yX6_release wsX6_release (yR 2 0 0) (yP D tE [(m0, .inr (12, [.ref m1, .ref m2, .ref m3, .ref m4, .ref m5, .ref m6, .int 0, .int 0, .int th]))] [] sz [.ref m0, .int p0]) (va_Qi (S := Unit) (fun (r : Int32) (u : Unit) => r = 0) (fun (u : Unit) (t : State) => yB D A ((fun (u : Unit) => [(m0, .inr (12, [.ref m1, .ref m2, .ref m3, .ref m4, .ref m5, .ref m6, .int 0, .int 0, .int 1]))]) u) t) A) 0 0 A := by
  refine Met.ofW (cc := cX6_release) (maxL := 3) (ret := (some .int)) (by decide) rfl ?_
  intro p e s m args below meth c s₁ B hml hv
  obtain ⟨rfl, rfl, hP, hK, hD, hE, hA⟩ := y_start hA0 hv
  have hx := B.exec
  have hb := B.bytes
  have hr := B.returns
  have hts := atoms_spec (ws := wsX6_release) B.pre
  have hown : s.vm.findClass RX6 = some m.cls := findClass_of_methodNamed B.named
  have hlocks := B.notSynchronized
  clear hA0 hv
  have hS : va_S A s.heap s.heap [] := va_S.rf
  have hl := lv_entry ([.ref m0, .int p0]) (n := 3) (Nat.le_of_ble_eq_true rfl)
  rw [lg_entry_eq]
  generalize (lg_sl ([.ref m0, .int p0]) ++ List.replicate (3 - (lg_sl ([.ref m0, .int p0])).length) Slot.unset).toArray = ls at hl ⊢
  have hl : lv_has ls 3 [(0, .ref m0), (1, .int p0)] := hl
  refine lv_aload_n hx hb dX6_release_0 rfl (lv_at hl 0 rfl) ?_
  refine lv_aload_n hx hb dX6_release_1 rfl (lv_at hl 0 rfl) ?_
  refine lv_iload_n hx hb dX6_release_2 rfl (lv_at hl 1 rfl) ?_
  refine yc_i (wc := [(m0, .inr (12, [.ref m1, .ref m2, .ref m3, .ref m4, .ref m5, .ref m6, .int 0, .int 0, .int th]))]) (wr := []) (va_runV (As := [.int p0]) (rest := [.ref m0]) ⟨hx, hb, hml, hown, hts⟩ (f_isWho l hfl D tE s.heap.size m0 m1 m2 m3 m4 m5 m6 th p0 0 (va_A [(m0, .inr (12, [.ref m1, .ref m2, .ref m3, .ref m4, .ref m5, .ref m6, .int 0, .int 0, .int th]))] s.heap.size) rfl) (cwV 1 hts gX6_release_X6_isWho rfl rfl rfl (by decide +kernel) ⟨Nat.le_of_ble_eq_true rfl, Nat.le_of_ble_eq_true rfl⟩) (yPreV (wc := [(m0, .inr (12, [.ref m1, .ref m2, .ref m3, .ref m4, .ref m5, .ref m6, .int 0, .int 0, .int th]))]) (tc := []) hK hP hD hS hA hE [0] [] (by decide) rfl rfl (ci := 12) (q0 := 0) (q := (RX6, TX6, 9)) rfl rfl) rfl rfl hl.1 rfl (lv_room (Nat.le_of_ble_eq_true rfl)) dX6_release_3 ⟨Nat.le_of_ble_eq_true rfl, Nat.le_of_ble_eq_true rfl⟩) hP hD hS hA [0] [] rfl rfl (by decide) (by decide) (fun r_1 u_2 H locs hw hP hD hS => ?_)
  have hP : va_P D vwCl [(m0, .inr (12, [.ref m1, .ref m2, .ref m3, .ref m4, .ref m5, .ref m6, .int 0, .int 0, .int th]))] H := hP
  have hD : va_D A [(m0, .inr (12, [.ref m1, .ref m2, .ref m3, .ref m4, .ref m5, .ref m6, .int 0, .int 0, .int th]))] := hD
  have hw : r_1 = 0 := hw
  subst hw
  refine lv_iconst (v := (1)) hx hb dX6_release_6 (by decide) ?_
  refine yc_i (wc := [(m0, .inr (12, [.ref m1, .ref m2, .ref m3, .ref m4, .ref m5, .ref m6, .int 0, .int 0, .int th]))]) (wr := []) (va_runV (As := [.int 0, .int 1]) (rest := []) ⟨hx, hb, hml, hown, hts⟩ (g_no0 l hfl D tE H.size m0 m1 m2 m3 m4 m5 m6 0 0 th 1 (va_A [(m0, .inr (12, [.ref m1, .ref m2, .ref m3, .ref m4, .ref m5, .ref m6, .int 0, .int 0, .int th]))] H.size) rfl) (cwV 2 hts gX6_release_X6_no rfl rfl rfl (by decide +kernel) ⟨Nat.le_of_ble_eq_true rfl, Nat.le_of_ble_eq_true rfl⟩) (yPreV (wc := [(m0, .inr (12, [.ref m1, .ref m2, .ref m3, .ref m4, .ref m5, .ref m6, .int 0, .int 0, .int th]))]) (tc := []) hK hP hD hS hA hE [0] [] (by decide) rfl rfl (ci := 12) (q0 := 0) (q := (RX6, TX6, 9)) rfl rfl) rfl rfl hl.1 rfl (lv_room (Nat.le_of_ble_eq_true rfl)) dX6_release_7 ⟨Nat.le_of_ble_eq_true rfl, Nat.le_of_ble_eq_true rfl⟩) hP hD hS hA [0] [] rfl rfl (by decide) (by decide) (fun r_3 u_4 H locs hw hP hD hS => ?_)
  have hP : va_P D vwCl [(m0, .inr (12, [.ref m1, .ref m2, .ref m3, .ref m4, .ref m5, .ref m6, .int 0, .int 0, .int 1]))] H := hP
  have hD : va_D A [(m0, .inr (12, [.ref m1, .ref m2, .ref m3, .ref m4, .ref m5, .ref m6, .int 0, .int 0, .int 1]))] := hD
  have hw : r_3 = 1 := hw
  subst hw
  refine lv_if_ne (tgt := 35) hx hb dX6_release_10 (by decide) (fun _ => ?_) (fun h => absurd h (by decide))
  refine lv_iconst (v := (0)) hx hb dX6_release_35 (by decide) ?_
  exact y_iret hx hb hr hlocks () rfl hP hD hS (Nat.le_of_ble_eq_true rfl) (Nat.le_of_ble_eq_true rfl) dX6_release_36

set_option maxHeartbeats 4000000 in
set_option maxRecDepth 100000 in
theorem m_postOf (l : Launch) (hfl : l.stackTraces = false) (D : va_G) (tE : Nat) (sz : Nat) (m0 : Nat) (m1 : Nat) (m2 : Nat) (m3 : Nat) (m4 : Nat) (m5 : Nat) (m6 : Nat) (th : Int32) (p0 : Int32) (A : Nat → Prop) (hA0 : A = va_A [(m0, .inr (12, [.ref m1, .ref m2, .ref m3, .ref m4, .ref m5, .ref m6, .int 0, .int 0, .int th]))] sz) : Met l yX6_postOf wsX6_postOf (yR 2 0 0) (yP D tE [(m0, .inr (12, [.ref m1, .ref m2, .ref m3, .ref m4, .ref m5, .ref m6, .int 0, .int 0, .int th]))] [] sz [.ref m0, .int p0]) (va_Qi (S := Unit) (fun (r : Int32) (u : Unit) => r = 0) (fun (u : Unit) (t : State) => yB D A ((fun (u : Unit) => [(m0, .inr (12, [.ref m1, .ref m2, .ref m3, .ref m4, .ref m5, .ref m6, .int 0, .int 0, .int 1]))]) u) t) A) 0 0 A := by
  refine Met.ofW (cc := cX6_postOf) (maxL := 2) (ret := (some .int)) (by decide) rfl ?_
  intro p e s m args below meth c s₁ B hml hv
  obtain ⟨rfl, rfl, hP, hK, hD, hE, hA⟩ := y_start hA0 hv
  have hx := B.exec
  have hb := B.bytes
  have hr := B.returns
  have hts := atoms_spec (ws := wsX6_postOf) B.pre
  have hown : s.vm.findClass RX6 = some m.cls := findClass_of_methodNamed B.named
  have hlocks := B.notSynchronized
  clear hA0 hv
  have hS : va_S A s.heap s.heap [] := va_S.rf
  have hl := lv_entry ([.ref m0, .int p0]) (n := 2) (Nat.le_of_ble_eq_true rfl)
  rw [lg_entry_eq]
  generalize (lg_sl ([.ref m0, .int p0]) ++ List.replicate (2 - (lg_sl ([.ref m0, .int p0])).length) Slot.unset).toArray = ls at hl ⊢
  have hl : lv_has ls 2 [(0, .ref m0), (1, .int p0)] := hl
  refine lv_aload_n hx hb dX6_postOf_0 rfl (lv_at hl 0 rfl) ?_
  refine lv_aload_n hx hb dX6_postOf_1 rfl (lv_at hl 0 rfl) ?_
  refine lv_iload_n hx hb dX6_postOf_2 rfl (lv_at hl 1 rfl) ?_
  refine yc_i (wc := [(m0, .inr (12, [.ref m1, .ref m2, .ref m3, .ref m4, .ref m5, .ref m6, .int 0, .int 0, .int th]))]) (wr := []) (va_runV (As := [.int p0]) (rest := [.ref m0]) ⟨hx, hb, hml, hown, hts⟩ (f_isWho l hfl D tE s.heap.size m0 m1 m2 m3 m4 m5 m6 th p0 0 (va_A [(m0, .inr (12, [.ref m1, .ref m2, .ref m3, .ref m4, .ref m5, .ref m6, .int 0, .int 0, .int th]))] s.heap.size) rfl) (cwV 1 hts gX6_postOf_X6_isWho rfl rfl rfl (by decide +kernel) ⟨Nat.le_of_ble_eq_true rfl, Nat.le_of_ble_eq_true rfl⟩) (yPreV (wc := [(m0, .inr (12, [.ref m1, .ref m2, .ref m3, .ref m4, .ref m5, .ref m6, .int 0, .int 0, .int th]))]) (tc := []) hK hP hD hS hA hE [0] [] (by decide) rfl rfl (ci := 12) (q0 := 0) (q := (RX6, TX6, 9)) rfl rfl) rfl rfl hl.1 rfl (lv_room (Nat.le_of_ble_eq_true rfl)) dX6_postOf_3 ⟨Nat.le_of_ble_eq_true rfl, Nat.le_of_ble_eq_true rfl⟩) hP hD hS hA [0] [] rfl rfl (by decide) (by decide) (fun r_1 u_2 H locs hw hP hD hS => ?_)
  have hP : va_P D vwCl [(m0, .inr (12, [.ref m1, .ref m2, .ref m3, .ref m4, .ref m5, .ref m6, .int 0, .int 0, .int th]))] H := hP
  have hD : va_D A [(m0, .inr (12, [.ref m1, .ref m2, .ref m3, .ref m4, .ref m5, .ref m6, .int 0, .int 0, .int th]))] := hD
  have hw : r_1 = 0 := hw
  subst hw
  refine lv_iconst (v := (1)) hx hb dX6_postOf_6 (by decide) ?_
  refine yc_i (wc := [(m0, .inr (12, [.ref m1, .ref m2, .ref m3, .ref m4, .ref m5, .ref m6, .int 0, .int 0, .int th]))]) (wr := []) (va_runV (As := [.int 0, .int 1]) (rest := []) ⟨hx, hb, hml, hown, hts⟩ (g_no0 l hfl D tE H.size m0 m1 m2 m3 m4 m5 m6 0 0 th 1 (va_A [(m0, .inr (12, [.ref m1, .ref m2, .ref m3, .ref m4, .ref m5, .ref m6, .int 0, .int 0, .int th]))] H.size) rfl) (cwV 2 hts gX6_postOf_X6_no rfl rfl rfl (by decide +kernel) ⟨Nat.le_of_ble_eq_true rfl, Nat.le_of_ble_eq_true rfl⟩) (yPreV (wc := [(m0, .inr (12, [.ref m1, .ref m2, .ref m3, .ref m4, .ref m5, .ref m6, .int 0, .int 0, .int th]))]) (tc := []) hK hP hD hS hA hE [0] [] (by decide) rfl rfl (ci := 12) (q0 := 0) (q := (RX6, TX6, 9)) rfl rfl) rfl rfl hl.1 rfl (lv_room (Nat.le_of_ble_eq_true rfl)) dX6_postOf_7 ⟨Nat.le_of_ble_eq_true rfl, Nat.le_of_ble_eq_true rfl⟩) hP hD hS hA [0] [] rfl rfl (by decide) (by decide) (fun r_3 u_4 H locs hw hP hD hS => ?_)
  have hP : va_P D vwCl [(m0, .inr (12, [.ref m1, .ref m2, .ref m3, .ref m4, .ref m5, .ref m6, .int 0, .int 0, .int 1]))] H := hP
  have hD : va_D A [(m0, .inr (12, [.ref m1, .ref m2, .ref m3, .ref m4, .ref m5, .ref m6, .int 0, .int 0, .int 1]))] := hD
  have hw : r_3 = 1 := hw
  subst hw
  refine lv_if_eq (tgt := 17) hx hb dX6_postOf_10 (by decide) (fun h => absurd h (by decide)) (fun _ => ?_)
  refine lv_iconst (v := (0)) hx hb dX6_postOf_13 (by decide) ?_
  refine lv_goto (tgt := 23) hx hb dX6_postOf_14 (by decide) ?_
  exact y_iret hx hb hr hlocks () rfl hP hD hS (Nat.le_of_ble_eq_true rfl) (Nat.le_of_ble_eq_true rfl) dX6_postOf_23

set_option maxHeartbeats 4000000 in
set_option maxRecDepth 100000 in
theorem m_challenger (l : Launch) (hfl : l.stackTraces = false) (D : va_G) (tE : Nat) (sz : Nat) (m0 : Nat) (m1 : Nat) (m2 : Nat) (m3 : Nat) (m4 : Nat) (m5 : Nat) (m6 : Nat) (th : Int32) (p0 : Int32) (A : Nat → Prop) (hA0 : A = va_A [(m0, .inr (12, [.ref m1, .ref m2, .ref m3, .ref m4, .ref m5, .ref m6, .int 0, .int 0, .int th]))] sz) : Met l yX6_challenger wsX6_challenger (yR 2 0 0) (yP D tE [(m0, .inr (12, [.ref m1, .ref m2, .ref m3, .ref m4, .ref m5, .ref m6, .int 0, .int 0, .int th]))] [] sz [.ref m0, .int p0]) (va_Qi (S := Unit) (fun (r : Int32) (u : Unit) => r = 0) (fun (u : Unit) (t : State) => yB D A ((fun (u : Unit) => [(m0, .inr (12, [.ref m1, .ref m2, .ref m3, .ref m4, .ref m5, .ref m6, .int 0, .int 0, .int 1]))]) u) t) A) 0 0 A := by
  refine Met.ofW (cc := cX6_challenger) (maxL := 2) (ret := (some .int)) (by decide) rfl ?_
  intro p e s m args below meth c s₁ B hml hv
  obtain ⟨rfl, rfl, hP, hK, hD, hE, hA⟩ := y_start hA0 hv
  have hx := B.exec
  have hb := B.bytes
  have hr := B.returns
  have hts := atoms_spec (ws := wsX6_challenger) B.pre
  have hown : s.vm.findClass RX6 = some m.cls := findClass_of_methodNamed B.named
  have hlocks := B.notSynchronized
  clear hA0 hv
  have hS : va_S A s.heap s.heap [] := va_S.rf
  have hl := lv_entry ([.ref m0, .int p0]) (n := 2) (Nat.le_of_ble_eq_true rfl)
  rw [lg_entry_eq]
  generalize (lg_sl ([.ref m0, .int p0]) ++ List.replicate (2 - (lg_sl ([.ref m0, .int p0])).length) Slot.unset).toArray = ls at hl ⊢
  have hl : lv_has ls 2 [(0, .ref m0), (1, .int p0)] := hl
  refine lv_aload_n hx hb dX6_challenger_0 rfl (lv_at hl 0 rfl) ?_
  refine lv_aload_n hx hb dX6_challenger_1 rfl (lv_at hl 0 rfl) ?_
  refine lv_iload_n hx hb dX6_challenger_2 rfl (lv_at hl 1 rfl) ?_
  refine yc_i (wc := [(m0, .inr (12, [.ref m1, .ref m2, .ref m3, .ref m4, .ref m5, .ref m6, .int 0, .int 0, .int th]))]) (wr := []) (va_runV (As := [.int p0]) (rest := [.ref m0]) ⟨hx, hb, hml, hown, hts⟩ (f_isWho l hfl D tE s.heap.size m0 m1 m2 m3 m4 m5 m6 th p0 0 (va_A [(m0, .inr (12, [.ref m1, .ref m2, .ref m3, .ref m4, .ref m5, .ref m6, .int 0, .int 0, .int th]))] s.heap.size) rfl) (cwV 1 hts gX6_challenger_X6_isWho rfl rfl rfl (by decide +kernel) ⟨Nat.le_of_ble_eq_true rfl, Nat.le_of_ble_eq_true rfl⟩) (yPreV (wc := [(m0, .inr (12, [.ref m1, .ref m2, .ref m3, .ref m4, .ref m5, .ref m6, .int 0, .int 0, .int th]))]) (tc := []) hK hP hD hS hA hE [0] [] (by decide) rfl rfl (ci := 12) (q0 := 0) (q := (RX6, TX6, 9)) rfl rfl) rfl rfl hl.1 rfl (lv_room (Nat.le_of_ble_eq_true rfl)) dX6_challenger_3 ⟨Nat.le_of_ble_eq_true rfl, Nat.le_of_ble_eq_true rfl⟩) hP hD hS hA [0] [] rfl rfl (by decide) (by decide) (fun r_1 u_2 H locs hw hP hD hS => ?_)
  have hP : va_P D vwCl [(m0, .inr (12, [.ref m1, .ref m2, .ref m3, .ref m4, .ref m5, .ref m6, .int 0, .int 0, .int th]))] H := hP
  have hD : va_D A [(m0, .inr (12, [.ref m1, .ref m2, .ref m3, .ref m4, .ref m5, .ref m6, .int 0, .int 0, .int th]))] := hD
  have hw : r_1 = 0 := hw
  subst hw
  refine lv_iconst (v := (1)) hx hb dX6_challenger_6 (by decide) ?_
  refine yc_i (wc := [(m0, .inr (12, [.ref m1, .ref m2, .ref m3, .ref m4, .ref m5, .ref m6, .int 0, .int 0, .int th]))]) (wr := []) (va_runV (As := [.int 0, .int 1]) (rest := []) ⟨hx, hb, hml, hown, hts⟩ (g_no0 l hfl D tE H.size m0 m1 m2 m3 m4 m5 m6 0 0 th 1 (va_A [(m0, .inr (12, [.ref m1, .ref m2, .ref m3, .ref m4, .ref m5, .ref m6, .int 0, .int 0, .int th]))] H.size) rfl) (cwV 2 hts gX6_challenger_X6_no rfl rfl rfl (by decide +kernel) ⟨Nat.le_of_ble_eq_true rfl, Nat.le_of_ble_eq_true rfl⟩) (yPreV (wc := [(m0, .inr (12, [.ref m1, .ref m2, .ref m3, .ref m4, .ref m5, .ref m6, .int 0, .int 0, .int th]))]) (tc := []) hK hP hD hS hA hE [0] [] (by decide) rfl rfl (ci := 12) (q0 := 0) (q := (RX6, TX6, 9)) rfl rfl) rfl rfl hl.1 rfl (lv_room (Nat.le_of_ble_eq_true rfl)) dX6_challenger_7 ⟨Nat.le_of_ble_eq_true rfl, Nat.le_of_ble_eq_true rfl⟩) hP hD hS hA [0] [] rfl rfl (by decide) (by decide) (fun r_3 u_4 H locs hw hP hD hS => ?_)
  have hP : va_P D vwCl [(m0, .inr (12, [.ref m1, .ref m2, .ref m3, .ref m4, .ref m5, .ref m6, .int 0, .int 0, .int 1]))] H := hP
  have hD : va_D A [(m0, .inr (12, [.ref m1, .ref m2, .ref m3, .ref m4, .ref m5, .ref m6, .int 0, .int 0, .int 1]))] := hD
  have hw : r_3 = 1 := hw
  subst hw
  refine lv_if_eq (tgt := 17) hx hb dX6_challenger_10 (by decide) (fun h => absurd h (by decide)) (fun _ => ?_)
  refine lv_iconst (v := (0)) hx hb dX6_challenger_13 (by decide) ?_
  refine lv_goto (tgt := 31) hx hb dX6_challenger_14 (by decide) ?_
  exact y_iret hx hb hr hlocks () rfl hP hD hS (Nat.le_of_ble_eq_true rfl) (Nat.le_of_ble_eq_true rfl) dX6_challenger_31

set_option maxHeartbeats 4000000 in
set_option maxRecDepth 100000 in
theorem m_popularPost (l : Launch) (hfl : l.stackTraces = false) (D : va_G) (tE : Nat) (sz : Nat) (m0 : Nat) (m1 : Nat) (m2 : Nat) (m3 : Nat) (m4 : Nat) (m5 : Nat) (m6 : Nat) (th : Int32) (p0 : Int32) (A : Nat → Prop) (hA0 : A = va_A [(m0, .inr (12, [.ref m1, .ref m2, .ref m3, .ref m4, .ref m5, .ref m6, .int 0, .int 0, .int th]))] sz) : Met l yX6_popularPost wsX6_popularPost (yR 2 0 0) (yP D tE [(m0, .inr (12, [.ref m1, .ref m2, .ref m3, .ref m4, .ref m5, .ref m6, .int 0, .int 0, .int th]))] [] sz [.ref m0, .int p0]) (va_Qi (S := Unit) (fun (r : Int32) (u : Unit) => r = 0) (fun (u : Unit) (t : State) => yB D A ((fun (u : Unit) => [(m0, .inr (12, [.ref m1, .ref m2, .ref m3, .ref m4, .ref m5, .ref m6, .int 0, .int 0, .int 1]))]) u) t) A) 0 0 A := by
  refine Met.ofW (cc := cX6_popularPost) (maxL := 3) (ret := (some .int)) (by decide) rfl ?_
  intro p e s m args below meth c s₁ B hml hv
  obtain ⟨rfl, rfl, hP, hK, hD, hE, hA⟩ := y_start hA0 hv
  have hx := B.exec
  have hb := B.bytes
  have hr := B.returns
  have hts := atoms_spec (ws := wsX6_popularPost) B.pre
  have hown : s.vm.findClass RX6 = some m.cls := findClass_of_methodNamed B.named
  have hlocks := B.notSynchronized
  clear hA0 hv
  have hS : va_S A s.heap s.heap [] := va_S.rf
  have hl := lv_entry ([.ref m0, .int p0]) (n := 3) (Nat.le_of_ble_eq_true rfl)
  rw [lg_entry_eq]
  generalize (lg_sl ([.ref m0, .int p0]) ++ List.replicate (3 - (lg_sl ([.ref m0, .int p0])).length) Slot.unset).toArray = ls at hl ⊢
  have hl : lv_has ls 3 [(0, .ref m0), (1, .int p0)] := hl
  refine lv_aload_n hx hb dX6_popularPost_0 rfl (lv_at hl 0 rfl) ?_
  refine lv_aload_n hx hb dX6_popularPost_1 rfl (lv_at hl 0 rfl) ?_
  refine lv_iload_n hx hb dX6_popularPost_2 rfl (lv_at hl 1 rfl) ?_
  refine yc_i (wc := [(m0, .inr (12, [.ref m1, .ref m2, .ref m3, .ref m4, .ref m5, .ref m6, .int 0, .int 0, .int th]))]) (wr := []) (va_runV (As := [.int p0]) (rest := [.ref m0]) ⟨hx, hb, hml, hown, hts⟩ (f_isWho l hfl D tE s.heap.size m0 m1 m2 m3 m4 m5 m6 th p0 0 (va_A [(m0, .inr (12, [.ref m1, .ref m2, .ref m3, .ref m4, .ref m5, .ref m6, .int 0, .int 0, .int th]))] s.heap.size) rfl) (cwV 1 hts gX6_popularPost_X6_isWho rfl rfl rfl (by decide +kernel) ⟨Nat.le_of_ble_eq_true rfl, Nat.le_of_ble_eq_true rfl⟩) (yPreV (wc := [(m0, .inr (12, [.ref m1, .ref m2, .ref m3, .ref m4, .ref m5, .ref m6, .int 0, .int 0, .int th]))]) (tc := []) hK hP hD hS hA hE [0] [] (by decide) rfl rfl (ci := 12) (q0 := 0) (q := (RX6, TX6, 9)) rfl rfl) rfl rfl hl.1 rfl (lv_room (Nat.le_of_ble_eq_true rfl)) dX6_popularPost_3 ⟨Nat.le_of_ble_eq_true rfl, Nat.le_of_ble_eq_true rfl⟩) hP hD hS hA [0] [] rfl rfl (by decide) (by decide) (fun r_1 u_2 H locs hw hP hD hS => ?_)
  have hP : va_P D vwCl [(m0, .inr (12, [.ref m1, .ref m2, .ref m3, .ref m4, .ref m5, .ref m6, .int 0, .int 0, .int th]))] H := hP
  have hD : va_D A [(m0, .inr (12, [.ref m1, .ref m2, .ref m3, .ref m4, .ref m5, .ref m6, .int 0, .int 0, .int th]))] := hD
  have hw : r_1 = 0 := hw
  subst hw
  refine lv_iconst (v := (1)) hx hb dX6_popularPost_6 (by decide) ?_
  refine yc_i (wc := [(m0, .inr (12, [.ref m1, .ref m2, .ref m3, .ref m4, .ref m5, .ref m6, .int 0, .int 0, .int th]))]) (wr := []) (va_runV (As := [.int 0, .int 1]) (rest := []) ⟨hx, hb, hml, hown, hts⟩ (g_no0 l hfl D tE H.size m0 m1 m2 m3 m4 m5 m6 0 0 th 1 (va_A [(m0, .inr (12, [.ref m1, .ref m2, .ref m3, .ref m4, .ref m5, .ref m6, .int 0, .int 0, .int th]))] H.size) rfl) (cwV 2 hts gX6_popularPost_X6_no rfl rfl rfl (by decide +kernel) ⟨Nat.le_of_ble_eq_true rfl, Nat.le_of_ble_eq_true rfl⟩) (yPreV (wc := [(m0, .inr (12, [.ref m1, .ref m2, .ref m3, .ref m4, .ref m5, .ref m6, .int 0, .int 0, .int th]))]) (tc := []) hK hP hD hS hA hE [0] [] (by decide) rfl rfl (ci := 12) (q0 := 0) (q := (RX6, TX6, 9)) rfl rfl) rfl rfl hl.1 rfl (lv_room (Nat.le_of_ble_eq_true rfl)) dX6_popularPost_7 ⟨Nat.le_of_ble_eq_true rfl, Nat.le_of_ble_eq_true rfl⟩) hP hD hS hA [0] [] rfl rfl (by decide) (by decide) (fun r_3 u_4 H locs hw hP hD hS => ?_)
  have hP : va_P D vwCl [(m0, .inr (12, [.ref m1, .ref m2, .ref m3, .ref m4, .ref m5, .ref m6, .int 0, .int 0, .int 1]))] H := hP
  have hD : va_D A [(m0, .inr (12, [.ref m1, .ref m2, .ref m3, .ref m4, .ref m5, .ref m6, .int 0, .int 0, .int 1]))] := hD
  have hw : r_3 = 1 := hw
  subst hw
  refine lv_if_ne (tgt := 25) hx hb dX6_popularPost_10 (by decide) (fun _ => ?_) (fun h => absurd h (by decide))
  refine lv_iconst (v := (0)) hx hb dX6_popularPost_25 (by decide) ?_
  exact y_iret hx hb hr hlocks () rfl hP hD hS (Nat.le_of_ble_eq_true rfl) (Nat.le_of_ble_eq_true rfl) dX6_popularPost_26

set_option maxHeartbeats 4000000 in
set_option maxRecDepth 100000 in
theorem m_bestPost (l : Launch) (hfl : l.stackTraces = false) (D : va_G) (tE : Nat) (sz : Nat) (m0 : Nat) (m1 : Nat) (m2 : Nat) (m3 : Nat) (m4 : Nat) (m5 : Nat) (m6 : Nat) (th : Int32) (p0 : Int32) (A : Nat → Prop) (hA0 : A = va_A [(m0, .inr (12, [.ref m1, .ref m2, .ref m3, .ref m4, .ref m5, .ref m6, .int 0, .int 0, .int th]))] sz) : Met l yX6_bestPost wsX6_bestPost (yR 2 0 0) (yP D tE [(m0, .inr (12, [.ref m1, .ref m2, .ref m3, .ref m4, .ref m5, .ref m6, .int 0, .int 0, .int th]))] [] sz [.ref m0, .int p0]) (va_Qi (S := Unit) (fun (r : Int32) (u : Unit) => r = 0) (fun (u : Unit) (t : State) => yB D A ((fun (u : Unit) => [(m0, .inr (12, [.ref m1, .ref m2, .ref m3, .ref m4, .ref m5, .ref m6, .int 0, .int 0, .int 1]))]) u) t) A) 0 0 A := by
  refine Met.ofW (cc := cX6_bestPost) (maxL := 2) (ret := (some .int)) (by decide) rfl ?_
  intro p e s m args below meth c s₁ B hml hv
  obtain ⟨rfl, rfl, hP, hK, hD, hE, hA⟩ := y_start hA0 hv
  have hx := B.exec
  have hb := B.bytes
  have hr := B.returns
  have hts := atoms_spec (ws := wsX6_bestPost) B.pre
  have hown : s.vm.findClass RX6 = some m.cls := findClass_of_methodNamed B.named
  have hlocks := B.notSynchronized
  clear hA0 hv
  have hS : va_S A s.heap s.heap [] := va_S.rf
  have hl := lv_entry ([.ref m0, .int p0]) (n := 2) (Nat.le_of_ble_eq_true rfl)
  rw [lg_entry_eq]
  generalize (lg_sl ([.ref m0, .int p0]) ++ List.replicate (2 - (lg_sl ([.ref m0, .int p0])).length) Slot.unset).toArray = ls at hl ⊢
  have hl : lv_has ls 2 [(0, .ref m0), (1, .int p0)] := hl
  refine lv_aload_n hx hb dX6_bestPost_0 rfl (lv_at hl 0 rfl) ?_
  refine lv_aload_n hx hb dX6_bestPost_1 rfl (lv_at hl 0 rfl) ?_
  refine lv_iload_n hx hb dX6_bestPost_2 rfl (lv_at hl 1 rfl) ?_
  refine yc_i (wc := [(m0, .inr (12, [.ref m1, .ref m2, .ref m3, .ref m4, .ref m5, .ref m6, .int 0, .int 0, .int th]))]) (wr := []) (va_runV (As := [.int p0]) (rest := [.ref m0]) ⟨hx, hb, hml, hown, hts⟩ (f_isWho l hfl D tE s.heap.size m0 m1 m2 m3 m4 m5 m6 th p0 0 (va_A [(m0, .inr (12, [.ref m1, .ref m2, .ref m3, .ref m4, .ref m5, .ref m6, .int 0, .int 0, .int th]))] s.heap.size) rfl) (cwV 1 hts gX6_bestPost_X6_isWho rfl rfl rfl (by decide +kernel) ⟨Nat.le_of_ble_eq_true rfl, Nat.le_of_ble_eq_true rfl⟩) (yPreV (wc := [(m0, .inr (12, [.ref m1, .ref m2, .ref m3, .ref m4, .ref m5, .ref m6, .int 0, .int 0, .int th]))]) (tc := []) hK hP hD hS hA hE [0] [] (by decide) rfl rfl (ci := 12) (q0 := 0) (q := (RX6, TX6, 9)) rfl rfl) rfl rfl hl.1 rfl (lv_room (Nat.le_of_ble_eq_true rfl)) dX6_bestPost_3 ⟨Nat.le_of_ble_eq_true rfl, Nat.le_of_ble_eq_true rfl⟩) hP hD hS hA [0] [] rfl rfl (by decide) (by decide) (fun r_1 u_2 H locs hw hP hD hS => ?_)
  have hP : va_P D vwCl [(m0, .inr (12, [.ref m1, .ref m2, .ref m3, .ref m4, .ref m5, .ref m6, .int 0, .int 0, .int th]))] H := hP
  have hD : va_D A [(m0, .inr (12, [.ref m1, .ref m2, .ref m3, .ref m4, .ref m5, .ref m6, .int 0, .int 0, .int th]))] := hD
  have hw : r_1 = 0 := hw
  subst hw
  refine lv_iconst (v := (1)) hx hb dX6_bestPost_6 (by decide) ?_
  refine yc_i (wc := [(m0, .inr (12, [.ref m1, .ref m2, .ref m3, .ref m4, .ref m5, .ref m6, .int 0, .int 0, .int th]))]) (wr := []) (va_runV (As := [.int 0, .int 1]) (rest := []) ⟨hx, hb, hml, hown, hts⟩ (g_no0 l hfl D tE H.size m0 m1 m2 m3 m4 m5 m6 0 0 th 1 (va_A [(m0, .inr (12, [.ref m1, .ref m2, .ref m3, .ref m4, .ref m5, .ref m6, .int 0, .int 0, .int th]))] H.size) rfl) (cwV 2 hts gX6_bestPost_X6_no rfl rfl rfl (by decide +kernel) ⟨Nat.le_of_ble_eq_true rfl, Nat.le_of_ble_eq_true rfl⟩) (yPreV (wc := [(m0, .inr (12, [.ref m1, .ref m2, .ref m3, .ref m4, .ref m5, .ref m6, .int 0, .int 0, .int th]))]) (tc := []) hK hP hD hS hA hE [0] [] (by decide) rfl rfl (ci := 12) (q0 := 0) (q := (RX6, TX6, 9)) rfl rfl) rfl rfl hl.1 rfl (lv_room (Nat.le_of_ble_eq_true rfl)) dX6_bestPost_7 ⟨Nat.le_of_ble_eq_true rfl, Nat.le_of_ble_eq_true rfl⟩) hP hD hS hA [0] [] rfl rfl (by decide) (by decide) (fun r_3 u_4 H locs hw hP hD hS => ?_)
  have hP : va_P D vwCl [(m0, .inr (12, [.ref m1, .ref m2, .ref m3, .ref m4, .ref m5, .ref m6, .int 0, .int 0, .int 1]))] H := hP
  have hD : va_D A [(m0, .inr (12, [.ref m1, .ref m2, .ref m3, .ref m4, .ref m5, .ref m6, .int 0, .int 0, .int 1]))] := hD
  have hw : r_3 = 1 := hw
  subst hw
  refine lv_if_eq (tgt := 17) hx hb dX6_bestPost_10 (by decide) (fun h => absurd h (by decide)) (fun _ => ?_)
  refine lv_iconst (v := (0)) hx hb dX6_bestPost_13 (by decide) ?_
  refine lv_goto (tgt := 27) hx hb dX6_bestPost_14 (by decide) ?_
  exact y_iret hx hb hr hlocks () rfl hP hD hS (Nat.le_of_ble_eq_true rfl) (Nat.le_of_ble_eq_true rfl) dX6_bestPost_27

set_option maxHeartbeats 4000000 in
set_option maxRecDepth 100000 in
theorem m_setPlaces (l : Launch) (hfl : l.stackTraces = false) (D : va_G) (tE : Nat) (sz : Nat) (m0 : Nat) (m1 : Nat) (m2 : Nat) (m3 : Nat) (m4 : Nat) (m5 : Nat) (m6 : Nat) (th : Int32) (p0 : Int32) (p1 : Int32) (A : Nat → Prop) (hA0 : A = va_A [(m0, .inr (12, [.ref m1, .ref m2, .ref m3, .ref m4, .ref m5, .ref m6, .int 0, .int 0, .int th]))] sz) : Met l yX6_setPlaces wsX6_setPlaces (yR 2 0 0) (yP D tE [(m0, .inr (12, [.ref m1, .ref m2, .ref m3, .ref m4, .ref m5, .ref m6, .int 0, .int 0, .int th]))] [] sz [.ref m0, .int p0, .int p1]) (va_Qi (S := Unit) (fun (r : Int32) (u : Unit) => r = 0) (fun (u : Unit) (t : State) => yB D A ((fun (u : Unit) => [(m0, .inr (12, [.ref m1, .ref m2, .ref m3, .ref m4, .ref m5, .ref m6, .int 0, .int 0, .int 1]))]) u) t) A) 0 0 A := by
  refine Met.ofW (cc := cX6_setPlaces) (maxL := 4) (ret := (some .int)) (by decide) rfl ?_
  intro p e s m args below meth c s₁ B hml hv
  obtain ⟨rfl, rfl, hP, hK, hD, hE, hA⟩ := y_start hA0 hv
  have hx := B.exec
  have hb := B.bytes
  have hr := B.returns
  have hts := atoms_spec (ws := wsX6_setPlaces) B.pre
  have hown : s.vm.findClass RX6 = some m.cls := findClass_of_methodNamed B.named
  have hlocks := B.notSynchronized
  clear hA0 hv
  have hS : va_S A s.heap s.heap [] := va_S.rf
  have hl := lv_entry ([.ref m0, .int p0, .int p1]) (n := 4) (Nat.le_of_ble_eq_true rfl)
  rw [lg_entry_eq]
  generalize (lg_sl ([.ref m0, .int p0, .int p1]) ++ List.replicate (4 - (lg_sl ([.ref m0, .int p0, .int p1])).length) Slot.unset).toArray = ls at hl ⊢
  have hl : lv_has ls 4 [(0, .ref m0), (1, .int p0), (2, .int p1)] := hl
  refine lv_aload_n hx hb dX6_setPlaces_0 rfl (lv_at hl 0 rfl) ?_
  refine lv_aload_n hx hb dX6_setPlaces_1 rfl (lv_at hl 0 rfl) ?_
  refine lv_iload_n hx hb dX6_setPlaces_2 rfl (lv_at hl 1 rfl) ?_
  refine yc_i (wc := [(m0, .inr (12, [.ref m1, .ref m2, .ref m3, .ref m4, .ref m5, .ref m6, .int 0, .int 0, .int th]))]) (wr := []) (va_runV (As := [.int p0]) (rest := [.ref m0]) ⟨hx, hb, hml, hown, hts⟩ (f_isPost l hfl D tE s.heap.size m0 m1 m2 m3 m4 m5 m6 th p0 0 (va_A [(m0, .inr (12, [.ref m1, .ref m2, .ref m3, .ref m4, .ref m5, .ref m6, .int 0, .int 0, .int th]))] s.heap.size) rfl) (cwV 1 hts gX6_setPlaces_X6_isPost rfl rfl rfl (by decide +kernel) ⟨Nat.le_of_ble_eq_true rfl, Nat.le_of_ble_eq_true rfl⟩) (yPreV (wc := [(m0, .inr (12, [.ref m1, .ref m2, .ref m3, .ref m4, .ref m5, .ref m6, .int 0, .int 0, .int th]))]) (tc := []) hK hP hD hS hA hE [0] [] (by decide) rfl rfl (ci := 12) (q0 := 0) (q := (RX6, TX6, 9)) rfl rfl) rfl rfl hl.1 rfl (lv_room (Nat.le_of_ble_eq_true rfl)) dX6_setPlaces_3 ⟨Nat.le_of_ble_eq_true rfl, Nat.le_of_ble_eq_true rfl⟩) hP hD hS hA [0] [] rfl rfl (by decide) (by decide) (fun r_1 u_2 H locs hw hP hD hS => ?_)
  have hP : va_P D vwCl [(m0, .inr (12, [.ref m1, .ref m2, .ref m3, .ref m4, .ref m5, .ref m6, .int 0, .int 0, .int th]))] H := hP
  have hD : va_D A [(m0, .inr (12, [.ref m1, .ref m2, .ref m3, .ref m4, .ref m5, .ref m6, .int 0, .int 0, .int th]))] := hD
  have hw : r_1 = 0 := hw
  subst hw
  refine lv_iconst (v := (1)) hx hb dX6_setPlaces_6 (by decide) ?_
  refine yc_i (wc := [(m0, .inr (12, [.ref m1, .ref m2, .ref m3, .ref m4, .ref m5, .ref m6, .int 0, .int 0, .int th]))]) (wr := []) (va_runV (As := [.int 0, .int 1]) (rest := []) ⟨hx, hb, hml, hown, hts⟩ (g_no0 l hfl D tE H.size m0 m1 m2 m3 m4 m5 m6 0 0 th 1 (va_A [(m0, .inr (12, [.ref m1, .ref m2, .ref m3, .ref m4, .ref m5, .ref m6, .int 0, .int 0, .int th]))] H.size) rfl) (cwV 2 hts gX6_setPlaces_X6_no rfl rfl rfl (by decide +kernel) ⟨Nat.le_of_ble_eq_true rfl, Nat.le_of_ble_eq_true rfl⟩) (yPreV (wc := [(m0, .inr (12, [.ref m1, .ref m2, .ref m3, .ref m4, .ref m5, .ref m6, .int 0, .int 0, .int th]))]) (tc := []) hK hP hD hS hA hE [0] [] (by decide) rfl rfl (ci := 12) (q0 := 0) (q := (RX6, TX6, 9)) rfl rfl) rfl rfl hl.1 rfl (lv_room (Nat.le_of_ble_eq_true rfl)) dX6_setPlaces_7 ⟨Nat.le_of_ble_eq_true rfl, Nat.le_of_ble_eq_true rfl⟩) hP hD hS hA [0] [] rfl rfl (by decide) (by decide) (fun r_3 u_4 H locs hw hP hD hS => ?_)
  have hP : va_P D vwCl [(m0, .inr (12, [.ref m1, .ref m2, .ref m3, .ref m4, .ref m5, .ref m6, .int 0, .int 0, .int 1]))] H := hP
  have hD : va_D A [(m0, .inr (12, [.ref m1, .ref m2, .ref m3, .ref m4, .ref m5, .ref m6, .int 0, .int 0, .int 1]))] := hD
  have hw : r_3 = 1 := hw
  subst hw
  refine lv_if_ne (tgt := 53) hx hb dX6_setPlaces_10 (by decide) (fun _ => ?_) (fun h => absurd h (by decide))
  refine lv_iconst (v := (0)) hx hb dX6_setPlaces_53 (by decide) ?_
  exact y_iret hx hb hr hlocks () rfl hP hD hS (Nat.le_of_ble_eq_true rfl) (Nat.le_of_ble_eq_true rfl) dX6_setPlaces_54

set_option maxHeartbeats 4000000 in
set_option maxRecDepth 100000 in
theorem m_freeOf (l : Launch) (hfl : l.stackTraces = false) (D : va_G) (tE : Nat) (sz : Nat) (m0 : Nat) (m1 : Nat) (m2 : Nat) (m3 : Nat) (m4 : Nat) (m5 : Nat) (m6 : Nat) (th : Int32) (p0 : Int32) (A : Nat → Prop) (hA0 : A = va_A [(m0, .inr (12, [.ref m1, .ref m2, .ref m3, .ref m4, .ref m5, .ref m6, .int 0, .int 0, .int th]))] sz) : Met l yX6_freeOf wsX6_freeOf (yR 2 0 0) (yP D tE [(m0, .inr (12, [.ref m1, .ref m2, .ref m3, .ref m4, .ref m5, .ref m6, .int 0, .int 0, .int th]))] [] sz [.ref m0, .int p0]) (va_Qi (S := Unit) (fun (r : Int32) (u : Unit) => r = 0) (fun (u : Unit) (t : State) => yB D A ((fun (u : Unit) => [(m0, .inr (12, [.ref m1, .ref m2, .ref m3, .ref m4, .ref m5, .ref m6, .int 0, .int 0, .int 1]))]) u) t) A) 0 0 A := by
  refine Met.ofW (cc := cX6_freeOf) (maxL := 2) (ret := (some .int)) (by decide) rfl ?_
  intro p e s m args below meth c s₁ B hml hv
  obtain ⟨rfl, rfl, hP, hK, hD, hE, hA⟩ := y_start hA0 hv
  have hx := B.exec
  have hb := B.bytes
  have hr := B.returns
  have hts := atoms_spec (ws := wsX6_freeOf) B.pre
  have hown : s.vm.findClass RX6 = some m.cls := findClass_of_methodNamed B.named
  have hlocks := B.notSynchronized
  clear hA0 hv
  have hS : va_S A s.heap s.heap [] := va_S.rf
  have hl := lv_entry ([.ref m0, .int p0]) (n := 2) (Nat.le_of_ble_eq_true rfl)
  rw [lg_entry_eq]
  generalize (lg_sl ([.ref m0, .int p0]) ++ List.replicate (2 - (lg_sl ([.ref m0, .int p0])).length) Slot.unset).toArray = ls at hl ⊢
  have hl : lv_has ls 2 [(0, .ref m0), (1, .int p0)] := hl
  refine lv_aload_n hx hb dX6_freeOf_0 rfl (lv_at hl 0 rfl) ?_
  refine lv_aload_n hx hb dX6_freeOf_1 rfl (lv_at hl 0 rfl) ?_
  refine lv_iload_n hx hb dX6_freeOf_2 rfl (lv_at hl 1 rfl) ?_
  refine yc_i (wc := [(m0, .inr (12, [.ref m1, .ref m2, .ref m3, .ref m4, .ref m5, .ref m6, .int 0, .int 0, .int th]))]) (wr := []) (va_runV (As := [.int p0]) (rest := [.ref m0]) ⟨hx, hb, hml, hown, hts⟩ (f_isPost l hfl D tE s.heap.size m0 m1 m2 m3 m4 m5 m6 th p0 0 (va_A [(m0, .inr (12, [.ref m1, .ref m2, .ref m3, .ref m4, .ref m5, .ref m6, .int 0, .int 0, .int th]))] s.heap.size) rfl) (cwV 1 hts gX6_freeOf_X6_isPost rfl rfl rfl (by decide +kernel) ⟨Nat.le_of_ble_eq_true rfl, Nat.le_of_ble_eq_true rfl⟩) (yPreV (wc := [(m0, .inr (12, [.ref m1, .ref m2, .ref m3, .ref m4, .ref m5, .ref m6, .int 0, .int 0, .int th]))]) (tc := []) hK hP hD hS hA hE [0] [] (by decide) rfl rfl (ci := 12) (q0 := 0) (q := (RX6, TX6, 9)) rfl rfl) rfl rfl hl.1 rfl (lv_room (Nat.le_of_ble_eq_true rfl)) dX6_freeOf_3 ⟨Nat.le_of_ble_eq_true rfl, Nat.le_of_ble_eq_true rfl⟩) hP hD hS hA [0] [] rfl rfl (by decide) (by decide) (fun r_1 u_2 H locs hw hP hD hS => ?_)
  have hP : va_P D vwCl [(m0, .inr (12, [.ref m1, .ref m2, .ref m3, .ref m4, .ref m5, .ref m6, .int 0, .int 0, .int th]))] H := hP
  have hD : va_D A [(m0, .inr (12, [.ref m1, .ref m2, .ref m3, .ref m4, .ref m5, .ref m6, .int 0, .int 0, .int th]))] := hD
  have hw : r_1 = 0 := hw
  subst hw
  refine lv_iconst (v := (1)) hx hb dX6_freeOf_6 (by decide) ?_
  refine yc_i (wc := [(m0, .inr (12, [.ref m1, .ref m2, .ref m3, .ref m4, .ref m5, .ref m6, .int 0, .int 0, .int th]))]) (wr := []) (va_runV (As := [.int 0, .int 1]) (rest := []) ⟨hx, hb, hml, hown, hts⟩ (g_no0 l hfl D tE H.size m0 m1 m2 m3 m4 m5 m6 0 0 th 1 (va_A [(m0, .inr (12, [.ref m1, .ref m2, .ref m3, .ref m4, .ref m5, .ref m6, .int 0, .int 0, .int th]))] H.size) rfl) (cwV 2 hts gX6_freeOf_X6_no rfl rfl rfl (by decide +kernel) ⟨Nat.le_of_ble_eq_true rfl, Nat.le_of_ble_eq_true rfl⟩) (yPreV (wc := [(m0, .inr (12, [.ref m1, .ref m2, .ref m3, .ref m4, .ref m5, .ref m6, .int 0, .int 0, .int th]))]) (tc := []) hK hP hD hS hA hE [0] [] (by decide) rfl rfl (ci := 12) (q0 := 0) (q := (RX6, TX6, 9)) rfl rfl) rfl rfl hl.1 rfl (lv_room (Nat.le_of_ble_eq_true rfl)) dX6_freeOf_7 ⟨Nat.le_of_ble_eq_true rfl, Nat.le_of_ble_eq_true rfl⟩) hP hD hS hA [0] [] rfl rfl (by decide) (by decide) (fun r_3 u_4 H locs hw hP hD hS => ?_)
  have hP : va_P D vwCl [(m0, .inr (12, [.ref m1, .ref m2, .ref m3, .ref m4, .ref m5, .ref m6, .int 0, .int 0, .int 1]))] H := hP
  have hD : va_D A [(m0, .inr (12, [.ref m1, .ref m2, .ref m3, .ref m4, .ref m5, .ref m6, .int 0, .int 0, .int 1]))] := hD
  have hw : r_3 = 1 := hw
  subst hw
  refine lv_if_eq (tgt := 17) hx hb dX6_freeOf_10 (by decide) (fun h => absurd h (by decide)) (fun _ => ?_)
  refine lv_iconst (v := (0)) hx hb dX6_freeOf_13 (by decide) ?_
  refine lv_goto (tgt := 33) hx hb dX6_freeOf_14 (by decide) ?_
  exact y_iret hx hb hr hlocks () rfl hP hD hS (Nat.le_of_ble_eq_true rfl) (Nat.le_of_ble_eq_true rfl) dX6_freeOf_33

set_option maxHeartbeats 4000000 in
set_option maxRecDepth 100000 in
theorem m_isSure (l : Launch) (hfl : l.stackTraces = false) (D : va_G) (tE : Nat) (sz : Nat) (m0 : Nat) (m1 : Nat) (m2 : Nat) (m3 : Nat) (m4 : Nat) (m5 : Nat) (m6 : Nat) (th : Int32) (p0 : Int32) (A : Nat → Prop) (hA0 : A = va_A [(m0, .inr (12, [.ref m1, .ref m2, .ref m3, .ref m4, .ref m5, .ref m6, .int 0, .int 0, .int th]))] sz) : Met l yX6_isSure wsX6_isSure (yR 2 0 0) (yP D tE [(m0, .inr (12, [.ref m1, .ref m2, .ref m3, .ref m4, .ref m5, .ref m6, .int 0, .int 0, .int th]))] [] sz [.ref m0, .int p0]) (va_Qi (S := Unit) (fun (r : Int32) (u : Unit) => r = 0) (fun (u : Unit) (t : State) => yB D A ((fun (u : Unit) => [(m0, .inr (12, [.ref m1, .ref m2, .ref m3, .ref m4, .ref m5, .ref m6, .int 0, .int 0, .int 1]))]) u) t) A) 0 0 A := by
  refine Met.ofW (cc := cX6_isSure) (maxL := 5) (ret := (some .boolean)) (by decide) rfl ?_
  intro p e s m args below meth c s₁ B hml hv
  obtain ⟨rfl, rfl, hP, hK, hD, hE, hA⟩ := y_start hA0 hv
  have hx := B.exec
  have hb := B.bytes
  have hr := B.returns
  have hts := atoms_spec (ws := wsX6_isSure) B.pre
  have hown : s.vm.findClass RX6 = some m.cls := findClass_of_methodNamed B.named
  have hlocks := B.notSynchronized
  clear hA0 hv
  have hS : va_S A s.heap s.heap [] := va_S.rf
  have hl := lv_entry ([.ref m0, .int p0]) (n := 5) (Nat.le_of_ble_eq_true rfl)
  rw [lg_entry_eq]
  generalize (lg_sl ([.ref m0, .int p0]) ++ List.replicate (5 - (lg_sl ([.ref m0, .int p0])).length) Slot.unset).toArray = ls at hl ⊢
  have hl : lv_has ls 5 [(0, .ref m0), (1, .int p0)] := hl
  refine lv_aload_n hx hb dX6_isSure_0 rfl (lv_at hl 0 rfl) ?_
  refine lv_aload_n hx hb dX6_isSure_1 rfl (lv_at hl 0 rfl) ?_
  refine lv_iload_n hx hb dX6_isSure_2 rfl (lv_at hl 1 rfl) ?_
  refine yc_i (wc := [(m0, .inr (12, [.ref m1, .ref m2, .ref m3, .ref m4, .ref m5, .ref m6, .int 0, .int 0, .int th]))]) (wr := []) (va_runV (As := [.int p0]) (rest := [.ref m0]) ⟨hx, hb, hml, hown, hts⟩ (f_isWho l hfl D tE s.heap.size m0 m1 m2 m3 m4 m5 m6 th p0 0 (va_A [(m0, .inr (12, [.ref m1, .ref m2, .ref m3, .ref m4, .ref m5, .ref m6, .int 0, .int 0, .int th]))] s.heap.size) rfl) (cwV 1 hts gX6_isSure_X6_isWho rfl rfl rfl (by decide +kernel) ⟨Nat.le_of_ble_eq_true rfl, Nat.le_of_ble_eq_true rfl⟩) (yPreV (wc := [(m0, .inr (12, [.ref m1, .ref m2, .ref m3, .ref m4, .ref m5, .ref m6, .int 0, .int 0, .int th]))]) (tc := []) hK hP hD hS hA hE [0] [] (by decide) rfl rfl (ci := 12) (q0 := 0) (q := (RX6, TX6, 9)) rfl rfl) rfl rfl hl.1 rfl (lv_room (Nat.le_of_ble_eq_true rfl)) dX6_isSure_3 ⟨Nat.le_of_ble_eq_true rfl, Nat.le_of_ble_eq_true rfl⟩) hP hD hS hA [0] [] rfl rfl (by decide) (by decide) (fun r_1 u_2 H locs hw hP hD hS => ?_)
  have hP : va_P D vwCl [(m0, .inr (12, [.ref m1, .ref m2, .ref m3, .ref m4, .ref m5, .ref m6, .int 0, .int 0, .int th]))] H := hP
  have hD : va_D A [(m0, .inr (12, [.ref m1, .ref m2, .ref m3, .ref m4, .ref m5, .ref m6, .int 0, .int 0, .int th]))] := hD
  have hw : r_1 = 0 := hw
  subst hw
  refine lv_iconst (v := (1)) hx hb dX6_isSure_6 (by decide) ?_
  refine yc_i (wc := [(m0, .inr (12, [.ref m1, .ref m2, .ref m3, .ref m4, .ref m5, .ref m6, .int 0, .int 0, .int th]))]) (wr := []) (va_runV (As := [.int 0, .int 1]) (rest := []) ⟨hx, hb, hml, hown, hts⟩ (g_no0 l hfl D tE H.size m0 m1 m2 m3 m4 m5 m6 0 0 th 1 (va_A [(m0, .inr (12, [.ref m1, .ref m2, .ref m3, .ref m4, .ref m5, .ref m6, .int 0, .int 0, .int th]))] H.size) rfl) (cwV 2 hts gX6_isSure_X6_no rfl rfl rfl (by decide +kernel) ⟨Nat.le_of_ble_eq_true rfl, Nat.le_of_ble_eq_true rfl⟩) (yPreV (wc := [(m0, .inr (12, [.ref m1, .ref m2, .ref m3, .ref m4, .ref m5, .ref m6, .int 0, .int 0, .int th]))]) (tc := []) hK hP hD hS hA hE [0] [] (by decide) rfl rfl (ci := 12) (q0 := 0) (q := (RX6, TX6, 9)) rfl rfl) rfl rfl hl.1 rfl (lv_room (Nat.le_of_ble_eq_true rfl)) dX6_isSure_7 ⟨Nat.le_of_ble_eq_true rfl, Nat.le_of_ble_eq_true rfl⟩) hP hD hS hA [0] [] rfl rfl (by decide) (by decide) (fun r_3 u_4 H locs hw hP hD hS => ?_)
  have hP : va_P D vwCl [(m0, .inr (12, [.ref m1, .ref m2, .ref m3, .ref m4, .ref m5, .ref m6, .int 0, .int 0, .int 1]))] H := hP
  have hD : va_D A [(m0, .inr (12, [.ref m1, .ref m2, .ref m3, .ref m4, .ref m5, .ref m6, .int 0, .int 0, .int 1]))] := hD
  have hw : r_3 = 1 := hw
  subst hw
  refine lv_if_eq (tgt := 15) hx hb dX6_isSure_10 (by decide) (fun h => absurd h (by decide)) (fun _ => ?_)
  refine lv_iconst (v := (0)) hx hb dX6_isSure_13 (by decide) ?_
  exact y_zret hx hb hr hlocks (by decide) () rfl hP hD hS (Nat.le_of_ble_eq_true rfl) (Nat.le_of_ble_eq_true rfl) dX6_isSure_14

set_option maxHeartbeats 4000000 in
set_option maxRecDepth 100000 in
theorem m_gains (l : Launch) (hfl : l.stackTraces = false) (D : va_G) (tE : Nat) (sz : Nat) (m0 : Nat) (m1 : Nat) (m2 : Nat) (m3 : Nat) (m4 : Nat) (m5 : Nat) (m6 : Nat) (th : Int32) (p0 : Int32) (p1 : Int32) (A : Nat → Prop) (hA0 : A = va_A [(m0, .inr (12, [.ref m1, .ref m2, .ref m3, .ref m4, .ref m5, .ref m6, .int 0, .int 0, .int th]))] sz) : Met l yX6_gains wsX6_gains (yR 2 0 0) (yP D tE [(m0, .inr (12, [.ref m1, .ref m2, .ref m3, .ref m4, .ref m5, .ref m6, .int 0, .int 0, .int th]))] [] sz [.ref m0, .int p0, .int p1]) (va_Qi (S := Unit) (fun (r : Int32) (u : Unit) => r = 0) (fun (u : Unit) (t : State) => yB D A ((fun (u : Unit) => [(m0, .inr (12, [.ref m1, .ref m2, .ref m3, .ref m4, .ref m5, .ref m6, .int 0, .int 0, .int 1]))]) u) t) A) 0 0 A := by
  refine Met.ofW (cc := cX6_gains) (maxL := 7) (ret := (some .boolean)) (by decide) rfl ?_
  intro p e s m args below meth c s₁ B hml hv
  obtain ⟨rfl, rfl, hP, hK, hD, hE, hA⟩ := y_start hA0 hv
  have hx := B.exec
  have hb := B.bytes
  have hr := B.returns
  have hts := atoms_spec (ws := wsX6_gains) B.pre
  have hown : s.vm.findClass RX6 = some m.cls := findClass_of_methodNamed B.named
  have hlocks := B.notSynchronized
  clear hA0 hv
  have hS : va_S A s.heap s.heap [] := va_S.rf
  have hl := lv_entry ([.ref m0, .int p0, .int p1]) (n := 7) (Nat.le_of_ble_eq_true rfl)
  rw [lg_entry_eq]
  generalize (lg_sl ([.ref m0, .int p0, .int p1]) ++ List.replicate (7 - (lg_sl ([.ref m0, .int p0, .int p1])).length) Slot.unset).toArray = ls at hl ⊢
  have hl : lv_has ls 7 [(0, .ref m0), (1, .int p0), (2, .int p1)] := hl
  refine lv_aload_n hx hb dX6_gains_0 rfl (lv_at hl 0 rfl) ?_
  refine lv_aload_n hx hb dX6_gains_1 rfl (lv_at hl 0 rfl) ?_
  refine lv_iload_n hx hb dX6_gains_2 rfl (lv_at hl 1 rfl) ?_
  refine yc_i (wc := [(m0, .inr (12, [.ref m1, .ref m2, .ref m3, .ref m4, .ref m5, .ref m6, .int 0, .int 0, .int th]))]) (wr := []) (va_runV (As := [.int p0]) (rest := [.ref m0]) ⟨hx, hb, hml, hown, hts⟩ (f_isWho l hfl D tE s.heap.size m0 m1 m2 m3 m4 m5 m6 th p0 0 (va_A [(m0, .inr (12, [.ref m1, .ref m2, .ref m3, .ref m4, .ref m5, .ref m6, .int 0, .int 0, .int th]))] s.heap.size) rfl) (cwV 1 hts gX6_gains_X6_isWho rfl rfl rfl (by decide +kernel) ⟨Nat.le_of_ble_eq_true rfl, Nat.le_of_ble_eq_true rfl⟩) (yPreV (wc := [(m0, .inr (12, [.ref m1, .ref m2, .ref m3, .ref m4, .ref m5, .ref m6, .int 0, .int 0, .int th]))]) (tc := []) hK hP hD hS hA hE [0] [] (by decide) rfl rfl (ci := 12) (q0 := 0) (q := (RX6, TX6, 9)) rfl rfl) rfl rfl hl.1 rfl (lv_room (Nat.le_of_ble_eq_true rfl)) dX6_gains_3 ⟨Nat.le_of_ble_eq_true rfl, Nat.le_of_ble_eq_true rfl⟩) hP hD hS hA [0] [] rfl rfl (by decide) (by decide) (fun r_1 u_2 H locs hw hP hD hS => ?_)
  have hP : va_P D vwCl [(m0, .inr (12, [.ref m1, .ref m2, .ref m3, .ref m4, .ref m5, .ref m6, .int 0, .int 0, .int th]))] H := hP
  have hD : va_D A [(m0, .inr (12, [.ref m1, .ref m2, .ref m3, .ref m4, .ref m5, .ref m6, .int 0, .int 0, .int th]))] := hD
  have hw : r_1 = 0 := hw
  subst hw
  refine lv_if_eq (tgt := 21) hx hb dX6_gains_6 (by decide) (fun _ => ?_) (fun h => absurd h (by decide))
  refine lv_iconst (v := (0)) hx hb dX6_gains_21 (by decide) ?_
  refine lv_iconst (v := (1)) hx hb dX6_gains_22 (by decide) ?_
  refine yc_i (wc := [(m0, .inr (12, [.ref m1, .ref m2, .ref m3, .ref m4, .ref m5, .ref m6, .int 0, .int 0, .int th]))]) (wr := []) (va_runV (As := [.int 0, .int 1]) (rest := []) ⟨hx, hb, hml, hown, hts⟩ (g_no0 l hfl D tE H.size m0 m1 m2 m3 m4 m5 m6 0 0 th 1 (va_A [(m0, .inr (12, [.ref m1, .ref m2, .ref m3, .ref m4, .ref m5, .ref m6, .int 0, .int 0, .int th]))] H.size) rfl) (cwV 2 hts gX6_gains_X6_no rfl rfl rfl (by decide +kernel) ⟨Nat.le_of_ble_eq_true rfl, Nat.le_of_ble_eq_true rfl⟩) (yPreV (wc := [(m0, .inr (12, [.ref m1, .ref m2, .ref m3, .ref m4, .ref m5, .ref m6, .int 0, .int 0, .int th]))]) (tc := []) hK hP hD hS hA hE [0] [] (by decide) rfl rfl (ci := 12) (q0 := 0) (q := (RX6, TX6, 9)) rfl rfl) rfl rfl hl.1 rfl (lv_room (Nat.le_of_ble_eq_true rfl)) dX6_gains_23 ⟨Nat.le_of_ble_eq_true rfl, Nat.le_of_ble_eq_true rfl⟩) hP hD hS hA [0] [] rfl rfl (by decide) (by decide) (fun r_3 u_4 H locs hw hP hD hS => ?_)
  have hP : va_P D vwCl [(m0, .inr (12, [.ref m1, .ref m2, .ref m3, .ref m4, .ref m5, .ref m6, .int 0, .int 0, .int 1]))] H := hP
  have hD : va_D A [(m0, .inr (12, [.ref m1, .ref m2, .ref m3, .ref m4, .ref m5, .ref m6, .int 0, .int 0, .int 1]))] := hD
  have hw : r_3 = 1 := hw
  subst hw
  refine lv_if_eq (tgt := 31) hx hb dX6_gains_26 (by decide) (fun h => absurd h (by decide)) (fun _ => ?_)
  refine lv_iconst (v := (0)) hx hb dX6_gains_29 (by decide) ?_
  exact y_zret hx hb hr hlocks (by decide) () rfl hP hD hS (Nat.le_of_ble_eq_true rfl) (Nat.le_of_ble_eq_true rfl) dX6_gains_30

set_option maxHeartbeats 4000000 in
set_option maxRecDepth 100000 in
theorem m_envies (l : Launch) (hfl : l.stackTraces = false) (D : va_G) (tE : Nat) (sz : Nat) (m0 : Nat) (m1 : Nat) (m2 : Nat) (m3 : Nat) (m4 : Nat) (m5 : Nat) (m6 : Nat) (th : Int32) (p0 : Int32) (p1 : Int32) (A : Nat → Prop) (hA0 : A = va_A [(m0, .inr (12, [.ref m1, .ref m2, .ref m3, .ref m4, .ref m5, .ref m6, .int 0, .int 0, .int th]))] sz) : Met l yX6_envies wsX6_envies (yR 2 0 0) (yP D tE [(m0, .inr (12, [.ref m1, .ref m2, .ref m3, .ref m4, .ref m5, .ref m6, .int 0, .int 0, .int th]))] [] sz [.ref m0, .int p0, .int p1]) (va_Qi (S := Unit) (fun (r : Int32) (u : Unit) => r = 0) (fun (u : Unit) (t : State) => yB D A ((fun (u : Unit) => [(m0, .inr (12, [.ref m1, .ref m2, .ref m3, .ref m4, .ref m5, .ref m6, .int 0, .int 0, .int 1]))]) u) t) A) 0 0 A := by
  refine Met.ofW (cc := cX6_envies) (maxL := 3) (ret := (some .boolean)) (by decide) rfl ?_
  intro p e s m args below meth c s₁ B hml hv
  obtain ⟨rfl, rfl, hP, hK, hD, hE, hA⟩ := y_start hA0 hv
  have hx := B.exec
  have hb := B.bytes
  have hr := B.returns
  have hts := atoms_spec (ws := wsX6_envies) B.pre
  have hown : s.vm.findClass RX6 = some m.cls := findClass_of_methodNamed B.named
  have hlocks := B.notSynchronized
  clear hA0 hv
  have hS : va_S A s.heap s.heap [] := va_S.rf
  have hl := lv_entry ([.ref m0, .int p0, .int p1]) (n := 3) (Nat.le_of_ble_eq_true rfl)
  rw [lg_entry_eq]
  generalize (lg_sl ([.ref m0, .int p0, .int p1]) ++ List.replicate (3 - (lg_sl ([.ref m0, .int p0, .int p1])).length) Slot.unset).toArray = ls at hl ⊢
  have hl : lv_has ls 3 [(0, .ref m0), (1, .int p0), (2, .int p1)] := hl
  refine lv_aload_n hx hb dX6_envies_0 rfl (lv_at hl 0 rfl) ?_
  refine lv_aload_n hx hb dX6_envies_1 rfl (lv_at hl 0 rfl) ?_
  refine lv_iload_n hx hb dX6_envies_2 rfl (lv_at hl 1 rfl) ?_
  refine yc_i (wc := [(m0, .inr (12, [.ref m1, .ref m2, .ref m3, .ref m4, .ref m5, .ref m6, .int 0, .int 0, .int th]))]) (wr := []) (va_runV (As := [.int p0]) (rest := [.ref m0]) ⟨hx, hb, hml, hown, hts⟩ (f_isWho l hfl D tE s.heap.size m0 m1 m2 m3 m4 m5 m6 th p0 0 (va_A [(m0, .inr (12, [.ref m1, .ref m2, .ref m3, .ref m4, .ref m5, .ref m6, .int 0, .int 0, .int th]))] s.heap.size) rfl) (cwV 1 hts gX6_envies_X6_isWho rfl rfl rfl (by decide +kernel) ⟨Nat.le_of_ble_eq_true rfl, Nat.le_of_ble_eq_true rfl⟩) (yPreV (wc := [(m0, .inr (12, [.ref m1, .ref m2, .ref m3, .ref m4, .ref m5, .ref m6, .int 0, .int 0, .int th]))]) (tc := []) hK hP hD hS hA hE [0] [] (by decide) rfl rfl (ci := 12) (q0 := 0) (q := (RX6, TX6, 9)) rfl rfl) rfl rfl hl.1 rfl (lv_room (Nat.le_of_ble_eq_true rfl)) dX6_envies_3 ⟨Nat.le_of_ble_eq_true rfl, Nat.le_of_ble_eq_true rfl⟩) hP hD hS hA [0] [] rfl rfl (by decide) (by decide) (fun r_1 u_2 H locs hw hP hD hS => ?_)
  have hP : va_P D vwCl [(m0, .inr (12, [.ref m1, .ref m2, .ref m3, .ref m4, .ref m5, .ref m6, .int 0, .int 0, .int th]))] H := hP
  have hD : va_D A [(m0, .inr (12, [.ref m1, .ref m2, .ref m3, .ref m4, .ref m5, .ref m6, .int 0, .int 0, .int th]))] := hD
  have hw : r_1 = 0 := hw
  subst hw
  refine lv_if_eq (tgt := 21) hx hb dX6_envies_6 (by decide) (fun _ => ?_) (fun h => absurd h (by decide))
  refine lv_iconst (v := (0)) hx hb dX6_envies_21 (by decide) ?_
  refine lv_iconst (v := (1)) hx hb dX6_envies_22 (by decide) ?_
  refine yc_i (wc := [(m0, .inr (12, [.ref m1, .ref m2, .ref m3, .ref m4, .ref m5, .ref m6, .int 0, .int 0, .int th]))]) (wr := []) (va_runV (As := [.int 0, .int 1]) (rest := []) ⟨hx, hb, hml, hown, hts⟩ (g_no0 l hfl D tE H.size m0 m1 m2 m3 m4 m5 m6 0 0 th 1 (va_A [(m0, .inr (12, [.ref m1, .ref m2, .ref m3, .ref m4, .ref m5, .ref m6, .int 0, .int 0, .int th]))] H.size) rfl) (cwV 2 hts gX6_envies_X6_no rfl rfl rfl (by decide +kernel) ⟨Nat.le_of_ble_eq_true rfl, Nat.le_of_ble_eq_true rfl⟩) (yPreV (wc := [(m0, .inr (12, [.ref m1, .ref m2, .ref m3, .ref m4, .ref m5, .ref m6, .int 0, .int 0, .int th]))]) (tc := []) hK hP hD hS hA hE [0] [] (by decide) rfl rfl (ci := 12) (q0 := 0) (q := (RX6, TX6, 9)) rfl rfl) rfl rfl hl.1 rfl (lv_room (Nat.le_of_ble_eq_true rfl)) dX6_envies_23 ⟨Nat.le_of_ble_eq_true rfl, Nat.le_of_ble_eq_true rfl⟩) hP hD hS hA [0] [] rfl rfl (by decide) (by decide) (fun r_3 u_4 H locs hw hP hD hS => ?_)
  have hP : va_P D vwCl [(m0, .inr (12, [.ref m1, .ref m2, .ref m3, .ref m4, .ref m5, .ref m6, .int 0, .int 0, .int 1]))] H := hP
  have hD : va_D A [(m0, .inr (12, [.ref m1, .ref m2, .ref m3, .ref m4, .ref m5, .ref m6, .int 0, .int 0, .int 1]))] := hD
  have hw : r_3 = 1 := hw
  subst hw
  refine lv_if_ne (tgt := 42) hx hb dX6_envies_26 (by decide) (fun _ => ?_) (fun h => absurd h (by decide))
  refine lv_iconst (v := (0)) hx hb dX6_envies_42 (by decide) ?_
  exact y_zret hx hb hr hlocks (by decide) () rfl hP hD hS (Nat.le_of_ble_eq_true rfl) (Nat.le_of_ble_eq_true rfl) dX6_envies_43

set_option maxHeartbeats 4000000 in
set_option maxRecDepth 100000 in
theorem m_textAt (l : Launch) (hfl : l.stackTraces = false) (D : va_G) (tE : Nat) (sz : Nat) (m0 : Nat) (m1 : Nat) (m2 : Nat) (m3 : Nat) (m4 : Nat) (m5 : Nat) (m6 : Nat) (th : Int32) (p0 : Int32) (p1 : Int32) (A : Nat → Prop) (hA0 : A = va_A [(m0, .inr (12, [.ref m1, .ref m2, .ref m3, .ref m4, .ref m5, .ref m6, .int 0, .int 0, .int th]))] sz) : Met l yX6_textAt wsX6_textAt (yR 2 0 0) (yP D tE [(m0, .inr (12, [.ref m1, .ref m2, .ref m3, .ref m4, .ref m5, .ref m6, .int 0, .int 0, .int th]))] [] sz [.ref m0, .int p0, .int p1]) (va_Qi (S := Unit) (fun (r : Int32) (u : Unit) => r = 45) (fun (u : Unit) (t : State) => yB D A ((fun (u : Unit) => [(m0, .inr (12, [.ref m1, .ref m2, .ref m3, .ref m4, .ref m5, .ref m6, .int 0, .int 0, .int 1]))]) u) t) A) 0 0 A := by
  refine Met.ofW (cc := cX6_textAt) (maxL := 3) (ret := (some .char)) (by decide) rfl ?_
  intro p e s m args below meth c s₁ B hml hv
  obtain ⟨rfl, rfl, hP, hK, hD, hE, hA⟩ := y_start hA0 hv
  have hx := B.exec
  have hb := B.bytes
  have hr := B.returns
  have hts := atoms_spec (ws := wsX6_textAt) B.pre
  have hown : s.vm.findClass RX6 = some m.cls := findClass_of_methodNamed B.named
  have hlocks := B.notSynchronized
  clear hA0 hv
  have hS : va_S A s.heap s.heap [] := va_S.rf
  have hl := lv_entry ([.ref m0, .int p0, .int p1]) (n := 3) (Nat.le_of_ble_eq_true rfl)
  rw [lg_entry_eq]
  generalize (lg_sl ([.ref m0, .int p0, .int p1]) ++ List.replicate (3 - (lg_sl ([.ref m0, .int p0, .int p1])).length) Slot.unset).toArray = ls at hl ⊢
  have hl : lv_has ls 3 [(0, .ref m0), (1, .int p0), (2, .int p1)] := hl
  refine lv_aload_n hx hb dX6_textAt_0 rfl (lv_at hl 0 rfl) ?_
  refine lv_aload_n hx hb dX6_textAt_1 rfl (lv_at hl 0 rfl) ?_
  refine lv_iload_n hx hb dX6_textAt_2 rfl (lv_at hl 1 rfl) ?_
  refine yc_i (wc := [(m0, .inr (12, [.ref m1, .ref m2, .ref m3, .ref m4, .ref m5, .ref m6, .int 0, .int 0, .int th]))]) (wr := []) (va_runV (As := [.int p0]) (rest := [.ref m0]) ⟨hx, hb, hml, hown, hts⟩ (f_isWho l hfl D tE s.heap.size m0 m1 m2 m3 m4 m5 m6 th p0 0 (va_A [(m0, .inr (12, [.ref m1, .ref m2, .ref m3, .ref m4, .ref m5, .ref m6, .int 0, .int 0, .int th]))] s.heap.size) rfl) (cwV 1 hts gX6_textAt_X6_isWho rfl rfl rfl (by decide +kernel) ⟨Nat.le_of_ble_eq_true rfl, Nat.le_of_ble_eq_true rfl⟩) (yPreV (wc := [(m0, .inr (12, [.ref m1, .ref m2, .ref m3, .ref m4, .ref m5, .ref m6, .int 0, .int 0, .int th]))]) (tc := []) hK hP hD hS hA hE [0] [] (by decide) rfl rfl (ci := 12) (q0 := 0) (q := (RX6, TX6, 9)) rfl rfl) rfl rfl hl.1 rfl (lv_room (Nat.le_of_ble_eq_true rfl)) dX6_textAt_3 ⟨Nat.le_of_ble_eq_true rfl, Nat.le_of_ble_eq_true rfl⟩) hP hD hS hA [0] [] rfl rfl (by decide) (by decide) (fun r_1 u_2 H locs hw hP hD hS => ?_)
  have hP : va_P D vwCl [(m0, .inr (12, [.ref m1, .ref m2, .ref m3, .ref m4, .ref m5, .ref m6, .int 0, .int 0, .int th]))] H := hP
  have hD : va_D A [(m0, .inr (12, [.ref m1, .ref m2, .ref m3, .ref m4, .ref m5, .ref m6, .int 0, .int 0, .int th]))] := hD
  have hw : r_1 = 0 := hw
  subst hw
  refine lv_iconst (v := (1)) hx hb dX6_textAt_6 (by decide) ?_
  refine yc_i (wc := [(m0, .inr (12, [.ref m1, .ref m2, .ref m3, .ref m4, .ref m5, .ref m6, .int 0, .int 0, .int th]))]) (wr := []) (va_runV (As := [.int 0, .int 1]) (rest := []) ⟨hx, hb, hml, hown, hts⟩ (g_no0 l hfl D tE H.size m0 m1 m2 m3 m4 m5 m6 0 0 th 1 (va_A [(m0, .inr (12, [.ref m1, .ref m2, .ref m3, .ref m4, .ref m5, .ref m6, .int 0, .int 0, .int th]))] H.size) rfl) (cwV 2 hts gX6_textAt_X6_no rfl rfl rfl (by decide +kernel) ⟨Nat.le_of_ble_eq_true rfl, Nat.le_of_ble_eq_true rfl⟩) (yPreV (wc := [(m0, .inr (12, [.ref m1, .ref m2, .ref m3, .ref m4, .ref m5, .ref m6, .int 0, .int 0, .int th]))]) (tc := []) hK hP hD hS hA hE [0] [] (by decide) rfl rfl (ci := 12) (q0 := 0) (q := (RX6, TX6, 9)) rfl rfl) rfl rfl hl.1 rfl (lv_room (Nat.le_of_ble_eq_true rfl)) dX6_textAt_7 ⟨Nat.le_of_ble_eq_true rfl, Nat.le_of_ble_eq_true rfl⟩) hP hD hS hA [0] [] rfl rfl (by decide) (by decide) (fun r_3 u_4 H locs hw hP hD hS => ?_)
  have hP : va_P D vwCl [(m0, .inr (12, [.ref m1, .ref m2, .ref m3, .ref m4, .ref m5, .ref m6, .int 0, .int 0, .int 1]))] H := hP
  have hD : va_D A [(m0, .inr (12, [.ref m1, .ref m2, .ref m3, .ref m4, .ref m5, .ref m6, .int 0, .int 0, .int 1]))] := hD
  have hw : r_3 = 1 := hw
  subst hw
  refine lv_if_ne (tgt := 36) hx hb dX6_textAt_10 (by decide) (fun _ => ?_) (fun h => absurd h (by decide))
  refine lv_bipush (v := (45)) hx hb dX6_textAt_36 (by decide) ?_
  exact y_nret hx hb hr hlocks (by decide) () rfl hP hD hS (Nat.le_of_ble_eq_true rfl) (Nat.le_of_ble_eq_true rfl) dX6_textAt_38

set_option maxHeartbeats 4000000 in
set_option maxRecDepth 100000 in
theorem m_take (l : Launch) (hfl : l.stackTraces = false) (D : va_G) (tE : Nat) (sz : Nat) (m0 : Nat) (m1 : Nat) (m2 : Nat) (m3 : Nat) (m4 : Nat) (m5 : Nat) (m6 : Nat) (th : Int32) (mo : Int32) (ed : Nat) (p0 : Int32) (A : Nat → Prop) (hA0 : A = va_A [(m0, .inr (12, [.ref m1, .ref m2, .ref m3, .ref m4, .ref m5, .ref m6, .int 0, .int 0, .int th])), (m5, .inr (5, [.int mo, .ref ed, .int 0]))] sz) : Met l yX6_take wsX6_take (yR 2 0 0) (yP D tE [(m0, .inr (12, [.ref m1, .ref m2, .ref m3, .ref m4, .ref m5, .ref m6, .int 0, .int 0, .int th])), (m5, .inr (5, [.int mo, .ref ed, .int 0]))] [] sz [.ref m0, .int p0]) (va_Qi (S := Unit) (fun (r : Int32) (u : Unit) => r = 0) (fun (u : Unit) (t : State) => yB D A ((fun (u : Unit) => [(m0, .inr (12, [.ref m1, .ref m2, .ref m3, .ref m4, .ref m5, .ref m6, .int 0, .int 0, .int 1]))]) u) t) A) 0 0 A := by
  refine Met.ofW (cc := cX6_take) (maxL := 2) (ret := (some .int)) (by decide) rfl ?_
  intro p e s m args below meth c s₁ B hml hv
  obtain ⟨rfl, rfl, hP, hK, hD, hE, hA⟩ := y_start hA0 hv
  have hx := B.exec
  have hb := B.bytes
  have hr := B.returns
  have hts := atoms_spec (ws := wsX6_take) B.pre
  have hown : s.vm.findClass RX6 = some m.cls := findClass_of_methodNamed B.named
  have hlocks := B.notSynchronized
  clear hA0 hv
  have hS : va_S A s.heap s.heap [] := va_S.rf
  have hl := lv_entry ([.ref m0, .int p0]) (n := 2) (Nat.le_of_ble_eq_true rfl)
  rw [lg_entry_eq]
  generalize (lg_sl ([.ref m0, .int p0]) ++ List.replicate (2 - (lg_sl ([.ref m0, .int p0])).length) Slot.unset).toArray = ls at hl ⊢
  have hl : lv_has ls 2 [(0, .ref m0), (1, .int p0)] := hl
  refine lv_aload_n hx hb dX6_take_0 rfl (lv_at hl 0 rfl) ?_
  refine lv_aload_n hx hb dX6_take_1 rfl (lv_at hl 0 rfl) ?_
  refine lv_iload_n hx hb dX6_take_2 rfl (lv_at hl 1 rfl) ?_
  refine yc_i (wc := [(m0, .inr (12, [.ref m1, .ref m2, .ref m3, .ref m4, .ref m5, .ref m6, .int 0, .int 0, .int th])), (m5, .inr (5, [.int mo, .ref ed, .int 0]))]) (wr := []) (va_runV (As := [.int p0]) (rest := [.ref m0]) ⟨hx, hb, hml, hown, hts⟩ (f_isKept l hfl D tE s.heap.size m0 m1 m2 m3 m4 m5 m6 0 0 th p0 mo ed (va_A [(m0, .inr (12, [.ref m1, .ref m2, .ref m3, .ref m4, .ref m5, .ref m6, .int 0, .int 0, .int th])), (m5, .inr (5, [.int mo, .ref ed, .int 0]))] s.heap.size) rfl) (cwV 1 hts gX6_take_X6_isKept rfl rfl rfl (by decide +kernel) ⟨Nat.le_of_ble_eq_true rfl, Nat.le_of_ble_eq_true rfl⟩) (yPreV (wc := [(m0, .inr (12, [.ref m1, .ref m2, .ref m3, .ref m4, .ref m5, .ref m6, .int 0, .int 0, .int th])), (m5, .inr (5, [.int mo, .ref ed, .int 0]))]) (tc := []) hK hP hD hS hA hE [0, 1] [] (by decide) rfl rfl (ci := 12) (q0 := 0) (q := (RX6, TX6, 9)) rfl rfl) rfl rfl hl.1 rfl (lv_room (Nat.le_of_ble_eq_true rfl)) dX6_take_3 ⟨Nat.le_of_ble_eq_true rfl, Nat.le_of_ble_eq_true rfl⟩) hP hD hS hA [0, 1] [] rfl rfl (by decide) (by decide) (fun r_1 u_2 H locs hw hP hD hS => ?_)
  have hP : va_P D vwCl [(m0, .inr (12, [.ref m1, .ref m2, .ref m3, .ref m4, .ref m5, .ref m6, .int 0, .int 0, .int th])), (m5, .inr (5, [.int mo, .ref ed, .int 0]))] H := hP
  have hD : va_D A [(m0, .inr (12, [.ref m1, .ref m2, .ref m3, .ref m4, .ref m5, .ref m6, .int 0, .int 0, .int th])), (m5, .inr (5, [.int mo, .ref ed, .int 0]))] := hD
  have hw : r_1 = 0 := hw
  subst hw
  refine lv_iconst (v := (1)) hx hb dX6_take_6 (by decide) ?_
  refine yc_i (wc := [(m0, .inr (12, [.ref m1, .ref m2, .ref m3, .ref m4, .ref m5, .ref m6, .int 0, .int 0, .int th]))]) (wr := [(m5, .inr (5, [.int mo, .ref ed, .int 0]))]) (va_runV (As := [.int 0, .int 1]) (rest := []) ⟨hx, hb, hml, hown, hts⟩ (g_no0 l hfl D tE H.size m0 m1 m2 m3 m4 m5 m6 0 0 th 1 (va_A [(m0, .inr (12, [.ref m1, .ref m2, .ref m3, .ref m4, .ref m5, .ref m6, .int 0, .int 0, .int th]))] H.size) rfl) (cwV 2 hts gX6_take_X6_no rfl rfl rfl (by decide +kernel) ⟨Nat.le_of_ble_eq_true rfl, Nat.le_of_ble_eq_true rfl⟩) (yPreV (wc := [(m0, .inr (12, [.ref m1, .ref m2, .ref m3, .ref m4, .ref m5, .ref m6, .int 0, .int 0, .int th]))]) (tc := []) hK hP hD hS hA hE [0] [] (by decide) rfl rfl (ci := 12) (q0 := 0) (q := (RX6, TX6, 9)) rfl rfl) rfl rfl hl.1 rfl (lv_room (Nat.le_of_ble_eq_true rfl)) dX6_take_7 ⟨Nat.le_of_ble_eq_true rfl, Nat.le_of_ble_eq_true rfl⟩) hP hD hS hA [0] [1] rfl rfl (by decide) (by decide) (fun r_3 u_4 H locs hw hP hD hS => ?_)
  have hP : va_P D vwCl [(m5, .inr (5, [.int mo, .ref ed, .int 0])), (m0, .inr (12, [.ref m1, .ref m2, .ref m3, .ref m4, .ref m5, .ref m6, .int 0, .int 0, .int 1]))] H := hP
  have hD : va_D A [(m5, .inr (5, [.int mo, .ref ed, .int 0])), (m0, .inr (12, [.ref m1, .ref m2, .ref m3, .ref m4, .ref m5, .ref m6, .int 0, .int 0, .int 1]))] := hD
  have hw : r_3 = 1 := hw
  subst hw
  refine lv_if_ne (tgt := 38) hx hb dX6_take_10 (by decide) (fun _ => ?_) (fun h => absurd h (by decide))
  refine lv_iconst (v := (0)) hx hb dX6_take_38 (by decide) ?_
  exact y_iret hx hb hr hlocks () rfl (hP.sub [1] rfl) (hD.sub [1] (by decide) rfl) hS (Nat.le_of_ble_eq_true rfl) (Nat.le_of_ble_eq_true rfl) dX6_take_39

set_option maxHeartbeats 4000000 in
set_option maxRecDepth 100000 in
theorem m_keptPost (l : Launch) (hfl : l.stackTraces = false) (D : va_G) (tE : Nat) (sz : Nat) (m0 : Nat) (m1 : Nat) (m2 : Nat) (m3 : Nat) (m4 : Nat) (m5 : Nat) (m6 : Nat) (th : Int32) (mo : Int32) (ed : Nat) (p0 : Int32) (p1 : Int32) (A : Nat → Prop) (hA0 : A = va_A [(m0, .inr (12, [.ref m1, .ref m2, .ref m3, .ref m4, .ref m5, .ref m6, .int 0, .int 0, .int th])), (m5, .inr (5, [.int mo, .ref ed, .int 0]))] sz) : Met l yX6_keptPost wsX6_keptPost (yR 2 0 0) (yP D tE [(m0, .inr (12, [.ref m1, .ref m2, .ref m3, .ref m4, .ref m5, .ref m6, .int 0, .int 0, .int th])), (m5, .inr (5, [.int mo, .ref ed, .int 0]))] [] sz [.ref m0, .int p0, .int p1]) (va_Qi (S := Unit) (fun (r : Int32) (u : Unit) => r = 0) (fun (u : Unit) (t : State) => yB D A ((fun (u : Unit) => [(m0, .inr (12, [.ref m1, .ref m2, .ref m3, .ref m4, .ref m5, .ref m6, .int 0, .int 0, .int 1]))]) u) t) A) 0 0 A := by
  refine Met.ofW (cc := cX6_keptPost) (maxL := 3) (ret := (some .int)) (by decide) rfl ?_
  intro p e s m args below meth c s₁ B hml hv
  obtain ⟨rfl, rfl, hP, hK, hD, hE, hA⟩ := y_start hA0 hv
  have hx := B.exec
  have hb := B.bytes
  have hr := B.returns
  have hts := atoms_spec (ws := wsX6_keptPost) B.pre
  have hown : s.vm.findClass RX6 = some m.cls := findClass_of_methodNamed B.named
  have hlocks := B.notSynchronized
  clear hA0 hv
  have hS : va_S A s.heap s.heap [] := va_S.rf
  have hl := lv_entry ([.ref m0, .int p0, .int p1]) (n := 3) (Nat.le_of_ble_eq_true rfl)
  rw [lg_entry_eq]
  generalize (lg_sl ([.ref m0, .int p0, .int p1]) ++ List.replicate (3 - (lg_sl ([.ref m0, .int p0, .int p1])).length) Slot.unset).toArray = ls at hl ⊢
  have hl : lv_has ls 3 [(0, .ref m0), (1, .int p0), (2, .int p1)] := hl
  refine lv_aload_n hx hb dX6_keptPost_0 rfl (lv_at hl 0 rfl) ?_
  refine lv_aload_n hx hb dX6_keptPost_1 rfl (lv_at hl 0 rfl) ?_
  refine lv_iload_n hx hb dX6_keptPost_2 rfl (lv_at hl 1 rfl) ?_
  refine yc_i (wc := [(m0, .inr (12, [.ref m1, .ref m2, .ref m3, .ref m4, .ref m5, .ref m6, .int 0, .int 0, .int th])), (m5, .inr (5, [.int mo, .ref ed, .int 0]))]) (wr := []) (va_runV (As := [.int p0]) (rest := [.ref m0]) ⟨hx, hb, hml, hown, hts⟩ (f_isKept l hfl D tE s.heap.size m0 m1 m2 m3 m4 m5 m6 0 0 th p0 mo ed (va_A [(m0, .inr (12, [.ref m1, .ref m2, .ref m3, .ref m4, .ref m5, .ref m6, .int 0, .int 0, .int th])), (m5, .inr (5, [.int mo, .ref ed, .int 0]))] s.heap.size) rfl) (cwV 1 hts gX6_keptPost_X6_isKept rfl rfl rfl (by decide +kernel) ⟨Nat.le_of_ble_eq_true rfl, Nat.le_of_ble_eq_true rfl⟩) (yPreV (wc := [(m0, .inr (12, [.ref m1, .ref m2, .ref m3, .ref m4, .ref m5, .ref m6, .int 0, .int 0, .int th])), (m5, .inr (5, [.int mo, .ref ed, .int 0]))]) (tc := []) hK hP hD hS hA hE [0, 1] [] (by decide) rfl rfl (ci := 12) (q0 := 0) (q := (RX6, TX6, 9)) rfl rfl) rfl rfl hl.1 rfl (lv_room (Nat.le_of_ble_eq_true rfl)) dX6_keptPost_3 ⟨Nat.le_of_ble_eq_true rfl, Nat.le_of_ble_eq_true rfl⟩) hP hD hS hA [0, 1] [] rfl rfl (by decide) (by decide) (fun r_1 u_2 H locs hw hP hD hS => ?_)
  have hP : va_P D vwCl [(m0, .inr (12, [.ref m1, .ref m2, .ref m3, .ref m4, .ref m5, .ref m6, .int 0, .int 0, .int th])), (m5, .inr (5, [.int mo, .ref ed, .int 0]))] H := hP
  have hD : va_D A [(m0, .inr (12, [.ref m1, .ref m2, .ref m3, .ref m4, .ref m5, .ref m6, .int 0, .int 0, .int th])), (m5, .inr (5, [.int mo, .ref ed, .int 0]))] := hD
  have hw : r_1 = 0 := hw
  subst hw
  refine lv_if_eq (tgt := 21) hx hb dX6_keptPost_6 (by decide) (fun _ => ?_) (fun h => absurd h (by decide))
  refine lv_iconst (v := (0)) hx hb dX6_keptPost_21 (by decide) ?_
  refine lv_iconst (v := (1)) hx hb dX6_keptPost_22 (by decide) ?_
  refine yc_i (wc := [(m0, .inr (12, [.ref m1, .ref m2, .ref m3, .ref m4, .ref m5, .ref m6, .int 0, .int 0, .int th]))]) (wr := [(m5, .inr (5, [.int mo, .ref ed, .int 0]))]) (va_runV (As := [.int 0, .int 1]) (rest := []) ⟨hx, hb, hml, hown, hts⟩ (g_no0 l hfl D tE H.size m0 m1 m2 m3 m4 m5 m6 0 0 th 1 (va_A [(m0, .inr (12, [.ref m1, .ref m2, .ref m3, .ref m4, .ref m5, .ref m6, .int 0, .int 0, .int th]))] H.size) rfl) (cwV 2 hts gX6_keptPost_X6_no rfl rfl rfl (by decide +kernel) ⟨Nat.le_of_ble_eq_true rfl, Nat.le_of_ble_eq_true rfl⟩) (yPreV (wc := [(m0, .inr (12, [.ref m1, .ref m2, .ref m3, .ref m4, .ref m5, .ref m6, .int 0, .int 0, .int th]))]) (tc := []) hK hP hD hS hA hE [0] [] (by decide) rfl rfl (ci := 12) (q0 := 0) (q := (RX6, TX6, 9)) rfl rfl) rfl rfl hl.1 rfl (lv_room (Nat.le_of_ble_eq_true rfl)) dX6_keptPost_23 ⟨Nat.le_of_ble_eq_true rfl, Nat.le_of_ble_eq_true rfl⟩) hP hD hS hA [0] [1] rfl rfl (by decide) (by decide) (fun r_3 u_4 H locs hw hP hD hS => ?_)
  have hP : va_P D vwCl [(m5, .inr (5, [.int mo, .ref ed, .int 0])), (m0, .inr (12, [.ref m1, .ref m2, .ref m3, .ref m4, .ref m5, .ref m6, .int 0, .int 0, .int 1]))] H := hP
  have hD : va_D A [(m5, .inr (5, [.int mo, .ref ed, .int 0])), (m0, .inr (12, [.ref m1, .ref m2, .ref m3, .ref m4, .ref m5, .ref m6, .int 0, .int 0, .int 1]))] := hD
  have hw : r_3 = 1 := hw
  subst hw
  refine lv_if_eq (tgt := 33) hx hb dX6_keptPost_26 (by decide) (fun h => absurd h (by decide)) (fun _ => ?_)
  refine lv_iconst (v := (0)) hx hb dX6_keptPost_29 (by decide) ?_
  refine lv_goto (tgt := 48) hx hb dX6_keptPost_30 (by decide) ?_
  exact y_iret hx hb hr hlocks () rfl (hP.sub [1] rfl) (hD.sub [1] (by decide) rfl) hS (Nat.le_of_ble_eq_true rfl) (Nat.le_of_ble_eq_true rfl) dX6_keptPost_48

set_option maxHeartbeats 4000000 in
set_option maxRecDepth 100000 in
theorem m_leadLength (l : Launch) (hfl : l.stackTraces = false) (D : va_G) (tE : Nat) (sz : Nat) (m0 : Nat) (m1 : Nat) (m2 : Nat) (m3 : Nat) (m4 : Nat) (m5 : Nat) (m6 : Nat) (th : Int32) (mo : Int32) (ed : Nat) (p0 : Int32) (p1 : Int32) (A : Nat → Prop) (hA0 : A = va_A [(m0, .inr (12, [.ref m1, .ref m2, .ref m3, .ref m4, .ref m5, .ref m6, .int 0, .int 0, .int th])), (m5, .inr (5, [.int mo, .ref ed, .int 0]))] sz) : Met l yX6_leadLength wsX6_leadLength (yR 2 0 0) (yP D tE [(m0, .inr (12, [.ref m1, .ref m2, .ref m3, .ref m4, .ref m5, .ref m6, .int 0, .int 0, .int th])), (m5, .inr (5, [.int mo, .ref ed, .int 0]))] [] sz [.ref m0, .int p0, .int p1]) (va_Qi (S := Unit) (fun (r : Int32) (u : Unit) => r = 0) (fun (u : Unit) (t : State) => yB D A ((fun (u : Unit) => [(m0, .inr (12, [.ref m1, .ref m2, .ref m3, .ref m4, .ref m5, .ref m6, .int 0, .int 0, .int 1]))]) u) t) A) 0 0 A := by
  refine Met.ofW (cc := cX6_leadLength) (maxL := 3) (ret := (some .int)) (by decide) rfl ?_
  intro p e s m args below meth c s₁ B hml hv
  obtain ⟨rfl, rfl, hP, hK, hD, hE, hA⟩ := y_start hA0 hv
  have hx := B.exec
  have hb := B.bytes
  have hr := B.returns
  have hts := atoms_spec (ws := wsX6_leadLength) B.pre
  have hown : s.vm.findClass RX6 = some m.cls := findClass_of_methodNamed B.named
  have hlocks := B.notSynchronized
  clear hA0 hv
  have hS : va_S A s.heap s.heap [] := va_S.rf
  have hl := lv_entry ([.ref m0, .int p0, .int p1]) (n := 3) (Nat.le_of_ble_eq_true rfl)
  rw [lg_entry_eq]
  generalize (lg_sl ([.ref m0, .int p0, .int p1]) ++ List.replicate (3 - (lg_sl ([.ref m0, .int p0, .int p1])).length) Slot.unset).toArray = ls at hl ⊢
  have hl : lv_has ls 3 [(0, .ref m0), (1, .int p0), (2, .int p1)] := hl
  refine lv_aload_n hx hb dX6_leadLength_0 rfl (lv_at hl 0 rfl) ?_
  refine lv_aload_n hx hb dX6_leadLength_1 rfl (lv_at hl 0 rfl) ?_
  refine lv_iload_n hx hb dX6_leadLength_2 rfl (lv_at hl 1 rfl) ?_
  refine yc_i (wc := [(m0, .inr (12, [.ref m1, .ref m2, .ref m3, .ref m4, .ref m5, .ref m6, .int 0, .int 0, .int th])), (m5, .inr (5, [.int mo, .ref ed, .int 0]))]) (wr := []) (va_runV (As := [.int p0]) (rest := [.ref m0]) ⟨hx, hb, hml, hown, hts⟩ (f_isKept l hfl D tE s.heap.size m0 m1 m2 m3 m4 m5 m6 0 0 th p0 mo ed (va_A [(m0, .inr (12, [.ref m1, .ref m2, .ref m3, .ref m4, .ref m5, .ref m6, .int 0, .int 0, .int th])), (m5, .inr (5, [.int mo, .ref ed, .int 0]))] s.heap.size) rfl) (cwV 1 hts gX6_leadLength_X6_isKept rfl rfl rfl (by decide +kernel) ⟨Nat.le_of_ble_eq_true rfl, Nat.le_of_ble_eq_true rfl⟩) (yPreV (wc := [(m0, .inr (12, [.ref m1, .ref m2, .ref m3, .ref m4, .ref m5, .ref m6, .int 0, .int 0, .int th])), (m5, .inr (5, [.int mo, .ref ed, .int 0]))]) (tc := []) hK hP hD hS hA hE [0, 1] [] (by decide) rfl rfl (ci := 12) (q0 := 0) (q := (RX6, TX6, 9)) rfl rfl) rfl rfl hl.1 rfl (lv_room (Nat.le_of_ble_eq_true rfl)) dX6_leadLength_3 ⟨Nat.le_of_ble_eq_true rfl, Nat.le_of_ble_eq_true rfl⟩) hP hD hS hA [0, 1] [] rfl rfl (by decide) (by decide) (fun r_1 u_2 H locs hw hP hD hS => ?_)
  have hP : va_P D vwCl [(m0, .inr (12, [.ref m1, .ref m2, .ref m3, .ref m4, .ref m5, .ref m6, .int 0, .int 0, .int th])), (m5, .inr (5, [.int mo, .ref ed, .int 0]))] H := hP
  have hD : va_D A [(m0, .inr (12, [.ref m1, .ref m2, .ref m3, .ref m4, .ref m5, .ref m6, .int 0, .int 0, .int th])), (m5, .inr (5, [.int mo, .ref ed, .int 0]))] := hD
  have hw : r_1 = 0 := hw
  subst hw
  refine lv_if_eq (tgt := 21) hx hb dX6_leadLength_6 (by decide) (fun _ => ?_) (fun h => absurd h (by decide))
  refine lv_iconst (v := (0)) hx hb dX6_leadLength_21 (by decide) ?_
  refine lv_iconst (v := (1)) hx hb dX6_leadLength_22 (by decide) ?_
  refine yc_i (wc := [(m0, .inr (12, [.ref m1, .ref m2, .ref m3, .ref m4, .ref m5, .ref m6, .int 0, .int 0, .int th]))]) (wr := [(m5, .inr (5, [.int mo, .ref ed, .int 0]))]) (va_runV (As := [.int 0, .int 1]) (rest := []) ⟨hx, hb, hml, hown, hts⟩ (g_no0 l hfl D tE H.size m0 m1 m2 m3 m4 m5 m6 0 0 th 1 (va_A [(m0, .inr (12, [.ref m1, .ref m2, .ref m3, .ref m4, .ref m5, .ref m6, .int 0, .int 0, .int th]))] H.size) rfl) (cwV 2 hts gX6_leadLength_X6_no rfl rfl rfl (by decide +kernel) ⟨Nat.le_of_ble_eq_true rfl, Nat.le_of_ble_eq_true rfl⟩) (yPreV (wc := [(m0, .inr (12, [.ref m1, .ref m2, .ref m3, .ref m4, .ref m5, .ref m6, .int 0, .int 0, .int th]))]) (tc := []) hK hP hD hS hA hE [0] [] (by decide) rfl rfl (ci := 12) (q0 := 0) (q := (RX6, TX6, 9)) rfl rfl) rfl rfl hl.1 rfl (lv_room (Nat.le_of_ble_eq_true rfl)) dX6_leadLength_23 ⟨Nat.le_of_ble_eq_true rfl, Nat.le_of_ble_eq_true rfl⟩) hP hD hS hA [0] [1] rfl rfl (by decide) (by decide) (fun r_3 u_4 H locs hw hP hD hS => ?_)
  have hP : va_P D vwCl [(m5, .inr (5, [.int mo, .ref ed, .int 0])), (m0, .inr (12, [.ref m1, .ref m2, .ref m3, .ref m4, .ref m5, .ref m6, .int 0, .int 0, .int 1]))] H := hP
  have hD : va_D A [(m5, .inr (5, [.int mo, .ref ed, .int 0])), (m0, .inr (12, [.ref m1, .ref m2, .ref m3, .ref m4, .ref m5, .ref m6, .int 0, .int 0, .int 1]))] := hD
  have hw : r_3 = 1 := hw
  subst hw
  refine lv_if_ne (tgt := 51) hx hb dX6_leadLength_26 (by decide) (fun _ => ?_) (fun h => absurd h (by decide))
  refine lv_iconst (v := (0)) hx hb dX6_leadLength_51 (by decide) ?_
  exact y_iret hx hb hr hlocks () rfl (hP.sub [1] rfl) (hD.sub [1] (by decide) rfl) hS (Nat.le_of_ble_eq_true rfl) (Nat.le_of_ble_eq_true rfl) dX6_leadLength_52
