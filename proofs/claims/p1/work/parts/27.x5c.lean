theorem iX3_share_X2 : ∀ w ∈ wsX20, w ∈ wsX3_share := by decide +kernel
theorem kX3_share_1 : Cond.fieldLink RX3 37 "Mostwell$House" "posts" "I" ∈ wsX3_share := List.mem_of_getElem? (i := 1) (by decide +kernel)
theorem iX3_share_X3 : ∀ w ∈ wsX30, w ∈ wsX3_share := by decide +kernel
theorem kX3_share_2 : Cond.fieldLink RX3 23 "Mostwell$Sharing" "none" "I" ∈ wsX3_share := List.mem_of_getElem? (i := 2) (by decide +kernel)
theorem kX3_share_3 : Cond.fieldLink RX3 20 "Mostwell$Sharing" "used" "[I" ∈ wsX3_share := List.mem_of_getElem? (i := 3) (by decide +kernel)
theorem kX3_share_4 : Cond.fieldLink RX3 16 "Mostwell$Sharing" "column" "[I" ∈ wsX3_share := List.mem_of_getElem? (i := 4) (by decide +kernel)
theorem kX3_share_5 : Cond.fieldLink RX3 48 "Mostwell$House" "applicants" "I" ∈ wsX3_share := List.mem_of_getElem? (i := 5) (by decide +kernel)
set_option maxHeartbeats 4000000 in
set_option maxRecDepth 100000 in
theorem f_share (l : Launch) (hfl : l.stackTraces = false) (D : va_G) (tE : Nat) (sz : Nat) (h1 : Nat) (h5 : Nat) (w1 : Nat) (w2 : Nat) (w3 : Nat) (w4 : Nat) (w5 : Nat) (s1 : Nat) (s2 : Nat) (s3 : Nat) (s4 : Nat) (s5 : Nat) (s6 : Nat) (cI : ClassId) (f1 : Nat → Int32) (f2 : Nat → Int32) (sn : Int32) (np : Int32) (A : Nat → Prop) (hA0 : A = va_A [(h5, .inr (9, [.ref s1, .ref s2, .ref s3, .int sn, .ref s4, .ref s5, .ref s6])), (h1, .inr (8, [.int 0, .int np, .ref w1, .ref w2, .ref w3, .ref w4, .ref w5])), (s2, .inl (cI, 10, .inl (f1))), (s3, .inl (cI, 11, .inl (f2)))] sz) : Met l yX3_share wsX3_share (yR 1 0 0) (yP D tE [(h5, .inr (9, [.ref s1, .ref s2, .ref s3, .int sn, .ref s4, .ref s5, .ref s6])), (h1, .inr (8, [.int 0, .int np, .ref w1, .ref w2, .ref w3, .ref w4, .ref w5])), (s2, .inl (cI, 10, .inl (f1))), (s3, .inl (cI, 11, .inl (f2)))] [(cI, .int)] sz [.ref h5, .ref h1]) (va_Ql (S := (Nat → Int32) × (Nat → Int32)) (fun (r : Int64) (u : (Nat → Int32) × (Nat → Int32)) => r = 0) (fun (u : (Nat → Int32) × (Nat → Int32)) (t : State) => yB D A ((fun (u : (Nat → Int32) × (Nat → Int32)) => [(h5, .inr (9, [.ref s1, .ref s2, .ref s3, .int np, .ref s4, .ref s5, .ref s6])), (h1, .inr (8, [.int 0, .int np, .ref w1, .ref w2, .ref w3, .ref w4, .ref w5])), (s2, .inl (cI, 10, .inl (u.1))), (s3, .inl (cI, 11, .inl (u.2)))]) u) t) A) 0 0 A := by
  refine Met.ofW (cc := cX3_share) (maxL := 5) (ret := (some .long)) (by decide) rfl ?_
  intro p e s m args below meth c s₁ B hml hv
  obtain ⟨rfl, rfl, hP, hK, hD, hE, hA⟩ := y_start hA0 hv
  have hx := B.exec
  have hb := B.bytes
  have hr := B.returns
  have hts := atoms_spec (ws := wsX3_share) B.pre
  have hown : s.vm.findClass RX3 = some m.cls := findClass_of_methodNamed B.named
  have hlocks := B.notSynchronized
  clear hA0 hv
  have hS : va_S A s.heap s.heap [] := va_S.rf
  have hl := lv_entry ([.ref h5, .ref h1]) (n := 5) (Nat.le_of_ble_eq_true rfl)
  rw [lg_entry_eq]
  generalize (lg_sl ([.ref h5, .ref h1]) ++ List.replicate (5 - (lg_sl ([.ref h5, .ref h1])).length) Slot.unset).toArray = ls at hl ⊢
  have hl : lv_has ls 5 [(0, .ref h5), (1, .ref h1)] := hl
  refine lv_aload_n hx hb dX3_share_0 rfl (lv_at hl 0 rfl) ?_
  refine lv_aload_n hx hb dX3_share_1 rfl (lv_at hl 1 rfl) ?_
  refine va_get (D := D) (ci := 8) (v := .int np) (C := RX2) (T := TX2) (N := 7) hx hb hts iX3_share_X2 hown hK hP 1 rfl rfl 1 (by decide) (hts _ kX3_share_1) (fun _ h9 => h9) rfl dX3_share_2 ?_
  refine va_put (D := D) (ci := 9) (v := .int np) (ty := .int) (C := RX3) (T := TX3) (N := 7) hx hb hts iX3_share_X3 tyX3 tyX3_ok nmX3 hown hK hP hD hS 0 rfl rfl 3 (by decide) (hts _ kX3_share_2) (fun _ h9 => h9) rfl (by decide +kernel) rfl rfl (Nat.le_of_ble_eq_true rfl) dX3_share_5 (fun H locs hP hD hS => ?_)
  have hP : va_P D vwCl [(h5, .inr (9, [.ref s1, .ref s2, .ref s3, .int np, .ref s4, .ref s5, .ref s6])), (h1, .inr (8, [.int 0, .int np, .ref w1, .ref w2, .ref w3, .ref w4, .ref w5])), (s2, .inl (cI, 10, .inl (f1))), (s3, .inl (cI, 11, .inl (f2)))] H := hP
  have hD : va_D A [(h5, .inr (9, [.ref s1, .ref s2, .ref s3, .int np, .ref s4, .ref s5, .ref s6])), (h1, .inr (8, [.int 0, .int np, .ref w1, .ref w2, .ref w3, .ref w4, .ref w5])), (s2, .inl (cI, 10, .inl (f1))), (s3, .inl (cI, 11, .inl (f2)))] := hD
  refine lv_aload_n hx hb dX3_share_8 rfl (lv_at hl 0 rfl) ?_
  refine va_get (D := D) (ci := 9) (v := .ref s3) (C := RX3) (T := TX3) (N := 7) hx hb hts iX3_share_X3 hown hK hP 0 rfl rfl 2 (by decide) (hts _ kX3_share_3) (fun _ h9 => h9) rfl dX3_share_9 ?_
  refine lv_iconst (v := (0)) hx hb dX3_share_12 (by decide) ?_
  refine yc_v (wc := [(s3, .inl (cI, 11, .inl (f2)))]) (wr := [(h5, .inr (9, [.ref s1, .ref s2, .ref s3, .int np, .ref s4, .ref s5, .ref s6])), (h1, .inr (8, [.int 0, .int np, .ref w1, .ref w2, .ref w3, .ref w4, .ref w5])), (s2, .inl (cI, 10, .inl (f1)))]) (va_runS (As := [.ref s3, .int 0]) (rest := []) ⟨hx, hb, hml, hown, hts⟩ (g_fill l hfl D tE H.size s3 cI 11 (by decide) f2 0 (va_A [(s3, .inl (cI, 11, .inl (f2)))] H.size) rfl) (va_cwS 2 hts gX3_share_J7_fill_53178 rfl rfl rfl (by decide +kernel) ⟨Nat.le_of_ble_eq_true rfl, Nat.le_of_ble_eq_true rfl⟩) (yPreS (wc := [(s3, .inl (cI, 11, .inl (f2)))]) (tc := [(cI, .int)]) hK hP hD hS hA hE [3] [0] (by decide) rfl rfl) rfl rfl hl.1 rfl (lv_room (Nat.le_of_ble_eq_true rfl)) dX3_share_13 ⟨Nat.le_of_ble_eq_true rfl, Nat.le_of_ble_eq_true rfl⟩) hP hD hS hA [3] [0, 1, 2] rfl rfl (by decide) (by decide) (fun u_2 H locs hw hP hD hS => ?_)
  have hP : va_P D vwCl [(h5, .inr (9, [.ref s1, .ref s2, .ref s3, .int np, .ref s4, .ref s5, .ref s6])), (h1, .inr (8, [.int 0, .int np, .ref w1, .ref w2, .ref w3, .ref w4, .ref w5])), (s2, .inl (cI, 10, .inl (f1))), (s3, .inl (cI, 11, .inl (u_2)))] H := hP
  have hD : va_D A [(h5, .inr (9, [.ref s1, .ref s2, .ref s3, .int np, .ref s4, .ref s5, .ref s6])), (h1, .inr (8, [.int 0, .int np, .ref w1, .ref w2, .ref w3, .ref w4, .ref w5])), (s2, .inl (cI, 10, .inl (f1))), (s3, .inl (cI, 11, .inl (u_2)))] := hD
  refine lv_aload_n hx hb dX3_share_16 rfl (lv_at hl 0 rfl) ?_
  refine va_get (D := D) (ci := 9) (v := .ref s2) (C := RX3) (T := TX3) (N := 7) hx hb hts iX3_share_X3 hown hK hP 0 rfl rfl 1 (by decide) (hts _ kX3_share_4) (fun _ h9 => h9) rfl dX3_share_17 ?_
  refine lv_iconst (v := (-1)) hx hb dX3_share_20 (by decide) ?_
  refine yc_v (wc := [(s2, .inl (cI, 10, .inl (f1)))]) (wr := [(h5, .inr (9, [.ref s1, .ref s2, .ref s3, .int np, .ref s4, .ref s5, .ref s6])), (h1, .inr (8, [.int 0, .int np, .ref w1, .ref w2, .ref w3, .ref w4, .ref w5])), (s3, .inl (cI, 11, .inl (u_2)))]) (va_runS (As := [.ref s2, .int ((-1))]) (rest := []) ⟨hx, hb, hml, hown, hts⟩ (g_fill l hfl D tE H.size s2 cI 10 (by decide) f1 (-1) (va_A [(s2, .inl (cI, 10, .inl (f1)))] H.size) rfl) (va_cwS 2 hts gX3_share_J7_fill_53178 rfl rfl rfl (by decide +kernel) ⟨Nat.le_of_ble_eq_true rfl, Nat.le_of_ble_eq_true rfl⟩) (yPreS (wc := [(s2, .inl (cI, 10, .inl (f1)))]) (tc := [(cI, .int)]) hK hP hD hS hA hE [2] [0] (by decide) rfl rfl) rfl rfl hl.1 rfl (lv_room (Nat.le_of_ble_eq_true rfl)) dX3_share_21 ⟨Nat.le_of_ble_eq_true rfl, Nat.le_of_ble_eq_true rfl⟩) hP hD hS hA [2] [0, 1, 3] rfl rfl (by decide) (by decide) (fun u_4 H locs hw hP hD hS => ?_)
  have hP : va_P D vwCl [(h5, .inr (9, [.ref s1, .ref s2, .ref s3, .int np, .ref s4, .ref s5, .ref s6])), (h1, .inr (8, [.int 0, .int np, .ref w1, .ref w2, .ref w3, .ref w4, .ref w5])), (s3, .inl (cI, 11, .inl (u_2))), (s2, .inl (cI, 10, .inl (u_4)))] H := hP
  have hD : va_D A [(h5, .inr (9, [.ref s1, .ref s2, .ref s3, .int np, .ref s4, .ref s5, .ref s6])), (h1, .inr (8, [.int 0, .int np, .ref w1, .ref w2, .ref w3, .ref w4, .ref w5])), (s3, .inl (cI, 11, .inl (u_2))), (s2, .inl (cI, 10, .inl (u_4)))] := hD
  refine lv_iconst (v := (0)) hx hb dX3_share_24 (by decide) ?_
  refine lv_istore_n (lv' := [(2, .int 0), (0, .ref h5), (1, .ref h1)]) hx hb dX3_share_25 rfl hl (by decide) rfl (fun ls hl => ?_)
  refine lv_iload_n hx hb dX3_share_26 rfl (lv_at hl 0 rfl) ?_
  refine lv_aload_n hx hb dX3_share_27 rfl (lv_at hl 2 rfl) ?_
  refine va_get (D := D) (ci := 8) (v := .int 0) (C := RX2) (T := TX2) (N := 7) hx hb hts iX3_share_X2 hown hK hP 1 rfl rfl 0 (by decide) (hts _ kX3_share_5) (fun _ h9 => h9) rfl dX3_share_28 ?_
  refine lv_icmp_ge (tgt := 54) hx hb dX3_share_31 (by decide) (fun _ => ?_) (fun h => absurd h (by decide))
  refine lv_lconst (v := (0)) hx hb dX3_share_54 (by decide) ?_
  refine lv_lstore_n (lv' := [(2, .long 0), (0, .ref h5), (1, .ref h1)]) hx hb dX3_share_55 rfl hl (by decide) rfl (fun ls hl => ?_)
  refine lv_iconst (v := (0)) hx hb dX3_share_56 (by decide) ?_
  refine lv_istore (lv' := [(4, .int 0), (2, .long 0), (0, .ref h5), (1, .ref h1)]) hx hb dX3_share_57 hl (by decide) rfl (fun ls hl => ?_)
  refine lv_iload hx hb dX3_share_59 (lv_at hl 0 rfl) ?_
  refine lv_aload_n hx hb dX3_share_61 rfl (lv_at hl 3 rfl) ?_
  refine va_get (D := D) (ci := 8) (v := .int 0) (C := RX2) (T := TX2) (N := 7) hx hb hts iX3_share_X2 hown hK hP 1 rfl rfl 0 (by decide) (hts _ kX3_share_5) (fun _ h9 => h9) rfl dX3_share_62 ?_
  refine lv_icmp_ge (tgt := 102) hx hb dX3_share_65 (by decide) (fun _ => ?_) (fun h => absurd h (by decide))
  refine lv_lload_n hx hb dX3_share_102 rfl (lv_at hl 1 rfl) ?_
  exact y_lret hx hb hr hlocks (u_4, u_2) rfl (hP.sub [0, 1, 3, 2] rfl) (hD.sub [0, 1, 3, 2] (by decide) rfl) hS (Nat.le_of_ble_eq_true rfl) (Nat.le_of_ble_eq_true rfl) dX3_share_103
theorem iX3_copyTo_X3 : ∀ w ∈ wsX30, w ∈ wsX3_copyTo := by decide +kernel
theorem kX3_copyTo_1 : Cond.fieldLink RX3 16 "Mostwell$Sharing" "column" "[I" ∈ wsX3_copyTo := List.mem_of_getElem? (i := 1) (by decide +kernel)
theorem kX3_copyTo_2 : Cond.fieldLink RX3 23 "Mostwell$Sharing" "none" "I" ∈ wsX3_copyTo := List.mem_of_getElem? (i := 2) (by decide +kernel)
set_option maxHeartbeats 4000000 in
set_option maxRecDepth 100000 in
theorem f_copyTo (l : Launch) (hfl : l.stackTraces = false) (D : va_G) (tE : Nat) (sz : Nat) (h5 : Nat) (s1 : Nat) (s2 : Nat) (s3 : Nat) (s4 : Nat) (s5 : Nat) (s6 : Nat) (b0 : Nat) (cI : ClassId) (f1 : Nat → Int32) (f : Nat → Int32) (sn : Int32) (A : Nat → Prop) (hA0 : A = va_A [(h5, .inr (9, [.ref s1, .ref s2, .ref s3, .int sn, .ref s4, .ref s5, .ref s6])), (s2, .inl (cI, 10, .inl (f1))), (b0, .inl (cI, 10, .inl (f)))] sz) : Met l yX3_copyTo wsX3_copyTo (yR 0 0 0) (yP D tE [(h5, .inr (9, [.ref s1, .ref s2, .ref s3, .int sn, .ref s4, .ref s5, .ref s6])), (s2, .inl (cI, 10, .inl (f1))), (b0, .inl (cI, 10, .inl (f)))] [(cI, .int)] sz [.ref h5, .ref b0]) (va_Qv (S := Nat → Int32) (fun (u : Nat → Int32) => True) (fun (u : Nat → Int32) (t : State) => yB D A ((fun (u : Nat → Int32) => [(h5, .inr (9, [.ref s1, .ref s2, .ref s3, .int sn, .ref s4, .ref s5, .ref s6])), (s2, .inl (cI, 10, .inl (f1))), (b0, .inl (cI, 10, .inl (u)))]) u) t) A) 0 0 A := by
  refine Met.ofW (cc := cX3_copyTo) (maxL := 3) (ret := none) (by decide) rfl ?_
  intro p e s m args below meth c s₁ B hml hv
  obtain ⟨rfl, rfl, hP, hK, hD, hE, hA⟩ := y_start hA0 hv
  have hx := B.exec
  have hb := B.bytes
  have hr := B.returns
  have hts := atoms_spec (ws := wsX3_copyTo) B.pre
  have hown : s.vm.findClass RX3 = some m.cls := findClass_of_methodNamed B.named
  have hlocks := B.notSynchronized
  clear hA0 hv
  have hS : va_S A s.heap s.heap [] := va_S.rf
  have hl := lv_entry ([.ref h5, .ref b0]) (n := 3) (Nat.le_of_ble_eq_true rfl)
  rw [lg_entry_eq]
  generalize (lg_sl ([.ref h5, .ref b0]) ++ List.replicate (3 - (lg_sl ([.ref h5, .ref b0])).length) Slot.unset).toArray = ls at hl ⊢
  have hl : lv_has ls 3 [(0, .ref h5), (1, .ref b0)] := hl
  refine lv_iconst (v := (0)) hx hb dX3_copyTo_0 (by decide) ?_
  refine lv_istore_n (lv' := [(2, .int 0), (0, .ref h5), (1, .ref b0)]) hx hb dX3_copyTo_1 rfl hl (by decide) rfl (fun ls hl => ?_)
  have key : ∀ (N k : Nat) (x : Int32) (g : Nat → Int32) (H : Heap) (locs : List Loc) (ls : Array Slot), k ≤ 10 → 10 < k + N → x = nI k → va_P D vwCl [(h5, .inr (9, [.ref s1, .ref s2, .ref s3, .int sn, .ref s4, .ref s5, .ref s6])), (s2, .inl (cI, 10, .inl (f1))), (b0, .inl (cI, 10, .inl (g)))] H → va_D A [(h5, .inr (9, [.ref s1, .ref s2, .ref s3, .int sn, .ref s4, .ref s5, .ref s6])), (s2, .inl (cI, 10, .inl (f1))), (b0, .inl (cI, 10, .inl (g)))] → va_S A s.heap H locs → lv_has ls 3 [(2, .int x), (0, .ref h5), (1, .ref b0)] → W p l e (headSpec wsX3_copyTo (yR 0 0 0)).room s m ([.ref h5, .ref b0] : List Value).toArray below meth c H locs 0 0 (MQ below (va_Qv (S := Nat → Int32) (fun (u : Nat → Int32) => True) (fun (u : Nat → Int32) (t : State) => yB D A ((fun (u : Nat → Int32) => [(h5, .inr (9, [.ref s1, .ref s2, .ref s3, .int sn, .ref s4, .ref s5, .ref s6])), (s2, .inl (cI, 10, .inl (f1))), (b0, .inl (cI, 10, .inl (u)))]) u) t) A) ([.ref h5, .ref b0] : List Value).toArray s 0 0 A) (F0 m 2 ls []) := by
    intro N
    induction N with
    | zero =>
      intro k x g H locs ls h1 h2
      exact absurd h2 (by omega)
    | succ N ih =>
      intro k x g H locs ls h1 h2 hx9 hP hD hS hl
      refine lv_iload_n hx hb dX3_copyTo_2 rfl (lv_at hl 0 rfl) ?_
      refine lv_bipush (v := (10)) hx hb dX3_copyTo_3 (by decide) ?_
      refine lv_icmp_ge (tgt := 40) hx hb dX3_copyTo_5 (by decide) (fun c_1 => ?_) (fun c_1 => ?_)
      · exact y_vret hx hb hr hlocks g trivial hP hD hS (Nat.le_of_ble_eq_true rfl) (Nat.le_of_ble_eq_true rfl) dX3_copyTo_40
      · have hlt : k < 10 := by
          rcases Nat.lt_or_ge k 10 with q | q
          · exact q
          · exact absurd (by rw [hx9]; exact nI_le q (by omega)) c_1
        have hi9 : vp_in x 10 := by rw [hx9]; exact vp_in_nI hlt (by decide)
        refine lv_aload_n hx hb dX3_copyTo_8 rfl (lv_at hl 2 rfl) ?_
        refine lv_iload_n hx hb dX3_copyTo_9 rfl (lv_at hl 0 rfl) ?_
        refine lv_aload_n hx hb dX3_copyTo_10 rfl (lv_at hl 1 rfl) ?_
        refine va_get (D := D) (ci := 9) (v := .ref s2) (C := RX3) (T := TX3) (N := 7) hx hb hts iX3_copyTo_X3 hown hK hP 0 rfl rfl 1 (by decide) (hts _ kX3_copyTo_1) (fun _ h9 => h9) rfl dX3_copyTo_11 ?_
        refine lv_iload_n hx hb dX3_copyTo_14 rfl (lv_at hl 0 rfl) ?_
        refine va_iald hx hb hK hP 1 0 rfl rfl hi9 dX3_copyTo_15 ?_
        refine lv_topi (fun x_2 ex_2 => ?_)
        refine lv_aload_n hx hb dX3_copyTo_16 rfl (lv_at hl 1 rfl) ?_
        refine va_get (D := D) (ci := 9) (v := .int sn) (C := RX3) (T := TX3) (N := 7) hx hb hts iX3_copyTo_X3 hown hK hP 0 rfl rfl 3 (by decide) (hts _ kX3_copyTo_2) (fun _ h9 => h9) rfl dX3_copyTo_17 ?_
        refine lv_icmp_lt (tgt := 27) hx hb dX3_copyTo_20 (by decide) (fun c_3 => ?_) (fun c_3 => ?_)
        · refine lv_aload_n hx hb dX3_copyTo_27 rfl (lv_at hl 1 rfl) ?_
          refine va_get (D := D) (ci := 9) (v := .ref s2) (C := RX3) (T := TX3) (N := 7) hx hb hts iX3_copyTo_X3 hown hK hP 0 rfl rfl 1 (by decide) (hts _ kX3_copyTo_1) (fun _ h9 => h9) rfl dX3_copyTo_28 ?_
          refine lv_iload_n hx hb dX3_copyTo_31 rfl (lv_at hl 0 rfl) ?_
          refine va_iald hx hb hK hP 1 0 rfl rfl hi9 dX3_copyTo_32 ?_
          refine lv_topi (fun x_4 ex_4 => ?_)
          refine va_iast hx hb hK hP hD hS 2 0 rfl rfl hi9 dX3_copyTo_33 (fun H locs hP hD hS => ?_)
          obtain ⟨f_5, ef_5⟩ : ∃ g9, g9 = upd g x.toNatClampNeg x_4 := ⟨_, rfl⟩
          have hP : va_P D vwCl [(h5, .inr (9, [.ref s1, .ref s2, .ref s3, .int sn, .ref s4, .ref s5, .ref s6])), (s2, .inl (cI, 10, .inl (f1))), (b0, .inl (cI, 10, .inl (f_5)))] H := by rw [ef_5]; exact hP
          have hD : va_D A [(h5, .inr (9, [.ref s1, .ref s2, .ref s3, .int sn, .ref s4, .ref s5, .ref s6])), (s2, .inl (cI, 10, .inl (f1))), (b0, .inl (cI, 10, .inl (f_5)))] := by rw [ef_5]; exact hD
          obtain ⟨x_6, ex_6⟩ : ∃ y : Int32, y = x + Int32.ofInt (1) := ⟨_, rfl⟩
          refine lv_iinc (v := x_6) (lv' := [(2, .int x_6), (0, .ref h5), (1, .ref b0)]) hx hb dX3_copyTo_34 hl (k := 0) rfl (by rw [ex_6]) (by decide) rfl (fun ls hl => ?_)
          refine lv_goto (tgt := 2) hx hb dX3_copyTo_37 (by decide) ?_
          exact ih (k + 1) _ f_5 _ _ _ (by omega) (by omega) (by rw [ex_6, hx9]; exact nI_1 k) hP hD hS (lv_sub hl [0, 1, 2] rfl)
        · refine lv_iconst (v := (-1)) hx hb dX3_copyTo_23 (by decide) ?_
          refine lv_goto (tgt := 33) hx hb dX3_copyTo_24 (by decide) ?_
          refine va_iast hx hb hK hP hD hS 2 0 rfl rfl hi9 dX3_copyTo_33 (fun H locs hP hD hS => ?_)
          obtain ⟨f_4, ef_4⟩ : ∃ g9, g9 = upd g x.toNatClampNeg (-1) := ⟨_, rfl⟩
          have hP : va_P D vwCl [(h5, .inr (9, [.ref s1, .ref s2, .ref s3, .int sn, .ref s4, .ref s5, .ref s6])), (s2, .inl (cI, 10, .inl (f1))), (b0, .inl (cI, 10, .inl (f_4)))] H := by rw [ef_4]; exact hP
          have hD : va_D A [(h5, .inr (9, [.ref s1, .ref s2, .ref s3, .int sn, .ref s4, .ref s5, .ref s6])), (s2, .inl (cI, 10, .inl (f1))), (b0, .inl (cI, 10, .inl (f_4)))] := by rw [ef_4]; exact hD
          obtain ⟨x_5, ex_5⟩ : ∃ y : Int32, y = x + Int32.ofInt (1) := ⟨_, rfl⟩
          refine lv_iinc (v := x_5) (lv' := [(2, .int x_5), (0, .ref h5), (1, .ref b0)]) hx hb dX3_copyTo_34 hl (k := 0) rfl (by rw [ex_5]) (by decide) rfl (fun ls hl => ?_)
          refine lv_goto (tgt := 2) hx hb dX3_copyTo_37 (by decide) ?_
          exact ih (k + 1) _ f_4 _ _ _ (by omega) (by omega) (by rw [ex_5, hx9]; exact nI_1 k) hP hD hS (lv_sub hl [0, 1, 2] rfl)
  exact key (10 + 1) 0 0 f _ _ ls (Nat.zero_le _) (by omega) nI_0.symm hP hD hS (lv_sub hl [0, 1, 2] rfl)
theorem iX1_findChallenger_X2 : ∀ w ∈ wsX20, w ∈ wsX1_findChallenger := by decide +kernel
theorem kX1_findChallenger_1 : Cond.fieldLink RX1 35 "Mostwell$House" "applicants" "I" ∈ wsX1_findChallenger := List.mem_of_getElem? (i := 1) (by decide +kernel)
theorem iX1_findChallenger_X1 : ∀ w ∈ wsX10, w ∈ wsX1_findChallenger := by decide +kernel
theorem kX1_findChallenger_4 : Cond.fieldLink RX1 24 "Mostwell$Finder" "sharing" "LMostwell$Sharing;" ∈ wsX1_findChallenger := List.mem_of_getElem? (i := 4) (by decide +kernel)
theorem kX1_findChallenger_7 : Cond.fieldLink RX1 9 "Mostwell$Finder" "challengerRow" "[I" ∈ wsX1_findChallenger := List.mem_of_getElem? (i := 7) (by decide +kernel)
set_option maxHeartbeats 4000000 in
set_option maxRecDepth 100000 in
theorem f_findChallenger (l : Launch) (hfl : l.stackTraces = false) (D : va_G) (tE : Nat) (sz : Nat) (h1 : Nat) (h3 : Nat) (w1 : Nat) (w2 : Nat) (w3 : Nat) (w4 : Nat) (w5 : Nat) (b1 : Nat) (b2 : Nat) (b3 : Nat) (h5 : Nat) (b4 : Nat) (b5 : Nat) (s1 : Nat) (s2 : Nat) (s3 : Nat) (s4 : Nat) (s5 : Nat) (s6 : Nat) (cI : ClassId) (f1 : Nat → Int32) (f2 : Nat → Int32) (r1 : Nat) (fb : Nat → Int32) (sn : Int32) (np : Int32) (A : Nat → Prop) (hA0 : A = va_A [(h3, .inr (7, [.ref b1, .ref b2, .ref b3, .ref h5, .ref b4, .ref b5])), (h5, .inr (9, [.ref s1, .ref s2, .ref s3, .int sn, .ref s4, .ref s5, .ref s6])), (h1, .inr (8, [.int 0, .int np, .ref w1, .ref w2, .ref w3, .ref w4, .ref w5])), (s2, .inl (cI, 10, .inl (f1))), (s3, .inl (cI, 11, .inl (f2))), (b1, .inl (cI, 10, .inl (fb)))] sz) : Met l yX1_findChallenger wsX1_findChallenger (yR 2 0 0) (yP D tE [(h3, .inr (7, [.ref b1, .ref b2, .ref b3, .ref h5, .ref b4, .ref b5])), (h5, .inr (9, [.ref s1, .ref s2, .ref s3, .int sn, .ref s4, .ref s5, .ref s6])), (h1, .inr (8, [.int 0, .int np, .ref w1, .ref w2, .ref w3, .ref w4, .ref w5])), (s2, .inl (cI, 10, .inl (f1))), (s3, .inl (cI, 11, .inl (f2))), (b1, .inl (cI, 10, .inl (fb)))] [(cI, .int)] sz [.ref h3, .ref h1, .ref r1]) (va_Qi (S := (Nat → Int32) × (Nat → Int32) × (Nat → Int32)) (fun (r : Int32) (u : (Nat → Int32) × (Nat → Int32) × (Nat → Int32)) => r = 0) (fun (u : (Nat → Int32) × (Nat → Int32) × (Nat → Int32)) (t : State) => yB D A ((fun (u : (Nat → Int32) × (Nat → Int32) × (Nat → Int32)) => [(h3, .inr (7, [.ref b1, .ref b2, .ref b3, .ref h5, .ref b4, .ref b5])), (h5, .inr (9, [.ref s1, .ref s2, .ref s3, .int np, .ref s4, .ref s5, .ref s6])), (h1, .inr (8, [.int 0, .int np, .ref w1, .ref w2, .ref w3, .ref w4, .ref w5])), (s2, .inl (cI, 10, .inl (u.1))), (s3, .inl (cI, 11, .inl (u.2.1))), (b1, .inl (cI, 10, .inl (u.2.2)))]) u) t) A) 0 0 A := by
  refine Met.ofW (cc := cX1_findChallenger) (maxL := 8) (ret := (some .int)) (by decide) rfl ?_
  intro p e s m args below meth c s₁ B hml hv
  obtain ⟨rfl, rfl, hP, hK, hD, hE, hA⟩ := y_start hA0 hv
  have hx := B.exec
  have hb := B.bytes
  have hr := B.returns
  have hts := atoms_spec (ws := wsX1_findChallenger) B.pre
  have hown : s.vm.findClass RX1 = some m.cls := findClass_of_methodNamed B.named
  have hlocks := B.notSynchronized
  clear hA0 hv
  have hS : va_S A s.heap s.heap [] := va_S.rf
  have hl := lv_entry ([.ref h3, .ref h1, .ref r1]) (n := 8) (Nat.le_of_ble_eq_true rfl)
  rw [lg_entry_eq]
  generalize (lg_sl ([.ref h3, .ref h1, .ref r1]) ++ List.replicate (8 - (lg_sl ([.ref h3, .ref h1, .ref r1])).length) Slot.unset).toArray = ls at hl ⊢
  have hl : lv_has ls 8 [(0, .ref h3), (1, .ref h1), (2, .ref r1)] := hl
  refine lv_iconst (v := (0)) hx hb dX1_findChallenger_0 (by decide) ?_
  refine lv_istore_n (lv' := [(3, .int 0), (0, .ref h3), (1, .ref h1), (2, .ref r1)]) hx hb dX1_findChallenger_1 rfl hl (by decide) rfl (fun ls hl => ?_)
  refine lv_iload_n hx hb dX1_findChallenger_2 rfl (lv_at hl 0 rfl) ?_
  refine lv_aload_n hx hb dX1_findChallenger_3 rfl (lv_at hl 2 rfl) ?_
  refine va_get (D := D) (ci := 8) (v := .int 0) (C := RX2) (T := TX2) (N := 7) hx hb hts iX1_findChallenger_X2 hown hK hP 2 rfl rfl 0 (by decide) (hts _ kX1_findChallenger_1) (fun _ h9 => h9) rfl dX1_findChallenger_4 ?_
  refine lv_icmp_ge (tgt := 122) hx hb dX1_findChallenger_7 (by decide) (fun _ => ?_) (fun h => absurd h (by decide))
  refine lv_aload_n hx hb dX1_findChallenger_122 rfl (lv_at hl 1 rfl) ?_
  refine va_get (D := D) (ci := 7) (v := .ref h5) (C := RX1) (T := TX1) (N := 6) hx hb hts iX1_findChallenger_X1 hown hK hP 0 rfl rfl 3 (by decide) (hts _ kX1_findChallenger_4) (fun _ h9 => h9) rfl dX1_findChallenger_123 ?_
  refine lv_aload_n hx hb dX1_findChallenger_126 rfl (lv_at hl 2 rfl) ?_
  refine yc_l (wc := [(h5, .inr (9, [.ref s1, .ref s2, .ref s3, .int sn, .ref s4, .ref s5, .ref s6])), (h1, .inr (8, [.int 0, .int np, .ref w1, .ref w2, .ref w3, .ref w4, .ref w5])), (s2, .inl (cI, 10, .inl (f1))), (s3, .inl (cI, 11, .inl (f2)))]) (wr := [(h3, .inr (7, [.ref b1, .ref b2, .ref b3, .ref h5, .ref b4, .ref b5])), (b1, .inl (cI, 10, .inl (fb)))]) (va_runV (As := [.ref h1]) (rest := []) ⟨hx, hb, hml, hown, hts⟩ (f_share l hfl D tE s.heap.size h1 h5 w1 w2 w3 w4 w5 s1 s2 s3 s4 s5 s6 cI f1 f2 sn np (va_A [(h5, .inr (9, [.ref s1, .ref s2, .ref s3, .int sn, .ref s4, .ref s5, .ref s6])), (h1, .inr (8, [.int 0, .int np, .ref w1, .ref w2, .ref w3, .ref w4, .ref w5])), (s2, .inl (cI, 10, .inl (f1))), (s3, .inl (cI, 11, .inl (f2)))] s.heap.size) rfl) (cwV 1 hts gX1_findChallenger_X3_share rfl rfl rfl (by decide +kernel) ⟨Nat.le_of_ble_eq_true rfl, Nat.le_of_ble_eq_true rfl⟩) (yPreV (wc := [(h5, .inr (9, [.ref s1, .ref s2, .ref s3, .int sn, .ref s4, .ref s5, .ref s6])), (h1, .inr (8, [.int 0, .int np, .ref w1, .ref w2, .ref w3, .ref w4, .ref w5])), (s2, .inl (cI, 10, .inl (f1))), (s3, .inl (cI, 11, .inl (f2)))]) (tc := [(cI, .int)]) hK hP hD hS hA hE [1, 2, 3, 4] [0] (by decide) rfl rfl (ci := 9) (q0 := 1) (q := (RX3, TX3, 7)) rfl rfl) rfl rfl hl.1 rfl (lv_room (Nat.le_of_ble_eq_true rfl)) dX1_findChallenger_127 ⟨Nat.le_of_ble_eq_true rfl, Nat.le_of_ble_eq_true rfl⟩) hP hD hS hA [1, 2, 3, 4] [0, 5] rfl rfl (by decide) (by decide) (fun r_1 u_2 H locs hw hP hD hS => ?_)
  have hP : va_P D vwCl [(h3, .inr (7, [.ref b1, .ref b2, .ref b3, .ref h5, .ref b4, .ref b5])), (b1, .inl (cI, 10, .inl (fb))), (h5, .inr (9, [.ref s1, .ref s2, .ref s3, .int np, .ref s4, .ref s5, .ref s6])), (h1, .inr (8, [.int 0, .int np, .ref w1, .ref w2, .ref w3, .ref w4, .ref w5])), (s2, .inl (cI, 10, .inl (u_2.1))), (s3, .inl (cI, 11, .inl (u_2.2)))] H := hP
  have hD : va_D A [(h3, .inr (7, [.ref b1, .ref b2, .ref b3, .ref h5, .ref b4, .ref b5])), (b1, .inl (cI, 10, .inl (fb))), (h5, .inr (9, [.ref s1, .ref s2, .ref s3, .int np, .ref s4, .ref s5, .ref s6])), (h1, .inr (8, [.int 0, .int np, .ref w1, .ref w2, .ref w3, .ref w4, .ref w5])), (s2, .inl (cI, 10, .inl (u_2.1))), (s3, .inl (cI, 11, .inl (u_2.2)))] := hD
  have hw : r_1 = 0 := hw
  subst hw
  refine lv_lstore_n (lv' := [(3, .long 0), (0, .ref h3), (1, .ref h1), (2, .ref r1)]) hx hb dX1_findChallenger_130 rfl hl (by decide) rfl (fun ls hl => ?_)
  refine lv_aload_n hx hb dX1_findChallenger_131 rfl (lv_at hl 1 rfl) ?_
  refine va_get (D := D) (ci := 7) (v := .ref h5) (C := RX1) (T := TX1) (N := 6) hx hb hts iX1_findChallenger_X1 hown hK hP 0 rfl rfl 3 (by decide) (hts _ kX1_findChallenger_4) (fun _ h9 => h9) rfl dX1_findChallenger_132 ?_
  refine lv_aload_n hx hb dX1_findChallenger_135 rfl (lv_at hl 1 rfl) ?_
  refine va_get (D := D) (ci := 7) (v := .ref b1) (C := RX1) (T := TX1) (N := 6) hx hb hts iX1_findChallenger_X1 hown hK hP 0 rfl rfl 0 (by decide) (hts _ kX1_findChallenger_7) (fun _ h9 => h9) rfl dX1_findChallenger_136 ?_
  refine yc_v (wc := [(h5, .inr (9, [.ref s1, .ref s2, .ref s3, .int np, .ref s4, .ref s5, .ref s6])), (s2, .inl (cI, 10, .inl (u_2.1))), (b1, .inl (cI, 10, .inl (fb)))]) (wr := [(h3, .inr (7, [.ref b1, .ref b2, .ref b3, .ref h5, .ref b4, .ref b5])), (h1, .inr (8, [.int 0, .int np, .ref w1, .ref w2, .ref w3, .ref w4, .ref w5])), (s3, .inl (cI, 11, .inl (u_2.2)))]) (va_runV (As := [.ref b1]) (rest := []) ⟨hx, hb, hml, hown, hts⟩ (f_copyTo l hfl D tE H.size h5 s1 s2 s3 s4 s5 s6 b1 cI (u_2.1) fb np (va_A [(h5, .inr (9, [.ref s1, .ref s2, .ref s3, .int np, .ref s4, .ref s5, .ref s6])), (s2, .inl (cI, 10, .inl (u_2.1))), (b1, .inl (cI, 10, .inl (fb)))] H.size) rfl) (cwV 1 hts gX1_findChallenger_X3_copyTo rfl rfl rfl (by decide +kernel) ⟨Nat.le_of_ble_eq_true rfl, Nat.le_of_ble_eq_true rfl⟩) (yPreV (wc := [(h5, .inr (9, [.ref s1, .ref s2, .ref s3, .int np, .ref s4, .ref s5, .ref s6])), (s2, .inl (cI, 10, .inl (u_2.1))), (b1, .inl (cI, 10, .inl (fb)))]) (tc := [(cI, .int)]) hK hP hD hS hA hE [2, 4, 1] [0] (by decide) rfl rfl (ci := 9) (q0 := 2) (q := (RX3, TX3, 7)) rfl rfl) rfl rfl hl.1 rfl (lv_room (Nat.le_of_ble_eq_true rfl)) dX1_findChallenger_139 ⟨Nat.le_of_ble_eq_true rfl, Nat.le_of_ble_eq_true rfl⟩) hP hD hS hA [2, 4, 1] [0, 3, 5] rfl rfl (by decide) (by decide) (fun u_4 H locs hw hP hD hS => ?_)
  have hP : va_P D vwCl [(h3, .inr (7, [.ref b1, .ref b2, .ref b3, .ref h5, .ref b4, .ref b5])), (h1, .inr (8, [.int 0, .int np, .ref w1, .ref w2, .ref w3, .ref w4, .ref w5])), (s3, .inl (cI, 11, .inl (u_2.2))), (h5, .inr (9, [.ref s1, .ref s2, .ref s3, .int np, .ref s4, .ref s5, .ref s6])), (s2, .inl (cI, 10, .inl ((u_2.1)))), (b1, .inl (cI, 10, .inl (u_4)))] H := hP
  have hD : va_D A [(h3, .inr (7, [.ref b1, .ref b2, .ref b3, .ref h5, .ref b4, .ref b5])), (h1, .inr (8, [.int 0, .int np, .ref w1, .ref w2, .ref w3, .ref w4, .ref w5])), (s3, .inl (cI, 11, .inl (u_2.2))), (h5, .inr (9, [.ref s1, .ref s2, .ref s3, .int np, .ref s4, .ref s5, .ref s6])), (s2, .inl (cI, 10, .inl ((u_2.1)))), (b1, .inl (cI, 10, .inl (u_4)))] := hD
  refine lv_lload_n hx hb dX1_findChallenger_142 rfl (lv_at hl 0 rfl) ?_
  refine lv_l2i (v := 0) hx hb dX1_findChallenger_143 (by decide) ?_
  exact y_iret hx hb hr hlocks ((u_2.1), u_2.2, u_4) rfl (hP.sub [0, 3, 1, 4, 2, 5] rfl) (hD.sub [0, 3, 1, 4, 2, 5] (by decide) rfl) hS (Nat.le_of_ble_eq_true rfl) (Nat.le_of_ble_eq_true rfl) dX1_findChallenger_144
theorem iX1_valueRanks_X2 : ∀ w ∈ wsX20, w ∈ wsX1_valueRanks := by decide +kernel
theorem kX1_valueRanks_1 : Cond.fieldLink RX1 35 "Mostwell$House" "applicants" "I" ∈ wsX1_valueRanks := List.mem_of_getElem? (i := 1) (by decide +kernel)
set_option maxHeartbeats 4000000 in
set_option maxRecDepth 100000 in
theorem f_valueRanks (l : Launch) (hfl : l.stackTraces = false) (D : va_G) (tE : Nat) (sz : Nat) (h1 : Nat) (h3 : Nat) (w1 : Nat) (w2 : Nat) (w3 : Nat) (w4 : Nat) (w5 : Nat) (np : Int32) (A : Nat → Prop) (hA0 : A = va_A [(h1, .inr (8, [.int 0, .int np, .ref w1, .ref w2, .ref w3, .ref w4, .ref w5]))] sz) : Met l yX1_valueRanks wsX1_valueRanks (yR 0 0 0) (yP D tE [(h1, .inr (8, [.int 0, .int np, .ref w1, .ref w2, .ref w3, .ref w4, .ref w5]))] [] sz [.ref h3, .ref h1]) (va_Qv (S := Unit) (fun (u : Unit) => True) (fun (u : Unit) (t : State) => yB D A ((fun (u : Unit) => [(h1, .inr (8, [.int 0, .int np, .ref w1, .ref w2, .ref w3, .ref w4, .ref w5]))]) u) t) A) 0 0 A := by
  refine Met.ofW (cc := cX1_valueRanks) (maxL := 5) (ret := none) (by decide) rfl ?_
  intro p e s m args below meth c s₁ B hml hv
  obtain ⟨rfl, rfl, hP, hK, hD, hE, hA⟩ := y_start hA0 hv
  have hx := B.exec
  have hb := B.bytes
  have hr := B.returns
  have hts := atoms_spec (ws := wsX1_valueRanks) B.pre
  have hown : s.vm.findClass RX1 = some m.cls := findClass_of_methodNamed B.named
  have hlocks := B.notSynchronized
  clear hA0 hv
  have hS : va_S A s.heap s.heap [] := va_S.rf
  have hl := lv_entry ([.ref h3, .ref h1]) (n := 5) (Nat.le_of_ble_eq_true rfl)
  rw [lg_entry_eq]
  generalize (lg_sl ([.ref h3, .ref h1]) ++ List.replicate (5 - (lg_sl ([.ref h3, .ref h1])).length) Slot.unset).toArray = ls at hl ⊢
  have hl : lv_has ls 5 [(0, .ref h3), (1, .ref h1)] := hl
  refine lv_iconst (v := (0)) hx hb dX1_valueRanks_0 (by decide) ?_
  refine lv_istore_n (lv' := [(2, .int 0), (0, .ref h3), (1, .ref h1)]) hx hb dX1_valueRanks_1 rfl hl (by decide) rfl (fun ls hl => ?_)
  refine lv_iload_n hx hb dX1_valueRanks_2 rfl (lv_at hl 0 rfl) ?_
  refine lv_aload_n hx hb dX1_valueRanks_3 rfl (lv_at hl 2 rfl) ?_
  refine va_get (D := D) (ci := 8) (v := .int 0) (C := RX2) (T := TX2) (N := 7) hx hb hts iX1_valueRanks_X2 hown hK hP 0 rfl rfl 0 (by decide) (hts _ kX1_valueRanks_1) (fun _ h9 => h9) rfl dX1_valueRanks_4 ?_
  refine lv_icmp_ge (tgt := 85) hx hb dX1_valueRanks_7 (by decide) (fun _ => ?_) (fun h => absurd h (by decide))
  exact y_vret hx hb hr hlocks () trivial hP hD hS (Nat.le_of_ble_eq_true rfl) (Nat.le_of_ble_eq_true rfl) dX1_valueRanks_85
theorem iX1_valueFirstChoices_X2 : ∀ w ∈ wsX20, w ∈ wsX1_valueFirstChoices := by decide +kernel
theorem kX1_valueFirstChoices_1 : Cond.fieldLink RX1 35 "Mostwell$House" "applicants" "I" ∈ wsX1_valueFirstChoices := List.mem_of_getElem? (i := 1) (by decide +kernel)
set_option maxHeartbeats 4000000 in
set_option maxRecDepth 100000 in
theorem f_valueFirstChoices (l : Launch) (hfl : l.stackTraces = false) (D : va_G) (tE : Nat) (sz : Nat) (h1 : Nat) (h3 : Nat) (w1 : Nat) (w2 : Nat) (w3 : Nat) (w4 : Nat) (w5 : Nat) (np : Int32) (A : Nat → Prop) (hA0 : A = va_A [(h1, .inr (8, [.int 0, .int np, .ref w1, .ref w2, .ref w3, .ref w4, .ref w5]))] sz) : Met l yX1_valueFirstChoices wsX1_valueFirstChoices (yR 0 0 0) (yP D tE [(h1, .inr (8, [.int 0, .int np, .ref w1, .ref w2, .ref w3, .ref w4, .ref w5]))] [] sz [.ref h3, .ref h1]) (va_Qv (S := Unit) (fun (u : Unit) => True) (fun (u : Unit) (t : State) => yB D A ((fun (u : Unit) => [(h1, .inr (8, [.int 0, .int np, .ref w1, .ref w2, .ref w3, .ref w4, .ref w5]))]) u) t) A) 0 0 A := by
  refine Met.ofW (cc := cX1_valueFirstChoices) (maxL := 5) (ret := none) (by decide) rfl ?_
  intro p e s m args below meth c s₁ B hml hv
  obtain ⟨rfl, rfl, hP, hK, hD, hE, hA⟩ := y_start hA0 hv
  have hx := B.exec
  have hb := B.bytes
  have hr := B.returns
  have hts := atoms_spec (ws := wsX1_valueFirstChoices) B.pre
  have hown : s.vm.findClass RX1 = some m.cls := findClass_of_methodNamed B.named
  have hlocks := B.notSynchronized
  clear hA0 hv
  have hS : va_S A s.heap s.heap [] := va_S.rf
  have hl := lv_entry ([.ref h3, .ref h1]) (n := 5) (Nat.le_of_ble_eq_true rfl)
  rw [lg_entry_eq]
  generalize (lg_sl ([.ref h3, .ref h1]) ++ List.replicate (5 - (lg_sl ([.ref h3, .ref h1])).length) Slot.unset).toArray = ls at hl ⊢
  have hl : lv_has ls 5 [(0, .ref h3), (1, .ref h1)] := hl
  refine lv_iconst (v := (0)) hx hb dX1_valueFirstChoices_0 (by decide) ?_
  refine lv_istore_n (lv' := [(2, .int 0), (0, .ref h3), (1, .ref h1)]) hx hb dX1_valueFirstChoices_1 rfl hl (by decide) rfl (fun ls hl => ?_)
  refine lv_iload_n hx hb dX1_valueFirstChoices_2 rfl (lv_at hl 0 rfl) ?_
  refine lv_aload_n hx hb dX1_valueFirstChoices_3 rfl (lv_at hl 2 rfl) ?_
  refine va_get (D := D) (ci := 8) (v := .int 0) (C := RX2) (T := TX2) (N := 7) hx hb hts iX1_valueFirstChoices_X2 hown hK hP 0 rfl rfl 0 (by decide) (hts _ kX1_valueFirstChoices_1) (fun _ h9 => h9) rfl dX1_valueFirstChoices_4 ?_
  refine lv_icmp_ge (tgt := 119) hx hb dX1_valueFirstChoices_7 (by decide) (fun _ => ?_) (fun h => absurd h (by decide))
  exact y_vret hx hb hr hlocks () trivial hP hD hS (Nat.le_of_ble_eq_true rfl) (Nat.le_of_ble_eq_true rfl) dX1_valueFirstChoices_119
theorem iX1_findBest_X1 : ∀ w ∈ wsX10, w ∈ wsX1_findBest := by decide +kernel
theorem kX1_findBest_1 : Cond.fieldLink RX1 24 "Mostwell$Finder" "sharing" "LMostwell$Sharing;" ∈ wsX1_findBest := List.mem_of_getElem? (i := 1) (by decide +kernel)
theorem kX1_findBest_2 : Cond.fieldLink RX1 15 "Mostwell$Finder" "bestRow" "[I" ∈ wsX1_findBest := List.mem_of_getElem? (i := 2) (by decide +kernel)
set_option maxHeartbeats 4000000 in
set_option maxRecDepth 100000 in
theorem f_findBest (l : Launch) (hfl : l.stackTraces = false) (D : va_G) (tE : Nat) (sz : Nat) (h1 : Nat) (h3 : Nat) (w1 : Nat) (w2 : Nat) (w3 : Nat) (w4 : Nat) (w5 : Nat) (b1 : Nat) (b2 : Nat) (b3 : Nat) (h5 : Nat) (b4 : Nat) (b5 : Nat) (s1 : Nat) (s2 : Nat) (s3 : Nat) (s4 : Nat) (s5 : Nat) (s6 : Nat) (cI : ClassId) (f1 : Nat → Int32) (f2 : Nat → Int32) (fb : Nat → Int32) (sn : Int32) (np : Int32) (A : Nat → Prop) (hA0 : A = va_A [(h3, .inr (7, [.ref b1, .ref b2, .ref b3, .ref h5, .ref b4, .ref b5])), (h5, .inr (9, [.ref s1, .ref s2, .ref s3, .int sn, .ref s4, .ref s5, .ref s6])), (h1, .inr (8, [.int 0, .int np, .ref w1, .ref w2, .ref w3, .ref w4, .ref w5])), (s2, .inl (cI, 10, .inl (f1))), (s3, .inl (cI, 11, .inl (f2))), (b2, .inl (cI, 10, .inl (fb)))] sz) : Met l yX1_findBest wsX1_findBest (yR 2 0 0) (yP D tE [(h3, .inr (7, [.ref b1, .ref b2, .ref b3, .ref h5, .ref b4, .ref b5])), (h5, .inr (9, [.ref s1, .ref s2, .ref s3, .int sn, .ref s4, .ref s5, .ref s6])), (h1, .inr (8, [.int 0, .int np, .ref w1, .ref w2, .ref w3, .ref w4, .ref w5])), (s2, .inl (cI, 10, .inl (f1))), (s3, .inl (cI, 11, .inl (f2))), (b2, .inl (cI, 10, .inl (fb)))] [(cI, .int)] sz [.ref h3, .ref h1]) (va_Qv (S := (Nat → Int32) × (Nat → Int32) × (Nat → Int32)) (fun (u : (Nat → Int32) × (Nat → Int32) × (Nat → Int32)) => True) (fun (u : (Nat → Int32) × (Nat → Int32) × (Nat → Int32)) (t : State) => yB D A ((fun (u : (Nat → Int32) × (Nat → Int32) × (Nat → Int32)) => [(h3, .inr (7, [.ref b1, .ref b2, .ref b3, .ref h5, .ref b4, .ref b5])), (h5, .inr (9, [.ref s1, .ref s2, .ref s3, .int np, .ref s4, .ref s5, .ref s6])), (h1, .inr (8, [.int 0, .int np, .ref w1, .ref w2, .ref w3, .ref w4, .ref w5])), (s2, .inl (cI, 10, .inl (u.1))), (s3, .inl (cI, 11, .inl (u.2.1))), (b2, .inl (cI, 10, .inl (u.2.2)))]) u) t) A) 0 0 A := by
  refine Met.ofW (cc := cX1_findBest) (maxL := 2) (ret := none) (by decide) rfl ?_
  intro p e s m args below meth c s₁ B hml hv
  obtain ⟨rfl, rfl, hP, hK, hD, hE, hA⟩ := y_start hA0 hv
  have hx := B.exec
  have hb := B.bytes
  have hr := B.returns
  have hts := atoms_spec (ws := wsX1_findBest) B.pre
  have hown : s.vm.findClass RX1 = some m.cls := findClass_of_methodNamed B.named
  have hlocks := B.notSynchronized
  clear hA0 hv
  have hS : va_S A s.heap s.heap [] := va_S.rf
  have hl := lv_entry ([.ref h3, .ref h1]) (n := 2) (Nat.le_of_ble_eq_true rfl)
  rw [lg_entry_eq]
  generalize (lg_sl ([.ref h3, .ref h1]) ++ List.replicate (2 - (lg_sl ([.ref h3, .ref h1])).length) Slot.unset).toArray = ls at hl ⊢
  have hl : lv_has ls 2 [(0, .ref h3), (1, .ref h1)] := hl
  refine lv_aload_n hx hb dX1_findBest_0 rfl (lv_at hl 0 rfl) ?_
  refine lv_aload_n hx hb dX1_findBest_1 rfl (lv_at hl 1 rfl) ?_
  refine yc_v (wc := [(h1, .inr (8, [.int 0, .int np, .ref w1, .ref w2, .ref w3, .ref w4, .ref w5]))]) (wr := [(h3, .inr (7, [.ref b1, .ref b2, .ref b3, .ref h5, .ref b4, .ref b5])), (h5, .inr (9, [.ref s1, .ref s2, .ref s3, .int sn, .ref s4, .ref s5, .ref s6])), (s2, .inl (cI, 10, .inl (f1))), (s3, .inl (cI, 11, .inl (f2))), (b2, .inl (cI, 10, .inl (fb)))]) (va_runV (As := [.ref h1]) (rest := []) ⟨hx, hb, hml, hown, hts⟩ (f_valueRanks l hfl D tE s.heap.size h1 h3 w1 w2 w3 w4 w5 np (va_A [(h1, .inr (8, [.int 0, .int np, .ref w1, .ref w2, .ref w3, .ref w4, .ref w5]))] s.heap.size) rfl) (cwV 1 hts gX1_findBest_X1_valueRanks rfl rfl rfl (by decide +kernel) ⟨Nat.le_of_ble_eq_true rfl, Nat.le_of_ble_eq_true rfl⟩) (yPreV (wc := [(h1, .inr (8, [.int 0, .int np, .ref w1, .ref w2, .ref w3, .ref w4, .ref w5]))]) (tc := []) hK hP hD hS hA hE [2] [] (by decide) rfl rfl (ci := 7) (q0 := 0) (q := (RX1, TX1, 6)) rfl rfl) rfl rfl hl.1 rfl (lv_room (Nat.le_of_ble_eq_true rfl)) dX1_findBest_2 ⟨Nat.le_of_ble_eq_true rfl, Nat.le_of_ble_eq_true rfl⟩) hP hD hS hA [2] [0, 1, 3, 4, 5] rfl rfl (by decide) (by decide) (fun u_2 H locs hw hP hD hS => ?_)
  have hP : va_P D vwCl [(h3, .inr (7, [.ref b1, .ref b2, .ref b3, .ref h5, .ref b4, .ref b5])), (h5, .inr (9, [.ref s1, .ref s2, .ref s3, .int sn, .ref s4, .ref s5, .ref s6])), (s2, .inl (cI, 10, .inl (f1))), (s3, .inl (cI, 11, .inl (f2))), (b2, .inl (cI, 10, .inl (fb))), (h1, .inr (8, [.int 0, .int np, .ref w1, .ref w2, .ref w3, .ref w4, .ref w5]))] H := hP
  have hD : va_D A [(h3, .inr (7, [.ref b1, .ref b2, .ref b3, .ref h5, .ref b4, .ref b5])), (h5, .inr (9, [.ref s1, .ref s2, .ref s3, .int sn, .ref s4, .ref s5, .ref s6])), (s2, .inl (cI, 10, .inl (f1))), (s3, .inl (cI, 11, .inl (f2))), (b2, .inl (cI, 10, .inl (fb))), (h1, .inr (8, [.int 0, .int np, .ref w1, .ref w2, .ref w3, .ref w4, .ref w5]))] := hD
  refine lv_aload_n hx hb dX1_findBest_5 rfl (lv_at hl 0 rfl) ?_
  refine va_get (D := D) (ci := 7) (v := .ref h5) (C := RX1) (T := TX1) (N := 6) hx hb hts iX1_findBest_X1 hown hK hP 0 rfl rfl 3 (by decide) (hts _ kX1_findBest_1) (fun _ h9 => h9) rfl dX1_findBest_6 ?_
  refine lv_aload_n hx hb dX1_findBest_9 rfl (lv_at hl 1 rfl) ?_
  refine yc_l (wc := [(h5, .inr (9, [.ref s1, .ref s2, .ref s3, .int sn, .ref s4, .ref s5, .ref s6])), (h1, .inr (8, [.int 0, .int np, .ref w1, .ref w2, .ref w3, .ref w4, .ref w5])), (s2, .inl (cI, 10, .inl (f1))), (s3, .inl (cI, 11, .inl (f2)))]) (wr := [(h3, .inr (7, [.ref b1, .ref b2, .ref b3, .ref h5, .ref b4, .ref b5])), (b2, .inl (cI, 10, .inl (fb)))]) (va_runV (As := [.ref h1]) (rest := []) ⟨hx, hb, hml, hown, hts⟩ (f_share l hfl D tE H.size h1 h5 w1 w2 w3 w4 w5 s1 s2 s3 s4 s5 s6 cI f1 f2 sn np (va_A [(h5, .inr (9, [.ref s1, .ref s2, .ref s3, .int sn, .ref s4, .ref s5, .ref s6])), (h1, .inr (8, [.int 0, .int np, .ref w1, .ref w2, .ref w3, .ref w4, .ref w5])), (s2, .inl (cI, 10, .inl (f1))), (s3, .inl (cI, 11, .inl (f2)))] H.size) rfl) (cwV 1 hts gX1_findBest_X3_share rfl rfl rfl (by decide +kernel) ⟨Nat.le_of_ble_eq_true rfl, Nat.le_of_ble_eq_true rfl⟩) (yPreV (wc := [(h5, .inr (9, [.ref s1, .ref s2, .ref s3, .int sn, .ref s4, .ref s5, .ref s6])), (h1, .inr (8, [.int 0, .int np, .ref w1, .ref w2, .ref w3, .ref w4, .ref w5])), (s2, .inl (cI, 10, .inl (f1))), (s3, .inl (cI, 11, .inl (f2)))]) (tc := [(cI, .int)]) hK hP hD hS hA hE [1, 5, 2, 3] [0] (by decide) rfl rfl (ci := 9) (q0 := 1) (q := (RX3, TX3, 7)) rfl rfl) rfl rfl hl.1 rfl (lv_room (Nat.le_of_ble_eq_true rfl)) dX1_findBest_10 ⟨Nat.le_of_ble_eq_true rfl, Nat.le_of_ble_eq_true rfl⟩) hP hD hS hA [1, 5, 2, 3] [0, 4] rfl rfl (by decide) (by decide) (fun r_3 u_4 H locs hw hP hD hS => ?_)
  have hP : va_P D vwCl [(h3, .inr (7, [.ref b1, .ref b2, .ref b3, .ref h5, .ref b4, .ref b5])), (b2, .inl (cI, 10, .inl (fb))), (h5, .inr (9, [.ref s1, .ref s2, .ref s3, .int np, .ref s4, .ref s5, .ref s6])), (h1, .inr (8, [.int 0, .int np, .ref w1, .ref w2, .ref w3, .ref w4, .ref w5])), (s2, .inl (cI, 10, .inl (u_4.1))), (s3, .inl (cI, 11, .inl (u_4.2)))] H := hP
  have hD : va_D A [(h3, .inr (7, [.ref b1, .ref b2, .ref b3, .ref h5, .ref b4, .ref b5])), (b2, .inl (cI, 10, .inl (fb))), (h5, .inr (9, [.ref s1, .ref s2, .ref s3, .int np, .ref s4, .ref s5, .ref s6])), (h1, .inr (8, [.int 0, .int np, .ref w1, .ref w2, .ref w3, .ref w4, .ref w5])), (s2, .inl (cI, 10, .inl (u_4.1))), (s3, .inl (cI, 11, .inl (u_4.2)))] := hD
  have hw : r_3 = 0 := hw
  subst hw
  refine lv_pop2_2 hx hb dX1_findBest_13 rfl ?_
  refine lv_aload_n hx hb dX1_findBest_14 rfl (lv_at hl 0 rfl) ?_
  refine va_get (D := D) (ci := 7) (v := .ref h5) (C := RX1) (T := TX1) (N := 6) hx hb hts iX1_findBest_X1 hown hK hP 0 rfl rfl 3 (by decide) (hts _ kX1_findBest_1) (fun _ h9 => h9) rfl dX1_findBest_15 ?_
  refine lv_aload_n hx hb dX1_findBest_18 rfl (lv_at hl 0 rfl) ?_
  refine va_get (D := D) (ci := 7) (v := .ref b2) (C := RX1) (T := TX1) (N := 6) hx hb hts iX1_findBest_X1 hown hK hP 0 rfl rfl 1 (by decide) (hts _ kX1_findBest_2) (fun _ h9 => h9) rfl dX1_findBest_19 ?_
  refine yc_v (wc := [(h5, .inr (9, [.ref s1, .ref s2, .ref s3, .int np, .ref s4, .ref s5, .ref s6])), (s2, .inl (cI, 10, .inl (u_4.1))), (b2, .inl (cI, 10, .inl (fb)))]) (wr := [(h3, .inr (7, [.ref b1, .ref b2, .ref b3, .ref h5, .ref b4, .ref b5])), (h1, .inr (8, [.int 0, .int np, .ref w1, .ref w2, .ref w3, .ref w4, .ref w5])), (s3, .inl (cI, 11, .inl (u_4.2)))]) (va_runV (As := [.ref b2]) (rest := []) ⟨hx, hb, hml, hown, hts⟩ (f_copyTo l hfl D tE H.size h5 s1 s2 s3 s4 s5 s6 b2 cI (u_4.1) fb np (va_A [(h5, .inr (9, [.ref s1, .ref s2, .ref s3, .int np, .ref s4, .ref s5, .ref s6])), (s2, .inl (cI, 10, .inl (u_4.1))), (b2, .inl (cI, 10, .inl (fb)))] H.size) rfl) (cwV 1 hts gX1_findBest_X3_copyTo rfl rfl rfl (by decide +kernel) ⟨Nat.le_of_ble_eq_true rfl, Nat.le_of_ble_eq_true rfl⟩) (yPreV (wc := [(h5, .inr (9, [.ref s1, .ref s2, .ref s3, .int np, .ref s4, .ref s5, .ref s6])), (s2, .inl (cI, 10, .inl (u_4.1))), (b2, .inl (cI, 10, .inl (fb)))]) (tc := [(cI, .int)]) hK hP hD hS hA hE [2, 4, 1] [0] (by decide) rfl rfl (ci := 9) (q0 := 2) (q := (RX3, TX3, 7)) rfl rfl) rfl rfl hl.1 rfl (lv_room (Nat.le_of_ble_eq_true rfl)) dX1_findBest_22 ⟨Nat.le_of_ble_eq_true rfl, Nat.le_of_ble_eq_true rfl⟩) hP hD hS hA [2, 4, 1] [0, 3, 5] rfl rfl (by decide) (by decide) (fun u_6 H locs hw hP hD hS => ?_)
  have hP : va_P D vwCl [(h3, .inr (7, [.ref b1, .ref b2, .ref b3, .ref h5, .ref b4, .ref b5])), (h1, .inr (8, [.int 0, .int np, .ref w1, .ref w2, .ref w3, .ref w4, .ref w5])), (s3, .inl (cI, 11, .inl (u_4.2))), (h5, .inr (9, [.ref s1, .ref s2, .ref s3, .int np, .ref s4, .ref s5, .ref s6])), (s2, .inl (cI, 10, .inl ((u_4.1)))), (b2, .inl (cI, 10, .inl (u_6)))] H := hP
  have hD : va_D A [(h3, .inr (7, [.ref b1, .ref b2, .ref b3, .ref h5, .ref b4, .ref b5])), (h1, .inr (8, [.int 0, .int np, .ref w1, .ref w2, .ref w3, .ref w4, .ref w5])), (s3, .inl (cI, 11, .inl (u_4.2))), (h5, .inr (9, [.ref s1, .ref s2, .ref s3, .int np, .ref s4, .ref s5, .ref s6])), (s2, .inl (cI, 10, .inl ((u_4.1)))), (b2, .inl (cI, 10, .inl (u_6)))] := hD
  exact y_vret hx hb hr hlocks ((u_4.1), u_4.2, u_6) trivial (hP.sub [0, 3, 1, 4, 2, 5] rfl) (hD.sub [0, 3, 1, 4, 2, 5] (by decide) rfl) hS (Nat.le_of_ble_eq_true rfl) (Nat.le_of_ble_eq_true rfl) dX1_findBest_25
theorem iX1_markEven_X2 : ∀ w ∈ wsX20, w ∈ wsX1_markEven := by decide +kernel
theorem kX1_markEven_1 : Cond.fieldLink RX1 48 "Mostwell$House" "posts" "I" ∈ wsX1_markEven := List.mem_of_getElem? (i := 1) (by decide +kernel)
theorem kX1_markEven_6 : Cond.fieldLink RX1 35 "Mostwell$House" "applicants" "I" ∈ wsX1_markEven := List.mem_of_getElem? (i := 6) (by decide +kernel)
set_option maxHeartbeats 4000000 in
set_option maxRecDepth 100000 in
theorem f_markEven (l : Launch) (hfl : l.stackTraces = false) (D : va_G) (tE : Nat) (sz : Nat) (h1 : Nat) (h3 : Nat) (w1 : Nat) (w2 : Nat) (w3 : Nat) (w4 : Nat) (w5 : Nat) (b1 : Nat) (b2 : Nat) (b3 : Nat) (h5 : Nat) (b4 : Nat) (b5 : Nat) (A : Nat → Prop) (hA0 : A = va_A [(h3, .inr (7, [.ref b1, .ref b2, .ref b3, .ref h5, .ref b4, .ref b5])), (h1, .inr (8, [.int 0, .int 0, .ref w1, .ref w2, .ref w3, .ref w4, .ref w5]))] sz) : Met l yX1_markEven wsX1_markEven (yR 0 0 0) (yP D tE [(h3, .inr (7, [.ref b1, .ref b2, .ref b3, .ref h5, .ref b4, .ref b5])), (h1, .inr (8, [.int 0, .int 0, .ref w1, .ref w2, .ref w3, .ref w4, .ref w5]))] [] sz [.ref h3, .ref h1]) (va_Qv (S := Unit) (fun (u : Unit) => True) (fun (u : Unit) (t : State) => yB D A ((fun (u : Unit) => [(h3, .inr (7, [.ref b1, .ref b2, .ref b3, .ref h5, .ref b4, .ref b5])), (h1, .inr (8, [.int 0, .int 0, .ref w1, .ref w2, .ref w3, .ref w4, .ref w5]))]) u) t) A) 0 0 A := by
  refine Met.ofW (cc := cX1_markEven) (maxL := 6) (ret := none) (by decide) rfl ?_
  intro p e s m args below meth c s₁ B hml hv
  obtain ⟨rfl, rfl, hP, hK, hD, hE, hA⟩ := y_start hA0 hv
  have hx := B.exec
  have hb := B.bytes
  have hr := B.returns
  have hts := atoms_spec (ws := wsX1_markEven) B.pre
  have hown : s.vm.findClass RX1 = some m.cls := findClass_of_methodNamed B.named
  have hlocks := B.notSynchronized
  clear hA0 hv
  have hS : va_S A s.heap s.heap [] := va_S.rf
  have hl := lv_entry ([.ref h3, .ref h1]) (n := 6) (Nat.le_of_ble_eq_true rfl)
  rw [lg_entry_eq]
  generalize (lg_sl ([.ref h3, .ref h1]) ++ List.replicate (6 - (lg_sl ([.ref h3, .ref h1])).length) Slot.unset).toArray = ls at hl ⊢
  have hl : lv_has ls 6 [(0, .ref h3), (1, .ref h1)] := hl
  refine lv_iconst (v := (0)) hx hb dX1_markEven_0 (by decide) ?_
  refine lv_istore_n (lv' := [(2, .int 0), (0, .ref h3), (1, .ref h1)]) hx hb dX1_markEven_1 rfl hl (by decide) rfl (fun ls hl => ?_)
  refine lv_iload_n hx hb dX1_markEven_2 rfl (lv_at hl 0 rfl) ?_
  refine lv_aload_n hx hb dX1_markEven_3 rfl (lv_at hl 2 rfl) ?_
  refine va_get (D := D) (ci := 8) (v := .int 0) (C := RX2) (T := TX2) (N := 7) hx hb hts iX1_markEven_X2 hown hK hP 1 rfl rfl 1 (by decide) (hts _ kX1_markEven_1) (fun _ h9 => h9) rfl dX1_markEven_4 ?_
  refine lv_icmp_ge (tgt := 45) hx hb dX1_markEven_7 (by decide) (fun _ => ?_) (fun h => absurd h (by decide))
  refine lv_iconst (v := (1)) hx hb dX1_markEven_45 (by decide) ?_
  refine lv_istore_n (lv' := [(2, .int 1), (0, .ref h3), (1, .ref h1)]) hx hb dX1_markEven_46 rfl hl (by decide) rfl (fun ls hl => ?_)
  refine lv_iconst (v := (0)) hx hb dX1_markEven_47 (by decide) ?_
  refine lv_istore_n (lv' := [(3, .int 0), (2, .int 1), (0, .ref h3), (1, .ref h1)]) hx hb dX1_markEven_48 rfl hl (by decide) rfl (fun ls hl => ?_)
  refine lv_iload_n hx hb dX1_markEven_49 rfl (lv_at hl 0 rfl) ?_
  refine lv_bipush (v := (10)) hx hb dX1_markEven_50 (by decide) ?_
  refine lv_icmp_gt (tgt := 141) hx hb dX1_markEven_52 (by decide) (fun h => absurd h (by decide)) (fun _ => ?_)
  refine lv_iload_n hx hb dX1_markEven_55 rfl (lv_at hl 1 rfl) ?_
  refine lv_if_eq (tgt := 141) hx hb dX1_markEven_56 (by decide) (fun h => absurd h (by decide)) (fun _ => ?_)
  refine lv_iconst (v := (0)) hx hb dX1_markEven_59 (by decide) ?_
  refine lv_istore_n (lv' := [(2, .int 0), (3, .int 0), (0, .ref h3), (1, .ref h1)]) hx hb dX1_markEven_60 rfl hl (by decide) rfl (fun ls hl => ?_)
  refine lv_iconst (v := (0)) hx hb dX1_markEven_61 (by decide) ?_
  refine lv_istore (lv' := [(4, .int 0), (2, .int 0), (3, .int 0), (0, .ref h3), (1, .ref h1)]) hx hb dX1_markEven_62 hl (by decide) rfl (fun ls hl => ?_)
  refine lv_iload hx hb dX1_markEven_64 (lv_at hl 0 rfl) ?_
  refine lv_aload_n hx hb dX1_markEven_66 rfl (lv_at hl 4 rfl) ?_
  refine va_get (D := D) (ci := 8) (v := .int 0) (C := RX2) (T := TX2) (N := 7) hx hb hts iX1_markEven_X2 hown hK hP 1 rfl rfl 0 (by decide) (hts _ kX1_markEven_6) (fun _ h9 => h9) rfl dX1_markEven_67 ?_
  refine lv_icmp_ge (tgt := 135) hx hb dX1_markEven_70 (by decide) (fun _ => ?_) (fun h => absurd h (by decide))
  refine lv_iinc (v := 1) (lv' := [(3, .int 1), (4, .int 0), (2, .int 0), (0, .ref h3), (1, .ref h1)]) hx hb dX1_markEven_135 hl (k := 2) rfl (by decide) (by decide) rfl (fun ls hl => ?_)
  refine lv_goto (tgt := 49) hx hb dX1_markEven_138 (by decide) ?_
  refine lv_iload_n hx hb dX1_markEven_49 rfl (lv_at hl 0 rfl) ?_
  refine lv_bipush (v := (10)) hx hb dX1_markEven_50 (by decide) ?_
  refine lv_icmp_gt (tgt := 141) hx hb dX1_markEven_52 (by decide) (fun h => absurd h (by decide)) (fun _ => ?_)
  refine lv_iload_n hx hb dX1_markEven_55 rfl (lv_at hl 2 rfl) ?_
  refine lv_if_eq (tgt := 141) hx hb dX1_markEven_56 (by decide) (fun _ => ?_) (fun h => absurd h (by decide))
  exact y_vret hx hb hr hlocks () trivial hP hD hS (Nat.le_of_ble_eq_true rfl) (Nat.le_of_ble_eq_true rfl) dX1_markEven_141
theorem iX1_findPopular_X1 : ∀ w ∈ wsX10, w ∈ wsX1_findPopular := by decide +kernel
theorem kX1_findPopular_1 : Cond.fieldLink RX1 24 "Mostwell$Finder" "sharing" "LMostwell$Sharing;" ∈ wsX1_findPopular := List.mem_of_getElem? (i := 1) (by decide +kernel)
theorem iX1_findPopular_X2 : ∀ w ∈ wsX20, w ∈ wsX1_findPopular := by decide +kernel
theorem kX1_findPopular_2 : Cond.fieldLink RX1 35 "Mostwell$House" "applicants" "I" ∈ wsX1_findPopular := List.mem_of_getElem? (i := 2) (by decide +kernel)
theorem kX1_findPopular_3 : Cond.fieldLink RX1 18 "Mostwell$Finder" "popularRow" "[I" ∈ wsX1_findPopular := List.mem_of_getElem? (i := 3) (by decide +kernel)
set_option maxHeartbeats 4000000 in
set_option maxRecDepth 100000 in
theorem f_findPopular (l : Launch) (hfl : l.stackTraces = false) (D : va_G) (tE : Nat) (sz : Nat) (h1 : Nat) (h3 : Nat) (w1 : Nat) (w2 : Nat) (w3 : Nat) (w4 : Nat) (w5 : Nat) (b1 : Nat) (b2 : Nat) (b3 : Nat) (h5 : Nat) (b4 : Nat) (b5 : Nat) (s1 : Nat) (s2 : Nat) (s3 : Nat) (s4 : Nat) (s5 : Nat) (s6 : Nat) (cI : ClassId) (f1 : Nat → Int32) (f2 : Nat → Int32) (fb : Nat → Int32) (sn : Int32) (A : Nat → Prop) (hA0 : A = va_A [(h3, .inr (7, [.ref b1, .ref b2, .ref b3, .ref h5, .ref b4, .ref b5])), (h5, .inr (9, [.ref s1, .ref s2, .ref s3, .int sn, .ref s4, .ref s5, .ref s6])), (h1, .inr (8, [.int 0, .int 0, .ref w1, .ref w2, .ref w3, .ref w4, .ref w5])), (s2, .inl (cI, 10, .inl (f1))), (s3, .inl (cI, 11, .inl (f2))), (b3, .inl (cI, 10, .inl (fb)))] sz) : Met l yX1_findPopular wsX1_findPopular (yR 2 0 0) (yP D tE [(h3, .inr (7, [.ref b1, .ref b2, .ref b3, .ref h5, .ref b4, .ref b5])), (h5, .inr (9, [.ref s1, .ref s2, .ref s3, .int sn, .ref s4, .ref s5, .ref s6])), (h1, .inr (8, [.int 0, .int 0, .ref w1, .ref w2, .ref w3, .ref w4, .ref w5])), (s2, .inl (cI, 10, .inl (f1))), (s3, .inl (cI, 11, .inl (f2))), (b3, .inl (cI, 10, .inl (fb)))] [(cI, .int)] sz [.ref h3, .ref h1]) (va_Qi (S := (Nat → Int32) × (Nat → Int32) × (Nat → Int32)) (fun (r : Int32) (u : (Nat → Int32) × (Nat → Int32) × (Nat → Int32)) => r = 1) (fun (u : (Nat → Int32) × (Nat → Int32) × (Nat → Int32)) (t : State) => yB D A ((fun (u : (Nat → Int32) × (Nat → Int32) × (Nat → Int32)) => [(h3, .inr (7, [.ref b1, .ref b2, .ref b3, .ref h5, .ref b4, .ref b5])), (h5, .inr (9, [.ref s1, .ref s2, .ref s3, .int 0, .ref s4, .ref s5, .ref s6])), (h1, .inr (8, [.int 0, .int 0, .ref w1, .ref w2, .ref w3, .ref w4, .ref w5])), (s2, .inl (cI, 10, .inl (u.1))), (s3, .inl (cI, 11, .inl (u.2.1))), (b3, .inl (cI, 10, .inl (u.2.2)))]) u) t) A) 0 0 A := by
  refine Met.ofW (cc := cX1_findPopular) (maxL := 5) (ret := (some .boolean)) (by decide) rfl ?_
  intro p e s m args below meth c s₁ B hml hv
  obtain ⟨rfl, rfl, hP, hK, hD, hE, hA⟩ := y_start hA0 hv
  have hx := B.exec
  have hb := B.bytes
  have hr := B.returns
  have hts := atoms_spec (ws := wsX1_findPopular) B.pre
  have hown : s.vm.findClass RX1 = some m.cls := findClass_of_methodNamed B.named
  have hlocks := B.notSynchronized
  clear hA0 hv
  have hS : va_S A s.heap s.heap [] := va_S.rf
  have hl := lv_entry ([.ref h3, .ref h1]) (n := 5) (Nat.le_of_ble_eq_true rfl)
  rw [lg_entry_eq]
  generalize (lg_sl ([.ref h3, .ref h1]) ++ List.replicate (5 - (lg_sl ([.ref h3, .ref h1])).length) Slot.unset).toArray = ls at hl ⊢
  have hl : lv_has ls 5 [(0, .ref h3), (1, .ref h1)] := hl
  refine lv_aload_n hx hb dX1_findPopular_0 rfl (lv_at hl 0 rfl) ?_
  refine lv_aload_n hx hb dX1_findPopular_1 rfl (lv_at hl 1 rfl) ?_
  refine yc_v (wc := [(h1, .inr (8, [.int 0, .int 0, .ref w1, .ref w2, .ref w3, .ref w4, .ref w5]))]) (wr := [(h3, .inr (7, [.ref b1, .ref b2, .ref b3, .ref h5, .ref b4, .ref b5])), (h5, .inr (9, [.ref s1, .ref s2, .ref s3, .int sn, .ref s4, .ref s5, .ref s6])), (s2, .inl (cI, 10, .inl (f1))), (s3, .inl (cI, 11, .inl (f2))), (b3, .inl (cI, 10, .inl (fb)))]) (va_runV (As := [.ref h1]) (rest := []) ⟨hx, hb, hml, hown, hts⟩ (f_valueFirstChoices l hfl D tE s.heap.size h1 h3 w1 w2 w3 w4 w5 0 (va_A [(h1, .inr (8, [.int 0, .int 0, .ref w1, .ref w2, .ref w3, .ref w4, .ref w5]))] s.heap.size) rfl) (cwV 1 hts gX1_findPopular_X1_valueFirstChoices rfl rfl rfl (by decide +kernel) ⟨Nat.le_of_ble_eq_true rfl, Nat.le_of_ble_eq_true rfl⟩) (yPreV (wc := [(h1, .inr (8, [.int 0, .int 0, .ref w1, .ref w2, .ref w3, .ref w4, .ref w5]))]) (tc := []) hK hP hD hS hA hE [2] [] (by decide) rfl rfl (ci := 7) (q0 := 0) (q := (RX1, TX1, 6)) rfl rfl) rfl rfl hl.1 rfl (lv_room (Nat.le_of_ble_eq_true rfl)) dX1_findPopular_2 ⟨Nat.le_of_ble_eq_true rfl, Nat.le_of_ble_eq_true rfl⟩) hP hD hS hA [2] [0, 1, 3, 4, 5] rfl rfl (by decide) (by decide) (fun u_2 H locs hw hP hD hS => ?_)
  have hP : va_P D vwCl [(h3, .inr (7, [.ref b1, .ref b2, .ref b3, .ref h5, .ref b4, .ref b5])), (h5, .inr (9, [.ref s1, .ref s2, .ref s3, .int sn, .ref s4, .ref s5, .ref s6])), (s2, .inl (cI, 10, .inl (f1))), (s3, .inl (cI, 11, .inl (f2))), (b3, .inl (cI, 10, .inl (fb))), (h1, .inr (8, [.int 0, .int 0, .ref w1, .ref w2, .ref w3, .ref w4, .ref w5]))] H := hP
  have hD : va_D A [(h3, .inr (7, [.ref b1, .ref b2, .ref b3, .ref h5, .ref b4, .ref b5])), (h5, .inr (9, [.ref s1, .ref s2, .ref s3, .int sn, .ref s4, .ref s5, .ref s6])), (s2, .inl (cI, 10, .inl (f1))), (s3, .inl (cI, 11, .inl (f2))), (b3, .inl (cI, 10, .inl (fb))), (h1, .inr (8, [.int 0, .int 0, .ref w1, .ref w2, .ref w3, .ref w4, .ref w5]))] := hD
  refine lv_aload_n hx hb dX1_findPopular_5 rfl (lv_at hl 0 rfl) ?_
  refine va_get (D := D) (ci := 7) (v := .ref h5) (C := RX1) (T := TX1) (N := 6) hx hb hts iX1_findPopular_X1 hown hK hP 0 rfl rfl 3 (by decide) (hts _ kX1_findPopular_1) (fun _ h9 => h9) rfl dX1_findPopular_6 ?_
  refine lv_aload_n hx hb dX1_findPopular_9 rfl (lv_at hl 1 rfl) ?_
  refine yc_l (wc := [(h5, .inr (9, [.ref s1, .ref s2, .ref s3, .int sn, .ref s4, .ref s5, .ref s6])), (h1, .inr (8, [.int 0, .int 0, .ref w1, .ref w2, .ref w3, .ref w4, .ref w5])), (s2, .inl (cI, 10, .inl (f1))), (s3, .inl (cI, 11, .inl (f2)))]) (wr := [(h3, .inr (7, [.ref b1, .ref b2, .ref b3, .ref h5, .ref b4, .ref b5])), (b3, .inl (cI, 10, .inl (fb)))]) (va_runV (As := [.ref h1]) (rest := []) ⟨hx, hb, hml, hown, hts⟩ (f_share l hfl D tE H.size h1 h5 w1 w2 w3 w4 w5 s1 s2 s3 s4 s5 s6 cI f1 f2 sn 0 (va_A [(h5, .inr (9, [.ref s1, .ref s2, .ref s3, .int sn, .ref s4, .ref s5, .ref s6])), (h1, .inr (8, [.int 0, .int 0, .ref w1, .ref w2, .ref w3, .ref w4, .ref w5])), (s2, .inl (cI, 10, .inl (f1))), (s3, .inl (cI, 11, .inl (f2)))] H.size) rfl) (cwV 1 hts gX1_findPopular_X3_share rfl rfl rfl (by decide +kernel) ⟨Nat.le_of_ble_eq_true rfl, Nat.le_of_ble_eq_true rfl⟩) (yPreV (wc := [(h5, .inr (9, [.ref s1, .ref s2, .ref s3, .int sn, .ref s4, .ref s5, .ref s6])), (h1, .inr (8, [.int 0, .int 0, .ref w1, .ref w2, .ref w3, .ref w4, .ref w5])), (s2, .inl (cI, 10, .inl (f1))), (s3, .inl (cI, 11, .inl (f2)))]) (tc := [(cI, .int)]) hK hP hD hS hA hE [1, 5, 2, 3] [0] (by decide) rfl rfl (ci := 9) (q0 := 1) (q := (RX3, TX3, 7)) rfl rfl) rfl rfl hl.1 rfl (lv_room (Nat.le_of_ble_eq_true rfl)) dX1_findPopular_10 ⟨Nat.le_of_ble_eq_true rfl, Nat.le_of_ble_eq_true rfl⟩) hP hD hS hA [1, 5, 2, 3] [0, 4] rfl rfl (by decide) (by decide) (fun r_3 u_4 H locs hw hP hD hS => ?_)
  have hP : va_P D vwCl [(h3, .inr (7, [.ref b1, .ref b2, .ref b3, .ref h5, .ref b4, .ref b5])), (b3, .inl (cI, 10, .inl (fb))), (h5, .inr (9, [.ref s1, .ref s2, .ref s3, .int 0, .ref s4, .ref s5, .ref s6])), (h1, .inr (8, [.int 0, .int 0, .ref w1, .ref w2, .ref w3, .ref w4, .ref w5])), (s2, .inl (cI, 10, .inl (u_4.1))), (s3, .inl (cI, 11, .inl (u_4.2)))] H := hP
  have hD : va_D A [(h3, .inr (7, [.ref b1, .ref b2, .ref b3, .ref h5, .ref b4, .ref b5])), (b3, .inl (cI, 10, .inl (fb))), (h5, .inr (9, [.ref s1, .ref s2, .ref s3, .int 0, .ref s4, .ref s5, .ref s6])), (h1, .inr (8, [.int 0, .int 0, .ref w1, .ref w2, .ref w3, .ref w4, .ref w5])), (s2, .inl (cI, 10, .inl (u_4.1))), (s3, .inl (cI, 11, .inl (u_4.2)))] := hD
  have hw : r_3 = 0 := hw
  subst hw
  refine lv_lstore_n (lv' := [(2, .long 0), (0, .ref h3), (1, .ref h1)]) hx hb dX1_findPopular_13 rfl hl (by decide) rfl (fun ls hl => ?_)
  refine lv_aload_n hx hb dX1_findPopular_14 rfl (lv_at hl 1 rfl) ?_
  refine lv_aload_n hx hb dX1_findPopular_15 rfl (lv_at hl 2 rfl) ?_
  refine yc_v (wc := [(h3, .inr (7, [.ref b1, .ref b2, .ref b3, .ref h5, .ref b4, .ref b5])), (h1, .inr (8, [.int 0, .int 0, .ref w1, .ref w2, .ref w3, .ref w4, .ref w5]))]) (wr := [(b3, .inl (cI, 10, .inl (fb))), (h5, .inr (9, [.ref s1, .ref s2, .ref s3, .int 0, .ref s4, .ref s5, .ref s6])), (s2, .inl (cI, 10, .inl (u_4.1))), (s3, .inl (cI, 11, .inl (u_4.2)))]) (va_runV (As := [.ref h1]) (rest := []) ⟨hx, hb, hml, hown, hts⟩ (f_markEven l hfl D tE H.size h1 h3 w1 w2 w3 w4 w5 b1 b2 b3 h5 b4 b5 (va_A [(h3, .inr (7, [.ref b1, .ref b2, .ref b3, .ref h5, .ref b4, .ref b5])), (h1, .inr (8, [.int 0, .int 0, .ref w1, .ref w2, .ref w3, .ref w4, .ref w5]))] H.size) rfl) (cwV 1 hts gX1_findPopular_X1_markEven rfl rfl rfl (by decide +kernel) ⟨Nat.le_of_ble_eq_true rfl, Nat.le_of_ble_eq_true rfl⟩) (yPreV (wc := [(h3, .inr (7, [.ref b1, .ref b2, .ref b3, .ref h5, .ref b4, .ref b5])), (h1, .inr (8, [.int 0, .int 0, .ref w1, .ref w2, .ref w3, .ref w4, .ref w5]))]) (tc := []) hK hP hD hS hA hE [0, 3] [] (by decide) rfl rfl (ci := 7) (q0 := 0) (q := (RX1, TX1, 6)) rfl rfl) rfl rfl hl.1 rfl (lv_room (Nat.le_of_ble_eq_true rfl)) dX1_findPopular_16 ⟨Nat.le_of_ble_eq_true rfl, Nat.le_of_ble_eq_true rfl⟩) hP hD hS hA [0, 3] [1, 2, 4, 5] rfl rfl (by decide) (by decide) (fun u_6 H locs hw hP hD hS => ?_)
  have hP : va_P D vwCl [(b3, .inl (cI, 10, .inl (fb))), (h5, .inr (9, [.ref s1, .ref s2, .ref s3, .int 0, .ref s4, .ref s5, .ref s6])), (s2, .inl (cI, 10, .inl (u_4.1))), (s3, .inl (cI, 11, .inl (u_4.2))), (h3, .inr (7, [.ref b1, .ref b2, .ref b3, .ref h5, .ref b4, .ref b5])), (h1, .inr (8, [.int 0, .int 0, .ref w1, .ref w2, .ref w3, .ref w4, .ref w5]))] H := hP
  have hD : va_D A [(b3, .inl (cI, 10, .inl (fb))), (h5, .inr (9, [.ref s1, .ref s2, .ref s3, .int 0, .ref s4, .ref s5, .ref s6])), (s2, .inl (cI, 10, .inl (u_4.1))), (s3, .inl (cI, 11, .inl (u_4.2))), (h3, .inr (7, [.ref b1, .ref b2, .ref b3, .ref h5, .ref b4, .ref b5])), (h1, .inr (8, [.int 0, .int 0, .ref w1, .ref w2, .ref w3, .ref w4, .ref w5]))] := hD
  refine lv_iconst (v := (0)) hx hb dX1_findPopular_19 (by decide) ?_
  refine lv_istore (lv' := [(4, .int 0), (2, .long 0), (0, .ref h3), (1, .ref h1)]) hx hb dX1_findPopular_20 hl (by decide) rfl (fun ls hl => ?_)
  refine lv_iload hx hb dX1_findPopular_22 (lv_at hl 0 rfl) ?_
  refine lv_aload_n hx hb dX1_findPopular_24 rfl (lv_at hl 3 rfl) ?_
  refine va_get (D := D) (ci := 8) (v := .int 0) (C := RX2) (T := TX2) (N := 7) hx hb hts iX1_findPopular_X2 hown hK hP 5 rfl rfl 0 (by decide) (hts _ kX1_findPopular_2) (fun _ h9 => h9) rfl dX1_findPopular_25 ?_
  refine lv_icmp_ge (tgt := 44) hx hb dX1_findPopular_28 (by decide) (fun _ => ?_) (fun h => absurd h (by decide))
  refine lv_aload_n hx hb dX1_findPopular_44 rfl (lv_at hl 2 rfl) ?_
  refine va_get (D := D) (ci := 7) (v := .ref h5) (C := RX1) (T := TX1) (N := 6) hx hb hts iX1_findPopular_X1 hown hK hP 4 rfl rfl 3 (by decide) (hts _ kX1_findPopular_1) (fun _ h9 => h9) rfl dX1_findPopular_45 ?_
  refine lv_aload_n hx hb dX1_findPopular_48 rfl (lv_at hl 3 rfl) ?_
  refine yc_l (wc := [(h5, .inr (9, [.ref s1, .ref s2, .ref s3, .int 0, .ref s4, .ref s5, .ref s6])), (h1, .inr (8, [.int 0, .int 0, .ref w1, .ref w2, .ref w3, .ref w4, .ref w5])), (s2, .inl (cI, 10, .inl (u_4.1))), (s3, .inl (cI, 11, .inl (u_4.2)))]) (wr := [(b3, .inl (cI, 10, .inl (fb))), (h3, .inr (7, [.ref b1, .ref b2, .ref b3, .ref h5, .ref b4, .ref b5]))]) (va_runV (As := [.ref h1]) (rest := []) ⟨hx, hb, hml, hown, hts⟩ (f_share l hfl D tE H.size h1 h5 w1 w2 w3 w4 w5 s1 s2 s3 s4 s5 s6 cI (u_4.1) (u_4.2) 0 0 (va_A [(h5, .inr (9, [.ref s1, .ref s2, .ref s3, .int 0, .ref s4, .ref s5, .ref s6])), (h1, .inr (8, [.int 0, .int 0, .ref w1, .ref w2, .ref w3, .ref w4, .ref w5])), (s2, .inl (cI, 10, .inl (u_4.1))), (s3, .inl (cI, 11, .inl (u_4.2)))] H.size) rfl) (cwV 1 hts gX1_findPopular_X3_share rfl rfl rfl (by decide +kernel) ⟨Nat.le_of_ble_eq_true rfl, Nat.le_of_ble_eq_true rfl⟩) (yPreV (wc := [(h5, .inr (9, [.ref s1, .ref s2, .ref s3, .int 0, .ref s4, .ref s5, .ref s6])), (h1, .inr (8, [.int 0, .int 0, .ref w1, .ref w2, .ref w3, .ref w4, .ref w5])), (s2, .inl (cI, 10, .inl (u_4.1))), (s3, .inl (cI, 11, .inl (u_4.2)))]) (tc := [(cI, .int)]) hK hP hD hS hA hE [1, 5, 2, 3] [0] (by decide) rfl rfl (ci := 9) (q0 := 1) (q := (RX3, TX3, 7)) rfl rfl) rfl rfl hl.1 rfl (lv_room (Nat.le_of_ble_eq_true rfl)) dX1_findPopular_49 ⟨Nat.le_of_ble_eq_true rfl, Nat.le_of_ble_eq_true rfl⟩) hP hD hS hA [1, 5, 2, 3] [0, 4] rfl rfl (by decide) (by decide) (fun r_7 u_8 H locs hw hP hD hS => ?_)
  have hP : va_P D vwCl [(b3, .inl (cI, 10, .inl (fb))), (h3, .inr (7, [.ref b1, .ref b2, .ref b3, .ref h5, .ref b4, .ref b5])), (h5, .inr (9, [.ref s1, .ref s2, .ref s3, .int 0, .ref s4, .ref s5, .ref s6])), (h1, .inr (8, [.int 0, .int 0, .ref w1, .ref w2, .ref w3, .ref w4, .ref w5])), (s2, .inl (cI, 10, .inl (u_8.1))), (s3, .inl (cI, 11, .inl (u_8.2)))] H := hP
  have hD : va_D A [(b3, .inl (cI, 10, .inl (fb))), (h3, .inr (7, [.ref b1, .ref b2, .ref b3, .ref h5, .ref b4, .ref b5])), (h5, .inr (9, [.ref s1, .ref s2, .ref s3, .int 0, .ref s4, .ref s5, .ref s6])), (h1, .inr (8, [.int 0, .int 0, .ref w1, .ref w2, .ref w3, .ref w4, .ref w5])), (s2, .inl (cI, 10, .inl (u_8.1))), (s3, .inl (cI, 11, .inl (u_8.2)))] := hD
  have hw : r_7 = 0 := hw
  subst hw
  refine lv_lload_n hx hb dX1_findPopular_52 rfl (lv_at hl 1 rfl) ?_
  refine W.lcmp hx hb dX1_findPopular_53 ?_
  refine lv_topi (fun x_9 ex_9 => ?_)
  obtain rfl : x_9 = (0 : Int32) := ex_9.trans (by decide)
  refine lv_if_ne (tgt := 61) hx hb dX1_findPopular_54 (by decide) (fun h => absurd h (by decide)) (fun _ => ?_)
  refine lv_iconst (v := (1)) hx hb dX1_findPopular_57 (by decide) ?_
  refine lv_goto (tgt := 62) hx hb dX1_findPopular_58 (by decide) ?_
  refine lv_istore (lv' := [(4, .int 1), (2, .long 0), (0, .ref h3), (1, .ref h1)]) hx hb dX1_findPopular_62 hl (by decide) rfl (fun ls hl => ?_)
  refine lv_aload_n hx hb dX1_findPopular_64 rfl (lv_at hl 2 rfl) ?_
  refine va_get (D := D) (ci := 7) (v := .ref h5) (C := RX1) (T := TX1) (N := 6) hx hb hts iX1_findPopular_X1 hown hK hP 1 rfl rfl 3 (by decide) (hts _ kX1_findPopular_1) (fun _ h9 => h9) rfl dX1_findPopular_65 ?_
  refine lv_aload_n hx hb dX1_findPopular_68 rfl (lv_at hl 2 rfl) ?_
  refine va_get (D := D) (ci := 7) (v := .ref b3) (C := RX1) (T := TX1) (N := 6) hx hb hts iX1_findPopular_X1 hown hK hP 1 rfl rfl 2 (by decide) (hts _ kX1_findPopular_3) (fun _ h9 => h9) rfl dX1_findPopular_69 ?_
  refine yc_v (wc := [(h5, .inr (9, [.ref s1, .ref s2, .ref s3, .int 0, .ref s4, .ref s5, .ref s6])), (s2, .inl (cI, 10, .inl (u_8.1))), (b3, .inl (cI, 10, .inl (fb)))]) (wr := [(h3, .inr (7, [.ref b1, .ref b2, .ref b3, .ref h5, .ref b4, .ref b5])), (h1, .inr (8, [.int 0, .int 0, .ref w1, .ref w2, .ref w3, .ref w4, .ref w5])), (s3, .inl (cI, 11, .inl (u_8.2)))]) (va_runV (As := [.ref b3]) (rest := []) ⟨hx, hb, hml, hown, hts⟩ (f_copyTo l hfl D tE H.size h5 s1 s2 s3 s4 s5 s6 b3 cI (u_8.1) fb 0 (va_A [(h5, .inr (9, [.ref s1, .ref s2, .ref s3, .int 0, .ref s4, .ref s5, .ref s6])), (s2, .inl (cI, 10, .inl (u_8.1))), (b3, .inl (cI, 10, .inl (fb)))] H.size) rfl) (cwV 1 hts gX1_findPopular_X3_copyTo rfl rfl rfl (by decide +kernel) ⟨Nat.le_of_ble_eq_true rfl, Nat.le_of_ble_eq_true rfl⟩) (yPreV (wc := [(h5, .inr (9, [.ref s1, .ref s2, .ref s3, .int 0, .ref s4, .ref s5, .ref s6])), (s2, .inl (cI, 10, .inl (u_8.1))), (b3, .inl (cI, 10, .inl (fb)))]) (tc := [(cI, .int)]) hK hP hD hS hA hE [2, 4, 0] [0] (by decide) rfl rfl (ci := 9) (q0 := 2) (q := (RX3, TX3, 7)) rfl rfl) rfl rfl hl.1 rfl (lv_room (Nat.le_of_ble_eq_true rfl)) dX1_findPopular_72 ⟨Nat.le_of_ble_eq_true rfl, Nat.le_of_ble_eq_true rfl⟩) hP hD hS hA [2, 4, 0] [1, 3, 5] rfl rfl (by decide) (by decide) (fun u_11 H locs hw hP hD hS => ?_)
  have hP : va_P D vwCl [(h3, .inr (7, [.ref b1, .ref b2, .ref b3, .ref h5, .ref b4, .ref b5])), (h1, .inr (8, [.int 0, .int 0, .ref w1, .ref w2, .ref w3, .ref w4, .ref w5])), (s3, .inl (cI, 11, .inl (u_8.2))), (h5, .inr (9, [.ref s1, .ref s2, .ref s3, .int 0, .ref s4, .ref s5, .ref s6])), (s2, .inl (cI, 10, .inl ((u_8.1)))), (b3, .inl (cI, 10, .inl (u_11)))] H := hP
  have hD : va_D A [(h3, .inr (7, [.ref b1, .ref b2, .ref b3, .ref h5, .ref b4, .ref b5])), (h1, .inr (8, [.int 0, .int 0, .ref w1, .ref w2, .ref w3, .ref w4, .ref w5])), (s3, .inl (cI, 11, .inl (u_8.2))), (h5, .inr (9, [.ref s1, .ref s2, .ref s3, .int 0, .ref s4, .ref s5, .ref s6])), (s2, .inl (cI, 10, .inl ((u_8.1)))), (b3, .inl (cI, 10, .inl (u_11)))] := hD
  refine lv_iload hx hb dX1_findPopular_75 (lv_at hl 0 rfl) ?_
  exact y_zret hx hb hr hlocks (by decide) ((u_8.1), u_8.2, u_11) rfl (hP.sub [0, 3, 1, 4, 2, 5] rfl) (hD.sub [0, 3, 1, 4, 2, 5] (by decide) rfl) hS (Nat.le_of_ble_eq_true rfl) (Nat.le_of_ble_eq_true rfl) dX1_findPopular_77
theorem iX5_worstMargin_X5 : ∀ w ∈ wsX50, w ∈ wsX5_worstMargin := by decide +kernel
theorem kX5_worstMargin_1 : Cond.fieldLink RX5 26 "Mostwell" "finder" "LMostwell$Finder;" ∈ wsX5_worstMargin := List.mem_of_getElem? (i := 1) (by decide +kernel)
theorem kX5_worstMargin_2 : Cond.fieldLink RX5 10 "Mostwell" "house" "LMostwell$House;" ∈ wsX5_worstMargin := List.mem_of_getElem? (i := 2) (by decide +kernel)
theorem kX5_worstMargin_3 : Cond.fieldLink RX5 37 "Mostwell" "hand" "[I" ∈ wsX5_worstMargin := List.mem_of_getElem? (i := 3) (by decide +kernel)
set_option maxHeartbeats 4000000 in
set_option maxRecDepth 100000 in
theorem f_worstMargin (l : Launch) (hfl : l.stackTraces = false) (D : va_G) (tE : Nat) (sz : Nat) (h0 : Nat) (h1 : Nat) (h2 : Nat) (h3 : Nat) (h4 : Nat) (a1 : Nat) (a2 : Nat) (b1 : Nat) (b2 : Nat) (b3 : Nat) (h5 : Nat) (b4 : Nat) (b5 : Nat) (w1 : Nat) (w2 : Nat) (w3 : Nat) (w4 : Nat) (w5 : Nat) (s1 : Nat) (s2 : Nat) (s3 : Nat) (s4 : Nat) (s5 : Nat) (s6 : Nat) (cI : ClassId) (f1 : Nat → Int32) (f2 : Nat → Int32) (fb : Nat → Int32) (sn : Int32) (np : Int32) (A : Nat → Prop) (hA0 : A = va_A [(h0, .inr (11, [.ref h1, .ref h2, .ref h3, .ref h4, .ref a1, .ref a2, .int 0])), (h3, .inr (7, [.ref b1, .ref b2, .ref b3, .ref h5, .ref b4, .ref b5])), (h5, .inr (9, [.ref s1, .ref s2, .ref s3, .int sn, .ref s4, .ref s5, .ref s6])), (h1, .inr (8, [.int 0, .int np, .ref w1, .ref w2, .ref w3, .ref w4, .ref w5])), (s2, .inl (cI, 10, .inl (f1))), (s3, .inl (cI, 11, .inl (f2))), (b1, .inl (cI, 10, .inl (fb)))] sz) : Met l yX5_worstMargin wsX5_worstMargin (yR 3 0 0) (yP D tE [(h0, .inr (11, [.ref h1, .ref h2, .ref h3, .ref h4, .ref a1, .ref a2, .int 0])), (h3, .inr (7, [.ref b1, .ref b2, .ref b3, .ref h5, .ref b4, .ref b5])), (h5, .inr (9, [.ref s1, .ref s2, .ref s3, .int sn, .ref s4, .ref s5, .ref s6])), (h1, .inr (8, [.int 0, .int np, .ref w1, .ref w2, .ref w3, .ref w4, .ref w5])), (s2, .inl (cI, 10, .inl (f1))), (s3, .inl (cI, 11, .inl (f2))), (b1, .inl (cI, 10, .inl (fb)))] [(cI, .int)] sz [.ref h0]) (va_Qi (S := Unit) (fun (r : Int32) (u : Unit) => r = 0) (fun (u : Unit) (t : State) => yB D A ((fun (u : Unit) => []) u) t) A) 0 0 A := by
  refine Met.ofW (cc := cX5_worstMargin) (maxL := 1) (ret := (some .int)) (by decide) rfl ?_
  intro p e s m args below meth c s₁ B hml hv
  obtain ⟨rfl, rfl, hP, hK, hD, hE, hA⟩ := y_start hA0 hv
  have hx := B.exec
  have hb := B.bytes
  have hr := B.returns
  have hts := atoms_spec (ws := wsX5_worstMargin) B.pre
  have hown : s.vm.findClass RX5 = some m.cls := findClass_of_methodNamed B.named
  have hlocks := B.notSynchronized
  clear hA0 hv
  have hS : va_S A s.heap s.heap [] := va_S.rf
  have hl := lv_entry ([.ref h0]) (n := 1) (Nat.le_of_ble_eq_true rfl)
  rw [lg_entry_eq]
  generalize (lg_sl ([.ref h0]) ++ List.replicate (1 - (lg_sl ([.ref h0])).length) Slot.unset).toArray = ls at hl ⊢
  have hl : lv_has ls 1 [(0, .ref h0)] := hl
  refine lv_aload_n hx hb dX5_worstMargin_0 rfl (lv_at hl 0 rfl) ?_
  refine va_get (D := D) (ci := 11) (v := .ref h3) (C := RX5) (T := TX5) (N := 7) hx hb hts iX5_worstMargin_X5 hown hK hP 0 rfl rfl 2 (by decide) (hts _ kX5_worstMargin_1) (fun _ h9 => h9) rfl dX5_worstMargin_1 ?_
  refine lv_aload_n hx hb dX5_worstMargin_4 rfl (lv_at hl 0 rfl) ?_
  refine va_get (D := D) (ci := 11) (v := .ref h1) (C := RX5) (T := TX5) (N := 7) hx hb hts iX5_worstMargin_X5 hown hK hP 0 rfl rfl 0 (by decide) (hts _ kX5_worstMargin_2) (fun _ h9 => h9) rfl dX5_worstMargin_5 ?_
  refine lv_aload_n hx hb dX5_worstMargin_8 rfl (lv_at hl 0 rfl) ?_
  refine va_get (D := D) (ci := 11) (v := .ref a1) (C := RX5) (T := TX5) (N := 7) hx hb hts iX5_worstMargin_X5 hown hK hP 0 rfl rfl 4 (by decide) (hts _ kX5_worstMargin_3) (fun _ h9 => h9) rfl dX5_worstMargin_9 ?_
  refine yc_i (wc := [(h3, .inr (7, [.ref b1, .ref b2, .ref b3, .ref h5, .ref b4, .ref b5])), (h5, .inr (9, [.ref s1, .ref s2, .ref s3, .int sn, .ref s4, .ref s5, .ref s6])), (h1, .inr (8, [.int 0, .int np, .ref w1, .ref w2, .ref w3, .ref w4, .ref w5])), (s2, .inl (cI, 10, .inl (f1))), (s3, .inl (cI, 11, .inl (f2))), (b1, .inl (cI, 10, .inl (fb)))]) (wr := [(h0, .inr (11, [.ref h1, .ref h2, .ref h3, .ref h4, .ref a1, .ref a2, .int 0]))]) (va_runV (As := [.ref h1, .ref a1]) (rest := []) ⟨hx, hb, hml, hown, hts⟩ (f_findChallenger l hfl D tE s.heap.size h1 h3 w1 w2 w3 w4 w5 b1 b2 b3 h5 b4 b5 s1 s2 s3 s4 s5 s6 cI f1 f2 a1 fb sn np (va_A [(h3, .inr (7, [.ref b1, .ref b2, .ref b3, .ref h5, .ref b4, .ref b5])), (h5, .inr (9, [.ref s1, .ref s2, .ref s3, .int sn, .ref s4, .ref s5, .ref s6])), (h1, .inr (8, [.int 0, .int np, .ref w1, .ref w2, .ref w3, .ref w4, .ref w5])), (s2, .inl (cI, 10, .inl (f1))), (s3, .inl (cI, 11, .inl (f2))), (b1, .inl (cI, 10, .inl (fb)))] s.heap.size) rfl) (cwV 2 hts gX5_worstMargin_X1_findChallenger rfl rfl rfl (by decide +kernel) ⟨Nat.le_of_ble_eq_true rfl, Nat.le_of_ble_eq_true rfl⟩) (yPreV (wc := [(h3, .inr (7, [.ref b1, .ref b2, .ref b3, .ref h5, .ref b4, .ref b5])), (h5, .inr (9, [.ref s1, .ref s2, .ref s3, .int sn, .ref s4, .ref s5, .ref s6])), (h1, .inr (8, [.int 0, .int np, .ref w1, .ref w2, .ref w3, .ref w4, .ref w5])), (s2, .inl (cI, 10, .inl (f1))), (s3, .inl (cI, 11, .inl (f2))), (b1, .inl (cI, 10, .inl (fb)))]) (tc := [(cI, .int)]) hK hP hD hS hA hE [1, 2, 3, 4, 5, 6] [0] (by decide) rfl rfl (ci := 7) (q0 := 1) (q := (RX1, TX1, 6)) rfl rfl) rfl rfl hl.1 rfl (lv_room (Nat.le_of_ble_eq_true rfl)) dX5_worstMargin_12 ⟨Nat.le_of_ble_eq_true rfl, Nat.le_of_ble_eq_true rfl⟩) hP hD hS hA [1, 2, 3, 4, 5, 6] [0] rfl rfl (by decide) (by decide) (fun r_1 u_2 H locs hw hP hD hS => ?_)
  have hP : va_P D vwCl [(h0, .inr (11, [.ref h1, .ref h2, .ref h3, .ref h4, .ref a1, .ref a2, .int 0])), (h3, .inr (7, [.ref b1, .ref b2, .ref b3, .ref h5, .ref b4, .ref b5])), (h5, .inr (9, [.ref s1, .ref s2, .ref s3, .int np, .ref s4, .ref s5, .ref s6])), (h1, .inr (8, [.int 0, .int np, .ref w1, .ref w2, .ref w3, .ref w4, .ref w5])), (s2, .inl (cI, 10, .inl (u_2.1))), (s3, .inl (cI, 11, .inl (u_2.2.1))), (b1, .inl (cI, 10, .inl (u_2.2.2)))] H := hP
  have hD : va_D A [(h0, .inr (11, [.ref h1, .ref h2, .ref h3, .ref h4, .ref a1, .ref a2, .int 0])), (h3, .inr (7, [.ref b1, .ref b2, .ref b3, .ref h5, .ref b4, .ref b5])), (h5, .inr (9, [.ref s1, .ref s2, .ref s3, .int np, .ref s4, .ref s5, .ref s6])), (h1, .inr (8, [.int 0, .int np, .ref w1, .ref w2, .ref w3, .ref w4, .ref w5])), (s2, .inl (cI, 10, .inl (u_2.1))), (s3, .inl (cI, 11, .inl (u_2.2.1))), (b1, .inl (cI, 10, .inl (u_2.2.2)))] := hD
  have hw : r_1 = 0 := hw
  subst hw
  exact y_iret hx hb hr hlocks () rfl (hP.sub [] rfl) (hD.sub [] (by decide) rfl) hS (Nat.le_of_ble_eq_true rfl) (Nat.le_of_ble_eq_true rfl) dX5_worstMargin_15
theorem iX5_isPopular_X5 : ∀ w ∈ wsX50, w ∈ wsX5_isPopular := by decide +kernel
theorem kX5_isPopular_1 : Cond.fieldLink RX5 26 "Mostwell" "finder" "LMostwell$Finder;" ∈ wsX5_isPopular := List.mem_of_getElem? (i := 1) (by decide +kernel)
theorem kX5_isPopular_2 : Cond.fieldLink RX5 10 "Mostwell" "house" "LMostwell$House;" ∈ wsX5_isPopular := List.mem_of_getElem? (i := 2) (by decide +kernel)
theorem kX5_isPopular_3 : Cond.fieldLink RX5 37 "Mostwell" "hand" "[I" ∈ wsX5_isPopular := List.mem_of_getElem? (i := 3) (by decide +kernel)
set_option maxHeartbeats 4000000 in
set_option maxRecDepth 100000 in
theorem f_isPopular (l : Launch) (hfl : l.stackTraces = false) (D : va_G) (tE : Nat) (sz : Nat) (h0 : Nat) (h1 : Nat) (h2 : Nat) (h3 : Nat) (h4 : Nat) (a1 : Nat) (a2 : Nat) (b1 : Nat) (b2 : Nat) (b3 : Nat) (h5 : Nat) (b4 : Nat) (b5 : Nat) (w1 : Nat) (w2 : Nat) (w3 : Nat) (w4 : Nat) (w5 : Nat) (s1 : Nat) (s2 : Nat) (s3 : Nat) (s4 : Nat) (s5 : Nat) (s6 : Nat) (cI : ClassId) (f1 : Nat → Int32) (f2 : Nat → Int32) (fb : Nat → Int32) (sn : Int32) (np : Int32) (A : Nat → Prop) (hA0 : A = va_A [(h0, .inr (11, [.ref h1, .ref h2, .ref h3, .ref h4, .ref a1, .ref a2, .int 0])), (h3, .inr (7, [.ref b1, .ref b2, .ref b3, .ref h5, .ref b4, .ref b5])), (h5, .inr (9, [.ref s1, .ref s2, .ref s3, .int sn, .ref s4, .ref s5, .ref s6])), (h1, .inr (8, [.int 0, .int np, .ref w1, .ref w2, .ref w3, .ref w4, .ref w5])), (s2, .inl (cI, 10, .inl (f1))), (s3, .inl (cI, 11, .inl (f2))), (b1, .inl (cI, 10, .inl (fb)))] sz) : Met l yX5_isPopular wsX5_isPopular (yR 3 0 0) (yP D tE [(h0, .inr (11, [.ref h1, .ref h2, .ref h3, .ref h4, .ref a1, .ref a2, .int 0])), (h3, .inr (7, [.ref b1, .ref b2, .ref b3, .ref h5, .ref b4, .ref b5])), (h5, .inr (9, [.ref s1, .ref s2, .ref s3, .int sn, .ref s4, .ref s5, .ref s6])), (h1, .inr (8, [.int 0, .int np, .ref w1, .ref w2, .ref w3, .ref w4, .ref w5])), (s2, .inl (cI, 10, .inl (f1))), (s3, .inl (cI, 11, .inl (f2))), (b1, .inl (cI, 10, .inl (fb)))] [(cI, .int)] sz [.ref h0]) (va_Qi (S := Unit) (fun (r : Int32) (u : Unit) => r = 1) (fun (u : Unit) (t : State) => yB D A ((fun (u : Unit) => []) u) t) A) 0 0 A := by
  refine Met.ofW (cc := cX5_isPopular) (maxL := 1) (ret := (some .boolean)) (by decide) rfl ?_
  intro p e s m args below meth c s₁ B hml hv
  obtain ⟨rfl, rfl, hP, hK, hD, hE, hA⟩ := y_start hA0 hv
  have hx := B.exec
  have hb := B.bytes
  have hr := B.returns
  have hts := atoms_spec (ws := wsX5_isPopular) B.pre
  have hown : s.vm.findClass RX5 = some m.cls := findClass_of_methodNamed B.named
  have hlocks := B.notSynchronized
  clear hA0 hv
  have hS : va_S A s.heap s.heap [] := va_S.rf
  have hl := lv_entry ([.ref h0]) (n := 1) (Nat.le_of_ble_eq_true rfl)
  rw [lg_entry_eq]
  generalize (lg_sl ([.ref h0]) ++ List.replicate (1 - (lg_sl ([.ref h0])).length) Slot.unset).toArray = ls at hl ⊢
  have hl : lv_has ls 1 [(0, .ref h0)] := hl
  refine lv_aload_n hx hb dX5_isPopular_0 rfl (lv_at hl 0 rfl) ?_
  refine va_get (D := D) (ci := 11) (v := .ref h3) (C := RX5) (T := TX5) (N := 7) hx hb hts iX5_isPopular_X5 hown hK hP 0 rfl rfl 2 (by decide) (hts _ kX5_isPopular_1) (fun _ h9 => h9) rfl dX5_isPopular_1 ?_
  refine lv_aload_n hx hb dX5_isPopular_4 rfl (lv_at hl 0 rfl) ?_
  refine va_get (D := D) (ci := 11) (v := .ref h1) (C := RX5) (T := TX5) (N := 7) hx hb hts iX5_isPopular_X5 hown hK hP 0 rfl rfl 0 (by decide) (hts _ kX5_isPopular_2) (fun _ h9 => h9) rfl dX5_isPopular_5 ?_
  refine lv_aload_n hx hb dX5_isPopular_8 rfl (lv_at hl 0 rfl) ?_
  refine va_get (D := D) (ci := 11) (v := .ref a1) (C := RX5) (T := TX5) (N := 7) hx hb hts iX5_isPopular_X5 hown hK hP 0 rfl rfl 4 (by decide) (hts _ kX5_isPopular_3) (fun _ h9 => h9) rfl dX5_isPopular_9 ?_
  refine yc_i (wc := [(h3, .inr (7, [.ref b1, .ref b2, .ref b3, .ref h5, .ref b4, .ref b5])), (h5, .inr (9, [.ref s1, .ref s2, .ref s3, .int sn, .ref s4, .ref s5, .ref s6])), (h1, .inr (8, [.int 0, .int np, .ref w1, .ref w2, .ref w3, .ref w4, .ref w5])), (s2, .inl (cI, 10, .inl (f1))), (s3, .inl (cI, 11, .inl (f2))), (b1, .inl (cI, 10, .inl (fb)))]) (wr := [(h0, .inr (11, [.ref h1, .ref h2, .ref h3, .ref h4, .ref a1, .ref a2, .int 0]))]) (va_runV (As := [.ref h1, .ref a1]) (rest := []) ⟨hx, hb, hml, hown, hts⟩ (f_findChallenger l hfl D tE s.heap.size h1 h3 w1 w2 w3 w4 w5 b1 b2 b3 h5 b4 b5 s1 s2 s3 s4 s5 s6 cI f1 f2 a1 fb sn np (va_A [(h3, .inr (7, [.ref b1, .ref b2, .ref b3, .ref h5, .ref b4, .ref b5])), (h5, .inr (9, [.ref s1, .ref s2, .ref s3, .int sn, .ref s4, .ref s5, .ref s6])), (h1, .inr (8, [.int 0, .int np, .ref w1, .ref w2, .ref w3, .ref w4, .ref w5])), (s2, .inl (cI, 10, .inl (f1))), (s3, .inl (cI, 11, .inl (f2))), (b1, .inl (cI, 10, .inl (fb)))] s.heap.size) rfl) (cwV 2 hts gX5_isPopular_X1_findChallenger rfl rfl rfl (by decide +kernel) ⟨Nat.le_of_ble_eq_true rfl, Nat.le_of_ble_eq_true rfl⟩) (yPreV (wc := [(h3, .inr (7, [.ref b1, .ref b2, .ref b3, .ref h5, .ref b4, .ref b5])), (h5, .inr (9, [.ref s1, .ref s2, .ref s3, .int sn, .ref s4, .ref s5, .ref s6])), (h1, .inr (8, [.int 0, .int np, .ref w1, .ref w2, .ref w3, .ref w4, .ref w5])), (s2, .inl (cI, 10, .inl (f1))), (s3, .inl (cI, 11, .inl (f2))), (b1, .inl (cI, 10, .inl (fb)))]) (tc := [(cI, .int)]) hK hP hD hS hA hE [1, 2, 3, 4, 5, 6] [0] (by decide) rfl rfl (ci := 7) (q0 := 1) (q := (RX1, TX1, 6)) rfl rfl) rfl rfl hl.1 rfl (lv_room (Nat.le_of_ble_eq_true rfl)) dX5_isPopular_12 ⟨Nat.le_of_ble_eq_true rfl, Nat.le_of_ble_eq_true rfl⟩) hP hD hS hA [1, 2, 3, 4, 5, 6] [0] rfl rfl (by decide) (by decide) (fun r_1 u_2 H locs hw hP hD hS => ?_)
  have hP : va_P D vwCl [(h0, .inr (11, [.ref h1, .ref h2, .ref h3, .ref h4, .ref a1, .ref a2, .int 0])), (h3, .inr (7, [.ref b1, .ref b2, .ref b3, .ref h5, .ref b4, .ref b5])), (h5, .inr (9, [.ref s1, .ref s2, .ref s3, .int np, .ref s4, .ref s5, .ref s6])), (h1, .inr (8, [.int 0, .int np, .ref w1, .ref w2, .ref w3, .ref w4, .ref w5])), (s2, .inl (cI, 10, .inl (u_2.1))), (s3, .inl (cI, 11, .inl (u_2.2.1))), (b1, .inl (cI, 10, .inl (u_2.2.2)))] H := hP
  have hD : va_D A [(h0, .inr (11, [.ref h1, .ref h2, .ref h3, .ref h4, .ref a1, .ref a2, .int 0])), (h3, .inr (7, [.ref b1, .ref b2, .ref b3, .ref h5, .ref b4, .ref b5])), (h5, .inr (9, [.ref s1, .ref s2, .ref s3, .int np, .ref s4, .ref s5, .ref s6])), (h1, .inr (8, [.int 0, .int np, .ref w1, .ref w2, .ref w3, .ref w4, .ref w5])), (s2, .inl (cI, 10, .inl (u_2.1))), (s3, .inl (cI, 11, .inl (u_2.2.1))), (b1, .inl (cI, 10, .inl (u_2.2.2)))] := hD
  have hw : r_1 = 0 := hw
  subst hw
  refine lv_if_ne (tgt := 22) hx hb dX5_isPopular_15 (by decide) (fun h => absurd h (by decide)) (fun _ => ?_)
  refine lv_iconst (v := (1)) hx hb dX5_isPopular_18 (by decide) ?_
  refine lv_goto (tgt := 23) hx hb dX5_isPopular_19 (by decide) ?_
  exact y_zret hx hb hr hlocks (by decide) () rfl (hP.sub [] rfl) (hD.sub [] (by decide) rfl) hS (Nat.le_of_ble_eq_true rfl) (Nat.le_of_ble_eq_true rfl) dX5_isPopular_23
theorem iX5_hasPopular_X5 : ∀ w ∈ wsX50, w ∈ wsX5_hasPopular := by decide +kernel
theorem kX5_hasPopular_1 : Cond.fieldLink RX5 26 "Mostwell" "finder" "LMostwell$Finder;" ∈ wsX5_hasPopular := List.mem_of_getElem? (i := 1) (by decide +kernel)
theorem kX5_hasPopular_2 : Cond.fieldLink RX5 10 "Mostwell" "house" "LMostwell$House;" ∈ wsX5_hasPopular := List.mem_of_getElem? (i := 2) (by decide +kernel)
set_option maxHeartbeats 4000000 in
set_option maxRecDepth 100000 in
theorem f_hasPopular (l : Launch) (hfl : l.stackTraces = false) (D : va_G) (tE : Nat) (sz : Nat) (h0 : Nat) (h1 : Nat) (h2 : Nat) (h3 : Nat) (h4 : Nat) (a1 : Nat) (a2 : Nat) (b1 : Nat) (b2 : Nat) (b3 : Nat) (h5 : Nat) (b4 : Nat) (b5 : Nat) (w1 : Nat) (w2 : Nat) (w3 : Nat) (w4 : Nat) (w5 : Nat) (s1 : Nat) (s2 : Nat) (s3 : Nat) (s4 : Nat) (s5 : Nat) (s6 : Nat) (cI : ClassId) (f1 : Nat → Int32) (f2 : Nat → Int32) (fb : Nat → Int32) (sn : Int32) (A : Nat → Prop) (hA0 : A = va_A [(h0, .inr (11, [.ref h1, .ref h2, .ref h3, .ref h4, .ref a1, .ref a2, .int 0])), (h3, .inr (7, [.ref b1, .ref b2, .ref b3, .ref h5, .ref b4, .ref b5])), (h5, .inr (9, [.ref s1, .ref s2, .ref s3, .int sn, .ref s4, .ref s5, .ref s6])), (h1, .inr (8, [.int 0, .int 0, .ref w1, .ref w2, .ref w3, .ref w4, .ref w5])), (s2, .inl (cI, 10, .inl (f1))), (s3, .inl (cI, 11, .inl (f2))), (b3, .inl (cI, 10, .inl (fb)))] sz) : vx_Met l yX5_hasPopular wsX5_hasPopular (yR 3 1 6) (yP D tE [(h0, .inr (11, [.ref h1, .ref h2, .ref h3, .ref h4, .ref a1, .ref a2, .int 0])), (h3, .inr (7, [.ref b1, .ref b2, .ref b3, .ref h5, .ref b4, .ref b5])), (h5, .inr (9, [.ref s1, .ref s2, .ref s3, .int sn, .ref s4, .ref s5, .ref s6])), (h1, .inr (8, [.int 0, .int 0, .ref w1, .ref w2, .ref w3, .ref w4, .ref w5])), (s2, .inl (cI, 10, .inl (f1))), (s3, .inl (cI, 11, .inl (f2))), (b3, .inl (cI, 10, .inl (fb)))] [(cI, .int)] sz [.ref h0]) (va_Qi (S := Unit) (fun (r : Int32) (u : Unit) => r = 1) (fun (u : Unit) (t : State) => yB D A ((fun (u : Unit) => []) u) t) A) (vx_X (S := Unit) (fun _ => True) (fun E _ t => (fun (E : String) => False) E ∧ yB D A [] t) A) 1 6 A := by
  refine vx_ofW (cc := cX5_hasPopular) (maxL := 1) (ret := (some .boolean)) (by decide) rfl ?_
  intro p e s m args below meth c s₁ B hml hout hv
  obtain ⟨rfl, rfl, hP, hK, hD, hE, hA⟩ := y_start hA0 hv
  have hx := B.exec
  have hb := B.bytes
  have hr := B.returns
  have hts := atoms_spec (ws := wsX5_hasPopular) B.pre
  have hown : s.vm.findClass RX5 = some m.cls := findClass_of_methodNamed B.named
  have hlocks := B.notSynchronized
  clear hA0 hv
  have hS : va_S A s.heap s.heap [] := va_S.rf
  have hl := lv_entry ([.ref h0]) (n := 1) (Nat.le_of_ble_eq_true rfl)
  rw [lg_entry_eq]
  generalize (lg_sl ([.ref h0]) ++ List.replicate (1 - (lg_sl ([.ref h0])).length) Slot.unset).toArray = ls at hl ⊢
  have hl : lv_has ls 1 [(0, .ref h0)] := hl
  refine lv_aload_n hx hb dX5_hasPopular_0 rfl (lv_at hl 0 rfl) ?_
  refine yx_v (wc := [(h0, .inr (11, [.ref h1, .ref h2, .ref h3, .ref h4, .ref a1, .ref a2, .int 0])), (h1, .inr (8, [.int 0, .int 0, .ref w1, .ref w2, .ref w3, .ref w4, .ref w5]))]) (wr := [(h3, .inr (7, [.ref b1, .ref b2, .ref b3, .ref h5, .ref b4, .ref b5])), (h5, .inr (9, [.ref s1, .ref s2, .ref s3, .int sn, .ref s4, .ref s5, .ref s6])), (s2, .inl (cI, 10, .inl (f1))), (s3, .inl (cI, 11, .inl (f2))), (b3, .inl (cI, 10, .inl (fb)))]) (vx_runV (As := []) (rest := []) ⟨hx, hb, hml, hown, hts⟩ (f_requireLikeWeights l hfl D tE s.heap.size h0 h1 h2 h3 h4 a1 a2 w1 w2 w3 w4 w5 0 (va_A [(h0, .inr (11, [.ref h1, .ref h2, .ref h3, .ref h4, .ref a1, .ref a2, .int 0])), (h1, .inr (8, [.int 0, .int 0, .ref w1, .ref w2, .ref w3, .ref w4, .ref w5]))] s.heap.size) rfl) (cwV 0 hts gX5_hasPopular_X5_requireLikeWeights rfl rfl rfl (by decide +kernel) ⟨Nat.le_of_ble_eq_true rfl, Nat.le_of_ble_eq_true rfl⟩) (yPreV (wc := [(h0, .inr (11, [.ref h1, .ref h2, .ref h3, .ref h4, .ref a1, .ref a2, .int 0])), (h1, .inr (8, [.int 0, .int 0, .ref w1, .ref w2, .ref w3, .ref w4, .ref w5]))]) (tc := []) hK hP hD hS hA hE [0, 3] [] (by decide) rfl rfl (ci := 11) (q0 := 0) (q := (RX5, TX5, 7)) rfl rfl) rfl rfl hl.1 rfl (lv_room (Nat.le_of_ble_eq_true rfl)) dX5_hasPopular_1 ⟨Nat.le_of_ble_eq_true rfl, Nat.le_of_ble_eq_true rfl⟩) hP hD hS hA [0, 3] [1, 2, 4, 5, 6] rfl rfl (by decide) (by decide) (fun E ce q9 H locs hpx hP hD hS g1 g2 g3 => ?_) (fun u_2 H locs hw hP hD hS => ?_)
  · have hP : va_P D vwCl [(h3, .inr (7, [.ref b1, .ref b2, .ref b3, .ref h5, .ref b4, .ref b5])), (h5, .inr (9, [.ref s1, .ref s2, .ref s3, .int sn, .ref s4, .ref s5, .ref s6])), (s2, .inl (cI, 10, .inl (f1))), (s3, .inl (cI, 11, .inl (f2))), (b3, .inl (cI, 10, .inl (fb)))] H := hP
    have hD : va_D A [(h3, .inr (7, [.ref b1, .ref b2, .ref b3, .ref h5, .ref b4, .ref b5])), (h5, .inr (9, [.ref s1, .ref s2, .ref s3, .int sn, .ref s4, .ref s5, .ref s6])), (s2, .inl (cI, 10, .inl (f1))), (s3, .inl (cI, 11, .inl (f2))), (b3, .inl (cI, 10, .inl (fb)))] := hD
    have hpx : False := hpx
    exact y_out hout hlocks g1 g2 g3 hpx (hP.sub [] rfl) (hD.sub [] (by decide) rfl) hS (Nat.le_of_ble_eq_true rfl) (Nat.le_of_ble_eq_true rfl)
  · have hP : va_P D vwCl [(h3, .inr (7, [.ref b1, .ref b2, .ref b3, .ref h5, .ref b4, .ref b5])), (h5, .inr (9, [.ref s1, .ref s2, .ref s3, .int sn, .ref s4, .ref s5, .ref s6])), (s2, .inl (cI, 10, .inl (f1))), (s3, .inl (cI, 11, .inl (f2))), (b3, .inl (cI, 10, .inl (fb))), (h0, .inr (11, [.ref h1, .ref h2, .ref h3, .ref h4, .ref a1, .ref a2, .int 0])), (h1, .inr (8, [.int 0, .int 0, .ref w1, .ref w2, .ref w3, .ref w4, .ref w5]))] H := hP
    have hD : va_D A [(h3, .inr (7, [.ref b1, .ref b2, .ref b3, .ref h5, .ref b4, .ref b5])), (h5, .inr (9, [.ref s1, .ref s2, .ref s3, .int sn, .ref s4, .ref s5, .ref s6])), (s2, .inl (cI, 10, .inl (f1))), (s3, .inl (cI, 11, .inl (f2))), (b3, .inl (cI, 10, .inl (fb))), (h0, .inr (11, [.ref h1, .ref h2, .ref h3, .ref h4, .ref a1, .ref a2, .int 0])), (h1, .inr (8, [.int 0, .int 0, .ref w1, .ref w2, .ref w3, .ref w4, .ref w5]))] := hD
    refine lv_aload_n hx hb dX5_hasPopular_4 rfl (lv_at hl 0 rfl) ?_
    refine va_get (D := D) (ci := 11) (v := .ref h3) (C := RX5) (T := TX5) (N := 7) hx hb hts iX5_hasPopular_X5 hown hK hP 5 rfl rfl 2 (by decide) (hts _ kX5_hasPopular_1) (fun _ h9 => h9) rfl dX5_hasPopular_5 ?_
    refine lv_aload_n hx hb dX5_hasPopular_8 rfl (lv_at hl 0 rfl) ?_
    refine va_get (D := D) (ci := 11) (v := .ref h1) (C := RX5) (T := TX5) (N := 7) hx hb hts iX5_hasPopular_X5 hown hK hP 5 rfl rfl 0 (by decide) (hts _ kX5_hasPopular_2) (fun _ h9 => h9) rfl dX5_hasPopular_9 ?_
    refine yc_i (wc := [(h3, .inr (7, [.ref b1, .ref b2, .ref b3, .ref h5, .ref b4, .ref b5])), (h5, .inr (9, [.ref s1, .ref s2, .ref s3, .int sn, .ref s4, .ref s5, .ref s6])), (h1, .inr (8, [.int 0, .int 0, .ref w1, .ref w2, .ref w3, .ref w4, .ref w5])), (s2, .inl (cI, 10, .inl (f1))), (s3, .inl (cI, 11, .inl (f2))), (b3, .inl (cI, 10, .inl (fb)))]) (wr := [(h0, .inr (11, [.ref h1, .ref h2, .ref h3, .ref h4, .ref a1, .ref a2, .int 0]))]) (va_runV (As := [.ref h1]) (rest := []) ⟨hx, hb, hml, hown, hts⟩ (f_findPopular l hfl D tE H.size h1 h3 w1 w2 w3 w4 w5 b1 b2 b3 h5 b4 b5 s1 s2 s3 s4 s5 s6 cI f1 f2 fb sn (va_A [(h3, .inr (7, [.ref b1, .ref b2, .ref b3, .ref h5, .ref b4, .ref b5])), (h5, .inr (9, [.ref s1, .ref s2, .ref s3, .int sn, .ref s4, .ref s5, .ref s6])), (h1, .inr (8, [.int 0, .int 0, .ref w1, .ref w2, .ref w3, .ref w4, .ref w5])), (s2, .inl (cI, 10, .inl (f1))), (s3, .inl (cI, 11, .inl (f2))), (b3, .inl (cI, 10, .inl (fb)))] H.size) rfl) (cwV 1 hts gX5_hasPopular_X1_findPopular rfl rfl rfl (by decide +kernel) ⟨Nat.le_of_ble_eq_true rfl, Nat.le_of_ble_eq_true rfl⟩) (yPreV (wc := [(h3, .inr (7, [.ref b1, .ref b2, .ref b3, .ref h5, .ref b4, .ref b5])), (h5, .inr (9, [.ref s1, .ref s2, .ref s3, .int sn, .ref s4, .ref s5, .ref s6])), (h1, .inr (8, [.int 0, .int 0, .ref w1, .ref w2, .ref w3, .ref w4, .ref w5])), (s2, .inl (cI, 10, .inl (f1))), (s3, .inl (cI, 11, .inl (f2))), (b3, .inl (cI, 10, .inl (fb)))]) (tc := [(cI, .int)]) hK hP hD hS hA hE [0, 1, 6, 2, 3, 4] [0] (by decide) rfl rfl (ci := 7) (q0 := 0) (q := (RX1, TX1, 6)) rfl rfl) rfl rfl hl.1 rfl (lv_room (Nat.le_of_ble_eq_true rfl)) dX5_hasPopular_12 ⟨Nat.le_of_ble_eq_true rfl, Nat.le_of_ble_eq_true rfl⟩) hP hD hS hA [0, 1, 6, 2, 3, 4] [5] rfl rfl (by decide) (by decide) (fun r_3 u_4 H locs hw hP hD hS => ?_)
    have hP : va_P D vwCl [(h0, .inr (11, [.ref h1, .ref h2, .ref h3, .ref h4, .ref a1, .ref a2, .int 0])), (h3, .inr (7, [.ref b1, .ref b2, .ref b3, .ref h5, .ref b4, .ref b5])), (h5, .inr (9, [.ref s1, .ref s2, .ref s3, .int 0, .ref s4, .ref s5, .ref s6])), (h1, .inr (8, [.int 0, .int 0, .ref w1, .ref w2, .ref w3, .ref w4, .ref w5])), (s2, .inl (cI, 10, .inl (u_4.1))), (s3, .inl (cI, 11, .inl (u_4.2.1))), (b3, .inl (cI, 10, .inl (u_4.2.2)))] H := hP
    have hD : va_D A [(h0, .inr (11, [.ref h1, .ref h2, .ref h3, .ref h4, .ref a1, .ref a2, .int 0])), (h3, .inr (7, [.ref b1, .ref b2, .ref b3, .ref h5, .ref b4, .ref b5])), (h5, .inr (9, [.ref s1, .ref s2, .ref s3, .int 0, .ref s4, .ref s5, .ref s6])), (h1, .inr (8, [.int 0, .int 0, .ref w1, .ref w2, .ref w3, .ref w4, .ref w5])), (s2, .inl (cI, 10, .inl (u_4.1))), (s3, .inl (cI, 11, .inl (u_4.2.1))), (b3, .inl (cI, 10, .inl (u_4.2.2)))] := hD
    have hw : r_3 = 1 := hw
    subst hw
    exact vx_ret (y_zret hx hb hr hlocks (by decide) () rfl (hP.sub [] rfl) (hD.sub [] (by decide) rfl) hS (Nat.le_of_ble_eq_true rfl) (Nat.le_of_ble_eq_true rfl) dX5_hasPopular_15)
theorem yz_f_bestProfile_25 (p0 : Int32) (h0 : 1 ≤ p0 ∧ p0 ≤ 9) : (0 : Int32) = 0 ∧ 1 ≤ p0 ∧ p0 ≤ 9 := by grind
theorem iX5_bestProfile_X5 : ∀ w ∈ wsX50, w ∈ wsX5_bestProfile := by decide +kernel
theorem kX5_bestProfile_1 : Cond.fieldLink RX5 26 "Mostwell" "finder" "LMostwell$Finder;" ∈ wsX5_bestProfile := List.mem_of_getElem? (i := 1) (by decide +kernel)
theorem kX5_bestProfile_2 : Cond.fieldLink RX5 10 "Mostwell" "house" "LMostwell$House;" ∈ wsX5_bestProfile := List.mem_of_getElem? (i := 2) (by decide +kernel)
theorem iX5_bestProfile_X1 : ∀ w ∈ wsX10, w ∈ wsX5_bestProfile := by decide +kernel
theorem kX5_bestProfile_3 : Cond.fieldLink RX5 232 "Mostwell$Finder" "bestRow" "[I" ∈ wsX5_bestProfile := List.mem_of_getElem? (i := 3) (by decide +kernel)
set_option maxHeartbeats 4000000 in
set_option maxRecDepth 100000 in
theorem f_bestProfile (l : Launch) (hfl : l.stackTraces = false) (D : va_G) (tE : Nat) (sz : Nat) (h0 : Nat) (h1 : Nat) (h2 : Nat) (h3 : Nat) (h4 : Nat) (a1 : Nat) (a2 : Nat) (b1 : Nat) (b2 : Nat) (b3 : Nat) (h5 : Nat) (b4 : Nat) (b5 : Nat) (w1 : Nat) (w2 : Nat) (w3 : Nat) (w4 : Nat) (w5 : Nat) (s1 : Nat) (s2 : Nat) (s3 : Nat) (s4 : Nat) (s5 : Nat) (s6 : Nat) (cI : ClassId) (f1 : Nat → Int32) (f2 : Nat → Int32) (fb : Nat → Int32) (sn : Int32) (np : Int32) (p0 : Int32) (A : Nat → Prop) (hA0 : A = va_A [(h0, .inr (11, [.ref h1, .ref h2, .ref h3, .ref h4, .ref a1, .ref a2, .int 0])), (h3, .inr (7, [.ref b1, .ref b2, .ref b3, .ref h5, .ref b4, .ref b5])), (h5, .inr (9, [.ref s1, .ref s2, .ref s3, .int sn, .ref s4, .ref s5, .ref s6])), (h1, .inr (8, [.int 0, .int np, .ref w1, .ref w2, .ref w3, .ref w4, .ref w5])), (s2, .inl (cI, 10, .inl (f1))), (s3, .inl (cI, 11, .inl (f2))), (b2, .inl (cI, 10, .inl (fb)))] sz) : vx_Met l yX5_bestProfile wsX5_bestProfile (yR 3 1 6) (yP D tE [(h0, .inr (11, [.ref h1, .ref h2, .ref h3, .ref h4, .ref a1, .ref a2, .int 0])), (h3, .inr (7, [.ref b1, .ref b2, .ref b3, .ref h5, .ref b4, .ref b5])), (h5, .inr (9, [.ref s1, .ref s2, .ref s3, .int sn, .ref s4, .ref s5, .ref s6])), (h1, .inr (8, [.int 0, .int np, .ref w1, .ref w2, .ref w3, .ref w4, .ref w5])), (s2, .inl (cI, 10, .inl (f1))), (s3, .inl (cI, 11, .inl (f2))), (b2, .inl (cI, 10, .inl (fb)))] [(cI, .int)] sz [.ref h0, .int p0]) (va_Qi (S := Unit) (fun (r : Int32) (u : Unit) => r = 0 ∧ 1 ≤ p0 ∧ p0 ≤ 9) (fun (u : Unit) (t : State) => yB D A ((fun (u : Unit) => []) u) t) A) (vx_X (S := Unit) (fun _ => True) (fun E _ t => (fun (E : String) => E = "java/lang/IllegalArgumentException" ∧ (p0 < 1 ∨ 9 < p0)) E ∧ yB D A [] t) A) 1 6 A := by
  refine vx_ofW (cc := cX5_bestProfile) (maxL := 2) (ret := (some .int)) (by decide) rfl ?_
  intro p e s m args below meth c s₁ B hml hout hv
  obtain ⟨rfl, rfl, hP, hK, hD, hE, hA⟩ := y_start hA0 hv
  have hx := B.exec
  have hb := B.bytes
  have hr := B.returns
  have hts := atoms_spec (ws := wsX5_bestProfile) B.pre
  have hown : s.vm.findClass RX5 = some m.cls := findClass_of_methodNamed B.named
  have hlocks := B.notSynchronized
  clear hA0 hv
  have hS : va_S A s.heap s.heap [] := va_S.rf
  have hl := lv_entry ([.ref h0, .int p0]) (n := 2) (Nat.le_of_ble_eq_true rfl)
  rw [lg_entry_eq]
  generalize (lg_sl ([.ref h0, .int p0]) ++ List.replicate (2 - (lg_sl ([.ref h0, .int p0])).length) Slot.unset).toArray = ls at hl ⊢
  have hl : lv_has ls 2 [(0, .ref h0), (1, .int p0)] := hl
  refine lv_aload_n hx hb dX5_bestProfile_0 rfl (lv_at hl 0 rfl) ?_
  refine lv_iload_n hx hb dX5_bestProfile_1 rfl (lv_at hl 1 rfl) ?_
  refine lv_iconst (v := (1)) hx hb dX5_bestProfile_2 (by decide) ?_
  refine lv_bipush (v := (9)) hx hb dX5_bestProfile_3 (by decide) ?_
  refine yx_v (wc := []) (wr := [(h0, .inr (11, [.ref h1, .ref h2, .ref h3, .ref h4, .ref a1, .ref a2, .int 0])), (h3, .inr (7, [.ref b1, .ref b2, .ref b3, .ref h5, .ref b4, .ref b5])), (h5, .inr (9, [.ref s1, .ref s2, .ref s3, .int sn, .ref s4, .ref s5, .ref s6])), (h1, .inr (8, [.int 0, .int np, .ref w1, .ref w2, .ref w3, .ref w4, .ref w5])), (s2, .inl (cI, 10, .inl (f1))), (s3, .inl (cI, 11, .inl (f2))), (b2, .inl (cI, 10, .inl (fb)))]) (vx_runV (As := [.int p0, .int 1, .int 9]) (rest := []) ⟨hx, hb, hml, hown, hts⟩ (c_requireNumber l hfl D tE s.heap.size h0 p0 1 9 (va_A [] s.heap.size) rfl) (cwV 3 hts gX5_bestProfile_X5_requireNumber rfl rfl rfl (by decide +kernel) ⟨Nat.le_of_ble_eq_true rfl, Nat.le_of_ble_eq_true rfl⟩) (yPreV (wc := []) (tc := []) hK hP hD hS hA hE [] [] (by decide) rfl rfl (ci := 11) (q0 := 0) (q := (RX5, TX5, 7)) rfl rfl) rfl rfl hl.1 rfl (lv_room (Nat.le_of_ble_eq_true rfl)) dX5_bestProfile_5 ⟨Nat.le_of_ble_eq_true rfl, Nat.le_of_ble_eq_true rfl⟩) hP hD hS hA [] [0, 1, 2, 3, 4, 5, 6] rfl rfl (by decide) (by decide) (fun E ce q9 H locs hpx hP hD hS g1 g2 g3 => ?_) (fun u_2 H locs hw hP hD hS => ?_)
  · have hP : va_P D vwCl [(h0, .inr (11, [.ref h1, .ref h2, .ref h3, .ref h4, .ref a1, .ref a2, .int 0])), (h3, .inr (7, [.ref b1, .ref b2, .ref b3, .ref h5, .ref b4, .ref b5])), (h5, .inr (9, [.ref s1, .ref s2, .ref s3, .int sn, .ref s4, .ref s5, .ref s6])), (h1, .inr (8, [.int 0, .int np, .ref w1, .ref w2, .ref w3, .ref w4, .ref w5])), (s2, .inl (cI, 10, .inl (f1))), (s3, .inl (cI, 11, .inl (f2))), (b2, .inl (cI, 10, .inl (fb)))] H := hP
    have hD : va_D A [(h0, .inr (11, [.ref h1, .ref h2, .ref h3, .ref h4, .ref a1, .ref a2, .int 0])), (h3, .inr (7, [.ref b1, .ref b2, .ref b3, .ref h5, .ref b4, .ref b5])), (h5, .inr (9, [.ref s1, .ref s2, .ref s3, .int sn, .ref s4, .ref s5, .ref s6])), (h1, .inr (8, [.int 0, .int np, .ref w1, .ref w2, .ref w3, .ref w4, .ref w5])), (s2, .inl (cI, 10, .inl (f1))), (s3, .inl (cI, 11, .inl (f2))), (b2, .inl (cI, 10, .inl (fb)))] := hD
    have hpx : E = "java/lang/IllegalArgumentException" ∧ (p0 < 1 ∨ 9 < p0) := hpx
    exact y_out hout hlocks g1 g2 g3 hpx (hP.sub [] rfl) (hD.sub [] (by decide) rfl) hS (Nat.le_of_ble_eq_true rfl) (Nat.le_of_ble_eq_true rfl)
  · have hP : va_P D vwCl [(h0, .inr (11, [.ref h1, .ref h2, .ref h3, .ref h4, .ref a1, .ref a2, .int 0])), (h3, .inr (7, [.ref b1, .ref b2, .ref b3, .ref h5, .ref b4, .ref b5])), (h5, .inr (9, [.ref s1, .ref s2, .ref s3, .int sn, .ref s4, .ref s5, .ref s6])), (h1, .inr (8, [.int 0, .int np, .ref w1, .ref w2, .ref w3, .ref w4, .ref w5])), (s2, .inl (cI, 10, .inl (f1))), (s3, .inl (cI, 11, .inl (f2))), (b2, .inl (cI, 10, .inl (fb)))] H := hP
    have hD : va_D A [(h0, .inr (11, [.ref h1, .ref h2, .ref h3, .ref h4, .ref a1, .ref a2, .int 0])), (h3, .inr (7, [.ref b1, .ref b2, .ref b3, .ref h5, .ref b4, .ref b5])), (h5, .inr (9, [.ref s1, .ref s2, .ref s3, .int sn, .ref s4, .ref s5, .ref s6])), (h1, .inr (8, [.int 0, .int np, .ref w1, .ref w2, .ref w3, .ref w4, .ref w5])), (s2, .inl (cI, 10, .inl (f1))), (s3, .inl (cI, 11, .inl (f2))), (b2, .inl (cI, 10, .inl (fb)))] := hD
    have hw : 1 ≤ p0 ∧ p0 ≤ 9 := hw
    have w_3 := hw
    refine lv_aload_n hx hb dX5_bestProfile_8 rfl (lv_at hl 0 rfl) ?_
    refine va_get (D := D) (ci := 11) (v := .ref h3) (C := RX5) (T := TX5) (N := 7) hx hb hts iX5_bestProfile_X5 hown hK hP 0 rfl rfl 2 (by decide) (hts _ kX5_bestProfile_1) (fun _ h9 => h9) rfl dX5_bestProfile_9 ?_
    refine lv_aload_n hx hb dX5_bestProfile_12 rfl (lv_at hl 0 rfl) ?_
    refine va_get (D := D) (ci := 11) (v := .ref h1) (C := RX5) (T := TX5) (N := 7) hx hb hts iX5_bestProfile_X5 hown hK hP 0 rfl rfl 0 (by decide) (hts _ kX5_bestProfile_2) (fun _ h9 => h9) rfl dX5_bestProfile_13 ?_
    refine yc_v (wc := [(h3, .inr (7, [.ref b1, .ref b2, .ref b3, .ref h5, .ref b4, .ref b5])), (h5, .inr (9, [.ref s1, .ref s2, .ref s3, .int sn, .ref s4, .ref s5, .ref s6])), (h1, .inr (8, [.int 0, .int np, .ref w1, .ref w2, .ref w3, .ref w4, .ref w5])), (s2, .inl (cI, 10, .inl (f1))), (s3, .inl (cI, 11, .inl (f2))), (b2, .inl (cI, 10, .inl (fb)))]) (wr := [(h0, .inr (11, [.ref h1, .ref h2, .ref h3, .ref h4, .ref a1, .ref a2, .int 0]))]) (va_runV (As := [.ref h1]) (rest := []) ⟨hx, hb, hml, hown, hts⟩ (f_findBest l hfl D tE H.size h1 h3 w1 w2 w3 w4 w5 b1 b2 b3 h5 b4 b5 s1 s2 s3 s4 s5 s6 cI f1 f2 fb sn np (va_A [(h3, .inr (7, [.ref b1, .ref b2, .ref b3, .ref h5, .ref b4, .ref b5])), (h5, .inr (9, [.ref s1, .ref s2, .ref s3, .int sn, .ref s4, .ref s5, .ref s6])), (h1, .inr (8, [.int 0, .int np, .ref w1, .ref w2, .ref w3, .ref w4, .ref w5])), (s2, .inl (cI, 10, .inl (f1))), (s3, .inl (cI, 11, .inl (f2))), (b2, .inl (cI, 10, .inl (fb)))] H.size) rfl) (cwV 1 hts gX5_bestProfile_X1_findBest rfl rfl rfl (by decide +kernel) ⟨Nat.le_of_ble_eq_true rfl, Nat.le_of_ble_eq_true rfl⟩) (yPreV (wc := [(h3, .inr (7, [.ref b1, .ref b2, .ref b3, .ref h5, .ref b4, .ref b5])), (h5, .inr (9, [.ref s1, .ref s2, .ref s3, .int sn, .ref s4, .ref s5, .ref s6])), (h1, .inr (8, [.int 0, .int np, .ref w1, .ref w2, .ref w3, .ref w4, .ref w5])), (s2, .inl (cI, 10, .inl (f1))), (s3, .inl (cI, 11, .inl (f2))), (b2, .inl (cI, 10, .inl (fb)))]) (tc := [(cI, .int)]) hK hP hD hS hA hE [1, 2, 3, 4, 5, 6] [0] (by decide) rfl rfl (ci := 7) (q0 := 1) (q := (RX1, TX1, 6)) rfl rfl) rfl rfl hl.1 rfl (lv_room (Nat.le_of_ble_eq_true rfl)) dX5_bestProfile_16 ⟨Nat.le_of_ble_eq_true rfl, Nat.le_of_ble_eq_true rfl⟩) hP hD hS hA [1, 2, 3, 4, 5, 6] [0] rfl rfl (by decide) (by decide) (fun u_5 H locs hw hP hD hS => ?_)
    have hP : va_P D vwCl [(h0, .inr (11, [.ref h1, .ref h2, .ref h3, .ref h4, .ref a1, .ref a2, .int 0])), (h3, .inr (7, [.ref b1, .ref b2, .ref b3, .ref h5, .ref b4, .ref b5])), (h5, .inr (9, [.ref s1, .ref s2, .ref s3, .int np, .ref s4, .ref s5, .ref s6])), (h1, .inr (8, [.int 0, .int np, .ref w1, .ref w2, .ref w3, .ref w4, .ref w5])), (s2, .inl (cI, 10, .inl (u_5.1))), (s3, .inl (cI, 11, .inl (u_5.2.1))), (b2, .inl (cI, 10, .inl (u_5.2.2)))] H := hP
    have hD : va_D A [(h0, .inr (11, [.ref h1, .ref h2, .ref h3, .ref h4, .ref a1, .ref a2, .int 0])), (h3, .inr (7, [.ref b1, .ref b2, .ref b3, .ref h5, .ref b4, .ref b5])), (h5, .inr (9, [.ref s1, .ref s2, .ref s3, .int np, .ref s4, .ref s5, .ref s6])), (h1, .inr (8, [.int 0, .int np, .ref w1, .ref w2, .ref w3, .ref w4, .ref w5])), (s2, .inl (cI, 10, .inl (u_5.1))), (s3, .inl (cI, 11, .inl (u_5.2.1))), (b2, .inl (cI, 10, .inl (u_5.2.2)))] := hD
    refine lv_aload_n hx hb dX5_bestProfile_19 rfl (lv_at hl 0 rfl) ?_
    refine va_get (D := D) (ci := 11) (v := .ref h1) (C := RX5) (T := TX5) (N := 7) hx hb hts iX5_bestProfile_X5 hown hK hP 0 rfl rfl 0 (by decide) (hts _ kX5_bestProfile_2) (fun _ h9 => h9) rfl dX5_bestProfile_20 ?_
    refine lv_iload_n hx hb dX5_bestProfile_23 rfl (lv_at hl 1 rfl) ?_
    refine lv_aload_n hx hb dX5_bestProfile_24 rfl (lv_at hl 0 rfl) ?_
    refine va_get (D := D) (ci := 11) (v := .ref h3) (C := RX5) (T := TX5) (N := 7) hx hb hts iX5_bestProfile_X5 hown hK hP 0 rfl rfl 2 (by decide) (hts _ kX5_bestProfile_1) (fun _ h9 => h9) rfl dX5_bestProfile_25 ?_
    refine va_get (D := D) (ci := 7) (v := .ref b2) (C := RX1) (T := TX1) (N := 6) hx hb hts iX5_bestProfile_X1 hown hK hP 1 rfl rfl 1 (by decide) (hts _ kX5_bestProfile_3) (fun _ h9 => h9) rfl dX5_bestProfile_28 ?_
    refine yc_i (wc := [(h1, .inr (8, [.int 0, .int np, .ref w1, .ref w2, .ref w3, .ref w4, .ref w5]))]) (wr := [(h0, .inr (11, [.ref h1, .ref h2, .ref h3, .ref h4, .ref a1, .ref a2, .int 0])), (h3, .inr (7, [.ref b1, .ref b2, .ref b3, .ref h5, .ref b4, .ref b5])), (h5, .inr (9, [.ref s1, .ref s2, .ref s3, .int np, .ref s4, .ref s5, .ref s6])), (s2, .inl (cI, 10, .inl (u_5.1))), (s3, .inl (cI, 11, .inl (u_5.2.1))), (b2, .inl (cI, 10, .inl (u_5.2.2)))]) (va_runV (As := [.int p0, .ref b2]) (rest := []) ⟨hx, hb, hml, hown, hts⟩ (f_countRank l hfl D tE H.size h1 w1 w2 w3 w4 w5 np p0 b2 (va_A [(h1, .inr (8, [.int 0, .int np, .ref w1, .ref w2, .ref w3, .ref w4, .ref w5]))] H.size) rfl) (cwV 2 hts gX5_bestProfile_X2_countRank rfl rfl rfl (by decide +kernel) ⟨Nat.le_of_ble_eq_true rfl, Nat.le_of_ble_eq_true rfl⟩) (yPreV (wc := [(h1, .inr (8, [.int 0, .int np, .ref w1, .ref w2, .ref w3, .ref w4, .ref w5]))]) (tc := []) hK hP hD hS hA hE [3] [] (by decide) rfl rfl (ci := 8) (q0 := 3) (q := (RX2, TX2, 7)) rfl rfl) rfl rfl hl.1 rfl (lv_room (Nat.le_of_ble_eq_true rfl)) dX5_bestProfile_31 ⟨Nat.le_of_ble_eq_true rfl, Nat.le_of_ble_eq_true rfl⟩) hP hD hS hA [3] [0, 1, 2, 4, 5, 6] rfl rfl (by decide) (by decide) (fun r_6 u_7 H locs hw hP hD hS => ?_)
    have hP : va_P D vwCl [(h0, .inr (11, [.ref h1, .ref h2, .ref h3, .ref h4, .ref a1, .ref a2, .int 0])), (h3, .inr (7, [.ref b1, .ref b2, .ref b3, .ref h5, .ref b4, .ref b5])), (h5, .inr (9, [.ref s1, .ref s2, .ref s3, .int np, .ref s4, .ref s5, .ref s6])), (s2, .inl (cI, 10, .inl (u_5.1))), (s3, .inl (cI, 11, .inl (u_5.2.1))), (b2, .inl (cI, 10, .inl (u_5.2.2))), (h1, .inr (8, [.int 0, .int np, .ref w1, .ref w2, .ref w3, .ref w4, .ref w5]))] H := hP
    have hD : va_D A [(h0, .inr (11, [.ref h1, .ref h2, .ref h3, .ref h4, .ref a1, .ref a2, .int 0])), (h3, .inr (7, [.ref b1, .ref b2, .ref b3, .ref h5, .ref b4, .ref b5])), (h5, .inr (9, [.ref s1, .ref s2, .ref s3, .int np, .ref s4, .ref s5, .ref s6])), (s2, .inl (cI, 10, .inl (u_5.1))), (s3, .inl (cI, 11, .inl (u_5.2.1))), (b2, .inl (cI, 10, .inl (u_5.2.2))), (h1, .inr (8, [.int 0, .int np, .ref w1, .ref w2, .ref w3, .ref w4, .ref w5]))] := hD
    have hw : r_6 = 0 := hw
    subst hw
    exact vx_ret (y_iret hx hb hr hlocks () (yz_f_bestProfile_25 p0 w_3) (hP.sub [] rfl) (hD.sub [] (by decide) rfl) hS (Nat.le_of_ble_eq_true rfl) (Nat.le_of_ble_eq_true rfl) dX5_bestProfile_34)
theorem iX2_allows_X2 : ∀ w ∈ wsX20, w ∈ wsX2_allows := by decide +kernel
theorem kX2_allows_1 : Cond.fieldLink RX2 34 "Mostwell$House" "taken" "[I" ∈ wsX2_allows := List.mem_of_getElem? (i := 1) (by decide +kernel)
theorem kX2_allows_2 : Cond.fieldLink RX2 9 "Mostwell$House" "applicants" "I" ∈ wsX2_allows := List.mem_of_getElem? (i := 2) (by decide +kernel)
set_option maxHeartbeats 4000000 in
set_option maxRecDepth 100000 in
theorem f_allows (l : Launch) (hfl : l.stackTraces = false) (D : va_G) (tE : Nat) (sz : Nat) (h1 : Nat) (r1 : Nat) (w1 : Nat) (w2 : Nat) (w3 : Nat) (w4 : Nat) (w5 : Nat) (cI : ClassId) (ft : Nat → Int32) (np : Int32) (A : Nat → Prop) (hA0 : A = va_A [(h1, .inr (8, [.int 0, .int np, .ref w1, .ref w2, .ref w3, .ref w4, .ref w5])), (w5, .inl (cI, 10, .inl (ft)))] sz) : Met l yX2_allows wsX2_allows (yR 1 0 0) (yP D tE [(h1, .inr (8, [.int 0, .int np, .ref w1, .ref w2, .ref w3, .ref w4, .ref w5])), (w5, .inl (cI, 10, .inl (ft)))] [(cI, .int)] sz [.ref h1, .ref r1]) (va_Qi (S := Nat → Int32) (fun (r : Int32) (u : Nat → Int32) => r = 1) (fun (u : Nat → Int32) (t : State) => yB D A ((fun (u : Nat → Int32) => [(h1, .inr (8, [.int 0, .int np, .ref w1, .ref w2, .ref w3, .ref w4, .ref w5])), (w5, .inl (cI, 10, .inl (u)))]) u) t) A) 0 0 A := by
  refine Met.ofW (cc := cX2_allows) (maxL := 4) (ret := (some .boolean)) (by decide) rfl ?_
  intro p e s m args below meth c s₁ B hml hv
  obtain ⟨rfl, rfl, hP, hK, hD, hE, hA⟩ := y_start hA0 hv
  have hx := B.exec
  have hb := B.bytes
  have hr := B.returns
  have hts := atoms_spec (ws := wsX2_allows) B.pre
  have hown : s.vm.findClass RX2 = some m.cls := findClass_of_methodNamed B.named
  have hlocks := B.notSynchronized
  clear hA0 hv
  have hS : va_S A s.heap s.heap [] := va_S.rf
  have hl := lv_entry ([.ref h1, .ref r1]) (n := 4) (Nat.le_of_ble_eq_true rfl)
  rw [lg_entry_eq]
  generalize (lg_sl ([.ref h1, .ref r1]) ++ List.replicate (4 - (lg_sl ([.ref h1, .ref r1])).length) Slot.unset).toArray = ls at hl ⊢
  have hl : lv_has ls 4 [(0, .ref h1), (1, .ref r1)] := hl
  refine lv_aload_n hx hb dX2_allows_0 rfl (lv_at hl 0 rfl) ?_
  refine va_get (D := D) (ci := 8) (v := .ref w5) (C := RX2) (T := TX2) (N := 7) hx hb hts iX2_allows_X2 hown hK hP 0 rfl rfl 6 (by decide) (hts _ kX2_allows_1) (fun _ h9 => h9) rfl dX2_allows_1 ?_
  refine lv_iconst (v := (0)) hx hb dX2_allows_4 (by decide) ?_
  refine yc_v (wc := [(w5, .inl (cI, 10, .inl (ft)))]) (wr := [(h1, .inr (8, [.int 0, .int np, .ref w1, .ref w2, .ref w3, .ref w4, .ref w5]))]) (va_runS (As := [.ref w5, .int 0]) (rest := []) ⟨hx, hb, hml, hown, hts⟩ (g_fill l hfl D tE s.heap.size w5 cI 10 (by decide) ft 0 (va_A [(w5, .inl (cI, 10, .inl (ft)))] s.heap.size) rfl) (va_cwS 2 hts gX2_allows_J7_fill_53178 rfl rfl rfl (by decide +kernel) ⟨Nat.le_of_ble_eq_true rfl, Nat.le_of_ble_eq_true rfl⟩) (yPreS (wc := [(w5, .inl (cI, 10, .inl (ft)))]) (tc := [(cI, .int)]) hK hP hD hS hA hE [1] [0] (by decide) rfl rfl) rfl rfl hl.1 rfl (lv_room (Nat.le_of_ble_eq_true rfl)) dX2_allows_5 ⟨Nat.le_of_ble_eq_true rfl, Nat.le_of_ble_eq_true rfl⟩) hP hD hS hA [1] [0] rfl rfl (by decide) (by decide) (fun u_2 H locs hw hP hD hS => ?_)
  have hP : va_P D vwCl [(h1, .inr (8, [.int 0, .int np, .ref w1, .ref w2, .ref w3, .ref w4, .ref w5])), (w5, .inl (cI, 10, .inl (u_2)))] H := hP
  have hD : va_D A [(h1, .inr (8, [.int 0, .int np, .ref w1, .ref w2, .ref w3, .ref w4, .ref w5])), (w5, .inl (cI, 10, .inl (u_2)))] := hD
  refine lv_iconst (v := (0)) hx hb dX2_allows_8 (by decide) ?_
  refine lv_istore_n (lv' := [(2, .int 0), (0, .ref h1), (1, .ref r1)]) hx hb dX2_allows_9 rfl hl (by decide) rfl (fun ls hl => ?_)
  refine lv_iload_n hx hb dX2_allows_10 rfl (lv_at hl 0 rfl) ?_
  refine lv_aload_n hx hb dX2_allows_11 rfl (lv_at hl 1 rfl) ?_
  refine va_get (D := D) (ci := 8) (v := .int 0) (C := RX2) (T := TX2) (N := 7) hx hb hts iX2_allows_X2 hown hK hP 0 rfl rfl 0 (by decide) (hts _ kX2_allows_2) (fun _ h9 => h9) rfl dX2_allows_12 ?_
  refine lv_icmp_ge (tgt := 72) hx hb dX2_allows_15 (by decide) (fun _ => ?_) (fun h => absurd h (by decide))
  refine lv_iconst (v := (1)) hx hb dX2_allows_72 (by decide) ?_
  exact y_zret hx hb hr hlocks (by decide) u_2 rfl hP hD hS (Nat.le_of_ble_eq_true rfl) (Nat.le_of_ble_eq_true rfl) dX2_allows_73
theorem iX5_greatestKeptLead_X5 : ∀ w ∈ wsX50, w ∈ wsX5_greatestKeptLead := by decide +kernel
theorem kX5_greatestKeptLead_1 : Cond.fieldLink RX5 46 "Mostwell" "keptCount" "I" ∈ wsX5_greatestKeptLead := List.mem_of_getElem? (i := 1) (by decide +kernel)
set_option maxHeartbeats 4000000 in
set_option maxRecDepth 100000 in
theorem f_greatestKeptLead (l : Launch) (hfl : l.stackTraces = false) (D : va_G) (tE : Nat) (sz : Nat) (h0 : Nat) (h1 : Nat) (h2 : Nat) (h3 : Nat) (h4 : Nat) (a1 : Nat) (a2 : Nat) (r1 : Nat) (A : Nat → Prop) (hA0 : A = va_A [(h0, .inr (11, [.ref h1, .ref h2, .ref h3, .ref h4, .ref a1, .ref a2, .int 0]))] sz) : Met l yX5_greatestKeptLead wsX5_greatestKeptLead (yR 0 0 0) (yP D tE [(h0, .inr (11, [.ref h1, .ref h2, .ref h3, .ref h4, .ref a1, .ref a2, .int 0]))] [] sz [.ref h0, .ref r1]) (va_Qi (S := Unit) (fun (r : Int32) (u : Unit) => r = 0) (fun (u : Unit) (t : State) => yB D A ((fun (u : Unit) => [(h0, .inr (11, [.ref h1, .ref h2, .ref h3, .ref h4, .ref a1, .ref a2, .int 0]))]) u) t) A) 0 0 A := by
  refine Met.ofW (cc := cX5_greatestKeptLead) (maxL := 4) (ret := (some .int)) (by decide) rfl ?_
  intro p e s m args below meth c s₁ B hml hv
  obtain ⟨rfl, rfl, hP, hK, hD, hE, hA⟩ := y_start hA0 hv
  have hx := B.exec
  have hb := B.bytes
  have hr := B.returns
  have hts := atoms_spec (ws := wsX5_greatestKeptLead) B.pre
  have hown : s.vm.findClass RX5 = some m.cls := findClass_of_methodNamed B.named
  have hlocks := B.notSynchronized
  clear hA0 hv
  have hS : va_S A s.heap s.heap [] := va_S.rf
  have hl := lv_entry ([.ref h0, .ref r1]) (n := 4) (Nat.le_of_ble_eq_true rfl)
  rw [lg_entry_eq]
  generalize (lg_sl ([.ref h0, .ref r1]) ++ List.replicate (4 - (lg_sl ([.ref h0, .ref r1])).length) Slot.unset).toArray = ls at hl ⊢
  have hl : lv_has ls 4 [(0, .ref h0), (1, .ref r1)] := hl
  refine lv_iconst (v := (0)) hx hb dX5_greatestKeptLead_0 (by decide) ?_
  refine lv_istore_n (lv' := [(2, .int 0), (0, .ref h0), (1, .ref r1)]) hx hb dX5_greatestKeptLead_1 rfl hl (by decide) rfl (fun ls hl => ?_)
  refine lv_iconst (v := (0)) hx hb dX5_greatestKeptLead_2 (by decide) ?_
  refine lv_istore_n (lv' := [(3, .int 0), (2, .int 0), (0, .ref h0), (1, .ref r1)]) hx hb dX5_greatestKeptLead_3 rfl hl (by decide) rfl (fun ls hl => ?_)
  refine lv_iload_n hx hb dX5_greatestKeptLead_4 rfl (lv_at hl 0 rfl) ?_
  refine lv_aload_n hx hb dX5_greatestKeptLead_5 rfl (lv_at hl 2 rfl) ?_
  refine va_get (D := D) (ci := 11) (v := .int 0) (C := RX5) (T := TX5) (N := 7) hx hb hts iX5_greatestKeptLead_X5 hown hK hP 0 rfl rfl 6 (by decide) (hts _ kX5_greatestKeptLead_1) (fun _ h9 => h9) rfl dX5_greatestKeptLead_6 ?_
  refine lv_icmp_ge (tgt := 53) hx hb dX5_greatestKeptLead_9 (by decide) (fun _ => ?_) (fun h => absurd h (by decide))
  refine lv_iload_n hx hb dX5_greatestKeptLead_53 rfl (lv_at hl 1 rfl) ?_
  exact y_iret hx hb hr hlocks () rfl hP hD hS (Nat.le_of_ble_eq_true rfl) (Nat.le_of_ble_eq_true rfl) dX5_greatestKeptLead_54
theorem iX5_popularHolds_X5 : ∀ w ∈ wsX50, w ∈ wsX5_popularHolds := by decide +kernel
theorem kX5_popularHolds_1 : Cond.fieldLink RX5 10 "Mostwell" "house" "LMostwell$House;" ∈ wsX5_popularHolds := List.mem_of_getElem? (i := 1) (by decide +kernel)
theorem kX5_popularHolds_2 : Cond.fieldLink RX5 26 "Mostwell" "finder" "LMostwell$Finder;" ∈ wsX5_popularHolds := List.mem_of_getElem? (i := 2) (by decide +kernel)
theorem iX5_popularHolds_X1 : ∀ w ∈ wsX10, w ∈ wsX5_popularHolds := by decide +kernel
theorem kX5_popularHolds_3 : Cond.fieldLink RX5 222 "Mostwell$Finder" "popularRow" "[I" ∈ wsX5_popularHolds := List.mem_of_getElem? (i := 3) (by decide +kernel)
theorem kX5_popularHolds_4 : Cond.fieldLink RX5 232 "Mostwell$Finder" "bestRow" "[I" ∈ wsX5_popularHolds := List.mem_of_getElem? (i := 4) (by decide +kernel)
set_option maxHeartbeats 4000000 in
set_option maxRecDepth 100000 in
theorem f_popularHolds (l : Launch) (hfl : l.stackTraces = false) (D : va_G) (tE : Nat) (sz : Nat) (h0 : Nat) (h1 : Nat) (h2 : Nat) (h3 : Nat) (h4 : Nat) (a1 : Nat) (a2 : Nat) (b1 : Nat) (b2 : Nat) (b3 : Nat) (h5 : Nat) (b4 : Nat) (b5 : Nat) (w1 : Nat) (w2 : Nat) (w3 : Nat) (w4 : Nat) (w5 : Nat) (s1 : Nat) (s2 : Nat) (s3 : Nat) (s4 : Nat) (s5 : Nat) (s6 : Nat) (cI : ClassId) (f1 : Nat → Int32) (f2 : Nat → Int32) (fb : Nat → Int32) (sn : Int32) (A : Nat → Prop) (hA0 : A = va_A [(h0, .inr (11, [.ref h1, .ref h2, .ref h3, .ref h4, .ref a1, .ref a2, .int 0])), (h3, .inr (7, [.ref b1, .ref b2, .ref b3, .ref h5, .ref b4, .ref b5])), (h5, .inr (9, [.ref s1, .ref s2, .ref s3, .int sn, .ref s4, .ref s5, .ref s6])), (h1, .inr (8, [.int 0, .int 0, .ref w1, .ref w2, .ref w3, .ref w4, .ref w5])), (s2, .inl (cI, 10, .inl (f1))), (s3, .inl (cI, 11, .inl (f2))), (b3, .inl (cI, 10, .inl (fb)))] sz) : Met l yX5_popularHolds wsX5_popularHolds (yR 3 0 0) (yP D tE [(h0, .inr (11, [.ref h1, .ref h2, .ref h3, .ref h4, .ref a1, .ref a2, .int 0])), (h3, .inr (7, [.ref b1, .ref b2, .ref b3, .ref h5, .ref b4, .ref b5])), (h5, .inr (9, [.ref s1, .ref s2, .ref s3, .int sn, .ref s4, .ref s5, .ref s6])), (h1, .inr (8, [.int 0, .int 0, .ref w1, .ref w2, .ref w3, .ref w4, .ref w5])), (s2, .inl (cI, 10, .inl (f1))), (s3, .inl (cI, 11, .inl (f2))), (b3, .inl (cI, 10, .inl (fb)))] [(cI, .int)] sz [.ref h0]) (va_Qi (S := (Nat → Int32) × (Nat → Int32) × (Nat → Int32)) (fun (r : Int32) (u : (Nat → Int32) × (Nat → Int32) × (Nat → Int32)) => r = 1) (fun (u : (Nat → Int32) × (Nat → Int32) × (Nat → Int32)) (t : State) => yB D A ((fun (u : (Nat → Int32) × (Nat → Int32) × (Nat → Int32)) => [(h0, .inr (11, [.ref h1, .ref h2, .ref h3, .ref h4, .ref a1, .ref a2, .int 0])), (h3, .inr (7, [.ref b1, .ref b2, .ref b3, .ref h5, .ref b4, .ref b5])), (h5, .inr (9, [.ref s1, .ref s2, .ref s3, .int 0, .ref s4, .ref s5, .ref s6])), (h1, .inr (8, [.int 0, .int 0, .ref w1, .ref w2, .ref w3, .ref w4, .ref w5])), (s2, .inl (cI, 10, .inl (u.1))), (s3, .inl (cI, 11, .inl (u.2.1))), (b3, .inl (cI, 10, .inl (u.2.2)))]) u) t) A) 0 0 A := by
  refine Met.ofW (cc := cX5_popularHolds) (maxL := 1) (ret := (some .boolean)) (by decide) rfl ?_
  intro p e s m args below meth c s₁ B hml hv
  obtain ⟨rfl, rfl, hP, hK, hD, hE, hA⟩ := y_start hA0 hv
  have hx := B.exec
  have hb := B.bytes
  have hr := B.returns
  have hts := atoms_spec (ws := wsX5_popularHolds) B.pre
  have hown : s.vm.findClass RX5 = some m.cls := findClass_of_methodNamed B.named
  have hlocks := B.notSynchronized
  clear hA0 hv
  have hS : va_S A s.heap s.heap [] := va_S.rf
  have hl := lv_entry ([.ref h0]) (n := 1) (Nat.le_of_ble_eq_true rfl)
  rw [lg_entry_eq]
  generalize (lg_sl ([.ref h0]) ++ List.replicate (1 - (lg_sl ([.ref h0])).length) Slot.unset).toArray = ls at hl ⊢
  have hl : lv_has ls 1 [(0, .ref h0)] := hl
  refine lv_aload_n hx hb dX5_popularHolds_0 rfl (lv_at hl 0 rfl) ?_
  refine va_get (D := D) (ci := 11) (v := .ref h1) (C := RX5) (T := TX5) (N := 7) hx hb hts iX5_popularHolds_X5 hown hK hP 0 rfl rfl 0 (by decide) (hts _ kX5_popularHolds_1) (fun _ h9 => h9) rfl dX5_popularHolds_1 ?_
  refine yc_i (wc := [(h1, .inr (8, [.int 0, .int 0, .ref w1, .ref w2, .ref w3, .ref w4, .ref w5]))]) (wr := [(h0, .inr (11, [.ref h1, .ref h2, .ref h3, .ref h4, .ref a1, .ref a2, .int 0])), (h3, .inr (7, [.ref b1, .ref b2, .ref b3, .ref h5, .ref b4, .ref b5])), (h5, .inr (9, [.ref s1, .ref s2, .ref s3, .int sn, .ref s4, .ref s5, .ref s6])), (s2, .inl (cI, 10, .inl (f1))), (s3, .inl (cI, 11, .inl (f2))), (b3, .inl (cI, 10, .inl (fb)))]) (va_runV (As := []) (rest := []) ⟨hx, hb, hml, hown, hts⟩ (f_hasLikeWeights l hfl D tE s.heap.size h1 w1 w2 w3 w4 w5 0 (va_A [(h1, .inr (8, [.int 0, .int 0, .ref w1, .ref w2, .ref w3, .ref w4, .ref w5]))] s.heap.size) rfl) (cwV 0 hts gX5_popularHolds_X2_hasLikeWeights rfl rfl rfl (by decide +kernel) ⟨Nat.le_of_ble_eq_true rfl, Nat.le_of_ble_eq_true rfl⟩) (yPreV (wc := [(h1, .inr (8, [.int 0, .int 0, .ref w1, .ref w2, .ref w3, .ref w4, .ref w5]))]) (tc := []) hK hP hD hS hA hE [3] [] (by decide) rfl rfl (ci := 8) (q0 := 3) (q := (RX2, TX2, 7)) rfl rfl) rfl rfl hl.1 rfl (lv_room (Nat.le_of_ble_eq_true rfl)) dX5_popularHolds_4 ⟨Nat.le_of_ble_eq_true rfl, Nat.le_of_ble_eq_true rfl⟩) hP hD hS hA [3] [0, 1, 2, 4, 5, 6] rfl rfl (by decide) (by decide) (fun r_1 u_2 H locs hw hP hD hS => ?_)
  have hP : va_P D vwCl [(h0, .inr (11, [.ref h1, .ref h2, .ref h3, .ref h4, .ref a1, .ref a2, .int 0])), (h3, .inr (7, [.ref b1, .ref b2, .ref b3, .ref h5, .ref b4, .ref b5])), (h5, .inr (9, [.ref s1, .ref s2, .ref s3, .int sn, .ref s4, .ref s5, .ref s6])), (s2, .inl (cI, 10, .inl (f1))), (s3, .inl (cI, 11, .inl (f2))), (b3, .inl (cI, 10, .inl (fb))), (h1, .inr (8, [.int 0, .int 0, .ref w1, .ref w2, .ref w3, .ref w4, .ref w5]))] H := hP
  have hD : va_D A [(h0, .inr (11, [.ref h1, .ref h2, .ref h3, .ref h4, .ref a1, .ref a2, .int 0])), (h3, .inr (7, [.ref b1, .ref b2, .ref b3, .ref h5, .ref b4, .ref b5])), (h5, .inr (9, [.ref s1, .ref s2, .ref s3, .int sn, .ref s4, .ref s5, .ref s6])), (s2, .inl (cI, 10, .inl (f1))), (s3, .inl (cI, 11, .inl (f2))), (b3, .inl (cI, 10, .inl (fb))), (h1, .inr (8, [.int 0, .int 0, .ref w1, .ref w2, .ref w3, .ref w4, .ref w5]))] := hD
  have hw : r_1 = 1 := hw
  subst hw
  refine lv_if_eq (tgt := 24) hx hb dX5_popularHolds_7 (by decide) (fun h => absurd h (by decide)) (fun _ => ?_)
  refine lv_aload_n hx hb dX5_popularHolds_10 rfl (lv_at hl 0 rfl) ?_
  refine va_get (D := D) (ci := 11) (v := .ref h3) (C := RX5) (T := TX5) (N := 7) hx hb hts iX5_popularHolds_X5 hown hK hP 0 rfl rfl 2 (by decide) (hts _ kX5_popularHolds_2) (fun _ h9 => h9) rfl dX5_popularHolds_11 ?_
  refine lv_aload_n hx hb dX5_popularHolds_14 rfl (lv_at hl 0 rfl) ?_
  refine va_get (D := D) (ci := 11) (v := .ref h1) (C := RX5) (T := TX5) (N := 7) hx hb hts iX5_popularHolds_X5 hown hK hP 0 rfl rfl 0 (by decide) (hts _ kX5_popularHolds_1) (fun _ h9 => h9) rfl dX5_popularHolds_15 ?_
  refine yc_i (wc := [(h3, .inr (7, [.ref b1, .ref b2, .ref b3, .ref h5, .ref b4, .ref b5])), (h5, .inr (9, [.ref s1, .ref s2, .ref s3, .int sn, .ref s4, .ref s5, .ref s6])), (h1, .inr (8, [.int 0, .int 0, .ref w1, .ref w2, .ref w3, .ref w4, .ref w5])), (s2, .inl (cI, 10, .inl (f1))), (s3, .inl (cI, 11, .inl (f2))), (b3, .inl (cI, 10, .inl (fb)))]) (wr := [(h0, .inr (11, [.ref h1, .ref h2, .ref h3, .ref h4, .ref a1, .ref a2, .int 0]))]) (va_runV (As := [.ref h1]) (rest := []) ⟨hx, hb, hml, hown, hts⟩ (f_findPopular l hfl D tE H.size h1 h3 w1 w2 w3 w4 w5 b1 b2 b3 h5 b4 b5 s1 s2 s3 s4 s5 s6 cI f1 f2 fb sn (va_A [(h3, .inr (7, [.ref b1, .ref b2, .ref b3, .ref h5, .ref b4, .ref b5])), (h5, .inr (9, [.ref s1, .ref s2, .ref s3, .int sn, .ref s4, .ref s5, .ref s6])), (h1, .inr (8, [.int 0, .int 0, .ref w1, .ref w2, .ref w3, .ref w4, .ref w5])), (s2, .inl (cI, 10, .inl (f1))), (s3, .inl (cI, 11, .inl (f2))), (b3, .inl (cI, 10, .inl (fb)))] H.size) rfl) (cwV 1 hts gX5_popularHolds_X1_findPopular rfl rfl rfl (by decide +kernel) ⟨Nat.le_of_ble_eq_true rfl, Nat.le_of_ble_eq_true rfl⟩) (yPreV (wc := [(h3, .inr (7, [.ref b1, .ref b2, .ref b3, .ref h5, .ref b4, .ref b5])), (h5, .inr (9, [.ref s1, .ref s2, .ref s3, .int sn, .ref s4, .ref s5, .ref s6])), (h1, .inr (8, [.int 0, .int 0, .ref w1, .ref w2, .ref w3, .ref w4, .ref w5])), (s2, .inl (cI, 10, .inl (f1))), (s3, .inl (cI, 11, .inl (f2))), (b3, .inl (cI, 10, .inl (fb)))]) (tc := [(cI, .int)]) hK hP hD hS hA hE [1, 2, 6, 3, 4, 5] [0] (by decide) rfl rfl (ci := 7) (q0 := 1) (q := (RX1, TX1, 6)) rfl rfl) rfl rfl hl.1 rfl (lv_room (Nat.le_of_ble_eq_true rfl)) dX5_popularHolds_18 ⟨Nat.le_of_ble_eq_true rfl, Nat.le_of_ble_eq_true rfl⟩) hP hD hS hA [1, 2, 6, 3, 4, 5] [0] rfl rfl (by decide) (by decide) (fun r_3 u_4 H locs hw hP hD hS => ?_)
  have hP : va_P D vwCl [(h0, .inr (11, [.ref h1, .ref h2, .ref h3, .ref h4, .ref a1, .ref a2, .int 0])), (h3, .inr (7, [.ref b1, .ref b2, .ref b3, .ref h5, .ref b4, .ref b5])), (h5, .inr (9, [.ref s1, .ref s2, .ref s3, .int 0, .ref s4, .ref s5, .ref s6])), (h1, .inr (8, [.int 0, .int 0, .ref w1, .ref w2, .ref w3, .ref w4, .ref w5])), (s2, .inl (cI, 10, .inl (u_4.1))), (s3, .inl (cI, 11, .inl (u_4.2.1))), (b3, .inl (cI, 10, .inl (u_4.2.2)))] H := hP
  have hD : va_D A [(h0, .inr (11, [.ref h1, .ref h2, .ref h3, .ref h4, .ref a1, .ref a2, .int 0])), (h3, .inr (7, [.ref b1, .ref b2, .ref b3, .ref h5, .ref b4, .ref b5])), (h5, .inr (9, [.ref s1, .ref s2, .ref s3, .int 0, .ref s4, .ref s5, .ref s6])), (h1, .inr (8, [.int 0, .int 0, .ref w1, .ref w2, .ref w3, .ref w4, .ref w5])), (s2, .inl (cI, 10, .inl (u_4.1))), (s3, .inl (cI, 11, .inl (u_4.2.1))), (b3, .inl (cI, 10, .inl (u_4.2.2)))] := hD
  have hw : r_3 = 1 := hw
  subst hw
  refine lv_if_ne (tgt := 26) hx hb dX5_popularHolds_21 (by decide) (fun _ => ?_) (fun h => absurd h (by decide))
  refine lv_aload_n hx hb dX5_popularHolds_26 rfl (lv_at hl 0 rfl) ?_
  refine lv_aload_n hx hb dX5_popularHolds_27 rfl (lv_at hl 0 rfl) ?_
  refine va_get (D := D) (ci := 11) (v := .ref h3) (C := RX5) (T := TX5) (N := 7) hx hb hts iX5_popularHolds_X5 hown hK hP 0 rfl rfl 2 (by decide) (hts _ kX5_popularHolds_2) (fun _ h9 => h9) rfl dX5_popularHolds_28 ?_
  refine va_get (D := D) (ci := 7) (v := .ref b3) (C := RX1) (T := TX1) (N := 6) hx hb hts iX5_popularHolds_X1 hown hK hP 1 rfl rfl 2 (by decide) (hts _ kX5_popularHolds_3) (fun _ h9 => h9) rfl dX5_popularHolds_31 ?_
  refine yc_i (wc := [(h0, .inr (11, [.ref h1, .ref h2, .ref h3, .ref h4, .ref a1, .ref a2, .int 0]))]) (wr := [(h3, .inr (7, [.ref b1, .ref b2, .ref b3, .ref h5, .ref b4, .ref b5])), (h5, .inr (9, [.ref s1, .ref s2, .ref s3, .int 0, .ref s4, .ref s5, .ref s6])), (h1, .inr (8, [.int 0, .int 0, .ref w1, .ref w2, .ref w3, .ref w4, .ref w5])), (s2, .inl (cI, 10, .inl (u_4.1))), (s3, .inl (cI, 11, .inl (u_4.2.1))), (b3, .inl (cI, 10, .inl (u_4.2.2)))]) (va_runV (As := [.ref b3]) (rest := []) ⟨hx, hb, hml, hown, hts⟩ (f_greatestKeptLead l hfl D tE H.size h0 h1 h2 h3 h4 a1 a2 b3 (va_A [(h0, .inr (11, [.ref h1, .ref h2, .ref h3, .ref h4, .ref a1, .ref a2, .int 0]))] H.size) rfl) (cwV 1 hts gX5_popularHolds_X5_greatestKeptLead rfl rfl rfl (by decide +kernel) ⟨Nat.le_of_ble_eq_true rfl, Nat.le_of_ble_eq_true rfl⟩) (yPreV (wc := [(h0, .inr (11, [.ref h1, .ref h2, .ref h3, .ref h4, .ref a1, .ref a2, .int 0]))]) (tc := []) hK hP hD hS hA hE [0] [] (by decide) rfl rfl (ci := 11) (q0 := 0) (q := (RX5, TX5, 7)) rfl rfl) rfl rfl hl.1 rfl (lv_room (Nat.le_of_ble_eq_true rfl)) dX5_popularHolds_34 ⟨Nat.le_of_ble_eq_true rfl, Nat.le_of_ble_eq_true rfl⟩) hP hD hS hA [0] [1, 2, 3, 4, 5, 6] rfl rfl (by decide) (by decide) (fun r_5 u_6 H locs hw hP hD hS => ?_)
  have hP : va_P D vwCl [(h3, .inr (7, [.ref b1, .ref b2, .ref b3, .ref h5, .ref b4, .ref b5])), (h5, .inr (9, [.ref s1, .ref s2, .ref s3, .int 0, .ref s4, .ref s5, .ref s6])), (h1, .inr (8, [.int 0, .int 0, .ref w1, .ref w2, .ref w3, .ref w4, .ref w5])), (s2, .inl (cI, 10, .inl (u_4.1))), (s3, .inl (cI, 11, .inl (u_4.2.1))), (b3, .inl (cI, 10, .inl (u_4.2.2))), (h0, .inr (11, [.ref h1, .ref h2, .ref h3, .ref h4, .ref a1, .ref a2, .int 0]))] H := hP
  have hD : va_D A [(h3, .inr (7, [.ref b1, .ref b2, .ref b3, .ref h5, .ref b4, .ref b5])), (h5, .inr (9, [.ref s1, .ref s2, .ref s3, .int 0, .ref s4, .ref s5, .ref s6])), (h1, .inr (8, [.int 0, .int 0, .ref w1, .ref w2, .ref w3, .ref w4, .ref w5])), (s2, .inl (cI, 10, .inl (u_4.1))), (s3, .inl (cI, 11, .inl (u_4.2.1))), (b3, .inl (cI, 10, .inl (u_4.2.2))), (h0, .inr (11, [.ref h1, .ref h2, .ref h3, .ref h4, .ref a1, .ref a2, .int 0]))] := hD
  have hw : r_5 = 0 := hw
  subst hw
  refine lv_if_gt (tgt := 68) hx hb dX5_popularHolds_37 (by decide) (fun h => absurd h (by decide)) (fun _ => ?_)
  refine lv_aload_n hx hb dX5_popularHolds_40 rfl (lv_at hl 0 rfl) ?_
  refine va_get (D := D) (ci := 11) (v := .ref h1) (C := RX5) (T := TX5) (N := 7) hx hb hts iX5_popularHolds_X5 hown hK hP 6 rfl rfl 0 (by decide) (hts _ kX5_popularHolds_1) (fun _ h9 => h9) rfl dX5_popularHolds_41 ?_
  refine lv_aload_n hx hb dX5_popularHolds_44 rfl (lv_at hl 0 rfl) ?_
  refine va_get (D := D) (ci := 11) (v := .ref h3) (C := RX5) (T := TX5) (N := 7) hx hb hts iX5_popularHolds_X5 hown hK hP 6 rfl rfl 2 (by decide) (hts _ kX5_popularHolds_2) (fun _ h9 => h9) rfl dX5_popularHolds_45 ?_
  refine va_get (D := D) (ci := 7) (v := .ref b2) (C := RX1) (T := TX1) (N := 6) hx hb hts iX5_popularHolds_X1 hown hK hP 0 rfl rfl 1 (by decide) (hts _ kX5_popularHolds_4) (fun _ h9 => h9) rfl dX5_popularHolds_48 ?_
  refine lv_aload_n hx hb dX5_popularHolds_51 rfl (lv_at hl 0 rfl) ?_
  refine va_get (D := D) (ci := 11) (v := .ref h3) (C := RX5) (T := TX5) (N := 7) hx hb hts iX5_popularHolds_X5 hown hK hP 6 rfl rfl 2 (by decide) (hts _ kX5_popularHolds_2) (fun _ h9 => h9) rfl dX5_popularHolds_52 ?_
  refine va_get (D := D) (ci := 7) (v := .ref b3) (C := RX1) (T := TX1) (N := 6) hx hb hts iX5_popularHolds_X1 hown hK hP 0 rfl rfl 2 (by decide) (hts _ kX5_popularHolds_3) (fun _ h9 => h9) rfl dX5_popularHolds_55 ?_
  refine yc_i (wc := [(h1, .inr (8, [.int 0, .int 0, .ref w1, .ref w2, .ref w3, .ref w4, .ref w5]))]) (wr := [(h3, .inr (7, [.ref b1, .ref b2, .ref b3, .ref h5, .ref b4, .ref b5])), (h5, .inr (9, [.ref s1, .ref s2, .ref s3, .int 0, .ref s4, .ref s5, .ref s6])), (s2, .inl (cI, 10, .inl (u_4.1))), (s3, .inl (cI, 11, .inl (u_4.2.1))), (b3, .inl (cI, 10, .inl (u_4.2.2))), (h0, .inr (11, [.ref h1, .ref h2, .ref h3, .ref h4, .ref a1, .ref a2, .int 0]))]) (va_runV (As := [.ref b2, .ref b3]) (rest := []) ⟨hx, hb, hml, hown, hts⟩ (f_leadOf l hfl D tE H.size h1 w1 w2 w3 w4 w5 0 b2 b3 (va_A [(h1, .inr (8, [.int 0, .int 0, .ref w1, .ref w2, .ref w3, .ref w4, .ref w5]))] H.size) rfl) (cwV 2 hts gX5_popularHolds_X2_leadOf rfl rfl rfl (by decide +kernel) ⟨Nat.le_of_ble_eq_true rfl, Nat.le_of_ble_eq_true rfl⟩) (yPreV (wc := [(h1, .inr (8, [.int 0, .int 0, .ref w1, .ref w2, .ref w3, .ref w4, .ref w5]))]) (tc := []) hK hP hD hS hA hE [2] [] (by decide) rfl rfl (ci := 8) (q0 := 2) (q := (RX2, TX2, 7)) rfl rfl) rfl rfl hl.1 rfl (lv_room (Nat.le_of_ble_eq_true rfl)) dX5_popularHolds_58 ⟨Nat.le_of_ble_eq_true rfl, Nat.le_of_ble_eq_true rfl⟩) hP hD hS hA [2] [0, 1, 3, 4, 5, 6] rfl rfl (by decide) (by decide) (fun r_7 u_8 H locs hw hP hD hS => ?_)
  have hP : va_P D vwCl [(h3, .inr (7, [.ref b1, .ref b2, .ref b3, .ref h5, .ref b4, .ref b5])), (h5, .inr (9, [.ref s1, .ref s2, .ref s3, .int 0, .ref s4, .ref s5, .ref s6])), (s2, .inl (cI, 10, .inl (u_4.1))), (s3, .inl (cI, 11, .inl (u_4.2.1))), (b3, .inl (cI, 10, .inl (u_4.2.2))), (h0, .inr (11, [.ref h1, .ref h2, .ref h3, .ref h4, .ref a1, .ref a2, .int 0])), (h1, .inr (8, [.int 0, .int 0, .ref w1, .ref w2, .ref w3, .ref w4, .ref w5]))] H := hP
  have hD : va_D A [(h3, .inr (7, [.ref b1, .ref b2, .ref b3, .ref h5, .ref b4, .ref b5])), (h5, .inr (9, [.ref s1, .ref s2, .ref s3, .int 0, .ref s4, .ref s5, .ref s6])), (s2, .inl (cI, 10, .inl (u_4.1))), (s3, .inl (cI, 11, .inl (u_4.2.1))), (b3, .inl (cI, 10, .inl (u_4.2.2))), (h0, .inr (11, [.ref h1, .ref h2, .ref h3, .ref h4, .ref a1, .ref a2, .int 0])), (h1, .inr (8, [.int 0, .int 0, .ref w1, .ref w2, .ref w3, .ref w4, .ref w5]))] := hD
  have hw : r_7 = 0 := hw
  subst hw
  refine lv_if_gt (tgt := 68) hx hb dX5_popularHolds_61 (by decide) (fun h => absurd h (by decide)) (fun _ => ?_)
  refine lv_iconst (v := (1)) hx hb dX5_popularHolds_64 (by decide) ?_
  refine lv_goto (tgt := 69) hx hb dX5_popularHolds_65 (by decide) ?_
  exact y_zret hx hb hr hlocks (by decide) (u_4.1, u_4.2.1, u_4.2.2) rfl (hP.sub [5, 0, 1, 6, 2, 3, 4] rfl) (hD.sub [5, 0, 1, 6, 2, 3, 4] (by decide) rfl) hS (Nat.le_of_ble_eq_true rfl) (Nat.le_of_ble_eq_true rfl) dX5_popularHolds_69
theorem iX5_isTrue_X5 : ∀ w ∈ wsX50, w ∈ wsX5_isTrue := by decide +kernel
theorem kX5_isTrue_1 : Cond.fieldLink RX5 26 "Mostwell" "finder" "LMostwell$Finder;" ∈ wsX5_isTrue := List.mem_of_getElem? (i := 1) (by decide +kernel)
theorem kX5_isTrue_2 : Cond.fieldLink RX5 10 "Mostwell" "house" "LMostwell$House;" ∈ wsX5_isTrue := List.mem_of_getElem? (i := 2) (by decide +kernel)
theorem kX5_isTrue_3 : Cond.fieldLink RX5 37 "Mostwell" "hand" "[I" ∈ wsX5_isTrue := List.mem_of_getElem? (i := 3) (by decide +kernel)
theorem iX5_isTrue_X1 : ∀ w ∈ wsX10, w ∈ wsX5_isTrue := by decide +kernel
theorem kX5_isTrue_4 : Cond.fieldLink RX5 232 "Mostwell$Finder" "bestRow" "[I" ∈ wsX5_isTrue := List.mem_of_getElem? (i := 4) (by decide +kernel)
theorem kX5_isTrue_5 : Cond.fieldLink RX5 210 "Mostwell$Finder" "challengerRow" "[I" ∈ wsX5_isTrue := List.mem_of_getElem? (i := 5) (by decide +kernel)
set_option maxHeartbeats 4000000 in
set_option maxRecDepth 100000 in
theorem f_isTrue (l : Launch) (hfl : l.stackTraces = false) (D : va_G) (tE : Nat) (sz : Nat) (h0 : Nat) (h1 : Nat) (h2 : Nat) (h3 : Nat) (h4 : Nat) (a1 : Nat) (a2 : Nat) (b1 : Nat) (b2 : Nat) (b3 : Nat) (h5 : Nat) (b4 : Nat) (b5 : Nat) (w1 : Nat) (w2 : Nat) (w3 : Nat) (w4 : Nat) (w5 : Nat) (s1 : Nat) (s2 : Nat) (s3 : Nat) (s4 : Nat) (s5 : Nat) (s6 : Nat) (cI : ClassId) (f1 : Nat → Int32) (f2 : Nat → Int32) (fb : Nat → Int32) (fc : Nat → Int32) (fd : Nat → Int32) (ft : Nat → Int32) (sn : Int32) (A : Nat → Prop) (hA0 : A = va_A [(h0, .inr (11, [.ref h1, .ref h2, .ref h3, .ref h4, .ref a1, .ref a2, .int 0])), (h3, .inr (7, [.ref b1, .ref b2, .ref b3, .ref h5, .ref b4, .ref b5])), (h5, .inr (9, [.ref s1, .ref s2, .ref s3, .int sn, .ref s4, .ref s5, .ref s6])), (h1, .inr (8, [.int 0, .int 0, .ref w1, .ref w2, .ref w3, .ref w4, .ref w5])), (s2, .inl (cI, 10, .inl (f1))), (s3, .inl (cI, 11, .inl (f2))), (b1, .inl (cI, 10, .inl (fb))), (b2, .inl (cI, 10, .inl (fc))), (b3, .inl (cI, 10, .inl (fd))), (w5, .inl (cI, 10, .inl (ft)))] sz) : Met l yX5_isTrue wsX5_isTrue (yR 4 0 0) (yP D tE [(h0, .inr (11, [.ref h1, .ref h2, .ref h3, .ref h4, .ref a1, .ref a2, .int 0])), (h3, .inr (7, [.ref b1, .ref b2, .ref b3, .ref h5, .ref b4, .ref b5])), (h5, .inr (9, [.ref s1, .ref s2, .ref s3, .int sn, .ref s4, .ref s5, .ref s6])), (h1, .inr (8, [.int 0, .int 0, .ref w1, .ref w2, .ref w3, .ref w4, .ref w5])), (s2, .inl (cI, 10, .inl (f1))), (s3, .inl (cI, 11, .inl (f2))), (b1, .inl (cI, 10, .inl (fb))), (b2, .inl (cI, 10, .inl (fc))), (b3, .inl (cI, 10, .inl (fd))), (w5, .inl (cI, 10, .inl (ft)))] [(cI, .int)] sz [.ref h0]) (va_Qi (S := Unit) (fun (r : Int32) (u : Unit) => r = 1) (fun (u : Unit) (t : State) => yB D A ((fun (u : Unit) => []) u) t) A) 0 0 A := by
  refine Met.ofW (cc := cX5_isTrue) (maxL := 2) (ret := (some .boolean)) (by decide) rfl ?_
  intro p e s m args below meth c s₁ B hml hv
  obtain ⟨rfl, rfl, hP, hK, hD, hE, hA⟩ := y_start hA0 hv
  have hx := B.exec
  have hb := B.bytes
  have hr := B.returns
  have hts := atoms_spec (ws := wsX5_isTrue) B.pre
  have hown : s.vm.findClass RX5 = some m.cls := findClass_of_methodNamed B.named
  have hlocks := B.notSynchronized
  clear hA0 hv
  have hS : va_S A s.heap s.heap [] := va_S.rf
  have hl := lv_entry ([.ref h0]) (n := 2) (Nat.le_of_ble_eq_true rfl)
  rw [lg_entry_eq]
  generalize (lg_sl ([.ref h0]) ++ List.replicate (2 - (lg_sl ([.ref h0])).length) Slot.unset).toArray = ls at hl ⊢
  have hl : lv_has ls 2 [(0, .ref h0)] := hl
  refine lv_aload_n hx hb dX5_isTrue_0 rfl (lv_at hl 0 rfl) ?_
  refine va_get (D := D) (ci := 11) (v := .ref h3) (C := RX5) (T := TX5) (N := 7) hx hb hts iX5_isTrue_X5 hown hK hP 0 rfl rfl 2 (by decide) (hts _ kX5_isTrue_1) (fun _ h9 => h9) rfl dX5_isTrue_1 ?_
  refine lv_aload_n hx hb dX5_isTrue_4 rfl (lv_at hl 0 rfl) ?_
  refine va_get (D := D) (ci := 11) (v := .ref h1) (C := RX5) (T := TX5) (N := 7) hx hb hts iX5_isTrue_X5 hown hK hP 0 rfl rfl 0 (by decide) (hts _ kX5_isTrue_2) (fun _ h9 => h9) rfl dX5_isTrue_5 ?_
  refine lv_aload_n hx hb dX5_isTrue_8 rfl (lv_at hl 0 rfl) ?_
  refine va_get (D := D) (ci := 11) (v := .ref a1) (C := RX5) (T := TX5) (N := 7) hx hb hts iX5_isTrue_X5 hown hK hP 0 rfl rfl 4 (by decide) (hts _ kX5_isTrue_3) (fun _ h9 => h9) rfl dX5_isTrue_9 ?_
  refine yc_i (wc := [(h3, .inr (7, [.ref b1, .ref b2, .ref b3, .ref h5, .ref b4, .ref b5])), (h5, .inr (9, [.ref s1, .ref s2, .ref s3, .int sn, .ref s4, .ref s5, .ref s6])), (h1, .inr (8, [.int 0, .int 0, .ref w1, .ref w2, .ref w3, .ref w4, .ref w5])), (s2, .inl (cI, 10, .inl (f1))), (s3, .inl (cI, 11, .inl (f2))), (b1, .inl (cI, 10, .inl (fb)))]) (wr := [(h0, .inr (11, [.ref h1, .ref h2, .ref h3, .ref h4, .ref a1, .ref a2, .int 0])), (b2, .inl (cI, 10, .inl (fc))), (b3, .inl (cI, 10, .inl (fd))), (w5, .inl (cI, 10, .inl (ft)))]) (va_runV (As := [.ref h1, .ref a1]) (rest := []) ⟨hx, hb, hml, hown, hts⟩ (f_findChallenger l hfl D tE s.heap.size h1 h3 w1 w2 w3 w4 w5 b1 b2 b3 h5 b4 b5 s1 s2 s3 s4 s5 s6 cI f1 f2 a1 fb sn 0 (va_A [(h3, .inr (7, [.ref b1, .ref b2, .ref b3, .ref h5, .ref b4, .ref b5])), (h5, .inr (9, [.ref s1, .ref s2, .ref s3, .int sn, .ref s4, .ref s5, .ref s6])), (h1, .inr (8, [.int 0, .int 0, .ref w1, .ref w2, .ref w3, .ref w4, .ref w5])), (s2, .inl (cI, 10, .inl (f1))), (s3, .inl (cI, 11, .inl (f2))), (b1, .inl (cI, 10, .inl (fb)))] s.heap.size) rfl) (cwV 2 hts gX5_isTrue_X1_findChallenger rfl rfl rfl (by decide +kernel) ⟨Nat.le_of_ble_eq_true rfl, Nat.le_of_ble_eq_true rfl⟩) (yPreV (wc := [(h3, .inr (7, [.ref b1, .ref b2, .ref b3, .ref h5, .ref b4, .ref b5])), (h5, .inr (9, [.ref s1, .ref s2, .ref s3, .int sn, .ref s4, .ref s5, .ref s6])), (h1, .inr (8, [.int 0, .int 0, .ref w1, .ref w2, .ref w3, .ref w4, .ref w5])), (s2, .inl (cI, 10, .inl (f1))), (s3, .inl (cI, 11, .inl (f2))), (b1, .inl (cI, 10, .inl (fb)))]) (tc := [(cI, .int)]) hK hP hD hS hA hE [1, 2, 3, 4, 5, 6] [0] (by decide) rfl rfl (ci := 7) (q0 := 1) (q := (RX1, TX1, 6)) rfl rfl) rfl rfl hl.1 rfl (lv_room (Nat.le_of_ble_eq_true rfl)) dX5_isTrue_12 ⟨Nat.le_of_ble_eq_true rfl, Nat.le_of_ble_eq_true rfl⟩) hP hD hS hA [1, 2, 3, 4, 5, 6] [0, 7, 8, 9] rfl rfl (by decide) (by decide) (fun r_1 u_2 H locs hw hP hD hS => ?_)
  have hP : va_P D vwCl [(h0, .inr (11, [.ref h1, .ref h2, .ref h3, .ref h4, .ref a1, .ref a2, .int 0])), (b2, .inl (cI, 10, .inl (fc))), (b3, .inl (cI, 10, .inl (fd))), (w5, .inl (cI, 10, .inl (ft))), (h3, .inr (7, [.ref b1, .ref b2, .ref b3, .ref h5, .ref b4, .ref b5])), (h5, .inr (9, [.ref s1, .ref s2, .ref s3, .int 0, .ref s4, .ref s5, .ref s6])), (h1, .inr (8, [.int 0, .int 0, .ref w1, .ref w2, .ref w3, .ref w4, .ref w5])), (s2, .inl (cI, 10, .inl (u_2.1))), (s3, .inl (cI, 11, .inl (u_2.2.1))), (b1, .inl (cI, 10, .inl (u_2.2.2)))] H := hP
  have hD : va_D A [(h0, .inr (11, [.ref h1, .ref h2, .ref h3, .ref h4, .ref a1, .ref a2, .int 0])), (b2, .inl (cI, 10, .inl (fc))), (b3, .inl (cI, 10, .inl (fd))), (w5, .inl (cI, 10, .inl (ft))), (h3, .inr (7, [.ref b1, .ref b2, .ref b3, .ref h5, .ref b4, .ref b5])), (h5, .inr (9, [.ref s1, .ref s2, .ref s3, .int 0, .ref s4, .ref s5, .ref s6])), (h1, .inr (8, [.int 0, .int 0, .ref w1, .ref w2, .ref w3, .ref w4, .ref w5])), (s2, .inl (cI, 10, .inl (u_2.1))), (s3, .inl (cI, 11, .inl (u_2.2.1))), (b1, .inl (cI, 10, .inl (u_2.2.2)))] := hD
  have hw : r_1 = 0 := hw
  subst hw
  refine lv_istore_n (lv' := [(1, .int 0), (0, .ref h0)]) hx hb dX5_isTrue_15 rfl hl (by decide) rfl (fun ls hl => ?_)
  refine lv_aload_n hx hb dX5_isTrue_16 rfl (lv_at hl 1 rfl) ?_
  refine va_get (D := D) (ci := 11) (v := .ref h3) (C := RX5) (T := TX5) (N := 7) hx hb hts iX5_isTrue_X5 hown hK hP 0 rfl rfl 2 (by decide) (hts _ kX5_isTrue_1) (fun _ h9 => h9) rfl dX5_isTrue_17 ?_
  refine lv_aload_n hx hb dX5_isTrue_20 rfl (lv_at hl 1 rfl) ?_
  refine va_get (D := D) (ci := 11) (v := .ref h1) (C := RX5) (T := TX5) (N := 7) hx hb hts iX5_isTrue_X5 hown hK hP 0 rfl rfl 0 (by decide) (hts _ kX5_isTrue_2) (fun _ h9 => h9) rfl dX5_isTrue_21 ?_
  refine yc_v (wc := [(h3, .inr (7, [.ref b1, .ref b2, .ref b3, .ref h5, .ref b4, .ref b5])), (h5, .inr (9, [.ref s1, .ref s2, .ref s3, .int 0, .ref s4, .ref s5, .ref s6])), (h1, .inr (8, [.int 0, .int 0, .ref w1, .ref w2, .ref w3, .ref w4, .ref w5])), (s2, .inl (cI, 10, .inl (u_2.1))), (s3, .inl (cI, 11, .inl (u_2.2.1))), (b2, .inl (cI, 10, .inl (fc)))]) (wr := [(h0, .inr (11, [.ref h1, .ref h2, .ref h3, .ref h4, .ref a1, .ref a2, .int 0])), (b3, .inl (cI, 10, .inl (fd))), (w5, .inl (cI, 10, .inl (ft))), (b1, .inl (cI, 10, .inl (u_2.2.2)))]) (va_runV (As := [.ref h1]) (rest := []) ⟨hx, hb, hml, hown, hts⟩ (f_findBest l hfl D tE H.size h1 h3 w1 w2 w3 w4 w5 b1 b2 b3 h5 b4 b5 s1 s2 s3 s4 s5 s6 cI (u_2.1) (u_2.2.1) fc 0 0 (va_A [(h3, .inr (7, [.ref b1, .ref b2, .ref b3, .ref h5, .ref b4, .ref b5])), (h5, .inr (9, [.ref s1, .ref s2, .ref s3, .int 0, .ref s4, .ref s5, .ref s6])), (h1, .inr (8, [.int 0, .int 0, .ref w1, .ref w2, .ref w3, .ref w4, .ref w5])), (s2, .inl (cI, 10, .inl (u_2.1))), (s3, .inl (cI, 11, .inl (u_2.2.1))), (b2, .inl (cI, 10, .inl (fc)))] H.size) rfl) (cwV 1 hts gX5_isTrue_X1_findBest rfl rfl rfl (by decide +kernel) ⟨Nat.le_of_ble_eq_true rfl, Nat.le_of_ble_eq_true rfl⟩) (yPreV (wc := [(h3, .inr (7, [.ref b1, .ref b2, .ref b3, .ref h5, .ref b4, .ref b5])), (h5, .inr (9, [.ref s1, .ref s2, .ref s3, .int 0, .ref s4, .ref s5, .ref s6])), (h1, .inr (8, [.int 0, .int 0, .ref w1, .ref w2, .ref w3, .ref w4, .ref w5])), (s2, .inl (cI, 10, .inl (u_2.1))), (s3, .inl (cI, 11, .inl (u_2.2.1))), (b2, .inl (cI, 10, .inl (fc)))]) (tc := [(cI, .int)]) hK hP hD hS hA hE [4, 5, 6, 7, 8, 1] [0] (by decide) rfl rfl (ci := 7) (q0 := 4) (q := (RX1, TX1, 6)) rfl rfl) rfl rfl hl.1 rfl (lv_room (Nat.le_of_ble_eq_true rfl)) dX5_isTrue_24 ⟨Nat.le_of_ble_eq_true rfl, Nat.le_of_ble_eq_true rfl⟩) hP hD hS hA [4, 5, 6, 7, 8, 1] [0, 2, 3, 9] rfl rfl (by decide) (by decide) (fun u_4 H locs hw hP hD hS => ?_)
  have hP : va_P D vwCl [(h0, .inr (11, [.ref h1, .ref h2, .ref h3, .ref h4, .ref a1, .ref a2, .int 0])), (b3, .inl (cI, 10, .inl (fd))), (w5, .inl (cI, 10, .inl (ft))), (b1, .inl (cI, 10, .inl (u_2.2.2))), (h3, .inr (7, [.ref b1, .ref b2, .ref b3, .ref h5, .ref b4, .ref b5])), (h5, .inr (9, [.ref s1, .ref s2, .ref s3, .int 0, .ref s4, .ref s5, .ref s6])), (h1, .inr (8, [.int 0, .int 0, .ref w1, .ref w2, .ref w3, .ref w4, .ref w5])), (s2, .inl (cI, 10, .inl (u_4.1))), (s3, .inl (cI, 11, .inl (u_4.2.1))), (b2, .inl (cI, 10, .inl (u_4.2.2)))] H := hP
  have hD : va_D A [(h0, .inr (11, [.ref h1, .ref h2, .ref h3, .ref h4, .ref a1, .ref a2, .int 0])), (b3, .inl (cI, 10, .inl (fd))), (w5, .inl (cI, 10, .inl (ft))), (b1, .inl (cI, 10, .inl (u_2.2.2))), (h3, .inr (7, [.ref b1, .ref b2, .ref b3, .ref h5, .ref b4, .ref b5])), (h5, .inr (9, [.ref s1, .ref s2, .ref s3, .int 0, .ref s4, .ref s5, .ref s6])), (h1, .inr (8, [.int 0, .int 0, .ref w1, .ref w2, .ref w3, .ref w4, .ref w5])), (s2, .inl (cI, 10, .inl (u_4.1))), (s3, .inl (cI, 11, .inl (u_4.2.1))), (b2, .inl (cI, 10, .inl (u_4.2.2)))] := hD
  refine lv_aload_n hx hb dX5_isTrue_27 rfl (lv_at hl 1 rfl) ?_
  refine va_get (D := D) (ci := 11) (v := .ref h1) (C := RX5) (T := TX5) (N := 7) hx hb hts iX5_isTrue_X5 hown hK hP 0 rfl rfl 0 (by decide) (hts _ kX5_isTrue_2) (fun _ h9 => h9) rfl dX5_isTrue_28 ?_
  refine lv_aload_n hx hb dX5_isTrue_31 rfl (lv_at hl 1 rfl) ?_
  refine va_get (D := D) (ci := 11) (v := .ref a1) (C := RX5) (T := TX5) (N := 7) hx hb hts iX5_isTrue_X5 hown hK hP 0 rfl rfl 4 (by decide) (hts _ kX5_isTrue_3) (fun _ h9 => h9) rfl dX5_isTrue_32 ?_
  refine yc_i (wc := [(h1, .inr (8, [.int 0, .int 0, .ref w1, .ref w2, .ref w3, .ref w4, .ref w5])), (w5, .inl (cI, 10, .inl (ft)))]) (wr := [(h0, .inr (11, [.ref h1, .ref h2, .ref h3, .ref h4, .ref a1, .ref a2, .int 0])), (b3, .inl (cI, 10, .inl (fd))), (b1, .inl (cI, 10, .inl (u_2.2.2))), (h3, .inr (7, [.ref b1, .ref b2, .ref b3, .ref h5, .ref b4, .ref b5])), (h5, .inr (9, [.ref s1, .ref s2, .ref s3, .int 0, .ref s4, .ref s5, .ref s6])), (s2, .inl (cI, 10, .inl (u_4.1))), (s3, .inl (cI, 11, .inl (u_4.2.1))), (b2, .inl (cI, 10, .inl (u_4.2.2)))]) (va_runV (As := [.ref a1]) (rest := []) ⟨hx, hb, hml, hown, hts⟩ (f_allows l hfl D tE H.size h1 a1 w1 w2 w3 w4 w5 cI ft 0 (va_A [(h1, .inr (8, [.int 0, .int 0, .ref w1, .ref w2, .ref w3, .ref w4, .ref w5])), (w5, .inl (cI, 10, .inl (ft)))] H.size) rfl) (cwV 1 hts gX5_isTrue_X2_allows rfl rfl rfl (by decide +kernel) ⟨Nat.le_of_ble_eq_true rfl, Nat.le_of_ble_eq_true rfl⟩) (yPreV (wc := [(h1, .inr (8, [.int 0, .int 0, .ref w1, .ref w2, .ref w3, .ref w4, .ref w5])), (w5, .inl (cI, 10, .inl (ft)))]) (tc := [(cI, .int)]) hK hP hD hS hA hE [6, 2] [0] (by decide) rfl rfl (ci := 8) (q0 := 6) (q := (RX2, TX2, 7)) rfl rfl) rfl rfl hl.1 rfl (lv_room (Nat.le_of_ble_eq_true rfl)) dX5_isTrue_35 ⟨Nat.le_of_ble_eq_true rfl, Nat.le_of_ble_eq_true rfl⟩) hP hD hS hA [6, 2] [0, 1, 3, 4, 5, 7, 8, 9] rfl rfl (by decide) (by decide) (fun r_5 u_6 H locs hw hP hD hS => ?_)
  have hP : va_P D vwCl [(h0, .inr (11, [.ref h1, .ref h2, .ref h3, .ref h4, .ref a1, .ref a2, .int 0])), (b3, .inl (cI, 10, .inl (fd))), (b1, .inl (cI, 10, .inl (u_2.2.2))), (h3, .inr (7, [.ref b1, .ref b2, .ref b3, .ref h5, .ref b4, .ref b5])), (h5, .inr (9, [.ref s1, .ref s2, .ref s3, .int 0, .ref s4, .ref s5, .ref s6])), (s2, .inl (cI, 10, .inl (u_4.1))), (s3, .inl (cI, 11, .inl (u_4.2.1))), (b2, .inl (cI, 10, .inl (u_4.2.2))), (h1, .inr (8, [.int 0, .int 0, .ref w1, .ref w2, .ref w3, .ref w4, .ref w5])), (w5, .inl (cI, 10, .inl (u_6)))] H := hP
  have hD : va_D A [(h0, .inr (11, [.ref h1, .ref h2, .ref h3, .ref h4, .ref a1, .ref a2, .int 0])), (b3, .inl (cI, 10, .inl (fd))), (b1, .inl (cI, 10, .inl (u_2.2.2))), (h3, .inr (7, [.ref b1, .ref b2, .ref b3, .ref h5, .ref b4, .ref b5])), (h5, .inr (9, [.ref s1, .ref s2, .ref s3, .int 0, .ref s4, .ref s5, .ref s6])), (s2, .inl (cI, 10, .inl (u_4.1))), (s3, .inl (cI, 11, .inl (u_4.2.1))), (b2, .inl (cI, 10, .inl (u_4.2.2))), (h1, .inr (8, [.int 0, .int 0, .ref w1, .ref w2, .ref w3, .ref w4, .ref w5])), (w5, .inl (cI, 10, .inl (u_6)))] := hD
  have hw : r_5 = 1 := hw
  subst hw
  refine lv_if_eq (tgt := 120) hx hb dX5_isTrue_38 (by decide) (fun h => absurd h (by decide)) (fun _ => ?_)
  refine lv_aload_n hx hb dX5_isTrue_41 rfl (lv_at hl 1 rfl) ?_
  refine va_get (D := D) (ci := 11) (v := .ref h1) (C := RX5) (T := TX5) (N := 7) hx hb hts iX5_isTrue_X5 hown hK hP 0 rfl rfl 0 (by decide) (hts _ kX5_isTrue_2) (fun _ h9 => h9) rfl dX5_isTrue_42 ?_
  refine lv_aload_n hx hb dX5_isTrue_45 rfl (lv_at hl 1 rfl) ?_
  refine va_get (D := D) (ci := 11) (v := .ref h3) (C := RX5) (T := TX5) (N := 7) hx hb hts iX5_isTrue_X5 hown hK hP 0 rfl rfl 2 (by decide) (hts _ kX5_isTrue_1) (fun _ h9 => h9) rfl dX5_isTrue_46 ?_
  refine va_get (D := D) (ci := 7) (v := .ref b2) (C := RX1) (T := TX1) (N := 6) hx hb hts iX5_isTrue_X1 hown hK hP 3 rfl rfl 1 (by decide) (hts _ kX5_isTrue_4) (fun _ h9 => h9) rfl dX5_isTrue_49 ?_
  refine yc_i (wc := [(h1, .inr (8, [.int 0, .int 0, .ref w1, .ref w2, .ref w3, .ref w4, .ref w5])), (w5, .inl (cI, 10, .inl (u_6)))]) (wr := [(h0, .inr (11, [.ref h1, .ref h2, .ref h3, .ref h4, .ref a1, .ref a2, .int 0])), (b3, .inl (cI, 10, .inl (fd))), (b1, .inl (cI, 10, .inl (u_2.2.2))), (h3, .inr (7, [.ref b1, .ref b2, .ref b3, .ref h5, .ref b4, .ref b5])), (h5, .inr (9, [.ref s1, .ref s2, .ref s3, .int 0, .ref s4, .ref s5, .ref s6])), (s2, .inl (cI, 10, .inl (u_4.1))), (s3, .inl (cI, 11, .inl (u_4.2.1))), (b2, .inl (cI, 10, .inl (u_4.2.2)))]) (va_runV (As := [.ref b2]) (rest := []) ⟨hx, hb, hml, hown, hts⟩ (f_allows l hfl D tE H.size h1 b2 w1 w2 w3 w4 w5 cI u_6 0 (va_A [(h1, .inr (8, [.int 0, .int 0, .ref w1, .ref w2, .ref w3, .ref w4, .ref w5])), (w5, .inl (cI, 10, .inl (u_6)))] H.size) rfl) (cwV 1 hts gX5_isTrue_X2_allows rfl rfl rfl (by decide +kernel) ⟨Nat.le_of_ble_eq_true rfl, Nat.le_of_ble_eq_true rfl⟩) (yPreV (wc := [(h1, .inr (8, [.int 0, .int 0, .ref w1, .ref w2, .ref w3, .ref w4, .ref w5])), (w5, .inl (cI, 10, .inl (u_6)))]) (tc := [(cI, .int)]) hK hP hD hS hA hE [8, 9] [0] (by decide) rfl rfl (ci := 8) (q0 := 8) (q := (RX2, TX2, 7)) rfl rfl) rfl rfl hl.1 rfl (lv_room (Nat.le_of_ble_eq_true rfl)) dX5_isTrue_52 ⟨Nat.le_of_ble_eq_true rfl, Nat.le_of_ble_eq_true rfl⟩) hP hD hS hA [8, 9] [0, 1, 2, 3, 4, 5, 6, 7] rfl rfl (by decide) (by decide) (fun r_7 u_8 H locs hw hP hD hS => ?_)
  have hP : va_P D vwCl [(h0, .inr (11, [.ref h1, .ref h2, .ref h3, .ref h4, .ref a1, .ref a2, .int 0])), (b3, .inl (cI, 10, .inl (fd))), (b1, .inl (cI, 10, .inl (u_2.2.2))), (h3, .inr (7, [.ref b1, .ref b2, .ref b3, .ref h5, .ref b4, .ref b5])), (h5, .inr (9, [.ref s1, .ref s2, .ref s3, .int 0, .ref s4, .ref s5, .ref s6])), (s2, .inl (cI, 10, .inl (u_4.1))), (s3, .inl (cI, 11, .inl (u_4.2.1))), (b2, .inl (cI, 10, .inl (u_4.2.2))), (h1, .inr (8, [.int 0, .int 0, .ref w1, .ref w2, .ref w3, .ref w4, .ref w5])), (w5, .inl (cI, 10, .inl (u_8)))] H := hP
  have hD : va_D A [(h0, .inr (11, [.ref h1, .ref h2, .ref h3, .ref h4, .ref a1, .ref a2, .int 0])), (b3, .inl (cI, 10, .inl (fd))), (b1, .inl (cI, 10, .inl (u_2.2.2))), (h3, .inr (7, [.ref b1, .ref b2, .ref b3, .ref h5, .ref b4, .ref b5])), (h5, .inr (9, [.ref s1, .ref s2, .ref s3, .int 0, .ref s4, .ref s5, .ref s6])), (s2, .inl (cI, 10, .inl (u_4.1))), (s3, .inl (cI, 11, .inl (u_4.2.1))), (b2, .inl (cI, 10, .inl (u_4.2.2))), (h1, .inr (8, [.int 0, .int 0, .ref w1, .ref w2, .ref w3, .ref w4, .ref w5])), (w5, .inl (cI, 10, .inl (u_8)))] := hD
  have hw : r_7 = 1 := hw
  subst hw
  refine lv_if_eq (tgt := 120) hx hb dX5_isTrue_55 (by decide) (fun h => absurd h (by decide)) (fun _ => ?_)
  refine lv_aload_n hx hb dX5_isTrue_58 rfl (lv_at hl 1 rfl) ?_
  refine va_get (D := D) (ci := 11) (v := .ref h1) (C := RX5) (T := TX5) (N := 7) hx hb hts iX5_isTrue_X5 hown hK hP 0 rfl rfl 0 (by decide) (hts _ kX5_isTrue_2) (fun _ h9 => h9) rfl dX5_isTrue_59 ?_
  refine lv_aload_n hx hb dX5_isTrue_62 rfl (lv_at hl 1 rfl) ?_
  refine va_get (D := D) (ci := 11) (v := .ref h3) (C := RX5) (T := TX5) (N := 7) hx hb hts iX5_isTrue_X5 hown hK hP 0 rfl rfl 2 (by decide) (hts _ kX5_isTrue_1) (fun _ h9 => h9) rfl dX5_isTrue_63 ?_
  refine va_get (D := D) (ci := 7) (v := .ref b1) (C := RX1) (T := TX1) (N := 6) hx hb hts iX5_isTrue_X1 hown hK hP 3 rfl rfl 0 (by decide) (hts _ kX5_isTrue_5) (fun _ h9 => h9) rfl dX5_isTrue_66 ?_
  refine yc_i (wc := [(h1, .inr (8, [.int 0, .int 0, .ref w1, .ref w2, .ref w3, .ref w4, .ref w5])), (w5, .inl (cI, 10, .inl (u_8)))]) (wr := [(h0, .inr (11, [.ref h1, .ref h2, .ref h3, .ref h4, .ref a1, .ref a2, .int 0])), (b3, .inl (cI, 10, .inl (fd))), (b1, .inl (cI, 10, .inl (u_2.2.2))), (h3, .inr (7, [.ref b1, .ref b2, .ref b3, .ref h5, .ref b4, .ref b5])), (h5, .inr (9, [.ref s1, .ref s2, .ref s3, .int 0, .ref s4, .ref s5, .ref s6])), (s2, .inl (cI, 10, .inl (u_4.1))), (s3, .inl (cI, 11, .inl (u_4.2.1))), (b2, .inl (cI, 10, .inl (u_4.2.2)))]) (va_runV (As := [.ref b1]) (rest := []) ⟨hx, hb, hml, hown, hts⟩ (f_allows l hfl D tE H.size h1 b1 w1 w2 w3 w4 w5 cI u_8 0 (va_A [(h1, .inr (8, [.int 0, .int 0, .ref w1, .ref w2, .ref w3, .ref w4, .ref w5])), (w5, .inl (cI, 10, .inl (u_8)))] H.size) rfl) (cwV 1 hts gX5_isTrue_X2_allows rfl rfl rfl (by decide +kernel) ⟨Nat.le_of_ble_eq_true rfl, Nat.le_of_ble_eq_true rfl⟩) (yPreV (wc := [(h1, .inr (8, [.int 0, .int 0, .ref w1, .ref w2, .ref w3, .ref w4, .ref w5])), (w5, .inl (cI, 10, .inl (u_8)))]) (tc := [(cI, .int)]) hK hP hD hS hA hE [8, 9] [0] (by decide) rfl rfl (ci := 8) (q0 := 8) (q := (RX2, TX2, 7)) rfl rfl) rfl rfl hl.1 rfl (lv_room (Nat.le_of_ble_eq_true rfl)) dX5_isTrue_69 ⟨Nat.le_of_ble_eq_true rfl, Nat.le_of_ble_eq_true rfl⟩) hP hD hS hA [8, 9] [0, 1, 2, 3, 4, 5, 6, 7] rfl rfl (by decide) (by decide) (fun r_9 u_10 H locs hw hP hD hS => ?_)
  have hP : va_P D vwCl [(h0, .inr (11, [.ref h1, .ref h2, .ref h3, .ref h4, .ref a1, .ref a2, .int 0])), (b3, .inl (cI, 10, .inl (fd))), (b1, .inl (cI, 10, .inl (u_2.2.2))), (h3, .inr (7, [.ref b1, .ref b2, .ref b3, .ref h5, .ref b4, .ref b5])), (h5, .inr (9, [.ref s1, .ref s2, .ref s3, .int 0, .ref s4, .ref s5, .ref s6])), (s2, .inl (cI, 10, .inl (u_4.1))), (s3, .inl (cI, 11, .inl (u_4.2.1))), (b2, .inl (cI, 10, .inl (u_4.2.2))), (h1, .inr (8, [.int 0, .int 0, .ref w1, .ref w2, .ref w3, .ref w4, .ref w5])), (w5, .inl (cI, 10, .inl (u_10)))] H := hP
  have hD : va_D A [(h0, .inr (11, [.ref h1, .ref h2, .ref h3, .ref h4, .ref a1, .ref a2, .int 0])), (b3, .inl (cI, 10, .inl (fd))), (b1, .inl (cI, 10, .inl (u_2.2.2))), (h3, .inr (7, [.ref b1, .ref b2, .ref b3, .ref h5, .ref b4, .ref b5])), (h5, .inr (9, [.ref s1, .ref s2, .ref s3, .int 0, .ref s4, .ref s5, .ref s6])), (s2, .inl (cI, 10, .inl (u_4.1))), (s3, .inl (cI, 11, .inl (u_4.2.1))), (b2, .inl (cI, 10, .inl (u_4.2.2))), (h1, .inr (8, [.int 0, .int 0, .ref w1, .ref w2, .ref w3, .ref w4, .ref w5])), (w5, .inl (cI, 10, .inl (u_10)))] := hD
  have hw : r_9 = 1 := hw
  subst hw
  refine lv_if_eq (tgt := 120) hx hb dX5_isTrue_72 (by decide) (fun h => absurd h (by decide)) (fun _ => ?_)
  refine lv_aload_n hx hb dX5_isTrue_75 rfl (lv_at hl 1 rfl) ?_
  refine va_get (D := D) (ci := 11) (v := .ref h1) (C := RX5) (T := TX5) (N := 7) hx hb hts iX5_isTrue_X5 hown hK hP 0 rfl rfl 0 (by decide) (hts _ kX5_isTrue_2) (fun _ h9 => h9) rfl dX5_isTrue_76 ?_
  refine lv_aload_n hx hb dX5_isTrue_79 rfl (lv_at hl 1 rfl) ?_
  refine va_get (D := D) (ci := 11) (v := .ref h3) (C := RX5) (T := TX5) (N := 7) hx hb hts iX5_isTrue_X5 hown hK hP 0 rfl rfl 2 (by decide) (hts _ kX5_isTrue_1) (fun _ h9 => h9) rfl dX5_isTrue_80 ?_
  refine va_get (D := D) (ci := 7) (v := .ref b1) (C := RX1) (T := TX1) (N := 6) hx hb hts iX5_isTrue_X1 hown hK hP 3 rfl rfl 0 (by decide) (hts _ kX5_isTrue_5) (fun _ h9 => h9) rfl dX5_isTrue_83 ?_
  refine lv_aload_n hx hb dX5_isTrue_86 rfl (lv_at hl 1 rfl) ?_
  refine va_get (D := D) (ci := 11) (v := .ref a1) (C := RX5) (T := TX5) (N := 7) hx hb hts iX5_isTrue_X5 hown hK hP 0 rfl rfl 4 (by decide) (hts _ kX5_isTrue_3) (fun _ h9 => h9) rfl dX5_isTrue_87 ?_
  refine yc_i (wc := [(h1, .inr (8, [.int 0, .int 0, .ref w1, .ref w2, .ref w3, .ref w4, .ref w5]))]) (wr := [(h0, .inr (11, [.ref h1, .ref h2, .ref h3, .ref h4, .ref a1, .ref a2, .int 0])), (b3, .inl (cI, 10, .inl (fd))), (b1, .inl (cI, 10, .inl (u_2.2.2))), (h3, .inr (7, [.ref b1, .ref b2, .ref b3, .ref h5, .ref b4, .ref b5])), (h5, .inr (9, [.ref s1, .ref s2, .ref s3, .int 0, .ref s4, .ref s5, .ref s6])), (s2, .inl (cI, 10, .inl (u_4.1))), (s3, .inl (cI, 11, .inl (u_4.2.1))), (b2, .inl (cI, 10, .inl (u_4.2.2))), (w5, .inl (cI, 10, .inl (u_10)))]) (va_runV (As := [.ref b1, .ref a1]) (rest := []) ⟨hx, hb, hml, hown, hts⟩ (f_leadOf l hfl D tE H.size h1 w1 w2 w3 w4 w5 0 b1 a1 (va_A [(h1, .inr (8, [.int 0, .int 0, .ref w1, .ref w2, .ref w3, .ref w4, .ref w5]))] H.size) rfl) (cwV 2 hts gX5_isTrue_X2_leadOf rfl rfl rfl (by decide +kernel) ⟨Nat.le_of_ble_eq_true rfl, Nat.le_of_ble_eq_true rfl⟩) (yPreV (wc := [(h1, .inr (8, [.int 0, .int 0, .ref w1, .ref w2, .ref w3, .ref w4, .ref w5]))]) (tc := []) hK hP hD hS hA hE [8] [] (by decide) rfl rfl (ci := 8) (q0 := 8) (q := (RX2, TX2, 7)) rfl rfl) rfl rfl hl.1 rfl (lv_room (Nat.le_of_ble_eq_true rfl)) dX5_isTrue_90 ⟨Nat.le_of_ble_eq_true rfl, Nat.le_of_ble_eq_true rfl⟩) hP hD hS hA [8] [0, 1, 2, 3, 4, 5, 6, 7, 9] rfl rfl (by decide) (by decide) (fun r_11 u_12 H locs hw hP hD hS => ?_)
  have hP : va_P D vwCl [(h0, .inr (11, [.ref h1, .ref h2, .ref h3, .ref h4, .ref a1, .ref a2, .int 0])), (b3, .inl (cI, 10, .inl (fd))), (b1, .inl (cI, 10, .inl (u_2.2.2))), (h3, .inr (7, [.ref b1, .ref b2, .ref b3, .ref h5, .ref b4, .ref b5])), (h5, .inr (9, [.ref s1, .ref s2, .ref s3, .int 0, .ref s4, .ref s5, .ref s6])), (s2, .inl (cI, 10, .inl (u_4.1))), (s3, .inl (cI, 11, .inl (u_4.2.1))), (b2, .inl (cI, 10, .inl (u_4.2.2))), (w5, .inl (cI, 10, .inl (u_10))), (h1, .inr (8, [.int 0, .int 0, .ref w1, .ref w2, .ref w3, .ref w4, .ref w5]))] H := hP
  have hD : va_D A [(h0, .inr (11, [.ref h1, .ref h2, .ref h3, .ref h4, .ref a1, .ref a2, .int 0])), (b3, .inl (cI, 10, .inl (fd))), (b1, .inl (cI, 10, .inl (u_2.2.2))), (h3, .inr (7, [.ref b1, .ref b2, .ref b3, .ref h5, .ref b4, .ref b5])), (h5, .inr (9, [.ref s1, .ref s2, .ref s3, .int 0, .ref s4, .ref s5, .ref s6])), (s2, .inl (cI, 10, .inl (u_4.1))), (s3, .inl (cI, 11, .inl (u_4.2.1))), (b2, .inl (cI, 10, .inl (u_4.2.2))), (w5, .inl (cI, 10, .inl (u_10))), (h1, .inr (8, [.int 0, .int 0, .ref w1, .ref w2, .ref w3, .ref w4, .ref w5]))] := hD
  have hw : r_11 = 0 := hw
  subst hw
  refine lv_iload_n hx hb dX5_isTrue_93 rfl (lv_at hl 0 rfl) ?_
  refine lv_icmp_ne (tgt := 120) hx hb dX5_isTrue_94 (by decide) (fun h => absurd h (by decide)) (fun _ => ?_)
  refine lv_aload_n hx hb dX5_isTrue_97 rfl (lv_at hl 1 rfl) ?_
  refine lv_aload_n hx hb dX5_isTrue_98 rfl (lv_at hl 1 rfl) ?_
  refine va_get (D := D) (ci := 11) (v := .ref a1) (C := RX5) (T := TX5) (N := 7) hx hb hts iX5_isTrue_X5 hown hK hP 0 rfl rfl 4 (by decide) (hts _ kX5_isTrue_3) (fun _ h9 => h9) rfl dX5_isTrue_99 ?_
  refine yc_i (wc := [(h0, .inr (11, [.ref h1, .ref h2, .ref h3, .ref h4, .ref a1, .ref a2, .int 0]))]) (wr := [(b3, .inl (cI, 10, .inl (fd))), (b1, .inl (cI, 10, .inl (u_2.2.2))), (h3, .inr (7, [.ref b1, .ref b2, .ref b3, .ref h5, .ref b4, .ref b5])), (h5, .inr (9, [.ref s1, .ref s2, .ref s3, .int 0, .ref s4, .ref s5, .ref s6])), (s2, .inl (cI, 10, .inl (u_4.1))), (s3, .inl (cI, 11, .inl (u_4.2.1))), (b2, .inl (cI, 10, .inl (u_4.2.2))), (w5, .inl (cI, 10, .inl (u_10))), (h1, .inr (8, [.int 0, .int 0, .ref w1, .ref w2, .ref w3, .ref w4, .ref w5]))]) (va_runV (As := [.ref a1]) (rest := []) ⟨hx, hb, hml, hown, hts⟩ (f_greatestKeptLead l hfl D tE H.size h0 h1 h2 h3 h4 a1 a2 a1 (va_A [(h0, .inr (11, [.ref h1, .ref h2, .ref h3, .ref h4, .ref a1, .ref a2, .int 0]))] H.size) rfl) (cwV 1 hts gX5_isTrue_X5_greatestKeptLead rfl rfl rfl (by decide +kernel) ⟨Nat.le_of_ble_eq_true rfl, Nat.le_of_ble_eq_true rfl⟩) (yPreV (wc := [(h0, .inr (11, [.ref h1, .ref h2, .ref h3, .ref h4, .ref a1, .ref a2, .int 0]))]) (tc := []) hK hP hD hS hA hE [0] [] (by decide) rfl rfl (ci := 11) (q0 := 0) (q := (RX5, TX5, 7)) rfl rfl) rfl rfl hl.1 rfl (lv_room (Nat.le_of_ble_eq_true rfl)) dX5_isTrue_102 ⟨Nat.le_of_ble_eq_true rfl, Nat.le_of_ble_eq_true rfl⟩) hP hD hS hA [0] [1, 2, 3, 4, 5, 6, 7, 8, 9] rfl rfl (by decide) (by decide) (fun r_13 u_14 H locs hw hP hD hS => ?_)
  have hP : va_P D vwCl [(b3, .inl (cI, 10, .inl (fd))), (b1, .inl (cI, 10, .inl (u_2.2.2))), (h3, .inr (7, [.ref b1, .ref b2, .ref b3, .ref h5, .ref b4, .ref b5])), (h5, .inr (9, [.ref s1, .ref s2, .ref s3, .int 0, .ref s4, .ref s5, .ref s6])), (s2, .inl (cI, 10, .inl (u_4.1))), (s3, .inl (cI, 11, .inl (u_4.2.1))), (b2, .inl (cI, 10, .inl (u_4.2.2))), (w5, .inl (cI, 10, .inl (u_10))), (h1, .inr (8, [.int 0, .int 0, .ref w1, .ref w2, .ref w3, .ref w4, .ref w5])), (h0, .inr (11, [.ref h1, .ref h2, .ref h3, .ref h4, .ref a1, .ref a2, .int 0]))] H := hP
  have hD : va_D A [(b3, .inl (cI, 10, .inl (fd))), (b1, .inl (cI, 10, .inl (u_2.2.2))), (h3, .inr (7, [.ref b1, .ref b2, .ref b3, .ref h5, .ref b4, .ref b5])), (h5, .inr (9, [.ref s1, .ref s2, .ref s3, .int 0, .ref s4, .ref s5, .ref s6])), (s2, .inl (cI, 10, .inl (u_4.1))), (s3, .inl (cI, 11, .inl (u_4.2.1))), (b2, .inl (cI, 10, .inl (u_4.2.2))), (w5, .inl (cI, 10, .inl (u_10))), (h1, .inr (8, [.int 0, .int 0, .ref w1, .ref w2, .ref w3, .ref w4, .ref w5])), (h0, .inr (11, [.ref h1, .ref h2, .ref h3, .ref h4, .ref a1, .ref a2, .int 0]))] := hD
  have hw : r_13 = 0 := hw
  subst hw
  refine lv_iload_n hx hb dX5_isTrue_105 rfl (lv_at hl 0 rfl) ?_
  refine lv_icmp_gt (tgt := 120) hx hb dX5_isTrue_106 (by decide) (fun h => absurd h (by decide)) (fun _ => ?_)
  refine lv_aload_n hx hb dX5_isTrue_109 rfl (lv_at hl 1 rfl) ?_
  refine yc_i (wc := [(h0, .inr (11, [.ref h1, .ref h2, .ref h3, .ref h4, .ref a1, .ref a2, .int 0])), (h3, .inr (7, [.ref b1, .ref b2, .ref b3, .ref h5, .ref b4, .ref b5])), (h5, .inr (9, [.ref s1, .ref s2, .ref s3, .int 0, .ref s4, .ref s5, .ref s6])), (h1, .inr (8, [.int 0, .int 0, .ref w1, .ref w2, .ref w3, .ref w4, .ref w5])), (s2, .inl (cI, 10, .inl (u_4.1))), (s3, .inl (cI, 11, .inl (u_4.2.1))), (b3, .inl (cI, 10, .inl (fd)))]) (wr := [(b1, .inl (cI, 10, .inl (u_2.2.2))), (b2, .inl (cI, 10, .inl (u_4.2.2))), (w5, .inl (cI, 10, .inl (u_10)))]) (va_runV (As := []) (rest := []) ⟨hx, hb, hml, hown, hts⟩ (f_popularHolds l hfl D tE H.size h0 h1 h2 h3 h4 a1 a2 b1 b2 b3 h5 b4 b5 w1 w2 w3 w4 w5 s1 s2 s3 s4 s5 s6 cI (u_4.1) (u_4.2.1) fd 0 (va_A [(h0, .inr (11, [.ref h1, .ref h2, .ref h3, .ref h4, .ref a1, .ref a2, .int 0])), (h3, .inr (7, [.ref b1, .ref b2, .ref b3, .ref h5, .ref b4, .ref b5])), (h5, .inr (9, [.ref s1, .ref s2, .ref s3, .int 0, .ref s4, .ref s5, .ref s6])), (h1, .inr (8, [.int 0, .int 0, .ref w1, .ref w2, .ref w3, .ref w4, .ref w5])), (s2, .inl (cI, 10, .inl (u_4.1))), (s3, .inl (cI, 11, .inl (u_4.2.1))), (b3, .inl (cI, 10, .inl (fd)))] H.size) rfl) (cwV 0 hts gX5_isTrue_X5_popularHolds rfl rfl rfl (by decide +kernel) ⟨Nat.le_of_ble_eq_true rfl, Nat.le_of_ble_eq_true rfl⟩) (yPreV (wc := [(h0, .inr (11, [.ref h1, .ref h2, .ref h3, .ref h4, .ref a1, .ref a2, .int 0])), (h3, .inr (7, [.ref b1, .ref b2, .ref b3, .ref h5, .ref b4, .ref b5])), (h5, .inr (9, [.ref s1, .ref s2, .ref s3, .int 0, .ref s4, .ref s5, .ref s6])), (h1, .inr (8, [.int 0, .int 0, .ref w1, .ref w2, .ref w3, .ref w4, .ref w5])), (s2, .inl (cI, 10, .inl (u_4.1))), (s3, .inl (cI, 11, .inl (u_4.2.1))), (b3, .inl (cI, 10, .inl (fd)))]) (tc := [(cI, .int)]) hK hP hD hS hA hE [9, 2, 3, 8, 4, 5, 0] [0] (by decide) rfl rfl (ci := 11) (q0 := 9) (q := (RX5, TX5, 7)) rfl rfl) rfl rfl hl.1 rfl (lv_room (Nat.le_of_ble_eq_true rfl)) dX5_isTrue_110 ⟨Nat.le_of_ble_eq_true rfl, Nat.le_of_ble_eq_true rfl⟩) hP hD hS hA [9, 2, 3, 8, 4, 5, 0] [1, 6, 7] rfl rfl (by decide) (by decide) (fun r_15 u_16 H locs hw hP hD hS => ?_)
  have hP : va_P D vwCl [(b1, .inl (cI, 10, .inl (u_2.2.2))), (b2, .inl (cI, 10, .inl (u_4.2.2))), (w5, .inl (cI, 10, .inl (u_10))), (h0, .inr (11, [.ref h1, .ref h2, .ref h3, .ref h4, .ref a1, .ref a2, .int 0])), (h3, .inr (7, [.ref b1, .ref b2, .ref b3, .ref h5, .ref b4, .ref b5])), (h5, .inr (9, [.ref s1, .ref s2, .ref s3, .int 0, .ref s4, .ref s5, .ref s6])), (h1, .inr (8, [.int 0, .int 0, .ref w1, .ref w2, .ref w3, .ref w4, .ref w5])), (s2, .inl (cI, 10, .inl (u_16.1))), (s3, .inl (cI, 11, .inl (u_16.2.1))), (b3, .inl (cI, 10, .inl (u_16.2.2)))] H := hP
  have hD : va_D A [(b1, .inl (cI, 10, .inl (u_2.2.2))), (b2, .inl (cI, 10, .inl (u_4.2.2))), (w5, .inl (cI, 10, .inl (u_10))), (h0, .inr (11, [.ref h1, .ref h2, .ref h3, .ref h4, .ref a1, .ref a2, .int 0])), (h3, .inr (7, [.ref b1, .ref b2, .ref b3, .ref h5, .ref b4, .ref b5])), (h5, .inr (9, [.ref s1, .ref s2, .ref s3, .int 0, .ref s4, .ref s5, .ref s6])), (h1, .inr (8, [.int 0, .int 0, .ref w1, .ref w2, .ref w3, .ref w4, .ref w5])), (s2, .inl (cI, 10, .inl (u_16.1))), (s3, .inl (cI, 11, .inl (u_16.2.1))), (b3, .inl (cI, 10, .inl (u_16.2.2)))] := hD
  have hw : r_15 = 1 := hw
  subst hw
  refine lv_if_eq (tgt := 120) hx hb dX5_isTrue_113 (by decide) (fun h => absurd h (by decide)) (fun _ => ?_)
  refine lv_iconst (v := (1)) hx hb dX5_isTrue_116 (by decide) ?_
  refine lv_goto (tgt := 121) hx hb dX5_isTrue_117 (by decide) ?_
  exact y_zret hx hb hr hlocks (by decide) () rfl (hP.sub [] rfl) (hD.sub [] (by decide) rfl) hS (Nat.le_of_ble_eq_true rfl) (Nat.le_of_ble_eq_true rfl) dX5_isTrue_121
