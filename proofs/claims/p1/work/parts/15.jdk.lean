
set_option maxHeartbeats 4000000 in
set_option maxRecDepth 100000 in
theorem g_fill (l : Launch) (hfl : l.stackTraces = false) (D : va_G) (tE : Nat) (sz : Nat) (a0 : Nat) (cI : ClassId) (n : Nat) (hn : n < 2 ^ 31) (f : Nat → Int32) (v : Int32) (A : Nat → Prop) (hA0 : A = va_A [(a0, .inl (cI, n, .inl (f)))] sz) : Met l yJ7_fill_53178 wsJ7_fill_53178 (yR 0 0 0) (yP D tE [(a0, .inl (cI, n, .inl (f)))] [(cI, .int)] sz [.ref a0, .int v]) (va_Qv (S := Nat → Int32) (fun (u : Nat → Int32) => True) (fun (u : Nat → Int32) (t : State) => yB D A ((fun (u : Nat → Int32) => [(a0, .inl (cI, n, .inl (u)))]) u) t) A) 0 0 A := by
  refine Met.ofW (cc := cJ7_fill_53178) (maxL := 4) (ret := none) (by decide) rfl ?_
  intro p e s m args below meth c s₁ B hml hv
  obtain ⟨rfl, rfl, hP, hK, hD, hE, hA⟩ := y_start hA0 hv
  have hx := B.exec
  have hb := B.bytes
  have hr := B.returns
  have hts := atoms_spec (ws := wsJ7_fill_53178) B.pre
  have hown : s.vm.findClass RJ7 = some m.cls := findClass_of_methodNamed B.named
  have hlocks := B.notSynchronized
  clear hA0 hv
  have hS : va_S A s.heap s.heap [] := va_S.rf
  have hl := lv_entry ([.ref a0, .int v]) (n := 4) (Nat.le_of_ble_eq_true rfl)
  rw [lg_entry_eq]
  generalize (lg_sl ([.ref a0, .int v]) ++ List.replicate (4 - (lg_sl ([.ref a0, .int v])).length) Slot.unset).toArray = ls at hl ⊢
  have hl : lv_has ls 4 [(0, .ref a0), (1, .int v)] := hl
  refine lv_iconst (v := (0)) hx hb dJ7_fill_53178_0 (by decide) ?_
  refine lv_istore_n (lv' := [(2, .int 0), (0, .ref a0), (1, .int v)]) hx hb dJ7_fill_53178_1 rfl hl (by decide) rfl (fun ls hl => ?_)
  refine lv_aload_n hx hb dJ7_fill_53178_2 rfl (lv_at hl 1 rfl) ?_
  refine va_alen (v := nI n) hx hb hK hP 0 0 rfl rfl rfl dJ7_fill_53178_3 ?_
  refine lv_istore_n (lv' := [(3, .int (nI n)), (2, .int 0), (0, .ref a0), (1, .int v)]) hx hb dJ7_fill_53178_4 rfl hl (by decide) rfl (fun ls hl => ?_)
  have key : ∀ (N k : Nat) (x : Int32) (g : Nat → Int32) (H : Heap) (locs : List Loc) (ls : Array Slot), k ≤ n → n < k + N → x = nI k → va_P D vwCl [(a0, .inl (cI, n, .inl (g)))] H → va_D A [(a0, .inl (cI, n, .inl (g)))] → va_S A s.heap H locs → lv_has ls 4 [(3, .int (nI n)), (2, .int x), (0, .ref a0), (1, .int v)] → W p l e (headSpec wsJ7_fill_53178 (yR 0 0 0)).room s m ([.ref a0, .int v] : List Value).toArray below meth c H locs 0 0 (MQ below (va_Qv (S := Nat → Int32) (fun (u : Nat → Int32) => True) (fun (u : Nat → Int32) (t : State) => yB D A ((fun (u : Nat → Int32) => [(a0, .inl (cI, n, .inl (u)))]) u) t) A) ([.ref a0, .int v] : List Value).toArray s 0 0 A) (F0 m 5 ls []) := by
    intro N
    induction N with
    | zero =>
      intro k x g H locs ls h1 h2
      exact absurd h2 (by omega)
    | succ N ih =>
      intro k x g H locs ls h1 h2 hx9 hP hD hS hl
      refine lv_iload_n hx hb dJ7_fill_53178_5 rfl (lv_at hl 1 rfl) ?_
      refine lv_iload_n hx hb dJ7_fill_53178_6 rfl (lv_at hl 0 rfl) ?_
      refine lv_icmp_ge (tgt := 20) hx hb dJ7_fill_53178_7 (by decide) (fun c_1 => ?_) (fun c_1 => ?_)
      · exact y_vret hx hb hr hlocks g trivial hP hD hS (Nat.le_of_ble_eq_true rfl) (Nat.le_of_ble_eq_true rfl) dJ7_fill_53178_20
      · have hlt : k < n := by
          rcases Nat.lt_or_ge k n with q | q
          · exact q
          · exact absurd (by rw [hx9]; exact nI_le q (by omega)) c_1
        have hi9 : vp_in x n := by rw [hx9]; exact vp_in_nI hlt hn
        refine lv_aload_n hx hb dJ7_fill_53178_10 rfl (lv_at hl 2 rfl) ?_
        refine lv_iload_n hx hb dJ7_fill_53178_11 rfl (lv_at hl 1 rfl) ?_
        refine lv_iload_n hx hb dJ7_fill_53178_12 rfl (lv_at hl 3 rfl) ?_
        refine va_iast hx hb hK hP hD hS 0 0 rfl rfl hi9 dJ7_fill_53178_13 (fun H locs hP hD hS => ?_)
        obtain ⟨f_2, ef_2⟩ : ∃ g9, g9 = upd g x.toNatClampNeg v := ⟨_, rfl⟩
        have hP : va_P D vwCl [(a0, .inl (cI, n, .inl (f_2)))] H := by rw [ef_2]; exact hP
        have hD : va_D A [(a0, .inl (cI, n, .inl (f_2)))] := by rw [ef_2]; exact hD
        obtain ⟨x_3, ex_3⟩ : ∃ y : Int32, y = x + Int32.ofInt (1) := ⟨_, rfl⟩
        refine lv_iinc (v := x_3) (lv' := [(2, .int x_3), (3, .int (nI n)), (0, .ref a0), (1, .int v)]) hx hb dJ7_fill_53178_14 hl (k := 1) rfl (by rw [ex_3]) (by decide) rfl (fun ls hl => ?_)
        refine lv_goto (tgt := 5) hx hb dJ7_fill_53178_17 (by decide) ?_
        exact ih (k + 1) _ _ _ _ _ (by omega) (by omega) (by rw [ex_3, hx9]; exact nI_1 k) hP hD hS (lv_sub hl [1, 0, 2, 3] rfl)
  exact key (n + 1) 0 0 f _ _ ls (Nat.zero_le _) (by omega) nI_0.symm hP hD hS (lv_sub hl [0, 1, 2, 3] rfl)
