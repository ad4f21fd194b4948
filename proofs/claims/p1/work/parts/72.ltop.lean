set_option maxHeartbeats 4000000 in
set_option maxRecDepth 100000 in
/-- the loop, on four ints -/
theorem yl_loop {p : Program} {l : Launch} {e : Env} {s : State} {m : MethodId} {below : List Frame} {meth : Method} {c : Code} {D : va_G} {tE b : Nat} {xs : Nat → Int32} {A : Nat → Prop} {h0 : Nat} {h1 : Nat} {h2 : Nat} {h3 : Nat} {h4 : Nat} {a1 : Nat} {a2 : Nat} {w1 : Nat} {w2 : Nat} {w3 : Nat} {w4 : Nat} {w5 : Nat} {t1 : Nat} {t2 : Nat} {b1 : Nat} {b2 : Nat} {b3 : Nat} {h5 : Nat} {b4 : Nat} {b5 : Nat} {s1 : Nat} {s2 : Nat} {s3 : Nat} {s4 : Nat} {s5 : Nat} {s6 : Nat} {g1 : Nat} {g2 : Nat} {k0 : Nat} {m0 : Nat} {m1 : Nat} {m2 : Nat} {m3 : Nat} {m4 : Nat} {m5 : Nat} {m6 : Nat} {v0 : Nat} {o1 : Nat} {o2 : Nat} {cI : ClassId} {cC : ClassId} {cB : ClassId} {cO : ClassId} {cK : ClassId} {cJ : ClassId} {cF : ClassId} {fw1 : Nat → Int32} {fw2 : Nat → Int32} {fw5 : Nat → Int32} {ft2 : Nat → Int32} {fb1 : Nat → Int32} {fb2 : Nat → Int32} {fb3 : Nat → Int32} {fs2 : Nat → Int32} {fs3 : Nat → Int32} {fh : Nat → Int32} {fk : Nat → Int32} {fm1 : Nat → Int32} {fm2 : Nat → Int32} {fm3 : Nat → Int32} {fv : Nat → Int32} {fK : Nat → Option Nat} {fo : Nat → Int64} {fd : Nat → UInt64} {H : Heap} {locs : List Loc} {ls : Array Slot} (C0 : yLw p l s m meth c tE b xs A) (hf : fK 0 = some k0) (hK : va_K D vwCl [(cI, .int), (cC, .char), (cB, .byte), (cO, .object "java/lang/Object"), (cK, .array .int), (cJ, .long), (cF, .double)] s) (hP : va_P D vwCl [(h0, .inr (11, [.ref h1, .ref h2, .ref h3, .ref h4, .ref a1, .ref a2, .int 0])), (h1, .inr (8, [.int 0, .int 0, .ref w1, .ref w2, .ref w3, .ref w4, .ref w5])), (w1, .inl (cI, 10, .inl (fw1))), (w2, .inl (cI, 10, .inl (fw2))), (w5, .inl (cI, 10, .inl (fw5))), (h2, .inr (10, [.int 0, .ref t1, .ref t2])), (t2, .inl (cC, 20, .inl (ft2))), (h3, .inr (7, [.ref b1, .ref b2, .ref b3, .ref h5, .ref b4, .ref b5])), (b1, .inl (cI, 10, .inl (fb1))), (b2, .inl (cI, 10, .inl (fb2))), (b3, .inl (cI, 10, .inl (fb3))), (h5, .inr (9, [.ref s1, .ref s2, .ref s3, .int 0, .ref s4, .ref s5, .ref s6])), (s2, .inl (cI, 10, .inl (fs2))), (s3, .inl (cI, 11, .inl (fs3))), (h4, .inr (6, [.int 0, .ref g1, .ref g2])), (a1, .inl (cI, 10, .inl (fh))), (a2, .inl (cK, 10, .inr (.inr (.inr (.inr (fK)))))), (k0, .inl (cI, 10, .inl (fk))), (m0, .inr (12, [.ref m1, .ref m2, .ref m3, .ref m4, .ref m5, .ref m6, .int 0, .int 0, .int 0])), (m1, .inl (cI, 10, .inl (fm1))), (m2, .inl (cI, 10, .inl (fm2))), (m3, .inl (cI, 10, .inl (fm3))), (m5, .inr (5, [.int 0, .ref tE, .int 0])), (m6, .inr (1, [.ref v0, .int 0, .int 0, .int 0])), (v0, .inl (cB, 16, .inl (fv))), (o1, .inl (cJ, 1, .inr (.inl (fo)))), (o2, .inl (cF, 1, .inr (.inr (.inr (.inl (fd))))))] H) (hD : va_D A [(h0, .inr (11, [.ref h1, .ref h2, .ref h3, .ref h4, .ref a1, .ref a2, .int 0])), (h1, .inr (8, [.int 0, .int 0, .ref w1, .ref w2, .ref w3, .ref w4, .ref w5])), (w1, .inl (cI, 10, .inl (fw1))), (w2, .inl (cI, 10, .inl (fw2))), (w5, .inl (cI, 10, .inl (fw5))), (h2, .inr (10, [.int 0, .ref t1, .ref t2])), (t2, .inl (cC, 20, .inl (ft2))), (h3, .inr (7, [.ref b1, .ref b2, .ref b3, .ref h5, .ref b4, .ref b5])), (b1, .inl (cI, 10, .inl (fb1))), (b2, .inl (cI, 10, .inl (fb2))), (b3, .inl (cI, 10, .inl (fb3))), (h5, .inr (9, [.ref s1, .ref s2, .ref s3, .int 0, .ref s4, .ref s5, .ref s6])), (s2, .inl (cI, 10, .inl (fs2))), (s3, .inl (cI, 11, .inl (fs3))), (h4, .inr (6, [.int 0, .ref g1, .ref g2])), (a1, .inl (cI, 10, .inl (fh))), (a2, .inl (cK, 10, .inr (.inr (.inr (.inr (fK)))))), (k0, .inl (cI, 10, .inl (fk))), (m0, .inr (12, [.ref m1, .ref m2, .ref m3, .ref m4, .ref m5, .ref m6, .int 0, .int 0, .int 0])), (m1, .inl (cI, 10, .inl (fm1))), (m2, .inl (cI, 10, .inl (fm2))), (m3, .inl (cI, 10, .inl (fm3))), (m5, .inr (5, [.int 0, .ref tE, .int 0])), (m6, .inr (1, [.ref v0, .int 0, .int 0, .int 0])), (v0, .inl (cB, 16, .inl (fv))), (o1, .inl (cJ, 1, .inr (.inl (fo)))), (o2, .inl (cF, 1, .inr (.inr (.inr (.inl (fd))))))]) (hS : va_S A s.heap H locs) (hl : lv_has ls 9 [(5, .int 0), (4, .ref o2), (3, .ref o1), (2, .ref m0), (1, .ref h0), (0, .ref b)]) :
    W p l e room_1 s m #[Value.ref b] below meth c H locs 100 1000 (lw_Z below #[Value.ref b] s) (F0 m 28 ls []) := by
  obtain ⟨hx, hb, hr, hml, hown, hts, hX, hbl, hlocks, hE, hA0, hfl⟩ := id C0
  have hbA : ¬ A b := by rw [hA0]; exact Nat.not_le.mpr hbl
  refine lv_iload hx hb dL_law_28 (lv_at hl 0 rfl) ?_
  refine lv_aload_n hx hb dL_law_30 rfl (lv_at hl 5 rfl) ?_
  refine va_slen hx hb hX hbl hbA hS dL_law_31 ?_
  refine lv_iconst (v := 4) hx hb dL_law_32 (by decide) ?_
  refine lv_isub hx hb dL_law_33 ?_
  refine lv_icmp_gt (tgt := 2347) hx hb dL_law_34 (by decide) (fun h => absurd h (by decide)) (fun _ => ?_)
  refine lv_aload_n hx hb dL_law_37 rfl (lv_at hl 5 rfl) ?_
  refine lv_iload hx hb dL_law_38 (lv_at hl 0 rfl) ?_
  refine va_sld hx hb hX hbl hbA hS (by unfold vp_in; decide) dL_law_40 ?_
  refine lv_bipush (v := (63)) hx hb dL_law_41 (by decide) ?_
  refine lv_iand hx hb dL_law_43 ?_
  refine lv_topi (fun x ex => ?_)
  clear ex
  rcases (show (x.toInt < 0 ∨ 39 < x.toInt) ∨ x.toInt = 0 ∨ x.toInt = 1 ∨ x.toInt = 2 ∨ x.toInt = 3 ∨ x.toInt = 4 ∨ x.toInt = 5 ∨ x.toInt = 6 ∨ x.toInt = 7 ∨ x.toInt = 8 ∨ x.toInt = 9 ∨ x.toInt = 10 ∨ x.toInt = 11 ∨ x.toInt = 12 ∨ x.toInt = 13 ∨ x.toInt = 14 ∨ x.toInt = 15 ∨ x.toInt = 16 ∨ x.toInt = 17 ∨ x.toInt = 18 ∨ x.toInt = 19 ∨ x.toInt = 20 ∨ x.toInt = 21 ∨ x.toInt = 22 ∨ x.toInt = 23 ∨ x.toInt = 24 ∨ x.toInt = 25 ∨ x.toInt = 26 ∨ x.toInt = 27 ∨ x.toInt = 28 ∨ x.toInt = 29 ∨ x.toInt = 30 ∨ x.toInt = 31 ∨ x.toInt = 32 ∨ x.toInt = 33 ∨ x.toInt = 34 ∨ x.toInt = 35 ∨ x.toInt = 36 ∨ x.toInt = 37 ∨ x.toInt = 38 ∨ x.toInt = 39 by omega) with h | h | h | h | h | h | h | h | h | h | h | h | h | h | h | h | h | h | h | h | h | h | h | h | h | h | h | h | h | h | h | h | h | h | h | h | h | h | h | h | h
  · refine lv_tableOut (tgt := 2341) hx hb dL_law_44 h (by decide) ?_
    exact yl_end C0 hS (lv_sub hl [5, 0] rfl) (Nat.le_of_ble_eq_true rfl) (Nat.le_of_ble_eq_true rfl)
  · refine lv_tableIn (off := 176) (tgt := 220) hx hb dL_law_44 (by rw [h]; decide) (by rw [h]; decide) (by rw [h]; rfl) (by decide) ?_
    exact ylc_0 C0 hf hK hP hD hS hl
  · refine lv_tableIn (off := 232) (tgt := 276) hx hb dL_law_44 (by rw [h]; decide) (by rw [h]; decide) (by rw [h]; rfl) (by decide) ?_
    exact ylc_1 C0 hf hK hP hD hS hl
  · refine lv_tableIn (off := 288) (tgt := 332) hx hb dL_law_44 (by rw [h]; decide) (by rw [h]; decide) (by rw [h]; rfl) (by decide) ?_
    exact ylc_2 C0 hf hK hP hD hS hl
  · refine lv_tableIn (off := 356) (tgt := 400) hx hb dL_law_44 (by rw [h]; decide) (by rw [h]; decide) (by rw [h]; rfl) (by decide) ?_
    exact ylc_3 C0 hf hK hP hD hS hl
  · refine lv_tableIn (off := 424) (tgt := 468) hx hb dL_law_44 (by rw [h]; decide) (by rw [h]; decide) (by rw [h]; rfl) (by decide) ?_
    exact ylc_4 C0 hf hK hP hD hS hl
  · refine lv_tableIn (off := 504) (tgt := 548) hx hb dL_law_44 (by rw [h]; decide) (by rw [h]; decide) (by rw [h]; rfl) (by decide) ?_
    exact ylc_5 C0 hf hK hP hD hS hl
  · refine lv_tableIn (off := 572) (tgt := 616) hx hb dL_law_44 (by rw [h]; decide) (by rw [h]; decide) (by rw [h]; rfl) (by decide) ?_
    exact ylc_6 C0 hf hK hP hD hS hl
  · refine lv_tableIn (off := 630) (tgt := 674) hx hb dL_law_44 (by rw [h]; decide) (by rw [h]; decide) (by rw [h]; rfl) (by decide) ?_
    exact ylc_7 C0 hf hK hP hD hS hl
  · refine lv_tableIn (off := 643) (tgt := 687) hx hb dL_law_44 (by rw [h]; decide) (by rw [h]; decide) (by rw [h]; rfl) (by decide) ?_
    exact ylc_8 C0 hf hK hP hD hS hl
  · refine lv_tableIn (off := 699) (tgt := 743) hx hb dL_law_44 (by rw [h]; decide) (by rw [h]; decide) (by rw [h]; rfl) (by decide) ?_
    exact ylc_9 C0 hf hK hP hD hS hl
  · refine lv_tableIn (off := 755) (tgt := 799) hx hb dL_law_44 (by rw [h]; decide) (by rw [h]; decide) (by rw [h]; rfl) (by decide) ?_
    exact ylc_10 C0 hf hK hP hD hS hl
  · refine lv_tableIn (off := 823) (tgt := 867) hx hb dL_law_44 (by rw [h]; decide) (by rw [h]; decide) (by rw [h]; rfl) (by decide) ?_
    exact ylc_11 C0 hf hK hP hD hS hl
  · refine lv_tableIn (off := 891) (tgt := 935) hx hb dL_law_44 (by rw [h]; decide) (by rw [h]; decide) (by rw [h]; rfl) (by decide) ?_
    exact ylc_12 C0 hf hK hP hD hS hl
  · refine lv_tableIn (off := 947) (tgt := 991) hx hb dL_law_44 (by rw [h]; decide) (by rw [h]; decide) (by rw [h]; rfl) (by decide) ?_
    exact ylc_13 C0 hf hK hP hD hS hl
  · refine lv_tableIn (off := 1003) (tgt := 1047) hx hb dL_law_44 (by rw [h]; decide) (by rw [h]; decide) (by rw [h]; rfl) (by decide) ?_
    exact ylc_14 C0 hf hK hP hD hS hl
  · refine lv_tableIn (off := 1059) (tgt := 1103) hx hb dL_law_44 (by rw [h]; decide) (by rw [h]; decide) (by rw [h]; rfl) (by decide) ?_
    exact ylc_15 C0 hf hK hP hD hS hl
  · refine lv_tableIn (off := 1103) (tgt := 1147) hx hb dL_law_44 (by rw [h]; decide) (by rw [h]; decide) (by rw [h]; rfl) (by decide) ?_
    exact ylc_16 C0 hf hK hP hD hS hl
  · refine lv_tableIn (off := 1159) (tgt := 1203) hx hb dL_law_44 (by rw [h]; decide) (by rw [h]; decide) (by rw [h]; rfl) (by decide) ?_
    exact ylc_17 C0 hf hK hP hD hS hl
  · refine lv_tableIn (off := 1227) (tgt := 1271) hx hb dL_law_44 (by rw [h]; decide) (by rw [h]; decide) (by rw [h]; rfl) (by decide) ?_
    exact ylc_18 C0 hf hK hP hD hS hl
  · refine lv_tableIn (off := 1295) (tgt := 1339) hx hb dL_law_44 (by rw [h]; decide) (by rw [h]; decide) (by rw [h]; rfl) (by decide) ?_
    exact ylc_19 C0 hf hK hP hD hS hl
  · refine lv_tableIn (off := 1363) (tgt := 1407) hx hb dL_law_44 (by rw [h]; decide) (by rw [h]; decide) (by rw [h]; rfl) (by decide) ?_
    exact ylc_20 C0 hf hK hP hD hS hl
  · refine lv_tableIn (off := 1431) (tgt := 1475) hx hb dL_law_44 (by rw [h]; decide) (by rw [h]; decide) (by rw [h]; rfl) (by decide) ?_
    exact ylc_21 C0 hf hK hP hD hS hl
  · refine lv_tableIn (off := 1475) (tgt := 1519) hx hb dL_law_44 (by rw [h]; decide) (by rw [h]; decide) (by rw [h]; rfl) (by decide) ?_
    exact ylc_22 C0 hf hK hP hD hS hl
  · refine lv_tableIn (off := 1543) (tgt := 1587) hx hb dL_law_44 (by rw [h]; decide) (by rw [h]; decide) (by rw [h]; rfl) (by decide) ?_
    exact ylc_23 C0 hf hK hP hD hS hl
  · refine lv_tableIn (off := 1556) (tgt := 1600) hx hb dL_law_44 (by rw [h]; decide) (by rw [h]; decide) (by rw [h]; rfl) (by decide) ?_
    exact ylc_24 C0 hf hK hP hD hS hl
  · refine lv_tableIn (off := 1569) (tgt := 1613) hx hb dL_law_44 (by rw [h]; decide) (by rw [h]; decide) (by rw [h]; rfl) (by decide) ?_
    exact ylc_25 C0 hf hK hP hD hS hl
  · refine lv_tableIn (off := 1625) (tgt := 1669) hx hb dL_law_44 (by rw [h]; decide) (by rw [h]; decide) (by rw [h]; rfl) (by decide) ?_
    exact ylc_26 C0 hf hK hP hD hS hl
  · refine lv_tableIn (off := 1638) (tgt := 1682) hx hb dL_law_44 (by rw [h]; decide) (by rw [h]; decide) (by rw [h]; rfl) (by decide) ?_
    exact ylc_27 C0 hf hK hP hD hS hl
  · refine lv_tableIn (off := 1689) (tgt := 1733) hx hb dL_law_44 (by rw [h]; decide) (by rw [h]; decide) (by rw [h]; rfl) (by decide) ?_
    exact ylc_28 C0 hf hK hP hD hS hl
  · refine lv_tableIn (off := 1745) (tgt := 1789) hx hb dL_law_44 (by rw [h]; decide) (by rw [h]; decide) (by rw [h]; rfl) (by decide) ?_
    exact ylc_29 C0 hf hK hP hD hS hl
  · refine lv_tableIn (off := 1801) (tgt := 1845) hx hb dL_law_44 (by rw [h]; decide) (by rw [h]; decide) (by rw [h]; rfl) (by decide) ?_
    exact ylc_30 C0 hf hK hP hD hS hl
  · refine lv_tableIn (off := 1857) (tgt := 1901) hx hb dL_law_44 (by rw [h]; decide) (by rw [h]; decide) (by rw [h]; rfl) (by decide) ?_
    exact ylc_31 C0 hf hK hP hD hS hl
  · refine lv_tableIn (off := 1913) (tgt := 1957) hx hb dL_law_44 (by rw [h]; decide) (by rw [h]; decide) (by rw [h]; rfl) (by decide) ?_
    exact ylc_32 C0 hf hK hP hD hS hl
  · refine lv_tableIn (off := 1976) (tgt := 2020) hx hb dL_law_44 (by rw [h]; decide) (by rw [h]; decide) (by rw [h]; rfl) (by decide) ?_
    exact ylc_33 C0 hf hK hP hD hS hl
  · refine lv_tableIn (off := 2051) (tgt := 2095) hx hb dL_law_44 (by rw [h]; decide) (by rw [h]; decide) (by rw [h]; rfl) (by decide) ?_
    exact ylc_34 C0 hf hK hP hD hS hl
  · refine lv_tableIn (off := 2126) (tgt := 2170) hx hb dL_law_44 (by rw [h]; decide) (by rw [h]; decide) (by rw [h]; rfl) (by decide) ?_
    exact ylc_35 C0 hf hK hP hD hS hl
  · refine lv_tableIn (off := 2139) (tgt := 2183) hx hb dL_law_44 (by rw [h]; decide) (by rw [h]; decide) (by rw [h]; rfl) (by decide) ?_
    exact ylc_36 C0 hf hK hP hD hS hl
  · refine lv_tableIn (off := 2205) (tgt := 2249) hx hb dL_law_44 (by rw [h]; decide) (by rw [h]; decide) (by rw [h]; rfl) (by decide) ?_
    exact ylc_37 C0 hf hK hP hD hS hl
  · refine lv_tableIn (off := 2270) (tgt := 2314) hx hb dL_law_44 (by rw [h]; decide) (by rw [h]; decide) (by rw [h]; rfl) (by decide) ?_
    exact ylc_38 C0 hf hK hP hD hS hl
  · refine lv_tableIn (off := 2284) (tgt := 2328) hx hb dL_law_44 (by rw [h]; decide) (by rw [h]; decide) (by rw [h]; rfl) (by decide) ?_
    exact ylc_39 C0 hf hK hP hD hS hl
set_option maxHeartbeats 4000000 in
/-- a script of less than four ints: the loop isn't entered -/
theorem yl_short {p : Program} {l : Launch} {e : Env} {s : State} {m : MethodId} {below : List Frame} {meth : Method} {c : Code} {b L : Nat} {xs : Nat → Int32} {A : Nat → Prop} {H : Heap} {locs : List Loc} {ls : Array Slot} {cells slots : Nat} (hx : p.tables.exec = Jvm.exec) (hb : c.code = cL_law) (hr : meth.sig.returnType = ret) (hlocks : meth.locks = false) (hX : va_X b L xs s s.heap) (hbl : b < s.heap.size) (hA0 : A = (fun q : Nat => s.heap.size ≤ q)) (hL : L < 4) (hS : va_S A s.heap H locs) (hl : lv_has ls 9 [(0, .ref b), (5, .int 0)]) (hc : cells ≤ 600006) (hs : slots ≤ 7302096) :
    W p l e room_1 s m #[Value.ref b] below meth c H locs cells slots (lw_Z below #[Value.ref b] s) (F0 m 28 ls []) := by
  have hbA : ¬ A b := by rw [hA0]; exact Nat.not_le.mpr hbl
  refine lv_iload hx hb dL_law_28 (lv_at hl 1 rfl) ?_
  refine lv_aload_n hx hb dL_law_30 rfl (lv_at hl 0 rfl) ?_
  refine va_slen hx hb hX hbl hbA hS dL_law_31 ?_
  refine lv_iconst (v := 4) hx hb dL_law_32 (by decide) ?_
  refine lv_isub hx hb dL_law_33 ?_
  refine lv_icmp_gt (tgt := 2347) hx hb dL_law_34 (by decide) (fun _ => yl_true hx hb hr hlocks hA0 hS hc hs) (fun h => absurd ?_ h)
  rcases (show L = 0 ∨ L = 1 ∨ L = 2 ∨ L = 3 by omega) with rfl | rfl | rfl | rfl <;> decide
/-- the classes, known by the tables -/
theorem yl_K {s : State} {args : Array Value} (hts : ∀ w ∈ lw_tbl, w.before args s = true) : ∃ D : va_G, va_K D vwCl [] s := by
  have hw : ∀ w ∈ yEw, w.before args s = true := fun w h => hts w (yEw_in w h)
  obtain ⟨c0, i0, k0⟩ := u_known (C := RJ0) (T := TJ0) (N := 4) (n := 4) hts yb_wsJ00 (hw _ (by decide +kernel))
  obtain ⟨c1, i1, k1⟩ := u_known (C := RJ4) (T := TJ4) (N := 4) (n := 4) hts yb_wsJ40 (hw _ (by decide +kernel))
  obtain ⟨c2, i2, k2⟩ := u_known (C := RJx00060) (T := TJx00060) (N := 6) (n := 6) hts yb_wsJx000600 (hw _ (by decide +kernel))
  obtain ⟨c3, i3, k3⟩ := u_known (C := RJx7c733) (T := TJx7c733) (N := 6) (n := 6) hts yb_wsJx7c7330 (hw _ (by decide +kernel))
  obtain ⟨c4, i4, k4⟩ := u_known (C := RJx35411) (T := TJx35411) (N := 4) (n := 4) hts yb_wsJx354110 (hw _ (by decide +kernel))
  obtain ⟨c5, i5, k5⟩ := u_known (C := RJx4a65c) (T := TJx4a65c) (N := 3) (n := 3) hts yb_wsJx4a65c0 (hw _ (by decide +kernel))
  obtain ⟨c6, i6, k6⟩ := u_known (C := RX0) (T := TX0) (N := 3) (n := 3) hts yb_wsX00 (hw _ (by decide +kernel))
  obtain ⟨c7, i7, k7⟩ := u_known (C := RX1) (T := TX1) (N := 6) (n := 6) hts yb_wsX10 (hw _ (by decide +kernel))
  obtain ⟨c8, i8, k8⟩ := u_known (C := RX2) (T := TX2) (N := 7) (n := 7) hts yb_wsX20 (hw _ (by decide +kernel))
  obtain ⟨c9, i9, k9⟩ := u_known (C := RX3) (T := TX3) (N := 7) (n := 7) hts yb_wsX30 (hw _ (by decide +kernel))
  obtain ⟨c10, i10, k10⟩ := u_known (C := RX4) (T := TX4) (N := 3) (n := 3) hts yb_wsX40 (hw _ (by decide +kernel))
  obtain ⟨c11, i11, k11⟩ := u_known (C := RX5) (T := TX5) (N := 7) (n := 7) hts yb_wsX50 (hw _ (by decide +kernel))
  obtain ⟨c12, i12, k12⟩ := u_known (C := RX6) (T := TX6) (N := 9) (n := 9) hts yb_wsX60 (hw _ (by decide +kernel))
  refine ⟨(fun k => ([c0, c1, c2, c3, c4, c5, c6, c7, c8, c9, c10, c11, c12] : List ClassId).getD k 0, fun k => ([i0, i1, i2, i3, i4, i5, i6, i7, i8, i9, i10, i11, i12] : List (Nat → Nat)).getD k (fun _ => 0)), fun k q hq => ?_, fun k q h => by simp at h⟩
  match k, hq with
  | 0, hq => cases hq; exact k0
  | 1, hq => cases hq; exact k1
  | 2, hq => cases hq; exact k2
  | 3, hq => cases hq; exact k3
  | 4, hq => cases hq; exact k4
  | 5, hq => cases hq; exact k5
  | 6, hq => cases hq; exact k6
  | 7, hq => cases hq; exact k7
  | 8, hq => cases hq; exact k8
  | 9, hq => cases hq; exact k9
  | 10, hq => cases hq; exact k10
  | 11, hq => cases hq; exact k11
  | 12, hq => cases hq; exact k12
  | k + 13, hq => simp [vwCl] at hq
theorem kL_law_0 : Cond.classLink RL 8 RX5 ∈ wsL_law := List.mem_of_getElem? (i := 0) (by decide +kernel)
theorem kL_law_1 : Cond.instantiable RX5 7 ∈ wsL_law := List.mem_of_getElem? (i := 1) (by decide +kernel)
theorem kL_law_2 : Cond.initialized RX5 ∈ wsL_law := List.mem_of_getElem? (i := 2) (by decide +kernel)
theorem kL_law_8 : Cond.methodLink RL 131 yX5_init ∈ wsL_law := List.mem_of_getElem? (i := 8) (by decide +kernel)
theorem kL_law_9 : Cond.instanceMethod yX5_init ∈ wsL_law := List.mem_of_getElem? (i := 9) (by decide +kernel)
theorem kL_law_3 : Cond.classLink RL 132 RX6 ∈ wsL_law := List.mem_of_getElem? (i := 3) (by decide +kernel)
theorem kL_law_4 : Cond.instantiable RX6 9 ∈ wsL_law := List.mem_of_getElem? (i := 4) (by decide +kernel)
theorem kL_law_5 : Cond.initialized RX6 ∈ wsL_law := List.mem_of_getElem? (i := 5) (by decide +kernel)
theorem kL_law_88 : Cond.methodLink RL 134 yX6_init ∈ wsL_law := List.mem_of_getElem? (i := 88) (by decide +kernel)
theorem kL_law_89 : Cond.instanceMethod yX6_init ∈ wsL_law := List.mem_of_getElem? (i := 89) (by decide +kernel)
theorem kL_law_6 : Cond.arrayClass .long ∈ wsL_law := List.mem_of_getElem? (i := 6) (by decide +kernel)
theorem kL_law_7 : Cond.arrayClass .double ∈ wsL_law := List.mem_of_getElem? (i := 7) (by decide +kernel)
set_option maxHeartbeats 4000000 in
set_option maxRecDepth 100000 in
/-- THE LAW, from its entry, on at most four ints -/
theorem yl_start {p : Program} {e : Env} {s : State} {m : MethodId} {below : List Frame} {meth : Method} {c : Code} (l : Launch) (hfl : l.stackTraces = false) {b L : Nat} {xs : Nat → Int32} (hL : L ≤ 4) (C0 : lw_At p s m meth c b L xs) : W p l e room_1 s m #[Value.ref b] below meth c s.heap [] 0 0 (lw_Z below #[Value.ref b] s) (entryFrame m ([Value.ref b] : List Value).toArray 9) := by
  obtain ⟨hx, hb, hr, hml, hown, hts0, hX, hbl, hlocks, hgv⟩ := id C0
  have hts : ∀ w ∈ wsL_law, w.before #[Value.ref b] s = true := fun w h => hts0 w (wsL_law_in w h)
  have hw : ∀ w ∈ yEw, w.before #[Value.ref b] s = true := fun w h => hts0 w (yEw_in w h)
  obtain ⟨A, hA0⟩ : ∃ A : Nat → Prop, A = (fun q : Nat => s.heap.size ≤ q) := ⟨_, rfl⟩
  have hA : ∀ q, s.heap.size ≤ q → A q := fun q h => by rw [hA0]; exact h
  obtain ⟨tE, hE⟩ := yl_E (A := A) (fun a h => by rw [hA0]; exact Nat.not_le.mpr h) hts0 hgv
  obtain ⟨D, hK⟩ := yl_K hts0
  obtain ⟨cI, hK⟩ := y_kI (hw _ (by decide +kernel)) [] hK
  obtain ⟨cC, hK⟩ := y_kC (hw _ (by decide +kernel)) _ hK
  obtain ⟨cB, hK⟩ := y_kB (hw _ (by decide +kernel)) _ hK
  obtain ⟨cO, hK⟩ := y_kO hE.ao _ hK
  obtain ⟨cK, hK⟩ := y_kA hE.2.2.2.2.2.1 _ hK
  have hK : va_K D vwCl [(cI, .int), (cC, .char), (cB, .byte), (cO, .object "java/lang/Object"), (cK, .array .int)] s := hK
  have hS : va_S A s.heap s.heap [] := va_S.rf
  have hP : va_P D vwCl [] s.heap := fun k q h => by simp at h
  have hD : va_D A [] := ⟨fun i j p q h => by simp at h, fun k q h => by simp at h⟩
  have hl := lv_entry ([.ref b]) (n := 9) (Nat.le_of_ble_eq_true rfl)
  rw [lg_entry_eq]
  generalize (lg_sl ([.ref b]) ++ List.replicate (9 - (lg_sl ([.ref b])).length) Slot.unset).toArray = ls at hl ⊢
  have hl : lv_has ls 9 [(0, .ref b)] := hl
  refine va_new (ci := 11) (fs := [.null, .null, .null, .null, .null, .null, .int 0]) (C := RX5) (T := TX5) (N := 7) hx hb hts0 yb_wsX50 tyX5 tyX5_ok hown (hts _ kL_law_0) (hts _ kL_law_1) (hts _ kL_law_2) hK hP hD hS hA rfl (fun j hj => by rcases (show j = 0 ∨ j = 1 ∨ j = 2 ∨ j = 3 ∨ j = 4 ∨ j = 5 ∨ j = 6 by omega) with rfl | rfl | rfl | rfl | rfl | rfl | rfl <;> rfl) (Nat.le_of_ble_eq_true rfl) (Nat.le_of_ble_eq_true rfl) dL_law_0 (fun q_1 H hP hD hS => ?_)
  have hP : va_P D vwCl [(q_1, .inr (11, [.null, .null, .null, .null, .null, .null, .int 0]))] H := hP
  have hD : va_D A [(q_1, .inr (11, [.null, .null, .null, .null, .null, .null, .int 0]))] := hD
  refine lv_dup hx hb dL_law_3 rfl ?_
  refine yc_v (wc := [(q_1, .inr (11, [.null, .null, .null, .null, .null, .null, .int 0]))]) (wr := []) (va_runI (As := []) (rest := [.ref q_1]) ⟨hx, hb, hml, hown, hts⟩ (i_X5 l hfl D tE H.size q_1 cI cC cK (va_A [(q_1, .inr (11, [.null, .null, .null, .null, .null, .null, .int 0]))] H.size) rfl) (cwI 0 hts gL_law_X5_init rfl rfl rfl (hts _ kL_law_2) (hts _ kL_law_8) (hts _ kL_law_9) rfl (by decide +kernel) ⟨Nat.le_of_ble_eq_true rfl, Nat.le_of_ble_eq_true rfl⟩) (yPreS (wc := [(q_1, .inr (11, [.null, .null, .null, .null, .null, .null, .int 0]))]) (tc := [(cI, .int), (cC, .char), (cK, .array .int)]) hK hP hD hS hA hE [0] [0, 1, 4] (by decide) rfl rfl) rfl rfl hl.1 rfl (lv_room (Nat.le_of_ble_eq_true rfl)) dL_law_4 ⟨Nat.le_of_ble_eq_true rfl, Nat.le_of_ble_eq_true rfl⟩) hP hD hS hA [0] [] rfl rfl (by decide) (by decide) (fun u_3 H locs hw hP hD hS => ?_)
  have hP : va_P D vwCl [(q_1, .inr (11, [.ref ((u_3.1 0)), .ref ((u_3.1 1)), .ref ((u_3.1 2)), .ref ((u_3.1 3)), .ref ((u_3.1 4)), .ref ((u_3.1 5)), .int 0])), ((u_3.1 0), .inr (8, [.int 0, .int 0, .ref ((u_3.1 6)), .ref ((u_3.1 7)), .ref ((u_3.1 8)), .ref ((u_3.1 9)), .ref ((u_3.1 10))])), ((u_3.1 6), .inl (cI, 10, .inl (fun _ => 0))), ((u_3.1 7), .inl (cI, 10, .inl (fun _ => 0))), ((u_3.1 10), .inl (cI, 10, .inl (fun _ => 0))), ((u_3.1 1), .inr (10, [.int 0, .ref ((u_3.1 11)), .ref ((u_3.1 12))])), ((u_3.1 12), .inl (cC, 20, .inl (fun _ => 0))), ((u_3.1 2), .inr (7, [.ref ((u_3.1 13)), .ref ((u_3.1 14)), .ref ((u_3.1 15)), .ref ((u_3.1 16)), .ref ((u_3.1 17)), .ref ((u_3.1 18))])), ((u_3.1 13), .inl (cI, 10, .inl (fun _ => 0))), ((u_3.1 14), .inl (cI, 10, .inl (fun _ => 0))), ((u_3.1 15), .inl (cI, 10, .inl (fun _ => 0))), ((u_3.1 16), .inr (9, [.ref ((u_3.1 19)), .ref ((u_3.1 20)), .ref ((u_3.1 21)), .int 0, .ref ((u_3.1 22)), .ref ((u_3.1 23)), .ref ((u_3.1 24))])), ((u_3.1 20), .inl (cI, 10, .inl (fun _ => 0))), ((u_3.1 21), .inl (cI, 11, .inl (fun _ => 0))), ((u_3.1 3), .inr (6, [.int 0, .ref ((u_3.1 25)), .ref ((u_3.1 26))])), ((u_3.1 4), .inl (cI, 10, .inl (u_3.2.1))), ((u_3.1 5), .inl (cK, 10, .inr (.inr (.inr (.inr (u_3.2.2.2)))))), ((u_3.1 27), .inl (cI, 10, .inl (u_3.2.2.1)))] H := hP
  have hD : va_D A [(q_1, .inr (11, [.ref ((u_3.1 0)), .ref ((u_3.1 1)), .ref ((u_3.1 2)), .ref ((u_3.1 3)), .ref ((u_3.1 4)), .ref ((u_3.1 5)), .int 0])), ((u_3.1 0), .inr (8, [.int 0, .int 0, .ref ((u_3.1 6)), .ref ((u_3.1 7)), .ref ((u_3.1 8)), .ref ((u_3.1 9)), .ref ((u_3.1 10))])), ((u_3.1 6), .inl (cI, 10, .inl (fun _ => 0))), ((u_3.1 7), .inl (cI, 10, .inl (fun _ => 0))), ((u_3.1 10), .inl (cI, 10, .inl (fun _ => 0))), ((u_3.1 1), .inr (10, [.int 0, .ref ((u_3.1 11)), .ref ((u_3.1 12))])), ((u_3.1 12), .inl (cC, 20, .inl (fun _ => 0))), ((u_3.1 2), .inr (7, [.ref ((u_3.1 13)), .ref ((u_3.1 14)), .ref ((u_3.1 15)), .ref ((u_3.1 16)), .ref ((u_3.1 17)), .ref ((u_3.1 18))])), ((u_3.1 13), .inl (cI, 10, .inl (fun _ => 0))), ((u_3.1 14), .inl (cI, 10, .inl (fun _ => 0))), ((u_3.1 15), .inl (cI, 10, .inl (fun _ => 0))), ((u_3.1 16), .inr (9, [.ref ((u_3.1 19)), .ref ((u_3.1 20)), .ref ((u_3.1 21)), .int 0, .ref ((u_3.1 22)), .ref ((u_3.1 23)), .ref ((u_3.1 24))])), ((u_3.1 20), .inl (cI, 10, .inl (fun _ => 0))), ((u_3.1 21), .inl (cI, 11, .inl (fun _ => 0))), ((u_3.1 3), .inr (6, [.int 0, .ref ((u_3.1 25)), .ref ((u_3.1 26))])), ((u_3.1 4), .inl (cI, 10, .inl (u_3.2.1))), ((u_3.1 5), .inl (cK, 10, .inr (.inr (.inr (.inr (u_3.2.2.2)))))), ((u_3.1 27), .inl (cI, 10, .inl (u_3.2.2.1)))] := hD
  have hw : u_3.2.2.2 0 = some (u_3.1 27) := hw
  have w_4 := hw
  refine lv_astore_n (lv' := [(1, .ref q_1), (0, .ref b)]) hx hb dL_law_7 rfl hl (by decide) rfl (fun ls hl => ?_)
  refine va_new (ci := 12) (fs := [.null, .null, .null, .null, .null, .null, .int 0, .int 0, .int 0]) (C := RX6) (T := TX6) (N := 9) hx hb hts0 yb_wsX60 tyX6 tyX6_ok hown (hts _ kL_law_3) (hts _ kL_law_4) (hts _ kL_law_5) hK hP hD hS hA rfl (fun j hj => by rcases (show j = 0 ∨ j = 1 ∨ j = 2 ∨ j = 3 ∨ j = 4 ∨ j = 5 ∨ j = 6 ∨ j = 7 ∨ j = 8 by omega) with rfl | rfl | rfl | rfl | rfl | rfl | rfl | rfl | rfl <;> rfl) (Nat.le_of_ble_eq_true rfl) (Nat.le_of_ble_eq_true rfl) dL_law_8 (fun q_5 H hP hD hS => ?_)
  have hP : va_P D vwCl [(q_1, .inr (11, [.ref ((u_3.1 0)), .ref ((u_3.1 1)), .ref ((u_3.1 2)), .ref ((u_3.1 3)), .ref ((u_3.1 4)), .ref ((u_3.1 5)), .int 0])), ((u_3.1 0), .inr (8, [.int 0, .int 0, .ref ((u_3.1 6)), .ref ((u_3.1 7)), .ref ((u_3.1 8)), .ref ((u_3.1 9)), .ref ((u_3.1 10))])), ((u_3.1 6), .inl (cI, 10, .inl (fun _ => 0))), ((u_3.1 7), .inl (cI, 10, .inl (fun _ => 0))), ((u_3.1 10), .inl (cI, 10, .inl (fun _ => 0))), ((u_3.1 1), .inr (10, [.int 0, .ref ((u_3.1 11)), .ref ((u_3.1 12))])), ((u_3.1 12), .inl (cC, 20, .inl (fun _ => 0))), ((u_3.1 2), .inr (7, [.ref ((u_3.1 13)), .ref ((u_3.1 14)), .ref ((u_3.1 15)), .ref ((u_3.1 16)), .ref ((u_3.1 17)), .ref ((u_3.1 18))])), ((u_3.1 13), .inl (cI, 10, .inl (fun _ => 0))), ((u_3.1 14), .inl (cI, 10, .inl (fun _ => 0))), ((u_3.1 15), .inl (cI, 10, .inl (fun _ => 0))), ((u_3.1 16), .inr (9, [.ref ((u_3.1 19)), .ref ((u_3.1 20)), .ref ((u_3.1 21)), .int 0, .ref ((u_3.1 22)), .ref ((u_3.1 23)), .ref ((u_3.1 24))])), ((u_3.1 20), .inl (cI, 10, .inl (fun _ => 0))), ((u_3.1 21), .inl (cI, 11, .inl (fun _ => 0))), ((u_3.1 3), .inr (6, [.int 0, .ref ((u_3.1 25)), .ref ((u_3.1 26))])), ((u_3.1 4), .inl (cI, 10, .inl (u_3.2.1))), ((u_3.1 5), .inl (cK, 10, .inr (.inr (.inr (.inr (u_3.2.2.2)))))), ((u_3.1 27), .inl (cI, 10, .inl (u_3.2.2.1))), (q_5, .inr (12, [.null, .null, .null, .null, .null, .null, .int 0, .int 0, .int 0]))] H := hP
  have hD : va_D A [(q_1, .inr (11, [.ref ((u_3.1 0)), .ref ((u_3.1 1)), .ref ((u_3.1 2)), .ref ((u_3.1 3)), .ref ((u_3.1 4)), .ref ((u_3.1 5)), .int 0])), ((u_3.1 0), .inr (8, [.int 0, .int 0, .ref ((u_3.1 6)), .ref ((u_3.1 7)), .ref ((u_3.1 8)), .ref ((u_3.1 9)), .ref ((u_3.1 10))])), ((u_3.1 6), .inl (cI, 10, .inl (fun _ => 0))), ((u_3.1 7), .inl (cI, 10, .inl (fun _ => 0))), ((u_3.1 10), .inl (cI, 10, .inl (fun _ => 0))), ((u_3.1 1), .inr (10, [.int 0, .ref ((u_3.1 11)), .ref ((u_3.1 12))])), ((u_3.1 12), .inl (cC, 20, .inl (fun _ => 0))), ((u_3.1 2), .inr (7, [.ref ((u_3.1 13)), .ref ((u_3.1 14)), .ref ((u_3.1 15)), .ref ((u_3.1 16)), .ref ((u_3.1 17)), .ref ((u_3.1 18))])), ((u_3.1 13), .inl (cI, 10, .inl (fun _ => 0))), ((u_3.1 14), .inl (cI, 10, .inl (fun _ => 0))), ((u_3.1 15), .inl (cI, 10, .inl (fun _ => 0))), ((u_3.1 16), .inr (9, [.ref ((u_3.1 19)), .ref ((u_3.1 20)), .ref ((u_3.1 21)), .int 0, .ref ((u_3.1 22)), .ref ((u_3.1 23)), .ref ((u_3.1 24))])), ((u_3.1 20), .inl (cI, 10, .inl (fun _ => 0))), ((u_3.1 21), .inl (cI, 11, .inl (fun _ => 0))), ((u_3.1 3), .inr (6, [.int 0, .ref ((u_3.1 25)), .ref ((u_3.1 26))])), ((u_3.1 4), .inl (cI, 10, .inl (u_3.2.1))), ((u_3.1 5), .inl (cK, 10, .inr (.inr (.inr (.inr (u_3.2.2.2)))))), ((u_3.1 27), .inl (cI, 10, .inl (u_3.2.2.1))), (q_5, .inr (12, [.null, .null, .null, .null, .null, .null, .int 0, .int 0, .int 0]))] := hD
  refine lv_dup hx hb dL_law_11 rfl ?_
  refine yc_v (wc := [(q_5, .inr (12, [.null, .null, .null, .null, .null, .null, .int 0, .int 0, .int 0]))]) (wr := [(q_1, .inr (11, [.ref ((u_3.1 0)), .ref ((u_3.1 1)), .ref ((u_3.1 2)), .ref ((u_3.1 3)), .ref ((u_3.1 4)), .ref ((u_3.1 5)), .int 0])), ((u_3.1 0), .inr (8, [.int 0, .int 0, .ref ((u_3.1 6)), .ref ((u_3.1 7)), .ref ((u_3.1 8)), .ref ((u_3.1 9)), .ref ((u_3.1 10))])), ((u_3.1 6), .inl (cI, 10, .inl (fun _ => 0))), ((u_3.1 7), .inl (cI, 10, .inl (fun _ => 0))), ((u_3.1 10), .inl (cI, 10, .inl (fun _ => 0))), ((u_3.1 1), .inr (10, [.int 0, .ref ((u_3.1 11)), .ref ((u_3.1 12))])), ((u_3.1 12), .inl (cC, 20, .inl (fun _ => 0))), ((u_3.1 2), .inr (7, [.ref ((u_3.1 13)), .ref ((u_3.1 14)), .ref ((u_3.1 15)), .ref ((u_3.1 16)), .ref ((u_3.1 17)), .ref ((u_3.1 18))])), ((u_3.1 13), .inl (cI, 10, .inl (fun _ => 0))), ((u_3.1 14), .inl (cI, 10, .inl (fun _ => 0))), ((u_3.1 15), .inl (cI, 10, .inl (fun _ => 0))), ((u_3.1 16), .inr (9, [.ref ((u_3.1 19)), .ref ((u_3.1 20)), .ref ((u_3.1 21)), .int 0, .ref ((u_3.1 22)), .ref ((u_3.1 23)), .ref ((u_3.1 24))])), ((u_3.1 20), .inl (cI, 10, .inl (fun _ => 0))), ((u_3.1 21), .inl (cI, 11, .inl (fun _ => 0))), ((u_3.1 3), .inr (6, [.int 0, .ref ((u_3.1 25)), .ref ((u_3.1 26))])), ((u_3.1 4), .inl (cI, 10, .inl (u_3.2.1))), ((u_3.1 5), .inl (cK, 10, .inr (.inr (.inr (.inr (u_3.2.2.2)))))), ((u_3.1 27), .inl (cI, 10, .inl (u_3.2.2.1)))]) (va_runI (As := []) (rest := [.ref q_5]) ⟨hx, hb, hml, hown, hts⟩ (i_X6 l hfl D tE H.size q_5 cI cB (va_A [(q_5, .inr (12, [.null, .null, .null, .null, .null, .null, .int 0, .int 0, .int 0]))] H.size) rfl) (cwI 0 hts gL_law_X6_init rfl rfl rfl (hts _ kL_law_5) (hts _ kL_law_88) (hts _ kL_law_89) rfl (by decide +kernel) ⟨Nat.le_of_ble_eq_true rfl, Nat.le_of_ble_eq_true rfl⟩) (yPreS (wc := [(q_5, .inr (12, [.null, .null, .null, .null, .null, .null, .int 0, .int 0, .int 0]))]) (tc := [(cI, .int), (cB, .byte)]) hK hP hD hS hA hE [18] [0, 2] (by decide) rfl rfl) rfl rfl hl.1 rfl (lv_room (Nat.le_of_ble_eq_true rfl)) dL_law_12 ⟨Nat.le_of_ble_eq_true rfl, Nat.le_of_ble_eq_true rfl⟩) hP hD hS hA [18] [0, 1, 2, 3, 4, 5, 6, 7, 8, 9, 10, 11, 12, 13, 14, 15, 16, 17] rfl rfl (by decide) (by decide) (fun u_7 H locs hw hP hD hS => ?_)
  have hP : va_P D vwCl [(q_1, .inr (11, [.ref ((u_3.1 0)), .ref ((u_3.1 1)), .ref ((u_3.1 2)), .ref ((u_3.1 3)), .ref ((u_3.1 4)), .ref ((u_3.1 5)), .int 0])), ((u_3.1 0), .inr (8, [.int 0, .int 0, .ref ((u_3.1 6)), .ref ((u_3.1 7)), .ref ((u_3.1 8)), .ref ((u_3.1 9)), .ref ((u_3.1 10))])), ((u_3.1 6), .inl (cI, 10, .inl (fun _ => 0))), ((u_3.1 7), .inl (cI, 10, .inl (fun _ => 0))), ((u_3.1 10), .inl (cI, 10, .inl (fun _ => 0))), ((u_3.1 1), .inr (10, [.int 0, .ref ((u_3.1 11)), .ref ((u_3.1 12))])), ((u_3.1 12), .inl (cC, 20, .inl (fun _ => 0))), ((u_3.1 2), .inr (7, [.ref ((u_3.1 13)), .ref ((u_3.1 14)), .ref ((u_3.1 15)), .ref ((u_3.1 16)), .ref ((u_3.1 17)), .ref ((u_3.1 18))])), ((u_3.1 13), .inl (cI, 10, .inl (fun _ => 0))), ((u_3.1 14), .inl (cI, 10, .inl (fun _ => 0))), ((u_3.1 15), .inl (cI, 10, .inl (fun _ => 0))), ((u_3.1 16), .inr (9, [.ref ((u_3.1 19)), .ref ((u_3.1 20)), .ref ((u_3.1 21)), .int 0, .ref ((u_3.1 22)), .ref ((u_3.1 23)), .ref ((u_3.1 24))])), ((u_3.1 20), .inl (cI, 10, .inl (fun _ => 0))), ((u_3.1 21), .inl (cI, 11, .inl (fun _ => 0))), ((u_3.1 3), .inr (6, [.int 0, .ref ((u_3.1 25)), .ref ((u_3.1 26))])), ((u_3.1 4), .inl (cI, 10, .inl (u_3.2.1))), ((u_3.1 5), .inl (cK, 10, .inr (.inr (.inr (.inr (u_3.2.2.2)))))), ((u_3.1 27), .inl (cI, 10, .inl (u_3.2.2.1))), (q_5, .inr (12, [.ref ((u_7.1 0)), .ref ((u_7.1 1)), .ref ((u_7.1 2)), .ref ((u_7.1 3)), .ref ((u_7.1 4)), .ref ((u_7.1 5)), .int 0, .int 0, .int 0])), ((u_7.1 0), .inl (cI, 10, .inl (fun _ => 0))), ((u_7.1 1), .inl (cI, 10, .inl (fun _ => 0))), ((u_7.1 2), .inl (cI, 10, .inl (u_7.2))), ((u_7.1 4), .inr (5, [.int 0, .ref tE, .int 0])), ((u_7.1 5), .inr (1, [.ref ((u_7.1 6)), .int 0, .int 0, .int 0])), ((u_7.1 6), .inl (cB, 16, .inl (fun _ => 0)))] H := hP
  have hD : va_D A [(q_1, .inr (11, [.ref ((u_3.1 0)), .ref ((u_3.1 1)), .ref ((u_3.1 2)), .ref ((u_3.1 3)), .ref ((u_3.1 4)), .ref ((u_3.1 5)), .int 0])), ((u_3.1 0), .inr (8, [.int 0, .int 0, .ref ((u_3.1 6)), .ref ((u_3.1 7)), .ref ((u_3.1 8)), .ref ((u_3.1 9)), .ref ((u_3.1 10))])), ((u_3.1 6), .inl (cI, 10, .inl (fun _ => 0))), ((u_3.1 7), .inl (cI, 10, .inl (fun _ => 0))), ((u_3.1 10), .inl (cI, 10, .inl (fun _ => 0))), ((u_3.1 1), .inr (10, [.int 0, .ref ((u_3.1 11)), .ref ((u_3.1 12))])), ((u_3.1 12), .inl (cC, 20, .inl (fun _ => 0))), ((u_3.1 2), .inr (7, [.ref ((u_3.1 13)), .ref ((u_3.1 14)), .ref ((u_3.1 15)), .ref ((u_3.1 16)), .ref ((u_3.1 17)), .ref ((u_3.1 18))])), ((u_3.1 13), .inl (cI, 10, .inl (fun _ => 0))), ((u_3.1 14), .inl (cI, 10, .inl (fun _ => 0))), ((u_3.1 15), .inl (cI, 10, .inl (fun _ => 0))), ((u_3.1 16), .inr (9, [.ref ((u_3.1 19)), .ref ((u_3.1 20)), .ref ((u_3.1 21)), .int 0, .ref ((u_3.1 22)), .ref ((u_3.1 23)), .ref ((u_3.1 24))])), ((u_3.1 20), .inl (cI, 10, .inl (fun _ => 0))), ((u_3.1 21), .inl (cI, 11, .inl (fun _ => 0))), ((u_3.1 3), .inr (6, [.int 0, .ref ((u_3.1 25)), .ref ((u_3.1 26))])), ((u_3.1 4), .inl (cI, 10, .inl (u_3.2.1))), ((u_3.1 5), .inl (cK, 10, .inr (.inr (.inr (.inr (u_3.2.2.2)))))), ((u_3.1 27), .inl (cI, 10, .inl (u_3.2.2.1))), (q_5, .inr (12, [.ref ((u_7.1 0)), .ref ((u_7.1 1)), .ref ((u_7.1 2)), .ref ((u_7.1 3)), .ref ((u_7.1 4)), .ref ((u_7.1 5)), .int 0, .int 0, .int 0])), ((u_7.1 0), .inl (cI, 10, .inl (fun _ => 0))), ((u_7.1 1), .inl (cI, 10, .inl (fun _ => 0))), ((u_7.1 2), .inl (cI, 10, .inl (u_7.2))), ((u_7.1 4), .inr (5, [.int 0, .ref tE, .int 0])), ((u_7.1 5), .inr (1, [.ref ((u_7.1 6)), .int 0, .int 0, .int 0])), ((u_7.1 6), .inl (cB, 16, .inl (fun _ => 0)))] := hD
  refine lv_astore_n (lv' := [(2, .ref q_5), (1, .ref q_1), (0, .ref b)]) hx hb dL_law_15 rfl hl (by decide) rfl (fun ls hl => ?_)
  refine lv_iconst (v := (1)) hx hb dL_law_16 (by decide) ?_
  refine va_newa (atype := .long) (ty := .long) (N' := 1) (a0 := (1, .inr (.inl (fun _ => 0)))) hx hb (hts _ kL_law_6) rfl hK hP hD hS hA (fun _ => rfl) (by decide) (by decide) (by decide) (Nat.le_of_ble_eq_true rfl) (Nat.le_of_ble_eq_true rfl) dL_law_17 (fun q_8 c_9 H hK hP hD hS => ?_)
  have hK : va_K D vwCl [(cI, .int), (cC, .char), (cB, .byte), (cO, .object "java/lang/Object"), (cK, .array .int), (c_9, .long)] s := hK
  have hP : va_P D vwCl [(q_1, .inr (11, [.ref ((u_3.1 0)), .ref ((u_3.1 1)), .ref ((u_3.1 2)), .ref ((u_3.1 3)), .ref ((u_3.1 4)), .ref ((u_3.1 5)), .int 0])), ((u_3.1 0), .inr (8, [.int 0, .int 0, .ref ((u_3.1 6)), .ref ((u_3.1 7)), .ref ((u_3.1 8)), .ref ((u_3.1 9)), .ref ((u_3.1 10))])), ((u_3.1 6), .inl (cI, 10, .inl (fun _ => 0))), ((u_3.1 7), .inl (cI, 10, .inl (fun _ => 0))), ((u_3.1 10), .inl (cI, 10, .inl (fun _ => 0))), ((u_3.1 1), .inr (10, [.int 0, .ref ((u_3.1 11)), .ref ((u_3.1 12))])), ((u_3.1 12), .inl (cC, 20, .inl (fun _ => 0))), ((u_3.1 2), .inr (7, [.ref ((u_3.1 13)), .ref ((u_3.1 14)), .ref ((u_3.1 15)), .ref ((u_3.1 16)), .ref ((u_3.1 17)), .ref ((u_3.1 18))])), ((u_3.1 13), .inl (cI, 10, .inl (fun _ => 0))), ((u_3.1 14), .inl (cI, 10, .inl (fun _ => 0))), ((u_3.1 15), .inl (cI, 10, .inl (fun _ => 0))), ((u_3.1 16), .inr (9, [.ref ((u_3.1 19)), .ref ((u_3.1 20)), .ref ((u_3.1 21)), .int 0, .ref ((u_3.1 22)), .ref ((u_3.1 23)), .ref ((u_3.1 24))])), ((u_3.1 20), .inl (cI, 10, .inl (fun _ => 0))), ((u_3.1 21), .inl (cI, 11, .inl (fun _ => 0))), ((u_3.1 3), .inr (6, [.int 0, .ref ((u_3.1 25)), .ref ((u_3.1 26))])), ((u_3.1 4), .inl (cI, 10, .inl (u_3.2.1))), ((u_3.1 5), .inl (cK, 10, .inr (.inr (.inr (.inr (u_3.2.2.2)))))), ((u_3.1 27), .inl (cI, 10, .inl (u_3.2.2.1))), (q_5, .inr (12, [.ref ((u_7.1 0)), .ref ((u_7.1 1)), .ref ((u_7.1 2)), .ref ((u_7.1 3)), .ref ((u_7.1 4)), .ref ((u_7.1 5)), .int 0, .int 0, .int 0])), ((u_7.1 0), .inl (cI, 10, .inl (fun _ => 0))), ((u_7.1 1), .inl (cI, 10, .inl (fun _ => 0))), ((u_7.1 2), .inl (cI, 10, .inl (u_7.2))), ((u_7.1 4), .inr (5, [.int 0, .ref tE, .int 0])), ((u_7.1 5), .inr (1, [.ref ((u_7.1 6)), .int 0, .int 0, .int 0])), ((u_7.1 6), .inl (cB, 16, .inl (fun _ => 0))), (q_8, .inl (c_9, 1, .inr (.inl (fun _ => 0))))] H := hP
  have hD : va_D A [(q_1, .inr (11, [.ref ((u_3.1 0)), .ref ((u_3.1 1)), .ref ((u_3.1 2)), .ref ((u_3.1 3)), .ref ((u_3.1 4)), .ref ((u_3.1 5)), .int 0])), ((u_3.1 0), .inr (8, [.int 0, .int 0, .ref ((u_3.1 6)), .ref ((u_3.1 7)), .ref ((u_3.1 8)), .ref ((u_3.1 9)), .ref ((u_3.1 10))])), ((u_3.1 6), .inl (cI, 10, .inl (fun _ => 0))), ((u_3.1 7), .inl (cI, 10, .inl (fun _ => 0))), ((u_3.1 10), .inl (cI, 10, .inl (fun _ => 0))), ((u_3.1 1), .inr (10, [.int 0, .ref ((u_3.1 11)), .ref ((u_3.1 12))])), ((u_3.1 12), .inl (cC, 20, .inl (fun _ => 0))), ((u_3.1 2), .inr (7, [.ref ((u_3.1 13)), .ref ((u_3.1 14)), .ref ((u_3.1 15)), .ref ((u_3.1 16)), .ref ((u_3.1 17)), .ref ((u_3.1 18))])), ((u_3.1 13), .inl (cI, 10, .inl (fun _ => 0))), ((u_3.1 14), .inl (cI, 10, .inl (fun _ => 0))), ((u_3.1 15), .inl (cI, 10, .inl (fun _ => 0))), ((u_3.1 16), .inr (9, [.ref ((u_3.1 19)), .ref ((u_3.1 20)), .ref ((u_3.1 21)), .int 0, .ref ((u_3.1 22)), .ref ((u_3.1 23)), .ref ((u_3.1 24))])), ((u_3.1 20), .inl (cI, 10, .inl (fun _ => 0))), ((u_3.1 21), .inl (cI, 11, .inl (fun _ => 0))), ((u_3.1 3), .inr (6, [.int 0, .ref ((u_3.1 25)), .ref ((u_3.1 26))])), ((u_3.1 4), .inl (cI, 10, .inl (u_3.2.1))), ((u_3.1 5), .inl (cK, 10, .inr (.inr (.inr (.inr (u_3.2.2.2)))))), ((u_3.1 27), .inl (cI, 10, .inl (u_3.2.2.1))), (q_5, .inr (12, [.ref ((u_7.1 0)), .ref ((u_7.1 1)), .ref ((u_7.1 2)), .ref ((u_7.1 3)), .ref ((u_7.1 4)), .ref ((u_7.1 5)), .int 0, .int 0, .int 0])), ((u_7.1 0), .inl (cI, 10, .inl (fun _ => 0))), ((u_7.1 1), .inl (cI, 10, .inl (fun _ => 0))), ((u_7.1 2), .inl (cI, 10, .inl (u_7.2))), ((u_7.1 4), .inr (5, [.int 0, .ref tE, .int 0])), ((u_7.1 5), .inr (1, [.ref ((u_7.1 6)), .int 0, .int 0, .int 0])), ((u_7.1 6), .inl (cB, 16, .inl (fun _ => 0))), (q_8, .inl (c_9, 1, .inr (.inl (fun _ => 0))))] := hD
  refine lv_astore_n (lv' := [(3, .ref q_8), (2, .ref q_5), (1, .ref q_1), (0, .ref b)]) hx hb dL_law_19 rfl hl (by decide) rfl (fun ls hl => ?_)
  refine lv_iconst (v := (1)) hx hb dL_law_20 (by decide) ?_
  refine va_newa (atype := .double) (ty := .double) (N' := 1) (a0 := (1, .inr (.inr (.inr (.inl (fun _ => 0)))))) hx hb (hts _ kL_law_7) rfl hK hP hD hS hA (fun _ => rfl) (by decide) (by decide) (by decide) (Nat.le_of_ble_eq_true rfl) (Nat.le_of_ble_eq_true rfl) dL_law_21 (fun q_10 c_11 H hK hP hD hS => ?_)
  have hK : va_K D vwCl [(cI, .int), (cC, .char), (cB, .byte), (cO, .object "java/lang/Object"), (cK, .array .int), (c_9, .long), (c_11, .double)] s := hK
  have hP : va_P D vwCl [(q_1, .inr (11, [.ref ((u_3.1 0)), .ref ((u_3.1 1)), .ref ((u_3.1 2)), .ref ((u_3.1 3)), .ref ((u_3.1 4)), .ref ((u_3.1 5)), .int 0])), ((u_3.1 0), .inr (8, [.int 0, .int 0, .ref ((u_3.1 6)), .ref ((u_3.1 7)), .ref ((u_3.1 8)), .ref ((u_3.1 9)), .ref ((u_3.1 10))])), ((u_3.1 6), .inl (cI, 10, .inl (fun _ => 0))), ((u_3.1 7), .inl (cI, 10, .inl (fun _ => 0))), ((u_3.1 10), .inl (cI, 10, .inl (fun _ => 0))), ((u_3.1 1), .inr (10, [.int 0, .ref ((u_3.1 11)), .ref ((u_3.1 12))])), ((u_3.1 12), .inl (cC, 20, .inl (fun _ => 0))), ((u_3.1 2), .inr (7, [.ref ((u_3.1 13)), .ref ((u_3.1 14)), .ref ((u_3.1 15)), .ref ((u_3.1 16)), .ref ((u_3.1 17)), .ref ((u_3.1 18))])), ((u_3.1 13), .inl (cI, 10, .inl (fun _ => 0))), ((u_3.1 14), .inl (cI, 10, .inl (fun _ => 0))), ((u_3.1 15), .inl (cI, 10, .inl (fun _ => 0))), ((u_3.1 16), .inr (9, [.ref ((u_3.1 19)), .ref ((u_3.1 20)), .ref ((u_3.1 21)), .int 0, .ref ((u_3.1 22)), .ref ((u_3.1 23)), .ref ((u_3.1 24))])), ((u_3.1 20), .inl (cI, 10, .inl (fun _ => 0))), ((u_3.1 21), .inl (cI, 11, .inl (fun _ => 0))), ((u_3.1 3), .inr (6, [.int 0, .ref ((u_3.1 25)), .ref ((u_3.1 26))])), ((u_3.1 4), .inl (cI, 10, .inl (u_3.2.1))), ((u_3.1 5), .inl (cK, 10, .inr (.inr (.inr (.inr (u_3.2.2.2)))))), ((u_3.1 27), .inl (cI, 10, .inl (u_3.2.2.1))), (q_5, .inr (12, [.ref ((u_7.1 0)), .ref ((u_7.1 1)), .ref ((u_7.1 2)), .ref ((u_7.1 3)), .ref ((u_7.1 4)), .ref ((u_7.1 5)), .int 0, .int 0, .int 0])), ((u_7.1 0), .inl (cI, 10, .inl (fun _ => 0))), ((u_7.1 1), .inl (cI, 10, .inl (fun _ => 0))), ((u_7.1 2), .inl (cI, 10, .inl (u_7.2))), ((u_7.1 4), .inr (5, [.int 0, .ref tE, .int 0])), ((u_7.1 5), .inr (1, [.ref ((u_7.1 6)), .int 0, .int 0, .int 0])), ((u_7.1 6), .inl (cB, 16, .inl (fun _ => 0))), (q_8, .inl (c_9, 1, .inr (.inl (fun _ => 0)))), (q_10, .inl (c_11, 1, .inr (.inr (.inr (.inl (fun _ => 0))))))] H := hP
  have hD : va_D A [(q_1, .inr (11, [.ref ((u_3.1 0)), .ref ((u_3.1 1)), .ref ((u_3.1 2)), .ref ((u_3.1 3)), .ref ((u_3.1 4)), .ref ((u_3.1 5)), .int 0])), ((u_3.1 0), .inr (8, [.int 0, .int 0, .ref ((u_3.1 6)), .ref ((u_3.1 7)), .ref ((u_3.1 8)), .ref ((u_3.1 9)), .ref ((u_3.1 10))])), ((u_3.1 6), .inl (cI, 10, .inl (fun _ => 0))), ((u_3.1 7), .inl (cI, 10, .inl (fun _ => 0))), ((u_3.1 10), .inl (cI, 10, .inl (fun _ => 0))), ((u_3.1 1), .inr (10, [.int 0, .ref ((u_3.1 11)), .ref ((u_3.1 12))])), ((u_3.1 12), .inl (cC, 20, .inl (fun _ => 0))), ((u_3.1 2), .inr (7, [.ref ((u_3.1 13)), .ref ((u_3.1 14)), .ref ((u_3.1 15)), .ref ((u_3.1 16)), .ref ((u_3.1 17)), .ref ((u_3.1 18))])), ((u_3.1 13), .inl (cI, 10, .inl (fun _ => 0))), ((u_3.1 14), .inl (cI, 10, .inl (fun _ => 0))), ((u_3.1 15), .inl (cI, 10, .inl (fun _ => 0))), ((u_3.1 16), .inr (9, [.ref ((u_3.1 19)), .ref ((u_3.1 20)), .ref ((u_3.1 21)), .int 0, .ref ((u_3.1 22)), .ref ((u_3.1 23)), .ref ((u_3.1 24))])), ((u_3.1 20), .inl (cI, 10, .inl (fun _ => 0))), ((u_3.1 21), .inl (cI, 11, .inl (fun _ => 0))), ((u_3.1 3), .inr (6, [.int 0, .ref ((u_3.1 25)), .ref ((u_3.1 26))])), ((u_3.1 4), .inl (cI, 10, .inl (u_3.2.1))), ((u_3.1 5), .inl (cK, 10, .inr (.inr (.inr (.inr (u_3.2.2.2)))))), ((u_3.1 27), .inl (cI, 10, .inl (u_3.2.2.1))), (q_5, .inr (12, [.ref ((u_7.1 0)), .ref ((u_7.1 1)), .ref ((u_7.1 2)), .ref ((u_7.1 3)), .ref ((u_7.1 4)), .ref ((u_7.1 5)), .int 0, .int 0, .int 0])), ((u_7.1 0), .inl (cI, 10, .inl (fun _ => 0))), ((u_7.1 1), .inl (cI, 10, .inl (fun _ => 0))), ((u_7.1 2), .inl (cI, 10, .inl (u_7.2))), ((u_7.1 4), .inr (5, [.int 0, .ref tE, .int 0])), ((u_7.1 5), .inr (1, [.ref ((u_7.1 6)), .int 0, .int 0, .int 0])), ((u_7.1 6), .inl (cB, 16, .inl (fun _ => 0))), (q_8, .inl (c_9, 1, .inr (.inl (fun _ => 0)))), (q_10, .inl (c_11, 1, .inr (.inr (.inr (.inl (fun _ => 0))))))] := hD
  refine lv_astore (lv' := [(4, .ref q_10), (3, .ref q_8), (2, .ref q_5), (1, .ref q_1), (0, .ref b)]) hx hb dL_law_23 hl (by decide) rfl (fun ls hl => ?_)
  refine lv_iconst (v := (0)) hx hb dL_law_25 (by decide) ?_
  refine lv_istore (lv' := [(5, .int 0), (4, .ref q_10), (3, .ref q_8), (2, .ref q_5), (1, .ref q_1), (0, .ref b)]) hx hb dL_law_26 hl (by decide) rfl (fun ls hl => ?_)
  refine W.widen (k := 100) (n := 1000) (Nat.le_of_ble_eq_true rfl) (Nat.le_of_ble_eq_true rfl) ?_
  rcases Nat.lt_or_ge L 4 with q | q
  · exact yl_short hx hb hr hlocks hX hbl hA0 q hS (lv_sub hl [5, 0] rfl) (Nat.le_of_ble_eq_true rfl) (Nat.le_of_ble_eq_true rfl)
  · obtain rfl : L = 4 := by omega
    exact yl_loop (xs := xs) ⟨hx, hb, hr, hml, hown, hts, hX, hbl, hlocks, hE, hA0, hfl⟩ w_4 hK hP hD hS (lv_sub hl [0, 1, 2, 3, 4, 5] rfl)
